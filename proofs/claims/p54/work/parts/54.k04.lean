def w_c_begin : List Cond := .code yX10_begin cX10_begin 5 none :: (HAppend.hAppend (α := List Cond) (β := List Cond) (γ := List Cond) [.fieldLink RX10 18 "SeaLand$Work" "kind" "I", .fieldLink RX10 22 "SeaLand$Work" "square" "I", .fieldLink RX10 25 "SeaLand$Work" "to" "I", .fieldLink RX10 28 "SeaLand$Work" "size" "I", .fieldLink RX10 31 "SeaLand$Work" "width" "I", .fieldLink RX10 34 "SeaLand$Work" "layers" "I", .fieldLink RX10 37 "SeaLand$Work" "coal" "I", .fieldLink RX10 40 "SeaLand$Work" "on" "Z", .fieldLink RX10 44 "SeaLand$Work" "latest" "I", .fieldLink RX10 47 "SeaLand$Work" "total" "I"] bs2)
set_option maxHeartbeats 4000000 in
set_option maxRecDepth 100000 in
theorem c_begin (l : Launch) (dC : Nat → ClassId) (dI : Nat → Nat → Nat) (kA : Nat → ClassId) (adK adV : Nat → Nat) (G : gT) (H0 : Heap) (nC nS : Int) (o0 : Nat) (p0 : Int32) (p1 : Int32) (p2 : Int32) (p3 : Int32)  (hT : gH (dC, dI) kA (SHc nC nS) G H0) (hr_o0 : G o0 = some 13) (hq0 : 0 ≤ p1.toInt ∧ p1.toInt ≤ 95) (hq1 : 0 ≤ p2.toInt ∧ p2.toInt ≤ 95) (hgC : 0 ≤ nC ∧ nC ≤ 40) (hgS : 0 ≤ nS ∧ nS ≤ 60) : Met l yX10_begin w_c_begin ({ frames := 0, cells := 0, slots := 0, locals := 0 }) (va_Pc [.ref o0, .int p0, .int p1, .int p2, .int p3] (fun U => U.heap = H0 ∧ va_K (dC, dI) vwCl (tyl kA) U ∧ EVC adK adV (gA G H0.size) U U.heap)) (va_Qv (fun (u : Unit) => True) (fun (_ : Unit) (t : State) => gH (dC, dI) kA (SHc nC nS) G t.heap ∧ gF (dC, dI) SKc G ([(13, 2), (13, 3), (13, 4), (13, 5), (13, 6), (13, 7), (13, 8), (13, 9), (13, 10), (13, 11)] : List (Nat × Nat)) H0 t.heap) (gA G H0.size)) 0 0 (gA G H0.size) := by
  refine Met.ofW (cc := cX10_begin) (maxL := 5) (ret := none) (by decide) rfl ?_
  intro p e s m args below meth c s₁ B hml hv
  obtain ⟨rfl, hH0, hK, hE⟩ := hv
  have hx := B.exec
  have hb := B.bytes
  have hr := B.returns
  have hts := atoms_spec (ws := w_c_begin) B.pre
  have hown : s.vm.findClass RX10 = some m.cls := findClass_of_methodNamed B.named
  have hlocks := B.notSynchronized
  subst hH0
  generalize hAe : gA G s.heap.size = A at hE ⊢
  have hA : ∀ q : Nat, s.heap.size ≤ q → A q := fun q h => by rw [← hAe]; exact Or.inr h
  have hG := gA_of hAe
  have hS : va_S A s.heap s.heap [] := va_S.rf
  have hF : gF (dC, dI) SKc G ([(13, 2), (13, 3), (13, 4), (13, 5), (13, 6), (13, 7), (13, 8), (13, 9), (13, 10), (13, 11)] : List (Nat × Nat)) s.heap s.heap := gF.rf
  have hl := lv_entry ([.ref o0, .int p0, .int p1, .int p2, .int p3]) (n := 5) (Nat.le_of_ble_eq_true rfl)
  rw [lg_entry_eq]
  generalize (lg_sl ([.ref o0, .int p0, .int p1, .int p2, .int p3]) ++ List.replicate (5 - (lg_sl ([.ref o0, .int p0, .int p1, .int p2, .int p3])).length) Slot.unset).toArray = ls at hl ⊢
  have hl : lv_has ls 5 [(0, .ref o0), (1, .int p0), (2, .int p1), (3, .int p2), (4, .int p3)] := hl
  refine lv_aload_n hx hb dX10_begin_0 rfl (lv_at hl 0 rfl) ?_
  refine lv_iload_n hx hb dX10_begin_1 rfl (lv_at hl 1 rfl) ?_
  refine tw_put (v := .int p0) (ty := .int) hx hb hts bF2_X10 tyX10 tyX10_ok nmX10 hown hK hT hG hS hr_o0 shc_13 rfl 2 (by decide) (ht_at2 hts 0 rfl) (fun _ h9 => h9) rfl (by decide +kernel) rfl rfl (gl_at rfl (gi_all _)) dX10_begin_2 (fun H locs hT oq m1 oj hS => ?_)
  have hF := hF.put hr_o0 skc_13 oq oj (by decide)
  refine lv_aload_n hx hb dX10_begin_5 rfl (lv_at hl 0 rfl) ?_
  refine lv_iload_n hx hb dX10_begin_6 rfl (lv_at hl 2 rfl) ?_
  refine tw_put (v := .int p1) (ty := .int) hx hb hts bF2_X10 tyX10 tyX10_ok nmX10 hown hK hT hG hS hr_o0 shc_13 rfl 3 (by decide) (ht_at2 hts 1 rfl) (fun _ h9 => h9) rfl (by decide +kernel) rfl rfl (gl_at rfl (gi_of (show p1.toInt = p1.toInt from rfl) (by omega) (by omega))) dX10_begin_7 (fun H locs hT oq m2 oj hS => ?_)
  have hF := hF.put hr_o0 skc_13 oq oj (by decide)
  refine lv_aload_n hx hb dX10_begin_10 rfl (lv_at hl 0 rfl) ?_
  refine lv_iload_n hx hb dX10_begin_11 rfl (lv_at hl 3 rfl) ?_
  refine tw_put (v := .int p2) (ty := .int) hx hb hts bF2_X10 tyX10 tyX10_ok nmX10 hown hK hT hG hS hr_o0 shc_13 rfl 4 (by decide) (ht_at2 hts 2 rfl) (fun _ h9 => h9) rfl (by decide +kernel) rfl rfl (gl_at rfl (gi_of (show p2.toInt = p2.toInt from rfl) (by omega) (by omega))) dX10_begin_12 (fun H locs hT oq m4 oj hS => ?_)
  have hF := hF.put hr_o0 skc_13 oq oj (by decide)
  refine lv_aload_n hx hb dX10_begin_15 rfl (lv_at hl 0 rfl) ?_
  refine lv_iload hx hb dX10_begin_16 (lv_at hl 4 rfl) ?_
  refine tw_put (v := .int p3) (ty := .int) hx hb hts bF2_X10 tyX10 tyX10_ok nmX10 hown hK hT hG hS hr_o0 shc_13 rfl 5 (by decide) (ht_at2 hts 3 rfl) (fun _ h9 => h9) rfl (by decide +kernel) rfl rfl (gl_at rfl (gi_all _)) dX10_begin_18 (fun H locs hT oq m7 oj hS => ?_)
  have hF := hF.put hr_o0 skc_13 oq oj (by decide)
  refine lv_aload_n hx hb dX10_begin_21 rfl (lv_at hl 0 rfl) ?_
  refine lv_iconst (v := 0) hx hb dX10_begin_22 (by decide) ?_
  refine tw_put (v := .int 0) (ty := .int) hx hb hts bF2_X10 tyX10 tyX10_ok nmX10 hown hK hT hG hS hr_o0 shc_13 rfl 6 (by decide) (ht_at2 hts 4 rfl) (fun _ h9 => h9) rfl (by decide +kernel) rfl rfl (gl_at rfl (gi_all _)) dX10_begin_23 (fun H locs hT oq m11 oj hS => ?_)
  have hF := hF.put hr_o0 skc_13 oq oj (by decide)
  refine lv_aload_n hx hb dX10_begin_26 rfl (lv_at hl 0 rfl) ?_
  refine lv_iconst (v := 0) hx hb dX10_begin_27 (by decide) ?_
  refine tw_put (v := .int 0) (ty := .int) hx hb hts bF2_X10 tyX10 tyX10_ok nmX10 hown hK hT hG hS hr_o0 shc_13 rfl 7 (by decide) (ht_at2 hts 5 rfl) (fun _ h9 => h9) rfl (by decide +kernel) rfl rfl (gl_at rfl (gi_of (show (0 : Int32).toInt = 0 from (by decide)) (by first | decide | omega) (by first | decide | omega))) dX10_begin_28 (fun H locs hT oq m16 oj hS => ?_)
  have hF := hF.put hr_o0 skc_13 oq oj (by decide)
  refine lv_aload_n hx hb dX10_begin_31 rfl (lv_at hl 0 rfl) ?_
  refine lv_iconst (v := 0) hx hb dX10_begin_32 (by decide) ?_
  refine tw_put (v := .int 0) (ty := .int) hx hb hts bF2_X10 tyX10 tyX10_ok nmX10 hown hK hT hG hS hr_o0 shc_13 rfl 8 (by decide) (ht_at2 hts 6 rfl) (fun _ h9 => h9) rfl (by decide +kernel) rfl rfl (gl_at rfl (gi_all _)) dX10_begin_33 (fun H locs hT oq m22 oj hS => ?_)
  have hF := hF.put hr_o0 skc_13 oq oj (by decide)
  refine lv_aload_n hx hb dX10_begin_36 rfl (lv_at hl 0 rfl) ?_
  refine lv_iconst (v := 0) hx hb dX10_begin_37 (by decide) ?_
  refine tw_put (v := .int 0) (ty := .boolean) hx hb hts bF2_X10 tyX10 tyX10_ok nmX10 hown hK hT hG hS hr_o0 shc_13 rfl 9 (by decide) (ht_at2 hts 7 rfl) (fun _ h9 => h9) rfl (by decide +kernel) rfl rfl (gl_at rfl (gi_of (show (0 : Int32).toInt = 0 from (by decide)) (by first | decide | omega) (by first | decide | omega))) dX10_begin_38 (fun H locs hT oq m29 oj hS => ?_)
  have hF := hF.put hr_o0 skc_13 oq oj (by decide)
  refine lv_aload_n hx hb dX10_begin_41 rfl (lv_at hl 0 rfl) ?_
  refine lv_iconst (v := 0) hx hb dX10_begin_42 (by decide) ?_
  refine tw_put (v := .int 0) (ty := .int) hx hb hts bF2_X10 tyX10 tyX10_ok nmX10 hown hK hT hG hS hr_o0 shc_13 rfl 10 (by decide) (ht_at2 hts 8 rfl) (fun _ h9 => h9) rfl (by decide +kernel) rfl rfl (gl_at rfl (gi_all _)) dX10_begin_43 (fun H locs hT oq m37 oj hS => ?_)
  have hF := hF.put hr_o0 skc_13 oq oj (by decide)
  refine lv_aload_n hx hb dX10_begin_46 rfl (lv_at hl 0 rfl) ?_
  refine lv_iconst (v := 0) hx hb dX10_begin_47 (by decide) ?_
  refine tw_put (v := .int 0) (ty := .int) hx hb hts bF2_X10 tyX10 tyX10_ok nmX10 hown hK hT hG hS hr_o0 shc_13 rfl 11 (by decide) (ht_at2 hts 9 rfl) (fun _ h9 => h9) rfl (by decide +kernel) rfl rfl (gl_at rfl (gi_all _)) dX10_begin_48 (fun H locs hT oq m46 oj hS => ?_)
  have hF := hF.put hr_o0 skc_13 oq oj (by decide)
  exact W.vret hx hb hr (fun t ht hW => ⟨⟨(), rfl, (by exact trivial), by (try dsimp only); rw [ht]; exact ⟨hT, hF⟩⟩, hS.F ht⟩) hS.2.2 dX10_begin_51
def w_c_isBank : List Cond := .code yX10_isBank cX10_isBank 1 (some .boolean) :: (HAppend.hAppend (α := List Cond) (β := List Cond) (γ := List Cond) [.fieldLink RX10 18 "SeaLand$Work" "kind" "I"] bs2)
set_option maxHeartbeats 4000000 in
set_option maxRecDepth 100000 in
theorem c_isBank (l : Launch) (dC : Nat → ClassId) (dI : Nat → Nat → Nat) (kA : Nat → ClassId) (adK adV : Nat → Nat) (G : gT) (H0 : Heap) (nC nS : Int) (o0 : Nat)  (hT : gH (dC, dI) kA (SHc nC nS) G H0) (hr_o0 : G o0 = some 13) (hgC : 0 ≤ nC ∧ nC ≤ 40) (hgS : 0 ≤ nS ∧ nS ≤ 60) : Met l yX10_isBank w_c_isBank ({ frames := 0, cells := 0, slots := 0, locals := 0 }) (va_Pc [.ref o0] (fun U => U.heap = H0 ∧ va_K (dC, dI) vwCl (tyl kA) U ∧ EVC adK adV (gA G H0.size) U U.heap)) (va_Qi (fun (r : Int32) (u : Unit) => (0 ≤ r.toInt ∧ r.toInt ≤ 1)) (fun (_ : Unit) (t : State) => gH (dC, dI) kA (SHc nC nS) G t.heap ∧ gF (dC, dI) SKc G ([] : List (Nat × Nat)) H0 t.heap) (gA G H0.size)) 0 0 (gA G H0.size) := by
  refine Met.ofW (cc := cX10_isBank) (maxL := 1) (ret := (some .boolean)) (by decide) rfl ?_
  intro p e s m args below meth c s₁ B hml hv
  obtain ⟨rfl, hH0, hK, hE⟩ := hv
  have hx := B.exec
  have hb := B.bytes
  have hr := B.returns
  have hts := atoms_spec (ws := w_c_isBank) B.pre
  have hown : s.vm.findClass RX10 = some m.cls := findClass_of_methodNamed B.named
  have hlocks := B.notSynchronized
  subst hH0
  generalize hAe : gA G s.heap.size = A at hE ⊢
  have hA : ∀ q : Nat, s.heap.size ≤ q → A q := fun q h => by rw [← hAe]; exact Or.inr h
  have hG := gA_of hAe
  have hS : va_S A s.heap s.heap [] := va_S.rf
  have hF : gF (dC, dI) SKc G ([] : List (Nat × Nat)) s.heap s.heap := gF.rf
  have hl := lv_entry ([.ref o0]) (n := 1) (Nat.le_of_ble_eq_true rfl)
  rw [lg_entry_eq]
  generalize (lg_sl ([.ref o0]) ++ List.replicate (1 - (lg_sl ([.ref o0])).length) Slot.unset).toArray = ls at hl ⊢
  have hl : lv_has ls 1 [(0, .ref o0)] := hl
  refine lv_aload_n hx hb dX10_isBank_0 rfl (lv_at hl 0 rfl) ?_
  refine tw_get hx hb hts bF2_X10 hown hK hT hr_o0 shc_13 rfl 2 (by decide) (ht_at2 hts 0 rfl) (fun _ h9 => h9) dX10_isBank_1 (fun v9 m1 h9 => ?_)
  obtain ⟨x2, rfl, gx2, kx2⟩ := h9 _ rfl
  have t3 : -2147483648 ≤ x2.toInt ∧ x2.toInt ≤ 2147483647 := ti_all x2
  refine lv_if_eq (tgt := 15) hx hb dX10_isBank_4 (by decide) (fun c4 => ?_) (fun c4 => ?_)
  · have t5 : x2.toInt = 0 := ti_eq c4 rfl (by decide)
    refine lv_iconst (v := 1) hx hb dX10_isBank_15 (by decide) ?_
    refine lv_goto (tgt := 20) hx hb dX10_isBank_16 (by decide) ?_
    exact W.zret (v := 1) hx hb hr (by decide) (fun t ht hW => ⟨⟨1, (), rfl, (by exact (rg_t (a := 1) (by decide) (by first | decide | omega) (by first | decide | omega))), by (try dsimp only); rw [ht]; exact ⟨hT, hF⟩⟩, hS.F ht⟩) hS.2.2 dX10_isBank_20
  · have t6 : x2.toInt ≠ 0 := ti_ne c4 rfl (by decide)
    refine lv_aload_n hx hb dX10_isBank_7 rfl (lv_at hl 0 rfl) ?_
    refine tw_getM (v := .int x2) hx hb hts bF2_X10 hown hK hT hr_o0 shc_13 rfl 2 (by decide) (ht_at2 hts 0 rfl) (fun _ h9 => h9) m1 dX10_isBank_8 ?_
    refine lv_iconst (v := 1) hx hb dX10_isBank_11 (by decide) ?_
    refine lv_icmp_ne (tgt := 19) hx hb dX10_isBank_12 (by decide) (fun c7 => ?_) (fun c7 => ?_)
    · have t8 : x2.toInt ≠ 1 := ti_ne c7 rfl (by decide)
      refine lv_iconst (v := 0) hx hb dX10_isBank_19 (by decide) ?_
      exact W.zret (v := 0) hx hb hr (by decide) (fun t ht hW => ⟨⟨0, (), rfl, (by exact (rg_t (a := 0) (by decide) (by first | decide | omega) (by first | decide | omega))), by (try dsimp only); rw [ht]; exact ⟨hT, hF⟩⟩, hS.F ht⟩) hS.2.2 dX10_isBank_20
    · have t9 : x2.toInt = 1 := ti_eq c7 rfl (by decide)
      refine lv_iconst (v := 1) hx hb dX10_isBank_15 (by decide) ?_
      refine lv_goto (tgt := 20) hx hb dX10_isBank_16 (by decide) ?_
      exact W.zret (v := 1) hx hb hr (by decide) (fun t ht hW => ⟨⟨1, (), rfl, (by exact (rg_t (a := 1) (by decide) (by first | decide | omega) (by first | decide | omega))), by (try dsimp only); rw [ht]; exact ⟨hT, hF⟩⟩, hS.F ht⟩) hS.2.2 dX10_isBank_20
def w_c_takesLayer : List Cond := .code yX10_takesLayer cX10_takesLayer 1 (some .boolean) :: (HAppend.hAppend (α := List Cond) (β := List Cond) (γ := List Cond) [.fieldLink RX10 18 "SeaLand$Work" "kind" "I", .fieldLink RX10 34 "SeaLand$Work" "layers" "I"] bs2)
set_option maxHeartbeats 4000000 in
set_option maxRecDepth 100000 in
theorem c_takesLayer (l : Launch) (dC : Nat → ClassId) (dI : Nat → Nat → Nat) (kA : Nat → ClassId) (adK adV : Nat → Nat) (G : gT) (H0 : Heap) (nC nS : Int) (o0 : Nat) (ly : Int32)  (hT : gH (dC, dI) kA (SHc nC nS) G H0) (hr_o0 : G o0 = some 13) (hm_ly : el H0 o0 (dI 13 7) = some (.int ly)) (hq0 : 0 ≤ ly.toInt ∧ ly.toInt ≤ 6) (hgC : 0 ≤ nC ∧ nC ≤ 40) (hgS : 0 ≤ nS ∧ nS ≤ 60) : Met l yX10_takesLayer w_c_takesLayer ({ frames := 0, cells := 0, slots := 0, locals := 0 }) (va_Pc [.ref o0] (fun U => U.heap = H0 ∧ va_K (dC, dI) vwCl (tyl kA) U ∧ EVC adK adV (gA G H0.size) U U.heap)) (va_Qi (fun (r : Int32) (u : Unit) => (0 ≤ r.toInt ∧ r.toInt ≤ 1) ∧ (r = 1 → 0 ≤ ly.toInt ∧ ly.toInt ≤ 5)) (fun (_ : Unit) (t : State) => gH (dC, dI) kA (SHc nC nS) G t.heap ∧ gF (dC, dI) SKc G ([] : List (Nat × Nat)) H0 t.heap) (gA G H0.size)) 0 0 (gA G H0.size) := by
  refine Met.ofW (cc := cX10_takesLayer) (maxL := 1) (ret := (some .boolean)) (by decide) rfl ?_
  intro p e s m args below meth c s₁ B hml hv
  obtain ⟨rfl, hH0, hK, hE⟩ := hv
  have hx := B.exec
  have hb := B.bytes
  have hr := B.returns
  have hts := atoms_spec (ws := w_c_takesLayer) B.pre
  have hown : s.vm.findClass RX10 = some m.cls := findClass_of_methodNamed B.named
  have hlocks := B.notSynchronized
  subst hH0
  generalize hAe : gA G s.heap.size = A at hE ⊢
  have hA : ∀ q : Nat, s.heap.size ≤ q → A q := fun q h => by rw [← hAe]; exact Or.inr h
  have hG := gA_of hAe
  have hS : va_S A s.heap s.heap [] := va_S.rf
  have hF : gF (dC, dI) SKc G ([] : List (Nat × Nat)) s.heap s.heap := gF.rf
  have hl := lv_entry ([.ref o0]) (n := 1) (Nat.le_of_ble_eq_true rfl)
  rw [lg_entry_eq]
  generalize (lg_sl ([.ref o0]) ++ List.replicate (1 - (lg_sl ([.ref o0])).length) Slot.unset).toArray = ls at hl ⊢
  have hl : lv_has ls 1 [(0, .ref o0)] := hl
  refine lv_aload_n hx hb dX10_takesLayer_0 rfl (lv_at hl 0 rfl) ?_
  refine tw_get hx hb hts bF2_X10 hown hK hT hr_o0 shc_13 rfl 2 (by decide) (ht_at2 hts 0 rfl) (fun _ h9 => h9) dX10_takesLayer_1 (fun v9 m1 h9 => ?_)
  obtain ⟨x2, rfl, gx2, kx2⟩ := h9 _ rfl
  have t3 : -2147483648 ≤ x2.toInt ∧ x2.toInt ≤ 2147483647 := ti_all x2
  refine lv_if_ne (tgt := 20) hx hb dX10_takesLayer_4 (by decide) (fun c4 => ?_) (fun c4 => ?_)
  · have t5 : x2.toInt ≠ 0 := ti_ne c4 rfl (by decide)
    refine lv_iconst (v := 0) hx hb dX10_takesLayer_20 (by decide) ?_
    exact W.zret (v := 0) hx hb hr (by decide) (fun t ht hW => ⟨⟨0, (), rfl, (by exact ⟨(rg_t (a := 0) (by decide) (by first | decide | omega) (by first | decide | omega)), (fun h => absurd h (by decide))⟩), by (try dsimp only); rw [ht]; exact ⟨hT, hF⟩⟩, hS.F ht⟩) hS.2.2 dX10_takesLayer_21
  · have t6 : x2.toInt = 0 := ti_eq c4 rfl (by decide)
    refine lv_aload_n hx hb dX10_takesLayer_7 rfl (lv_at hl 0 rfl) ?_
    refine tw_getM (v := .int ly) hx hb hts bF2_X10 hown hK hT hr_o0 shc_13 rfl 7 (by decide) (ht_at2 hts 1 rfl) (fun _ h9 => h9) hm_ly dX10_takesLayer_8 ?_
    refine lv_bipush (v := 6) hx hb dX10_takesLayer_11 (by decide) ?_
    refine lv_icmp_ge (tgt := 20) hx hb dX10_takesLayer_13 (by decide) (fun c7 => ?_) (fun c7 => ?_)
    · have t8 : 6 ≤ ly.toInt := ti_le c7 (by decide) rfl
      refine lv_iconst (v := 0) hx hb dX10_takesLayer_20 (by decide) ?_
      exact W.zret (v := 0) hx hb hr (by decide) (fun t ht hW => ⟨⟨0, (), rfl, (by exact ⟨(rg_t (a := 0) (by decide) (by first | decide | omega) (by first | decide | omega)), (fun h => absurd h (by decide))⟩), by (try dsimp only); rw [ht]; exact ⟨hT, hF⟩⟩, hS.F ht⟩) hS.2.2 dX10_takesLayer_21
    · have t9 : ly.toInt < 6 := ti_nle c7 (by decide) rfl
      refine lv_iconst (v := 1) hx hb dX10_takesLayer_16 (by decide) ?_
      refine lv_goto (tgt := 21) hx hb dX10_takesLayer_17 (by decide) ?_
      exact W.zret (v := 1) hx hb hr (by decide) (fun t ht hW => ⟨⟨1, (), rfl, (by exact ⟨(rg_t (a := 1) (by decide) (by first | decide | omega) (by first | decide | omega)), (fun _ => by omega)⟩), by (try dsimp only); rw [ht]; exact ⟨hT, hF⟩⟩, hS.F ht⟩) hS.2.2 dX10_takesLayer_21
def w_c_addLayer : List Cond := .code yX10_addLayer cX10_addLayer 3 none :: (HAppend.hAppend (α := List Cond) (β := List Cond) (γ := List Cond) [.fieldLink RX10 9 "SeaLand$Work" "thick" "[I", .fieldLink RX10 34 "SeaLand$Work" "layers" "I", .fieldLink RX10 15 "SeaLand$Work" "clay" "[I"] bs2)
set_option maxHeartbeats 4000000 in
set_option maxRecDepth 100000 in
theorem c_addLayer (l : Launch) (dC : Nat → ClassId) (dI : Nat → Nat → Nat) (kA : Nat → ClassId) (adK adV : Nat → Nat) (G : gT) (H0 : Heap) (nC nS : Int) (o0 : Nat) (p0 : Int32) (p1 : Int32) (ly : Int32)  (hT : gH (dC, dI) kA (SHc nC nS) G H0) (hr_o0 : G o0 = some 13) (hm_ly : el H0 o0 (dI 13 7) = some (.int ly)) (hq0 : 0 ≤ ly.toInt ∧ ly.toInt ≤ 5) (hgC : 0 ≤ nC ∧ nC ≤ 40) (hgS : 0 ≤ nS ∧ nS ≤ 60) : Met l yX10_addLayer w_c_addLayer ({ frames := 0, cells := 0, slots := 0, locals := 0 }) (va_Pc [.ref o0, .int p0, .int p1] (fun U => U.heap = H0 ∧ va_K (dC, dI) vwCl (tyl kA) U ∧ EVC adK adV (gA G H0.size) U U.heap)) (va_Qv (fun (u : Unit) => True) (fun (_ : Unit) (t : State) => gH (dC, dI) kA (SHc nC nS) G t.heap ∧ gF (dC, dI) SKc G ([(13, 7), (36, 0), (37, 0)] : List (Nat × Nat)) H0 t.heap) (gA G H0.size)) 0 0 (gA G H0.size) := by
  refine Met.ofW (cc := cX10_addLayer) (maxL := 3) (ret := none) (by decide) rfl ?_
  intro p e s m args below meth c s₁ B hml hv
  obtain ⟨rfl, hH0, hK, hE⟩ := hv
  have hx := B.exec
  have hb := B.bytes
  have hr := B.returns
  have hts := atoms_spec (ws := w_c_addLayer) B.pre
  have hown : s.vm.findClass RX10 = some m.cls := findClass_of_methodNamed B.named
  have hlocks := B.notSynchronized
  subst hH0
  generalize hAe : gA G s.heap.size = A at hE ⊢
  have hA : ∀ q : Nat, s.heap.size ≤ q → A q := fun q h => by rw [← hAe]; exact Or.inr h
  have hG := gA_of hAe
  have hS : va_S A s.heap s.heap [] := va_S.rf
  have hF : gF (dC, dI) SKc G ([(13, 7), (36, 0), (37, 0)] : List (Nat × Nat)) s.heap s.heap := gF.rf
  have hl := lv_entry ([.ref o0, .int p0, .int p1]) (n := 3) (Nat.le_of_ble_eq_true rfl)
  rw [lg_entry_eq]
  generalize (lg_sl ([.ref o0, .int p0, .int p1]) ++ List.replicate (3 - (lg_sl ([.ref o0, .int p0, .int p1])).length) Slot.unset).toArray = ls at hl ⊢
  have hl : lv_has ls 3 [(0, .ref o0), (1, .int p0), (2, .int p1)] := hl
  refine lv_aload_n hx hb dX10_addLayer_0 rfl (lv_at hl 0 rfl) ?_
  refine tw_get hx hb hts bF2_X10 hown hK hT hr_o0 shc_13 rfl 0 (by decide) (ht_at2 hts 0 rfl) (fun _ h9 => h9) dX10_addLayer_1 (fun v9 m1 h9 => ?_)
  obtain ⟨b2, rfl, hg3⟩ := h9 _ rfl
  refine lv_aload_n hx hb dX10_addLayer_4 rfl (lv_at hl 0 rfl) ?_
  refine tw_getM (v := .int ly) hx hb hts bF2_X10 hown hK hT hr_o0 shc_13 rfl 7 (by decide) (ht_at2 hts 1 rfl) (fun _ h9 => h9) hm_ly dX10_addLayer_5 ?_
  refine lv_iload_n hx hb dX10_addLayer_8 rfl (lv_at hl 1 rfl) ?_
  refine tw_iast (i := ly) (x := p0) hx hb hK hT hG hS hg3 shc_36 rfl (vin_t (a := ly.toInt) rfl (by omega) (by omega)) (gi_all _) dX10_addLayer_9 (fun H locs hT oq m4 oi hS => ?_)
  have hF := hF.ast hg3 skc_36 oq (by decide)
  have m5 := (el_kept (oq _ (gne hr_o0 hg3 (by decide)))).trans hm_ly
  refine lv_aload_n hx hb dX10_addLayer_10 rfl (lv_at hl 0 rfl) ?_
  refine tw_get hx hb hts bF2_X10 hown hK hT hr_o0 shc_13 rfl 1 (by decide) (ht_at2 hts 2 rfl) (fun _ h9 => h9) dX10_addLayer_11 (fun v9 m7 h9 => ?_)
  obtain ⟨b8, rfl, hg9⟩ := h9 _ rfl
  refine lv_aload_n hx hb dX10_addLayer_14 rfl (lv_at hl 0 rfl) ?_
  refine tw_getM (v := .int ly) hx hb hts bF2_X10 hown hK hT hr_o0 shc_13 rfl 7 (by decide) (ht_at2 hts 1 rfl) (fun _ h9 => h9) m5 dX10_addLayer_15 ?_
  refine lv_iload_n hx hb dX10_addLayer_18 rfl (lv_at hl 2 rfl) ?_
  refine tw_iast (i := ly) (x := p1) hx hb hK hT hG hS hg9 shc_37 rfl (vin_t (a := ly.toInt) rfl (by omega) (by omega)) (gi_all _) dX10_addLayer_19 (fun H locs hT oq m10 oi hS => ?_)
  have hF := hF.ast hg9 skc_37 oq (by decide)
  have m11 := (el_kept (oq _ (gne hr_o0 hg9 (by decide)))).trans m5
  refine lv_aload_n hx hb dX10_addLayer_20 rfl (lv_at hl 0 rfl) ?_
  refine lv_dup hx hb dX10_addLayer_21 rfl ?_
  refine tw_getM (v := .int ly) hx hb hts bF2_X10 hown hK hT hr_o0 shc_13 rfl 7 (by decide) (ht_at2 hts 1 rfl) (fun _ h9 => h9) m11 dX10_addLayer_22 ?_
  refine lv_iconst (v := 1) hx hb dX10_addLayer_25 (by decide) ?_
  refine lv_iadd hx hb dX10_addLayer_26 ?_
  refine lv_topi (fun x15 ex15 => ?_)
  have t16 : x15.toInt = ly.toInt + 1 := ti_add ex15 rfl (by decide) (by omega) (by omega)
  refine tw_put (v := .int x15) (ty := .int) hx hb hts bF2_X10 tyX10 tyX10_ok nmX10 hown hK hT hG hS hr_o0 shc_13 rfl 7 (by decide) (ht_at2 hts 1 rfl) (fun _ h9 => h9) rfl (by decide +kernel) rfl rfl (gl_at rfl (gi_of (show x15.toInt = x15.toInt from rfl) (by omega) (by omega))) dX10_addLayer_27 (fun H locs hT oq m17 oj hS => ?_)
  have hF := hF.put hr_o0 skc_13 oq oj (by decide)
  exact W.vret hx hb hr (fun t ht hW => ⟨⟨(), rfl, (by exact trivial), by (try dsimp only); rw [ht]; exact ⟨hT, hF⟩⟩, hS.F ht⟩) hS.2.2 dX10_addLayer_30
def w_c_thickness : List Cond := .code yX10_thickness cX10_thickness 3 (some .int) :: (HAppend.hAppend (α := List Cond) (β := List Cond) (γ := List Cond) [.fieldLink RX10 34 "SeaLand$Work" "layers" "I", .fieldLink RX10 9 "SeaLand$Work" "thick" "[I"] bs2)
set_option maxHeartbeats 4000000 in
set_option maxRecDepth 100000 in
theorem c_thickness (l : Launch) (dC : Nat → ClassId) (dI : Nat → Nat → Nat) (kA : Nat → ClassId) (adK adV : Nat → Nat) (G : gT) (H0 : Heap) (nC nS : Int) (o0 : Nat)  (hT : gH (dC, dI) kA (SHc nC nS) G H0) (hr_o0 : G o0 = some 13) (hgC : 0 ≤ nC ∧ nC ≤ 40) (hgS : 0 ≤ nS ∧ nS ≤ 60) : Met l yX10_thickness w_c_thickness ({ frames := 0, cells := 0, slots := 0, locals := 0 }) (va_Pc [.ref o0] (fun U => U.heap = H0 ∧ va_K (dC, dI) vwCl (tyl kA) U ∧ EVC adK adV (gA G H0.size) U U.heap)) (va_Qi (fun (r : Int32) (u : Unit) => True) (fun (_ : Unit) (t : State) => gH (dC, dI) kA (SHc nC nS) G t.heap ∧ gF (dC, dI) SKc G ([] : List (Nat × Nat)) H0 t.heap) (gA G H0.size)) 0 0 (gA G H0.size) := by
  refine Met.ofW (cc := cX10_thickness) (maxL := 3) (ret := (some .int)) (by decide) rfl ?_
  intro p e s m args below meth c s₁ B hml hv
  obtain ⟨rfl, hH0, hK, hE⟩ := hv
  have hx := B.exec
  have hb := B.bytes
  have hr := B.returns
  have hts := atoms_spec (ws := w_c_thickness) B.pre
  have hown : s.vm.findClass RX10 = some m.cls := findClass_of_methodNamed B.named
  have hlocks := B.notSynchronized
  subst hH0
  generalize hAe : gA G s.heap.size = A at hE ⊢
  have hA : ∀ q : Nat, s.heap.size ≤ q → A q := fun q h => by rw [← hAe]; exact Or.inr h
  have hG := gA_of hAe
  have hS : va_S A s.heap s.heap [] := va_S.rf
  have hF : gF (dC, dI) SKc G ([] : List (Nat × Nat)) s.heap s.heap := gF.rf
  have hl := lv_entry ([.ref o0]) (n := 3) (Nat.le_of_ble_eq_true rfl)
  rw [lg_entry_eq]
  generalize (lg_sl ([.ref o0]) ++ List.replicate (3 - (lg_sl ([.ref o0])).length) Slot.unset).toArray = ls at hl ⊢
  have hl : lv_has ls 3 [(0, .ref o0)] := hl
  refine lv_iconst (v := 0) hx hb dX10_thickness_0 (by decide) ?_
  refine lv_istore_n (lv' := [(1, .int 0), (0, .ref o0)]) hx hb dX10_thickness_1 rfl hl (by decide) rfl (fun ls hl => ?_)
  refine lv_iconst (v := 0) hx hb dX10_thickness_2 (by decide) ?_
  refine lv_istore_n (lv' := [(2, .int 0), (1, .int 0), (0, .ref o0)]) hx hb dX10_thickness_3 rfl hl (by decide) rfl (fun ls hl => ?_)
  have key14 : ∀ (n14 i1 : Nat), i1 + n14 = 6 → 0 ≤ i1 → ∀ (z2 : Int32), ∀ (H : Heap) (locs : List Loc), gH (dC, dI) kA (SHc nC nS) G H → gF (dC, dI) SKc G ([] : List (Nat × Nat)) s.heap H → va_S A s.heap H locs → ∀ ls : Array Slot, lv_has ls 3 [(2, .int (nI i1)), (1, .int z2), (0, .ref o0)] → W p l e (headSpec w_c_thickness ({ frames := 0, cells := 0, slots := 0, locals := 0 })).room s m #[.ref o0] below meth c H locs 0 0 (MQ below (va_Qi (fun (r : Int32) (u : Unit) => True) (fun (_ : Unit) (t : State) => gH (dC, dI) kA (SHc nC nS) G t.heap ∧ gF (dC, dI) SKc G ([] : List (Nat × Nat)) s.heap t.heap) A) #[.ref o0] s 0 0 A) (F0 m 4 ls []) := by
    intro n14
    induction n14 with
    | zero =>
      intro i1 hn14 hlo15 z2 H locs hT hF hS  ls hl
      obtain rfl : 6 = i1 := by omega
      refine lv_iload_n hx hb dX10_thickness_4 rfl (lv_at hl 0 rfl) ?_
      refine lv_aload_n hx hb dX10_thickness_5 rfl (lv_at hl 2 rfl) ?_
      refine tw_get hx hb hts bF2_X10 hown hK hT hr_o0 shc_13 rfl 7 (by decide) (ht_at2 hts 0 rfl) (fun _ h9 => h9) dX10_thickness_6 (fun v9 m16 h9 => ?_)
      obtain ⟨x17, rfl, gx17, kx17⟩ := h9 _ rfl
      refine lv_icmp_ge (tgt := 27) hx hb dX10_thickness_9 (by decide) (fun c18 => ?_) (fun c18 => (by exfalso; have q9 : ((6 : Nat) : Int) < x17.toInt := ti_nle c18 rfl (nI_toInt (by omega)); omega))
      have t19 : x17.toInt ≤ ((6 : Nat) : Int) := ti_le c18 rfl (nI_toInt (by omega))
      refine lv_iload_n hx hb dX10_thickness_27 rfl (lv_at hl 1 rfl) ?_
      exact W.iret (v := z2) hx hb hr (fun t ht hW => ⟨⟨z2, (), rfl, (by exact trivial), by (try dsimp only); rw [ht]; exact ⟨hT, hF⟩⟩, hS.F ht⟩) hS.2.2 dX10_thickness_28
    | succ n14 ih14 =>
      intro i1 hn14 hlo15 z2 H locs hT hF hS  ls hl
      have hlt19 : i1 < 6 := by omega
      refine lv_iload_n hx hb dX10_thickness_4 rfl (lv_at hl 0 rfl) ?_
      refine lv_aload_n hx hb dX10_thickness_5 rfl (lv_at hl 2 rfl) ?_
      refine tw_get hx hb hts bF2_X10 hown hK hT hr_o0 shc_13 rfl 7 (by decide) (ht_at2 hts 0 rfl) (fun _ h9 => h9) dX10_thickness_6 (fun v9 m20 h9 => ?_)
      obtain ⟨x21, rfl, gx21, kx21⟩ := h9 _ rfl
      refine lv_icmp_ge (tgt := 27) hx hb dX10_thickness_9 (by decide) (fun c22 => ?_) (fun c22 => ?_)
      · have t23 : x21.toInt ≤ ((i1 : Nat) : Int) := ti_le c22 rfl (nI_toInt (by omega))
        refine lv_iload_n hx hb dX10_thickness_27 rfl (lv_at hl 1 rfl) ?_
        exact W.iret (v := z2) hx hb hr (fun t ht hW => ⟨⟨z2, (), rfl, (by exact trivial), by (try dsimp only); rw [ht]; exact ⟨hT, hF⟩⟩, hS.F ht⟩) hS.2.2 dX10_thickness_28
      · have t24 : ((i1 : Nat) : Int) < x21.toInt := ti_nle c22 rfl (nI_toInt (by omega))
        refine lv_iload_n hx hb dX10_thickness_12 rfl (lv_at hl 1 rfl) ?_
        refine lv_aload_n hx hb dX10_thickness_13 rfl (lv_at hl 2 rfl) ?_
        refine tw_get hx hb hts bF2_X10 hown hK hT hr_o0 shc_13 rfl 0 (by decide) (ht_at2 hts 1 rfl) (fun _ h9 => h9) dX10_thickness_14 (fun v9 m25 h9 => ?_)
        obtain ⟨b26, rfl, hg27⟩ := h9 _ rfl
        refine lv_iload_n hx hb dX10_thickness_17 rfl (lv_at hl 0 rfl) ?_
        refine tw_iald (i := (nI i1)) hx hb hK hT hg27 shc_36 rfl (vp_in_nI (by omega) (by decide)) dX10_thickness_18 (fun v9 m28 h9 => ?_)
        obtain ⟨x29, rfl, gx29, kx29⟩ := h9
        refine lv_iadd hx hb dX10_thickness_19 ?_
        refine lv_topi (fun x30 ex30 => ?_)
        refine lv_istore_n (lv' := [(1, .int x30), (2, .int (nI i1)), (0, .ref o0)]) hx hb dX10_thickness_20 rfl hl (by decide) rfl (fun ls hl => ?_)
        refine lv_iinc (v := nI (i1 + 1)) (lv' := [(2, .int (nI (i1 + 1))), (1, .int x30), (0, .ref o0)]) hx hb dX10_thickness_21 hl (k := 1) rfl (nI_add i1 1) (by decide) rfl (fun ls hl => ?_)
        refine lv_goto (tgt := 4) hx hb dX10_thickness_24 (by decide) ?_
        exact ih14 (i1 + 1) (by omega) (by omega) x30 _ _ hT hF hS ls (lv_sub hl [0, 1, 2] rfl)
  exact key14 (6 - 0) 0 (by omega) (Nat.le_refl _) 0 _ _ hT hF hS ls (lv_sub hl [0, 1, 2] rfl)
def w_c_leakBelow : List Cond := .code yX10_leakBelow cX10_leakBelow 6 (some .int) :: (HAppend.hAppend (α := List Cond) (β := List Cond) (γ := List Cond) [.fieldLink RX10 34 "SeaLand$Work" "layers" "I", .fieldLink RX10 9 "SeaLand$Work" "thick" "[I", .fieldLink RX10 15 "SeaLand$Work" "clay" "[I"] bs2)
set_option maxHeartbeats 4000000 in
set_option maxRecDepth 100000 in
theorem c_leakBelow (l : Launch) (dC : Nat → ClassId) (dI : Nat → Nat → Nat) (kA : Nat → ClassId) (adK adV : Nat → Nat) (G : gT) (H0 : Heap) (nC nS : Int) (o0 : Nat) (p0 : Int32) (p1 : Int32)  (hT : gH (dC, dI) kA (SHc nC nS) G H0) (hr_o0 : G o0 = some 13) (hgC : 0 ≤ nC ∧ nC ≤ 40) (hgS : 0 ≤ nS ∧ nS ≤ 60) : Met l yX10_leakBelow w_c_leakBelow ({ frames := 0, cells := 0, slots := 0, locals := 0 }) (va_Pc [.ref o0, .int p0, .int p1] (fun U => U.heap = H0 ∧ va_K (dC, dI) vwCl (tyl kA) U ∧ EVC adK adV (gA G H0.size) U U.heap)) (va_Qi (fun (r : Int32) (u : Unit) => True) (fun (_ : Unit) (t : State) => gH (dC, dI) kA (SHc nC nS) G t.heap ∧ gF (dC, dI) SKc G ([] : List (Nat × Nat)) H0 t.heap) (gA G H0.size)) 0 0 (gA G H0.size) := by
  refine Met.ofW (cc := cX10_leakBelow) (maxL := 6) (ret := (some .int)) (by decide) rfl ?_
  intro p e s m args below meth c s₁ B hml hv
  obtain ⟨rfl, hH0, hK, hE⟩ := hv
  have hx := B.exec
  have hb := B.bytes
  have hr := B.returns
  have hts := atoms_spec (ws := w_c_leakBelow) B.pre
  have hown : s.vm.findClass RX10 = some m.cls := findClass_of_methodNamed B.named
  have hlocks := B.notSynchronized
  subst hH0
  generalize hAe : gA G s.heap.size = A at hE ⊢
  have hA : ∀ q : Nat, s.heap.size ≤ q → A q := fun q h => by rw [← hAe]; exact Or.inr h
  have hG := gA_of hAe
  have hS : va_S A s.heap s.heap [] := va_S.rf
  have hF : gF (dC, dI) SKc G ([] : List (Nat × Nat)) s.heap s.heap := gF.rf
  have hl := lv_entry ([.ref o0, .int p0, .int p1]) (n := 6) (Nat.le_of_ble_eq_true rfl)
  rw [lg_entry_eq]
  generalize (lg_sl ([.ref o0, .int p0, .int p1]) ++ List.replicate (6 - (lg_sl ([.ref o0, .int p0, .int p1])).length) Slot.unset).toArray = ls at hl ⊢
  have hl : lv_has ls 6 [(0, .ref o0), (1, .int p0), (2, .int p1)] := hl
  refine lv_iconst (v := 0) hx hb dX10_leakBelow_0 (by decide) ?_
  refine lv_istore_n (lv' := [(3, .int 0), (0, .ref o0), (1, .int p0), (2, .int p1)]) hx hb dX10_leakBelow_1 rfl hl (by decide) rfl (fun ls hl => ?_)
  refine lv_iload_n hx hb dX10_leakBelow_2 rfl (lv_at hl 2 rfl) ?_
  refine lv_istore (lv' := [(4, .int p0), (3, .int 0), (0, .ref o0), (1, .int p0), (2, .int p1)]) hx hb dX10_leakBelow_3 hl (by decide) rfl (fun ls hl => ?_)
  refine lv_iconst (v := 0) hx hb dX10_leakBelow_5 (by decide) ?_
  refine lv_istore (lv' := [(5, .int 0), (4, .int p0), (3, .int 0), (0, .ref o0), (1, .int p0), (2, .int p1)]) hx hb dX10_leakBelow_6 hl (by decide) rfl (fun ls hl => ?_)
  have key33 : ∀ (n33 i1 : Nat), i1 + n33 = 6 → 0 ≤ i1 → ∀ (z2 : Int32), ∀ (z3 : Int32), ∀ (H : Heap) (locs : List Loc), gH (dC, dI) kA (SHc nC nS) G H → gF (dC, dI) SKc G ([] : List (Nat × Nat)) s.heap H → va_S A s.heap H locs → ∀ ls : Array Slot, lv_has ls 6 [(5, .int (nI i1)), (4, .int z2), (3, .int z3), (0, .ref o0), (1, .int p0), (2, .int p1)] → W p l e (headSpec w_c_leakBelow ({ frames := 0, cells := 0, slots := 0, locals := 0 })).room s m #[.ref o0, .int p0, .int p1] below meth c H locs 0 0 (MQ below (va_Qi (fun (r : Int32) (u : Unit) => True) (fun (_ : Unit) (t : State) => gH (dC, dI) kA (SHc nC nS) G t.heap ∧ gF (dC, dI) SKc G ([] : List (Nat × Nat)) s.heap t.heap) A) #[.ref o0, .int p0, .int p1] s 0 0 A) (F0 m 8 ls []) := by
    intro n33
    induction n33 with
    | zero =>
      intro i1 hn33 hlo34 z2 z3 H locs hT hF hS  ls hl
      obtain rfl : 6 = i1 := by omega
      refine lv_iload hx hb dX10_leakBelow_8 (lv_at hl 0 rfl) ?_
      refine lv_aload_n hx hb dX10_leakBelow_10 rfl (lv_at hl 3 rfl) ?_
      refine tw_get hx hb hts bF2_X10 hown hK hT hr_o0 shc_13 rfl 7 (by decide) (ht_at2 hts 0 rfl) (fun _ h9 => h9) dX10_leakBelow_11 (fun v9 m35 h9 => ?_)
      obtain ⟨x36, rfl, gx36, kx36⟩ := h9 _ rfl
      refine lv_icmp_ge (tgt := 54) hx hb dX10_leakBelow_14 (by decide) (fun c37 => ?_) (fun c37 => (by exfalso; have q9 : ((6 : Nat) : Int) < x36.toInt := ti_nle c37 rfl (nI_toInt (by omega)); omega))
      have t38 : x36.toInt ≤ ((6 : Nat) : Int) := ti_le c37 rfl (nI_toInt (by omega))
      refine lv_iload_n hx hb dX10_leakBelow_54 rfl (lv_at hl 2 rfl) ?_
      exact W.iret (v := z3) hx hb hr (fun t ht hW => ⟨⟨z3, (), rfl, (by exact trivial), by (try dsimp only); rw [ht]; exact ⟨hT, hF⟩⟩, hS.F ht⟩) hS.2.2 dX10_leakBelow_55
    | succ n33 ih33 =>
      intro i1 hn33 hlo34 z2 z3 H locs hT hF hS  ls hl
      have hlt38 : i1 < 6 := by omega
      refine lv_iload hx hb dX10_leakBelow_8 (lv_at hl 0 rfl) ?_
      refine lv_aload_n hx hb dX10_leakBelow_10 rfl (lv_at hl 3 rfl) ?_
      refine tw_get hx hb hts bF2_X10 hown hK hT hr_o0 shc_13 rfl 7 (by decide) (ht_at2 hts 0 rfl) (fun _ h9 => h9) dX10_leakBelow_11 (fun v9 m39 h9 => ?_)
      obtain ⟨x40, rfl, gx40, kx40⟩ := h9 _ rfl
      refine lv_icmp_ge (tgt := 54) hx hb dX10_leakBelow_14 (by decide) (fun c41 => ?_) (fun c41 => ?_)
      · have t42 : x40.toInt ≤ ((i1 : Nat) : Int) := ti_le c41 rfl (nI_toInt (by omega))
        refine lv_iload_n hx hb dX10_leakBelow_54 rfl (lv_at hl 2 rfl) ?_
        exact W.iret (v := z3) hx hb hr (fun t ht hW => ⟨⟨z3, (), rfl, (by exact trivial), by (try dsimp only); rw [ht]; exact ⟨hT, hF⟩⟩, hS.F ht⟩) hS.2.2 dX10_leakBelow_55
      · have t43 : ((i1 : Nat) : Int) < x40.toInt := ti_nle c41 rfl (nI_toInt (by omega))
        refine lv_iload hx hb dX10_leakBelow_17 (lv_at hl 1 rfl) ?_
        refine lv_iload_n hx hb dX10_leakBelow_19 rfl (lv_at hl 5 rfl) ?_
        have t44 : -2147483648 ≤ z2.toInt ∧ z2.toInt ≤ 2147483647 := ti_all z2
        have t45 : -2147483648 ≤ p1.toInt ∧ p1.toInt ≤ 2147483647 := ti_all p1
        refine lv_icmp_ge (tgt := 36) hx hb dX10_leakBelow_20 (by decide) (fun c46 => ?_) (fun c46 => ?_)
        · have t47 : p1.toInt ≤ z2.toInt := ti_le c46 rfl rfl
          refine lv_iload hx hb dX10_leakBelow_36 (lv_at hl 1 rfl) ?_
          refine lv_aload_n hx hb dX10_leakBelow_38 rfl (lv_at hl 3 rfl) ?_
          refine tw_get hx hb hts bF2_X10 hown hK hT hr_o0 shc_13 rfl 0 (by decide) (ht_at2 hts 1 rfl) (fun _ h9 => h9) dX10_leakBelow_39 (fun v9 m48 h9 => ?_)
          obtain ⟨b49, rfl, hg50⟩ := h9 _ rfl
          refine lv_iload hx hb dX10_leakBelow_42 (lv_at hl 0 rfl) ?_
          refine tw_iald (i := (nI i1)) hx hb hK hT hg50 shc_36 rfl (vp_in_nI (by omega) (by decide)) dX10_leakBelow_44 (fun v9 m51 h9 => ?_)
          obtain ⟨x52, rfl, gx52, kx52⟩ := h9
          refine lv_iadd hx hb dX10_leakBelow_45 ?_
          refine lv_topi (fun x53 ex53 => ?_)
          refine lv_istore (lv' := [(4, .int x53), (5, .int (nI i1)), (3, .int z3), (0, .ref o0), (1, .int p0), (2, .int p1)]) hx hb dX10_leakBelow_46 hl (by decide) rfl (fun ls hl => ?_)
          refine lv_iinc (v := nI (i1 + 1)) (lv' := [(5, .int (nI (i1 + 1))), (4, .int x53), (3, .int z3), (0, .ref o0), (1, .int p0), (2, .int p1)]) hx hb dX10_leakBelow_48 hl (k := 1) rfl (nI_add i1 1) (by decide) rfl (fun ls hl => ?_)
          refine lv_goto (tgt := 8) hx hb dX10_leakBelow_51 (by decide) ?_
          exact ih33 (i1 + 1) (by omega) (by omega) x53 z3 _ _ hT hF hS ls (lv_sub hl [0, 1, 2, 3, 4, 5] rfl)
        · have t54 : z2.toInt < p1.toInt := ti_nle c46 rfl rfl
          refine lv_iload_n hx hb dX10_leakBelow_23 rfl (lv_at hl 2 rfl) ?_
          refine lv_bipush (v := 10) hx hb dX10_leakBelow_24 (by decide) ?_
          refine lv_aload_n hx hb dX10_leakBelow_26 rfl (lv_at hl 3 rfl) ?_
          refine tw_get hx hb hts bF2_X10 hown hK hT hr_o0 shc_13 rfl 1 (by decide) (ht_at2 hts 2 rfl) (fun _ h9 => h9) dX10_leakBelow_27 (fun v9 m55 h9 => ?_)
          obtain ⟨b56, rfl, hg57⟩ := h9 _ rfl
          refine lv_iload hx hb dX10_leakBelow_30 (lv_at hl 0 rfl) ?_
          refine tw_iald (i := (nI i1)) hx hb hK hT hg57 shc_37 rfl (vp_in_nI (by omega) (by decide)) dX10_leakBelow_32 (fun v9 m58 h9 => ?_)
          obtain ⟨x59, rfl, gx59, kx59⟩ := h9
          refine lv_isub hx hb dX10_leakBelow_33 ?_
          refine lv_topi (fun x60 ex60 => ?_)
          refine lv_iadd hx hb dX10_leakBelow_34 ?_
          refine lv_topi (fun x61 ex61 => ?_)
          refine lv_istore_n (lv' := [(3, .int x61), (5, .int (nI i1)), (4, .int z2), (0, .ref o0), (1, .int p0), (2, .int p1)]) hx hb dX10_leakBelow_35 rfl hl (by decide) rfl (fun ls hl => ?_)
          refine lv_iload hx hb dX10_leakBelow_36 (lv_at hl 2 rfl) ?_
          refine lv_aload_n hx hb dX10_leakBelow_38 rfl (lv_at hl 3 rfl) ?_
          refine tw_get hx hb hts bF2_X10 hown hK hT hr_o0 shc_13 rfl 0 (by decide) (ht_at2 hts 1 rfl) (fun _ h9 => h9) dX10_leakBelow_39 (fun v9 m62 h9 => ?_)
          obtain ⟨b63, rfl, hg64⟩ := h9 _ rfl
          refine lv_iload hx hb dX10_leakBelow_42 (lv_at hl 1 rfl) ?_
          refine tw_iald (i := (nI i1)) hx hb hK hT hg64 shc_36 rfl (vp_in_nI (by omega) (by decide)) dX10_leakBelow_44 (fun v9 m65 h9 => ?_)
          obtain ⟨x66, rfl, gx66, kx66⟩ := h9
          refine lv_iadd hx hb dX10_leakBelow_45 ?_
          refine lv_topi (fun x67 ex67 => ?_)
          refine lv_istore (lv' := [(4, .int x67), (3, .int x61), (5, .int (nI i1)), (0, .ref o0), (1, .int p0), (2, .int p1)]) hx hb dX10_leakBelow_46 hl (by decide) rfl (fun ls hl => ?_)
          refine lv_iinc (v := nI (i1 + 1)) (lv' := [(5, .int (nI (i1 + 1))), (4, .int x67), (3, .int x61), (0, .ref o0), (1, .int p0), (2, .int p1)]) hx hb dX10_leakBelow_48 hl (k := 2) rfl (nI_add i1 1) (by decide) rfl (fun ls hl => ?_)
          refine lv_goto (tgt := 8) hx hb dX10_leakBelow_51 (by decide) ?_
          exact ih33 (i1 + 1) (by omega) (by omega) x67 x61 _ _ hT hF hS ls (lv_sub hl [0, 1, 2, 3, 4, 5] rfl)
  exact key33 (6 - 0) 0 (by omega) (Nat.le_refl _) p0 0 _ _ hT hF hS ls (lv_sub hl [0, 1, 2, 3, 4, 5] rfl)
def w_c_breakOpen : List Cond := .code yX10_breakOpen cX10_breakOpen 1 none :: (HAppend.hAppend (α := List Cond) (β := List Cond) (γ := List Cond) [.fieldLink RX10 18 "SeaLand$Work" "kind" "I", .fieldLink RX10 31 "SeaLand$Work" "width" "I"] bs2)
set_option maxHeartbeats 4000000 in
set_option maxRecDepth 100000 in
theorem c_breakOpen (l : Launch) (dC : Nat → ClassId) (dI : Nat → Nat → Nat) (kA : Nat → ClassId) (adK adV : Nat → Nat) (G : gT) (H0 : Heap) (nC nS : Int) (o0 : Nat)  (hT : gH (dC, dI) kA (SHc nC nS) G H0) (hr_o0 : G o0 = some 13) (hgC : 0 ≤ nC ∧ nC ≤ 40) (hgS : 0 ≤ nS ∧ nS ≤ 60) : Met l yX10_breakOpen w_c_breakOpen ({ frames := 0, cells := 0, slots := 0, locals := 0 }) (va_Pc [.ref o0] (fun U => U.heap = H0 ∧ va_K (dC, dI) vwCl (tyl kA) U ∧ EVC adK adV (gA G H0.size) U U.heap)) (va_Qv (fun (u : Unit) => True) (fun (_ : Unit) (t : State) => gH (dC, dI) kA (SHc nC nS) G t.heap ∧ gF (dC, dI) SKc G ([(13, 2), (13, 6)] : List (Nat × Nat)) H0 t.heap) (gA G H0.size)) 0 0 (gA G H0.size) := by
  refine Met.ofW (cc := cX10_breakOpen) (maxL := 1) (ret := none) (by decide) rfl ?_
  intro p e s m args below meth c s₁ B hml hv
  obtain ⟨rfl, hH0, hK, hE⟩ := hv
  have hx := B.exec
  have hb := B.bytes
  have hr := B.returns
  have hts := atoms_spec (ws := w_c_breakOpen) B.pre
  have hown : s.vm.findClass RX10 = some m.cls := findClass_of_methodNamed B.named
  have hlocks := B.notSynchronized
  subst hH0
  generalize hAe : gA G s.heap.size = A at hE ⊢
  have hA : ∀ q : Nat, s.heap.size ≤ q → A q := fun q h => by rw [← hAe]; exact Or.inr h
  have hG := gA_of hAe
  have hS : va_S A s.heap s.heap [] := va_S.rf
  have hF : gF (dC, dI) SKc G ([(13, 2), (13, 6)] : List (Nat × Nat)) s.heap s.heap := gF.rf
  have hl := lv_entry ([.ref o0]) (n := 1) (Nat.le_of_ble_eq_true rfl)
  rw [lg_entry_eq]
  generalize (lg_sl ([.ref o0]) ++ List.replicate (1 - (lg_sl ([.ref o0])).length) Slot.unset).toArray = ls at hl ⊢
  have hl : lv_has ls 1 [(0, .ref o0)] := hl
  refine lv_aload_n hx hb dX10_breakOpen_0 rfl (lv_at hl 0 rfl) ?_
  refine lv_iconst (v := 1) hx hb dX10_breakOpen_1 (by decide) ?_
  refine tw_put (v := .int 1) (ty := .int) hx hb hts bF2_X10 tyX10 tyX10_ok nmX10 hown hK hT hG hS hr_o0 shc_13 rfl 2 (by decide) (ht_at2 hts 0 rfl) (fun _ h9 => h9) rfl (by decide +kernel) rfl rfl (gl_at rfl (gi_all _)) dX10_breakOpen_2 (fun H locs hT oq m1 oj hS => ?_)
  have hF := hF.put hr_o0 skc_13 oq oj (by decide)
  refine lv_aload_n hx hb dX10_breakOpen_5 rfl (lv_at hl 0 rfl) ?_
  refine lv_iconst (v := 4) hx hb dX10_breakOpen_6 (by decide) ?_
  refine tw_put (v := .int 4) (ty := .int) hx hb hts bF2_X10 tyX10 tyX10_ok nmX10 hown hK hT hG hS hr_o0 shc_13 rfl 6 (by decide) (ht_at2 hts 1 rfl) (fun _ h9 => h9) rfl (by decide +kernel) rfl rfl (gl_at rfl (gi_all _)) dX10_breakOpen_7 (fun H locs hT oq m2 oj hS => ?_)
  have hF := hF.put hr_o0 skc_13 oq oj (by decide)
  exact W.vret hx hb hr (fun t ht hW => ⟨⟨(), rfl, (by exact trivial), by (try dsimp only); rw [ht]; exact ⟨hT, hF⟩⟩, hS.F ht⟩) hS.2.2 dX10_breakOpen_10
def w_c_wider : List Cond := .code yX10_wider cX10_wider 1 (some .int) :: (HAppend.hAppend (α := List Cond) (β := List Cond) (γ := List Cond) [.methodLink RX10 54 Lib.Math.min.name, .static Lib.Math.min.name, .initialized "java/lang/Math", .code Lib.Math.min.name Lib.Math.min.code 2 (some .int)] bs2)
set_option maxHeartbeats 4000000 in
set_option maxRecDepth 100000 in
theorem c_wider (l : Launch) (dC : Nat → ClassId) (dI : Nat → Nat → Nat) (kA : Nat → ClassId) (adK adV : Nat → Nat) (G : gT) (H0 : Heap) (nC nS : Int) (p0 : Int32)  (hT : gH (dC, dI) kA (SHc nC nS) G H0) (hgC : 0 ≤ nC ∧ nC ≤ 40) (hgS : 0 ≤ nS ∧ nS ≤ 60) : Met l yX10_wider w_c_wider ({ frames := 1, cells := 0, slots := 0, locals := 40 }) (va_Pc [.int p0] (fun U => U.heap = H0 ∧ va_K (dC, dI) vwCl (tyl kA) U ∧ EVC adK adV (gA G H0.size) U U.heap)) (va_Qi (fun (r : Int32) (u : Unit) => (-2147483648 ≤ r.toInt ∧ r.toInt ≤ 60)) (fun (_ : Unit) (t : State) => gH (dC, dI) kA (SHc nC nS) G t.heap ∧ gF (dC, dI) SKc G ([] : List (Nat × Nat)) H0 t.heap) (gA G H0.size)) 0 0 (gA G H0.size) := by
  refine Met.ofW (cc := cX10_wider) (maxL := 1) (ret := (some .int)) (by decide) rfl ?_
  intro p e s m args below meth c s₁ B hml hv
  obtain ⟨rfl, hH0, hK, hE⟩ := hv
  have hx := B.exec
  have hb := B.bytes
  have hr := B.returns
  have hts := atoms_spec (ws := w_c_wider) B.pre
  have hown : s.vm.findClass RX10 = some m.cls := findClass_of_methodNamed B.named
  have hlocks := B.notSynchronized
  subst hH0
  generalize hAe : gA G s.heap.size = A at hE ⊢
  have hA : ∀ q : Nat, s.heap.size ≤ q → A q := fun q h => by rw [← hAe]; exact Or.inr h
  have hG := gA_of hAe
  have hS : va_S A s.heap s.heap [] := va_S.rf
  have hF : gF (dC, dI) SKc G ([] : List (Nat × Nat)) s.heap s.heap := gF.rf
  have hl := lv_entry ([.int p0]) (n := 1) (Nat.le_of_ble_eq_true rfl)
  rw [lg_entry_eq]
  generalize (lg_sl ([.int p0]) ++ List.replicate (1 - (lg_sl ([.int p0])).length) Slot.unset).toArray = ls at hl ⊢
  have hl : lv_has ls 1 [(0, .int p0)] := hl
  refine lv_bipush (v := 60) hx hb dX10_wider_0 (by decide) ?_
  refine lv_iload_n hx hb dX10_wider_2 rfl (lv_at hl 0 rfl) ?_
  refine lv_iconst (v := 2) hx hb dX10_wider_3 (by decide) ?_
  refine lv_iadd hx hb dX10_wider_4 ?_
  refine lv_topi (fun x1 ex1 => ?_)
  refine va_mmin hx hb (hml.trans hl.1.symm) hown (ht_at2 hts 0 rfl) (ht_at2 hts 1 rfl) (ht_at2 hts 2 rfl) (ht_at2 hts 3 rfl) (Nat.le_of_ble_eq_true rfl) (Nat.le_of_ble_eq_true rfl) (Nat.le_of_ble_eq_true rfl) (Nat.le_of_ble_eq_true rfl) dX10_wider_5 ?_
  refine lv_topi (fun x2 ex2 => ?_)
  have t3 : x2.toInt ≤ 60 ∧ x2.toInt ≤ x1.toInt ∧ (x2.toInt = 60 ∨ x2.toInt = x1.toInt) := mn_f ex2 (by decide) rfl
  exact W.iret (v := x2) hx hb hr (fun t ht hW => ⟨⟨x2, (), rfl, (by exact (by have q8 := ti_all x2; omega)), by (try dsimp only); rw [ht]; exact ⟨hT, hF⟩⟩, hS.F ht⟩) hS.2.2 dX10_wider_8
def w_c_widen : List Cond := .code yX10_widen cX10_widen 1 none :: (HAppend.hAppend (α := List Cond) (β := List Cond) (γ := List Cond) [.fieldLink RX10 31 "SeaLand$Work" "width" "I", .code yX10_wider cX10_wider 1 (some .int), .methodLink RX10 54 Lib.Math.min.name, .static Lib.Math.min.name, .initialized "java/lang/Math", .code Lib.Math.min.name Lib.Math.min.code 2 (some .int), .methodLink RX10 50 yX10_wider, .static yX10_wider, .initialized RX10] bs2)
set_option maxHeartbeats 4000000 in
set_option maxRecDepth 100000 in
theorem c_widen (l : Launch) (dC : Nat → ClassId) (dI : Nat → Nat → Nat) (kA : Nat → ClassId) (adK adV : Nat → Nat) (G : gT) (H0 : Heap) (nC nS : Int) (o0 : Nat)  (hT : gH (dC, dI) kA (SHc nC nS) G H0) (hr_o0 : G o0 = some 13) (hgC : 0 ≤ nC ∧ nC ≤ 40) (hgS : 0 ≤ nS ∧ nS ≤ 60) : Met l yX10_widen w_c_widen ({ frames := 2, cells := 0, slots := 0, locals := 60 }) (va_Pc [.ref o0] (fun U => U.heap = H0 ∧ va_K (dC, dI) vwCl (tyl kA) U ∧ EVC adK adV (gA G H0.size) U U.heap)) (va_Qv (fun (u : Unit) => True) (fun (_ : Unit) (t : State) => gH (dC, dI) kA (SHc nC nS) G t.heap ∧ gF (dC, dI) SKc G ([(13, 6)] : List (Nat × Nat)) H0 t.heap) (gA G H0.size)) 0 0 (gA G H0.size) := by
  refine Met.ofW (cc := cX10_widen) (maxL := 1) (ret := none) (by decide) rfl ?_
  intro p e s m args below meth c s₁ B hml hv
  obtain ⟨rfl, hH0, hK, hE⟩ := hv
  have hx := B.exec
  have hb := B.bytes
  have hr := B.returns
  have hts := atoms_spec (ws := w_c_widen) B.pre
  have hown : s.vm.findClass RX10 = some m.cls := findClass_of_methodNamed B.named
  have hlocks := B.notSynchronized
  subst hH0
  generalize hAe : gA G s.heap.size = A at hE ⊢
  have hA : ∀ q : Nat, s.heap.size ≤ q → A q := fun q h => by rw [← hAe]; exact Or.inr h
  have hG := gA_of hAe
  have hS : va_S A s.heap s.heap [] := va_S.rf
  have hF : gF (dC, dI) SKc G ([(13, 6)] : List (Nat × Nat)) s.heap s.heap := gF.rf
  have hl := lv_entry ([.ref o0]) (n := 1) (Nat.le_of_ble_eq_true rfl)
  rw [lg_entry_eq]
  generalize (lg_sl ([.ref o0]) ++ List.replicate (1 - (lg_sl ([.ref o0])).length) Slot.unset).toArray = ls at hl ⊢
  have hl : lv_has ls 1 [(0, .ref o0)] := hl
  refine lv_aload_n hx hb dX10_widen_0 rfl (lv_at hl 0 rfl) ?_
  refine lv_aload_n hx hb dX10_widen_1 rfl (lv_at hl 0 rfl) ?_
  refine tw_get hx hb hts bF2_X10 hown hK hT hr_o0 shc_13 rfl 6 (by decide) (ht_at2 hts 0 rfl) (fun _ h9 => h9) dX10_widen_2 (fun v9 m1 h9 => ?_)
  obtain ⟨x2, rfl, gx2, kx2⟩ := h9 _ rfl
  have hFc := gA_free hG hA hS
  refine va_calli (va_runS (As := [.int x2]) (rest := [.ref o0]) ⟨hx, hb, hml, hown, hts⟩ (c_wider l dC dI kA adK adV G s.heap nC nS x2 hT (by omega) (by omega)) (va_cwS 1 hts (goodIn_app (goodIn_r _ [7, 8, 9] rfl (by decide +kernel)) (goodIn_ca (goodIn_r _ [2, 3, 4, 5, 6] rfl (by decide +kernel)) (bs2_in _ _))) rfl rfl rfl (by decide +kernel) ⟨(Nat.le_of_ble_eq_true rfl), (Nat.le_of_ble_eq_true rfl)⟩) ⟨fun a U g mk q => by obtain ⟨q0, q1, qK, qE⟩ := q; exact ⟨q0, q1, va_K.moved (u := U) (U := U.calling g mk a) (Vm.Alike.refl U.vm) qK, EVC.blind g mk a qE⟩, fun U hU hW => ⟨rfl, hU, va_K.moved hW.alike hK, hE.call hS hFc hU hW⟩⟩ rfl rfl hl.1 rfl (lv_room (Nat.le_of_ble_eq_true rfl)) dX10_widen_5 ⟨(Nat.le_of_ble_eq_true rfl), (Nat.le_of_ble_eq_true rfl)⟩) hS (fun q _ h => hFc q h) hFc (fun r3 u t H locs ht hvm hw4 hB _ _ hS => ?_)
  obtain ⟨hT, hF1⟩ := hB
  rw [ht] at hT hF1
  have hF := hF.more hF1 (by decide)
  try dsimp only at hw4
  have h6 := hw4
  refine tw_put (v := .int r3) (ty := .int) hx hb hts bF2_X10 tyX10 tyX10_ok nmX10 hown hK hT hG hS hr_o0 shc_13 rfl 6 (by decide) (ht_at2 hts 0 rfl) (fun _ h9 => h9) rfl (by decide +kernel) rfl rfl (gl_at rfl (gi_all _)) dX10_widen_8 (fun H locs hT oq m7 oj hS => ?_)
  have hF := hF.put hr_o0 skc_13 oq oj (by decide)
  exact W.vret hx hb hr (fun t ht hW => ⟨⟨(), rfl, (by exact trivial), by (try dsimp only); rw [ht]; exact ⟨hT, hF⟩⟩, hS.F ht⟩) hS.2.2 dX10_widen_11
def w_c_moved : List Cond := .code yX10_moved cX10_moved 2 none :: (HAppend.hAppend (α := List Cond) (β := List Cond) (γ := List Cond) [.fieldLink RX10 44 "SeaLand$Work" "latest" "I", .fieldLink RX10 47 "SeaLand$Work" "total" "I"] bs2)
set_option maxHeartbeats 4000000 in
set_option maxRecDepth 100000 in
theorem c_moved (l : Launch) (dC : Nat → ClassId) (dI : Nat → Nat → Nat) (kA : Nat → ClassId) (adK adV : Nat → Nat) (G : gT) (H0 : Heap) (nC nS : Int) (o0 : Nat) (p0 : Int32)  (hT : gH (dC, dI) kA (SHc nC nS) G H0) (hr_o0 : G o0 = some 13) (hgC : 0 ≤ nC ∧ nC ≤ 40) (hgS : 0 ≤ nS ∧ nS ≤ 60) : Met l yX10_moved w_c_moved ({ frames := 0, cells := 0, slots := 0, locals := 0 }) (va_Pc [.ref o0, .int p0] (fun U => U.heap = H0 ∧ va_K (dC, dI) vwCl (tyl kA) U ∧ EVC adK adV (gA G H0.size) U U.heap)) (va_Qv (fun (u : Unit) => True) (fun (_ : Unit) (t : State) => gH (dC, dI) kA (SHc nC nS) G t.heap ∧ gF (dC, dI) SKc G ([(13, 10), (13, 11)] : List (Nat × Nat)) H0 t.heap) (gA G H0.size)) 0 0 (gA G H0.size) := by
  refine Met.ofW (cc := cX10_moved) (maxL := 2) (ret := none) (by decide) rfl ?_
  intro p e s m args below meth c s₁ B hml hv
  obtain ⟨rfl, hH0, hK, hE⟩ := hv
  have hx := B.exec
  have hb := B.bytes
  have hr := B.returns
  have hts := atoms_spec (ws := w_c_moved) B.pre
  have hown : s.vm.findClass RX10 = some m.cls := findClass_of_methodNamed B.named
  have hlocks := B.notSynchronized
  subst hH0
  generalize hAe : gA G s.heap.size = A at hE ⊢
  have hA : ∀ q : Nat, s.heap.size ≤ q → A q := fun q h => by rw [← hAe]; exact Or.inr h
  have hG := gA_of hAe
  have hS : va_S A s.heap s.heap [] := va_S.rf
  have hF : gF (dC, dI) SKc G ([(13, 10), (13, 11)] : List (Nat × Nat)) s.heap s.heap := gF.rf
  have hl := lv_entry ([.ref o0, .int p0]) (n := 2) (Nat.le_of_ble_eq_true rfl)
  rw [lg_entry_eq]
  generalize (lg_sl ([.ref o0, .int p0]) ++ List.replicate (2 - (lg_sl ([.ref o0, .int p0])).length) Slot.unset).toArray = ls at hl ⊢
  have hl : lv_has ls 2 [(0, .ref o0), (1, .int p0)] := hl
  refine lv_aload_n hx hb dX10_moved_0 rfl (lv_at hl 0 rfl) ?_
  refine lv_iload_n hx hb dX10_moved_1 rfl (lv_at hl 1 rfl) ?_
  refine tw_put (v := .int p0) (ty := .int) hx hb hts bF2_X10 tyX10 tyX10_ok nmX10 hown hK hT hG hS hr_o0 shc_13 rfl 10 (by decide) (ht_at2 hts 0 rfl) (fun _ h9 => h9) rfl (by decide +kernel) rfl rfl (gl_at rfl (gi_all _)) dX10_moved_2 (fun H locs hT oq m1 oj hS => ?_)
  have hF := hF.put hr_o0 skc_13 oq oj (by decide)
  refine lv_aload_n hx hb dX10_moved_5 rfl (lv_at hl 0 rfl) ?_
  refine lv_dup hx hb dX10_moved_6 rfl ?_
  refine tw_get hx hb hts bF2_X10 hown hK hT hr_o0 shc_13 rfl 11 (by decide) (ht_at2 hts 1 rfl) (fun _ h9 => h9) dX10_moved_7 (fun v9 m2 h9 => ?_)
  obtain ⟨x3, rfl, gx3, kx3⟩ := h9 _ rfl
  refine lv_iload_n hx hb dX10_moved_10 rfl (lv_at hl 1 rfl) ?_
  refine lv_iadd hx hb dX10_moved_11 ?_
  refine lv_topi (fun x4 ex4 => ?_)
  refine tw_put (v := .int x4) (ty := .int) hx hb hts bF2_X10 tyX10 tyX10_ok nmX10 hown hK hT hG hS hr_o0 shc_13 rfl 11 (by decide) (ht_at2 hts 1 rfl) (fun _ h9 => h9) rfl (by decide +kernel) rfl rfl (gl_at rfl (gi_all _)) dX10_moved_12 (fun H locs hT oq m5 oj hS => ?_)
  have hF := hF.put hr_o0 skc_13 oq oj (by decide)
  exact W.vret hx hb hr (fun t ht hW => ⟨⟨(), rfl, (by exact trivial), by (try dsimp only); rw [ht]; exact ⟨hT, hF⟩⟩, hS.F ht⟩) hS.2.2 dX10_moved_15
def w_c_copyW_i : List Cond := .code yX10_copyFrom cX10_copyFrom 2 none :: (HAppend.hAppend (α := List Cond) (β := List Cond) (γ := List Cond) [.fieldLink RX10 9 "SeaLand$Work" "thick" "[I", .methodLink RX10 60 arraycopyName, .native arraycopyName, .static arraycopyName, .initialized "java/lang/System", .fieldLink RX10 15 "SeaLand$Work" "clay" "[I", .fieldLink RX10 18 "SeaLand$Work" "kind" "I", .fieldLink RX10 22 "SeaLand$Work" "square" "I", .fieldLink RX10 25 "SeaLand$Work" "to" "I", .fieldLink RX10 28 "SeaLand$Work" "size" "I", .fieldLink RX10 31 "SeaLand$Work" "width" "I", .fieldLink RX10 34 "SeaLand$Work" "layers" "I", .fieldLink RX10 37 "SeaLand$Work" "coal" "I", .fieldLink RX10 40 "SeaLand$Work" "on" "Z", .fieldLink RX10 44 "SeaLand$Work" "latest" "I", .fieldLink RX10 47 "SeaLand$Work" "total" "I"] bs2)
set_option maxHeartbeats 4000000 in
set_option maxRecDepth 100000 in
theorem c_copyW_i (l : Launch) (dC : Nat → ClassId) (dI : Nat → Nat → Nat) (kA : Nat → ClassId) (adK adV : Nat → Nat) (G : gT) (H0 : Heap) (nC nS : Int) (o0 : Nat) (p0 : Nat)  (hT : gH (dC, dI) kA (SHc nC nS) G H0) (hr_o0 : G o0 = some 94) (hr_p0 : G p0 = some 13) (hgC : 0 ≤ nC ∧ nC ≤ 40) (hgS : 0 ≤ nS ∧ nS ≤ 60) : Met l yX10_copyFrom w_c_copyW_i ({ frames := 2, cells := 0, slots := 0, locals := 60 }) (va_Pc [.ref o0, .ref p0] (fun U => U.heap = H0 ∧ va_K (dC, dI) vwCl (tyl kA) U ∧ EVC adK adV (gA G H0.size) U U.heap)) (va_Qv (fun (u : Unit) => True) (fun (_ : Unit) (t : State) => gH (dC, dI) kA (SHc nC nS) G t.heap ∧ gF (dC, dI) SKc G ([(88, 0), (89, 0), (94, 2), (94, 3), (94, 4), (94, 5), (94, 6), (94, 7), (94, 8), (94, 9), (94, 10), (94, 11)] : List (Nat × Nat)) H0 t.heap) (gA G H0.size)) 0 0 (gA G H0.size) := by
  refine Met.ofW (cc := cX10_copyFrom) (maxL := 2) (ret := none) (by decide) rfl ?_
  intro p e s m args below meth c s₁ B hml hv
  obtain ⟨rfl, hH0, hK, hE⟩ := hv
  have hx := B.exec
  have hb := B.bytes
  have hr := B.returns
  have hts := atoms_spec (ws := w_c_copyW_i) B.pre
  have hown : s.vm.findClass RX10 = some m.cls := findClass_of_methodNamed B.named
  have hlocks := B.notSynchronized
  subst hH0
  generalize hAe : gA G s.heap.size = A at hE ⊢
  have hA : ∀ q : Nat, s.heap.size ≤ q → A q := fun q h => by rw [← hAe]; exact Or.inr h
  have hG := gA_of hAe
  have hS : va_S A s.heap s.heap [] := va_S.rf
  have hF : gF (dC, dI) SKc G ([(88, 0), (89, 0), (94, 2), (94, 3), (94, 4), (94, 5), (94, 6), (94, 7), (94, 8), (94, 9), (94, 10), (94, 11)] : List (Nat × Nat)) s.heap s.heap := gF.rf
  have hl := lv_entry ([.ref o0, .ref p0]) (n := 2) (Nat.le_of_ble_eq_true rfl)
  rw [lg_entry_eq]
  generalize (lg_sl ([.ref o0, .ref p0]) ++ List.replicate (2 - (lg_sl ([.ref o0, .ref p0])).length) Slot.unset).toArray = ls at hl ⊢
  have hl : lv_has ls 2 [(0, .ref o0), (1, .ref p0)] := hl
  refine lv_aload_n hx hb dX10_copyFrom_0 rfl (lv_at hl 1 rfl) ?_
  refine tw_get hx hb hts bF2_X10 hown hK hT hr_p0 shc_13 rfl 0 (by decide) (ht_at2 hts 0 rfl) (fun _ h9 => h9) dX10_copyFrom_1 (fun v9 m1 h9 => ?_)
  obtain ⟨b2, rfl, hg3⟩ := h9 _ rfl
  refine lv_iconst (v := 0) hx hb dX10_copyFrom_4 (by decide) ?_
  refine lv_aload_n hx hb dX10_copyFrom_5 rfl (lv_at hl 0 rfl) ?_
  refine tw_get hx hb hts bF2_X10 hown hK hT hr_o0 shc_94 rfl 0 (by decide) (ht_at2 hts 0 rfl) (fun _ h9 => h9) dX10_copyFrom_6 (fun v9 m4 h9 => ?_)
  obtain ⟨b5, rfl, hg6⟩ := h9 _ rfl
  refine lv_iconst (v := 0) hx hb dX10_copyFrom_9 (by decide) ?_
  refine lv_bipush (v := 6) hx hb dX10_copyFrom_10 (by decide) ?_
  refine tw_copy (ty := .int) hx hb (hml.trans hl.1.symm) hown (ht_at2 hts 1 rfl) (ht_at2 hts 2 rfl) (ht_at2 hts 3 rfl) (ht_at2 hts 4 rfl) hK hT hG hS hg3 hg6 shc_36 shc_88 rfl rfl (by decide) (by decide) (by decide) (by decide) (by decide) (fun _ _ h9 => by obtain ⟨x9, e9, _⟩ := h9; exact ⟨x9, e9, rfl⟩) (fun _ _ _ h9 => h9) (Nat.le_of_ble_eq_true rfl) (Nat.le_of_ble_eq_true rfl) dX10_copyFrom_12 (fun H locs hT oq hS => ?_)
  have hF := hF.ast hg6 skc_88 oq (by decide)
  refine lv_aload_n hx hb dX10_copyFrom_15 rfl (lv_at hl 1 rfl) ?_
  refine tw_get hx hb hts bF2_X10 hown hK hT hr_p0 shc_13 rfl 1 (by decide) (ht_at2 hts 5 rfl) (fun _ h9 => h9) dX10_copyFrom_16 (fun v9 m9 h9 => ?_)
  obtain ⟨b10, rfl, hg11⟩ := h9 _ rfl
  refine lv_iconst (v := 0) hx hb dX10_copyFrom_19 (by decide) ?_
  refine lv_aload_n hx hb dX10_copyFrom_20 rfl (lv_at hl 0 rfl) ?_
  refine tw_get hx hb hts bF2_X10 hown hK hT hr_o0 shc_94 rfl 1 (by decide) (ht_at2 hts 5 rfl) (fun _ h9 => h9) dX10_copyFrom_21 (fun v9 m12 h9 => ?_)
  obtain ⟨b13, rfl, hg14⟩ := h9 _ rfl
  refine lv_iconst (v := 0) hx hb dX10_copyFrom_24 (by decide) ?_
  refine lv_bipush (v := 6) hx hb dX10_copyFrom_25 (by decide) ?_
  refine tw_copy (ty := .int) hx hb (hml.trans hl.1.symm) hown (ht_at2 hts 1 rfl) (ht_at2 hts 2 rfl) (ht_at2 hts 3 rfl) (ht_at2 hts 4 rfl) hK hT hG hS hg11 hg14 shc_37 shc_89 rfl rfl (by decide) (by decide) (by decide) (by decide) (by decide) (fun _ _ h9 => by obtain ⟨x9, e9, _⟩ := h9; exact ⟨x9, e9, rfl⟩) (fun _ _ _ h9 => h9) (Nat.le_of_ble_eq_true rfl) (Nat.le_of_ble_eq_true rfl) dX10_copyFrom_27 (fun H locs hT oq hS => ?_)
  have hF := hF.ast hg14 skc_89 oq (by decide)
  refine lv_aload_n hx hb dX10_copyFrom_30 rfl (lv_at hl 0 rfl) ?_
  refine lv_aload_n hx hb dX10_copyFrom_31 rfl (lv_at hl 1 rfl) ?_
  refine tw_get hx hb hts bF2_X10 hown hK hT hr_p0 shc_13 rfl 2 (by decide) (ht_at2 hts 6 rfl) (fun _ h9 => h9) dX10_copyFrom_32 (fun v9 m19 h9 => ?_)
  obtain ⟨x20, rfl, gx20, kx20⟩ := h9 _ rfl
  refine tw_put (v := .int x20) (ty := .int) hx hb hts bF2_X10 tyX10 tyX10_ok nmX10 hown hK hT hG hS hr_o0 shc_94 rfl 2 (by decide) (ht_at2 hts 6 rfl) (fun _ h9 => h9) rfl (by decide +kernel) rfl rfl (gl_at rfl (gi_all _)) dX10_copyFrom_35 (fun H locs hT oq m21 oj hS => ?_)
  have hF := hF.put hr_o0 skc_94 oq oj (by decide)
  refine lv_aload_n hx hb dX10_copyFrom_38 rfl (lv_at hl 0 rfl) ?_
  refine lv_aload_n hx hb dX10_copyFrom_39 rfl (lv_at hl 1 rfl) ?_
  refine tw_get hx hb hts bF2_X10 hown hK hT hr_p0 shc_13 rfl 3 (by decide) (ht_at2 hts 7 rfl) (fun _ h9 => h9) dX10_copyFrom_40 (fun v9 m27 h9 => ?_)
  obtain ⟨x28, rfl, gx28, kx28⟩ := h9 _ rfl
  refine tw_put (v := .int x28) (ty := .int) hx hb hts bF2_X10 tyX10 tyX10_ok nmX10 hown hK hT hG hS hr_o0 shc_94 rfl 3 (by decide) (ht_at2 hts 7 rfl) (fun _ h9 => h9) rfl (by decide +kernel) rfl rfl (gl_at rfl (gi_of (show x28.toInt = x28.toInt from rfl) (by omega) (by omega))) dX10_copyFrom_43 (fun H locs hT oq m29 oj hS => ?_)
  have hF := hF.put hr_o0 skc_94 oq oj (by decide)
  refine lv_aload_n hx hb dX10_copyFrom_46 rfl (lv_at hl 0 rfl) ?_
  refine lv_aload_n hx hb dX10_copyFrom_47 rfl (lv_at hl 1 rfl) ?_
  refine tw_get hx hb hts bF2_X10 hown hK hT hr_p0 shc_13 rfl 4 (by decide) (ht_at2 hts 8 rfl) (fun _ h9 => h9) dX10_copyFrom_48 (fun v9 m37 h9 => ?_)
  obtain ⟨x38, rfl, gx38, kx38⟩ := h9 _ rfl
  refine tw_put (v := .int x38) (ty := .int) hx hb hts bF2_X10 tyX10 tyX10_ok nmX10 hown hK hT hG hS hr_o0 shc_94 rfl 4 (by decide) (ht_at2 hts 8 rfl) (fun _ h9 => h9) rfl (by decide +kernel) rfl rfl (gl_at rfl (gi_of (show x38.toInt = x38.toInt from rfl) (by omega) (by omega))) dX10_copyFrom_51 (fun H locs hT oq m39 oj hS => ?_)
  have hF := hF.put hr_o0 skc_94 oq oj (by decide)
  refine lv_aload_n hx hb dX10_copyFrom_54 rfl (lv_at hl 0 rfl) ?_
  refine lv_aload_n hx hb dX10_copyFrom_55 rfl (lv_at hl 1 rfl) ?_
  refine tw_get hx hb hts bF2_X10 hown hK hT hr_p0 shc_13 rfl 5 (by decide) (ht_at2 hts 9 rfl) (fun _ h9 => h9) dX10_copyFrom_56 (fun v9 m49 h9 => ?_)
  obtain ⟨x50, rfl, gx50, kx50⟩ := h9 _ rfl
  refine tw_put (v := .int x50) (ty := .int) hx hb hts bF2_X10 tyX10 tyX10_ok nmX10 hown hK hT hG hS hr_o0 shc_94 rfl 5 (by decide) (ht_at2 hts 9 rfl) (fun _ h9 => h9) rfl (by decide +kernel) rfl rfl (gl_at rfl (gi_all _)) dX10_copyFrom_59 (fun H locs hT oq m51 oj hS => ?_)
  have hF := hF.put hr_o0 skc_94 oq oj (by decide)
  refine lv_aload_n hx hb dX10_copyFrom_62 rfl (lv_at hl 0 rfl) ?_
  refine lv_aload_n hx hb dX10_copyFrom_63 rfl (lv_at hl 1 rfl) ?_
  refine tw_get hx hb hts bF2_X10 hown hK hT hr_p0 shc_13 rfl 6 (by decide) (ht_at2 hts 10 rfl) (fun _ h9 => h9) dX10_copyFrom_64 (fun v9 m63 h9 => ?_)
  obtain ⟨x64, rfl, gx64, kx64⟩ := h9 _ rfl
  refine tw_put (v := .int x64) (ty := .int) hx hb hts bF2_X10 tyX10 tyX10_ok nmX10 hown hK hT hG hS hr_o0 shc_94 rfl 6 (by decide) (ht_at2 hts 10 rfl) (fun _ h9 => h9) rfl (by decide +kernel) rfl rfl (gl_at rfl (gi_all _)) dX10_copyFrom_67 (fun H locs hT oq m65 oj hS => ?_)
  have hF := hF.put hr_o0 skc_94 oq oj (by decide)
  refine lv_aload_n hx hb dX10_copyFrom_70 rfl (lv_at hl 0 rfl) ?_
  refine lv_aload_n hx hb dX10_copyFrom_71 rfl (lv_at hl 1 rfl) ?_
  refine tw_get hx hb hts bF2_X10 hown hK hT hr_p0 shc_13 rfl 7 (by decide) (ht_at2 hts 11 rfl) (fun _ h9 => h9) dX10_copyFrom_72 (fun v9 m79 h9 => ?_)
  obtain ⟨x80, rfl, gx80, kx80⟩ := h9 _ rfl
  refine tw_put (v := .int x80) (ty := .int) hx hb hts bF2_X10 tyX10 tyX10_ok nmX10 hown hK hT hG hS hr_o0 shc_94 rfl 7 (by decide) (ht_at2 hts 11 rfl) (fun _ h9 => h9) rfl (by decide +kernel) rfl rfl (gl_at rfl (gi_of (show x80.toInt = x80.toInt from rfl) (by omega) (by omega))) dX10_copyFrom_75 (fun H locs hT oq m81 oj hS => ?_)
  have hF := hF.put hr_o0 skc_94 oq oj (by decide)
  refine lv_aload_n hx hb dX10_copyFrom_78 rfl (lv_at hl 0 rfl) ?_
  refine lv_aload_n hx hb dX10_copyFrom_79 rfl (lv_at hl 1 rfl) ?_
  refine tw_get hx hb hts bF2_X10 hown hK hT hr_p0 shc_13 rfl 8 (by decide) (ht_at2 hts 12 rfl) (fun _ h9 => h9) dX10_copyFrom_80 (fun v9 m97 h9 => ?_)
  obtain ⟨x98, rfl, gx98, kx98⟩ := h9 _ rfl
  refine tw_put (v := .int x98) (ty := .int) hx hb hts bF2_X10 tyX10 tyX10_ok nmX10 hown hK hT hG hS hr_o0 shc_94 rfl 8 (by decide) (ht_at2 hts 12 rfl) (fun _ h9 => h9) rfl (by decide +kernel) rfl rfl (gl_at rfl (gi_all _)) dX10_copyFrom_83 (fun H locs hT oq m99 oj hS => ?_)
  have hF := hF.put hr_o0 skc_94 oq oj (by decide)
  refine lv_aload_n hx hb dX10_copyFrom_86 rfl (lv_at hl 0 rfl) ?_
  refine lv_aload_n hx hb dX10_copyFrom_87 rfl (lv_at hl 1 rfl) ?_
  refine tw_get hx hb hts bF2_X10 hown hK hT hr_p0 shc_13 rfl 9 (by decide) (ht_at2 hts 13 rfl) (fun _ h9 => h9) dX10_copyFrom_88 (fun v9 m117 h9 => ?_)
  obtain ⟨x118, rfl, gx118, kx118⟩ := h9 _ rfl
  refine tw_put (v := .int x118) (ty := .boolean) hx hb hts bF2_X10 tyX10 tyX10_ok nmX10 hown hK hT hG hS hr_o0 shc_94 rfl 9 (by decide) (ht_at2 hts 13 rfl) (fun _ h9 => h9) rfl (by decide +kernel) (nar_b (by have q8 := ti_all x118; omega)) (fit_b (by have q8 := ti_all x118; omega)) (gl_at rfl (gi_of (show x118.toInt = x118.toInt from rfl) (by omega) (by omega))) dX10_copyFrom_91 (fun H locs hT oq m119 oj hS => ?_)
  have hF := hF.put hr_o0 skc_94 oq oj (by decide)
  refine lv_aload_n hx hb dX10_copyFrom_94 rfl (lv_at hl 0 rfl) ?_
  refine lv_aload_n hx hb dX10_copyFrom_95 rfl (lv_at hl 1 rfl) ?_
  refine tw_get hx hb hts bF2_X10 hown hK hT hr_p0 shc_13 rfl 10 (by decide) (ht_at2 hts 14 rfl) (fun _ h9 => h9) dX10_copyFrom_96 (fun v9 m139 h9 => ?_)
  obtain ⟨x140, rfl, gx140, kx140⟩ := h9 _ rfl
  refine tw_put (v := .int x140) (ty := .int) hx hb hts bF2_X10 tyX10 tyX10_ok nmX10 hown hK hT hG hS hr_o0 shc_94 rfl 10 (by decide) (ht_at2 hts 14 rfl) (fun _ h9 => h9) rfl (by decide +kernel) rfl rfl (gl_at rfl (gi_all _)) dX10_copyFrom_99 (fun H locs hT oq m141 oj hS => ?_)
  have hF := hF.put hr_o0 skc_94 oq oj (by decide)
  refine lv_aload_n hx hb dX10_copyFrom_102 rfl (lv_at hl 0 rfl) ?_
  refine lv_aload_n hx hb dX10_copyFrom_103 rfl (lv_at hl 1 rfl) ?_
  refine tw_get hx hb hts bF2_X10 hown hK hT hr_p0 shc_13 rfl 11 (by decide) (ht_at2 hts 15 rfl) (fun _ h9 => h9) dX10_copyFrom_104 (fun v9 m163 h9 => ?_)
  obtain ⟨x164, rfl, gx164, kx164⟩ := h9 _ rfl
  refine tw_put (v := .int x164) (ty := .int) hx hb hts bF2_X10 tyX10 tyX10_ok nmX10 hown hK hT hG hS hr_o0 shc_94 rfl 11 (by decide) (ht_at2 hts 15 rfl) (fun _ h9 => h9) rfl (by decide +kernel) rfl rfl (gl_at rfl (gi_all _)) dX10_copyFrom_107 (fun H locs hT oq m165 oj hS => ?_)
  have hF := hF.put hr_o0 skc_94 oq oj (by decide)
  exact W.vret hx hb hr (fun t ht hW => ⟨⟨(), rfl, (by exact trivial), by (try dsimp only); rw [ht]; exact ⟨hT, hF⟩⟩, hS.F ht⟩) hS.2.2 dX10_copyFrom_110
def w_c_copyW_l : List Cond := .code yX10_copyFrom cX10_copyFrom 2 none :: (HAppend.hAppend (α := List Cond) (β := List Cond) (γ := List Cond) [.fieldLink RX10 9 "SeaLand$Work" "thick" "[I", .methodLink RX10 60 arraycopyName, .native arraycopyName, .static arraycopyName, .initialized "java/lang/System", .fieldLink RX10 15 "SeaLand$Work" "clay" "[I", .fieldLink RX10 18 "SeaLand$Work" "kind" "I", .fieldLink RX10 22 "SeaLand$Work" "square" "I", .fieldLink RX10 25 "SeaLand$Work" "to" "I", .fieldLink RX10 28 "SeaLand$Work" "size" "I", .fieldLink RX10 31 "SeaLand$Work" "width" "I", .fieldLink RX10 34 "SeaLand$Work" "layers" "I", .fieldLink RX10 37 "SeaLand$Work" "coal" "I", .fieldLink RX10 40 "SeaLand$Work" "on" "Z", .fieldLink RX10 44 "SeaLand$Work" "latest" "I", .fieldLink RX10 47 "SeaLand$Work" "total" "I"] bs2)
set_option maxHeartbeats 4000000 in
set_option maxRecDepth 100000 in
theorem c_copyW_l (l : Launch) (dC : Nat → ClassId) (dI : Nat → Nat → Nat) (kA : Nat → ClassId) (adK adV : Nat → Nat) (G : gT) (H0 : Heap) (nC nS : Int) (o0 : Nat) (p0 : Nat)  (hT : gH (dC, dI) kA (SHc nC nS) G H0) (hr_o0 : G o0 = some 13) (hr_p0 : G p0 = some 94) (hgC : 0 ≤ nC ∧ nC ≤ 40) (hgS : 0 ≤ nS ∧ nS ≤ 60) : Met l yX10_copyFrom w_c_copyW_l ({ frames := 2, cells := 0, slots := 0, locals := 60 }) (va_Pc [.ref o0, .ref p0] (fun U => U.heap = H0 ∧ va_K (dC, dI) vwCl (tyl kA) U ∧ EVC adK adV (gA G H0.size) U U.heap)) (va_Qv (fun (u : Unit) => True) (fun (_ : Unit) (t : State) => gH (dC, dI) kA (SHc nC nS) G t.heap ∧ gF (dC, dI) SKc G ([(13, 2), (13, 3), (13, 4), (13, 5), (13, 6), (13, 7), (13, 8), (13, 9), (13, 10), (13, 11), (36, 0), (37, 0)] : List (Nat × Nat)) H0 t.heap) (gA G H0.size)) 0 0 (gA G H0.size) := by
  refine Met.ofW (cc := cX10_copyFrom) (maxL := 2) (ret := none) (by decide) rfl ?_
  intro p e s m args below meth c s₁ B hml hv
  obtain ⟨rfl, hH0, hK, hE⟩ := hv
  have hx := B.exec
  have hb := B.bytes
  have hr := B.returns
  have hts := atoms_spec (ws := w_c_copyW_l) B.pre
  have hown : s.vm.findClass RX10 = some m.cls := findClass_of_methodNamed B.named
  have hlocks := B.notSynchronized
  subst hH0
  generalize hAe : gA G s.heap.size = A at hE ⊢
  have hA : ∀ q : Nat, s.heap.size ≤ q → A q := fun q h => by rw [← hAe]; exact Or.inr h
  have hG := gA_of hAe
  have hS : va_S A s.heap s.heap [] := va_S.rf
  have hF : gF (dC, dI) SKc G ([(13, 2), (13, 3), (13, 4), (13, 5), (13, 6), (13, 7), (13, 8), (13, 9), (13, 10), (13, 11), (36, 0), (37, 0)] : List (Nat × Nat)) s.heap s.heap := gF.rf
  have hl := lv_entry ([.ref o0, .ref p0]) (n := 2) (Nat.le_of_ble_eq_true rfl)
  rw [lg_entry_eq]
  generalize (lg_sl ([.ref o0, .ref p0]) ++ List.replicate (2 - (lg_sl ([.ref o0, .ref p0])).length) Slot.unset).toArray = ls at hl ⊢
  have hl : lv_has ls 2 [(0, .ref o0), (1, .ref p0)] := hl
  refine lv_aload_n hx hb dX10_copyFrom_0 rfl (lv_at hl 1 rfl) ?_
  refine tw_get hx hb hts bF2_X10 hown hK hT hr_p0 shc_94 rfl 0 (by decide) (ht_at2 hts 0 rfl) (fun _ h9 => h9) dX10_copyFrom_1 (fun v9 m1 h9 => ?_)
  obtain ⟨b2, rfl, hg3⟩ := h9 _ rfl
  refine lv_iconst (v := 0) hx hb dX10_copyFrom_4 (by decide) ?_
  refine lv_aload_n hx hb dX10_copyFrom_5 rfl (lv_at hl 0 rfl) ?_
  refine tw_get hx hb hts bF2_X10 hown hK hT hr_o0 shc_13 rfl 0 (by decide) (ht_at2 hts 0 rfl) (fun _ h9 => h9) dX10_copyFrom_6 (fun v9 m4 h9 => ?_)
  obtain ⟨b5, rfl, hg6⟩ := h9 _ rfl
  refine lv_iconst (v := 0) hx hb dX10_copyFrom_9 (by decide) ?_
  refine lv_bipush (v := 6) hx hb dX10_copyFrom_10 (by decide) ?_
  refine tw_copy (ty := .int) hx hb (hml.trans hl.1.symm) hown (ht_at2 hts 1 rfl) (ht_at2 hts 2 rfl) (ht_at2 hts 3 rfl) (ht_at2 hts 4 rfl) hK hT hG hS hg3 hg6 shc_88 shc_36 rfl rfl (by decide) (by decide) (by decide) (by decide) (by decide) (fun _ _ h9 => by obtain ⟨x9, e9, _⟩ := h9; exact ⟨x9, e9, rfl⟩) (fun _ _ _ h9 => h9) (Nat.le_of_ble_eq_true rfl) (Nat.le_of_ble_eq_true rfl) dX10_copyFrom_12 (fun H locs hT oq hS => ?_)
  have hF := hF.ast hg6 skc_36 oq (by decide)
  refine lv_aload_n hx hb dX10_copyFrom_15 rfl (lv_at hl 1 rfl) ?_
  refine tw_get hx hb hts bF2_X10 hown hK hT hr_p0 shc_94 rfl 1 (by decide) (ht_at2 hts 5 rfl) (fun _ h9 => h9) dX10_copyFrom_16 (fun v9 m9 h9 => ?_)
  obtain ⟨b10, rfl, hg11⟩ := h9 _ rfl
  refine lv_iconst (v := 0) hx hb dX10_copyFrom_19 (by decide) ?_
  refine lv_aload_n hx hb dX10_copyFrom_20 rfl (lv_at hl 0 rfl) ?_
  refine tw_get hx hb hts bF2_X10 hown hK hT hr_o0 shc_13 rfl 1 (by decide) (ht_at2 hts 5 rfl) (fun _ h9 => h9) dX10_copyFrom_21 (fun v9 m12 h9 => ?_)
  obtain ⟨b13, rfl, hg14⟩ := h9 _ rfl
  refine lv_iconst (v := 0) hx hb dX10_copyFrom_24 (by decide) ?_
  refine lv_bipush (v := 6) hx hb dX10_copyFrom_25 (by decide) ?_
  refine tw_copy (ty := .int) hx hb (hml.trans hl.1.symm) hown (ht_at2 hts 1 rfl) (ht_at2 hts 2 rfl) (ht_at2 hts 3 rfl) (ht_at2 hts 4 rfl) hK hT hG hS hg11 hg14 shc_89 shc_37 rfl rfl (by decide) (by decide) (by decide) (by decide) (by decide) (fun _ _ h9 => by obtain ⟨x9, e9, _⟩ := h9; exact ⟨x9, e9, rfl⟩) (fun _ _ _ h9 => h9) (Nat.le_of_ble_eq_true rfl) (Nat.le_of_ble_eq_true rfl) dX10_copyFrom_27 (fun H locs hT oq hS => ?_)
  have hF := hF.ast hg14 skc_37 oq (by decide)
  refine lv_aload_n hx hb dX10_copyFrom_30 rfl (lv_at hl 0 rfl) ?_
  refine lv_aload_n hx hb dX10_copyFrom_31 rfl (lv_at hl 1 rfl) ?_
  refine tw_get hx hb hts bF2_X10 hown hK hT hr_p0 shc_94 rfl 2 (by decide) (ht_at2 hts 6 rfl) (fun _ h9 => h9) dX10_copyFrom_32 (fun v9 m19 h9 => ?_)
  obtain ⟨x20, rfl, gx20, kx20⟩ := h9 _ rfl
  refine tw_put (v := .int x20) (ty := .int) hx hb hts bF2_X10 tyX10 tyX10_ok nmX10 hown hK hT hG hS hr_o0 shc_13 rfl 2 (by decide) (ht_at2 hts 6 rfl) (fun _ h9 => h9) rfl (by decide +kernel) rfl rfl (gl_at rfl (gi_all _)) dX10_copyFrom_35 (fun H locs hT oq m21 oj hS => ?_)
  have hF := hF.put hr_o0 skc_13 oq oj (by decide)
  refine lv_aload_n hx hb dX10_copyFrom_38 rfl (lv_at hl 0 rfl) ?_
  refine lv_aload_n hx hb dX10_copyFrom_39 rfl (lv_at hl 1 rfl) ?_
  refine tw_get hx hb hts bF2_X10 hown hK hT hr_p0 shc_94 rfl 3 (by decide) (ht_at2 hts 7 rfl) (fun _ h9 => h9) dX10_copyFrom_40 (fun v9 m27 h9 => ?_)
  obtain ⟨x28, rfl, gx28, kx28⟩ := h9 _ rfl
  refine tw_put (v := .int x28) (ty := .int) hx hb hts bF2_X10 tyX10 tyX10_ok nmX10 hown hK hT hG hS hr_o0 shc_13 rfl 3 (by decide) (ht_at2 hts 7 rfl) (fun _ h9 => h9) rfl (by decide +kernel) rfl rfl (gl_at rfl (gi_of (show x28.toInt = x28.toInt from rfl) (by omega) (by omega))) dX10_copyFrom_43 (fun H locs hT oq m29 oj hS => ?_)
  have hF := hF.put hr_o0 skc_13 oq oj (by decide)
  refine lv_aload_n hx hb dX10_copyFrom_46 rfl (lv_at hl 0 rfl) ?_
  refine lv_aload_n hx hb dX10_copyFrom_47 rfl (lv_at hl 1 rfl) ?_
  refine tw_get hx hb hts bF2_X10 hown hK hT hr_p0 shc_94 rfl 4 (by decide) (ht_at2 hts 8 rfl) (fun _ h9 => h9) dX10_copyFrom_48 (fun v9 m37 h9 => ?_)
  obtain ⟨x38, rfl, gx38, kx38⟩ := h9 _ rfl
  refine tw_put (v := .int x38) (ty := .int) hx hb hts bF2_X10 tyX10 tyX10_ok nmX10 hown hK hT hG hS hr_o0 shc_13 rfl 4 (by decide) (ht_at2 hts 8 rfl) (fun _ h9 => h9) rfl (by decide +kernel) rfl rfl (gl_at rfl (gi_of (show x38.toInt = x38.toInt from rfl) (by omega) (by omega))) dX10_copyFrom_51 (fun H locs hT oq m39 oj hS => ?_)
  have hF := hF.put hr_o0 skc_13 oq oj (by decide)
  refine lv_aload_n hx hb dX10_copyFrom_54 rfl (lv_at hl 0 rfl) ?_
  refine lv_aload_n hx hb dX10_copyFrom_55 rfl (lv_at hl 1 rfl) ?_
  refine tw_get hx hb hts bF2_X10 hown hK hT hr_p0 shc_94 rfl 5 (by decide) (ht_at2 hts 9 rfl) (fun _ h9 => h9) dX10_copyFrom_56 (fun v9 m49 h9 => ?_)
  obtain ⟨x50, rfl, gx50, kx50⟩ := h9 _ rfl
  refine tw_put (v := .int x50) (ty := .int) hx hb hts bF2_X10 tyX10 tyX10_ok nmX10 hown hK hT hG hS hr_o0 shc_13 rfl 5 (by decide) (ht_at2 hts 9 rfl) (fun _ h9 => h9) rfl (by decide +kernel) rfl rfl (gl_at rfl (gi_all _)) dX10_copyFrom_59 (fun H locs hT oq m51 oj hS => ?_)
  have hF := hF.put hr_o0 skc_13 oq oj (by decide)
  refine lv_aload_n hx hb dX10_copyFrom_62 rfl (lv_at hl 0 rfl) ?_
  refine lv_aload_n hx hb dX10_copyFrom_63 rfl (lv_at hl 1 rfl) ?_
  refine tw_get hx hb hts bF2_X10 hown hK hT hr_p0 shc_94 rfl 6 (by decide) (ht_at2 hts 10 rfl) (fun _ h9 => h9) dX10_copyFrom_64 (fun v9 m63 h9 => ?_)
  obtain ⟨x64, rfl, gx64, kx64⟩ := h9 _ rfl
  refine tw_put (v := .int x64) (ty := .int) hx hb hts bF2_X10 tyX10 tyX10_ok nmX10 hown hK hT hG hS hr_o0 shc_13 rfl 6 (by decide) (ht_at2 hts 10 rfl) (fun _ h9 => h9) rfl (by decide +kernel) rfl rfl (gl_at rfl (gi_all _)) dX10_copyFrom_67 (fun H locs hT oq m65 oj hS => ?_)
  have hF := hF.put hr_o0 skc_13 oq oj (by decide)
  refine lv_aload_n hx hb dX10_copyFrom_70 rfl (lv_at hl 0 rfl) ?_
  refine lv_aload_n hx hb dX10_copyFrom_71 rfl (lv_at hl 1 rfl) ?_
  refine tw_get hx hb hts bF2_X10 hown hK hT hr_p0 shc_94 rfl 7 (by decide) (ht_at2 hts 11 rfl) (fun _ h9 => h9) dX10_copyFrom_72 (fun v9 m79 h9 => ?_)
  obtain ⟨x80, rfl, gx80, kx80⟩ := h9 _ rfl
  refine tw_put (v := .int x80) (ty := .int) hx hb hts bF2_X10 tyX10 tyX10_ok nmX10 hown hK hT hG hS hr_o0 shc_13 rfl 7 (by decide) (ht_at2 hts 11 rfl) (fun _ h9 => h9) rfl (by decide +kernel) rfl rfl (gl_at rfl (gi_of (show x80.toInt = x80.toInt from rfl) (by omega) (by omega))) dX10_copyFrom_75 (fun H locs hT oq m81 oj hS => ?_)
  have hF := hF.put hr_o0 skc_13 oq oj (by decide)
  refine lv_aload_n hx hb dX10_copyFrom_78 rfl (lv_at hl 0 rfl) ?_
  refine lv_aload_n hx hb dX10_copyFrom_79 rfl (lv_at hl 1 rfl) ?_
  refine tw_get hx hb hts bF2_X10 hown hK hT hr_p0 shc_94 rfl 8 (by decide) (ht_at2 hts 12 rfl) (fun _ h9 => h9) dX10_copyFrom_80 (fun v9 m97 h9 => ?_)
  obtain ⟨x98, rfl, gx98, kx98⟩ := h9 _ rfl
  refine tw_put (v := .int x98) (ty := .int) hx hb hts bF2_X10 tyX10 tyX10_ok nmX10 hown hK hT hG hS hr_o0 shc_13 rfl 8 (by decide) (ht_at2 hts 12 rfl) (fun _ h9 => h9) rfl (by decide +kernel) rfl rfl (gl_at rfl (gi_all _)) dX10_copyFrom_83 (fun H locs hT oq m99 oj hS => ?_)
  have hF := hF.put hr_o0 skc_13 oq oj (by decide)
  refine lv_aload_n hx hb dX10_copyFrom_86 rfl (lv_at hl 0 rfl) ?_
  refine lv_aload_n hx hb dX10_copyFrom_87 rfl (lv_at hl 1 rfl) ?_
  refine tw_get hx hb hts bF2_X10 hown hK hT hr_p0 shc_94 rfl 9 (by decide) (ht_at2 hts 13 rfl) (fun _ h9 => h9) dX10_copyFrom_88 (fun v9 m117 h9 => ?_)
  obtain ⟨x118, rfl, gx118, kx118⟩ := h9 _ rfl
  refine tw_put (v := .int x118) (ty := .boolean) hx hb hts bF2_X10 tyX10 tyX10_ok nmX10 hown hK hT hG hS hr_o0 shc_13 rfl 9 (by decide) (ht_at2 hts 13 rfl) (fun _ h9 => h9) rfl (by decide +kernel) (nar_b (by have q8 := ti_all x118; omega)) (fit_b (by have q8 := ti_all x118; omega)) (gl_at rfl (gi_of (show x118.toInt = x118.toInt from rfl) (by omega) (by omega))) dX10_copyFrom_91 (fun H locs hT oq m119 oj hS => ?_)
  have hF := hF.put hr_o0 skc_13 oq oj (by decide)
  refine lv_aload_n hx hb dX10_copyFrom_94 rfl (lv_at hl 0 rfl) ?_
  refine lv_aload_n hx hb dX10_copyFrom_95 rfl (lv_at hl 1 rfl) ?_
  refine tw_get hx hb hts bF2_X10 hown hK hT hr_p0 shc_94 rfl 10 (by decide) (ht_at2 hts 14 rfl) (fun _ h9 => h9) dX10_copyFrom_96 (fun v9 m139 h9 => ?_)
  obtain ⟨x140, rfl, gx140, kx140⟩ := h9 _ rfl
  refine tw_put (v := .int x140) (ty := .int) hx hb hts bF2_X10 tyX10 tyX10_ok nmX10 hown hK hT hG hS hr_o0 shc_13 rfl 10 (by decide) (ht_at2 hts 14 rfl) (fun _ h9 => h9) rfl (by decide +kernel) rfl rfl (gl_at rfl (gi_all _)) dX10_copyFrom_99 (fun H locs hT oq m141 oj hS => ?_)
  have hF := hF.put hr_o0 skc_13 oq oj (by decide)
  refine lv_aload_n hx hb dX10_copyFrom_102 rfl (lv_at hl 0 rfl) ?_
  refine lv_aload_n hx hb dX10_copyFrom_103 rfl (lv_at hl 1 rfl) ?_
  refine tw_get hx hb hts bF2_X10 hown hK hT hr_p0 shc_94 rfl 11 (by decide) (ht_at2 hts 15 rfl) (fun _ h9 => h9) dX10_copyFrom_104 (fun v9 m163 h9 => ?_)
  obtain ⟨x164, rfl, gx164, kx164⟩ := h9 _ rfl
  refine tw_put (v := .int x164) (ty := .int) hx hb hts bF2_X10 tyX10 tyX10_ok nmX10 hown hK hT hG hS hr_o0 shc_13 rfl 11 (by decide) (ht_at2 hts 15 rfl) (fun _ h9 => h9) rfl (by decide +kernel) rfl rfl (gl_at rfl (gi_all _)) dX10_copyFrom_107 (fun H locs hT oq m165 oj hS => ?_)
  have hF := hF.put hr_o0 skc_13 oq oj (by decide)
  exact W.vret hx hb hr (fun t ht hW => ⟨⟨(), rfl, (by exact trivial), by (try dsimp only); rw [ht]; exact ⟨hT, hF⟩⟩, hS.F ht⟩) hS.2.2 dX10_copyFrom_110
