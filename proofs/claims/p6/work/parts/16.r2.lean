def w_s_isLand : List Cond := .code yX12_isLand cX12_isLand 2 (some .boolean) :: ([.fieldLink RX12 9 "SeaLandModel" "world" "[I"] ++ bs)
set_option maxHeartbeats 4000000 in
set_option maxRecDepth 100000 in
theorem s_isLand (l : Launch) (dC : Nat → ClassId) (dI : Nat → Nat → Nat) (kA : Nat → ClassId) (G : gT) (H0 : Heap) (q : Nat → Nat) (wN wH wB wC : Int) (wL wK : Nat → Prop) (PI : Nat → Int → Prop) (o0 : Nat) (sq : Int32) (hT : gH (dC, dI) kA (SHm q (wP wN wH wB wC wC wL wK) PI) G H0) (hr_o0 : G o0 = some 0) (hq0 : 0 ≤ sq.toInt ∧ sq.toInt ≤ 95) (hgn : 6500000 ≤ wN ∧ wN ≤ 400000000) (hgh : 0 ≤ wH ∧ wH ≤ 40000) (hgb : 0 ≤ wB ∧ wB ≤ 3850000) (hgc : 0 ≤ wC ∧ wC ≤ 30) : Met l yX12_isLand w_s_isLand ({ frames := 0, cells := 0, slots := 0, locals := 0 }) (va_Pc [.ref o0, .int sq] (fun U => U.heap = H0 ∧ va_K (dC, dI) vwCl (tyl kA) U ∧ EV (gA G H0.size) U U.heap)) (va_Qi (fun (r : Int32) (u : Unit) => (0 ≤ r.toInt ∧ r.toInt ≤ 1)) (fun (_ : Unit) (t : State) => gH (dC, dI) kA (SHm q (wP wN wH wB wC wC wL wK) PI) G t.heap ∧ gF (dC, dI) SKm G ([] : List (Nat × Nat)) H0 t.heap) (gA G H0.size)) 0 0 (gA G H0.size) := by
  refine Met.ofW (cc := cX12_isLand) (maxL := 2) (ret := (some .boolean)) (by decide) rfl ?_
  intro p e s m args below meth c s₁ B hml hv
  obtain ⟨rfl, hH0, hK, hE⟩ := hv
  have hx := B.exec
  have hb := B.bytes
  have hr := B.returns
  have hts := atoms_spec (ws := w_s_isLand) B.pre
  have hown : s.vm.findClass RX12 = some m.cls := findClass_of_methodNamed B.named
  have hlocks := B.notSynchronized
  subst hH0
  generalize hAe : gA G s.heap.size = A at hE ⊢
  have hA : ∀ q : Nat, s.heap.size ≤ q → A q := fun q h => by rw [← hAe]; exact Or.inr h
  have hG := gA_of hAe
  have hS : va_S A s.heap s.heap [] := va_S.rf
  have hF : gF (dC, dI) SKm G ([] : List (Nat × Nat)) s.heap s.heap := gF.rf
  have hl := lv_entry ([.ref o0, .int sq]) (n := 2) (Nat.le_of_ble_eq_true rfl)
  rw [lg_entry_eq]
  generalize (lg_sl ([.ref o0, .int sq]) ++ List.replicate (2 - (lg_sl ([.ref o0, .int sq])).length) Slot.unset).toArray = ls at hl ⊢
  have hl : lv_has ls 2 [(0, .ref o0), (1, .int sq)] := hl
  refine lv_aload_n hx hb dX12_isLand_0 rfl (lv_at hl 0 rfl) ?_
  refine tw_get hx hb hts bF_X12 hown hK hT hr_o0 shm_0 rfl 1 (by decide) (ht_at hts 0 rfl) (fun _ h9 => h9) dX12_isLand_1 (fun v9 m1 h9 => ?_)
  obtain ⟨rfl, hg2⟩ := h9 _ rfl
  refine lv_iconst (v := 0) hx hb dX12_isLand_4 (by decide) ?_
  refine lv_iload_n hx hb dX12_isLand_5 rfl (lv_at hl 1 rfl) ?_
  refine lv_iadd hx hb dX12_isLand_6 ?_
  refine lv_topi (fun x3 ex3 => ?_)
  have t4 : x3.toInt = 0 + sq.toInt := ti_add ex3 (by decide) rfl (by omega) (by omega)
  refine tw_iald (i := x3) hx hb hK hT hg2 shm_2 rfl (vin_t (a := x3.toInt) rfl (by omega) (by omega)) dX12_isLand_7 (fun v9 m5 h9 => ?_)
  obtain ⟨x6, rfl, gx6, kx6⟩ := (gp_at h9 (w_fre (by have q9 := tn_of (show x3.toInt = x3.toInt from rfl) (show (0 : Int) ≤ x3.toInt from by omega); omega)))
  refine lv_iconst (v := 1) hx hb dX12_isLand_8 (by decide) ?_
  refine lv_icmp_ne (tgt := 16) hx hb dX12_isLand_9 (by decide) (fun c7 => ?_) (fun c7 => ?_)
  · have t8 : x6.toInt ≠ 1 := ti_ne c7 rfl (by decide)
    refine lv_iconst (v := 0) hx hb dX12_isLand_16 (by decide) ?_
    exact W.zret (v := 0) hx hb hr (by decide) (fun t ht hW => ⟨⟨0, (), rfl, (by exact (rg_t (a := 0) (by decide) (by omega) (by omega))), by (try dsimp only); rw [ht]; exact ⟨hT, hF⟩⟩, hS.F ht⟩) hS.2.2 dX12_isLand_17
  · have t9 : x6.toInt = 1 := ti_eq c7 rfl (by decide)
    refine lv_iconst (v := 1) hx hb dX12_isLand_12 (by decide) ?_
    refine lv_goto (tgt := 17) hx hb dX12_isLand_13 (by decide) ?_
    exact W.zret (v := 1) hx hb hr (by decide) (fun t ht hW => ⟨⟨1, (), rfl, (by exact (rg_t (a := 1) (by decide) (by omega) (by omega))), by (try dsimp only); rw [ht]; exact ⟨hT, hF⟩⟩, hS.F ht⟩) hS.2.2 dX12_isLand_17
def w_s_steps : List Cond := .code yX12_steps cX12_steps 2 (some .int) :: ([.methodLink RX12 201 Lib.Math.abs.name, .static Lib.Math.abs.name, .initialized "java/lang/Math", .code Lib.Math.abs.name Lib.Math.abs.code 1 (some .int)] ++ bs)
set_option maxHeartbeats 4000000 in
set_option maxRecDepth 100000 in
theorem s_steps (l : Launch) (dC : Nat → ClassId) (dI : Nat → Nat → Nat) (kA : Nat → ClassId) (G : gT) (H0 : Heap) (q : Nat → Nat) (wN wH wB wC : Int) (wL wK : Nat → Prop) (PI : Nat → Int → Prop) (a1 : Int32) (a2 : Int32) (hT : gH (dC, dI) kA (SHm q (wP wN wH wB wC wC wL wK) PI) G H0) (hgn : 6500000 ≤ wN ∧ wN ≤ 400000000) (hgh : 0 ≤ wH ∧ wH ≤ 40000) (hgb : 0 ≤ wB ∧ wB ≤ 3850000) (hgc : 0 ≤ wC ∧ wC ≤ 30) : Met l yX12_steps w_s_steps ({ frames := 1, cells := 0, slots := 0, locals := 40 }) (va_Pc [.int a1, .int a2] (fun U => U.heap = H0 ∧ va_K (dC, dI) vwCl (tyl kA) U ∧ EV (gA G H0.size) U U.heap)) (va_Qi (fun (r : Int32) (u : Unit) => True) (fun (_ : Unit) (t : State) => gH (dC, dI) kA (SHm q (wP wN wH wB wC wC wL wK) PI) G t.heap ∧ gF (dC, dI) SKm G ([] : List (Nat × Nat)) H0 t.heap) (gA G H0.size)) 0 0 (gA G H0.size) := by
  refine Met.ofW (cc := cX12_steps) (maxL := 2) (ret := (some .int)) (by decide) rfl ?_
  intro p e s m args below meth c s₁ B hml hv
  obtain ⟨rfl, hH0, hK, hE⟩ := hv
  have hx := B.exec
  have hb := B.bytes
  have hr := B.returns
  have hts := atoms_spec (ws := w_s_steps) B.pre
  have hown : s.vm.findClass RX12 = some m.cls := findClass_of_methodNamed B.named
  have hlocks := B.notSynchronized
  subst hH0
  generalize hAe : gA G s.heap.size = A at hE ⊢
  have hA : ∀ q : Nat, s.heap.size ≤ q → A q := fun q h => by rw [← hAe]; exact Or.inr h
  have hG := gA_of hAe
  have hS : va_S A s.heap s.heap [] := va_S.rf
  have hF : gF (dC, dI) SKm G ([] : List (Nat × Nat)) s.heap s.heap := gF.rf
  have hl := lv_entry ([.int a1, .int a2]) (n := 2) (Nat.le_of_ble_eq_true rfl)
  rw [lg_entry_eq]
  generalize (lg_sl ([.int a1, .int a2]) ++ List.replicate (2 - (lg_sl ([.int a1, .int a2])).length) Slot.unset).toArray = ls at hl ⊢
  have hl : lv_has ls 2 [(0, .int a1), (1, .int a2)] := hl
  refine lv_iload_n hx hb dX12_steps_0 rfl (lv_at hl 0 rfl) ?_
  refine lv_bipush (v := 12) hx hb dX12_steps_1 (by decide) ?_
  refine lv_irem hx hb dX12_steps_3 (by decide) ?_
  refine lv_topi (fun x1 ex1 => ?_)
  refine lv_iload_n hx hb dX12_steps_4 rfl (lv_at hl 1 rfl) ?_
  refine lv_bipush (v := 12) hx hb dX12_steps_5 (by decide) ?_
  refine lv_irem hx hb dX12_steps_7 (by decide) ?_
  refine lv_topi (fun x2 ex2 => ?_)
  refine lv_isub hx hb dX12_steps_8 ?_
  refine lv_topi (fun x3 ex3 => ?_)
  refine va_mabs hx hb (hml.trans hl.1.symm) hown (ht_at hts 0 rfl) (ht_at hts 1 rfl) (ht_at hts 2 rfl) (ht_at hts 3 rfl) (Nat.le_of_ble_eq_true rfl) (Nat.le_of_ble_eq_true rfl) (Nat.le_of_ble_eq_true rfl) (Nat.le_of_ble_eq_true rfl) dX12_steps_9 ?_
  refine lv_topi (fun x4 ex4 => ?_)
  refine lv_iload_n hx hb dX12_steps_12 rfl (lv_at hl 0 rfl) ?_
  refine lv_bipush (v := 12) hx hb dX12_steps_13 (by decide) ?_
  have t5 : -2147483648 ≤ a1.toInt ∧ a1.toInt ≤ 2147483647 := ti_all a1
  refine lv_idiv hx hb dX12_steps_15 (by decide) ?_
  refine lv_topi (fun x6 ex6 => ?_)
  have t7 : (0 ≤ a1.toInt ∧ x6.toInt = a1.toInt / 12) ∨ (a1.toInt < 0 ∧ x6.toInt = -((-a1.toInt) / 12)) := ti_divs ex6 rfl (by decide) (by decide)
  refine lv_iload_n hx hb dX12_steps_16 rfl (lv_at hl 1 rfl) ?_
  refine lv_bipush (v := 12) hx hb dX12_steps_17 (by decide) ?_
  have t8 : -2147483648 ≤ a2.toInt ∧ a2.toInt ≤ 2147483647 := ti_all a2
  refine lv_idiv hx hb dX12_steps_19 (by decide) ?_
  refine lv_topi (fun x9 ex9 => ?_)
  have t10 : (0 ≤ a2.toInt ∧ x9.toInt = a2.toInt / 12) ∨ (a2.toInt < 0 ∧ x9.toInt = -((-a2.toInt) / 12)) := ti_divs ex9 rfl (by decide) (by decide)
  refine lv_isub hx hb dX12_steps_20 ?_
  refine lv_topi (fun x11 ex11 => ?_)
  have t12 : x11.toInt = x6.toInt - x9.toInt := ti_sub ex11 rfl rfl (by omega) (by omega)
  refine va_mabs hx hb (hml.trans hl.1.symm) hown (ht_at hts 0 rfl) (ht_at hts 1 rfl) (ht_at hts 2 rfl) (ht_at hts 3 rfl) (Nat.le_of_ble_eq_true rfl) (Nat.le_of_ble_eq_true rfl) (Nat.le_of_ble_eq_true rfl) (Nat.le_of_ble_eq_true rfl) dX12_steps_21 ?_
  refine lv_topi (fun x13 ex13 => ?_)
  refine lv_iadd hx hb dX12_steps_24 ?_
  refine lv_topi (fun x14 ex14 => ?_)
  exact W.iret (v := x14) hx hb hr (fun t ht hW => ⟨⟨x14, (), rfl, (by exact trivial), by (try dsimp only); rw [ht]; exact ⟨hT, hF⟩⟩, hS.F ht⟩) hS.2.2 dX12_steps_25
def w_s_beside : List Cond := .code yX12_beside cX12_beside 2 (some .int) :: ([] ++ bs)
set_option maxHeartbeats 4000000 in
set_option maxRecDepth 100000 in
theorem s_beside (l : Launch) (dC : Nat → ClassId) (dI : Nat → Nat → Nat) (kA : Nat → ClassId) (G : gT) (H0 : Heap) (q : Nat → Nat) (wN wH wB wC : Int) (wL wK : Nat → Prop) (PI : Nat → Int → Prop) (sq : Int32) (wy : Int32) (hT : gH (dC, dI) kA (SHm q (wP wN wH wB wC wC wL wK) PI) G H0) (hq0 : 0 ≤ sq.toInt ∧ sq.toInt ≤ 95) (hgn : 6500000 ≤ wN ∧ wN ≤ 400000000) (hgh : 0 ≤ wH ∧ wH ≤ 40000) (hgb : 0 ≤ wB ∧ wB ≤ 3850000) (hgc : 0 ≤ wC ∧ wC ≤ 30) : Met l yX12_beside w_s_beside ({ frames := 0, cells := 0, slots := 0, locals := 0 }) (va_Pc [.int sq, .int wy] (fun U => U.heap = H0 ∧ va_K (dC, dI) vwCl (tyl kA) U ∧ EV (gA G H0.size) U U.heap)) (va_Qi (fun (r : Int32) (u : Unit) => (-1 ≤ r.toInt ∧ r.toInt ≤ 96)) (fun (_ : Unit) (t : State) => gH (dC, dI) kA (SHm q (wP wN wH wB wC wC wL wK) PI) G t.heap ∧ gF (dC, dI) SKm G ([] : List (Nat × Nat)) H0 t.heap) (gA G H0.size)) 0 0 (gA G H0.size) := by
  refine Met.ofW (cc := cX12_beside) (maxL := 2) (ret := (some .int)) (by decide) rfl ?_
  intro p e s m args below meth c s₁ B hml hv
  obtain ⟨rfl, hH0, hK, hE⟩ := hv
  have hx := B.exec
  have hb := B.bytes
  have hr := B.returns
  have hts := atoms_spec (ws := w_s_beside) B.pre
  have hown : s.vm.findClass RX12 = some m.cls := findClass_of_methodNamed B.named
  have hlocks := B.notSynchronized
  subst hH0
  generalize hAe : gA G s.heap.size = A at hE ⊢
  have hA : ∀ q : Nat, s.heap.size ≤ q → A q := fun q h => by rw [← hAe]; exact Or.inr h
  have hG := gA_of hAe
  have hS : va_S A s.heap s.heap [] := va_S.rf
  have hF : gF (dC, dI) SKm G ([] : List (Nat × Nat)) s.heap s.heap := gF.rf
  have hl := lv_entry ([.int sq, .int wy]) (n := 2) (Nat.le_of_ble_eq_true rfl)
  rw [lg_entry_eq]
  generalize (lg_sl ([.int sq, .int wy]) ++ List.replicate (2 - (lg_sl ([.int sq, .int wy])).length) Slot.unset).toArray = ls at hl ⊢
  have hl : lv_has ls 2 [(0, .int sq), (1, .int wy)] := hl
  refine lv_iload_n hx hb dX12_beside_0 rfl (lv_at hl 1 rfl) ?_
  by_cases hs1 : wy = 0
  · subst hs1
    refine lv_tableIn (x := 0) (off := 27) (tgt := 28) hx hb dX12_beside_1 (by decide) (by decide) (by decide) (by decide) ?_
    refine lv_iload_n hx hb dX12_beside_28 rfl (lv_at hl 0 rfl) ?_
    refine lv_bipush (v := 12) hx hb dX12_beside_29 (by decide) ?_
    refine lv_icmp_lt (tgt := 41) hx hb dX12_beside_31 (by decide) (fun c2 => ?_) (fun c2 => ?_)
    · have t3 : sq.toInt < 12 := ti_lt c2 rfl (by decide)
      refine lv_iconst (v := (-1)) hx hb dX12_beside_41 (by decide) ?_
      exact W.iret (v := (-1)) hx hb hr (fun t ht hW => ⟨⟨(-1), (), rfl, (by exact (rg_t (a := (-1)) (by decide) (by omega) (by omega))), by (try dsimp only); rw [ht]; exact ⟨hT, hF⟩⟩, hS.F ht⟩) hS.2.2 dX12_beside_42
    · have t4 : 12 ≤ sq.toInt := ti_nlt c2 rfl (by decide)
      refine lv_iload_n hx hb dX12_beside_34 rfl (lv_at hl 0 rfl) ?_
      refine lv_bipush (v := 12) hx hb dX12_beside_35 (by decide) ?_
      refine lv_isub hx hb dX12_beside_37 ?_
      refine lv_topi (fun x5 ex5 => ?_)
      have t6 : x5.toInt = sq.toInt - 12 := ti_sub ex5 rfl (by decide) (by omega) (by omega)
      refine lv_goto (tgt := 42) hx hb dX12_beside_38 (by decide) ?_
      exact W.iret (v := x5) hx hb hr (fun t ht hW => ⟨⟨x5, (), rfl, (by exact (rg_t (a := x5.toInt) rfl (by have q8 := ti_all x5; omega) (by have q8 := ti_all x5; omega))), by (try dsimp only); rw [ht]; exact ⟨hT, hF⟩⟩, hS.F ht⟩) hS.2.2 dX12_beside_42
  by_cases hs7 : wy = 1
  · subst hs7
    refine lv_tableIn (x := 1) (off := 42) (tgt := 43) hx hb dX12_beside_1 (by decide) (by decide) (by decide) (by decide) ?_
    refine lv_iload_n hx hb dX12_beside_43 rfl (lv_at hl 0 rfl) ?_
    refine lv_bipush (v := 12) hx hb dX12_beside_44 (by decide) ?_
    refine lv_irem hx hb dX12_beside_46 (by decide) ?_
    refine lv_topi (fun x8 ex8 => ?_)
    have t9 : x8.toInt = sq.toInt % 12 := ti_rem ex8 rfl (by decide) (by omega) (by omega)
    refine lv_if_le (tgt := 56) hx hb dX12_beside_47 (by decide) (fun c10 => ?_) (fun c10 => ?_)
    · have t11 : x8.toInt ≤ 0 := ti_le c10 rfl (by decide)
      refine lv_iconst (v := (-1)) hx hb dX12_beside_56 (by decide) ?_
      exact W.iret (v := (-1)) hx hb hr (fun t ht hW => ⟨⟨(-1), (), rfl, (by exact (rg_t (a := (-1)) (by decide) (by omega) (by omega))), by (try dsimp only); rw [ht]; exact ⟨hT, hF⟩⟩, hS.F ht⟩) hS.2.2 dX12_beside_57
    · have t12 : 0 < x8.toInt := ti_nle c10 rfl (by decide)
      refine lv_iload_n hx hb dX12_beside_50 rfl (lv_at hl 0 rfl) ?_
      refine lv_iconst (v := 1) hx hb dX12_beside_51 (by decide) ?_
      refine lv_isub hx hb dX12_beside_52 ?_
      refine lv_topi (fun x13 ex13 => ?_)
      have t14 : x13.toInt = sq.toInt - 1 := ti_sub ex13 rfl (by decide) (by omega) (by omega)
      refine lv_goto (tgt := 57) hx hb dX12_beside_53 (by decide) ?_
      exact W.iret (v := x13) hx hb hr (fun t ht hW => ⟨⟨x13, (), rfl, (by exact (rg_t (a := x13.toInt) rfl (by have q8 := ti_all x13; omega) (by have q8 := ti_all x13; omega))), by (try dsimp only); rw [ht]; exact ⟨hT, hF⟩⟩, hS.F ht⟩) hS.2.2 dX12_beside_57
  by_cases hs15 : wy = 2
  · subst hs15
    refine lv_tableIn (x := 2) (off := 57) (tgt := 58) hx hb dX12_beside_1 (by decide) (by decide) (by decide) (by decide) ?_
    refine lv_iload_n hx hb dX12_beside_58 rfl (lv_at hl 0 rfl) ?_
    refine lv_bipush (v := 12) hx hb dX12_beside_59 (by decide) ?_
    refine lv_irem hx hb dX12_beside_61 (by decide) ?_
    refine lv_topi (fun x16 ex16 => ?_)
    have t17 : x16.toInt = sq.toInt % 12 := ti_rem ex16 rfl (by decide) (by omega) (by omega)
    refine lv_bipush (v := 11) hx hb dX12_beside_62 (by decide) ?_
    refine lv_icmp_ge (tgt := 73) hx hb dX12_beside_64 (by decide) (fun c18 => ?_) (fun c18 => ?_)
    · have t19 : 11 ≤ x16.toInt := ti_le c18 (by decide) rfl
      refine lv_iconst (v := (-1)) hx hb dX12_beside_73 (by decide) ?_
      exact W.iret (v := (-1)) hx hb hr (fun t ht hW => ⟨⟨(-1), (), rfl, (by exact (rg_t (a := (-1)) (by decide) (by omega) (by omega))), by (try dsimp only); rw [ht]; exact ⟨hT, hF⟩⟩, hS.F ht⟩) hS.2.2 dX12_beside_74
    · have t20 : x16.toInt < 11 := ti_nle c18 (by decide) rfl
      refine lv_iload_n hx hb dX12_beside_67 rfl (lv_at hl 0 rfl) ?_
      refine lv_iconst (v := 1) hx hb dX12_beside_68 (by decide) ?_
      refine lv_iadd hx hb dX12_beside_69 ?_
      refine lv_topi (fun x21 ex21 => ?_)
      have t22 : x21.toInt = sq.toInt + 1 := ti_add ex21 rfl (by decide) (by omega) (by omega)
      refine lv_goto (tgt := 74) hx hb dX12_beside_70 (by decide) ?_
      exact W.iret (v := x21) hx hb hr (fun t ht hW => ⟨⟨x21, (), rfl, (by exact (rg_t (a := x21.toInt) rfl (by have q8 := ti_all x21; omega) (by have q8 := ti_all x21; omega))), by (try dsimp only); rw [ht]; exact ⟨hT, hF⟩⟩, hS.F ht⟩) hS.2.2 dX12_beside_74
  have ho23 : wy.toInt < 0 ∨ 2 < wy.toInt := by
    have ehs1 : wy.toInt ≠ 0 := fun e => hs1 (Int32.toInt_inj.mp (e.trans (by decide)))
    have ehs7 : wy.toInt ≠ 1 := fun e => hs7 (Int32.toInt_inj.mp (e.trans (by decide)))
    have ehs15 : wy.toInt ≠ 2 := fun e => hs15 (Int32.toInt_inj.mp (e.trans (by decide)))
    omega
  refine lv_tableOut (tgt := 75) hx hb dX12_beside_1 ho23 (by decide) ?_
  refine lv_iload_n hx hb dX12_beside_75 rfl (lv_at hl 0 rfl) ?_
  refine lv_bipush (v := 84) hx hb dX12_beside_76 (by decide) ?_
  refine lv_icmp_ge (tgt := 88) hx hb dX12_beside_78 (by decide) (fun c24 => ?_) (fun c24 => ?_)
  · have t25 : 84 ≤ sq.toInt := ti_le c24 (by decide) rfl
    refine lv_iconst (v := (-1)) hx hb dX12_beside_88 (by decide) ?_
    exact W.iret (v := (-1)) hx hb hr (fun t ht hW => ⟨⟨(-1), (), rfl, (by exact (rg_t (a := (-1)) (by decide) (by omega) (by omega))), by (try dsimp only); rw [ht]; exact ⟨hT, hF⟩⟩, hS.F ht⟩) hS.2.2 dX12_beside_89
  · have t26 : sq.toInt < 84 := ti_nle c24 (by decide) rfl
    refine lv_iload_n hx hb dX12_beside_81 rfl (lv_at hl 0 rfl) ?_
    refine lv_bipush (v := 12) hx hb dX12_beside_82 (by decide) ?_
    refine lv_iadd hx hb dX12_beside_84 ?_
    refine lv_topi (fun x27 ex27 => ?_)
    have t28 : x27.toInt = sq.toInt + 12 := ti_add ex27 rfl (by decide) (by omega) (by omega)
    refine lv_goto (tgt := 89) hx hb dX12_beside_85 (by decide) ?_
    exact W.iret (v := x27) hx hb hr (fun t ht hW => ⟨⟨x27, (), rfl, (by exact (rg_t (a := x27.toInt) rfl (by have q8 := ti_all x27; omega) (by have q8 := ti_all x27; omega))), by (try dsimp only); rw [ht]; exact ⟨hT, hF⟩⟩, hS.F ht⟩) hS.2.2 dX12_beside_89
def w_s_isIn : List Cond := .code yX12_isIn cX12_isIn 5 (some .boolean) :: ([.methodLink RX12 207 Lib.Math.min.name, .static Lib.Math.min.name, .initialized "java/lang/Math", .code Lib.Math.min.name Lib.Math.min.code 2 (some .int), .methodLink RX12 211 Lib.Math.max.name, .static Lib.Math.max.name, .code Lib.Math.max.name Lib.Math.max.code 2 (some .int), .code yX12_in cX12_in 3 (some .boolean), .methodLink RX12 197 yX12_in, .static yX12_in, .initialized RX12] ++ bs)
set_option maxHeartbeats 4000000 in
set_option maxRecDepth 100000 in
theorem s_isIn (l : Launch) (dC : Nat → ClassId) (dI : Nat → Nat → Nat) (kA : Nat → ClassId) (G : gT) (H0 : Heap) (q : Nat → Nat) (wN wH wB wC : Int) (wL wK : Nat → Prop) (PI : Nat → Int → Prop) (sq : Int32) (a1 : Int32) (a2 : Int32) (hT : gH (dC, dI) kA (SHm q (wP wN wH wB wC wC wL wK) PI) G H0) (hgn : 6500000 ≤ wN ∧ wN ≤ 400000000) (hgh : 0 ≤ wH ∧ wH ≤ 40000) (hgb : 0 ≤ wB ∧ wB ≤ 3850000) (hgc : 0 ≤ wC ∧ wC ≤ 30) : Met l yX12_isIn w_s_isIn ({ frames := 1, cells := 0, slots := 0, locals := 40 }) (va_Pc [.int sq, .int a1, .int a2] (fun U => U.heap = H0 ∧ va_K (dC, dI) vwCl (tyl kA) U ∧ EV (gA G H0.size) U U.heap)) (va_Qi (fun (r : Int32) (u : Unit) => (0 ≤ r.toInt ∧ r.toInt ≤ 1)) (fun (_ : Unit) (t : State) => gH (dC, dI) kA (SHm q (wP wN wH wB wC wC wL wK) PI) G t.heap ∧ gF (dC, dI) SKm G ([] : List (Nat × Nat)) H0 t.heap) (gA G H0.size)) 0 0 (gA G H0.size) := by
  refine Met.ofW (cc := cX12_isIn) (maxL := 5) (ret := (some .boolean)) (by decide) rfl ?_
  intro p e s m args below meth c s₁ B hml hv
  obtain ⟨rfl, hH0, hK, hE⟩ := hv
  have hx := B.exec
  have hb := B.bytes
  have hr := B.returns
  have hts := atoms_spec (ws := w_s_isIn) B.pre
  have hown : s.vm.findClass RX12 = some m.cls := findClass_of_methodNamed B.named
  have hlocks := B.notSynchronized
  subst hH0
  generalize hAe : gA G s.heap.size = A at hE ⊢
  have hA : ∀ q : Nat, s.heap.size ≤ q → A q := fun q h => by rw [← hAe]; exact Or.inr h
  have hG := gA_of hAe
  have hS : va_S A s.heap s.heap [] := va_S.rf
  have hF : gF (dC, dI) SKm G ([] : List (Nat × Nat)) s.heap s.heap := gF.rf
  have hl := lv_entry ([.int sq, .int a1, .int a2]) (n := 5) (Nat.le_of_ble_eq_true rfl)
  rw [lg_entry_eq]
  generalize (lg_sl ([.int sq, .int a1, .int a2]) ++ List.replicate (5 - (lg_sl ([.int sq, .int a1, .int a2])).length) Slot.unset).toArray = ls at hl ⊢
  have hl : lv_has ls 5 [(0, .int sq), (1, .int a1), (2, .int a2)] := hl
  refine lv_iload_n hx hb dX12_isIn_0 rfl (lv_at hl 0 rfl) ?_
  refine lv_bipush (v := 12) hx hb dX12_isIn_1 (by decide) ?_
  refine lv_irem hx hb dX12_isIn_3 (by decide) ?_
  refine lv_topi (fun x1 ex1 => ?_)
  refine lv_istore_n (lv' := [(3, .int x1), (0, .int sq), (1, .int a1), (2, .int a2)]) hx hb dX12_isIn_4 rfl hl (by decide) rfl (fun ls hl => ?_)
  refine lv_iload_n hx hb dX12_isIn_5 rfl (lv_at hl 1 rfl) ?_
  refine lv_bipush (v := 12) hx hb dX12_isIn_6 (by decide) ?_
  have t2 : -2147483648 ≤ sq.toInt ∧ sq.toInt ≤ 2147483647 := ti_all sq
  refine lv_idiv hx hb dX12_isIn_8 (by decide) ?_
  refine lv_topi (fun x3 ex3 => ?_)
  have t4 : (0 ≤ sq.toInt ∧ x3.toInt = sq.toInt / 12) ∨ (sq.toInt < 0 ∧ x3.toInt = -((-sq.toInt) / 12)) := ti_divs ex3 rfl (by decide) (by decide)
  refine lv_istore (lv' := [(4, .int x3), (3, .int x1), (0, .int sq), (1, .int a1), (2, .int a2)]) hx hb dX12_isIn_9 hl (by decide) rfl (fun ls hl => ?_)
  refine lv_iload_n hx hb dX12_isIn_11 rfl (lv_at hl 1 rfl) ?_
  refine lv_iload_n hx hb dX12_isIn_12 rfl (lv_at hl 3 rfl) ?_
  refine lv_bipush (v := 12) hx hb dX12_isIn_13 (by decide) ?_
  refine lv_irem hx hb dX12_isIn_15 (by decide) ?_
  refine lv_topi (fun x5 ex5 => ?_)
  refine lv_iload_n hx hb dX12_isIn_16 rfl (lv_at hl 4 rfl) ?_
  refine lv_bipush (v := 12) hx hb dX12_isIn_17 (by decide) ?_
  refine lv_irem hx hb dX12_isIn_19 (by decide) ?_
  refine lv_topi (fun x6 ex6 => ?_)
  refine va_mmin hx hb (hml.trans hl.1.symm) hown (ht_at hts 0 rfl) (ht_at hts 1 rfl) (ht_at hts 2 rfl) (ht_at hts 3 rfl) (Nat.le_of_ble_eq_true rfl) (Nat.le_of_ble_eq_true rfl) (Nat.le_of_ble_eq_true rfl) (Nat.le_of_ble_eq_true rfl) dX12_isIn_20 ?_
  refine lv_topi (fun x7 ex7 => ?_)
  have t8 : x7.toInt ≤ x5.toInt ∧ x7.toInt ≤ x6.toInt ∧ (x7.toInt = x5.toInt ∨ x7.toInt = x6.toInt) := mn_f ex7 rfl rfl
  refine lv_iload_n hx hb dX12_isIn_23 rfl (lv_at hl 3 rfl) ?_
  refine lv_bipush (v := 12) hx hb dX12_isIn_24 (by decide) ?_
  refine lv_irem hx hb dX12_isIn_26 (by decide) ?_
  refine lv_topi (fun x9 ex9 => ?_)
  refine lv_iload_n hx hb dX12_isIn_27 rfl (lv_at hl 4 rfl) ?_
  refine lv_bipush (v := 12) hx hb dX12_isIn_28 (by decide) ?_
  refine lv_irem hx hb dX12_isIn_30 (by decide) ?_
  refine lv_topi (fun x10 ex10 => ?_)
  refine va_mmax hx hb (hml.trans hl.1.symm) hown (ht_at hts 4 rfl) (ht_at hts 5 rfl) (ht_at hts 2 rfl) (ht_at hts 6 rfl) (Nat.le_of_ble_eq_true rfl) (Nat.le_of_ble_eq_true rfl) (Nat.le_of_ble_eq_true rfl) (Nat.le_of_ble_eq_true rfl) dX12_isIn_31 ?_
  refine lv_topi (fun x11 ex11 => ?_)
  have t12 : x9.toInt ≤ x11.toInt ∧ x10.toInt ≤ x11.toInt ∧ (x11.toInt = x9.toInt ∨ x11.toInt = x10.toInt) := mx_f ex11 rfl rfl
  have hFc := gA_free hG hA hS
  refine va_calli (va_runS (As := [.int x1, .int x7, .int x11]) (rest := []) ⟨hx, hb, hml, hown, hts⟩ (s_in l dC dI kA G s.heap q wN wH wB wC wL wK PI x1 x7 x11 hT (by omega) (by omega) (by omega) (by omega)) (va_cwS 3 hts (goodIn_app (goodIn_r _ [9, 10, 11] (by decide +kernel) (by decide +kernel)) (goodIn_ca (goodIn_r _ [8] (by decide +kernel) (by decide +kernel)) (bs_in _ _))) rfl rfl rfl (by decide +kernel) ⟨(Nat.le_of_ble_eq_true rfl), (Nat.le_of_ble_eq_true rfl)⟩) ⟨fun a U g mk q => by obtain ⟨q0, q1, qK, qE⟩ := q; exact ⟨q0, q1, va_K.moved (u := U) (U := U.calling g mk a) (Vm.Alike.refl U.vm) qK, EV.blind g mk a qE⟩, fun U hU hW => ⟨rfl, hU, va_K.moved hW.alike hK, hE.call hS hFc hU hW⟩⟩ rfl rfl hl.1 rfl (lv_room (Nat.le_of_ble_eq_true rfl)) dX12_isIn_34 ⟨(Nat.le_of_ble_eq_true rfl), (Nat.le_of_ble_eq_true rfl)⟩) hS (fun q _ h => hFc q h) hFc (fun r13 u t H locs ht hvm hw14 hB _ _ hS => ?_)
  obtain ⟨hT, hF1⟩ := hB
  rw [ht] at hT hF1
  have hF := hF.more hF1 (by decide)
  try dsimp only at hw14
  obtain ⟨h15, hi16, hi17⟩ := hw14
  refine lv_if_eq (tgt := 74) hx hb dX12_isIn_37 (by decide) (fun c18 => ?_) (fun c18 => ?_)
  · have t19 : r13.toInt = 0 := ti_eq c18 rfl (by decide)
    have t20 : x1.toInt < x7.toInt ∨ x11.toInt < x1.toInt := hi17 c18
    refine lv_iconst (v := 0) hx hb dX12_isIn_74 (by decide) ?_
    exact W.zret (v := 0) hx hb hr (by decide) (fun t ht hW => ⟨⟨0, (), rfl, (by exact (rg_t (a := 0) (by decide) (by omega) (by omega))), by (try dsimp only); rw [ht]; exact ⟨hT, hF⟩⟩, hS.F ht⟩) hS.2.2 dX12_isIn_75
  · have t21 : r13.toInt ≠ 0 := ti_ne c18 rfl (by decide)
    have t22 : x7.toInt ≤ x1.toInt ∧ x1.toInt ≤ x11.toInt := hi16 ((bit_of ⟨by omega, by omega⟩).resolve_left c18)
    refine lv_iload hx hb dX12_isIn_40 (lv_at hl 0 rfl) ?_
    refine lv_iload_n hx hb dX12_isIn_42 rfl (lv_at hl 3 rfl) ?_
    refine lv_bipush (v := 12) hx hb dX12_isIn_43 (by decide) ?_
    have t23 : -2147483648 ≤ a1.toInt ∧ a1.toInt ≤ 2147483647 := ti_all a1
    refine lv_idiv hx hb dX12_isIn_45 (by decide) ?_
    refine lv_topi (fun x24 ex24 => ?_)
    have t25 : (0 ≤ a1.toInt ∧ x24.toInt = a1.toInt / 12) ∨ (a1.toInt < 0 ∧ x24.toInt = -((-a1.toInt) / 12)) := ti_divs ex24 rfl (by decide) (by decide)
    refine lv_iload_n hx hb dX12_isIn_46 rfl (lv_at hl 4 rfl) ?_
    refine lv_bipush (v := 12) hx hb dX12_isIn_47 (by decide) ?_
    have t26 : -2147483648 ≤ a2.toInt ∧ a2.toInt ≤ 2147483647 := ti_all a2
    refine lv_idiv hx hb dX12_isIn_49 (by decide) ?_
    refine lv_topi (fun x27 ex27 => ?_)
    have t28 : (0 ≤ a2.toInt ∧ x27.toInt = a2.toInt / 12) ∨ (a2.toInt < 0 ∧ x27.toInt = -((-a2.toInt) / 12)) := ti_divs ex27 rfl (by decide) (by decide)
    refine va_mmin hx hb (hml.trans hl.1.symm) hown (ht_at hts 0 rfl) (ht_at hts 1 rfl) (ht_at hts 2 rfl) (ht_at hts 3 rfl) (Nat.le_of_ble_eq_true rfl) (Nat.le_of_ble_eq_true rfl) (Nat.le_of_ble_eq_true rfl) (Nat.le_of_ble_eq_true rfl) dX12_isIn_50 ?_
    refine lv_topi (fun x29 ex29 => ?_)
    have t30 : x29.toInt ≤ x24.toInt ∧ x29.toInt ≤ x27.toInt ∧ (x29.toInt = x24.toInt ∨ x29.toInt = x27.toInt) := mn_f ex29 rfl rfl
    refine lv_iload_n hx hb dX12_isIn_53 rfl (lv_at hl 3 rfl) ?_
    refine lv_bipush (v := 12) hx hb dX12_isIn_54 (by decide) ?_
    refine lv_idiv hx hb dX12_isIn_56 (by decide) ?_
    refine lv_topi (fun x31 ex31 => ?_)
    have t32 : (0 ≤ a1.toInt ∧ x31.toInt = a1.toInt / 12) ∨ (a1.toInt < 0 ∧ x31.toInt = -((-a1.toInt) / 12)) := ti_divs ex31 rfl (by decide) (by decide)
    refine lv_iload_n hx hb dX12_isIn_57 rfl (lv_at hl 4 rfl) ?_
    refine lv_bipush (v := 12) hx hb dX12_isIn_58 (by decide) ?_
    refine lv_idiv hx hb dX12_isIn_60 (by decide) ?_
    refine lv_topi (fun x33 ex33 => ?_)
    have t34 : (0 ≤ a2.toInt ∧ x33.toInt = a2.toInt / 12) ∨ (a2.toInt < 0 ∧ x33.toInt = -((-a2.toInt) / 12)) := ti_divs ex33 rfl (by decide) (by decide)
    refine va_mmax hx hb (hml.trans hl.1.symm) hown (ht_at hts 4 rfl) (ht_at hts 5 rfl) (ht_at hts 2 rfl) (ht_at hts 6 rfl) (Nat.le_of_ble_eq_true rfl) (Nat.le_of_ble_eq_true rfl) (Nat.le_of_ble_eq_true rfl) (Nat.le_of_ble_eq_true rfl) dX12_isIn_61 ?_
    refine lv_topi (fun x35 ex35 => ?_)
    have t36 : x31.toInt ≤ x35.toInt ∧ x33.toInt ≤ x35.toInt ∧ (x35.toInt = x31.toInt ∨ x35.toInt = x33.toInt) := mx_f ex35 rfl rfl
    have hFc := gA_free hG hA hS
    refine va_calli (va_runS (As := [.int x3, .int x29, .int x35]) (rest := []) ⟨hx, hb, hml, hown, hts⟩ (s_in l dC dI kA G H q wN wH wB wC wL wK PI x3 x29 x35 hT (by omega) (by omega) (by omega) (by omega)) (va_cwS 3 hts (goodIn_app (goodIn_r _ [9, 10, 11] (by decide +kernel) (by decide +kernel)) (goodIn_ca (goodIn_r _ [8] (by decide +kernel) (by decide +kernel)) (bs_in _ _))) rfl rfl rfl (by decide +kernel) ⟨(Nat.le_of_ble_eq_true rfl), (Nat.le_of_ble_eq_true rfl)⟩) ⟨fun a U g mk q => by obtain ⟨q0, q1, qK, qE⟩ := q; exact ⟨q0, q1, va_K.moved (u := U) (U := U.calling g mk a) (Vm.Alike.refl U.vm) qK, EV.blind g mk a qE⟩, fun U hU hW => ⟨rfl, hU, va_K.moved hW.alike hK, hE.call hS hFc hU hW⟩⟩ rfl rfl hl.1 rfl (lv_room (Nat.le_of_ble_eq_true rfl)) dX12_isIn_64 ⟨(Nat.le_of_ble_eq_true rfl), (Nat.le_of_ble_eq_true rfl)⟩) hS (fun q _ h => hFc q h) hFc (fun r37 u t H locs ht hvm hw38 hB _ _ hS => ?_)
    obtain ⟨hT, hF1⟩ := hB
    rw [ht] at hT hF1
    have hF := hF.more hF1 (by decide)
    try dsimp only at hw38
    obtain ⟨h39, hi40, hi41⟩ := hw38
    refine lv_if_eq (tgt := 74) hx hb dX12_isIn_67 (by decide) (fun c42 => ?_) (fun c42 => ?_)
    · have t43 : r37.toInt = 0 := ti_eq c42 rfl (by decide)
      have t44 : x3.toInt < x29.toInt ∨ x35.toInt < x3.toInt := hi41 c42
      refine lv_iconst (v := 0) hx hb dX12_isIn_74 (by decide) ?_
      exact W.zret (v := 0) hx hb hr (by decide) (fun t ht hW => ⟨⟨0, (), rfl, (by exact (rg_t (a := 0) (by decide) (by omega) (by omega))), by (try dsimp only); rw [ht]; exact ⟨hT, hF⟩⟩, hS.F ht⟩) hS.2.2 dX12_isIn_75
    · have t45 : r37.toInt ≠ 0 := ti_ne c42 rfl (by decide)
      have t46 : x29.toInt ≤ x3.toInt ∧ x3.toInt ≤ x35.toInt := hi40 ((bit_of ⟨by omega, by omega⟩).resolve_left c42)
      refine lv_iconst (v := 1) hx hb dX12_isIn_70 (by decide) ?_
      refine lv_goto (tgt := 75) hx hb dX12_isIn_71 (by decide) ?_
      exact W.zret (v := 1) hx hb hr (by decide) (fun t ht hW => ⟨⟨1, (), rfl, (by exact (rg_t (a := 1) (by decide) (by omega) (by omega))), by (try dsimp only); rw [ht]; exact ⟨hT, hF⟩⟩, hS.F ht⟩) hS.2.2 dX12_isIn_75
def w_s_at : List Cond := .code yX12_at cX12_at 2 (some .int) :: ([] ++ bs)
set_option maxHeartbeats 4000000 in
set_option maxRecDepth 100000 in
theorem s_at (l : Launch) (dC : Nat → ClassId) (dI : Nat → Nat → Nat) (kA : Nat → ClassId) (G : gT) (H0 : Heap) (q : Nat → Nat) (wN wH wB wC : Int) (wL wK : Nat → Prop) (PI : Nat → Int → Prop) (wk : Int32) (wt : Int32) (hT : gH (dC, dI) kA (SHm q (wP wN wH wB wC wC wL wK) PI) G H0) (hq0 : 0 ≤ wk.toInt ∧ wk.toInt ≤ 29) (hq1 : 0 ≤ wt.toInt ∧ wt.toInt ≤ 21) (hgn : 6500000 ≤ wN ∧ wN ≤ 400000000) (hgh : 0 ≤ wH ∧ wH ≤ 40000) (hgb : 0 ≤ wB ∧ wB ≤ 3850000) (hgc : 0 ≤ wC ∧ wC ≤ 30) : Met l yX12_at w_s_at ({ frames := 0, cells := 0, slots := 0, locals := 0 }) (va_Pc [.int wk, .int wt] (fun U => U.heap = H0 ∧ va_K (dC, dI) vwCl (tyl kA) U ∧ EV (gA G H0.size) U U.heap)) (va_Qi (fun (r : Int32) (u : Unit) => (768 ≤ r.toInt ∧ r.toInt ≤ 1427) ∧ (r.toInt = 768 + 22 * wk.toInt + wt.toInt)) (fun (_ : Unit) (t : State) => gH (dC, dI) kA (SHm q (wP wN wH wB wC wC wL wK) PI) G t.heap ∧ gF (dC, dI) SKm G ([] : List (Nat × Nat)) H0 t.heap) (gA G H0.size)) 0 0 (gA G H0.size) := by
  refine Met.ofW (cc := cX12_at) (maxL := 2) (ret := (some .int)) (by decide) rfl ?_
  intro p e s m args below meth c s₁ B hml hv
  obtain ⟨rfl, hH0, hK, hE⟩ := hv
  have hx := B.exec
  have hb := B.bytes
  have hr := B.returns
  have hts := atoms_spec (ws := w_s_at) B.pre
  have hown : s.vm.findClass RX12 = some m.cls := findClass_of_methodNamed B.named
  have hlocks := B.notSynchronized
  subst hH0
  generalize hAe : gA G s.heap.size = A at hE ⊢
  have hA : ∀ q : Nat, s.heap.size ≤ q → A q := fun q h => by rw [← hAe]; exact Or.inr h
  have hG := gA_of hAe
  have hS : va_S A s.heap s.heap [] := va_S.rf
  have hF : gF (dC, dI) SKm G ([] : List (Nat × Nat)) s.heap s.heap := gF.rf
  have hl := lv_entry ([.int wk, .int wt]) (n := 2) (Nat.le_of_ble_eq_true rfl)
  rw [lg_entry_eq]
  generalize (lg_sl ([.int wk, .int wt]) ++ List.replicate (2 - (lg_sl ([.int wk, .int wt])).length) Slot.unset).toArray = ls at hl ⊢
  have hl : lv_has ls 2 [(0, .int wk), (1, .int wt)] := hl
  refine lv_sipush (v := 768) hx hb dX12_at_0 (by decide) ?_
  refine lv_bipush (v := 22) hx hb dX12_at_3 (by decide) ?_
  refine lv_iload_n hx hb dX12_at_5 rfl (lv_at hl 0 rfl) ?_
  refine lv_imul hx hb dX12_at_6 ?_
  refine lv_topi (fun x1 ex1 => ?_)
  have t2 : x1.toInt = 22 * wk.toInt := ti_mul ex1 (by decide) rfl (by omega) (by omega)
  refine lv_iadd hx hb dX12_at_7 ?_
  refine lv_topi (fun x3 ex3 => ?_)
  have t4 : x3.toInt = 768 + x1.toInt := ti_add ex3 (by decide) rfl (by omega) (by omega)
  refine lv_iload_n hx hb dX12_at_8 rfl (lv_at hl 1 rfl) ?_
  refine lv_iadd hx hb dX12_at_9 ?_
  refine lv_topi (fun x5 ex5 => ?_)
  have t6 : x5.toInt = x3.toInt + wt.toInt := ti_add ex5 rfl rfl (by omega) (by omega)
  exact W.iret (v := x5) hx hb hr (fun t ht hW => ⟨⟨x5, (), rfl, (by exact ⟨(rg_t (a := x5.toInt) rfl (by have q8 := ti_all x5; omega) (by have q8 := ti_all x5; omega)), (by omega)⟩), by (try dsimp only); rw [ht]; exact ⟨hT, hF⟩⟩, hS.F ht⟩) hS.2.2 dX12_at_10
def w_s_of0 : List Cond := .code yX12_of cX12_of 3 (some .int) :: ([.fieldLink RX12 9 "SeaLandModel" "world" "[I", .code yX12_at cX12_at 2 (some .int), .methodLink RX12 214 yX12_at, .static yX12_at, .initialized RX12] ++ bs)
set_option maxHeartbeats 4000000 in
set_option maxRecDepth 100000 in
theorem s_of0 (l : Launch) (dC : Nat → ClassId) (dI : Nat → Nat → Nat) (kA : Nat → ClassId) (G : gT) (H0 : Heap) (q : Nat → Nat) (wN wH wB wC : Int) (wL wK : Nat → Prop) (PI : Nat → Int → Prop) (o0 : Nat) (wk : Int32) (hT : gH (dC, dI) kA (SHm q (wP wN wH wB wC wC wL wK) PI) G H0) (hr_o0 : G o0 = some 0) (hq0 : 0 ≤ wk.toInt ∧ wk.toInt ≤ 29) (hgn : 6500000 ≤ wN ∧ wN ≤ 400000000) (hgh : 0 ≤ wH ∧ wH ≤ 40000) (hgb : 0 ≤ wB ∧ wB ≤ 3850000) (hgc : 0 ≤ wC ∧ wC ≤ 30) : Met l yX12_of w_s_of0 ({ frames := 1, cells := 0, slots := 0, locals := 21 }) (va_Pc [.ref o0, .int wk, .int 0] (fun U => U.heap = H0 ∧ va_K (dC, dI) vwCl (tyl kA) U ∧ EV (gA G H0.size) U U.heap)) (va_Qi (fun (r : Int32) (u : Unit) => (∃ ix : Int32, ix.toInt = 768 + 22 * wk.toInt ∧ el H0 (q 1) ix.toNatClampNeg = some (.int r))) (fun (_ : Unit) (t : State) => gH (dC, dI) kA (SHm q (wP wN wH wB wC wC wL wK) PI) G t.heap ∧ gF (dC, dI) SKm G ([] : List (Nat × Nat)) H0 t.heap) (gA G H0.size)) 0 0 (gA G H0.size) := by
  refine Met.ofW (cc := cX12_of) (maxL := 3) (ret := (some .int)) (by decide) rfl ?_
  intro p e s m args below meth c s₁ B hml hv
  obtain ⟨rfl, hH0, hK, hE⟩ := hv
  have hx := B.exec
  have hb := B.bytes
  have hr := B.returns
  have hts := atoms_spec (ws := w_s_of0) B.pre
  have hown : s.vm.findClass RX12 = some m.cls := findClass_of_methodNamed B.named
  have hlocks := B.notSynchronized
  subst hH0
  generalize hAe : gA G s.heap.size = A at hE ⊢
  have hA : ∀ q : Nat, s.heap.size ≤ q → A q := fun q h => by rw [← hAe]; exact Or.inr h
  have hG := gA_of hAe
  have hS : va_S A s.heap s.heap [] := va_S.rf
  have hF : gF (dC, dI) SKm G ([] : List (Nat × Nat)) s.heap s.heap := gF.rf
  have hl := lv_entry ([.ref o0, .int wk, .int 0]) (n := 3) (Nat.le_of_ble_eq_true rfl)
  rw [lg_entry_eq]
  generalize (lg_sl ([.ref o0, .int wk, .int 0]) ++ List.replicate (3 - (lg_sl ([.ref o0, .int wk, .int 0])).length) Slot.unset).toArray = ls at hl ⊢
  have hl : lv_has ls 3 [(0, .ref o0), (1, .int wk), (2, .int 0)] := hl
  refine lv_aload_n hx hb dX12_of_0 rfl (lv_at hl 0 rfl) ?_
  refine tw_get hx hb hts bF_X12 hown hK hT hr_o0 shm_0 rfl 1 (by decide) (ht_at hts 0 rfl) (fun _ h9 => h9) dX12_of_1 (fun v9 m1 h9 => ?_)
  obtain ⟨rfl, hg2⟩ := h9 _ rfl
  refine lv_iload_n hx hb dX12_of_4 rfl (lv_at hl 1 rfl) ?_
  refine lv_iload_n hx hb dX12_of_5 rfl (lv_at hl 2 rfl) ?_
  have hFc := gA_free hG hA hS
  refine va_calli (va_runS (As := [.int wk, .int 0]) (rest := [.ref (q 1)]) ⟨hx, hb, hml, hown, hts⟩ (s_at l dC dI kA G s.heap q wN wH wB wC wL wK PI wk 0 hT (rg_t (a := wk.toInt) rfl (by have q8 := ti_all wk; omega) (by have q8 := ti_all wk; omega)) (rg_t (a := 0) (by decide) (by omega) (by omega)) (by omega) (by omega) (by omega) (by omega)) (va_cwS 2 hts (goodIn_app (goodIn_r _ [3, 4, 5] (by decide +kernel) (by decide +kernel)) (goodIn_ca (goodIn_r _ [2] (by decide +kernel) (by decide +kernel)) (bs_in _ _))) rfl rfl rfl (by decide +kernel) ⟨(Nat.le_of_ble_eq_true rfl), (Nat.le_of_ble_eq_true rfl)⟩) ⟨fun a U g mk q => by obtain ⟨q0, q1, qK, qE⟩ := q; exact ⟨q0, q1, va_K.moved (u := U) (U := U.calling g mk a) (Vm.Alike.refl U.vm) qK, EV.blind g mk a qE⟩, fun U hU hW => ⟨rfl, hU, va_K.moved hW.alike hK, hE.call hS hFc hU hW⟩⟩ rfl rfl hl.1 rfl (lv_room (Nat.le_of_ble_eq_true rfl)) dX12_of_6 ⟨(Nat.le_of_ble_eq_true rfl), (Nat.le_of_ble_eq_true rfl)⟩) hS (fun q _ h => hFc q h) hFc (fun r3 u t H locs ht hvm hw4 hB _ _ hS => ?_)
  obtain ⟨hT, hF1⟩ := hB
  rw [ht] at hT hF1
  have hF := hF.more hF1 (by decide)
  try dsimp only at hw4
  obtain ⟨h5, hf6⟩ := hw4
  have t7 : (0 : Int32).toInt = 0 := by decide
  refine tw_iald (i := r3) hx hb hK hT hg2 shm_2 rfl (vin_t (a := r3.toInt) rfl (by omega) (by omega)) dX12_of_9 (fun v9 m8 h9 => ?_)
  obtain ⟨x9, rfl, gx9, kx9⟩ := (gp_at h9 (w_fre (by have q9 := tn_of (show r3.toInt = r3.toInt from rfl) (show (0 : Int) ≤ r3.toInt from by omega); omega)))
  exact W.iret (v := x9) hx hb hr (fun t ht hW => ⟨⟨x9, (), rfl, (by exact ⟨r3, by have q9 := (show r3.toInt = r3.toInt from rfl); omega, (el_kept (hF.arr hg2 skm_2 (by decide))).symm.trans m8⟩), by (try dsimp only); rw [ht]; exact ⟨hT, hF⟩⟩, hS.F ht⟩) hS.2.2 dX12_of_10
def w_s_of1 : List Cond := .code yX12_of cX12_of 3 (some .int) :: ([.fieldLink RX12 9 "SeaLandModel" "world" "[I", .code yX12_at cX12_at 2 (some .int), .methodLink RX12 214 yX12_at, .static yX12_at, .initialized RX12] ++ bs)
set_option maxHeartbeats 4000000 in
set_option maxRecDepth 100000 in
theorem s_of1 (l : Launch) (dC : Nat → ClassId) (dI : Nat → Nat → Nat) (kA : Nat → ClassId) (G : gT) (H0 : Heap) (q : Nat → Nat) (wN wH wB wC : Int) (wL wK : Nat → Prop) (PI : Nat → Int → Prop) (o0 : Nat) (wk : Int32) (hT : gH (dC, dI) kA (SHm q (wP wN wH wB wC wC wL wK) PI) G H0) (hr_o0 : G o0 = some 0) (hq0 : 0 ≤ wk.toInt ∧ wk.toInt ≤ 29) (hgn : 6500000 ≤ wN ∧ wN ≤ 400000000) (hgh : 0 ≤ wH ∧ wH ≤ 40000) (hgb : 0 ≤ wB ∧ wB ≤ 3850000) (hgc : 0 ≤ wC ∧ wC ≤ 30) : Met l yX12_of w_s_of1 ({ frames := 1, cells := 0, slots := 0, locals := 21 }) (va_Pc [.ref o0, .int wk, .int 1] (fun U => U.heap = H0 ∧ va_K (dC, dI) vwCl (tyl kA) U ∧ EV (gA G H0.size) U U.heap)) (va_Qi (fun (r : Int32) (u : Unit) => (0 ≤ r.toInt ∧ r.toInt ≤ 95) ∧ (∃ ix : Int32, ix.toInt = 769 + 22 * wk.toInt ∧ el H0 (q 1) ix.toNatClampNeg = some (.int r))) (fun (_ : Unit) (t : State) => gH (dC, dI) kA (SHm q (wP wN wH wB wC wC wL wK) PI) G t.heap ∧ gF (dC, dI) SKm G ([] : List (Nat × Nat)) H0 t.heap) (gA G H0.size)) 0 0 (gA G H0.size) := by
  refine Met.ofW (cc := cX12_of) (maxL := 3) (ret := (some .int)) (by decide) rfl ?_
  intro p e s m args below meth c s₁ B hml hv
  obtain ⟨rfl, hH0, hK, hE⟩ := hv
  have hx := B.exec
  have hb := B.bytes
  have hr := B.returns
  have hts := atoms_spec (ws := w_s_of1) B.pre
  have hown : s.vm.findClass RX12 = some m.cls := findClass_of_methodNamed B.named
  have hlocks := B.notSynchronized
  subst hH0
  generalize hAe : gA G s.heap.size = A at hE ⊢
  have hA : ∀ q : Nat, s.heap.size ≤ q → A q := fun q h => by rw [← hAe]; exact Or.inr h
  have hG := gA_of hAe
  have hS : va_S A s.heap s.heap [] := va_S.rf
  have hF : gF (dC, dI) SKm G ([] : List (Nat × Nat)) s.heap s.heap := gF.rf
  have hl := lv_entry ([.ref o0, .int wk, .int 1]) (n := 3) (Nat.le_of_ble_eq_true rfl)
  rw [lg_entry_eq]
  generalize (lg_sl ([.ref o0, .int wk, .int 1]) ++ List.replicate (3 - (lg_sl ([.ref o0, .int wk, .int 1])).length) Slot.unset).toArray = ls at hl ⊢
  have hl : lv_has ls 3 [(0, .ref o0), (1, .int wk), (2, .int 1)] := hl
  refine lv_aload_n hx hb dX12_of_0 rfl (lv_at hl 0 rfl) ?_
  refine tw_get hx hb hts bF_X12 hown hK hT hr_o0 shm_0 rfl 1 (by decide) (ht_at hts 0 rfl) (fun _ h9 => h9) dX12_of_1 (fun v9 m1 h9 => ?_)
  obtain ⟨rfl, hg2⟩ := h9 _ rfl
  refine lv_iload_n hx hb dX12_of_4 rfl (lv_at hl 1 rfl) ?_
  refine lv_iload_n hx hb dX12_of_5 rfl (lv_at hl 2 rfl) ?_
  have hFc := gA_free hG hA hS
  refine va_calli (va_runS (As := [.int wk, .int 1]) (rest := [.ref (q 1)]) ⟨hx, hb, hml, hown, hts⟩ (s_at l dC dI kA G s.heap q wN wH wB wC wL wK PI wk 1 hT (rg_t (a := wk.toInt) rfl (by have q8 := ti_all wk; omega) (by have q8 := ti_all wk; omega)) (rg_t (a := 1) (by decide) (by omega) (by omega)) (by omega) (by omega) (by omega) (by omega)) (va_cwS 2 hts (goodIn_app (goodIn_r _ [3, 4, 5] (by decide +kernel) (by decide +kernel)) (goodIn_ca (goodIn_r _ [2] (by decide +kernel) (by decide +kernel)) (bs_in _ _))) rfl rfl rfl (by decide +kernel) ⟨(Nat.le_of_ble_eq_true rfl), (Nat.le_of_ble_eq_true rfl)⟩) ⟨fun a U g mk q => by obtain ⟨q0, q1, qK, qE⟩ := q; exact ⟨q0, q1, va_K.moved (u := U) (U := U.calling g mk a) (Vm.Alike.refl U.vm) qK, EV.blind g mk a qE⟩, fun U hU hW => ⟨rfl, hU, va_K.moved hW.alike hK, hE.call hS hFc hU hW⟩⟩ rfl rfl hl.1 rfl (lv_room (Nat.le_of_ble_eq_true rfl)) dX12_of_6 ⟨(Nat.le_of_ble_eq_true rfl), (Nat.le_of_ble_eq_true rfl)⟩) hS (fun q _ h => hFc q h) hFc (fun r3 u t H locs ht hvm hw4 hB _ _ hS => ?_)
  obtain ⟨hT, hF1⟩ := hB
  rw [ht] at hT hF1
  have hF := hF.more hF1 (by decide)
  try dsimp only at hw4
  obtain ⟨h5, hf6⟩ := hw4
  have t7 : (1 : Int32).toInt = 1 := by decide
  refine tw_iald (i := r3) hx hb hK hT hg2 shm_2 rfl (vin_t (a := r3.toInt) rfl (by omega) (by omega)) dX12_of_9 (fun v9 m8 h9 => ?_)
  obtain ⟨x9, rfl, gx9, kx9⟩ := (gp_at h9 (w_wsq (by have q9 := tn_of (show r3.toInt = r3.toInt from rfl) (show (0 : Int) ≤ r3.toInt from by omega); omega)))
  exact W.iret (v := x9) hx hb hr (fun t ht hW => ⟨⟨x9, (), rfl, (by exact ⟨(rg_t (a := x9.toInt) rfl (by have q8 := ti_all x9; omega) (by have q8 := ti_all x9; omega)), ⟨r3, by have q9 := (show r3.toInt = r3.toInt from rfl); omega, (el_kept (hF.arr hg2 skm_2 (by decide))).symm.trans m8⟩⟩), by (try dsimp only); rw [ht]; exact ⟨hT, hF⟩⟩, hS.F ht⟩) hS.2.2 dX12_of_10
def w_s_of2 : List Cond := .code yX12_of cX12_of 3 (some .int) :: ([.fieldLink RX12 9 "SeaLandModel" "world" "[I", .code yX12_at cX12_at 2 (some .int), .methodLink RX12 214 yX12_at, .static yX12_at, .initialized RX12] ++ bs)
set_option maxHeartbeats 4000000 in
set_option maxRecDepth 100000 in
theorem s_of2 (l : Launch) (dC : Nat → ClassId) (dI : Nat → Nat → Nat) (kA : Nat → ClassId) (G : gT) (H0 : Heap) (q : Nat → Nat) (wN wH wB wC : Int) (wL wK : Nat → Prop) (PI : Nat → Int → Prop) (o0 : Nat) (wk : Int32) (hT : gH (dC, dI) kA (SHm q (wP wN wH wB wC wC wL wK) PI) G H0) (hr_o0 : G o0 = some 0) (hq0 : 0 ≤ wk.toInt ∧ wk.toInt ≤ 29) (hgn : 6500000 ≤ wN ∧ wN ≤ 400000000) (hgh : 0 ≤ wH ∧ wH ≤ 40000) (hgb : 0 ≤ wB ∧ wB ≤ 3850000) (hgc : 0 ≤ wC ∧ wC ≤ 30) : Met l yX12_of w_s_of2 ({ frames := 1, cells := 0, slots := 0, locals := 21 }) (va_Pc [.ref o0, .int wk, .int 2] (fun U => U.heap = H0 ∧ va_K (dC, dI) vwCl (tyl kA) U ∧ EV (gA G H0.size) U U.heap)) (va_Qi (fun (r : Int32) (u : Unit) => (0 ≤ r.toInt ∧ r.toInt ≤ 95) ∧ (∃ ix : Int32, ix.toInt = 770 + 22 * wk.toInt ∧ el H0 (q 1) ix.toNatClampNeg = some (.int r))) (fun (_ : Unit) (t : State) => gH (dC, dI) kA (SHm q (wP wN wH wB wC wC wL wK) PI) G t.heap ∧ gF (dC, dI) SKm G ([] : List (Nat × Nat)) H0 t.heap) (gA G H0.size)) 0 0 (gA G H0.size) := by
  refine Met.ofW (cc := cX12_of) (maxL := 3) (ret := (some .int)) (by decide) rfl ?_
  intro p e s m args below meth c s₁ B hml hv
  obtain ⟨rfl, hH0, hK, hE⟩ := hv
  have hx := B.exec
  have hb := B.bytes
  have hr := B.returns
  have hts := atoms_spec (ws := w_s_of2) B.pre
  have hown : s.vm.findClass RX12 = some m.cls := findClass_of_methodNamed B.named
  have hlocks := B.notSynchronized
  subst hH0
  generalize hAe : gA G s.heap.size = A at hE ⊢
  have hA : ∀ q : Nat, s.heap.size ≤ q → A q := fun q h => by rw [← hAe]; exact Or.inr h
  have hG := gA_of hAe
  have hS : va_S A s.heap s.heap [] := va_S.rf
  have hF : gF (dC, dI) SKm G ([] : List (Nat × Nat)) s.heap s.heap := gF.rf
  have hl := lv_entry ([.ref o0, .int wk, .int 2]) (n := 3) (Nat.le_of_ble_eq_true rfl)
  rw [lg_entry_eq]
  generalize (lg_sl ([.ref o0, .int wk, .int 2]) ++ List.replicate (3 - (lg_sl ([.ref o0, .int wk, .int 2])).length) Slot.unset).toArray = ls at hl ⊢
  have hl : lv_has ls 3 [(0, .ref o0), (1, .int wk), (2, .int 2)] := hl
  refine lv_aload_n hx hb dX12_of_0 rfl (lv_at hl 0 rfl) ?_
  refine tw_get hx hb hts bF_X12 hown hK hT hr_o0 shm_0 rfl 1 (by decide) (ht_at hts 0 rfl) (fun _ h9 => h9) dX12_of_1 (fun v9 m1 h9 => ?_)
  obtain ⟨rfl, hg2⟩ := h9 _ rfl
  refine lv_iload_n hx hb dX12_of_4 rfl (lv_at hl 1 rfl) ?_
  refine lv_iload_n hx hb dX12_of_5 rfl (lv_at hl 2 rfl) ?_
  have hFc := gA_free hG hA hS
  refine va_calli (va_runS (As := [.int wk, .int 2]) (rest := [.ref (q 1)]) ⟨hx, hb, hml, hown, hts⟩ (s_at l dC dI kA G s.heap q wN wH wB wC wL wK PI wk 2 hT (rg_t (a := wk.toInt) rfl (by have q8 := ti_all wk; omega) (by have q8 := ti_all wk; omega)) (rg_t (a := 2) (by decide) (by omega) (by omega)) (by omega) (by omega) (by omega) (by omega)) (va_cwS 2 hts (goodIn_app (goodIn_r _ [3, 4, 5] (by decide +kernel) (by decide +kernel)) (goodIn_ca (goodIn_r _ [2] (by decide +kernel) (by decide +kernel)) (bs_in _ _))) rfl rfl rfl (by decide +kernel) ⟨(Nat.le_of_ble_eq_true rfl), (Nat.le_of_ble_eq_true rfl)⟩) ⟨fun a U g mk q => by obtain ⟨q0, q1, qK, qE⟩ := q; exact ⟨q0, q1, va_K.moved (u := U) (U := U.calling g mk a) (Vm.Alike.refl U.vm) qK, EV.blind g mk a qE⟩, fun U hU hW => ⟨rfl, hU, va_K.moved hW.alike hK, hE.call hS hFc hU hW⟩⟩ rfl rfl hl.1 rfl (lv_room (Nat.le_of_ble_eq_true rfl)) dX12_of_6 ⟨(Nat.le_of_ble_eq_true rfl), (Nat.le_of_ble_eq_true rfl)⟩) hS (fun q _ h => hFc q h) hFc (fun r3 u t H locs ht hvm hw4 hB _ _ hS => ?_)
  obtain ⟨hT, hF1⟩ := hB
  rw [ht] at hT hF1
  have hF := hF.more hF1 (by decide)
  try dsimp only at hw4
  obtain ⟨h5, hf6⟩ := hw4
  have t7 : (2 : Int32).toInt = 2 := by decide
  refine tw_iald (i := r3) hx hb hK hT hg2 shm_2 rfl (vin_t (a := r3.toInt) rfl (by omega) (by omega)) dX12_of_9 (fun v9 m8 h9 => ?_)
  obtain ⟨x9, rfl, gx9, kx9⟩ := (gp_at h9 (w_wsq (by have q9 := tn_of (show r3.toInt = r3.toInt from rfl) (show (0 : Int) ≤ r3.toInt from by omega); omega)))
  exact W.iret (v := x9) hx hb hr (fun t ht hW => ⟨⟨x9, (), rfl, (by exact ⟨(rg_t (a := x9.toInt) rfl (by have q8 := ti_all x9; omega) (by have q8 := ti_all x9; omega)), ⟨r3, by have q9 := (show r3.toInt = r3.toInt from rfl); omega, (el_kept (hF.arr hg2 skm_2 (by decide))).symm.trans m8⟩⟩), by (try dsimp only); rw [ht]; exact ⟨hT, hF⟩⟩, hS.F ht⟩) hS.2.2 dX12_of_10
def w_s_of3 : List Cond := .code yX12_of cX12_of 3 (some .int) :: ([.fieldLink RX12 9 "SeaLandModel" "world" "[I", .code yX12_at cX12_at 2 (some .int), .methodLink RX12 214 yX12_at, .static yX12_at, .initialized RX12] ++ bs)
set_option maxHeartbeats 4000000 in
set_option maxRecDepth 100000 in
theorem s_of3 (l : Launch) (dC : Nat → ClassId) (dI : Nat → Nat → Nat) (kA : Nat → ClassId) (G : gT) (H0 : Heap) (q : Nat → Nat) (wN wH wB wC : Int) (wL wK : Nat → Prop) (PI : Nat → Int → Prop) (o0 : Nat) (wk : Int32) (hT : gH (dC, dI) kA (SHm q (wP wN wH wB wC wC wL wK) PI) G H0) (hr_o0 : G o0 = some 0) (hq0 : 0 ≤ wk.toInt ∧ wk.toInt ≤ 29) (hgn : 6500000 ≤ wN ∧ wN ≤ 400000000) (hgh : 0 ≤ wH ∧ wH ≤ 40000) (hgb : 0 ≤ wB ∧ wB ≤ 3850000) (hgc : 0 ≤ wC ∧ wC ≤ 30) : Met l yX12_of w_s_of3 ({ frames := 1, cells := 0, slots := 0, locals := 21 }) (va_Pc [.ref o0, .int wk, .int 3] (fun U => U.heap = H0 ∧ va_K (dC, dI) vwCl (tyl kA) U ∧ EV (gA G H0.size) U U.heap)) (va_Qi (fun (r : Int32) (u : Unit) => (∃ ix : Int32, ix.toInt = 771 + 22 * wk.toInt ∧ el H0 (q 1) ix.toNatClampNeg = some (.int r))) (fun (_ : Unit) (t : State) => gH (dC, dI) kA (SHm q (wP wN wH wB wC wC wL wK) PI) G t.heap ∧ gF (dC, dI) SKm G ([] : List (Nat × Nat)) H0 t.heap) (gA G H0.size)) 0 0 (gA G H0.size) := by
  refine Met.ofW (cc := cX12_of) (maxL := 3) (ret := (some .int)) (by decide) rfl ?_
  intro p e s m args below meth c s₁ B hml hv
  obtain ⟨rfl, hH0, hK, hE⟩ := hv
  have hx := B.exec
  have hb := B.bytes
  have hr := B.returns
  have hts := atoms_spec (ws := w_s_of3) B.pre
  have hown : s.vm.findClass RX12 = some m.cls := findClass_of_methodNamed B.named
  have hlocks := B.notSynchronized
  subst hH0
  generalize hAe : gA G s.heap.size = A at hE ⊢
  have hA : ∀ q : Nat, s.heap.size ≤ q → A q := fun q h => by rw [← hAe]; exact Or.inr h
  have hG := gA_of hAe
  have hS : va_S A s.heap s.heap [] := va_S.rf
  have hF : gF (dC, dI) SKm G ([] : List (Nat × Nat)) s.heap s.heap := gF.rf
  have hl := lv_entry ([.ref o0, .int wk, .int 3]) (n := 3) (Nat.le_of_ble_eq_true rfl)
  rw [lg_entry_eq]
  generalize (lg_sl ([.ref o0, .int wk, .int 3]) ++ List.replicate (3 - (lg_sl ([.ref o0, .int wk, .int 3])).length) Slot.unset).toArray = ls at hl ⊢
  have hl : lv_has ls 3 [(0, .ref o0), (1, .int wk), (2, .int 3)] := hl
  refine lv_aload_n hx hb dX12_of_0 rfl (lv_at hl 0 rfl) ?_
  refine tw_get hx hb hts bF_X12 hown hK hT hr_o0 shm_0 rfl 1 (by decide) (ht_at hts 0 rfl) (fun _ h9 => h9) dX12_of_1 (fun v9 m1 h9 => ?_)
  obtain ⟨rfl, hg2⟩ := h9 _ rfl
  refine lv_iload_n hx hb dX12_of_4 rfl (lv_at hl 1 rfl) ?_
  refine lv_iload_n hx hb dX12_of_5 rfl (lv_at hl 2 rfl) ?_
  have hFc := gA_free hG hA hS
  refine va_calli (va_runS (As := [.int wk, .int 3]) (rest := [.ref (q 1)]) ⟨hx, hb, hml, hown, hts⟩ (s_at l dC dI kA G s.heap q wN wH wB wC wL wK PI wk 3 hT (rg_t (a := wk.toInt) rfl (by have q8 := ti_all wk; omega) (by have q8 := ti_all wk; omega)) (rg_t (a := 3) (by decide) (by omega) (by omega)) (by omega) (by omega) (by omega) (by omega)) (va_cwS 2 hts (goodIn_app (goodIn_r _ [3, 4, 5] (by decide +kernel) (by decide +kernel)) (goodIn_ca (goodIn_r _ [2] (by decide +kernel) (by decide +kernel)) (bs_in _ _))) rfl rfl rfl (by decide +kernel) ⟨(Nat.le_of_ble_eq_true rfl), (Nat.le_of_ble_eq_true rfl)⟩) ⟨fun a U g mk q => by obtain ⟨q0, q1, qK, qE⟩ := q; exact ⟨q0, q1, va_K.moved (u := U) (U := U.calling g mk a) (Vm.Alike.refl U.vm) qK, EV.blind g mk a qE⟩, fun U hU hW => ⟨rfl, hU, va_K.moved hW.alike hK, hE.call hS hFc hU hW⟩⟩ rfl rfl hl.1 rfl (lv_room (Nat.le_of_ble_eq_true rfl)) dX12_of_6 ⟨(Nat.le_of_ble_eq_true rfl), (Nat.le_of_ble_eq_true rfl)⟩) hS (fun q _ h => hFc q h) hFc (fun r3 u t H locs ht hvm hw4 hB _ _ hS => ?_)
  obtain ⟨hT, hF1⟩ := hB
  rw [ht] at hT hF1
  have hF := hF.more hF1 (by decide)
  try dsimp only at hw4
  obtain ⟨h5, hf6⟩ := hw4
  have t7 : (3 : Int32).toInt = 3 := by decide
  refine tw_iald (i := r3) hx hb hK hT hg2 shm_2 rfl (vin_t (a := r3.toInt) rfl (by omega) (by omega)) dX12_of_9 (fun v9 m8 h9 => ?_)
  obtain ⟨x9, rfl, gx9, kx9⟩ := (gp_at h9 (w_fre (by have q9 := tn_of (show r3.toInt = r3.toInt from rfl) (show (0 : Int) ≤ r3.toInt from by omega); omega)))
  exact W.iret (v := x9) hx hb hr (fun t ht hW => ⟨⟨x9, (), rfl, (by exact ⟨r3, by have q9 := (show r3.toInt = r3.toInt from rfl); omega, (el_kept (hF.arr hg2 skm_2 (by decide))).symm.trans m8⟩), by (try dsimp only); rw [ht]; exact ⟨hT, hF⟩⟩, hS.F ht⟩) hS.2.2 dX12_of_10
def w_s_of4 : List Cond := .code yX12_of cX12_of 3 (some .int) :: ([.fieldLink RX12 9 "SeaLandModel" "world" "[I", .code yX12_at cX12_at 2 (some .int), .methodLink RX12 214 yX12_at, .static yX12_at, .initialized RX12] ++ bs)
set_option maxHeartbeats 4000000 in
set_option maxRecDepth 100000 in
theorem s_of4 (l : Launch) (dC : Nat → ClassId) (dI : Nat → Nat → Nat) (kA : Nat → ClassId) (G : gT) (H0 : Heap) (q : Nat → Nat) (wN wH wB wC : Int) (wL wK : Nat → Prop) (PI : Nat → Int → Prop) (o0 : Nat) (wk : Int32) (hT : gH (dC, dI) kA (SHm q (wP wN wH wB wC wC wL wK) PI) G H0) (hr_o0 : G o0 = some 0) (hq0 : 0 ≤ wk.toInt ∧ wk.toInt ≤ 29) (hgn : 6500000 ≤ wN ∧ wN ≤ 400000000) (hgh : 0 ≤ wH ∧ wH ≤ 40000) (hgb : 0 ≤ wB ∧ wB ≤ 3850000) (hgc : 0 ≤ wC ∧ wC ≤ 30) : Met l yX12_of w_s_of4 ({ frames := 1, cells := 0, slots := 0, locals := 21 }) (va_Pc [.ref o0, .int wk, .int 4] (fun U => U.heap = H0 ∧ va_K (dC, dI) vwCl (tyl kA) U ∧ EV (gA G H0.size) U U.heap)) (va_Qi (fun (r : Int32) (u : Unit) => (0 ≤ r.toInt ∧ r.toInt ≤ 6) ∧ (∃ ix : Int32, ix.toInt = 772 + 22 * wk.toInt ∧ el H0 (q 1) ix.toNatClampNeg = some (.int r))) (fun (_ : Unit) (t : State) => gH (dC, dI) kA (SHm q (wP wN wH wB wC wC wL wK) PI) G t.heap ∧ gF (dC, dI) SKm G ([] : List (Nat × Nat)) H0 t.heap) (gA G H0.size)) 0 0 (gA G H0.size) := by
  refine Met.ofW (cc := cX12_of) (maxL := 3) (ret := (some .int)) (by decide) rfl ?_
  intro p e s m args below meth c s₁ B hml hv
  obtain ⟨rfl, hH0, hK, hE⟩ := hv
  have hx := B.exec
  have hb := B.bytes
  have hr := B.returns
  have hts := atoms_spec (ws := w_s_of4) B.pre
  have hown : s.vm.findClass RX12 = some m.cls := findClass_of_methodNamed B.named
  have hlocks := B.notSynchronized
  subst hH0
  generalize hAe : gA G s.heap.size = A at hE ⊢
  have hA : ∀ q : Nat, s.heap.size ≤ q → A q := fun q h => by rw [← hAe]; exact Or.inr h
  have hG := gA_of hAe
  have hS : va_S A s.heap s.heap [] := va_S.rf
  have hF : gF (dC, dI) SKm G ([] : List (Nat × Nat)) s.heap s.heap := gF.rf
  have hl := lv_entry ([.ref o0, .int wk, .int 4]) (n := 3) (Nat.le_of_ble_eq_true rfl)
  rw [lg_entry_eq]
  generalize (lg_sl ([.ref o0, .int wk, .int 4]) ++ List.replicate (3 - (lg_sl ([.ref o0, .int wk, .int 4])).length) Slot.unset).toArray = ls at hl ⊢
  have hl : lv_has ls 3 [(0, .ref o0), (1, .int wk), (2, .int 4)] := hl
  refine lv_aload_n hx hb dX12_of_0 rfl (lv_at hl 0 rfl) ?_
  refine tw_get hx hb hts bF_X12 hown hK hT hr_o0 shm_0 rfl 1 (by decide) (ht_at hts 0 rfl) (fun _ h9 => h9) dX12_of_1 (fun v9 m1 h9 => ?_)
  obtain ⟨rfl, hg2⟩ := h9 _ rfl
  refine lv_iload_n hx hb dX12_of_4 rfl (lv_at hl 1 rfl) ?_
  refine lv_iload_n hx hb dX12_of_5 rfl (lv_at hl 2 rfl) ?_
  have hFc := gA_free hG hA hS
  refine va_calli (va_runS (As := [.int wk, .int 4]) (rest := [.ref (q 1)]) ⟨hx, hb, hml, hown, hts⟩ (s_at l dC dI kA G s.heap q wN wH wB wC wL wK PI wk 4 hT (rg_t (a := wk.toInt) rfl (by have q8 := ti_all wk; omega) (by have q8 := ti_all wk; omega)) (rg_t (a := 4) (by decide) (by omega) (by omega)) (by omega) (by omega) (by omega) (by omega)) (va_cwS 2 hts (goodIn_app (goodIn_r _ [3, 4, 5] (by decide +kernel) (by decide +kernel)) (goodIn_ca (goodIn_r _ [2] (by decide +kernel) (by decide +kernel)) (bs_in _ _))) rfl rfl rfl (by decide +kernel) ⟨(Nat.le_of_ble_eq_true rfl), (Nat.le_of_ble_eq_true rfl)⟩) ⟨fun a U g mk q => by obtain ⟨q0, q1, qK, qE⟩ := q; exact ⟨q0, q1, va_K.moved (u := U) (U := U.calling g mk a) (Vm.Alike.refl U.vm) qK, EV.blind g mk a qE⟩, fun U hU hW => ⟨rfl, hU, va_K.moved hW.alike hK, hE.call hS hFc hU hW⟩⟩ rfl rfl hl.1 rfl (lv_room (Nat.le_of_ble_eq_true rfl)) dX12_of_6 ⟨(Nat.le_of_ble_eq_true rfl), (Nat.le_of_ble_eq_true rfl)⟩) hS (fun q _ h => hFc q h) hFc (fun r3 u t H locs ht hvm hw4 hB _ _ hS => ?_)
  obtain ⟨hT, hF1⟩ := hB
  rw [ht] at hT hF1
  have hF := hF.more hF1 (by decide)
  try dsimp only at hw4
  obtain ⟨h5, hf6⟩ := hw4
  have t7 : (4 : Int32).toInt = 4 := by decide
  refine tw_iald (i := r3) hx hb hK hT hg2 shm_2 rfl (vin_t (a := r3.toInt) rfl (by omega) (by omega)) dX12_of_9 (fun v9 m8 h9 => ?_)
  obtain ⟨x9, rfl, gx9, kx9⟩ := (gp_at h9 (w_wld (by have q9 := tn_of (show r3.toInt = r3.toInt from rfl) (show (0 : Int) ≤ r3.toInt from by omega); omega)))
  exact W.iret (v := x9) hx hb hr (fun t ht hW => ⟨⟨x9, (), rfl, (by exact ⟨(rg_t (a := x9.toInt) rfl (by have q8 := ti_all x9; omega) (by have q8 := ti_all x9; omega)), ⟨r3, by have q9 := (show r3.toInt = r3.toInt from rfl); omega, (el_kept (hF.arr hg2 skm_2 (by decide))).symm.trans m8⟩⟩), by (try dsimp only); rw [ht]; exact ⟨hT, hF⟩⟩, hS.F ht⟩) hS.2.2 dX12_of_10
def w_s_of17 : List Cond := .code yX12_of cX12_of 3 (some .int) :: ([.fieldLink RX12 9 "SeaLandModel" "world" "[I", .code yX12_at cX12_at 2 (some .int), .methodLink RX12 214 yX12_at, .static yX12_at, .initialized RX12] ++ bs)
set_option maxHeartbeats 4000000 in
set_option maxRecDepth 100000 in
theorem s_of17 (l : Launch) (dC : Nat → ClassId) (dI : Nat → Nat → Nat) (kA : Nat → ClassId) (G : gT) (H0 : Heap) (q : Nat → Nat) (wN wH wB wC : Int) (wL wK : Nat → Prop) (PI : Nat → Int → Prop) (o0 : Nat) (wk : Int32) (hT : gH (dC, dI) kA (SHm q (wP wN wH wB wC wC wL wK) PI) G H0) (hr_o0 : G o0 = some 0) (hq0 : 0 ≤ wk.toInt ∧ wk.toInt ≤ 29) (hgn : 6500000 ≤ wN ∧ wN ≤ 400000000) (hgh : 0 ≤ wH ∧ wH ≤ 40000) (hgb : 0 ≤ wB ∧ wB ≤ 3850000) (hgc : 0 ≤ wC ∧ wC ≤ 30) : Met l yX12_of w_s_of17 ({ frames := 1, cells := 0, slots := 0, locals := 21 }) (va_Pc [.ref o0, .int wk, .int 17] (fun U => U.heap = H0 ∧ va_K (dC, dI) vwCl (tyl kA) U ∧ EV (gA G H0.size) U U.heap)) (va_Qi (fun (r : Int32) (u : Unit) => (0 ≤ r.toInt ∧ r.toInt ≤ 60) ∧ (∃ ix : Int32, ix.toInt = 785 + 22 * wk.toInt ∧ el H0 (q 1) ix.toNatClampNeg = some (.int r))) (fun (_ : Unit) (t : State) => gH (dC, dI) kA (SHm q (wP wN wH wB wC wC wL wK) PI) G t.heap ∧ gF (dC, dI) SKm G ([] : List (Nat × Nat)) H0 t.heap) (gA G H0.size)) 0 0 (gA G H0.size) := by
  refine Met.ofW (cc := cX12_of) (maxL := 3) (ret := (some .int)) (by decide) rfl ?_
  intro p e s m args below meth c s₁ B hml hv
  obtain ⟨rfl, hH0, hK, hE⟩ := hv
  have hx := B.exec
  have hb := B.bytes
  have hr := B.returns
  have hts := atoms_spec (ws := w_s_of17) B.pre
  have hown : s.vm.findClass RX12 = some m.cls := findClass_of_methodNamed B.named
  have hlocks := B.notSynchronized
  subst hH0
  generalize hAe : gA G s.heap.size = A at hE ⊢
  have hA : ∀ q : Nat, s.heap.size ≤ q → A q := fun q h => by rw [← hAe]; exact Or.inr h
  have hG := gA_of hAe
  have hS : va_S A s.heap s.heap [] := va_S.rf
  have hF : gF (dC, dI) SKm G ([] : List (Nat × Nat)) s.heap s.heap := gF.rf
  have hl := lv_entry ([.ref o0, .int wk, .int 17]) (n := 3) (Nat.le_of_ble_eq_true rfl)
  rw [lg_entry_eq]
  generalize (lg_sl ([.ref o0, .int wk, .int 17]) ++ List.replicate (3 - (lg_sl ([.ref o0, .int wk, .int 17])).length) Slot.unset).toArray = ls at hl ⊢
  have hl : lv_has ls 3 [(0, .ref o0), (1, .int wk), (2, .int 17)] := hl
  refine lv_aload_n hx hb dX12_of_0 rfl (lv_at hl 0 rfl) ?_
  refine tw_get hx hb hts bF_X12 hown hK hT hr_o0 shm_0 rfl 1 (by decide) (ht_at hts 0 rfl) (fun _ h9 => h9) dX12_of_1 (fun v9 m1 h9 => ?_)
  obtain ⟨rfl, hg2⟩ := h9 _ rfl
  refine lv_iload_n hx hb dX12_of_4 rfl (lv_at hl 1 rfl) ?_
  refine lv_iload_n hx hb dX12_of_5 rfl (lv_at hl 2 rfl) ?_
  have hFc := gA_free hG hA hS
  refine va_calli (va_runS (As := [.int wk, .int 17]) (rest := [.ref (q 1)]) ⟨hx, hb, hml, hown, hts⟩ (s_at l dC dI kA G s.heap q wN wH wB wC wL wK PI wk 17 hT (rg_t (a := wk.toInt) rfl (by have q8 := ti_all wk; omega) (by have q8 := ti_all wk; omega)) (rg_t (a := 17) (by decide) (by omega) (by omega)) (by omega) (by omega) (by omega) (by omega)) (va_cwS 2 hts (goodIn_app (goodIn_r _ [3, 4, 5] (by decide +kernel) (by decide +kernel)) (goodIn_ca (goodIn_r _ [2] (by decide +kernel) (by decide +kernel)) (bs_in _ _))) rfl rfl rfl (by decide +kernel) ⟨(Nat.le_of_ble_eq_true rfl), (Nat.le_of_ble_eq_true rfl)⟩) ⟨fun a U g mk q => by obtain ⟨q0, q1, qK, qE⟩ := q; exact ⟨q0, q1, va_K.moved (u := U) (U := U.calling g mk a) (Vm.Alike.refl U.vm) qK, EV.blind g mk a qE⟩, fun U hU hW => ⟨rfl, hU, va_K.moved hW.alike hK, hE.call hS hFc hU hW⟩⟩ rfl rfl hl.1 rfl (lv_room (Nat.le_of_ble_eq_true rfl)) dX12_of_6 ⟨(Nat.le_of_ble_eq_true rfl), (Nat.le_of_ble_eq_true rfl)⟩) hS (fun q _ h => hFc q h) hFc (fun r3 u t H locs ht hvm hw4 hB _ _ hS => ?_)
  obtain ⟨hT, hF1⟩ := hB
  rw [ht] at hT hF1
  have hF := hF.more hF1 (by decide)
  try dsimp only at hw4
  obtain ⟨h5, hf6⟩ := hw4
  have t7 : (17 : Int32).toInt = 17 := by decide
  refine tw_iald (i := r3) hx hb hK hT hg2 shm_2 rfl (vin_t (a := r3.toInt) rfl (by omega) (by omega)) dX12_of_9 (fun v9 m8 h9 => ?_)
  obtain ⟨x9, rfl, gx9, kx9⟩ := (gp_at h9 (w_wsz (by have q9 := tn_of (show r3.toInt = r3.toInt from rfl) (show (0 : Int) ≤ r3.toInt from by omega); omega)))
  exact W.iret (v := x9) hx hb hr (fun t ht hW => ⟨⟨x9, (), rfl, (by exact ⟨(rg_t (a := x9.toInt) rfl (by have q8 := ti_all x9; omega) (by have q8 := ti_all x9; omega)), ⟨r3, by have q9 := (show r3.toInt = r3.toInt from rfl); omega, (el_kept (hF.arr hg2 skm_2 (by decide))).symm.trans m8⟩⟩), by (try dsimp only); rw [ht]; exact ⟨hT, hF⟩⟩, hS.F ht⟩) hS.2.2 dX12_of_10
def w_s_of18 : List Cond := .code yX12_of cX12_of 3 (some .int) :: ([.fieldLink RX12 9 "SeaLandModel" "world" "[I", .code yX12_at cX12_at 2 (some .int), .methodLink RX12 214 yX12_at, .static yX12_at, .initialized RX12] ++ bs)
set_option maxHeartbeats 4000000 in
set_option maxRecDepth 100000 in
theorem s_of18 (l : Launch) (dC : Nat → ClassId) (dI : Nat → Nat → Nat) (kA : Nat → ClassId) (G : gT) (H0 : Heap) (q : Nat → Nat) (wN wH wB wC : Int) (wL wK : Nat → Prop) (PI : Nat → Int → Prop) (o0 : Nat) (wk : Int32) (hT : gH (dC, dI) kA (SHm q (wP wN wH wB wC wC wL wK) PI) G H0) (hr_o0 : G o0 = some 0) (hq0 : 0 ≤ wk.toInt ∧ wk.toInt ≤ 29) (hgn : 6500000 ≤ wN ∧ wN ≤ 400000000) (hgh : 0 ≤ wH ∧ wH ≤ 40000) (hgb : 0 ≤ wB ∧ wB ≤ 3850000) (hgc : 0 ≤ wC ∧ wC ≤ 30) : Met l yX12_of w_s_of18 ({ frames := 1, cells := 0, slots := 0, locals := 21 }) (va_Pc [.ref o0, .int wk, .int 18] (fun U => U.heap = H0 ∧ va_K (dC, dI) vwCl (tyl kA) U ∧ EV (gA G H0.size) U U.heap)) (va_Qi (fun (r : Int32) (u : Unit) => (∃ ix : Int32, ix.toInt = 786 + 22 * wk.toInt ∧ el H0 (q 1) ix.toNatClampNeg = some (.int r))) (fun (_ : Unit) (t : State) => gH (dC, dI) kA (SHm q (wP wN wH wB wC wC wL wK) PI) G t.heap ∧ gF (dC, dI) SKm G ([] : List (Nat × Nat)) H0 t.heap) (gA G H0.size)) 0 0 (gA G H0.size) := by
  refine Met.ofW (cc := cX12_of) (maxL := 3) (ret := (some .int)) (by decide) rfl ?_
  intro p e s m args below meth c s₁ B hml hv
  obtain ⟨rfl, hH0, hK, hE⟩ := hv
  have hx := B.exec
  have hb := B.bytes
  have hr := B.returns
  have hts := atoms_spec (ws := w_s_of18) B.pre
  have hown : s.vm.findClass RX12 = some m.cls := findClass_of_methodNamed B.named
  have hlocks := B.notSynchronized
  subst hH0
  generalize hAe : gA G s.heap.size = A at hE ⊢
  have hA : ∀ q : Nat, s.heap.size ≤ q → A q := fun q h => by rw [← hAe]; exact Or.inr h
  have hG := gA_of hAe
  have hS : va_S A s.heap s.heap [] := va_S.rf
  have hF : gF (dC, dI) SKm G ([] : List (Nat × Nat)) s.heap s.heap := gF.rf
  have hl := lv_entry ([.ref o0, .int wk, .int 18]) (n := 3) (Nat.le_of_ble_eq_true rfl)
  rw [lg_entry_eq]
  generalize (lg_sl ([.ref o0, .int wk, .int 18]) ++ List.replicate (3 - (lg_sl ([.ref o0, .int wk, .int 18])).length) Slot.unset).toArray = ls at hl ⊢
  have hl : lv_has ls 3 [(0, .ref o0), (1, .int wk), (2, .int 18)] := hl
  refine lv_aload_n hx hb dX12_of_0 rfl (lv_at hl 0 rfl) ?_
  refine tw_get hx hb hts bF_X12 hown hK hT hr_o0 shm_0 rfl 1 (by decide) (ht_at hts 0 rfl) (fun _ h9 => h9) dX12_of_1 (fun v9 m1 h9 => ?_)
  obtain ⟨rfl, hg2⟩ := h9 _ rfl
  refine lv_iload_n hx hb dX12_of_4 rfl (lv_at hl 1 rfl) ?_
  refine lv_iload_n hx hb dX12_of_5 rfl (lv_at hl 2 rfl) ?_
  have hFc := gA_free hG hA hS
  refine va_calli (va_runS (As := [.int wk, .int 18]) (rest := [.ref (q 1)]) ⟨hx, hb, hml, hown, hts⟩ (s_at l dC dI kA G s.heap q wN wH wB wC wL wK PI wk 18 hT (rg_t (a := wk.toInt) rfl (by have q8 := ti_all wk; omega) (by have q8 := ti_all wk; omega)) (rg_t (a := 18) (by decide) (by omega) (by omega)) (by omega) (by omega) (by omega) (by omega)) (va_cwS 2 hts (goodIn_app (goodIn_r _ [3, 4, 5] (by decide +kernel) (by decide +kernel)) (goodIn_ca (goodIn_r _ [2] (by decide +kernel) (by decide +kernel)) (bs_in _ _))) rfl rfl rfl (by decide +kernel) ⟨(Nat.le_of_ble_eq_true rfl), (Nat.le_of_ble_eq_true rfl)⟩) ⟨fun a U g mk q => by obtain ⟨q0, q1, qK, qE⟩ := q; exact ⟨q0, q1, va_K.moved (u := U) (U := U.calling g mk a) (Vm.Alike.refl U.vm) qK, EV.blind g mk a qE⟩, fun U hU hW => ⟨rfl, hU, va_K.moved hW.alike hK, hE.call hS hFc hU hW⟩⟩ rfl rfl hl.1 rfl (lv_room (Nat.le_of_ble_eq_true rfl)) dX12_of_6 ⟨(Nat.le_of_ble_eq_true rfl), (Nat.le_of_ble_eq_true rfl)⟩) hS (fun q _ h => hFc q h) hFc (fun r3 u t H locs ht hvm hw4 hB _ _ hS => ?_)
  obtain ⟨hT, hF1⟩ := hB
  rw [ht] at hT hF1
  have hF := hF.more hF1 (by decide)
  try dsimp only at hw4
  obtain ⟨h5, hf6⟩ := hw4
  have t7 : (18 : Int32).toInt = 18 := by decide
  refine tw_iald (i := r3) hx hb hK hT hg2 shm_2 rfl (vin_t (a := r3.toInt) rfl (by omega) (by omega)) dX12_of_9 (fun v9 m8 h9 => ?_)
  obtain ⟨x9, rfl, gx9, kx9⟩ := (gp_at h9 (w_fre (by have q9 := tn_of (show r3.toInt = r3.toInt from rfl) (show (0 : Int) ≤ r3.toInt from by omega); omega)))
  exact W.iret (v := x9) hx hb hr (fun t ht hW => ⟨⟨x9, (), rfl, (by exact ⟨r3, by have q9 := (show r3.toInt = r3.toInt from rfl); omega, (el_kept (hF.arr hg2 skm_2 (by decide))).symm.trans m8⟩), by (try dsimp only); rw [ht]; exact ⟨hT, hF⟩⟩, hS.F ht⟩) hS.2.2 dX12_of_10
def w_s_of19 : List Cond := .code yX12_of cX12_of 3 (some .int) :: ([.fieldLink RX12 9 "SeaLandModel" "world" "[I", .code yX12_at cX12_at 2 (some .int), .methodLink RX12 214 yX12_at, .static yX12_at, .initialized RX12] ++ bs)
set_option maxHeartbeats 4000000 in
set_option maxRecDepth 100000 in
theorem s_of19 (l : Launch) (dC : Nat → ClassId) (dI : Nat → Nat → Nat) (kA : Nat → ClassId) (G : gT) (H0 : Heap) (q : Nat → Nat) (wN wH wB wC : Int) (wL wK : Nat → Prop) (PI : Nat → Int → Prop) (o0 : Nat) (wk : Int32) (hT : gH (dC, dI) kA (SHm q (wP wN wH wB wC wC wL wK) PI) G H0) (hr_o0 : G o0 = some 0) (hq0 : 0 ≤ wk.toInt ∧ wk.toInt ≤ 29) (hgn : 6500000 ≤ wN ∧ wN ≤ 400000000) (hgh : 0 ≤ wH ∧ wH ≤ 40000) (hgb : 0 ≤ wB ∧ wB ≤ 3850000) (hgc : 0 ≤ wC ∧ wC ≤ 30) : Met l yX12_of w_s_of19 ({ frames := 1, cells := 0, slots := 0, locals := 21 }) (va_Pc [.ref o0, .int wk, .int 19] (fun U => U.heap = H0 ∧ va_K (dC, dI) vwCl (tyl kA) U ∧ EV (gA G H0.size) U U.heap)) (va_Qi (fun (r : Int32) (u : Unit) => (∃ ix : Int32, ix.toInt = 787 + 22 * wk.toInt ∧ el H0 (q 1) ix.toNatClampNeg = some (.int r))) (fun (_ : Unit) (t : State) => gH (dC, dI) kA (SHm q (wP wN wH wB wC wC wL wK) PI) G t.heap ∧ gF (dC, dI) SKm G ([] : List (Nat × Nat)) H0 t.heap) (gA G H0.size)) 0 0 (gA G H0.size) := by
  refine Met.ofW (cc := cX12_of) (maxL := 3) (ret := (some .int)) (by decide) rfl ?_
  intro p e s m args below meth c s₁ B hml hv
  obtain ⟨rfl, hH0, hK, hE⟩ := hv
  have hx := B.exec
  have hb := B.bytes
  have hr := B.returns
  have hts := atoms_spec (ws := w_s_of19) B.pre
  have hown : s.vm.findClass RX12 = some m.cls := findClass_of_methodNamed B.named
  have hlocks := B.notSynchronized
  subst hH0
  generalize hAe : gA G s.heap.size = A at hE ⊢
  have hA : ∀ q : Nat, s.heap.size ≤ q → A q := fun q h => by rw [← hAe]; exact Or.inr h
  have hG := gA_of hAe
  have hS : va_S A s.heap s.heap [] := va_S.rf
  have hF : gF (dC, dI) SKm G ([] : List (Nat × Nat)) s.heap s.heap := gF.rf
  have hl := lv_entry ([.ref o0, .int wk, .int 19]) (n := 3) (Nat.le_of_ble_eq_true rfl)
  rw [lg_entry_eq]
  generalize (lg_sl ([.ref o0, .int wk, .int 19]) ++ List.replicate (3 - (lg_sl ([.ref o0, .int wk, .int 19])).length) Slot.unset).toArray = ls at hl ⊢
  have hl : lv_has ls 3 [(0, .ref o0), (1, .int wk), (2, .int 19)] := hl
  refine lv_aload_n hx hb dX12_of_0 rfl (lv_at hl 0 rfl) ?_
  refine tw_get hx hb hts bF_X12 hown hK hT hr_o0 shm_0 rfl 1 (by decide) (ht_at hts 0 rfl) (fun _ h9 => h9) dX12_of_1 (fun v9 m1 h9 => ?_)
  obtain ⟨rfl, hg2⟩ := h9 _ rfl
  refine lv_iload_n hx hb dX12_of_4 rfl (lv_at hl 1 rfl) ?_
  refine lv_iload_n hx hb dX12_of_5 rfl (lv_at hl 2 rfl) ?_
  have hFc := gA_free hG hA hS
  refine va_calli (va_runS (As := [.int wk, .int 19]) (rest := [.ref (q 1)]) ⟨hx, hb, hml, hown, hts⟩ (s_at l dC dI kA G s.heap q wN wH wB wC wL wK PI wk 19 hT (rg_t (a := wk.toInt) rfl (by have q8 := ti_all wk; omega) (by have q8 := ti_all wk; omega)) (rg_t (a := 19) (by decide) (by omega) (by omega)) (by omega) (by omega) (by omega) (by omega)) (va_cwS 2 hts (goodIn_app (goodIn_r _ [3, 4, 5] (by decide +kernel) (by decide +kernel)) (goodIn_ca (goodIn_r _ [2] (by decide +kernel) (by decide +kernel)) (bs_in _ _))) rfl rfl rfl (by decide +kernel) ⟨(Nat.le_of_ble_eq_true rfl), (Nat.le_of_ble_eq_true rfl)⟩) ⟨fun a U g mk q => by obtain ⟨q0, q1, qK, qE⟩ := q; exact ⟨q0, q1, va_K.moved (u := U) (U := U.calling g mk a) (Vm.Alike.refl U.vm) qK, EV.blind g mk a qE⟩, fun U hU hW => ⟨rfl, hU, va_K.moved hW.alike hK, hE.call hS hFc hU hW⟩⟩ rfl rfl hl.1 rfl (lv_room (Nat.le_of_ble_eq_true rfl)) dX12_of_6 ⟨(Nat.le_of_ble_eq_true rfl), (Nat.le_of_ble_eq_true rfl)⟩) hS (fun q _ h => hFc q h) hFc (fun r3 u t H locs ht hvm hw4 hB _ _ hS => ?_)
  obtain ⟨hT, hF1⟩ := hB
  rw [ht] at hT hF1
  have hF := hF.more hF1 (by decide)
  try dsimp only at hw4
  obtain ⟨h5, hf6⟩ := hw4
  have t7 : (19 : Int32).toInt = 19 := by decide
  refine tw_iald (i := r3) hx hb hK hT hg2 shm_2 rfl (vin_t (a := r3.toInt) rfl (by omega) (by omega)) dX12_of_9 (fun v9 m8 h9 => ?_)
  obtain ⟨x9, rfl, gx9, kx9⟩ := (gp_at h9 (w_fre (by have q9 := tn_of (show r3.toInt = r3.toInt from rfl) (show (0 : Int) ≤ r3.toInt from by omega); omega)))
  exact W.iret (v := x9) hx hb hr (fun t ht hW => ⟨⟨x9, (), rfl, (by exact ⟨r3, by have q9 := (show r3.toInt = r3.toInt from rfl); omega, (el_kept (hF.arr hg2 skm_2 (by decide))).symm.trans m8⟩), by (try dsimp only); rw [ht]; exact ⟨hT, hF⟩⟩, hS.F ht⟩) hS.2.2 dX12_of_10
def w_s_of20 : List Cond := .code yX12_of cX12_of 3 (some .int) :: ([.fieldLink RX12 9 "SeaLandModel" "world" "[I", .code yX12_at cX12_at 2 (some .int), .methodLink RX12 214 yX12_at, .static yX12_at, .initialized RX12] ++ bs)
set_option maxHeartbeats 4000000 in
set_option maxRecDepth 100000 in
theorem s_of20 (l : Launch) (dC : Nat → ClassId) (dI : Nat → Nat → Nat) (kA : Nat → ClassId) (G : gT) (H0 : Heap) (q : Nat → Nat) (wN wH wB wC : Int) (wL wK : Nat → Prop) (PI : Nat → Int → Prop) (o0 : Nat) (wk : Int32) (hT : gH (dC, dI) kA (SHm q (wP wN wH wB wC wC wL wK) PI) G H0) (hr_o0 : G o0 = some 0) (hq0 : 0 ≤ wk.toInt ∧ wk.toInt ≤ 29) (hgn : 6500000 ≤ wN ∧ wN ≤ 400000000) (hgh : 0 ≤ wH ∧ wH ≤ 40000) (hgb : 0 ≤ wB ∧ wB ≤ 3850000) (hgc : 0 ≤ wC ∧ wC ≤ 30) : Met l yX12_of w_s_of20 ({ frames := 1, cells := 0, slots := 0, locals := 21 }) (va_Pc [.ref o0, .int wk, .int 20] (fun U => U.heap = H0 ∧ va_K (dC, dI) vwCl (tyl kA) U ∧ EV (gA G H0.size) U U.heap)) (va_Qi (fun (r : Int32) (u : Unit) => (∃ ix : Int32, ix.toInt = 788 + 22 * wk.toInt ∧ el H0 (q 1) ix.toNatClampNeg = some (.int r))) (fun (_ : Unit) (t : State) => gH (dC, dI) kA (SHm q (wP wN wH wB wC wC wL wK) PI) G t.heap ∧ gF (dC, dI) SKm G ([] : List (Nat × Nat)) H0 t.heap) (gA G H0.size)) 0 0 (gA G H0.size) := by
  refine Met.ofW (cc := cX12_of) (maxL := 3) (ret := (some .int)) (by decide) rfl ?_
  intro p e s m args below meth c s₁ B hml hv
  obtain ⟨rfl, hH0, hK, hE⟩ := hv
  have hx := B.exec
  have hb := B.bytes
  have hr := B.returns
  have hts := atoms_spec (ws := w_s_of20) B.pre
  have hown : s.vm.findClass RX12 = some m.cls := findClass_of_methodNamed B.named
  have hlocks := B.notSynchronized
  subst hH0
  generalize hAe : gA G s.heap.size = A at hE ⊢
  have hA : ∀ q : Nat, s.heap.size ≤ q → A q := fun q h => by rw [← hAe]; exact Or.inr h
  have hG := gA_of hAe
  have hS : va_S A s.heap s.heap [] := va_S.rf
  have hF : gF (dC, dI) SKm G ([] : List (Nat × Nat)) s.heap s.heap := gF.rf
  have hl := lv_entry ([.ref o0, .int wk, .int 20]) (n := 3) (Nat.le_of_ble_eq_true rfl)
  rw [lg_entry_eq]
  generalize (lg_sl ([.ref o0, .int wk, .int 20]) ++ List.replicate (3 - (lg_sl ([.ref o0, .int wk, .int 20])).length) Slot.unset).toArray = ls at hl ⊢
  have hl : lv_has ls 3 [(0, .ref o0), (1, .int wk), (2, .int 20)] := hl
  refine lv_aload_n hx hb dX12_of_0 rfl (lv_at hl 0 rfl) ?_
  refine tw_get hx hb hts bF_X12 hown hK hT hr_o0 shm_0 rfl 1 (by decide) (ht_at hts 0 rfl) (fun _ h9 => h9) dX12_of_1 (fun v9 m1 h9 => ?_)
  obtain ⟨rfl, hg2⟩ := h9 _ rfl
  refine lv_iload_n hx hb dX12_of_4 rfl (lv_at hl 1 rfl) ?_
  refine lv_iload_n hx hb dX12_of_5 rfl (lv_at hl 2 rfl) ?_
  have hFc := gA_free hG hA hS
  refine va_calli (va_runS (As := [.int wk, .int 20]) (rest := [.ref (q 1)]) ⟨hx, hb, hml, hown, hts⟩ (s_at l dC dI kA G s.heap q wN wH wB wC wL wK PI wk 20 hT (rg_t (a := wk.toInt) rfl (by have q8 := ti_all wk; omega) (by have q8 := ti_all wk; omega)) (rg_t (a := 20) (by decide) (by omega) (by omega)) (by omega) (by omega) (by omega) (by omega)) (va_cwS 2 hts (goodIn_app (goodIn_r _ [3, 4, 5] (by decide +kernel) (by decide +kernel)) (goodIn_ca (goodIn_r _ [2] (by decide +kernel) (by decide +kernel)) (bs_in _ _))) rfl rfl rfl (by decide +kernel) ⟨(Nat.le_of_ble_eq_true rfl), (Nat.le_of_ble_eq_true rfl)⟩) ⟨fun a U g mk q => by obtain ⟨q0, q1, qK, qE⟩ := q; exact ⟨q0, q1, va_K.moved (u := U) (U := U.calling g mk a) (Vm.Alike.refl U.vm) qK, EV.blind g mk a qE⟩, fun U hU hW => ⟨rfl, hU, va_K.moved hW.alike hK, hE.call hS hFc hU hW⟩⟩ rfl rfl hl.1 rfl (lv_room (Nat.le_of_ble_eq_true rfl)) dX12_of_6 ⟨(Nat.le_of_ble_eq_true rfl), (Nat.le_of_ble_eq_true rfl)⟩) hS (fun q _ h => hFc q h) hFc (fun r3 u t H locs ht hvm hw4 hB _ _ hS => ?_)
  obtain ⟨hT, hF1⟩ := hB
  rw [ht] at hT hF1
  have hF := hF.more hF1 (by decide)
  try dsimp only at hw4
  obtain ⟨h5, hf6⟩ := hw4
  have t7 : (20 : Int32).toInt = 20 := by decide
  refine tw_iald (i := r3) hx hb hK hT hg2 shm_2 rfl (vin_t (a := r3.toInt) rfl (by omega) (by omega)) dX12_of_9 (fun v9 m8 h9 => ?_)
  obtain ⟨x9, rfl, gx9, kx9⟩ := (gp_at h9 (w_fre (by have q9 := tn_of (show r3.toInt = r3.toInt from rfl) (show (0 : Int) ≤ r3.toInt from by omega); omega)))
  exact W.iret (v := x9) hx hb hr (fun t ht hW => ⟨⟨x9, (), rfl, (by exact ⟨r3, by have q9 := (show r3.toInt = r3.toInt from rfl); omega, (el_kept (hF.arr hg2 skm_2 (by decide))).symm.trans m8⟩), by (try dsimp only); rw [ht]; exact ⟨hT, hF⟩⟩, hS.F ht⟩) hS.2.2 dX12_of_10
def w_s_of21 : List Cond := .code yX12_of cX12_of 3 (some .int) :: ([.fieldLink RX12 9 "SeaLandModel" "world" "[I", .code yX12_at cX12_at 2 (some .int), .methodLink RX12 214 yX12_at, .static yX12_at, .initialized RX12] ++ bs)
set_option maxHeartbeats 4000000 in
set_option maxRecDepth 100000 in
theorem s_of21 (l : Launch) (dC : Nat → ClassId) (dI : Nat → Nat → Nat) (kA : Nat → ClassId) (G : gT) (H0 : Heap) (q : Nat → Nat) (wN wH wB wC : Int) (wL wK : Nat → Prop) (PI : Nat → Int → Prop) (o0 : Nat) (wk : Int32) (hT : gH (dC, dI) kA (SHm q (wP wN wH wB wC wC wL wK) PI) G H0) (hr_o0 : G o0 = some 0) (hq0 : 0 ≤ wk.toInt ∧ wk.toInt ≤ 29) (hgn : 6500000 ≤ wN ∧ wN ≤ 400000000) (hgh : 0 ≤ wH ∧ wH ≤ 40000) (hgb : 0 ≤ wB ∧ wB ≤ 3850000) (hgc : 0 ≤ wC ∧ wC ≤ 30) : Met l yX12_of w_s_of21 ({ frames := 1, cells := 0, slots := 0, locals := 21 }) (va_Pc [.ref o0, .int wk, .int 21] (fun U => U.heap = H0 ∧ va_K (dC, dI) vwCl (tyl kA) U ∧ EV (gA G H0.size) U U.heap)) (va_Qi (fun (r : Int32) (u : Unit) => (∃ ix : Int32, ix.toInt = 789 + 22 * wk.toInt ∧ el H0 (q 1) ix.toNatClampNeg = some (.int r))) (fun (_ : Unit) (t : State) => gH (dC, dI) kA (SHm q (wP wN wH wB wC wC wL wK) PI) G t.heap ∧ gF (dC, dI) SKm G ([] : List (Nat × Nat)) H0 t.heap) (gA G H0.size)) 0 0 (gA G H0.size) := by
  refine Met.ofW (cc := cX12_of) (maxL := 3) (ret := (some .int)) (by decide) rfl ?_
  intro p e s m args below meth c s₁ B hml hv
  obtain ⟨rfl, hH0, hK, hE⟩ := hv
  have hx := B.exec
  have hb := B.bytes
  have hr := B.returns
  have hts := atoms_spec (ws := w_s_of21) B.pre
  have hown : s.vm.findClass RX12 = some m.cls := findClass_of_methodNamed B.named
  have hlocks := B.notSynchronized
  subst hH0
  generalize hAe : gA G s.heap.size = A at hE ⊢
  have hA : ∀ q : Nat, s.heap.size ≤ q → A q := fun q h => by rw [← hAe]; exact Or.inr h
  have hG := gA_of hAe
  have hS : va_S A s.heap s.heap [] := va_S.rf
  have hF : gF (dC, dI) SKm G ([] : List (Nat × Nat)) s.heap s.heap := gF.rf
  have hl := lv_entry ([.ref o0, .int wk, .int 21]) (n := 3) (Nat.le_of_ble_eq_true rfl)
  rw [lg_entry_eq]
  generalize (lg_sl ([.ref o0, .int wk, .int 21]) ++ List.replicate (3 - (lg_sl ([.ref o0, .int wk, .int 21])).length) Slot.unset).toArray = ls at hl ⊢
  have hl : lv_has ls 3 [(0, .ref o0), (1, .int wk), (2, .int 21)] := hl
  refine lv_aload_n hx hb dX12_of_0 rfl (lv_at hl 0 rfl) ?_
  refine tw_get hx hb hts bF_X12 hown hK hT hr_o0 shm_0 rfl 1 (by decide) (ht_at hts 0 rfl) (fun _ h9 => h9) dX12_of_1 (fun v9 m1 h9 => ?_)
  obtain ⟨rfl, hg2⟩ := h9 _ rfl
  refine lv_iload_n hx hb dX12_of_4 rfl (lv_at hl 1 rfl) ?_
  refine lv_iload_n hx hb dX12_of_5 rfl (lv_at hl 2 rfl) ?_
  have hFc := gA_free hG hA hS
  refine va_calli (va_runS (As := [.int wk, .int 21]) (rest := [.ref (q 1)]) ⟨hx, hb, hml, hown, hts⟩ (s_at l dC dI kA G s.heap q wN wH wB wC wL wK PI wk 21 hT (rg_t (a := wk.toInt) rfl (by have q8 := ti_all wk; omega) (by have q8 := ti_all wk; omega)) (rg_t (a := 21) (by decide) (by omega) (by omega)) (by omega) (by omega) (by omega) (by omega)) (va_cwS 2 hts (goodIn_app (goodIn_r _ [3, 4, 5] (by decide +kernel) (by decide +kernel)) (goodIn_ca (goodIn_r _ [2] (by decide +kernel) (by decide +kernel)) (bs_in _ _))) rfl rfl rfl (by decide +kernel) ⟨(Nat.le_of_ble_eq_true rfl), (Nat.le_of_ble_eq_true rfl)⟩) ⟨fun a U g mk q => by obtain ⟨q0, q1, qK, qE⟩ := q; exact ⟨q0, q1, va_K.moved (u := U) (U := U.calling g mk a) (Vm.Alike.refl U.vm) qK, EV.blind g mk a qE⟩, fun U hU hW => ⟨rfl, hU, va_K.moved hW.alike hK, hE.call hS hFc hU hW⟩⟩ rfl rfl hl.1 rfl (lv_room (Nat.le_of_ble_eq_true rfl)) dX12_of_6 ⟨(Nat.le_of_ble_eq_true rfl), (Nat.le_of_ble_eq_true rfl)⟩) hS (fun q _ h => hFc q h) hFc (fun r3 u t H locs ht hvm hw4 hB _ _ hS => ?_)
  obtain ⟨hT, hF1⟩ := hB
  rw [ht] at hT hF1
  have hF := hF.more hF1 (by decide)
  try dsimp only at hw4
  obtain ⟨h5, hf6⟩ := hw4
  have t7 : (21 : Int32).toInt = 21 := by decide
  refine tw_iald (i := r3) hx hb hK hT hg2 shm_2 rfl (vin_t (a := r3.toInt) rfl (by omega) (by omega)) dX12_of_9 (fun v9 m8 h9 => ?_)
  obtain ⟨x9, rfl, gx9, kx9⟩ := (gp_at h9 (w_fre (by have q9 := tn_of (show r3.toInt = r3.toInt from rfl) (show (0 : Int) ≤ r3.toInt from by omega); omega)))
  exact W.iret (v := x9) hx hb hr (fun t ht hW => ⟨⟨x9, (), rfl, (by exact ⟨r3, by have q9 := (show r3.toInt = r3.toInt from rfl); omega, (el_kept (hF.arr hg2 skm_2 (by decide))).symm.trans m8⟩), by (try dsimp only); rw [ht]; exact ⟨hT, hF⟩⟩, hS.F ht⟩) hS.2.2 dX12_of_10
def w_s_ofT : List Cond := .code yX12_of cX12_of 3 (some .int) :: ([.fieldLink RX12 9 "SeaLandModel" "world" "[I", .code yX12_at cX12_at 2 (some .int), .methodLink RX12 214 yX12_at, .static yX12_at, .initialized RX12] ++ bs)
set_option maxHeartbeats 4000000 in
set_option maxRecDepth 100000 in
theorem s_ofT (l : Launch) (dC : Nat → ClassId) (dI : Nat → Nat → Nat) (kA : Nat → ClassId) (G : gT) (H0 : Heap) (q : Nat → Nat) (wN wH wB wC : Int) (wL wK : Nat → Prop) (PI : Nat → Int → Prop) (o0 : Nat) (wk : Int32) (wt : Int32) (hT : gH (dC, dI) kA (SHm q (wP wN wH wB wC wC wL wK) PI) G H0) (hr_o0 : G o0 = some 0) (hq0 : 0 ≤ wk.toInt ∧ wk.toInt ≤ 29) (hq1 : 5 ≤ wt.toInt ∧ wt.toInt ≤ 10) (hgn : 6500000 ≤ wN ∧ wN ≤ 400000000) (hgh : 0 ≤ wH ∧ wH ≤ 40000) (hgb : 0 ≤ wB ∧ wB ≤ 3850000) (hgc : 0 ≤ wC ∧ wC ≤ 30) : Met l yX12_of w_s_ofT ({ frames := 1, cells := 0, slots := 0, locals := 21 }) (va_Pc [.ref o0, .int wk, .int wt] (fun U => U.heap = H0 ∧ va_K (dC, dI) vwCl (tyl kA) U ∧ EV (gA G H0.size) U U.heap)) (va_Qi (fun (r : Int32) (u : Unit) => (∃ ix : Int32, ix.toInt = 768 + 22 * wk.toInt + wt.toInt ∧ el H0 (q 1) ix.toNatClampNeg = some (.int r))) (fun (_ : Unit) (t : State) => gH (dC, dI) kA (SHm q (wP wN wH wB wC wC wL wK) PI) G t.heap ∧ gF (dC, dI) SKm G ([] : List (Nat × Nat)) H0 t.heap) (gA G H0.size)) 0 0 (gA G H0.size) := by
  refine Met.ofW (cc := cX12_of) (maxL := 3) (ret := (some .int)) (by decide) rfl ?_
  intro p e s m args below meth c s₁ B hml hv
  obtain ⟨rfl, hH0, hK, hE⟩ := hv
  have hx := B.exec
  have hb := B.bytes
  have hr := B.returns
  have hts := atoms_spec (ws := w_s_ofT) B.pre
  have hown : s.vm.findClass RX12 = some m.cls := findClass_of_methodNamed B.named
  have hlocks := B.notSynchronized
  subst hH0
  generalize hAe : gA G s.heap.size = A at hE ⊢
  have hA : ∀ q : Nat, s.heap.size ≤ q → A q := fun q h => by rw [← hAe]; exact Or.inr h
  have hG := gA_of hAe
  have hS : va_S A s.heap s.heap [] := va_S.rf
  have hF : gF (dC, dI) SKm G ([] : List (Nat × Nat)) s.heap s.heap := gF.rf
  have hl := lv_entry ([.ref o0, .int wk, .int wt]) (n := 3) (Nat.le_of_ble_eq_true rfl)
  rw [lg_entry_eq]
  generalize (lg_sl ([.ref o0, .int wk, .int wt]) ++ List.replicate (3 - (lg_sl ([.ref o0, .int wk, .int wt])).length) Slot.unset).toArray = ls at hl ⊢
  have hl : lv_has ls 3 [(0, .ref o0), (1, .int wk), (2, .int wt)] := hl
  refine lv_aload_n hx hb dX12_of_0 rfl (lv_at hl 0 rfl) ?_
  refine tw_get hx hb hts bF_X12 hown hK hT hr_o0 shm_0 rfl 1 (by decide) (ht_at hts 0 rfl) (fun _ h9 => h9) dX12_of_1 (fun v9 m1 h9 => ?_)
  obtain ⟨rfl, hg2⟩ := h9 _ rfl
  refine lv_iload_n hx hb dX12_of_4 rfl (lv_at hl 1 rfl) ?_
  refine lv_iload_n hx hb dX12_of_5 rfl (lv_at hl 2 rfl) ?_
  have hFc := gA_free hG hA hS
  refine va_calli (va_runS (As := [.int wk, .int wt]) (rest := [.ref (q 1)]) ⟨hx, hb, hml, hown, hts⟩ (s_at l dC dI kA G s.heap q wN wH wB wC wL wK PI wk wt hT (rg_t (a := wk.toInt) rfl (by have q8 := ti_all wk; omega) (by have q8 := ti_all wk; omega)) (rg_t (a := wt.toInt) rfl (by have q8 := ti_all wt; omega) (by have q8 := ti_all wt; omega)) (by omega) (by omega) (by omega) (by omega)) (va_cwS 2 hts (goodIn_app (goodIn_r _ [3, 4, 5] (by decide +kernel) (by decide +kernel)) (goodIn_ca (goodIn_r _ [2] (by decide +kernel) (by decide +kernel)) (bs_in _ _))) rfl rfl rfl (by decide +kernel) ⟨(Nat.le_of_ble_eq_true rfl), (Nat.le_of_ble_eq_true rfl)⟩) ⟨fun a U g mk q => by obtain ⟨q0, q1, qK, qE⟩ := q; exact ⟨q0, q1, va_K.moved (u := U) (U := U.calling g mk a) (Vm.Alike.refl U.vm) qK, EV.blind g mk a qE⟩, fun U hU hW => ⟨rfl, hU, va_K.moved hW.alike hK, hE.call hS hFc hU hW⟩⟩ rfl rfl hl.1 rfl (lv_room (Nat.le_of_ble_eq_true rfl)) dX12_of_6 ⟨(Nat.le_of_ble_eq_true rfl), (Nat.le_of_ble_eq_true rfl)⟩) hS (fun q _ h => hFc q h) hFc (fun r3 u t H locs ht hvm hw4 hB _ _ hS => ?_)
  obtain ⟨hT, hF1⟩ := hB
  rw [ht] at hT hF1
  have hF := hF.more hF1 (by decide)
  try dsimp only at hw4
  obtain ⟨h5, hf6⟩ := hw4
  refine tw_iald (i := r3) hx hb hK hT hg2 shm_2 rfl (vin_t (a := r3.toInt) rfl (by omega) (by omega)) dX12_of_9 (fun v9 m7 h9 => ?_)
  obtain ⟨x8, rfl, gx8, kx8⟩ := (gp_at h9 (w_fre (by have q9 := tn_of (show r3.toInt = r3.toInt from rfl) (show (0 : Int) ≤ r3.toInt from by omega); omega)))
  exact W.iret (v := x8) hx hb hr (fun t ht hW => ⟨⟨x8, (), rfl, (by exact ⟨r3, by have q9 := (show r3.toInt = r3.toInt from rfl); omega, (el_kept (hF.arr hg2 skm_2 (by decide))).symm.trans m7⟩), by (try dsimp only); rw [ht]; exact ⟨hT, hF⟩⟩, hS.F ht⟩) hS.2.2 dX12_of_10
def w_s_ofC : List Cond := .code yX12_of cX12_of 3 (some .int) :: ([.fieldLink RX12 9 "SeaLandModel" "world" "[I", .code yX12_at cX12_at 2 (some .int), .methodLink RX12 214 yX12_at, .static yX12_at, .initialized RX12] ++ bs)
set_option maxHeartbeats 4000000 in
set_option maxRecDepth 100000 in
theorem s_ofC (l : Launch) (dC : Nat → ClassId) (dI : Nat → Nat → Nat) (kA : Nat → ClassId) (G : gT) (H0 : Heap) (q : Nat → Nat) (wN wH wB wC : Int) (wL wK : Nat → Prop) (PI : Nat → Int → Prop) (o0 : Nat) (wk : Int32) (wt : Int32) (hT : gH (dC, dI) kA (SHm q (wP wN wH wB wC wC wL wK) PI) G H0) (hr_o0 : G o0 = some 0) (hq0 : 0 ≤ wk.toInt ∧ wk.toInt ≤ 29) (hq1 : 11 ≤ wt.toInt ∧ wt.toInt ≤ 16) (hgn : 6500000 ≤ wN ∧ wN ≤ 400000000) (hgh : 0 ≤ wH ∧ wH ≤ 40000) (hgb : 0 ≤ wB ∧ wB ≤ 3850000) (hgc : 0 ≤ wC ∧ wC ≤ 30) : Met l yX12_of w_s_ofC ({ frames := 1, cells := 0, slots := 0, locals := 21 }) (va_Pc [.ref o0, .int wk, .int wt] (fun U => U.heap = H0 ∧ va_K (dC, dI) vwCl (tyl kA) U ∧ EV (gA G H0.size) U U.heap)) (va_Qi (fun (r : Int32) (u : Unit) => (0 ≤ r.toInt ∧ r.toInt ≤ 9) ∧ (∃ ix : Int32, ix.toInt = 768 + 22 * wk.toInt + wt.toInt ∧ el H0 (q 1) ix.toNatClampNeg = some (.int r))) (fun (_ : Unit) (t : State) => gH (dC, dI) kA (SHm q (wP wN wH wB wC wC wL wK) PI) G t.heap ∧ gF (dC, dI) SKm G ([] : List (Nat × Nat)) H0 t.heap) (gA G H0.size)) 0 0 (gA G H0.size) := by
  refine Met.ofW (cc := cX12_of) (maxL := 3) (ret := (some .int)) (by decide) rfl ?_
  intro p e s m args below meth c s₁ B hml hv
  obtain ⟨rfl, hH0, hK, hE⟩ := hv
  have hx := B.exec
  have hb := B.bytes
  have hr := B.returns
  have hts := atoms_spec (ws := w_s_ofC) B.pre
  have hown : s.vm.findClass RX12 = some m.cls := findClass_of_methodNamed B.named
  have hlocks := B.notSynchronized
  subst hH0
  generalize hAe : gA G s.heap.size = A at hE ⊢
  have hA : ∀ q : Nat, s.heap.size ≤ q → A q := fun q h => by rw [← hAe]; exact Or.inr h
  have hG := gA_of hAe
  have hS : va_S A s.heap s.heap [] := va_S.rf
  have hF : gF (dC, dI) SKm G ([] : List (Nat × Nat)) s.heap s.heap := gF.rf
  have hl := lv_entry ([.ref o0, .int wk, .int wt]) (n := 3) (Nat.le_of_ble_eq_true rfl)
  rw [lg_entry_eq]
  generalize (lg_sl ([.ref o0, .int wk, .int wt]) ++ List.replicate (3 - (lg_sl ([.ref o0, .int wk, .int wt])).length) Slot.unset).toArray = ls at hl ⊢
  have hl : lv_has ls 3 [(0, .ref o0), (1, .int wk), (2, .int wt)] := hl
  refine lv_aload_n hx hb dX12_of_0 rfl (lv_at hl 0 rfl) ?_
  refine tw_get hx hb hts bF_X12 hown hK hT hr_o0 shm_0 rfl 1 (by decide) (ht_at hts 0 rfl) (fun _ h9 => h9) dX12_of_1 (fun v9 m1 h9 => ?_)
  obtain ⟨rfl, hg2⟩ := h9 _ rfl
  refine lv_iload_n hx hb dX12_of_4 rfl (lv_at hl 1 rfl) ?_
  refine lv_iload_n hx hb dX12_of_5 rfl (lv_at hl 2 rfl) ?_
  have hFc := gA_free hG hA hS
  refine va_calli (va_runS (As := [.int wk, .int wt]) (rest := [.ref (q 1)]) ⟨hx, hb, hml, hown, hts⟩ (s_at l dC dI kA G s.heap q wN wH wB wC wL wK PI wk wt hT (rg_t (a := wk.toInt) rfl (by have q8 := ti_all wk; omega) (by have q8 := ti_all wk; omega)) (rg_t (a := wt.toInt) rfl (by have q8 := ti_all wt; omega) (by have q8 := ti_all wt; omega)) (by omega) (by omega) (by omega) (by omega)) (va_cwS 2 hts (goodIn_app (goodIn_r _ [3, 4, 5] (by decide +kernel) (by decide +kernel)) (goodIn_ca (goodIn_r _ [2] (by decide +kernel) (by decide +kernel)) (bs_in _ _))) rfl rfl rfl (by decide +kernel) ⟨(Nat.le_of_ble_eq_true rfl), (Nat.le_of_ble_eq_true rfl)⟩) ⟨fun a U g mk q => by obtain ⟨q0, q1, qK, qE⟩ := q; exact ⟨q0, q1, va_K.moved (u := U) (U := U.calling g mk a) (Vm.Alike.refl U.vm) qK, EV.blind g mk a qE⟩, fun U hU hW => ⟨rfl, hU, va_K.moved hW.alike hK, hE.call hS hFc hU hW⟩⟩ rfl rfl hl.1 rfl (lv_room (Nat.le_of_ble_eq_true rfl)) dX12_of_6 ⟨(Nat.le_of_ble_eq_true rfl), (Nat.le_of_ble_eq_true rfl)⟩) hS (fun q _ h => hFc q h) hFc (fun r3 u t H locs ht hvm hw4 hB _ _ hS => ?_)
  obtain ⟨hT, hF1⟩ := hB
  rw [ht] at hT hF1
  have hF := hF.more hF1 (by decide)
  try dsimp only at hw4
  obtain ⟨h5, hf6⟩ := hw4
  refine tw_iald (i := r3) hx hb hK hT hg2 shm_2 rfl (vin_t (a := r3.toInt) rfl (by omega) (by omega)) dX12_of_9 (fun v9 m7 h9 => ?_)
  obtain ⟨x8, rfl, gx8, kx8⟩ := (gp_at h9 (w_wcl (by have q9 := tn_of (show r3.toInt = r3.toInt from rfl) (show (0 : Int) ≤ r3.toInt from by omega); omega)))
  exact W.iret (v := x8) hx hb hr (fun t ht hW => ⟨⟨x8, (), rfl, (by exact ⟨(rg_t (a := x8.toInt) rfl (by have q8 := ti_all x8; omega) (by have q8 := ti_all x8; omega)), ⟨r3, by have q9 := (show r3.toInt = r3.toInt from rfl); omega, (el_kept (hF.arr hg2 skm_2 (by decide))).symm.trans m7⟩⟩), by (try dsimp only); rw [ht]; exact ⟨hT, hF⟩⟩, hS.F ht⟩) hS.2.2 dX12_of_10
def w_s_noWork : List Cond := .code yX12_noWork cX12_noWork 2 (some .boolean) :: ([.fieldLink RX12 9 "SeaLandModel" "world" "[I", .code yX12_in cX12_in 3 (some .boolean), .methodLink RX12 197 yX12_in, .static yX12_in, .initialized RX12] ++ bs)
set_option maxHeartbeats 4000000 in
set_option maxRecDepth 100000 in
theorem s_noWork (l : Launch) (dC : Nat → ClassId) (dI : Nat → Nat → Nat) (kA : Nat → ClassId) (G : gT) (H0 : Heap) (q : Nat → Nat) (wN wH wB wC : Int) (wL wK : Nat → Prop) (PI : Nat → Int → Prop) (o0 : Nat) (wk : Int32) (hT : gH (dC, dI) kA (SHm q (wP wN wH wB wC wC wL wK) PI) G H0) (hr_o0 : G o0 = some 0) (hgn : 6500000 ≤ wN ∧ wN ≤ 400000000) (hgh : 0 ≤ wH ∧ wH ≤ 40000) (hgb : 0 ≤ wB ∧ wB ≤ 3850000) (hgc : 0 ≤ wC ∧ wC ≤ 30) : Met l yX12_noWork w_s_noWork ({ frames := 1, cells := 0, slots := 0, locals := 22 }) (va_Pc [.ref o0, .int wk] (fun U => U.heap = H0 ∧ va_K (dC, dI) vwCl (tyl kA) U ∧ EV (gA G H0.size) U U.heap)) (va_Qi (fun (r : Int32) (u : Unit) => (0 ≤ r.toInt ∧ r.toInt ≤ 1) ∧ (r = 0 → 0 ≤ wk.toInt ∧ wk.toInt ≤ 29 ∧ wk.toInt < wC)) (fun (_ : Unit) (t : State) => gH (dC, dI) kA (SHm q (wP wN wH wB wC wC wL wK) PI) G t.heap ∧ gF (dC, dI) SKm G ([] : List (Nat × Nat)) H0 t.heap) (gA G H0.size)) 0 0 (gA G H0.size) := by
  refine Met.ofW (cc := cX12_noWork) (maxL := 2) (ret := (some .boolean)) (by decide) rfl ?_
  intro p e s m args below meth c s₁ B hml hv
  obtain ⟨rfl, hH0, hK, hE⟩ := hv
  have hx := B.exec
  have hb := B.bytes
  have hr := B.returns
  have hts := atoms_spec (ws := w_s_noWork) B.pre
  have hown : s.vm.findClass RX12 = some m.cls := findClass_of_methodNamed B.named
  have hlocks := B.notSynchronized
  subst hH0
  generalize hAe : gA G s.heap.size = A at hE ⊢
  have hA : ∀ q : Nat, s.heap.size ≤ q → A q := fun q h => by rw [← hAe]; exact Or.inr h
  have hG := gA_of hAe
  have hS : va_S A s.heap s.heap [] := va_S.rf
  have hF : gF (dC, dI) SKm G ([] : List (Nat × Nat)) s.heap s.heap := gF.rf
  have hl := lv_entry ([.ref o0, .int wk]) (n := 2) (Nat.le_of_ble_eq_true rfl)
  rw [lg_entry_eq]
  generalize (lg_sl ([.ref o0, .int wk]) ++ List.replicate (2 - (lg_sl ([.ref o0, .int wk])).length) Slot.unset).toArray = ls at hl ⊢
  have hl : lv_has ls 2 [(0, .ref o0), (1, .int wk)] := hl
  refine lv_iload_n hx hb dX12_noWork_0 rfl (lv_at hl 1 rfl) ?_
  refine lv_iconst (v := 0) hx hb dX12_noWork_1 (by decide) ?_
  refine lv_aload_n hx hb dX12_noWork_2 rfl (lv_at hl 0 rfl) ?_
  refine tw_get hx hb hts bF_X12 hown hK hT hr_o0 shm_0 rfl 1 (by decide) (ht_at hts 0 rfl) (fun _ h9 => h9) dX12_noWork_3 (fun v9 m1 h9 => ?_)
  obtain ⟨rfl, hg2⟩ := h9 _ rfl
  refine lv_sipush (v := 1428) hx hb dX12_noWork_6 (by decide) ?_
  refine tw_iald (i := 1428) hx hb hK hT hg2 shm_2 rfl (by unfold vp_in; decide) dX12_noWork_9 (fun v9 m3 h9 => ?_)
  obtain ⟨x4, rfl, gx4, kx4⟩ := (gp_at h9 (w_wct (by have q9 := tn_of (show (1428 : Int32).toInt = 1428 from (by decide)) (show (0 : Int) ≤ 1428 from by omega); omega)))
  refine lv_iconst (v := 1) hx hb dX12_noWork_10 (by decide) ?_
  refine lv_isub hx hb dX12_noWork_11 ?_
  refine lv_topi (fun x5 ex5 => ?_)
  have t6 : x5.toInt = x4.toInt - 1 := ti_sub ex5 rfl (by decide) (by omega) (by omega)
  have hFc := gA_free hG hA hS
  refine va_calli (va_runS (As := [.int wk, .int 0, .int x5]) (rest := []) ⟨hx, hb, hml, hown, hts⟩ (s_in l dC dI kA G s.heap q wN wH wB wC wL wK PI wk 0 x5 hT (by omega) (by omega) (by omega) (by omega)) (va_cwS 3 hts (goodIn_app (goodIn_r _ [3, 4, 5] (by decide +kernel) (by decide +kernel)) (goodIn_ca (goodIn_r _ [2] (by decide +kernel) (by decide +kernel)) (bs_in _ _))) rfl rfl rfl (by decide +kernel) ⟨(Nat.le_of_ble_eq_true rfl), (Nat.le_of_ble_eq_true rfl)⟩) ⟨fun a U g mk q => by obtain ⟨q0, q1, qK, qE⟩ := q; exact ⟨q0, q1, va_K.moved (u := U) (U := U.calling g mk a) (Vm.Alike.refl U.vm) qK, EV.blind g mk a qE⟩, fun U hU hW => ⟨rfl, hU, va_K.moved hW.alike hK, hE.call hS hFc hU hW⟩⟩ rfl rfl hl.1 rfl (lv_room (Nat.le_of_ble_eq_true rfl)) dX12_noWork_12 ⟨(Nat.le_of_ble_eq_true rfl), (Nat.le_of_ble_eq_true rfl)⟩) hS (fun q _ h => hFc q h) hFc (fun r7 u t H locs ht hvm hw8 hB _ _ hS => ?_)
  obtain ⟨hT, hF1⟩ := hB
  rw [ht] at hT hF1
  have m9 := (el_kept (hF1.arr hg2 skm_2 (by decide))).trans m3
  have hF := hF.more hF1 (by decide)
  try dsimp only at hw8
  obtain ⟨h10, hi11, hi12⟩ := hw8
  refine lv_if_ne (tgt := 22) hx hb dX12_noWork_15 (by decide) (fun c13 => ?_) (fun c13 => ?_)
  · have t14 : r7.toInt ≠ 0 := ti_ne c13 rfl (by decide)
    have t15 : (0 : Int32).toInt = 0 := by decide
    have t16 : (0 : Int32).toInt ≤ wk.toInt ∧ wk.toInt ≤ x5.toInt := hi11 ((bit_of ⟨by omega, by omega⟩).resolve_left c13)
    refine lv_iconst (v := 0) hx hb dX12_noWork_22 (by decide) ?_
    exact W.zret (v := 0) hx hb hr (by decide) (fun t ht hW => ⟨⟨0, (), rfl, (by exact ⟨(rg_t (a := 0) (by decide) (by omega) (by omega)), (fun _ => by omega)⟩), by (try dsimp only); rw [ht]; exact ⟨hT, hF⟩⟩, hS.F ht⟩) hS.2.2 dX12_noWork_23
  · have t17 : r7.toInt = 0 := ti_eq c13 rfl (by decide)
    have t18 : (0 : Int32).toInt = 0 := by decide
    have t19 : wk.toInt < (0 : Int32).toInt ∨ x5.toInt < wk.toInt := hi12 c13
    refine lv_iconst (v := 1) hx hb dX12_noWork_18 (by decide) ?_
    refine lv_goto (tgt := 23) hx hb dX12_noWork_19 (by decide) ?_
    exact W.zret (v := 1) hx hb hr (by decide) (fun t ht hW => ⟨⟨1, (), rfl, (by exact ⟨(rg_t (a := 1) (by decide) (by omega) (by omega)), (fun h => absurd h (by decide))⟩), by (try dsimp only); rw [ht]; exact ⟨hT, hF⟩⟩, hS.F ht⟩) hS.2.2 dX12_noWork_23
def w_s_isDike : List Cond := .code yX12_isDike cX12_isDike 2 (some .boolean) :: ([.code yX12_of cX12_of 3 (some .int), .fieldLink RX12 9 "SeaLandModel" "world" "[I", .code yX12_at cX12_at 2 (some .int), .methodLink RX12 214 yX12_at, .static yX12_at, .initialized RX12, .methodLink RX12 217 yX12_of, .instanceMethod yX12_of, .selects RX12 yX12_of yX12_of] ++ bs)
set_option maxHeartbeats 4000000 in
set_option maxRecDepth 100000 in
theorem s_isDike (l : Launch) (dC : Nat → ClassId) (dI : Nat → Nat → Nat) (kA : Nat → ClassId) (G : gT) (H0 : Heap) (q : Nat → Nat) (wN wH wB wC : Int) (wL wK : Nat → Prop) (PI : Nat → Int → Prop) (o0 : Nat) (wk : Int32) (hT : gH (dC, dI) kA (SHm q (wP wN wH wB wC wC wL wK) PI) G H0) (hr_o0 : G o0 = some 0) (hq0 : 0 ≤ wk.toInt ∧ wk.toInt ≤ 29) (hgn : 6500000 ≤ wN ∧ wN ≤ 400000000) (hgh : 0 ≤ wH ∧ wH ≤ 40000) (hgb : 0 ≤ wB ∧ wB ≤ 3850000) (hgc : 0 ≤ wC ∧ wC ≤ 30) : Met l yX12_isDike w_s_isDike ({ frames := 2, cells := 0, slots := 0, locals := 43 }) (va_Pc [.ref o0, .int wk] (fun U => U.heap = H0 ∧ va_K (dC, dI) vwCl (tyl kA) U ∧ EV (gA G H0.size) U U.heap)) (va_Qi (fun (r : Int32) (u : Unit) => (0 ≤ r.toInt ∧ r.toInt ≤ 1)) (fun (_ : Unit) (t : State) => gH (dC, dI) kA (SHm q (wP wN wH wB wC wC wL wK) PI) G t.heap ∧ gF (dC, dI) SKm G ([] : List (Nat × Nat)) H0 t.heap) (gA G H0.size)) 0 0 (gA G H0.size) := by
  refine Met.ofW (cc := cX12_isDike) (maxL := 2) (ret := (some .boolean)) (by decide) rfl ?_
  intro p e s m args below meth c s₁ B hml hv
  obtain ⟨rfl, hH0, hK, hE⟩ := hv
  have hx := B.exec
  have hb := B.bytes
  have hr := B.returns
  have hts := atoms_spec (ws := w_s_isDike) B.pre
  have hown : s.vm.findClass RX12 = some m.cls := findClass_of_methodNamed B.named
  have hlocks := B.notSynchronized
  subst hH0
  generalize hAe : gA G s.heap.size = A at hE ⊢
  have hA : ∀ q : Nat, s.heap.size ≤ q → A q := fun q h => by rw [← hAe]; exact Or.inr h
  have hG := gA_of hAe
  have hS : va_S A s.heap s.heap [] := va_S.rf
  have hF : gF (dC, dI) SKm G ([] : List (Nat × Nat)) s.heap s.heap := gF.rf
  have hl := lv_entry ([.ref o0, .int wk]) (n := 2) (Nat.le_of_ble_eq_true rfl)
  rw [lg_entry_eq]
  generalize (lg_sl ([.ref o0, .int wk]) ++ List.replicate (2 - (lg_sl ([.ref o0, .int wk])).length) Slot.unset).toArray = ls at hl ⊢
  have hl : lv_has ls 2 [(0, .ref o0), (1, .int wk)] := hl
  refine lv_aload_n hx hb dX12_isDike_0 rfl (lv_at hl 0 rfl) ?_
  refine lv_iload_n hx hb dX12_isDike_1 rfl (lv_at hl 1 rfl) ?_
  refine lv_iconst (v := 0) hx hb dX12_isDike_2 (by decide) ?_
  have hFc := gA_free hG hA hS
  refine va_calli (va_runV (As := [.int wk, .int 0]) (rest := []) ⟨hx, hb, hml, hown, hts⟩ (s_of0 l dC dI kA G s.heap q wN wH wB wC wL wK PI o0 wk hT hr_o0 (rg_t (a := wk.toInt) rfl (by have q8 := ti_all wk; omega) (by have q8 := ti_all wk; omega)) (by omega) (by omega) (by omega) (by omega)) (cwV 2 hts (goodIn_app (goodIn_r _ [7, 8, 9, 6] (by decide +kernel) (by decide +kernel)) (goodIn_ca (goodIn_r _ [1, 2, 3, 4, 5, 6] (by decide +kernel) (by decide +kernel)) (bs_in _ _))) rfl rfl rfl (by decide +kernel) ⟨(Nat.le_of_ble_eq_true rfl), (Nat.le_of_ble_eq_true rfl)⟩) ⟨fun a U g mk q => by obtain ⟨q0, q1, qK, qE⟩ := q; exact ⟨q0, q1, va_K.moved (u := U) (U := U.calling g mk a) (Vm.Alike.refl U.vm) qK, EV.blind g mk a qE⟩, gH_recv hK hT hr_o0 shm_0 rfl, fun U hU hW => ⟨rfl, hU, va_K.moved hW.alike hK, hE.call hS hFc hU hW⟩⟩ rfl rfl hl.1 rfl (lv_room (Nat.le_of_ble_eq_true rfl)) dX12_isDike_3 ⟨(Nat.le_of_ble_eq_true rfl), (Nat.le_of_ble_eq_true rfl)⟩) hS (fun q _ h => hFc q h) hFc (fun r1 u t H locs ht hvm hw2 hB _ _ hS => ?_)
  obtain ⟨hT, hF1⟩ := hB
  rw [ht] at hT hF1
  have hF := hF.more hF1 (by decide)
  try dsimp only at hw2
  have ⟨ix3, hix3, m4⟩ := hw2
  have hg5 : G (q 1) = some 2 := gx_of hT hr_o0 shm_0 (k := 1) (by decide) rfl
  have m6 := (el_kept (hF1.arr hg5 skm_2 (by decide))).trans m4
  refine lv_if_eq (tgt := 19) hx hb dX12_isDike_6 (by decide) (fun c7 => ?_) (fun c7 => ?_)
  · have t8 : r1.toInt = 0 := ti_eq c7 rfl (by decide)
    refine lv_iconst (v := 1) hx hb dX12_isDike_19 (by decide) ?_
    refine lv_goto (tgt := 24) hx hb dX12_isDike_20 (by decide) ?_
    exact W.zret (v := 1) hx hb hr (by decide) (fun t ht hW => ⟨⟨1, (), rfl, (by exact (rg_t (a := 1) (by decide) (by omega) (by omega))), by (try dsimp only); rw [ht]; exact ⟨hT, hF⟩⟩, hS.F ht⟩) hS.2.2 dX12_isDike_24
  · have t9 : r1.toInt ≠ 0 := ti_ne c7 rfl (by decide)
    refine lv_aload_n hx hb dX12_isDike_9 rfl (lv_at hl 0 rfl) ?_
    refine lv_iload_n hx hb dX12_isDike_10 rfl (lv_at hl 1 rfl) ?_
    refine lv_iconst (v := 0) hx hb dX12_isDike_11 (by decide) ?_
    have hFc := gA_free hG hA hS
    refine va_calli (va_runV (As := [.int wk, .int 0]) (rest := []) ⟨hx, hb, hml, hown, hts⟩ (s_of0 l dC dI kA G H q wN wH wB wC wL wK PI o0 wk hT hr_o0 (rg_t (a := wk.toInt) rfl (by have q8 := ti_all wk; omega) (by have q8 := ti_all wk; omega)) (by omega) (by omega) (by omega) (by omega)) (cwV 2 hts (goodIn_app (goodIn_r _ [7, 8, 9, 6] (by decide +kernel) (by decide +kernel)) (goodIn_ca (goodIn_r _ [1, 2, 3, 4, 5, 6] (by decide +kernel) (by decide +kernel)) (bs_in _ _))) rfl rfl rfl (by decide +kernel) ⟨(Nat.le_of_ble_eq_true rfl), (Nat.le_of_ble_eq_true rfl)⟩) ⟨fun a U g mk q => by obtain ⟨q0, q1, qK, qE⟩ := q; exact ⟨q0, q1, va_K.moved (u := U) (U := U.calling g mk a) (Vm.Alike.refl U.vm) qK, EV.blind g mk a qE⟩, gH_recv hK hT hr_o0 shm_0 rfl, fun U hU hW => ⟨rfl, hU, va_K.moved hW.alike hK, hE.call hS hFc hU hW⟩⟩ rfl rfl hl.1 rfl (lv_room (Nat.le_of_ble_eq_true rfl)) dX12_isDike_12 ⟨(Nat.le_of_ble_eq_true rfl), (Nat.le_of_ble_eq_true rfl)⟩) hS (fun q _ h => hFc q h) hFc (fun r10 u t H locs ht hvm hw11 hB _ _ hS => ?_)
    obtain ⟨hT, hF1⟩ := hB
    rw [ht] at hT hF1
    have m12 := (el_kept (hF1.arr hg5 skm_2 (by decide))).trans m6
    have hF := hF.more hF1 (by decide)
    try dsimp only at hw11
    have ⟨ix13, hix13, m14⟩ := hw11
    have m15 := (el_kept (hF1.arr hg5 skm_2 (by decide))).trans m14
    obtain rfl : r1 = r10 := (el_same m15 m12 (by have q8 := (show ix3.toInt = ix3.toInt from rfl); omega)).symm
    refine lv_iconst (v := 1) hx hb dX12_isDike_15 (by decide) ?_
    refine lv_icmp_ne (tgt := 23) hx hb dX12_isDike_16 (by decide) (fun c16 => ?_) (fun c16 => ?_)
    · have t17 : r1.toInt ≠ 1 := ti_ne c16 rfl (by decide)
      refine lv_iconst (v := 0) hx hb dX12_isDike_23 (by decide) ?_
      exact W.zret (v := 0) hx hb hr (by decide) (fun t ht hW => ⟨⟨0, (), rfl, (by exact (rg_t (a := 0) (by decide) (by omega) (by omega))), by (try dsimp only); rw [ht]; exact ⟨hT, hF⟩⟩, hS.F ht⟩) hS.2.2 dX12_isDike_24
    · have t18 : r1.toInt = 1 := ti_eq c16 rfl (by decide)
      refine lv_iconst (v := 1) hx hb dX12_isDike_19 (by decide) ?_
      refine lv_goto (tgt := 24) hx hb dX12_isDike_20 (by decide) ?_
      exact W.zret (v := 1) hx hb hr (by decide) (fun t ht hW => ⟨⟨1, (), rfl, (by exact (rg_t (a := 1) (by decide) (by omega) (by omega))), by (try dsimp only); rw [ht]; exact ⟨hT, hF⟩⟩, hS.F ht⟩) hS.2.2 dX12_isDike_24
def w_s_workOn : List Cond := .code yX12_workOn cX12_workOn 3 (some .int) :: ([.fieldLink RX12 9 "SeaLandModel" "world" "[I", .code yX12_of cX12_of 3 (some .int), .code yX12_at cX12_at 2 (some .int), .methodLink RX12 214 yX12_at, .static yX12_at, .initialized RX12, .methodLink RX12 217 yX12_of, .instanceMethod yX12_of, .selects RX12 yX12_of yX12_of] ++ bs)
set_option maxHeartbeats 4000000 in
set_option maxRecDepth 100000 in
theorem s_workOn (l : Launch) (dC : Nat → ClassId) (dI : Nat → Nat → Nat) (kA : Nat → ClassId) (G : gT) (H0 : Heap) (q : Nat → Nat) (wN wH wB wC : Int) (wL wK : Nat → Prop) (PI : Nat → Int → Prop) (o0 : Nat) (sq : Int32) (hT : gH (dC, dI) kA (SHm q (wP wN wH wB wC wC wL wK) PI) G H0) (hr_o0 : G o0 = some 0) (hgn : 6500000 ≤ wN ∧ wN ≤ 400000000) (hgh : 0 ≤ wH ∧ wH ≤ 40000) (hgb : 0 ≤ wB ∧ wB ≤ 3850000) (hgc : 0 ≤ wC ∧ wC ≤ 30) : Met l yX12_workOn w_s_workOn ({ frames := 2, cells := 0, slots := 0, locals := 43 }) (va_Pc [.ref o0, .int sq] (fun U => U.heap = H0 ∧ va_K (dC, dI) vwCl (tyl kA) U ∧ EV (gA G H0.size) U U.heap)) (va_Qi (fun (r : Int32) (u : Unit) => (-1 ≤ r.toInt ∧ r.toInt ≤ 29)) (fun (_ : Unit) (t : State) => gH (dC, dI) kA (SHm q (wP wN wH wB wC wC wL wK) PI) G t.heap ∧ gF (dC, dI) SKm G ([] : List (Nat × Nat)) H0 t.heap) (gA G H0.size)) 0 0 (gA G H0.size) := by
  refine Met.ofW (cc := cX12_workOn) (maxL := 3) (ret := (some .int)) (by decide) rfl ?_
  intro p e s m args below meth c s₁ B hml hv
  obtain ⟨rfl, hH0, hK, hE⟩ := hv
  have hx := B.exec
  have hb := B.bytes
  have hr := B.returns
  have hts := atoms_spec (ws := w_s_workOn) B.pre
  have hown : s.vm.findClass RX12 = some m.cls := findClass_of_methodNamed B.named
  have hlocks := B.notSynchronized
  subst hH0
  generalize hAe : gA G s.heap.size = A at hE ⊢
  have hA : ∀ q : Nat, s.heap.size ≤ q → A q := fun q h => by rw [← hAe]; exact Or.inr h
  have hG := gA_of hAe
  have hS : va_S A s.heap s.heap [] := va_S.rf
  have hF : gF (dC, dI) SKm G ([] : List (Nat × Nat)) s.heap s.heap := gF.rf
  have hl := lv_entry ([.ref o0, .int sq]) (n := 3) (Nat.le_of_ble_eq_true rfl)
  rw [lg_entry_eq]
  generalize (lg_sl ([.ref o0, .int sq]) ++ List.replicate (3 - (lg_sl ([.ref o0, .int sq])).length) Slot.unset).toArray = ls at hl ⊢
  have hl : lv_has ls 3 [(0, .ref o0), (1, .int sq)] := hl
  refine lv_iconst (v := 0) hx hb dX12_workOn_0 (by decide) ?_
  refine lv_istore_n (lv' := [(2, .int 0), (0, .ref o0), (1, .int sq)]) hx hb dX12_workOn_1 rfl hl (by decide) rfl (fun ls hl => ?_)
  have key38 : ∀ (n38 i1 : Nat), i1 + n38 = 30 → 0 ≤ i1 → ∀ (H : Heap) (locs : List Loc), gH (dC, dI) kA (SHm q (wP wN wH wB wC wC wL wK) PI) G H → gF (dC, dI) SKm G ([] : List (Nat × Nat)) s.heap H → va_S A s.heap H locs → ∀ ls : Array Slot, lv_has ls 3 [(2, .int (nI i1)), (0, .ref o0), (1, .int sq)] → W p l e (headSpec w_s_workOn ({ frames := 2, cells := 0, slots := 0, locals := 43 })).room s m #[.ref o0, .int sq] below meth c H locs 0 0 (MQ below (va_Qi (fun (r : Int32) (u : Unit) => (-1 ≤ r.toInt ∧ r.toInt ≤ 29)) (fun (_ : Unit) (t : State) => gH (dC, dI) kA (SHm q (wP wN wH wB wC wC wL wK) PI) G t.heap ∧ gF (dC, dI) SKm G ([] : List (Nat × Nat)) s.heap t.heap) A) #[.ref o0, .int sq] s 0 0 A) (F0 m 2 ls []) := by
    intro n38
    induction n38 with
    | zero =>
      intro i1 hn38 hlo39  H locs hT hF hS  ls hl
      obtain rfl : 30 = i1 := by omega
      refine lv_iload_n hx hb dX12_workOn_2 rfl (lv_at hl 0 rfl) ?_
      refine lv_aload_n hx hb dX12_workOn_3 rfl (lv_at hl 1 rfl) ?_
      refine tw_get hx hb hts bF_X12 hown hK hT hr_o0 shm_0 rfl 1 (by decide) (ht_at hts 0 rfl) (fun _ h9 => h9) dX12_workOn_4 (fun v9 m40 h9 => ?_)
      obtain ⟨rfl, hg41⟩ := h9 _ rfl
      refine lv_sipush (v := 1428) hx hb dX12_workOn_7 (by decide) ?_
      refine tw_iald (i := 1428) hx hb hK hT hg41 shm_2 rfl (by unfold vp_in; decide) dX12_workOn_10 (fun v9 m42 h9 => ?_)
      obtain ⟨x43, rfl, gx43, kx43⟩ := (gp_at h9 (w_wct (by have q9 := tn_of (show (1428 : Int32).toInt = 1428 from (by decide)) (show (0 : Int) ≤ 1428 from by omega); omega)))
      refine lv_icmp_ge (tgt := 32) hx hb dX12_workOn_11 (by decide) (fun c44 => ?_) (fun c44 => (by exfalso; have q9 : ((30 : Nat) : Int) < x43.toInt := ti_nle c44 rfl (nI_toInt (by omega)); omega))
      have t45 : x43.toInt ≤ ((30 : Nat) : Int) := ti_le c44 rfl (nI_toInt (by omega))
      refine lv_iconst (v := (-1)) hx hb dX12_workOn_32 (by decide) ?_
      exact W.iret (v := (-1)) hx hb hr (fun t ht hW => ⟨⟨(-1), (), rfl, (by exact (rg_t (a := (-1)) (by decide) (by omega) (by omega))), by (try dsimp only); rw [ht]; exact ⟨hT, hF⟩⟩, hS.F ht⟩) hS.2.2 dX12_workOn_33
    | succ n38 ih38 =>
      intro i1 hn38 hlo39  H locs hT hF hS  ls hl
      have hlt45 : i1 < 30 := by omega
      refine lv_iload_n hx hb dX12_workOn_2 rfl (lv_at hl 0 rfl) ?_
      refine lv_aload_n hx hb dX12_workOn_3 rfl (lv_at hl 1 rfl) ?_
      refine tw_get hx hb hts bF_X12 hown hK hT hr_o0 shm_0 rfl 1 (by decide) (ht_at hts 0 rfl) (fun _ h9 => h9) dX12_workOn_4 (fun v9 m46 h9 => ?_)
      obtain ⟨rfl, hg47⟩ := h9 _ rfl
      refine lv_sipush (v := 1428) hx hb dX12_workOn_7 (by decide) ?_
      refine tw_iald (i := 1428) hx hb hK hT hg47 shm_2 rfl (by unfold vp_in; decide) dX12_workOn_10 (fun v9 m48 h9 => ?_)
      obtain ⟨x49, rfl, gx49, kx49⟩ := (gp_at h9 (w_wct (by have q9 := tn_of (show (1428 : Int32).toInt = 1428 from (by decide)) (show (0 : Int) ≤ 1428 from by omega); omega)))
      refine lv_icmp_ge (tgt := 32) hx hb dX12_workOn_11 (by decide) (fun c50 => ?_) (fun c50 => ?_)
      · have t51 : x49.toInt ≤ ((i1 : Nat) : Int) := ti_le c50 rfl (nI_toInt (by omega))
        refine lv_iconst (v := (-1)) hx hb dX12_workOn_32 (by decide) ?_
        exact W.iret (v := (-1)) hx hb hr (fun t ht hW => ⟨⟨(-1), (), rfl, (by exact (rg_t (a := (-1)) (by decide) (by omega) (by omega))), by (try dsimp only); rw [ht]; exact ⟨hT, hF⟩⟩, hS.F ht⟩) hS.2.2 dX12_workOn_33
      · have t52 : ((i1 : Nat) : Int) < x49.toInt := ti_nle c50 rfl (nI_toInt (by omega))
        refine lv_aload_n hx hb dX12_workOn_14 rfl (lv_at hl 1 rfl) ?_
        refine lv_iload_n hx hb dX12_workOn_15 rfl (lv_at hl 0 rfl) ?_
        refine lv_iconst (v := 1) hx hb dX12_workOn_16 (by decide) ?_
        have hFc := gA_free hG hA hS
        refine va_calli (va_runV (As := [.int (nI i1), .int 1]) (rest := []) ⟨hx, hb, hml, hown, hts⟩ (s_of1 l dC dI kA G H q wN wH wB wC wL wK PI o0 (nI i1) hT hr_o0 (rg_t (a := ((i1 : Nat) : Int)) (nI_toInt (by omega)) (by omega) (by omega)) (by omega) (by omega) (by omega) (by omega)) (cwV 2 hts (goodIn_app (goodIn_r _ [7, 8, 9, 6] (by decide +kernel) (by decide +kernel)) (goodIn_ca (goodIn_r _ [2, 1, 3, 4, 5, 6] (by decide +kernel) (by decide +kernel)) (bs_in _ _))) rfl rfl rfl (by decide +kernel) ⟨(Nat.le_of_ble_eq_true rfl), (Nat.le_of_ble_eq_true rfl)⟩) ⟨fun a U g mk q => by obtain ⟨q0, q1, qK, qE⟩ := q; exact ⟨q0, q1, va_K.moved (u := U) (U := U.calling g mk a) (Vm.Alike.refl U.vm) qK, EV.blind g mk a qE⟩, gH_recv hK hT hr_o0 shm_0 rfl, fun U hU hW => ⟨rfl, hU, va_K.moved hW.alike hK, hE.call hS hFc hU hW⟩⟩ rfl rfl hl.1 rfl (lv_room (Nat.le_of_ble_eq_true rfl)) dX12_workOn_17 ⟨(Nat.le_of_ble_eq_true rfl), (Nat.le_of_ble_eq_true rfl)⟩) hS (fun q _ h => hFc q h) hFc (fun r53 u t H locs ht hvm hw54 hB _ _ hS => ?_)
        obtain ⟨hT, hF1⟩ := hB
        rw [ht] at hT hF1
        have m55 := (el_kept (hF1.arr hg47 skm_2 (by decide))).trans m48
        have hF := hF.more hF1 (by decide)
        try dsimp only at hw54
        obtain ⟨h56, ⟨ix57, hix57, m58⟩⟩ := hw54
        have t59 : (nI i1).toInt = ((i1 : Nat) : Int) := nI_toInt (by omega)
        have m60 := (el_kept (hF1.arr hg47 skm_2 (by decide))).trans m58
        refine lv_iload_n hx hb dX12_workOn_20 rfl (lv_at hl 2 rfl) ?_
        refine lv_icmp_ne (tgt := 26) hx hb dX12_workOn_21 (by decide) (fun c61 => ?_) (fun c61 => ?_)
        · have t62 : r53.toInt ≠ sq.toInt := ti_ne c61 rfl rfl
          refine lv_iinc (v := nI (i1 + 1)) (lv' := [(2, .int (nI (i1 + 1))), (0, .ref o0), (1, .int sq)]) hx hb dX12_workOn_26 hl (k := 0) rfl (nI_add i1 1) (by decide) rfl (fun ls hl => ?_)
          refine lv_goto (tgt := 2) hx hb dX12_workOn_29 (by decide) ?_
          exact ih38 (i1 + 1) (by omega) (by omega) _ _ hT hF hS ls (lv_sub hl [0, 1, 2] rfl)
        · have t63 : r53.toInt = sq.toInt := ti_eq c61 rfl rfl
          refine lv_iload_n hx hb dX12_workOn_24 rfl (lv_at hl 0 rfl) ?_
          exact W.iret (v := nI i1) hx hb hr (fun t ht hW => ⟨⟨nI i1, (), rfl, (by exact (rg_t (a := ((i1 : Nat) : Int)) (nI_toInt (by omega)) (by omega) (by omega))), by (try dsimp only); rw [ht]; exact ⟨hT, hF⟩⟩, hS.F ht⟩) hS.2.2 dX12_workOn_25
  exact key38 (30 - 0) 0 (by omega) (Nat.le_refl _) _ _ hT hF hS ls (lv_sub hl [0, 1, 2] rfl)
def w_s_telling1 : List Cond := .code yX12_telling cX12_telling 6 (some .int) :: ([.fieldLink RX12 9 "SeaLandModel" "world" "[I"] ++ bs)
set_option maxHeartbeats 4000000 in
set_option maxRecDepth 100000 in
theorem s_telling1 (l : Launch) (dC : Nat → ClassId) (dI : Nat → Nat → Nat) (kA : Nat → ClassId) (G : gT) (H0 : Heap) (q : Nat → Nat) (wN wH wB wC : Int) (wL wK : Nat → Prop) (PI : Nat → Int → Prop) (o0 : Nat) (ho : Int32) (hT : gH (dC, dI) kA (SHm q (wP wN wH wB wC wC wL wK) PI) G H0) (hr_o0 : G o0 = some 0) (hgn : 6500000 ≤ wN ∧ wN ≤ 400000000) (hgh : 0 ≤ wH ∧ wH ≤ 40000) (hgb : 0 ≤ wB ∧ wB ≤ 3850000) (hgc : 0 ≤ wC ∧ wC ≤ 30) : Met l yX12_telling w_s_telling1 ({ frames := 0, cells := 0, slots := 0, locals := 0 }) (va_Pc [.ref o0, .int 1624, .int 1625, .int ho] (fun U => U.heap = H0 ∧ va_K (dC, dI) vwCl (tyl kA) U ∧ EV (gA G H0.size) U U.heap)) (va_Qi (fun (r : Int32) (u : Unit) => (-1 ≤ r.toInt ∧ r.toInt ≤ 1743) ∧ ((r.toInt = -1 ∨ (1625 ≤ r.toInt ∧ r.toInt ≤ 1743 ∧ (r.toInt - 1625) % 2 = 0)))) (fun (_ : Unit) (t : State) => gH (dC, dI) kA (SHm q (wP wN wH wB wC wC wL wK) PI) G t.heap ∧ gF (dC, dI) SKm G ([] : List (Nat × Nat)) H0 t.heap) (gA G H0.size)) 0 0 (gA G H0.size) := by
  refine Met.ofW (cc := cX12_telling) (maxL := 6) (ret := (some .int)) (by decide) rfl ?_
  intro p e s m args below meth c s₁ B hml hv
  obtain ⟨rfl, hH0, hK, hE⟩ := hv
  have hx := B.exec
  have hb := B.bytes
  have hr := B.returns
  have hts := atoms_spec (ws := w_s_telling1) B.pre
  have hown : s.vm.findClass RX12 = some m.cls := findClass_of_methodNamed B.named
  have hlocks := B.notSynchronized
  subst hH0
  generalize hAe : gA G s.heap.size = A at hE ⊢
  have hA : ∀ q : Nat, s.heap.size ≤ q → A q := fun q h => by rw [← hAe]; exact Or.inr h
  have hG := gA_of hAe
  have hS : va_S A s.heap s.heap [] := va_S.rf
  have hF : gF (dC, dI) SKm G ([] : List (Nat × Nat)) s.heap s.heap := gF.rf
  have hl := lv_entry ([.ref o0, .int 1624, .int 1625, .int ho]) (n := 6) (Nat.le_of_ble_eq_true rfl)
  rw [lg_entry_eq]
  generalize (lg_sl ([.ref o0, .int 1624, .int 1625, .int ho]) ++ List.replicate (6 - (lg_sl ([.ref o0, .int 1624, .int 1625, .int ho])).length) Slot.unset).toArray = ls at hl ⊢
  have hl : lv_has ls 6 [(0, .ref o0), (1, .int 1624), (2, .int 1625), (3, .int ho)] := hl
  refine lv_iconst (v := (-1)) hx hb dX12_telling_0 (by decide) ?_
  refine lv_istore (lv' := [(4, .int (-1)), (0, .ref o0), (1, .int 1624), (2, .int 1625), (3, .int ho)]) hx hb dX12_telling_1 hl (by decide) rfl (fun ls hl => ?_)
  refine lv_iload_n hx hb dX12_telling_3 rfl (lv_at hl 3 rfl) ?_
  refine lv_istore (lv' := [(5, .int 1625), (4, .int (-1)), (0, .ref o0), (1, .int 1624), (2, .int 1625), (3, .int ho)]) hx hb dX12_telling_4 hl (by decide) rfl (fun ls hl => ?_)
  have key74 : ∀ (n74 i1 : Nat), i1 + n74 = 60 → ∀ (z40 : Int32), (((z40.toInt = -1 ∨ (1625 ≤ z40.toInt ∧ z40.toInt ≤ 1743 ∧ (z40.toInt - 1625) % 2 = 0)))) → ∀ (H : Heap) (locs : List Loc), gH (dC, dI) kA (SHm q (wP wN wH wB wC wC wL wK) PI) G H → gF (dC, dI) SKm G ([] : List (Nat × Nat)) s.heap H → va_S A s.heap H locs → ∀ ls : Array Slot, lv_has ls 6 [(5, .int (nI (1625 + 2 * i1))), (4, .int z40), (0, .ref o0), (1, .int 1624), (2, .int 1625), (3, .int ho)] → W p l e (headSpec w_s_telling1 ({ frames := 0, cells := 0, slots := 0, locals := 0 })).room s m #[.ref o0, .int 1624, .int 1625, .int ho] below meth c H locs 0 0 (MQ below (va_Qi (fun (r : Int32) (u : Unit) => (-1 ≤ r.toInt ∧ r.toInt ≤ 1743) ∧ ((r.toInt = -1 ∨ (1625 ≤ r.toInt ∧ r.toInt ≤ 1743 ∧ (r.toInt - 1625) % 2 = 0)))) (fun (_ : Unit) (t : State) => gH (dC, dI) kA (SHm q (wP wN wH wB wC wC wL wK) PI) G t.heap ∧ gF (dC, dI) SKm G ([] : List (Nat × Nat)) s.heap t.heap) A) #[.ref o0, .int 1624, .int 1625, .int ho] s 0 0 A) (F0 m 6 ls []) := by
    intro n74
    induction n74 with
    | zero =>
      intro i1 hn74 z40 h41 H locs hT hF hS  ls hl
      obtain rfl : 60 = i1 := by omega
      refine lv_iload hx hb dX12_telling_6 (lv_at hl 0 rfl) ?_
      refine lv_iload_n hx hb dX12_telling_8 rfl (lv_at hl 4 rfl) ?_
      refine lv_iconst (v := 2) hx hb dX12_telling_9 (by decide) ?_
      refine lv_aload_n hx hb dX12_telling_10 rfl (lv_at hl 2 rfl) ?_
      refine tw_get hx hb hts bF_X12 hown hK hT hr_o0 shm_0 rfl 1 (by decide) (ht_at hts 0 rfl) (fun _ h9 => h9) dX12_telling_11 (fun v9 m76 h9 => ?_)
      obtain ⟨rfl, hg77⟩ := h9 _ rfl
      refine lv_iload_n hx hb dX12_telling_14 rfl (lv_at hl 3 rfl) ?_
      refine tw_iald (i := 1624) hx hb hK hT hg77 shm_2 rfl (by unfold vp_in; decide) dX12_telling_15 (fun v9 m78 h9 => ?_)
      obtain ⟨x79, rfl, gx79, kx79⟩ := (gp_at h9 (w_rac (by have q9 := tn_of (show (1624 : Int32).toInt = 1624 from (by decide)) (show (0 : Int) ≤ 1624 from by omega); omega)))
      refine lv_imul hx hb dX12_telling_16 ?_
      refine lv_topi (fun x80 ex80 => ?_)
      have t81 : x80.toInt = 2 * x79.toInt := ti_mul ex80 (by decide) rfl (by omega) (by omega)
      refine lv_iadd hx hb dX12_telling_17 ?_
      refine lv_topi (fun x82 ex82 => ?_)
      have t83 : x82.toInt = 1625 + x80.toInt := ti_add ex82 (by decide) rfl (by omega) (by omega)
      refine lv_icmp_ge (tgt := 64) hx hb dX12_telling_18 (by decide) (fun c84 => ?_) (fun c84 => (by exfalso; have q9 : ((1625 + 2 * 60 : Nat) : Int) < x82.toInt := ti_nle c84 rfl (nI_toInt (by omega)); omega))
      have t85 : x82.toInt ≤ ((1625 + 2 * 60 : Nat) : Int) := ti_le c84 rfl (nI_toInt (by omega))
      refine lv_iload hx hb dX12_telling_64 (lv_at hl 1 rfl) ?_
      exact W.iret (v := z40) hx hb hr (fun t ht hW => ⟨⟨z40, (), rfl, (by exact ⟨(rg_t (a := z40.toInt) rfl (by have q8 := ti_all z40; omega) (by have q8 := ti_all z40; omega)), (by omega)⟩), by (try dsimp only); rw [ht]; exact ⟨hT, hF⟩⟩, hS.F ht⟩) hS.2.2 dX12_telling_66
    | succ n74 ih74 =>
      intro i1 hn74 z40 h41 H locs hT hF hS  ls hl
      have hlt85 : i1 < 60 := by omega
      refine lv_iload hx hb dX12_telling_6 (lv_at hl 0 rfl) ?_
      refine lv_iload_n hx hb dX12_telling_8 rfl (lv_at hl 4 rfl) ?_
      refine lv_iconst (v := 2) hx hb dX12_telling_9 (by decide) ?_
      refine lv_aload_n hx hb dX12_telling_10 rfl (lv_at hl 2 rfl) ?_
      refine tw_get hx hb hts bF_X12 hown hK hT hr_o0 shm_0 rfl 1 (by decide) (ht_at hts 0 rfl) (fun _ h9 => h9) dX12_telling_11 (fun v9 m86 h9 => ?_)
      obtain ⟨rfl, hg87⟩ := h9 _ rfl
      refine lv_iload_n hx hb dX12_telling_14 rfl (lv_at hl 3 rfl) ?_
      refine tw_iald (i := 1624) hx hb hK hT hg87 shm_2 rfl (by unfold vp_in; decide) dX12_telling_15 (fun v9 m88 h9 => ?_)
      obtain ⟨x89, rfl, gx89, kx89⟩ := (gp_at h9 (w_rac (by have q9 := tn_of (show (1624 : Int32).toInt = 1624 from (by decide)) (show (0 : Int) ≤ 1624 from by omega); omega)))
      refine lv_imul hx hb dX12_telling_16 ?_
      refine lv_topi (fun x90 ex90 => ?_)
      have t91 : x90.toInt = 2 * x89.toInt := ti_mul ex90 (by decide) rfl (by omega) (by omega)
      refine lv_iadd hx hb dX12_telling_17 ?_
      refine lv_topi (fun x92 ex92 => ?_)
      have t93 : x92.toInt = 1625 + x90.toInt := ti_add ex92 (by decide) rfl (by omega) (by omega)
      refine lv_icmp_ge (tgt := 64) hx hb dX12_telling_18 (by decide) (fun c94 => ?_) (fun c94 => ?_)
      · have t95 : x92.toInt ≤ ((1625 + 2 * i1 : Nat) : Int) := ti_le c94 rfl (nI_toInt (by omega))
        refine lv_iload hx hb dX12_telling_64 (lv_at hl 1 rfl) ?_
        exact W.iret (v := z40) hx hb hr (fun t ht hW => ⟨⟨z40, (), rfl, (by exact ⟨(rg_t (a := z40.toInt) rfl (by have q8 := ti_all z40; omega) (by have q8 := ti_all z40; omega)), (by omega)⟩), by (try dsimp only); rw [ht]; exact ⟨hT, hF⟩⟩, hS.F ht⟩) hS.2.2 dX12_telling_66
      · have t96 : ((1625 + 2 * i1 : Nat) : Int) < x92.toInt := ti_nle c94 rfl (nI_toInt (by omega))
        refine lv_aload_n hx hb dX12_telling_21 rfl (lv_at hl 2 rfl) ?_
        refine tw_get hx hb hts bF_X12 hown hK hT hr_o0 shm_0 rfl 1 (by decide) (ht_at hts 0 rfl) (fun _ h9 => h9) dX12_telling_22 (fun v9 m97 h9 => ?_)
        obtain ⟨rfl, hg98⟩ := h9 _ rfl
        refine lv_iload hx hb dX12_telling_25 (lv_at hl 0 rfl) ?_
        refine tw_iald (i := (nI (1625 + 2 * i1))) hx hb hK hT hg87 shm_2 rfl (vp_in_nI (by omega) (by decide)) dX12_telling_27 (fun v9 m99 h9 => ?_)
        obtain ⟨x100, rfl, gx100, kx100⟩ := (gp_at h9 (w_fre (by have q9 := tn_of (show (nI (1625 + 2 * i1)).toInt = ((1625 + 2 * i1 : Nat) : Int) from (nI_toInt (by omega))) (show (0 : Int) ≤ ((1625 + 2 * i1 : Nat) : Int) from by omega); omega)))
        refine lv_iload_n hx hb dX12_telling_28 rfl (lv_at hl 5 rfl) ?_
        refine lv_icmp_gt (tgt := 58) hx hb dX12_telling_29 (by decide) (fun c101 => ?_) (fun c101 => ?_)
        · have t102 : ho.toInt < x100.toInt := ti_lt c101 rfl rfl
          refine lv_iinc (v := nI (1625 + 2 * i1 + 2)) (lv' := [(5, .int (nI (1625 + 2 * i1 + 2))), (4, .int z40), (0, .ref o0), (1, .int 1624), (2, .int 1625), (3, .int ho)]) hx hb dX12_telling_58 hl (k := 0) rfl (nI_add (1625 + 2 * i1) 2) (by decide) rfl (fun ls hl => ?_)
          refine lv_goto (tgt := 6) hx hb dX12_telling_61 (by decide) ?_
          have hl : lv_has ls 6 [(5, .int (nI (1625 + 2 * (i1 + 1)))), (4, .int z40), (0, .ref o0), (1, .int 1624), (2, .int 1625), (3, .int ho)] := by rw [show nI (1625 + 2 * (i1 + 1)) = nI (1625 + 2 * i1 + 2) from congrArg nI (by omega)]; exact hl
          exact ih74 (i1 + 1) (by omega) z40 (by have q9 := (show z40.toInt = z40.toInt from rfl); (try have q8 := ti_all z40); omega) _ _ hT hF hS ls (lv_sub hl [0, 1, 2, 3, 4, 5] rfl)
        · have t103 : x100.toInt ≤ ho.toInt := ti_nlt c101 rfl rfl
          refine lv_iload hx hb dX12_telling_32 (lv_at hl 1 rfl) ?_
          refine lv_if_lt (tgt := 54) hx hb dX12_telling_34 (by decide) (fun c104 => ?_) (fun c104 => ?_)
          · have t105 : z40.toInt < 0 := ti_lt c104 rfl (by decide)
            refine lv_iload hx hb dX12_telling_54 (lv_at hl 0 rfl) ?_
            refine lv_istore (lv' := [(4, .int (nI (1625 + 2 * i1))), (5, .int (nI (1625 + 2 * i1))), (0, .ref o0), (1, .int 1624), (2, .int 1625), (3, .int ho)]) hx hb dX12_telling_56 hl (by decide) rfl (fun ls hl => ?_)
            refine lv_iinc (v := nI (1625 + 2 * i1 + 2)) (lv' := [(5, .int (nI (1625 + 2 * i1 + 2))), (4, .int (nI (1625 + 2 * i1))), (0, .ref o0), (1, .int 1624), (2, .int 1625), (3, .int ho)]) hx hb dX12_telling_58 hl (k := 1) rfl (nI_add (1625 + 2 * i1) 2) (by decide) rfl (fun ls hl => ?_)
            refine lv_goto (tgt := 6) hx hb dX12_telling_61 (by decide) ?_
            have hl : lv_has ls 6 [(5, .int (nI (1625 + 2 * (i1 + 1)))), (4, .int (nI (1625 + 2 * i1))), (0, .ref o0), (1, .int 1624), (2, .int 1625), (3, .int ho)] := by rw [show nI (1625 + 2 * (i1 + 1)) = nI (1625 + 2 * i1 + 2) from congrArg nI (by omega)]; exact hl
            exact ih74 (i1 + 1) (by omega) (nI (1625 + 2 * i1)) (by have q9 := (show (nI (1625 + 2 * i1)).toInt = ((1625 + 2 * i1 : Nat) : Int) from (nI_toInt (by omega))); (try have q8 := ti_all (nI (1625 + 2 * i1))); omega) _ _ hT hF hS ls (lv_sub hl [0, 1, 2, 3, 4, 5] rfl)
          · have t106 : 0 ≤ z40.toInt := ti_nlt c104 rfl (by decide)
            refine lv_aload_n hx hb dX12_telling_37 rfl (lv_at hl 2 rfl) ?_
            refine tw_get hx hb hts bF_X12 hown hK hT hr_o0 shm_0 rfl 1 (by decide) (ht_at hts 0 rfl) (fun _ h9 => h9) dX12_telling_38 (fun v9 m107 h9 => ?_)
            obtain ⟨rfl, hg108⟩ := h9 _ rfl
            refine lv_iload hx hb dX12_telling_41 (lv_at hl 0 rfl) ?_
            refine tw_iald (i := (nI (1625 + 2 * i1))) hx hb hK hT hg87 shm_2 rfl (vp_in_nI (by omega) (by decide)) dX12_telling_43 (fun v9 m109 h9 => ?_)
            obtain ⟨x110, rfl, gx110, kx110⟩ := (gp_at h9 (w_fre (by have q9 := tn_of (show (nI (1625 + 2 * i1)).toInt = ((1625 + 2 * i1 : Nat) : Int) from (nI_toInt (by omega))) (show (0 : Int) ≤ ((1625 + 2 * i1 : Nat) : Int) from by omega); omega)))
            obtain rfl : x100 = x110 := (el_same m109 m99 rfl).symm
            refine lv_aload_n hx hb dX12_telling_44 rfl (lv_at hl 2 rfl) ?_
            refine tw_get hx hb hts bF_X12 hown hK hT hr_o0 shm_0 rfl 1 (by decide) (ht_at hts 0 rfl) (fun _ h9 => h9) dX12_telling_45 (fun v9 m111 h9 => ?_)
            obtain ⟨rfl, hg112⟩ := h9 _ rfl
            refine lv_iload hx hb dX12_telling_48 (lv_at hl 1 rfl) ?_
            refine tw_iald (i := z40) hx hb hK hT hg87 shm_2 rfl (vin_t (a := z40.toInt) rfl (by omega) (by omega)) dX12_telling_50 (fun v9 m113 h9 => ?_)
            obtain ⟨x114, rfl, gx114, kx114⟩ := (gp_any h9)
            refine lv_icmp_lt (tgt := 58) hx hb dX12_telling_51 (by decide) (fun c115 => ?_) (fun c115 => ?_)
            · have t116 : x100.toInt < x114.toInt := ti_lt c115 rfl rfl
              refine lv_iinc (v := nI (1625 + 2 * i1 + 2)) (lv' := [(5, .int (nI (1625 + 2 * i1 + 2))), (4, .int z40), (0, .ref o0), (1, .int 1624), (2, .int 1625), (3, .int ho)]) hx hb dX12_telling_58 hl (k := 0) rfl (nI_add (1625 + 2 * i1) 2) (by decide) rfl (fun ls hl => ?_)
              refine lv_goto (tgt := 6) hx hb dX12_telling_61 (by decide) ?_
              have hl : lv_has ls 6 [(5, .int (nI (1625 + 2 * (i1 + 1)))), (4, .int z40), (0, .ref o0), (1, .int 1624), (2, .int 1625), (3, .int ho)] := by rw [show nI (1625 + 2 * (i1 + 1)) = nI (1625 + 2 * i1 + 2) from congrArg nI (by omega)]; exact hl
              exact ih74 (i1 + 1) (by omega) z40 (by have q9 := (show z40.toInt = z40.toInt from rfl); (try have q8 := ti_all z40); omega) _ _ hT hF hS ls (lv_sub hl [0, 1, 2, 3, 4, 5] rfl)
            · have t117 : x114.toInt ≤ x100.toInt := ti_nlt c115 rfl rfl
              refine lv_iload hx hb dX12_telling_54 (lv_at hl 0 rfl) ?_
              refine lv_istore (lv' := [(4, .int (nI (1625 + 2 * i1))), (5, .int (nI (1625 + 2 * i1))), (0, .ref o0), (1, .int 1624), (2, .int 1625), (3, .int ho)]) hx hb dX12_telling_56 hl (by decide) rfl (fun ls hl => ?_)
              refine lv_iinc (v := nI (1625 + 2 * i1 + 2)) (lv' := [(5, .int (nI (1625 + 2 * i1 + 2))), (4, .int (nI (1625 + 2 * i1))), (0, .ref o0), (1, .int 1624), (2, .int 1625), (3, .int ho)]) hx hb dX12_telling_58 hl (k := 1) rfl (nI_add (1625 + 2 * i1) 2) (by decide) rfl (fun ls hl => ?_)
              refine lv_goto (tgt := 6) hx hb dX12_telling_61 (by decide) ?_
              have hl : lv_has ls 6 [(5, .int (nI (1625 + 2 * (i1 + 1)))), (4, .int (nI (1625 + 2 * i1))), (0, .ref o0), (1, .int 1624), (2, .int 1625), (3, .int ho)] := by rw [show nI (1625 + 2 * (i1 + 1)) = nI (1625 + 2 * i1 + 2) from congrArg nI (by omega)]; exact hl
              exact ih74 (i1 + 1) (by omega) (nI (1625 + 2 * i1)) (by have q9 := (show (nI (1625 + 2 * i1)).toInt = ((1625 + 2 * i1 : Nat) : Int) from (nI_toInt (by omega))); (try have q8 := ti_all (nI (1625 + 2 * i1))); omega) _ _ hT hF hS ls (lv_sub hl [0, 1, 2, 3, 4, 5] rfl)
  have hl2 : lv_has ls 6 [(5, .int (nI (1625 + 2 * 0))), (4, .int (-1)), (0, .ref o0), (1, .int 1624), (2, .int 1625), (3, .int ho)] := hl
  exact key74 (60 - 0) 0 (by omega) (-1) (by have q9 := (show (-1 : Int32).toInt = (-1) from (by decide)); (try have q8 := ti_all (-1 : Int32)); omega) _ _ hT hF hS ls (lv_sub hl2 [0, 1, 2, 3, 4, 5] rfl)
def w_s_telling2 : List Cond := .code yX12_telling cX12_telling 6 (some .int) :: ([.fieldLink RX12 9 "SeaLandModel" "world" "[I"] ++ bs)
set_option maxHeartbeats 4000000 in
set_option maxRecDepth 100000 in
theorem s_telling2 (l : Launch) (dC : Nat → ClassId) (dI : Nat → Nat → Nat) (kA : Nat → ClassId) (G : gT) (H0 : Heap) (q : Nat → Nat) (wN wH wB wC : Int) (wL wK : Nat → Prop) (PI : Nat → Int → Prop) (o0 : Nat) (ho : Int32) (hT : gH (dC, dI) kA (SHm q (wP wN wH wB wC wC wL wK) PI) G H0) (hr_o0 : G o0 = some 0) (hgn : 6500000 ≤ wN ∧ wN ≤ 400000000) (hgh : 0 ≤ wH ∧ wH ≤ 40000) (hgb : 0 ≤ wB ∧ wB ≤ 3850000) (hgc : 0 ≤ wC ∧ wC ≤ 30) : Met l yX12_telling w_s_telling2 ({ frames := 0, cells := 0, slots := 0, locals := 0 }) (va_Pc [.ref o0, .int 1503, .int 1504, .int ho] (fun U => U.heap = H0 ∧ va_K (dC, dI) vwCl (tyl kA) U ∧ EV (gA G H0.size) U U.heap)) (va_Qi (fun (r : Int32) (u : Unit) => (-1 ≤ r.toInt ∧ r.toInt ≤ 1622) ∧ ((r.toInt = -1 ∨ (1504 ≤ r.toInt ∧ r.toInt ≤ 1622 ∧ (r.toInt - 1504) % 2 = 0)))) (fun (_ : Unit) (t : State) => gH (dC, dI) kA (SHm q (wP wN wH wB wC wC wL wK) PI) G t.heap ∧ gF (dC, dI) SKm G ([] : List (Nat × Nat)) H0 t.heap) (gA G H0.size)) 0 0 (gA G H0.size) := by
  refine Met.ofW (cc := cX12_telling) (maxL := 6) (ret := (some .int)) (by decide) rfl ?_
  intro p e s m args below meth c s₁ B hml hv
  obtain ⟨rfl, hH0, hK, hE⟩ := hv
  have hx := B.exec
  have hb := B.bytes
  have hr := B.returns
  have hts := atoms_spec (ws := w_s_telling2) B.pre
  have hown : s.vm.findClass RX12 = some m.cls := findClass_of_methodNamed B.named
  have hlocks := B.notSynchronized
  subst hH0
  generalize hAe : gA G s.heap.size = A at hE ⊢
  have hA : ∀ q : Nat, s.heap.size ≤ q → A q := fun q h => by rw [← hAe]; exact Or.inr h
  have hG := gA_of hAe
  have hS : va_S A s.heap s.heap [] := va_S.rf
  have hF : gF (dC, dI) SKm G ([] : List (Nat × Nat)) s.heap s.heap := gF.rf
  have hl := lv_entry ([.ref o0, .int 1503, .int 1504, .int ho]) (n := 6) (Nat.le_of_ble_eq_true rfl)
  rw [lg_entry_eq]
  generalize (lg_sl ([.ref o0, .int 1503, .int 1504, .int ho]) ++ List.replicate (6 - (lg_sl ([.ref o0, .int 1503, .int 1504, .int ho])).length) Slot.unset).toArray = ls at hl ⊢
  have hl : lv_has ls 6 [(0, .ref o0), (1, .int 1503), (2, .int 1504), (3, .int ho)] := hl
  refine lv_iconst (v := (-1)) hx hb dX12_telling_0 (by decide) ?_
  refine lv_istore (lv' := [(4, .int (-1)), (0, .ref o0), (1, .int 1503), (2, .int 1504), (3, .int ho)]) hx hb dX12_telling_1 hl (by decide) rfl (fun ls hl => ?_)
  refine lv_iload_n hx hb dX12_telling_3 rfl (lv_at hl 3 rfl) ?_
  refine lv_istore (lv' := [(5, .int 1504), (4, .int (-1)), (0, .ref o0), (1, .int 1503), (2, .int 1504), (3, .int ho)]) hx hb dX12_telling_4 hl (by decide) rfl (fun ls hl => ?_)
  have key74 : ∀ (n74 i1 : Nat), i1 + n74 = 60 → ∀ (z40 : Int32), (((z40.toInt = -1 ∨ (1504 ≤ z40.toInt ∧ z40.toInt ≤ 1622 ∧ (z40.toInt - 1504) % 2 = 0)))) → ∀ (H : Heap) (locs : List Loc), gH (dC, dI) kA (SHm q (wP wN wH wB wC wC wL wK) PI) G H → gF (dC, dI) SKm G ([] : List (Nat × Nat)) s.heap H → va_S A s.heap H locs → ∀ ls : Array Slot, lv_has ls 6 [(5, .int (nI (1504 + 2 * i1))), (4, .int z40), (0, .ref o0), (1, .int 1503), (2, .int 1504), (3, .int ho)] → W p l e (headSpec w_s_telling2 ({ frames := 0, cells := 0, slots := 0, locals := 0 })).room s m #[.ref o0, .int 1503, .int 1504, .int ho] below meth c H locs 0 0 (MQ below (va_Qi (fun (r : Int32) (u : Unit) => (-1 ≤ r.toInt ∧ r.toInt ≤ 1622) ∧ ((r.toInt = -1 ∨ (1504 ≤ r.toInt ∧ r.toInt ≤ 1622 ∧ (r.toInt - 1504) % 2 = 0)))) (fun (_ : Unit) (t : State) => gH (dC, dI) kA (SHm q (wP wN wH wB wC wC wL wK) PI) G t.heap ∧ gF (dC, dI) SKm G ([] : List (Nat × Nat)) s.heap t.heap) A) #[.ref o0, .int 1503, .int 1504, .int ho] s 0 0 A) (F0 m 6 ls []) := by
    intro n74
    induction n74 with
    | zero =>
      intro i1 hn74 z40 h41 H locs hT hF hS  ls hl
      obtain rfl : 60 = i1 := by omega
      refine lv_iload hx hb dX12_telling_6 (lv_at hl 0 rfl) ?_
      refine lv_iload_n hx hb dX12_telling_8 rfl (lv_at hl 4 rfl) ?_
      refine lv_iconst (v := 2) hx hb dX12_telling_9 (by decide) ?_
      refine lv_aload_n hx hb dX12_telling_10 rfl (lv_at hl 2 rfl) ?_
      refine tw_get hx hb hts bF_X12 hown hK hT hr_o0 shm_0 rfl 1 (by decide) (ht_at hts 0 rfl) (fun _ h9 => h9) dX12_telling_11 (fun v9 m76 h9 => ?_)
      obtain ⟨rfl, hg77⟩ := h9 _ rfl
      refine lv_iload_n hx hb dX12_telling_14 rfl (lv_at hl 3 rfl) ?_
      refine tw_iald (i := 1503) hx hb hK hT hg77 shm_2 rfl (by unfold vp_in; decide) dX12_telling_15 (fun v9 m78 h9 => ?_)
      obtain ⟨x79, rfl, gx79, kx79⟩ := (gp_at h9 (w_wic (by have q9 := tn_of (show (1503 : Int32).toInt = 1503 from (by decide)) (show (0 : Int) ≤ 1503 from by omega); omega)))
      refine lv_imul hx hb dX12_telling_16 ?_
      refine lv_topi (fun x80 ex80 => ?_)
      have t81 : x80.toInt = 2 * x79.toInt := ti_mul ex80 (by decide) rfl (by omega) (by omega)
      refine lv_iadd hx hb dX12_telling_17 ?_
      refine lv_topi (fun x82 ex82 => ?_)
      have t83 : x82.toInt = 1504 + x80.toInt := ti_add ex82 (by decide) rfl (by omega) (by omega)
      refine lv_icmp_ge (tgt := 64) hx hb dX12_telling_18 (by decide) (fun c84 => ?_) (fun c84 => (by exfalso; have q9 : ((1504 + 2 * 60 : Nat) : Int) < x82.toInt := ti_nle c84 rfl (nI_toInt (by omega)); omega))
      have t85 : x82.toInt ≤ ((1504 + 2 * 60 : Nat) : Int) := ti_le c84 rfl (nI_toInt (by omega))
      refine lv_iload hx hb dX12_telling_64 (lv_at hl 1 rfl) ?_
      exact W.iret (v := z40) hx hb hr (fun t ht hW => ⟨⟨z40, (), rfl, (by exact ⟨(rg_t (a := z40.toInt) rfl (by have q8 := ti_all z40; omega) (by have q8 := ti_all z40; omega)), (by omega)⟩), by (try dsimp only); rw [ht]; exact ⟨hT, hF⟩⟩, hS.F ht⟩) hS.2.2 dX12_telling_66
    | succ n74 ih74 =>
      intro i1 hn74 z40 h41 H locs hT hF hS  ls hl
      have hlt85 : i1 < 60 := by omega
      refine lv_iload hx hb dX12_telling_6 (lv_at hl 0 rfl) ?_
      refine lv_iload_n hx hb dX12_telling_8 rfl (lv_at hl 4 rfl) ?_
      refine lv_iconst (v := 2) hx hb dX12_telling_9 (by decide) ?_
      refine lv_aload_n hx hb dX12_telling_10 rfl (lv_at hl 2 rfl) ?_
      refine tw_get hx hb hts bF_X12 hown hK hT hr_o0 shm_0 rfl 1 (by decide) (ht_at hts 0 rfl) (fun _ h9 => h9) dX12_telling_11 (fun v9 m86 h9 => ?_)
      obtain ⟨rfl, hg87⟩ := h9 _ rfl
      refine lv_iload_n hx hb dX12_telling_14 rfl (lv_at hl 3 rfl) ?_
      refine tw_iald (i := 1503) hx hb hK hT hg87 shm_2 rfl (by unfold vp_in; decide) dX12_telling_15 (fun v9 m88 h9 => ?_)
      obtain ⟨x89, rfl, gx89, kx89⟩ := (gp_at h9 (w_wic (by have q9 := tn_of (show (1503 : Int32).toInt = 1503 from (by decide)) (show (0 : Int) ≤ 1503 from by omega); omega)))
      refine lv_imul hx hb dX12_telling_16 ?_
      refine lv_topi (fun x90 ex90 => ?_)
      have t91 : x90.toInt = 2 * x89.toInt := ti_mul ex90 (by decide) rfl (by omega) (by omega)
      refine lv_iadd hx hb dX12_telling_17 ?_
      refine lv_topi (fun x92 ex92 => ?_)
      have t93 : x92.toInt = 1504 + x90.toInt := ti_add ex92 (by decide) rfl (by omega) (by omega)
      refine lv_icmp_ge (tgt := 64) hx hb dX12_telling_18 (by decide) (fun c94 => ?_) (fun c94 => ?_)
      · have t95 : x92.toInt ≤ ((1504 + 2 * i1 : Nat) : Int) := ti_le c94 rfl (nI_toInt (by omega))
        refine lv_iload hx hb dX12_telling_64 (lv_at hl 1 rfl) ?_
        exact W.iret (v := z40) hx hb hr (fun t ht hW => ⟨⟨z40, (), rfl, (by exact ⟨(rg_t (a := z40.toInt) rfl (by have q8 := ti_all z40; omega) (by have q8 := ti_all z40; omega)), (by omega)⟩), by (try dsimp only); rw [ht]; exact ⟨hT, hF⟩⟩, hS.F ht⟩) hS.2.2 dX12_telling_66
      · have t96 : ((1504 + 2 * i1 : Nat) : Int) < x92.toInt := ti_nle c94 rfl (nI_toInt (by omega))
        refine lv_aload_n hx hb dX12_telling_21 rfl (lv_at hl 2 rfl) ?_
        refine tw_get hx hb hts bF_X12 hown hK hT hr_o0 shm_0 rfl 1 (by decide) (ht_at hts 0 rfl) (fun _ h9 => h9) dX12_telling_22 (fun v9 m97 h9 => ?_)
        obtain ⟨rfl, hg98⟩ := h9 _ rfl
        refine lv_iload hx hb dX12_telling_25 (lv_at hl 0 rfl) ?_
        refine tw_iald (i := (nI (1504 + 2 * i1))) hx hb hK hT hg87 shm_2 rfl (vp_in_nI (by omega) (by decide)) dX12_telling_27 (fun v9 m99 h9 => ?_)
        obtain ⟨x100, rfl, gx100, kx100⟩ := (gp_at h9 (w_fre (by have q9 := tn_of (show (nI (1504 + 2 * i1)).toInt = ((1504 + 2 * i1 : Nat) : Int) from (nI_toInt (by omega))) (show (0 : Int) ≤ ((1504 + 2 * i1 : Nat) : Int) from by omega); omega)))
        refine lv_iload_n hx hb dX12_telling_28 rfl (lv_at hl 5 rfl) ?_
        refine lv_icmp_gt (tgt := 58) hx hb dX12_telling_29 (by decide) (fun c101 => ?_) (fun c101 => ?_)
        · have t102 : ho.toInt < x100.toInt := ti_lt c101 rfl rfl
          refine lv_iinc (v := nI (1504 + 2 * i1 + 2)) (lv' := [(5, .int (nI (1504 + 2 * i1 + 2))), (4, .int z40), (0, .ref o0), (1, .int 1503), (2, .int 1504), (3, .int ho)]) hx hb dX12_telling_58 hl (k := 0) rfl (nI_add (1504 + 2 * i1) 2) (by decide) rfl (fun ls hl => ?_)
          refine lv_goto (tgt := 6) hx hb dX12_telling_61 (by decide) ?_
          have hl : lv_has ls 6 [(5, .int (nI (1504 + 2 * (i1 + 1)))), (4, .int z40), (0, .ref o0), (1, .int 1503), (2, .int 1504), (3, .int ho)] := by rw [show nI (1504 + 2 * (i1 + 1)) = nI (1504 + 2 * i1 + 2) from congrArg nI (by omega)]; exact hl
          exact ih74 (i1 + 1) (by omega) z40 (by have q9 := (show z40.toInt = z40.toInt from rfl); (try have q8 := ti_all z40); omega) _ _ hT hF hS ls (lv_sub hl [0, 1, 2, 3, 4, 5] rfl)
        · have t103 : x100.toInt ≤ ho.toInt := ti_nlt c101 rfl rfl
          refine lv_iload hx hb dX12_telling_32 (lv_at hl 1 rfl) ?_
          refine lv_if_lt (tgt := 54) hx hb dX12_telling_34 (by decide) (fun c104 => ?_) (fun c104 => ?_)
          · have t105 : z40.toInt < 0 := ti_lt c104 rfl (by decide)
            refine lv_iload hx hb dX12_telling_54 (lv_at hl 0 rfl) ?_
            refine lv_istore (lv' := [(4, .int (nI (1504 + 2 * i1))), (5, .int (nI (1504 + 2 * i1))), (0, .ref o0), (1, .int 1503), (2, .int 1504), (3, .int ho)]) hx hb dX12_telling_56 hl (by decide) rfl (fun ls hl => ?_)
            refine lv_iinc (v := nI (1504 + 2 * i1 + 2)) (lv' := [(5, .int (nI (1504 + 2 * i1 + 2))), (4, .int (nI (1504 + 2 * i1))), (0, .ref o0), (1, .int 1503), (2, .int 1504), (3, .int ho)]) hx hb dX12_telling_58 hl (k := 1) rfl (nI_add (1504 + 2 * i1) 2) (by decide) rfl (fun ls hl => ?_)
            refine lv_goto (tgt := 6) hx hb dX12_telling_61 (by decide) ?_
            have hl : lv_has ls 6 [(5, .int (nI (1504 + 2 * (i1 + 1)))), (4, .int (nI (1504 + 2 * i1))), (0, .ref o0), (1, .int 1503), (2, .int 1504), (3, .int ho)] := by rw [show nI (1504 + 2 * (i1 + 1)) = nI (1504 + 2 * i1 + 2) from congrArg nI (by omega)]; exact hl
            exact ih74 (i1 + 1) (by omega) (nI (1504 + 2 * i1)) (by have q9 := (show (nI (1504 + 2 * i1)).toInt = ((1504 + 2 * i1 : Nat) : Int) from (nI_toInt (by omega))); (try have q8 := ti_all (nI (1504 + 2 * i1))); omega) _ _ hT hF hS ls (lv_sub hl [0, 1, 2, 3, 4, 5] rfl)
          · have t106 : 0 ≤ z40.toInt := ti_nlt c104 rfl (by decide)
            refine lv_aload_n hx hb dX12_telling_37 rfl (lv_at hl 2 rfl) ?_
            refine tw_get hx hb hts bF_X12 hown hK hT hr_o0 shm_0 rfl 1 (by decide) (ht_at hts 0 rfl) (fun _ h9 => h9) dX12_telling_38 (fun v9 m107 h9 => ?_)
            obtain ⟨rfl, hg108⟩ := h9 _ rfl
            refine lv_iload hx hb dX12_telling_41 (lv_at hl 0 rfl) ?_
            refine tw_iald (i := (nI (1504 + 2 * i1))) hx hb hK hT hg87 shm_2 rfl (vp_in_nI (by omega) (by decide)) dX12_telling_43 (fun v9 m109 h9 => ?_)
            obtain ⟨x110, rfl, gx110, kx110⟩ := (gp_at h9 (w_fre (by have q9 := tn_of (show (nI (1504 + 2 * i1)).toInt = ((1504 + 2 * i1 : Nat) : Int) from (nI_toInt (by omega))) (show (0 : Int) ≤ ((1504 + 2 * i1 : Nat) : Int) from by omega); omega)))
            obtain rfl : x100 = x110 := (el_same m109 m99 rfl).symm
            refine lv_aload_n hx hb dX12_telling_44 rfl (lv_at hl 2 rfl) ?_
            refine tw_get hx hb hts bF_X12 hown hK hT hr_o0 shm_0 rfl 1 (by decide) (ht_at hts 0 rfl) (fun _ h9 => h9) dX12_telling_45 (fun v9 m111 h9 => ?_)
            obtain ⟨rfl, hg112⟩ := h9 _ rfl
            refine lv_iload hx hb dX12_telling_48 (lv_at hl 1 rfl) ?_
            refine tw_iald (i := z40) hx hb hK hT hg87 shm_2 rfl (vin_t (a := z40.toInt) rfl (by omega) (by omega)) dX12_telling_50 (fun v9 m113 h9 => ?_)
            obtain ⟨x114, rfl, gx114, kx114⟩ := (gp_any h9)
            refine lv_icmp_lt (tgt := 58) hx hb dX12_telling_51 (by decide) (fun c115 => ?_) (fun c115 => ?_)
            · have t116 : x100.toInt < x114.toInt := ti_lt c115 rfl rfl
              refine lv_iinc (v := nI (1504 + 2 * i1 + 2)) (lv' := [(5, .int (nI (1504 + 2 * i1 + 2))), (4, .int z40), (0, .ref o0), (1, .int 1503), (2, .int 1504), (3, .int ho)]) hx hb dX12_telling_58 hl (k := 0) rfl (nI_add (1504 + 2 * i1) 2) (by decide) rfl (fun ls hl => ?_)
              refine lv_goto (tgt := 6) hx hb dX12_telling_61 (by decide) ?_
              have hl : lv_has ls 6 [(5, .int (nI (1504 + 2 * (i1 + 1)))), (4, .int z40), (0, .ref o0), (1, .int 1503), (2, .int 1504), (3, .int ho)] := by rw [show nI (1504 + 2 * (i1 + 1)) = nI (1504 + 2 * i1 + 2) from congrArg nI (by omega)]; exact hl
              exact ih74 (i1 + 1) (by omega) z40 (by have q9 := (show z40.toInt = z40.toInt from rfl); (try have q8 := ti_all z40); omega) _ _ hT hF hS ls (lv_sub hl [0, 1, 2, 3, 4, 5] rfl)
            · have t117 : x114.toInt ≤ x100.toInt := ti_nlt c115 rfl rfl
              refine lv_iload hx hb dX12_telling_54 (lv_at hl 0 rfl) ?_
              refine lv_istore (lv' := [(4, .int (nI (1504 + 2 * i1))), (5, .int (nI (1504 + 2 * i1))), (0, .ref o0), (1, .int 1503), (2, .int 1504), (3, .int ho)]) hx hb dX12_telling_56 hl (by decide) rfl (fun ls hl => ?_)
              refine lv_iinc (v := nI (1504 + 2 * i1 + 2)) (lv' := [(5, .int (nI (1504 + 2 * i1 + 2))), (4, .int (nI (1504 + 2 * i1))), (0, .ref o0), (1, .int 1503), (2, .int 1504), (3, .int ho)]) hx hb dX12_telling_58 hl (k := 1) rfl (nI_add (1504 + 2 * i1) 2) (by decide) rfl (fun ls hl => ?_)
              refine lv_goto (tgt := 6) hx hb dX12_telling_61 (by decide) ?_
              have hl : lv_has ls 6 [(5, .int (nI (1504 + 2 * (i1 + 1)))), (4, .int (nI (1504 + 2 * i1))), (0, .ref o0), (1, .int 1503), (2, .int 1504), (3, .int ho)] := by rw [show nI (1504 + 2 * (i1 + 1)) = nI (1504 + 2 * i1 + 2) from congrArg nI (by omega)]; exact hl
              exact ih74 (i1 + 1) (by omega) (nI (1504 + 2 * i1)) (by have q9 := (show (nI (1504 + 2 * i1)).toInt = ((1504 + 2 * i1 : Nat) : Int) from (nI_toInt (by omega))); (try have q8 := ti_all (nI (1504 + 2 * i1))); omega) _ _ hT hF hS ls (lv_sub hl [0, 1, 2, 3, 4, 5] rfl)
  have hl2 : lv_has ls 6 [(5, .int (nI (1504 + 2 * 0))), (4, .int (-1)), (0, .ref o0), (1, .int 1503), (2, .int 1504), (3, .int ho)] := hl
  exact key74 (60 - 0) 0 (by omega) (-1) (by have q9 := (show (-1 : Int32).toInt = (-1) from (by decide)); (try have q8 := ti_all (-1 : Int32)); omega) _ _ hT hF hS ls (lv_sub hl2 [0, 1, 2, 3, 4, 5] rfl)
def w_s_rain : List Cond := .code yX12_rain cX12_rain 3 (some .int) :: ([.code yX12_telling cX12_telling 6 (some .int), .fieldLink RX12 9 "SeaLandModel" "world" "[I", .methodLink RX12 243 yX12_telling, .instanceMethod yX12_telling, .selects RX12 yX12_telling yX12_telling, .initialized RX12] ++ bs)
set_option maxHeartbeats 4000000 in
set_option maxRecDepth 100000 in
theorem s_rain (l : Launch) (dC : Nat → ClassId) (dI : Nat → Nat → Nat) (kA : Nat → ClassId) (G : gT) (H0 : Heap) (q : Nat → Nat) (wN wH wB wC : Int) (wL wK : Nat → Prop) (PI : Nat → Int → Prop) (o0 : Nat) (ho : Int32) (hT : gH (dC, dI) kA (SHm q (wP wN wH wB wC wC wL wK) PI) G H0) (hr_o0 : G o0 = some 0) (hgn : 6500000 ≤ wN ∧ wN ≤ 400000000) (hgh : 0 ≤ wH ∧ wH ≤ 40000) (hgb : 0 ≤ wB ∧ wB ≤ 3850000) (hgc : 0 ≤ wC ∧ wC ≤ 30) : Met l yX12_rain w_s_rain ({ frames := 1, cells := 0, slots := 0, locals := 25 }) (va_Pc [.ref o0, .int ho] (fun U => U.heap = H0 ∧ va_K (dC, dI) vwCl (tyl kA) U ∧ EV (gA G H0.size) U U.heap)) (va_Qi (fun (r : Int32) (u : Unit) => (0 ≤ r.toInt ∧ r.toInt ≤ 20)) (fun (_ : Unit) (t : State) => gH (dC, dI) kA (SHm q (wP wN wH wB wC wC wL wK) PI) G t.heap ∧ gF (dC, dI) SKm G ([] : List (Nat × Nat)) H0 t.heap) (gA G H0.size)) 0 0 (gA G H0.size) := by
  refine Met.ofW (cc := cX12_rain) (maxL := 3) (ret := (some .int)) (by decide) rfl ?_
  intro p e s m args below meth c s₁ B hml hv
  obtain ⟨rfl, hH0, hK, hE⟩ := hv
  have hx := B.exec
  have hb := B.bytes
  have hr := B.returns
  have hts := atoms_spec (ws := w_s_rain) B.pre
  have hown : s.vm.findClass RX12 = some m.cls := findClass_of_methodNamed B.named
  have hlocks := B.notSynchronized
  subst hH0
  generalize hAe : gA G s.heap.size = A at hE ⊢
  have hA : ∀ q : Nat, s.heap.size ≤ q → A q := fun q h => by rw [← hAe]; exact Or.inr h
  have hG := gA_of hAe
  have hS : va_S A s.heap s.heap [] := va_S.rf
  have hF : gF (dC, dI) SKm G ([] : List (Nat × Nat)) s.heap s.heap := gF.rf
  have hl := lv_entry ([.ref o0, .int ho]) (n := 3) (Nat.le_of_ble_eq_true rfl)
  rw [lg_entry_eq]
  generalize (lg_sl ([.ref o0, .int ho]) ++ List.replicate (3 - (lg_sl ([.ref o0, .int ho])).length) Slot.unset).toArray = ls at hl ⊢
  have hl : lv_has ls 3 [(0, .ref o0), (1, .int ho)] := hl
  refine lv_aload_n hx hb dX12_rain_0 rfl (lv_at hl 0 rfl) ?_
  refine lv_sipush (v := 1624) hx hb dX12_rain_1 (by decide) ?_
  refine lv_sipush (v := 1625) hx hb dX12_rain_4 (by decide) ?_
  refine lv_iload_n hx hb dX12_rain_7 rfl (lv_at hl 1 rfl) ?_
  have hFc := gA_free hG hA hS
  refine va_calli (va_runV (As := [.int 1624, .int 1625, .int ho]) (rest := []) ⟨hx, hb, hml, hown, hts⟩ (s_telling1 l dC dI kA G s.heap q wN wH wB wC wL wK PI o0 ho hT hr_o0 (by omega) (by omega) (by omega) (by omega)) (cwV 3 hts (goodIn_app (goodIn_r _ [3, 4, 5, 6] (by decide +kernel) (by decide +kernel)) (goodIn_ca (goodIn_r _ [1, 2] (by decide +kernel) (by decide +kernel)) (bs_in _ _))) rfl rfl rfl (by decide +kernel) ⟨(Nat.le_of_ble_eq_true rfl), (Nat.le_of_ble_eq_true rfl)⟩) ⟨fun a U g mk q => by obtain ⟨q0, q1, qK, qE⟩ := q; exact ⟨q0, q1, va_K.moved (u := U) (U := U.calling g mk a) (Vm.Alike.refl U.vm) qK, EV.blind g mk a qE⟩, gH_recv hK hT hr_o0 shm_0 rfl, fun U hU hW => ⟨rfl, hU, va_K.moved hW.alike hK, hE.call hS hFc hU hW⟩⟩ rfl rfl hl.1 rfl (lv_room (Nat.le_of_ble_eq_true rfl)) dX12_rain_8 ⟨(Nat.le_of_ble_eq_true rfl), (Nat.le_of_ble_eq_true rfl)⟩) hS (fun q _ h => hFc q h) hFc (fun r1 u t H locs ht hvm hw2 hB _ _ hS => ?_)
  obtain ⟨hT, hF1⟩ := hB
  rw [ht] at hT hF1
  have hF := hF.more hF1 (by decide)
  try dsimp only at hw2
  obtain ⟨h3, hf4⟩ := hw2
  refine lv_istore_n (lv' := [(2, .int r1), (0, .ref o0), (1, .int ho)]) hx hb dX12_rain_11 rfl hl (by decide) rfl (fun ls hl => ?_)
  refine lv_iload_n hx hb dX12_rain_12 rfl (lv_at hl 0 rfl) ?_
  refine lv_if_ge (tgt := 20) hx hb dX12_rain_13 (by decide) (fun c5 => ?_) (fun c5 => ?_)
  · have t6 : 0 ≤ r1.toInt := ti_le c5 (by decide) rfl
    refine lv_aload_n hx hb dX12_rain_20 rfl (lv_at hl 1 rfl) ?_
    refine tw_get hx hb hts bF_X12 hown hK hT hr_o0 shm_0 rfl 1 (by decide) (ht_at hts 1 rfl) (fun _ h9 => h9) dX12_rain_21 (fun v9 m7 h9 => ?_)
    obtain ⟨rfl, hg8⟩ := h9 _ rfl
    refine lv_iload_n hx hb dX12_rain_24 rfl (lv_at hl 0 rfl) ?_
    refine lv_iconst (v := 1) hx hb dX12_rain_25 (by decide) ?_
    refine lv_iadd hx hb dX12_rain_26 ?_
    refine lv_topi (fun x9 ex9 => ?_)
    have t10 : x9.toInt = r1.toInt + 1 := ti_add ex9 rfl (by decide) (by omega) (by omega)
    refine tw_iald (i := x9) hx hb hK hT hg8 shm_2 rfl (vin_t (a := x9.toInt) rfl (by omega) (by omega)) dX12_rain_27 (fun v9 m11 h9 => ?_)
    obtain ⟨x12, rfl, gx12, kx12⟩ := (gp_at h9 (w_rai (by have q9 := tn_of (show x9.toInt = x9.toInt from rfl) (show (0 : Int) ≤ x9.toInt from by omega); omega)))
    exact W.iret (v := x12) hx hb hr (fun t ht hW => ⟨⟨x12, (), rfl, (by exact (rg_t (a := x12.toInt) rfl (by have q8 := ti_all x12; omega) (by have q8 := ti_all x12; omega))), by (try dsimp only); rw [ht]; exact ⟨hT, hF⟩⟩, hS.F ht⟩) hS.2.2 dX12_rain_28
  · have t13 : r1.toInt < 0 := ti_nle c5 (by decide) rfl
    refine lv_iconst (v := 0) hx hb dX12_rain_16 (by decide) ?_
    refine lv_goto (tgt := 28) hx hb dX12_rain_17 (by decide) ?_
    exact W.iret (v := 0) hx hb hr (fun t ht hW => ⟨⟨0, (), rfl, (by exact (rg_t (a := 0) (by decide) (by omega) (by omega))), by (try dsimp only); rw [ht]; exact ⟨hT, hF⟩⟩, hS.F ht⟩) hS.2.2 dX12_rain_28
def w_s_outside : List Cond := .code yX12_outside cX12_outside 4 (some .int) :: ([.fieldLink RX12 9 "SeaLandModel" "world" "[I", .code yX12_in cX12_in 3 (some .boolean), .methodLink RX12 197 yX12_in, .static yX12_in, .initialized RX12] ++ bs)
set_option maxHeartbeats 4000000 in
set_option maxRecDepth 100000 in
theorem s_outside (l : Launch) (dC : Nat → ClassId) (dI : Nat → Nat → Nat) (kA : Nat → ClassId) (G : gT) (H0 : Heap) (q : Nat → Nat) (wN wH wB wC : Int) (wL wK : Nat → Prop) (PI : Nat → Int → Prop) (o0 : Nat) (ho : Int32) (hT : gH (dC, dI) kA (SHm q (wP wN wH wB wC wC wL wK) PI) G H0) (hr_o0 : G o0 = some 0) (hq0 : 0 ≤ ho.toInt ∧ ho.toInt ≤ 100000) (hgn : 6500000 ≤ wN ∧ wN ≤ 400000000) (hgh : 0 ≤ wH ∧ wH ≤ 40000) (hgb : 0 ≤ wB ∧ wB ≤ 3850000) (hgc : 0 ≤ wC ∧ wC ≤ 30) : Met l yX12_outside w_s_outside ({ frames := 1, cells := 0, slots := 0, locals := 22 }) (va_Pc [.ref o0, .int ho] (fun U => U.heap = H0 ∧ va_K (dC, dI) vwCl (tyl kA) U ∧ EV (gA G H0.size) U U.heap)) (va_Qi (fun (r : Int32) (u : Unit) => True) (fun (_ : Unit) (t : State) => gH (dC, dI) kA (SHm q (wP wN wH wB wC wC wL wK) PI) G t.heap ∧ gF (dC, dI) SKm G ([] : List (Nat × Nat)) H0 t.heap) (gA G H0.size)) 0 0 (gA G H0.size) := by
  refine Met.ofW (cc := cX12_outside) (maxL := 4) (ret := (some .int)) (by decide) rfl ?_
  intro p e s m args below meth c s₁ B hml hv
  obtain ⟨rfl, hH0, hK, hE⟩ := hv
  have hx := B.exec
  have hb := B.bytes
  have hr := B.returns
  have hts := atoms_spec (ws := w_s_outside) B.pre
  have hown : s.vm.findClass RX12 = some m.cls := findClass_of_methodNamed B.named
  have hlocks := B.notSynchronized
  subst hH0
  generalize hAe : gA G s.heap.size = A at hE ⊢
  have hA : ∀ q : Nat, s.heap.size ≤ q → A q := fun q h => by rw [← hAe]; exact Or.inr h
  have hG := gA_of hAe
  have hS : va_S A s.heap s.heap [] := va_S.rf
  have hF : gF (dC, dI) SKm G ([] : List (Nat × Nat)) s.heap s.heap := gF.rf
  have hl := lv_entry ([.ref o0, .int ho]) (n := 4) (Nat.le_of_ble_eq_true rfl)
  rw [lg_entry_eq]
  generalize (lg_sl ([.ref o0, .int ho]) ++ List.replicate (4 - (lg_sl ([.ref o0, .int ho])).length) Slot.unset).toArray = ls at hl ⊢
  have hl : lv_has ls 4 [(0, .ref o0), (1, .int ho)] := hl
  refine lv_aload_n hx hb dX12_outside_0 rfl (lv_at hl 0 rfl) ?_
  refine tw_get hx hb hts bF_X12 hown hK hT hr_o0 shm_0 rfl 1 (by decide) (ht_at hts 0 rfl) (fun _ h9 => h9) dX12_outside_1 (fun v9 m1 h9 => ?_)
  obtain ⟨rfl, hg2⟩ := h9 _ rfl
  refine lv_sipush (v := 1430) hx hb dX12_outside_4 (by decide) ?_
  refine lv_iload_n hx hb dX12_outside_7 rfl (lv_at hl 1 rfl) ?_
  refine lv_bipush (v := 12) hx hb dX12_outside_8 (by decide) ?_
  refine lv_irem hx hb dX12_outside_10 (by decide) ?_
  refine lv_topi (fun x3 ex3 => ?_)
  have t4 : x3.toInt = ho.toInt % 12 := ti_rem ex3 rfl (by decide) (by omega) (by omega)
  refine lv_iadd hx hb dX12_outside_11 ?_
  refine lv_topi (fun x5 ex5 => ?_)
  have t6 : x5.toInt = 1430 + x3.toInt := ti_add ex5 (by decide) rfl (by omega) (by omega)
  refine tw_iald (i := x5) hx hb hK hT hg2 shm_2 rfl (vin_t (a := x5.toInt) rfl (by omega) (by omega)) dX12_outside_12 (fun v9 m7 h9 => ?_)
  obtain ⟨x8, rfl, gx8, kx8⟩ := (gp_at h9 (w_tid (by have q9 := tn_of (show x5.toInt = x5.toInt from rfl) (show (0 : Int) ≤ x5.toInt from by omega); omega)))
  refine lv_istore_n (lv' := [(2, .int x8), (0, .ref o0), (1, .int ho)]) hx hb dX12_outside_13 rfl hl (by decide) rfl (fun ls hl => ?_)
  refine lv_sipush (v := 1443) hx hb dX12_outside_14 (by decide) ?_
  refine lv_istore_n (lv' := [(3, .int 1443), (2, .int x8), (0, .ref o0), (1, .int ho)]) hx hb dX12_outside_17 rfl hl (by decide) rfl (fun ls hl => ?_)
  have key511 : ∀ (n511 i9 : Nat), i9 + n511 = 20 → ∀ (z466 : Int32), ∀ (H : Heap) (locs : List Loc), gH (dC, dI) kA (SHm q (wP wN wH wB wC wC wL wK) PI) G H → gF (dC, dI) SKm G ([] : List (Nat × Nat)) s.heap H → va_S A s.heap H locs → el H (q 1) x5.toNatClampNeg = some (.int x8) → ∀ ls : Array Slot, lv_has ls 4 [(3, .int (nI (1443 + 3 * i9))), (2, .int z466), (0, .ref o0), (1, .int ho)] → W p l e (headSpec w_s_outside ({ frames := 1, cells := 0, slots := 0, locals := 22 })).room s m #[.ref o0, .int ho] below meth c H locs 0 0 (MQ below (va_Qi (fun (r : Int32) (u : Unit) => True) (fun (_ : Unit) (t : State) => gH (dC, dI) kA (SHm q (wP wN wH wB wC wC wL wK) PI) G t.heap ∧ gF (dC, dI) SKm G ([] : List (Nat × Nat)) s.heap t.heap) A) #[.ref o0, .int ho] s 0 0 A) (F0 m 18 ls []) := by
    intro n511
    induction n511 with
    | zero =>
      intro i9 hn511 z466 H locs hT hF hS m467 ls hl
      obtain rfl : 20 = i9 := by omega
      refine lv_iload_n hx hb dX12_outside_18 rfl (lv_at hl 0 rfl) ?_
      refine lv_sipush (v := 1443) hx hb dX12_outside_19 (by decide) ?_
      refine lv_iconst (v := 3) hx hb dX12_outside_22 (by decide) ?_
      refine lv_aload_n hx hb dX12_outside_23 rfl (lv_at hl 2 rfl) ?_
      refine tw_get hx hb hts bF_X12 hown hK hT hr_o0 shm_0 rfl 1 (by decide) (ht_at hts 0 rfl) (fun _ h9 => h9) dX12_outside_24 (fun v9 m513 h9 => ?_)
      obtain ⟨rfl, hg514⟩ := h9 _ rfl
      refine lv_sipush (v := 1442) hx hb dX12_outside_27 (by decide) ?_
      refine tw_iald (i := 1442) hx hb hK hT hg2 shm_2 rfl (by unfold vp_in; decide) dX12_outside_30 (fun v9 m515 h9 => ?_)
      obtain ⟨x516, rfl, gx516, kx516⟩ := (gp_at h9 (w_stc (by have q9 := tn_of (show (1442 : Int32).toInt = 1442 from (by decide)) (show (0 : Int) ≤ 1442 from by omega); omega)))
      refine lv_imul hx hb dX12_outside_31 ?_
      refine lv_topi (fun x517 ex517 => ?_)
      have t518 : x517.toInt = 3 * x516.toInt := ti_mul ex517 (by decide) rfl (by omega) (by omega)
      refine lv_iadd hx hb dX12_outside_32 ?_
      refine lv_topi (fun x519 ex519 => ?_)
      have t520 : x519.toInt = 1443 + x517.toInt := ti_add ex519 (by decide) rfl (by omega) (by omega)
      refine lv_icmp_ge (tgt := 78) hx hb dX12_outside_33 (by decide) (fun c521 => ?_) (fun c521 => (by exfalso; have q9 : ((1443 + 3 * 20 : Nat) : Int) < x519.toInt := ti_nle c521 rfl (nI_toInt (by omega)); omega))
      have t522 : x519.toInt ≤ ((1443 + 3 * 20 : Nat) : Int) := ti_le c521 rfl (nI_toInt (by omega))
      refine lv_iload_n hx hb dX12_outside_78 rfl (lv_at hl 1 rfl) ?_
      exact W.iret (v := z466) hx hb hr (fun t ht hW => ⟨⟨z466, (), rfl, (by exact trivial), by (try dsimp only); rw [ht]; exact ⟨hT, hF⟩⟩, hS.F ht⟩) hS.2.2 dX12_outside_79
    | succ n511 ih511 =>
      intro i9 hn511 z466 H locs hT hF hS m467 ls hl
      have hlt522 : i9 < 20 := by omega
      refine lv_iload_n hx hb dX12_outside_18 rfl (lv_at hl 0 rfl) ?_
      refine lv_sipush (v := 1443) hx hb dX12_outside_19 (by decide) ?_
      refine lv_iconst (v := 3) hx hb dX12_outside_22 (by decide) ?_
      refine lv_aload_n hx hb dX12_outside_23 rfl (lv_at hl 2 rfl) ?_
      refine tw_get hx hb hts bF_X12 hown hK hT hr_o0 shm_0 rfl 1 (by decide) (ht_at hts 0 rfl) (fun _ h9 => h9) dX12_outside_24 (fun v9 m523 h9 => ?_)
      obtain ⟨rfl, hg524⟩ := h9 _ rfl
      refine lv_sipush (v := 1442) hx hb dX12_outside_27 (by decide) ?_
      refine tw_iald (i := 1442) hx hb hK hT hg2 shm_2 rfl (by unfold vp_in; decide) dX12_outside_30 (fun v9 m525 h9 => ?_)
      obtain ⟨x526, rfl, gx526, kx526⟩ := (gp_at h9 (w_stc (by have q9 := tn_of (show (1442 : Int32).toInt = 1442 from (by decide)) (show (0 : Int) ≤ 1442 from by omega); omega)))
      refine lv_imul hx hb dX12_outside_31 ?_
      refine lv_topi (fun x527 ex527 => ?_)
      have t528 : x527.toInt = 3 * x526.toInt := ti_mul ex527 (by decide) rfl (by omega) (by omega)
      refine lv_iadd hx hb dX12_outside_32 ?_
      refine lv_topi (fun x529 ex529 => ?_)
      have t530 : x529.toInt = 1443 + x527.toInt := ti_add ex529 (by decide) rfl (by omega) (by omega)
      refine lv_icmp_ge (tgt := 78) hx hb dX12_outside_33 (by decide) (fun c531 => ?_) (fun c531 => ?_)
      · have t532 : x529.toInt ≤ ((1443 + 3 * i9 : Nat) : Int) := ti_le c531 rfl (nI_toInt (by omega))
        refine lv_iload_n hx hb dX12_outside_78 rfl (lv_at hl 1 rfl) ?_
        exact W.iret (v := z466) hx hb hr (fun t ht hW => ⟨⟨z466, (), rfl, (by exact trivial), by (try dsimp only); rw [ht]; exact ⟨hT, hF⟩⟩, hS.F ht⟩) hS.2.2 dX12_outside_79
      · have t533 : ((1443 + 3 * i9 : Nat) : Int) < x529.toInt := ti_nle c531 rfl (nI_toInt (by omega))
        refine lv_iload_n hx hb dX12_outside_36 rfl (lv_at hl 1 rfl) ?_
        refine lv_iload_n hx hb dX12_outside_37 rfl (lv_at hl 3 rfl) ?_
        refine lv_aload_n hx hb dX12_outside_38 rfl (lv_at hl 2 rfl) ?_
        refine tw_get hx hb hts bF_X12 hown hK hT hr_o0 shm_0 rfl 1 (by decide) (ht_at hts 0 rfl) (fun _ h9 => h9) dX12_outside_39 (fun v9 m534 h9 => ?_)
        obtain ⟨rfl, hg535⟩ := h9 _ rfl
        refine lv_iload_n hx hb dX12_outside_42 rfl (lv_at hl 0 rfl) ?_
        refine tw_iald (i := (nI (1443 + 3 * i9))) hx hb hK hT hg2 shm_2 rfl (vp_in_nI (by omega) (by decide)) dX12_outside_43 (fun v9 m536 h9 => ?_)
        obtain ⟨x537, rfl, gx537, kx537⟩ := (gp_at h9 (w_fre (by have q9 := tn_of (show (nI (1443 + 3 * i9)).toInt = ((1443 + 3 * i9 : Nat) : Int) from (nI_toInt (by omega))) (show (0 : Int) ≤ ((1443 + 3 * i9 : Nat) : Int) from by omega); omega)))
        refine lv_aload_n hx hb dX12_outside_44 rfl (lv_at hl 2 rfl) ?_
        refine tw_get hx hb hts bF_X12 hown hK hT hr_o0 shm_0 rfl 1 (by decide) (ht_at hts 0 rfl) (fun _ h9 => h9) dX12_outside_45 (fun v9 m538 h9 => ?_)
        obtain ⟨rfl, hg539⟩ := h9 _ rfl
        refine lv_iload_n hx hb dX12_outside_48 rfl (lv_at hl 0 rfl) ?_
        refine lv_iconst (v := 1) hx hb dX12_outside_49 (by decide) ?_
        refine lv_iadd hx hb dX12_outside_50 ?_
        refine lv_topi (fun x540 ex540 => ?_)
        obtain rfl : nI (1443 + 3 * i9 + 1) = x540 := (ex540.trans (nI_add (1443 + 3 * i9) 1)).symm
        refine tw_iald (i := (nI (1443 + 3 * i9 + 1))) hx hb hK hT hg2 shm_2 rfl (vp_in_nI (by omega) (by decide)) dX12_outside_51 (fun v9 m541 h9 => ?_)
        obtain ⟨x542, rfl, gx542, kx542⟩ := (gp_at h9 (w_fre (by have q9 := tn_of (show (nI (1443 + 3 * i9 + 1)).toInt = ((1443 + 3 * i9 + 1 : Nat) : Int) from (nI_toInt (by omega))) (show (0 : Int) ≤ ((1443 + 3 * i9 + 1 : Nat) : Int) from by omega); omega)))
        have hFc := gA_free hG hA hS
        refine va_calli (va_runS (As := [.int ho, .int x537, .int x542]) (rest := [.int z466]) ⟨hx, hb, hml, hown, hts⟩ (s_in l dC dI kA G H q wN wH wB wC wL wK PI ho x537 x542 hT (by omega) (by omega) (by omega) (by omega)) (va_cwS 3 hts (goodIn_app (goodIn_r _ [3, 4, 5] (by decide +kernel) (by decide +kernel)) (goodIn_ca (goodIn_r _ [2] (by decide +kernel) (by decide +kernel)) (bs_in _ _))) rfl rfl rfl (by decide +kernel) ⟨(Nat.le_of_ble_eq_true rfl), (Nat.le_of_ble_eq_true rfl)⟩) ⟨fun a U g mk q => by obtain ⟨q0, q1, qK, qE⟩ := q; exact ⟨q0, q1, va_K.moved (u := U) (U := U.calling g mk a) (Vm.Alike.refl U.vm) qK, EV.blind g mk a qE⟩, fun U hU hW => ⟨rfl, hU, va_K.moved hW.alike hK, hE.call hS hFc hU hW⟩⟩ rfl rfl hl.1 rfl (lv_room (Nat.le_of_ble_eq_true rfl)) dX12_outside_52 ⟨(Nat.le_of_ble_eq_true rfl), (Nat.le_of_ble_eq_true rfl)⟩) hS (fun q _ h => hFc q h) hFc (fun r543 u t H locs ht hvm hw544 hB _ _ hS => ?_)
        obtain ⟨hT, hF1⟩ := hB
        rw [ht] at hT hF1
        have m545 := (el_kept (hF1.arr hg2 skm_2 (by decide))).trans m467
        have m546 := (el_kept (hF1.arr hg2 skm_2 (by decide))).trans m525
        have m547 := (el_kept (hF1.arr hg2 skm_2 (by decide))).trans m536
        have m548 := (el_kept (hF1.arr hg2 skm_2 (by decide))).trans m541
        have hF := hF.more hF1 (by decide)
        try dsimp only at hw544
        obtain ⟨h549, hi550, hi551⟩ := hw544
        refine lv_if_eq (tgt := 69) hx hb dX12_outside_55 (by decide) (fun c552 => ?_) (fun c552 => ?_)
        · have t553 : r543.toInt = 0 := ti_eq c552 rfl (by decide)
          have t554 : ho.toInt < x537.toInt ∨ x542.toInt < ho.toInt := hi551 c552
          refine lv_iconst (v := 0) hx hb dX12_outside_69 (by decide) ?_
          refine lv_iadd hx hb dX12_outside_70 ?_
          refine lv_topi (fun x555 ex555 => ?_)
          have t556 : -2147483648 ≤ z466.toInt ∧ z466.toInt ≤ 2147483647 := ti_all z466
          have t557 : x555.toInt = z466.toInt + 0 := ti_add ex555 rfl (by decide) (by omega) (by omega)
          refine lv_istore_n (lv' := [(2, .int x555), (3, .int (nI (1443 + 3 * i9))), (0, .ref o0), (1, .int ho)]) hx hb dX12_outside_71 rfl hl (by decide) rfl (fun ls hl => ?_)
          refine lv_iinc (v := nI (1443 + 3 * i9 + 3)) (lv' := [(3, .int (nI (1443 + 3 * i9 + 3))), (2, .int x555), (0, .ref o0), (1, .int ho)]) hx hb dX12_outside_72 hl (k := 1) rfl (nI_add (1443 + 3 * i9) 3) (by decide) rfl (fun ls hl => ?_)
          refine lv_goto (tgt := 18) hx hb dX12_outside_75 (by decide) ?_
          have hl : lv_has ls 4 [(3, .int (nI (1443 + 3 * (i9 + 1)))), (2, .int x555), (0, .ref o0), (1, .int ho)] := by rw [show nI (1443 + 3 * (i9 + 1)) = nI (1443 + 3 * i9 + 3) from congrArg nI (by omega)]; exact hl
          exact ih511 (i9 + 1) (by omega) x555 _ _ hT hF hS m545 ls (lv_sub hl [0, 1, 2, 3] rfl)
        · have t558 : r543.toInt ≠ 0 := ti_ne c552 rfl (by decide)
          have t559 : x537.toInt ≤ ho.toInt ∧ ho.toInt ≤ x542.toInt := hi550 ((bit_of ⟨by omega, by omega⟩).resolve_left c552)
          refine lv_aload_n hx hb dX12_outside_58 rfl (lv_at hl 2 rfl) ?_
          refine tw_get hx hb hts bF_X12 hown hK hT hr_o0 shm_0 rfl 1 (by decide) (ht_at hts 0 rfl) (fun _ h9 => h9) dX12_outside_59 (fun v9 m560 h9 => ?_)
          obtain ⟨rfl, hg561⟩ := h9 _ rfl
          refine lv_iload_n hx hb dX12_outside_62 rfl (lv_at hl 0 rfl) ?_
          refine lv_iconst (v := 2) hx hb dX12_outside_63 (by decide) ?_
          refine lv_iadd hx hb dX12_outside_64 ?_
          refine lv_topi (fun x562 ex562 => ?_)
          obtain rfl : nI (1443 + 3 * i9 + 2) = x562 := (ex562.trans (nI_add (1443 + 3 * i9) 2)).symm
          refine tw_iald (i := (nI (1443 + 3 * i9 + 2))) hx hb hK hT hg2 shm_2 rfl (vp_in_nI (by omega) (by decide)) dX12_outside_65 (fun v9 m563 h9 => ?_)
          obtain ⟨x564, rfl, gx564, kx564⟩ := (gp_at h9 (w_stm (by have q9 := tn_of (show (nI (1443 + 3 * i9 + 2)).toInt = ((1443 + 3 * i9 + 2 : Nat) : Int) from (nI_toInt (by omega))) (show (0 : Int) ≤ ((1443 + 3 * i9 + 2 : Nat) : Int) from by omega); omega)))
          refine lv_goto (tgt := 70) hx hb dX12_outside_66 (by decide) ?_
          refine lv_iadd hx hb dX12_outside_70 ?_
          refine lv_topi (fun x565 ex565 => ?_)
          refine lv_istore_n (lv' := [(2, .int x565), (3, .int (nI (1443 + 3 * i9))), (0, .ref o0), (1, .int ho)]) hx hb dX12_outside_71 rfl hl (by decide) rfl (fun ls hl => ?_)
          refine lv_iinc (v := nI (1443 + 3 * i9 + 3)) (lv' := [(3, .int (nI (1443 + 3 * i9 + 3))), (2, .int x565), (0, .ref o0), (1, .int ho)]) hx hb dX12_outside_72 hl (k := 1) rfl (nI_add (1443 + 3 * i9) 3) (by decide) rfl (fun ls hl => ?_)
          refine lv_goto (tgt := 18) hx hb dX12_outside_75 (by decide) ?_
          have hl : lv_has ls 4 [(3, .int (nI (1443 + 3 * (i9 + 1)))), (2, .int x565), (0, .ref o0), (1, .int ho)] := by rw [show nI (1443 + 3 * (i9 + 1)) = nI (1443 + 3 * i9 + 3) from congrArg nI (by omega)]; exact hl
          exact ih511 (i9 + 1) (by omega) x565 _ _ hT hF hS m545 ls (lv_sub hl [0, 1, 2, 3] rfl)
  have hl2 : lv_has ls 4 [(3, .int (nI (1443 + 3 * 0))), (2, .int x8), (0, .ref o0), (1, .int ho)] := hl
  exact key511 (20 - 0) 0 (by omega) x8 _ _ hT hF hS m7 ls (lv_sub hl2 [0, 1, 2, 3] rfl)
def w_s_lastOf : List Cond := .code yX12_lastOf cX12_lastOf 5 (some .int) :: ([.fieldLink RX12 42 "SeaLandModel" "lines" "[I", .fieldLink RX12 45 "SeaLandModel" "sort" "[I", .fieldLink RX12 48 "SeaLandModel" "told" "[I"] ++ bs)
set_option maxHeartbeats 4000000 in
set_option maxRecDepth 100000 in
theorem s_lastOf (l : Launch) (dC : Nat → ClassId) (dI : Nat → Nat → Nat) (kA : Nat → ClassId) (G : gT) (H0 : Heap) (q : Nat → Nat) (wN wH wB wC : Int) (wL wK : Nat → Prop) (PI : Nat → Int → Prop) (o0 : Nat) (so : Int32) (wo : Int32) (hT : gH (dC, dI) kA (SHm q (wP wN wH wB wC wC wL wK) PI) G H0) (hr_o0 : G o0 = some 0) (hgn : 6500000 ≤ wN ∧ wN ≤ 400000000) (hgh : 0 ≤ wH ∧ wH ≤ 40000) (hgb : 0 ≤ wB ∧ wB ≤ 3850000) (hgc : 0 ≤ wC ∧ wC ≤ 30) : Met l yX12_lastOf w_s_lastOf ({ frames := 0, cells := 0, slots := 0, locals := 0 }) (va_Pc [.ref o0, .int so, .int wo] (fun U => U.heap = H0 ∧ va_K (dC, dI) vwCl (tyl kA) U ∧ EV (gA G H0.size) U U.heap)) (va_Qi (fun (r : Int32) (u : Unit) => True) (fun (_ : Unit) (t : State) => gH (dC, dI) kA (SHm q (wP wN wH wB wC wC wL wK) PI) G t.heap ∧ gF (dC, dI) SKm G ([] : List (Nat × Nat)) H0 t.heap) (gA G H0.size)) 0 0 (gA G H0.size) := by
  refine Met.ofW (cc := cX12_lastOf) (maxL := 5) (ret := (some .int)) (by decide) rfl ?_
  intro p e s m args below meth c s₁ B hml hv
  obtain ⟨rfl, hH0, hK, hE⟩ := hv
  have hx := B.exec
  have hb := B.bytes
  have hr := B.returns
  have hts := atoms_spec (ws := w_s_lastOf) B.pre
  have hown : s.vm.findClass RX12 = some m.cls := findClass_of_methodNamed B.named
  have hlocks := B.notSynchronized
  subst hH0
  generalize hAe : gA G s.heap.size = A at hE ⊢
  have hA : ∀ q : Nat, s.heap.size ≤ q → A q := fun q h => by rw [← hAe]; exact Or.inr h
  have hG := gA_of hAe
  have hS : va_S A s.heap s.heap [] := va_S.rf
  have hF : gF (dC, dI) SKm G ([] : List (Nat × Nat)) s.heap s.heap := gF.rf
  have hl := lv_entry ([.ref o0, .int so, .int wo]) (n := 5) (Nat.le_of_ble_eq_true rfl)
  rw [lg_entry_eq]
  generalize (lg_sl ([.ref o0, .int so, .int wo]) ++ List.replicate (5 - (lg_sl ([.ref o0, .int so, .int wo])).length) Slot.unset).toArray = ls at hl ⊢
  have hl : lv_has ls 5 [(0, .ref o0), (1, .int so), (2, .int wo)] := hl
  refine lv_iload_n hx hb dX12_lastOf_0 rfl (lv_at hl 2 rfl) ?_
  refine lv_istore_n (lv' := [(3, .int wo), (0, .ref o0), (1, .int so), (2, .int wo)]) hx hb dX12_lastOf_1 rfl hl (by decide) rfl (fun ls hl => ?_)
  refine lv_iconst (v := 0) hx hb dX12_lastOf_2 (by decide) ?_
  refine lv_istore (lv' := [(4, .int 0), (3, .int wo), (0, .ref o0), (1, .int so), (2, .int wo)]) hx hb dX12_lastOf_3 hl (by decide) rfl (fun ls hl => ?_)
  have key57 : ∀ (n57 i1 : Nat), i1 + n57 = 20 → 0 ≤ i1 → ∀ (z38 : Int32), ∀ (H : Heap) (locs : List Loc), gH (dC, dI) kA (SHm q (wP wN wH wB wC wC wL wK) PI) G H → gF (dC, dI) SKm G ([] : List (Nat × Nat)) s.heap H → va_S A s.heap H locs → ∀ ls : Array Slot, lv_has ls 5 [(4, .int (nI i1)), (3, .int z38), (0, .ref o0), (1, .int so), (2, .int wo)] → W p l e (headSpec w_s_lastOf ({ frames := 0, cells := 0, slots := 0, locals := 0 })).room s m #[.ref o0, .int so, .int wo] below meth c H locs 0 0 (MQ below (va_Qi (fun (r : Int32) (u : Unit) => True) (fun (_ : Unit) (t : State) => gH (dC, dI) kA (SHm q (wP wN wH wB wC wC wL wK) PI) G t.heap ∧ gF (dC, dI) SKm G ([] : List (Nat × Nat)) s.heap t.heap) A) #[.ref o0, .int so, .int wo] s 0 0 A) (F0 m 5 ls []) := by
    intro n57
    induction n57 with
    | zero =>
      intro i1 hn57 hlo58 z38 H locs hT hF hS  ls hl
      obtain rfl : 20 = i1 := by omega
      refine lv_iload hx hb dX12_lastOf_5 (lv_at hl 0 rfl) ?_
      refine lv_aload_n hx hb dX12_lastOf_7 rfl (lv_at hl 2 rfl) ?_
      refine tw_get hx hb hts bF_X12 hown hK hT hr_o0 shm_0 rfl 18 (by decide) (ht_at hts 0 rfl) (fun _ h9 => h9) dX12_lastOf_8 (fun v9 m59 h9 => ?_)
      obtain ⟨rfl, hg60⟩ := h9 _ rfl
      refine lv_iconst (v := 0) hx hb dX12_lastOf_11 (by decide) ?_
      refine tw_iald (i := 0) hx hb hK hT hg60 shm_19 rfl (by unfold vp_in; decide) dX12_lastOf_12 (fun v9 m61 h9 => ?_)
      obtain ⟨x62, rfl, gx62, kx62⟩ := h9
      refine lv_icmp_ge (tgt := 41) hx hb dX12_lastOf_13 (by decide) (fun c63 => ?_) (fun c63 => (by exfalso; have q9 : ((20 : Nat) : Int) < x62.toInt := ti_nle c63 rfl (nI_toInt (by omega)); omega))
      have t64 : x62.toInt ≤ ((20 : Nat) : Int) := ti_le c63 rfl (nI_toInt (by omega))
      refine lv_iload_n hx hb dX12_lastOf_41 rfl (lv_at hl 1 rfl) ?_
      exact W.iret (v := z38) hx hb hr (fun t ht hW => ⟨⟨z38, (), rfl, (by exact trivial), by (try dsimp only); rw [ht]; exact ⟨hT, hF⟩⟩, hS.F ht⟩) hS.2.2 dX12_lastOf_42
    | succ n57 ih57 =>
      intro i1 hn57 hlo58 z38 H locs hT hF hS  ls hl
      have hlt64 : i1 < 20 := by omega
      refine lv_iload hx hb dX12_lastOf_5 (lv_at hl 0 rfl) ?_
      refine lv_aload_n hx hb dX12_lastOf_7 rfl (lv_at hl 2 rfl) ?_
      refine tw_get hx hb hts bF_X12 hown hK hT hr_o0 shm_0 rfl 18 (by decide) (ht_at hts 0 rfl) (fun _ h9 => h9) dX12_lastOf_8 (fun v9 m65 h9 => ?_)
      obtain ⟨rfl, hg66⟩ := h9 _ rfl
      refine lv_iconst (v := 0) hx hb dX12_lastOf_11 (by decide) ?_
      refine tw_iald (i := 0) hx hb hK hT hg66 shm_19 rfl (by unfold vp_in; decide) dX12_lastOf_12 (fun v9 m67 h9 => ?_)
      obtain ⟨x68, rfl, gx68, kx68⟩ := h9
      refine lv_icmp_ge (tgt := 41) hx hb dX12_lastOf_13 (by decide) (fun c69 => ?_) (fun c69 => ?_)
      · have t70 : x68.toInt ≤ ((i1 : Nat) : Int) := ti_le c69 rfl (nI_toInt (by omega))
        refine lv_iload_n hx hb dX12_lastOf_41 rfl (lv_at hl 1 rfl) ?_
        exact W.iret (v := z38) hx hb hr (fun t ht hW => ⟨⟨z38, (), rfl, (by exact trivial), by (try dsimp only); rw [ht]; exact ⟨hT, hF⟩⟩, hS.F ht⟩) hS.2.2 dX12_lastOf_42
      · have t71 : ((i1 : Nat) : Int) < x68.toInt := ti_nle c69 rfl (nI_toInt (by omega))
        refine lv_aload_n hx hb dX12_lastOf_16 rfl (lv_at hl 2 rfl) ?_
        refine tw_get hx hb hts bF_X12 hown hK hT hr_o0 shm_0 rfl 19 (by decide) (ht_at hts 1 rfl) (fun _ h9 => h9) dX12_lastOf_17 (fun v9 m72 h9 => ?_)
        obtain ⟨rfl, hg73⟩ := h9 _ rfl
        refine lv_iload hx hb dX12_lastOf_20 (lv_at hl 0 rfl) ?_
        refine tw_iald (i := (nI i1)) hx hb hK hT hg73 shm_20 rfl (vp_in_nI (by omega) (by decide)) dX12_lastOf_22 (fun v9 m74 h9 => ?_)
        obtain ⟨x75, rfl, gx75, kx75⟩ := h9
        refine lv_iload_n hx hb dX12_lastOf_23 rfl (lv_at hl 3 rfl) ?_
        refine lv_icmp_ne (tgt := 35) hx hb dX12_lastOf_24 (by decide) (fun c76 => ?_) (fun c76 => ?_)
        · have t77 : x75.toInt ≠ so.toInt := ti_ne c76 rfl rfl
          refine lv_iinc (v := nI (i1 + 1)) (lv' := [(4, .int (nI (i1 + 1))), (3, .int z38), (0, .ref o0), (1, .int so), (2, .int wo)]) hx hb dX12_lastOf_35 hl (k := 0) rfl (nI_add i1 1) (by decide) rfl (fun ls hl => ?_)
          refine lv_goto (tgt := 5) hx hb dX12_lastOf_38 (by decide) ?_
          exact ih57 (i1 + 1) (by omega) (by omega) z38 _ _ hT hF hS ls (lv_sub hl [0, 1, 2, 3, 4] rfl)
        · have t78 : x75.toInt = so.toInt := ti_eq c76 rfl rfl
          refine lv_aload_n hx hb dX12_lastOf_27 rfl (lv_at hl 2 rfl) ?_
          refine tw_get hx hb hts bF_X12 hown hK hT hr_o0 shm_0 rfl 20 (by decide) (ht_at hts 2 rfl) (fun _ h9 => h9) dX12_lastOf_28 (fun v9 m79 h9 => ?_)
          obtain ⟨rfl, hg80⟩ := h9 _ rfl
          refine lv_iload hx hb dX12_lastOf_31 (lv_at hl 0 rfl) ?_
          refine tw_iald (i := (nI i1)) hx hb hK hT hg80 shm_21 rfl (vp_in_nI (by omega) (by decide)) dX12_lastOf_33 (fun v9 m81 h9 => ?_)
          obtain ⟨x82, rfl, gx82, kx82⟩ := h9
          refine lv_istore_n (lv' := [(3, .int x82), (4, .int (nI i1)), (0, .ref o0), (1, .int so), (2, .int wo)]) hx hb dX12_lastOf_34 rfl hl (by decide) rfl (fun ls hl => ?_)
          refine lv_iinc (v := nI (i1 + 1)) (lv' := [(4, .int (nI (i1 + 1))), (3, .int x82), (0, .ref o0), (1, .int so), (2, .int wo)]) hx hb dX12_lastOf_35 hl (k := 1) rfl (nI_add i1 1) (by decide) rfl (fun ls hl => ?_)
          refine lv_goto (tgt := 5) hx hb dX12_lastOf_38 (by decide) ?_
          exact ih57 (i1 + 1) (by omega) (by omega) x82 _ _ hT hF hS ls (lv_sub hl [0, 1, 2, 3, 4] rfl)
  exact key57 (20 - 0) 0 (by omega) (Nat.le_refl _) wo _ _ hT hF hS ls (lv_sub hl [0, 1, 2, 3, 4] rfl)
def w_s_farmOf : List Cond := .code yX12_farmOf cX12_farmOf 3 (some .int) :: ([.fieldLink RX12 498 "SeaLandModel" "farms" "I", .fieldLink RX12 113 "SeaLandModel" "farmFrom" "[I", .fieldLink RX12 116 "SeaLandModel" "farmTo" "[I", .code yX12_isIn cX12_isIn 5 (some .boolean), .methodLink RX12 207 Lib.Math.min.name, .static Lib.Math.min.name, .initialized "java/lang/Math", .code Lib.Math.min.name Lib.Math.min.code 2 (some .int), .methodLink RX12 211 Lib.Math.max.name, .static Lib.Math.max.name, .code Lib.Math.max.name Lib.Math.max.code 2 (some .int), .code yX12_in cX12_in 3 (some .boolean), .methodLink RX12 197 yX12_in, .static yX12_in, .initialized RX12, .methodLink RX12 232 yX12_isIn, .static yX12_isIn] ++ bs)
set_option maxHeartbeats 4000000 in
set_option maxRecDepth 100000 in
theorem s_farmOf (l : Launch) (dC : Nat → ClassId) (dI : Nat → Nat → Nat) (kA : Nat → ClassId) (G : gT) (H0 : Heap) (q : Nat → Nat) (wN wH wB wC : Int) (wL wK : Nat → Prop) (PI : Nat → Int → Prop) (o0 : Nat) (sq : Int32) (hT : gH (dC, dI) kA (SHm q (wP wN wH wB wC wC wL wK) PI) G H0) (hr_o0 : G o0 = some 0) (hgn : 6500000 ≤ wN ∧ wN ≤ 400000000) (hgh : 0 ≤ wH ∧ wH ≤ 40000) (hgb : 0 ≤ wB ∧ wB ≤ 3850000) (hgc : 0 ≤ wC ∧ wC ≤ 30) : Met l yX12_farmOf w_s_farmOf ({ frames := 2, cells := 0, slots := 0, locals := 64 }) (va_Pc [.ref o0, .int sq] (fun U => U.heap = H0 ∧ va_K (dC, dI) vwCl (tyl kA) U ∧ EV (gA G H0.size) U U.heap)) (va_Qi (fun (r : Int32) (u : Unit) => (-1 ≤ r.toInt ∧ r.toInt ≤ 29)) (fun (_ : Unit) (t : State) => gH (dC, dI) kA (SHm q (wP wN wH wB wC wC wL wK) PI) G t.heap ∧ gF (dC, dI) SKm G ([] : List (Nat × Nat)) H0 t.heap) (gA G H0.size)) 0 0 (gA G H0.size) := by
  refine Met.ofW (cc := cX12_farmOf) (maxL := 3) (ret := (some .int)) (by decide) rfl ?_
  intro p e s m args below meth c s₁ B hml hv
  obtain ⟨rfl, hH0, hK, hE⟩ := hv
  have hx := B.exec
  have hb := B.bytes
  have hr := B.returns
  have hts := atoms_spec (ws := w_s_farmOf) B.pre
  have hown : s.vm.findClass RX12 = some m.cls := findClass_of_methodNamed B.named
  have hlocks := B.notSynchronized
  subst hH0
  generalize hAe : gA G s.heap.size = A at hE ⊢
  have hA : ∀ q : Nat, s.heap.size ≤ q → A q := fun q h => by rw [← hAe]; exact Or.inr h
  have hG := gA_of hAe
  have hS : va_S A s.heap s.heap [] := va_S.rf
  have hF : gF (dC, dI) SKm G ([] : List (Nat × Nat)) s.heap s.heap := gF.rf
  have hl := lv_entry ([.ref o0, .int sq]) (n := 3) (Nat.le_of_ble_eq_true rfl)
  rw [lg_entry_eq]
  generalize (lg_sl ([.ref o0, .int sq]) ++ List.replicate (3 - (lg_sl ([.ref o0, .int sq])).length) Slot.unset).toArray = ls at hl ⊢
  have hl : lv_has ls 3 [(0, .ref o0), (1, .int sq)] := hl
  refine lv_iconst (v := 0) hx hb dX12_farmOf_0 (by decide) ?_
  refine lv_istore_n (lv' := [(2, .int 0), (0, .ref o0), (1, .int sq)]) hx hb dX12_farmOf_1 rfl hl (by decide) rfl (fun ls hl => ?_)
  have key46 : ∀ (n46 i1 : Nat), i1 + n46 = 30 → 0 ≤ i1 → ∀ (H : Heap) (locs : List Loc), gH (dC, dI) kA (SHm q (wP wN wH wB wC wC wL wK) PI) G H → gF (dC, dI) SKm G ([] : List (Nat × Nat)) s.heap H → va_S A s.heap H locs → ∀ ls : Array Slot, lv_has ls 3 [(2, .int (nI i1)), (0, .ref o0), (1, .int sq)] → W p l e (headSpec w_s_farmOf ({ frames := 2, cells := 0, slots := 0, locals := 64 })).room s m #[.ref o0, .int sq] below meth c H locs 0 0 (MQ below (va_Qi (fun (r : Int32) (u : Unit) => (-1 ≤ r.toInt ∧ r.toInt ≤ 29)) (fun (_ : Unit) (t : State) => gH (dC, dI) kA (SHm q (wP wN wH wB wC wC wL wK) PI) G t.heap ∧ gF (dC, dI) SKm G ([] : List (Nat × Nat)) s.heap t.heap) A) #[.ref o0, .int sq] s 0 0 A) (F0 m 2 ls []) := by
    intro n46
    induction n46 with
    | zero =>
      intro i1 hn46 hlo47  H locs hT hF hS  ls hl
      obtain rfl : 30 = i1 := by omega
      refine lv_iload_n hx hb dX12_farmOf_2 rfl (lv_at hl 0 rfl) ?_
      refine lv_aload_n hx hb dX12_farmOf_3 rfl (lv_at hl 1 rfl) ?_
      refine tw_get hx hb hts bF_X12 hown hK hT hr_o0 shm_0 rfl 47 (by decide) (ht_at hts 0 rfl) (fun _ h9 => h9) dX12_farmOf_4 (fun v9 m48 h9 => ?_)
      obtain ⟨x49, rfl, gx49, kx49⟩ := h9 _ rfl
      refine lv_icmp_ge (tgt := 37) hx hb dX12_farmOf_7 (by decide) (fun c50 => ?_) (fun c50 => (by exfalso; have q9 : ((30 : Nat) : Int) < x49.toInt := ti_nle c50 rfl (nI_toInt (by omega)); omega))
      have t51 : x49.toInt ≤ ((30 : Nat) : Int) := ti_le c50 rfl (nI_toInt (by omega))
      refine lv_iconst (v := (-1)) hx hb dX12_farmOf_37 (by decide) ?_
      exact W.iret (v := (-1)) hx hb hr (fun t ht hW => ⟨⟨(-1), (), rfl, (by exact (rg_t (a := (-1)) (by decide) (by omega) (by omega))), by (try dsimp only); rw [ht]; exact ⟨hT, hF⟩⟩, hS.F ht⟩) hS.2.2 dX12_farmOf_38
    | succ n46 ih46 =>
      intro i1 hn46 hlo47  H locs hT hF hS  ls hl
      have hlt51 : i1 < 30 := by omega
      refine lv_iload_n hx hb dX12_farmOf_2 rfl (lv_at hl 0 rfl) ?_
      refine lv_aload_n hx hb dX12_farmOf_3 rfl (lv_at hl 1 rfl) ?_
      refine tw_get hx hb hts bF_X12 hown hK hT hr_o0 shm_0 rfl 47 (by decide) (ht_at hts 0 rfl) (fun _ h9 => h9) dX12_farmOf_4 (fun v9 m52 h9 => ?_)
      obtain ⟨x53, rfl, gx53, kx53⟩ := h9 _ rfl
      refine lv_icmp_ge (tgt := 37) hx hb dX12_farmOf_7 (by decide) (fun c54 => ?_) (fun c54 => ?_)
      · have t55 : x53.toInt ≤ ((i1 : Nat) : Int) := ti_le c54 rfl (nI_toInt (by omega))
        refine lv_iconst (v := (-1)) hx hb dX12_farmOf_37 (by decide) ?_
        exact W.iret (v := (-1)) hx hb hr (fun t ht hW => ⟨⟨(-1), (), rfl, (by exact (rg_t (a := (-1)) (by decide) (by omega) (by omega))), by (try dsimp only); rw [ht]; exact ⟨hT, hF⟩⟩, hS.F ht⟩) hS.2.2 dX12_farmOf_38
      · have t56 : ((i1 : Nat) : Int) < x53.toInt := ti_nle c54 rfl (nI_toInt (by omega))
        refine lv_iload_n hx hb dX12_farmOf_10 rfl (lv_at hl 2 rfl) ?_
        refine lv_aload_n hx hb dX12_farmOf_11 rfl (lv_at hl 1 rfl) ?_
        refine tw_get hx hb hts bF_X12 hown hK hT hr_o0 shm_0 rfl 43 (by decide) (ht_at hts 1 rfl) (fun _ h9 => h9) dX12_farmOf_12 (fun v9 m57 h9 => ?_)
        obtain ⟨rfl, hg58⟩ := h9 _ rfl
        refine lv_iload_n hx hb dX12_farmOf_15 rfl (lv_at hl 0 rfl) ?_
        refine tw_iald (i := (nI i1)) hx hb hK hT hg58 shm_44 rfl (vp_in_nI (by omega) (by decide)) dX12_farmOf_16 (fun v9 m59 h9 => ?_)
        obtain ⟨x60, rfl, gx60, kx60⟩ := h9
        refine lv_aload_n hx hb dX12_farmOf_17 rfl (lv_at hl 1 rfl) ?_
        refine tw_get hx hb hts bF_X12 hown hK hT hr_o0 shm_0 rfl 44 (by decide) (ht_at hts 2 rfl) (fun _ h9 => h9) dX12_farmOf_18 (fun v9 m61 h9 => ?_)
        obtain ⟨rfl, hg62⟩ := h9 _ rfl
        refine lv_iload_n hx hb dX12_farmOf_21 rfl (lv_at hl 0 rfl) ?_
        refine tw_iald (i := (nI i1)) hx hb hK hT hg62 shm_45 rfl (vp_in_nI (by omega) (by decide)) dX12_farmOf_22 (fun v9 m63 h9 => ?_)
        obtain ⟨x64, rfl, gx64, kx64⟩ := h9
        have hFc := gA_free hG hA hS
        refine va_calli (va_runS (As := [.int sq, .int x60, .int x64]) (rest := []) ⟨hx, hb, hml, hown, hts⟩ (s_isIn l dC dI kA G H q wN wH wB wC wL wK PI sq x60 x64 hT (by omega) (by omega) (by omega) (by omega)) (va_cwS 3 hts (goodIn_app (goodIn_r _ [16, 17, 15] (by decide +kernel) (by decide +kernel)) (goodIn_ca (goodIn_r _ [4, 5, 6, 7, 8, 9, 10, 11, 12, 13, 14, 15] (by decide +kernel) (by decide +kernel)) (bs_in _ _))) rfl rfl rfl (by decide +kernel) ⟨(Nat.le_of_ble_eq_true rfl), (Nat.le_of_ble_eq_true rfl)⟩) ⟨fun a U g mk q => by obtain ⟨q0, q1, qK, qE⟩ := q; exact ⟨q0, q1, va_K.moved (u := U) (U := U.calling g mk a) (Vm.Alike.refl U.vm) qK, EV.blind g mk a qE⟩, fun U hU hW => ⟨rfl, hU, va_K.moved hW.alike hK, hE.call hS hFc hU hW⟩⟩ rfl rfl hl.1 rfl (lv_room (Nat.le_of_ble_eq_true rfl)) dX12_farmOf_23 ⟨(Nat.le_of_ble_eq_true rfl), (Nat.le_of_ble_eq_true rfl)⟩) hS (fun q _ h => hFc q h) hFc (fun r65 u t H locs ht hvm hw66 hB _ _ hS => ?_)
        obtain ⟨hT, hF1⟩ := hB
        rw [ht] at hT hF1
        have m67 := (hF1.fld hr_o0 skm_0 (k := 47) (by decide) (by decide)).trans m52
        have m68 := (el_kept (hF1.arr hg58 skm_44 (by decide))).trans m59
        have m69 := (el_kept (hF1.arr hg62 skm_45 (by decide))).trans m63
        have hF := hF.more hF1 (by decide)
        try dsimp only at hw66
        have h70 := hw66
        refine lv_if_eq (tgt := 31) hx hb dX12_farmOf_26 (by decide) (fun c71 => ?_) (fun c71 => ?_)
        · have t72 : r65.toInt = 0 := ti_eq c71 rfl (by decide)
          refine lv_iinc (v := nI (i1 + 1)) (lv' := [(2, .int (nI (i1 + 1))), (0, .ref o0), (1, .int sq)]) hx hb dX12_farmOf_31 hl (k := 0) rfl (nI_add i1 1) (by decide) rfl (fun ls hl => ?_)
          refine lv_goto (tgt := 2) hx hb dX12_farmOf_34 (by decide) ?_
          exact ih46 (i1 + 1) (by omega) (by omega) _ _ hT hF hS ls (lv_sub hl [0, 1, 2] rfl)
        · have t73 : r65.toInt ≠ 0 := ti_ne c71 rfl (by decide)
          refine lv_iload_n hx hb dX12_farmOf_29 rfl (lv_at hl 0 rfl) ?_
          exact W.iret (v := nI i1) hx hb hr (fun t ht hW => ⟨⟨nI i1, (), rfl, (by exact (rg_t (a := ((i1 : Nat) : Int)) (nI_toInt (by omega)) (by omega) (by omega))), by (try dsimp only); rw [ht]; exact ⟨hT, hF⟩⟩, hS.F ht⟩) hS.2.2 dX12_farmOf_30
  exact key46 (30 - 0) 0 (by omega) (Nat.le_refl _) _ _ hT hF hS ls (lv_sub hl [0, 1, 2] rfl)
def w_s_hasSpan : List Cond := .code yX12_hasSpan cX12_hasSpan 2 (some .boolean) :: ([.fieldLink RX12 155 "SeaLandModel" "isMeasured" "[Z", .fieldLink RX12 149 "SeaLandModel" "kLow" "[I", .fieldLink RX12 152 "SeaLandModel" "kHigh" "[I"] ++ bs)
set_option maxHeartbeats 4000000 in
set_option maxRecDepth 100000 in
theorem s_hasSpan (l : Launch) (dC : Nat → ClassId) (dI : Nat → Nat → Nat) (kA : Nat → ClassId) (G : gT) (H0 : Heap) (q : Nat → Nat) (wN wH wB wC : Int) (wL wK : Nat → Prop) (PI : Nat → Int → Prop) (o0 : Nat) (ko : Int32) (hT : gH (dC, dI) kA (SHm q (wP wN wH wB wC wC wL wK) PI) G H0) (hr_o0 : G o0 = some 0) (hq0 : 0 ≤ ko.toInt ∧ ko.toInt ≤ 39) (hgn : 6500000 ≤ wN ∧ wN ≤ 400000000) (hgh : 0 ≤ wH ∧ wH ≤ 40000) (hgb : 0 ≤ wB ∧ wB ≤ 3850000) (hgc : 0 ≤ wC ∧ wC ≤ 30) : Met l yX12_hasSpan w_s_hasSpan ({ frames := 0, cells := 0, slots := 0, locals := 0 }) (va_Pc [.ref o0, .int ko] (fun U => U.heap = H0 ∧ va_K (dC, dI) vwCl (tyl kA) U ∧ EV (gA G H0.size) U U.heap)) (va_Qi (fun (r : Int32) (u : Unit) => (0 ≤ r.toInt ∧ r.toInt ≤ 1)) (fun (_ : Unit) (t : State) => gH (dC, dI) kA (SHm q (wP wN wH wB wC wC wL wK) PI) G t.heap ∧ gF (dC, dI) SKm G ([] : List (Nat × Nat)) H0 t.heap) (gA G H0.size)) 0 0 (gA G H0.size) := by
  refine Met.ofW (cc := cX12_hasSpan) (maxL := 2) (ret := (some .boolean)) (by decide) rfl ?_
  intro p e s m args below meth c s₁ B hml hv
  obtain ⟨rfl, hH0, hK, hE⟩ := hv
  have hx := B.exec
  have hb := B.bytes
  have hr := B.returns
  have hts := atoms_spec (ws := w_s_hasSpan) B.pre
  have hown : s.vm.findClass RX12 = some m.cls := findClass_of_methodNamed B.named
  have hlocks := B.notSynchronized
  subst hH0
  generalize hAe : gA G s.heap.size = A at hE ⊢
  have hA : ∀ q : Nat, s.heap.size ≤ q → A q := fun q h => by rw [← hAe]; exact Or.inr h
  have hG := gA_of hAe
  have hS : va_S A s.heap s.heap [] := va_S.rf
  have hF : gF (dC, dI) SKm G ([] : List (Nat × Nat)) s.heap s.heap := gF.rf
  have hl := lv_entry ([.ref o0, .int ko]) (n := 2) (Nat.le_of_ble_eq_true rfl)
  rw [lg_entry_eq]
  generalize (lg_sl ([.ref o0, .int ko]) ++ List.replicate (2 - (lg_sl ([.ref o0, .int ko])).length) Slot.unset).toArray = ls at hl ⊢
  have hl : lv_has ls 2 [(0, .ref o0), (1, .int ko)] := hl
  refine lv_aload_n hx hb dX12_hasSpan_0 rfl (lv_at hl 0 rfl) ?_
  refine tw_get hx hb hts bF_X12 hown hK hT hr_o0 shm_0 rfl 62 (by decide) (ht_at hts 0 rfl) (fun _ h9 => h9) dX12_hasSpan_1 (fun v9 m1 h9 => ?_)
  obtain ⟨rfl, hg2⟩ := h9 _ rfl
  refine lv_iload_n hx hb dX12_hasSpan_4 rfl (lv_at hl 1 rfl) ?_
  refine tw_zald (i := ko) hx hb hK hT hg2 shm_63 rfl (vin_t (a := ko.toInt) rfl (by omega) (by omega)) dX12_hasSpan_5 (fun v9 m3 h9 => ?_)
  obtain ⟨x4, rfl, gx4, kx4⟩ := h9
  refine lv_if_eq (tgt := 28) hx hb dX12_hasSpan_6 (by decide) (fun c5 => ?_) (fun c5 => ?_)
  · have t6 : x4.toInt = 0 := ti_eq c5 rfl (by decide)
    refine lv_iconst (v := 0) hx hb dX12_hasSpan_28 (by decide) ?_
    exact W.zret (v := 0) hx hb hr (by decide) (fun t ht hW => ⟨⟨0, (), rfl, (by exact (rg_t (a := 0) (by decide) (by omega) (by omega))), by (try dsimp only); rw [ht]; exact ⟨hT, hF⟩⟩, hS.F ht⟩) hS.2.2 dX12_hasSpan_29
  · have t7 : x4.toInt ≠ 0 := ti_ne c5 rfl (by decide)
    refine lv_aload_n hx hb dX12_hasSpan_9 rfl (lv_at hl 0 rfl) ?_
    refine tw_get hx hb hts bF_X12 hown hK hT hr_o0 shm_0 rfl 60 (by decide) (ht_at hts 1 rfl) (fun _ h9 => h9) dX12_hasSpan_10 (fun v9 m8 h9 => ?_)
    obtain ⟨rfl, hg9⟩ := h9 _ rfl
    refine lv_iload_n hx hb dX12_hasSpan_13 rfl (lv_at hl 1 rfl) ?_
    refine tw_iald (i := ko) hx hb hK hT hg9 shm_61 rfl (vin_t (a := ko.toInt) rfl (by omega) (by omega)) dX12_hasSpan_14 (fun v9 m10 h9 => ?_)
    obtain ⟨x11, rfl, gx11, kx11⟩ := h9
    refine lv_aload_n hx hb dX12_hasSpan_15 rfl (lv_at hl 0 rfl) ?_
    refine tw_get hx hb hts bF_X12 hown hK hT hr_o0 shm_0 rfl 61 (by decide) (ht_at hts 2 rfl) (fun _ h9 => h9) dX12_hasSpan_16 (fun v9 m12 h9 => ?_)
    obtain ⟨rfl, hg13⟩ := h9 _ rfl
    refine lv_iload_n hx hb dX12_hasSpan_19 rfl (lv_at hl 1 rfl) ?_
    refine tw_iald (i := ko) hx hb hK hT hg13 shm_62 rfl (vin_t (a := ko.toInt) rfl (by omega) (by omega)) dX12_hasSpan_20 (fun v9 m14 h9 => ?_)
    obtain ⟨x15, rfl, gx15, kx15⟩ := h9
    refine lv_icmp_gt (tgt := 28) hx hb dX12_hasSpan_21 (by decide) (fun c16 => ?_) (fun c16 => ?_)
    · have t17 : x15.toInt < x11.toInt := ti_lt c16 rfl rfl
      refine lv_iconst (v := 0) hx hb dX12_hasSpan_28 (by decide) ?_
      exact W.zret (v := 0) hx hb hr (by decide) (fun t ht hW => ⟨⟨0, (), rfl, (by exact (rg_t (a := 0) (by decide) (by omega) (by omega))), by (try dsimp only); rw [ht]; exact ⟨hT, hF⟩⟩, hS.F ht⟩) hS.2.2 dX12_hasSpan_29
    · have t18 : x11.toInt ≤ x15.toInt := ti_nlt c16 rfl rfl
      refine lv_iconst (v := 1) hx hb dX12_hasSpan_24 (by decide) ?_
      refine lv_goto (tgt := 29) hx hb dX12_hasSpan_25 (by decide) ?_
      exact W.zret (v := 1) hx hb hr (by decide) (fun t ht hW => ⟨⟨1, (), rfl, (by exact (rg_t (a := 1) (by decide) (by omega) (by omega))), by (try dsimp only); rw [ht]; exact ⟨hT, hF⟩⟩, hS.F ht⟩) hS.2.2 dX12_hasSpan_29
def w_s_acres : List Cond := .code yX12_acres cX12_acres 4 (some .int) :: ([.fieldLink RX12 101 "SeaLandModel" "holds" "[I", .fieldLink RX12 113 "SeaLandModel" "farmFrom" "[I", .fieldLink RX12 116 "SeaLandModel" "farmTo" "[I", .code yX12_isIn cX12_isIn 5 (some .boolean), .methodLink RX12 207 Lib.Math.min.name, .static Lib.Math.min.name, .initialized "java/lang/Math", .code Lib.Math.min.name Lib.Math.min.code 2 (some .int), .methodLink RX12 211 Lib.Math.max.name, .static Lib.Math.max.name, .code Lib.Math.max.name Lib.Math.max.code 2 (some .int), .code yX12_in cX12_in 3 (some .boolean), .methodLink RX12 197 yX12_in, .static yX12_in, .initialized RX12, .methodLink RX12 232 yX12_isIn, .static yX12_isIn] ++ bs)
set_option maxHeartbeats 4000000 in
set_option maxRecDepth 100000 in
theorem s_acres (l : Launch) (dC : Nat → ClassId) (dI : Nat → Nat → Nat) (kA : Nat → ClassId) (G : gT) (H0 : Heap) (q : Nat → Nat) (wN wH wB wC : Int) (wL wK : Nat → Prop) (PI : Nat → Int → Prop) (o0 : Nat) (pe : Int32) (hT : gH (dC, dI) kA (SHm q (wP wN wH wB wC wC wL wK) PI) G H0) (hr_o0 : G o0 = some 0) (hq0 : 0 ≤ pe.toInt ∧ pe.toInt ≤ 59) (hgn : 6500000 ≤ wN ∧ wN ≤ 400000000) (hgh : 0 ≤ wH ∧ wH ≤ 40000) (hgb : 0 ≤ wB ∧ wB ≤ 3850000) (hgc : 0 ≤ wC ∧ wC ≤ 30) : Met l yX12_acres w_s_acres ({ frames := 2, cells := 0, slots := 0, locals := 64 }) (va_Pc [.ref o0, .int pe] (fun U => U.heap = H0 ∧ va_K (dC, dI) vwCl (tyl kA) U ∧ EV (gA G H0.size) U U.heap)) (va_Qi (fun (r : Int32) (u : Unit) => True) (fun (_ : Unit) (t : State) => gH (dC, dI) kA (SHm q (wP wN wH wB wC wC wL wK) PI) G t.heap ∧ gF (dC, dI) SKm G ([] : List (Nat × Nat)) H0 t.heap) (gA G H0.size)) 0 0 (gA G H0.size) := by
  refine Met.ofW (cc := cX12_acres) (maxL := 4) (ret := (some .int)) (by decide) rfl ?_
  intro p e s m args below meth c s₁ B hml hv
  obtain ⟨rfl, hH0, hK, hE⟩ := hv
  have hx := B.exec
  have hb := B.bytes
  have hr := B.returns
  have hts := atoms_spec (ws := w_s_acres) B.pre
  have hown : s.vm.findClass RX12 = some m.cls := findClass_of_methodNamed B.named
  have hlocks := B.notSynchronized
  subst hH0
  generalize hAe : gA G s.heap.size = A at hE ⊢
  have hA : ∀ q : Nat, s.heap.size ≤ q → A q := fun q h => by rw [← hAe]; exact Or.inr h
  have hG := gA_of hAe
  have hS : va_S A s.heap s.heap [] := va_S.rf
  have hF : gF (dC, dI) SKm G ([] : List (Nat × Nat)) s.heap s.heap := gF.rf
  have hl := lv_entry ([.ref o0, .int pe]) (n := 4) (Nat.le_of_ble_eq_true rfl)
  rw [lg_entry_eq]
  generalize (lg_sl ([.ref o0, .int pe]) ++ List.replicate (4 - (lg_sl ([.ref o0, .int pe])).length) Slot.unset).toArray = ls at hl ⊢
  have hl : lv_has ls 4 [(0, .ref o0), (1, .int pe)] := hl
  refine lv_iconst (v := 0) hx hb dX12_acres_0 (by decide) ?_
  refine lv_istore_n (lv' := [(2, .int 0), (0, .ref o0), (1, .int pe)]) hx hb dX12_acres_1 rfl hl (by decide) rfl (fun ls hl => ?_)
  refine lv_iconst (v := 0) hx hb dX12_acres_2 (by decide) ?_
  refine lv_istore_n (lv' := [(3, .int 0), (2, .int 0), (0, .ref o0), (1, .int pe)]) hx hb dX12_acres_3 rfl hl (by decide) rfl (fun ls hl => ?_)
  have key714 : ∀ (n714 i1 : Nat), i1 + n714 = 96 → 0 ≤ i1 → ∀ (z675 : Int32), ∀ (H : Heap) (locs : List Loc), gH (dC, dI) kA (SHm q (wP wN wH wB wC wC wL wK) PI) G H → gF (dC, dI) SKm G ([] : List (Nat × Nat)) s.heap H → va_S A s.heap H locs → ∀ ls : Array Slot, lv_has ls 4 [(3, .int (nI i1)), (2, .int z675), (0, .ref o0), (1, .int pe)] → W p l e (headSpec w_s_acres ({ frames := 2, cells := 0, slots := 0, locals := 64 })).room s m #[.ref o0, .int pe] below meth c H locs 0 0 (MQ below (va_Qi (fun (r : Int32) (u : Unit) => True) (fun (_ : Unit) (t : State) => gH (dC, dI) kA (SHm q (wP wN wH wB wC wC wL wK) PI) G t.heap ∧ gF (dC, dI) SKm G ([] : List (Nat × Nat)) s.heap t.heap) A) #[.ref o0, .int pe] s 0 0 A) (F0 m 4 ls []) := by
    intro n714
    induction n714 with
    | zero =>
      intro i1 hn714 hlo715 z675 H locs hT hF hS  ls hl
      obtain rfl : 96 = i1 := by omega
      refine lv_iload_n hx hb dX12_acres_4 rfl (lv_at hl 0 rfl) ?_
      refine lv_bipush (v := 96) hx hb dX12_acres_5 (by decide) ?_
      refine lv_icmp_ge (tgt := 62) hx hb dX12_acres_7 (by decide) (fun c716 => ?_) (fun c716 => (by exfalso; have q9 : ((96 : Nat) : Int) < 96 := ti_nle c716 (by decide) (nI_toInt (by omega)); omega))
      have t717 : 96 ≤ ((96 : Nat) : Int) := ti_le c716 (by decide) (nI_toInt (by omega))
      refine lv_iload_n hx hb dX12_acres_62 rfl (lv_at hl 1 rfl) ?_
      exact W.iret (v := z675) hx hb hr (fun t ht hW => ⟨⟨z675, (), rfl, (by exact trivial), by (try dsimp only); rw [ht]; exact ⟨hT, hF⟩⟩, hS.F ht⟩) hS.2.2 dX12_acres_63
    | succ n714 ih714 =>
      intro i1 hn714 hlo715 z675 H locs hT hF hS  ls hl
      have hlt717 : i1 < 96 := by omega
      refine lv_iload_n hx hb dX12_acres_4 rfl (lv_at hl 0 rfl) ?_
      refine lv_bipush (v := 96) hx hb dX12_acres_5 (by decide) ?_
      refine lv_icmp_ge (tgt := 62) hx hb dX12_acres_7 (by decide) (fun c718 => (by exfalso; have q9 : 96 ≤ ((i1 : Nat) : Int) := ti_le c718 (by decide) (nI_toInt (by omega)); omega)) (fun c718 => ?_)
      have t719 : ((i1 : Nat) : Int) < 96 := ti_nle c718 (by decide) (nI_toInt (by omega))
      refine lv_aload_n hx hb dX12_acres_10 rfl (lv_at hl 2 rfl) ?_
      refine tw_get hx hb hts bF_X12 hown hK hT hr_o0 shm_0 rfl 38 (by decide) (ht_at hts 0 rfl) (fun _ h9 => h9) dX12_acres_11 (fun v9 m720 h9 => ?_)
      obtain ⟨rfl, hg721⟩ := h9 _ rfl
      refine lv_iload_n hx hb dX12_acres_14 rfl (lv_at hl 3 rfl) ?_
      refine tw_iald (i := pe) hx hb hK hT hg721 shm_39 rfl (vin_t (a := pe.toInt) rfl (by omega) (by omega)) dX12_acres_15 (fun v9 m722 h9 => ?_)
      obtain ⟨x723, rfl, gx723, kx723⟩ := h9
      refine lv_if_lt (tgt := 62) hx hb dX12_acres_16 (by decide) (fun c724 => ?_) (fun c724 => ?_)
      · have t725 : x723.toInt < 0 := ti_lt c724 rfl (by decide)
        refine lv_iload_n hx hb dX12_acres_62 rfl (lv_at hl 1 rfl) ?_
        exact W.iret (v := z675) hx hb hr (fun t ht hW => ⟨⟨z675, (), rfl, (by exact trivial), by (try dsimp only); rw [ht]; exact ⟨hT, hF⟩⟩, hS.F ht⟩) hS.2.2 dX12_acres_63
      · have t726 : 0 ≤ x723.toInt := ti_nlt c724 rfl (by decide)
        refine lv_iload_n hx hb dX12_acres_19 rfl (lv_at hl 1 rfl) ?_
        refine lv_iload_n hx hb dX12_acres_20 rfl (lv_at hl 0 rfl) ?_
        refine lv_aload_n hx hb dX12_acres_21 rfl (lv_at hl 2 rfl) ?_
        refine tw_get hx hb hts bF_X12 hown hK hT hr_o0 shm_0 rfl 43 (by decide) (ht_at hts 1 rfl) (fun _ h9 => h9) dX12_acres_22 (fun v9 m727 h9 => ?_)
        obtain ⟨rfl, hg728⟩ := h9 _ rfl
        refine lv_aload_n hx hb dX12_acres_25 rfl (lv_at hl 2 rfl) ?_
        refine tw_get hx hb hts bF_X12 hown hK hT hr_o0 shm_0 rfl 38 (by decide) (ht_at hts 0 rfl) (fun _ h9 => h9) dX12_acres_26 (fun v9 m729 h9 => ?_)
        obtain ⟨rfl, hg730⟩ := h9 _ rfl
        refine lv_iload_n hx hb dX12_acres_29 rfl (lv_at hl 3 rfl) ?_
        refine tw_iald (i := pe) hx hb hK hT hg721 shm_39 rfl (vin_t (a := pe.toInt) rfl (by omega) (by omega)) dX12_acres_30 (fun v9 m731 h9 => ?_)
        obtain ⟨x732, rfl, gx732, kx732⟩ := h9
        obtain rfl : x723 = x732 := (el_same m731 m722 rfl).symm
        refine tw_iald (i := x723) hx hb hK hT hg728 shm_44 rfl (vin_t (a := x723.toInt) rfl (by omega) (by omega)) dX12_acres_31 (fun v9 m733 h9 => ?_)
        obtain ⟨x734, rfl, gx734, kx734⟩ := h9
        refine lv_aload_n hx hb dX12_acres_32 rfl (lv_at hl 2 rfl) ?_
        refine tw_get hx hb hts bF_X12 hown hK hT hr_o0 shm_0 rfl 44 (by decide) (ht_at hts 2 rfl) (fun _ h9 => h9) dX12_acres_33 (fun v9 m735 h9 => ?_)
        obtain ⟨rfl, hg736⟩ := h9 _ rfl
        refine lv_aload_n hx hb dX12_acres_36 rfl (lv_at hl 2 rfl) ?_
        refine tw_get hx hb hts bF_X12 hown hK hT hr_o0 shm_0 rfl 38 (by decide) (ht_at hts 0 rfl) (fun _ h9 => h9) dX12_acres_37 (fun v9 m737 h9 => ?_)
        obtain ⟨rfl, hg738⟩ := h9 _ rfl
        refine lv_iload_n hx hb dX12_acres_40 rfl (lv_at hl 3 rfl) ?_
        refine tw_iald (i := pe) hx hb hK hT hg721 shm_39 rfl (vin_t (a := pe.toInt) rfl (by omega) (by omega)) dX12_acres_41 (fun v9 m739 h9 => ?_)
        obtain ⟨x740, rfl, gx740, kx740⟩ := h9
        obtain rfl : x723 = x740 := (el_same m739 m722 rfl).symm
        refine tw_iald (i := x723) hx hb hK hT hg736 shm_45 rfl (vin_t (a := x723.toInt) rfl (by omega) (by omega)) dX12_acres_42 (fun v9 m741 h9 => ?_)
        obtain ⟨x742, rfl, gx742, kx742⟩ := h9
        have hFc := gA_free hG hA hS
        refine va_calli (va_runS (As := [.int (nI i1), .int x734, .int x742]) (rest := [.int z675]) ⟨hx, hb, hml, hown, hts⟩ (s_isIn l dC dI kA G H q wN wH wB wC wL wK PI (nI i1) x734 x742 hT (by omega) (by omega) (by omega) (by omega)) (va_cwS 3 hts (goodIn_app (goodIn_r _ [16, 17, 15] (by decide +kernel) (by decide +kernel)) (goodIn_ca (goodIn_r _ [4, 5, 6, 7, 8, 9, 10, 11, 12, 13, 14, 15] (by decide +kernel) (by decide +kernel)) (bs_in _ _))) rfl rfl rfl (by decide +kernel) ⟨(Nat.le_of_ble_eq_true rfl), (Nat.le_of_ble_eq_true rfl)⟩) ⟨fun a U g mk q => by obtain ⟨q0, q1, qK, qE⟩ := q; exact ⟨q0, q1, va_K.moved (u := U) (U := U.calling g mk a) (Vm.Alike.refl U.vm) qK, EV.blind g mk a qE⟩, fun U hU hW => ⟨rfl, hU, va_K.moved hW.alike hK, hE.call hS hFc hU hW⟩⟩ rfl rfl hl.1 rfl (lv_room (Nat.le_of_ble_eq_true rfl)) dX12_acres_43 ⟨(Nat.le_of_ble_eq_true rfl), (Nat.le_of_ble_eq_true rfl)⟩) hS (fun q _ h => hFc q h) hFc (fun r743 u t H locs ht hvm hw744 hB _ _ hS => ?_)
        obtain ⟨hT, hF1⟩ := hB
        rw [ht] at hT hF1
        have m745 := (el_kept (hF1.arr hg721 skm_39 (by decide))).trans m722
        have m746 := (el_kept (hF1.arr hg728 skm_44 (by decide))).trans m733
        have m747 := (el_kept (hF1.arr hg736 skm_45 (by decide))).trans m741
        have hF := hF.more hF1 (by decide)
        try dsimp only at hw744
        have h748 := hw744
        refine lv_if_eq (tgt := 53) hx hb dX12_acres_46 (by decide) (fun c749 => ?_) (fun c749 => ?_)
        · have t750 : r743.toInt = 0 := ti_eq c749 rfl (by decide)
          refine lv_iconst (v := 0) hx hb dX12_acres_53 (by decide) ?_
          refine lv_iadd hx hb dX12_acres_54 ?_
          refine lv_topi (fun x751 ex751 => ?_)
          have t752 : -2147483648 ≤ z675.toInt ∧ z675.toInt ≤ 2147483647 := ti_all z675
          have t753 : x751.toInt = z675.toInt + 0 := ti_add ex751 rfl (by decide) (by omega) (by omega)
          refine lv_istore_n (lv' := [(2, .int x751), (3, .int (nI i1)), (0, .ref o0), (1, .int pe)]) hx hb dX12_acres_55 rfl hl (by decide) rfl (fun ls hl => ?_)
          refine lv_iinc (v := nI (i1 + 1)) (lv' := [(3, .int (nI (i1 + 1))), (2, .int x751), (0, .ref o0), (1, .int pe)]) hx hb dX12_acres_56 hl (k := 1) rfl (nI_add i1 1) (by decide) rfl (fun ls hl => ?_)
          refine lv_goto (tgt := 4) hx hb dX12_acres_59 (by decide) ?_
          exact ih714 (i1 + 1) (by omega) (by omega) x751 _ _ hT hF hS ls (lv_sub hl [0, 1, 2, 3] rfl)
        · have t754 : r743.toInt ≠ 0 := ti_ne c749 rfl (by decide)
          refine lv_iconst (v := 1) hx hb dX12_acres_49 (by decide) ?_
          refine lv_goto (tgt := 54) hx hb dX12_acres_50 (by decide) ?_
          refine lv_iadd hx hb dX12_acres_54 ?_
          refine lv_topi (fun x755 ex755 => ?_)
          refine lv_istore_n (lv' := [(2, .int x755), (3, .int (nI i1)), (0, .ref o0), (1, .int pe)]) hx hb dX12_acres_55 rfl hl (by decide) rfl (fun ls hl => ?_)
          refine lv_iinc (v := nI (i1 + 1)) (lv' := [(3, .int (nI (i1 + 1))), (2, .int x755), (0, .ref o0), (1, .int pe)]) hx hb dX12_acres_56 hl (k := 1) rfl (nI_add i1 1) (by decide) rfl (fun ls hl => ?_)
          refine lv_goto (tgt := 4) hx hb dX12_acres_59 (by decide) ?_
          exact ih714 (i1 + 1) (by omega) (by omega) x755 _ _ hT hF hS ls (lv_sub hl [0, 1, 2, 3] rfl)
  exact key714 (96 - 0) 0 (by omega) (Nat.le_refl _) 0 _ _ hT hF hS ls (lv_sub hl [0, 1, 2, 3] rfl)
def w_s_near : List Cond := .code yX12_near cX12_near 5 (some .int) :: ([.fieldLink RX12 101 "SeaLandModel" "holds" "[I", .fieldLink RX12 113 "SeaLandModel" "farmFrom" "[I", .fieldLink RX12 116 "SeaLandModel" "farmTo" "[I", .code yX12_isIn cX12_isIn 5 (some .boolean), .methodLink RX12 207 Lib.Math.min.name, .static Lib.Math.min.name, .initialized "java/lang/Math", .code Lib.Math.min.name Lib.Math.min.code 2 (some .int), .methodLink RX12 211 Lib.Math.max.name, .static Lib.Math.max.name, .code Lib.Math.max.name Lib.Math.max.code 2 (some .int), .code yX12_in cX12_in 3 (some .boolean), .methodLink RX12 197 yX12_in, .static yX12_in, .initialized RX12, .methodLink RX12 232 yX12_isIn, .static yX12_isIn, .fieldLink RX12 9 "SeaLandModel" "world" "[I", .code yX12_isDike cX12_isDike 2 (some .boolean), .code yX12_of cX12_of 3 (some .int), .code yX12_at cX12_at 2 (some .int), .methodLink RX12 214 yX12_at, .static yX12_at, .methodLink RX12 217 yX12_of, .instanceMethod yX12_of, .selects RX12 yX12_of yX12_of, .methodLink RX12 272 yX12_isDike, .instanceMethod yX12_isDike, .selects RX12 yX12_isDike yX12_isDike, .code yX12_steps cX12_steps 2 (some .int), .methodLink RX12 201 Lib.Math.abs.name, .static Lib.Math.abs.name, .code Lib.Math.abs.name Lib.Math.abs.code 1 (some .int), .methodLink RX12 262 yX12_steps, .static yX12_steps] ++ bs)
set_option maxHeartbeats 4000000 in
set_option maxRecDepth 100000 in
theorem s_near (l : Launch) (dC : Nat → ClassId) (dI : Nat → Nat → Nat) (kA : Nat → ClassId) (G : gT) (H0 : Heap) (q : Nat → Nat) (wN wH wB wC : Int) (wL wK : Nat → Prop) (PI : Nat → Int → Prop) (o0 : Nat) (pe : Int32) (hT : gH (dC, dI) kA (SHm q (wP wN wH wB wC wC wL wK) PI) G H0) (hr_o0 : G o0 = some 0) (hq0 : 0 ≤ pe.toInt ∧ pe.toInt ≤ 59) (hgn : 6500000 ≤ wN ∧ wN ≤ 400000000) (hgh : 0 ≤ wH ∧ wH ≤ 40000) (hgb : 0 ≤ wB ∧ wB ≤ 3850000) (hgc : 0 ≤ wC ∧ wC ≤ 30) : Met l yX12_near w_s_near ({ frames := 3, cells := 0, slots := 0, locals := 64 }) (va_Pc [.ref o0, .int pe] (fun U => U.heap = H0 ∧ va_K (dC, dI) vwCl (tyl kA) U ∧ EV (gA G H0.size) U U.heap)) (va_Qi (fun (r : Int32) (u : Unit) => (-2147483648 ≤ r.toInt ∧ r.toInt ≤ 99)) (fun (_ : Unit) (t : State) => gH (dC, dI) kA (SHm q (wP wN wH wB wC wC wL wK) PI) G t.heap ∧ gF (dC, dI) SKm G ([] : List (Nat × Nat)) H0 t.heap) (gA G H0.size)) 0 0 (gA G H0.size) := by
  refine Met.ofW (cc := cX12_near) (maxL := 5) (ret := (some .int)) (by decide) rfl ?_
  intro p e s m args below meth c s₁ B hml hv
  obtain ⟨rfl, hH0, hK, hE⟩ := hv
  have hx := B.exec
  have hb := B.bytes
  have hr := B.returns
  have hts := atoms_spec (ws := w_s_near) B.pre
  have hown : s.vm.findClass RX12 = some m.cls := findClass_of_methodNamed B.named
  have hlocks := B.notSynchronized
  subst hH0
  generalize hAe : gA G s.heap.size = A at hE ⊢
  have hA : ∀ q : Nat, s.heap.size ≤ q → A q := fun q h => by rw [← hAe]; exact Or.inr h
  have hG := gA_of hAe
  have hS : va_S A s.heap s.heap [] := va_S.rf
  have hF : gF (dC, dI) SKm G ([] : List (Nat × Nat)) s.heap s.heap := gF.rf
  have hl := lv_entry ([.ref o0, .int pe]) (n := 5) (Nat.le_of_ble_eq_true rfl)
  rw [lg_entry_eq]
  generalize (lg_sl ([.ref o0, .int pe]) ++ List.replicate (5 - (lg_sl ([.ref o0, .int pe])).length) Slot.unset).toArray = ls at hl ⊢
  have hl : lv_has ls 5 [(0, .ref o0), (1, .int pe)] := hl
  refine lv_bipush (v := 99) hx hb dX12_near_0 (by decide) ?_
  refine lv_istore_n (lv' := [(2, .int 99), (0, .ref o0), (1, .int pe)]) hx hb dX12_near_2 rfl hl (by decide) rfl (fun ls hl => ?_)
  refine lv_iconst (v := 0) hx hb dX12_near_3 (by decide) ?_
  refine lv_istore_n (lv' := [(3, .int 0), (2, .int 99), (0, .ref o0), (1, .int pe)]) hx hb dX12_near_4 rfl hl (by decide) rfl (fun ls hl => ?_)
  have key611 : ∀ (n611 i1 : Nat), i1 + n611 = 96 → 0 ≤ i1 → ∀ (z407 : Int32), ((-2147483648 ≤ z407.toInt ∧ z407.toInt ≤ 99)) → ∀ (H : Heap) (locs : List Loc), gH (dC, dI) kA (SHm q (wP wN wH wB wC wC wL wK) PI) G H → gF (dC, dI) SKm G ([] : List (Nat × Nat)) s.heap H → va_S A s.heap H locs → ∀ ls : Array Slot, lv_has ls 5 [(3, .int (nI i1)), (2, .int z407), (0, .ref o0), (1, .int pe)] → W p l e (headSpec w_s_near ({ frames := 3, cells := 0, slots := 0, locals := 64 })).room s m #[.ref o0, .int pe] below meth c H locs 0 0 (MQ below (va_Qi (fun (r : Int32) (u : Unit) => (-2147483648 ≤ r.toInt ∧ r.toInt ≤ 99)) (fun (_ : Unit) (t : State) => gH (dC, dI) kA (SHm q (wP wN wH wB wC wC wL wK) PI) G t.heap ∧ gF (dC, dI) SKm G ([] : List (Nat × Nat)) s.heap t.heap) A) #[.ref o0, .int pe] s 0 0 A) (F0 m 5 ls []) := by
    intro n611
    induction n611 with
    | zero =>
      intro i1 hn611 hlo612 z407 h408 H locs hT hF hS  ls hl
      obtain rfl : 96 = i1 := by omega
      refine lv_iload_n hx hb dX12_near_5 rfl (lv_at hl 0 rfl) ?_
      refine lv_bipush (v := 96) hx hb dX12_near_6 (by decide) ?_
      refine lv_icmp_ge (tgt := 105) hx hb dX12_near_8 (by decide) (fun c613 => ?_) (fun c613 => (by exfalso; have q9 : ((96 : Nat) : Int) < 96 := ti_nle c613 (by decide) (nI_toInt (by omega)); omega))
      have t614 : 96 ≤ ((96 : Nat) : Int) := ti_le c613 (by decide) (nI_toInt (by omega))
      refine lv_iload_n hx hb dX12_near_105 rfl (lv_at hl 1 rfl) ?_
      exact W.iret (v := z407) hx hb hr (fun t ht hW => ⟨⟨z407, (), rfl, (by exact (rg_t (a := z407.toInt) rfl (by have q8 := ti_all z407; omega) (by have q8 := ti_all z407; omega))), by (try dsimp only); rw [ht]; exact ⟨hT, hF⟩⟩, hS.F ht⟩) hS.2.2 dX12_near_106
    | succ n611 ih611 =>
      intro i1 hn611 hlo612 z407 h408 H locs hT hF hS  ls hl
      have hlt614 : i1 < 96 := by omega
      refine lv_iload_n hx hb dX12_near_5 rfl (lv_at hl 0 rfl) ?_
      refine lv_bipush (v := 96) hx hb dX12_near_6 (by decide) ?_
      refine lv_icmp_ge (tgt := 105) hx hb dX12_near_8 (by decide) (fun c615 => (by exfalso; have q9 : 96 ≤ ((i1 : Nat) : Int) := ti_le c615 (by decide) (nI_toInt (by omega)); omega)) (fun c615 => ?_)
      have t616 : ((i1 : Nat) : Int) < 96 := ti_nle c615 (by decide) (nI_toInt (by omega))
      refine lv_aload_n hx hb dX12_near_11 rfl (lv_at hl 2 rfl) ?_
      refine tw_get hx hb hts bF_X12 hown hK hT hr_o0 shm_0 rfl 38 (by decide) (ht_at hts 0 rfl) (fun _ h9 => h9) dX12_near_12 (fun v9 m617 h9 => ?_)
      obtain ⟨rfl, hg618⟩ := h9 _ rfl
      refine lv_iload_n hx hb dX12_near_15 rfl (lv_at hl 3 rfl) ?_
      refine tw_iald (i := pe) hx hb hK hT hg618 shm_39 rfl (vin_t (a := pe.toInt) rfl (by omega) (by omega)) dX12_near_16 (fun v9 m619 h9 => ?_)
      obtain ⟨x620, rfl, gx620, kx620⟩ := h9
      refine lv_if_lt (tgt := 105) hx hb dX12_near_17 (by decide) (fun c621 => ?_) (fun c621 => ?_)
      · have t622 : x620.toInt < 0 := ti_lt c621 rfl (by decide)
        refine lv_iload_n hx hb dX12_near_105 rfl (lv_at hl 1 rfl) ?_
        exact W.iret (v := z407) hx hb hr (fun t ht hW => ⟨⟨z407, (), rfl, (by exact (rg_t (a := z407.toInt) rfl (by have q8 := ti_all z407; omega) (by have q8 := ti_all z407; omega))), by (try dsimp only); rw [ht]; exact ⟨hT, hF⟩⟩, hS.F ht⟩) hS.2.2 dX12_near_106
      · have t623 : 0 ≤ x620.toInt := ti_nlt c621 rfl (by decide)
        refine lv_iload_n hx hb dX12_near_20 rfl (lv_at hl 0 rfl) ?_
        refine lv_aload_n hx hb dX12_near_21 rfl (lv_at hl 2 rfl) ?_
        refine tw_get hx hb hts bF_X12 hown hK hT hr_o0 shm_0 rfl 43 (by decide) (ht_at hts 1 rfl) (fun _ h9 => h9) dX12_near_22 (fun v9 m624 h9 => ?_)
        obtain ⟨rfl, hg625⟩ := h9 _ rfl
        refine lv_aload_n hx hb dX12_near_25 rfl (lv_at hl 2 rfl) ?_
        refine tw_get hx hb hts bF_X12 hown hK hT hr_o0 shm_0 rfl 38 (by decide) (ht_at hts 0 rfl) (fun _ h9 => h9) dX12_near_26 (fun v9 m626 h9 => ?_)
        obtain ⟨rfl, hg627⟩ := h9 _ rfl
        refine lv_iload_n hx hb dX12_near_29 rfl (lv_at hl 3 rfl) ?_
        refine tw_iald (i := pe) hx hb hK hT hg618 shm_39 rfl (vin_t (a := pe.toInt) rfl (by omega) (by omega)) dX12_near_30 (fun v9 m628 h9 => ?_)
        obtain ⟨x629, rfl, gx629, kx629⟩ := h9
        obtain rfl : x620 = x629 := (el_same m628 m619 rfl).symm
        refine tw_iald (i := x620) hx hb hK hT hg625 shm_44 rfl (vin_t (a := x620.toInt) rfl (by omega) (by omega)) dX12_near_31 (fun v9 m630 h9 => ?_)
        obtain ⟨x631, rfl, gx631, kx631⟩ := h9
        refine lv_aload_n hx hb dX12_near_32 rfl (lv_at hl 2 rfl) ?_
        refine tw_get hx hb hts bF_X12 hown hK hT hr_o0 shm_0 rfl 44 (by decide) (ht_at hts 2 rfl) (fun _ h9 => h9) dX12_near_33 (fun v9 m632 h9 => ?_)
        obtain ⟨rfl, hg633⟩ := h9 _ rfl
        refine lv_aload_n hx hb dX12_near_36 rfl (lv_at hl 2 rfl) ?_
        refine tw_get hx hb hts bF_X12 hown hK hT hr_o0 shm_0 rfl 38 (by decide) (ht_at hts 0 rfl) (fun _ h9 => h9) dX12_near_37 (fun v9 m634 h9 => ?_)
        obtain ⟨rfl, hg635⟩ := h9 _ rfl
        refine lv_iload_n hx hb dX12_near_40 rfl (lv_at hl 3 rfl) ?_
        refine tw_iald (i := pe) hx hb hK hT hg618 shm_39 rfl (vin_t (a := pe.toInt) rfl (by omega) (by omega)) dX12_near_41 (fun v9 m636 h9 => ?_)
        obtain ⟨x637, rfl, gx637, kx637⟩ := h9
        obtain rfl : x620 = x637 := (el_same m636 m619 rfl).symm
        refine tw_iald (i := x620) hx hb hK hT hg633 shm_45 rfl (vin_t (a := x620.toInt) rfl (by omega) (by omega)) dX12_near_42 (fun v9 m638 h9 => ?_)
        obtain ⟨x639, rfl, gx639, kx639⟩ := h9
        have hFc := gA_free hG hA hS
        refine va_calli (va_runS (As := [.int (nI i1), .int x631, .int x639]) (rest := []) ⟨hx, hb, hml, hown, hts⟩ (s_isIn l dC dI kA G H q wN wH wB wC wL wK PI (nI i1) x631 x639 hT (by omega) (by omega) (by omega) (by omega)) (va_cwS 3 hts (goodIn_app (goodIn_r _ [16, 17, 15] (by decide +kernel) (by decide +kernel)) (goodIn_ca (goodIn_r _ [4, 5, 6, 7, 8, 9, 10, 11, 12, 13, 14, 15] (by decide +kernel) (by decide +kernel)) (bs_in _ _))) rfl rfl rfl (by decide +kernel) ⟨(Nat.le_of_ble_eq_true rfl), (Nat.le_of_ble_eq_true rfl)⟩) ⟨fun a U g mk q => by obtain ⟨q0, q1, qK, qE⟩ := q; exact ⟨q0, q1, va_K.moved (u := U) (U := U.calling g mk a) (Vm.Alike.refl U.vm) qK, EV.blind g mk a qE⟩, fun U hU hW => ⟨rfl, hU, va_K.moved hW.alike hK, hE.call hS hFc hU hW⟩⟩ rfl rfl hl.1 rfl (lv_room (Nat.le_of_ble_eq_true rfl)) dX12_near_43 ⟨(Nat.le_of_ble_eq_true rfl), (Nat.le_of_ble_eq_true rfl)⟩) hS (fun q _ h => hFc q h) hFc (fun r640 u t H locs ht hvm hw641 hB _ _ hS => ?_)
        obtain ⟨hT, hF1⟩ := hB
        rw [ht] at hT hF1
        have m642 := (el_kept (hF1.arr hg618 skm_39 (by decide))).trans m619
        have m643 := (el_kept (hF1.arr hg625 skm_44 (by decide))).trans m630
        have m644 := (el_kept (hF1.arr hg633 skm_45 (by decide))).trans m638
        have hF := hF.more hF1 (by decide)
        try dsimp only at hw641
        have h645 := hw641
        refine lv_if_ne (tgt := 52) hx hb dX12_near_46 (by decide) (fun c646 => ?_) (fun c646 => ?_)
        · have t647 : r640.toInt ≠ 0 := ti_ne c646 rfl (by decide)
          refine lv_iconst (v := 0) hx hb dX12_near_52 (by decide) ?_
          refine lv_istore (lv' := [(4, .int 0), (3, .int (nI i1)), (2, .int z407), (0, .ref o0), (1, .int pe)]) hx hb dX12_near_53 hl (by decide) rfl (fun ls hl => ?_)
          have key771 : ∀ (n771 i648 : Nat), i648 + n771 = 30 → 0 ≤ i648 → ∀ (z729 : Int32), ((-2147483648 ≤ z729.toInt ∧ z729.toInt ≤ 99)) → ∀ (H : Heap) (locs : List Loc), gH (dC, dI) kA (SHm q (wP wN wH wB wC wC wL wK) PI) G H → gF (dC, dI) SKm G ([] : List (Nat × Nat)) s.heap H → va_S A s.heap H locs → el H (q 38) pe.toNatClampNeg = some (.int x620) → el H (q 43) x620.toNatClampNeg = some (.int x631) → el H (q 44) x620.toNatClampNeg = some (.int x639) → ∀ ls : Array Slot, lv_has ls 5 [(4, .int (nI i648)), (3, .int (nI i1)), (2, .int z729), (0, .ref o0), (1, .int pe)] → W p l e (headSpec w_s_near ({ frames := 3, cells := 0, slots := 0, locals := 64 })).room s m #[.ref o0, .int pe] below meth c H locs 0 0 (MQ below (va_Qi (fun (r : Int32) (u : Unit) => (-2147483648 ≤ r.toInt ∧ r.toInt ≤ 99)) (fun (_ : Unit) (t : State) => gH (dC, dI) kA (SHm q (wP wN wH wB wC wC wL wK) PI) G t.heap ∧ gF (dC, dI) SKm G ([] : List (Nat × Nat)) s.heap t.heap) A) #[.ref o0, .int pe] s 0 0 A) (F0 m 55 ls []) := by
            intro n771
            induction n771 with
            | zero =>
              intro i648 hn771 hlo772 z729 h730 H locs hT hF hS m731 m732 m733 ls hl
              obtain rfl : 30 = i648 := by omega
              refine lv_iload hx hb dX12_near_55 (lv_at hl 0 rfl) ?_
              refine lv_aload_n hx hb dX12_near_57 rfl (lv_at hl 3 rfl) ?_
              refine tw_get hx hb hts bF_X12 hown hK hT hr_o0 shm_0 rfl 1 (by decide) (ht_at hts 17 rfl) (fun _ h9 => h9) dX12_near_58 (fun v9 m773 h9 => ?_)
              obtain ⟨rfl, hg774⟩ := h9 _ rfl
              refine lv_sipush (v := 1428) hx hb dX12_near_61 (by decide) ?_
              refine tw_iald (i := 1428) hx hb hK hT hg774 shm_2 rfl (by unfold vp_in; decide) dX12_near_64 (fun v9 m775 h9 => ?_)
              obtain ⟨x776, rfl, gx776, kx776⟩ := (gp_at h9 (w_wct (by have q9 := tn_of (show (1428 : Int32).toInt = 1428 from (by decide)) (show (0 : Int) ≤ 1428 from by omega); omega)))
              refine lv_icmp_ge (tgt := 99) hx hb dX12_near_65 (by decide) (fun c777 => ?_) (fun c777 => (by exfalso; have q9 : ((30 : Nat) : Int) < x776.toInt := ti_nle c777 rfl (nI_toInt (by omega)); omega))
              have t778 : x776.toInt ≤ ((30 : Nat) : Int) := ti_le c777 rfl (nI_toInt (by omega))
              refine lv_iinc (v := nI (i1 + 1)) (lv' := [(3, .int (nI (i1 + 1))), (4, .int (nI 30)), (2, .int z729), (0, .ref o0), (1, .int pe)]) hx hb dX12_near_99 hl (k := 1) rfl (nI_add i1 1) (by decide) rfl (fun ls hl => ?_)
              refine lv_goto (tgt := 5) hx hb dX12_near_102 (by decide) ?_
              exact ih611 (i1 + 1) (by omega) (by omega) z729 (rg_t (a := z729.toInt) rfl (by have q8 := ti_all z729; omega) (by have q8 := ti_all z729; omega)) _ _ hT hF hS ls (lv_sub hl [0, 2, 3, 4] rfl)
            | succ n771 ih771 =>
              intro i648 hn771 hlo772 z729 h730 H locs hT hF hS m731 m732 m733 ls hl
              have hlt778 : i648 < 30 := by omega
              refine lv_iload hx hb dX12_near_55 (lv_at hl 0 rfl) ?_
              refine lv_aload_n hx hb dX12_near_57 rfl (lv_at hl 3 rfl) ?_
              refine tw_get hx hb hts bF_X12 hown hK hT hr_o0 shm_0 rfl 1 (by decide) (ht_at hts 17 rfl) (fun _ h9 => h9) dX12_near_58 (fun v9 m779 h9 => ?_)
              obtain ⟨rfl, hg780⟩ := h9 _ rfl
              refine lv_sipush (v := 1428) hx hb dX12_near_61 (by decide) ?_
              refine tw_iald (i := 1428) hx hb hK hT hg780 shm_2 rfl (by unfold vp_in; decide) dX12_near_64 (fun v9 m781 h9 => ?_)
              obtain ⟨x782, rfl, gx782, kx782⟩ := (gp_at h9 (w_wct (by have q9 := tn_of (show (1428 : Int32).toInt = 1428 from (by decide)) (show (0 : Int) ≤ 1428 from by omega); omega)))
              refine lv_icmp_ge (tgt := 99) hx hb dX12_near_65 (by decide) (fun c783 => ?_) (fun c783 => ?_)
              · have t784 : x782.toInt ≤ ((i648 : Nat) : Int) := ti_le c783 rfl (nI_toInt (by omega))
                refine lv_iinc (v := nI (i1 + 1)) (lv' := [(3, .int (nI (i1 + 1))), (4, .int (nI i648)), (2, .int z729), (0, .ref o0), (1, .int pe)]) hx hb dX12_near_99 hl (k := 1) rfl (nI_add i1 1) (by decide) rfl (fun ls hl => ?_)
                refine lv_goto (tgt := 5) hx hb dX12_near_102 (by decide) ?_
                exact ih611 (i1 + 1) (by omega) (by omega) z729 (rg_t (a := z729.toInt) rfl (by have q8 := ti_all z729; omega) (by have q8 := ti_all z729; omega)) _ _ hT hF hS ls (lv_sub hl [0, 2, 3, 4] rfl)
              · have t785 : ((i648 : Nat) : Int) < x782.toInt := ti_nle c783 rfl (nI_toInt (by omega))
                refine lv_aload_n hx hb dX12_near_68 rfl (lv_at hl 3 rfl) ?_
                refine lv_iload hx hb dX12_near_69 (lv_at hl 0 rfl) ?_
                have hFc := gA_free hG hA hS
                refine va_calli (va_runV (As := [.int (nI i648)]) (rest := []) ⟨hx, hb, hml, hown, hts⟩ (s_isDike l dC dI kA G H q wN wH wB wC wL wK PI o0 (nI i648) hT hr_o0 (rg_t (a := ((i648 : Nat) : Int)) (nI_toInt (by omega)) (by omega) (by omega)) (by omega) (by omega) (by omega) (by omega)) (cwV 1 hts (goodIn_app (goodIn_r _ [27, 28, 29, 15] (by decide +kernel) (by decide +kernel)) (goodIn_ca (goodIn_r _ [19, 20, 18, 21, 22, 23, 15, 24, 25, 26] (by decide +kernel) (by decide +kernel)) (bs_in _ _))) rfl rfl rfl (by decide +kernel) ⟨(Nat.le_of_ble_eq_true rfl), (Nat.le_of_ble_eq_true rfl)⟩) ⟨fun a U g mk q => by obtain ⟨q0, q1, qK, qE⟩ := q; exact ⟨q0, q1, va_K.moved (u := U) (U := U.calling g mk a) (Vm.Alike.refl U.vm) qK, EV.blind g mk a qE⟩, gH_recv hK hT hr_o0 shm_0 rfl, fun U hU hW => ⟨rfl, hU, va_K.moved hW.alike hK, hE.call hS hFc hU hW⟩⟩ rfl rfl hl.1 rfl (lv_room (Nat.le_of_ble_eq_true rfl)) dX12_near_71 ⟨(Nat.le_of_ble_eq_true rfl), (Nat.le_of_ble_eq_true rfl)⟩) hS (fun q _ h => hFc q h) hFc (fun r786 u t H locs ht hvm hw787 hB _ _ hS => ?_)
                obtain ⟨hT, hF1⟩ := hB
                rw [ht] at hT hF1
                have m788 := (el_kept (hF1.arr hg618 skm_39 (by decide))).trans m731
                have m789 := (el_kept (hF1.arr hg625 skm_44 (by decide))).trans m732
                have m790 := (el_kept (hF1.arr hg633 skm_45 (by decide))).trans m733
                have m791 := (el_kept (hF1.arr hg780 skm_2 (by decide))).trans m781
                have hF := hF.more hF1 (by decide)
                try dsimp only at hw787
                have h792 := hw787
                refine lv_if_eq (tgt := 93) hx hb dX12_near_74 (by decide) (fun c793 => ?_) (fun c793 => ?_)
                · have t794 : r786.toInt = 0 := ti_eq c793 rfl (by decide)
                  refine lv_iinc (v := nI (i648 + 1)) (lv' := [(4, .int (nI (i648 + 1))), (3, .int (nI i1)), (2, .int z729), (0, .ref o0), (1, .int pe)]) hx hb dX12_near_93 hl (k := 0) rfl (nI_add i648 1) (by decide) rfl (fun ls hl => ?_)
                  refine lv_goto (tgt := 55) hx hb dX12_near_96 (by decide) ?_
                  exact ih771 (i648 + 1) (by omega) (by omega) z729 (rg_t (a := z729.toInt) rfl (by have q8 := ti_all z729; omega) (by have q8 := ti_all z729; omega)) _ _ hT hF hS m788 m789 m790 ls (lv_sub hl [0, 1, 2, 3, 4] rfl)
                · have t795 : r786.toInt ≠ 0 := ti_ne c793 rfl (by decide)
                  refine lv_iload_n hx hb dX12_near_77 rfl (lv_at hl 2 rfl) ?_
                  refine lv_iload_n hx hb dX12_near_78 rfl (lv_at hl 1 rfl) ?_
                  refine lv_aload_n hx hb dX12_near_79 rfl (lv_at hl 3 rfl) ?_
                  refine lv_iload hx hb dX12_near_80 (lv_at hl 0 rfl) ?_
                  refine lv_iconst (v := 1) hx hb dX12_near_82 (by decide) ?_
                  have hFc := gA_free hG hA hS
                  refine va_calli (va_runV (As := [.int (nI i648), .int 1]) (rest := [.int (nI i1), .int z729]) ⟨hx, hb, hml, hown, hts⟩ (s_of1 l dC dI kA G H q wN wH wB wC wL wK PI o0 (nI i648) hT hr_o0 (rg_t (a := ((i648 : Nat) : Int)) (nI_toInt (by omega)) (by omega) (by omega)) (by omega) (by omega) (by omega) (by omega)) (cwV 2 hts (goodIn_app (goodIn_r _ [24, 25, 26, 15] (by decide +kernel) (by decide +kernel)) (goodIn_ca (goodIn_r _ [20, 18, 21, 22, 23, 15] (by decide +kernel) (by decide +kernel)) (bs_in _ _))) rfl rfl rfl (by decide +kernel) ⟨(Nat.le_of_ble_eq_true rfl), (Nat.le_of_ble_eq_true rfl)⟩) ⟨fun a U g mk q => by obtain ⟨q0, q1, qK, qE⟩ := q; exact ⟨q0, q1, va_K.moved (u := U) (U := U.calling g mk a) (Vm.Alike.refl U.vm) qK, EV.blind g mk a qE⟩, gH_recv hK hT hr_o0 shm_0 rfl, fun U hU hW => ⟨rfl, hU, va_K.moved hW.alike hK, hE.call hS hFc hU hW⟩⟩ rfl rfl hl.1 rfl (lv_room (Nat.le_of_ble_eq_true rfl)) dX12_near_83 ⟨(Nat.le_of_ble_eq_true rfl), (Nat.le_of_ble_eq_true rfl)⟩) hS (fun q _ h => hFc q h) hFc (fun r796 u t H locs ht hvm hw797 hB _ _ hS => ?_)
                  obtain ⟨hT, hF1⟩ := hB
                  rw [ht] at hT hF1
                  have m798 := (el_kept (hF1.arr hg618 skm_39 (by decide))).trans m788
                  have m799 := (el_kept (hF1.arr hg625 skm_44 (by decide))).trans m789
                  have m800 := (el_kept (hF1.arr hg633 skm_45 (by decide))).trans m790
                  have m801 := (el_kept (hF1.arr hg780 skm_2 (by decide))).trans m791
                  have hF := hF.more hF1 (by decide)
                  try dsimp only at hw797
                  obtain ⟨h802, ⟨ix803, hix803, m804⟩⟩ := hw797
                  have t805 : (nI i648).toInt = ((i648 : Nat) : Int) := nI_toInt (by omega)
                  have m806 := (el_kept (hF1.arr hg780 skm_2 (by decide))).trans m804
                  have hFc := gA_free hG hA hS
                  refine va_calli (va_runS (As := [.int (nI i1), .int r796]) (rest := [.int z729]) ⟨hx, hb, hml, hown, hts⟩ (s_steps l dC dI kA G H q wN wH wB wC wL wK PI (nI i1) r796 hT (by omega) (by omega) (by omega) (by omega)) (va_cwS 2 hts (goodIn_app (goodIn_r _ [34, 35, 15] (by decide +kernel) (by decide +kernel)) (goodIn_ca (goodIn_r _ [30, 31, 32, 7, 33] (by decide +kernel) (by decide +kernel)) (bs_in _ _))) rfl rfl rfl (by decide +kernel) ⟨(Nat.le_of_ble_eq_true rfl), (Nat.le_of_ble_eq_true rfl)⟩) ⟨fun a U g mk q => by obtain ⟨q0, q1, qK, qE⟩ := q; exact ⟨q0, q1, va_K.moved (u := U) (U := U.calling g mk a) (Vm.Alike.refl U.vm) qK, EV.blind g mk a qE⟩, fun U hU hW => ⟨rfl, hU, va_K.moved hW.alike hK, hE.call hS hFc hU hW⟩⟩ rfl rfl hl.1 rfl (lv_room (Nat.le_of_ble_eq_true rfl)) dX12_near_86 ⟨(Nat.le_of_ble_eq_true rfl), (Nat.le_of_ble_eq_true rfl)⟩) hS (fun q _ h => hFc q h) hFc (fun r807 u t H locs ht hvm hw808 hB _ _ hS => ?_)
                  obtain ⟨hT, hF1⟩ := hB
                  rw [ht] at hT hF1
                  have m809 := (el_kept (hF1.arr hg618 skm_39 (by decide))).trans m798
                  have m810 := (el_kept (hF1.arr hg625 skm_44 (by decide))).trans m799
                  have m811 := (el_kept (hF1.arr hg633 skm_45 (by decide))).trans m800
                  have m812 := (el_kept (hF1.arr hg780 skm_2 (by decide))).trans m801
                  have m813 := (el_kept (hF1.arr hg780 skm_2 (by decide))).trans m806
                  have hF := hF.more hF1 (by decide)
                  try dsimp only at hw808
                  refine va_mmin hx hb (hml.trans hl.1.symm) hown (ht_at hts 4 rfl) (ht_at hts 5 rfl) (ht_at hts 6 rfl) (ht_at hts 7 rfl) (Nat.le_of_ble_eq_true rfl) (Nat.le_of_ble_eq_true rfl) (Nat.le_of_ble_eq_true rfl) (Nat.le_of_ble_eq_true rfl) dX12_near_89 ?_
                  refine lv_topi (fun x814 ex814 => ?_)
                  have t815 : x814.toInt ≤ z729.toInt ∧ x814.toInt ≤ r807.toInt ∧ (x814.toInt = z729.toInt ∨ x814.toInt = r807.toInt) := mn_f ex814 rfl rfl
                  refine lv_istore_n (lv' := [(2, .int x814), (4, .int (nI i648)), (3, .int (nI i1)), (0, .ref o0), (1, .int pe)]) hx hb dX12_near_92 rfl hl (by decide) rfl (fun ls hl => ?_)
                  refine lv_iinc (v := nI (i648 + 1)) (lv' := [(4, .int (nI (i648 + 1))), (2, .int x814), (3, .int (nI i1)), (0, .ref o0), (1, .int pe)]) hx hb dX12_near_93 hl (k := 1) rfl (nI_add i648 1) (by decide) rfl (fun ls hl => ?_)
                  refine lv_goto (tgt := 55) hx hb dX12_near_96 (by decide) ?_
                  exact ih771 (i648 + 1) (by omega) (by omega) x814 (rg_t (a := x814.toInt) rfl (by have q8 := ti_all x814; omega) (by have q8 := ti_all x814; omega)) _ _ hT hF hS m809 m810 m811 ls (lv_sub hl [0, 2, 1, 3, 4] rfl)
          exact key771 (30 - 0) 0 (by omega) (Nat.le_refl _) z407 (rg_t (a := z407.toInt) rfl (by have q8 := ti_all z407; omega) (by have q8 := ti_all z407; omega)) _ _ hT hF hS m642 m643 m644 ls (lv_sub hl [0, 1, 2, 3, 4] rfl)
        · have t816 : r640.toInt = 0 := ti_eq c646 rfl (by decide)
          refine lv_goto (tgt := 99) hx hb dX12_near_49 (by decide) ?_
          refine lv_iinc (v := nI (i1 + 1)) (lv' := [(3, .int (nI (i1 + 1))), (2, .int z407), (0, .ref o0), (1, .int pe)]) hx hb dX12_near_99 hl (k := 0) rfl (nI_add i1 1) (by decide) rfl (fun ls hl => ?_)
          refine lv_goto (tgt := 5) hx hb dX12_near_102 (by decide) ?_
          exact ih611 (i1 + 1) (by omega) (by omega) z407 (rg_t (a := z407.toInt) rfl (by have q8 := ti_all z407; omega) (by have q8 := ti_all z407; omega)) _ _ hT hF hS ls (lv_sub hl [0, 1, 2, 3] rfl)
  exact key611 (96 - 0) 0 (by omega) (Nat.le_refl _) 99 (rg_t (a := 99) (by decide) (by omega) (by omega)) _ _ hT hF hS ls (lv_sub hl [0, 1, 2, 3] rfl)
def w_s_worthOf : List Cond := .code yX12_worthOf cX12_worthOf 5 (some .int) :: ([.fieldLink RX12 113 "SeaLandModel" "farmFrom" "[I", .fieldLink RX12 116 "SeaLandModel" "farmTo" "[I", .code yX12_isIn cX12_isIn 5 (some .boolean), .methodLink RX12 207 Lib.Math.min.name, .static Lib.Math.min.name, .initialized "java/lang/Math", .code Lib.Math.min.name Lib.Math.min.code 2 (some .int), .methodLink RX12 211 Lib.Math.max.name, .static Lib.Math.max.name, .code Lib.Math.max.name Lib.Math.max.code 2 (some .int), .code yX12_in cX12_in 3 (some .boolean), .methodLink RX12 197 yX12_in, .static yX12_in, .initialized RX12, .methodLink RX12 232 yX12_isIn, .static yX12_isIn, .fieldLink RX12 9 "SeaLandModel" "world" "[I"] ++ bs)
set_option maxHeartbeats 4000000 in
set_option maxRecDepth 100000 in
theorem s_worthOf (l : Launch) (dC : Nat → ClassId) (dI : Nat → Nat → Nat) (kA : Nat → ClassId) (G : gT) (H0 : Heap) (q : Nat → Nat) (wN wH wB wC : Int) (wL wK : Nat → Prop) (PI : Nat → Int → Prop) (o0 : Nat) (fa : Int32) (hT : gH (dC, dI) kA (SHm q (wP wN wH wB wC wC wL wK) PI) G H0) (hr_o0 : G o0 = some 0) (hq0 : 0 ≤ fa.toInt ∧ fa.toInt ≤ 29) (hgn : 6500000 ≤ wN ∧ wN ≤ 400000000) (hgh : 0 ≤ wH ∧ wH ≤ 40000) (hgb : 0 ≤ wB ∧ wB ≤ 3850000) (hgc : 0 ≤ wC ∧ wC ≤ 30) : Met l yX12_worthOf w_s_worthOf ({ frames := 2, cells := 0, slots := 0, locals := 64 }) (va_Pc [.ref o0, .int fa] (fun U => U.heap = H0 ∧ va_K (dC, dI) vwCl (tyl kA) U ∧ EV (gA G H0.size) U U.heap)) (va_Qi (fun (r : Int32) (u : Unit) => True) (fun (_ : Unit) (t : State) => gH (dC, dI) kA (SHm q (wP wN wH wB wC wC wL wK) PI) G t.heap ∧ gF (dC, dI) SKm G ([] : List (Nat × Nat)) H0 t.heap) (gA G H0.size)) 0 0 (gA G H0.size) := by
  refine Met.ofW (cc := cX12_worthOf) (maxL := 5) (ret := (some .int)) (by decide) rfl ?_
  intro p e s m args below meth c s₁ B hml hv
  obtain ⟨rfl, hH0, hK, hE⟩ := hv
  have hx := B.exec
  have hb := B.bytes
  have hr := B.returns
  have hts := atoms_spec (ws := w_s_worthOf) B.pre
  have hown : s.vm.findClass RX12 = some m.cls := findClass_of_methodNamed B.named
  have hlocks := B.notSynchronized
  subst hH0
  generalize hAe : gA G s.heap.size = A at hE ⊢
  have hA : ∀ q : Nat, s.heap.size ≤ q → A q := fun q h => by rw [← hAe]; exact Or.inr h
  have hG := gA_of hAe
  have hS : va_S A s.heap s.heap [] := va_S.rf
  have hF : gF (dC, dI) SKm G ([] : List (Nat × Nat)) s.heap s.heap := gF.rf
  have hl := lv_entry ([.ref o0, .int fa]) (n := 5) (Nat.le_of_ble_eq_true rfl)
  rw [lg_entry_eq]
  generalize (lg_sl ([.ref o0, .int fa]) ++ List.replicate (5 - (lg_sl ([.ref o0, .int fa])).length) Slot.unset).toArray = ls at hl ⊢
  have hl : lv_has ls 5 [(0, .ref o0), (1, .int fa)] := hl
  refine lv_iconst (v := 0) hx hb dX12_worthOf_0 (by decide) ?_
  refine lv_istore_n (lv' := [(2, .int 0), (0, .ref o0), (1, .int fa)]) hx hb dX12_worthOf_1 rfl hl (by decide) rfl (fun ls hl => ?_)
  refine lv_iconst (v := 0) hx hb dX12_worthOf_2 (by decide) ?_
  refine lv_istore_n (lv' := [(3, .int 0), (2, .int 0), (0, .ref o0), (1, .int fa)]) hx hb dX12_worthOf_3 rfl hl (by decide) rfl (fun ls hl => ?_)
  have key508 : ∀ (n508 i1 : Nat), i1 + n508 = 96 → 0 ≤ i1 → ∀ (z446 : Int32), ∀ (H : Heap) (locs : List Loc), gH (dC, dI) kA (SHm q (wP wN wH wB wC wC wL wK) PI) G H → gF (dC, dI) SKm G ([] : List (Nat × Nat)) s.heap H → va_S A s.heap H locs → ∀ ls : Array Slot, lv_has ls 5 [(3, .int (nI i1)), (2, .int z446), (0, .ref o0), (1, .int fa)] → W p l e (headSpec w_s_worthOf ({ frames := 2, cells := 0, slots := 0, locals := 64 })).room s m #[.ref o0, .int fa] below meth c H locs 0 0 (MQ below (va_Qi (fun (r : Int32) (u : Unit) => True) (fun (_ : Unit) (t : State) => gH (dC, dI) kA (SHm q (wP wN wH wB wC wC wL wK) PI) G t.heap ∧ gF (dC, dI) SKm G ([] : List (Nat × Nat)) s.heap t.heap) A) #[.ref o0, .int fa] s 0 0 A) (F0 m 4 ls []) := by
    intro n508
    induction n508 with
    | zero =>
      intro i1 hn508 hlo509 z446 H locs hT hF hS  ls hl
      obtain rfl : 96 = i1 := by omega
      refine lv_iload_n hx hb dX12_worthOf_4 rfl (lv_at hl 0 rfl) ?_
      refine lv_bipush (v := 96) hx hb dX12_worthOf_5 (by decide) ?_
      refine lv_icmp_ge (tgt := 103) hx hb dX12_worthOf_7 (by decide) (fun c510 => ?_) (fun c510 => (by exfalso; have q9 : ((96 : Nat) : Int) < 96 := ti_nle c510 (by decide) (nI_toInt (by omega)); omega))
      have t511 : 96 ≤ ((96 : Nat) : Int) := ti_le c510 (by decide) (nI_toInt (by omega))
      refine lv_iload_n hx hb dX12_worthOf_103 rfl (lv_at hl 1 rfl) ?_
      exact W.iret (v := z446) hx hb hr (fun t ht hW => ⟨⟨z446, (), rfl, (by exact trivial), by (try dsimp only); rw [ht]; exact ⟨hT, hF⟩⟩, hS.F ht⟩) hS.2.2 dX12_worthOf_104
    | succ n508 ih508 =>
      intro i1 hn508 hlo509 z446 H locs hT hF hS  ls hl
      have hlt511 : i1 < 96 := by omega
      refine lv_iload_n hx hb dX12_worthOf_4 rfl (lv_at hl 0 rfl) ?_
      refine lv_bipush (v := 96) hx hb dX12_worthOf_5 (by decide) ?_
      refine lv_icmp_ge (tgt := 103) hx hb dX12_worthOf_7 (by decide) (fun c512 => (by exfalso; have q9 : 96 ≤ ((i1 : Nat) : Int) := ti_le c512 (by decide) (nI_toInt (by omega)); omega)) (fun c512 => ?_)
      have t513 : ((i1 : Nat) : Int) < 96 := ti_nle c512 (by decide) (nI_toInt (by omega))
      refine lv_iload_n hx hb dX12_worthOf_10 rfl (lv_at hl 0 rfl) ?_
      refine lv_aload_n hx hb dX12_worthOf_11 rfl (lv_at hl 2 rfl) ?_
      refine tw_get hx hb hts bF_X12 hown hK hT hr_o0 shm_0 rfl 43 (by decide) (ht_at hts 0 rfl) (fun _ h9 => h9) dX12_worthOf_12 (fun v9 m514 h9 => ?_)
      obtain ⟨rfl, hg515⟩ := h9 _ rfl
      refine lv_iload_n hx hb dX12_worthOf_15 rfl (lv_at hl 3 rfl) ?_
      refine tw_iald (i := fa) hx hb hK hT hg515 shm_44 rfl (vin_t (a := fa.toInt) rfl (by omega) (by omega)) dX12_worthOf_16 (fun v9 m516 h9 => ?_)
      obtain ⟨x517, rfl, gx517, kx517⟩ := h9
      refine lv_aload_n hx hb dX12_worthOf_17 rfl (lv_at hl 2 rfl) ?_
      refine tw_get hx hb hts bF_X12 hown hK hT hr_o0 shm_0 rfl 44 (by decide) (ht_at hts 1 rfl) (fun _ h9 => h9) dX12_worthOf_18 (fun v9 m518 h9 => ?_)
      obtain ⟨rfl, hg519⟩ := h9 _ rfl
      refine lv_iload_n hx hb dX12_worthOf_21 rfl (lv_at hl 3 rfl) ?_
      refine tw_iald (i := fa) hx hb hK hT hg519 shm_45 rfl (vin_t (a := fa.toInt) rfl (by omega) (by omega)) dX12_worthOf_22 (fun v9 m520 h9 => ?_)
      obtain ⟨x521, rfl, gx521, kx521⟩ := h9
      have hFc := gA_free hG hA hS
      refine va_calli (va_runS (As := [.int (nI i1), .int x517, .int x521]) (rest := []) ⟨hx, hb, hml, hown, hts⟩ (s_isIn l dC dI kA G H q wN wH wB wC wL wK PI (nI i1) x517 x521 hT (by omega) (by omega) (by omega) (by omega)) (va_cwS 3 hts (goodIn_app (goodIn_r _ [15, 16, 14] (by decide +kernel) (by decide +kernel)) (goodIn_ca (goodIn_r _ [3, 4, 5, 6, 7, 8, 9, 10, 11, 12, 13, 14] (by decide +kernel) (by decide +kernel)) (bs_in _ _))) rfl rfl rfl (by decide +kernel) ⟨(Nat.le_of_ble_eq_true rfl), (Nat.le_of_ble_eq_true rfl)⟩) ⟨fun a U g mk q => by obtain ⟨q0, q1, qK, qE⟩ := q; exact ⟨q0, q1, va_K.moved (u := U) (U := U.calling g mk a) (Vm.Alike.refl U.vm) qK, EV.blind g mk a qE⟩, fun U hU hW => ⟨rfl, hU, va_K.moved hW.alike hK, hE.call hS hFc hU hW⟩⟩ rfl rfl hl.1 rfl (lv_room (Nat.le_of_ble_eq_true rfl)) dX12_worthOf_23 ⟨(Nat.le_of_ble_eq_true rfl), (Nat.le_of_ble_eq_true rfl)⟩) hS (fun q _ h => hFc q h) hFc (fun r522 u t H locs ht hvm hw523 hB _ _ hS => ?_)
      obtain ⟨hT, hF1⟩ := hB
      rw [ht] at hT hF1
      have m524 := (el_kept (hF1.arr hg515 skm_44 (by decide))).trans m516
      have m525 := (el_kept (hF1.arr hg519 skm_45 (by decide))).trans m520
      have hF := hF.more hF1 (by decide)
      try dsimp only at hw523
      have h526 := hw523
      refine lv_if_ne (tgt := 32) hx hb dX12_worthOf_26 (by decide) (fun c527 => ?_) (fun c527 => ?_)
      · have t528 : r522.toInt ≠ 0 := ti_ne c527 rfl (by decide)
        refine lv_aload_n hx hb dX12_worthOf_32 rfl (lv_at hl 2 rfl) ?_
        refine tw_get hx hb hts bF_X12 hown hK hT hr_o0 shm_0 rfl 1 (by decide) (ht_at hts 16 rfl) (fun _ h9 => h9) dX12_worthOf_33 (fun v9 m529 h9 => ?_)
        obtain ⟨rfl, hg530⟩ := h9 _ rfl
        refine lv_sipush (v := 192) hx hb dX12_worthOf_36 (by decide) ?_
        refine lv_iload_n hx hb dX12_worthOf_39 rfl (lv_at hl 0 rfl) ?_
        refine lv_iadd hx hb dX12_worthOf_40 ?_
        refine lv_topi (fun x531 ex531 => ?_)
        obtain rfl : nI (192 + i1) = x531 := (ex531.trans (nI_add 192 i1)).symm
        refine tw_iald (i := (nI (192 + i1))) hx hb hK hT hg530 shm_2 rfl (vp_in_nI (by omega) (by decide)) dX12_worthOf_41 (fun v9 m532 h9 => ?_)
        obtain ⟨x533, rfl, gx533, kx533⟩ := (gp_at h9 (w_fre (by have q9 := tn_of (show (nI (192 + i1)).toInt = ((192 + i1 : Nat) : Int) from (nI_toInt (by omega))) (show (0 : Int) ≤ ((192 + i1 : Nat) : Int) from by omega); omega)))
        have jn547 : ∀ (z542 : Int32), ((60 ≤ z542.toInt ∧ z542.toInt ≤ 150)) → ∀ (H : Heap) (locs : List Loc), gH (dC, dI) kA (SHm q (wP wN wH wB wC wC wL wK) PI) G H → gF (dC, dI) SKm G ([] : List (Nat × Nat)) s.heap H → va_S A s.heap H locs → el H (q 43) fa.toNatClampNeg = some (.int x517) → el H (q 44) fa.toNatClampNeg = some (.int x521) → el H (q 1) (nI (192 + i1)).toNatClampNeg = some (.int x533) → ∀ ls : Array Slot, lv_has ls 5 [(3, .int (nI i1)), (2, .int z446), (0, .ref o0), (1, .int fa)] → W p l e (headSpec w_s_worthOf ({ frames := 2, cells := 0, slots := 0, locals := 64 })).room s m #[.ref o0, .int fa] below meth c H locs 0 0 (MQ below (va_Qi (fun (r : Int32) (u : Unit) => True) (fun (_ : Unit) (t : State) => gH (dC, dI) kA (SHm q (wP wN wH wB wC wC wL wK) PI) G t.heap ∧ gF (dC, dI) SKm G ([] : List (Nat × Nat)) s.heap t.heap) A) #[.ref o0, .int fa] s 0 0 A) (F0 m 72 ls [.int z542]) := by
          intro z542 h543 H locs hT hF hS m544 m545 m546 ls hl
          refine lv_istore (lv' := [(4, .int z542), (3, .int (nI i1)), (2, .int z446), (0, .ref o0), (1, .int fa)]) hx hb dX12_worthOf_72 hl (by decide) rfl (fun ls hl => ?_)
          refine lv_iload_n hx hb dX12_worthOf_74 rfl (lv_at hl 2 rfl) ?_
          refine lv_iconst (v := 0) hx hb dX12_worthOf_75 (by decide) ?_
          refine lv_iload hx hb dX12_worthOf_76 (lv_at hl 0 rfl) ?_
          refine lv_aload_n hx hb dX12_worthOf_78 rfl (lv_at hl 3 rfl) ?_
          refine tw_get hx hb hts bF_X12 hown hK hT hr_o0 shm_0 rfl 1 (by decide) (ht_at hts 16 rfl) (fun _ h9 => h9) dX12_worthOf_79 (fun v9 m548 h9 => ?_)
          obtain ⟨rfl, hg549⟩ := h9 _ rfl
          refine lv_sipush (v := 480) hx hb dX12_worthOf_82 (by decide) ?_
          refine lv_iload_n hx hb dX12_worthOf_85 rfl (lv_at hl 1 rfl) ?_
          refine lv_iadd hx hb dX12_worthOf_86 ?_
          refine lv_topi (fun x550 ex550 => ?_)
          obtain rfl : nI (480 + i1) = x550 := (ex550.trans (nI_add 480 i1)).symm
          refine tw_iald (i := (nI (480 + i1))) hx hb hK hT hg530 shm_2 rfl (vp_in_nI (by omega) (by decide)) dX12_worthOf_87 (fun v9 m551 h9 => ?_)
          obtain ⟨x552, rfl, gx552, kx552⟩ := (gp_at h9 (w_fre (by have q9 := tn_of (show (nI (480 + i1)).toInt = ((480 + i1 : Nat) : Int) from (nI_toInt (by omega))) (show (0 : Int) ≤ ((480 + i1 : Nat) : Int) from by omega); omega)))
          refine lv_bipush (v := 100) hx hb dX12_worthOf_88 (by decide) ?_
          have t553 : -2147483648 ≤ x552.toInt ∧ x552.toInt ≤ 2147483647 := ti_all x552
          refine lv_idiv hx hb dX12_worthOf_90 (by decide) ?_
          refine lv_topi (fun x554 ex554 => ?_)
          have t555 : (0 ≤ x552.toInt ∧ x554.toInt = x552.toInt / 100) ∨ (x552.toInt < 0 ∧ x554.toInt = -((-x552.toInt) / 100)) := ti_divs ex554 rfl (by decide) (by decide)
          refine lv_isub hx hb dX12_worthOf_91 ?_
          refine lv_topi (fun x556 ex556 => ?_)
          have t557 : x556.toInt = z542.toInt - x554.toInt := ti_sub ex556 rfl rfl (by omega) (by omega)
          refine va_mmax hx hb (hml.trans hl.1.symm) hown (ht_at hts 7 rfl) (ht_at hts 8 rfl) (ht_at hts 5 rfl) (ht_at hts 9 rfl) (Nat.le_of_ble_eq_true rfl) (Nat.le_of_ble_eq_true rfl) (Nat.le_of_ble_eq_true rfl) (Nat.le_of_ble_eq_true rfl) dX12_worthOf_92 ?_
          refine lv_topi (fun x558 ex558 => ?_)
          have t559 : 0 ≤ x558.toInt ∧ x556.toInt ≤ x558.toInt ∧ (x558.toInt = 0 ∨ x558.toInt = x556.toInt) := mx_f ex558 (by decide) rfl
          refine lv_iadd hx hb dX12_worthOf_95 ?_
          refine lv_topi (fun x560 ex560 => ?_)
          refine lv_istore_n (lv' := [(2, .int x560), (4, .int z542), (3, .int (nI i1)), (0, .ref o0), (1, .int fa)]) hx hb dX12_worthOf_96 rfl hl (by decide) rfl (fun ls hl => ?_)
          refine lv_iinc (v := nI (i1 + 1)) (lv' := [(3, .int (nI (i1 + 1))), (2, .int x560), (4, .int z542), (0, .ref o0), (1, .int fa)]) hx hb dX12_worthOf_97 hl (k := 2) rfl (nI_add i1 1) (by decide) rfl (fun ls hl => ?_)
          refine lv_goto (tgt := 4) hx hb dX12_worthOf_100 (by decide) ?_
          exact ih508 (i1 + 1) (by omega) (by omega) x560 _ _ hT hF hS ls (lv_sub hl [0, 1, 3, 4] rfl)
        refine lv_if_ne (tgt := 50) hx hb dX12_worthOf_42 (by decide) (fun c561 => ?_) (fun c561 => ?_)
        · have t562 : x533.toInt ≠ 0 := ti_ne c561 rfl (by decide)
          refine lv_aload_n hx hb dX12_worthOf_50 rfl (lv_at hl 2 rfl) ?_
          refine tw_get hx hb hts bF_X12 hown hK hT hr_o0 shm_0 rfl 1 (by decide) (ht_at hts 16 rfl) (fun _ h9 => h9) dX12_worthOf_51 (fun v9 m563 h9 => ?_)
          obtain ⟨rfl, hg564⟩ := h9 _ rfl
          refine lv_sipush (v := 192) hx hb dX12_worthOf_54 (by decide) ?_
          refine lv_iload_n hx hb dX12_worthOf_57 rfl (lv_at hl 0 rfl) ?_
          refine lv_iadd hx hb dX12_worthOf_58 ?_
          refine lv_topi (fun x565 ex565 => ?_)
          obtain rfl : nI (192 + i1) = x565 := (ex565.trans (nI_add 192 i1)).symm
          refine tw_iald (i := (nI (192 + i1))) hx hb hK hT hg530 shm_2 rfl (vp_in_nI (by omega) (by decide)) dX12_worthOf_59 (fun v9 m566 h9 => ?_)
          obtain ⟨x567, rfl, gx567, kx567⟩ := (gp_at h9 (w_fre (by have q9 := tn_of (show (nI (192 + i1)).toInt = ((192 + i1 : Nat) : Int) from (nI_toInt (by omega))) (show (0 : Int) ≤ ((192 + i1 : Nat) : Int) from by omega); omega)))
          obtain rfl : x533 = x567 := (el_same m566 m532 rfl).symm
          refine lv_iconst (v := 1) hx hb dX12_worthOf_60 (by decide) ?_
          refine lv_icmp_ne (tgt := 70) hx hb dX12_worthOf_61 (by decide) (fun c568 => ?_) (fun c568 => ?_)
          · have t569 : x533.toInt ≠ 1 := ti_ne c568 rfl (by decide)
            refine lv_bipush (v := 60) hx hb dX12_worthOf_70 (by decide) ?_
            exact jn547 60 (rg_t (a := 60) (by decide) (by omega) (by omega)) _ _ hT hF hS m524 m525 m532 ls (lv_sub hl [0, 1, 2, 3] rfl)
          · have t570 : x533.toInt = 1 := ti_eq c568 rfl (by decide)
            refine lv_sipush (v := 150) hx hb dX12_worthOf_64 (by decide) ?_
            refine lv_goto (tgt := 72) hx hb dX12_worthOf_67 (by decide) ?_
            exact jn547 150 (rg_t (a := 150) (by decide) (by omega) (by omega)) _ _ hT hF hS m524 m525 m532 ls (lv_sub hl [0, 1, 2, 3] rfl)
        · have t571 : x533.toInt = 0 := ti_eq c561 rfl (by decide)
          refine lv_bipush (v := 100) hx hb dX12_worthOf_45 (by decide) ?_
          refine lv_goto (tgt := 72) hx hb dX12_worthOf_47 (by decide) ?_
          exact jn547 100 (rg_t (a := 100) (by decide) (by omega) (by omega)) _ _ hT hF hS m524 m525 m532 ls (lv_sub hl [0, 1, 2, 3] rfl)
      · have t572 : r522.toInt = 0 := ti_eq c527 rfl (by decide)
        refine lv_goto (tgt := 97) hx hb dX12_worthOf_29 (by decide) ?_
        refine lv_iinc (v := nI (i1 + 1)) (lv' := [(3, .int (nI (i1 + 1))), (2, .int z446), (0, .ref o0), (1, .int fa)]) hx hb dX12_worthOf_97 hl (k := 0) rfl (nI_add i1 1) (by decide) rfl (fun ls hl => ?_)
        refine lv_goto (tgt := 4) hx hb dX12_worthOf_100 (by decide) ?_
        exact ih508 (i1 + 1) (by omega) (by omega) z446 _ _ hT hF hS ls (lv_sub hl [0, 1, 2, 3] rfl)
  exact key508 (96 - 0) 0 (by omega) (Nat.le_refl _) 0 _ _ hT hF hS ls (lv_sub hl [0, 1, 2, 3] rfl)
def w_s_bringsOf : List Cond := .code yX12_bringsOf cX12_bringsOf 8 (some .int) :: ([.fieldLink RX12 119 "SeaLandModel" "crop" "[I", .fieldLink RX12 113 "SeaLandModel" "farmFrom" "[I", .fieldLink RX12 116 "SeaLandModel" "farmTo" "[I", .code yX12_isIn cX12_isIn 5 (some .boolean), .methodLink RX12 207 Lib.Math.min.name, .static Lib.Math.min.name, .initialized "java/lang/Math", .code Lib.Math.min.name Lib.Math.min.code 2 (some .int), .methodLink RX12 211 Lib.Math.max.name, .static Lib.Math.max.name, .code Lib.Math.max.name Lib.Math.max.code 2 (some .int), .code yX12_in cX12_in 3 (some .boolean), .methodLink RX12 197 yX12_in, .static yX12_in, .initialized RX12, .methodLink RX12 232 yX12_isIn, .static yX12_isIn, .fieldLink RX12 9 "SeaLandModel" "world" "[I"] ++ bs)
set_option maxHeartbeats 4000000 in
set_option maxRecDepth 100000 in
theorem s_bringsOf (l : Launch) (dC : Nat → ClassId) (dI : Nat → Nat → Nat) (kA : Nat → ClassId) (G : gT) (H0 : Heap) (q : Nat → Nat) (wN wH wB wC : Int) (wL wK : Nat → Prop) (PI : Nat → Int → Prop) (o0 : Nat) (fa : Int32) (hT : gH (dC, dI) kA (SHm q (wP wN wH wB wC wC wL wK) PI) G H0) (hr_o0 : G o0 = some 0) (hq0 : 0 ≤ fa.toInt ∧ fa.toInt ≤ 29) (hgn : 6500000 ≤ wN ∧ wN ≤ 400000000) (hgh : 0 ≤ wH ∧ wH ≤ 40000) (hgb : 0 ≤ wB ∧ wB ≤ 3850000) (hgc : 0 ≤ wC ∧ wC ≤ 30) : Met l yX12_bringsOf w_s_bringsOf ({ frames := 2, cells := 0, slots := 0, locals := 64 }) (va_Pc [.ref o0, .int fa] (fun U => U.heap = H0 ∧ va_K (dC, dI) vwCl (tyl kA) U ∧ EV (gA G H0.size) U U.heap)) (va_Qi (fun (r : Int32) (u : Unit) => True) (fun (_ : Unit) (t : State) => gH (dC, dI) kA (SHm q (wP wN wH wB wC wC wL wK) PI) G t.heap ∧ gF (dC, dI) SKm G ([] : List (Nat × Nat)) H0 t.heap) (gA G H0.size)) 0 0 (gA G H0.size) := by
  refine Met.ofW (cc := cX12_bringsOf) (maxL := 8) (ret := (some .int)) (by decide) rfl ?_
  intro p e s m args below meth c s₁ B hml hv
  obtain ⟨rfl, hH0, hK, hE⟩ := hv
  have hx := B.exec
  have hb := B.bytes
  have hr := B.returns
  have hts := atoms_spec (ws := w_s_bringsOf) B.pre
  have hown : s.vm.findClass RX12 = some m.cls := findClass_of_methodNamed B.named
  have hlocks := B.notSynchronized
  subst hH0
  generalize hAe : gA G s.heap.size = A at hE ⊢
  have hA : ∀ q : Nat, s.heap.size ≤ q → A q := fun q h => by rw [← hAe]; exact Or.inr h
  have hG := gA_of hAe
  have hS : va_S A s.heap s.heap [] := va_S.rf
  have hF : gF (dC, dI) SKm G ([] : List (Nat × Nat)) s.heap s.heap := gF.rf
  have hl := lv_entry ([.ref o0, .int fa]) (n := 8) (Nat.le_of_ble_eq_true rfl)
  rw [lg_entry_eq]
  generalize (lg_sl ([.ref o0, .int fa]) ++ List.replicate (8 - (lg_sl ([.ref o0, .int fa])).length) Slot.unset).toArray = ls at hl ⊢
  have hl : lv_has ls 8 [(0, .ref o0), (1, .int fa)] := hl
  refine lv_aload_n hx hb dX12_bringsOf_0 rfl (lv_at hl 0 rfl) ?_
  refine tw_get hx hb hts bF_X12 hown hK hT hr_o0 shm_0 rfl 45 (by decide) (ht_at hts 0 rfl) (fun _ h9 => h9) dX12_bringsOf_1 (fun v9 m1 h9 => ?_)
  obtain ⟨rfl, hg2⟩ := h9 _ rfl
  refine lv_iload_n hx hb dX12_bringsOf_4 rfl (lv_at hl 1 rfl) ?_
  refine tw_iald (i := fa) hx hb hK hT hg2 shm_46 rfl (vin_t (a := fa.toInt) rfl (by omega) (by omega)) dX12_bringsOf_5 (fun v9 m3 h9 => ?_)
  obtain ⟨x4, rfl, gx4, kx4⟩ := h9
  refine lv_iconst (v := 1) hx hb dX12_bringsOf_6 (by decide) ?_
  have jn15 : ∀ (z12 : Int32), ((10 ≤ z12.toInt ∧ z12.toInt ≤ 60)) → ∀ (H : Heap) (locs : List Loc), gH (dC, dI) kA (SHm q (wP wN wH wB wC wC wL wK) PI) G H → gF (dC, dI) SKm G ([] : List (Nat × Nat)) s.heap H → va_S A s.heap H locs → el H (q 45) fa.toNatClampNeg = some (.int x4) → ∀ ls : Array Slot, lv_has ls 8 [(0, .ref o0), (1, .int fa)] → W p l e (headSpec w_s_bringsOf ({ frames := 2, cells := 0, slots := 0, locals := 64 })).room s m #[.ref o0, .int fa] below meth c H locs 0 0 (MQ below (va_Qi (fun (r : Int32) (u : Unit) => True) (fun (_ : Unit) (t : State) => gH (dC, dI) kA (SHm q (wP wN wH wB wC wC wL wK) PI) G t.heap ∧ gF (dC, dI) SKm G ([] : List (Nat × Nat)) s.heap t.heap) A) #[.ref o0, .int fa] s 0 0 A) (F0 m 32 ls [.int z12]) := by
    intro z12 h13 H locs hT hF hS m14 ls hl
    refine lv_istore_n (lv' := [(2, .int z12), (0, .ref o0), (1, .int fa)]) hx hb dX12_bringsOf_32 rfl hl (by decide) rfl (fun ls hl => ?_)
    refine lv_aload_n hx hb dX12_bringsOf_33 rfl (lv_at hl 1 rfl) ?_
    refine tw_get hx hb hts bF_X12 hown hK hT hr_o0 shm_0 rfl 45 (by decide) (ht_at hts 0 rfl) (fun _ h9 => h9) dX12_bringsOf_34 (fun v9 m16 h9 => ?_)
    obtain ⟨rfl, hg17⟩ := h9 _ rfl
    refine lv_iload_n hx hb dX12_bringsOf_37 rfl (lv_at hl 2 rfl) ?_
    refine tw_iald (i := fa) hx hb hK hT hg2 shm_46 rfl (vin_t (a := fa.toInt) rfl (by omega) (by omega)) dX12_bringsOf_38 (fun v9 m18 h9 => ?_)
    obtain ⟨x19, rfl, gx19, kx19⟩ := h9
    obtain rfl : x4 = x19 := (el_same m18 m14 rfl).symm
    refine lv_iconst (v := 1) hx hb dX12_bringsOf_39 (by decide) ?_
    have jn30 : ∀ (z27 : Int32), ((2000 ≤ z27.toInt ∧ z27.toInt ≤ 8000)) → ∀ (H : Heap) (locs : List Loc), gH (dC, dI) kA (SHm q (wP wN wH wB wC wC wL wK) PI) G H → gF (dC, dI) SKm G ([] : List (Nat × Nat)) s.heap H → va_S A s.heap H locs → el H (q 45) fa.toNatClampNeg = some (.int x4) → ∀ ls : Array Slot, lv_has ls 8 [(2, .int z12), (0, .ref o0), (1, .int fa)] → W p l e (headSpec w_s_bringsOf ({ frames := 2, cells := 0, slots := 0, locals := 64 })).room s m #[.ref o0, .int fa] below meth c H locs 0 0 (MQ below (va_Qi (fun (r : Int32) (u : Unit) => True) (fun (_ : Unit) (t : State) => gH (dC, dI) kA (SHm q (wP wN wH wB wC wC wL wK) PI) G t.heap ∧ gF (dC, dI) SKm G ([] : List (Nat × Nat)) s.heap t.heap) A) #[.ref o0, .int fa] s 0 0 A) (F0 m 68 ls [.int z27]) := by
      intro z27 h28 H locs hT hF hS m29 ls hl
      refine lv_istore_n (lv' := [(3, .int z27), (2, .int z12), (0, .ref o0), (1, .int fa)]) hx hb dX12_bringsOf_68 rfl hl (by decide) rfl (fun ls hl => ?_)
      refine lv_aload_n hx hb dX12_bringsOf_69 rfl (lv_at hl 2 rfl) ?_
      refine tw_get hx hb hts bF_X12 hown hK hT hr_o0 shm_0 rfl 45 (by decide) (ht_at hts 0 rfl) (fun _ h9 => h9) dX12_bringsOf_70 (fun v9 m31 h9 => ?_)
      obtain ⟨rfl, hg32⟩ := h9 _ rfl
      refine lv_iload_n hx hb dX12_bringsOf_73 rfl (lv_at hl 3 rfl) ?_
      refine tw_iald (i := fa) hx hb hK hT hg2 shm_46 rfl (vin_t (a := fa.toInt) rfl (by omega) (by omega)) dX12_bringsOf_74 (fun v9 m33 h9 => ?_)
      obtain ⟨x34, rfl, gx34, kx34⟩ := h9
      obtain rfl : x4 = x34 := (el_same m33 m29 rfl).symm
      refine lv_if_ne (tgt := 82) hx hb dX12_bringsOf_75 (by decide) (fun c35 => ?_) (fun c35 => ?_)
      · have t36 : x4.toInt ≠ 0 := ti_ne c35 rfl (by decide)
        refine lv_aload_n hx hb dX12_bringsOf_82 rfl (lv_at hl 2 rfl) ?_
        refine tw_get hx hb hts bF_X12 hown hK hT hr_o0 shm_0 rfl 45 (by decide) (ht_at hts 0 rfl) (fun _ h9 => h9) dX12_bringsOf_83 (fun v9 m37 h9 => ?_)
        obtain ⟨rfl, hg38⟩ := h9 _ rfl
        refine lv_iload_n hx hb dX12_bringsOf_86 rfl (lv_at hl 3 rfl) ?_
        refine tw_iald (i := fa) hx hb hK hT hg2 shm_46 rfl (vin_t (a := fa.toInt) rfl (by omega) (by omega)) dX12_bringsOf_87 (fun v9 m39 h9 => ?_)
        obtain ⟨x40, rfl, gx40, kx40⟩ := h9
        obtain rfl : x4 = x40 := (el_same m39 m29 rfl).symm
        refine lv_iconst (v := 1) hx hb dX12_bringsOf_88 (by decide) ?_
        refine lv_icmp_ne (tgt := 97) hx hb dX12_bringsOf_89 (by decide) (fun c41 => ?_) (fun c41 => ?_)
        · have t42 : x4.toInt ≠ 1 := ti_ne c41 rfl (by decide)
          refine lv_aload_n hx hb dX12_bringsOf_97 rfl (lv_at hl 2 rfl) ?_
          refine tw_get hx hb hts bF_X12 hown hK hT hr_o0 shm_0 rfl 45 (by decide) (ht_at hts 0 rfl) (fun _ h9 => h9) dX12_bringsOf_98 (fun v9 m43 h9 => ?_)
          obtain ⟨rfl, hg44⟩ := h9 _ rfl
          refine lv_iload_n hx hb dX12_bringsOf_101 rfl (lv_at hl 3 rfl) ?_
          refine tw_iald (i := fa) hx hb hK hT hg2 shm_46 rfl (vin_t (a := fa.toInt) rfl (by omega) (by omega)) dX12_bringsOf_102 (fun v9 m45 h9 => ?_)
          obtain ⟨x46, rfl, gx46, kx46⟩ := h9
          obtain rfl : x4 = x46 := (el_same m45 m29 rfl).symm
          refine lv_iconst (v := 2) hx hb dX12_bringsOf_103 (by decide) ?_
          refine lv_icmp_ne (tgt := 112) hx hb dX12_bringsOf_104 (by decide) (fun c47 => ?_) (fun c47 => ?_)
          · have t48 : x4.toInt ≠ 2 := ti_ne c47 rfl (by decide)
            refine lv_bipush (v := 40) hx hb dX12_bringsOf_112 (by decide) ?_
            refine lv_istore (lv' := [(4, .int 40), (3, .int z27), (2, .int z12), (0, .ref o0), (1, .int fa)]) hx hb dX12_bringsOf_114 hl (by decide) rfl (fun ls hl => ?_)
            refine lv_iconst (v := 0) hx hb dX12_bringsOf_116 (by decide) ?_
            refine lv_istore (lv' := [(5, .int 0), (4, .int 40), (3, .int z27), (2, .int z12), (0, .ref o0), (1, .int fa)]) hx hb dX12_bringsOf_117 hl (by decide) rfl (fun ls hl => ?_)
            refine lv_iconst (v := 0) hx hb dX12_bringsOf_119 (by decide) ?_
            refine lv_istore (lv' := [(6, .int 0), (5, .int 0), (4, .int 40), (3, .int z27), (2, .int z12), (0, .ref o0), (1, .int fa)]) hx hb dX12_bringsOf_120 hl (by decide) rfl (fun ls hl => ?_)
            have key990 : ∀ (n990 i49 : Nat), i49 + n990 = 96 → 0 ≤ i49 → ∀ (z924 : Int32), ∀ (H : Heap) (locs : List Loc), gH (dC, dI) kA (SHm q (wP wN wH wB wC wC wL wK) PI) G H → gF (dC, dI) SKm G ([] : List (Nat × Nat)) s.heap H → va_S A s.heap H locs → el H (q 45) fa.toNatClampNeg = some (.int x4) → ∀ ls : Array Slot, lv_has ls 8 [(6, .int (nI i49)), (5, .int z924), (4, .int 40), (3, .int z27), (2, .int z12), (0, .ref o0), (1, .int fa)] → W p l e (headSpec w_s_bringsOf ({ frames := 2, cells := 0, slots := 0, locals := 64 })).room s m #[.ref o0, .int fa] below meth c H locs 0 0 (MQ below (va_Qi (fun (r : Int32) (u : Unit) => True) (fun (_ : Unit) (t : State) => gH (dC, dI) kA (SHm q (wP wN wH wB wC wC wL wK) PI) G t.heap ∧ gF (dC, dI) SKm G ([] : List (Nat × Nat)) s.heap t.heap) A) #[.ref o0, .int fa] s 0 0 A) (F0 m 122 ls []) := by
              intro n990
              induction n990 with
              | zero =>
                intro i49 hn990 hlo991 z924 H locs hT hF hS m925 ls hl
                obtain rfl : 96 = i49 := by omega
                refine lv_iload hx hb dX12_bringsOf_122 (lv_at hl 0 rfl) ?_
                refine lv_bipush (v := 96) hx hb dX12_bringsOf_124 (by decide) ?_
                refine lv_icmp_ge (tgt := 230) hx hb dX12_bringsOf_126 (by decide) (fun c992 => ?_) (fun c992 => (by exfalso; have q9 : ((96 : Nat) : Int) < 96 := ti_nle c992 (by decide) (nI_toInt (by omega)); omega))
                have t993 : 96 ≤ ((96 : Nat) : Int) := ti_le c992 (by decide) (nI_toInt (by omega))
                refine lv_iload hx hb dX12_bringsOf_230 (lv_at hl 1 rfl) ?_
                exact W.iret (v := z924) hx hb hr (fun t ht hW => ⟨⟨z924, (), rfl, (by exact trivial), by (try dsimp only); rw [ht]; exact ⟨hT, hF⟩⟩, hS.F ht⟩) hS.2.2 dX12_bringsOf_232
              | succ n990 ih990 =>
                intro i49 hn990 hlo991 z924 H locs hT hF hS m925 ls hl
                have hlt993 : i49 < 96 := by omega
                refine lv_iload hx hb dX12_bringsOf_122 (lv_at hl 0 rfl) ?_
                refine lv_bipush (v := 96) hx hb dX12_bringsOf_124 (by decide) ?_
                refine lv_icmp_ge (tgt := 230) hx hb dX12_bringsOf_126 (by decide) (fun c994 => (by exfalso; have q9 : 96 ≤ ((i49 : Nat) : Int) := ti_le c994 (by decide) (nI_toInt (by omega)); omega)) (fun c994 => ?_)
                have t995 : ((i49 : Nat) : Int) < 96 := ti_nle c994 (by decide) (nI_toInt (by omega))
                refine lv_iload hx hb dX12_bringsOf_129 (lv_at hl 0 rfl) ?_
                refine lv_aload_n hx hb dX12_bringsOf_131 rfl (lv_at hl 5 rfl) ?_
                refine tw_get hx hb hts bF_X12 hown hK hT hr_o0 shm_0 rfl 43 (by decide) (ht_at hts 1 rfl) (fun _ h9 => h9) dX12_bringsOf_132 (fun v9 m996 h9 => ?_)
                obtain ⟨rfl, hg997⟩ := h9 _ rfl
                refine lv_iload_n hx hb dX12_bringsOf_135 rfl (lv_at hl 6 rfl) ?_
                refine tw_iald (i := fa) hx hb hK hT hg997 shm_44 rfl (vin_t (a := fa.toInt) rfl (by omega) (by omega)) dX12_bringsOf_136 (fun v9 m998 h9 => ?_)
                obtain ⟨x999, rfl, gx999, kx999⟩ := h9
                refine lv_aload_n hx hb dX12_bringsOf_137 rfl (lv_at hl 5 rfl) ?_
                refine tw_get hx hb hts bF_X12 hown hK hT hr_o0 shm_0 rfl 44 (by decide) (ht_at hts 2 rfl) (fun _ h9 => h9) dX12_bringsOf_138 (fun v9 m1000 h9 => ?_)
                obtain ⟨rfl, hg1001⟩ := h9 _ rfl
                refine lv_iload_n hx hb dX12_bringsOf_141 rfl (lv_at hl 6 rfl) ?_
                refine tw_iald (i := fa) hx hb hK hT hg1001 shm_45 rfl (vin_t (a := fa.toInt) rfl (by omega) (by omega)) dX12_bringsOf_142 (fun v9 m1002 h9 => ?_)
                obtain ⟨x1003, rfl, gx1003, kx1003⟩ := h9
                have hFc := gA_free hG hA hS
                refine va_calli (va_runS (As := [.int (nI i49), .int x999, .int x1003]) (rest := []) ⟨hx, hb, hml, hown, hts⟩ (s_isIn l dC dI kA G H q wN wH wB wC wL wK PI (nI i49) x999 x1003 hT (by omega) (by omega) (by omega) (by omega)) (va_cwS 3 hts (goodIn_app (goodIn_r _ [16, 17, 15] (by decide +kernel) (by decide +kernel)) (goodIn_ca (goodIn_r _ [4, 5, 6, 7, 8, 9, 10, 11, 12, 13, 14, 15] (by decide +kernel) (by decide +kernel)) (bs_in _ _))) rfl rfl rfl (by decide +kernel) ⟨(Nat.le_of_ble_eq_true rfl), (Nat.le_of_ble_eq_true rfl)⟩) ⟨fun a U g mk q => by obtain ⟨q0, q1, qK, qE⟩ := q; exact ⟨q0, q1, va_K.moved (u := U) (U := U.calling g mk a) (Vm.Alike.refl U.vm) qK, EV.blind g mk a qE⟩, fun U hU hW => ⟨rfl, hU, va_K.moved hW.alike hK, hE.call hS hFc hU hW⟩⟩ rfl rfl hl.1 rfl (lv_room (Nat.le_of_ble_eq_true rfl)) dX12_bringsOf_143 ⟨(Nat.le_of_ble_eq_true rfl), (Nat.le_of_ble_eq_true rfl)⟩) hS (fun q _ h => hFc q h) hFc (fun r1004 u t H locs ht hvm hw1005 hB _ _ hS => ?_)
                obtain ⟨hT, hF1⟩ := hB
                rw [ht] at hT hF1
                have m1006 := (el_kept (hF1.arr hg2 skm_46 (by decide))).trans m925
                have m1007 := (el_kept (hF1.arr hg997 skm_44 (by decide))).trans m998
                have m1008 := (el_kept (hF1.arr hg1001 skm_45 (by decide))).trans m1002
                have hF := hF.more hF1 (by decide)
                try dsimp only at hw1005
                have h1009 := hw1005
                refine lv_if_ne (tgt := 152) hx hb dX12_bringsOf_146 (by decide) (fun c1010 => ?_) (fun c1010 => ?_)
                · have t1011 : r1004.toInt ≠ 0 := ti_ne c1010 rfl (by decide)
                  refine lv_aload_n hx hb dX12_bringsOf_152 rfl (lv_at hl 5 rfl) ?_
                  refine tw_get hx hb hts bF_X12 hown hK hT hr_o0 shm_0 rfl 1 (by decide) (ht_at hts 17 rfl) (fun _ h9 => h9) dX12_bringsOf_153 (fun v9 m1012 h9 => ?_)
                  obtain ⟨rfl, hg1013⟩ := h9 _ rfl
                  refine lv_sipush (v := 672) hx hb dX12_bringsOf_156 (by decide) ?_
                  refine lv_iload hx hb dX12_bringsOf_159 (lv_at hl 0 rfl) ?_
                  refine lv_iadd hx hb dX12_bringsOf_161 ?_
                  refine lv_topi (fun x1014 ex1014 => ?_)
                  obtain rfl : nI (672 + i49) = x1014 := (ex1014.trans (nI_add 672 i49)).symm
                  refine tw_iald (i := (nI (672 + i49))) hx hb hK hT hg1013 shm_2 rfl (vp_in_nI (by omega) (by decide)) dX12_bringsOf_162 (fun v9 m1015 h9 => ?_)
                  obtain ⟨x1016, rfl, gx1016, kx1016⟩ := (gp_at h9 (w_fre (by have q9 := tn_of (show (nI (672 + i49)).toInt = ((672 + i49 : Nat) : Int) from (nI_toInt (by omega))) (show (0 : Int) ≤ ((672 + i49 : Nat) : Int) from by omega); omega)))
                  refine lv_iload_n hx hb dX12_bringsOf_163 rfl (lv_at hl 4 rfl) ?_
                  have jn1023 : ∀ (z1017 : Int32), ((0 ≤ z1017.toInt ∧ z1017.toInt ≤ 1)) → ∀ (H : Heap) (locs : List Loc), gH (dC, dI) kA (SHm q (wP wN wH wB wC wC wL wK) PI) G H → gF (dC, dI) SKm G ([] : List (Nat × Nat)) s.heap H → va_S A s.heap H locs → el H (q 45) fa.toNatClampNeg = some (.int x4) → el H (q 43) fa.toNatClampNeg = some (.int x999) → el H (q 44) fa.toNatClampNeg = some (.int x1003) → el H (q 1) (nI (672 + i49)).toNatClampNeg = some (.int x1016) → ∀ ls : Array Slot, lv_has ls 8 [(6, .int (nI i49)), (5, .int z924), (4, .int 40), (3, .int z27), (2, .int z12), (0, .ref o0), (1, .int fa)] → W p l e (headSpec w_s_bringsOf ({ frames := 2, cells := 0, slots := 0, locals := 64 })).room s m #[.ref o0, .int fa] below meth c H locs 0 0 (MQ below (va_Qi (fun (r : Int32) (u : Unit) => True) (fun (_ : Unit) (t : State) => gH (dC, dI) kA (SHm q (wP wN wH wB wC wC wL wK) PI) G t.heap ∧ gF (dC, dI) SKm G ([] : List (Nat × Nat)) s.heap t.heap) A) #[.ref o0, .int fa] s 0 0 A) (F0 m 172 ls [.int z1017]) := by
                    intro z1017 h1018 H locs hT hF hS m1019 m1020 m1021 m1022 ls hl
                    refine lv_aload_n hx hb dX12_bringsOf_172 rfl (lv_at hl 5 rfl) ?_
                    refine tw_get hx hb hts bF_X12 hown hK hT hr_o0 shm_0 rfl 1 (by decide) (ht_at hts 17 rfl) (fun _ h9 => h9) dX12_bringsOf_173 (fun v9 m1024 h9 => ?_)
                    obtain ⟨rfl, hg1025⟩ := h9 _ rfl
                    refine lv_sipush (v := 480) hx hb dX12_bringsOf_176 (by decide) ?_
                    refine lv_iload hx hb dX12_bringsOf_179 (lv_at hl 0 rfl) ?_
                    refine lv_iadd hx hb dX12_bringsOf_181 ?_
                    refine lv_topi (fun x1026 ex1026 => ?_)
                    obtain rfl : nI (480 + i49) = x1026 := (ex1026.trans (nI_add 480 i49)).symm
                    refine tw_iald (i := (nI (480 + i49))) hx hb hK hT hg1013 shm_2 rfl (vp_in_nI (by omega) (by decide)) dX12_bringsOf_182 (fun v9 m1027 h9 => ?_)
                    obtain ⟨x1028, rfl, gx1028, kx1028⟩ := (gp_at h9 (w_fre (by have q9 := tn_of (show (nI (480 + i49)).toInt = ((480 + i49 : Nat) : Int) from (nI_toInt (by omega))) (show (0 : Int) ≤ ((480 + i49 : Nat) : Int) from by omega); omega)))
                    refine lv_iload_n hx hb dX12_bringsOf_183 rfl (lv_at hl 3 rfl) ?_
                    have jn1036 : ∀ (z1029 : Int32), ((0 ≤ z1029.toInt ∧ z1029.toInt ≤ 1)) → ∀ (H : Heap) (locs : List Loc), gH (dC, dI) kA (SHm q (wP wN wH wB wC wC wL wK) PI) G H → gF (dC, dI) SKm G ([] : List (Nat × Nat)) s.heap H → va_S A s.heap H locs → el H (q 45) fa.toNatClampNeg = some (.int x4) → el H (q 43) fa.toNatClampNeg = some (.int x999) → el H (q 44) fa.toNatClampNeg = some (.int x1003) → el H (q 1) (nI (672 + i49)).toNatClampNeg = some (.int x1016) → el H (q 1) (nI (480 + i49)).toNatClampNeg = some (.int x1028) → ∀ ls : Array Slot, lv_has ls 8 [(6, .int (nI i49)), (5, .int z924), (4, .int 40), (3, .int z27), (2, .int z12), (0, .ref o0), (1, .int fa)] → W p l e (headSpec w_s_bringsOf ({ frames := 2, cells := 0, slots := 0, locals := 64 })).room s m #[.ref o0, .int fa] below meth c H locs 0 0 (MQ below (va_Qi (fun (r : Int32) (u : Unit) => True) (fun (_ : Unit) (t : State) => gH (dC, dI) kA (SHm q (wP wN wH wB wC wC wL wK) PI) G t.heap ∧ gF (dC, dI) SKm G ([] : List (Nat × Nat)) s.heap t.heap) A) #[.ref o0, .int fa] s 0 0 A) (F0 m 192 ls [.int z1029, .int z1017]) := by
                      intro z1029 h1030 H locs hT hF hS m1031 m1032 m1033 m1034 m1035 ls hl
                      refine lv_iadd hx hb dX12_bringsOf_192 ?_
                      refine lv_topi (fun x1037 ex1037 => ?_)
                      have t1038 : x1037.toInt = z1017.toInt + z1029.toInt := ti_add ex1037 rfl rfl (by omega) (by omega)
                      refine lv_istore (lv' := [(7, .int x1037), (6, .int (nI i49)), (5, .int z924), (4, .int 40), (3, .int z27), (2, .int z12), (0, .ref o0), (1, .int fa)]) hx hb dX12_bringsOf_193 hl (by decide) rfl (fun ls hl => ?_)
                      refine lv_iload hx hb dX12_bringsOf_195 (lv_at hl 2 rfl) ?_
                      refine lv_iload hx hb dX12_bringsOf_197 (lv_at hl 0 rfl) ?_
                      refine lv_if_ne (tgt := 207) hx hb dX12_bringsOf_199 (by decide) (fun c1039 => ?_) (fun c1039 => ?_)
                      · have t1040 : x1037.toInt ≠ 0 := ti_ne c1039 rfl (by decide)
                        refine lv_iload hx hb dX12_bringsOf_207 (lv_at hl 0 rfl) ?_
                        refine lv_iconst (v := 1) hx hb dX12_bringsOf_209 (by decide) ?_
                        refine lv_icmp_ne (tgt := 220) hx hb dX12_bringsOf_210 (by decide) (fun c1041 => ?_) (fun c1041 => ?_)
                        · have t1042 : x1037.toInt ≠ 1 := ti_ne c1041 rfl (by decide)
                          refine lv_iconst (v := 0) hx hb dX12_bringsOf_220 (by decide) ?_
                          refine lv_iadd hx hb dX12_bringsOf_221 ?_
                          refine lv_topi (fun x1043 ex1043 => ?_)
                          have t1044 : -2147483648 ≤ z924.toInt ∧ z924.toInt ≤ 2147483647 := ti_all z924
                          have t1045 : x1043.toInt = z924.toInt + 0 := ti_add ex1043 rfl (by decide) (by omega) (by omega)
                          refine lv_istore (lv' := [(5, .int x1043), (7, .int x1037), (6, .int (nI i49)), (4, .int 40), (3, .int z27), (2, .int z12), (0, .ref o0), (1, .int fa)]) hx hb dX12_bringsOf_222 hl (by decide) rfl (fun ls hl => ?_)
                          refine lv_iinc (v := nI (i49 + 1)) (lv' := [(6, .int (nI (i49 + 1))), (5, .int x1043), (7, .int x1037), (4, .int 40), (3, .int z27), (2, .int z12), (0, .ref o0), (1, .int fa)]) hx hb dX12_bringsOf_224 hl (k := 2) rfl (nI_add i49 1) (by decide) rfl (fun ls hl => ?_)
                          refine lv_goto (tgt := 122) hx hb dX12_bringsOf_227 (by decide) ?_
                          exact ih990 (i49 + 1) (by omega) (by omega) x1043 _ _ hT hF hS m1031 ls (lv_sub hl [0, 1, 3, 4, 5, 6, 7] rfl)
                        · have t1046 : x1037.toInt = 1 := ti_eq c1041 rfl (by decide)
                          refine lv_iload hx hb dX12_bringsOf_213 (lv_at hl 3 rfl) ?_
                          refine lv_iconst (v := 2) hx hb dX12_bringsOf_215 (by decide) ?_
                          refine lv_idiv hx hb dX12_bringsOf_216 (by decide) ?_
                          refine lv_topi (fun x1047 ex1047 => ?_)
                          obtain rfl : x1047 = 20 := ex1047.trans (by decide)
                          refine lv_goto (tgt := 221) hx hb dX12_bringsOf_217 (by decide) ?_
                          refine lv_iadd hx hb dX12_bringsOf_221 ?_
                          refine lv_topi (fun x1048 ex1048 => ?_)
                          refine lv_istore (lv' := [(5, .int x1048), (7, .int x1037), (6, .int (nI i49)), (4, .int 40), (3, .int z27), (2, .int z12), (0, .ref o0), (1, .int fa)]) hx hb dX12_bringsOf_222 hl (by decide) rfl (fun ls hl => ?_)
                          refine lv_iinc (v := nI (i49 + 1)) (lv' := [(6, .int (nI (i49 + 1))), (5, .int x1048), (7, .int x1037), (4, .int 40), (3, .int z27), (2, .int z12), (0, .ref o0), (1, .int fa)]) hx hb dX12_bringsOf_224 hl (k := 2) rfl (nI_add i49 1) (by decide) rfl (fun ls hl => ?_)
                          refine lv_goto (tgt := 122) hx hb dX12_bringsOf_227 (by decide) ?_
                          exact ih990 (i49 + 1) (by omega) (by omega) x1048 _ _ hT hF hS m1031 ls (lv_sub hl [0, 1, 3, 4, 5, 6, 7] rfl)
                      · have t1049 : x1037.toInt = 0 := ti_eq c1039 rfl (by decide)
                        refine lv_iload hx hb dX12_bringsOf_202 (lv_at hl 3 rfl) ?_
                        refine lv_goto (tgt := 221) hx hb dX12_bringsOf_204 (by decide) ?_
                        refine lv_iadd hx hb dX12_bringsOf_221 ?_
                        refine lv_topi (fun x1050 ex1050 => ?_)
                        refine lv_istore (lv' := [(5, .int x1050), (7, .int x1037), (6, .int (nI i49)), (4, .int 40), (3, .int z27), (2, .int z12), (0, .ref o0), (1, .int fa)]) hx hb dX12_bringsOf_222 hl (by decide) rfl (fun ls hl => ?_)
                        refine lv_iinc (v := nI (i49 + 1)) (lv' := [(6, .int (nI (i49 + 1))), (5, .int x1050), (7, .int x1037), (4, .int 40), (3, .int z27), (2, .int z12), (0, .ref o0), (1, .int fa)]) hx hb dX12_bringsOf_224 hl (k := 2) rfl (nI_add i49 1) (by decide) rfl (fun ls hl => ?_)
                        refine lv_goto (tgt := 122) hx hb dX12_bringsOf_227 (by decide) ?_
                        exact ih990 (i49 + 1) (by omega) (by omega) x1050 _ _ hT hF hS m1031 ls (lv_sub hl [0, 1, 3, 4, 5, 6, 7] rfl)
                    refine lv_icmp_le (tgt := 191) hx hb dX12_bringsOf_184 (by decide) (fun c1051 => ?_) (fun c1051 => ?_)
                    · have t1052 : x1028.toInt ≤ z27.toInt := ti_le c1051 rfl rfl
                      refine lv_iconst (v := 0) hx hb dX12_bringsOf_191 (by decide) ?_
                      exact jn1036 0 (rg_t (a := 0) (by decide) (by omega) (by omega)) _ _ hT hF hS m1019 m1020 m1021 m1022 m1027 ls (lv_sub hl [0, 1, 2, 3, 4, 5, 6] rfl)
                    · have t1053 : z27.toInt < x1028.toInt := ti_nle c1051 rfl rfl
                      refine lv_iconst (v := 1) hx hb dX12_bringsOf_187 (by decide) ?_
                      refine lv_goto (tgt := 192) hx hb dX12_bringsOf_188 (by decide) ?_
                      exact jn1036 1 (rg_t (a := 1) (by decide) (by omega) (by omega)) _ _ hT hF hS m1019 m1020 m1021 m1022 m1027 ls (lv_sub hl [0, 1, 2, 3, 4, 5, 6] rfl)
                  refine lv_icmp_le (tgt := 171) hx hb dX12_bringsOf_164 (by decide) (fun c1054 => ?_) (fun c1054 => ?_)
                  · have t1055 : x1016.toInt ≤ z12.toInt := ti_le c1054 rfl rfl
                    refine lv_iconst (v := 0) hx hb dX12_bringsOf_171 (by decide) ?_
                    exact jn1023 0 (rg_t (a := 0) (by decide) (by omega) (by omega)) _ _ hT hF hS m1006 m1007 m1008 m1015 ls (lv_sub hl [0, 1, 2, 3, 4, 5, 6] rfl)
                  · have t1056 : z12.toInt < x1016.toInt := ti_nle c1054 rfl rfl
                    refine lv_iconst (v := 1) hx hb dX12_bringsOf_167 (by decide) ?_
                    refine lv_goto (tgt := 172) hx hb dX12_bringsOf_168 (by decide) ?_
                    exact jn1023 1 (rg_t (a := 1) (by decide) (by omega) (by omega)) _ _ hT hF hS m1006 m1007 m1008 m1015 ls (lv_sub hl [0, 1, 2, 3, 4, 5, 6] rfl)
                · have t1057 : r1004.toInt = 0 := ti_eq c1010 rfl (by decide)
                  refine lv_goto (tgt := 224) hx hb dX12_bringsOf_149 (by decide) ?_
                  refine lv_iinc (v := nI (i49 + 1)) (lv' := [(6, .int (nI (i49 + 1))), (5, .int z924), (4, .int 40), (3, .int z27), (2, .int z12), (0, .ref o0), (1, .int fa)]) hx hb dX12_bringsOf_224 hl (k := 0) rfl (nI_add i49 1) (by decide) rfl (fun ls hl => ?_)
                  refine lv_goto (tgt := 122) hx hb dX12_bringsOf_227 (by decide) ?_
                  exact ih990 (i49 + 1) (by omega) (by omega) z924 _ _ hT hF hS m1006 ls (lv_sub hl [0, 1, 2, 3, 4, 5, 6] rfl)
            exact key990 (96 - 0) 0 (by omega) (Nat.le_refl _) 0 _ _ hT hF hS m29 ls (lv_sub hl [0, 1, 2, 3, 4, 5, 6] rfl)
          · have t1058 : x4.toInt = 2 := ti_eq c47 rfl (by decide)
            refine lv_bipush (v := 50) hx hb dX12_bringsOf_107 (by decide) ?_
            refine lv_goto (tgt := 114) hx hb dX12_bringsOf_109 (by decide) ?_
            refine lv_istore (lv' := [(4, .int 50), (3, .int z27), (2, .int z12), (0, .ref o0), (1, .int fa)]) hx hb dX12_bringsOf_114 hl (by decide) rfl (fun ls hl => ?_)
            refine lv_iconst (v := 0) hx hb dX12_bringsOf_116 (by decide) ?_
            refine lv_istore (lv' := [(5, .int 0), (4, .int 50), (3, .int z27), (2, .int z12), (0, .ref o0), (1, .int fa)]) hx hb dX12_bringsOf_117 hl (by decide) rfl (fun ls hl => ?_)
            refine lv_iconst (v := 0) hx hb dX12_bringsOf_119 (by decide) ?_
            refine lv_istore (lv' := [(6, .int 0), (5, .int 0), (4, .int 50), (3, .int z27), (2, .int z12), (0, .ref o0), (1, .int fa)]) hx hb dX12_bringsOf_120 hl (by decide) rfl (fun ls hl => ?_)
            have key2000 : ∀ (n2000 i1059 : Nat), i1059 + n2000 = 96 → 0 ≤ i1059 → ∀ (z1934 : Int32), ∀ (H : Heap) (locs : List Loc), gH (dC, dI) kA (SHm q (wP wN wH wB wC wC wL wK) PI) G H → gF (dC, dI) SKm G ([] : List (Nat × Nat)) s.heap H → va_S A s.heap H locs → el H (q 45) fa.toNatClampNeg = some (.int x4) → ∀ ls : Array Slot, lv_has ls 8 [(6, .int (nI i1059)), (5, .int z1934), (4, .int 50), (3, .int z27), (2, .int z12), (0, .ref o0), (1, .int fa)] → W p l e (headSpec w_s_bringsOf ({ frames := 2, cells := 0, slots := 0, locals := 64 })).room s m #[.ref o0, .int fa] below meth c H locs 0 0 (MQ below (va_Qi (fun (r : Int32) (u : Unit) => True) (fun (_ : Unit) (t : State) => gH (dC, dI) kA (SHm q (wP wN wH wB wC wC wL wK) PI) G t.heap ∧ gF (dC, dI) SKm G ([] : List (Nat × Nat)) s.heap t.heap) A) #[.ref o0, .int fa] s 0 0 A) (F0 m 122 ls []) := by
              intro n2000
              induction n2000 with
              | zero =>
                intro i1059 hn2000 hlo2001 z1934 H locs hT hF hS m1935 ls hl
                obtain rfl : 96 = i1059 := by omega
                refine lv_iload hx hb dX12_bringsOf_122 (lv_at hl 0 rfl) ?_
                refine lv_bipush (v := 96) hx hb dX12_bringsOf_124 (by decide) ?_
                refine lv_icmp_ge (tgt := 230) hx hb dX12_bringsOf_126 (by decide) (fun c2002 => ?_) (fun c2002 => (by exfalso; have q9 : ((96 : Nat) : Int) < 96 := ti_nle c2002 (by decide) (nI_toInt (by omega)); omega))
                have t2003 : 96 ≤ ((96 : Nat) : Int) := ti_le c2002 (by decide) (nI_toInt (by omega))
                refine lv_iload hx hb dX12_bringsOf_230 (lv_at hl 1 rfl) ?_
                exact W.iret (v := z1934) hx hb hr (fun t ht hW => ⟨⟨z1934, (), rfl, (by exact trivial), by (try dsimp only); rw [ht]; exact ⟨hT, hF⟩⟩, hS.F ht⟩) hS.2.2 dX12_bringsOf_232
              | succ n2000 ih2000 =>
                intro i1059 hn2000 hlo2001 z1934 H locs hT hF hS m1935 ls hl
                have hlt2003 : i1059 < 96 := by omega
                refine lv_iload hx hb dX12_bringsOf_122 (lv_at hl 0 rfl) ?_
                refine lv_bipush (v := 96) hx hb dX12_bringsOf_124 (by decide) ?_
                refine lv_icmp_ge (tgt := 230) hx hb dX12_bringsOf_126 (by decide) (fun c2004 => (by exfalso; have q9 : 96 ≤ ((i1059 : Nat) : Int) := ti_le c2004 (by decide) (nI_toInt (by omega)); omega)) (fun c2004 => ?_)
                have t2005 : ((i1059 : Nat) : Int) < 96 := ti_nle c2004 (by decide) (nI_toInt (by omega))
                refine lv_iload hx hb dX12_bringsOf_129 (lv_at hl 0 rfl) ?_
                refine lv_aload_n hx hb dX12_bringsOf_131 rfl (lv_at hl 5 rfl) ?_
                refine tw_get hx hb hts bF_X12 hown hK hT hr_o0 shm_0 rfl 43 (by decide) (ht_at hts 1 rfl) (fun _ h9 => h9) dX12_bringsOf_132 (fun v9 m2006 h9 => ?_)
                obtain ⟨rfl, hg2007⟩ := h9 _ rfl
                refine lv_iload_n hx hb dX12_bringsOf_135 rfl (lv_at hl 6 rfl) ?_
                refine tw_iald (i := fa) hx hb hK hT hg2007 shm_44 rfl (vin_t (a := fa.toInt) rfl (by omega) (by omega)) dX12_bringsOf_136 (fun v9 m2008 h9 => ?_)
                obtain ⟨x2009, rfl, gx2009, kx2009⟩ := h9
                refine lv_aload_n hx hb dX12_bringsOf_137 rfl (lv_at hl 5 rfl) ?_
                refine tw_get hx hb hts bF_X12 hown hK hT hr_o0 shm_0 rfl 44 (by decide) (ht_at hts 2 rfl) (fun _ h9 => h9) dX12_bringsOf_138 (fun v9 m2010 h9 => ?_)
                obtain ⟨rfl, hg2011⟩ := h9 _ rfl
                refine lv_iload_n hx hb dX12_bringsOf_141 rfl (lv_at hl 6 rfl) ?_
                refine tw_iald (i := fa) hx hb hK hT hg2011 shm_45 rfl (vin_t (a := fa.toInt) rfl (by omega) (by omega)) dX12_bringsOf_142 (fun v9 m2012 h9 => ?_)
                obtain ⟨x2013, rfl, gx2013, kx2013⟩ := h9
                have hFc := gA_free hG hA hS
                refine va_calli (va_runS (As := [.int (nI i1059), .int x2009, .int x2013]) (rest := []) ⟨hx, hb, hml, hown, hts⟩ (s_isIn l dC dI kA G H q wN wH wB wC wL wK PI (nI i1059) x2009 x2013 hT (by omega) (by omega) (by omega) (by omega)) (va_cwS 3 hts (goodIn_app (goodIn_r _ [16, 17, 15] (by decide +kernel) (by decide +kernel)) (goodIn_ca (goodIn_r _ [4, 5, 6, 7, 8, 9, 10, 11, 12, 13, 14, 15] (by decide +kernel) (by decide +kernel)) (bs_in _ _))) rfl rfl rfl (by decide +kernel) ⟨(Nat.le_of_ble_eq_true rfl), (Nat.le_of_ble_eq_true rfl)⟩) ⟨fun a U g mk q => by obtain ⟨q0, q1, qK, qE⟩ := q; exact ⟨q0, q1, va_K.moved (u := U) (U := U.calling g mk a) (Vm.Alike.refl U.vm) qK, EV.blind g mk a qE⟩, fun U hU hW => ⟨rfl, hU, va_K.moved hW.alike hK, hE.call hS hFc hU hW⟩⟩ rfl rfl hl.1 rfl (lv_room (Nat.le_of_ble_eq_true rfl)) dX12_bringsOf_143 ⟨(Nat.le_of_ble_eq_true rfl), (Nat.le_of_ble_eq_true rfl)⟩) hS (fun q _ h => hFc q h) hFc (fun r2014 u t H locs ht hvm hw2015 hB _ _ hS => ?_)
                obtain ⟨hT, hF1⟩ := hB
                rw [ht] at hT hF1
                have m2016 := (el_kept (hF1.arr hg2 skm_46 (by decide))).trans m1935
                have m2017 := (el_kept (hF1.arr hg2007 skm_44 (by decide))).trans m2008
                have m2018 := (el_kept (hF1.arr hg2011 skm_45 (by decide))).trans m2012
                have hF := hF.more hF1 (by decide)
                try dsimp only at hw2015
                have h2019 := hw2015
                refine lv_if_ne (tgt := 152) hx hb dX12_bringsOf_146 (by decide) (fun c2020 => ?_) (fun c2020 => ?_)
                · have t2021 : r2014.toInt ≠ 0 := ti_ne c2020 rfl (by decide)
                  refine lv_aload_n hx hb dX12_bringsOf_152 rfl (lv_at hl 5 rfl) ?_
                  refine tw_get hx hb hts bF_X12 hown hK hT hr_o0 shm_0 rfl 1 (by decide) (ht_at hts 17 rfl) (fun _ h9 => h9) dX12_bringsOf_153 (fun v9 m2022 h9 => ?_)
                  obtain ⟨rfl, hg2023⟩ := h9 _ rfl
                  refine lv_sipush (v := 672) hx hb dX12_bringsOf_156 (by decide) ?_
                  refine lv_iload hx hb dX12_bringsOf_159 (lv_at hl 0 rfl) ?_
                  refine lv_iadd hx hb dX12_bringsOf_161 ?_
                  refine lv_topi (fun x2024 ex2024 => ?_)
                  obtain rfl : nI (672 + i1059) = x2024 := (ex2024.trans (nI_add 672 i1059)).symm
                  refine tw_iald (i := (nI (672 + i1059))) hx hb hK hT hg2023 shm_2 rfl (vp_in_nI (by omega) (by decide)) dX12_bringsOf_162 (fun v9 m2025 h9 => ?_)
                  obtain ⟨x2026, rfl, gx2026, kx2026⟩ := (gp_at h9 (w_fre (by have q9 := tn_of (show (nI (672 + i1059)).toInt = ((672 + i1059 : Nat) : Int) from (nI_toInt (by omega))) (show (0 : Int) ≤ ((672 + i1059 : Nat) : Int) from by omega); omega)))
                  refine lv_iload_n hx hb dX12_bringsOf_163 rfl (lv_at hl 4 rfl) ?_
                  have jn2033 : ∀ (z2027 : Int32), ((0 ≤ z2027.toInt ∧ z2027.toInt ≤ 1)) → ∀ (H : Heap) (locs : List Loc), gH (dC, dI) kA (SHm q (wP wN wH wB wC wC wL wK) PI) G H → gF (dC, dI) SKm G ([] : List (Nat × Nat)) s.heap H → va_S A s.heap H locs → el H (q 45) fa.toNatClampNeg = some (.int x4) → el H (q 43) fa.toNatClampNeg = some (.int x2009) → el H (q 44) fa.toNatClampNeg = some (.int x2013) → el H (q 1) (nI (672 + i1059)).toNatClampNeg = some (.int x2026) → ∀ ls : Array Slot, lv_has ls 8 [(6, .int (nI i1059)), (5, .int z1934), (4, .int 50), (3, .int z27), (2, .int z12), (0, .ref o0), (1, .int fa)] → W p l e (headSpec w_s_bringsOf ({ frames := 2, cells := 0, slots := 0, locals := 64 })).room s m #[.ref o0, .int fa] below meth c H locs 0 0 (MQ below (va_Qi (fun (r : Int32) (u : Unit) => True) (fun (_ : Unit) (t : State) => gH (dC, dI) kA (SHm q (wP wN wH wB wC wC wL wK) PI) G t.heap ∧ gF (dC, dI) SKm G ([] : List (Nat × Nat)) s.heap t.heap) A) #[.ref o0, .int fa] s 0 0 A) (F0 m 172 ls [.int z2027]) := by
                    intro z2027 h2028 H locs hT hF hS m2029 m2030 m2031 m2032 ls hl
                    refine lv_aload_n hx hb dX12_bringsOf_172 rfl (lv_at hl 5 rfl) ?_
                    refine tw_get hx hb hts bF_X12 hown hK hT hr_o0 shm_0 rfl 1 (by decide) (ht_at hts 17 rfl) (fun _ h9 => h9) dX12_bringsOf_173 (fun v9 m2034 h9 => ?_)
                    obtain ⟨rfl, hg2035⟩ := h9 _ rfl
                    refine lv_sipush (v := 480) hx hb dX12_bringsOf_176 (by decide) ?_
                    refine lv_iload hx hb dX12_bringsOf_179 (lv_at hl 0 rfl) ?_
                    refine lv_iadd hx hb dX12_bringsOf_181 ?_
                    refine lv_topi (fun x2036 ex2036 => ?_)
                    obtain rfl : nI (480 + i1059) = x2036 := (ex2036.trans (nI_add 480 i1059)).symm
                    refine tw_iald (i := (nI (480 + i1059))) hx hb hK hT hg2023 shm_2 rfl (vp_in_nI (by omega) (by decide)) dX12_bringsOf_182 (fun v9 m2037 h9 => ?_)
                    obtain ⟨x2038, rfl, gx2038, kx2038⟩ := (gp_at h9 (w_fre (by have q9 := tn_of (show (nI (480 + i1059)).toInt = ((480 + i1059 : Nat) : Int) from (nI_toInt (by omega))) (show (0 : Int) ≤ ((480 + i1059 : Nat) : Int) from by omega); omega)))
                    refine lv_iload_n hx hb dX12_bringsOf_183 rfl (lv_at hl 3 rfl) ?_
                    have jn2046 : ∀ (z2039 : Int32), ((0 ≤ z2039.toInt ∧ z2039.toInt ≤ 1)) → ∀ (H : Heap) (locs : List Loc), gH (dC, dI) kA (SHm q (wP wN wH wB wC wC wL wK) PI) G H → gF (dC, dI) SKm G ([] : List (Nat × Nat)) s.heap H → va_S A s.heap H locs → el H (q 45) fa.toNatClampNeg = some (.int x4) → el H (q 43) fa.toNatClampNeg = some (.int x2009) → el H (q 44) fa.toNatClampNeg = some (.int x2013) → el H (q 1) (nI (672 + i1059)).toNatClampNeg = some (.int x2026) → el H (q 1) (nI (480 + i1059)).toNatClampNeg = some (.int x2038) → ∀ ls : Array Slot, lv_has ls 8 [(6, .int (nI i1059)), (5, .int z1934), (4, .int 50), (3, .int z27), (2, .int z12), (0, .ref o0), (1, .int fa)] → W p l e (headSpec w_s_bringsOf ({ frames := 2, cells := 0, slots := 0, locals := 64 })).room s m #[.ref o0, .int fa] below meth c H locs 0 0 (MQ below (va_Qi (fun (r : Int32) (u : Unit) => True) (fun (_ : Unit) (t : State) => gH (dC, dI) kA (SHm q (wP wN wH wB wC wC wL wK) PI) G t.heap ∧ gF (dC, dI) SKm G ([] : List (Nat × Nat)) s.heap t.heap) A) #[.ref o0, .int fa] s 0 0 A) (F0 m 192 ls [.int z2039, .int z2027]) := by
                      intro z2039 h2040 H locs hT hF hS m2041 m2042 m2043 m2044 m2045 ls hl
                      refine lv_iadd hx hb dX12_bringsOf_192 ?_
                      refine lv_topi (fun x2047 ex2047 => ?_)
                      have t2048 : x2047.toInt = z2027.toInt + z2039.toInt := ti_add ex2047 rfl rfl (by omega) (by omega)
                      refine lv_istore (lv' := [(7, .int x2047), (6, .int (nI i1059)), (5, .int z1934), (4, .int 50), (3, .int z27), (2, .int z12), (0, .ref o0), (1, .int fa)]) hx hb dX12_bringsOf_193 hl (by decide) rfl (fun ls hl => ?_)
                      refine lv_iload hx hb dX12_bringsOf_195 (lv_at hl 2 rfl) ?_
                      refine lv_iload hx hb dX12_bringsOf_197 (lv_at hl 0 rfl) ?_
                      refine lv_if_ne (tgt := 207) hx hb dX12_bringsOf_199 (by decide) (fun c2049 => ?_) (fun c2049 => ?_)
                      · have t2050 : x2047.toInt ≠ 0 := ti_ne c2049 rfl (by decide)
                        refine lv_iload hx hb dX12_bringsOf_207 (lv_at hl 0 rfl) ?_
                        refine lv_iconst (v := 1) hx hb dX12_bringsOf_209 (by decide) ?_
                        refine lv_icmp_ne (tgt := 220) hx hb dX12_bringsOf_210 (by decide) (fun c2051 => ?_) (fun c2051 => ?_)
                        · have t2052 : x2047.toInt ≠ 1 := ti_ne c2051 rfl (by decide)
                          refine lv_iconst (v := 0) hx hb dX12_bringsOf_220 (by decide) ?_
                          refine lv_iadd hx hb dX12_bringsOf_221 ?_
                          refine lv_topi (fun x2053 ex2053 => ?_)
                          have t2054 : -2147483648 ≤ z1934.toInt ∧ z1934.toInt ≤ 2147483647 := ti_all z1934
                          have t2055 : x2053.toInt = z1934.toInt + 0 := ti_add ex2053 rfl (by decide) (by omega) (by omega)
                          refine lv_istore (lv' := [(5, .int x2053), (7, .int x2047), (6, .int (nI i1059)), (4, .int 50), (3, .int z27), (2, .int z12), (0, .ref o0), (1, .int fa)]) hx hb dX12_bringsOf_222 hl (by decide) rfl (fun ls hl => ?_)
                          refine lv_iinc (v := nI (i1059 + 1)) (lv' := [(6, .int (nI (i1059 + 1))), (5, .int x2053), (7, .int x2047), (4, .int 50), (3, .int z27), (2, .int z12), (0, .ref o0), (1, .int fa)]) hx hb dX12_bringsOf_224 hl (k := 2) rfl (nI_add i1059 1) (by decide) rfl (fun ls hl => ?_)
                          refine lv_goto (tgt := 122) hx hb dX12_bringsOf_227 (by decide) ?_
                          exact ih2000 (i1059 + 1) (by omega) (by omega) x2053 _ _ hT hF hS m2041 ls (lv_sub hl [0, 1, 3, 4, 5, 6, 7] rfl)
                        · have t2056 : x2047.toInt = 1 := ti_eq c2051 rfl (by decide)
                          refine lv_iload hx hb dX12_bringsOf_213 (lv_at hl 3 rfl) ?_
                          refine lv_iconst (v := 2) hx hb dX12_bringsOf_215 (by decide) ?_
                          refine lv_idiv hx hb dX12_bringsOf_216 (by decide) ?_
                          refine lv_topi (fun x2057 ex2057 => ?_)
                          obtain rfl : x2057 = 25 := ex2057.trans (by decide)
                          refine lv_goto (tgt := 221) hx hb dX12_bringsOf_217 (by decide) ?_
                          refine lv_iadd hx hb dX12_bringsOf_221 ?_
                          refine lv_topi (fun x2058 ex2058 => ?_)
                          refine lv_istore (lv' := [(5, .int x2058), (7, .int x2047), (6, .int (nI i1059)), (4, .int 50), (3, .int z27), (2, .int z12), (0, .ref o0), (1, .int fa)]) hx hb dX12_bringsOf_222 hl (by decide) rfl (fun ls hl => ?_)
                          refine lv_iinc (v := nI (i1059 + 1)) (lv' := [(6, .int (nI (i1059 + 1))), (5, .int x2058), (7, .int x2047), (4, .int 50), (3, .int z27), (2, .int z12), (0, .ref o0), (1, .int fa)]) hx hb dX12_bringsOf_224 hl (k := 2) rfl (nI_add i1059 1) (by decide) rfl (fun ls hl => ?_)
                          refine lv_goto (tgt := 122) hx hb dX12_bringsOf_227 (by decide) ?_
                          exact ih2000 (i1059 + 1) (by omega) (by omega) x2058 _ _ hT hF hS m2041 ls (lv_sub hl [0, 1, 3, 4, 5, 6, 7] rfl)
                      · have t2059 : x2047.toInt = 0 := ti_eq c2049 rfl (by decide)
                        refine lv_iload hx hb dX12_bringsOf_202 (lv_at hl 3 rfl) ?_
                        refine lv_goto (tgt := 221) hx hb dX12_bringsOf_204 (by decide) ?_
                        refine lv_iadd hx hb dX12_bringsOf_221 ?_
                        refine lv_topi (fun x2060 ex2060 => ?_)
                        refine lv_istore (lv' := [(5, .int x2060), (7, .int x2047), (6, .int (nI i1059)), (4, .int 50), (3, .int z27), (2, .int z12), (0, .ref o0), (1, .int fa)]) hx hb dX12_bringsOf_222 hl (by decide) rfl (fun ls hl => ?_)
                        refine lv_iinc (v := nI (i1059 + 1)) (lv' := [(6, .int (nI (i1059 + 1))), (5, .int x2060), (7, .int x2047), (4, .int 50), (3, .int z27), (2, .int z12), (0, .ref o0), (1, .int fa)]) hx hb dX12_bringsOf_224 hl (k := 2) rfl (nI_add i1059 1) (by decide) rfl (fun ls hl => ?_)
                        refine lv_goto (tgt := 122) hx hb dX12_bringsOf_227 (by decide) ?_
                        exact ih2000 (i1059 + 1) (by omega) (by omega) x2060 _ _ hT hF hS m2041 ls (lv_sub hl [0, 1, 3, 4, 5, 6, 7] rfl)
                    refine lv_icmp_le (tgt := 191) hx hb dX12_bringsOf_184 (by decide) (fun c2061 => ?_) (fun c2061 => ?_)
                    · have t2062 : x2038.toInt ≤ z27.toInt := ti_le c2061 rfl rfl
                      refine lv_iconst (v := 0) hx hb dX12_bringsOf_191 (by decide) ?_
                      exact jn2046 0 (rg_t (a := 0) (by decide) (by omega) (by omega)) _ _ hT hF hS m2029 m2030 m2031 m2032 m2037 ls (lv_sub hl [0, 1, 2, 3, 4, 5, 6] rfl)
                    · have t2063 : z27.toInt < x2038.toInt := ti_nle c2061 rfl rfl
                      refine lv_iconst (v := 1) hx hb dX12_bringsOf_187 (by decide) ?_
                      refine lv_goto (tgt := 192) hx hb dX12_bringsOf_188 (by decide) ?_
                      exact jn2046 1 (rg_t (a := 1) (by decide) (by omega) (by omega)) _ _ hT hF hS m2029 m2030 m2031 m2032 m2037 ls (lv_sub hl [0, 1, 2, 3, 4, 5, 6] rfl)
                  refine lv_icmp_le (tgt := 171) hx hb dX12_bringsOf_164 (by decide) (fun c2064 => ?_) (fun c2064 => ?_)
                  · have t2065 : x2026.toInt ≤ z12.toInt := ti_le c2064 rfl rfl
                    refine lv_iconst (v := 0) hx hb dX12_bringsOf_171 (by decide) ?_
                    exact jn2033 0 (rg_t (a := 0) (by decide) (by omega) (by omega)) _ _ hT hF hS m2016 m2017 m2018 m2025 ls (lv_sub hl [0, 1, 2, 3, 4, 5, 6] rfl)
                  · have t2066 : z12.toInt < x2026.toInt := ti_nle c2064 rfl rfl
                    refine lv_iconst (v := 1) hx hb dX12_bringsOf_167 (by decide) ?_
                    refine lv_goto (tgt := 172) hx hb dX12_bringsOf_168 (by decide) ?_
                    exact jn2033 1 (rg_t (a := 1) (by decide) (by omega) (by omega)) _ _ hT hF hS m2016 m2017 m2018 m2025 ls (lv_sub hl [0, 1, 2, 3, 4, 5, 6] rfl)
                · have t2067 : r2014.toInt = 0 := ti_eq c2020 rfl (by decide)
                  refine lv_goto (tgt := 224) hx hb dX12_bringsOf_149 (by decide) ?_
                  refine lv_iinc (v := nI (i1059 + 1)) (lv' := [(6, .int (nI (i1059 + 1))), (5, .int z1934), (4, .int 50), (3, .int z27), (2, .int z12), (0, .ref o0), (1, .int fa)]) hx hb dX12_bringsOf_224 hl (k := 0) rfl (nI_add i1059 1) (by decide) rfl (fun ls hl => ?_)
                  refine lv_goto (tgt := 122) hx hb dX12_bringsOf_227 (by decide) ?_
                  exact ih2000 (i1059 + 1) (by omega) (by omega) z1934 _ _ hT hF hS m2016 ls (lv_sub hl [0, 1, 2, 3, 4, 5, 6] rfl)
            exact key2000 (96 - 0) 0 (by omega) (Nat.le_refl _) 0 _ _ hT hF hS m29 ls (lv_sub hl [0, 1, 2, 3, 4, 5, 6] rfl)
        · have t2068 : x4.toInt = 1 := ti_eq c41 rfl (by decide)
          refine lv_bipush (v := 20) hx hb dX12_bringsOf_92 (by decide) ?_
          refine lv_goto (tgt := 114) hx hb dX12_bringsOf_94 (by decide) ?_
          refine lv_istore (lv' := [(4, .int 20), (3, .int z27), (2, .int z12), (0, .ref o0), (1, .int fa)]) hx hb dX12_bringsOf_114 hl (by decide) rfl (fun ls hl => ?_)
          refine lv_iconst (v := 0) hx hb dX12_bringsOf_116 (by decide) ?_
          refine lv_istore (lv' := [(5, .int 0), (4, .int 20), (3, .int z27), (2, .int z12), (0, .ref o0), (1, .int fa)]) hx hb dX12_bringsOf_117 hl (by decide) rfl (fun ls hl => ?_)
          refine lv_iconst (v := 0) hx hb dX12_bringsOf_119 (by decide) ?_
          refine lv_istore (lv' := [(6, .int 0), (5, .int 0), (4, .int 20), (3, .int z27), (2, .int z12), (0, .ref o0), (1, .int fa)]) hx hb dX12_bringsOf_120 hl (by decide) rfl (fun ls hl => ?_)
          have key3146 : ∀ (n3146 i2069 : Nat), i2069 + n3146 = 96 → 0 ≤ i2069 → ∀ (z3080 : Int32), ∀ (H : Heap) (locs : List Loc), gH (dC, dI) kA (SHm q (wP wN wH wB wC wC wL wK) PI) G H → gF (dC, dI) SKm G ([] : List (Nat × Nat)) s.heap H → va_S A s.heap H locs → el H (q 45) fa.toNatClampNeg = some (.int x4) → ∀ ls : Array Slot, lv_has ls 8 [(6, .int (nI i2069)), (5, .int z3080), (4, .int 20), (3, .int z27), (2, .int z12), (0, .ref o0), (1, .int fa)] → W p l e (headSpec w_s_bringsOf ({ frames := 2, cells := 0, slots := 0, locals := 64 })).room s m #[.ref o0, .int fa] below meth c H locs 0 0 (MQ below (va_Qi (fun (r : Int32) (u : Unit) => True) (fun (_ : Unit) (t : State) => gH (dC, dI) kA (SHm q (wP wN wH wB wC wC wL wK) PI) G t.heap ∧ gF (dC, dI) SKm G ([] : List (Nat × Nat)) s.heap t.heap) A) #[.ref o0, .int fa] s 0 0 A) (F0 m 122 ls []) := by
            intro n3146
            induction n3146 with
            | zero =>
              intro i2069 hn3146 hlo3147 z3080 H locs hT hF hS m3081 ls hl
              obtain rfl : 96 = i2069 := by omega
              refine lv_iload hx hb dX12_bringsOf_122 (lv_at hl 0 rfl) ?_
              refine lv_bipush (v := 96) hx hb dX12_bringsOf_124 (by decide) ?_
              refine lv_icmp_ge (tgt := 230) hx hb dX12_bringsOf_126 (by decide) (fun c3148 => ?_) (fun c3148 => (by exfalso; have q9 : ((96 : Nat) : Int) < 96 := ti_nle c3148 (by decide) (nI_toInt (by omega)); omega))
              have t3149 : 96 ≤ ((96 : Nat) : Int) := ti_le c3148 (by decide) (nI_toInt (by omega))
              refine lv_iload hx hb dX12_bringsOf_230 (lv_at hl 1 rfl) ?_
              exact W.iret (v := z3080) hx hb hr (fun t ht hW => ⟨⟨z3080, (), rfl, (by exact trivial), by (try dsimp only); rw [ht]; exact ⟨hT, hF⟩⟩, hS.F ht⟩) hS.2.2 dX12_bringsOf_232
            | succ n3146 ih3146 =>
              intro i2069 hn3146 hlo3147 z3080 H locs hT hF hS m3081 ls hl
              have hlt3149 : i2069 < 96 := by omega
              refine lv_iload hx hb dX12_bringsOf_122 (lv_at hl 0 rfl) ?_
              refine lv_bipush (v := 96) hx hb dX12_bringsOf_124 (by decide) ?_
              refine lv_icmp_ge (tgt := 230) hx hb dX12_bringsOf_126 (by decide) (fun c3150 => (by exfalso; have q9 : 96 ≤ ((i2069 : Nat) : Int) := ti_le c3150 (by decide) (nI_toInt (by omega)); omega)) (fun c3150 => ?_)
              have t3151 : ((i2069 : Nat) : Int) < 96 := ti_nle c3150 (by decide) (nI_toInt (by omega))
              refine lv_iload hx hb dX12_bringsOf_129 (lv_at hl 0 rfl) ?_
              refine lv_aload_n hx hb dX12_bringsOf_131 rfl (lv_at hl 5 rfl) ?_
              refine tw_get hx hb hts bF_X12 hown hK hT hr_o0 shm_0 rfl 43 (by decide) (ht_at hts 1 rfl) (fun _ h9 => h9) dX12_bringsOf_132 (fun v9 m3152 h9 => ?_)
              obtain ⟨rfl, hg3153⟩ := h9 _ rfl
              refine lv_iload_n hx hb dX12_bringsOf_135 rfl (lv_at hl 6 rfl) ?_
              refine tw_iald (i := fa) hx hb hK hT hg3153 shm_44 rfl (vin_t (a := fa.toInt) rfl (by omega) (by omega)) dX12_bringsOf_136 (fun v9 m3154 h9 => ?_)
              obtain ⟨x3155, rfl, gx3155, kx3155⟩ := h9
              refine lv_aload_n hx hb dX12_bringsOf_137 rfl (lv_at hl 5 rfl) ?_
              refine tw_get hx hb hts bF_X12 hown hK hT hr_o0 shm_0 rfl 44 (by decide) (ht_at hts 2 rfl) (fun _ h9 => h9) dX12_bringsOf_138 (fun v9 m3156 h9 => ?_)
              obtain ⟨rfl, hg3157⟩ := h9 _ rfl
              refine lv_iload_n hx hb dX12_bringsOf_141 rfl (lv_at hl 6 rfl) ?_
              refine tw_iald (i := fa) hx hb hK hT hg3157 shm_45 rfl (vin_t (a := fa.toInt) rfl (by omega) (by omega)) dX12_bringsOf_142 (fun v9 m3158 h9 => ?_)
              obtain ⟨x3159, rfl, gx3159, kx3159⟩ := h9
              have hFc := gA_free hG hA hS
              refine va_calli (va_runS (As := [.int (nI i2069), .int x3155, .int x3159]) (rest := []) ⟨hx, hb, hml, hown, hts⟩ (s_isIn l dC dI kA G H q wN wH wB wC wL wK PI (nI i2069) x3155 x3159 hT (by omega) (by omega) (by omega) (by omega)) (va_cwS 3 hts (goodIn_app (goodIn_r _ [16, 17, 15] (by decide +kernel) (by decide +kernel)) (goodIn_ca (goodIn_r _ [4, 5, 6, 7, 8, 9, 10, 11, 12, 13, 14, 15] (by decide +kernel) (by decide +kernel)) (bs_in _ _))) rfl rfl rfl (by decide +kernel) ⟨(Nat.le_of_ble_eq_true rfl), (Nat.le_of_ble_eq_true rfl)⟩) ⟨fun a U g mk q => by obtain ⟨q0, q1, qK, qE⟩ := q; exact ⟨q0, q1, va_K.moved (u := U) (U := U.calling g mk a) (Vm.Alike.refl U.vm) qK, EV.blind g mk a qE⟩, fun U hU hW => ⟨rfl, hU, va_K.moved hW.alike hK, hE.call hS hFc hU hW⟩⟩ rfl rfl hl.1 rfl (lv_room (Nat.le_of_ble_eq_true rfl)) dX12_bringsOf_143 ⟨(Nat.le_of_ble_eq_true rfl), (Nat.le_of_ble_eq_true rfl)⟩) hS (fun q _ h => hFc q h) hFc (fun r3160 u t H locs ht hvm hw3161 hB _ _ hS => ?_)
              obtain ⟨hT, hF1⟩ := hB
              rw [ht] at hT hF1
              have m3162 := (el_kept (hF1.arr hg2 skm_46 (by decide))).trans m3081
              have m3163 := (el_kept (hF1.arr hg3153 skm_44 (by decide))).trans m3154
              have m3164 := (el_kept (hF1.arr hg3157 skm_45 (by decide))).trans m3158
              have hF := hF.more hF1 (by decide)
              try dsimp only at hw3161
              have h3165 := hw3161
              refine lv_if_ne (tgt := 152) hx hb dX12_bringsOf_146 (by decide) (fun c3166 => ?_) (fun c3166 => ?_)
              · have t3167 : r3160.toInt ≠ 0 := ti_ne c3166 rfl (by decide)
                refine lv_aload_n hx hb dX12_bringsOf_152 rfl (lv_at hl 5 rfl) ?_
                refine tw_get hx hb hts bF_X12 hown hK hT hr_o0 shm_0 rfl 1 (by decide) (ht_at hts 17 rfl) (fun _ h9 => h9) dX12_bringsOf_153 (fun v9 m3168 h9 => ?_)
                obtain ⟨rfl, hg3169⟩ := h9 _ rfl
                refine lv_sipush (v := 672) hx hb dX12_bringsOf_156 (by decide) ?_
                refine lv_iload hx hb dX12_bringsOf_159 (lv_at hl 0 rfl) ?_
                refine lv_iadd hx hb dX12_bringsOf_161 ?_
                refine lv_topi (fun x3170 ex3170 => ?_)
                obtain rfl : nI (672 + i2069) = x3170 := (ex3170.trans (nI_add 672 i2069)).symm
                refine tw_iald (i := (nI (672 + i2069))) hx hb hK hT hg3169 shm_2 rfl (vp_in_nI (by omega) (by decide)) dX12_bringsOf_162 (fun v9 m3171 h9 => ?_)
                obtain ⟨x3172, rfl, gx3172, kx3172⟩ := (gp_at h9 (w_fre (by have q9 := tn_of (show (nI (672 + i2069)).toInt = ((672 + i2069 : Nat) : Int) from (nI_toInt (by omega))) (show (0 : Int) ≤ ((672 + i2069 : Nat) : Int) from by omega); omega)))
                refine lv_iload_n hx hb dX12_bringsOf_163 rfl (lv_at hl 4 rfl) ?_
                have jn3179 : ∀ (z3173 : Int32), ((0 ≤ z3173.toInt ∧ z3173.toInt ≤ 1)) → ∀ (H : Heap) (locs : List Loc), gH (dC, dI) kA (SHm q (wP wN wH wB wC wC wL wK) PI) G H → gF (dC, dI) SKm G ([] : List (Nat × Nat)) s.heap H → va_S A s.heap H locs → el H (q 45) fa.toNatClampNeg = some (.int x4) → el H (q 43) fa.toNatClampNeg = some (.int x3155) → el H (q 44) fa.toNatClampNeg = some (.int x3159) → el H (q 1) (nI (672 + i2069)).toNatClampNeg = some (.int x3172) → ∀ ls : Array Slot, lv_has ls 8 [(6, .int (nI i2069)), (5, .int z3080), (4, .int 20), (3, .int z27), (2, .int z12), (0, .ref o0), (1, .int fa)] → W p l e (headSpec w_s_bringsOf ({ frames := 2, cells := 0, slots := 0, locals := 64 })).room s m #[.ref o0, .int fa] below meth c H locs 0 0 (MQ below (va_Qi (fun (r : Int32) (u : Unit) => True) (fun (_ : Unit) (t : State) => gH (dC, dI) kA (SHm q (wP wN wH wB wC wC wL wK) PI) G t.heap ∧ gF (dC, dI) SKm G ([] : List (Nat × Nat)) s.heap t.heap) A) #[.ref o0, .int fa] s 0 0 A) (F0 m 172 ls [.int z3173]) := by
                  intro z3173 h3174 H locs hT hF hS m3175 m3176 m3177 m3178 ls hl
                  refine lv_aload_n hx hb dX12_bringsOf_172 rfl (lv_at hl 5 rfl) ?_
                  refine tw_get hx hb hts bF_X12 hown hK hT hr_o0 shm_0 rfl 1 (by decide) (ht_at hts 17 rfl) (fun _ h9 => h9) dX12_bringsOf_173 (fun v9 m3180 h9 => ?_)
                  obtain ⟨rfl, hg3181⟩ := h9 _ rfl
                  refine lv_sipush (v := 480) hx hb dX12_bringsOf_176 (by decide) ?_
                  refine lv_iload hx hb dX12_bringsOf_179 (lv_at hl 0 rfl) ?_
                  refine lv_iadd hx hb dX12_bringsOf_181 ?_
                  refine lv_topi (fun x3182 ex3182 => ?_)
                  obtain rfl : nI (480 + i2069) = x3182 := (ex3182.trans (nI_add 480 i2069)).symm
                  refine tw_iald (i := (nI (480 + i2069))) hx hb hK hT hg3169 shm_2 rfl (vp_in_nI (by omega) (by decide)) dX12_bringsOf_182 (fun v9 m3183 h9 => ?_)
                  obtain ⟨x3184, rfl, gx3184, kx3184⟩ := (gp_at h9 (w_fre (by have q9 := tn_of (show (nI (480 + i2069)).toInt = ((480 + i2069 : Nat) : Int) from (nI_toInt (by omega))) (show (0 : Int) ≤ ((480 + i2069 : Nat) : Int) from by omega); omega)))
                  refine lv_iload_n hx hb dX12_bringsOf_183 rfl (lv_at hl 3 rfl) ?_
                  have jn3192 : ∀ (z3185 : Int32), ((0 ≤ z3185.toInt ∧ z3185.toInt ≤ 1)) → ∀ (H : Heap) (locs : List Loc), gH (dC, dI) kA (SHm q (wP wN wH wB wC wC wL wK) PI) G H → gF (dC, dI) SKm G ([] : List (Nat × Nat)) s.heap H → va_S A s.heap H locs → el H (q 45) fa.toNatClampNeg = some (.int x4) → el H (q 43) fa.toNatClampNeg = some (.int x3155) → el H (q 44) fa.toNatClampNeg = some (.int x3159) → el H (q 1) (nI (672 + i2069)).toNatClampNeg = some (.int x3172) → el H (q 1) (nI (480 + i2069)).toNatClampNeg = some (.int x3184) → ∀ ls : Array Slot, lv_has ls 8 [(6, .int (nI i2069)), (5, .int z3080), (4, .int 20), (3, .int z27), (2, .int z12), (0, .ref o0), (1, .int fa)] → W p l e (headSpec w_s_bringsOf ({ frames := 2, cells := 0, slots := 0, locals := 64 })).room s m #[.ref o0, .int fa] below meth c H locs 0 0 (MQ below (va_Qi (fun (r : Int32) (u : Unit) => True) (fun (_ : Unit) (t : State) => gH (dC, dI) kA (SHm q (wP wN wH wB wC wC wL wK) PI) G t.heap ∧ gF (dC, dI) SKm G ([] : List (Nat × Nat)) s.heap t.heap) A) #[.ref o0, .int fa] s 0 0 A) (F0 m 192 ls [.int z3185, .int z3173]) := by
                    intro z3185 h3186 H locs hT hF hS m3187 m3188 m3189 m3190 m3191 ls hl
                    refine lv_iadd hx hb dX12_bringsOf_192 ?_
                    refine lv_topi (fun x3193 ex3193 => ?_)
                    have t3194 : x3193.toInt = z3173.toInt + z3185.toInt := ti_add ex3193 rfl rfl (by omega) (by omega)
                    refine lv_istore (lv' := [(7, .int x3193), (6, .int (nI i2069)), (5, .int z3080), (4, .int 20), (3, .int z27), (2, .int z12), (0, .ref o0), (1, .int fa)]) hx hb dX12_bringsOf_193 hl (by decide) rfl (fun ls hl => ?_)
                    refine lv_iload hx hb dX12_bringsOf_195 (lv_at hl 2 rfl) ?_
                    refine lv_iload hx hb dX12_bringsOf_197 (lv_at hl 0 rfl) ?_
                    refine lv_if_ne (tgt := 207) hx hb dX12_bringsOf_199 (by decide) (fun c3195 => ?_) (fun c3195 => ?_)
                    · have t3196 : x3193.toInt ≠ 0 := ti_ne c3195 rfl (by decide)
                      refine lv_iload hx hb dX12_bringsOf_207 (lv_at hl 0 rfl) ?_
                      refine lv_iconst (v := 1) hx hb dX12_bringsOf_209 (by decide) ?_
                      refine lv_icmp_ne (tgt := 220) hx hb dX12_bringsOf_210 (by decide) (fun c3197 => ?_) (fun c3197 => ?_)
                      · have t3198 : x3193.toInt ≠ 1 := ti_ne c3197 rfl (by decide)
                        refine lv_iconst (v := 0) hx hb dX12_bringsOf_220 (by decide) ?_
                        refine lv_iadd hx hb dX12_bringsOf_221 ?_
                        refine lv_topi (fun x3199 ex3199 => ?_)
                        have t3200 : -2147483648 ≤ z3080.toInt ∧ z3080.toInt ≤ 2147483647 := ti_all z3080
                        have t3201 : x3199.toInt = z3080.toInt + 0 := ti_add ex3199 rfl (by decide) (by omega) (by omega)
                        refine lv_istore (lv' := [(5, .int x3199), (7, .int x3193), (6, .int (nI i2069)), (4, .int 20), (3, .int z27), (2, .int z12), (0, .ref o0), (1, .int fa)]) hx hb dX12_bringsOf_222 hl (by decide) rfl (fun ls hl => ?_)
                        refine lv_iinc (v := nI (i2069 + 1)) (lv' := [(6, .int (nI (i2069 + 1))), (5, .int x3199), (7, .int x3193), (4, .int 20), (3, .int z27), (2, .int z12), (0, .ref o0), (1, .int fa)]) hx hb dX12_bringsOf_224 hl (k := 2) rfl (nI_add i2069 1) (by decide) rfl (fun ls hl => ?_)
                        refine lv_goto (tgt := 122) hx hb dX12_bringsOf_227 (by decide) ?_
                        exact ih3146 (i2069 + 1) (by omega) (by omega) x3199 _ _ hT hF hS m3187 ls (lv_sub hl [0, 1, 3, 4, 5, 6, 7] rfl)
                      · have t3202 : x3193.toInt = 1 := ti_eq c3197 rfl (by decide)
                        refine lv_iload hx hb dX12_bringsOf_213 (lv_at hl 3 rfl) ?_
                        refine lv_iconst (v := 2) hx hb dX12_bringsOf_215 (by decide) ?_
                        refine lv_idiv hx hb dX12_bringsOf_216 (by decide) ?_
                        refine lv_topi (fun x3203 ex3203 => ?_)
                        obtain rfl : x3203 = 10 := ex3203.trans (by decide)
                        refine lv_goto (tgt := 221) hx hb dX12_bringsOf_217 (by decide) ?_
                        refine lv_iadd hx hb dX12_bringsOf_221 ?_
                        refine lv_topi (fun x3204 ex3204 => ?_)
                        refine lv_istore (lv' := [(5, .int x3204), (7, .int x3193), (6, .int (nI i2069)), (4, .int 20), (3, .int z27), (2, .int z12), (0, .ref o0), (1, .int fa)]) hx hb dX12_bringsOf_222 hl (by decide) rfl (fun ls hl => ?_)
                        refine lv_iinc (v := nI (i2069 + 1)) (lv' := [(6, .int (nI (i2069 + 1))), (5, .int x3204), (7, .int x3193), (4, .int 20), (3, .int z27), (2, .int z12), (0, .ref o0), (1, .int fa)]) hx hb dX12_bringsOf_224 hl (k := 2) rfl (nI_add i2069 1) (by decide) rfl (fun ls hl => ?_)
                        refine lv_goto (tgt := 122) hx hb dX12_bringsOf_227 (by decide) ?_
                        exact ih3146 (i2069 + 1) (by omega) (by omega) x3204 _ _ hT hF hS m3187 ls (lv_sub hl [0, 1, 3, 4, 5, 6, 7] rfl)
                    · have t3205 : x3193.toInt = 0 := ti_eq c3195 rfl (by decide)
                      refine lv_iload hx hb dX12_bringsOf_202 (lv_at hl 3 rfl) ?_
                      refine lv_goto (tgt := 221) hx hb dX12_bringsOf_204 (by decide) ?_
                      refine lv_iadd hx hb dX12_bringsOf_221 ?_
                      refine lv_topi (fun x3206 ex3206 => ?_)
                      refine lv_istore (lv' := [(5, .int x3206), (7, .int x3193), (6, .int (nI i2069)), (4, .int 20), (3, .int z27), (2, .int z12), (0, .ref o0), (1, .int fa)]) hx hb dX12_bringsOf_222 hl (by decide) rfl (fun ls hl => ?_)
                      refine lv_iinc (v := nI (i2069 + 1)) (lv' := [(6, .int (nI (i2069 + 1))), (5, .int x3206), (7, .int x3193), (4, .int 20), (3, .int z27), (2, .int z12), (0, .ref o0), (1, .int fa)]) hx hb dX12_bringsOf_224 hl (k := 2) rfl (nI_add i2069 1) (by decide) rfl (fun ls hl => ?_)
                      refine lv_goto (tgt := 122) hx hb dX12_bringsOf_227 (by decide) ?_
                      exact ih3146 (i2069 + 1) (by omega) (by omega) x3206 _ _ hT hF hS m3187 ls (lv_sub hl [0, 1, 3, 4, 5, 6, 7] rfl)
                  refine lv_icmp_le (tgt := 191) hx hb dX12_bringsOf_184 (by decide) (fun c3207 => ?_) (fun c3207 => ?_)
                  · have t3208 : x3184.toInt ≤ z27.toInt := ti_le c3207 rfl rfl
                    refine lv_iconst (v := 0) hx hb dX12_bringsOf_191 (by decide) ?_
                    exact jn3192 0 (rg_t (a := 0) (by decide) (by omega) (by omega)) _ _ hT hF hS m3175 m3176 m3177 m3178 m3183 ls (lv_sub hl [0, 1, 2, 3, 4, 5, 6] rfl)
                  · have t3209 : z27.toInt < x3184.toInt := ti_nle c3207 rfl rfl
                    refine lv_iconst (v := 1) hx hb dX12_bringsOf_187 (by decide) ?_
                    refine lv_goto (tgt := 192) hx hb dX12_bringsOf_188 (by decide) ?_
                    exact jn3192 1 (rg_t (a := 1) (by decide) (by omega) (by omega)) _ _ hT hF hS m3175 m3176 m3177 m3178 m3183 ls (lv_sub hl [0, 1, 2, 3, 4, 5, 6] rfl)
                refine lv_icmp_le (tgt := 171) hx hb dX12_bringsOf_164 (by decide) (fun c3210 => ?_) (fun c3210 => ?_)
                · have t3211 : x3172.toInt ≤ z12.toInt := ti_le c3210 rfl rfl
                  refine lv_iconst (v := 0) hx hb dX12_bringsOf_171 (by decide) ?_
                  exact jn3179 0 (rg_t (a := 0) (by decide) (by omega) (by omega)) _ _ hT hF hS m3162 m3163 m3164 m3171 ls (lv_sub hl [0, 1, 2, 3, 4, 5, 6] rfl)
                · have t3212 : z12.toInt < x3172.toInt := ti_nle c3210 rfl rfl
                  refine lv_iconst (v := 1) hx hb dX12_bringsOf_167 (by decide) ?_
                  refine lv_goto (tgt := 172) hx hb dX12_bringsOf_168 (by decide) ?_
                  exact jn3179 1 (rg_t (a := 1) (by decide) (by omega) (by omega)) _ _ hT hF hS m3162 m3163 m3164 m3171 ls (lv_sub hl [0, 1, 2, 3, 4, 5, 6] rfl)
              · have t3213 : r3160.toInt = 0 := ti_eq c3166 rfl (by decide)
                refine lv_goto (tgt := 224) hx hb dX12_bringsOf_149 (by decide) ?_
                refine lv_iinc (v := nI (i2069 + 1)) (lv' := [(6, .int (nI (i2069 + 1))), (5, .int z3080), (4, .int 20), (3, .int z27), (2, .int z12), (0, .ref o0), (1, .int fa)]) hx hb dX12_bringsOf_224 hl (k := 0) rfl (nI_add i2069 1) (by decide) rfl (fun ls hl => ?_)
                refine lv_goto (tgt := 122) hx hb dX12_bringsOf_227 (by decide) ?_
                exact ih3146 (i2069 + 1) (by omega) (by omega) z3080 _ _ hT hF hS m3162 ls (lv_sub hl [0, 1, 2, 3, 4, 5, 6] rfl)
          exact key3146 (96 - 0) 0 (by omega) (Nat.le_refl _) 0 _ _ hT hF hS m29 ls (lv_sub hl [0, 1, 2, 3, 4, 5, 6] rfl)
      · have t3214 : x4.toInt = 0 := ti_eq c35 rfl (by decide)
        refine lv_iconst (v := 0) hx hb dX12_bringsOf_78 (by decide) ?_
        refine lv_goto (tgt := 114) hx hb dX12_bringsOf_79 (by decide) ?_
        refine lv_istore (lv' := [(4, .int 0), (3, .int z27), (2, .int z12), (0, .ref o0), (1, .int fa)]) hx hb dX12_bringsOf_114 hl (by decide) rfl (fun ls hl => ?_)
        refine lv_iconst (v := 0) hx hb dX12_bringsOf_116 (by decide) ?_
        refine lv_istore (lv' := [(5, .int 0), (4, .int 0), (3, .int z27), (2, .int z12), (0, .ref o0), (1, .int fa)]) hx hb dX12_bringsOf_117 hl (by decide) rfl (fun ls hl => ?_)
        refine lv_iconst (v := 0) hx hb dX12_bringsOf_119 (by decide) ?_
        refine lv_istore (lv' := [(6, .int 0), (5, .int 0), (4, .int 0), (3, .int z27), (2, .int z12), (0, .ref o0), (1, .int fa)]) hx hb dX12_bringsOf_120 hl (by decide) rfl (fun ls hl => ?_)
        have key3343 : ∀ (n3343 i3215 : Nat), i3215 + n3343 = 96 → 0 ≤ i3215 → ∀ (H : Heap) (locs : List Loc), gH (dC, dI) kA (SHm q (wP wN wH wB wC wC wL wK) PI) G H → gF (dC, dI) SKm G ([] : List (Nat × Nat)) s.heap H → va_S A s.heap H locs → el H (q 45) fa.toNatClampNeg = some (.int x4) → ∀ ls : Array Slot, lv_has ls 8 [(6, .int (nI i3215)), (5, .int 0), (4, .int 0), (3, .int z27), (2, .int z12), (0, .ref o0), (1, .int fa)] → W p l e (headSpec w_s_bringsOf ({ frames := 2, cells := 0, slots := 0, locals := 64 })).room s m #[.ref o0, .int fa] below meth c H locs 0 0 (MQ below (va_Qi (fun (r : Int32) (u : Unit) => True) (fun (_ : Unit) (t : State) => gH (dC, dI) kA (SHm q (wP wN wH wB wC wC wL wK) PI) G t.heap ∧ gF (dC, dI) SKm G ([] : List (Nat × Nat)) s.heap t.heap) A) #[.ref o0, .int fa] s 0 0 A) (F0 m 122 ls []) := by
          intro n3343
          induction n3343 with
          | zero =>
            intro i3215 hn3343 hlo3344  H locs hT hF hS m3280 ls hl
            obtain rfl : 96 = i3215 := by omega
            refine lv_iload hx hb dX12_bringsOf_122 (lv_at hl 0 rfl) ?_
            refine lv_bipush (v := 96) hx hb dX12_bringsOf_124 (by decide) ?_
            refine lv_icmp_ge (tgt := 230) hx hb dX12_bringsOf_126 (by decide) (fun c3345 => ?_) (fun c3345 => (by exfalso; have q9 : ((96 : Nat) : Int) < 96 := ti_nle c3345 (by decide) (nI_toInt (by omega)); omega))
            have t3346 : 96 ≤ ((96 : Nat) : Int) := ti_le c3345 (by decide) (nI_toInt (by omega))
            refine lv_iload hx hb dX12_bringsOf_230 (lv_at hl 1 rfl) ?_
            exact W.iret (v := 0) hx hb hr (fun t ht hW => ⟨⟨0, (), rfl, (by exact trivial), by (try dsimp only); rw [ht]; exact ⟨hT, hF⟩⟩, hS.F ht⟩) hS.2.2 dX12_bringsOf_232
          | succ n3343 ih3343 =>
            intro i3215 hn3343 hlo3344  H locs hT hF hS m3280 ls hl
            have hlt3346 : i3215 < 96 := by omega
            refine lv_iload hx hb dX12_bringsOf_122 (lv_at hl 0 rfl) ?_
            refine lv_bipush (v := 96) hx hb dX12_bringsOf_124 (by decide) ?_
            refine lv_icmp_ge (tgt := 230) hx hb dX12_bringsOf_126 (by decide) (fun c3347 => (by exfalso; have q9 : 96 ≤ ((i3215 : Nat) : Int) := ti_le c3347 (by decide) (nI_toInt (by omega)); omega)) (fun c3347 => ?_)
            have t3348 : ((i3215 : Nat) : Int) < 96 := ti_nle c3347 (by decide) (nI_toInt (by omega))
            refine lv_iload hx hb dX12_bringsOf_129 (lv_at hl 0 rfl) ?_
            refine lv_aload_n hx hb dX12_bringsOf_131 rfl (lv_at hl 5 rfl) ?_
            refine tw_get hx hb hts bF_X12 hown hK hT hr_o0 shm_0 rfl 43 (by decide) (ht_at hts 1 rfl) (fun _ h9 => h9) dX12_bringsOf_132 (fun v9 m3349 h9 => ?_)
            obtain ⟨rfl, hg3350⟩ := h9 _ rfl
            refine lv_iload_n hx hb dX12_bringsOf_135 rfl (lv_at hl 6 rfl) ?_
            refine tw_iald (i := fa) hx hb hK hT hg3350 shm_44 rfl (vin_t (a := fa.toInt) rfl (by omega) (by omega)) dX12_bringsOf_136 (fun v9 m3351 h9 => ?_)
            obtain ⟨x3352, rfl, gx3352, kx3352⟩ := h9
            refine lv_aload_n hx hb dX12_bringsOf_137 rfl (lv_at hl 5 rfl) ?_
            refine tw_get hx hb hts bF_X12 hown hK hT hr_o0 shm_0 rfl 44 (by decide) (ht_at hts 2 rfl) (fun _ h9 => h9) dX12_bringsOf_138 (fun v9 m3353 h9 => ?_)
            obtain ⟨rfl, hg3354⟩ := h9 _ rfl
            refine lv_iload_n hx hb dX12_bringsOf_141 rfl (lv_at hl 6 rfl) ?_
            refine tw_iald (i := fa) hx hb hK hT hg3354 shm_45 rfl (vin_t (a := fa.toInt) rfl (by omega) (by omega)) dX12_bringsOf_142 (fun v9 m3355 h9 => ?_)
            obtain ⟨x3356, rfl, gx3356, kx3356⟩ := h9
            have hFc := gA_free hG hA hS
            refine va_calli (va_runS (As := [.int (nI i3215), .int x3352, .int x3356]) (rest := []) ⟨hx, hb, hml, hown, hts⟩ (s_isIn l dC dI kA G H q wN wH wB wC wL wK PI (nI i3215) x3352 x3356 hT (by omega) (by omega) (by omega) (by omega)) (va_cwS 3 hts (goodIn_app (goodIn_r _ [16, 17, 15] (by decide +kernel) (by decide +kernel)) (goodIn_ca (goodIn_r _ [4, 5, 6, 7, 8, 9, 10, 11, 12, 13, 14, 15] (by decide +kernel) (by decide +kernel)) (bs_in _ _))) rfl rfl rfl (by decide +kernel) ⟨(Nat.le_of_ble_eq_true rfl), (Nat.le_of_ble_eq_true rfl)⟩) ⟨fun a U g mk q => by obtain ⟨q0, q1, qK, qE⟩ := q; exact ⟨q0, q1, va_K.moved (u := U) (U := U.calling g mk a) (Vm.Alike.refl U.vm) qK, EV.blind g mk a qE⟩, fun U hU hW => ⟨rfl, hU, va_K.moved hW.alike hK, hE.call hS hFc hU hW⟩⟩ rfl rfl hl.1 rfl (lv_room (Nat.le_of_ble_eq_true rfl)) dX12_bringsOf_143 ⟨(Nat.le_of_ble_eq_true rfl), (Nat.le_of_ble_eq_true rfl)⟩) hS (fun q _ h => hFc q h) hFc (fun r3357 u t H locs ht hvm hw3358 hB _ _ hS => ?_)
            obtain ⟨hT, hF1⟩ := hB
            rw [ht] at hT hF1
            have m3359 := (el_kept (hF1.arr hg2 skm_46 (by decide))).trans m3280
            have m3360 := (el_kept (hF1.arr hg3350 skm_44 (by decide))).trans m3351
            have m3361 := (el_kept (hF1.arr hg3354 skm_45 (by decide))).trans m3355
            have hF := hF.more hF1 (by decide)
            try dsimp only at hw3358
            have h3362 := hw3358
            refine lv_if_ne (tgt := 152) hx hb dX12_bringsOf_146 (by decide) (fun c3363 => ?_) (fun c3363 => ?_)
            · have t3364 : r3357.toInt ≠ 0 := ti_ne c3363 rfl (by decide)
              refine lv_aload_n hx hb dX12_bringsOf_152 rfl (lv_at hl 5 rfl) ?_
              refine tw_get hx hb hts bF_X12 hown hK hT hr_o0 shm_0 rfl 1 (by decide) (ht_at hts 17 rfl) (fun _ h9 => h9) dX12_bringsOf_153 (fun v9 m3365 h9 => ?_)
              obtain ⟨rfl, hg3366⟩ := h9 _ rfl
              refine lv_sipush (v := 672) hx hb dX12_bringsOf_156 (by decide) ?_
              refine lv_iload hx hb dX12_bringsOf_159 (lv_at hl 0 rfl) ?_
              refine lv_iadd hx hb dX12_bringsOf_161 ?_
              refine lv_topi (fun x3367 ex3367 => ?_)
              obtain rfl : nI (672 + i3215) = x3367 := (ex3367.trans (nI_add 672 i3215)).symm
              refine tw_iald (i := (nI (672 + i3215))) hx hb hK hT hg3366 shm_2 rfl (vp_in_nI (by omega) (by decide)) dX12_bringsOf_162 (fun v9 m3368 h9 => ?_)
              obtain ⟨x3369, rfl, gx3369, kx3369⟩ := (gp_at h9 (w_fre (by have q9 := tn_of (show (nI (672 + i3215)).toInt = ((672 + i3215 : Nat) : Int) from (nI_toInt (by omega))) (show (0 : Int) ≤ ((672 + i3215 : Nat) : Int) from by omega); omega)))
              refine lv_iload_n hx hb dX12_bringsOf_163 rfl (lv_at hl 4 rfl) ?_
              have jn3376 : ∀ (z3370 : Int32), ((0 ≤ z3370.toInt ∧ z3370.toInt ≤ 1)) → ∀ (H : Heap) (locs : List Loc), gH (dC, dI) kA (SHm q (wP wN wH wB wC wC wL wK) PI) G H → gF (dC, dI) SKm G ([] : List (Nat × Nat)) s.heap H → va_S A s.heap H locs → el H (q 45) fa.toNatClampNeg = some (.int x4) → el H (q 43) fa.toNatClampNeg = some (.int x3352) → el H (q 44) fa.toNatClampNeg = some (.int x3356) → el H (q 1) (nI (672 + i3215)).toNatClampNeg = some (.int x3369) → ∀ ls : Array Slot, lv_has ls 8 [(6, .int (nI i3215)), (5, .int 0), (4, .int 0), (3, .int z27), (2, .int z12), (0, .ref o0), (1, .int fa)] → W p l e (headSpec w_s_bringsOf ({ frames := 2, cells := 0, slots := 0, locals := 64 })).room s m #[.ref o0, .int fa] below meth c H locs 0 0 (MQ below (va_Qi (fun (r : Int32) (u : Unit) => True) (fun (_ : Unit) (t : State) => gH (dC, dI) kA (SHm q (wP wN wH wB wC wC wL wK) PI) G t.heap ∧ gF (dC, dI) SKm G ([] : List (Nat × Nat)) s.heap t.heap) A) #[.ref o0, .int fa] s 0 0 A) (F0 m 172 ls [.int z3370]) := by
                intro z3370 h3371 H locs hT hF hS m3372 m3373 m3374 m3375 ls hl
                refine lv_aload_n hx hb dX12_bringsOf_172 rfl (lv_at hl 5 rfl) ?_
                refine tw_get hx hb hts bF_X12 hown hK hT hr_o0 shm_0 rfl 1 (by decide) (ht_at hts 17 rfl) (fun _ h9 => h9) dX12_bringsOf_173 (fun v9 m3377 h9 => ?_)
                obtain ⟨rfl, hg3378⟩ := h9 _ rfl
                refine lv_sipush (v := 480) hx hb dX12_bringsOf_176 (by decide) ?_
                refine lv_iload hx hb dX12_bringsOf_179 (lv_at hl 0 rfl) ?_
                refine lv_iadd hx hb dX12_bringsOf_181 ?_
                refine lv_topi (fun x3379 ex3379 => ?_)
                obtain rfl : nI (480 + i3215) = x3379 := (ex3379.trans (nI_add 480 i3215)).symm
                refine tw_iald (i := (nI (480 + i3215))) hx hb hK hT hg3366 shm_2 rfl (vp_in_nI (by omega) (by decide)) dX12_bringsOf_182 (fun v9 m3380 h9 => ?_)
                obtain ⟨x3381, rfl, gx3381, kx3381⟩ := (gp_at h9 (w_fre (by have q9 := tn_of (show (nI (480 + i3215)).toInt = ((480 + i3215 : Nat) : Int) from (nI_toInt (by omega))) (show (0 : Int) ≤ ((480 + i3215 : Nat) : Int) from by omega); omega)))
                refine lv_iload_n hx hb dX12_bringsOf_183 rfl (lv_at hl 3 rfl) ?_
                have jn3389 : ∀ (z3382 : Int32), ((0 ≤ z3382.toInt ∧ z3382.toInt ≤ 1)) → ∀ (H : Heap) (locs : List Loc), gH (dC, dI) kA (SHm q (wP wN wH wB wC wC wL wK) PI) G H → gF (dC, dI) SKm G ([] : List (Nat × Nat)) s.heap H → va_S A s.heap H locs → el H (q 45) fa.toNatClampNeg = some (.int x4) → el H (q 43) fa.toNatClampNeg = some (.int x3352) → el H (q 44) fa.toNatClampNeg = some (.int x3356) → el H (q 1) (nI (672 + i3215)).toNatClampNeg = some (.int x3369) → el H (q 1) (nI (480 + i3215)).toNatClampNeg = some (.int x3381) → ∀ ls : Array Slot, lv_has ls 8 [(6, .int (nI i3215)), (5, .int 0), (4, .int 0), (3, .int z27), (2, .int z12), (0, .ref o0), (1, .int fa)] → W p l e (headSpec w_s_bringsOf ({ frames := 2, cells := 0, slots := 0, locals := 64 })).room s m #[.ref o0, .int fa] below meth c H locs 0 0 (MQ below (va_Qi (fun (r : Int32) (u : Unit) => True) (fun (_ : Unit) (t : State) => gH (dC, dI) kA (SHm q (wP wN wH wB wC wC wL wK) PI) G t.heap ∧ gF (dC, dI) SKm G ([] : List (Nat × Nat)) s.heap t.heap) A) #[.ref o0, .int fa] s 0 0 A) (F0 m 192 ls [.int z3382, .int z3370]) := by
                  intro z3382 h3383 H locs hT hF hS m3384 m3385 m3386 m3387 m3388 ls hl
                  refine lv_iadd hx hb dX12_bringsOf_192 ?_
                  refine lv_topi (fun x3390 ex3390 => ?_)
                  have t3391 : x3390.toInt = z3370.toInt + z3382.toInt := ti_add ex3390 rfl rfl (by omega) (by omega)
                  refine lv_istore (lv' := [(7, .int x3390), (6, .int (nI i3215)), (5, .int 0), (4, .int 0), (3, .int z27), (2, .int z12), (0, .ref o0), (1, .int fa)]) hx hb dX12_bringsOf_193 hl (by decide) rfl (fun ls hl => ?_)
                  refine lv_iload hx hb dX12_bringsOf_195 (lv_at hl 2 rfl) ?_
                  refine lv_iload hx hb dX12_bringsOf_197 (lv_at hl 0 rfl) ?_
                  refine lv_if_ne (tgt := 207) hx hb dX12_bringsOf_199 (by decide) (fun c3392 => ?_) (fun c3392 => ?_)
                  · have t3393 : x3390.toInt ≠ 0 := ti_ne c3392 rfl (by decide)
                    refine lv_iload hx hb dX12_bringsOf_207 (lv_at hl 0 rfl) ?_
                    refine lv_iconst (v := 1) hx hb dX12_bringsOf_209 (by decide) ?_
                    refine lv_icmp_ne (tgt := 220) hx hb dX12_bringsOf_210 (by decide) (fun c3394 => ?_) (fun c3394 => ?_)
                    · have t3395 : x3390.toInt ≠ 1 := ti_ne c3394 rfl (by decide)
                      refine lv_iconst (v := 0) hx hb dX12_bringsOf_220 (by decide) ?_
                      refine lv_iadd hx hb dX12_bringsOf_221 ?_
                      refine lv_topi (fun x3396 ex3396 => ?_)
                      obtain rfl : x3396 = 0 := ex3396.trans (by decide)
                      refine lv_istore (lv' := [(5, .int 0), (7, .int x3390), (6, .int (nI i3215)), (4, .int 0), (3, .int z27), (2, .int z12), (0, .ref o0), (1, .int fa)]) hx hb dX12_bringsOf_222 hl (by decide) rfl (fun ls hl => ?_)
                      refine lv_iinc (v := nI (i3215 + 1)) (lv' := [(6, .int (nI (i3215 + 1))), (5, .int 0), (7, .int x3390), (4, .int 0), (3, .int z27), (2, .int z12), (0, .ref o0), (1, .int fa)]) hx hb dX12_bringsOf_224 hl (k := 2) rfl (nI_add i3215 1) (by decide) rfl (fun ls hl => ?_)
                      refine lv_goto (tgt := 122) hx hb dX12_bringsOf_227 (by decide) ?_
                      exact ih3343 (i3215 + 1) (by omega) (by omega) _ _ hT hF hS m3384 ls (lv_sub hl [0, 1, 3, 4, 5, 6, 7] rfl)
                    · have t3397 : x3390.toInt = 1 := ti_eq c3394 rfl (by decide)
                      refine lv_iload hx hb dX12_bringsOf_213 (lv_at hl 3 rfl) ?_
                      refine lv_iconst (v := 2) hx hb dX12_bringsOf_215 (by decide) ?_
                      refine lv_idiv hx hb dX12_bringsOf_216 (by decide) ?_
                      refine lv_topi (fun x3398 ex3398 => ?_)
                      obtain rfl : x3398 = 0 := ex3398.trans (by decide)
                      refine lv_goto (tgt := 221) hx hb dX12_bringsOf_217 (by decide) ?_
                      refine lv_iadd hx hb dX12_bringsOf_221 ?_
                      refine lv_topi (fun x3399 ex3399 => ?_)
                      obtain rfl : x3399 = 0 := ex3399.trans (by decide)
                      refine lv_istore (lv' := [(5, .int 0), (7, .int x3390), (6, .int (nI i3215)), (4, .int 0), (3, .int z27), (2, .int z12), (0, .ref o0), (1, .int fa)]) hx hb dX12_bringsOf_222 hl (by decide) rfl (fun ls hl => ?_)
                      refine lv_iinc (v := nI (i3215 + 1)) (lv' := [(6, .int (nI (i3215 + 1))), (5, .int 0), (7, .int x3390), (4, .int 0), (3, .int z27), (2, .int z12), (0, .ref o0), (1, .int fa)]) hx hb dX12_bringsOf_224 hl (k := 2) rfl (nI_add i3215 1) (by decide) rfl (fun ls hl => ?_)
                      refine lv_goto (tgt := 122) hx hb dX12_bringsOf_227 (by decide) ?_
                      exact ih3343 (i3215 + 1) (by omega) (by omega) _ _ hT hF hS m3384 ls (lv_sub hl [0, 1, 3, 4, 5, 6, 7] rfl)
                  · have t3400 : x3390.toInt = 0 := ti_eq c3392 rfl (by decide)
                    refine lv_iload hx hb dX12_bringsOf_202 (lv_at hl 3 rfl) ?_
                    refine lv_goto (tgt := 221) hx hb dX12_bringsOf_204 (by decide) ?_
                    refine lv_iadd hx hb dX12_bringsOf_221 ?_
                    refine lv_topi (fun x3401 ex3401 => ?_)
                    obtain rfl : x3401 = 0 := ex3401.trans (by decide)
                    refine lv_istore (lv' := [(5, .int 0), (7, .int x3390), (6, .int (nI i3215)), (4, .int 0), (3, .int z27), (2, .int z12), (0, .ref o0), (1, .int fa)]) hx hb dX12_bringsOf_222 hl (by decide) rfl (fun ls hl => ?_)
                    refine lv_iinc (v := nI (i3215 + 1)) (lv' := [(6, .int (nI (i3215 + 1))), (5, .int 0), (7, .int x3390), (4, .int 0), (3, .int z27), (2, .int z12), (0, .ref o0), (1, .int fa)]) hx hb dX12_bringsOf_224 hl (k := 2) rfl (nI_add i3215 1) (by decide) rfl (fun ls hl => ?_)
                    refine lv_goto (tgt := 122) hx hb dX12_bringsOf_227 (by decide) ?_
                    exact ih3343 (i3215 + 1) (by omega) (by omega) _ _ hT hF hS m3384 ls (lv_sub hl [0, 1, 3, 4, 5, 6, 7] rfl)
                refine lv_icmp_le (tgt := 191) hx hb dX12_bringsOf_184 (by decide) (fun c3402 => ?_) (fun c3402 => ?_)
                · have t3403 : x3381.toInt ≤ z27.toInt := ti_le c3402 rfl rfl
                  refine lv_iconst (v := 0) hx hb dX12_bringsOf_191 (by decide) ?_
                  exact jn3389 0 (rg_t (a := 0) (by decide) (by omega) (by omega)) _ _ hT hF hS m3372 m3373 m3374 m3375 m3380 ls (lv_sub hl [0, 1, 2, 3, 4, 5, 6] rfl)
                · have t3404 : z27.toInt < x3381.toInt := ti_nle c3402 rfl rfl
                  refine lv_iconst (v := 1) hx hb dX12_bringsOf_187 (by decide) ?_
                  refine lv_goto (tgt := 192) hx hb dX12_bringsOf_188 (by decide) ?_
                  exact jn3389 1 (rg_t (a := 1) (by decide) (by omega) (by omega)) _ _ hT hF hS m3372 m3373 m3374 m3375 m3380 ls (lv_sub hl [0, 1, 2, 3, 4, 5, 6] rfl)
              refine lv_icmp_le (tgt := 171) hx hb dX12_bringsOf_164 (by decide) (fun c3405 => ?_) (fun c3405 => ?_)
              · have t3406 : x3369.toInt ≤ z12.toInt := ti_le c3405 rfl rfl
                refine lv_iconst (v := 0) hx hb dX12_bringsOf_171 (by decide) ?_
                exact jn3376 0 (rg_t (a := 0) (by decide) (by omega) (by omega)) _ _ hT hF hS m3359 m3360 m3361 m3368 ls (lv_sub hl [0, 1, 2, 3, 4, 5, 6] rfl)
              · have t3407 : z12.toInt < x3369.toInt := ti_nle c3405 rfl rfl
                refine lv_iconst (v := 1) hx hb dX12_bringsOf_167 (by decide) ?_
                refine lv_goto (tgt := 172) hx hb dX12_bringsOf_168 (by decide) ?_
                exact jn3376 1 (rg_t (a := 1) (by decide) (by omega) (by omega)) _ _ hT hF hS m3359 m3360 m3361 m3368 ls (lv_sub hl [0, 1, 2, 3, 4, 5, 6] rfl)
            · have t3408 : r3357.toInt = 0 := ti_eq c3363 rfl (by decide)
              refine lv_goto (tgt := 224) hx hb dX12_bringsOf_149 (by decide) ?_
              refine lv_iinc (v := nI (i3215 + 1)) (lv' := [(6, .int (nI (i3215 + 1))), (5, .int 0), (4, .int 0), (3, .int z27), (2, .int z12), (0, .ref o0), (1, .int fa)]) hx hb dX12_bringsOf_224 hl (k := 0) rfl (nI_add i3215 1) (by decide) rfl (fun ls hl => ?_)
              refine lv_goto (tgt := 122) hx hb dX12_bringsOf_227 (by decide) ?_
              exact ih3343 (i3215 + 1) (by omega) (by omega) _ _ hT hF hS m3359 ls (lv_sub hl [0, 1, 2, 3, 4, 5, 6] rfl)
        exact key3343 (96 - 0) 0 (by omega) (Nat.le_refl _) _ _ hT hF hS m29 ls (lv_sub hl [0, 1, 2, 3, 4, 5, 6] rfl)
    refine lv_icmp_ne (tgt := 49) hx hb dX12_bringsOf_40 (by decide) (fun c3409 => ?_) (fun c3409 => ?_)
    · have t3410 : x4.toInt ≠ 1 := ti_ne c3409 rfl (by decide)
      refine lv_aload_n hx hb dX12_bringsOf_49 rfl (lv_at hl 1 rfl) ?_
      refine tw_get hx hb hts bF_X12 hown hK hT hr_o0 shm_0 rfl 45 (by decide) (ht_at hts 0 rfl) (fun _ h9 => h9) dX12_bringsOf_50 (fun v9 m3411 h9 => ?_)
      obtain ⟨rfl, hg3412⟩ := h9 _ rfl
      refine lv_iload_n hx hb dX12_bringsOf_53 rfl (lv_at hl 2 rfl) ?_
      refine tw_iald (i := fa) hx hb hK hT hg2 shm_46 rfl (vin_t (a := fa.toInt) rfl (by omega) (by omega)) dX12_bringsOf_54 (fun v9 m3413 h9 => ?_)
      obtain ⟨x3414, rfl, gx3414, kx3414⟩ := h9
      obtain rfl : x4 = x3414 := (el_same m3413 m14 rfl).symm
      refine lv_iconst (v := 2) hx hb dX12_bringsOf_55 (by decide) ?_
      refine lv_icmp_ne (tgt := 65) hx hb dX12_bringsOf_56 (by decide) (fun c3415 => ?_) (fun c3415 => ?_)
      · have t3416 : x4.toInt ≠ 2 := ti_ne c3415 rfl (by decide)
        refine lv_sipush (v := 8000) hx hb dX12_bringsOf_65 (by decide) ?_
        exact jn30 8000 (rg_t (a := 8000) (by decide) (by omega) (by omega)) _ _ hT hF hS m14 ls (lv_sub hl [0, 1, 2] rfl)
      · have t3417 : x4.toInt = 2 := ti_eq c3415 rfl (by decide)
        refine lv_sipush (v := 2000) hx hb dX12_bringsOf_59 (by decide) ?_
        refine lv_goto (tgt := 68) hx hb dX12_bringsOf_62 (by decide) ?_
        exact jn30 2000 (rg_t (a := 2000) (by decide) (by omega) (by omega)) _ _ hT hF hS m14 ls (lv_sub hl [0, 1, 2] rfl)
    · have t3418 : x4.toInt = 1 := ti_eq c3409 rfl (by decide)
      refine lv_sipush (v := 4000) hx hb dX12_bringsOf_43 (by decide) ?_
      refine lv_goto (tgt := 68) hx hb dX12_bringsOf_46 (by decide) ?_
      exact jn30 4000 (rg_t (a := 4000) (by decide) (by omega) (by omega)) _ _ hT hF hS m14 ls (lv_sub hl [0, 1, 2] rfl)
  refine lv_icmp_ne (tgt := 15) hx hb dX12_bringsOf_7 (by decide) (fun c3419 => ?_) (fun c3419 => ?_)
  · have t3420 : x4.toInt ≠ 1 := ti_ne c3419 rfl (by decide)
    refine lv_aload_n hx hb dX12_bringsOf_15 rfl (lv_at hl 0 rfl) ?_
    refine tw_get hx hb hts bF_X12 hown hK hT hr_o0 shm_0 rfl 45 (by decide) (ht_at hts 0 rfl) (fun _ h9 => h9) dX12_bringsOf_16 (fun v9 m3421 h9 => ?_)
    obtain ⟨rfl, hg3422⟩ := h9 _ rfl
    refine lv_iload_n hx hb dX12_bringsOf_19 rfl (lv_at hl 1 rfl) ?_
    refine tw_iald (i := fa) hx hb hK hT hg2 shm_46 rfl (vin_t (a := fa.toInt) rfl (by omega) (by omega)) dX12_bringsOf_20 (fun v9 m3423 h9 => ?_)
    obtain ⟨x3424, rfl, gx3424, kx3424⟩ := h9
    obtain rfl : x4 = x3424 := (el_same m3423 m3 rfl).symm
    refine lv_iconst (v := 2) hx hb dX12_bringsOf_21 (by decide) ?_
    refine lv_icmp_ne (tgt := 30) hx hb dX12_bringsOf_22 (by decide) (fun c3425 => ?_) (fun c3425 => ?_)
    · have t3426 : x4.toInt ≠ 2 := ti_ne c3425 rfl (by decide)
      refine lv_bipush (v := 10) hx hb dX12_bringsOf_30 (by decide) ?_
      exact jn15 10 (rg_t (a := 10) (by decide) (by omega) (by omega)) _ _ hT hF hS m3 ls (lv_sub hl [0, 1] rfl)
    · have t3427 : x4.toInt = 2 := ti_eq c3425 rfl (by decide)
      refine lv_bipush (v := 20) hx hb dX12_bringsOf_25 (by decide) ?_
      refine lv_goto (tgt := 32) hx hb dX12_bringsOf_27 (by decide) ?_
      exact jn15 20 (rg_t (a := 20) (by decide) (by omega) (by omega)) _ _ hT hF hS m3 ls (lv_sub hl [0, 1] rfl)
  · have t3428 : x4.toInt = 1 := ti_eq c3419 rfl (by decide)
    refine lv_bipush (v := 60) hx hb dX12_bringsOf_10 (by decide) ?_
    refine lv_goto (tgt := 32) hx hb dX12_bringsOf_12 (by decide) ?_
    exact jn15 60 (rg_t (a := 60) (by decide) (by omega) (by omega)) _ _ hT hF hS m3 ls (lv_sub hl [0, 1] rfl)
def w_s_nextOne : List Cond := .code yX12_nextOne cX12_nextOne 3 (some .int) :: ([.fieldLink RX12 495 "SeaLandModel" "settlers" "I", .fieldLink RX12 131 "SeaLandModel" "open" "[Z", .fieldLink RX12 128 "SeaLandModel" "marks" "[J", .fieldLink RX12 98 "SeaLandModel" "drawn" "[I"] ++ bs)
set_option maxHeartbeats 4000000 in
set_option maxRecDepth 100000 in
theorem s_nextOne (l : Launch) (dC : Nat → ClassId) (dI : Nat → Nat → Nat) (kA : Nat → ClassId) (G : gT) (H0 : Heap) (q : Nat → Nat) (wN wH wB wC : Int) (wL wK : Nat → Prop) (PI : Nat → Int → Prop) (o0 : Nat) (hT : gH (dC, dI) kA (SHm q (wP wN wH wB wC wC wL wK) PI) G H0) (hr_o0 : G o0 = some 0) (hgn : 6500000 ≤ wN ∧ wN ≤ 400000000) (hgh : 0 ≤ wH ∧ wH ≤ 40000) (hgb : 0 ≤ wB ∧ wB ≤ 3850000) (hgc : 0 ≤ wC ∧ wC ≤ 30) : Met l yX12_nextOne w_s_nextOne ({ frames := 0, cells := 0, slots := 0, locals := 0 }) (va_Pc [.ref o0] (fun U => U.heap = H0 ∧ va_K (dC, dI) vwCl (tyl kA) U ∧ EV (gA G H0.size) U U.heap)) (va_Qi (fun (r : Int32) (u : Unit) => (-1 ≤ r.toInt ∧ r.toInt ≤ 59)) (fun (_ : Unit) (t : State) => gH (dC, dI) kA (SHm q (wP wN wH wB wC wC wL wK) PI) G t.heap ∧ gF (dC, dI) SKm G ([] : List (Nat × Nat)) H0 t.heap) (gA G H0.size)) 0 0 (gA G H0.size) := by
  refine Met.ofW (cc := cX12_nextOne) (maxL := 3) (ret := (some .int)) (by decide) rfl ?_
  intro p e s m args below meth c s₁ B hml hv
  obtain ⟨rfl, hH0, hK, hE⟩ := hv
  have hx := B.exec
  have hb := B.bytes
  have hr := B.returns
  have hts := atoms_spec (ws := w_s_nextOne) B.pre
  have hown : s.vm.findClass RX12 = some m.cls := findClass_of_methodNamed B.named
  have hlocks := B.notSynchronized
  subst hH0
  generalize hAe : gA G s.heap.size = A at hE ⊢
  have hA : ∀ q : Nat, s.heap.size ≤ q → A q := fun q h => by rw [← hAe]; exact Or.inr h
  have hG := gA_of hAe
  have hS : va_S A s.heap s.heap [] := va_S.rf
  have hF : gF (dC, dI) SKm G ([] : List (Nat × Nat)) s.heap s.heap := gF.rf
  have hl := lv_entry ([.ref o0]) (n := 3) (Nat.le_of_ble_eq_true rfl)
  rw [lg_entry_eq]
  generalize (lg_sl ([.ref o0]) ++ List.replicate (3 - (lg_sl ([.ref o0])).length) Slot.unset).toArray = ls at hl ⊢
  have hl : lv_has ls 3 [(0, .ref o0)] := hl
  refine lv_iconst (v := (-1)) hx hb dX12_nextOne_0 (by decide) ?_
  refine lv_istore_n (lv' := [(1, .int (-1)), (0, .ref o0)]) hx hb dX12_nextOne_1 rfl hl (by decide) rfl (fun ls hl => ?_)
  refine lv_iconst (v := 0) hx hb dX12_nextOne_2 (by decide) ?_
  refine lv_istore_n (lv' := [(2, .int 0), (1, .int (-1)), (0, .ref o0)]) hx hb dX12_nextOne_3 rfl hl (by decide) rfl (fun ls hl => ?_)
  have key80 : ∀ (n80 i1 : Nat), i1 + n80 = 60 → 0 ≤ i1 → ∀ (z28 : Int32), ((-1 ≤ z28.toInt ∧ z28.toInt ≤ 59)) → ∀ (H : Heap) (locs : List Loc), gH (dC, dI) kA (SHm q (wP wN wH wB wC wC wL wK) PI) G H → gF (dC, dI) SKm G ([] : List (Nat × Nat)) s.heap H → va_S A s.heap H locs → ∀ ls : Array Slot, lv_has ls 3 [(2, .int (nI i1)), (1, .int z28), (0, .ref o0)] → W p l e (headSpec w_s_nextOne ({ frames := 0, cells := 0, slots := 0, locals := 0 })).room s m #[.ref o0] below meth c H locs 0 0 (MQ below (va_Qi (fun (r : Int32) (u : Unit) => (-1 ≤ r.toInt ∧ r.toInt ≤ 59)) (fun (_ : Unit) (t : State) => gH (dC, dI) kA (SHm q (wP wN wH wB wC wC wL wK) PI) G t.heap ∧ gF (dC, dI) SKm G ([] : List (Nat × Nat)) s.heap t.heap) A) #[.ref o0] s 0 0 A) (F0 m 4 ls []) := by
    intro n80
    induction n80 with
    | zero =>
      intro i1 hn80 hlo81 z28 h29 H locs hT hF hS  ls hl
      obtain rfl : 60 = i1 := by omega
      refine lv_iload_n hx hb dX12_nextOne_4 rfl (lv_at hl 0 rfl) ?_
      refine lv_aload_n hx hb dX12_nextOne_5 rfl (lv_at hl 2 rfl) ?_
      refine tw_get hx hb hts bF_X12 hown hK hT hr_o0 shm_0 rfl 42 (by decide) (ht_at hts 0 rfl) (fun _ h9 => h9) dX12_nextOne_6 (fun v9 m82 h9 => ?_)
      obtain ⟨x83, rfl, gx83, kx83⟩ := h9 _ rfl
      refine lv_icmp_ge (tgt := 83) hx hb dX12_nextOne_9 (by decide) (fun c84 => ?_) (fun c84 => (by exfalso; have q9 : ((60 : Nat) : Int) < x83.toInt := ti_nle c84 rfl (nI_toInt (by omega)); omega))
      have t85 : x83.toInt ≤ ((60 : Nat) : Int) := ti_le c84 rfl (nI_toInt (by omega))
      refine lv_iload_n hx hb dX12_nextOne_83 rfl (lv_at hl 1 rfl) ?_
      exact W.iret (v := z28) hx hb hr (fun t ht hW => ⟨⟨z28, (), rfl, (by exact (rg_t (a := z28.toInt) rfl (by have q8 := ti_all z28; omega) (by have q8 := ti_all z28; omega))), by (try dsimp only); rw [ht]; exact ⟨hT, hF⟩⟩, hS.F ht⟩) hS.2.2 dX12_nextOne_84
    | succ n80 ih80 =>
      intro i1 hn80 hlo81 z28 h29 H locs hT hF hS  ls hl
      have hlt85 : i1 < 60 := by omega
      refine lv_iload_n hx hb dX12_nextOne_4 rfl (lv_at hl 0 rfl) ?_
      refine lv_aload_n hx hb dX12_nextOne_5 rfl (lv_at hl 2 rfl) ?_
      refine tw_get hx hb hts bF_X12 hown hK hT hr_o0 shm_0 rfl 42 (by decide) (ht_at hts 0 rfl) (fun _ h9 => h9) dX12_nextOne_6 (fun v9 m86 h9 => ?_)
      obtain ⟨x87, rfl, gx87, kx87⟩ := h9 _ rfl
      refine lv_icmp_ge (tgt := 83) hx hb dX12_nextOne_9 (by decide) (fun c88 => ?_) (fun c88 => ?_)
      · have t89 : x87.toInt ≤ ((i1 : Nat) : Int) := ti_le c88 rfl (nI_toInt (by omega))
        refine lv_iload_n hx hb dX12_nextOne_83 rfl (lv_at hl 1 rfl) ?_
        exact W.iret (v := z28) hx hb hr (fun t ht hW => ⟨⟨z28, (), rfl, (by exact (rg_t (a := z28.toInt) rfl (by have q8 := ti_all z28; omega) (by have q8 := ti_all z28; omega))), by (try dsimp only); rw [ht]; exact ⟨hT, hF⟩⟩, hS.F ht⟩) hS.2.2 dX12_nextOne_84
      · have t90 : ((i1 : Nat) : Int) < x87.toInt := ti_nle c88 rfl (nI_toInt (by omega))
        refine lv_aload_n hx hb dX12_nextOne_12 rfl (lv_at hl 2 rfl) ?_
        refine tw_get hx hb hts bF_X12 hown hK hT hr_o0 shm_0 rfl 51 (by decide) (ht_at hts 1 rfl) (fun _ h9 => h9) dX12_nextOne_13 (fun v9 m91 h9 => ?_)
        obtain ⟨rfl, hg92⟩ := h9 _ rfl
        refine lv_iload_n hx hb dX12_nextOne_16 rfl (lv_at hl 0 rfl) ?_
        refine tw_zald (i := (nI i1)) hx hb hK hT hg92 shm_52 rfl (vp_in_nI (by omega) (by decide)) dX12_nextOne_17 (fun v9 m93 h9 => ?_)
        obtain ⟨x94, rfl, gx94, kx94⟩ := h9
        refine lv_if_ne (tgt := 24) hx hb dX12_nextOne_18 (by decide) (fun c95 => ?_) (fun c95 => ?_)
        · have t96 : x94.toInt ≠ 0 := ti_ne c95 rfl (by decide)
          refine lv_iload_n hx hb dX12_nextOne_24 rfl (lv_at hl 1 rfl) ?_
          refine lv_if_lt (tgt := 75) hx hb dX12_nextOne_25 (by decide) (fun c97 => ?_) (fun c97 => ?_)
          · have t98 : z28.toInt < 0 := ti_lt c97 rfl (by decide)
            refine lv_iload_n hx hb dX12_nextOne_75 rfl (lv_at hl 0 rfl) ?_
            refine lv_istore_n (lv' := [(1, .int (nI i1)), (2, .int (nI i1)), (0, .ref o0)]) hx hb dX12_nextOne_76 rfl hl (by decide) rfl (fun ls hl => ?_)
            refine lv_iinc (v := nI (i1 + 1)) (lv' := [(2, .int (nI (i1 + 1))), (1, .int (nI i1)), (0, .ref o0)]) hx hb dX12_nextOne_77 hl (k := 1) rfl (nI_add i1 1) (by decide) rfl (fun ls hl => ?_)
            refine lv_goto (tgt := 4) hx hb dX12_nextOne_80 (by decide) ?_
            exact ih80 (i1 + 1) (by omega) (by omega) (nI i1) (rg_t (a := ((i1 : Nat) : Int)) (nI_toInt (by omega)) (by omega) (by omega)) _ _ hT hF hS ls (lv_sub hl [0, 1, 2] rfl)
          · have t99 : 0 ≤ z28.toInt := ti_nlt c97 rfl (by decide)
            refine lv_aload_n hx hb dX12_nextOne_28 rfl (lv_at hl 2 rfl) ?_
            refine tw_get hx hb hts bF_X12 hown hK hT hr_o0 shm_0 rfl 50 (by decide) (ht_at hts 2 rfl) (fun _ h9 => h9) dX12_nextOne_29 (fun v9 m100 h9 => ?_)
            obtain ⟨rfl, hg101⟩ := h9 _ rfl
            refine lv_iload_n hx hb dX12_nextOne_32 rfl (lv_at hl 0 rfl) ?_
            refine tw_lald (i := (nI i1)) hx hb hK hT hg101 shm_51 rfl (vp_in_nI (by omega) (by decide)) dX12_nextOne_33 (fun v9 m102 h9 => ?_)
            obtain ⟨y103, rfl⟩ := h9
            refine lv_aload_n hx hb dX12_nextOne_34 rfl (lv_at hl 2 rfl) ?_
            refine tw_get hx hb hts bF_X12 hown hK hT hr_o0 shm_0 rfl 50 (by decide) (ht_at hts 2 rfl) (fun _ h9 => h9) dX12_nextOne_35 (fun v9 m104 h9 => ?_)
            obtain ⟨rfl, hg105⟩ := h9 _ rfl
            refine lv_iload_n hx hb dX12_nextOne_38 rfl (lv_at hl 1 rfl) ?_
            refine tw_lald (i := z28) hx hb hK hT hg101 shm_51 rfl (vin_t (a := z28.toInt) rfl (by omega) (by omega)) dX12_nextOne_39 (fun v9 m106 h9 => ?_)
            obtain ⟨y107, rfl⟩ := h9
            refine W.lcmp hx hb dX12_nextOne_40 ?_
            refine lv_topi (fun x108 _ => ?_)
            refine lv_if_gt (tgt := 75) hx hb dX12_nextOne_41 (by decide) (fun c109 => ?_) (fun c109 => ?_)
            · have t110 : 0 < x108.toInt := ti_lt c109 (by decide) rfl
              refine lv_iload_n hx hb dX12_nextOne_75 rfl (lv_at hl 0 rfl) ?_
              refine lv_istore_n (lv' := [(1, .int (nI i1)), (2, .int (nI i1)), (0, .ref o0)]) hx hb dX12_nextOne_76 rfl hl (by decide) rfl (fun ls hl => ?_)
              refine lv_iinc (v := nI (i1 + 1)) (lv' := [(2, .int (nI (i1 + 1))), (1, .int (nI i1)), (0, .ref o0)]) hx hb dX12_nextOne_77 hl (k := 1) rfl (nI_add i1 1) (by decide) rfl (fun ls hl => ?_)
              refine lv_goto (tgt := 4) hx hb dX12_nextOne_80 (by decide) ?_
              exact ih80 (i1 + 1) (by omega) (by omega) (nI i1) (rg_t (a := ((i1 : Nat) : Int)) (nI_toInt (by omega)) (by omega) (by omega)) _ _ hT hF hS ls (lv_sub hl [0, 1, 2] rfl)
            · have t111 : x108.toInt ≤ 0 := ti_nlt c109 (by decide) rfl
              refine lv_aload_n hx hb dX12_nextOne_44 rfl (lv_at hl 2 rfl) ?_
              refine tw_get hx hb hts bF_X12 hown hK hT hr_o0 shm_0 rfl 50 (by decide) (ht_at hts 2 rfl) (fun _ h9 => h9) dX12_nextOne_45 (fun v9 m112 h9 => ?_)
              obtain ⟨rfl, hg113⟩ := h9 _ rfl
              refine lv_iload_n hx hb dX12_nextOne_48 rfl (lv_at hl 0 rfl) ?_
              refine tw_lald (i := (nI i1)) hx hb hK hT hg101 shm_51 rfl (vp_in_nI (by omega) (by decide)) dX12_nextOne_49 (fun v9 m114 h9 => ?_)
              obtain ⟨y115, rfl⟩ := h9
              refine lv_aload_n hx hb dX12_nextOne_50 rfl (lv_at hl 2 rfl) ?_
              refine tw_get hx hb hts bF_X12 hown hK hT hr_o0 shm_0 rfl 50 (by decide) (ht_at hts 2 rfl) (fun _ h9 => h9) dX12_nextOne_51 (fun v9 m116 h9 => ?_)
              obtain ⟨rfl, hg117⟩ := h9 _ rfl
              refine lv_iload_n hx hb dX12_nextOne_54 rfl (lv_at hl 1 rfl) ?_
              refine tw_lald (i := z28) hx hb hK hT hg101 shm_51 rfl (vin_t (a := z28.toInt) rfl (by omega) (by omega)) dX12_nextOne_55 (fun v9 m118 h9 => ?_)
              obtain ⟨y119, rfl⟩ := h9
              refine W.lcmp hx hb dX12_nextOne_56 ?_
              refine lv_topi (fun x120 _ => ?_)
              refine lv_if_ne (tgt := 77) hx hb dX12_nextOne_57 (by decide) (fun c121 => ?_) (fun c121 => ?_)
              · have t122 : x120.toInt ≠ 0 := ti_ne c121 rfl (by decide)
                refine lv_iinc (v := nI (i1 + 1)) (lv' := [(2, .int (nI (i1 + 1))), (1, .int z28), (0, .ref o0)]) hx hb dX12_nextOne_77 hl (k := 0) rfl (nI_add i1 1) (by decide) rfl (fun ls hl => ?_)
                refine lv_goto (tgt := 4) hx hb dX12_nextOne_80 (by decide) ?_
                exact ih80 (i1 + 1) (by omega) (by omega) z28 (rg_t (a := z28.toInt) rfl (by have q8 := ti_all z28; omega) (by have q8 := ti_all z28; omega)) _ _ hT hF hS ls (lv_sub hl [0, 1, 2] rfl)
              · have t123 : x120.toInt = 0 := ti_eq c121 rfl (by decide)
                refine lv_aload_n hx hb dX12_nextOne_60 rfl (lv_at hl 2 rfl) ?_
                refine tw_get hx hb hts bF_X12 hown hK hT hr_o0 shm_0 rfl 37 (by decide) (ht_at hts 3 rfl) (fun _ h9 => h9) dX12_nextOne_61 (fun v9 m124 h9 => ?_)
                obtain ⟨rfl, hg125⟩ := h9 _ rfl
                refine lv_iload_n hx hb dX12_nextOne_64 rfl (lv_at hl 0 rfl) ?_
                refine tw_iald (i := (nI i1)) hx hb hK hT hg125 shm_38 rfl (vp_in_nI (by omega) (by decide)) dX12_nextOne_65 (fun v9 m126 h9 => ?_)
                obtain ⟨x127, rfl, gx127, kx127⟩ := h9
                refine lv_aload_n hx hb dX12_nextOne_66 rfl (lv_at hl 2 rfl) ?_
                refine tw_get hx hb hts bF_X12 hown hK hT hr_o0 shm_0 rfl 37 (by decide) (ht_at hts 3 rfl) (fun _ h9 => h9) dX12_nextOne_67 (fun v9 m128 h9 => ?_)
                obtain ⟨rfl, hg129⟩ := h9 _ rfl
                refine lv_iload_n hx hb dX12_nextOne_70 rfl (lv_at hl 1 rfl) ?_
                refine tw_iald (i := z28) hx hb hK hT hg125 shm_38 rfl (vin_t (a := z28.toInt) rfl (by omega) (by omega)) dX12_nextOne_71 (fun v9 m130 h9 => ?_)
                obtain ⟨x131, rfl, gx131, kx131⟩ := h9
                refine lv_icmp_ge (tgt := 77) hx hb dX12_nextOne_72 (by decide) (fun c132 => ?_) (fun c132 => ?_)
                · have t133 : x131.toInt ≤ x127.toInt := ti_le c132 rfl rfl
                  refine lv_iinc (v := nI (i1 + 1)) (lv' := [(2, .int (nI (i1 + 1))), (1, .int z28), (0, .ref o0)]) hx hb dX12_nextOne_77 hl (k := 0) rfl (nI_add i1 1) (by decide) rfl (fun ls hl => ?_)
                  refine lv_goto (tgt := 4) hx hb dX12_nextOne_80 (by decide) ?_
                  exact ih80 (i1 + 1) (by omega) (by omega) z28 (rg_t (a := z28.toInt) rfl (by have q8 := ti_all z28; omega) (by have q8 := ti_all z28; omega)) _ _ hT hF hS ls (lv_sub hl [0, 1, 2] rfl)
                · have t134 : x127.toInt < x131.toInt := ti_nle c132 rfl rfl
                  refine lv_iload_n hx hb dX12_nextOne_75 rfl (lv_at hl 0 rfl) ?_
                  refine lv_istore_n (lv' := [(1, .int (nI i1)), (2, .int (nI i1)), (0, .ref o0)]) hx hb dX12_nextOne_76 rfl hl (by decide) rfl (fun ls hl => ?_)
                  refine lv_iinc (v := nI (i1 + 1)) (lv' := [(2, .int (nI (i1 + 1))), (1, .int (nI i1)), (0, .ref o0)]) hx hb dX12_nextOne_77 hl (k := 1) rfl (nI_add i1 1) (by decide) rfl (fun ls hl => ?_)
                  refine lv_goto (tgt := 4) hx hb dX12_nextOne_80 (by decide) ?_
                  exact ih80 (i1 + 1) (by omega) (by omega) (nI i1) (rg_t (a := ((i1 : Nat) : Int)) (nI_toInt (by omega)) (by omega) (by omega)) _ _ hT hF hS ls (lv_sub hl [0, 1, 2] rfl)
        · have t135 : x94.toInt = 0 := ti_eq c95 rfl (by decide)
          refine lv_goto (tgt := 77) hx hb dX12_nextOne_21 (by decide) ?_
          refine lv_iinc (v := nI (i1 + 1)) (lv' := [(2, .int (nI (i1 + 1))), (1, .int z28), (0, .ref o0)]) hx hb dX12_nextOne_77 hl (k := 0) rfl (nI_add i1 1) (by decide) rfl (fun ls hl => ?_)
          refine lv_goto (tgt := 4) hx hb dX12_nextOne_80 (by decide) ?_
          exact ih80 (i1 + 1) (by omega) (by omega) z28 (rg_t (a := z28.toInt) rfl (by have q8 := ti_all z28; omega) (by have q8 := ti_all z28; omega)) _ _ hT hF hS ls (lv_sub hl [0, 1, 2] rfl)
  exact key80 (60 - 0) 0 (by omega) (Nat.le_refl _) (-1) (rg_t (a := (-1)) (by decide) (by omega) (by omega)) _ _ hT hF hS ls (lv_sub hl [0, 1, 2] rfl)
def w_s_bestFarm : List Cond := .code yX12_bestFarm cX12_bestFarm 3 (some .int) :: ([.fieldLink RX12 498 "SeaLandModel" "farms" "I", .fieldLink RX12 122 "SeaLandModel" "holder" "[I", .code yX12_worthOf cX12_worthOf 5 (some .int), .fieldLink RX12 113 "SeaLandModel" "farmFrom" "[I", .fieldLink RX12 116 "SeaLandModel" "farmTo" "[I", .code yX12_isIn cX12_isIn 5 (some .boolean), .methodLink RX12 207 Lib.Math.min.name, .static Lib.Math.min.name, .initialized "java/lang/Math", .code Lib.Math.min.name Lib.Math.min.code 2 (some .int), .methodLink RX12 211 Lib.Math.max.name, .static Lib.Math.max.name, .code Lib.Math.max.name Lib.Math.max.code 2 (some .int), .code yX12_in cX12_in 3 (some .boolean), .methodLink RX12 197 yX12_in, .static yX12_in, .initialized RX12, .methodLink RX12 232 yX12_isIn, .static yX12_isIn, .fieldLink RX12 9 "SeaLandModel" "world" "[I", .methodLink RX12 505 yX12_worthOf, .instanceMethod yX12_worthOf, .selects RX12 yX12_worthOf yX12_worthOf] ++ bs)
set_option maxHeartbeats 4000000 in
set_option maxRecDepth 100000 in
theorem s_bestFarm (l : Launch) (dC : Nat → ClassId) (dI : Nat → Nat → Nat) (kA : Nat → ClassId) (G : gT) (H0 : Heap) (q : Nat → Nat) (wN wH wB wC : Int) (wL wK : Nat → Prop) (PI : Nat → Int → Prop) (o0 : Nat) (hT : gH (dC, dI) kA (SHm q (wP wN wH wB wC wC wL wK) PI) G H0) (hr_o0 : G o0 = some 0) (hgn : 6500000 ≤ wN ∧ wN ≤ 400000000) (hgh : 0 ≤ wH ∧ wH ≤ 40000) (hgb : 0 ≤ wB ∧ wB ≤ 3850000) (hgc : 0 ≤ wC ∧ wC ≤ 30) : Met l yX12_bestFarm w_s_bestFarm ({ frames := 3, cells := 0, slots := 0, locals := 88 }) (va_Pc [.ref o0] (fun U => U.heap = H0 ∧ va_K (dC, dI) vwCl (tyl kA) U ∧ EV (gA G H0.size) U U.heap)) (va_Qi (fun (r : Int32) (u : Unit) => (-1 ≤ r.toInt ∧ r.toInt ≤ 29)) (fun (_ : Unit) (t : State) => gH (dC, dI) kA (SHm q (wP wN wH wB wC wC wL wK) PI) G t.heap ∧ gF (dC, dI) SKm G ([] : List (Nat × Nat)) H0 t.heap) (gA G H0.size)) 0 0 (gA G H0.size) := by
  refine Met.ofW (cc := cX12_bestFarm) (maxL := 3) (ret := (some .int)) (by decide) rfl ?_
  intro p e s m args below meth c s₁ B hml hv
  obtain ⟨rfl, hH0, hK, hE⟩ := hv
  have hx := B.exec
  have hb := B.bytes
  have hr := B.returns
  have hts := atoms_spec (ws := w_s_bestFarm) B.pre
  have hown : s.vm.findClass RX12 = some m.cls := findClass_of_methodNamed B.named
  have hlocks := B.notSynchronized
  subst hH0
  generalize hAe : gA G s.heap.size = A at hE ⊢
  have hA : ∀ q : Nat, s.heap.size ≤ q → A q := fun q h => by rw [← hAe]; exact Or.inr h
  have hG := gA_of hAe
  have hS : va_S A s.heap s.heap [] := va_S.rf
  have hF : gF (dC, dI) SKm G ([] : List (Nat × Nat)) s.heap s.heap := gF.rf
  have hl := lv_entry ([.ref o0]) (n := 3) (Nat.le_of_ble_eq_true rfl)
  rw [lg_entry_eq]
  generalize (lg_sl ([.ref o0]) ++ List.replicate (3 - (lg_sl ([.ref o0])).length) Slot.unset).toArray = ls at hl ⊢
  have hl : lv_has ls 3 [(0, .ref o0)] := hl
  refine lv_iconst (v := (-1)) hx hb dX12_bestFarm_0 (by decide) ?_
  refine lv_istore_n (lv' := [(1, .int (-1)), (0, .ref o0)]) hx hb dX12_bestFarm_1 rfl hl (by decide) rfl (fun ls hl => ?_)
  refine lv_iconst (v := 0) hx hb dX12_bestFarm_2 (by decide) ?_
  refine lv_istore_n (lv' := [(2, .int 0), (1, .int (-1)), (0, .ref o0)]) hx hb dX12_bestFarm_3 rfl hl (by decide) rfl (fun ls hl => ?_)
  have key56 : ∀ (n56 i1 : Nat), i1 + n56 = 30 → 0 ≤ i1 → ∀ (z28 : Int32), ((-1 ≤ z28.toInt ∧ z28.toInt ≤ 29)) → ∀ (H : Heap) (locs : List Loc), gH (dC, dI) kA (SHm q (wP wN wH wB wC wC wL wK) PI) G H → gF (dC, dI) SKm G ([] : List (Nat × Nat)) s.heap H → va_S A s.heap H locs → ∀ ls : Array Slot, lv_has ls 3 [(2, .int (nI i1)), (1, .int z28), (0, .ref o0)] → W p l e (headSpec w_s_bestFarm ({ frames := 3, cells := 0, slots := 0, locals := 88 })).room s m #[.ref o0] below meth c H locs 0 0 (MQ below (va_Qi (fun (r : Int32) (u : Unit) => (-1 ≤ r.toInt ∧ r.toInt ≤ 29)) (fun (_ : Unit) (t : State) => gH (dC, dI) kA (SHm q (wP wN wH wB wC wC wL wK) PI) G t.heap ∧ gF (dC, dI) SKm G ([] : List (Nat × Nat)) s.heap t.heap) A) #[.ref o0] s 0 0 A) (F0 m 4 ls []) := by
    intro n56
    induction n56 with
    | zero =>
      intro i1 hn56 hlo57 z28 h29 H locs hT hF hS  ls hl
      obtain rfl : 30 = i1 := by omega
      refine lv_iload_n hx hb dX12_bestFarm_4 rfl (lv_at hl 0 rfl) ?_
      refine lv_aload_n hx hb dX12_bestFarm_5 rfl (lv_at hl 2 rfl) ?_
      refine tw_get hx hb hts bF_X12 hown hK hT hr_o0 shm_0 rfl 47 (by decide) (ht_at hts 0 rfl) (fun _ h9 => h9) dX12_bestFarm_6 (fun v9 m58 h9 => ?_)
      obtain ⟨x59, rfl, gx59, kx59⟩ := h9 _ rfl
      refine lv_icmp_ge (tgt := 46) hx hb dX12_bestFarm_9 (by decide) (fun c60 => ?_) (fun c60 => (by exfalso; have q9 : ((30 : Nat) : Int) < x59.toInt := ti_nle c60 rfl (nI_toInt (by omega)); omega))
      have t61 : x59.toInt ≤ ((30 : Nat) : Int) := ti_le c60 rfl (nI_toInt (by omega))
      refine lv_iload_n hx hb dX12_bestFarm_46 rfl (lv_at hl 1 rfl) ?_
      exact W.iret (v := z28) hx hb hr (fun t ht hW => ⟨⟨z28, (), rfl, (by exact (rg_t (a := z28.toInt) rfl (by have q8 := ti_all z28; omega) (by have q8 := ti_all z28; omega))), by (try dsimp only); rw [ht]; exact ⟨hT, hF⟩⟩, hS.F ht⟩) hS.2.2 dX12_bestFarm_47
    | succ n56 ih56 =>
      intro i1 hn56 hlo57 z28 h29 H locs hT hF hS  ls hl
      have hlt61 : i1 < 30 := by omega
      refine lv_iload_n hx hb dX12_bestFarm_4 rfl (lv_at hl 0 rfl) ?_
      refine lv_aload_n hx hb dX12_bestFarm_5 rfl (lv_at hl 2 rfl) ?_
      refine tw_get hx hb hts bF_X12 hown hK hT hr_o0 shm_0 rfl 47 (by decide) (ht_at hts 0 rfl) (fun _ h9 => h9) dX12_bestFarm_6 (fun v9 m62 h9 => ?_)
      obtain ⟨x63, rfl, gx63, kx63⟩ := h9 _ rfl
      refine lv_icmp_ge (tgt := 46) hx hb dX12_bestFarm_9 (by decide) (fun c64 => ?_) (fun c64 => ?_)
      · have t65 : x63.toInt ≤ ((i1 : Nat) : Int) := ti_le c64 rfl (nI_toInt (by omega))
        refine lv_iload_n hx hb dX12_bestFarm_46 rfl (lv_at hl 1 rfl) ?_
        exact W.iret (v := z28) hx hb hr (fun t ht hW => ⟨⟨z28, (), rfl, (by exact (rg_t (a := z28.toInt) rfl (by have q8 := ti_all z28; omega) (by have q8 := ti_all z28; omega))), by (try dsimp only); rw [ht]; exact ⟨hT, hF⟩⟩, hS.F ht⟩) hS.2.2 dX12_bestFarm_47
      · have t66 : ((i1 : Nat) : Int) < x63.toInt := ti_nle c64 rfl (nI_toInt (by omega))
        refine lv_aload_n hx hb dX12_bestFarm_12 rfl (lv_at hl 2 rfl) ?_
        refine tw_get hx hb hts bF_X12 hown hK hT hr_o0 shm_0 rfl 46 (by decide) (ht_at hts 1 rfl) (fun _ h9 => h9) dX12_bestFarm_13 (fun v9 m67 h9 => ?_)
        obtain ⟨rfl, hg68⟩ := h9 _ rfl
        refine lv_iload_n hx hb dX12_bestFarm_16 rfl (lv_at hl 0 rfl) ?_
        refine tw_iald (i := (nI i1)) hx hb hK hT hg68 shm_47 rfl (vp_in_nI (by omega) (by decide)) dX12_bestFarm_17 (fun v9 m69 h9 => ?_)
        obtain ⟨x70, rfl, gx70, kx70⟩ := h9
        refine lv_if_ge (tgt := 40) hx hb dX12_bestFarm_18 (by decide) (fun c71 => ?_) (fun c71 => ?_)
        · have t72 : 0 ≤ x70.toInt := ti_le c71 (by decide) rfl
          refine lv_iinc (v := nI (i1 + 1)) (lv' := [(2, .int (nI (i1 + 1))), (1, .int z28), (0, .ref o0)]) hx hb dX12_bestFarm_40 hl (k := 0) rfl (nI_add i1 1) (by decide) rfl (fun ls hl => ?_)
          refine lv_goto (tgt := 4) hx hb dX12_bestFarm_43 (by decide) ?_
          exact ih56 (i1 + 1) (by omega) (by omega) z28 (rg_t (a := z28.toInt) rfl (by have q8 := ti_all z28; omega) (by have q8 := ti_all z28; omega)) _ _ hT hF hS ls (lv_sub hl [0, 1, 2] rfl)
        · have t73 : x70.toInt < 0 := ti_nle c71 (by decide) rfl
          refine lv_iload_n hx hb dX12_bestFarm_21 rfl (lv_at hl 1 rfl) ?_
          refine lv_if_lt (tgt := 38) hx hb dX12_bestFarm_22 (by decide) (fun c74 => ?_) (fun c74 => ?_)
          · have t75 : z28.toInt < 0 := ti_lt c74 rfl (by decide)
            refine lv_iload_n hx hb dX12_bestFarm_38 rfl (lv_at hl 0 rfl) ?_
            refine lv_istore_n (lv' := [(1, .int (nI i1)), (2, .int (nI i1)), (0, .ref o0)]) hx hb dX12_bestFarm_39 rfl hl (by decide) rfl (fun ls hl => ?_)
            refine lv_iinc (v := nI (i1 + 1)) (lv' := [(2, .int (nI (i1 + 1))), (1, .int (nI i1)), (0, .ref o0)]) hx hb dX12_bestFarm_40 hl (k := 1) rfl (nI_add i1 1) (by decide) rfl (fun ls hl => ?_)
            refine lv_goto (tgt := 4) hx hb dX12_bestFarm_43 (by decide) ?_
            exact ih56 (i1 + 1) (by omega) (by omega) (nI i1) (rg_t (a := ((i1 : Nat) : Int)) (nI_toInt (by omega)) (by omega) (by omega)) _ _ hT hF hS ls (lv_sub hl [0, 1, 2] rfl)
          · have t76 : 0 ≤ z28.toInt := ti_nlt c74 rfl (by decide)
            refine lv_aload_n hx hb dX12_bestFarm_25 rfl (lv_at hl 2 rfl) ?_
            refine lv_iload_n hx hb dX12_bestFarm_26 rfl (lv_at hl 0 rfl) ?_
            have hFc := gA_free hG hA hS
            refine va_calli (va_runV (As := [.int (nI i1)]) (rest := []) ⟨hx, hb, hml, hown, hts⟩ (s_worthOf l dC dI kA G H q wN wH wB wC wL wK PI o0 (nI i1) hT hr_o0 (rg_t (a := ((i1 : Nat) : Int)) (nI_toInt (by omega)) (by omega) (by omega)) (by omega) (by omega) (by omega) (by omega)) (cwV 1 hts (goodIn_app (goodIn_r _ [21, 22, 23, 17] (by decide +kernel) (by decide +kernel)) (goodIn_ca (goodIn_r _ [3, 4, 5, 6, 7, 8, 9, 10, 11, 12, 13, 14, 15, 16, 17, 18, 19, 20] (by decide +kernel) (by decide +kernel)) (bs_in _ _))) rfl rfl rfl (by decide +kernel) ⟨(Nat.le_of_ble_eq_true rfl), (Nat.le_of_ble_eq_true rfl)⟩) ⟨fun a U g mk q => by obtain ⟨q0, q1, qK, qE⟩ := q; exact ⟨q0, q1, va_K.moved (u := U) (U := U.calling g mk a) (Vm.Alike.refl U.vm) qK, EV.blind g mk a qE⟩, gH_recv hK hT hr_o0 shm_0 rfl, fun U hU hW => ⟨rfl, hU, va_K.moved hW.alike hK, hE.call hS hFc hU hW⟩⟩ rfl rfl hl.1 rfl (lv_room (Nat.le_of_ble_eq_true rfl)) dX12_bestFarm_27 ⟨(Nat.le_of_ble_eq_true rfl), (Nat.le_of_ble_eq_true rfl)⟩) hS (fun q _ h => hFc q h) hFc (fun r77 u t H locs ht hvm hw78 hB _ _ hS => ?_)
            obtain ⟨hT, hF1⟩ := hB
            rw [ht] at hT hF1
            have m79 := (hF1.fld hr_o0 skm_0 (k := 47) (by decide) (by decide)).trans m62
            have m80 := (el_kept (hF1.arr hg68 skm_47 (by decide))).trans m69
            have hF := hF.more hF1 (by decide)
            try dsimp only at hw78
            refine lv_aload_n hx hb dX12_bestFarm_30 rfl (lv_at hl 2 rfl) ?_
            refine lv_iload_n hx hb dX12_bestFarm_31 rfl (lv_at hl 1 rfl) ?_
            have hFc := gA_free hG hA hS
            refine va_calli (va_runV (As := [.int z28]) (rest := [.int r77]) ⟨hx, hb, hml, hown, hts⟩ (s_worthOf l dC dI kA G H q wN wH wB wC wL wK PI o0 z28 hT hr_o0 (rg_t (a := z28.toInt) rfl (by have q8 := ti_all z28; omega) (by have q8 := ti_all z28; omega)) (by omega) (by omega) (by omega) (by omega)) (cwV 1 hts (goodIn_app (goodIn_r _ [21, 22, 23, 17] (by decide +kernel) (by decide +kernel)) (goodIn_ca (goodIn_r _ [3, 4, 5, 6, 7, 8, 9, 10, 11, 12, 13, 14, 15, 16, 17, 18, 19, 20] (by decide +kernel) (by decide +kernel)) (bs_in _ _))) rfl rfl rfl (by decide +kernel) ⟨(Nat.le_of_ble_eq_true rfl), (Nat.le_of_ble_eq_true rfl)⟩) ⟨fun a U g mk q => by obtain ⟨q0, q1, qK, qE⟩ := q; exact ⟨q0, q1, va_K.moved (u := U) (U := U.calling g mk a) (Vm.Alike.refl U.vm) qK, EV.blind g mk a qE⟩, gH_recv hK hT hr_o0 shm_0 rfl, fun U hU hW => ⟨rfl, hU, va_K.moved hW.alike hK, hE.call hS hFc hU hW⟩⟩ rfl rfl hl.1 rfl (lv_room (Nat.le_of_ble_eq_true rfl)) dX12_bestFarm_32 ⟨(Nat.le_of_ble_eq_true rfl), (Nat.le_of_ble_eq_true rfl)⟩) hS (fun q _ h => hFc q h) hFc (fun r81 u t H locs ht hvm hw82 hB _ _ hS => ?_)
            obtain ⟨hT, hF1⟩ := hB
            rw [ht] at hT hF1
            have m83 := (hF1.fld hr_o0 skm_0 (k := 47) (by decide) (by decide)).trans m79
            have m84 := (el_kept (hF1.arr hg68 skm_47 (by decide))).trans m80
            have hF := hF.more hF1 (by decide)
            try dsimp only at hw82
            refine lv_icmp_le (tgt := 40) hx hb dX12_bestFarm_35 (by decide) (fun c85 => ?_) (fun c85 => ?_)
            · have t86 : r77.toInt ≤ r81.toInt := ti_le c85 rfl rfl
              refine lv_iinc (v := nI (i1 + 1)) (lv' := [(2, .int (nI (i1 + 1))), (1, .int z28), (0, .ref o0)]) hx hb dX12_bestFarm_40 hl (k := 0) rfl (nI_add i1 1) (by decide) rfl (fun ls hl => ?_)
              refine lv_goto (tgt := 4) hx hb dX12_bestFarm_43 (by decide) ?_
              exact ih56 (i1 + 1) (by omega) (by omega) z28 (rg_t (a := z28.toInt) rfl (by have q8 := ti_all z28; omega) (by have q8 := ti_all z28; omega)) _ _ hT hF hS ls (lv_sub hl [0, 1, 2] rfl)
            · have t87 : r81.toInt < r77.toInt := ti_nle c85 rfl rfl
              refine lv_iload_n hx hb dX12_bestFarm_38 rfl (lv_at hl 0 rfl) ?_
              refine lv_istore_n (lv' := [(1, .int (nI i1)), (2, .int (nI i1)), (0, .ref o0)]) hx hb dX12_bestFarm_39 rfl hl (by decide) rfl (fun ls hl => ?_)
              refine lv_iinc (v := nI (i1 + 1)) (lv' := [(2, .int (nI (i1 + 1))), (1, .int (nI i1)), (0, .ref o0)]) hx hb dX12_bestFarm_40 hl (k := 1) rfl (nI_add i1 1) (by decide) rfl (fun ls hl => ?_)
              refine lv_goto (tgt := 4) hx hb dX12_bestFarm_43 (by decide) ?_
              exact ih56 (i1 + 1) (by omega) (by omega) (nI i1) (rg_t (a := ((i1 : Nat) : Int)) (nI_toInt (by omega)) (by omega) (by omega)) _ _ hT hF hS ls (lv_sub hl [0, 1, 2] rfl)
  exact key56 (30 - 0) 0 (by omega) (Nat.le_refl _) (-1) (rg_t (a := (-1)) (by decide) (by omega) (by omega)) _ _ hT hF hS ls (lv_sub hl [0, 1, 2] rfl)
def w_s_worthAt : List Cond := .code yX12_worthAt cX12_worthAt 3 (some .int) :: ([.methodLink RX12 201 Lib.Math.abs.name, .static Lib.Math.abs.name, .initialized "java/lang/Math", .code Lib.Math.abs.name Lib.Math.abs.code 1 (some .int), .methodLink RX12 211 Lib.Math.max.name, .static Lib.Math.max.name, .code Lib.Math.max.name Lib.Math.max.code 2 (some .int)] ++ bs)
set_option maxHeartbeats 4000000 in
set_option maxRecDepth 100000 in
theorem s_worthAt (l : Launch) (dC : Nat → ClassId) (dI : Nat → Nat → Nat) (kA : Nat → ClassId) (G : gT) (H0 : Heap) (q : Nat → Nat) (wN wH wB wC : Int) (wL wK : Nat → Prop) (PI : Nat → Int → Prop) (c1 : Int32) (d1 : Int32) (hT : gH (dC, dI) kA (SHm q (wP wN wH wB wC wC wL wK) PI) G H0) (hgn : 6500000 ≤ wN ∧ wN ≤ 400000000) (hgh : 0 ≤ wH ∧ wH ≤ 40000) (hgb : 0 ≤ wB ∧ wB ≤ 3850000) (hgc : 0 ≤ wC ∧ wC ≤ 30) : Met l yX12_worthAt w_s_worthAt ({ frames := 1, cells := 0, slots := 0, locals := 40 }) (va_Pc [.int c1, .int d1] (fun U => U.heap = H0 ∧ va_K (dC, dI) vwCl (tyl kA) U ∧ EV (gA G H0.size) U U.heap)) (va_Qi (fun (r : Int32) (u : Unit) => (0 ≤ r.toInt ∧ r.toInt ≤ 1073741874)) (fun (_ : Unit) (t : State) => gH (dC, dI) kA (SHm q (wP wN wH wB wC wC wL wK) PI) G t.heap ∧ gF (dC, dI) SKm G ([] : List (Nat × Nat)) H0 t.heap) (gA G H0.size)) 0 0 (gA G H0.size) := by
  refine Met.ofW (cc := cX12_worthAt) (maxL := 3) (ret := (some .int)) (by decide) rfl ?_
  intro p e s m args below meth c s₁ B hml hv
  obtain ⟨rfl, hH0, hK, hE⟩ := hv
  have hx := B.exec
  have hb := B.bytes
  have hr := B.returns
  have hts := atoms_spec (ws := w_s_worthAt) B.pre
  have hown : s.vm.findClass RX12 = some m.cls := findClass_of_methodNamed B.named
  have hlocks := B.notSynchronized
  subst hH0
  generalize hAe : gA G s.heap.size = A at hE ⊢
  have hA : ∀ q : Nat, s.heap.size ≤ q → A q := fun q h => by rw [← hAe]; exact Or.inr h
  have hG := gA_of hAe
  have hS : va_S A s.heap s.heap [] := va_S.rf
  have hF : gF (dC, dI) SKm G ([] : List (Nat × Nat)) s.heap s.heap := gF.rf
  have hl := lv_entry ([.int c1, .int d1]) (n := 3) (Nat.le_of_ble_eq_true rfl)
  rw [lg_entry_eq]
  generalize (lg_sl ([.int c1, .int d1]) ++ List.replicate (3 - (lg_sl ([.int c1, .int d1])).length) Slot.unset).toArray = ls at hl ⊢
  have hl : lv_has ls 3 [(0, .int c1), (1, .int d1)] := hl
  refine lv_iload_n hx hb dX12_worthAt_0 rfl (lv_at hl 0 rfl) ?_
  refine lv_iconst (v := 1) hx hb dX12_worthAt_1 (by decide) ?_
  have jn30 : ∀ (z28 : Int32), ((-1073741773 ≤ z28.toInt ∧ z28.toInt ≤ 1073741874)) → ∀ (H : Heap) (locs : List Loc), gH (dC, dI) kA (SHm q (wP wN wH wB wC wC wL wK) PI) G H → gF (dC, dI) SKm G ([] : List (Nat × Nat)) s.heap H → va_S A s.heap H locs → ∀ ls : Array Slot, lv_has ls 3 [(0, .int c1), (1, .int d1)] → W p l e (headSpec w_s_worthAt ({ frames := 1, cells := 0, slots := 0, locals := 40 })).room s m #[.int c1, .int d1] below meth c H locs 0 0 (MQ below (va_Qi (fun (r : Int32) (u : Unit) => (0 ≤ r.toInt ∧ r.toInt ≤ 1073741874)) (fun (_ : Unit) (t : State) => gH (dC, dI) kA (SHm q (wP wN wH wB wC wC wL wK) PI) G t.heap ∧ gF (dC, dI) SKm G ([] : List (Nat × Nat)) s.heap t.heap) A) #[.int c1, .int d1] s 0 0 A) (F0 m 61 ls [.int z28]) := by
    intro z28 h29 H locs hT hF hS  ls hl
    refine lv_istore_n (lv' := [(2, .int z28), (0, .int c1), (1, .int d1)]) hx hb dX12_worthAt_61 rfl hl (by decide) rfl (fun ls hl => ?_)
    refine lv_iconst (v := 0) hx hb dX12_worthAt_62 (by decide) ?_
    refine lv_iload_n hx hb dX12_worthAt_63 rfl (lv_at hl 0 rfl) ?_
    refine va_mmax hx hb (hml.trans hl.1.symm) hown (ht_at hts 4 rfl) (ht_at hts 5 rfl) (ht_at hts 2 rfl) (ht_at hts 6 rfl) (Nat.le_of_ble_eq_true rfl) (Nat.le_of_ble_eq_true rfl) (Nat.le_of_ble_eq_true rfl) (Nat.le_of_ble_eq_true rfl) dX12_worthAt_64 ?_
    refine lv_topi (fun x31 ex31 => ?_)
    have t32 : 0 ≤ x31.toInt ∧ z28.toInt ≤ x31.toInt ∧ (x31.toInt = 0 ∨ x31.toInt = z28.toInt) := mx_f ex31 (by decide) rfl
    exact W.iret (v := x31) hx hb hr (fun t ht hW => ⟨⟨x31, (), rfl, (by exact (rg_t (a := x31.toInt) rfl (by have q8 := ti_all x31; omega) (by have q8 := ti_all x31; omega))), by (try dsimp only); rw [ht]; exact ⟨hT, hF⟩⟩, hS.F ht⟩) hS.2.2 dX12_worthAt_67
  refine lv_icmp_ne (tgt := 20) hx hb dX12_worthAt_2 (by decide) (fun c33 => ?_) (fun c33 => ?_)
  · have t34 : c1.toInt ≠ 1 := ti_ne c33 rfl (by decide)
    refine lv_iload_n hx hb dX12_worthAt_20 rfl (lv_at hl 0 rfl) ?_
    refine lv_iconst (v := 2) hx hb dX12_worthAt_21 (by decide) ?_
    refine lv_icmp_ne (tgt := 40) hx hb dX12_worthAt_22 (by decide) (fun c35 => ?_) (fun c35 => ?_)
    · have t36 : c1.toInt ≠ 2 := ti_ne c35 rfl (by decide)
      refine lv_iload_n hx hb dX12_worthAt_40 rfl (lv_at hl 0 rfl) ?_
      refine lv_iconst (v := 3) hx hb dX12_worthAt_41 (by decide) ?_
      refine lv_icmp_ne (tgt := 60) hx hb dX12_worthAt_42 (by decide) (fun c37 => ?_) (fun c37 => ?_)
      · have t38 : c1.toInt ≠ 3 := ti_ne c37 rfl (by decide)
        refine lv_iconst (v := 0) hx hb dX12_worthAt_60 (by decide) ?_
        exact jn30 0 (rg_t (a := 0) (by decide) (by omega) (by omega)) _ _ hT hF hS ls (lv_sub hl [0, 1] rfl)
      · have t39 : c1.toInt = 3 := ti_eq c37 rfl (by decide)
        refine lv_bipush (v := 40) hx hb dX12_worthAt_45 (by decide) ?_
        refine lv_iload_n hx hb dX12_worthAt_47 rfl (lv_at hl 1 rfl) ?_
        refine lv_bipush (v := 100) hx hb dX12_worthAt_48 (by decide) ?_
        refine lv_isub hx hb dX12_worthAt_50 ?_
        refine lv_topi (fun x40 ex40 => ?_)
        refine va_mabs hx hb (hml.trans hl.1.symm) hown (ht_at hts 0 rfl) (ht_at hts 1 rfl) (ht_at hts 2 rfl) (ht_at hts 3 rfl) (Nat.le_of_ble_eq_true rfl) (Nat.le_of_ble_eq_true rfl) (Nat.le_of_ble_eq_true rfl) (Nat.le_of_ble_eq_true rfl) dX12_worthAt_51 ?_
        refine lv_topi (fun x41 ex41 => ?_)
        refine lv_iconst (v := 3) hx hb dX12_worthAt_54 (by decide) ?_
        have t42 : -2147483648 ≤ x41.toInt ∧ x41.toInt ≤ 2147483647 := ti_all x41
        refine lv_idiv hx hb dX12_worthAt_55 (by decide) ?_
        refine lv_topi (fun x43 ex43 => ?_)
        have t44 : (0 ≤ x41.toInt ∧ x43.toInt = x41.toInt / 3) ∨ (x41.toInt < 0 ∧ x43.toInt = -((-x41.toInt) / 3)) := ti_divs ex43 rfl (by decide) (by decide)
        refine lv_isub hx hb dX12_worthAt_56 ?_
        refine lv_topi (fun x45 ex45 => ?_)
        have t46 : x45.toInt = 40 - x43.toInt := ti_sub ex45 (by decide) rfl (by omega) (by omega)
        refine lv_goto (tgt := 61) hx hb dX12_worthAt_57 (by decide) ?_
        exact jn30 x45 (rg_t (a := x45.toInt) rfl (by have q8 := ti_all x45; omega) (by have q8 := ti_all x45; omega)) _ _ hT hF hS ls (lv_sub hl [0, 1] rfl)
    · have t47 : c1.toInt = 2 := ti_eq c35 rfl (by decide)
      refine lv_bipush (v := 50) hx hb dX12_worthAt_25 (by decide) ?_
      refine lv_iload_n hx hb dX12_worthAt_27 rfl (lv_at hl 1 rfl) ?_
      refine lv_bipush (v := 120) hx hb dX12_worthAt_28 (by decide) ?_
      refine lv_isub hx hb dX12_worthAt_30 ?_
      refine lv_topi (fun x48 ex48 => ?_)
      refine va_mabs hx hb (hml.trans hl.1.symm) hown (ht_at hts 0 rfl) (ht_at hts 1 rfl) (ht_at hts 2 rfl) (ht_at hts 3 rfl) (Nat.le_of_ble_eq_true rfl) (Nat.le_of_ble_eq_true rfl) (Nat.le_of_ble_eq_true rfl) (Nat.le_of_ble_eq_true rfl) dX12_worthAt_31 ?_
      refine lv_topi (fun x49 ex49 => ?_)
      refine lv_iconst (v := 2) hx hb dX12_worthAt_34 (by decide) ?_
      have t50 : -2147483648 ≤ x49.toInt ∧ x49.toInt ≤ 2147483647 := ti_all x49
      refine lv_idiv hx hb dX12_worthAt_35 (by decide) ?_
      refine lv_topi (fun x51 ex51 => ?_)
      have t52 : (0 ≤ x49.toInt ∧ x51.toInt = x49.toInt / 2) ∨ (x49.toInt < 0 ∧ x51.toInt = -((-x49.toInt) / 2)) := ti_divs ex51 rfl (by decide) (by decide)
      refine lv_isub hx hb dX12_worthAt_36 ?_
      refine lv_topi (fun x53 ex53 => ?_)
      have t54 : x53.toInt = 50 - x51.toInt := ti_sub ex53 (by decide) rfl (by omega) (by omega)
      refine lv_goto (tgt := 61) hx hb dX12_worthAt_37 (by decide) ?_
      exact jn30 x53 (rg_t (a := x53.toInt) rfl (by have q8 := ti_all x53; omega) (by have q8 := ti_all x53; omega)) _ _ hT hF hS ls (lv_sub hl [0, 1] rfl)
  · have t55 : c1.toInt = 1 := ti_eq c33 rfl (by decide)
    refine lv_bipush (v := 20) hx hb dX12_worthAt_5 (by decide) ?_
    refine lv_iload_n hx hb dX12_worthAt_7 rfl (lv_at hl 1 rfl) ?_
    refine lv_bipush (v := 60) hx hb dX12_worthAt_8 (by decide) ?_
    refine lv_isub hx hb dX12_worthAt_10 ?_
    refine lv_topi (fun x56 ex56 => ?_)
    refine va_mabs hx hb (hml.trans hl.1.symm) hown (ht_at hts 0 rfl) (ht_at hts 1 rfl) (ht_at hts 2 rfl) (ht_at hts 3 rfl) (Nat.le_of_ble_eq_true rfl) (Nat.le_of_ble_eq_true rfl) (Nat.le_of_ble_eq_true rfl) (Nat.le_of_ble_eq_true rfl) dX12_worthAt_11 ?_
    refine lv_topi (fun x57 ex57 => ?_)
    refine lv_iconst (v := 5) hx hb dX12_worthAt_14 (by decide) ?_
    have t58 : -2147483648 ≤ x57.toInt ∧ x57.toInt ≤ 2147483647 := ti_all x57
    refine lv_idiv hx hb dX12_worthAt_15 (by decide) ?_
    refine lv_topi (fun x59 ex59 => ?_)
    have t60 : (0 ≤ x57.toInt ∧ x59.toInt = x57.toInt / 5) ∨ (x57.toInt < 0 ∧ x59.toInt = -((-x57.toInt) / 5)) := ti_divs ex59 rfl (by decide) (by decide)
    refine lv_isub hx hb dX12_worthAt_16 ?_
    refine lv_topi (fun x61 ex61 => ?_)
    have t62 : x61.toInt = 20 - x59.toInt := ti_sub ex61 (by decide) rfl (by omega) (by omega)
    refine lv_goto (tgt := 61) hx hb dX12_worthAt_17 (by decide) ?_
    exact jn30 x61 (rg_t (a := x61.toInt) rfl (by have q8 := ti_all x61; omega) (by have q8 := ti_all x61; omega)) _ _ hT hF hS ls (lv_sub hl [0, 1] rfl)
def w_s_mayBuildOn : List Cond := .code yX12_mayBuildOn cX12_mayBuildOn 5 (some .boolean) :: ([.code yX12_lastOf cX12_lastOf 5 (some .int), .fieldLink RX12 42 "SeaLandModel" "lines" "[I", .fieldLink RX12 45 "SeaLandModel" "sort" "[I", .fieldLink RX12 48 "SeaLandModel" "told" "[I", .methodLink RX12 492 yX12_lastOf, .instanceMethod yX12_lastOf, .selects RX12 yX12_lastOf yX12_lastOf, .initialized RX12, .fieldLink RX12 9 "SeaLandModel" "world" "[I", .code yX12_isDike cX12_isDike 2 (some .boolean), .code yX12_of cX12_of 3 (some .int), .code yX12_at cX12_at 2 (some .int), .methodLink RX12 214 yX12_at, .static yX12_at, .methodLink RX12 217 yX12_of, .instanceMethod yX12_of, .selects RX12 yX12_of yX12_of, .methodLink RX12 272 yX12_isDike, .instanceMethod yX12_isDike, .selects RX12 yX12_isDike yX12_isDike, .code yX12_steps cX12_steps 2 (some .int), .methodLink RX12 201 Lib.Math.abs.name, .static Lib.Math.abs.name, .initialized "java/lang/Math", .code Lib.Math.abs.name Lib.Math.abs.code 1 (some .int), .methodLink RX12 262 yX12_steps, .static yX12_steps] ++ bs)
set_option maxHeartbeats 4000000 in
set_option maxRecDepth 100000 in
theorem s_mayBuildOn (l : Launch) (dC : Nat → ClassId) (dI : Nat → Nat → Nat) (kA : Nat → ClassId) (G : gT) (H0 : Heap) (q : Nat → Nat) (wN wH wB wC : Int) (wL wK : Nat → Prop) (PI : Nat → Int → Prop) (o0 : Nat) (sq : Int32) (hT : gH (dC, dI) kA (SHm q (wP wN wH wB wC wC wL wK) PI) G H0) (hr_o0 : G o0 = some 0) (hgn : 6500000 ≤ wN ∧ wN ≤ 400000000) (hgh : 0 ≤ wH ∧ wH ≤ 40000) (hgb : 0 ≤ wB ∧ wB ≤ 3850000) (hgc : 0 ≤ wC ∧ wC ≤ 30) : Met l yX12_mayBuildOn w_s_mayBuildOn ({ frames := 3, cells := 0, slots := 0, locals := 64 }) (va_Pc [.ref o0, .int sq] (fun U => U.heap = H0 ∧ va_K (dC, dI) vwCl (tyl kA) U ∧ EV (gA G H0.size) U U.heap)) (va_Qi (fun (r : Int32) (u : Unit) => (0 ≤ r.toInt ∧ r.toInt ≤ 1)) (fun (_ : Unit) (t : State) => gH (dC, dI) kA (SHm q (wP wN wH wB wC wC wL wK) PI) G t.heap ∧ gF (dC, dI) SKm G ([] : List (Nat × Nat)) H0 t.heap) (gA G H0.size)) 0 0 (gA G H0.size) := by
  refine Met.ofW (cc := cX12_mayBuildOn) (maxL := 5) (ret := (some .boolean)) (by decide) rfl ?_
  intro p e s m args below meth c s₁ B hml hv
  obtain ⟨rfl, hH0, hK, hE⟩ := hv
  have hx := B.exec
  have hb := B.bytes
  have hr := B.returns
  have hts := atoms_spec (ws := w_s_mayBuildOn) B.pre
  have hown : s.vm.findClass RX12 = some m.cls := findClass_of_methodNamed B.named
  have hlocks := B.notSynchronized
  subst hH0
  generalize hAe : gA G s.heap.size = A at hE ⊢
  have hA : ∀ q : Nat, s.heap.size ≤ q → A q := fun q h => by rw [← hAe]; exact Or.inr h
  have hG := gA_of hAe
  have hS : va_S A s.heap s.heap [] := va_S.rf
  have hF : gF (dC, dI) SKm G ([] : List (Nat × Nat)) s.heap s.heap := gF.rf
  have hl := lv_entry ([.ref o0, .int sq]) (n := 5) (Nat.le_of_ble_eq_true rfl)
  rw [lg_entry_eq]
  generalize (lg_sl ([.ref o0, .int sq]) ++ List.replicate (5 - (lg_sl ([.ref o0, .int sq])).length) Slot.unset).toArray = ls at hl ⊢
  have hl : lv_has ls 5 [(0, .ref o0), (1, .int sq)] := hl
  refine lv_aload_n hx hb dX12_mayBuildOn_0 rfl (lv_at hl 0 rfl) ?_
  refine lv_bipush (v := 9) hx hb dX12_mayBuildOn_1 (by decide) ?_
  refine lv_iconst (v := 0) hx hb dX12_mayBuildOn_3 (by decide) ?_
  have hFc := gA_free hG hA hS
  refine va_calli (va_runV (As := [.int 9, .int 0]) (rest := []) ⟨hx, hb, hml, hown, hts⟩ (s_lastOf l dC dI kA G s.heap q wN wH wB wC wL wK PI o0 9 0 hT hr_o0 (by omega) (by omega) (by omega) (by omega)) (cwV 2 hts (goodIn_app (goodIn_r _ [5, 6, 7, 8] (by decide +kernel) (by decide +kernel)) (goodIn_ca (goodIn_r _ [1, 2, 3, 4] (by decide +kernel) (by decide +kernel)) (bs_in _ _))) rfl rfl rfl (by decide +kernel) ⟨(Nat.le_of_ble_eq_true rfl), (Nat.le_of_ble_eq_true rfl)⟩) ⟨fun a U g mk q => by obtain ⟨q0, q1, qK, qE⟩ := q; exact ⟨q0, q1, va_K.moved (u := U) (U := U.calling g mk a) (Vm.Alike.refl U.vm) qK, EV.blind g mk a qE⟩, gH_recv hK hT hr_o0 shm_0 rfl, fun U hU hW => ⟨rfl, hU, va_K.moved hW.alike hK, hE.call hS hFc hU hW⟩⟩ rfl rfl hl.1 rfl (lv_room (Nat.le_of_ble_eq_true rfl)) dX12_mayBuildOn_4 ⟨(Nat.le_of_ble_eq_true rfl), (Nat.le_of_ble_eq_true rfl)⟩) hS (fun q _ h => hFc q h) hFc (fun r1 u t H locs ht hvm hw2 hB _ _ hS => ?_)
  obtain ⟨hT, hF1⟩ := hB
  rw [ht] at hT hF1
  have hF := hF.more hF1 (by decide)
  try dsimp only at hw2
  refine lv_istore_n (lv' := [(2, .int r1), (0, .ref o0), (1, .int sq)]) hx hb dX12_mayBuildOn_7 rfl hl (by decide) rfl (fun ls hl => ?_)
  refine lv_iconst (v := 1) hx hb dX12_mayBuildOn_8 (by decide) ?_
  refine lv_istore_n (lv' := [(3, .int 1), (2, .int r1), (0, .ref o0), (1, .int sq)]) hx hb dX12_mayBuildOn_9 rfl hl (by decide) rfl (fun ls hl => ?_)
  refine lv_iconst (v := 0) hx hb dX12_mayBuildOn_10 (by decide) ?_
  refine lv_istore (lv' := [(4, .int 0), (3, .int 1), (2, .int r1), (0, .ref o0), (1, .int sq)]) hx hb dX12_mayBuildOn_11 hl (by decide) rfl (fun ls hl => ?_)
  have key98 : ∀ (n98 i3 : Nat), i3 + n98 = 30 → 0 ≤ i3 → ∀ (z64 : Int32), ((0 ≤ z64.toInt ∧ z64.toInt ≤ 1)) → ∀ (H : Heap) (locs : List Loc), gH (dC, dI) kA (SHm q (wP wN wH wB wC wC wL wK) PI) G H → gF (dC, dI) SKm G ([] : List (Nat × Nat)) s.heap H → va_S A s.heap H locs → ∀ ls : Array Slot, lv_has ls 5 [(4, .int (nI i3)), (3, .int z64), (2, .int r1), (0, .ref o0), (1, .int sq)] → W p l e (headSpec w_s_mayBuildOn ({ frames := 3, cells := 0, slots := 0, locals := 64 })).room s m #[.ref o0, .int sq] below meth c H locs 0 0 (MQ below (va_Qi (fun (r : Int32) (u : Unit) => (0 ≤ r.toInt ∧ r.toInt ≤ 1)) (fun (_ : Unit) (t : State) => gH (dC, dI) kA (SHm q (wP wN wH wB wC wC wL wK) PI) G t.heap ∧ gF (dC, dI) SKm G ([] : List (Nat × Nat)) s.heap t.heap) A) #[.ref o0, .int sq] s 0 0 A) (F0 m 13 ls []) := by
    intro n98
    induction n98 with
    | zero =>
      intro i3 hn98 hlo99 z64 h65 H locs hT hF hS  ls hl
      obtain rfl : 30 = i3 := by omega
      refine lv_iload hx hb dX12_mayBuildOn_13 (lv_at hl 0 rfl) ?_
      refine lv_aload_n hx hb dX12_mayBuildOn_15 rfl (lv_at hl 3 rfl) ?_
      refine tw_get hx hb hts bF_X12 hown hK hT hr_o0 shm_0 rfl 1 (by decide) (ht_at hts 8 rfl) (fun _ h9 => h9) dX12_mayBuildOn_16 (fun v9 m100 h9 => ?_)
      obtain ⟨rfl, hg101⟩ := h9 _ rfl
      refine lv_sipush (v := 1428) hx hb dX12_mayBuildOn_19 (by decide) ?_
      refine tw_iald (i := 1428) hx hb hK hT hg101 shm_2 rfl (by unfold vp_in; decide) dX12_mayBuildOn_22 (fun v9 m102 h9 => ?_)
      obtain ⟨x103, rfl, gx103, kx103⟩ := (gp_at h9 (w_wct (by have q9 := tn_of (show (1428 : Int32).toInt = 1428 from (by decide)) (show (0 : Int) ≤ 1428 from by omega); omega)))
      refine lv_icmp_ge (tgt := 66) hx hb dX12_mayBuildOn_23 (by decide) (fun c104 => ?_) (fun c104 => (by exfalso; have q9 : ((30 : Nat) : Int) < x103.toInt := ti_nle c104 rfl (nI_toInt (by omega)); omega))
      have t105 : x103.toInt ≤ ((30 : Nat) : Int) := ti_le c104 rfl (nI_toInt (by omega))
      refine lv_iload_n hx hb dX12_mayBuildOn_66 rfl (lv_at hl 1 rfl) ?_
      exact W.zret (v := z64) hx hb hr (nar_b (rg_t (a := z64.toInt) rfl (by have q8 := ti_all z64; omega) (by have q8 := ti_all z64; omega))) (fun t ht hW => ⟨⟨z64, (), rfl, (by exact (rg_t (a := z64.toInt) rfl (by have q8 := ti_all z64; omega) (by have q8 := ti_all z64; omega))), by (try dsimp only); rw [ht]; exact ⟨hT, hF⟩⟩, hS.F ht⟩) hS.2.2 dX12_mayBuildOn_67
    | succ n98 ih98 =>
      intro i3 hn98 hlo99 z64 h65 H locs hT hF hS  ls hl
      have hlt105 : i3 < 30 := by omega
      refine lv_iload hx hb dX12_mayBuildOn_13 (lv_at hl 0 rfl) ?_
      refine lv_aload_n hx hb dX12_mayBuildOn_15 rfl (lv_at hl 3 rfl) ?_
      refine tw_get hx hb hts bF_X12 hown hK hT hr_o0 shm_0 rfl 1 (by decide) (ht_at hts 8 rfl) (fun _ h9 => h9) dX12_mayBuildOn_16 (fun v9 m106 h9 => ?_)
      obtain ⟨rfl, hg107⟩ := h9 _ rfl
      refine lv_sipush (v := 1428) hx hb dX12_mayBuildOn_19 (by decide) ?_
      refine tw_iald (i := 1428) hx hb hK hT hg107 shm_2 rfl (by unfold vp_in; decide) dX12_mayBuildOn_22 (fun v9 m108 h9 => ?_)
      obtain ⟨x109, rfl, gx109, kx109⟩ := (gp_at h9 (w_wct (by have q9 := tn_of (show (1428 : Int32).toInt = 1428 from (by decide)) (show (0 : Int) ≤ 1428 from by omega); omega)))
      refine lv_icmp_ge (tgt := 66) hx hb dX12_mayBuildOn_23 (by decide) (fun c110 => ?_) (fun c110 => ?_)
      · have t111 : x109.toInt ≤ ((i3 : Nat) : Int) := ti_le c110 rfl (nI_toInt (by omega))
        refine lv_iload_n hx hb dX12_mayBuildOn_66 rfl (lv_at hl 1 rfl) ?_
        exact W.zret (v := z64) hx hb hr (nar_b (rg_t (a := z64.toInt) rfl (by have q8 := ti_all z64; omega) (by have q8 := ti_all z64; omega))) (fun t ht hW => ⟨⟨z64, (), rfl, (by exact (rg_t (a := z64.toInt) rfl (by have q8 := ti_all z64; omega) (by have q8 := ti_all z64; omega))), by (try dsimp only); rw [ht]; exact ⟨hT, hF⟩⟩, hS.F ht⟩) hS.2.2 dX12_mayBuildOn_67
      · have t112 : ((i3 : Nat) : Int) < x109.toInt := ti_nle c110 rfl (nI_toInt (by omega))
        refine lv_iload_n hx hb dX12_mayBuildOn_26 rfl (lv_at hl 1 rfl) ?_
        refine lv_if_eq (tgt := 58) hx hb dX12_mayBuildOn_27 (by decide) (fun c113 => ?_) (fun c113 => ?_)
        · have t114 : z64.toInt = 0 := ti_eq c113 rfl (by decide)
          refine lv_iconst (v := 0) hx hb dX12_mayBuildOn_58 (by decide) ?_
          refine lv_istore_n (lv' := [(3, .int 0), (4, .int (nI i3)), (2, .int r1), (0, .ref o0), (1, .int sq)]) hx hb dX12_mayBuildOn_59 rfl hl (by decide) rfl (fun ls hl => ?_)
          refine lv_iinc (v := nI (i3 + 1)) (lv' := [(4, .int (nI (i3 + 1))), (3, .int 0), (2, .int r1), (0, .ref o0), (1, .int sq)]) hx hb dX12_mayBuildOn_60 hl (k := 1) rfl (nI_add i3 1) (by decide) rfl (fun ls hl => ?_)
          refine lv_goto (tgt := 13) hx hb dX12_mayBuildOn_63 (by decide) ?_
          exact ih98 (i3 + 1) (by omega) (by omega) 0 (rg_t (a := 0) (by decide) (by omega) (by omega)) _ _ hT hF hS ls (lv_sub hl [0, 1, 2, 3, 4] rfl)
        · have t115 : z64.toInt ≠ 0 := ti_ne c113 rfl (by decide)
          refine lv_aload_n hx hb dX12_mayBuildOn_30 rfl (lv_at hl 3 rfl) ?_
          refine lv_iload hx hb dX12_mayBuildOn_31 (lv_at hl 0 rfl) ?_
          have hFc := gA_free hG hA hS
          refine va_calli (va_runV (As := [.int (nI i3)]) (rest := []) ⟨hx, hb, hml, hown, hts⟩ (s_isDike l dC dI kA G H q wN wH wB wC wL wK PI o0 (nI i3) hT hr_o0 (rg_t (a := ((i3 : Nat) : Int)) (nI_toInt (by omega)) (by omega) (by omega)) (by omega) (by omega) (by omega) (by omega)) (cwV 1 hts (goodIn_app (goodIn_r _ [18, 19, 20, 8] (by decide +kernel) (by decide +kernel)) (goodIn_ca (goodIn_r _ [10, 11, 9, 12, 13, 14, 8, 15, 16, 17] (by decide +kernel) (by decide +kernel)) (bs_in _ _))) rfl rfl rfl (by decide +kernel) ⟨(Nat.le_of_ble_eq_true rfl), (Nat.le_of_ble_eq_true rfl)⟩) ⟨fun a U g mk q => by obtain ⟨q0, q1, qK, qE⟩ := q; exact ⟨q0, q1, va_K.moved (u := U) (U := U.calling g mk a) (Vm.Alike.refl U.vm) qK, EV.blind g mk a qE⟩, gH_recv hK hT hr_o0 shm_0 rfl, fun U hU hW => ⟨rfl, hU, va_K.moved hW.alike hK, hE.call hS hFc hU hW⟩⟩ rfl rfl hl.1 rfl (lv_room (Nat.le_of_ble_eq_true rfl)) dX12_mayBuildOn_33 ⟨(Nat.le_of_ble_eq_true rfl), (Nat.le_of_ble_eq_true rfl)⟩) hS (fun q _ h => hFc q h) hFc (fun r116 u t H locs ht hvm hw117 hB _ _ hS => ?_)
          obtain ⟨hT, hF1⟩ := hB
          rw [ht] at hT hF1
          have m118 := (el_kept (hF1.arr hg107 skm_2 (by decide))).trans m108
          have hF := hF.more hF1 (by decide)
          try dsimp only at hw117
          have h119 := hw117
          refine lv_if_eq (tgt := 54) hx hb dX12_mayBuildOn_36 (by decide) (fun c120 => ?_) (fun c120 => ?_)
          · have t121 : r116.toInt = 0 := ti_eq c120 rfl (by decide)
            refine lv_iconst (v := 1) hx hb dX12_mayBuildOn_54 (by decide) ?_
            refine lv_goto (tgt := 59) hx hb dX12_mayBuildOn_55 (by decide) ?_
            refine lv_istore_n (lv' := [(3, .int 1), (4, .int (nI i3)), (2, .int r1), (0, .ref o0), (1, .int sq)]) hx hb dX12_mayBuildOn_59 rfl hl (by decide) rfl (fun ls hl => ?_)
            refine lv_iinc (v := nI (i3 + 1)) (lv' := [(4, .int (nI (i3 + 1))), (3, .int 1), (2, .int r1), (0, .ref o0), (1, .int sq)]) hx hb dX12_mayBuildOn_60 hl (k := 1) rfl (nI_add i3 1) (by decide) rfl (fun ls hl => ?_)
            refine lv_goto (tgt := 13) hx hb dX12_mayBuildOn_63 (by decide) ?_
            exact ih98 (i3 + 1) (by omega) (by omega) 1 (rg_t (a := 1) (by decide) (by omega) (by omega)) _ _ hT hF hS ls (lv_sub hl [0, 1, 2, 3, 4] rfl)
          · have t122 : r116.toInt ≠ 0 := ti_ne c120 rfl (by decide)
            refine lv_iload_n hx hb dX12_mayBuildOn_39 rfl (lv_at hl 4 rfl) ?_
            refine lv_aload_n hx hb dX12_mayBuildOn_40 rfl (lv_at hl 3 rfl) ?_
            refine lv_iload hx hb dX12_mayBuildOn_41 (lv_at hl 0 rfl) ?_
            refine lv_iconst (v := 1) hx hb dX12_mayBuildOn_43 (by decide) ?_
            have hFc := gA_free hG hA hS
            refine va_calli (va_runV (As := [.int (nI i3), .int 1]) (rest := [.int sq]) ⟨hx, hb, hml, hown, hts⟩ (s_of1 l dC dI kA G H q wN wH wB wC wL wK PI o0 (nI i3) hT hr_o0 (rg_t (a := ((i3 : Nat) : Int)) (nI_toInt (by omega)) (by omega) (by omega)) (by omega) (by omega) (by omega) (by omega)) (cwV 2 hts (goodIn_app (goodIn_r _ [15, 16, 17, 8] (by decide +kernel) (by decide +kernel)) (goodIn_ca (goodIn_r _ [11, 9, 12, 13, 14, 8] (by decide +kernel) (by decide +kernel)) (bs_in _ _))) rfl rfl rfl (by decide +kernel) ⟨(Nat.le_of_ble_eq_true rfl), (Nat.le_of_ble_eq_true rfl)⟩) ⟨fun a U g mk q => by obtain ⟨q0, q1, qK, qE⟩ := q; exact ⟨q0, q1, va_K.moved (u := U) (U := U.calling g mk a) (Vm.Alike.refl U.vm) qK, EV.blind g mk a qE⟩, gH_recv hK hT hr_o0 shm_0 rfl, fun U hU hW => ⟨rfl, hU, va_K.moved hW.alike hK, hE.call hS hFc hU hW⟩⟩ rfl rfl hl.1 rfl (lv_room (Nat.le_of_ble_eq_true rfl)) dX12_mayBuildOn_44 ⟨(Nat.le_of_ble_eq_true rfl), (Nat.le_of_ble_eq_true rfl)⟩) hS (fun q _ h => hFc q h) hFc (fun r123 u t H locs ht hvm hw124 hB _ _ hS => ?_)
            obtain ⟨hT, hF1⟩ := hB
            rw [ht] at hT hF1
            have m125 := (el_kept (hF1.arr hg107 skm_2 (by decide))).trans m118
            have hF := hF.more hF1 (by decide)
            try dsimp only at hw124
            obtain ⟨h126, ⟨ix127, hix127, m128⟩⟩ := hw124
            have t129 : (nI i3).toInt = ((i3 : Nat) : Int) := nI_toInt (by omega)
            have m130 := (el_kept (hF1.arr hg107 skm_2 (by decide))).trans m128
            have hFc := gA_free hG hA hS
            refine va_calli (va_runS (As := [.int sq, .int r123]) (rest := []) ⟨hx, hb, hml, hown, hts⟩ (s_steps l dC dI kA G H q wN wH wB wC wL wK PI sq r123 hT (by omega) (by omega) (by omega) (by omega)) (va_cwS 2 hts (goodIn_app (goodIn_r _ [26, 27, 8] (by decide +kernel) (by decide +kernel)) (goodIn_ca (goodIn_r _ [21, 22, 23, 24, 25] (by decide +kernel) (by decide +kernel)) (bs_in _ _))) rfl rfl rfl (by decide +kernel) ⟨(Nat.le_of_ble_eq_true rfl), (Nat.le_of_ble_eq_true rfl)⟩) ⟨fun a U g mk q => by obtain ⟨q0, q1, qK, qE⟩ := q; exact ⟨q0, q1, va_K.moved (u := U) (U := U.calling g mk a) (Vm.Alike.refl U.vm) qK, EV.blind g mk a qE⟩, fun U hU hW => ⟨rfl, hU, va_K.moved hW.alike hK, hE.call hS hFc hU hW⟩⟩ rfl rfl hl.1 rfl (lv_room (Nat.le_of_ble_eq_true rfl)) dX12_mayBuildOn_47 ⟨(Nat.le_of_ble_eq_true rfl), (Nat.le_of_ble_eq_true rfl)⟩) hS (fun q _ h => hFc q h) hFc (fun r131 u t H locs ht hvm hw132 hB _ _ hS => ?_)
            obtain ⟨hT, hF1⟩ := hB
            rw [ht] at hT hF1
            have m133 := (el_kept (hF1.arr hg107 skm_2 (by decide))).trans m125
            have m134 := (el_kept (hF1.arr hg107 skm_2 (by decide))).trans m130
            have hF := hF.more hF1 (by decide)
            try dsimp only at hw132
            refine lv_iload_n hx hb dX12_mayBuildOn_50 rfl (lv_at hl 2 rfl) ?_
            refine lv_icmp_lt (tgt := 58) hx hb dX12_mayBuildOn_51 (by decide) (fun c135 => ?_) (fun c135 => ?_)
            · have t136 : r131.toInt < r1.toInt := ti_lt c135 rfl rfl
              refine lv_iconst (v := 0) hx hb dX12_mayBuildOn_58 (by decide) ?_
              refine lv_istore_n (lv' := [(3, .int 0), (4, .int (nI i3)), (2, .int r1), (0, .ref o0), (1, .int sq)]) hx hb dX12_mayBuildOn_59 rfl hl (by decide) rfl (fun ls hl => ?_)
              refine lv_iinc (v := nI (i3 + 1)) (lv' := [(4, .int (nI (i3 + 1))), (3, .int 0), (2, .int r1), (0, .ref o0), (1, .int sq)]) hx hb dX12_mayBuildOn_60 hl (k := 1) rfl (nI_add i3 1) (by decide) rfl (fun ls hl => ?_)
              refine lv_goto (tgt := 13) hx hb dX12_mayBuildOn_63 (by decide) ?_
              exact ih98 (i3 + 1) (by omega) (by omega) 0 (rg_t (a := 0) (by decide) (by omega) (by omega)) _ _ hT hF hS ls (lv_sub hl [0, 1, 2, 3, 4] rfl)
            · have t137 : r1.toInt ≤ r131.toInt := ti_nlt c135 rfl rfl
              refine lv_iconst (v := 1) hx hb dX12_mayBuildOn_54 (by decide) ?_
              refine lv_goto (tgt := 59) hx hb dX12_mayBuildOn_55 (by decide) ?_
              refine lv_istore_n (lv' := [(3, .int 1), (4, .int (nI i3)), (2, .int r1), (0, .ref o0), (1, .int sq)]) hx hb dX12_mayBuildOn_59 rfl hl (by decide) rfl (fun ls hl => ?_)
              refine lv_iinc (v := nI (i3 + 1)) (lv' := [(4, .int (nI (i3 + 1))), (3, .int 1), (2, .int r1), (0, .ref o0), (1, .int sq)]) hx hb dX12_mayBuildOn_60 hl (k := 1) rfl (nI_add i3 1) (by decide) rfl (fun ls hl => ?_)
              refine lv_goto (tgt := 13) hx hb dX12_mayBuildOn_63 (by decide) ?_
              exact ih98 (i3 + 1) (by omega) (by omega) 1 (rg_t (a := 1) (by decide) (by omega) (by omega)) _ _ hT hF hS ls (lv_sub hl [0, 1, 2, 3, 4] rfl)
  exact key98 (30 - 0) 0 (by omega) (Nat.le_refl _) 1 (rg_t (a := 1) (by decide) (by omega) (by omega)) _ _ hT hF hS ls (lv_sub hl [0, 1, 2, 3, 4] rfl)
def w_s_noPlace : List Cond := .code yX12_noPlace cX12_noPlace 2 (some .boolean) :: ([.code yX12_isLand cX12_isLand 2 (some .boolean), .fieldLink RX12 9 "SeaLandModel" "world" "[I", .methodLink RX12 235 yX12_isLand, .instanceMethod yX12_isLand, .selects RX12 yX12_isLand yX12_isLand, .initialized RX12, .code yX12_workOn cX12_workOn 3 (some .int), .code yX12_of cX12_of 3 (some .int), .code yX12_at cX12_at 2 (some .int), .methodLink RX12 214 yX12_at, .static yX12_at, .methodLink RX12 217 yX12_of, .instanceMethod yX12_of, .selects RX12 yX12_of yX12_of, .methodLink RX12 256 yX12_workOn, .instanceMethod yX12_workOn, .selects RX12 yX12_workOn yX12_workOn] ++ bs)
set_option maxHeartbeats 4000000 in
set_option maxRecDepth 100000 in
theorem s_noPlace (l : Launch) (dC : Nat → ClassId) (dI : Nat → Nat → Nat) (kA : Nat → ClassId) (G : gT) (H0 : Heap) (q : Nat → Nat) (wN wH wB wC : Int) (wL wK : Nat → Prop) (PI : Nat → Int → Prop) (o0 : Nat) (sq : Int32) (hT : gH (dC, dI) kA (SHm q (wP wN wH wB wC wC wL wK) PI) G H0) (hr_o0 : G o0 = some 0) (hq0 : 0 ≤ sq.toInt ∧ sq.toInt ≤ 95) (hgn : 6500000 ≤ wN ∧ wN ≤ 400000000) (hgh : 0 ≤ wH ∧ wH ≤ 40000) (hgb : 0 ≤ wB ∧ wB ≤ 3850000) (hgc : 0 ≤ wC ∧ wC ≤ 30) : Met l yX12_noPlace w_s_noPlace ({ frames := 3, cells := 0, slots := 0, locals := 65 }) (va_Pc [.ref o0, .int sq] (fun U => U.heap = H0 ∧ va_K (dC, dI) vwCl (tyl kA) U ∧ EV (gA G H0.size) U U.heap)) (va_Qi (fun (r : Int32) (u : Unit) => (0 ≤ r.toInt ∧ r.toInt ≤ 1)) (fun (_ : Unit) (t : State) => gH (dC, dI) kA (SHm q (wP wN wH wB wC wC wL wK) PI) G t.heap ∧ gF (dC, dI) SKm G ([] : List (Nat × Nat)) H0 t.heap) (gA G H0.size)) 0 0 (gA G H0.size) := by
  refine Met.ofW (cc := cX12_noPlace) (maxL := 2) (ret := (some .boolean)) (by decide) rfl ?_
  intro p e s m args below meth c s₁ B hml hv
  obtain ⟨rfl, hH0, hK, hE⟩ := hv
  have hx := B.exec
  have hb := B.bytes
  have hr := B.returns
  have hts := atoms_spec (ws := w_s_noPlace) B.pre
  have hown : s.vm.findClass RX12 = some m.cls := findClass_of_methodNamed B.named
  have hlocks := B.notSynchronized
  subst hH0
  generalize hAe : gA G s.heap.size = A at hE ⊢
  have hA : ∀ q : Nat, s.heap.size ≤ q → A q := fun q h => by rw [← hAe]; exact Or.inr h
  have hG := gA_of hAe
  have hS : va_S A s.heap s.heap [] := va_S.rf
  have hF : gF (dC, dI) SKm G ([] : List (Nat × Nat)) s.heap s.heap := gF.rf
  have hl := lv_entry ([.ref o0, .int sq]) (n := 2) (Nat.le_of_ble_eq_true rfl)
  rw [lg_entry_eq]
  generalize (lg_sl ([.ref o0, .int sq]) ++ List.replicate (2 - (lg_sl ([.ref o0, .int sq])).length) Slot.unset).toArray = ls at hl ⊢
  have hl : lv_has ls 2 [(0, .ref o0), (1, .int sq)] := hl
  refine lv_aload_n hx hb dX12_noPlace_0 rfl (lv_at hl 0 rfl) ?_
  refine lv_iload_n hx hb dX12_noPlace_1 rfl (lv_at hl 1 rfl) ?_
  have hFc := gA_free hG hA hS
  refine va_calli (va_runV (As := [.int sq]) (rest := []) ⟨hx, hb, hml, hown, hts⟩ (s_isLand l dC dI kA G s.heap q wN wH wB wC wL wK PI o0 sq hT hr_o0 (rg_t (a := sq.toInt) rfl (by have q8 := ti_all sq; omega) (by have q8 := ti_all sq; omega)) (by omega) (by omega) (by omega) (by omega)) (cwV 1 hts (goodIn_app (goodIn_r _ [3, 4, 5, 6] (by decide +kernel) (by decide +kernel)) (goodIn_ca (goodIn_r _ [1, 2] (by decide +kernel) (by decide +kernel)) (bs_in _ _))) rfl rfl rfl (by decide +kernel) ⟨(Nat.le_of_ble_eq_true rfl), (Nat.le_of_ble_eq_true rfl)⟩) ⟨fun a U g mk q => by obtain ⟨q0, q1, qK, qE⟩ := q; exact ⟨q0, q1, va_K.moved (u := U) (U := U.calling g mk a) (Vm.Alike.refl U.vm) qK, EV.blind g mk a qE⟩, gH_recv hK hT hr_o0 shm_0 rfl, fun U hU hW => ⟨rfl, hU, va_K.moved hW.alike hK, hE.call hS hFc hU hW⟩⟩ rfl rfl hl.1 rfl (lv_room (Nat.le_of_ble_eq_true rfl)) dX12_noPlace_2 ⟨(Nat.le_of_ble_eq_true rfl), (Nat.le_of_ble_eq_true rfl)⟩) hS (fun q _ h => hFc q h) hFc (fun r1 u t H locs ht hvm hw2 hB _ _ hS => ?_)
  obtain ⟨hT, hF1⟩ := hB
  rw [ht] at hT hF1
  have hF := hF.more hF1 (by decide)
  try dsimp only at hw2
  have h3 := hw2
  refine lv_if_eq (tgt := 16) hx hb dX12_noPlace_5 (by decide) (fun c4 => ?_) (fun c4 => ?_)
  · have t5 : r1.toInt = 0 := ti_eq c4 rfl (by decide)
    refine lv_iconst (v := 1) hx hb dX12_noPlace_16 (by decide) ?_
    refine lv_goto (tgt := 21) hx hb dX12_noPlace_17 (by decide) ?_
    exact W.zret (v := 1) hx hb hr (by decide) (fun t ht hW => ⟨⟨1, (), rfl, (by exact (rg_t (a := 1) (by decide) (by omega) (by omega))), by (try dsimp only); rw [ht]; exact ⟨hT, hF⟩⟩, hS.F ht⟩) hS.2.2 dX12_noPlace_21
  · have t6 : r1.toInt ≠ 0 := ti_ne c4 rfl (by decide)
    refine lv_aload_n hx hb dX12_noPlace_8 rfl (lv_at hl 0 rfl) ?_
    refine lv_iload_n hx hb dX12_noPlace_9 rfl (lv_at hl 1 rfl) ?_
    have hFc := gA_free hG hA hS
    refine va_calli (va_runV (As := [.int sq]) (rest := []) ⟨hx, hb, hml, hown, hts⟩ (s_workOn l dC dI kA G H q wN wH wB wC wL wK PI o0 sq hT hr_o0 (by omega) (by omega) (by omega) (by omega)) (cwV 1 hts (goodIn_app (goodIn_r _ [15, 16, 17, 6] (by decide +kernel) (by decide +kernel)) (goodIn_ca (goodIn_r _ [7, 2, 8, 9, 10, 11, 6, 12, 13, 14] (by decide +kernel) (by decide +kernel)) (bs_in _ _))) rfl rfl rfl (by decide +kernel) ⟨(Nat.le_of_ble_eq_true rfl), (Nat.le_of_ble_eq_true rfl)⟩) ⟨fun a U g mk q => by obtain ⟨q0, q1, qK, qE⟩ := q; exact ⟨q0, q1, va_K.moved (u := U) (U := U.calling g mk a) (Vm.Alike.refl U.vm) qK, EV.blind g mk a qE⟩, gH_recv hK hT hr_o0 shm_0 rfl, fun U hU hW => ⟨rfl, hU, va_K.moved hW.alike hK, hE.call hS hFc hU hW⟩⟩ rfl rfl hl.1 rfl (lv_room (Nat.le_of_ble_eq_true rfl)) dX12_noPlace_10 ⟨(Nat.le_of_ble_eq_true rfl), (Nat.le_of_ble_eq_true rfl)⟩) hS (fun q _ h => hFc q h) hFc (fun r7 u t H locs ht hvm hw8 hB _ _ hS => ?_)
    obtain ⟨hT, hF1⟩ := hB
    rw [ht] at hT hF1
    have hF := hF.more hF1 (by decide)
    try dsimp only at hw8
    have h9 := hw8
    refine lv_if_lt (tgt := 20) hx hb dX12_noPlace_13 (by decide) (fun c10 => ?_) (fun c10 => ?_)
    · have t11 : r7.toInt < 0 := ti_lt c10 rfl (by decide)
      refine lv_iconst (v := 0) hx hb dX12_noPlace_20 (by decide) ?_
      exact W.zret (v := 0) hx hb hr (by decide) (fun t ht hW => ⟨⟨0, (), rfl, (by exact (rg_t (a := 0) (by decide) (by omega) (by omega))), by (try dsimp only); rw [ht]; exact ⟨hT, hF⟩⟩, hS.F ht⟩) hS.2.2 dX12_noPlace_21
    · have t12 : 0 ≤ r7.toInt := ti_nlt c10 rfl (by decide)
      refine lv_iconst (v := 1) hx hb dX12_noPlace_16 (by decide) ?_
      refine lv_goto (tgt := 21) hx hb dX12_noPlace_17 (by decide) ?_
      exact W.zret (v := 1) hx hb hr (by decide) (fun t ht hW => ⟨⟨1, (), rfl, (by exact (rg_t (a := 1) (by decide) (by omega) (by omega))), by (try dsimp only); rw [ht]; exact ⟨hT, hF⟩⟩, hS.F ht⟩) hS.2.2 dX12_noPlace_21
def w_s_crest : List Cond := .code yX12_crest cX12_crest 4 (some .int) :: ([.fieldLink RX12 9 "SeaLandModel" "world" "[I", .code yX12_of cX12_of 3 (some .int), .code yX12_at cX12_at 2 (some .int), .methodLink RX12 214 yX12_at, .static yX12_at, .initialized RX12, .methodLink RX12 217 yX12_of, .instanceMethod yX12_of, .selects RX12 yX12_of yX12_of] ++ bs)
set_option maxHeartbeats 4000000 in
set_option maxRecDepth 100000 in
theorem s_crest (l : Launch) (dC : Nat → ClassId) (dI : Nat → Nat → Nat) (kA : Nat → ClassId) (G : gT) (H0 : Heap) (q : Nat → Nat) (wN wH wB wC : Int) (wL wK : Nat → Prop) (PI : Nat → Int → Prop) (o0 : Nat) (wk : Int32) (hT : gH (dC, dI) kA (SHm q (wP wN wH wB wC wC wL wK) PI) G H0) (hr_o0 : G o0 = some 0) (hq0 : 0 ≤ wk.toInt ∧ wk.toInt ≤ 29) (hgn : 6500000 ≤ wN ∧ wN ≤ 400000000) (hgh : 0 ≤ wH ∧ wH ≤ 40000) (hgb : 0 ≤ wB ∧ wB ≤ 3850000) (hgc : 0 ≤ wC ∧ wC ≤ 30) : Met l yX12_crest w_s_crest ({ frames := 2, cells := 0, slots := 0, locals := 43 }) (va_Pc [.ref o0, .int wk] (fun U => U.heap = H0 ∧ va_K (dC, dI) vwCl (tyl kA) U ∧ EV (gA G H0.size) U U.heap)) (va_Qi (fun (r : Int32) (u : Unit) => True) (fun (_ : Unit) (t : State) => gH (dC, dI) kA (SHm q (wP wN wH wB wC wC wL wK) PI) G t.heap ∧ gF (dC, dI) SKm G ([] : List (Nat × Nat)) H0 t.heap) (gA G H0.size)) 0 0 (gA G H0.size) := by
  refine Met.ofW (cc := cX12_crest) (maxL := 4) (ret := (some .int)) (by decide) rfl ?_
  intro p e s m args below meth c s₁ B hml hv
  obtain ⟨rfl, hH0, hK, hE⟩ := hv
  have hx := B.exec
  have hb := B.bytes
  have hr := B.returns
  have hts := atoms_spec (ws := w_s_crest) B.pre
  have hown : s.vm.findClass RX12 = some m.cls := findClass_of_methodNamed B.named
  have hlocks := B.notSynchronized
  subst hH0
  generalize hAe : gA G s.heap.size = A at hE ⊢
  have hA : ∀ q : Nat, s.heap.size ≤ q → A q := fun q h => by rw [← hAe]; exact Or.inr h
  have hG := gA_of hAe
  have hS : va_S A s.heap s.heap [] := va_S.rf
  have hF : gF (dC, dI) SKm G ([] : List (Nat × Nat)) s.heap s.heap := gF.rf
  have hl := lv_entry ([.ref o0, .int wk]) (n := 4) (Nat.le_of_ble_eq_true rfl)
  rw [lg_entry_eq]
  generalize (lg_sl ([.ref o0, .int wk]) ++ List.replicate (4 - (lg_sl ([.ref o0, .int wk])).length) Slot.unset).toArray = ls at hl ⊢
  have hl : lv_has ls 4 [(0, .ref o0), (1, .int wk)] := hl
  refine lv_aload_n hx hb dX12_crest_0 rfl (lv_at hl 0 rfl) ?_
  refine tw_get hx hb hts bF_X12 hown hK hT hr_o0 shm_0 rfl 1 (by decide) (ht_at hts 0 rfl) (fun _ h9 => h9) dX12_crest_1 (fun v9 m1 h9 => ?_)
  obtain ⟨rfl, hg2⟩ := h9 _ rfl
  refine lv_bipush (v := 96) hx hb dX12_crest_4 (by decide) ?_
  refine lv_aload_n hx hb dX12_crest_6 rfl (lv_at hl 0 rfl) ?_
  refine lv_iload_n hx hb dX12_crest_7 rfl (lv_at hl 1 rfl) ?_
  refine lv_iconst (v := 1) hx hb dX12_crest_8 (by decide) ?_
  have hFc := gA_free hG hA hS
  refine va_calli (va_runV (As := [.int wk, .int 1]) (rest := [.int 96, .ref (q 1)]) ⟨hx, hb, hml, hown, hts⟩ (s_of1 l dC dI kA G s.heap q wN wH wB wC wL wK PI o0 wk hT hr_o0 (rg_t (a := wk.toInt) rfl (by have q8 := ti_all wk; omega) (by have q8 := ti_all wk; omega)) (by omega) (by omega) (by omega) (by omega)) (cwV 2 hts (goodIn_app (goodIn_r _ [7, 8, 9, 6] (by decide +kernel) (by decide +kernel)) (goodIn_ca (goodIn_r _ [2, 1, 3, 4, 5, 6] (by decide +kernel) (by decide +kernel)) (bs_in _ _))) rfl rfl rfl (by decide +kernel) ⟨(Nat.le_of_ble_eq_true rfl), (Nat.le_of_ble_eq_true rfl)⟩) ⟨fun a U g mk q => by obtain ⟨q0, q1, qK, qE⟩ := q; exact ⟨q0, q1, va_K.moved (u := U) (U := U.calling g mk a) (Vm.Alike.refl U.vm) qK, EV.blind g mk a qE⟩, gH_recv hK hT hr_o0 shm_0 rfl, fun U hU hW => ⟨rfl, hU, va_K.moved hW.alike hK, hE.call hS hFc hU hW⟩⟩ rfl rfl hl.1 rfl (lv_room (Nat.le_of_ble_eq_true rfl)) dX12_crest_9 ⟨(Nat.le_of_ble_eq_true rfl), (Nat.le_of_ble_eq_true rfl)⟩) hS (fun q _ h => hFc q h) hFc (fun r3 u t H locs ht hvm hw4 hB _ _ hS => ?_)
  obtain ⟨hT, hF1⟩ := hB
  rw [ht] at hT hF1
  have hF := hF.more hF1 (by decide)
  try dsimp only at hw4
  obtain ⟨h5, ⟨ix6, hix6, m7⟩⟩ := hw4
  have m8 := (el_kept (hF1.arr hg2 skm_2 (by decide))).trans m7
  refine lv_iadd hx hb dX12_crest_12 ?_
  refine lv_topi (fun x9 ex9 => ?_)
  have t10 : x9.toInt = 96 + r3.toInt := ti_add ex9 (by decide) rfl (by omega) (by omega)
  refine tw_iald (i := x9) hx hb hK hT hg2 shm_2 rfl (vin_t (a := x9.toInt) rfl (by omega) (by omega)) dX12_crest_13 (fun v9 m11 h9 => ?_)
  obtain ⟨x12, rfl, gx12, kx12⟩ := (gp_at h9 (w_hgt (by have q9 := tn_of (show x9.toInt = x9.toInt from rfl) (show (0 : Int) ≤ x9.toInt from by omega); omega)))
  refine lv_istore_n (lv' := [(2, .int x12), (0, .ref o0), (1, .int wk)]) hx hb dX12_crest_14 rfl hl (by decide) rfl (fun ls hl => ?_)
  refine lv_iconst (v := 0) hx hb dX12_crest_15 (by decide) ?_
  refine lv_istore_n (lv' := [(3, .int 0), (2, .int x12), (0, .ref o0), (1, .int wk)]) hx hb dX12_crest_16 rfl hl (by decide) rfl (fun ls hl => ?_)
  have key87 : ∀ (n87 i13 : Nat), i13 + n87 = 6 → 0 ≤ i13 → ∀ (z62 : Int32), ∀ (H : Heap) (locs : List Loc), gH (dC, dI) kA (SHm q (wP wN wH wB wC wC wL wK) PI) G H → gF (dC, dI) SKm G ([] : List (Nat × Nat)) s.heap H → va_S A s.heap H locs → el H (q 1) ix6.toNatClampNeg = some (.int r3) → el H (q 1) x9.toNatClampNeg = some (.int x12) → ∀ ls : Array Slot, lv_has ls 4 [(3, .int (nI i13)), (2, .int z62), (0, .ref o0), (1, .int wk)] → W p l e (headSpec w_s_crest ({ frames := 2, cells := 0, slots := 0, locals := 43 })).room s m #[.ref o0, .int wk] below meth c H locs 0 0 (MQ below (va_Qi (fun (r : Int32) (u : Unit) => True) (fun (_ : Unit) (t : State) => gH (dC, dI) kA (SHm q (wP wN wH wB wC wC wL wK) PI) G t.heap ∧ gF (dC, dI) SKm G ([] : List (Nat × Nat)) s.heap t.heap) A) #[.ref o0, .int wk] s 0 0 A) (F0 m 17 ls []) := by
    intro n87
    induction n87 with
    | zero =>
      intro i13 hn87 hlo88 z62 H locs hT hF hS m63 m64 ls hl
      obtain rfl : 6 = i13 := by omega
      refine lv_iload_n hx hb dX12_crest_17 rfl (lv_at hl 0 rfl) ?_
      refine lv_aload_n hx hb dX12_crest_18 rfl (lv_at hl 2 rfl) ?_
      refine lv_iload_n hx hb dX12_crest_19 rfl (lv_at hl 3 rfl) ?_
      refine lv_iconst (v := 4) hx hb dX12_crest_20 (by decide) ?_
      have hFc := gA_free hG hA hS
      refine va_calli (va_runV (As := [.int wk, .int 4]) (rest := [.int (nI 6)]) ⟨hx, hb, hml, hown, hts⟩ (s_of4 l dC dI kA G H q wN wH wB wC wL wK PI o0 wk hT hr_o0 (rg_t (a := wk.toInt) rfl (by have q8 := ti_all wk; omega) (by have q8 := ti_all wk; omega)) (by omega) (by omega) (by omega) (by omega)) (cwV 2 hts (goodIn_app (goodIn_r _ [7, 8, 9, 6] (by decide +kernel) (by decide +kernel)) (goodIn_ca (goodIn_r _ [2, 1, 3, 4, 5, 6] (by decide +kernel) (by decide +kernel)) (bs_in _ _))) rfl rfl rfl (by decide +kernel) ⟨(Nat.le_of_ble_eq_true rfl), (Nat.le_of_ble_eq_true rfl)⟩) ⟨fun a U g mk q => by obtain ⟨q0, q1, qK, qE⟩ := q; exact ⟨q0, q1, va_K.moved (u := U) (U := U.calling g mk a) (Vm.Alike.refl U.vm) qK, EV.blind g mk a qE⟩, gH_recv hK hT hr_o0 shm_0 rfl, fun U hU hW => ⟨rfl, hU, va_K.moved hW.alike hK, hE.call hS hFc hU hW⟩⟩ rfl rfl hl.1 rfl (lv_room (Nat.le_of_ble_eq_true rfl)) dX12_crest_21 ⟨(Nat.le_of_ble_eq_true rfl), (Nat.le_of_ble_eq_true rfl)⟩) hS (fun q _ h => hFc q h) hFc (fun r89 u t H locs ht hvm hw90 hB _ _ hS => ?_)
      obtain ⟨hT, hF1⟩ := hB
      rw [ht] at hT hF1
      have m91 := (el_kept (hF1.arr hg2 skm_2 (by decide))).trans m63
      have m92 := (el_kept (hF1.arr hg2 skm_2 (by decide))).trans m64
      have hF := hF.more hF1 (by decide)
      try dsimp only at hw90
      obtain ⟨h93, ⟨ix94, hix94, m95⟩⟩ := hw90
      have m96 := (el_kept (hF1.arr hg2 skm_2 (by decide))).trans m95
      refine lv_icmp_ge (tgt := 44) hx hb dX12_crest_24 (by decide) (fun c97 => ?_) (fun c97 => (by exfalso; have q9 : ((6 : Nat) : Int) < r89.toInt := ti_nle c97 rfl (nI_toInt (by omega)); omega))
      have t98 : r89.toInt ≤ ((6 : Nat) : Int) := ti_le c97 rfl (nI_toInt (by omega))
      refine lv_iload_n hx hb dX12_crest_44 rfl (lv_at hl 1 rfl) ?_
      exact W.iret (v := z62) hx hb hr (fun t ht hW => ⟨⟨z62, (), rfl, (by exact trivial), by (try dsimp only); rw [ht]; exact ⟨hT, hF⟩⟩, hS.F ht⟩) hS.2.2 dX12_crest_45
    | succ n87 ih87 =>
      intro i13 hn87 hlo88 z62 H locs hT hF hS m63 m64 ls hl
      have hlt98 : i13 < 6 := by omega
      refine lv_iload_n hx hb dX12_crest_17 rfl (lv_at hl 0 rfl) ?_
      refine lv_aload_n hx hb dX12_crest_18 rfl (lv_at hl 2 rfl) ?_
      refine lv_iload_n hx hb dX12_crest_19 rfl (lv_at hl 3 rfl) ?_
      refine lv_iconst (v := 4) hx hb dX12_crest_20 (by decide) ?_
      have hFc := gA_free hG hA hS
      refine va_calli (va_runV (As := [.int wk, .int 4]) (rest := [.int (nI i13)]) ⟨hx, hb, hml, hown, hts⟩ (s_of4 l dC dI kA G H q wN wH wB wC wL wK PI o0 wk hT hr_o0 (rg_t (a := wk.toInt) rfl (by have q8 := ti_all wk; omega) (by have q8 := ti_all wk; omega)) (by omega) (by omega) (by omega) (by omega)) (cwV 2 hts (goodIn_app (goodIn_r _ [7, 8, 9, 6] (by decide +kernel) (by decide +kernel)) (goodIn_ca (goodIn_r _ [2, 1, 3, 4, 5, 6] (by decide +kernel) (by decide +kernel)) (bs_in _ _))) rfl rfl rfl (by decide +kernel) ⟨(Nat.le_of_ble_eq_true rfl), (Nat.le_of_ble_eq_true rfl)⟩) ⟨fun a U g mk q => by obtain ⟨q0, q1, qK, qE⟩ := q; exact ⟨q0, q1, va_K.moved (u := U) (U := U.calling g mk a) (Vm.Alike.refl U.vm) qK, EV.blind g mk a qE⟩, gH_recv hK hT hr_o0 shm_0 rfl, fun U hU hW => ⟨rfl, hU, va_K.moved hW.alike hK, hE.call hS hFc hU hW⟩⟩ rfl rfl hl.1 rfl (lv_room (Nat.le_of_ble_eq_true rfl)) dX12_crest_21 ⟨(Nat.le_of_ble_eq_true rfl), (Nat.le_of_ble_eq_true rfl)⟩) hS (fun q _ h => hFc q h) hFc (fun r99 u t H locs ht hvm hw100 hB _ _ hS => ?_)
      obtain ⟨hT, hF1⟩ := hB
      rw [ht] at hT hF1
      have m101 := (el_kept (hF1.arr hg2 skm_2 (by decide))).trans m63
      have m102 := (el_kept (hF1.arr hg2 skm_2 (by decide))).trans m64
      have hF := hF.more hF1 (by decide)
      try dsimp only at hw100
      obtain ⟨h103, ⟨ix104, hix104, m105⟩⟩ := hw100
      have m106 := (el_kept (hF1.arr hg2 skm_2 (by decide))).trans m105
      refine lv_icmp_ge (tgt := 44) hx hb dX12_crest_24 (by decide) (fun c107 => ?_) (fun c107 => ?_)
      · have t108 : r99.toInt ≤ ((i13 : Nat) : Int) := ti_le c107 rfl (nI_toInt (by omega))
        refine lv_iload_n hx hb dX12_crest_44 rfl (lv_at hl 1 rfl) ?_
        exact W.iret (v := z62) hx hb hr (fun t ht hW => ⟨⟨z62, (), rfl, (by exact trivial), by (try dsimp only); rw [ht]; exact ⟨hT, hF⟩⟩, hS.F ht⟩) hS.2.2 dX12_crest_45
      · have t109 : ((i13 : Nat) : Int) < r99.toInt := ti_nle c107 rfl (nI_toInt (by omega))
        refine lv_iload_n hx hb dX12_crest_27 rfl (lv_at hl 1 rfl) ?_
        refine lv_aload_n hx hb dX12_crest_28 rfl (lv_at hl 2 rfl) ?_
        refine lv_iload_n hx hb dX12_crest_29 rfl (lv_at hl 3 rfl) ?_
        refine lv_iconst (v := 5) hx hb dX12_crest_30 (by decide) ?_
        refine lv_iload_n hx hb dX12_crest_31 rfl (lv_at hl 0 rfl) ?_
        refine lv_iadd hx hb dX12_crest_32 ?_
        refine lv_topi (fun x110 ex110 => ?_)
        obtain rfl : nI (5 + i13) = x110 := (ex110.trans (nI_add 5 i13)).symm
        have hFc := gA_free hG hA hS
        refine va_calli (va_runV (As := [.int wk, .int (nI (5 + i13))]) (rest := [.int z62]) ⟨hx, hb, hml, hown, hts⟩ (s_ofT l dC dI kA G H q wN wH wB wC wL wK PI o0 wk (nI (5 + i13)) hT hr_o0 (rg_t (a := wk.toInt) rfl (by have q8 := ti_all wk; omega) (by have q8 := ti_all wk; omega)) (rg_t (a := ((5 + i13 : Nat) : Int)) (nI_toInt (by omega)) (by omega) (by omega)) (by omega) (by omega) (by omega) (by omega)) (cwV 2 hts (goodIn_app (goodIn_r _ [7, 8, 9, 6] (by decide +kernel) (by decide +kernel)) (goodIn_ca (goodIn_r _ [2, 1, 3, 4, 5, 6] (by decide +kernel) (by decide +kernel)) (bs_in _ _))) rfl rfl rfl (by decide +kernel) ⟨(Nat.le_of_ble_eq_true rfl), (Nat.le_of_ble_eq_true rfl)⟩) ⟨fun a U g mk q => by obtain ⟨q0, q1, qK, qE⟩ := q; exact ⟨q0, q1, va_K.moved (u := U) (U := U.calling g mk a) (Vm.Alike.refl U.vm) qK, EV.blind g mk a qE⟩, gH_recv hK hT hr_o0 shm_0 rfl, fun U hU hW => ⟨rfl, hU, va_K.moved hW.alike hK, hE.call hS hFc hU hW⟩⟩ rfl rfl hl.1 rfl (lv_room (Nat.le_of_ble_eq_true rfl)) dX12_crest_33 ⟨(Nat.le_of_ble_eq_true rfl), (Nat.le_of_ble_eq_true rfl)⟩) hS (fun q _ h => hFc q h) hFc (fun r111 u t H locs ht hvm hw112 hB _ _ hS => ?_)
        obtain ⟨hT, hF1⟩ := hB
        rw [ht] at hT hF1
        have m113 := (el_kept (hF1.arr hg2 skm_2 (by decide))).trans m101
        have m114 := (el_kept (hF1.arr hg2 skm_2 (by decide))).trans m102
        have m115 := (el_kept (hF1.arr hg2 skm_2 (by decide))).trans m106
        have hF := hF.more hF1 (by decide)
        try dsimp only at hw112
        have ⟨ix116, hix116, m117⟩ := hw112
        have t118 : (nI (5 + i13)).toInt = ((5 + i13 : Nat) : Int) := nI_toInt (by omega)
        have m119 := (el_kept (hF1.arr hg2 skm_2 (by decide))).trans m117
        refine lv_iadd hx hb dX12_crest_36 ?_
        refine lv_topi (fun x120 ex120 => ?_)
        refine lv_istore_n (lv' := [(2, .int x120), (3, .int (nI i13)), (0, .ref o0), (1, .int wk)]) hx hb dX12_crest_37 rfl hl (by decide) rfl (fun ls hl => ?_)
        refine lv_iinc (v := nI (i13 + 1)) (lv' := [(3, .int (nI (i13 + 1))), (2, .int x120), (0, .ref o0), (1, .int wk)]) hx hb dX12_crest_38 hl (k := 1) rfl (nI_add i13 1) (by decide) rfl (fun ls hl => ?_)
        refine lv_goto (tgt := 17) hx hb dX12_crest_41 (by decide) ?_
        exact ih87 (i13 + 1) (by omega) (by omega) x120 _ _ hT hF hS m113 m114 ls (lv_sub hl [0, 1, 2, 3] rfl)
  exact key87 (6 - 0) 0 (by omega) (Nat.le_refl _) x12 _ _ hT hF hS m8 m11 ls (lv_sub hl [0, 1, 2, 3] rfl)
def w_s_hasDitch : List Cond := .code yX12_hasDitch cX12_hasDitch 2 (some .boolean) :: ([.code yX12_isLand cX12_isLand 2 (some .boolean), .fieldLink RX12 9 "SeaLandModel" "world" "[I", .methodLink RX12 235 yX12_isLand, .instanceMethod yX12_isLand, .selects RX12 yX12_isLand yX12_isLand, .initialized RX12] ++ bs)
set_option maxHeartbeats 4000000 in
set_option maxRecDepth 100000 in
theorem s_hasDitch (l : Launch) (dC : Nat → ClassId) (dI : Nat → Nat → Nat) (kA : Nat → ClassId) (G : gT) (H0 : Heap) (q : Nat → Nat) (wN wH wB wC : Int) (wL wK : Nat → Prop) (PI : Nat → Int → Prop) (o0 : Nat) (sq : Int32) (hT : gH (dC, dI) kA (SHm q (wP wN wH wB wC wC wL wK) PI) G H0) (hr_o0 : G o0 = some 0) (hq0 : 0 ≤ sq.toInt ∧ sq.toInt ≤ 95) (hgn : 6500000 ≤ wN ∧ wN ≤ 400000000) (hgh : 0 ≤ wH ∧ wH ≤ 40000) (hgb : 0 ≤ wB ∧ wB ≤ 3850000) (hgc : 0 ≤ wC ∧ wC ≤ 30) : Met l yX12_hasDitch w_s_hasDitch ({ frames := 1, cells := 0, slots := 0, locals := 21 }) (va_Pc [.ref o0, .int sq] (fun U => U.heap = H0 ∧ va_K (dC, dI) vwCl (tyl kA) U ∧ EV (gA G H0.size) U U.heap)) (va_Qi (fun (r : Int32) (u : Unit) => (0 ≤ r.toInt ∧ r.toInt ≤ 1)) (fun (_ : Unit) (t : State) => gH (dC, dI) kA (SHm q (wP wN wH wB wC wC wL wK) PI) G t.heap ∧ gF (dC, dI) SKm G ([] : List (Nat × Nat)) H0 t.heap) (gA G H0.size)) 0 0 (gA G H0.size) := by
  refine Met.ofW (cc := cX12_hasDitch) (maxL := 2) (ret := (some .boolean)) (by decide) rfl ?_
  intro p e s m args below meth c s₁ B hml hv
  obtain ⟨rfl, hH0, hK, hE⟩ := hv
  have hx := B.exec
  have hb := B.bytes
  have hr := B.returns
  have hts := atoms_spec (ws := w_s_hasDitch) B.pre
  have hown : s.vm.findClass RX12 = some m.cls := findClass_of_methodNamed B.named
  have hlocks := B.notSynchronized
  subst hH0
  generalize hAe : gA G s.heap.size = A at hE ⊢
  have hA : ∀ q : Nat, s.heap.size ≤ q → A q := fun q h => by rw [← hAe]; exact Or.inr h
  have hG := gA_of hAe
  have hS : va_S A s.heap s.heap [] := va_S.rf
  have hF : gF (dC, dI) SKm G ([] : List (Nat × Nat)) s.heap s.heap := gF.rf
  have hl := lv_entry ([.ref o0, .int sq]) (n := 2) (Nat.le_of_ble_eq_true rfl)
  rw [lg_entry_eq]
  generalize (lg_sl ([.ref o0, .int sq]) ++ List.replicate (2 - (lg_sl ([.ref o0, .int sq])).length) Slot.unset).toArray = ls at hl ⊢
  have hl : lv_has ls 2 [(0, .ref o0), (1, .int sq)] := hl
  refine lv_aload_n hx hb dX12_hasDitch_0 rfl (lv_at hl 0 rfl) ?_
  refine lv_iload_n hx hb dX12_hasDitch_1 rfl (lv_at hl 1 rfl) ?_
  have hFc := gA_free hG hA hS
  refine va_calli (va_runV (As := [.int sq]) (rest := []) ⟨hx, hb, hml, hown, hts⟩ (s_isLand l dC dI kA G s.heap q wN wH wB wC wL wK PI o0 sq hT hr_o0 (rg_t (a := sq.toInt) rfl (by have q8 := ti_all sq; omega) (by have q8 := ti_all sq; omega)) (by omega) (by omega) (by omega) (by omega)) (cwV 1 hts (goodIn_app (goodIn_r _ [3, 4, 5, 6] (by decide +kernel) (by decide +kernel)) (goodIn_ca (goodIn_r _ [1, 2] (by decide +kernel) (by decide +kernel)) (bs_in _ _))) rfl rfl rfl (by decide +kernel) ⟨(Nat.le_of_ble_eq_true rfl), (Nat.le_of_ble_eq_true rfl)⟩) ⟨fun a U g mk q => by obtain ⟨q0, q1, qK, qE⟩ := q; exact ⟨q0, q1, va_K.moved (u := U) (U := U.calling g mk a) (Vm.Alike.refl U.vm) qK, EV.blind g mk a qE⟩, gH_recv hK hT hr_o0 shm_0 rfl, fun U hU hW => ⟨rfl, hU, va_K.moved hW.alike hK, hE.call hS hFc hU hW⟩⟩ rfl rfl hl.1 rfl (lv_room (Nat.le_of_ble_eq_true rfl)) dX12_hasDitch_2 ⟨(Nat.le_of_ble_eq_true rfl), (Nat.le_of_ble_eq_true rfl)⟩) hS (fun q _ h => hFc q h) hFc (fun r1 u t H locs ht hvm hw2 hB _ _ hS => ?_)
  obtain ⟨hT, hF1⟩ := hB
  rw [ht] at hT hF1
  have hF := hF.more hF1 (by decide)
  try dsimp only at hw2
  have h3 := hw2
  refine lv_if_eq (tgt := 25) hx hb dX12_hasDitch_5 (by decide) (fun c4 => ?_) (fun c4 => ?_)
  · have t5 : r1.toInt = 0 := ti_eq c4 rfl (by decide)
    refine lv_iconst (v := 0) hx hb dX12_hasDitch_25 (by decide) ?_
    exact W.zret (v := 0) hx hb hr (by decide) (fun t ht hW => ⟨⟨0, (), rfl, (by exact (rg_t (a := 0) (by decide) (by omega) (by omega))), by (try dsimp only); rw [ht]; exact ⟨hT, hF⟩⟩, hS.F ht⟩) hS.2.2 dX12_hasDitch_26
  · have t6 : r1.toInt ≠ 0 := ti_ne c4 rfl (by decide)
    refine lv_aload_n hx hb dX12_hasDitch_8 rfl (lv_at hl 0 rfl) ?_
    refine tw_get hx hb hts bF_X12 hown hK hT hr_o0 shm_0 rfl 1 (by decide) (ht_at hts 1 rfl) (fun _ h9 => h9) dX12_hasDitch_9 (fun v9 m7 h9 => ?_)
    obtain ⟨rfl, hg8⟩ := h9 _ rfl
    refine lv_sipush (v := 288) hx hb dX12_hasDitch_12 (by decide) ?_
    refine lv_iload_n hx hb dX12_hasDitch_15 rfl (lv_at hl 1 rfl) ?_
    refine lv_iadd hx hb dX12_hasDitch_16 ?_
    refine lv_topi (fun x9 ex9 => ?_)
    have t10 : x9.toInt = 288 + sq.toInt := ti_add ex9 (by decide) rfl (by omega) (by omega)
    refine tw_iald (i := x9) hx hb hK hT hg8 shm_2 rfl (vin_t (a := x9.toInt) rfl (by omega) (by omega)) dX12_hasDitch_17 (fun v9 m11 h9 => ?_)
    obtain ⟨x12, rfl, gx12, kx12⟩ := (gp_at h9 (w_dit (by have q9 := tn_of (show x9.toInt = x9.toInt from rfl) (show (0 : Int) ≤ x9.toInt from by omega); omega)))
    refine lv_if_le (tgt := 25) hx hb dX12_hasDitch_18 (by decide) (fun c13 => ?_) (fun c13 => ?_)
    · have t14 : x12.toInt ≤ 0 := ti_le c13 rfl (by decide)
      refine lv_iconst (v := 0) hx hb dX12_hasDitch_25 (by decide) ?_
      exact W.zret (v := 0) hx hb hr (by decide) (fun t ht hW => ⟨⟨0, (), rfl, (by exact (rg_t (a := 0) (by decide) (by omega) (by omega))), by (try dsimp only); rw [ht]; exact ⟨hT, hF⟩⟩, hS.F ht⟩) hS.2.2 dX12_hasDitch_26
    · have t15 : 0 < x12.toInt := ti_nle c13 rfl (by decide)
      refine lv_iconst (v := 1) hx hb dX12_hasDitch_21 (by decide) ?_
      refine lv_goto (tgt := 26) hx hb dX12_hasDitch_22 (by decide) ?_
      exact W.zret (v := 1) hx hb hr (by decide) (fun t ht hW => ⟨⟨1, (), rfl, (by exact (rg_t (a := 1) (by decide) (by omega) (by omega))), by (try dsimp only); rw [ht]; exact ⟨hT, hF⟩⟩, hS.F ht⟩) hS.2.2 dX12_hasDitch_26
def w_s_sumLandW : List Cond := .code yX12_sumLand cX12_sumLand 4 (some .int) :: ([.fieldLink RX12 9 "SeaLandModel" "world" "[I"] ++ bs)
set_option maxHeartbeats 4000000 in
set_option maxRecDepth 100000 in
theorem s_sumLandW (l : Launch) (dC : Nat → ClassId) (dI : Nat → Nat → Nat) (kA : Nat → ClassId) (G : gT) (H0 : Heap) (q : Nat → Nat) (wN wH wB wC : Int) (wL wK : Nat → Prop) (PI : Nat → Int → Prop) (o0 : Nat) (hT : gH (dC, dI) kA (SHm q (wP wN wH wB wC wC wL wK) PI) G H0) (hr_o0 : G o0 = some 0) (hgn : 6500000 ≤ wN ∧ wN ≤ 400000000) (hgh : 0 ≤ wH ∧ wH ≤ 40000) (hgb : 0 ≤ wB ∧ wB ≤ 3850000) (hgc : 0 ≤ wC ∧ wC ≤ 30) : Met l yX12_sumLand w_s_sumLandW ({ frames := 0, cells := 0, slots := 0, locals := 0 }) (va_Pc [.ref o0, .int 384] (fun U => U.heap = H0 ∧ va_K (dC, dI) vwCl (tyl kA) U ∧ EV (gA G H0.size) U U.heap)) (va_Qi (fun (r : Int32) (u : Unit) => True) (fun (_ : Unit) (t : State) => gH (dC, dI) kA (SHm q (wP wN wH wB wC wC wL wK) PI) G t.heap ∧ gF (dC, dI) SKm G ([] : List (Nat × Nat)) H0 t.heap) (gA G H0.size)) 0 0 (gA G H0.size) := by
  refine Met.ofW (cc := cX12_sumLand) (maxL := 4) (ret := (some .int)) (by decide) rfl ?_
  intro p e s m args below meth c s₁ B hml hv
  obtain ⟨rfl, hH0, hK, hE⟩ := hv
  have hx := B.exec
  have hb := B.bytes
  have hr := B.returns
  have hts := atoms_spec (ws := w_s_sumLandW) B.pre
  have hown : s.vm.findClass RX12 = some m.cls := findClass_of_methodNamed B.named
  have hlocks := B.notSynchronized
  subst hH0
  generalize hAe : gA G s.heap.size = A at hE ⊢
  have hA : ∀ q : Nat, s.heap.size ≤ q → A q := fun q h => by rw [← hAe]; exact Or.inr h
  have hG := gA_of hAe
  have hS : va_S A s.heap s.heap [] := va_S.rf
  have hF : gF (dC, dI) SKm G ([] : List (Nat × Nat)) s.heap s.heap := gF.rf
  have hl := lv_entry ([.ref o0, .int 384]) (n := 4) (Nat.le_of_ble_eq_true rfl)
  rw [lg_entry_eq]
  generalize (lg_sl ([.ref o0, .int 384]) ++ List.replicate (4 - (lg_sl ([.ref o0, .int 384])).length) Slot.unset).toArray = ls at hl ⊢
  have hl : lv_has ls 4 [(0, .ref o0), (1, .int 384)] := hl
  refine lv_iconst (v := 0) hx hb dX12_sumLand_0 (by decide) ?_
  refine lv_istore_n (lv' := [(2, .int 0), (0, .ref o0), (1, .int 384)]) hx hb dX12_sumLand_1 rfl hl (by decide) rfl (fun ls hl => ?_)
  refine lv_iconst (v := 0) hx hb dX12_sumLand_2 (by decide) ?_
  refine lv_istore_n (lv' := [(3, .int 0), (2, .int 0), (0, .ref o0), (1, .int 384)]) hx hb dX12_sumLand_3 rfl hl (by decide) rfl (fun ls hl => ?_)
  have key62 : ∀ (n62 i1 : Nat), i1 + n62 = 96 → 0 ≤ i1 → ∀ (z53 : Int32), ∀ (H : Heap) (locs : List Loc), gH (dC, dI) kA (SHm q (wP wN wH wB wC wC wL wK) PI) G H → gF (dC, dI) SKm G ([] : List (Nat × Nat)) s.heap H → va_S A s.heap H locs → ∀ ls : Array Slot, lv_has ls 4 [(3, .int (nI i1)), (2, .int z53), (0, .ref o0), (1, .int 384)] → W p l e (headSpec w_s_sumLandW ({ frames := 0, cells := 0, slots := 0, locals := 0 })).room s m #[.ref o0, .int 384] below meth c H locs 0 0 (MQ below (va_Qi (fun (r : Int32) (u : Unit) => True) (fun (_ : Unit) (t : State) => gH (dC, dI) kA (SHm q (wP wN wH wB wC wC wL wK) PI) G t.heap ∧ gF (dC, dI) SKm G ([] : List (Nat × Nat)) s.heap t.heap) A) #[.ref o0, .int 384] s 0 0 A) (F0 m 4 ls []) := by
    intro n62
    induction n62 with
    | zero =>
      intro i1 hn62 hlo63 z53 H locs hT hF hS  ls hl
      obtain rfl : 96 = i1 := by omega
      refine lv_iload_n hx hb dX12_sumLand_4 rfl (lv_at hl 0 rfl) ?_
      refine lv_bipush (v := 96) hx hb dX12_sumLand_5 (by decide) ?_
      refine lv_icmp_ge (tgt := 27) hx hb dX12_sumLand_7 (by decide) (fun c64 => ?_) (fun c64 => (by exfalso; have q9 : ((96 : Nat) : Int) < 96 := ti_nle c64 (by decide) (nI_toInt (by omega)); omega))
      have t65 : 96 ≤ ((96 : Nat) : Int) := ti_le c64 (by decide) (nI_toInt (by omega))
      refine lv_iload_n hx hb dX12_sumLand_27 rfl (lv_at hl 1 rfl) ?_
      exact W.iret (v := z53) hx hb hr (fun t ht hW => ⟨⟨z53, (), rfl, (by exact trivial), by (try dsimp only); rw [ht]; exact ⟨hT, hF⟩⟩, hS.F ht⟩) hS.2.2 dX12_sumLand_28
    | succ n62 ih62 =>
      intro i1 hn62 hlo63 z53 H locs hT hF hS  ls hl
      have hlt65 : i1 < 96 := by omega
      refine lv_iload_n hx hb dX12_sumLand_4 rfl (lv_at hl 0 rfl) ?_
      refine lv_bipush (v := 96) hx hb dX12_sumLand_5 (by decide) ?_
      refine lv_icmp_ge (tgt := 27) hx hb dX12_sumLand_7 (by decide) (fun c66 => (by exfalso; have q9 : 96 ≤ ((i1 : Nat) : Int) := ti_le c66 (by decide) (nI_toInt (by omega)); omega)) (fun c66 => ?_)
      have t67 : ((i1 : Nat) : Int) < 96 := ti_nle c66 (by decide) (nI_toInt (by omega))
      refine lv_iload_n hx hb dX12_sumLand_10 rfl (lv_at hl 1 rfl) ?_
      refine lv_aload_n hx hb dX12_sumLand_11 rfl (lv_at hl 2 rfl) ?_
      refine tw_get hx hb hts bF_X12 hown hK hT hr_o0 shm_0 rfl 1 (by decide) (ht_at hts 0 rfl) (fun _ h9 => h9) dX12_sumLand_12 (fun v9 m68 h9 => ?_)
      obtain ⟨rfl, hg69⟩ := h9 _ rfl
      refine lv_iload_n hx hb dX12_sumLand_15 rfl (lv_at hl 3 rfl) ?_
      refine lv_iload_n hx hb dX12_sumLand_16 rfl (lv_at hl 0 rfl) ?_
      refine lv_iadd hx hb dX12_sumLand_17 ?_
      refine lv_topi (fun x70 ex70 => ?_)
      obtain rfl : nI (384 + i1) = x70 := (ex70.trans (nI_add 384 i1)).symm
      refine tw_iald (i := (nI (384 + i1))) hx hb hK hT hg69 shm_2 rfl (vp_in_nI (by omega) (by decide)) dX12_sumLand_18 (fun v9 m71 h9 => ?_)
      obtain ⟨x72, rfl, gx72, kx72⟩ := (gp_at h9 (w_wat (by have q9 := tn_of (show (nI (384 + i1)).toInt = ((384 + i1 : Nat) : Int) from (nI_toInt (by omega))) (show (0 : Int) ≤ ((384 + i1 : Nat) : Int) from by omega); omega)))
      refine lv_iadd hx hb dX12_sumLand_19 ?_
      refine lv_topi (fun x73 ex73 => ?_)
      refine lv_istore_n (lv' := [(2, .int x73), (3, .int (nI i1)), (0, .ref o0), (1, .int 384)]) hx hb dX12_sumLand_20 rfl hl (by decide) rfl (fun ls hl => ?_)
      refine lv_iinc (v := nI (i1 + 1)) (lv' := [(3, .int (nI (i1 + 1))), (2, .int x73), (0, .ref o0), (1, .int 384)]) hx hb dX12_sumLand_21 hl (k := 1) rfl (nI_add i1 1) (by decide) rfl (fun ls hl => ?_)
      refine lv_goto (tgt := 4) hx hb dX12_sumLand_24 (by decide) ?_
      exact ih62 (i1 + 1) (by omega) (by omega) x73 _ _ hT hF hS ls (lv_sub hl [0, 1, 2, 3] rfl)
  exact key62 (96 - 0) 0 (by omega) (Nat.le_refl _) 0 _ _ hT hF hS ls (lv_sub hl [0, 1, 2, 3] rfl)
def w_s_sumLandS : List Cond := .code yX12_sumLand cX12_sumLand 4 (some .int) :: ([.fieldLink RX12 9 "SeaLandModel" "world" "[I"] ++ bs)
set_option maxHeartbeats 4000000 in
set_option maxRecDepth 100000 in
theorem s_sumLandS (l : Launch) (dC : Nat → ClassId) (dI : Nat → Nat → Nat) (kA : Nat → ClassId) (G : gT) (H0 : Heap) (q : Nat → Nat) (wN wH wB wC : Int) (wL wK : Nat → Prop) (PI : Nat → Int → Prop) (o0 : Nat) (hT : gH (dC, dI) kA (SHm q (wP wN wH wB wC wC wL wK) PI) G H0) (hr_o0 : G o0 = some 0) (hgn : 6500000 ≤ wN ∧ wN ≤ 400000000) (hgh : 0 ≤ wH ∧ wH ≤ 40000) (hgb : 0 ≤ wB ∧ wB ≤ 3850000) (hgc : 0 ≤ wC ∧ wC ≤ 30) : Met l yX12_sumLand w_s_sumLandS ({ frames := 0, cells := 0, slots := 0, locals := 0 }) (va_Pc [.ref o0, .int 480] (fun U => U.heap = H0 ∧ va_K (dC, dI) vwCl (tyl kA) U ∧ EV (gA G H0.size) U U.heap)) (va_Qi (fun (r : Int32) (u : Unit) => True) (fun (_ : Unit) (t : State) => gH (dC, dI) kA (SHm q (wP wN wH wB wC wC wL wK) PI) G t.heap ∧ gF (dC, dI) SKm G ([] : List (Nat × Nat)) H0 t.heap) (gA G H0.size)) 0 0 (gA G H0.size) := by
  refine Met.ofW (cc := cX12_sumLand) (maxL := 4) (ret := (some .int)) (by decide) rfl ?_
  intro p e s m args below meth c s₁ B hml hv
  obtain ⟨rfl, hH0, hK, hE⟩ := hv
  have hx := B.exec
  have hb := B.bytes
  have hr := B.returns
  have hts := atoms_spec (ws := w_s_sumLandS) B.pre
  have hown : s.vm.findClass RX12 = some m.cls := findClass_of_methodNamed B.named
  have hlocks := B.notSynchronized
  subst hH0
  generalize hAe : gA G s.heap.size = A at hE ⊢
  have hA : ∀ q : Nat, s.heap.size ≤ q → A q := fun q h => by rw [← hAe]; exact Or.inr h
  have hG := gA_of hAe
  have hS : va_S A s.heap s.heap [] := va_S.rf
  have hF : gF (dC, dI) SKm G ([] : List (Nat × Nat)) s.heap s.heap := gF.rf
  have hl := lv_entry ([.ref o0, .int 480]) (n := 4) (Nat.le_of_ble_eq_true rfl)
  rw [lg_entry_eq]
  generalize (lg_sl ([.ref o0, .int 480]) ++ List.replicate (4 - (lg_sl ([.ref o0, .int 480])).length) Slot.unset).toArray = ls at hl ⊢
  have hl : lv_has ls 4 [(0, .ref o0), (1, .int 480)] := hl
  refine lv_iconst (v := 0) hx hb dX12_sumLand_0 (by decide) ?_
  refine lv_istore_n (lv' := [(2, .int 0), (0, .ref o0), (1, .int 480)]) hx hb dX12_sumLand_1 rfl hl (by decide) rfl (fun ls hl => ?_)
  refine lv_iconst (v := 0) hx hb dX12_sumLand_2 (by decide) ?_
  refine lv_istore_n (lv' := [(3, .int 0), (2, .int 0), (0, .ref o0), (1, .int 480)]) hx hb dX12_sumLand_3 rfl hl (by decide) rfl (fun ls hl => ?_)
  have key32 : ∀ (n32 i1 : Nat), i1 + n32 = 96 → 0 ≤ i1 → ∀ (z23 : Int32), ∀ (H : Heap) (locs : List Loc), gH (dC, dI) kA (SHm q (wP wN wH wB wC wC wL wK) PI) G H → gF (dC, dI) SKm G ([] : List (Nat × Nat)) s.heap H → va_S A s.heap H locs → ∀ ls : Array Slot, lv_has ls 4 [(3, .int (nI i1)), (2, .int z23), (0, .ref o0), (1, .int 480)] → W p l e (headSpec w_s_sumLandS ({ frames := 0, cells := 0, slots := 0, locals := 0 })).room s m #[.ref o0, .int 480] below meth c H locs 0 0 (MQ below (va_Qi (fun (r : Int32) (u : Unit) => True) (fun (_ : Unit) (t : State) => gH (dC, dI) kA (SHm q (wP wN wH wB wC wC wL wK) PI) G t.heap ∧ gF (dC, dI) SKm G ([] : List (Nat × Nat)) s.heap t.heap) A) #[.ref o0, .int 480] s 0 0 A) (F0 m 4 ls []) := by
    intro n32
    induction n32 with
    | zero =>
      intro i1 hn32 hlo33 z23 H locs hT hF hS  ls hl
      obtain rfl : 96 = i1 := by omega
      refine lv_iload_n hx hb dX12_sumLand_4 rfl (lv_at hl 0 rfl) ?_
      refine lv_bipush (v := 96) hx hb dX12_sumLand_5 (by decide) ?_
      refine lv_icmp_ge (tgt := 27) hx hb dX12_sumLand_7 (by decide) (fun c34 => ?_) (fun c34 => (by exfalso; have q9 : ((96 : Nat) : Int) < 96 := ti_nle c34 (by decide) (nI_toInt (by omega)); omega))
      have t35 : 96 ≤ ((96 : Nat) : Int) := ti_le c34 (by decide) (nI_toInt (by omega))
      refine lv_iload_n hx hb dX12_sumLand_27 rfl (lv_at hl 1 rfl) ?_
      exact W.iret (v := z23) hx hb hr (fun t ht hW => ⟨⟨z23, (), rfl, (by exact trivial), by (try dsimp only); rw [ht]; exact ⟨hT, hF⟩⟩, hS.F ht⟩) hS.2.2 dX12_sumLand_28
    | succ n32 ih32 =>
      intro i1 hn32 hlo33 z23 H locs hT hF hS  ls hl
      have hlt35 : i1 < 96 := by omega
      refine lv_iload_n hx hb dX12_sumLand_4 rfl (lv_at hl 0 rfl) ?_
      refine lv_bipush (v := 96) hx hb dX12_sumLand_5 (by decide) ?_
      refine lv_icmp_ge (tgt := 27) hx hb dX12_sumLand_7 (by decide) (fun c36 => (by exfalso; have q9 : 96 ≤ ((i1 : Nat) : Int) := ti_le c36 (by decide) (nI_toInt (by omega)); omega)) (fun c36 => ?_)
      have t37 : ((i1 : Nat) : Int) < 96 := ti_nle c36 (by decide) (nI_toInt (by omega))
      refine lv_iload_n hx hb dX12_sumLand_10 rfl (lv_at hl 1 rfl) ?_
      refine lv_aload_n hx hb dX12_sumLand_11 rfl (lv_at hl 2 rfl) ?_
      refine tw_get hx hb hts bF_X12 hown hK hT hr_o0 shm_0 rfl 1 (by decide) (ht_at hts 0 rfl) (fun _ h9 => h9) dX12_sumLand_12 (fun v9 m38 h9 => ?_)
      obtain ⟨rfl, hg39⟩ := h9 _ rfl
      refine lv_iload_n hx hb dX12_sumLand_15 rfl (lv_at hl 3 rfl) ?_
      refine lv_iload_n hx hb dX12_sumLand_16 rfl (lv_at hl 0 rfl) ?_
      refine lv_iadd hx hb dX12_sumLand_17 ?_
      refine lv_topi (fun x40 ex40 => ?_)
      obtain rfl : nI (480 + i1) = x40 := (ex40.trans (nI_add 480 i1)).symm
      refine tw_iald (i := (nI (480 + i1))) hx hb hK hT hg39 shm_2 rfl (vp_in_nI (by omega) (by decide)) dX12_sumLand_18 (fun v9 m41 h9 => ?_)
      obtain ⟨x42, rfl, gx42, kx42⟩ := (gp_at h9 (w_fre (by have q9 := tn_of (show (nI (480 + i1)).toInt = ((480 + i1 : Nat) : Int) from (nI_toInt (by omega))) (show (0 : Int) ≤ ((480 + i1 : Nat) : Int) from by omega); omega)))
      refine lv_iadd hx hb dX12_sumLand_19 ?_
      refine lv_topi (fun x43 ex43 => ?_)
      refine lv_istore_n (lv' := [(2, .int x43), (3, .int (nI i1)), (0, .ref o0), (1, .int 480)]) hx hb dX12_sumLand_20 rfl hl (by decide) rfl (fun ls hl => ?_)
      refine lv_iinc (v := nI (i1 + 1)) (lv' := [(3, .int (nI (i1 + 1))), (2, .int x43), (0, .ref o0), (1, .int 480)]) hx hb dX12_sumLand_21 hl (k := 1) rfl (nI_add i1 1) (by decide) rfl (fun ls hl => ?_)
      refine lv_goto (tgt := 4) hx hb dX12_sumLand_24 (by decide) ?_
      exact ih32 (i1 + 1) (by omega) (by omega) x43 _ _ hT hF hS ls (lv_sub hl [0, 1, 2, 3] rfl)
  exact key32 (96 - 0) 0 (by omega) (Nat.le_refl _) 0 _ _ hT hF hS ls (lv_sub hl [0, 1, 2, 3] rfl)
def w_s_wind : List Cond := .code yX12_wind cX12_wind 7 (some .int) :: ([.code yX12_telling cX12_telling 6 (some .int), .fieldLink RX12 9 "SeaLandModel" "world" "[I", .methodLink RX12 243 yX12_telling, .instanceMethod yX12_telling, .selects RX12 yX12_telling yX12_telling, .initialized RX12, .methodLink RX12 211 Lib.Math.max.name, .static Lib.Math.max.name, .initialized "java/lang/Math", .code Lib.Math.max.name Lib.Math.max.code 2 (some .int)] ++ bs)
set_option maxHeartbeats 4000000 in
set_option maxRecDepth 100000 in
theorem s_wind (l : Launch) (dC : Nat → ClassId) (dI : Nat → Nat → Nat) (kA : Nat → ClassId) (G : gT) (H0 : Heap) (q : Nat → Nat) (wN wH wB wC : Int) (wL wK : Nat → Prop) (PI : Nat → Int → Prop) (o0 : Nat) (ho : Int32) (hT : gH (dC, dI) kA (SHm q (wP wN wH wB wC wC wL wK) PI) G H0) (hr_o0 : G o0 = some 0) (hgn : 6500000 ≤ wN ∧ wN ≤ 400000000) (hgh : 0 ≤ wH ∧ wH ≤ 40000) (hgb : 0 ≤ wB ∧ wB ≤ 3850000) (hgc : 0 ≤ wC ∧ wC ≤ 30) : Met l yX12_wind w_s_wind ({ frames := 1, cells := 0, slots := 0, locals := 40 }) (va_Pc [.ref o0, .int ho] (fun U => U.heap = H0 ∧ va_K (dC, dI) vwCl (tyl kA) U ∧ EV (gA G H0.size) U U.heap)) (va_Qi (fun (r : Int32) (u : Unit) => True) (fun (_ : Unit) (t : State) => gH (dC, dI) kA (SHm q (wP wN wH wB wC wC wL wK) PI) G t.heap ∧ gF (dC, dI) SKm G ([] : List (Nat × Nat)) H0 t.heap) (gA G H0.size)) 0 0 (gA G H0.size) := by
  refine Met.ofW (cc := cX12_wind) (maxL := 7) (ret := (some .int)) (by decide) rfl ?_
  intro p e s m args below meth c s₁ B hml hv
  obtain ⟨rfl, hH0, hK, hE⟩ := hv
  have hx := B.exec
  have hb := B.bytes
  have hr := B.returns
  have hts := atoms_spec (ws := w_s_wind) B.pre
  have hown : s.vm.findClass RX12 = some m.cls := findClass_of_methodNamed B.named
  have hlocks := B.notSynchronized
  subst hH0
  generalize hAe : gA G s.heap.size = A at hE ⊢
  have hA : ∀ q : Nat, s.heap.size ≤ q → A q := fun q h => by rw [← hAe]; exact Or.inr h
  have hG := gA_of hAe
  have hS : va_S A s.heap s.heap [] := va_S.rf
  have hF : gF (dC, dI) SKm G ([] : List (Nat × Nat)) s.heap s.heap := gF.rf
  have hl := lv_entry ([.ref o0, .int ho]) (n := 7) (Nat.le_of_ble_eq_true rfl)
  rw [lg_entry_eq]
  generalize (lg_sl ([.ref o0, .int ho]) ++ List.replicate (7 - (lg_sl ([.ref o0, .int ho])).length) Slot.unset).toArray = ls at hl ⊢
  have hl : lv_has ls 7 [(0, .ref o0), (1, .int ho)] := hl
  refine lv_aload_n hx hb dX12_wind_0 rfl (lv_at hl 0 rfl) ?_
  refine lv_sipush (v := 1503) hx hb dX12_wind_1 (by decide) ?_
  refine lv_sipush (v := 1504) hx hb dX12_wind_4 (by decide) ?_
  refine lv_iload_n hx hb dX12_wind_7 rfl (lv_at hl 1 rfl) ?_
  have hFc := gA_free hG hA hS
  refine va_calli (va_runV (As := [.int 1503, .int 1504, .int ho]) (rest := []) ⟨hx, hb, hml, hown, hts⟩ (s_telling2 l dC dI kA G s.heap q wN wH wB wC wL wK PI o0 ho hT hr_o0 (by omega) (by omega) (by omega) (by omega)) (cwV 3 hts (goodIn_app (goodIn_r _ [3, 4, 5, 6] (by decide +kernel) (by decide +kernel)) (goodIn_ca (goodIn_r _ [1, 2] (by decide +kernel) (by decide +kernel)) (bs_in _ _))) rfl rfl rfl (by decide +kernel) ⟨(Nat.le_of_ble_eq_true rfl), (Nat.le_of_ble_eq_true rfl)⟩) ⟨fun a U g mk q => by obtain ⟨q0, q1, qK, qE⟩ := q; exact ⟨q0, q1, va_K.moved (u := U) (U := U.calling g mk a) (Vm.Alike.refl U.vm) qK, EV.blind g mk a qE⟩, gH_recv hK hT hr_o0 shm_0 rfl, fun U hU hW => ⟨rfl, hU, va_K.moved hW.alike hK, hE.call hS hFc hU hW⟩⟩ rfl rfl hl.1 rfl (lv_room (Nat.le_of_ble_eq_true rfl)) dX12_wind_8 ⟨(Nat.le_of_ble_eq_true rfl), (Nat.le_of_ble_eq_true rfl)⟩) hS (fun q _ h => hFc q h) hFc (fun r1 u t H locs ht hvm hw2 hB _ _ hS => ?_)
  obtain ⟨hT, hF1⟩ := hB
  rw [ht] at hT hF1
  have hF := hF.more hF1 (by decide)
  try dsimp only at hw2
  obtain ⟨h3, hf4⟩ := hw2
  refine lv_istore_n (lv' := [(2, .int r1), (0, .ref o0), (1, .int ho)]) hx hb dX12_wind_11 rfl hl (by decide) rfl (fun ls hl => ?_)
  refine lv_iload_n hx hb dX12_wind_12 rfl (lv_at hl 0 rfl) ?_
  refine lv_if_ge (tgt := 18) hx hb dX12_wind_13 (by decide) (fun c5 => ?_) (fun c5 => ?_)
  · have t6 : 0 ≤ r1.toInt := ti_le c5 (by decide) rfl
    refine lv_aload_n hx hb dX12_wind_18 rfl (lv_at hl 1 rfl) ?_
    refine tw_get hx hb hts bF_X12 hown hK hT hr_o0 shm_0 rfl 1 (by decide) (ht_at hts 1 rfl) (fun _ h9 => h9) dX12_wind_19 (fun v9 m7 h9 => ?_)
    obtain ⟨rfl, hg8⟩ := h9 _ rfl
    refine lv_iload_n hx hb dX12_wind_22 rfl (lv_at hl 0 rfl) ?_
    refine lv_iconst (v := 1) hx hb dX12_wind_23 (by decide) ?_
    refine lv_iadd hx hb dX12_wind_24 ?_
    refine lv_topi (fun x9 ex9 => ?_)
    have t10 : x9.toInt = r1.toInt + 1 := ti_add ex9 rfl (by decide) (by omega) (by omega)
    refine tw_iald (i := x9) hx hb hK hT hg8 shm_2 rfl (vin_t (a := x9.toInt) rfl (by omega) (by omega)) dX12_wind_25 (fun v9 m11 h9 => ?_)
    obtain ⟨x12, rfl, gx12, kx12⟩ := (gp_any h9)
    refine lv_if_lt (tgt := 38) hx hb dX12_wind_26 (by decide) (fun c13 => ?_) (fun c13 => ?_)
    · have t14 : x12.toInt < 0 := ti_lt c13 rfl (by decide)
      refine lv_aload_n hx hb dX12_wind_38 rfl (lv_at hl 1 rfl) ?_
      refine tw_get hx hb hts bF_X12 hown hK hT hr_o0 shm_0 rfl 1 (by decide) (ht_at hts 1 rfl) (fun _ h9 => h9) dX12_wind_39 (fun v9 m15 h9 => ?_)
      obtain ⟨rfl, hg16⟩ := h9 _ rfl
      refine lv_iload_n hx hb dX12_wind_42 rfl (lv_at hl 0 rfl) ?_
      refine tw_iald (i := r1) hx hb hK hT hg8 shm_2 rfl (vin_t (a := r1.toInt) rfl (by omega) (by omega)) dX12_wind_43 (fun v9 m17 h9 => ?_)
      obtain ⟨x18, rfl, gx18, kx18⟩ := (gp_any h9)
      refine lv_istore_n (lv' := [(3, .int x18), (2, .int r1), (0, .ref o0), (1, .int ho)]) hx hb dX12_wind_44 rfl hl (by decide) rfl (fun ls hl => ?_)
      refine lv_iconst (v := (-1)) hx hb dX12_wind_45 (by decide) ?_
      refine lv_istore (lv' := [(4, .int (-1)), (3, .int x18), (2, .int r1), (0, .ref o0), (1, .int ho)]) hx hb dX12_wind_46 hl (by decide) rfl (fun ls hl => ?_)
      refine lv_iconst (v := (-1)) hx hb dX12_wind_48 (by decide) ?_
      refine lv_istore (lv' := [(5, .int (-1)), (4, .int (-1)), (3, .int x18), (2, .int r1), (0, .ref o0), (1, .int ho)]) hx hb dX12_wind_49 hl (by decide) rfl (fun ls hl => ?_)
      refine lv_sipush (v := 1504) hx hb dX12_wind_51 (by decide) ?_
      refine lv_istore (lv' := [(6, .int 1504), (5, .int (-1)), (4, .int (-1)), (3, .int x18), (2, .int r1), (0, .ref o0), (1, .int ho)]) hx hb dX12_wind_54 hl (by decide) rfl (fun ls hl => ?_)
      have jn603 : ∀ (z592 : Int32), ∀ (z594 : Int32), ∀ (z596 : Int32), ∀ (z600 : Int32), ((1504 ≤ z592.toInt ∧ z592.toInt ≤ 1624) ∧ (-1 ≤ z594.toInt ∧ z594.toInt ≤ 1622) ∧ (-1 ≤ z596.toInt ∧ z596.toInt ≤ 1622) ∧ (0 ≤ z600.toInt ∧ z600.toInt ≤ 60)) → ∀ (H : Heap) (locs : List Loc), gH (dC, dI) kA (SHm q (wP wN wH wB wC wC wL wK) PI) G H → gF (dC, dI) SKm G ([] : List (Nat × Nat)) s.heap H → va_S A s.heap H locs → el H (q 1) x9.toNatClampNeg = some (.int x12) → el H (q 1) r1.toNatClampNeg = some (.int x18) → el H (q 1) (1503 : Int32).toNatClampNeg = some (.int z600) → ∀ ls : Array Slot, lv_has ls 7 [(6, .int z592), (5, .int z594), (4, .int z596), (3, .int x18), (2, .int r1), (0, .ref o0), (1, .int ho)] → W p l e (headSpec w_s_wind ({ frames := 1, cells := 0, slots := 0, locals := 40 })).room s m #[.ref o0, .int ho] below meth c H locs 0 0 (MQ below (va_Qi (fun (r : Int32) (u : Unit) => True) (fun (_ : Unit) (t : State) => gH (dC, dI) kA (SHm q (wP wN wH wB wC wC wL wK) PI) G t.heap ∧ gF (dC, dI) SKm G ([] : List (Nat × Nat)) s.heap t.heap) A) #[.ref o0, .int ho] s 0 0 A) (F0 m 192 ls []) := by
        intro z592 z594 z596 z600 ⟨h593, h595, h597, h601⟩ H locs hT hF hS m598 m599 m602 ls hl
        refine lv_iload hx hb dX12_wind_192 (lv_at hl 2 rfl) ?_
        have jn614 : ∀ (z610 : Int32), ∀ (H : Heap) (locs : List Loc), gH (dC, dI) kA (SHm q (wP wN wH wB wC wC wL wK) PI) G H → gF (dC, dI) SKm G ([] : List (Nat × Nat)) s.heap H → va_S A s.heap H locs → el H (q 1) x9.toNatClampNeg = some (.int x12) → el H (q 1) r1.toNatClampNeg = some (.int x18) → el H (q 1) (1503 : Int32).toNatClampNeg = some (.int z600) → ∀ ls : Array Slot, lv_has ls 7 [(6, .int z592), (5, .int z594), (4, .int z596), (3, .int x18), (2, .int r1), (0, .ref o0), (1, .int ho)] → W p l e (headSpec w_s_wind ({ frames := 1, cells := 0, slots := 0, locals := 40 })).room s m #[.ref o0, .int ho] below meth c H locs 0 0 (MQ below (va_Qi (fun (r : Int32) (u : Unit) => True) (fun (_ : Unit) (t : State) => gH (dC, dI) kA (SHm q (wP wN wH wB wC wC wL wK) PI) G t.heap ∧ gF (dC, dI) SKm G ([] : List (Nat × Nat)) s.heap t.heap) A) #[.ref o0, .int ho] s 0 0 A) (F0 m 210 ls [.int z610]) := by
          intro z610 H locs hT hF hS m611 m612 m613 ls hl
          refine lv_iload hx hb dX12_wind_210 (lv_at hl 1 rfl) ?_
          have jn625 : ∀ (z621 : Int32), ∀ (H : Heap) (locs : List Loc), gH (dC, dI) kA (SHm q (wP wN wH wB wC wC wL wK) PI) G H → gF (dC, dI) SKm G ([] : List (Nat × Nat)) s.heap H → va_S A s.heap H locs → el H (q 1) x9.toNatClampNeg = some (.int x12) → el H (q 1) r1.toNatClampNeg = some (.int x18) → el H (q 1) (1503 : Int32).toNatClampNeg = some (.int z600) → ∀ ls : Array Slot, lv_has ls 7 [(6, .int z592), (5, .int z594), (4, .int z596), (3, .int x18), (2, .int r1), (0, .ref o0), (1, .int ho)] → W p l e (headSpec w_s_wind ({ frames := 1, cells := 0, slots := 0, locals := 40 })).room s m #[.ref o0, .int ho] below meth c H locs 0 0 (MQ below (va_Qi (fun (r : Int32) (u : Unit) => True) (fun (_ : Unit) (t : State) => gH (dC, dI) kA (SHm q (wP wN wH wB wC wC wL wK) PI) G t.heap ∧ gF (dC, dI) SKm G ([] : List (Nat × Nat)) s.heap t.heap) A) #[.ref o0, .int ho] s 0 0 A) (F0 m 228 ls [.int z621, .int z610]) := by
            intro z621 H locs hT hF hS m622 m623 m624 ls hl
            refine va_mmax hx hb (hml.trans hl.1.symm) hown (ht_at hts 6 rfl) (ht_at hts 7 rfl) (ht_at hts 8 rfl) (ht_at hts 9 rfl) (Nat.le_of_ble_eq_true rfl) (Nat.le_of_ble_eq_true rfl) (Nat.le_of_ble_eq_true rfl) (Nat.le_of_ble_eq_true rfl) dX12_wind_228 ?_
            refine lv_topi (fun x626 ex626 => ?_)
            have t627 : z610.toInt ≤ x626.toInt ∧ z621.toInt ≤ x626.toInt ∧ (x626.toInt = z610.toInt ∨ x626.toInt = z621.toInt) := mx_f ex626 rfl rfl
            exact W.iret (v := x626) hx hb hr (fun t ht hW => ⟨⟨x626, (), rfl, (by exact trivial), by (try dsimp only); rw [ht]; exact ⟨hT, hF⟩⟩, hS.F ht⟩) hS.2.2 dX12_wind_231
          refine lv_if_ge (tgt := 219) hx hb dX12_wind_212 (by decide) (fun c628 => ?_) (fun c628 => ?_)
          · have t629 : 0 ≤ z594.toInt := ti_le c628 (by decide) rfl
            refine lv_aload_n hx hb dX12_wind_219 rfl (lv_at hl 5 rfl) ?_
            refine tw_get hx hb hts bF_X12 hown hK hT hr_o0 shm_0 rfl 1 (by decide) (ht_at hts 1 rfl) (fun _ h9 => h9) dX12_wind_220 (fun v9 m630 h9 => ?_)
            obtain ⟨rfl, hg631⟩ := h9 _ rfl
            refine lv_iload hx hb dX12_wind_223 (lv_at hl 1 rfl) ?_
            refine lv_iconst (v := 1) hx hb dX12_wind_225 (by decide) ?_
            refine lv_iadd hx hb dX12_wind_226 ?_
            refine lv_topi (fun x632 ex632 => ?_)
            have t633 : x632.toInt = z594.toInt + 1 := ti_add ex632 rfl (by decide) (by omega) (by omega)
            refine tw_iald (i := x632) hx hb hK hT hg8 shm_2 rfl (vin_t (a := x632.toInt) rfl (by omega) (by omega)) dX12_wind_227 (fun v9 m634 h9 => ?_)
            obtain ⟨x635, rfl, gx635, kx635⟩ := (gp_any h9)
            exact jn625 x635 _ _ hT hF hS m611 m612 m613 ls (lv_sub hl [0, 1, 2, 3, 4, 5, 6] rfl)
          · have t636 : z594.toInt < 0 := ti_nle c628 (by decide) rfl
            refine lv_iconst (v := 0) hx hb dX12_wind_215 (by decide) ?_
            refine lv_goto (tgt := 228) hx hb dX12_wind_216 (by decide) ?_
            exact jn625 0 _ _ hT hF hS m611 m612 m613 ls (lv_sub hl [0, 1, 2, 3, 4, 5, 6] rfl)
        refine lv_if_ge (tgt := 201) hx hb dX12_wind_194 (by decide) (fun c637 => ?_) (fun c637 => ?_)
        · have t638 : 0 ≤ z596.toInt := ti_le c637 (by decide) rfl
          refine lv_aload_n hx hb dX12_wind_201 rfl (lv_at hl 5 rfl) ?_
          refine tw_get hx hb hts bF_X12 hown hK hT hr_o0 shm_0 rfl 1 (by decide) (ht_at hts 1 rfl) (fun _ h9 => h9) dX12_wind_202 (fun v9 m639 h9 => ?_)
          obtain ⟨rfl, hg640⟩ := h9 _ rfl
          refine lv_iload hx hb dX12_wind_205 (lv_at hl 2 rfl) ?_
          refine lv_iconst (v := 1) hx hb dX12_wind_207 (by decide) ?_
          refine lv_iadd hx hb dX12_wind_208 ?_
          refine lv_topi (fun x641 ex641 => ?_)
          have t642 : x641.toInt = z596.toInt + 1 := ti_add ex641 rfl (by decide) (by omega) (by omega)
          refine tw_iald (i := x641) hx hb hK hT hg8 shm_2 rfl (vin_t (a := x641.toInt) rfl (by omega) (by omega)) dX12_wind_209 (fun v9 m643 h9 => ?_)
          obtain ⟨x644, rfl, gx644, kx644⟩ := (gp_any h9)
          exact jn614 x644 _ _ hT hF hS m598 m599 m602 ls (lv_sub hl [0, 1, 2, 3, 4, 5, 6] rfl)
        · have t645 : z596.toInt < 0 := ti_nle c637 (by decide) rfl
          refine lv_iconst (v := 0) hx hb dX12_wind_197 (by decide) ?_
          refine lv_goto (tgt := 210) hx hb dX12_wind_198 (by decide) ?_
          exact jn614 0 _ _ hT hF hS m598 m599 m602 ls (lv_sub hl [0, 1, 2, 3, 4, 5, 6] rfl)
      have key646 : ∀ (n646 i19 : Nat), i19 + n646 = 60 → ∀ (z248 : Int32), ∀ (z250 : Int32), ((-1 ≤ z248.toInt ∧ z248.toInt ≤ 1622) ∧ (-1 ≤ z250.toInt ∧ z250.toInt ≤ 1622)) → ∀ (H : Heap) (locs : List Loc), gH (dC, dI) kA (SHm q (wP wN wH wB wC wC wL wK) PI) G H → gF (dC, dI) SKm G ([] : List (Nat × Nat)) s.heap H → va_S A s.heap H locs → el H (q 1) x9.toNatClampNeg = some (.int x12) → el H (q 1) r1.toNatClampNeg = some (.int x18) → ∀ ls : Array Slot, lv_has ls 7 [(6, .int (nI (1504 + 2 * i19))), (5, .int z248), (4, .int z250), (3, .int x18), (2, .int r1), (0, .ref o0), (1, .int ho)] → W p l e (headSpec w_s_wind ({ frames := 1, cells := 0, slots := 0, locals := 40 })).room s m #[.ref o0, .int ho] below meth c H locs 0 0 (MQ below (va_Qi (fun (r : Int32) (u : Unit) => True) (fun (_ : Unit) (t : State) => gH (dC, dI) kA (SHm q (wP wN wH wB wC wC wL wK) PI) G t.heap ∧ gF (dC, dI) SKm G ([] : List (Nat × Nat)) s.heap t.heap) A) #[.ref o0, .int ho] s 0 0 A) (F0 m 56 ls []) := by
        intro n646
        induction n646 with
        | zero =>
          intro i19 hn646 z248 z250 ⟨h249, h251⟩ H locs hT hF hS m252 m253 ls hl
          obtain rfl : 60 = i19 := by omega
          refine lv_iload hx hb dX12_wind_56 (lv_at hl 0 rfl) ?_
          refine lv_sipush (v := 1504) hx hb dX12_wind_58 (by decide) ?_
          refine lv_iconst (v := 2) hx hb dX12_wind_61 (by decide) ?_
          refine lv_aload_n hx hb dX12_wind_62 rfl (lv_at hl 5 rfl) ?_
          refine tw_get hx hb hts bF_X12 hown hK hT hr_o0 shm_0 rfl 1 (by decide) (ht_at hts 1 rfl) (fun _ h9 => h9) dX12_wind_63 (fun v9 m648 h9 => ?_)
          obtain ⟨rfl, hg649⟩ := h9 _ rfl
          refine lv_sipush (v := 1503) hx hb dX12_wind_66 (by decide) ?_
          refine tw_iald (i := 1503) hx hb hK hT hg8 shm_2 rfl (by unfold vp_in; decide) dX12_wind_69 (fun v9 m650 h9 => ?_)
          obtain ⟨x651, rfl, gx651, kx651⟩ := (gp_at h9 (w_wic (by have q9 := tn_of (show (1503 : Int32).toInt = 1503 from (by decide)) (show (0 : Int) ≤ 1503 from by omega); omega)))
          refine lv_imul hx hb dX12_wind_70 ?_
          refine lv_topi (fun x652 ex652 => ?_)
          have t653 : x652.toInt = 2 * x651.toInt := ti_mul ex652 (by decide) rfl (by omega) (by omega)
          refine lv_iadd hx hb dX12_wind_71 ?_
          refine lv_topi (fun x654 ex654 => ?_)
          have t655 : x654.toInt = 1504 + x652.toInt := ti_add ex654 (by decide) rfl (by omega) (by omega)
          refine lv_icmp_ge (tgt := 192) hx hb dX12_wind_72 (by decide) (fun c656 => ?_) (fun c656 => (by exfalso; have q9 : ((1504 + 2 * 60 : Nat) : Int) < x654.toInt := ti_nle c656 rfl (nI_toInt (by omega)); omega))
          have t657 : x654.toInt ≤ ((1504 + 2 * 60 : Nat) : Int) := ti_le c656 rfl (nI_toInt (by omega))
          exact jn603 (nI (1504 + 2 * 60)) z248 z250 x651 ⟨(rg_t (a := ((1504 + 2 * 60 : Nat) : Int)) (nI_toInt (by omega)) (by omega) (by omega)), (by have q9 := (show z248.toInt = z248.toInt from rfl); (try have q8 := ti_all z248); omega), (by have q9 := (show z250.toInt = z250.toInt from rfl); (try have q8 := ti_all z250); omega), (rg_t (a := x651.toInt) rfl (by have q8 := ti_all x651; omega) (by have q8 := ti_all x651; omega))⟩ _ _ hT hF hS m252 m253 m650 ls (lv_sub hl [0, 1, 2, 3, 4, 5, 6] rfl)
        | succ n646 ih646 =>
          intro i19 hn646 z248 z250 ⟨h249, h251⟩ H locs hT hF hS m252 m253 ls hl
          have hlt657 : i19 < 60 := by omega
          refine lv_iload hx hb dX12_wind_56 (lv_at hl 0 rfl) ?_
          refine lv_sipush (v := 1504) hx hb dX12_wind_58 (by decide) ?_
          refine lv_iconst (v := 2) hx hb dX12_wind_61 (by decide) ?_
          refine lv_aload_n hx hb dX12_wind_62 rfl (lv_at hl 5 rfl) ?_
          refine tw_get hx hb hts bF_X12 hown hK hT hr_o0 shm_0 rfl 1 (by decide) (ht_at hts 1 rfl) (fun _ h9 => h9) dX12_wind_63 (fun v9 m658 h9 => ?_)
          obtain ⟨rfl, hg659⟩ := h9 _ rfl
          refine lv_sipush (v := 1503) hx hb dX12_wind_66 (by decide) ?_
          refine tw_iald (i := 1503) hx hb hK hT hg8 shm_2 rfl (by unfold vp_in; decide) dX12_wind_69 (fun v9 m660 h9 => ?_)
          obtain ⟨x661, rfl, gx661, kx661⟩ := (gp_at h9 (w_wic (by have q9 := tn_of (show (1503 : Int32).toInt = 1503 from (by decide)) (show (0 : Int) ≤ 1503 from by omega); omega)))
          refine lv_imul hx hb dX12_wind_70 ?_
          refine lv_topi (fun x662 ex662 => ?_)
          have t663 : x662.toInt = 2 * x661.toInt := ti_mul ex662 (by decide) rfl (by omega) (by omega)
          refine lv_iadd hx hb dX12_wind_71 ?_
          refine lv_topi (fun x664 ex664 => ?_)
          have t665 : x664.toInt = 1504 + x662.toInt := ti_add ex664 (by decide) rfl (by omega) (by omega)
          refine lv_icmp_ge (tgt := 192) hx hb dX12_wind_72 (by decide) (fun c666 => ?_) (fun c666 => ?_)
          · have t667 : x664.toInt ≤ ((1504 + 2 * i19 : Nat) : Int) := ti_le c666 rfl (nI_toInt (by omega))
            exact jn603 (nI (1504 + 2 * i19)) z248 z250 x661 ⟨(rg_t (a := ((1504 + 2 * i19 : Nat) : Int)) (nI_toInt (by omega)) (by omega) (by omega)), (by have q9 := (show z248.toInt = z248.toInt from rfl); (try have q8 := ti_all z248); omega), (by have q9 := (show z250.toInt = z250.toInt from rfl); (try have q8 := ti_all z250); omega), (rg_t (a := x661.toInt) rfl (by have q8 := ti_all x661; omega) (by have q8 := ti_all x661; omega))⟩ _ _ hT hF hS m252 m253 m660 ls (lv_sub hl [0, 1, 2, 3, 4, 5, 6] rfl)
          · have t668 : ((1504 + 2 * i19 : Nat) : Int) < x664.toInt := ti_nle c666 rfl (nI_toInt (by omega))
            refine lv_aload_n hx hb dX12_wind_75 rfl (lv_at hl 5 rfl) ?_
            refine tw_get hx hb hts bF_X12 hown hK hT hr_o0 shm_0 rfl 1 (by decide) (ht_at hts 1 rfl) (fun _ h9 => h9) dX12_wind_76 (fun v9 m669 h9 => ?_)
            obtain ⟨rfl, hg670⟩ := h9 _ rfl
            refine lv_iload hx hb dX12_wind_79 (lv_at hl 0 rfl) ?_
            refine lv_iconst (v := 1) hx hb dX12_wind_81 (by decide) ?_
            refine lv_iadd hx hb dX12_wind_82 ?_
            refine lv_topi (fun x671 ex671 => ?_)
            obtain rfl : nI (1504 + 2 * i19 + 1) = x671 := (ex671.trans (nI_add (1504 + 2 * i19) 1)).symm
            refine tw_iald (i := (nI (1504 + 2 * i19 + 1))) hx hb hK hT hg8 shm_2 rfl (vp_in_nI (by omega) (by decide)) dX12_wind_83 (fun v9 m672 h9 => ?_)
            obtain ⟨x673, rfl, gx673, kx673⟩ := (gp_at h9 (w_wid (by have q9 := tn_of (show (nI (1504 + 2 * i19 + 1)).toInt = ((1504 + 2 * i19 + 1 : Nat) : Int) from (nI_toInt (by omega))) (show (0 : Int) ≤ ((1504 + 2 * i19 + 1 : Nat) : Int) from by omega); omega)))
            refine lv_if_lt (tgt := 186) hx hb dX12_wind_84 (by decide) (fun c674 => ?_) (fun c674 => ?_)
            · have t675 : x673.toInt < 0 := ti_lt c674 rfl (by decide)
              refine lv_iinc (v := nI (1504 + 2 * i19 + 2)) (lv' := [(6, .int (nI (1504 + 2 * i19 + 2))), (5, .int z248), (4, .int z250), (3, .int x18), (2, .int r1), (0, .ref o0), (1, .int ho)]) hx hb dX12_wind_186 hl (k := 0) rfl (nI_add (1504 + 2 * i19) 2) (by decide) rfl (fun ls hl => ?_)
              refine lv_goto (tgt := 56) hx hb dX12_wind_189 (by decide) ?_
              have hl : lv_has ls 7 [(6, .int (nI (1504 + 2 * (i19 + 1)))), (5, .int z248), (4, .int z250), (3, .int x18), (2, .int r1), (0, .ref o0), (1, .int ho)] := by rw [show nI (1504 + 2 * (i19 + 1)) = nI (1504 + 2 * i19 + 2) from congrArg nI (by omega)]; exact hl
              exact ih646 (i19 + 1) (by omega) z248 z250 ⟨(by have q9 := (show z248.toInt = z248.toInt from rfl); (try have q8 := ti_all z248); omega), (by have q9 := (show z250.toInt = z250.toInt from rfl); (try have q8 := ti_all z250); omega)⟩ _ _ hT hF hS m252 m253 ls (lv_sub hl [0, 1, 2, 3, 4, 5, 6] rfl)
            · have t676 : 0 ≤ x673.toInt := ti_nlt c674 rfl (by decide)
              refine lv_aload_n hx hb dX12_wind_87 rfl (lv_at hl 5 rfl) ?_
              refine lv_sipush (v := 1503) hx hb dX12_wind_88 (by decide) ?_
              refine lv_sipush (v := 1504) hx hb dX12_wind_91 (by decide) ?_
              refine lv_aload_n hx hb dX12_wind_94 rfl (lv_at hl 5 rfl) ?_
              refine tw_get hx hb hts bF_X12 hown hK hT hr_o0 shm_0 rfl 1 (by decide) (ht_at hts 1 rfl) (fun _ h9 => h9) dX12_wind_95 (fun v9 m677 h9 => ?_)
              obtain ⟨rfl, hg678⟩ := h9 _ rfl
              refine lv_iload hx hb dX12_wind_98 (lv_at hl 0 rfl) ?_
              refine tw_iald (i := (nI (1504 + 2 * i19))) hx hb hK hT hg8 shm_2 rfl (vp_in_nI (by omega) (by decide)) dX12_wind_100 (fun v9 m679 h9 => ?_)
              obtain ⟨x680, rfl, gx680, kx680⟩ := (gp_at h9 (w_fre (by have q9 := tn_of (show (nI (1504 + 2 * i19)).toInt = ((1504 + 2 * i19 : Nat) : Int) from (nI_toInt (by omega))) (show (0 : Int) ≤ ((1504 + 2 * i19 : Nat) : Int) from by omega); omega)))
              have hFc := gA_free hG hA hS
              refine va_calli (va_runV (As := [.int 1503, .int 1504, .int x680]) (rest := []) ⟨hx, hb, hml, hown, hts⟩ (s_telling2 l dC dI kA G H q wN wH wB wC wL wK PI o0 x680 hT hr_o0 (by omega) (by omega) (by omega) (by omega)) (cwV 3 hts (goodIn_app (goodIn_r _ [3, 4, 5, 6] (by decide +kernel) (by decide +kernel)) (goodIn_ca (goodIn_r _ [1, 2] (by decide +kernel) (by decide +kernel)) (bs_in _ _))) rfl rfl rfl (by decide +kernel) ⟨(Nat.le_of_ble_eq_true rfl), (Nat.le_of_ble_eq_true rfl)⟩) ⟨fun a U g mk q => by obtain ⟨q0, q1, qK, qE⟩ := q; exact ⟨q0, q1, va_K.moved (u := U) (U := U.calling g mk a) (Vm.Alike.refl U.vm) qK, EV.blind g mk a qE⟩, gH_recv hK hT hr_o0 shm_0 rfl, fun U hU hW => ⟨rfl, hU, va_K.moved hW.alike hK, hE.call hS hFc hU hW⟩⟩ rfl rfl hl.1 rfl (lv_room (Nat.le_of_ble_eq_true rfl)) dX12_wind_101 ⟨(Nat.le_of_ble_eq_true rfl), (Nat.le_of_ble_eq_true rfl)⟩) hS (fun q _ h => hFc q h) hFc (fun r681 u t H locs ht hvm hw682 hB _ _ hS => ?_)
              obtain ⟨hT, hF1⟩ := hB
              rw [ht] at hT hF1
              have m683 := (el_kept (hF1.arr hg8 skm_2 (by decide))).trans m252
              have m684 := (el_kept (hF1.arr hg8 skm_2 (by decide))).trans m253
              have m685 := (el_kept (hF1.arr hg8 skm_2 (by decide))).trans m660
              have m686 := (el_kept (hF1.arr hg8 skm_2 (by decide))).trans m672
              have m687 := (el_kept (hF1.arr hg8 skm_2 (by decide))).trans m679
              have hF := hF.more hF1 (by decide)
              try dsimp only at hw682
              obtain ⟨h688, hf689⟩ := hw682
              refine lv_iload hx hb dX12_wind_104 (lv_at hl 0 rfl) ?_
              refine lv_icmp_eq (tgt := 112) hx hb dX12_wind_106 (by decide) (fun c690 => ?_) (fun c690 => ?_)
              · have t691 : r681.toInt = ((1504 + 2 * i19 : Nat) : Int) := ti_eq c690 rfl (nI_toInt (by omega))
                refine lv_aload_n hx hb dX12_wind_112 rfl (lv_at hl 5 rfl) ?_
                refine tw_get hx hb hts bF_X12 hown hK hT hr_o0 shm_0 rfl 1 (by decide) (ht_at hts 1 rfl) (fun _ h9 => h9) dX12_wind_113 (fun v9 m692 h9 => ?_)
                obtain ⟨rfl, hg693⟩ := h9 _ rfl
                refine lv_iload hx hb dX12_wind_116 (lv_at hl 0 rfl) ?_
                refine tw_iald (i := (nI (1504 + 2 * i19))) hx hb hK hT hg8 shm_2 rfl (vp_in_nI (by omega) (by decide)) dX12_wind_118 (fun v9 m694 h9 => ?_)
                obtain ⟨x695, rfl, gx695, kx695⟩ := (gp_at h9 (w_fre (by have q9 := tn_of (show (nI (1504 + 2 * i19)).toInt = ((1504 + 2 * i19 : Nat) : Int) from (nI_toInt (by omega))) (show (0 : Int) ≤ ((1504 + 2 * i19 : Nat) : Int) from by omega); omega)))
                obtain rfl : x680 = x695 := (el_same m694 m687 rfl).symm
                refine lv_iload_n hx hb dX12_wind_119 rfl (lv_at hl 3 rfl) ?_
                have jn717 : ∀ (z710 : Int32), ((-1 ≤ z710.toInt ∧ z710.toInt ≤ 1622)) → ∀ (H : Heap) (locs : List Loc), gH (dC, dI) kA (SHm q (wP wN wH wB wC wC wL wK) PI) G H → gF (dC, dI) SKm G ([] : List (Nat × Nat)) s.heap H → va_S A s.heap H locs → el H (q 1) x9.toNatClampNeg = some (.int x12) → el H (q 1) r1.toNatClampNeg = some (.int x18) → el H (q 1) (1503 : Int32).toNatClampNeg = some (.int x661) → el H (q 1) (nI (1504 + 2 * i19 + 1)).toNatClampNeg = some (.int x673) → el H (q 1) (nI (1504 + 2 * i19)).toNatClampNeg = some (.int x680) → ∀ ls : Array Slot, lv_has ls 7 [(6, .int (nI (1504 + 2 * i19))), (5, .int z248), (4, .int z710), (3, .int x18), (2, .int r1), (0, .ref o0), (1, .int ho)] → W p l e (headSpec w_s_wind ({ frames := 1, cells := 0, slots := 0, locals := 40 })).room s m #[.ref o0, .int ho] below meth c H locs 0 0 (MQ below (va_Qi (fun (r : Int32) (u : Unit) => True) (fun (_ : Unit) (t : State) => gH (dC, dI) kA (SHm q (wP wN wH wB wC wC wL wK) PI) G t.heap ∧ gF (dC, dI) SKm G ([] : List (Nat × Nat)) s.heap t.heap) A) #[.ref o0, .int ho] s 0 0 A) (F0 m 149 ls []) := by
                  intro z710 h711 H locs hT hF hS m712 m713 m714 m715 m716 ls hl
                  refine lv_aload_n hx hb dX12_wind_149 rfl (lv_at hl 5 rfl) ?_
                  refine tw_get hx hb hts bF_X12 hown hK hT hr_o0 shm_0 rfl 1 (by decide) (ht_at hts 1 rfl) (fun _ h9 => h9) dX12_wind_150 (fun v9 m718 h9 => ?_)
                  obtain ⟨rfl, hg719⟩ := h9 _ rfl
                  refine lv_iload hx hb dX12_wind_153 (lv_at hl 0 rfl) ?_
                  refine tw_iald (i := (nI (1504 + 2 * i19))) hx hb hK hT hg8 shm_2 rfl (vp_in_nI (by omega) (by decide)) dX12_wind_155 (fun v9 m720 h9 => ?_)
                  obtain ⟨x721, rfl, gx721, kx721⟩ := (gp_at h9 (w_fre (by have q9 := tn_of (show (nI (1504 + 2 * i19)).toInt = ((1504 + 2 * i19 : Nat) : Int) from (nI_toInt (by omega))) (show (0 : Int) ≤ ((1504 + 2 * i19 : Nat) : Int) from by omega); omega)))
                  obtain rfl : x680 = x721 := (el_same m720 m716 rfl).symm
                  refine lv_iload_n hx hb dX12_wind_156 rfl (lv_at hl 3 rfl) ?_
                  refine lv_icmp_le (tgt := 186) hx hb dX12_wind_157 (by decide) (fun c722 => ?_) (fun c722 => ?_)
                  · have t723 : x680.toInt ≤ x18.toInt := ti_le c722 rfl rfl
                    refine lv_iinc (v := nI (1504 + 2 * i19 + 2)) (lv' := [(6, .int (nI (1504 + 2 * i19 + 2))), (5, .int z248), (4, .int z710), (3, .int x18), (2, .int r1), (0, .ref o0), (1, .int ho)]) hx hb dX12_wind_186 hl (k := 0) rfl (nI_add (1504 + 2 * i19) 2) (by decide) rfl (fun ls hl => ?_)
                    refine lv_goto (tgt := 56) hx hb dX12_wind_189 (by decide) ?_
                    have hl : lv_has ls 7 [(6, .int (nI (1504 + 2 * (i19 + 1)))), (5, .int z248), (4, .int z710), (3, .int x18), (2, .int r1), (0, .ref o0), (1, .int ho)] := by rw [show nI (1504 + 2 * (i19 + 1)) = nI (1504 + 2 * i19 + 2) from congrArg nI (by omega)]; exact hl
                    exact ih646 (i19 + 1) (by omega) z248 z710 ⟨(by have q9 := (show z248.toInt = z248.toInt from rfl); (try have q8 := ti_all z248); omega), (by have q9 := (show z710.toInt = z710.toInt from rfl); (try have q8 := ti_all z710); omega)⟩ _ _ hT hF hS m712 m713 ls (lv_sub hl [0, 1, 2, 3, 4, 5, 6] rfl)
                  · have t724 : x18.toInt < x680.toInt := ti_nle c722 rfl rfl
                    refine lv_iload hx hb dX12_wind_160 (lv_at hl 1 rfl) ?_
                    refine lv_if_lt (tgt := 182) hx hb dX12_wind_162 (by decide) (fun c725 => ?_) (fun c725 => ?_)
                    · have t726 : z248.toInt < 0 := ti_lt c725 rfl (by decide)
                      refine lv_iload hx hb dX12_wind_182 (lv_at hl 0 rfl) ?_
                      refine lv_istore (lv' := [(5, .int (nI (1504 + 2 * i19))), (6, .int (nI (1504 + 2 * i19))), (4, .int z710), (3, .int x18), (2, .int r1), (0, .ref o0), (1, .int ho)]) hx hb dX12_wind_184 hl (by decide) rfl (fun ls hl => ?_)
                      refine lv_iinc (v := nI (1504 + 2 * i19 + 2)) (lv' := [(6, .int (nI (1504 + 2 * i19 + 2))), (5, .int (nI (1504 + 2 * i19))), (4, .int z710), (3, .int x18), (2, .int r1), (0, .ref o0), (1, .int ho)]) hx hb dX12_wind_186 hl (k := 1) rfl (nI_add (1504 + 2 * i19) 2) (by decide) rfl (fun ls hl => ?_)
                      refine lv_goto (tgt := 56) hx hb dX12_wind_189 (by decide) ?_
                      have hl : lv_has ls 7 [(6, .int (nI (1504 + 2 * (i19 + 1)))), (5, .int (nI (1504 + 2 * i19))), (4, .int z710), (3, .int x18), (2, .int r1), (0, .ref o0), (1, .int ho)] := by rw [show nI (1504 + 2 * (i19 + 1)) = nI (1504 + 2 * i19 + 2) from congrArg nI (by omega)]; exact hl
                      exact ih646 (i19 + 1) (by omega) (nI (1504 + 2 * i19)) z710 ⟨(by have q9 := (show (nI (1504 + 2 * i19)).toInt = ((1504 + 2 * i19 : Nat) : Int) from (nI_toInt (by omega))); (try have q8 := ti_all (nI (1504 + 2 * i19))); omega), (by have q9 := (show z710.toInt = z710.toInt from rfl); (try have q8 := ti_all z710); omega)⟩ _ _ hT hF hS m712 m713 ls (lv_sub hl [0, 1, 2, 3, 4, 5, 6] rfl)
                    · have t727 : 0 ≤ z248.toInt := ti_nlt c725 rfl (by decide)
                      refine lv_aload_n hx hb dX12_wind_165 rfl (lv_at hl 5 rfl) ?_
                      refine tw_get hx hb hts bF_X12 hown hK hT hr_o0 shm_0 rfl 1 (by decide) (ht_at hts 1 rfl) (fun _ h9 => h9) dX12_wind_166 (fun v9 m728 h9 => ?_)
                      obtain ⟨rfl, hg729⟩ := h9 _ rfl
                      refine lv_iload hx hb dX12_wind_169 (lv_at hl 0 rfl) ?_
                      refine tw_iald (i := (nI (1504 + 2 * i19))) hx hb hK hT hg8 shm_2 rfl (vp_in_nI (by omega) (by decide)) dX12_wind_171 (fun v9 m730 h9 => ?_)
                      obtain ⟨x731, rfl, gx731, kx731⟩ := (gp_at h9 (w_fre (by have q9 := tn_of (show (nI (1504 + 2 * i19)).toInt = ((1504 + 2 * i19 : Nat) : Int) from (nI_toInt (by omega))) (show (0 : Int) ≤ ((1504 + 2 * i19 : Nat) : Int) from by omega); omega)))
                      obtain rfl : x680 = x731 := (el_same m730 m716 rfl).symm
                      refine lv_aload_n hx hb dX12_wind_172 rfl (lv_at hl 5 rfl) ?_
                      refine tw_get hx hb hts bF_X12 hown hK hT hr_o0 shm_0 rfl 1 (by decide) (ht_at hts 1 rfl) (fun _ h9 => h9) dX12_wind_173 (fun v9 m732 h9 => ?_)
                      obtain ⟨rfl, hg733⟩ := h9 _ rfl
                      refine lv_iload hx hb dX12_wind_176 (lv_at hl 1 rfl) ?_
                      refine tw_iald (i := z248) hx hb hK hT hg8 shm_2 rfl (vin_t (a := z248.toInt) rfl (by omega) (by omega)) dX12_wind_178 (fun v9 m734 h9 => ?_)
                      obtain ⟨x735, rfl, gx735, kx735⟩ := (gp_any h9)
                      refine lv_icmp_ge (tgt := 186) hx hb dX12_wind_179 (by decide) (fun c736 => ?_) (fun c736 => ?_)
                      · have t737 : x735.toInt ≤ x680.toInt := ti_le c736 rfl rfl
                        refine lv_iinc (v := nI (1504 + 2 * i19 + 2)) (lv' := [(6, .int (nI (1504 + 2 * i19 + 2))), (5, .int z248), (4, .int z710), (3, .int x18), (2, .int r1), (0, .ref o0), (1, .int ho)]) hx hb dX12_wind_186 hl (k := 0) rfl (nI_add (1504 + 2 * i19) 2) (by decide) rfl (fun ls hl => ?_)
                        refine lv_goto (tgt := 56) hx hb dX12_wind_189 (by decide) ?_
                        have hl : lv_has ls 7 [(6, .int (nI (1504 + 2 * (i19 + 1)))), (5, .int z248), (4, .int z710), (3, .int x18), (2, .int r1), (0, .ref o0), (1, .int ho)] := by rw [show nI (1504 + 2 * (i19 + 1)) = nI (1504 + 2 * i19 + 2) from congrArg nI (by omega)]; exact hl
                        exact ih646 (i19 + 1) (by omega) z248 z710 ⟨(by have q9 := (show z248.toInt = z248.toInt from rfl); (try have q8 := ti_all z248); omega), (by have q9 := (show z710.toInt = z710.toInt from rfl); (try have q8 := ti_all z710); omega)⟩ _ _ hT hF hS m712 m713 ls (lv_sub hl [0, 1, 2, 3, 4, 5, 6] rfl)
                      · have t738 : x680.toInt < x735.toInt := ti_nle c736 rfl rfl
                        refine lv_iload hx hb dX12_wind_182 (lv_at hl 0 rfl) ?_
                        refine lv_istore (lv' := [(5, .int (nI (1504 + 2 * i19))), (6, .int (nI (1504 + 2 * i19))), (4, .int z710), (3, .int x18), (2, .int r1), (0, .ref o0), (1, .int ho)]) hx hb dX12_wind_184 hl (by decide) rfl (fun ls hl => ?_)
                        refine lv_iinc (v := nI (1504 + 2 * i19 + 2)) (lv' := [(6, .int (nI (1504 + 2 * i19 + 2))), (5, .int (nI (1504 + 2 * i19))), (4, .int z710), (3, .int x18), (2, .int r1), (0, .ref o0), (1, .int ho)]) hx hb dX12_wind_186 hl (k := 1) rfl (nI_add (1504 + 2 * i19) 2) (by decide) rfl (fun ls hl => ?_)
                        refine lv_goto (tgt := 56) hx hb dX12_wind_189 (by decide) ?_
                        have hl : lv_has ls 7 [(6, .int (nI (1504 + 2 * (i19 + 1)))), (5, .int (nI (1504 + 2 * i19))), (4, .int z710), (3, .int x18), (2, .int r1), (0, .ref o0), (1, .int ho)] := by rw [show nI (1504 + 2 * (i19 + 1)) = nI (1504 + 2 * i19 + 2) from congrArg nI (by omega)]; exact hl
                        exact ih646 (i19 + 1) (by omega) (nI (1504 + 2 * i19)) z710 ⟨(by have q9 := (show (nI (1504 + 2 * i19)).toInt = ((1504 + 2 * i19 : Nat) : Int) from (nI_toInt (by omega))); (try have q8 := ti_all (nI (1504 + 2 * i19))); omega), (by have q9 := (show z710.toInt = z710.toInt from rfl); (try have q8 := ti_all z710); omega)⟩ _ _ hT hF hS m712 m713 ls (lv_sub hl [0, 1, 2, 3, 4, 5, 6] rfl)
                refine lv_icmp_ge (tgt := 149) hx hb dX12_wind_120 (by decide) (fun c739 => ?_) (fun c739 => ?_)
                · have t740 : x18.toInt ≤ x680.toInt := ti_le c739 rfl rfl
                  exact jn717 z250 (by have q9 := (show z250.toInt = z250.toInt from rfl); (try have q8 := ti_all z250); omega) _ _ hT hF hS m683 m684 m685 m686 m687 ls (lv_sub hl [0, 1, 2, 3, 4, 5, 6] rfl)
                · have t741 : x680.toInt < x18.toInt := ti_nle c739 rfl rfl
                  refine lv_iload hx hb dX12_wind_123 (lv_at hl 2 rfl) ?_
                  refine lv_if_lt (tgt := 145) hx hb dX12_wind_125 (by decide) (fun c742 => ?_) (fun c742 => ?_)
                  · have t743 : z250.toInt < 0 := ti_lt c742 rfl (by decide)
                    refine lv_iload hx hb dX12_wind_145 (lv_at hl 0 rfl) ?_
                    refine lv_istore (lv' := [(4, .int (nI (1504 + 2 * i19))), (6, .int (nI (1504 + 2 * i19))), (5, .int z248), (3, .int x18), (2, .int r1), (0, .ref o0), (1, .int ho)]) hx hb dX12_wind_147 hl (by decide) rfl (fun ls hl => ?_)
                    exact jn717 (nI (1504 + 2 * i19)) (by have q9 := (show (nI (1504 + 2 * i19)).toInt = ((1504 + 2 * i19 : Nat) : Int) from (nI_toInt (by omega))); (try have q8 := ti_all (nI (1504 + 2 * i19))); omega) _ _ hT hF hS m683 m684 m685 m686 m687 ls (lv_sub hl [1, 2, 0, 3, 4, 5, 6] rfl)
                  · have t744 : 0 ≤ z250.toInt := ti_nlt c742 rfl (by decide)
                    refine lv_aload_n hx hb dX12_wind_128 rfl (lv_at hl 5 rfl) ?_
                    refine tw_get hx hb hts bF_X12 hown hK hT hr_o0 shm_0 rfl 1 (by decide) (ht_at hts 1 rfl) (fun _ h9 => h9) dX12_wind_129 (fun v9 m745 h9 => ?_)
                    obtain ⟨rfl, hg746⟩ := h9 _ rfl
                    refine lv_iload hx hb dX12_wind_132 (lv_at hl 0 rfl) ?_
                    refine tw_iald (i := (nI (1504 + 2 * i19))) hx hb hK hT hg8 shm_2 rfl (vp_in_nI (by omega) (by decide)) dX12_wind_134 (fun v9 m747 h9 => ?_)
                    obtain ⟨x748, rfl, gx748, kx748⟩ := (gp_at h9 (w_fre (by have q9 := tn_of (show (nI (1504 + 2 * i19)).toInt = ((1504 + 2 * i19 : Nat) : Int) from (nI_toInt (by omega))) (show (0 : Int) ≤ ((1504 + 2 * i19 : Nat) : Int) from by omega); omega)))
                    obtain rfl : x680 = x748 := (el_same m747 m687 rfl).symm
                    refine lv_aload_n hx hb dX12_wind_135 rfl (lv_at hl 5 rfl) ?_
                    refine tw_get hx hb hts bF_X12 hown hK hT hr_o0 shm_0 rfl 1 (by decide) (ht_at hts 1 rfl) (fun _ h9 => h9) dX12_wind_136 (fun v9 m749 h9 => ?_)
                    obtain ⟨rfl, hg750⟩ := h9 _ rfl
                    refine lv_iload hx hb dX12_wind_139 (lv_at hl 2 rfl) ?_
                    refine tw_iald (i := z250) hx hb hK hT hg8 shm_2 rfl (vin_t (a := z250.toInt) rfl (by omega) (by omega)) dX12_wind_141 (fun v9 m751 h9 => ?_)
                    obtain ⟨x752, rfl, gx752, kx752⟩ := (gp_any h9)
                    refine lv_icmp_le (tgt := 149) hx hb dX12_wind_142 (by decide) (fun c753 => ?_) (fun c753 => ?_)
                    · have t754 : x680.toInt ≤ x752.toInt := ti_le c753 rfl rfl
                      exact jn717 z250 (by have q9 := (show z250.toInt = z250.toInt from rfl); (try have q8 := ti_all z250); omega) _ _ hT hF hS m683 m684 m685 m686 m687 ls (lv_sub hl [0, 1, 2, 3, 4, 5, 6] rfl)
                    · have t755 : x752.toInt < x680.toInt := ti_nle c753 rfl rfl
                      refine lv_iload hx hb dX12_wind_145 (lv_at hl 0 rfl) ?_
                      refine lv_istore (lv' := [(4, .int (nI (1504 + 2 * i19))), (6, .int (nI (1504 + 2 * i19))), (5, .int z248), (3, .int x18), (2, .int r1), (0, .ref o0), (1, .int ho)]) hx hb dX12_wind_147 hl (by decide) rfl (fun ls hl => ?_)
                      exact jn717 (nI (1504 + 2 * i19)) (by have q9 := (show (nI (1504 + 2 * i19)).toInt = ((1504 + 2 * i19 : Nat) : Int) from (nI_toInt (by omega))); (try have q8 := ti_all (nI (1504 + 2 * i19))); omega) _ _ hT hF hS m683 m684 m685 m686 m687 ls (lv_sub hl [1, 2, 0, 3, 4, 5, 6] rfl)
              · have t756 : r681.toInt ≠ ((1504 + 2 * i19 : Nat) : Int) := ti_ne c690 rfl (nI_toInt (by omega))
                refine lv_goto (tgt := 186) hx hb dX12_wind_109 (by decide) ?_
                refine lv_iinc (v := nI (1504 + 2 * i19 + 2)) (lv' := [(6, .int (nI (1504 + 2 * i19 + 2))), (5, .int z248), (4, .int z250), (3, .int x18), (2, .int r1), (0, .ref o0), (1, .int ho)]) hx hb dX12_wind_186 hl (k := 0) rfl (nI_add (1504 + 2 * i19) 2) (by decide) rfl (fun ls hl => ?_)
                refine lv_goto (tgt := 56) hx hb dX12_wind_189 (by decide) ?_
                have hl : lv_has ls 7 [(6, .int (nI (1504 + 2 * (i19 + 1)))), (5, .int z248), (4, .int z250), (3, .int x18), (2, .int r1), (0, .ref o0), (1, .int ho)] := by rw [show nI (1504 + 2 * (i19 + 1)) = nI (1504 + 2 * i19 + 2) from congrArg nI (by omega)]; exact hl
                exact ih646 (i19 + 1) (by omega) z248 z250 ⟨(by have q9 := (show z248.toInt = z248.toInt from rfl); (try have q8 := ti_all z248); omega), (by have q9 := (show z250.toInt = z250.toInt from rfl); (try have q8 := ti_all z250); omega)⟩ _ _ hT hF hS m683 m684 ls (lv_sub hl [0, 1, 2, 3, 4, 5, 6] rfl)
      have hl2 : lv_has ls 7 [(6, .int (nI (1504 + 2 * 0))), (5, .int (-1)), (4, .int (-1)), (3, .int x18), (2, .int r1), (0, .ref o0), (1, .int ho)] := hl
      exact key646 (60 - 0) 0 (by omega) (-1) (-1) ⟨(by have q9 := (show (-1 : Int32).toInt = (-1) from (by decide)); (try have q8 := ti_all (-1 : Int32)); omega), (by have q9 := (show (-1 : Int32).toInt = (-1) from (by decide)); (try have q8 := ti_all (-1 : Int32)); omega)⟩ _ _ hT hF hS m11 m17 ls (lv_sub hl2 [0, 1, 2, 3, 4, 5, 6] rfl)
    · have t757 : 0 ≤ x12.toInt := ti_nlt c13 rfl (by decide)
      refine lv_aload_n hx hb dX12_wind_29 rfl (lv_at hl 1 rfl) ?_
      refine tw_get hx hb hts bF_X12 hown hK hT hr_o0 shm_0 rfl 1 (by decide) (ht_at hts 1 rfl) (fun _ h9 => h9) dX12_wind_30 (fun v9 m758 h9 => ?_)
      obtain ⟨rfl, hg759⟩ := h9 _ rfl
      refine lv_iload_n hx hb dX12_wind_33 rfl (lv_at hl 0 rfl) ?_
      refine lv_iconst (v := 1) hx hb dX12_wind_34 (by decide) ?_
      refine lv_iadd hx hb dX12_wind_35 ?_
      refine lv_topi (fun x760 ex760 => ?_)
      have t761 : x760.toInt = r1.toInt + 1 := ti_add ex760 rfl (by decide) (by omega) (by omega)
      refine tw_iald (i := x760) hx hb hK hT hg8 shm_2 rfl (vin_t (a := x760.toInt) rfl (by omega) (by omega)) dX12_wind_36 (fun v9 m762 h9 => ?_)
      obtain ⟨x763, rfl, gx763, kx763⟩ := (gp_any h9)
      obtain rfl : x12 = x763 := (el_same m762 m11 (show x760.toInt = x9.toInt from by rw []; try omega)).symm
      exact W.iret (v := x12) hx hb hr (fun t ht hW => ⟨⟨x12, (), rfl, (by exact trivial), by (try dsimp only); rw [ht]; exact ⟨hT, hF⟩⟩, hS.F ht⟩) hS.2.2 dX12_wind_37
  · have t764 : r1.toInt < 0 := ti_nle c5 (by decide) rfl
    refine lv_iconst (v := 0) hx hb dX12_wind_16 (by decide) ?_
    exact W.iret (v := 0) hx hb hr (fun t ht hW => ⟨⟨0, (), rfl, (by exact trivial), by (try dsimp only); rw [ht]; exact ⟨hT, hF⟩⟩, hS.F ht⟩) hS.2.2 dX12_wind_17
def w_s_sky : List Cond := .code yX12_sky cX12_sky 3 (some .int) :: ([.fieldLink RX12 194 "SeaLandModel" "thrown" "I", .constant RX12 242 40000, .code yX12_in cX12_in 3 (some .boolean), .methodLink RX12 197 yX12_in, .static yX12_in, .initialized RX12, .code yX12_throwsIf cX12_throwsIf 3 (some .boolean), .methodLink RX12 224 yX12_throwsIf, .instanceMethod yX12_throwsIf, .selects RX12 yX12_throwsIf yX12_throwsIf, .code yX12_rain cX12_rain 3 (some .int), .code yX12_telling cX12_telling 6 (some .int), .fieldLink RX12 9 "SeaLandModel" "world" "[I", .methodLink RX12 243 yX12_telling, .instanceMethod yX12_telling, .selects RX12 yX12_telling yX12_telling, .methodLink RX12 253 yX12_rain, .instanceMethod yX12_rain, .selects RX12 yX12_rain yX12_rain, .code yX12_wind cX12_wind 7 (some .int), .methodLink RX12 211 Lib.Math.max.name, .static Lib.Math.max.name, .initialized "java/lang/Math", .code Lib.Math.max.name Lib.Math.max.code 2 (some .int), .methodLink RX12 250 yX12_wind, .instanceMethod yX12_wind, .selects RX12 yX12_wind yX12_wind, .code yX12_outside cX12_outside 4 (some .int), .methodLink RX12 247 yX12_outside, .instanceMethod yX12_outside, .selects RX12 yX12_outside yX12_outside] ++ bs)
set_option maxHeartbeats 4000000 in
set_option maxRecDepth 100000 in
theorem s_sky (l : Launch) (dC : Nat → ClassId) (dI : Nat → Nat → Nat) (kA : Nat → ClassId) (G : gT) (H0 : Heap) (q : Nat → Nat) (wN wH wB wC : Int) (wL wK : Nat → Prop) (PI : Nat → Int → Prop) (o0 : Nat) (p0 : Int32) (p1 : Int32) (hT : gH (dC, dI) kA (SHm q (wP wN wH wB wC wC wL wK) PI) G H0) (hr_o0 : G o0 = some 0) (hgn : 6500000 ≤ wN ∧ wN ≤ 400000000) (hgh : 0 ≤ wH ∧ wH ≤ 40000) (hgb : 0 ≤ wB ∧ wB ≤ 3850000) (hgc : 0 ≤ wC ∧ wC ≤ 30) : Met l yX12_sky w_s_sky ({ frames := 2, cells := 0, slots := 0, locals := 66 }) (va_Pc [.ref o0, .int p0, .int p1] (fun U => U.heap = H0 ∧ va_K (dC, dI) vwCl (tyl kA) U ∧ EV (gA G H0.size) U U.heap)) (va_Qi (fun (r : Int32) (u : Unit) => True) (fun (_ : Unit) (t : State) => gH (dC, dI) kA (SHm q (wP wN wH wB wC wC wL wK) PI) G t.heap ∧ gF (dC, dI) SKm G ([(0, 0)] : List (Nat × Nat)) H0 t.heap) (gA G H0.size)) 0 0 (gA G H0.size) := by
  refine Met.ofW (cc := cX12_sky) (maxL := 3) (ret := (some .int)) (by decide) rfl ?_
  intro p e s m args below meth c s₁ B hml hv
  obtain ⟨rfl, hH0, hK, hE⟩ := hv
  have hx := B.exec
  have hb := B.bytes
  have hr := B.returns
  have hts := atoms_spec (ws := w_s_sky) B.pre
  have hown : s.vm.findClass RX12 = some m.cls := findClass_of_methodNamed B.named
  have hlocks := B.notSynchronized
  subst hH0
  generalize hAe : gA G s.heap.size = A at hE ⊢
  have hA : ∀ q : Nat, s.heap.size ≤ q → A q := fun q h => by rw [← hAe]; exact Or.inr h
  have hG := gA_of hAe
  have hS : va_S A s.heap s.heap [] := va_S.rf
  have hF : gF (dC, dI) SKm G ([(0, 0)] : List (Nat × Nat)) s.heap s.heap := gF.rf
  have hl := lv_entry ([.ref o0, .int p0, .int p1]) (n := 3) (Nat.le_of_ble_eq_true rfl)
  rw [lg_entry_eq]
  generalize (lg_sl ([.ref o0, .int p0, .int p1]) ++ List.replicate (3 - (lg_sl ([.ref o0, .int p0, .int p1])).length) Slot.unset).toArray = ls at hl ⊢
  have hl : lv_has ls 3 [(0, .ref o0), (1, .int p0), (2, .int p1)] := hl
  refine lv_aload_n hx hb dX12_sky_0 rfl (lv_at hl 0 rfl) ?_
  refine lv_iconst (v := 0) hx hb dX12_sky_1 (by decide) ?_
  refine tw_put (v := .int 0) (ty := .int) hx hb hts bF_X12 tyX12 tyX12_ok nmX12 hown hK hT hG hS hr_o0 shm_0 rfl 0 (by decide) (ht_at hts 0 rfl) (fun _ h9 => h9) rfl (by decide +kernel) rfl rfl (gl_at rfl (gi_all _)) dX12_sky_2 (fun H locs hT oq m1 oj hS => ?_)
  have hF := hF.put hr_o0 skm_0 oq oj (by decide)
  refine lv_aload_n hx hb dX12_sky_5 rfl (lv_at hl 0 rfl) ?_
  refine lv_iload_n hx hb dX12_sky_6 rfl (lv_at hl 1 rfl) ?_
  refine lv_iconst (v := 0) hx hb dX12_sky_7 (by decide) ?_
  refine lv_ldc (v := 40000) hx hb hown (ht_at hts 1 rfl) dX12_sky_8 ?_
  have hFc := gA_free hG hA hS
  refine va_calli (va_runS (As := [.int p0, .int 0, .int 40000]) (rest := [.ref o0]) ⟨hx, hb, hml, hown, hts⟩ (s_in l dC dI kA G H q wN wH wB wC wL wK PI p0 0 40000 hT (by omega) (by omega) (by omega) (by omega)) (va_cwS 3 hts (goodIn_app (goodIn_r _ [4, 5, 6] (by decide +kernel) (by decide +kernel)) (goodIn_ca (goodIn_r _ [3] (by decide +kernel) (by decide +kernel)) (bs_in _ _))) rfl rfl rfl (by decide +kernel) ⟨(Nat.le_of_ble_eq_true rfl), (Nat.le_of_ble_eq_true rfl)⟩) ⟨fun a U g mk q => by obtain ⟨q0, q1, qK, qE⟩ := q; exact ⟨q0, q1, va_K.moved (u := U) (U := U.calling g mk a) (Vm.Alike.refl U.vm) qK, EV.blind g mk a qE⟩, fun U hU hW => ⟨rfl, hU, va_K.moved hW.alike hK, hE.call hS hFc hU hW⟩⟩ rfl rfl hl.1 rfl (lv_room (Nat.le_of_ble_eq_true rfl)) dX12_sky_10 ⟨(Nat.le_of_ble_eq_true rfl), (Nat.le_of_ble_eq_true rfl)⟩) hS (fun q _ h => hFc q h) hFc (fun r2 u t H locs ht hvm hw3 hB _ _ hS => ?_)
  obtain ⟨hT, hF1⟩ := hB
  rw [ht] at hT hF1
  have m4 := (hF1.fld hr_o0 skm_0 (k := 0) (by decide) (by decide)).trans m1
  have hF := hF.more hF1 (by decide)
  try dsimp only at hw3
  obtain ⟨h5, hi6, hi7⟩ := hw3
  refine lv_if_eq (tgt := 25) hx hb dX12_sky_13 (by decide) (fun c8 => ?_) (fun c8 => ?_)
  · have t9 : r2.toInt = 0 := ti_eq c8 rfl (by decide)
    have t10 : (0 : Int32).toInt = 0 := by decide
    have t11 : (40000 : Int32).toInt = 40000 := by decide
    have t12 : p0.toInt < (0 : Int32).toInt ∨ (40000 : Int32).toInt < p0.toInt := hi7 c8
    refine lv_iconst (v := 1) hx hb dX12_sky_25 (by decide) ?_
    refine lv_goto (tgt := 30) hx hb dX12_sky_26 (by decide) ?_
    refine lv_iconst (v := 1) hx hb dX12_sky_30 (by decide) ?_
    have hFc := gA_free hG hA hS
    refine va_calli (va_runV (As := [.int 1, .int 1]) (rest := []) ⟨hx, hb, hml, hown, hts⟩ (s_throwsIf l dC dI kA G H q wN wH wB wC wL wK PI o0 1 1 hT hr_o0 (rg_t (a := 1) (by decide) (by omega) (by omega)) (by omega) (by omega) (by omega) (by omega)) (cwV 2 hts (goodIn_app (goodIn_r _ [8, 9, 10, 6] (by decide +kernel) (by decide +kernel)) (goodIn_ca (goodIn_r _ [7, 1] (by decide +kernel) (by decide +kernel)) (bs_in _ _))) rfl rfl rfl (by decide +kernel) ⟨(Nat.le_of_ble_eq_true rfl), (Nat.le_of_ble_eq_true rfl)⟩) ⟨fun a U g mk q => by obtain ⟨q0, q1, qK, qE⟩ := q; exact ⟨q0, q1, va_K.moved (u := U) (U := U.calling g mk a) (Vm.Alike.refl U.vm) qK, EV.blind g mk a qE⟩, gH_recv hK hT hr_o0 shm_0 rfl, fun U hU hW => ⟨rfl, hU, va_K.moved hW.alike hK, hE.call hS hFc hU hW⟩⟩ rfl rfl hl.1 rfl (lv_room (Nat.le_of_ble_eq_true rfl)) dX12_sky_31 ⟨(Nat.le_of_ble_eq_true rfl), (Nat.le_of_ble_eq_true rfl)⟩) hS (fun q _ h => hFc q h) hFc (fun r13 u t H locs ht hvm hw14 hB _ _ hS => ?_)
    obtain ⟨hT, hF1⟩ := hB
    rw [ht] at hT hF1
    have hF := hF.more hF1 (by decide)
    try dsimp only at hw14
    obtain ⟨h16, hd17⟩ := hw14
    obtain rfl : (1 : Int32) = r13 := hd17.symm
    refine lv_if_eq (tgt := 39) hx hb dX12_sky_34 (by decide) (fun c18 => absurd c18 (by decide)) (fun c18 => ?_)
    refine lv_iconst (v := 0) hx hb dX12_sky_37 (by decide) ?_
    exact W.iret (v := 0) hx hb hr (fun t ht hW => ⟨⟨0, (), rfl, (by exact trivial), by (try dsimp only); rw [ht]; exact ⟨hT, hF⟩⟩, hS.F ht⟩) hS.2.2 dX12_sky_38
  · have t19 : r2.toInt ≠ 0 := ti_ne c8 rfl (by decide)
    have t20 : (0 : Int32).toInt = 0 := by decide
    have t21 : (40000 : Int32).toInt = 40000 := by decide
    have t22 : (0 : Int32).toInt ≤ p0.toInt ∧ p0.toInt ≤ (40000 : Int32).toInt := hi6 ((bit_of ⟨by omega, by omega⟩).resolve_left c8)
    refine lv_iload_n hx hb dX12_sky_16 rfl (lv_at hl 2 rfl) ?_
    refine lv_iconst (v := 0) hx hb dX12_sky_17 (by decide) ?_
    refine lv_iconst (v := 2) hx hb dX12_sky_18 (by decide) ?_
    have hFc := gA_free hG hA hS
    refine va_calli (va_runS (As := [.int p1, .int 0, .int 2]) (rest := [.ref o0]) ⟨hx, hb, hml, hown, hts⟩ (s_in l dC dI kA G H q wN wH wB wC wL wK PI p1 0 2 hT (by omega) (by omega) (by omega) (by omega)) (va_cwS 3 hts (goodIn_app (goodIn_r _ [4, 5, 6] (by decide +kernel) (by decide +kernel)) (goodIn_ca (goodIn_r _ [3] (by decide +kernel) (by decide +kernel)) (bs_in _ _))) rfl rfl rfl (by decide +kernel) ⟨(Nat.le_of_ble_eq_true rfl), (Nat.le_of_ble_eq_true rfl)⟩) ⟨fun a U g mk q => by obtain ⟨q0, q1, qK, qE⟩ := q; exact ⟨q0, q1, va_K.moved (u := U) (U := U.calling g mk a) (Vm.Alike.refl U.vm) qK, EV.blind g mk a qE⟩, fun U hU hW => ⟨rfl, hU, va_K.moved hW.alike hK, hE.call hS hFc hU hW⟩⟩ rfl rfl hl.1 rfl (lv_room (Nat.le_of_ble_eq_true rfl)) dX12_sky_19 ⟨(Nat.le_of_ble_eq_true rfl), (Nat.le_of_ble_eq_true rfl)⟩) hS (fun q _ h => hFc q h) hFc (fun r23 u t H locs ht hvm hw24 hB _ _ hS => ?_)
    obtain ⟨hT, hF1⟩ := hB
    rw [ht] at hT hF1
    have m25 := (hF1.fld hr_o0 skm_0 (k := 0) (by decide) (by decide)).trans m4
    have hF := hF.more hF1 (by decide)
    try dsimp only at hw24
    obtain ⟨h26, hi27, hi28⟩ := hw24
    refine lv_if_ne (tgt := 29) hx hb dX12_sky_22 (by decide) (fun c29 => ?_) (fun c29 => ?_)
    · have t30 : r23.toInt ≠ 0 := ti_ne c29 rfl (by decide)
      have t31 : (0 : Int32).toInt = 0 := by decide
      have t32 : (2 : Int32).toInt = 2 := by decide
      have t33 : (0 : Int32).toInt ≤ p1.toInt ∧ p1.toInt ≤ (2 : Int32).toInt := hi27 ((bit_of ⟨by omega, by omega⟩).resolve_left c29)
      refine lv_iconst (v := 0) hx hb dX12_sky_29 (by decide) ?_
      refine lv_iconst (v := 1) hx hb dX12_sky_30 (by decide) ?_
      have hFc := gA_free hG hA hS
      refine va_calli (va_runV (As := [.int 0, .int 1]) (rest := []) ⟨hx, hb, hml, hown, hts⟩ (s_throwsIf l dC dI kA G H q wN wH wB wC wL wK PI o0 0 1 hT hr_o0 (rg_t (a := 0) (by decide) (by omega) (by omega)) (by omega) (by omega) (by omega) (by omega)) (cwV 2 hts (goodIn_app (goodIn_r _ [8, 9, 10, 6] (by decide +kernel) (by decide +kernel)) (goodIn_ca (goodIn_r _ [7, 1] (by decide +kernel) (by decide +kernel)) (bs_in _ _))) rfl rfl rfl (by decide +kernel) ⟨(Nat.le_of_ble_eq_true rfl), (Nat.le_of_ble_eq_true rfl)⟩) ⟨fun a U g mk q => by obtain ⟨q0, q1, qK, qE⟩ := q; exact ⟨q0, q1, va_K.moved (u := U) (U := U.calling g mk a) (Vm.Alike.refl U.vm) qK, EV.blind g mk a qE⟩, gH_recv hK hT hr_o0 shm_0 rfl, fun U hU hW => ⟨rfl, hU, va_K.moved hW.alike hK, hE.call hS hFc hU hW⟩⟩ rfl rfl hl.1 rfl (lv_room (Nat.le_of_ble_eq_true rfl)) dX12_sky_31 ⟨(Nat.le_of_ble_eq_true rfl), (Nat.le_of_ble_eq_true rfl)⟩) hS (fun q _ h => hFc q h) hFc (fun r34 u t H locs ht hvm hw35 hB _ _ hS => ?_)
      obtain ⟨hT, hF1⟩ := hB
      rw [ht] at hT hF1
      have hF := hF.more hF1 (by decide)
      try dsimp only at hw35
      obtain ⟨h37, hd38⟩ := hw35
      obtain rfl : (0 : Int32) = r34 := hd38.symm
      refine lv_if_eq (tgt := 39) hx hb dX12_sky_34 (by decide) (fun c39 => ?_) (fun c39 => absurd c39 (by decide))
      refine lv_iload_n hx hb dX12_sky_39 rfl (lv_at hl 2 rfl) ?_
      refine lv_if_ne (tgt := 51) hx hb dX12_sky_40 (by decide) (fun c40 => ?_) (fun c40 => ?_)
      · have t41 : p1.toInt ≠ 0 := ti_ne c40 rfl (by decide)
        refine lv_iload_n hx hb dX12_sky_51 rfl (lv_at hl 2 rfl) ?_
        refine lv_iconst (v := 1) hx hb dX12_sky_52 (by decide) ?_
        refine lv_icmp_ne (tgt := 64) hx hb dX12_sky_53 (by decide) (fun c42 => ?_) (fun c42 => ?_)
        · have t43 : p1.toInt ≠ 1 := ti_ne c42 rfl (by decide)
          refine lv_aload_n hx hb dX12_sky_64 rfl (lv_at hl 0 rfl) ?_
          refine lv_iload_n hx hb dX12_sky_65 rfl (lv_at hl 1 rfl) ?_
          have hFc := gA_free hG hA hS
          refine va_calli (va_runV (As := [.int p0]) (rest := []) ⟨hx, hb, hml, hown, hts⟩ (s_rain l dC dI kA G H q wN wH wB wC wL wK PI o0 p0 hT hr_o0 (by omega) (by omega) (by omega) (by omega)) (cwV 1 hts (goodIn_app (goodIn_r _ [17, 18, 19, 6] (by decide +kernel) (by decide +kernel)) (goodIn_ca (goodIn_r _ [11, 12, 13, 14, 15, 16, 6] (by decide +kernel) (by decide +kernel)) (bs_in _ _))) rfl rfl rfl (by decide +kernel) ⟨(Nat.le_of_ble_eq_true rfl), (Nat.le_of_ble_eq_true rfl)⟩) ⟨fun a U g mk q => by obtain ⟨q0, q1, qK, qE⟩ := q; exact ⟨q0, q1, va_K.moved (u := U) (U := U.calling g mk a) (Vm.Alike.refl U.vm) qK, EV.blind g mk a qE⟩, gH_recv hK hT hr_o0 shm_0 rfl, fun U hU hW => ⟨rfl, hU, va_K.moved hW.alike hK, hE.call hS hFc hU hW⟩⟩ rfl rfl hl.1 rfl (lv_room (Nat.le_of_ble_eq_true rfl)) dX12_sky_66 ⟨(Nat.le_of_ble_eq_true rfl), (Nat.le_of_ble_eq_true rfl)⟩) hS (fun q _ h => hFc q h) hFc (fun r44 u t H locs ht hvm hw45 hB _ _ hS => ?_)
          obtain ⟨hT, hF1⟩ := hB
          rw [ht] at hT hF1
          have hF := hF.more hF1 (by decide)
          try dsimp only at hw45
          have h46 := hw45
          exact W.iret (v := r44) hx hb hr (fun t ht hW => ⟨⟨r44, (), rfl, (by exact trivial), by (try dsimp only); rw [ht]; exact ⟨hT, hF⟩⟩, hS.F ht⟩) hS.2.2 dX12_sky_69
        · have t47 : p1.toInt = 1 := ti_eq c42 rfl (by decide)
          refine lv_aload_n hx hb dX12_sky_56 rfl (lv_at hl 0 rfl) ?_
          refine lv_iload_n hx hb dX12_sky_57 rfl (lv_at hl 1 rfl) ?_
          have hFc := gA_free hG hA hS
          refine va_calli (va_runV (As := [.int p0]) (rest := []) ⟨hx, hb, hml, hown, hts⟩ (s_wind l dC dI kA G H q wN wH wB wC wL wK PI o0 p0 hT hr_o0 (by omega) (by omega) (by omega) (by omega)) (cwV 1 hts (goodIn_app (goodIn_r _ [25, 26, 27, 6] (by decide +kernel) (by decide +kernel)) (goodIn_ca (goodIn_r _ [20, 12, 13, 14, 15, 16, 6, 21, 22, 23, 24] (by decide +kernel) (by decide +kernel)) (bs_in _ _))) rfl rfl rfl (by decide +kernel) ⟨(Nat.le_of_ble_eq_true rfl), (Nat.le_of_ble_eq_true rfl)⟩) ⟨fun a U g mk q => by obtain ⟨q0, q1, qK, qE⟩ := q; exact ⟨q0, q1, va_K.moved (u := U) (U := U.calling g mk a) (Vm.Alike.refl U.vm) qK, EV.blind g mk a qE⟩, gH_recv hK hT hr_o0 shm_0 rfl, fun U hU hW => ⟨rfl, hU, va_K.moved hW.alike hK, hE.call hS hFc hU hW⟩⟩ rfl rfl hl.1 rfl (lv_room (Nat.le_of_ble_eq_true rfl)) dX12_sky_58 ⟨(Nat.le_of_ble_eq_true rfl), (Nat.le_of_ble_eq_true rfl)⟩) hS (fun q _ h => hFc q h) hFc (fun r48 u t H locs ht hvm hw49 hB _ _ hS => ?_)
          obtain ⟨hT, hF1⟩ := hB
          rw [ht] at hT hF1
          have hF := hF.more hF1 (by decide)
          try dsimp only at hw49
          refine lv_goto (tgt := 69) hx hb dX12_sky_61 (by decide) ?_
          exact W.iret (v := r48) hx hb hr (fun t ht hW => ⟨⟨r48, (), rfl, (by exact trivial), by (try dsimp only); rw [ht]; exact ⟨hT, hF⟩⟩, hS.F ht⟩) hS.2.2 dX12_sky_69
      · have t50 : p1.toInt = 0 := ti_eq c40 rfl (by decide)
        refine lv_aload_n hx hb dX12_sky_43 rfl (lv_at hl 0 rfl) ?_
        refine lv_iload_n hx hb dX12_sky_44 rfl (lv_at hl 1 rfl) ?_
        have hFc := gA_free hG hA hS
        refine va_calli (va_runV (As := [.int p0]) (rest := []) ⟨hx, hb, hml, hown, hts⟩ (s_outside l dC dI kA G H q wN wH wB wC wL wK PI o0 p0 hT hr_o0 (rg_t (a := p0.toInt) rfl (by have q8 := ti_all p0; omega) (by have q8 := ti_all p0; omega)) (by omega) (by omega) (by omega) (by omega)) (cwV 1 hts (goodIn_app (goodIn_r _ [29, 30, 31, 6] (by decide +kernel) (by decide +kernel)) (goodIn_ca (goodIn_r _ [28, 13, 3, 4, 5, 6] (by decide +kernel) (by decide +kernel)) (bs_in _ _))) rfl rfl rfl (by decide +kernel) ⟨(Nat.le_of_ble_eq_true rfl), (Nat.le_of_ble_eq_true rfl)⟩) ⟨fun a U g mk q => by obtain ⟨q0, q1, qK, qE⟩ := q; exact ⟨q0, q1, va_K.moved (u := U) (U := U.calling g mk a) (Vm.Alike.refl U.vm) qK, EV.blind g mk a qE⟩, gH_recv hK hT hr_o0 shm_0 rfl, fun U hU hW => ⟨rfl, hU, va_K.moved hW.alike hK, hE.call hS hFc hU hW⟩⟩ rfl rfl hl.1 rfl (lv_room (Nat.le_of_ble_eq_true rfl)) dX12_sky_45 ⟨(Nat.le_of_ble_eq_true rfl), (Nat.le_of_ble_eq_true rfl)⟩) hS (fun q _ h => hFc q h) hFc (fun r51 u t H locs ht hvm hw52 hB _ _ hS => ?_)
        obtain ⟨hT, hF1⟩ := hB
        rw [ht] at hT hF1
        have hF := hF.more hF1 (by decide)
        try dsimp only at hw52
        refine lv_goto (tgt := 69) hx hb dX12_sky_48 (by decide) ?_
        exact W.iret (v := r51) hx hb hr (fun t ht hW => ⟨⟨r51, (), rfl, (by exact trivial), by (try dsimp only); rw [ht]; exact ⟨hT, hF⟩⟩, hS.F ht⟩) hS.2.2 dX12_sky_69
    · have t53 : r23.toInt = 0 := ti_eq c29 rfl (by decide)
      have t54 : (0 : Int32).toInt = 0 := by decide
      have t55 : (2 : Int32).toInt = 2 := by decide
      have t56 : p1.toInt < (0 : Int32).toInt ∨ (2 : Int32).toInt < p1.toInt := hi28 c29
      refine lv_iconst (v := 1) hx hb dX12_sky_25 (by decide) ?_
      refine lv_goto (tgt := 30) hx hb dX12_sky_26 (by decide) ?_
      refine lv_iconst (v := 1) hx hb dX12_sky_30 (by decide) ?_
      have hFc := gA_free hG hA hS
      refine va_calli (va_runV (As := [.int 1, .int 1]) (rest := []) ⟨hx, hb, hml, hown, hts⟩ (s_throwsIf l dC dI kA G H q wN wH wB wC wL wK PI o0 1 1 hT hr_o0 (rg_t (a := 1) (by decide) (by omega) (by omega)) (by omega) (by omega) (by omega) (by omega)) (cwV 2 hts (goodIn_app (goodIn_r _ [8, 9, 10, 6] (by decide +kernel) (by decide +kernel)) (goodIn_ca (goodIn_r _ [7, 1] (by decide +kernel) (by decide +kernel)) (bs_in _ _))) rfl rfl rfl (by decide +kernel) ⟨(Nat.le_of_ble_eq_true rfl), (Nat.le_of_ble_eq_true rfl)⟩) ⟨fun a U g mk q => by obtain ⟨q0, q1, qK, qE⟩ := q; exact ⟨q0, q1, va_K.moved (u := U) (U := U.calling g mk a) (Vm.Alike.refl U.vm) qK, EV.blind g mk a qE⟩, gH_recv hK hT hr_o0 shm_0 rfl, fun U hU hW => ⟨rfl, hU, va_K.moved hW.alike hK, hE.call hS hFc hU hW⟩⟩ rfl rfl hl.1 rfl (lv_room (Nat.le_of_ble_eq_true rfl)) dX12_sky_31 ⟨(Nat.le_of_ble_eq_true rfl), (Nat.le_of_ble_eq_true rfl)⟩) hS (fun q _ h => hFc q h) hFc (fun r57 u t H locs ht hvm hw58 hB _ _ hS => ?_)
      obtain ⟨hT, hF1⟩ := hB
      rw [ht] at hT hF1
      have hF := hF.more hF1 (by decide)
      try dsimp only at hw58
      obtain ⟨h60, hd61⟩ := hw58
      obtain rfl : (1 : Int32) = r57 := hd61.symm
      refine lv_if_eq (tgt := 39) hx hb dX12_sky_34 (by decide) (fun c62 => absurd c62 (by decide)) (fun c62 => ?_)
      refine lv_iconst (v := 0) hx hb dX12_sky_37 (by decide) ?_
      exact W.iret (v := 0) hx hb hr (fun t ht hW => ⟨⟨0, (), rfl, (by exact trivial), by (try dsimp only); rw [ht]; exact ⟨hT, hF⟩⟩, hS.F ht⟩) hS.2.2 dX12_sky_38
