def w_s_isLand : List Cond := .code yX12_isLand cX12_isLand 2 (some .boolean) :: (HAppend.hAppend (α := List Cond) (β := List Cond) (γ := List Cond) [.fieldLink RX12 9 "SeaLandModel" "world" "[I"] bs)
set_option maxHeartbeats 4000000 in
set_option maxRecDepth 100000 in
theorem s_isLand (l : Launch) (dC : Nat → ClassId) (dI : Nat → Nat → Nat) (kA : Nat → ClassId) (adK adV : Nat → Nat) (G : gT) (H0 : Heap) (q : Nat → Nat) (wZ wN : Nat → Int) (wH wB wC : Int) (wL wK : Nat → Prop) (wU wV : Nat → Nat) (PI : Nat → Int → Prop) (im : Int) (PM PT : Nat → Int → Prop) (lS lB lE : Nat → Nat → Int → Prop) (lN : Nat → Int) (o0 : Nat) (sq : Int32)  (hT : gH (dC, dI) kA (SHm q (wP wZ wN wH wB wC wL wK wU wV) PI im PM PT lS lB lE lN) G H0) (hr_o0 : G o0 = some 0) (hq0 : 0 ≤ sq.toInt ∧ sq.toInt ≤ 95) (hgz : ∀ i, 0 ≤ wZ i) (hgn : ∀ i, 6500000 ≤ wN i ∧ wN i ≤ 20200000) (hgh : 0 ≤ wH ∧ wH ≤ 40000) (hgb : 0 ≤ wB ∧ wB ≤ 3850000) (hgc : 0 ≤ wC ∧ wC ≤ 30) (hgi : 0 ≤ im ∧ im ≤ 1) (hgu : ∀ a t, G a = some (t + 1) → a = q t) : Met l yX12_isLand w_s_isLand ({ frames := 0, cells := 0, slots := 0, locals := 0 }) (va_Pc [.ref o0, .int sq] (fun U => U.heap = H0 ∧ va_K (dC, dI) vwCl (tyl kA) U ∧ EVS adK adV (gA G H0.size) U U.heap)) (va_Qi (fun (r : Int32) (u : Unit) => (0 ≤ r.toInt ∧ r.toInt ≤ 1) ∧ (r = 1 → wL sq.toNatClampNeg) ∧ (r = 0 → ¬ wL sq.toNatClampNeg)) (fun (_ : Unit) (t : State) => gH (dC, dI) kA (SHm q (wP wZ wN wH wB wC wL wK wU wV) PI im PM PT lS lB lE lN) G t.heap ∧ gF (dC, dI) SKm G ([] : List (Nat × Nat)) H0 t.heap) (gA G H0.size)) 0 0 (gA G H0.size) := by
  refine Met.ofW (cc := cX12_isLand) (maxL := 2) (ret := (some .boolean)) (by decide) rfl ?_
  intro p e s m args below meth c s₁ B hml hv
  obtain ⟨rfl, hH0, hK, hE⟩ := hv
  have hx := B.exec
  have hb := B.bytes
  have hr := B.returns
  have hts := atoms_spec (ws := w_s_isLand) B.pre
  have hown : s.vm.findClass RX12 = some m.cls := findClass_of_methodNamed B.named
  have hlocks := B.notSynchronized
  subst hH0
  generalize hAe : gA G s.heap.size = A at hE ⊢
  have hA : ∀ q : Nat, s.heap.size ≤ q → A q := fun q h => by rw [← hAe]; exact Or.inr h
  have hG := gA_of hAe
  have hS : va_S A s.heap s.heap [] := va_S.rf
  have hF : gF (dC, dI) SKm G ([] : List (Nat × Nat)) s.heap s.heap := gF.rf
  have hl := lv_entry ([.ref o0, .int sq]) (n := 2) (Nat.le_of_ble_eq_true rfl)
  rw [lg_entry_eq]
  generalize (lg_sl ([.ref o0, .int sq]) ++ List.replicate (2 - (lg_sl ([.ref o0, .int sq])).length) Slot.unset).toArray = ls at hl ⊢
  have hl : lv_has ls 2 [(0, .ref o0), (1, .int sq)] := hl
  refine lv_aload_n hx hb dX12_isLand_0 rfl (lv_at hl 0 rfl) ?_
  refine tw_get hx hb hts bF_X12 hown hK hT hr_o0 shm_0 rfl 1 (by decide) (ht_at hts 0 rfl) (fun _ h9 => h9) dX12_isLand_1 (fun v9 m1 h9 => ?_)
  obtain ⟨rfl, hg2⟩ := h9 _ rfl
  refine lv_iconst (v := 0) hx hb dX12_isLand_4 (by decide) ?_
  refine lv_iload_n hx hb dX12_isLand_5 rfl (lv_at hl 1 rfl) ?_
  refine lv_iadd hx hb dX12_isLand_6 ?_
  refine lv_topi (fun x3 ex3 => ?_)
  have t4 : x3.toInt = 0 + sq.toInt := ti_add ex3 (by decide) rfl (by omega) (by omega)
  refine tw_iald (i := x3) hx hb hK hT hg2 shm_2 rfl (vin_t (a := x3.toInt) rfl (by omega) (by omega)) dX12_isLand_7 (fun v9 m5 h9 => ?_)
  obtain ⟨x6, rfl, gx6, kx6⟩ := (gp_at h9 (w_fre (by have q9 := tn_of (show x3.toInt = x3.toInt from rfl) (show (0 : Int) ≤ x3.toInt from by omega); omega)))
  refine lv_iconst (v := 1) hx hb dX12_isLand_8 (by decide) ?_
  refine lv_icmp_ne (tgt := 16) hx hb dX12_isLand_9 (by decide) (fun c7 => ?_) (fun c7 => ?_)
  · have t8 : x6.toInt ≠ 1 := ti_ne c7 rfl (by decide)
    refine lv_iconst (v := 0) hx hb dX12_isLand_16 (by decide) ?_
    exact W.zret (v := 0) hx hb hr (by decide) (fun t ht hW => ⟨⟨0, (), rfl, (by exact ⟨(rg_t (a := 0) (by decide) (by first | decide | omega) (by first | decide | omega)), (fun h => absurd h (by decide)), (fun _ => (fun z9 => absurd ((wL_of hT hg2 (show x3.toInt = sq.toInt from by have q9 := (show x3.toInt = x3.toInt from rfl); omega) (by omega) (by omega) m5).mp z9) (by have q7 := (show x6.toInt = x6.toInt from rfl); omega)))⟩), by (try dsimp only); rw [ht]; exact ⟨hT, hF⟩⟩, hS.F ht⟩) hS.2.2 dX12_isLand_17
  · have t9 : x6.toInt = 1 := ti_eq c7 rfl (by decide)
    refine lv_iconst (v := 1) hx hb dX12_isLand_12 (by decide) ?_
    refine lv_goto (tgt := 17) hx hb dX12_isLand_13 (by decide) ?_
    exact W.zret (v := 1) hx hb hr (by decide) (fun t ht hW => ⟨⟨1, (), rfl, (by exact ⟨(rg_t (a := 1) (by decide) (by first | decide | omega) (by first | decide | omega)), (fun _ => ((wL_of hT hg2 (show x3.toInt = sq.toInt from by have q9 := (show x3.toInt = x3.toInt from rfl); omega) (by omega) (by omega) m5).mpr (by have q7 := (show x6.toInt = x6.toInt from rfl); omega))), (fun h => absurd h (by decide))⟩), by (try dsimp only); rw [ht]; exact ⟨hT, hF⟩⟩, hS.F ht⟩) hS.2.2 dX12_isLand_17
def w_s_steps : List Cond := .code yX12_steps cX12_steps 2 (some .int) :: (HAppend.hAppend (α := List Cond) (β := List Cond) (γ := List Cond) [.methodLink RX12 201 Lib.Math.abs.name, .static Lib.Math.abs.name, .initialized "java/lang/Math", .code Lib.Math.abs.name Lib.Math.abs.code 1 (some .int)] bs)
set_option maxHeartbeats 4000000 in
set_option maxRecDepth 100000 in
theorem s_steps (l : Launch) (dC : Nat → ClassId) (dI : Nat → Nat → Nat) (kA : Nat → ClassId) (adK adV : Nat → Nat) (G : gT) (H0 : Heap) (q : Nat → Nat) (wZ wN : Nat → Int) (wH wB wC : Int) (wL wK : Nat → Prop) (wU wV : Nat → Nat) (PI : Nat → Int → Prop) (im : Int) (PM PT : Nat → Int → Prop) (lS lB lE : Nat → Nat → Int → Prop) (lN : Nat → Int) (a1 : Int32) (a2 : Int32)  (hT : gH (dC, dI) kA (SHm q (wP wZ wN wH wB wC wL wK wU wV) PI im PM PT lS lB lE lN) G H0) (hgz : ∀ i, 0 ≤ wZ i) (hgn : ∀ i, 6500000 ≤ wN i ∧ wN i ≤ 20200000) (hgh : 0 ≤ wH ∧ wH ≤ 40000) (hgb : 0 ≤ wB ∧ wB ≤ 3850000) (hgc : 0 ≤ wC ∧ wC ≤ 30) (hgi : 0 ≤ im ∧ im ≤ 1) (hgu : ∀ a t, G a = some (t + 1) → a = q t) : Met l yX12_steps w_s_steps ({ frames := 1, cells := 0, slots := 0, locals := 40 }) (va_Pc [.int a1, .int a2] (fun U => U.heap = H0 ∧ va_K (dC, dI) vwCl (tyl kA) U ∧ EVS adK adV (gA G H0.size) U U.heap)) (va_Qi (fun (r : Int32) (u : Unit) => True) (fun (_ : Unit) (t : State) => gH (dC, dI) kA (SHm q (wP wZ wN wH wB wC wL wK wU wV) PI im PM PT lS lB lE lN) G t.heap ∧ gF (dC, dI) SKm G ([] : List (Nat × Nat)) H0 t.heap) (gA G H0.size)) 0 0 (gA G H0.size) := by
  refine Met.ofW (cc := cX12_steps) (maxL := 2) (ret := (some .int)) (by decide) rfl ?_
  intro p e s m args below meth c s₁ B hml hv
  obtain ⟨rfl, hH0, hK, hE⟩ := hv
  have hx := B.exec
  have hb := B.bytes
  have hr := B.returns
  have hts := atoms_spec (ws := w_s_steps) B.pre
  have hown : s.vm.findClass RX12 = some m.cls := findClass_of_methodNamed B.named
  have hlocks := B.notSynchronized
  subst hH0
  generalize hAe : gA G s.heap.size = A at hE ⊢
  have hA : ∀ q : Nat, s.heap.size ≤ q → A q := fun q h => by rw [← hAe]; exact Or.inr h
  have hG := gA_of hAe
  have hS : va_S A s.heap s.heap [] := va_S.rf
  have hF : gF (dC, dI) SKm G ([] : List (Nat × Nat)) s.heap s.heap := gF.rf
  have hl := lv_entry ([.int a1, .int a2]) (n := 2) (Nat.le_of_ble_eq_true rfl)
  rw [lg_entry_eq]
  generalize (lg_sl ([.int a1, .int a2]) ++ List.replicate (2 - (lg_sl ([.int a1, .int a2])).length) Slot.unset).toArray = ls at hl ⊢
  have hl : lv_has ls 2 [(0, .int a1), (1, .int a2)] := hl
  refine lv_iload_n hx hb dX12_steps_0 rfl (lv_at hl 0 rfl) ?_
  refine lv_bipush (v := 12) hx hb dX12_steps_1 (by decide) ?_
  refine lv_irem hx hb dX12_steps_3 (by decide) ?_
  refine lv_topi (fun x1 ex1 => ?_)
  refine lv_iload_n hx hb dX12_steps_4 rfl (lv_at hl 1 rfl) ?_
  refine lv_bipush (v := 12) hx hb dX12_steps_5 (by decide) ?_
  refine lv_irem hx hb dX12_steps_7 (by decide) ?_
  refine lv_topi (fun x2 ex2 => ?_)
  refine lv_isub hx hb dX12_steps_8 ?_
  refine lv_topi (fun x3 ex3 => ?_)
  refine va_mabs hx hb (hml.trans hl.1.symm) hown (ht_at hts 0 rfl) (ht_at hts 1 rfl) (ht_at hts 2 rfl) (ht_at hts 3 rfl) (Nat.le_of_ble_eq_true rfl) (Nat.le_of_ble_eq_true rfl) (Nat.le_of_ble_eq_true rfl) (Nat.le_of_ble_eq_true rfl) dX12_steps_9 ?_
  refine lv_topi (fun x4 ex4 => ?_)
  refine lv_iload_n hx hb dX12_steps_12 rfl (lv_at hl 0 rfl) ?_
  refine lv_bipush (v := 12) hx hb dX12_steps_13 (by decide) ?_
  have t5 : -2147483648 ≤ a1.toInt ∧ a1.toInt ≤ 2147483647 := ti_all a1
  refine lv_idiv hx hb dX12_steps_15 (by decide) ?_
  refine lv_topi (fun x6 ex6 => ?_)
  have t7 : (0 ≤ a1.toInt ∧ x6.toInt = a1.toInt / 12) ∨ (a1.toInt < 0 ∧ x6.toInt = -((-a1.toInt) / 12)) := ti_divs ex6 rfl (by decide) (by decide)
  refine lv_iload_n hx hb dX12_steps_16 rfl (lv_at hl 1 rfl) ?_
  refine lv_bipush (v := 12) hx hb dX12_steps_17 (by decide) ?_
  have t8 : -2147483648 ≤ a2.toInt ∧ a2.toInt ≤ 2147483647 := ti_all a2
  refine lv_idiv hx hb dX12_steps_19 (by decide) ?_
  refine lv_topi (fun x9 ex9 => ?_)
  have t10 : (0 ≤ a2.toInt ∧ x9.toInt = a2.toInt / 12) ∨ (a2.toInt < 0 ∧ x9.toInt = -((-a2.toInt) / 12)) := ti_divs ex9 rfl (by decide) (by decide)
  refine lv_isub hx hb dX12_steps_20 ?_
  refine lv_topi (fun x11 ex11 => ?_)
  have t12 : x11.toInt = x6.toInt - x9.toInt := ti_sub ex11 rfl rfl (by omega) (by omega)
  refine va_mabs hx hb (hml.trans hl.1.symm) hown (ht_at hts 0 rfl) (ht_at hts 1 rfl) (ht_at hts 2 rfl) (ht_at hts 3 rfl) (Nat.le_of_ble_eq_true rfl) (Nat.le_of_ble_eq_true rfl) (Nat.le_of_ble_eq_true rfl) (Nat.le_of_ble_eq_true rfl) dX12_steps_21 ?_
  refine lv_topi (fun x13 ex13 => ?_)
  have t14 : (0 ≤ x11.toInt ∧ x13.toInt = x11.toInt) ∨ (x11.toInt < 0 ∧ x13.toInt = -x11.toInt) := ab_f ex13 rfl (by omega) (by omega)
  refine lv_iadd hx hb dX12_steps_24 ?_
  refine lv_topi (fun x15 ex15 => ?_)
  exact W.iret (v := x15) hx hb hr (fun t ht hW => ⟨⟨x15, (), rfl, (by exact trivial), by (try dsimp only); rw [ht]; exact ⟨hT, hF⟩⟩, hS.F ht⟩) hS.2.2 dX12_steps_25
def w_s_stepsD : List Cond := .code yX12_steps cX12_steps 2 (some .int) :: (HAppend.hAppend (α := List Cond) (β := List Cond) (γ := List Cond) [.methodLink RX12 201 Lib.Math.abs.name, .static Lib.Math.abs.name, .initialized "java/lang/Math", .code Lib.Math.abs.name Lib.Math.abs.code 1 (some .int)] bs)
set_option maxHeartbeats 4000000 in
set_option maxRecDepth 100000 in
theorem s_stepsD (l : Launch) (dC : Nat → ClassId) (dI : Nat → Nat → Nat) (kA : Nat → ClassId) (adK adV : Nat → Nat) (G : gT) (H0 : Heap) (q : Nat → Nat) (wZ wN : Nat → Int) (wH wB wC : Int) (wL wK : Nat → Prop) (wU wV : Nat → Nat) (PI : Nat → Int → Prop) (im : Int) (PM PT : Nat → Int → Prop) (lS lB lE : Nat → Nat → Int → Prop) (lN : Nat → Int) (a1 : Int32) (a2 : Int32)  (hT : gH (dC, dI) kA (SHm q (wP wZ wN wH wB wC wL wK wU wV) PI im PM PT lS lB lE lN) G H0) (hq0 : 0 ≤ a1.toInt ∧ a1.toInt ≤ 95) (hq1 : 0 ≤ a2.toInt ∧ a2.toInt ≤ 95) (hgz : ∀ i, 0 ≤ wZ i) (hgn : ∀ i, 6500000 ≤ wN i ∧ wN i ≤ 20200000) (hgh : 0 ≤ wH ∧ wH ≤ 40000) (hgb : 0 ≤ wB ∧ wB ≤ 3850000) (hgc : 0 ≤ wC ∧ wC ≤ 30) (hgi : 0 ≤ im ∧ im ≤ 1) (hgu : ∀ a t, G a = some (t + 1) → a = q t) : Met l yX12_steps w_s_stepsD ({ frames := 1, cells := 0, slots := 0, locals := 40 }) (va_Pc [.int a1, .int a2] (fun U => U.heap = H0 ∧ va_K (dC, dI) vwCl (tyl kA) U ∧ EVS adK adV (gA G H0.size) U U.heap)) (va_Qi (fun (r : Int32) (u : Unit) => (0 ≤ r.toInt ∧ r.toInt ≤ 18) ∧ (r.toInt = 1 → (a2.toInt + 12 = a1.toInt ∨ a2.toInt + 1 = a1.toInt ∨ a1.toInt + 1 = a2.toInt ∨ a1.toInt + 12 = a2.toInt))) (fun (_ : Unit) (t : State) => gH (dC, dI) kA (SHm q (wP wZ wN wH wB wC wL wK wU wV) PI im PM PT lS lB lE lN) G t.heap ∧ gF (dC, dI) SKm G ([] : List (Nat × Nat)) H0 t.heap) (gA G H0.size)) 0 0 (gA G H0.size) := by
  refine Met.ofW (cc := cX12_steps) (maxL := 2) (ret := (some .int)) (by decide) rfl ?_
  intro p e s m args below meth c s₁ B hml hv
  obtain ⟨rfl, hH0, hK, hE⟩ := hv
  have hx := B.exec
  have hb := B.bytes
  have hr := B.returns
  have hts := atoms_spec (ws := w_s_stepsD) B.pre
  have hown : s.vm.findClass RX12 = some m.cls := findClass_of_methodNamed B.named
  have hlocks := B.notSynchronized
  subst hH0
  generalize hAe : gA G s.heap.size = A at hE ⊢
  have hA : ∀ q : Nat, s.heap.size ≤ q → A q := fun q h => by rw [← hAe]; exact Or.inr h
  have hG := gA_of hAe
  have hS : va_S A s.heap s.heap [] := va_S.rf
  have hF : gF (dC, dI) SKm G ([] : List (Nat × Nat)) s.heap s.heap := gF.rf
  have hl := lv_entry ([.int a1, .int a2]) (n := 2) (Nat.le_of_ble_eq_true rfl)
  rw [lg_entry_eq]
  generalize (lg_sl ([.int a1, .int a2]) ++ List.replicate (2 - (lg_sl ([.int a1, .int a2])).length) Slot.unset).toArray = ls at hl ⊢
  have hl : lv_has ls 2 [(0, .int a1), (1, .int a2)] := hl
  refine lv_iload_n hx hb dX12_steps_0 rfl (lv_at hl 0 rfl) ?_
  refine lv_bipush (v := 12) hx hb dX12_steps_1 (by decide) ?_
  refine lv_irem hx hb dX12_steps_3 (by decide) ?_
  refine lv_topi (fun x1 ex1 => ?_)
  have t2 : x1.toInt = a1.toInt % 12 := ti_rem ex1 rfl (by decide) (by omega) (by omega)
  refine lv_iload_n hx hb dX12_steps_4 rfl (lv_at hl 1 rfl) ?_
  refine lv_bipush (v := 12) hx hb dX12_steps_5 (by decide) ?_
  refine lv_irem hx hb dX12_steps_7 (by decide) ?_
  refine lv_topi (fun x3 ex3 => ?_)
  have t4 : x3.toInt = a2.toInt % 12 := ti_rem ex3 rfl (by decide) (by omega) (by omega)
  refine lv_isub hx hb dX12_steps_8 ?_
  refine lv_topi (fun x5 ex5 => ?_)
  have t6 : x5.toInt = x1.toInt - x3.toInt := ti_sub ex5 rfl rfl (by omega) (by omega)
  refine va_mabs hx hb (hml.trans hl.1.symm) hown (ht_at hts 0 rfl) (ht_at hts 1 rfl) (ht_at hts 2 rfl) (ht_at hts 3 rfl) (Nat.le_of_ble_eq_true rfl) (Nat.le_of_ble_eq_true rfl) (Nat.le_of_ble_eq_true rfl) (Nat.le_of_ble_eq_true rfl) dX12_steps_9 ?_
  refine lv_topi (fun x7 ex7 => ?_)
  have t8 : (0 ≤ x5.toInt ∧ x7.toInt = x5.toInt) ∨ (x5.toInt < 0 ∧ x7.toInt = -x5.toInt) := ab_f ex7 rfl (by omega) (by omega)
  refine lv_iload_n hx hb dX12_steps_12 rfl (lv_at hl 0 rfl) ?_
  refine lv_bipush (v := 12) hx hb dX12_steps_13 (by decide) ?_
  refine lv_idiv hx hb dX12_steps_15 (by decide) ?_
  refine lv_topi (fun x9 ex9 => ?_)
  have t10 : x9.toInt = a1.toInt / 12 := ti_div ex9 rfl (by decide) (by omega) (by omega)
  refine lv_iload_n hx hb dX12_steps_16 rfl (lv_at hl 1 rfl) ?_
  refine lv_bipush (v := 12) hx hb dX12_steps_17 (by decide) ?_
  refine lv_idiv hx hb dX12_steps_19 (by decide) ?_
  refine lv_topi (fun x11 ex11 => ?_)
  have t12 : x11.toInt = a2.toInt / 12 := ti_div ex11 rfl (by decide) (by omega) (by omega)
  refine lv_isub hx hb dX12_steps_20 ?_
  refine lv_topi (fun x13 ex13 => ?_)
  have t14 : x13.toInt = x9.toInt - x11.toInt := ti_sub ex13 rfl rfl (by omega) (by omega)
  refine va_mabs hx hb (hml.trans hl.1.symm) hown (ht_at hts 0 rfl) (ht_at hts 1 rfl) (ht_at hts 2 rfl) (ht_at hts 3 rfl) (Nat.le_of_ble_eq_true rfl) (Nat.le_of_ble_eq_true rfl) (Nat.le_of_ble_eq_true rfl) (Nat.le_of_ble_eq_true rfl) dX12_steps_21 ?_
  refine lv_topi (fun x15 ex15 => ?_)
  have t16 : (0 ≤ x13.toInt ∧ x15.toInt = x13.toInt) ∨ (x13.toInt < 0 ∧ x15.toInt = -x13.toInt) := ab_f ex15 rfl (by omega) (by omega)
  refine lv_iadd hx hb dX12_steps_24 ?_
  refine lv_topi (fun x17 ex17 => ?_)
  have t18 : x17.toInt = x7.toInt + x15.toInt := ti_add ex17 rfl rfl (by omega) (by omega)
  exact W.iret (v := x17) hx hb hr (fun t ht hW => ⟨⟨x17, (), rfl, (by exact ⟨(by have q8 := ti_all x17; omega), (by omega)⟩), by (try dsimp only); rw [ht]; exact ⟨hT, hF⟩⟩, hS.F ht⟩) hS.2.2 dX12_steps_25
def w_s_beside : List Cond := .code yX12_beside cX12_beside 2 (some .int) :: (HAppend.hAppend (α := List Cond) (β := List Cond) (γ := List Cond) [] bs)
set_option maxHeartbeats 4000000 in
set_option maxRecDepth 100000 in
theorem s_beside (l : Launch) (dC : Nat → ClassId) (dI : Nat → Nat → Nat) (kA : Nat → ClassId) (adK adV : Nat → Nat) (G : gT) (H0 : Heap) (q : Nat → Nat) (wZ wN : Nat → Int) (wH wB wC : Int) (wL wK : Nat → Prop) (wU wV : Nat → Nat) (PI : Nat → Int → Prop) (im : Int) (PM PT : Nat → Int → Prop) (lS lB lE : Nat → Nat → Int → Prop) (lN : Nat → Int) (sq : Int32) (wy : Int32)  (hT : gH (dC, dI) kA (SHm q (wP wZ wN wH wB wC wL wK wU wV) PI im PM PT lS lB lE lN) G H0) (hq0 : 0 ≤ sq.toInt ∧ sq.toInt ≤ 95) (hgz : ∀ i, 0 ≤ wZ i) (hgn : ∀ i, 6500000 ≤ wN i ∧ wN i ≤ 20200000) (hgh : 0 ≤ wH ∧ wH ≤ 40000) (hgb : 0 ≤ wB ∧ wB ≤ 3850000) (hgc : 0 ≤ wC ∧ wC ≤ 30) (hgi : 0 ≤ im ∧ im ≤ 1) (hgu : ∀ a t, G a = some (t + 1) → a = q t) : Met l yX12_beside w_s_beside ({ frames := 0, cells := 0, slots := 0, locals := 0 }) (va_Pc [.int sq, .int wy] (fun U => U.heap = H0 ∧ va_K (dC, dI) vwCl (tyl kA) U ∧ EVS adK adV (gA G H0.size) U U.heap)) (va_Qi (fun (r : Int32) (u : Unit) => (-1 ≤ r.toInt ∧ r.toInt ≤ 95) ∧ ((r.toInt = -1 ∨ (0 ≤ r.toInt ∧ r.toInt ≤ 95 ∧ (r.toInt + 12 = sq.toInt ∨ r.toInt + 1 = sq.toInt ∨ sq.toInt + 1 = r.toInt ∨ sq.toInt + 12 = r.toInt))))) (fun (_ : Unit) (t : State) => gH (dC, dI) kA (SHm q (wP wZ wN wH wB wC wL wK wU wV) PI im PM PT lS lB lE lN) G t.heap ∧ gF (dC, dI) SKm G ([] : List (Nat × Nat)) H0 t.heap) (gA G H0.size)) 0 0 (gA G H0.size) := by
  refine Met.ofW (cc := cX12_beside) (maxL := 2) (ret := (some .int)) (by decide) rfl ?_
  intro p e s m args below meth c s₁ B hml hv
  obtain ⟨rfl, hH0, hK, hE⟩ := hv
  have hx := B.exec
  have hb := B.bytes
  have hr := B.returns
  have hts := atoms_spec (ws := w_s_beside) B.pre
  have hown : s.vm.findClass RX12 = some m.cls := findClass_of_methodNamed B.named
  have hlocks := B.notSynchronized
  subst hH0
  generalize hAe : gA G s.heap.size = A at hE ⊢
  have hA : ∀ q : Nat, s.heap.size ≤ q → A q := fun q h => by rw [← hAe]; exact Or.inr h
  have hG := gA_of hAe
  have hS : va_S A s.heap s.heap [] := va_S.rf
  have hF : gF (dC, dI) SKm G ([] : List (Nat × Nat)) s.heap s.heap := gF.rf
  have hl := lv_entry ([.int sq, .int wy]) (n := 2) (Nat.le_of_ble_eq_true rfl)
  rw [lg_entry_eq]
  generalize (lg_sl ([.int sq, .int wy]) ++ List.replicate (2 - (lg_sl ([.int sq, .int wy])).length) Slot.unset).toArray = ls at hl ⊢
  have hl : lv_has ls 2 [(0, .int sq), (1, .int wy)] := hl
  refine lv_iload_n hx hb dX12_beside_0 rfl (lv_at hl 1 rfl) ?_
  by_cases hs1 : wy = 0
  · subst hs1
    refine lv_tableIn (x := 0) (off := 27) (tgt := 28) hx hb dX12_beside_1 (by decide) (by decide) (by decide) (by decide) ?_
    refine lv_iload_n hx hb dX12_beside_28 rfl (lv_at hl 0 rfl) ?_
    refine lv_bipush (v := 12) hx hb dX12_beside_29 (by decide) ?_
    refine lv_icmp_lt (tgt := 41) hx hb dX12_beside_31 (by decide) (fun c2 => ?_) (fun c2 => ?_)
    · have t3 : sq.toInt < 12 := ti_lt c2 rfl (by decide)
      refine lv_iconst (v := (-1)) hx hb dX12_beside_41 (by decide) ?_
      exact W.iret (v := (-1)) hx hb hr (fun t ht hW => ⟨⟨(-1), (), rfl, (by exact ⟨(rg_t (a := (-1)) (by decide) (by first | decide | omega) (by first | decide | omega)), (by have : (-1 : Int32).toInt = (-1) := (by decide); omega)⟩), by (try dsimp only); rw [ht]; exact ⟨hT, hF⟩⟩, hS.F ht⟩) hS.2.2 dX12_beside_42
    · have t4 : 12 ≤ sq.toInt := ti_nlt c2 rfl (by decide)
      refine lv_iload_n hx hb dX12_beside_34 rfl (lv_at hl 0 rfl) ?_
      refine lv_bipush (v := 12) hx hb dX12_beside_35 (by decide) ?_
      refine lv_isub hx hb dX12_beside_37 ?_
      refine lv_topi (fun x5 ex5 => ?_)
      have t6 : x5.toInt = sq.toInt - 12 := ti_sub ex5 rfl (by decide) (by omega) (by omega)
      refine lv_goto (tgt := 42) hx hb dX12_beside_38 (by decide) ?_
      exact W.iret (v := x5) hx hb hr (fun t ht hW => ⟨⟨x5, (), rfl, (by exact ⟨(by have q8 := ti_all x5; omega), (by omega)⟩), by (try dsimp only); rw [ht]; exact ⟨hT, hF⟩⟩, hS.F ht⟩) hS.2.2 dX12_beside_42
  by_cases hs7 : wy = 1
  · subst hs7
    refine lv_tableIn (x := 1) (off := 42) (tgt := 43) hx hb dX12_beside_1 (by decide) (by decide) (by decide) (by decide) ?_
    refine lv_iload_n hx hb dX12_beside_43 rfl (lv_at hl 0 rfl) ?_
    refine lv_bipush (v := 12) hx hb dX12_beside_44 (by decide) ?_
    refine lv_irem hx hb dX12_beside_46 (by decide) ?_
    refine lv_topi (fun x8 ex8 => ?_)
    have t9 : x8.toInt = sq.toInt % 12 := ti_rem ex8 rfl (by decide) (by omega) (by omega)
    refine lv_if_le (tgt := 56) hx hb dX12_beside_47 (by decide) (fun c10 => ?_) (fun c10 => ?_)
    · have t11 : x8.toInt ≤ 0 := ti_le c10 rfl (by decide)
      refine lv_iconst (v := (-1)) hx hb dX12_beside_56 (by decide) ?_
      exact W.iret (v := (-1)) hx hb hr (fun t ht hW => ⟨⟨(-1), (), rfl, (by exact ⟨(rg_t (a := (-1)) (by decide) (by first | decide | omega) (by first | decide | omega)), (by have : (-1 : Int32).toInt = (-1) := (by decide); omega)⟩), by (try dsimp only); rw [ht]; exact ⟨hT, hF⟩⟩, hS.F ht⟩) hS.2.2 dX12_beside_57
    · have t12 : 0 < x8.toInt := ti_nle c10 rfl (by decide)
      refine lv_iload_n hx hb dX12_beside_50 rfl (lv_at hl 0 rfl) ?_
      refine lv_iconst (v := 1) hx hb dX12_beside_51 (by decide) ?_
      refine lv_isub hx hb dX12_beside_52 ?_
      refine lv_topi (fun x13 ex13 => ?_)
      have t14 : x13.toInt = sq.toInt - 1 := ti_sub ex13 rfl (by decide) (by omega) (by omega)
      refine lv_goto (tgt := 57) hx hb dX12_beside_53 (by decide) ?_
      exact W.iret (v := x13) hx hb hr (fun t ht hW => ⟨⟨x13, (), rfl, (by exact ⟨(by have q8 := ti_all x13; omega), (by omega)⟩), by (try dsimp only); rw [ht]; exact ⟨hT, hF⟩⟩, hS.F ht⟩) hS.2.2 dX12_beside_57
  by_cases hs15 : wy = 2
  · subst hs15
    refine lv_tableIn (x := 2) (off := 57) (tgt := 58) hx hb dX12_beside_1 (by decide) (by decide) (by decide) (by decide) ?_
    refine lv_iload_n hx hb dX12_beside_58 rfl (lv_at hl 0 rfl) ?_
    refine lv_bipush (v := 12) hx hb dX12_beside_59 (by decide) ?_
    refine lv_irem hx hb dX12_beside_61 (by decide) ?_
    refine lv_topi (fun x16 ex16 => ?_)
    have t17 : x16.toInt = sq.toInt % 12 := ti_rem ex16 rfl (by decide) (by omega) (by omega)
    refine lv_bipush (v := 11) hx hb dX12_beside_62 (by decide) ?_
    refine lv_icmp_ge (tgt := 73) hx hb dX12_beside_64 (by decide) (fun c18 => ?_) (fun c18 => ?_)
    · have t19 : 11 ≤ x16.toInt := ti_le c18 (by decide) rfl
      refine lv_iconst (v := (-1)) hx hb dX12_beside_73 (by decide) ?_
      exact W.iret (v := (-1)) hx hb hr (fun t ht hW => ⟨⟨(-1), (), rfl, (by exact ⟨(rg_t (a := (-1)) (by decide) (by first | decide | omega) (by first | decide | omega)), (by have : (-1 : Int32).toInt = (-1) := (by decide); omega)⟩), by (try dsimp only); rw [ht]; exact ⟨hT, hF⟩⟩, hS.F ht⟩) hS.2.2 dX12_beside_74
    · have t20 : x16.toInt < 11 := ti_nle c18 (by decide) rfl
      refine lv_iload_n hx hb dX12_beside_67 rfl (lv_at hl 0 rfl) ?_
      refine lv_iconst (v := 1) hx hb dX12_beside_68 (by decide) ?_
      refine lv_iadd hx hb dX12_beside_69 ?_
      refine lv_topi (fun x21 ex21 => ?_)
      have t22 : x21.toInt = sq.toInt + 1 := ti_add ex21 rfl (by decide) (by omega) (by omega)
      refine lv_goto (tgt := 74) hx hb dX12_beside_70 (by decide) ?_
      exact W.iret (v := x21) hx hb hr (fun t ht hW => ⟨⟨x21, (), rfl, (by exact ⟨(by have q8 := ti_all x21; omega), (by omega)⟩), by (try dsimp only); rw [ht]; exact ⟨hT, hF⟩⟩, hS.F ht⟩) hS.2.2 dX12_beside_74
  have ho23 : wy.toInt < 0 ∨ 2 < wy.toInt := by
    have ehs1 : wy.toInt ≠ 0 := fun e => hs1 (Int32.toInt_inj.mp (e.trans (by decide)))
    have ehs7 : wy.toInt ≠ 1 := fun e => hs7 (Int32.toInt_inj.mp (e.trans (by decide)))
    have ehs15 : wy.toInt ≠ 2 := fun e => hs15 (Int32.toInt_inj.mp (e.trans (by decide)))
    omega
  refine lv_tableOut (tgt := 75) hx hb dX12_beside_1 ho23 (by decide) ?_
  refine lv_iload_n hx hb dX12_beside_75 rfl (lv_at hl 0 rfl) ?_
  refine lv_bipush (v := 84) hx hb dX12_beside_76 (by decide) ?_
  refine lv_icmp_ge (tgt := 88) hx hb dX12_beside_78 (by decide) (fun c24 => ?_) (fun c24 => ?_)
  · have t25 : 84 ≤ sq.toInt := ti_le c24 (by decide) rfl
    refine lv_iconst (v := (-1)) hx hb dX12_beside_88 (by decide) ?_
    exact W.iret (v := (-1)) hx hb hr (fun t ht hW => ⟨⟨(-1), (), rfl, (by exact ⟨(rg_t (a := (-1)) (by decide) (by first | decide | omega) (by first | decide | omega)), (by have : (-1 : Int32).toInt = (-1) := (by decide); omega)⟩), by (try dsimp only); rw [ht]; exact ⟨hT, hF⟩⟩, hS.F ht⟩) hS.2.2 dX12_beside_89
  · have t26 : sq.toInt < 84 := ti_nle c24 (by decide) rfl
    refine lv_iload_n hx hb dX12_beside_81 rfl (lv_at hl 0 rfl) ?_
    refine lv_bipush (v := 12) hx hb dX12_beside_82 (by decide) ?_
    refine lv_iadd hx hb dX12_beside_84 ?_
    refine lv_topi (fun x27 ex27 => ?_)
    have t28 : x27.toInt = sq.toInt + 12 := ti_add ex27 rfl (by decide) (by omega) (by omega)
    refine lv_goto (tgt := 89) hx hb dX12_beside_85 (by decide) ?_
    exact W.iret (v := x27) hx hb hr (fun t ht hW => ⟨⟨x27, (), rfl, (by exact ⟨(by have q8 := ti_all x27; omega), (by omega)⟩), by (try dsimp only); rw [ht]; exact ⟨hT, hF⟩⟩, hS.F ht⟩) hS.2.2 dX12_beside_89
def w_s_isIn : List Cond := .code yX12_isIn cX12_isIn 5 (some .boolean) :: (HAppend.hAppend (α := List Cond) (β := List Cond) (γ := List Cond) [.methodLink RX12 207 Lib.Math.min.name, .static Lib.Math.min.name, .initialized "java/lang/Math", .code Lib.Math.min.name Lib.Math.min.code 2 (some .int), .methodLink RX12 211 Lib.Math.max.name, .static Lib.Math.max.name, .code Lib.Math.max.name Lib.Math.max.code 2 (some .int), .code yX12_in cX12_in 3 (some .boolean), .methodLink RX12 197 yX12_in, .static yX12_in, .initialized RX12] bs)
set_option maxHeartbeats 4000000 in
set_option maxRecDepth 100000 in
theorem s_isIn (l : Launch) (dC : Nat → ClassId) (dI : Nat → Nat → Nat) (kA : Nat → ClassId) (adK adV : Nat → Nat) (G : gT) (H0 : Heap) (q : Nat → Nat) (wZ wN : Nat → Int) (wH wB wC : Int) (wL wK : Nat → Prop) (wU wV : Nat → Nat) (PI : Nat → Int → Prop) (im : Int) (PM PT : Nat → Int → Prop) (lS lB lE : Nat → Nat → Int → Prop) (lN : Nat → Int) (sq : Int32) (a1 : Int32) (a2 : Int32)  (hT : gH (dC, dI) kA (SHm q (wP wZ wN wH wB wC wL wK wU wV) PI im PM PT lS lB lE lN) G H0) (hgz : ∀ i, 0 ≤ wZ i) (hgn : ∀ i, 6500000 ≤ wN i ∧ wN i ≤ 20200000) (hgh : 0 ≤ wH ∧ wH ≤ 40000) (hgb : 0 ≤ wB ∧ wB ≤ 3850000) (hgc : 0 ≤ wC ∧ wC ≤ 30) (hgi : 0 ≤ im ∧ im ≤ 1) (hgu : ∀ a t, G a = some (t + 1) → a = q t) : Met l yX12_isIn w_s_isIn ({ frames := 1, cells := 0, slots := 0, locals := 40 }) (va_Pc [.int sq, .int a1, .int a2] (fun U => U.heap = H0 ∧ va_K (dC, dI) vwCl (tyl kA) U ∧ EVS adK adV (gA G H0.size) U U.heap)) (va_Qi (fun (r : Int32) (u : Unit) => (0 ≤ r.toInt ∧ r.toInt ≤ 1)) (fun (_ : Unit) (t : State) => gH (dC, dI) kA (SHm q (wP wZ wN wH wB wC wL wK wU wV) PI im PM PT lS lB lE lN) G t.heap ∧ gF (dC, dI) SKm G ([] : List (Nat × Nat)) H0 t.heap) (gA G H0.size)) 0 0 (gA G H0.size) := by
  refine Met.ofW (cc := cX12_isIn) (maxL := 5) (ret := (some .boolean)) (by decide) rfl ?_
  intro p e s m args below meth c s₁ B hml hv
  obtain ⟨rfl, hH0, hK, hE⟩ := hv
  have hx := B.exec
  have hb := B.bytes
  have hr := B.returns
  have hts := atoms_spec (ws := w_s_isIn) B.pre
  have hown : s.vm.findClass RX12 = some m.cls := findClass_of_methodNamed B.named
  have hlocks := B.notSynchronized
  subst hH0
  generalize hAe : gA G s.heap.size = A at hE ⊢
  have hA : ∀ q : Nat, s.heap.size ≤ q → A q := fun q h => by rw [← hAe]; exact Or.inr h
  have hG := gA_of hAe
  have hS : va_S A s.heap s.heap [] := va_S.rf
  have hF : gF (dC, dI) SKm G ([] : List (Nat × Nat)) s.heap s.heap := gF.rf
  have hl := lv_entry ([.int sq, .int a1, .int a2]) (n := 5) (Nat.le_of_ble_eq_true rfl)
  rw [lg_entry_eq]
  generalize (lg_sl ([.int sq, .int a1, .int a2]) ++ List.replicate (5 - (lg_sl ([.int sq, .int a1, .int a2])).length) Slot.unset).toArray = ls at hl ⊢
  have hl : lv_has ls 5 [(0, .int sq), (1, .int a1), (2, .int a2)] := hl
  refine lv_iload_n hx hb dX12_isIn_0 rfl (lv_at hl 0 rfl) ?_
  refine lv_bipush (v := 12) hx hb dX12_isIn_1 (by decide) ?_
  refine lv_irem hx hb dX12_isIn_3 (by decide) ?_
  refine lv_topi (fun x1 ex1 => ?_)
  refine lv_istore_n (lv' := [(3, .int x1), (0, .int sq), (1, .int a1), (2, .int a2)]) hx hb dX12_isIn_4 rfl hl (by decide) rfl (fun ls hl => ?_)
  refine lv_iload_n hx hb dX12_isIn_5 rfl (lv_at hl 1 rfl) ?_
  refine lv_bipush (v := 12) hx hb dX12_isIn_6 (by decide) ?_
  have t2 : -2147483648 ≤ sq.toInt ∧ sq.toInt ≤ 2147483647 := ti_all sq
  refine lv_idiv hx hb dX12_isIn_8 (by decide) ?_
  refine lv_topi (fun x3 ex3 => ?_)
  have t4 : (0 ≤ sq.toInt ∧ x3.toInt = sq.toInt / 12) ∨ (sq.toInt < 0 ∧ x3.toInt = -((-sq.toInt) / 12)) := ti_divs ex3 rfl (by decide) (by decide)
  refine lv_istore (lv' := [(4, .int x3), (3, .int x1), (0, .int sq), (1, .int a1), (2, .int a2)]) hx hb dX12_isIn_9 hl (by decide) rfl (fun ls hl => ?_)
  refine lv_iload_n hx hb dX12_isIn_11 rfl (lv_at hl 1 rfl) ?_
  refine lv_iload_n hx hb dX12_isIn_12 rfl (lv_at hl 3 rfl) ?_
  refine lv_bipush (v := 12) hx hb dX12_isIn_13 (by decide) ?_
  refine lv_irem hx hb dX12_isIn_15 (by decide) ?_
  refine lv_topi (fun x5 ex5 => ?_)
  refine lv_iload_n hx hb dX12_isIn_16 rfl (lv_at hl 4 rfl) ?_
  refine lv_bipush (v := 12) hx hb dX12_isIn_17 (by decide) ?_
  refine lv_irem hx hb dX12_isIn_19 (by decide) ?_
  refine lv_topi (fun x6 ex6 => ?_)
  refine va_mmin hx hb (hml.trans hl.1.symm) hown (ht_at hts 0 rfl) (ht_at hts 1 rfl) (ht_at hts 2 rfl) (ht_at hts 3 rfl) (Nat.le_of_ble_eq_true rfl) (Nat.le_of_ble_eq_true rfl) (Nat.le_of_ble_eq_true rfl) (Nat.le_of_ble_eq_true rfl) dX12_isIn_20 ?_
  refine lv_topi (fun x7 ex7 => ?_)
  have t8 : x7.toInt ≤ x5.toInt ∧ x7.toInt ≤ x6.toInt ∧ (x7.toInt = x5.toInt ∨ x7.toInt = x6.toInt) := mn_f ex7 rfl rfl
  refine lv_iload_n hx hb dX12_isIn_23 rfl (lv_at hl 3 rfl) ?_
  refine lv_bipush (v := 12) hx hb dX12_isIn_24 (by decide) ?_
  refine lv_irem hx hb dX12_isIn_26 (by decide) ?_
  refine lv_topi (fun x9 ex9 => ?_)
  refine lv_iload_n hx hb dX12_isIn_27 rfl (lv_at hl 4 rfl) ?_
  refine lv_bipush (v := 12) hx hb dX12_isIn_28 (by decide) ?_
  refine lv_irem hx hb dX12_isIn_30 (by decide) ?_
  refine lv_topi (fun x10 ex10 => ?_)
  refine va_mmax hx hb (hml.trans hl.1.symm) hown (ht_at hts 4 rfl) (ht_at hts 5 rfl) (ht_at hts 2 rfl) (ht_at hts 6 rfl) (Nat.le_of_ble_eq_true rfl) (Nat.le_of_ble_eq_true rfl) (Nat.le_of_ble_eq_true rfl) (Nat.le_of_ble_eq_true rfl) dX12_isIn_31 ?_
  refine lv_topi (fun x11 ex11 => ?_)
  have t12 : x9.toInt ≤ x11.toInt ∧ x10.toInt ≤ x11.toInt ∧ (x11.toInt = x9.toInt ∨ x11.toInt = x10.toInt) := mx_f ex11 rfl rfl
  have hFc := gA_free hG hA hS
  refine va_calli (va_runS (As := [.int x1, .int x7, .int x11]) (rest := []) ⟨hx, hb, hml, hown, hts⟩ (s_in l dC dI kA adK adV G s.heap q wZ wN wH wB wC wL wK wU wV PI im PM PT lS lB lE lN x1 x7 x11 hT hgz hgn hgh hgb hgc hgi hgu) (va_cwS 3 hts (goodIn_app (goodIn_r _ [9, 10, 11] rfl (by decide +kernel)) (goodIn_ca (goodIn_r _ [8] rfl (by decide +kernel)) (bs_in _ _))) rfl rfl rfl (by decide +kernel) ⟨(Nat.le_of_ble_eq_true rfl), (Nat.le_of_ble_eq_true rfl)⟩) ⟨fun a U g mk q => by obtain ⟨q0, q1, qK, qE⟩ := q; exact ⟨q0, q1, va_K.moved (u := U) (U := U.calling g mk a) (Vm.Alike.refl U.vm) qK, EVS.blind g mk a qE⟩, fun U hU hW => ⟨rfl, hU, va_K.moved hW.alike hK, hE.call hS hFc hU hW⟩⟩ rfl rfl hl.1 rfl (lv_room (Nat.le_of_ble_eq_true rfl)) dX12_isIn_34 ⟨(Nat.le_of_ble_eq_true rfl), (Nat.le_of_ble_eq_true rfl)⟩) hS (fun q _ h => hFc q h) hFc (fun r13 u t H locs ht hvm hw14 hB _ _ hS => ?_)
  obtain ⟨hT, hF1⟩ := hB
  rw [ht] at hT hF1
  have hF := hF.more hF1 (by decide)
  try dsimp only at hw14
  obtain ⟨h15, hi16, hi17⟩ := hw14
  refine lv_if_eq (tgt := 74) hx hb dX12_isIn_37 (by decide) (fun c18 => ?_) (fun c18 => ?_)
  · have t19 : r13.toInt = 0 := ti_eq c18 rfl (by decide)
    have t20 : x1.toInt < x7.toInt ∨ x11.toInt < x1.toInt := hi17 c18
    refine lv_iconst (v := 0) hx hb dX12_isIn_74 (by decide) ?_
    exact W.zret (v := 0) hx hb hr (by decide) (fun t ht hW => ⟨⟨0, (), rfl, (by exact (rg_t (a := 0) (by decide) (by first | decide | omega) (by first | decide | omega))), by (try dsimp only); rw [ht]; exact ⟨hT, hF⟩⟩, hS.F ht⟩) hS.2.2 dX12_isIn_75
  · have t21 : r13.toInt ≠ 0 := ti_ne c18 rfl (by decide)
    have t22 : x7.toInt ≤ x1.toInt ∧ x1.toInt ≤ x11.toInt := hi16 ((bit_of ⟨by omega, by omega⟩).resolve_left c18)
    refine lv_iload hx hb dX12_isIn_40 (lv_at hl 0 rfl) ?_
    refine lv_iload_n hx hb dX12_isIn_42 rfl (lv_at hl 3 rfl) ?_
    refine lv_bipush (v := 12) hx hb dX12_isIn_43 (by decide) ?_
    have t23 : -2147483648 ≤ a1.toInt ∧ a1.toInt ≤ 2147483647 := ti_all a1
    refine lv_idiv hx hb dX12_isIn_45 (by decide) ?_
    refine lv_topi (fun x24 ex24 => ?_)
    have t25 : (0 ≤ a1.toInt ∧ x24.toInt = a1.toInt / 12) ∨ (a1.toInt < 0 ∧ x24.toInt = -((-a1.toInt) / 12)) := ti_divs ex24 rfl (by decide) (by decide)
    refine lv_iload_n hx hb dX12_isIn_46 rfl (lv_at hl 4 rfl) ?_
    refine lv_bipush (v := 12) hx hb dX12_isIn_47 (by decide) ?_
    have t26 : -2147483648 ≤ a2.toInt ∧ a2.toInt ≤ 2147483647 := ti_all a2
    refine lv_idiv hx hb dX12_isIn_49 (by decide) ?_
    refine lv_topi (fun x27 ex27 => ?_)
    have t28 : (0 ≤ a2.toInt ∧ x27.toInt = a2.toInt / 12) ∨ (a2.toInt < 0 ∧ x27.toInt = -((-a2.toInt) / 12)) := ti_divs ex27 rfl (by decide) (by decide)
    refine va_mmin hx hb (hml.trans hl.1.symm) hown (ht_at hts 0 rfl) (ht_at hts 1 rfl) (ht_at hts 2 rfl) (ht_at hts 3 rfl) (Nat.le_of_ble_eq_true rfl) (Nat.le_of_ble_eq_true rfl) (Nat.le_of_ble_eq_true rfl) (Nat.le_of_ble_eq_true rfl) dX12_isIn_50 ?_
    refine lv_topi (fun x29 ex29 => ?_)
    have t30 : x29.toInt ≤ x24.toInt ∧ x29.toInt ≤ x27.toInt ∧ (x29.toInt = x24.toInt ∨ x29.toInt = x27.toInt) := mn_f ex29 rfl rfl
    refine lv_iload_n hx hb dX12_isIn_53 rfl (lv_at hl 3 rfl) ?_
    refine lv_bipush (v := 12) hx hb dX12_isIn_54 (by decide) ?_
    refine lv_idiv hx hb dX12_isIn_56 (by decide) ?_
    refine lv_topi (fun x31 ex31 => ?_)
    have t32 : (0 ≤ a1.toInt ∧ x31.toInt = a1.toInt / 12) ∨ (a1.toInt < 0 ∧ x31.toInt = -((-a1.toInt) / 12)) := ti_divs ex31 rfl (by decide) (by decide)
    refine lv_iload_n hx hb dX12_isIn_57 rfl (lv_at hl 4 rfl) ?_
    refine lv_bipush (v := 12) hx hb dX12_isIn_58 (by decide) ?_
    refine lv_idiv hx hb dX12_isIn_60 (by decide) ?_
    refine lv_topi (fun x33 ex33 => ?_)
    have t34 : (0 ≤ a2.toInt ∧ x33.toInt = a2.toInt / 12) ∨ (a2.toInt < 0 ∧ x33.toInt = -((-a2.toInt) / 12)) := ti_divs ex33 rfl (by decide) (by decide)
    refine va_mmax hx hb (hml.trans hl.1.symm) hown (ht_at hts 4 rfl) (ht_at hts 5 rfl) (ht_at hts 2 rfl) (ht_at hts 6 rfl) (Nat.le_of_ble_eq_true rfl) (Nat.le_of_ble_eq_true rfl) (Nat.le_of_ble_eq_true rfl) (Nat.le_of_ble_eq_true rfl) dX12_isIn_61 ?_
    refine lv_topi (fun x35 ex35 => ?_)
    have t36 : x31.toInt ≤ x35.toInt ∧ x33.toInt ≤ x35.toInt ∧ (x35.toInt = x31.toInt ∨ x35.toInt = x33.toInt) := mx_f ex35 rfl rfl
    have hFc := gA_free hG hA hS
    refine va_calli (va_runS (As := [.int x3, .int x29, .int x35]) (rest := []) ⟨hx, hb, hml, hown, hts⟩ (s_in l dC dI kA adK adV G H q wZ wN wH wB wC wL wK wU wV PI im PM PT lS lB lE lN x3 x29 x35 hT hgz hgn hgh hgb hgc hgi hgu) (va_cwS 3 hts (goodIn_app (goodIn_r _ [9, 10, 11] rfl (by decide +kernel)) (goodIn_ca (goodIn_r _ [8] rfl (by decide +kernel)) (bs_in _ _))) rfl rfl rfl (by decide +kernel) ⟨(Nat.le_of_ble_eq_true rfl), (Nat.le_of_ble_eq_true rfl)⟩) ⟨fun a U g mk q => by obtain ⟨q0, q1, qK, qE⟩ := q; exact ⟨q0, q1, va_K.moved (u := U) (U := U.calling g mk a) (Vm.Alike.refl U.vm) qK, EVS.blind g mk a qE⟩, fun U hU hW => ⟨rfl, hU, va_K.moved hW.alike hK, hE.call hS hFc hU hW⟩⟩ rfl rfl hl.1 rfl (lv_room (Nat.le_of_ble_eq_true rfl)) dX12_isIn_64 ⟨(Nat.le_of_ble_eq_true rfl), (Nat.le_of_ble_eq_true rfl)⟩) hS (fun q _ h => hFc q h) hFc (fun r37 u t H locs ht hvm hw38 hB _ _ hS => ?_)
    obtain ⟨hT, hF1⟩ := hB
    rw [ht] at hT hF1
    have hF := hF.more hF1 (by decide)
    try dsimp only at hw38
    obtain ⟨h39, hi40, hi41⟩ := hw38
    refine lv_if_eq (tgt := 74) hx hb dX12_isIn_67 (by decide) (fun c42 => ?_) (fun c42 => ?_)
    · have t43 : r37.toInt = 0 := ti_eq c42 rfl (by decide)
      have t44 : x3.toInt < x29.toInt ∨ x35.toInt < x3.toInt := hi41 c42
      refine lv_iconst (v := 0) hx hb dX12_isIn_74 (by decide) ?_
      exact W.zret (v := 0) hx hb hr (by decide) (fun t ht hW => ⟨⟨0, (), rfl, (by exact (rg_t (a := 0) (by decide) (by first | decide | omega) (by first | decide | omega))), by (try dsimp only); rw [ht]; exact ⟨hT, hF⟩⟩, hS.F ht⟩) hS.2.2 dX12_isIn_75
    · have t45 : r37.toInt ≠ 0 := ti_ne c42 rfl (by decide)
      have t46 : x29.toInt ≤ x3.toInt ∧ x3.toInt ≤ x35.toInt := hi40 ((bit_of ⟨by omega, by omega⟩).resolve_left c42)
      refine lv_iconst (v := 1) hx hb dX12_isIn_70 (by decide) ?_
      refine lv_goto (tgt := 75) hx hb dX12_isIn_71 (by decide) ?_
      exact W.zret (v := 1) hx hb hr (by decide) (fun t ht hW => ⟨⟨1, (), rfl, (by exact (rg_t (a := 1) (by decide) (by first | decide | omega) (by first | decide | omega))), by (try dsimp only); rw [ht]; exact ⟨hT, hF⟩⟩, hS.F ht⟩) hS.2.2 dX12_isIn_75
def w_s_at : List Cond := .code yX12_at cX12_at 2 (some .int) :: (HAppend.hAppend (α := List Cond) (β := List Cond) (γ := List Cond) [] bs)
set_option maxHeartbeats 4000000 in
set_option maxRecDepth 100000 in
theorem s_at (l : Launch) (dC : Nat → ClassId) (dI : Nat → Nat → Nat) (kA : Nat → ClassId) (adK adV : Nat → Nat) (G : gT) (H0 : Heap) (q : Nat → Nat) (wZ wN : Nat → Int) (wH wB wC : Int) (wL wK : Nat → Prop) (wU wV : Nat → Nat) (PI : Nat → Int → Prop) (im : Int) (PM PT : Nat → Int → Prop) (lS lB lE : Nat → Nat → Int → Prop) (lN : Nat → Int) (wk : Int32) (wt : Int32)  (hT : gH (dC, dI) kA (SHm q (wP wZ wN wH wB wC wL wK wU wV) PI im PM PT lS lB lE lN) G H0) (hq0 : 0 ≤ wk.toInt ∧ wk.toInt ≤ 29) (hq1 : 0 ≤ wt.toInt ∧ wt.toInt ≤ 21) (hgz : ∀ i, 0 ≤ wZ i) (hgn : ∀ i, 6500000 ≤ wN i ∧ wN i ≤ 20200000) (hgh : 0 ≤ wH ∧ wH ≤ 40000) (hgb : 0 ≤ wB ∧ wB ≤ 3850000) (hgc : 0 ≤ wC ∧ wC ≤ 30) (hgi : 0 ≤ im ∧ im ≤ 1) (hgu : ∀ a t, G a = some (t + 1) → a = q t) : Met l yX12_at w_s_at ({ frames := 0, cells := 0, slots := 0, locals := 0 }) (va_Pc [.int wk, .int wt] (fun U => U.heap = H0 ∧ va_K (dC, dI) vwCl (tyl kA) U ∧ EVS adK adV (gA G H0.size) U U.heap)) (va_Qi (fun (r : Int32) (u : Unit) => (768 ≤ r.toInt ∧ r.toInt ≤ 1427) ∧ (r.toInt = 768 + 22 * wk.toInt + wt.toInt)) (fun (_ : Unit) (t : State) => gH (dC, dI) kA (SHm q (wP wZ wN wH wB wC wL wK wU wV) PI im PM PT lS lB lE lN) G t.heap ∧ gF (dC, dI) SKm G ([] : List (Nat × Nat)) H0 t.heap) (gA G H0.size)) 0 0 (gA G H0.size) := by
  refine Met.ofW (cc := cX12_at) (maxL := 2) (ret := (some .int)) (by decide) rfl ?_
  intro p e s m args below meth c s₁ B hml hv
  obtain ⟨rfl, hH0, hK, hE⟩ := hv
  have hx := B.exec
  have hb := B.bytes
  have hr := B.returns
  have hts := atoms_spec (ws := w_s_at) B.pre
  have hown : s.vm.findClass RX12 = some m.cls := findClass_of_methodNamed B.named
  have hlocks := B.notSynchronized
  subst hH0
  generalize hAe : gA G s.heap.size = A at hE ⊢
  have hA : ∀ q : Nat, s.heap.size ≤ q → A q := fun q h => by rw [← hAe]; exact Or.inr h
  have hG := gA_of hAe
  have hS : va_S A s.heap s.heap [] := va_S.rf
  have hF : gF (dC, dI) SKm G ([] : List (Nat × Nat)) s.heap s.heap := gF.rf
  have hl := lv_entry ([.int wk, .int wt]) (n := 2) (Nat.le_of_ble_eq_true rfl)
  rw [lg_entry_eq]
  generalize (lg_sl ([.int wk, .int wt]) ++ List.replicate (2 - (lg_sl ([.int wk, .int wt])).length) Slot.unset).toArray = ls at hl ⊢
  have hl : lv_has ls 2 [(0, .int wk), (1, .int wt)] := hl
  refine lv_sipush (v := 768) hx hb dX12_at_0 (by decide) ?_
  refine lv_bipush (v := 22) hx hb dX12_at_3 (by decide) ?_
  refine lv_iload_n hx hb dX12_at_5 rfl (lv_at hl 0 rfl) ?_
  refine lv_imul hx hb dX12_at_6 ?_
  refine lv_topi (fun x1 ex1 => ?_)
  have t2 : x1.toInt = 22 * wk.toInt := ti_mul ex1 (by decide) rfl (by omega) (by omega)
  refine lv_iadd hx hb dX12_at_7 ?_
  refine lv_topi (fun x3 ex3 => ?_)
  have t4 : x3.toInt = 768 + x1.toInt := ti_add ex3 (by decide) rfl (by omega) (by omega)
  refine lv_iload_n hx hb dX12_at_8 rfl (lv_at hl 1 rfl) ?_
  refine lv_iadd hx hb dX12_at_9 ?_
  refine lv_topi (fun x5 ex5 => ?_)
  have t6 : x5.toInt = x3.toInt + wt.toInt := ti_add ex5 rfl rfl (by omega) (by omega)
  exact W.iret (v := x5) hx hb hr (fun t ht hW => ⟨⟨x5, (), rfl, (by exact ⟨(by have q8 := ti_all x5; omega), (by omega)⟩), by (try dsimp only); rw [ht]; exact ⟨hT, hF⟩⟩, hS.F ht⟩) hS.2.2 dX12_at_10
def w_s_of0 : List Cond := .code yX12_of cX12_of 3 (some .int) :: (HAppend.hAppend (α := List Cond) (β := List Cond) (γ := List Cond) [.fieldLink RX12 9 "SeaLandModel" "world" "[I", .code yX12_at cX12_at 2 (some .int), .methodLink RX12 214 yX12_at, .static yX12_at, .initialized RX12] bs)
set_option maxHeartbeats 4000000 in
set_option maxRecDepth 100000 in
theorem s_of0 (l : Launch) (dC : Nat → ClassId) (dI : Nat → Nat → Nat) (kA : Nat → ClassId) (adK adV : Nat → Nat) (G : gT) (H0 : Heap) (q : Nat → Nat) (wZ wN : Nat → Int) (wH wB wC : Int) (wL wK : Nat → Prop) (wU wV : Nat → Nat) (PI : Nat → Int → Prop) (im : Int) (PM PT : Nat → Int → Prop) (lS lB lE : Nat → Nat → Int → Prop) (lN : Nat → Int) (o0 : Nat) (wk : Int32)  (hT : gH (dC, dI) kA (SHm q (wP wZ wN wH wB wC wL wK wU wV) PI im PM PT lS lB lE lN) G H0) (hr_o0 : G o0 = some 0) (hq0 : 0 ≤ wk.toInt ∧ wk.toInt ≤ 29) (hgz : ∀ i, 0 ≤ wZ i) (hgn : ∀ i, 6500000 ≤ wN i ∧ wN i ≤ 20200000) (hgh : 0 ≤ wH ∧ wH ≤ 40000) (hgb : 0 ≤ wB ∧ wB ≤ 3850000) (hgc : 0 ≤ wC ∧ wC ≤ 30) (hgi : 0 ≤ im ∧ im ≤ 1) (hgu : ∀ a t, G a = some (t + 1) → a = q t) : Met l yX12_of w_s_of0 ({ frames := 1, cells := 0, slots := 0, locals := 21 }) (va_Pc [.ref o0, .int wk, .int 0] (fun U => U.heap = H0 ∧ va_K (dC, dI) vwCl (tyl kA) U ∧ EVS adK adV (gA G H0.size) U U.heap)) (va_Qi (fun (r : Int32) (u : Unit) => (∃ ix : Int32, ix.toInt = 768 + 22 * wk.toInt ∧ el H0 (q 1) ix.toNatClampNeg = some (.int r))) (fun (_ : Unit) (t : State) => gH (dC, dI) kA (SHm q (wP wZ wN wH wB wC wL wK wU wV) PI im PM PT lS lB lE lN) G t.heap ∧ gF (dC, dI) SKm G ([] : List (Nat × Nat)) H0 t.heap) (gA G H0.size)) 0 0 (gA G H0.size) := by
  refine Met.ofW (cc := cX12_of) (maxL := 3) (ret := (some .int)) (by decide) rfl ?_
  intro p e s m args below meth c s₁ B hml hv
  obtain ⟨rfl, hH0, hK, hE⟩ := hv
  have hx := B.exec
  have hb := B.bytes
  have hr := B.returns
  have hts := atoms_spec (ws := w_s_of0) B.pre
  have hown : s.vm.findClass RX12 = some m.cls := findClass_of_methodNamed B.named
  have hlocks := B.notSynchronized
  subst hH0
  generalize hAe : gA G s.heap.size = A at hE ⊢
  have hA : ∀ q : Nat, s.heap.size ≤ q → A q := fun q h => by rw [← hAe]; exact Or.inr h
  have hG := gA_of hAe
  have hS : va_S A s.heap s.heap [] := va_S.rf
  have hF : gF (dC, dI) SKm G ([] : List (Nat × Nat)) s.heap s.heap := gF.rf
  have hl := lv_entry ([.ref o0, .int wk, .int 0]) (n := 3) (Nat.le_of_ble_eq_true rfl)
  rw [lg_entry_eq]
  generalize (lg_sl ([.ref o0, .int wk, .int 0]) ++ List.replicate (3 - (lg_sl ([.ref o0, .int wk, .int 0])).length) Slot.unset).toArray = ls at hl ⊢
  have hl : lv_has ls 3 [(0, .ref o0), (1, .int wk), (2, .int 0)] := hl
  refine lv_aload_n hx hb dX12_of_0 rfl (lv_at hl 0 rfl) ?_
  refine tw_get hx hb hts bF_X12 hown hK hT hr_o0 shm_0 rfl 1 (by decide) (ht_at hts 0 rfl) (fun _ h9 => h9) dX12_of_1 (fun v9 m1 h9 => ?_)
  obtain ⟨rfl, hg2⟩ := h9 _ rfl
  refine lv_iload_n hx hb dX12_of_4 rfl (lv_at hl 1 rfl) ?_
  refine lv_iload_n hx hb dX12_of_5 rfl (lv_at hl 2 rfl) ?_
  have hFc := gA_free hG hA hS
  refine va_calli (va_runS (As := [.int wk, .int 0]) (rest := [.ref (q 1)]) ⟨hx, hb, hml, hown, hts⟩ (s_at l dC dI kA adK adV G s.heap q wZ wN wH wB wC wL wK wU wV PI im PM PT lS lB lE lN wk 0 hT (by have q8 := ti_all wk; omega) (rg_t (a := 0) (by decide) (by first | decide | omega) (by first | decide | omega)) hgz hgn hgh hgb hgc hgi hgu) (va_cwS 2 hts (goodIn_app (goodIn_r _ [3, 4, 5] rfl (by decide +kernel)) (goodIn_ca (goodIn_r _ [2] rfl (by decide +kernel)) (bs_in _ _))) rfl rfl rfl (by decide +kernel) ⟨(Nat.le_of_ble_eq_true rfl), (Nat.le_of_ble_eq_true rfl)⟩) ⟨fun a U g mk q => by obtain ⟨q0, q1, qK, qE⟩ := q; exact ⟨q0, q1, va_K.moved (u := U) (U := U.calling g mk a) (Vm.Alike.refl U.vm) qK, EVS.blind g mk a qE⟩, fun U hU hW => ⟨rfl, hU, va_K.moved hW.alike hK, hE.call hS hFc hU hW⟩⟩ rfl rfl hl.1 rfl (lv_room (Nat.le_of_ble_eq_true rfl)) dX12_of_6 ⟨(Nat.le_of_ble_eq_true rfl), (Nat.le_of_ble_eq_true rfl)⟩) hS (fun q _ h => hFc q h) hFc (fun r3 u t H locs ht hvm hw4 hB _ _ hS => ?_)
  obtain ⟨hT, hF1⟩ := hB
  rw [ht] at hT hF1
  have hF := hF.more hF1 (by decide)
  try dsimp only at hw4
  obtain ⟨h5, hf6⟩ := hw4
  have t7 : (0 : Int32).toInt = 0 := by decide
  refine tw_iald (i := r3) hx hb hK hT hg2 shm_2 rfl (vin_t (a := r3.toInt) rfl (by omega) (by omega)) dX12_of_9 (fun v9 m8 h9 => ?_)
  obtain ⟨x9, rfl, gx9, kx9⟩ := (gp_at h9 (w_fre (by have q9 := tn_of (show r3.toInt = r3.toInt from rfl) (show (0 : Int) ≤ r3.toInt from by omega); omega)))
  exact W.iret (v := x9) hx hb hr (fun t ht hW => ⟨⟨x9, (), rfl, (by exact ⟨r3, by have q9 := (show r3.toInt = r3.toInt from rfl); omega, (el_kept (hF.arr hg2 skm_2 (by decide))).symm.trans m8⟩), by (try dsimp only); rw [ht]; exact ⟨hT, hF⟩⟩, hS.F ht⟩) hS.2.2 dX12_of_10
def w_s_of1 : List Cond := .code yX12_of cX12_of 3 (some .int) :: (HAppend.hAppend (α := List Cond) (β := List Cond) (γ := List Cond) [.fieldLink RX12 9 "SeaLandModel" "world" "[I", .code yX12_at cX12_at 2 (some .int), .methodLink RX12 214 yX12_at, .static yX12_at, .initialized RX12] bs)
set_option maxHeartbeats 4000000 in
set_option maxRecDepth 100000 in
theorem s_of1 (l : Launch) (dC : Nat → ClassId) (dI : Nat → Nat → Nat) (kA : Nat → ClassId) (adK adV : Nat → Nat) (G : gT) (H0 : Heap) (q : Nat → Nat) (wZ wN : Nat → Int) (wH wB wC : Int) (wL wK : Nat → Prop) (wU wV : Nat → Nat) (PI : Nat → Int → Prop) (im : Int) (PM PT : Nat → Int → Prop) (lS lB lE : Nat → Nat → Int → Prop) (lN : Nat → Int) (o0 : Nat) (wk : Int32)  (hT : gH (dC, dI) kA (SHm q (wP wZ wN wH wB wC wL wK wU wV) PI im PM PT lS lB lE lN) G H0) (hr_o0 : G o0 = some 0) (hq0 : 0 ≤ wk.toInt ∧ wk.toInt ≤ 29) (hgz : ∀ i, 0 ≤ wZ i) (hgn : ∀ i, 6500000 ≤ wN i ∧ wN i ≤ 20200000) (hgh : 0 ≤ wH ∧ wH ≤ 40000) (hgb : 0 ≤ wB ∧ wB ≤ 3850000) (hgc : 0 ≤ wC ∧ wC ≤ 30) (hgi : 0 ≤ im ∧ im ≤ 1) (hgu : ∀ a t, G a = some (t + 1) → a = q t) : Met l yX12_of w_s_of1 ({ frames := 1, cells := 0, slots := 0, locals := 21 }) (va_Pc [.ref o0, .int wk, .int 1] (fun U => U.heap = H0 ∧ va_K (dC, dI) vwCl (tyl kA) U ∧ EVS adK adV (gA G H0.size) U U.heap)) (va_Qi (fun (r : Int32) (u : Unit) => (0 ≤ r.toInt ∧ r.toInt ≤ 95) ∧ (∃ ix : Int32, ix.toInt = 769 + 22 * wk.toInt ∧ el H0 (q 1) ix.toNatClampNeg = some (.int r))) (fun (_ : Unit) (t : State) => gH (dC, dI) kA (SHm q (wP wZ wN wH wB wC wL wK wU wV) PI im PM PT lS lB lE lN) G t.heap ∧ gF (dC, dI) SKm G ([] : List (Nat × Nat)) H0 t.heap) (gA G H0.size)) 0 0 (gA G H0.size) := by
  refine Met.ofW (cc := cX12_of) (maxL := 3) (ret := (some .int)) (by decide) rfl ?_
  intro p e s m args below meth c s₁ B hml hv
  obtain ⟨rfl, hH0, hK, hE⟩ := hv
  have hx := B.exec
  have hb := B.bytes
  have hr := B.returns
  have hts := atoms_spec (ws := w_s_of1) B.pre
  have hown : s.vm.findClass RX12 = some m.cls := findClass_of_methodNamed B.named
  have hlocks := B.notSynchronized
  subst hH0
  generalize hAe : gA G s.heap.size = A at hE ⊢
  have hA : ∀ q : Nat, s.heap.size ≤ q → A q := fun q h => by rw [← hAe]; exact Or.inr h
  have hG := gA_of hAe
  have hS : va_S A s.heap s.heap [] := va_S.rf
  have hF : gF (dC, dI) SKm G ([] : List (Nat × Nat)) s.heap s.heap := gF.rf
  have hl := lv_entry ([.ref o0, .int wk, .int 1]) (n := 3) (Nat.le_of_ble_eq_true rfl)
  rw [lg_entry_eq]
  generalize (lg_sl ([.ref o0, .int wk, .int 1]) ++ List.replicate (3 - (lg_sl ([.ref o0, .int wk, .int 1])).length) Slot.unset).toArray = ls at hl ⊢
  have hl : lv_has ls 3 [(0, .ref o0), (1, .int wk), (2, .int 1)] := hl
  refine lv_aload_n hx hb dX12_of_0 rfl (lv_at hl 0 rfl) ?_
  refine tw_get hx hb hts bF_X12 hown hK hT hr_o0 shm_0 rfl 1 (by decide) (ht_at hts 0 rfl) (fun _ h9 => h9) dX12_of_1 (fun v9 m1 h9 => ?_)
  obtain ⟨rfl, hg2⟩ := h9 _ rfl
  refine lv_iload_n hx hb dX12_of_4 rfl (lv_at hl 1 rfl) ?_
  refine lv_iload_n hx hb dX12_of_5 rfl (lv_at hl 2 rfl) ?_
  have hFc := gA_free hG hA hS
  refine va_calli (va_runS (As := [.int wk, .int 1]) (rest := [.ref (q 1)]) ⟨hx, hb, hml, hown, hts⟩ (s_at l dC dI kA adK adV G s.heap q wZ wN wH wB wC wL wK wU wV PI im PM PT lS lB lE lN wk 1 hT (by have q8 := ti_all wk; omega) (rg_t (a := 1) (by decide) (by first | decide | omega) (by first | decide | omega)) hgz hgn hgh hgb hgc hgi hgu) (va_cwS 2 hts (goodIn_app (goodIn_r _ [3, 4, 5] rfl (by decide +kernel)) (goodIn_ca (goodIn_r _ [2] rfl (by decide +kernel)) (bs_in _ _))) rfl rfl rfl (by decide +kernel) ⟨(Nat.le_of_ble_eq_true rfl), (Nat.le_of_ble_eq_true rfl)⟩) ⟨fun a U g mk q => by obtain ⟨q0, q1, qK, qE⟩ := q; exact ⟨q0, q1, va_K.moved (u := U) (U := U.calling g mk a) (Vm.Alike.refl U.vm) qK, EVS.blind g mk a qE⟩, fun U hU hW => ⟨rfl, hU, va_K.moved hW.alike hK, hE.call hS hFc hU hW⟩⟩ rfl rfl hl.1 rfl (lv_room (Nat.le_of_ble_eq_true rfl)) dX12_of_6 ⟨(Nat.le_of_ble_eq_true rfl), (Nat.le_of_ble_eq_true rfl)⟩) hS (fun q _ h => hFc q h) hFc (fun r3 u t H locs ht hvm hw4 hB _ _ hS => ?_)
  obtain ⟨hT, hF1⟩ := hB
  rw [ht] at hT hF1
  have hF := hF.more hF1 (by decide)
  try dsimp only at hw4
  obtain ⟨h5, hf6⟩ := hw4
  have t7 : (1 : Int32).toInt = 1 := by decide
  refine tw_iald (i := r3) hx hb hK hT hg2 shm_2 rfl (vin_t (a := r3.toInt) rfl (by omega) (by omega)) dX12_of_9 (fun v9 m8 h9 => ?_)
  obtain ⟨x9, rfl, gx9, kx9⟩ := (gp_at h9 (w_wsq (by have q9 := tn_of (show r3.toInt = r3.toInt from rfl) (show (0 : Int) ≤ r3.toInt from by omega); omega)))
  exact W.iret (v := x9) hx hb hr (fun t ht hW => ⟨⟨x9, (), rfl, (by exact ⟨(by have q8 := ti_all x9; omega), ⟨r3, by have q9 := (show r3.toInt = r3.toInt from rfl); omega, (el_kept (hF.arr hg2 skm_2 (by decide))).symm.trans m8⟩⟩), by (try dsimp only); rw [ht]; exact ⟨hT, hF⟩⟩, hS.F ht⟩) hS.2.2 dX12_of_10
def w_s_of2 : List Cond := .code yX12_of cX12_of 3 (some .int) :: (HAppend.hAppend (α := List Cond) (β := List Cond) (γ := List Cond) [.fieldLink RX12 9 "SeaLandModel" "world" "[I", .code yX12_at cX12_at 2 (some .int), .methodLink RX12 214 yX12_at, .static yX12_at, .initialized RX12] bs)
set_option maxHeartbeats 4000000 in
set_option maxRecDepth 100000 in
theorem s_of2 (l : Launch) (dC : Nat → ClassId) (dI : Nat → Nat → Nat) (kA : Nat → ClassId) (adK adV : Nat → Nat) (G : gT) (H0 : Heap) (q : Nat → Nat) (wZ wN : Nat → Int) (wH wB wC : Int) (wL wK : Nat → Prop) (wU wV : Nat → Nat) (PI : Nat → Int → Prop) (im : Int) (PM PT : Nat → Int → Prop) (lS lB lE : Nat → Nat → Int → Prop) (lN : Nat → Int) (o0 : Nat) (wk : Int32)  (hT : gH (dC, dI) kA (SHm q (wP wZ wN wH wB wC wL wK wU wV) PI im PM PT lS lB lE lN) G H0) (hr_o0 : G o0 = some 0) (hq0 : 0 ≤ wk.toInt ∧ wk.toInt ≤ 29) (hgz : ∀ i, 0 ≤ wZ i) (hgn : ∀ i, 6500000 ≤ wN i ∧ wN i ≤ 20200000) (hgh : 0 ≤ wH ∧ wH ≤ 40000) (hgb : 0 ≤ wB ∧ wB ≤ 3850000) (hgc : 0 ≤ wC ∧ wC ≤ 30) (hgi : 0 ≤ im ∧ im ≤ 1) (hgu : ∀ a t, G a = some (t + 1) → a = q t) : Met l yX12_of w_s_of2 ({ frames := 1, cells := 0, slots := 0, locals := 21 }) (va_Pc [.ref o0, .int wk, .int 2] (fun U => U.heap = H0 ∧ va_K (dC, dI) vwCl (tyl kA) U ∧ EVS adK adV (gA G H0.size) U U.heap)) (va_Qi (fun (r : Int32) (u : Unit) => (0 ≤ r.toInt ∧ r.toInt ≤ 95) ∧ (∃ ix : Int32, ix.toInt = 770 + 22 * wk.toInt ∧ el H0 (q 1) ix.toNatClampNeg = some (.int r))) (fun (_ : Unit) (t : State) => gH (dC, dI) kA (SHm q (wP wZ wN wH wB wC wL wK wU wV) PI im PM PT lS lB lE lN) G t.heap ∧ gF (dC, dI) SKm G ([] : List (Nat × Nat)) H0 t.heap) (gA G H0.size)) 0 0 (gA G H0.size) := by
  refine Met.ofW (cc := cX12_of) (maxL := 3) (ret := (some .int)) (by decide) rfl ?_
  intro p e s m args below meth c s₁ B hml hv
  obtain ⟨rfl, hH0, hK, hE⟩ := hv
  have hx := B.exec
  have hb := B.bytes
  have hr := B.returns
  have hts := atoms_spec (ws := w_s_of2) B.pre
  have hown : s.vm.findClass RX12 = some m.cls := findClass_of_methodNamed B.named
  have hlocks := B.notSynchronized
  subst hH0
  generalize hAe : gA G s.heap.size = A at hE ⊢
  have hA : ∀ q : Nat, s.heap.size ≤ q → A q := fun q h => by rw [← hAe]; exact Or.inr h
  have hG := gA_of hAe
  have hS : va_S A s.heap s.heap [] := va_S.rf
  have hF : gF (dC, dI) SKm G ([] : List (Nat × Nat)) s.heap s.heap := gF.rf
  have hl := lv_entry ([.ref o0, .int wk, .int 2]) (n := 3) (Nat.le_of_ble_eq_true rfl)
  rw [lg_entry_eq]
  generalize (lg_sl ([.ref o0, .int wk, .int 2]) ++ List.replicate (3 - (lg_sl ([.ref o0, .int wk, .int 2])).length) Slot.unset).toArray = ls at hl ⊢
  have hl : lv_has ls 3 [(0, .ref o0), (1, .int wk), (2, .int 2)] := hl
  refine lv_aload_n hx hb dX12_of_0 rfl (lv_at hl 0 rfl) ?_
  refine tw_get hx hb hts bF_X12 hown hK hT hr_o0 shm_0 rfl 1 (by decide) (ht_at hts 0 rfl) (fun _ h9 => h9) dX12_of_1 (fun v9 m1 h9 => ?_)
  obtain ⟨rfl, hg2⟩ := h9 _ rfl
  refine lv_iload_n hx hb dX12_of_4 rfl (lv_at hl 1 rfl) ?_
  refine lv_iload_n hx hb dX12_of_5 rfl (lv_at hl 2 rfl) ?_
  have hFc := gA_free hG hA hS
  refine va_calli (va_runS (As := [.int wk, .int 2]) (rest := [.ref (q 1)]) ⟨hx, hb, hml, hown, hts⟩ (s_at l dC dI kA adK adV G s.heap q wZ wN wH wB wC wL wK wU wV PI im PM PT lS lB lE lN wk 2 hT (by have q8 := ti_all wk; omega) (rg_t (a := 2) (by decide) (by first | decide | omega) (by first | decide | omega)) hgz hgn hgh hgb hgc hgi hgu) (va_cwS 2 hts (goodIn_app (goodIn_r _ [3, 4, 5] rfl (by decide +kernel)) (goodIn_ca (goodIn_r _ [2] rfl (by decide +kernel)) (bs_in _ _))) rfl rfl rfl (by decide +kernel) ⟨(Nat.le_of_ble_eq_true rfl), (Nat.le_of_ble_eq_true rfl)⟩) ⟨fun a U g mk q => by obtain ⟨q0, q1, qK, qE⟩ := q; exact ⟨q0, q1, va_K.moved (u := U) (U := U.calling g mk a) (Vm.Alike.refl U.vm) qK, EVS.blind g mk a qE⟩, fun U hU hW => ⟨rfl, hU, va_K.moved hW.alike hK, hE.call hS hFc hU hW⟩⟩ rfl rfl hl.1 rfl (lv_room (Nat.le_of_ble_eq_true rfl)) dX12_of_6 ⟨(Nat.le_of_ble_eq_true rfl), (Nat.le_of_ble_eq_true rfl)⟩) hS (fun q _ h => hFc q h) hFc (fun r3 u t H locs ht hvm hw4 hB _ _ hS => ?_)
  obtain ⟨hT, hF1⟩ := hB
  rw [ht] at hT hF1
  have hF := hF.more hF1 (by decide)
  try dsimp only at hw4
  obtain ⟨h5, hf6⟩ := hw4
  have t7 : (2 : Int32).toInt = 2 := by decide
  refine tw_iald (i := r3) hx hb hK hT hg2 shm_2 rfl (vin_t (a := r3.toInt) rfl (by omega) (by omega)) dX12_of_9 (fun v9 m8 h9 => ?_)
  obtain ⟨x9, rfl, gx9, kx9⟩ := (gp_at h9 (w_wsq (by have q9 := tn_of (show r3.toInt = r3.toInt from rfl) (show (0 : Int) ≤ r3.toInt from by omega); omega)))
  exact W.iret (v := x9) hx hb hr (fun t ht hW => ⟨⟨x9, (), rfl, (by exact ⟨(by have q8 := ti_all x9; omega), ⟨r3, by have q9 := (show r3.toInt = r3.toInt from rfl); omega, (el_kept (hF.arr hg2 skm_2 (by decide))).symm.trans m8⟩⟩), by (try dsimp only); rw [ht]; exact ⟨hT, hF⟩⟩, hS.F ht⟩) hS.2.2 dX12_of_10
def w_s_of3 : List Cond := .code yX12_of cX12_of 3 (some .int) :: (HAppend.hAppend (α := List Cond) (β := List Cond) (γ := List Cond) [.fieldLink RX12 9 "SeaLandModel" "world" "[I", .code yX12_at cX12_at 2 (some .int), .methodLink RX12 214 yX12_at, .static yX12_at, .initialized RX12] bs)
set_option maxHeartbeats 4000000 in
set_option maxRecDepth 100000 in
theorem s_of3 (l : Launch) (dC : Nat → ClassId) (dI : Nat → Nat → Nat) (kA : Nat → ClassId) (adK adV : Nat → Nat) (G : gT) (H0 : Heap) (q : Nat → Nat) (wZ wN : Nat → Int) (wH wB wC : Int) (wL wK : Nat → Prop) (wU wV : Nat → Nat) (PI : Nat → Int → Prop) (im : Int) (PM PT : Nat → Int → Prop) (lS lB lE : Nat → Nat → Int → Prop) (lN : Nat → Int) (o0 : Nat) (wk : Int32)  (hT : gH (dC, dI) kA (SHm q (wP wZ wN wH wB wC wL wK wU wV) PI im PM PT lS lB lE lN) G H0) (hr_o0 : G o0 = some 0) (hq0 : 0 ≤ wk.toInt ∧ wk.toInt ≤ 29) (hgz : ∀ i, 0 ≤ wZ i) (hgn : ∀ i, 6500000 ≤ wN i ∧ wN i ≤ 20200000) (hgh : 0 ≤ wH ∧ wH ≤ 40000) (hgb : 0 ≤ wB ∧ wB ≤ 3850000) (hgc : 0 ≤ wC ∧ wC ≤ 30) (hgi : 0 ≤ im ∧ im ≤ 1) (hgu : ∀ a t, G a = some (t + 1) → a = q t) : Met l yX12_of w_s_of3 ({ frames := 1, cells := 0, slots := 0, locals := 21 }) (va_Pc [.ref o0, .int wk, .int 3] (fun U => U.heap = H0 ∧ va_K (dC, dI) vwCl (tyl kA) U ∧ EVS adK adV (gA G H0.size) U U.heap)) (va_Qi (fun (r : Int32) (u : Unit) => (∃ ix : Int32, ix.toInt = 771 + 22 * wk.toInt ∧ el H0 (q 1) ix.toNatClampNeg = some (.int r))) (fun (_ : Unit) (t : State) => gH (dC, dI) kA (SHm q (wP wZ wN wH wB wC wL wK wU wV) PI im PM PT lS lB lE lN) G t.heap ∧ gF (dC, dI) SKm G ([] : List (Nat × Nat)) H0 t.heap) (gA G H0.size)) 0 0 (gA G H0.size) := by
  refine Met.ofW (cc := cX12_of) (maxL := 3) (ret := (some .int)) (by decide) rfl ?_
  intro p e s m args below meth c s₁ B hml hv
  obtain ⟨rfl, hH0, hK, hE⟩ := hv
  have hx := B.exec
  have hb := B.bytes
  have hr := B.returns
  have hts := atoms_spec (ws := w_s_of3) B.pre
  have hown : s.vm.findClass RX12 = some m.cls := findClass_of_methodNamed B.named
  have hlocks := B.notSynchronized
  subst hH0
  generalize hAe : gA G s.heap.size = A at hE ⊢
  have hA : ∀ q : Nat, s.heap.size ≤ q → A q := fun q h => by rw [← hAe]; exact Or.inr h
  have hG := gA_of hAe
  have hS : va_S A s.heap s.heap [] := va_S.rf
  have hF : gF (dC, dI) SKm G ([] : List (Nat × Nat)) s.heap s.heap := gF.rf
  have hl := lv_entry ([.ref o0, .int wk, .int 3]) (n := 3) (Nat.le_of_ble_eq_true rfl)
  rw [lg_entry_eq]
  generalize (lg_sl ([.ref o0, .int wk, .int 3]) ++ List.replicate (3 - (lg_sl ([.ref o0, .int wk, .int 3])).length) Slot.unset).toArray = ls at hl ⊢
  have hl : lv_has ls 3 [(0, .ref o0), (1, .int wk), (2, .int 3)] := hl
  refine lv_aload_n hx hb dX12_of_0 rfl (lv_at hl 0 rfl) ?_
  refine tw_get hx hb hts bF_X12 hown hK hT hr_o0 shm_0 rfl 1 (by decide) (ht_at hts 0 rfl) (fun _ h9 => h9) dX12_of_1 (fun v9 m1 h9 => ?_)
  obtain ⟨rfl, hg2⟩ := h9 _ rfl
  refine lv_iload_n hx hb dX12_of_4 rfl (lv_at hl 1 rfl) ?_
  refine lv_iload_n hx hb dX12_of_5 rfl (lv_at hl 2 rfl) ?_
  have hFc := gA_free hG hA hS
  refine va_calli (va_runS (As := [.int wk, .int 3]) (rest := [.ref (q 1)]) ⟨hx, hb, hml, hown, hts⟩ (s_at l dC dI kA adK adV G s.heap q wZ wN wH wB wC wL wK wU wV PI im PM PT lS lB lE lN wk 3 hT (by have q8 := ti_all wk; omega) (rg_t (a := 3) (by decide) (by first | decide | omega) (by first | decide | omega)) hgz hgn hgh hgb hgc hgi hgu) (va_cwS 2 hts (goodIn_app (goodIn_r _ [3, 4, 5] rfl (by decide +kernel)) (goodIn_ca (goodIn_r _ [2] rfl (by decide +kernel)) (bs_in _ _))) rfl rfl rfl (by decide +kernel) ⟨(Nat.le_of_ble_eq_true rfl), (Nat.le_of_ble_eq_true rfl)⟩) ⟨fun a U g mk q => by obtain ⟨q0, q1, qK, qE⟩ := q; exact ⟨q0, q1, va_K.moved (u := U) (U := U.calling g mk a) (Vm.Alike.refl U.vm) qK, EVS.blind g mk a qE⟩, fun U hU hW => ⟨rfl, hU, va_K.moved hW.alike hK, hE.call hS hFc hU hW⟩⟩ rfl rfl hl.1 rfl (lv_room (Nat.le_of_ble_eq_true rfl)) dX12_of_6 ⟨(Nat.le_of_ble_eq_true rfl), (Nat.le_of_ble_eq_true rfl)⟩) hS (fun q _ h => hFc q h) hFc (fun r3 u t H locs ht hvm hw4 hB _ _ hS => ?_)
  obtain ⟨hT, hF1⟩ := hB
  rw [ht] at hT hF1
  have hF := hF.more hF1 (by decide)
  try dsimp only at hw4
  obtain ⟨h5, hf6⟩ := hw4
  have t7 : (3 : Int32).toInt = 3 := by decide
  refine tw_iald (i := r3) hx hb hK hT hg2 shm_2 rfl (vin_t (a := r3.toInt) rfl (by omega) (by omega)) dX12_of_9 (fun v9 m8 h9 => ?_)
  obtain ⟨x9, rfl, gx9, kx9⟩ := (gp_at h9 (w_fre (by have q9 := tn_of (show r3.toInt = r3.toInt from rfl) (show (0 : Int) ≤ r3.toInt from by omega); omega)))
  exact W.iret (v := x9) hx hb hr (fun t ht hW => ⟨⟨x9, (), rfl, (by exact ⟨r3, by have q9 := (show r3.toInt = r3.toInt from rfl); omega, (el_kept (hF.arr hg2 skm_2 (by decide))).symm.trans m8⟩), by (try dsimp only); rw [ht]; exact ⟨hT, hF⟩⟩, hS.F ht⟩) hS.2.2 dX12_of_10
def w_s_of4 : List Cond := .code yX12_of cX12_of 3 (some .int) :: (HAppend.hAppend (α := List Cond) (β := List Cond) (γ := List Cond) [.fieldLink RX12 9 "SeaLandModel" "world" "[I", .code yX12_at cX12_at 2 (some .int), .methodLink RX12 214 yX12_at, .static yX12_at, .initialized RX12] bs)
set_option maxHeartbeats 4000000 in
set_option maxRecDepth 100000 in
theorem s_of4 (l : Launch) (dC : Nat → ClassId) (dI : Nat → Nat → Nat) (kA : Nat → ClassId) (adK adV : Nat → Nat) (G : gT) (H0 : Heap) (q : Nat → Nat) (wZ wN : Nat → Int) (wH wB wC : Int) (wL wK : Nat → Prop) (wU wV : Nat → Nat) (PI : Nat → Int → Prop) (im : Int) (PM PT : Nat → Int → Prop) (lS lB lE : Nat → Nat → Int → Prop) (lN : Nat → Int) (o0 : Nat) (wk : Int32)  (hT : gH (dC, dI) kA (SHm q (wP wZ wN wH wB wC wL wK wU wV) PI im PM PT lS lB lE lN) G H0) (hr_o0 : G o0 = some 0) (hq0 : 0 ≤ wk.toInt ∧ wk.toInt ≤ 29) (hgz : ∀ i, 0 ≤ wZ i) (hgn : ∀ i, 6500000 ≤ wN i ∧ wN i ≤ 20200000) (hgh : 0 ≤ wH ∧ wH ≤ 40000) (hgb : 0 ≤ wB ∧ wB ≤ 3850000) (hgc : 0 ≤ wC ∧ wC ≤ 30) (hgi : 0 ≤ im ∧ im ≤ 1) (hgu : ∀ a t, G a = some (t + 1) → a = q t) : Met l yX12_of w_s_of4 ({ frames := 1, cells := 0, slots := 0, locals := 21 }) (va_Pc [.ref o0, .int wk, .int 4] (fun U => U.heap = H0 ∧ va_K (dC, dI) vwCl (tyl kA) U ∧ EVS adK adV (gA G H0.size) U U.heap)) (va_Qi (fun (r : Int32) (u : Unit) => (0 ≤ r.toInt ∧ r.toInt ≤ 6) ∧ (∃ ix : Int32, ix.toInt = 772 + 22 * wk.toInt ∧ el H0 (q 1) ix.toNatClampNeg = some (.int r))) (fun (_ : Unit) (t : State) => gH (dC, dI) kA (SHm q (wP wZ wN wH wB wC wL wK wU wV) PI im PM PT lS lB lE lN) G t.heap ∧ gF (dC, dI) SKm G ([] : List (Nat × Nat)) H0 t.heap) (gA G H0.size)) 0 0 (gA G H0.size) := by
  refine Met.ofW (cc := cX12_of) (maxL := 3) (ret := (some .int)) (by decide) rfl ?_
  intro p e s m args below meth c s₁ B hml hv
  obtain ⟨rfl, hH0, hK, hE⟩ := hv
  have hx := B.exec
  have hb := B.bytes
  have hr := B.returns
  have hts := atoms_spec (ws := w_s_of4) B.pre
  have hown : s.vm.findClass RX12 = some m.cls := findClass_of_methodNamed B.named
  have hlocks := B.notSynchronized
  subst hH0
  generalize hAe : gA G s.heap.size = A at hE ⊢
  have hA : ∀ q : Nat, s.heap.size ≤ q → A q := fun q h => by rw [← hAe]; exact Or.inr h
  have hG := gA_of hAe
  have hS : va_S A s.heap s.heap [] := va_S.rf
  have hF : gF (dC, dI) SKm G ([] : List (Nat × Nat)) s.heap s.heap := gF.rf
  have hl := lv_entry ([.ref o0, .int wk, .int 4]) (n := 3) (Nat.le_of_ble_eq_true rfl)
  rw [lg_entry_eq]
  generalize (lg_sl ([.ref o0, .int wk, .int 4]) ++ List.replicate (3 - (lg_sl ([.ref o0, .int wk, .int 4])).length) Slot.unset).toArray = ls at hl ⊢
  have hl : lv_has ls 3 [(0, .ref o0), (1, .int wk), (2, .int 4)] := hl
  refine lv_aload_n hx hb dX12_of_0 rfl (lv_at hl 0 rfl) ?_
  refine tw_get hx hb hts bF_X12 hown hK hT hr_o0 shm_0 rfl 1 (by decide) (ht_at hts 0 rfl) (fun _ h9 => h9) dX12_of_1 (fun v9 m1 h9 => ?_)
  obtain ⟨rfl, hg2⟩ := h9 _ rfl
  refine lv_iload_n hx hb dX12_of_4 rfl (lv_at hl 1 rfl) ?_
  refine lv_iload_n hx hb dX12_of_5 rfl (lv_at hl 2 rfl) ?_
  have hFc := gA_free hG hA hS
  refine va_calli (va_runS (As := [.int wk, .int 4]) (rest := [.ref (q 1)]) ⟨hx, hb, hml, hown, hts⟩ (s_at l dC dI kA adK adV G s.heap q wZ wN wH wB wC wL wK wU wV PI im PM PT lS lB lE lN wk 4 hT (by have q8 := ti_all wk; omega) (rg_t (a := 4) (by decide) (by first | decide | omega) (by first | decide | omega)) hgz hgn hgh hgb hgc hgi hgu) (va_cwS 2 hts (goodIn_app (goodIn_r _ [3, 4, 5] rfl (by decide +kernel)) (goodIn_ca (goodIn_r _ [2] rfl (by decide +kernel)) (bs_in _ _))) rfl rfl rfl (by decide +kernel) ⟨(Nat.le_of_ble_eq_true rfl), (Nat.le_of_ble_eq_true rfl)⟩) ⟨fun a U g mk q => by obtain ⟨q0, q1, qK, qE⟩ := q; exact ⟨q0, q1, va_K.moved (u := U) (U := U.calling g mk a) (Vm.Alike.refl U.vm) qK, EVS.blind g mk a qE⟩, fun U hU hW => ⟨rfl, hU, va_K.moved hW.alike hK, hE.call hS hFc hU hW⟩⟩ rfl rfl hl.1 rfl (lv_room (Nat.le_of_ble_eq_true rfl)) dX12_of_6 ⟨(Nat.le_of_ble_eq_true rfl), (Nat.le_of_ble_eq_true rfl)⟩) hS (fun q _ h => hFc q h) hFc (fun r3 u t H locs ht hvm hw4 hB _ _ hS => ?_)
  obtain ⟨hT, hF1⟩ := hB
  rw [ht] at hT hF1
  have hF := hF.more hF1 (by decide)
  try dsimp only at hw4
  obtain ⟨h5, hf6⟩ := hw4
  have t7 : (4 : Int32).toInt = 4 := by decide
  refine tw_iald (i := r3) hx hb hK hT hg2 shm_2 rfl (vin_t (a := r3.toInt) rfl (by omega) (by omega)) dX12_of_9 (fun v9 m8 h9 => ?_)
  obtain ⟨x9, rfl, gx9, kx9⟩ := (gp_at h9 (w_wld (by have q9 := tn_of (show r3.toInt = r3.toInt from rfl) (show (0 : Int) ≤ r3.toInt from by omega); omega)))
  exact W.iret (v := x9) hx hb hr (fun t ht hW => ⟨⟨x9, (), rfl, (by exact ⟨(by have q8 := ti_all x9; omega), ⟨r3, by have q9 := (show r3.toInt = r3.toInt from rfl); omega, (el_kept (hF.arr hg2 skm_2 (by decide))).symm.trans m8⟩⟩), by (try dsimp only); rw [ht]; exact ⟨hT, hF⟩⟩, hS.F ht⟩) hS.2.2 dX12_of_10
def w_s_of17 : List Cond := .code yX12_of cX12_of 3 (some .int) :: (HAppend.hAppend (α := List Cond) (β := List Cond) (γ := List Cond) [.fieldLink RX12 9 "SeaLandModel" "world" "[I", .code yX12_at cX12_at 2 (some .int), .methodLink RX12 214 yX12_at, .static yX12_at, .initialized RX12] bs)
set_option maxHeartbeats 4000000 in
set_option maxRecDepth 100000 in
theorem s_of17 (l : Launch) (dC : Nat → ClassId) (dI : Nat → Nat → Nat) (kA : Nat → ClassId) (adK adV : Nat → Nat) (G : gT) (H0 : Heap) (q : Nat → Nat) (wZ wN : Nat → Int) (wH wB wC : Int) (wL wK : Nat → Prop) (wU wV : Nat → Nat) (PI : Nat → Int → Prop) (im : Int) (PM PT : Nat → Int → Prop) (lS lB lE : Nat → Nat → Int → Prop) (lN : Nat → Int) (o0 : Nat) (wk : Int32)  (hT : gH (dC, dI) kA (SHm q (wP wZ wN wH wB wC wL wK wU wV) PI im PM PT lS lB lE lN) G H0) (hr_o0 : G o0 = some 0) (hq0 : 0 ≤ wk.toInt ∧ wk.toInt ≤ 29) (hgz : ∀ i, 0 ≤ wZ i) (hgn : ∀ i, 6500000 ≤ wN i ∧ wN i ≤ 20200000) (hgh : 0 ≤ wH ∧ wH ≤ 40000) (hgb : 0 ≤ wB ∧ wB ≤ 3850000) (hgc : 0 ≤ wC ∧ wC ≤ 30) (hgi : 0 ≤ im ∧ im ≤ 1) (hgu : ∀ a t, G a = some (t + 1) → a = q t) : Met l yX12_of w_s_of17 ({ frames := 1, cells := 0, slots := 0, locals := 21 }) (va_Pc [.ref o0, .int wk, .int 17] (fun U => U.heap = H0 ∧ va_K (dC, dI) vwCl (tyl kA) U ∧ EVS adK adV (gA G H0.size) U U.heap)) (va_Qi (fun (r : Int32) (u : Unit) => (0 ≤ r.toInt ∧ r.toInt ≤ 60) ∧ (∃ ix : Int32, ix.toInt = 785 + 22 * wk.toInt ∧ el H0 (q 1) ix.toNatClampNeg = some (.int r))) (fun (_ : Unit) (t : State) => gH (dC, dI) kA (SHm q (wP wZ wN wH wB wC wL wK wU wV) PI im PM PT lS lB lE lN) G t.heap ∧ gF (dC, dI) SKm G ([] : List (Nat × Nat)) H0 t.heap) (gA G H0.size)) 0 0 (gA G H0.size) := by
  refine Met.ofW (cc := cX12_of) (maxL := 3) (ret := (some .int)) (by decide) rfl ?_
  intro p e s m args below meth c s₁ B hml hv
  obtain ⟨rfl, hH0, hK, hE⟩ := hv
  have hx := B.exec
  have hb := B.bytes
  have hr := B.returns
  have hts := atoms_spec (ws := w_s_of17) B.pre
  have hown : s.vm.findClass RX12 = some m.cls := findClass_of_methodNamed B.named
  have hlocks := B.notSynchronized
  subst hH0
  generalize hAe : gA G s.heap.size = A at hE ⊢
  have hA : ∀ q : Nat, s.heap.size ≤ q → A q := fun q h => by rw [← hAe]; exact Or.inr h
  have hG := gA_of hAe
  have hS : va_S A s.heap s.heap [] := va_S.rf
  have hF : gF (dC, dI) SKm G ([] : List (Nat × Nat)) s.heap s.heap := gF.rf
  have hl := lv_entry ([.ref o0, .int wk, .int 17]) (n := 3) (Nat.le_of_ble_eq_true rfl)
  rw [lg_entry_eq]
  generalize (lg_sl ([.ref o0, .int wk, .int 17]) ++ List.replicate (3 - (lg_sl ([.ref o0, .int wk, .int 17])).length) Slot.unset).toArray = ls at hl ⊢
  have hl : lv_has ls 3 [(0, .ref o0), (1, .int wk), (2, .int 17)] := hl
  refine lv_aload_n hx hb dX12_of_0 rfl (lv_at hl 0 rfl) ?_
  refine tw_get hx hb hts bF_X12 hown hK hT hr_o0 shm_0 rfl 1 (by decide) (ht_at hts 0 rfl) (fun _ h9 => h9) dX12_of_1 (fun v9 m1 h9 => ?_)
  obtain ⟨rfl, hg2⟩ := h9 _ rfl
  refine lv_iload_n hx hb dX12_of_4 rfl (lv_at hl 1 rfl) ?_
  refine lv_iload_n hx hb dX12_of_5 rfl (lv_at hl 2 rfl) ?_
  have hFc := gA_free hG hA hS
  refine va_calli (va_runS (As := [.int wk, .int 17]) (rest := [.ref (q 1)]) ⟨hx, hb, hml, hown, hts⟩ (s_at l dC dI kA adK adV G s.heap q wZ wN wH wB wC wL wK wU wV PI im PM PT lS lB lE lN wk 17 hT (by have q8 := ti_all wk; omega) (rg_t (a := 17) (by decide) (by first | decide | omega) (by first | decide | omega)) hgz hgn hgh hgb hgc hgi hgu) (va_cwS 2 hts (goodIn_app (goodIn_r _ [3, 4, 5] rfl (by decide +kernel)) (goodIn_ca (goodIn_r _ [2] rfl (by decide +kernel)) (bs_in _ _))) rfl rfl rfl (by decide +kernel) ⟨(Nat.le_of_ble_eq_true rfl), (Nat.le_of_ble_eq_true rfl)⟩) ⟨fun a U g mk q => by obtain ⟨q0, q1, qK, qE⟩ := q; exact ⟨q0, q1, va_K.moved (u := U) (U := U.calling g mk a) (Vm.Alike.refl U.vm) qK, EVS.blind g mk a qE⟩, fun U hU hW => ⟨rfl, hU, va_K.moved hW.alike hK, hE.call hS hFc hU hW⟩⟩ rfl rfl hl.1 rfl (lv_room (Nat.le_of_ble_eq_true rfl)) dX12_of_6 ⟨(Nat.le_of_ble_eq_true rfl), (Nat.le_of_ble_eq_true rfl)⟩) hS (fun q _ h => hFc q h) hFc (fun r3 u t H locs ht hvm hw4 hB _ _ hS => ?_)
  obtain ⟨hT, hF1⟩ := hB
  rw [ht] at hT hF1
  have hF := hF.more hF1 (by decide)
  try dsimp only at hw4
  obtain ⟨h5, hf6⟩ := hw4
  have t7 : (17 : Int32).toInt = 17 := by decide
  refine tw_iald (i := r3) hx hb hK hT hg2 shm_2 rfl (vin_t (a := r3.toInt) rfl (by omega) (by omega)) dX12_of_9 (fun v9 m8 h9 => ?_)
  obtain ⟨x9, rfl, gx9, kx9⟩ := (gp_at h9 (w_wsz (by have q9 := tn_of (show r3.toInt = r3.toInt from rfl) (show (0 : Int) ≤ r3.toInt from by omega); omega)))
  exact W.iret (v := x9) hx hb hr (fun t ht hW => ⟨⟨x9, (), rfl, (by exact ⟨(by have q8 := ti_all x9; omega), ⟨r3, by have q9 := (show r3.toInt = r3.toInt from rfl); omega, (el_kept (hF.arr hg2 skm_2 (by decide))).symm.trans m8⟩⟩), by (try dsimp only); rw [ht]; exact ⟨hT, hF⟩⟩, hS.F ht⟩) hS.2.2 dX12_of_10
def w_s_of18 : List Cond := .code yX12_of cX12_of 3 (some .int) :: (HAppend.hAppend (α := List Cond) (β := List Cond) (γ := List Cond) [.fieldLink RX12 9 "SeaLandModel" "world" "[I", .code yX12_at cX12_at 2 (some .int), .methodLink RX12 214 yX12_at, .static yX12_at, .initialized RX12] bs)
set_option maxHeartbeats 4000000 in
set_option maxRecDepth 100000 in
theorem s_of18 (l : Launch) (dC : Nat → ClassId) (dI : Nat → Nat → Nat) (kA : Nat → ClassId) (adK adV : Nat → Nat) (G : gT) (H0 : Heap) (q : Nat → Nat) (wZ wN : Nat → Int) (wH wB wC : Int) (wL wK : Nat → Prop) (wU wV : Nat → Nat) (PI : Nat → Int → Prop) (im : Int) (PM PT : Nat → Int → Prop) (lS lB lE : Nat → Nat → Int → Prop) (lN : Nat → Int) (o0 : Nat) (wk : Int32)  (hT : gH (dC, dI) kA (SHm q (wP wZ wN wH wB wC wL wK wU wV) PI im PM PT lS lB lE lN) G H0) (hr_o0 : G o0 = some 0) (hq0 : 0 ≤ wk.toInt ∧ wk.toInt ≤ 29) (hgz : ∀ i, 0 ≤ wZ i) (hgn : ∀ i, 6500000 ≤ wN i ∧ wN i ≤ 20200000) (hgh : 0 ≤ wH ∧ wH ≤ 40000) (hgb : 0 ≤ wB ∧ wB ≤ 3850000) (hgc : 0 ≤ wC ∧ wC ≤ 30) (hgi : 0 ≤ im ∧ im ≤ 1) (hgu : ∀ a t, G a = some (t + 1) → a = q t) : Met l yX12_of w_s_of18 ({ frames := 1, cells := 0, slots := 0, locals := 21 }) (va_Pc [.ref o0, .int wk, .int 18] (fun U => U.heap = H0 ∧ va_K (dC, dI) vwCl (tyl kA) U ∧ EVS adK adV (gA G H0.size) U U.heap)) (va_Qi (fun (r : Int32) (u : Unit) => (∃ ix : Int32, ix.toInt = 786 + 22 * wk.toInt ∧ el H0 (q 1) ix.toNatClampNeg = some (.int r))) (fun (_ : Unit) (t : State) => gH (dC, dI) kA (SHm q (wP wZ wN wH wB wC wL wK wU wV) PI im PM PT lS lB lE lN) G t.heap ∧ gF (dC, dI) SKm G ([] : List (Nat × Nat)) H0 t.heap) (gA G H0.size)) 0 0 (gA G H0.size) := by
  refine Met.ofW (cc := cX12_of) (maxL := 3) (ret := (some .int)) (by decide) rfl ?_
  intro p e s m args below meth c s₁ B hml hv
  obtain ⟨rfl, hH0, hK, hE⟩ := hv
  have hx := B.exec
  have hb := B.bytes
  have hr := B.returns
  have hts := atoms_spec (ws := w_s_of18) B.pre
  have hown : s.vm.findClass RX12 = some m.cls := findClass_of_methodNamed B.named
  have hlocks := B.notSynchronized
  subst hH0
  generalize hAe : gA G s.heap.size = A at hE ⊢
  have hA : ∀ q : Nat, s.heap.size ≤ q → A q := fun q h => by rw [← hAe]; exact Or.inr h
  have hG := gA_of hAe
  have hS : va_S A s.heap s.heap [] := va_S.rf
  have hF : gF (dC, dI) SKm G ([] : List (Nat × Nat)) s.heap s.heap := gF.rf
  have hl := lv_entry ([.ref o0, .int wk, .int 18]) (n := 3) (Nat.le_of_ble_eq_true rfl)
  rw [lg_entry_eq]
  generalize (lg_sl ([.ref o0, .int wk, .int 18]) ++ List.replicate (3 - (lg_sl ([.ref o0, .int wk, .int 18])).length) Slot.unset).toArray = ls at hl ⊢
  have hl : lv_has ls 3 [(0, .ref o0), (1, .int wk), (2, .int 18)] := hl
  refine lv_aload_n hx hb dX12_of_0 rfl (lv_at hl 0 rfl) ?_
  refine tw_get hx hb hts bF_X12 hown hK hT hr_o0 shm_0 rfl 1 (by decide) (ht_at hts 0 rfl) (fun _ h9 => h9) dX12_of_1 (fun v9 m1 h9 => ?_)
  obtain ⟨rfl, hg2⟩ := h9 _ rfl
  refine lv_iload_n hx hb dX12_of_4 rfl (lv_at hl 1 rfl) ?_
  refine lv_iload_n hx hb dX12_of_5 rfl (lv_at hl 2 rfl) ?_
  have hFc := gA_free hG hA hS
  refine va_calli (va_runS (As := [.int wk, .int 18]) (rest := [.ref (q 1)]) ⟨hx, hb, hml, hown, hts⟩ (s_at l dC dI kA adK adV G s.heap q wZ wN wH wB wC wL wK wU wV PI im PM PT lS lB lE lN wk 18 hT (by have q8 := ti_all wk; omega) (rg_t (a := 18) (by decide) (by first | decide | omega) (by first | decide | omega)) hgz hgn hgh hgb hgc hgi hgu) (va_cwS 2 hts (goodIn_app (goodIn_r _ [3, 4, 5] rfl (by decide +kernel)) (goodIn_ca (goodIn_r _ [2] rfl (by decide +kernel)) (bs_in _ _))) rfl rfl rfl (by decide +kernel) ⟨(Nat.le_of_ble_eq_true rfl), (Nat.le_of_ble_eq_true rfl)⟩) ⟨fun a U g mk q => by obtain ⟨q0, q1, qK, qE⟩ := q; exact ⟨q0, q1, va_K.moved (u := U) (U := U.calling g mk a) (Vm.Alike.refl U.vm) qK, EVS.blind g mk a qE⟩, fun U hU hW => ⟨rfl, hU, va_K.moved hW.alike hK, hE.call hS hFc hU hW⟩⟩ rfl rfl hl.1 rfl (lv_room (Nat.le_of_ble_eq_true rfl)) dX12_of_6 ⟨(Nat.le_of_ble_eq_true rfl), (Nat.le_of_ble_eq_true rfl)⟩) hS (fun q _ h => hFc q h) hFc (fun r3 u t H locs ht hvm hw4 hB _ _ hS => ?_)
  obtain ⟨hT, hF1⟩ := hB
  rw [ht] at hT hF1
  have hF := hF.more hF1 (by decide)
  try dsimp only at hw4
  obtain ⟨h5, hf6⟩ := hw4
  have t7 : (18 : Int32).toInt = 18 := by decide
  refine tw_iald (i := r3) hx hb hK hT hg2 shm_2 rfl (vin_t (a := r3.toInt) rfl (by omega) (by omega)) dX12_of_9 (fun v9 m8 h9 => ?_)
  obtain ⟨x9, rfl, gx9, kx9⟩ := (gp_at h9 (w_fre (by have q9 := tn_of (show r3.toInt = r3.toInt from rfl) (show (0 : Int) ≤ r3.toInt from by omega); omega)))
  exact W.iret (v := x9) hx hb hr (fun t ht hW => ⟨⟨x9, (), rfl, (by exact ⟨r3, by have q9 := (show r3.toInt = r3.toInt from rfl); omega, (el_kept (hF.arr hg2 skm_2 (by decide))).symm.trans m8⟩), by (try dsimp only); rw [ht]; exact ⟨hT, hF⟩⟩, hS.F ht⟩) hS.2.2 dX12_of_10
def w_s_of19 : List Cond := .code yX12_of cX12_of 3 (some .int) :: (HAppend.hAppend (α := List Cond) (β := List Cond) (γ := List Cond) [.fieldLink RX12 9 "SeaLandModel" "world" "[I", .code yX12_at cX12_at 2 (some .int), .methodLink RX12 214 yX12_at, .static yX12_at, .initialized RX12] bs)
set_option maxHeartbeats 4000000 in
set_option maxRecDepth 100000 in
theorem s_of19 (l : Launch) (dC : Nat → ClassId) (dI : Nat → Nat → Nat) (kA : Nat → ClassId) (adK adV : Nat → Nat) (G : gT) (H0 : Heap) (q : Nat → Nat) (wZ wN : Nat → Int) (wH wB wC : Int) (wL wK : Nat → Prop) (wU wV : Nat → Nat) (PI : Nat → Int → Prop) (im : Int) (PM PT : Nat → Int → Prop) (lS lB lE : Nat → Nat → Int → Prop) (lN : Nat → Int) (o0 : Nat) (wk : Int32)  (hT : gH (dC, dI) kA (SHm q (wP wZ wN wH wB wC wL wK wU wV) PI im PM PT lS lB lE lN) G H0) (hr_o0 : G o0 = some 0) (hq0 : 0 ≤ wk.toInt ∧ wk.toInt ≤ 29) (hgz : ∀ i, 0 ≤ wZ i) (hgn : ∀ i, 6500000 ≤ wN i ∧ wN i ≤ 20200000) (hgh : 0 ≤ wH ∧ wH ≤ 40000) (hgb : 0 ≤ wB ∧ wB ≤ 3850000) (hgc : 0 ≤ wC ∧ wC ≤ 30) (hgi : 0 ≤ im ∧ im ≤ 1) (hgu : ∀ a t, G a = some (t + 1) → a = q t) : Met l yX12_of w_s_of19 ({ frames := 1, cells := 0, slots := 0, locals := 21 }) (va_Pc [.ref o0, .int wk, .int 19] (fun U => U.heap = H0 ∧ va_K (dC, dI) vwCl (tyl kA) U ∧ EVS adK adV (gA G H0.size) U U.heap)) (va_Qi (fun (r : Int32) (u : Unit) => (∃ ix : Int32, ix.toInt = 787 + 22 * wk.toInt ∧ el H0 (q 1) ix.toNatClampNeg = some (.int r))) (fun (_ : Unit) (t : State) => gH (dC, dI) kA (SHm q (wP wZ wN wH wB wC wL wK wU wV) PI im PM PT lS lB lE lN) G t.heap ∧ gF (dC, dI) SKm G ([] : List (Nat × Nat)) H0 t.heap) (gA G H0.size)) 0 0 (gA G H0.size) := by
  refine Met.ofW (cc := cX12_of) (maxL := 3) (ret := (some .int)) (by decide) rfl ?_
  intro p e s m args below meth c s₁ B hml hv
  obtain ⟨rfl, hH0, hK, hE⟩ := hv
  have hx := B.exec
  have hb := B.bytes
  have hr := B.returns
  have hts := atoms_spec (ws := w_s_of19) B.pre
  have hown : s.vm.findClass RX12 = some m.cls := findClass_of_methodNamed B.named
  have hlocks := B.notSynchronized
  subst hH0
  generalize hAe : gA G s.heap.size = A at hE ⊢
  have hA : ∀ q : Nat, s.heap.size ≤ q → A q := fun q h => by rw [← hAe]; exact Or.inr h
  have hG := gA_of hAe
  have hS : va_S A s.heap s.heap [] := va_S.rf
  have hF : gF (dC, dI) SKm G ([] : List (Nat × Nat)) s.heap s.heap := gF.rf
  have hl := lv_entry ([.ref o0, .int wk, .int 19]) (n := 3) (Nat.le_of_ble_eq_true rfl)
  rw [lg_entry_eq]
  generalize (lg_sl ([.ref o0, .int wk, .int 19]) ++ List.replicate (3 - (lg_sl ([.ref o0, .int wk, .int 19])).length) Slot.unset).toArray = ls at hl ⊢
  have hl : lv_has ls 3 [(0, .ref o0), (1, .int wk), (2, .int 19)] := hl
  refine lv_aload_n hx hb dX12_of_0 rfl (lv_at hl 0 rfl) ?_
  refine tw_get hx hb hts bF_X12 hown hK hT hr_o0 shm_0 rfl 1 (by decide) (ht_at hts 0 rfl) (fun _ h9 => h9) dX12_of_1 (fun v9 m1 h9 => ?_)
  obtain ⟨rfl, hg2⟩ := h9 _ rfl
  refine lv_iload_n hx hb dX12_of_4 rfl (lv_at hl 1 rfl) ?_
  refine lv_iload_n hx hb dX12_of_5 rfl (lv_at hl 2 rfl) ?_
  have hFc := gA_free hG hA hS
  refine va_calli (va_runS (As := [.int wk, .int 19]) (rest := [.ref (q 1)]) ⟨hx, hb, hml, hown, hts⟩ (s_at l dC dI kA adK adV G s.heap q wZ wN wH wB wC wL wK wU wV PI im PM PT lS lB lE lN wk 19 hT (by have q8 := ti_all wk; omega) (rg_t (a := 19) (by decide) (by first | decide | omega) (by first | decide | omega)) hgz hgn hgh hgb hgc hgi hgu) (va_cwS 2 hts (goodIn_app (goodIn_r _ [3, 4, 5] rfl (by decide +kernel)) (goodIn_ca (goodIn_r _ [2] rfl (by decide +kernel)) (bs_in _ _))) rfl rfl rfl (by decide +kernel) ⟨(Nat.le_of_ble_eq_true rfl), (Nat.le_of_ble_eq_true rfl)⟩) ⟨fun a U g mk q => by obtain ⟨q0, q1, qK, qE⟩ := q; exact ⟨q0, q1, va_K.moved (u := U) (U := U.calling g mk a) (Vm.Alike.refl U.vm) qK, EVS.blind g mk a qE⟩, fun U hU hW => ⟨rfl, hU, va_K.moved hW.alike hK, hE.call hS hFc hU hW⟩⟩ rfl rfl hl.1 rfl (lv_room (Nat.le_of_ble_eq_true rfl)) dX12_of_6 ⟨(Nat.le_of_ble_eq_true rfl), (Nat.le_of_ble_eq_true rfl)⟩) hS (fun q _ h => hFc q h) hFc (fun r3 u t H locs ht hvm hw4 hB _ _ hS => ?_)
  obtain ⟨hT, hF1⟩ := hB
  rw [ht] at hT hF1
  have hF := hF.more hF1 (by decide)
  try dsimp only at hw4
  obtain ⟨h5, hf6⟩ := hw4
  have t7 : (19 : Int32).toInt = 19 := by decide
  refine tw_iald (i := r3) hx hb hK hT hg2 shm_2 rfl (vin_t (a := r3.toInt) rfl (by omega) (by omega)) dX12_of_9 (fun v9 m8 h9 => ?_)
  obtain ⟨x9, rfl, gx9, kx9⟩ := (gp_at h9 (w_fre (by have q9 := tn_of (show r3.toInt = r3.toInt from rfl) (show (0 : Int) ≤ r3.toInt from by omega); omega)))
  exact W.iret (v := x9) hx hb hr (fun t ht hW => ⟨⟨x9, (), rfl, (by exact ⟨r3, by have q9 := (show r3.toInt = r3.toInt from rfl); omega, (el_kept (hF.arr hg2 skm_2 (by decide))).symm.trans m8⟩), by (try dsimp only); rw [ht]; exact ⟨hT, hF⟩⟩, hS.F ht⟩) hS.2.2 dX12_of_10
def w_s_of20 : List Cond := .code yX12_of cX12_of 3 (some .int) :: (HAppend.hAppend (α := List Cond) (β := List Cond) (γ := List Cond) [.fieldLink RX12 9 "SeaLandModel" "world" "[I", .code yX12_at cX12_at 2 (some .int), .methodLink RX12 214 yX12_at, .static yX12_at, .initialized RX12] bs)
set_option maxHeartbeats 4000000 in
set_option maxRecDepth 100000 in
theorem s_of20 (l : Launch) (dC : Nat → ClassId) (dI : Nat → Nat → Nat) (kA : Nat → ClassId) (adK adV : Nat → Nat) (G : gT) (H0 : Heap) (q : Nat → Nat) (wZ wN : Nat → Int) (wH wB wC : Int) (wL wK : Nat → Prop) (wU wV : Nat → Nat) (PI : Nat → Int → Prop) (im : Int) (PM PT : Nat → Int → Prop) (lS lB lE : Nat → Nat → Int → Prop) (lN : Nat → Int) (o0 : Nat) (wk : Int32)  (hT : gH (dC, dI) kA (SHm q (wP wZ wN wH wB wC wL wK wU wV) PI im PM PT lS lB lE lN) G H0) (hr_o0 : G o0 = some 0) (hq0 : 0 ≤ wk.toInt ∧ wk.toInt ≤ 29) (hgz : ∀ i, 0 ≤ wZ i) (hgn : ∀ i, 6500000 ≤ wN i ∧ wN i ≤ 20200000) (hgh : 0 ≤ wH ∧ wH ≤ 40000) (hgb : 0 ≤ wB ∧ wB ≤ 3850000) (hgc : 0 ≤ wC ∧ wC ≤ 30) (hgi : 0 ≤ im ∧ im ≤ 1) (hgu : ∀ a t, G a = some (t + 1) → a = q t) : Met l yX12_of w_s_of20 ({ frames := 1, cells := 0, slots := 0, locals := 21 }) (va_Pc [.ref o0, .int wk, .int 20] (fun U => U.heap = H0 ∧ va_K (dC, dI) vwCl (tyl kA) U ∧ EVS adK adV (gA G H0.size) U U.heap)) (va_Qi (fun (r : Int32) (u : Unit) => (∃ ix : Int32, ix.toInt = 788 + 22 * wk.toInt ∧ el H0 (q 1) ix.toNatClampNeg = some (.int r))) (fun (_ : Unit) (t : State) => gH (dC, dI) kA (SHm q (wP wZ wN wH wB wC wL wK wU wV) PI im PM PT lS lB lE lN) G t.heap ∧ gF (dC, dI) SKm G ([] : List (Nat × Nat)) H0 t.heap) (gA G H0.size)) 0 0 (gA G H0.size) := by
  refine Met.ofW (cc := cX12_of) (maxL := 3) (ret := (some .int)) (by decide) rfl ?_
  intro p e s m args below meth c s₁ B hml hv
  obtain ⟨rfl, hH0, hK, hE⟩ := hv
  have hx := B.exec
  have hb := B.bytes
  have hr := B.returns
  have hts := atoms_spec (ws := w_s_of20) B.pre
  have hown : s.vm.findClass RX12 = some m.cls := findClass_of_methodNamed B.named
  have hlocks := B.notSynchronized
  subst hH0
  generalize hAe : gA G s.heap.size = A at hE ⊢
  have hA : ∀ q : Nat, s.heap.size ≤ q → A q := fun q h => by rw [← hAe]; exact Or.inr h
  have hG := gA_of hAe
  have hS : va_S A s.heap s.heap [] := va_S.rf
  have hF : gF (dC, dI) SKm G ([] : List (Nat × Nat)) s.heap s.heap := gF.rf
  have hl := lv_entry ([.ref o0, .int wk, .int 20]) (n := 3) (Nat.le_of_ble_eq_true rfl)
  rw [lg_entry_eq]
  generalize (lg_sl ([.ref o0, .int wk, .int 20]) ++ List.replicate (3 - (lg_sl ([.ref o0, .int wk, .int 20])).length) Slot.unset).toArray = ls at hl ⊢
  have hl : lv_has ls 3 [(0, .ref o0), (1, .int wk), (2, .int 20)] := hl
  refine lv_aload_n hx hb dX12_of_0 rfl (lv_at hl 0 rfl) ?_
  refine tw_get hx hb hts bF_X12 hown hK hT hr_o0 shm_0 rfl 1 (by decide) (ht_at hts 0 rfl) (fun _ h9 => h9) dX12_of_1 (fun v9 m1 h9 => ?_)
  obtain ⟨rfl, hg2⟩ := h9 _ rfl
  refine lv_iload_n hx hb dX12_of_4 rfl (lv_at hl 1 rfl) ?_
  refine lv_iload_n hx hb dX12_of_5 rfl (lv_at hl 2 rfl) ?_
  have hFc := gA_free hG hA hS
  refine va_calli (va_runS (As := [.int wk, .int 20]) (rest := [.ref (q 1)]) ⟨hx, hb, hml, hown, hts⟩ (s_at l dC dI kA adK adV G s.heap q wZ wN wH wB wC wL wK wU wV PI im PM PT lS lB lE lN wk 20 hT (by have q8 := ti_all wk; omega) (rg_t (a := 20) (by decide) (by first | decide | omega) (by first | decide | omega)) hgz hgn hgh hgb hgc hgi hgu) (va_cwS 2 hts (goodIn_app (goodIn_r _ [3, 4, 5] rfl (by decide +kernel)) (goodIn_ca (goodIn_r _ [2] rfl (by decide +kernel)) (bs_in _ _))) rfl rfl rfl (by decide +kernel) ⟨(Nat.le_of_ble_eq_true rfl), (Nat.le_of_ble_eq_true rfl)⟩) ⟨fun a U g mk q => by obtain ⟨q0, q1, qK, qE⟩ := q; exact ⟨q0, q1, va_K.moved (u := U) (U := U.calling g mk a) (Vm.Alike.refl U.vm) qK, EVS.blind g mk a qE⟩, fun U hU hW => ⟨rfl, hU, va_K.moved hW.alike hK, hE.call hS hFc hU hW⟩⟩ rfl rfl hl.1 rfl (lv_room (Nat.le_of_ble_eq_true rfl)) dX12_of_6 ⟨(Nat.le_of_ble_eq_true rfl), (Nat.le_of_ble_eq_true rfl)⟩) hS (fun q _ h => hFc q h) hFc (fun r3 u t H locs ht hvm hw4 hB _ _ hS => ?_)
  obtain ⟨hT, hF1⟩ := hB
  rw [ht] at hT hF1
  have hF := hF.more hF1 (by decide)
  try dsimp only at hw4
  obtain ⟨h5, hf6⟩ := hw4
  have t7 : (20 : Int32).toInt = 20 := by decide
  refine tw_iald (i := r3) hx hb hK hT hg2 shm_2 rfl (vin_t (a := r3.toInt) rfl (by omega) (by omega)) dX12_of_9 (fun v9 m8 h9 => ?_)
  obtain ⟨x9, rfl, gx9, kx9⟩ := (gp_at h9 (w_fre (by have q9 := tn_of (show r3.toInt = r3.toInt from rfl) (show (0 : Int) ≤ r3.toInt from by omega); omega)))
  exact W.iret (v := x9) hx hb hr (fun t ht hW => ⟨⟨x9, (), rfl, (by exact ⟨r3, by have q9 := (show r3.toInt = r3.toInt from rfl); omega, (el_kept (hF.arr hg2 skm_2 (by decide))).symm.trans m8⟩), by (try dsimp only); rw [ht]; exact ⟨hT, hF⟩⟩, hS.F ht⟩) hS.2.2 dX12_of_10
def w_s_of21 : List Cond := .code yX12_of cX12_of 3 (some .int) :: (HAppend.hAppend (α := List Cond) (β := List Cond) (γ := List Cond) [.fieldLink RX12 9 "SeaLandModel" "world" "[I", .code yX12_at cX12_at 2 (some .int), .methodLink RX12 214 yX12_at, .static yX12_at, .initialized RX12] bs)
set_option maxHeartbeats 4000000 in
set_option maxRecDepth 100000 in
theorem s_of21 (l : Launch) (dC : Nat → ClassId) (dI : Nat → Nat → Nat) (kA : Nat → ClassId) (adK adV : Nat → Nat) (G : gT) (H0 : Heap) (q : Nat → Nat) (wZ wN : Nat → Int) (wH wB wC : Int) (wL wK : Nat → Prop) (wU wV : Nat → Nat) (PI : Nat → Int → Prop) (im : Int) (PM PT : Nat → Int → Prop) (lS lB lE : Nat → Nat → Int → Prop) (lN : Nat → Int) (o0 : Nat) (wk : Int32)  (hT : gH (dC, dI) kA (SHm q (wP wZ wN wH wB wC wL wK wU wV) PI im PM PT lS lB lE lN) G H0) (hr_o0 : G o0 = some 0) (hq0 : 0 ≤ wk.toInt ∧ wk.toInt ≤ 29) (hgz : ∀ i, 0 ≤ wZ i) (hgn : ∀ i, 6500000 ≤ wN i ∧ wN i ≤ 20200000) (hgh : 0 ≤ wH ∧ wH ≤ 40000) (hgb : 0 ≤ wB ∧ wB ≤ 3850000) (hgc : 0 ≤ wC ∧ wC ≤ 30) (hgi : 0 ≤ im ∧ im ≤ 1) (hgu : ∀ a t, G a = some (t + 1) → a = q t) : Met l yX12_of w_s_of21 ({ frames := 1, cells := 0, slots := 0, locals := 21 }) (va_Pc [.ref o0, .int wk, .int 21] (fun U => U.heap = H0 ∧ va_K (dC, dI) vwCl (tyl kA) U ∧ EVS adK adV (gA G H0.size) U U.heap)) (va_Qi (fun (r : Int32) (u : Unit) => (∃ ix : Int32, ix.toInt = 789 + 22 * wk.toInt ∧ el H0 (q 1) ix.toNatClampNeg = some (.int r))) (fun (_ : Unit) (t : State) => gH (dC, dI) kA (SHm q (wP wZ wN wH wB wC wL wK wU wV) PI im PM PT lS lB lE lN) G t.heap ∧ gF (dC, dI) SKm G ([] : List (Nat × Nat)) H0 t.heap) (gA G H0.size)) 0 0 (gA G H0.size) := by
  refine Met.ofW (cc := cX12_of) (maxL := 3) (ret := (some .int)) (by decide) rfl ?_
  intro p e s m args below meth c s₁ B hml hv
  obtain ⟨rfl, hH0, hK, hE⟩ := hv
  have hx := B.exec
  have hb := B.bytes
  have hr := B.returns
  have hts := atoms_spec (ws := w_s_of21) B.pre
  have hown : s.vm.findClass RX12 = some m.cls := findClass_of_methodNamed B.named
  have hlocks := B.notSynchronized
  subst hH0
  generalize hAe : gA G s.heap.size = A at hE ⊢
  have hA : ∀ q : Nat, s.heap.size ≤ q → A q := fun q h => by rw [← hAe]; exact Or.inr h
  have hG := gA_of hAe
  have hS : va_S A s.heap s.heap [] := va_S.rf
  have hF : gF (dC, dI) SKm G ([] : List (Nat × Nat)) s.heap s.heap := gF.rf
  have hl := lv_entry ([.ref o0, .int wk, .int 21]) (n := 3) (Nat.le_of_ble_eq_true rfl)
  rw [lg_entry_eq]
  generalize (lg_sl ([.ref o0, .int wk, .int 21]) ++ List.replicate (3 - (lg_sl ([.ref o0, .int wk, .int 21])).length) Slot.unset).toArray = ls at hl ⊢
  have hl : lv_has ls 3 [(0, .ref o0), (1, .int wk), (2, .int 21)] := hl
  refine lv_aload_n hx hb dX12_of_0 rfl (lv_at hl 0 rfl) ?_
  refine tw_get hx hb hts bF_X12 hown hK hT hr_o0 shm_0 rfl 1 (by decide) (ht_at hts 0 rfl) (fun _ h9 => h9) dX12_of_1 (fun v9 m1 h9 => ?_)
  obtain ⟨rfl, hg2⟩ := h9 _ rfl
  refine lv_iload_n hx hb dX12_of_4 rfl (lv_at hl 1 rfl) ?_
  refine lv_iload_n hx hb dX12_of_5 rfl (lv_at hl 2 rfl) ?_
  have hFc := gA_free hG hA hS
  refine va_calli (va_runS (As := [.int wk, .int 21]) (rest := [.ref (q 1)]) ⟨hx, hb, hml, hown, hts⟩ (s_at l dC dI kA adK adV G s.heap q wZ wN wH wB wC wL wK wU wV PI im PM PT lS lB lE lN wk 21 hT (by have q8 := ti_all wk; omega) (rg_t (a := 21) (by decide) (by first | decide | omega) (by first | decide | omega)) hgz hgn hgh hgb hgc hgi hgu) (va_cwS 2 hts (goodIn_app (goodIn_r _ [3, 4, 5] rfl (by decide +kernel)) (goodIn_ca (goodIn_r _ [2] rfl (by decide +kernel)) (bs_in _ _))) rfl rfl rfl (by decide +kernel) ⟨(Nat.le_of_ble_eq_true rfl), (Nat.le_of_ble_eq_true rfl)⟩) ⟨fun a U g mk q => by obtain ⟨q0, q1, qK, qE⟩ := q; exact ⟨q0, q1, va_K.moved (u := U) (U := U.calling g mk a) (Vm.Alike.refl U.vm) qK, EVS.blind g mk a qE⟩, fun U hU hW => ⟨rfl, hU, va_K.moved hW.alike hK, hE.call hS hFc hU hW⟩⟩ rfl rfl hl.1 rfl (lv_room (Nat.le_of_ble_eq_true rfl)) dX12_of_6 ⟨(Nat.le_of_ble_eq_true rfl), (Nat.le_of_ble_eq_true rfl)⟩) hS (fun q _ h => hFc q h) hFc (fun r3 u t H locs ht hvm hw4 hB _ _ hS => ?_)
  obtain ⟨hT, hF1⟩ := hB
  rw [ht] at hT hF1
  have hF := hF.more hF1 (by decide)
  try dsimp only at hw4
  obtain ⟨h5, hf6⟩ := hw4
  have t7 : (21 : Int32).toInt = 21 := by decide
  refine tw_iald (i := r3) hx hb hK hT hg2 shm_2 rfl (vin_t (a := r3.toInt) rfl (by omega) (by omega)) dX12_of_9 (fun v9 m8 h9 => ?_)
  obtain ⟨x9, rfl, gx9, kx9⟩ := (gp_at h9 (w_fre (by have q9 := tn_of (show r3.toInt = r3.toInt from rfl) (show (0 : Int) ≤ r3.toInt from by omega); omega)))
  exact W.iret (v := x9) hx hb hr (fun t ht hW => ⟨⟨x9, (), rfl, (by exact ⟨r3, by have q9 := (show r3.toInt = r3.toInt from rfl); omega, (el_kept (hF.arr hg2 skm_2 (by decide))).symm.trans m8⟩), by (try dsimp only); rw [ht]; exact ⟨hT, hF⟩⟩, hS.F ht⟩) hS.2.2 dX12_of_10
def w_s_ofT : List Cond := .code yX12_of cX12_of 3 (some .int) :: (HAppend.hAppend (α := List Cond) (β := List Cond) (γ := List Cond) [.fieldLink RX12 9 "SeaLandModel" "world" "[I", .code yX12_at cX12_at 2 (some .int), .methodLink RX12 214 yX12_at, .static yX12_at, .initialized RX12] bs)
set_option maxHeartbeats 4000000 in
set_option maxRecDepth 100000 in
theorem s_ofT (l : Launch) (dC : Nat → ClassId) (dI : Nat → Nat → Nat) (kA : Nat → ClassId) (adK adV : Nat → Nat) (G : gT) (H0 : Heap) (q : Nat → Nat) (wZ wN : Nat → Int) (wH wB wC : Int) (wL wK : Nat → Prop) (wU wV : Nat → Nat) (PI : Nat → Int → Prop) (im : Int) (PM PT : Nat → Int → Prop) (lS lB lE : Nat → Nat → Int → Prop) (lN : Nat → Int) (o0 : Nat) (wk : Int32) (wt : Int32)  (hT : gH (dC, dI) kA (SHm q (wP wZ wN wH wB wC wL wK wU wV) PI im PM PT lS lB lE lN) G H0) (hr_o0 : G o0 = some 0) (hq0 : 0 ≤ wk.toInt ∧ wk.toInt ≤ 29) (hq1 : 5 ≤ wt.toInt ∧ wt.toInt ≤ 10) (hgz : ∀ i, 0 ≤ wZ i) (hgn : ∀ i, 6500000 ≤ wN i ∧ wN i ≤ 20200000) (hgh : 0 ≤ wH ∧ wH ≤ 40000) (hgb : 0 ≤ wB ∧ wB ≤ 3850000) (hgc : 0 ≤ wC ∧ wC ≤ 30) (hgi : 0 ≤ im ∧ im ≤ 1) (hgu : ∀ a t, G a = some (t + 1) → a = q t) : Met l yX12_of w_s_ofT ({ frames := 1, cells := 0, slots := 0, locals := 21 }) (va_Pc [.ref o0, .int wk, .int wt] (fun U => U.heap = H0 ∧ va_K (dC, dI) vwCl (tyl kA) U ∧ EVS adK adV (gA G H0.size) U U.heap)) (va_Qi (fun (r : Int32) (u : Unit) => (∃ ix : Int32, ix.toInt = 768 + 22 * wk.toInt + wt.toInt ∧ el H0 (q 1) ix.toNatClampNeg = some (.int r))) (fun (_ : Unit) (t : State) => gH (dC, dI) kA (SHm q (wP wZ wN wH wB wC wL wK wU wV) PI im PM PT lS lB lE lN) G t.heap ∧ gF (dC, dI) SKm G ([] : List (Nat × Nat)) H0 t.heap) (gA G H0.size)) 0 0 (gA G H0.size) := by
  refine Met.ofW (cc := cX12_of) (maxL := 3) (ret := (some .int)) (by decide) rfl ?_
  intro p e s m args below meth c s₁ B hml hv
  obtain ⟨rfl, hH0, hK, hE⟩ := hv
  have hx := B.exec
  have hb := B.bytes
  have hr := B.returns
  have hts := atoms_spec (ws := w_s_ofT) B.pre
  have hown : s.vm.findClass RX12 = some m.cls := findClass_of_methodNamed B.named
  have hlocks := B.notSynchronized
  subst hH0
  generalize hAe : gA G s.heap.size = A at hE ⊢
  have hA : ∀ q : Nat, s.heap.size ≤ q → A q := fun q h => by rw [← hAe]; exact Or.inr h
  have hG := gA_of hAe
  have hS : va_S A s.heap s.heap [] := va_S.rf
  have hF : gF (dC, dI) SKm G ([] : List (Nat × Nat)) s.heap s.heap := gF.rf
  have hl := lv_entry ([.ref o0, .int wk, .int wt]) (n := 3) (Nat.le_of_ble_eq_true rfl)
  rw [lg_entry_eq]
  generalize (lg_sl ([.ref o0, .int wk, .int wt]) ++ List.replicate (3 - (lg_sl ([.ref o0, .int wk, .int wt])).length) Slot.unset).toArray = ls at hl ⊢
  have hl : lv_has ls 3 [(0, .ref o0), (1, .int wk), (2, .int wt)] := hl
  refine lv_aload_n hx hb dX12_of_0 rfl (lv_at hl 0 rfl) ?_
  refine tw_get hx hb hts bF_X12 hown hK hT hr_o0 shm_0 rfl 1 (by decide) (ht_at hts 0 rfl) (fun _ h9 => h9) dX12_of_1 (fun v9 m1 h9 => ?_)
  obtain ⟨rfl, hg2⟩ := h9 _ rfl
  refine lv_iload_n hx hb dX12_of_4 rfl (lv_at hl 1 rfl) ?_
  refine lv_iload_n hx hb dX12_of_5 rfl (lv_at hl 2 rfl) ?_
  have hFc := gA_free hG hA hS
  refine va_calli (va_runS (As := [.int wk, .int wt]) (rest := [.ref (q 1)]) ⟨hx, hb, hml, hown, hts⟩ (s_at l dC dI kA adK adV G s.heap q wZ wN wH wB wC wL wK wU wV PI im PM PT lS lB lE lN wk wt hT (by have q8 := ti_all wk; omega) (by have q8 := ti_all wt; omega) hgz hgn hgh hgb hgc hgi hgu) (va_cwS 2 hts (goodIn_app (goodIn_r _ [3, 4, 5] rfl (by decide +kernel)) (goodIn_ca (goodIn_r _ [2] rfl (by decide +kernel)) (bs_in _ _))) rfl rfl rfl (by decide +kernel) ⟨(Nat.le_of_ble_eq_true rfl), (Nat.le_of_ble_eq_true rfl)⟩) ⟨fun a U g mk q => by obtain ⟨q0, q1, qK, qE⟩ := q; exact ⟨q0, q1, va_K.moved (u := U) (U := U.calling g mk a) (Vm.Alike.refl U.vm) qK, EVS.blind g mk a qE⟩, fun U hU hW => ⟨rfl, hU, va_K.moved hW.alike hK, hE.call hS hFc hU hW⟩⟩ rfl rfl hl.1 rfl (lv_room (Nat.le_of_ble_eq_true rfl)) dX12_of_6 ⟨(Nat.le_of_ble_eq_true rfl), (Nat.le_of_ble_eq_true rfl)⟩) hS (fun q _ h => hFc q h) hFc (fun r3 u t H locs ht hvm hw4 hB _ _ hS => ?_)
  obtain ⟨hT, hF1⟩ := hB
  rw [ht] at hT hF1
  have hF := hF.more hF1 (by decide)
  try dsimp only at hw4
  obtain ⟨h5, hf6⟩ := hw4
  refine tw_iald (i := r3) hx hb hK hT hg2 shm_2 rfl (vin_t (a := r3.toInt) rfl (by omega) (by omega)) dX12_of_9 (fun v9 m7 h9 => ?_)
  obtain ⟨x8, rfl, gx8, kx8⟩ := (gp_at h9 (w_fre (by have q9 := tn_of (show r3.toInt = r3.toInt from rfl) (show (0 : Int) ≤ r3.toInt from by omega); omega)))
  exact W.iret (v := x8) hx hb hr (fun t ht hW => ⟨⟨x8, (), rfl, (by exact ⟨r3, by have q9 := (show r3.toInt = r3.toInt from rfl); omega, (el_kept (hF.arr hg2 skm_2 (by decide))).symm.trans m7⟩), by (try dsimp only); rw [ht]; exact ⟨hT, hF⟩⟩, hS.F ht⟩) hS.2.2 dX12_of_10
def w_s_ofC : List Cond := .code yX12_of cX12_of 3 (some .int) :: (HAppend.hAppend (α := List Cond) (β := List Cond) (γ := List Cond) [.fieldLink RX12 9 "SeaLandModel" "world" "[I", .code yX12_at cX12_at 2 (some .int), .methodLink RX12 214 yX12_at, .static yX12_at, .initialized RX12] bs)
set_option maxHeartbeats 4000000 in
set_option maxRecDepth 100000 in
theorem s_ofC (l : Launch) (dC : Nat → ClassId) (dI : Nat → Nat → Nat) (kA : Nat → ClassId) (adK adV : Nat → Nat) (G : gT) (H0 : Heap) (q : Nat → Nat) (wZ wN : Nat → Int) (wH wB wC : Int) (wL wK : Nat → Prop) (wU wV : Nat → Nat) (PI : Nat → Int → Prop) (im : Int) (PM PT : Nat → Int → Prop) (lS lB lE : Nat → Nat → Int → Prop) (lN : Nat → Int) (o0 : Nat) (wk : Int32) (wt : Int32)  (hT : gH (dC, dI) kA (SHm q (wP wZ wN wH wB wC wL wK wU wV) PI im PM PT lS lB lE lN) G H0) (hr_o0 : G o0 = some 0) (hq0 : 0 ≤ wk.toInt ∧ wk.toInt ≤ 29) (hq1 : 11 ≤ wt.toInt ∧ wt.toInt ≤ 16) (hgz : ∀ i, 0 ≤ wZ i) (hgn : ∀ i, 6500000 ≤ wN i ∧ wN i ≤ 20200000) (hgh : 0 ≤ wH ∧ wH ≤ 40000) (hgb : 0 ≤ wB ∧ wB ≤ 3850000) (hgc : 0 ≤ wC ∧ wC ≤ 30) (hgi : 0 ≤ im ∧ im ≤ 1) (hgu : ∀ a t, G a = some (t + 1) → a = q t) : Met l yX12_of w_s_ofC ({ frames := 1, cells := 0, slots := 0, locals := 21 }) (va_Pc [.ref o0, .int wk, .int wt] (fun U => U.heap = H0 ∧ va_K (dC, dI) vwCl (tyl kA) U ∧ EVS adK adV (gA G H0.size) U U.heap)) (va_Qi (fun (r : Int32) (u : Unit) => (0 ≤ r.toInt ∧ r.toInt ≤ 9) ∧ (∃ ix : Int32, ix.toInt = 768 + 22 * wk.toInt + wt.toInt ∧ el H0 (q 1) ix.toNatClampNeg = some (.int r))) (fun (_ : Unit) (t : State) => gH (dC, dI) kA (SHm q (wP wZ wN wH wB wC wL wK wU wV) PI im PM PT lS lB lE lN) G t.heap ∧ gF (dC, dI) SKm G ([] : List (Nat × Nat)) H0 t.heap) (gA G H0.size)) 0 0 (gA G H0.size) := by
  refine Met.ofW (cc := cX12_of) (maxL := 3) (ret := (some .int)) (by decide) rfl ?_
  intro p e s m args below meth c s₁ B hml hv
  obtain ⟨rfl, hH0, hK, hE⟩ := hv
  have hx := B.exec
  have hb := B.bytes
  have hr := B.returns
  have hts := atoms_spec (ws := w_s_ofC) B.pre
  have hown : s.vm.findClass RX12 = some m.cls := findClass_of_methodNamed B.named
  have hlocks := B.notSynchronized
  subst hH0
  generalize hAe : gA G s.heap.size = A at hE ⊢
  have hA : ∀ q : Nat, s.heap.size ≤ q → A q := fun q h => by rw [← hAe]; exact Or.inr h
  have hG := gA_of hAe
  have hS : va_S A s.heap s.heap [] := va_S.rf
  have hF : gF (dC, dI) SKm G ([] : List (Nat × Nat)) s.heap s.heap := gF.rf
  have hl := lv_entry ([.ref o0, .int wk, .int wt]) (n := 3) (Nat.le_of_ble_eq_true rfl)
  rw [lg_entry_eq]
  generalize (lg_sl ([.ref o0, .int wk, .int wt]) ++ List.replicate (3 - (lg_sl ([.ref o0, .int wk, .int wt])).length) Slot.unset).toArray = ls at hl ⊢
  have hl : lv_has ls 3 [(0, .ref o0), (1, .int wk), (2, .int wt)] := hl
  refine lv_aload_n hx hb dX12_of_0 rfl (lv_at hl 0 rfl) ?_
  refine tw_get hx hb hts bF_X12 hown hK hT hr_o0 shm_0 rfl 1 (by decide) (ht_at hts 0 rfl) (fun _ h9 => h9) dX12_of_1 (fun v9 m1 h9 => ?_)
  obtain ⟨rfl, hg2⟩ := h9 _ rfl
  refine lv_iload_n hx hb dX12_of_4 rfl (lv_at hl 1 rfl) ?_
  refine lv_iload_n hx hb dX12_of_5 rfl (lv_at hl 2 rfl) ?_
  have hFc := gA_free hG hA hS
  refine va_calli (va_runS (As := [.int wk, .int wt]) (rest := [.ref (q 1)]) ⟨hx, hb, hml, hown, hts⟩ (s_at l dC dI kA adK adV G s.heap q wZ wN wH wB wC wL wK wU wV PI im PM PT lS lB lE lN wk wt hT (by have q8 := ti_all wk; omega) (by have q8 := ti_all wt; omega) hgz hgn hgh hgb hgc hgi hgu) (va_cwS 2 hts (goodIn_app (goodIn_r _ [3, 4, 5] rfl (by decide +kernel)) (goodIn_ca (goodIn_r _ [2] rfl (by decide +kernel)) (bs_in _ _))) rfl rfl rfl (by decide +kernel) ⟨(Nat.le_of_ble_eq_true rfl), (Nat.le_of_ble_eq_true rfl)⟩) ⟨fun a U g mk q => by obtain ⟨q0, q1, qK, qE⟩ := q; exact ⟨q0, q1, va_K.moved (u := U) (U := U.calling g mk a) (Vm.Alike.refl U.vm) qK, EVS.blind g mk a qE⟩, fun U hU hW => ⟨rfl, hU, va_K.moved hW.alike hK, hE.call hS hFc hU hW⟩⟩ rfl rfl hl.1 rfl (lv_room (Nat.le_of_ble_eq_true rfl)) dX12_of_6 ⟨(Nat.le_of_ble_eq_true rfl), (Nat.le_of_ble_eq_true rfl)⟩) hS (fun q _ h => hFc q h) hFc (fun r3 u t H locs ht hvm hw4 hB _ _ hS => ?_)
  obtain ⟨hT, hF1⟩ := hB
  rw [ht] at hT hF1
  have hF := hF.more hF1 (by decide)
  try dsimp only at hw4
  obtain ⟨h5, hf6⟩ := hw4
  refine tw_iald (i := r3) hx hb hK hT hg2 shm_2 rfl (vin_t (a := r3.toInt) rfl (by omega) (by omega)) dX12_of_9 (fun v9 m7 h9 => ?_)
  obtain ⟨x8, rfl, gx8, kx8⟩ := (gp_at h9 (w_wcl (by have q9 := tn_of (show r3.toInt = r3.toInt from rfl) (show (0 : Int) ≤ r3.toInt from by omega); omega)))
  exact W.iret (v := x8) hx hb hr (fun t ht hW => ⟨⟨x8, (), rfl, (by exact ⟨(by have q8 := ti_all x8; omega), ⟨r3, by have q9 := (show r3.toInt = r3.toInt from rfl); omega, (el_kept (hF.arr hg2 skm_2 (by decide))).symm.trans m7⟩⟩), by (try dsimp only); rw [ht]; exact ⟨hT, hF⟩⟩, hS.F ht⟩) hS.2.2 dX12_of_10
def w_s_noWork : List Cond := .code yX12_noWork cX12_noWork 2 (some .boolean) :: (HAppend.hAppend (α := List Cond) (β := List Cond) (γ := List Cond) [.fieldLink RX12 9 "SeaLandModel" "world" "[I", .code yX12_in cX12_in 3 (some .boolean), .methodLink RX12 197 yX12_in, .static yX12_in, .initialized RX12] bs)
set_option maxHeartbeats 4000000 in
set_option maxRecDepth 100000 in
theorem s_noWork (l : Launch) (dC : Nat → ClassId) (dI : Nat → Nat → Nat) (kA : Nat → ClassId) (adK adV : Nat → Nat) (G : gT) (H0 : Heap) (q : Nat → Nat) (wZ wN : Nat → Int) (wH wB wC : Int) (wL wK : Nat → Prop) (wU wV : Nat → Nat) (PI : Nat → Int → Prop) (im : Int) (PM PT : Nat → Int → Prop) (lS lB lE : Nat → Nat → Int → Prop) (lN : Nat → Int) (o0 : Nat) (wk : Int32)  (hT : gH (dC, dI) kA (SHm q (wP wZ wN wH wB wC wL wK wU wV) PI im PM PT lS lB lE lN) G H0) (hr_o0 : G o0 = some 0) (hgz : ∀ i, 0 ≤ wZ i) (hgn : ∀ i, 6500000 ≤ wN i ∧ wN i ≤ 20200000) (hgh : 0 ≤ wH ∧ wH ≤ 40000) (hgb : 0 ≤ wB ∧ wB ≤ 3850000) (hgc : 0 ≤ wC ∧ wC ≤ 30) (hgi : 0 ≤ im ∧ im ≤ 1) (hgu : ∀ a t, G a = some (t + 1) → a = q t) : Met l yX12_noWork w_s_noWork ({ frames := 1, cells := 0, slots := 0, locals := 22 }) (va_Pc [.ref o0, .int wk] (fun U => U.heap = H0 ∧ va_K (dC, dI) vwCl (tyl kA) U ∧ EVS adK adV (gA G H0.size) U U.heap)) (va_Qi (fun (r : Int32) (u : Unit) => (0 ≤ r.toInt ∧ r.toInt ≤ 1) ∧ (r = 0 → 0 ≤ wk.toInt ∧ wk.toInt ≤ 29 ∧ wk.toInt < wC)) (fun (_ : Unit) (t : State) => gH (dC, dI) kA (SHm q (wP wZ wN wH wB wC wL wK wU wV) PI im PM PT lS lB lE lN) G t.heap ∧ gF (dC, dI) SKm G ([] : List (Nat × Nat)) H0 t.heap) (gA G H0.size)) 0 0 (gA G H0.size) := by
  refine Met.ofW (cc := cX12_noWork) (maxL := 2) (ret := (some .boolean)) (by decide) rfl ?_
  intro p e s m args below meth c s₁ B hml hv
  obtain ⟨rfl, hH0, hK, hE⟩ := hv
  have hx := B.exec
  have hb := B.bytes
  have hr := B.returns
  have hts := atoms_spec (ws := w_s_noWork) B.pre
  have hown : s.vm.findClass RX12 = some m.cls := findClass_of_methodNamed B.named
  have hlocks := B.notSynchronized
  subst hH0
  generalize hAe : gA G s.heap.size = A at hE ⊢
  have hA : ∀ q : Nat, s.heap.size ≤ q → A q := fun q h => by rw [← hAe]; exact Or.inr h
  have hG := gA_of hAe
  have hS : va_S A s.heap s.heap [] := va_S.rf
  have hF : gF (dC, dI) SKm G ([] : List (Nat × Nat)) s.heap s.heap := gF.rf
  have hl := lv_entry ([.ref o0, .int wk]) (n := 2) (Nat.le_of_ble_eq_true rfl)
  rw [lg_entry_eq]
  generalize (lg_sl ([.ref o0, .int wk]) ++ List.replicate (2 - (lg_sl ([.ref o0, .int wk])).length) Slot.unset).toArray = ls at hl ⊢
  have hl : lv_has ls 2 [(0, .ref o0), (1, .int wk)] := hl
  refine lv_iload_n hx hb dX12_noWork_0 rfl (lv_at hl 1 rfl) ?_
  refine lv_iconst (v := 0) hx hb dX12_noWork_1 (by decide) ?_
  refine lv_aload_n hx hb dX12_noWork_2 rfl (lv_at hl 0 rfl) ?_
  refine tw_get hx hb hts bF_X12 hown hK hT hr_o0 shm_0 rfl 1 (by decide) (ht_at hts 0 rfl) (fun _ h9 => h9) dX12_noWork_3 (fun v9 m1 h9 => ?_)
  obtain ⟨rfl, hg2⟩ := h9 _ rfl
  refine lv_sipush (v := 1428) hx hb dX12_noWork_6 (by decide) ?_
  refine tw_iald (i := 1428) hx hb hK hT hg2 shm_2 rfl (by unfold vp_in; decide) dX12_noWork_9 (fun v9 m3 h9 => ?_)
  obtain ⟨x4, rfl, gx4, kx4⟩ := (gp_at h9 (w_wct (by have q9 := tn_of (show (1428 : Int32).toInt = 1428 from (by decide)) (show (0 : Int) ≤ 1428 from by omega); omega)))
  refine lv_iconst (v := 1) hx hb dX12_noWork_10 (by decide) ?_
  refine lv_isub hx hb dX12_noWork_11 ?_
  refine lv_topi (fun x5 ex5 => ?_)
  have t6 : x5.toInt = x4.toInt - 1 := ti_sub ex5 rfl (by decide) (by omega) (by omega)
  have hFc := gA_free hG hA hS
  refine va_calli (va_runS (As := [.int wk, .int 0, .int x5]) (rest := []) ⟨hx, hb, hml, hown, hts⟩ (s_in l dC dI kA adK adV G s.heap q wZ wN wH wB wC wL wK wU wV PI im PM PT lS lB lE lN wk 0 x5 hT hgz hgn hgh hgb hgc hgi hgu) (va_cwS 3 hts (goodIn_app (goodIn_r _ [3, 4, 5] rfl (by decide +kernel)) (goodIn_ca (goodIn_r _ [2] rfl (by decide +kernel)) (bs_in _ _))) rfl rfl rfl (by decide +kernel) ⟨(Nat.le_of_ble_eq_true rfl), (Nat.le_of_ble_eq_true rfl)⟩) ⟨fun a U g mk q => by obtain ⟨q0, q1, qK, qE⟩ := q; exact ⟨q0, q1, va_K.moved (u := U) (U := U.calling g mk a) (Vm.Alike.refl U.vm) qK, EVS.blind g mk a qE⟩, fun U hU hW => ⟨rfl, hU, va_K.moved hW.alike hK, hE.call hS hFc hU hW⟩⟩ rfl rfl hl.1 rfl (lv_room (Nat.le_of_ble_eq_true rfl)) dX12_noWork_12 ⟨(Nat.le_of_ble_eq_true rfl), (Nat.le_of_ble_eq_true rfl)⟩) hS (fun q _ h => hFc q h) hFc (fun r7 u t H locs ht hvm hw8 hB _ _ hS => ?_)
  obtain ⟨hT, hF1⟩ := hB
  rw [ht] at hT hF1
  have hF := hF.more hF1 (by decide)
  try dsimp only at hw8
  obtain ⟨h10, hi11, hi12⟩ := hw8
  refine lv_if_ne (tgt := 22) hx hb dX12_noWork_15 (by decide) (fun c13 => ?_) (fun c13 => ?_)
  · have t14 : r7.toInt ≠ 0 := ti_ne c13 rfl (by decide)
    have t15 : (0 : Int32).toInt = 0 := by decide
    have t16 : (0 : Int32).toInt ≤ wk.toInt ∧ wk.toInt ≤ x5.toInt := hi11 ((bit_of ⟨by omega, by omega⟩).resolve_left c13)
    refine lv_iconst (v := 0) hx hb dX12_noWork_22 (by decide) ?_
    exact W.zret (v := 0) hx hb hr (by decide) (fun t ht hW => ⟨⟨0, (), rfl, (by exact ⟨(rg_t (a := 0) (by decide) (by first | decide | omega) (by first | decide | omega)), (fun _ => by omega)⟩), by (try dsimp only); rw [ht]; exact ⟨hT, hF⟩⟩, hS.F ht⟩) hS.2.2 dX12_noWork_23
  · have t17 : r7.toInt = 0 := ti_eq c13 rfl (by decide)
    have t18 : (0 : Int32).toInt = 0 := by decide
    have t19 : wk.toInt < (0 : Int32).toInt ∨ x5.toInt < wk.toInt := hi12 c13
    refine lv_iconst (v := 1) hx hb dX12_noWork_18 (by decide) ?_
    refine lv_goto (tgt := 23) hx hb dX12_noWork_19 (by decide) ?_
    exact W.zret (v := 1) hx hb hr (by decide) (fun t ht hW => ⟨⟨1, (), rfl, (by exact ⟨(rg_t (a := 1) (by decide) (by first | decide | omega) (by first | decide | omega)), (fun h => absurd h (by decide))⟩), by (try dsimp only); rw [ht]; exact ⟨hT, hF⟩⟩, hS.F ht⟩) hS.2.2 dX12_noWork_23
def w_s_isDike : List Cond := .code yX12_isDike cX12_isDike 2 (some .boolean) :: (HAppend.hAppend (α := List Cond) (β := List Cond) (γ := List Cond) [.code yX12_of cX12_of 3 (some .int), .fieldLink RX12 9 "SeaLandModel" "world" "[I", .code yX12_at cX12_at 2 (some .int), .methodLink RX12 214 yX12_at, .static yX12_at, .initialized RX12, .methodLink RX12 217 yX12_of, .instanceMethod yX12_of, .selects RX12 yX12_of yX12_of] bs)
set_option maxHeartbeats 4000000 in
set_option maxRecDepth 100000 in
theorem s_isDike (l : Launch) (dC : Nat → ClassId) (dI : Nat → Nat → Nat) (kA : Nat → ClassId) (adK adV : Nat → Nat) (G : gT) (H0 : Heap) (q : Nat → Nat) (wZ wN : Nat → Int) (wH wB wC : Int) (wL wK : Nat → Prop) (wU wV : Nat → Nat) (PI : Nat → Int → Prop) (im : Int) (PM PT : Nat → Int → Prop) (lS lB lE : Nat → Nat → Int → Prop) (lN : Nat → Int) (o0 : Nat) (wk : Int32)  (hT : gH (dC, dI) kA (SHm q (wP wZ wN wH wB wC wL wK wU wV) PI im PM PT lS lB lE lN) G H0) (hr_o0 : G o0 = some 0) (hq0 : 0 ≤ wk.toInt ∧ wk.toInt ≤ 29) (hgz : ∀ i, 0 ≤ wZ i) (hgn : ∀ i, 6500000 ≤ wN i ∧ wN i ≤ 20200000) (hgh : 0 ≤ wH ∧ wH ≤ 40000) (hgb : 0 ≤ wB ∧ wB ≤ 3850000) (hgc : 0 ≤ wC ∧ wC ≤ 30) (hgi : 0 ≤ im ∧ im ≤ 1) (hgu : ∀ a t, G a = some (t + 1) → a = q t) : Met l yX12_isDike w_s_isDike ({ frames := 2, cells := 0, slots := 0, locals := 43 }) (va_Pc [.ref o0, .int wk] (fun U => U.heap = H0 ∧ va_K (dC, dI) vwCl (tyl kA) U ∧ EVS adK adV (gA G H0.size) U U.heap)) (va_Qi (fun (r : Int32) (u : Unit) => (0 ≤ r.toInt ∧ r.toInt ≤ 1) ∧ (r = 1 → wk.toInt < wC → wK wk.toNatClampNeg)) (fun (_ : Unit) (t : State) => gH (dC, dI) kA (SHm q (wP wZ wN wH wB wC wL wK wU wV) PI im PM PT lS lB lE lN) G t.heap ∧ gF (dC, dI) SKm G ([] : List (Nat × Nat)) H0 t.heap) (gA G H0.size)) 0 0 (gA G H0.size) := by
  refine Met.ofW (cc := cX12_isDike) (maxL := 2) (ret := (some .boolean)) (by decide) rfl ?_
  intro p e s m args below meth c s₁ B hml hv
  obtain ⟨rfl, hH0, hK, hE⟩ := hv
  have hx := B.exec
  have hb := B.bytes
  have hr := B.returns
  have hts := atoms_spec (ws := w_s_isDike) B.pre
  have hown : s.vm.findClass RX12 = some m.cls := findClass_of_methodNamed B.named
  have hlocks := B.notSynchronized
  subst hH0
  generalize hAe : gA G s.heap.size = A at hE ⊢
  have hA : ∀ q : Nat, s.heap.size ≤ q → A q := fun q h => by rw [← hAe]; exact Or.inr h
  have hG := gA_of hAe
  have hS : va_S A s.heap s.heap [] := va_S.rf
  have hF : gF (dC, dI) SKm G ([] : List (Nat × Nat)) s.heap s.heap := gF.rf
  have hl := lv_entry ([.ref o0, .int wk]) (n := 2) (Nat.le_of_ble_eq_true rfl)
  rw [lg_entry_eq]
  generalize (lg_sl ([.ref o0, .int wk]) ++ List.replicate (2 - (lg_sl ([.ref o0, .int wk])).length) Slot.unset).toArray = ls at hl ⊢
  have hl : lv_has ls 2 [(0, .ref o0), (1, .int wk)] := hl
  refine lv_aload_n hx hb dX12_isDike_0 rfl (lv_at hl 0 rfl) ?_
  refine lv_iload_n hx hb dX12_isDike_1 rfl (lv_at hl 1 rfl) ?_
  refine lv_iconst (v := 0) hx hb dX12_isDike_2 (by decide) ?_
  have hFc := gA_free hG hA hS
  refine va_calli (va_runV (As := [.int wk, .int 0]) (rest := []) ⟨hx, hb, hml, hown, hts⟩ (s_of0 l dC dI kA adK adV G s.heap q wZ wN wH wB wC wL wK wU wV PI im PM PT lS lB lE lN o0 wk hT hr_o0 (by have q8 := ti_all wk; omega) hgz hgn hgh hgb hgc hgi hgu) (cwV 2 hts (goodIn_app (goodIn_r _ [7, 8, 9, 6] rfl (by decide +kernel)) (goodIn_ca (goodIn_r _ [1, 2, 3, 4, 5, 6] rfl (by decide +kernel)) (bs_in _ _))) rfl rfl rfl (by decide +kernel) ⟨(Nat.le_of_ble_eq_true rfl), (Nat.le_of_ble_eq_true rfl)⟩) ⟨fun a U g mk q => by obtain ⟨q0, q1, qK, qE⟩ := q; exact ⟨q0, q1, va_K.moved (u := U) (U := U.calling g mk a) (Vm.Alike.refl U.vm) qK, EVS.blind g mk a qE⟩, gH_rc hK hT hr_o0 shm_0 rfl, fun U hU hW => ⟨rfl, hU, va_K.moved hW.alike hK, hE.call hS hFc hU hW⟩⟩ rfl rfl hl.1 rfl (lv_room (Nat.le_of_ble_eq_true rfl)) dX12_isDike_3 ⟨(Nat.le_of_ble_eq_true rfl), (Nat.le_of_ble_eq_true rfl)⟩) hS (fun q _ h => hFc q h) hFc (fun r1 u t H locs ht hvm hw2 hB _ _ hS => ?_)
  obtain ⟨hT, hF1⟩ := hB
  rw [ht] at hT hF1
  have hF := hF.more hF1 (by decide)
  try dsimp only at hw2
  have ⟨ix3, hix3, m4⟩ := hw2
  have hg5 : G (q 1) = some 2 := gx_of hT hr_o0 shm_0 (k := 1) (by decide) rfl
  have m6 := (el_kept (hF1.arr hg5 skm_2 (by decide))).trans m4
  refine lv_if_eq (tgt := 19) hx hb dX12_isDike_6 (by decide) (fun c7 => ?_) (fun c7 => ?_)
  · have t8 : r1.toInt = 0 := ti_eq c7 rfl (by decide)
    refine lv_iconst (v := 1) hx hb dX12_isDike_19 (by decide) ?_
    refine lv_goto (tgt := 24) hx hb dX12_isDike_20 (by decide) ?_
    exact W.zret (v := 1) hx hb hr (by decide) (fun t ht hW => ⟨⟨1, (), rfl, (by exact ⟨(rg_t (a := 1) (by decide) (by first | decide | omega) (by first | decide | omega)), (fun _ => (fun hc9 => wK_of hT hg5 (show ix3.toInt = 768 + 22 * wk.toInt from by have q9 := (show ix3.toInt = ix3.toInt from rfl); omega) (by omega) hc9 (by omega) m6 (by omega)))⟩), by (try dsimp only); rw [ht]; exact ⟨hT, hF⟩⟩, hS.F ht⟩) hS.2.2 dX12_isDike_24
  · have t9 : r1.toInt ≠ 0 := ti_ne c7 rfl (by decide)
    refine lv_aload_n hx hb dX12_isDike_9 rfl (lv_at hl 0 rfl) ?_
    refine lv_iload_n hx hb dX12_isDike_10 rfl (lv_at hl 1 rfl) ?_
    refine lv_iconst (v := 0) hx hb dX12_isDike_11 (by decide) ?_
    have hFc := gA_free hG hA hS
    refine va_calli (va_runV (As := [.int wk, .int 0]) (rest := []) ⟨hx, hb, hml, hown, hts⟩ (s_of0 l dC dI kA adK adV G H q wZ wN wH wB wC wL wK wU wV PI im PM PT lS lB lE lN o0 wk hT hr_o0 (by have q8 := ti_all wk; omega) hgz hgn hgh hgb hgc hgi hgu) (cwV 2 hts (goodIn_app (goodIn_r _ [7, 8, 9, 6] rfl (by decide +kernel)) (goodIn_ca (goodIn_r _ [1, 2, 3, 4, 5, 6] rfl (by decide +kernel)) (bs_in _ _))) rfl rfl rfl (by decide +kernel) ⟨(Nat.le_of_ble_eq_true rfl), (Nat.le_of_ble_eq_true rfl)⟩) ⟨fun a U g mk q => by obtain ⟨q0, q1, qK, qE⟩ := q; exact ⟨q0, q1, va_K.moved (u := U) (U := U.calling g mk a) (Vm.Alike.refl U.vm) qK, EVS.blind g mk a qE⟩, gH_rc hK hT hr_o0 shm_0 rfl, fun U hU hW => ⟨rfl, hU, va_K.moved hW.alike hK, hE.call hS hFc hU hW⟩⟩ rfl rfl hl.1 rfl (lv_room (Nat.le_of_ble_eq_true rfl)) dX12_isDike_12 ⟨(Nat.le_of_ble_eq_true rfl), (Nat.le_of_ble_eq_true rfl)⟩) hS (fun q _ h => hFc q h) hFc (fun r10 u t H locs ht hvm hw11 hB _ _ hS => ?_)
    obtain ⟨hT, hF1⟩ := hB
    rw [ht] at hT hF1
    have m12 := (el_kept (hF1.arr hg5 skm_2 (by decide))).trans m6
    have hF := hF.more hF1 (by decide)
    try dsimp only at hw11
    have ⟨ix13, hix13, m14⟩ := hw11
    have m15 := (el_kept (hF1.arr hg5 skm_2 (by decide))).trans m14
    obtain rfl : r1 = r10 := (el_same m15 m12 (by have q8 := (show ix3.toInt = ix3.toInt from rfl); omega)).symm
    refine lv_iconst (v := 1) hx hb dX12_isDike_15 (by decide) ?_
    refine lv_icmp_ne (tgt := 23) hx hb dX12_isDike_16 (by decide) (fun c16 => ?_) (fun c16 => ?_)
    · have t17 : r1.toInt ≠ 1 := ti_ne c16 rfl (by decide)
      refine lv_iconst (v := 0) hx hb dX12_isDike_23 (by decide) ?_
      exact W.zret (v := 0) hx hb hr (by decide) (fun t ht hW => ⟨⟨0, (), rfl, (by exact ⟨(rg_t (a := 0) (by decide) (by first | decide | omega) (by first | decide | omega)), (fun h => absurd h (by decide))⟩), by (try dsimp only); rw [ht]; exact ⟨hT, hF⟩⟩, hS.F ht⟩) hS.2.2 dX12_isDike_24
    · have t18 : r1.toInt = 1 := ti_eq c16 rfl (by decide)
      refine lv_iconst (v := 1) hx hb dX12_isDike_19 (by decide) ?_
      refine lv_goto (tgt := 24) hx hb dX12_isDike_20 (by decide) ?_
      exact W.zret (v := 1) hx hb hr (by decide) (fun t ht hW => ⟨⟨1, (), rfl, (by exact ⟨(rg_t (a := 1) (by decide) (by first | decide | omega) (by first | decide | omega)), (fun _ => (fun hc9 => wK_of hT hg5 (show ix3.toInt = 768 + 22 * wk.toInt from by have q9 := (show ix3.toInt = ix3.toInt from rfl); omega) (by omega) hc9 (by omega) m12 (by omega)))⟩), by (try dsimp only); rw [ht]; exact ⟨hT, hF⟩⟩, hS.F ht⟩) hS.2.2 dX12_isDike_24
def w_s_workOn : List Cond := .code yX12_workOn cX12_workOn 3 (some .int) :: (HAppend.hAppend (α := List Cond) (β := List Cond) (γ := List Cond) [.fieldLink RX12 9 "SeaLandModel" "world" "[I", .code yX12_of cX12_of 3 (some .int), .code yX12_at cX12_at 2 (some .int), .methodLink RX12 214 yX12_at, .static yX12_at, .initialized RX12, .methodLink RX12 217 yX12_of, .instanceMethod yX12_of, .selects RX12 yX12_of yX12_of] bs)
set_option maxHeartbeats 4000000 in
set_option maxRecDepth 100000 in
theorem s_workOn (l : Launch) (dC : Nat → ClassId) (dI : Nat → Nat → Nat) (kA : Nat → ClassId) (adK adV : Nat → Nat) (G : gT) (H0 : Heap) (q : Nat → Nat) (wZ wN : Nat → Int) (wH wB wC : Int) (wL wK : Nat → Prop) (wU wV : Nat → Nat) (PI : Nat → Int → Prop) (im : Int) (PM PT : Nat → Int → Prop) (lS lB lE : Nat → Nat → Int → Prop) (lN : Nat → Int) (o0 : Nat) (sq : Int32)  (hT : gH (dC, dI) kA (SHm q (wP wZ wN wH wB wC wL wK wU wV) PI im PM PT lS lB lE lN) G H0) (hr_o0 : G o0 = some 0) (hgz : ∀ i, 0 ≤ wZ i) (hgn : ∀ i, 6500000 ≤ wN i ∧ wN i ≤ 20200000) (hgh : 0 ≤ wH ∧ wH ≤ 40000) (hgb : 0 ≤ wB ∧ wB ≤ 3850000) (hgc : 0 ≤ wC ∧ wC ≤ 30) (hgi : 0 ≤ im ∧ im ≤ 1) (hgu : ∀ a t, G a = some (t + 1) → a = q t) : Met l yX12_workOn w_s_workOn ({ frames := 2, cells := 0, slots := 0, locals := 43 }) (va_Pc [.ref o0, .int sq] (fun U => U.heap = H0 ∧ va_K (dC, dI) vwCl (tyl kA) U ∧ EVS adK adV (gA G H0.size) U U.heap)) (va_Qi (fun (r : Int32) (u : Unit) => (-1 ≤ r.toInt ∧ r.toInt ≤ 29) ∧ (r.toInt < 0 → ∀ w : Nat, (w : Int) < wC → (wU w : Int) ≠ sq.toInt)) (fun (_ : Unit) (t : State) => gH (dC, dI) kA (SHm q (wP wZ wN wH wB wC wL wK wU wV) PI im PM PT lS lB lE lN) G t.heap ∧ gF (dC, dI) SKm G ([] : List (Nat × Nat)) H0 t.heap) (gA G H0.size)) 0 0 (gA G H0.size) := by
  refine Met.ofW (cc := cX12_workOn) (maxL := 3) (ret := (some .int)) (by decide) rfl ?_
  intro p e s m args below meth c s₁ B hml hv
  obtain ⟨rfl, hH0, hK, hE⟩ := hv
  have hx := B.exec
  have hb := B.bytes
  have hr := B.returns
  have hts := atoms_spec (ws := w_s_workOn) B.pre
  have hown : s.vm.findClass RX12 = some m.cls := findClass_of_methodNamed B.named
  have hlocks := B.notSynchronized
  subst hH0
  generalize hAe : gA G s.heap.size = A at hE ⊢
  have hA : ∀ q : Nat, s.heap.size ≤ q → A q := fun q h => by rw [← hAe]; exact Or.inr h
  have hG := gA_of hAe
  have hS : va_S A s.heap s.heap [] := va_S.rf
  have hF : gF (dC, dI) SKm G ([] : List (Nat × Nat)) s.heap s.heap := gF.rf
  have hl := lv_entry ([.ref o0, .int sq]) (n := 3) (Nat.le_of_ble_eq_true rfl)
  rw [lg_entry_eq]
  generalize (lg_sl ([.ref o0, .int sq]) ++ List.replicate (3 - (lg_sl ([.ref o0, .int sq])).length) Slot.unset).toArray = ls at hl ⊢
  have hl : lv_has ls 3 [(0, .ref o0), (1, .int sq)] := hl
  refine lv_iconst (v := 0) hx hb dX12_workOn_0 (by decide) ?_
  refine lv_istore_n (lv' := [(2, .int 0), (0, .ref o0), (1, .int sq)]) hx hb dX12_workOn_1 rfl hl (by decide) rfl (fun ls hl => ?_)
  have key21 : ∀ (n21 i1 : Nat), i1 + n21 = 30 → 0 ≤ i1 → ((∀ v : Nat, v < i1 → (wU v : Int) ≠ sq.toInt)) → ∀ (H : Heap) (locs : List Loc), gH (dC, dI) kA (SHm q (wP wZ wN wH wB wC wL wK wU wV) PI im PM PT lS lB lE lN) G H → gF (dC, dI) SKm G ([] : List (Nat × Nat)) s.heap H → va_S A s.heap H locs → ∀ ls : Array Slot, lv_has ls 3 [(2, .int (nI i1)), (0, .ref o0), (1, .int sq)] → W p l e (headSpec w_s_workOn ({ frames := 2, cells := 0, slots := 0, locals := 43 })).room s m #[.ref o0, .int sq] below meth c H locs 0 0 (MQ below (va_Qi (fun (r : Int32) (u : Unit) => (-1 ≤ r.toInt ∧ r.toInt ≤ 29) ∧ (r.toInt < 0 → ∀ w : Nat, (w : Int) < wC → (wU w : Int) ≠ sq.toInt)) (fun (_ : Unit) (t : State) => gH (dC, dI) kA (SHm q (wP wZ wN wH wB wC wL wK wU wV) PI im PM PT lS lB lE lN) G t.heap ∧ gF (dC, dI) SKm G ([] : List (Nat × Nat)) s.heap t.heap) A) #[.ref o0, .int sq] s 0 0 A) (F0 m 2 ls []) := by
    intro n21
    induction n21 with
    | zero =>
      intro i1 hn21 hlo22 hj2 H locs hT hF hS  ls hl
      obtain rfl : 30 = i1 := by omega
      refine lv_iload_n hx hb dX12_workOn_2 rfl (lv_at hl 0 rfl) ?_
      refine lv_aload_n hx hb dX12_workOn_3 rfl (lv_at hl 1 rfl) ?_
      refine tw_get hx hb hts bF_X12 hown hK hT hr_o0 shm_0 rfl 1 (by decide) (ht_at hts 0 rfl) (fun _ h9 => h9) dX12_workOn_4 (fun v9 m23 h9 => ?_)
      obtain ⟨rfl, hg24⟩ := h9 _ rfl
      refine lv_sipush (v := 1428) hx hb dX12_workOn_7 (by decide) ?_
      refine tw_iald (i := 1428) hx hb hK hT hg24 shm_2 rfl (by unfold vp_in; decide) dX12_workOn_10 (fun v9 m25 h9 => ?_)
      obtain ⟨x26, rfl, gx26, kx26⟩ := (gp_at h9 (w_wct (by have q9 := tn_of (show (1428 : Int32).toInt = 1428 from (by decide)) (show (0 : Int) ≤ 1428 from by omega); omega)))
      refine lv_icmp_ge (tgt := 32) hx hb dX12_workOn_11 (by decide) (fun c27 => ?_) (fun c27 => (by exfalso; have q9 : ((30 : Nat) : Int) < x26.toInt := ti_nle c27 rfl (nI_toInt (by omega)); omega))
      have t28 : x26.toInt ≤ ((30 : Nat) : Int) := ti_le c27 rfl (nI_toInt (by omega))
      refine lv_iconst (v := (-1)) hx hb dX12_workOn_32 (by decide) ?_
      exact W.iret (v := (-1)) hx hb hr (fun t ht hW => ⟨⟨(-1), (), rfl, (by exact ⟨(rg_t (a := (-1)) (by decide) (by first | decide | omega) (by first | decide | omega)), (fun _ w hw => hj2 w (by omega))⟩), by (try dsimp only); rw [ht]; exact ⟨hT, hF⟩⟩, hS.F ht⟩) hS.2.2 dX12_workOn_33
    | succ n21 ih21 =>
      intro i1 hn21 hlo22 hj2 H locs hT hF hS  ls hl
      have hlt28 : i1 < 30 := by omega
      refine lv_iload_n hx hb dX12_workOn_2 rfl (lv_at hl 0 rfl) ?_
      refine lv_aload_n hx hb dX12_workOn_3 rfl (lv_at hl 1 rfl) ?_
      refine tw_get hx hb hts bF_X12 hown hK hT hr_o0 shm_0 rfl 1 (by decide) (ht_at hts 0 rfl) (fun _ h9 => h9) dX12_workOn_4 (fun v9 m29 h9 => ?_)
      obtain ⟨rfl, hg30⟩ := h9 _ rfl
      refine lv_sipush (v := 1428) hx hb dX12_workOn_7 (by decide) ?_
      refine tw_iald (i := 1428) hx hb hK hT hg30 shm_2 rfl (by unfold vp_in; decide) dX12_workOn_10 (fun v9 m31 h9 => ?_)
      obtain ⟨x32, rfl, gx32, kx32⟩ := (gp_at h9 (w_wct (by have q9 := tn_of (show (1428 : Int32).toInt = 1428 from (by decide)) (show (0 : Int) ≤ 1428 from by omega); omega)))
      refine lv_icmp_ge (tgt := 32) hx hb dX12_workOn_11 (by decide) (fun c33 => ?_) (fun c33 => ?_)
      · have t34 : x32.toInt ≤ ((i1 : Nat) : Int) := ti_le c33 rfl (nI_toInt (by omega))
        refine lv_iconst (v := (-1)) hx hb dX12_workOn_32 (by decide) ?_
        exact W.iret (v := (-1)) hx hb hr (fun t ht hW => ⟨⟨(-1), (), rfl, (by exact ⟨(rg_t (a := (-1)) (by decide) (by first | decide | omega) (by first | decide | omega)), (fun _ w hw => hj2 w (by omega))⟩), by (try dsimp only); rw [ht]; exact ⟨hT, hF⟩⟩, hS.F ht⟩) hS.2.2 dX12_workOn_33
      · have t35 : ((i1 : Nat) : Int) < x32.toInt := ti_nle c33 rfl (nI_toInt (by omega))
        refine lv_aload_n hx hb dX12_workOn_14 rfl (lv_at hl 1 rfl) ?_
        refine lv_iload_n hx hb dX12_workOn_15 rfl (lv_at hl 0 rfl) ?_
        refine lv_iconst (v := 1) hx hb dX12_workOn_16 (by decide) ?_
        have hFc := gA_free hG hA hS
        refine va_calli (va_runV (As := [.int (nI i1), .int 1]) (rest := []) ⟨hx, hb, hml, hown, hts⟩ (s_of1 l dC dI kA adK adV G H q wZ wN wH wB wC wL wK wU wV PI im PM PT lS lB lE lN o0 (nI i1) hT hr_o0 (rg_t (a := ((i1 : Nat) : Int)) (nI_toInt (by omega)) (by omega) (by omega)) hgz hgn hgh hgb hgc hgi hgu) (cwV 2 hts (goodIn_app (goodIn_r _ [7, 8, 9, 6] rfl (by decide +kernel)) (goodIn_ca (goodIn_r _ [2, 1, 3, 4, 5, 6] rfl (by decide +kernel)) (bs_in _ _))) rfl rfl rfl (by decide +kernel) ⟨(Nat.le_of_ble_eq_true rfl), (Nat.le_of_ble_eq_true rfl)⟩) ⟨fun a U g mk q => by obtain ⟨q0, q1, qK, qE⟩ := q; exact ⟨q0, q1, va_K.moved (u := U) (U := U.calling g mk a) (Vm.Alike.refl U.vm) qK, EVS.blind g mk a qE⟩, gH_rc hK hT hr_o0 shm_0 rfl, fun U hU hW => ⟨rfl, hU, va_K.moved hW.alike hK, hE.call hS hFc hU hW⟩⟩ rfl rfl hl.1 rfl (lv_room (Nat.le_of_ble_eq_true rfl)) dX12_workOn_17 ⟨(Nat.le_of_ble_eq_true rfl), (Nat.le_of_ble_eq_true rfl)⟩) hS (fun q _ h => hFc q h) hFc (fun r36 u t H locs ht hvm hw37 hB _ _ hS => ?_)
        obtain ⟨hT, hF1⟩ := hB
        rw [ht] at hT hF1
        have hF := hF.more hF1 (by decide)
        try dsimp only at hw37
        obtain ⟨h39, ⟨ix40, hix40, m41⟩⟩ := hw37
        have t42 : (nI i1).toInt = ((i1 : Nat) : Int) := nI_toInt (by omega)
        have m43 := (el_kept (hF1.arr hg30 skm_2 (by decide))).trans m41
        refine lv_iload_n hx hb dX12_workOn_20 rfl (lv_at hl 2 rfl) ?_
        refine lv_icmp_ne (tgt := 26) hx hb dX12_workOn_21 (by decide) (fun c44 => ?_) (fun c44 => ?_)
        · have t45 : r36.toInt ≠ sq.toInt := ti_ne c44 rfl rfl
          refine lv_iinc (v := nI (i1 + 1)) (lv' := [(2, .int (nI (i1 + 1))), (0, .ref o0), (1, .int sq)]) hx hb dX12_workOn_26 hl (k := 0) rfl (nI_add i1 1) (by decide) rfl (fun ls hl => ?_)
          refine lv_goto (tgt := 2) hx hb dX12_workOn_29 (by decide) ?_
          exact ih21 (i1 + 1) (by omega) (by omega) (fun v hv => by by_cases hv9 : v < i1; exact hj2 v hv9; have e8 := tn_nI (n := i1) (by omega); have e9 := wU_of (wk := nI i1) hT hg30 (show ix40.toInt = 769 + 22 * (nI i1).toInt from by have q9 := (show ix40.toInt = ix40.toInt from rfl); have q8 := (show (nI i1).toInt = ((i1 : Nat) : Int) from (nI_toInt (by omega))); omega) (by have q8 := (show (nI i1).toInt = ((i1 : Nat) : Int) from (nI_toInt (by omega))); omega) (by have q8 := (show (nI i1).toInt = ((i1 : Nat) : Int) from (nI_toInt (by omega))); omega) (by omega) m43; rw [e8] at e9; have e7 : v = i1 := (by omega); subst e7; have q7 := (show r36.toInt = r36.toInt from rfl); omega) _ _ hT hF hS ls (lv_sub hl [0, 1, 2] rfl)
        · have t46 : r36.toInt = sq.toInt := ti_eq c44 rfl rfl
          refine lv_iload_n hx hb dX12_workOn_24 rfl (lv_at hl 0 rfl) ?_
          exact W.iret (v := nI i1) hx hb hr (fun t ht hW => ⟨⟨nI i1, (), rfl, (by exact ⟨(rg_t (a := ((i1 : Nat) : Int)) (nI_toInt (by omega)) (by omega) (by omega)), (fun h9 => by have q9 := (show (nI i1).toInt = ((i1 : Nat) : Int) from (nI_toInt (by omega))); omega)⟩), by (try dsimp only); rw [ht]; exact ⟨hT, hF⟩⟩, hS.F ht⟩) hS.2.2 dX12_workOn_25
  exact key21 (30 - 0) 0 (by omega) (Nat.le_refl _) (fun v hv => absurd hv (Nat.not_lt_zero v)) _ _ hT hF hS ls (lv_sub hl [0, 1, 2] rfl)
def w_s_telling1 : List Cond := .code yX12_telling cX12_telling 6 (some .int) :: (HAppend.hAppend (α := List Cond) (β := List Cond) (γ := List Cond) [.fieldLink RX12 9 "SeaLandModel" "world" "[I"] bs)
set_option maxHeartbeats 4000000 in
set_option maxRecDepth 100000 in
theorem s_telling1 (l : Launch) (dC : Nat → ClassId) (dI : Nat → Nat → Nat) (kA : Nat → ClassId) (adK adV : Nat → Nat) (G : gT) (H0 : Heap) (q : Nat → Nat) (wZ wN : Nat → Int) (wH wB wC : Int) (wL wK : Nat → Prop) (wU wV : Nat → Nat) (PI : Nat → Int → Prop) (im : Int) (PM PT : Nat → Int → Prop) (lS lB lE : Nat → Nat → Int → Prop) (lN : Nat → Int) (o0 : Nat) (ho : Int32)  (hT : gH (dC, dI) kA (SHm q (wP wZ wN wH wB wC wL wK wU wV) PI im PM PT lS lB lE lN) G H0) (hr_o0 : G o0 = some 0) (hgz : ∀ i, 0 ≤ wZ i) (hgn : ∀ i, 6500000 ≤ wN i ∧ wN i ≤ 20200000) (hgh : 0 ≤ wH ∧ wH ≤ 40000) (hgb : 0 ≤ wB ∧ wB ≤ 3850000) (hgc : 0 ≤ wC ∧ wC ≤ 30) (hgi : 0 ≤ im ∧ im ≤ 1) (hgu : ∀ a t, G a = some (t + 1) → a = q t) : Met l yX12_telling w_s_telling1 ({ frames := 0, cells := 0, slots := 0, locals := 0 }) (va_Pc [.ref o0, .int 1624, .int 1625, .int ho] (fun U => U.heap = H0 ∧ va_K (dC, dI) vwCl (tyl kA) U ∧ EVS adK adV (gA G H0.size) U U.heap)) (va_Qi (fun (r : Int32) (u : Unit) => (-1 ≤ r.toInt ∧ r.toInt ≤ 1743) ∧ ((r.toInt = -1 ∨ (1625 ≤ r.toInt ∧ r.toInt ≤ 1743 ∧ (r.toInt - 1625) % 2 = 0)))) (fun (_ : Unit) (t : State) => gH (dC, dI) kA (SHm q (wP wZ wN wH wB wC wL wK wU wV) PI im PM PT lS lB lE lN) G t.heap ∧ gF (dC, dI) SKm G ([] : List (Nat × Nat)) H0 t.heap) (gA G H0.size)) 0 0 (gA G H0.size) := by
  refine Met.ofW (cc := cX12_telling) (maxL := 6) (ret := (some .int)) (by decide) rfl ?_
  intro p e s m args below meth c s₁ B hml hv
  obtain ⟨rfl, hH0, hK, hE⟩ := hv
  have hx := B.exec
  have hb := B.bytes
  have hr := B.returns
  have hts := atoms_spec (ws := w_s_telling1) B.pre
  have hown : s.vm.findClass RX12 = some m.cls := findClass_of_methodNamed B.named
  have hlocks := B.notSynchronized
  subst hH0
  generalize hAe : gA G s.heap.size = A at hE ⊢
  have hA : ∀ q : Nat, s.heap.size ≤ q → A q := fun q h => by rw [← hAe]; exact Or.inr h
  have hG := gA_of hAe
  have hS : va_S A s.heap s.heap [] := va_S.rf
  have hF : gF (dC, dI) SKm G ([] : List (Nat × Nat)) s.heap s.heap := gF.rf
  have hl := lv_entry ([.ref o0, .int 1624, .int 1625, .int ho]) (n := 6) (Nat.le_of_ble_eq_true rfl)
  rw [lg_entry_eq]
  generalize (lg_sl ([.ref o0, .int 1624, .int 1625, .int ho]) ++ List.replicate (6 - (lg_sl ([.ref o0, .int 1624, .int 1625, .int ho])).length) Slot.unset).toArray = ls at hl ⊢
  have hl : lv_has ls 6 [(0, .ref o0), (1, .int 1624), (2, .int 1625), (3, .int ho)] := hl
  refine lv_iconst (v := (-1)) hx hb dX12_telling_0 (by decide) ?_
  refine lv_istore (lv' := [(4, .int (-1)), (0, .ref o0), (1, .int 1624), (2, .int 1625), (3, .int ho)]) hx hb dX12_telling_1 hl (by decide) rfl (fun ls hl => ?_)
  refine lv_iload_n hx hb dX12_telling_3 rfl (lv_at hl 3 rfl) ?_
  refine lv_istore (lv' := [(5, .int 1625), (4, .int (-1)), (0, .ref o0), (1, .int 1624), (2, .int 1625), (3, .int ho)]) hx hb dX12_telling_4 hl (by decide) rfl (fun ls hl => ?_)
  have key36 : ∀ (n36 i1 : Nat), i1 + n36 = 60 → ∀ (z2 : Int32), (((z2.toInt = -1 ∨ (1625 ≤ z2.toInt ∧ z2.toInt ≤ 1743 ∧ (z2.toInt - 1625) % 2 = 0)))) → ∀ (H : Heap) (locs : List Loc), gH (dC, dI) kA (SHm q (wP wZ wN wH wB wC wL wK wU wV) PI im PM PT lS lB lE lN) G H → gF (dC, dI) SKm G ([] : List (Nat × Nat)) s.heap H → va_S A s.heap H locs → ∀ ls : Array Slot, lv_has ls 6 [(5, .int (nI (1625 + 2 * i1))), (4, .int z2), (0, .ref o0), (1, .int 1624), (2, .int 1625), (3, .int ho)] → W p l e (headSpec w_s_telling1 ({ frames := 0, cells := 0, slots := 0, locals := 0 })).room s m #[.ref o0, .int 1624, .int 1625, .int ho] below meth c H locs 0 0 (MQ below (va_Qi (fun (r : Int32) (u : Unit) => (-1 ≤ r.toInt ∧ r.toInt ≤ 1743) ∧ ((r.toInt = -1 ∨ (1625 ≤ r.toInt ∧ r.toInt ≤ 1743 ∧ (r.toInt - 1625) % 2 = 0)))) (fun (_ : Unit) (t : State) => gH (dC, dI) kA (SHm q (wP wZ wN wH wB wC wL wK wU wV) PI im PM PT lS lB lE lN) G t.heap ∧ gF (dC, dI) SKm G ([] : List (Nat × Nat)) s.heap t.heap) A) #[.ref o0, .int 1624, .int 1625, .int ho] s 0 0 A) (F0 m 6 ls []) := by
    intro n36
    induction n36 with
    | zero =>
      intro i1 hn36 z2 h3 H locs hT hF hS  ls hl
      obtain rfl : 60 = i1 := by omega
      refine lv_iload hx hb dX12_telling_6 (lv_at hl 0 rfl) ?_
      refine lv_iload_n hx hb dX12_telling_8 rfl (lv_at hl 4 rfl) ?_
      refine lv_iconst (v := 2) hx hb dX12_telling_9 (by decide) ?_
      refine lv_aload_n hx hb dX12_telling_10 rfl (lv_at hl 2 rfl) ?_
      refine tw_get hx hb hts bF_X12 hown hK hT hr_o0 shm_0 rfl 1 (by decide) (ht_at hts 0 rfl) (fun _ h9 => h9) dX12_telling_11 (fun v9 m38 h9 => ?_)
      obtain ⟨rfl, hg39⟩ := h9 _ rfl
      refine lv_iload_n hx hb dX12_telling_14 rfl (lv_at hl 3 rfl) ?_
      refine tw_iald (i := 1624) hx hb hK hT hg39 shm_2 rfl (by unfold vp_in; decide) dX12_telling_15 (fun v9 m40 h9 => ?_)
      obtain ⟨x41, rfl, gx41, kx41⟩ := (gp_at h9 (w_rac (by have q9 := tn_of (show (1624 : Int32).toInt = 1624 from (by decide)) (show (0 : Int) ≤ 1624 from by omega); omega)))
      refine lv_imul hx hb dX12_telling_16 ?_
      refine lv_topi (fun x42 ex42 => ?_)
      have t43 : x42.toInt = 2 * x41.toInt := ti_mul ex42 (by decide) rfl (by omega) (by omega)
      refine lv_iadd hx hb dX12_telling_17 ?_
      refine lv_topi (fun x44 ex44 => ?_)
      have t45 : x44.toInt = 1625 + x42.toInt := ti_add ex44 (by decide) rfl (by omega) (by omega)
      refine lv_icmp_ge (tgt := 64) hx hb dX12_telling_18 (by decide) (fun c46 => ?_) (fun c46 => (by exfalso; have q9 : ((1625 + 2 * 60 : Nat) : Int) < x44.toInt := ti_nle c46 rfl (nI_toInt (by omega)); omega))
      have t47 : x44.toInt ≤ ((1625 + 2 * 60 : Nat) : Int) := ti_le c46 rfl (nI_toInt (by omega))
      refine lv_iload hx hb dX12_telling_64 (lv_at hl 1 rfl) ?_
      exact W.iret (v := z2) hx hb hr (fun t ht hW => ⟨⟨z2, (), rfl, (by exact ⟨(by have q8 := ti_all z2; omega), (by omega)⟩), by (try dsimp only); rw [ht]; exact ⟨hT, hF⟩⟩, hS.F ht⟩) hS.2.2 dX12_telling_66
    | succ n36 ih36 =>
      intro i1 hn36 z2 h3 H locs hT hF hS  ls hl
      have hlt47 : i1 < 60 := by omega
      refine lv_iload hx hb dX12_telling_6 (lv_at hl 0 rfl) ?_
      refine lv_iload_n hx hb dX12_telling_8 rfl (lv_at hl 4 rfl) ?_
      refine lv_iconst (v := 2) hx hb dX12_telling_9 (by decide) ?_
      refine lv_aload_n hx hb dX12_telling_10 rfl (lv_at hl 2 rfl) ?_
      refine tw_get hx hb hts bF_X12 hown hK hT hr_o0 shm_0 rfl 1 (by decide) (ht_at hts 0 rfl) (fun _ h9 => h9) dX12_telling_11 (fun v9 m48 h9 => ?_)
      obtain ⟨rfl, hg49⟩ := h9 _ rfl
      refine lv_iload_n hx hb dX12_telling_14 rfl (lv_at hl 3 rfl) ?_
      refine tw_iald (i := 1624) hx hb hK hT hg49 shm_2 rfl (by unfold vp_in; decide) dX12_telling_15 (fun v9 m50 h9 => ?_)
      obtain ⟨x51, rfl, gx51, kx51⟩ := (gp_at h9 (w_rac (by have q9 := tn_of (show (1624 : Int32).toInt = 1624 from (by decide)) (show (0 : Int) ≤ 1624 from by omega); omega)))
      refine lv_imul hx hb dX12_telling_16 ?_
      refine lv_topi (fun x52 ex52 => ?_)
      have t53 : x52.toInt = 2 * x51.toInt := ti_mul ex52 (by decide) rfl (by omega) (by omega)
      refine lv_iadd hx hb dX12_telling_17 ?_
      refine lv_topi (fun x54 ex54 => ?_)
      have t55 : x54.toInt = 1625 + x52.toInt := ti_add ex54 (by decide) rfl (by omega) (by omega)
      refine lv_icmp_ge (tgt := 64) hx hb dX12_telling_18 (by decide) (fun c56 => ?_) (fun c56 => ?_)
      · have t57 : x54.toInt ≤ ((1625 + 2 * i1 : Nat) : Int) := ti_le c56 rfl (nI_toInt (by omega))
        refine lv_iload hx hb dX12_telling_64 (lv_at hl 1 rfl) ?_
        exact W.iret (v := z2) hx hb hr (fun t ht hW => ⟨⟨z2, (), rfl, (by exact ⟨(by have q8 := ti_all z2; omega), (by omega)⟩), by (try dsimp only); rw [ht]; exact ⟨hT, hF⟩⟩, hS.F ht⟩) hS.2.2 dX12_telling_66
      · have t58 : ((1625 + 2 * i1 : Nat) : Int) < x54.toInt := ti_nle c56 rfl (nI_toInt (by omega))
        refine lv_aload_n hx hb dX12_telling_21 rfl (lv_at hl 2 rfl) ?_
        refine tw_get hx hb hts bF_X12 hown hK hT hr_o0 shm_0 rfl 1 (by decide) (ht_at hts 0 rfl) (fun _ h9 => h9) dX12_telling_22 (fun v9 m59 h9 => ?_)
        obtain ⟨rfl, hg60⟩ := h9 _ rfl
        refine lv_iload hx hb dX12_telling_25 (lv_at hl 0 rfl) ?_
        refine tw_iald (i := (nI (1625 + 2 * i1))) hx hb hK hT hg49 shm_2 rfl (vp_in_nI (by omega) (by decide)) dX12_telling_27 (fun v9 m61 h9 => ?_)
        obtain ⟨x62, rfl, gx62, kx62⟩ := (gp_at h9 (w_fre (by have q9 := tn_of (show (nI (1625 + 2 * i1)).toInt = ((1625 + 2 * i1 : Nat) : Int) from (nI_toInt (by omega))) (show (0 : Int) ≤ ((1625 + 2 * i1 : Nat) : Int) from by omega); omega)))
        refine lv_iload_n hx hb dX12_telling_28 rfl (lv_at hl 5 rfl) ?_
        refine lv_icmp_gt (tgt := 58) hx hb dX12_telling_29 (by decide) (fun c63 => ?_) (fun c63 => ?_)
        · have t64 : ho.toInt < x62.toInt := ti_lt c63 rfl rfl
          refine lv_iinc (v := nI (1625 + 2 * i1 + 2)) (lv' := [(5, .int (nI (1625 + 2 * i1 + 2))), (4, .int z2), (0, .ref o0), (1, .int 1624), (2, .int 1625), (3, .int ho)]) hx hb dX12_telling_58 hl (k := 0) rfl (nI_add (1625 + 2 * i1) 2) (by decide) rfl (fun ls hl => ?_)
          refine lv_goto (tgt := 6) hx hb dX12_telling_61 (by decide) ?_
          have hl : lv_has ls 6 [(5, .int (nI (1625 + 2 * (i1 + 1)))), (4, .int z2), (0, .ref o0), (1, .int 1624), (2, .int 1625), (3, .int ho)] := by rw [show nI (1625 + 2 * (i1 + 1)) = nI (1625 + 2 * i1 + 2) from congrArg nI (by omega)]; exact hl
          exact ih36 (i1 + 1) (by omega) z2 (by have q9 := (show z2.toInt = z2.toInt from rfl); (try have q8 := ti_all z2); omega) _ _ hT hF hS ls (lv_sub hl [0, 1, 2, 3, 4, 5] rfl)
        · have t65 : x62.toInt ≤ ho.toInt := ti_nlt c63 rfl rfl
          refine lv_iload hx hb dX12_telling_32 (lv_at hl 1 rfl) ?_
          refine lv_if_lt (tgt := 54) hx hb dX12_telling_34 (by decide) (fun c66 => ?_) (fun c66 => ?_)
          · have t67 : z2.toInt < 0 := ti_lt c66 rfl (by decide)
            refine lv_iload hx hb dX12_telling_54 (lv_at hl 0 rfl) ?_
            refine lv_istore (lv' := [(4, .int (nI (1625 + 2 * i1))), (5, .int (nI (1625 + 2 * i1))), (0, .ref o0), (1, .int 1624), (2, .int 1625), (3, .int ho)]) hx hb dX12_telling_56 hl (by decide) rfl (fun ls hl => ?_)
            refine lv_iinc (v := nI (1625 + 2 * i1 + 2)) (lv' := [(5, .int (nI (1625 + 2 * i1 + 2))), (4, .int (nI (1625 + 2 * i1))), (0, .ref o0), (1, .int 1624), (2, .int 1625), (3, .int ho)]) hx hb dX12_telling_58 hl (k := 1) rfl (nI_add (1625 + 2 * i1) 2) (by decide) rfl (fun ls hl => ?_)
            refine lv_goto (tgt := 6) hx hb dX12_telling_61 (by decide) ?_
            have hl : lv_has ls 6 [(5, .int (nI (1625 + 2 * (i1 + 1)))), (4, .int (nI (1625 + 2 * i1))), (0, .ref o0), (1, .int 1624), (2, .int 1625), (3, .int ho)] := by rw [show nI (1625 + 2 * (i1 + 1)) = nI (1625 + 2 * i1 + 2) from congrArg nI (by omega)]; exact hl
            exact ih36 (i1 + 1) (by omega) (nI (1625 + 2 * i1)) (by have q9 := (show (nI (1625 + 2 * i1)).toInt = ((1625 + 2 * i1 : Nat) : Int) from (nI_toInt (by omega))); (try have q8 := ti_all (nI (1625 + 2 * i1))); omega) _ _ hT hF hS ls (lv_sub hl [0, 1, 2, 3, 4, 5] rfl)
          · have t68 : 0 ≤ z2.toInt := ti_nlt c66 rfl (by decide)
            refine lv_aload_n hx hb dX12_telling_37 rfl (lv_at hl 2 rfl) ?_
            refine tw_get hx hb hts bF_X12 hown hK hT hr_o0 shm_0 rfl 1 (by decide) (ht_at hts 0 rfl) (fun _ h9 => h9) dX12_telling_38 (fun v9 m69 h9 => ?_)
            obtain ⟨rfl, hg70⟩ := h9 _ rfl
            refine lv_iload hx hb dX12_telling_41 (lv_at hl 0 rfl) ?_
            refine tw_iald (i := (nI (1625 + 2 * i1))) hx hb hK hT hg49 shm_2 rfl (vp_in_nI (by omega) (by decide)) dX12_telling_43 (fun v9 m71 h9 => ?_)
            obtain ⟨x72, rfl, gx72, kx72⟩ := (gp_at h9 (w_fre (by have q9 := tn_of (show (nI (1625 + 2 * i1)).toInt = ((1625 + 2 * i1 : Nat) : Int) from (nI_toInt (by omega))) (show (0 : Int) ≤ ((1625 + 2 * i1 : Nat) : Int) from by omega); omega)))
            obtain rfl : x62 = x72 := (el_same m71 m61 rfl).symm
            refine lv_aload_n hx hb dX12_telling_44 rfl (lv_at hl 2 rfl) ?_
            refine tw_get hx hb hts bF_X12 hown hK hT hr_o0 shm_0 rfl 1 (by decide) (ht_at hts 0 rfl) (fun _ h9 => h9) dX12_telling_45 (fun v9 m73 h9 => ?_)
            obtain ⟨rfl, hg74⟩ := h9 _ rfl
            refine lv_iload hx hb dX12_telling_48 (lv_at hl 1 rfl) ?_
            refine tw_iald (i := z2) hx hb hK hT hg49 shm_2 rfl (vin_t (a := z2.toInt) rfl (by omega) (by omega)) dX12_telling_50 (fun v9 m75 h9 => ?_)
            obtain ⟨x76, rfl, gx76, kx76⟩ := (gp_any h9)
            refine lv_icmp_lt (tgt := 58) hx hb dX12_telling_51 (by decide) (fun c77 => ?_) (fun c77 => ?_)
            · have t78 : x62.toInt < x76.toInt := ti_lt c77 rfl rfl
              refine lv_iinc (v := nI (1625 + 2 * i1 + 2)) (lv' := [(5, .int (nI (1625 + 2 * i1 + 2))), (4, .int z2), (0, .ref o0), (1, .int 1624), (2, .int 1625), (3, .int ho)]) hx hb dX12_telling_58 hl (k := 0) rfl (nI_add (1625 + 2 * i1) 2) (by decide) rfl (fun ls hl => ?_)
              refine lv_goto (tgt := 6) hx hb dX12_telling_61 (by decide) ?_
              have hl : lv_has ls 6 [(5, .int (nI (1625 + 2 * (i1 + 1)))), (4, .int z2), (0, .ref o0), (1, .int 1624), (2, .int 1625), (3, .int ho)] := by rw [show nI (1625 + 2 * (i1 + 1)) = nI (1625 + 2 * i1 + 2) from congrArg nI (by omega)]; exact hl
              exact ih36 (i1 + 1) (by omega) z2 (by have q9 := (show z2.toInt = z2.toInt from rfl); (try have q8 := ti_all z2); omega) _ _ hT hF hS ls (lv_sub hl [0, 1, 2, 3, 4, 5] rfl)
            · have t79 : x76.toInt ≤ x62.toInt := ti_nlt c77 rfl rfl
              refine lv_iload hx hb dX12_telling_54 (lv_at hl 0 rfl) ?_
              refine lv_istore (lv' := [(4, .int (nI (1625 + 2 * i1))), (5, .int (nI (1625 + 2 * i1))), (0, .ref o0), (1, .int 1624), (2, .int 1625), (3, .int ho)]) hx hb dX12_telling_56 hl (by decide) rfl (fun ls hl => ?_)
              refine lv_iinc (v := nI (1625 + 2 * i1 + 2)) (lv' := [(5, .int (nI (1625 + 2 * i1 + 2))), (4, .int (nI (1625 + 2 * i1))), (0, .ref o0), (1, .int 1624), (2, .int 1625), (3, .int ho)]) hx hb dX12_telling_58 hl (k := 1) rfl (nI_add (1625 + 2 * i1) 2) (by decide) rfl (fun ls hl => ?_)
              refine lv_goto (tgt := 6) hx hb dX12_telling_61 (by decide) ?_
              have hl : lv_has ls 6 [(5, .int (nI (1625 + 2 * (i1 + 1)))), (4, .int (nI (1625 + 2 * i1))), (0, .ref o0), (1, .int 1624), (2, .int 1625), (3, .int ho)] := by rw [show nI (1625 + 2 * (i1 + 1)) = nI (1625 + 2 * i1 + 2) from congrArg nI (by omega)]; exact hl
              exact ih36 (i1 + 1) (by omega) (nI (1625 + 2 * i1)) (by have q9 := (show (nI (1625 + 2 * i1)).toInt = ((1625 + 2 * i1 : Nat) : Int) from (nI_toInt (by omega))); (try have q8 := ti_all (nI (1625 + 2 * i1))); omega) _ _ hT hF hS ls (lv_sub hl [0, 1, 2, 3, 4, 5] rfl)
  have hl2 : lv_has ls 6 [(5, .int (nI (1625 + 2 * 0))), (4, .int (-1)), (0, .ref o0), (1, .int 1624), (2, .int 1625), (3, .int ho)] := hl
  exact key36 (60 - 0) 0 (by omega) (-1) (by have q9 := (show (-1 : Int32).toInt = (-1) from (by decide)); (try have q8 := ti_all (-1 : Int32)); omega) _ _ hT hF hS ls (lv_sub hl2 [0, 1, 2, 3, 4, 5] rfl)
def w_s_telling2 : List Cond := .code yX12_telling cX12_telling 6 (some .int) :: (HAppend.hAppend (α := List Cond) (β := List Cond) (γ := List Cond) [.fieldLink RX12 9 "SeaLandModel" "world" "[I"] bs)
set_option maxHeartbeats 4000000 in
set_option maxRecDepth 100000 in
theorem s_telling2 (l : Launch) (dC : Nat → ClassId) (dI : Nat → Nat → Nat) (kA : Nat → ClassId) (adK adV : Nat → Nat) (G : gT) (H0 : Heap) (q : Nat → Nat) (wZ wN : Nat → Int) (wH wB wC : Int) (wL wK : Nat → Prop) (wU wV : Nat → Nat) (PI : Nat → Int → Prop) (im : Int) (PM PT : Nat → Int → Prop) (lS lB lE : Nat → Nat → Int → Prop) (lN : Nat → Int) (o0 : Nat) (ho : Int32)  (hT : gH (dC, dI) kA (SHm q (wP wZ wN wH wB wC wL wK wU wV) PI im PM PT lS lB lE lN) G H0) (hr_o0 : G o0 = some 0) (hgz : ∀ i, 0 ≤ wZ i) (hgn : ∀ i, 6500000 ≤ wN i ∧ wN i ≤ 20200000) (hgh : 0 ≤ wH ∧ wH ≤ 40000) (hgb : 0 ≤ wB ∧ wB ≤ 3850000) (hgc : 0 ≤ wC ∧ wC ≤ 30) (hgi : 0 ≤ im ∧ im ≤ 1) (hgu : ∀ a t, G a = some (t + 1) → a = q t) : Met l yX12_telling w_s_telling2 ({ frames := 0, cells := 0, slots := 0, locals := 0 }) (va_Pc [.ref o0, .int 1503, .int 1504, .int ho] (fun U => U.heap = H0 ∧ va_K (dC, dI) vwCl (tyl kA) U ∧ EVS adK adV (gA G H0.size) U U.heap)) (va_Qi (fun (r : Int32) (u : Unit) => (-1 ≤ r.toInt ∧ r.toInt ≤ 1622) ∧ ((r.toInt = -1 ∨ (1504 ≤ r.toInt ∧ r.toInt ≤ 1622 ∧ (r.toInt - 1504) % 2 = 0)))) (fun (_ : Unit) (t : State) => gH (dC, dI) kA (SHm q (wP wZ wN wH wB wC wL wK wU wV) PI im PM PT lS lB lE lN) G t.heap ∧ gF (dC, dI) SKm G ([] : List (Nat × Nat)) H0 t.heap) (gA G H0.size)) 0 0 (gA G H0.size) := by
  refine Met.ofW (cc := cX12_telling) (maxL := 6) (ret := (some .int)) (by decide) rfl ?_
  intro p e s m args below meth c s₁ B hml hv
  obtain ⟨rfl, hH0, hK, hE⟩ := hv
  have hx := B.exec
  have hb := B.bytes
  have hr := B.returns
  have hts := atoms_spec (ws := w_s_telling2) B.pre
  have hown : s.vm.findClass RX12 = some m.cls := findClass_of_methodNamed B.named
  have hlocks := B.notSynchronized
  subst hH0
  generalize hAe : gA G s.heap.size = A at hE ⊢
  have hA : ∀ q : Nat, s.heap.size ≤ q → A q := fun q h => by rw [← hAe]; exact Or.inr h
  have hG := gA_of hAe
  have hS : va_S A s.heap s.heap [] := va_S.rf
  have hF : gF (dC, dI) SKm G ([] : List (Nat × Nat)) s.heap s.heap := gF.rf
  have hl := lv_entry ([.ref o0, .int 1503, .int 1504, .int ho]) (n := 6) (Nat.le_of_ble_eq_true rfl)
  rw [lg_entry_eq]
  generalize (lg_sl ([.ref o0, .int 1503, .int 1504, .int ho]) ++ List.replicate (6 - (lg_sl ([.ref o0, .int 1503, .int 1504, .int ho])).length) Slot.unset).toArray = ls at hl ⊢
  have hl : lv_has ls 6 [(0, .ref o0), (1, .int 1503), (2, .int 1504), (3, .int ho)] := hl
  refine lv_iconst (v := (-1)) hx hb dX12_telling_0 (by decide) ?_
  refine lv_istore (lv' := [(4, .int (-1)), (0, .ref o0), (1, .int 1503), (2, .int 1504), (3, .int ho)]) hx hb dX12_telling_1 hl (by decide) rfl (fun ls hl => ?_)
  refine lv_iload_n hx hb dX12_telling_3 rfl (lv_at hl 3 rfl) ?_
  refine lv_istore (lv' := [(5, .int 1504), (4, .int (-1)), (0, .ref o0), (1, .int 1503), (2, .int 1504), (3, .int ho)]) hx hb dX12_telling_4 hl (by decide) rfl (fun ls hl => ?_)
  have key36 : ∀ (n36 i1 : Nat), i1 + n36 = 60 → ∀ (z2 : Int32), (((z2.toInt = -1 ∨ (1504 ≤ z2.toInt ∧ z2.toInt ≤ 1622 ∧ (z2.toInt - 1504) % 2 = 0)))) → ∀ (H : Heap) (locs : List Loc), gH (dC, dI) kA (SHm q (wP wZ wN wH wB wC wL wK wU wV) PI im PM PT lS lB lE lN) G H → gF (dC, dI) SKm G ([] : List (Nat × Nat)) s.heap H → va_S A s.heap H locs → ∀ ls : Array Slot, lv_has ls 6 [(5, .int (nI (1504 + 2 * i1))), (4, .int z2), (0, .ref o0), (1, .int 1503), (2, .int 1504), (3, .int ho)] → W p l e (headSpec w_s_telling2 ({ frames := 0, cells := 0, slots := 0, locals := 0 })).room s m #[.ref o0, .int 1503, .int 1504, .int ho] below meth c H locs 0 0 (MQ below (va_Qi (fun (r : Int32) (u : Unit) => (-1 ≤ r.toInt ∧ r.toInt ≤ 1622) ∧ ((r.toInt = -1 ∨ (1504 ≤ r.toInt ∧ r.toInt ≤ 1622 ∧ (r.toInt - 1504) % 2 = 0)))) (fun (_ : Unit) (t : State) => gH (dC, dI) kA (SHm q (wP wZ wN wH wB wC wL wK wU wV) PI im PM PT lS lB lE lN) G t.heap ∧ gF (dC, dI) SKm G ([] : List (Nat × Nat)) s.heap t.heap) A) #[.ref o0, .int 1503, .int 1504, .int ho] s 0 0 A) (F0 m 6 ls []) := by
    intro n36
    induction n36 with
    | zero =>
      intro i1 hn36 z2 h3 H locs hT hF hS  ls hl
      obtain rfl : 60 = i1 := by omega
      refine lv_iload hx hb dX12_telling_6 (lv_at hl 0 rfl) ?_
      refine lv_iload_n hx hb dX12_telling_8 rfl (lv_at hl 4 rfl) ?_
      refine lv_iconst (v := 2) hx hb dX12_telling_9 (by decide) ?_
      refine lv_aload_n hx hb dX12_telling_10 rfl (lv_at hl 2 rfl) ?_
      refine tw_get hx hb hts bF_X12 hown hK hT hr_o0 shm_0 rfl 1 (by decide) (ht_at hts 0 rfl) (fun _ h9 => h9) dX12_telling_11 (fun v9 m38 h9 => ?_)
      obtain ⟨rfl, hg39⟩ := h9 _ rfl
      refine lv_iload_n hx hb dX12_telling_14 rfl (lv_at hl 3 rfl) ?_
      refine tw_iald (i := 1503) hx hb hK hT hg39 shm_2 rfl (by unfold vp_in; decide) dX12_telling_15 (fun v9 m40 h9 => ?_)
      obtain ⟨x41, rfl, gx41, kx41⟩ := (gp_at h9 (w_wic (by have q9 := tn_of (show (1503 : Int32).toInt = 1503 from (by decide)) (show (0 : Int) ≤ 1503 from by omega); omega)))
      refine lv_imul hx hb dX12_telling_16 ?_
      refine lv_topi (fun x42 ex42 => ?_)
      have t43 : x42.toInt = 2 * x41.toInt := ti_mul ex42 (by decide) rfl (by omega) (by omega)
      refine lv_iadd hx hb dX12_telling_17 ?_
      refine lv_topi (fun x44 ex44 => ?_)
      have t45 : x44.toInt = 1504 + x42.toInt := ti_add ex44 (by decide) rfl (by omega) (by omega)
      refine lv_icmp_ge (tgt := 64) hx hb dX12_telling_18 (by decide) (fun c46 => ?_) (fun c46 => (by exfalso; have q9 : ((1504 + 2 * 60 : Nat) : Int) < x44.toInt := ti_nle c46 rfl (nI_toInt (by omega)); omega))
      have t47 : x44.toInt ≤ ((1504 + 2 * 60 : Nat) : Int) := ti_le c46 rfl (nI_toInt (by omega))
      refine lv_iload hx hb dX12_telling_64 (lv_at hl 1 rfl) ?_
      exact W.iret (v := z2) hx hb hr (fun t ht hW => ⟨⟨z2, (), rfl, (by exact ⟨(by have q8 := ti_all z2; omega), (by omega)⟩), by (try dsimp only); rw [ht]; exact ⟨hT, hF⟩⟩, hS.F ht⟩) hS.2.2 dX12_telling_66
    | succ n36 ih36 =>
      intro i1 hn36 z2 h3 H locs hT hF hS  ls hl
      have hlt47 : i1 < 60 := by omega
      refine lv_iload hx hb dX12_telling_6 (lv_at hl 0 rfl) ?_
      refine lv_iload_n hx hb dX12_telling_8 rfl (lv_at hl 4 rfl) ?_
      refine lv_iconst (v := 2) hx hb dX12_telling_9 (by decide) ?_
      refine lv_aload_n hx hb dX12_telling_10 rfl (lv_at hl 2 rfl) ?_
      refine tw_get hx hb hts bF_X12 hown hK hT hr_o0 shm_0 rfl 1 (by decide) (ht_at hts 0 rfl) (fun _ h9 => h9) dX12_telling_11 (fun v9 m48 h9 => ?_)
      obtain ⟨rfl, hg49⟩ := h9 _ rfl
      refine lv_iload_n hx hb dX12_telling_14 rfl (lv_at hl 3 rfl) ?_
      refine tw_iald (i := 1503) hx hb hK hT hg49 shm_2 rfl (by unfold vp_in; decide) dX12_telling_15 (fun v9 m50 h9 => ?_)
      obtain ⟨x51, rfl, gx51, kx51⟩ := (gp_at h9 (w_wic (by have q9 := tn_of (show (1503 : Int32).toInt = 1503 from (by decide)) (show (0 : Int) ≤ 1503 from by omega); omega)))
      refine lv_imul hx hb dX12_telling_16 ?_
      refine lv_topi (fun x52 ex52 => ?_)
      have t53 : x52.toInt = 2 * x51.toInt := ti_mul ex52 (by decide) rfl (by omega) (by omega)
      refine lv_iadd hx hb dX12_telling_17 ?_
      refine lv_topi (fun x54 ex54 => ?_)
      have t55 : x54.toInt = 1504 + x52.toInt := ti_add ex54 (by decide) rfl (by omega) (by omega)
      refine lv_icmp_ge (tgt := 64) hx hb dX12_telling_18 (by decide) (fun c56 => ?_) (fun c56 => ?_)
      · have t57 : x54.toInt ≤ ((1504 + 2 * i1 : Nat) : Int) := ti_le c56 rfl (nI_toInt (by omega))
        refine lv_iload hx hb dX12_telling_64 (lv_at hl 1 rfl) ?_
        exact W.iret (v := z2) hx hb hr (fun t ht hW => ⟨⟨z2, (), rfl, (by exact ⟨(by have q8 := ti_all z2; omega), (by omega)⟩), by (try dsimp only); rw [ht]; exact ⟨hT, hF⟩⟩, hS.F ht⟩) hS.2.2 dX12_telling_66
      · have t58 : ((1504 + 2 * i1 : Nat) : Int) < x54.toInt := ti_nle c56 rfl (nI_toInt (by omega))
        refine lv_aload_n hx hb dX12_telling_21 rfl (lv_at hl 2 rfl) ?_
        refine tw_get hx hb hts bF_X12 hown hK hT hr_o0 shm_0 rfl 1 (by decide) (ht_at hts 0 rfl) (fun _ h9 => h9) dX12_telling_22 (fun v9 m59 h9 => ?_)
        obtain ⟨rfl, hg60⟩ := h9 _ rfl
        refine lv_iload hx hb dX12_telling_25 (lv_at hl 0 rfl) ?_
        refine tw_iald (i := (nI (1504 + 2 * i1))) hx hb hK hT hg49 shm_2 rfl (vp_in_nI (by omega) (by decide)) dX12_telling_27 (fun v9 m61 h9 => ?_)
        obtain ⟨x62, rfl, gx62, kx62⟩ := (gp_at h9 (w_fre (by have q9 := tn_of (show (nI (1504 + 2 * i1)).toInt = ((1504 + 2 * i1 : Nat) : Int) from (nI_toInt (by omega))) (show (0 : Int) ≤ ((1504 + 2 * i1 : Nat) : Int) from by omega); omega)))
        refine lv_iload_n hx hb dX12_telling_28 rfl (lv_at hl 5 rfl) ?_
        refine lv_icmp_gt (tgt := 58) hx hb dX12_telling_29 (by decide) (fun c63 => ?_) (fun c63 => ?_)
        · have t64 : ho.toInt < x62.toInt := ti_lt c63 rfl rfl
          refine lv_iinc (v := nI (1504 + 2 * i1 + 2)) (lv' := [(5, .int (nI (1504 + 2 * i1 + 2))), (4, .int z2), (0, .ref o0), (1, .int 1503), (2, .int 1504), (3, .int ho)]) hx hb dX12_telling_58 hl (k := 0) rfl (nI_add (1504 + 2 * i1) 2) (by decide) rfl (fun ls hl => ?_)
          refine lv_goto (tgt := 6) hx hb dX12_telling_61 (by decide) ?_
          have hl : lv_has ls 6 [(5, .int (nI (1504 + 2 * (i1 + 1)))), (4, .int z2), (0, .ref o0), (1, .int 1503), (2, .int 1504), (3, .int ho)] := by rw [show nI (1504 + 2 * (i1 + 1)) = nI (1504 + 2 * i1 + 2) from congrArg nI (by omega)]; exact hl
          exact ih36 (i1 + 1) (by omega) z2 (by have q9 := (show z2.toInt = z2.toInt from rfl); (try have q8 := ti_all z2); omega) _ _ hT hF hS ls (lv_sub hl [0, 1, 2, 3, 4, 5] rfl)
        · have t65 : x62.toInt ≤ ho.toInt := ti_nlt c63 rfl rfl
          refine lv_iload hx hb dX12_telling_32 (lv_at hl 1 rfl) ?_
          refine lv_if_lt (tgt := 54) hx hb dX12_telling_34 (by decide) (fun c66 => ?_) (fun c66 => ?_)
          · have t67 : z2.toInt < 0 := ti_lt c66 rfl (by decide)
            refine lv_iload hx hb dX12_telling_54 (lv_at hl 0 rfl) ?_
            refine lv_istore (lv' := [(4, .int (nI (1504 + 2 * i1))), (5, .int (nI (1504 + 2 * i1))), (0, .ref o0), (1, .int 1503), (2, .int 1504), (3, .int ho)]) hx hb dX12_telling_56 hl (by decide) rfl (fun ls hl => ?_)
            refine lv_iinc (v := nI (1504 + 2 * i1 + 2)) (lv' := [(5, .int (nI (1504 + 2 * i1 + 2))), (4, .int (nI (1504 + 2 * i1))), (0, .ref o0), (1, .int 1503), (2, .int 1504), (3, .int ho)]) hx hb dX12_telling_58 hl (k := 1) rfl (nI_add (1504 + 2 * i1) 2) (by decide) rfl (fun ls hl => ?_)
            refine lv_goto (tgt := 6) hx hb dX12_telling_61 (by decide) ?_
            have hl : lv_has ls 6 [(5, .int (nI (1504 + 2 * (i1 + 1)))), (4, .int (nI (1504 + 2 * i1))), (0, .ref o0), (1, .int 1503), (2, .int 1504), (3, .int ho)] := by rw [show nI (1504 + 2 * (i1 + 1)) = nI (1504 + 2 * i1 + 2) from congrArg nI (by omega)]; exact hl
            exact ih36 (i1 + 1) (by omega) (nI (1504 + 2 * i1)) (by have q9 := (show (nI (1504 + 2 * i1)).toInt = ((1504 + 2 * i1 : Nat) : Int) from (nI_toInt (by omega))); (try have q8 := ti_all (nI (1504 + 2 * i1))); omega) _ _ hT hF hS ls (lv_sub hl [0, 1, 2, 3, 4, 5] rfl)
          · have t68 : 0 ≤ z2.toInt := ti_nlt c66 rfl (by decide)
            refine lv_aload_n hx hb dX12_telling_37 rfl (lv_at hl 2 rfl) ?_
            refine tw_get hx hb hts bF_X12 hown hK hT hr_o0 shm_0 rfl 1 (by decide) (ht_at hts 0 rfl) (fun _ h9 => h9) dX12_telling_38 (fun v9 m69 h9 => ?_)
            obtain ⟨rfl, hg70⟩ := h9 _ rfl
            refine lv_iload hx hb dX12_telling_41 (lv_at hl 0 rfl) ?_
            refine tw_iald (i := (nI (1504 + 2 * i1))) hx hb hK hT hg49 shm_2 rfl (vp_in_nI (by omega) (by decide)) dX12_telling_43 (fun v9 m71 h9 => ?_)
            obtain ⟨x72, rfl, gx72, kx72⟩ := (gp_at h9 (w_fre (by have q9 := tn_of (show (nI (1504 + 2 * i1)).toInt = ((1504 + 2 * i1 : Nat) : Int) from (nI_toInt (by omega))) (show (0 : Int) ≤ ((1504 + 2 * i1 : Nat) : Int) from by omega); omega)))
            obtain rfl : x62 = x72 := (el_same m71 m61 rfl).symm
            refine lv_aload_n hx hb dX12_telling_44 rfl (lv_at hl 2 rfl) ?_
            refine tw_get hx hb hts bF_X12 hown hK hT hr_o0 shm_0 rfl 1 (by decide) (ht_at hts 0 rfl) (fun _ h9 => h9) dX12_telling_45 (fun v9 m73 h9 => ?_)
            obtain ⟨rfl, hg74⟩ := h9 _ rfl
            refine lv_iload hx hb dX12_telling_48 (lv_at hl 1 rfl) ?_
            refine tw_iald (i := z2) hx hb hK hT hg49 shm_2 rfl (vin_t (a := z2.toInt) rfl (by omega) (by omega)) dX12_telling_50 (fun v9 m75 h9 => ?_)
            obtain ⟨x76, rfl, gx76, kx76⟩ := (gp_any h9)
            refine lv_icmp_lt (tgt := 58) hx hb dX12_telling_51 (by decide) (fun c77 => ?_) (fun c77 => ?_)
            · have t78 : x62.toInt < x76.toInt := ti_lt c77 rfl rfl
              refine lv_iinc (v := nI (1504 + 2 * i1 + 2)) (lv' := [(5, .int (nI (1504 + 2 * i1 + 2))), (4, .int z2), (0, .ref o0), (1, .int 1503), (2, .int 1504), (3, .int ho)]) hx hb dX12_telling_58 hl (k := 0) rfl (nI_add (1504 + 2 * i1) 2) (by decide) rfl (fun ls hl => ?_)
              refine lv_goto (tgt := 6) hx hb dX12_telling_61 (by decide) ?_
              have hl : lv_has ls 6 [(5, .int (nI (1504 + 2 * (i1 + 1)))), (4, .int z2), (0, .ref o0), (1, .int 1503), (2, .int 1504), (3, .int ho)] := by rw [show nI (1504 + 2 * (i1 + 1)) = nI (1504 + 2 * i1 + 2) from congrArg nI (by omega)]; exact hl
              exact ih36 (i1 + 1) (by omega) z2 (by have q9 := (show z2.toInt = z2.toInt from rfl); (try have q8 := ti_all z2); omega) _ _ hT hF hS ls (lv_sub hl [0, 1, 2, 3, 4, 5] rfl)
            · have t79 : x76.toInt ≤ x62.toInt := ti_nlt c77 rfl rfl
              refine lv_iload hx hb dX12_telling_54 (lv_at hl 0 rfl) ?_
              refine lv_istore (lv' := [(4, .int (nI (1504 + 2 * i1))), (5, .int (nI (1504 + 2 * i1))), (0, .ref o0), (1, .int 1503), (2, .int 1504), (3, .int ho)]) hx hb dX12_telling_56 hl (by decide) rfl (fun ls hl => ?_)
              refine lv_iinc (v := nI (1504 + 2 * i1 + 2)) (lv' := [(5, .int (nI (1504 + 2 * i1 + 2))), (4, .int (nI (1504 + 2 * i1))), (0, .ref o0), (1, .int 1503), (2, .int 1504), (3, .int ho)]) hx hb dX12_telling_58 hl (k := 1) rfl (nI_add (1504 + 2 * i1) 2) (by decide) rfl (fun ls hl => ?_)
              refine lv_goto (tgt := 6) hx hb dX12_telling_61 (by decide) ?_
              have hl : lv_has ls 6 [(5, .int (nI (1504 + 2 * (i1 + 1)))), (4, .int (nI (1504 + 2 * i1))), (0, .ref o0), (1, .int 1503), (2, .int 1504), (3, .int ho)] := by rw [show nI (1504 + 2 * (i1 + 1)) = nI (1504 + 2 * i1 + 2) from congrArg nI (by omega)]; exact hl
              exact ih36 (i1 + 1) (by omega) (nI (1504 + 2 * i1)) (by have q9 := (show (nI (1504 + 2 * i1)).toInt = ((1504 + 2 * i1 : Nat) : Int) from (nI_toInt (by omega))); (try have q8 := ti_all (nI (1504 + 2 * i1))); omega) _ _ hT hF hS ls (lv_sub hl [0, 1, 2, 3, 4, 5] rfl)
  have hl2 : lv_has ls 6 [(5, .int (nI (1504 + 2 * 0))), (4, .int (-1)), (0, .ref o0), (1, .int 1503), (2, .int 1504), (3, .int ho)] := hl
  exact key36 (60 - 0) 0 (by omega) (-1) (by have q9 := (show (-1 : Int32).toInt = (-1) from (by decide)); (try have q8 := ti_all (-1 : Int32)); omega) _ _ hT hF hS ls (lv_sub hl2 [0, 1, 2, 3, 4, 5] rfl)
def w_s_rain : List Cond := .code yX12_rain cX12_rain 3 (some .int) :: (HAppend.hAppend (α := List Cond) (β := List Cond) (γ := List Cond) [.code yX12_telling cX12_telling 6 (some .int), .fieldLink RX12 9 "SeaLandModel" "world" "[I", .methodLink RX12 243 yX12_telling, .instanceMethod yX12_telling, .selects RX12 yX12_telling yX12_telling, .initialized RX12] bs)
set_option maxHeartbeats 4000000 in
set_option maxRecDepth 100000 in
theorem s_rain (l : Launch) (dC : Nat → ClassId) (dI : Nat → Nat → Nat) (kA : Nat → ClassId) (adK adV : Nat → Nat) (G : gT) (H0 : Heap) (q : Nat → Nat) (wZ wN : Nat → Int) (wH wB wC : Int) (wL wK : Nat → Prop) (wU wV : Nat → Nat) (PI : Nat → Int → Prop) (im : Int) (PM PT : Nat → Int → Prop) (lS lB lE : Nat → Nat → Int → Prop) (lN : Nat → Int) (o0 : Nat) (ho : Int32)  (hT : gH (dC, dI) kA (SHm q (wP wZ wN wH wB wC wL wK wU wV) PI im PM PT lS lB lE lN) G H0) (hr_o0 : G o0 = some 0) (hgz : ∀ i, 0 ≤ wZ i) (hgn : ∀ i, 6500000 ≤ wN i ∧ wN i ≤ 20200000) (hgh : 0 ≤ wH ∧ wH ≤ 40000) (hgb : 0 ≤ wB ∧ wB ≤ 3850000) (hgc : 0 ≤ wC ∧ wC ≤ 30) (hgi : 0 ≤ im ∧ im ≤ 1) (hgu : ∀ a t, G a = some (t + 1) → a = q t) : Met l yX12_rain w_s_rain ({ frames := 1, cells := 0, slots := 0, locals := 25 }) (va_Pc [.ref o0, .int ho] (fun U => U.heap = H0 ∧ va_K (dC, dI) vwCl (tyl kA) U ∧ EVS adK adV (gA G H0.size) U U.heap)) (va_Qi (fun (r : Int32) (u : Unit) => (0 ≤ r.toInt ∧ r.toInt ≤ 20)) (fun (_ : Unit) (t : State) => gH (dC, dI) kA (SHm q (wP wZ wN wH wB wC wL wK wU wV) PI im PM PT lS lB lE lN) G t.heap ∧ gF (dC, dI) SKm G ([] : List (Nat × Nat)) H0 t.heap) (gA G H0.size)) 0 0 (gA G H0.size) := by
  refine Met.ofW (cc := cX12_rain) (maxL := 3) (ret := (some .int)) (by decide) rfl ?_
  intro p e s m args below meth c s₁ B hml hv
  obtain ⟨rfl, hH0, hK, hE⟩ := hv
  have hx := B.exec
  have hb := B.bytes
  have hr := B.returns
  have hts := atoms_spec (ws := w_s_rain) B.pre
  have hown : s.vm.findClass RX12 = some m.cls := findClass_of_methodNamed B.named
  have hlocks := B.notSynchronized
  subst hH0
  generalize hAe : gA G s.heap.size = A at hE ⊢
  have hA : ∀ q : Nat, s.heap.size ≤ q → A q := fun q h => by rw [← hAe]; exact Or.inr h
  have hG := gA_of hAe
  have hS : va_S A s.heap s.heap [] := va_S.rf
  have hF : gF (dC, dI) SKm G ([] : List (Nat × Nat)) s.heap s.heap := gF.rf
  have hl := lv_entry ([.ref o0, .int ho]) (n := 3) (Nat.le_of_ble_eq_true rfl)
  rw [lg_entry_eq]
  generalize (lg_sl ([.ref o0, .int ho]) ++ List.replicate (3 - (lg_sl ([.ref o0, .int ho])).length) Slot.unset).toArray = ls at hl ⊢
  have hl : lv_has ls 3 [(0, .ref o0), (1, .int ho)] := hl
  refine lv_aload_n hx hb dX12_rain_0 rfl (lv_at hl 0 rfl) ?_
  refine lv_sipush (v := 1624) hx hb dX12_rain_1 (by decide) ?_
  refine lv_sipush (v := 1625) hx hb dX12_rain_4 (by decide) ?_
  refine lv_iload_n hx hb dX12_rain_7 rfl (lv_at hl 1 rfl) ?_
  have hFc := gA_free hG hA hS
  refine va_calli (va_runV (As := [.int 1624, .int 1625, .int ho]) (rest := []) ⟨hx, hb, hml, hown, hts⟩ (s_telling1 l dC dI kA adK adV G s.heap q wZ wN wH wB wC wL wK wU wV PI im PM PT lS lB lE lN o0 ho hT hr_o0 hgz hgn hgh hgb hgc hgi hgu) (cwV 3 hts (goodIn_app (goodIn_r _ [3, 4, 5, 6] rfl (by decide +kernel)) (goodIn_ca (goodIn_r _ [1, 2] rfl (by decide +kernel)) (bs_in _ _))) rfl rfl rfl (by decide +kernel) ⟨(Nat.le_of_ble_eq_true rfl), (Nat.le_of_ble_eq_true rfl)⟩) ⟨fun a U g mk q => by obtain ⟨q0, q1, qK, qE⟩ := q; exact ⟨q0, q1, va_K.moved (u := U) (U := U.calling g mk a) (Vm.Alike.refl U.vm) qK, EVS.blind g mk a qE⟩, gH_rc hK hT hr_o0 shm_0 rfl, fun U hU hW => ⟨rfl, hU, va_K.moved hW.alike hK, hE.call hS hFc hU hW⟩⟩ rfl rfl hl.1 rfl (lv_room (Nat.le_of_ble_eq_true rfl)) dX12_rain_8 ⟨(Nat.le_of_ble_eq_true rfl), (Nat.le_of_ble_eq_true rfl)⟩) hS (fun q _ h => hFc q h) hFc (fun r1 u t H locs ht hvm hw2 hB _ _ hS => ?_)
  obtain ⟨hT, hF1⟩ := hB
  rw [ht] at hT hF1
  have hF := hF.more hF1 (by decide)
  try dsimp only at hw2
  obtain ⟨h3, hf4⟩ := hw2
  refine lv_istore_n (lv' := [(2, .int r1), (0, .ref o0), (1, .int ho)]) hx hb dX12_rain_11 rfl hl (by decide) rfl (fun ls hl => ?_)
  refine lv_iload_n hx hb dX12_rain_12 rfl (lv_at hl 0 rfl) ?_
  refine lv_if_ge (tgt := 20) hx hb dX12_rain_13 (by decide) (fun c5 => ?_) (fun c5 => ?_)
  · have t6 : 0 ≤ r1.toInt := ti_le c5 (by decide) rfl
    refine lv_aload_n hx hb dX12_rain_20 rfl (lv_at hl 1 rfl) ?_
    refine tw_get hx hb hts bF_X12 hown hK hT hr_o0 shm_0 rfl 1 (by decide) (ht_at hts 1 rfl) (fun _ h9 => h9) dX12_rain_21 (fun v9 m7 h9 => ?_)
    obtain ⟨rfl, hg8⟩ := h9 _ rfl
    refine lv_iload_n hx hb dX12_rain_24 rfl (lv_at hl 0 rfl) ?_
    refine lv_iconst (v := 1) hx hb dX12_rain_25 (by decide) ?_
    refine lv_iadd hx hb dX12_rain_26 ?_
    refine lv_topi (fun x9 ex9 => ?_)
    have t10 : x9.toInt = r1.toInt + 1 := ti_add ex9 rfl (by decide) (by omega) (by omega)
    refine tw_iald (i := x9) hx hb hK hT hg8 shm_2 rfl (vin_t (a := x9.toInt) rfl (by omega) (by omega)) dX12_rain_27 (fun v9 m11 h9 => ?_)
    obtain ⟨x12, rfl, gx12, kx12⟩ := (gp_at h9 (w_rai (by have q9 := tn_of (show x9.toInt = x9.toInt from rfl) (show (0 : Int) ≤ x9.toInt from by omega); omega)))
    exact W.iret (v := x12) hx hb hr (fun t ht hW => ⟨⟨x12, (), rfl, (by exact (by have q8 := ti_all x12; omega)), by (try dsimp only); rw [ht]; exact ⟨hT, hF⟩⟩, hS.F ht⟩) hS.2.2 dX12_rain_28
  · have t13 : r1.toInt < 0 := ti_nle c5 (by decide) rfl
    refine lv_iconst (v := 0) hx hb dX12_rain_16 (by decide) ?_
    refine lv_goto (tgt := 28) hx hb dX12_rain_17 (by decide) ?_
    exact W.iret (v := 0) hx hb hr (fun t ht hW => ⟨⟨0, (), rfl, (by exact (rg_t (a := 0) (by decide) (by first | decide | omega) (by first | decide | omega))), by (try dsimp only); rw [ht]; exact ⟨hT, hF⟩⟩, hS.F ht⟩) hS.2.2 dX12_rain_28
def w_s_outside : List Cond := .code yX12_outside cX12_outside 4 (some .int) :: (HAppend.hAppend (α := List Cond) (β := List Cond) (γ := List Cond) [.fieldLink RX12 9 "SeaLandModel" "world" "[I", .code yX12_in cX12_in 3 (some .boolean), .methodLink RX12 197 yX12_in, .static yX12_in, .initialized RX12] bs)
set_option maxHeartbeats 4000000 in
set_option maxRecDepth 100000 in
theorem s_outside (l : Launch) (dC : Nat → ClassId) (dI : Nat → Nat → Nat) (kA : Nat → ClassId) (adK adV : Nat → Nat) (G : gT) (H0 : Heap) (q : Nat → Nat) (wZ wN : Nat → Int) (wH wB wC : Int) (wL wK : Nat → Prop) (wU wV : Nat → Nat) (PI : Nat → Int → Prop) (im : Int) (PM PT : Nat → Int → Prop) (lS lB lE : Nat → Nat → Int → Prop) (lN : Nat → Int) (o0 : Nat) (ho : Int32)  (hT : gH (dC, dI) kA (SHm q (wP wZ wN wH wB wC wL wK wU wV) PI im PM PT lS lB lE lN) G H0) (hr_o0 : G o0 = some 0) (hq0 : 0 ≤ ho.toInt ∧ ho.toInt ≤ 100000) (hgz : ∀ i, 0 ≤ wZ i) (hgn : ∀ i, 6500000 ≤ wN i ∧ wN i ≤ 20200000) (hgh : 0 ≤ wH ∧ wH ≤ 40000) (hgb : 0 ≤ wB ∧ wB ≤ 3850000) (hgc : 0 ≤ wC ∧ wC ≤ 30) (hgi : 0 ≤ im ∧ im ≤ 1) (hgu : ∀ a t, G a = some (t + 1) → a = q t) : Met l yX12_outside w_s_outside ({ frames := 1, cells := 0, slots := 0, locals := 22 }) (va_Pc [.ref o0, .int ho] (fun U => U.heap = H0 ∧ va_K (dC, dI) vwCl (tyl kA) U ∧ EVS adK adV (gA G H0.size) U U.heap)) (va_Qi (fun (r : Int32) (u : Unit) => (-400 ≤ r.toInt ∧ r.toInt ≤ 10400)) (fun (_ : Unit) (t : State) => gH (dC, dI) kA (SHm q (wP wZ wN wH wB wC wL wK wU wV) PI im PM PT lS lB lE lN) G t.heap ∧ gF (dC, dI) SKm G ([] : List (Nat × Nat)) H0 t.heap) (gA G H0.size)) 0 0 (gA G H0.size) := by
  refine Met.ofW (cc := cX12_outside) (maxL := 4) (ret := (some .int)) (by decide) rfl ?_
  intro p e s m args below meth c s₁ B hml hv
  obtain ⟨rfl, hH0, hK, hE⟩ := hv
  have hx := B.exec
  have hb := B.bytes
  have hr := B.returns
  have hts := atoms_spec (ws := w_s_outside) B.pre
  have hown : s.vm.findClass RX12 = some m.cls := findClass_of_methodNamed B.named
  have hlocks := B.notSynchronized
  subst hH0
  generalize hAe : gA G s.heap.size = A at hE ⊢
  have hA : ∀ q : Nat, s.heap.size ≤ q → A q := fun q h => by rw [← hAe]; exact Or.inr h
  have hG := gA_of hAe
  have hS : va_S A s.heap s.heap [] := va_S.rf
  have hF : gF (dC, dI) SKm G ([] : List (Nat × Nat)) s.heap s.heap := gF.rf
  have hl := lv_entry ([.ref o0, .int ho]) (n := 4) (Nat.le_of_ble_eq_true rfl)
  rw [lg_entry_eq]
  generalize (lg_sl ([.ref o0, .int ho]) ++ List.replicate (4 - (lg_sl ([.ref o0, .int ho])).length) Slot.unset).toArray = ls at hl ⊢
  have hl : lv_has ls 4 [(0, .ref o0), (1, .int ho)] := hl
  refine lv_aload_n hx hb dX12_outside_0 rfl (lv_at hl 0 rfl) ?_
  refine tw_get hx hb hts bF_X12 hown hK hT hr_o0 shm_0 rfl 1 (by decide) (ht_at hts 0 rfl) (fun _ h9 => h9) dX12_outside_1 (fun v9 m1 h9 => ?_)
  obtain ⟨rfl, hg2⟩ := h9 _ rfl
  refine lv_sipush (v := 1430) hx hb dX12_outside_4 (by decide) ?_
  refine lv_iload_n hx hb dX12_outside_7 rfl (lv_at hl 1 rfl) ?_
  refine lv_bipush (v := 12) hx hb dX12_outside_8 (by decide) ?_
  refine lv_irem hx hb dX12_outside_10 (by decide) ?_
  refine lv_topi (fun x3 ex3 => ?_)
  have t4 : x3.toInt = ho.toInt % 12 := ti_rem ex3 rfl (by decide) (by omega) (by omega)
  refine lv_iadd hx hb dX12_outside_11 ?_
  refine lv_topi (fun x5 ex5 => ?_)
  have t6 : x5.toInt = 1430 + x3.toInt := ti_add ex5 (by decide) rfl (by omega) (by omega)
  refine tw_iald (i := x5) hx hb hK hT hg2 shm_2 rfl (vin_t (a := x5.toInt) rfl (by omega) (by omega)) dX12_outside_12 (fun v9 m7 h9 => ?_)
  obtain ⟨x8, rfl, gx8, kx8⟩ := (gp_at h9 (w_tid (by have q9 := tn_of (show x5.toInt = x5.toInt from rfl) (show (0 : Int) ≤ x5.toInt from by omega); omega)))
  refine lv_istore_n (lv' := [(2, .int x8), (0, .ref o0), (1, .int ho)]) hx hb dX12_outside_13 rfl hl (by decide) rfl (fun ls hl => ?_)
  refine lv_sipush (v := 1443) hx hb dX12_outside_14 (by decide) ?_
  refine lv_istore_n (lv' := [(3, .int 1443), (2, .int x8), (0, .ref o0), (1, .int ho)]) hx hb dX12_outside_17 rfl hl (by decide) rfl (fun ls hl => ?_)
  have key56 : ∀ (n56 i9 : Nat), i9 + n56 = 20 → ∀ (z10 : Int32), ((-400 + 0 * (i9 : Int) ≤ z10.toInt ∧ z10.toInt ≤ 400 + 500 * (i9 : Int))) → ∀ (H : Heap) (locs : List Loc), gH (dC, dI) kA (SHm q (wP wZ wN wH wB wC wL wK wU wV) PI im PM PT lS lB lE lN) G H → gF (dC, dI) SKm G ([] : List (Nat × Nat)) s.heap H → va_S A s.heap H locs → el H (q 1) x5.toNatClampNeg = some (.int x8) → ∀ ls : Array Slot, lv_has ls 4 [(3, .int (nI (1443 + 3 * i9))), (2, .int z10), (0, .ref o0), (1, .int ho)] → W p l e (headSpec w_s_outside ({ frames := 1, cells := 0, slots := 0, locals := 22 })).room s m #[.ref o0, .int ho] below meth c H locs 0 0 (MQ below (va_Qi (fun (r : Int32) (u : Unit) => (-400 ≤ r.toInt ∧ r.toInt ≤ 10400)) (fun (_ : Unit) (t : State) => gH (dC, dI) kA (SHm q (wP wZ wN wH wB wC wL wK wU wV) PI im PM PT lS lB lE lN) G t.heap ∧ gF (dC, dI) SKm G ([] : List (Nat × Nat)) s.heap t.heap) A) #[.ref o0, .int ho] s 0 0 A) (F0 m 18 ls []) := by
    intro n56
    induction n56 with
    | zero =>
      intro i9 hn56 z10 h11 H locs hT hF hS m12 ls hl
      obtain rfl : 20 = i9 := by omega
      refine lv_iload_n hx hb dX12_outside_18 rfl (lv_at hl 0 rfl) ?_
      refine lv_sipush (v := 1443) hx hb dX12_outside_19 (by decide) ?_
      refine lv_iconst (v := 3) hx hb dX12_outside_22 (by decide) ?_
      refine lv_aload_n hx hb dX12_outside_23 rfl (lv_at hl 2 rfl) ?_
      refine tw_get hx hb hts bF_X12 hown hK hT hr_o0 shm_0 rfl 1 (by decide) (ht_at hts 0 rfl) (fun _ h9 => h9) dX12_outside_24 (fun v9 m58 h9 => ?_)
      obtain ⟨rfl, hg59⟩ := h9 _ rfl
      refine lv_sipush (v := 1442) hx hb dX12_outside_27 (by decide) ?_
      refine tw_iald (i := 1442) hx hb hK hT hg2 shm_2 rfl (by unfold vp_in; decide) dX12_outside_30 (fun v9 m60 h9 => ?_)
      obtain ⟨x61, rfl, gx61, kx61⟩ := (gp_at h9 (w_stc (by have q9 := tn_of (show (1442 : Int32).toInt = 1442 from (by decide)) (show (0 : Int) ≤ 1442 from by omega); omega)))
      refine lv_imul hx hb dX12_outside_31 ?_
      refine lv_topi (fun x62 ex62 => ?_)
      have t63 : x62.toInt = 3 * x61.toInt := ti_mul ex62 (by decide) rfl (by omega) (by omega)
      refine lv_iadd hx hb dX12_outside_32 ?_
      refine lv_topi (fun x64 ex64 => ?_)
      have t65 : x64.toInt = 1443 + x62.toInt := ti_add ex64 (by decide) rfl (by omega) (by omega)
      refine lv_icmp_ge (tgt := 78) hx hb dX12_outside_33 (by decide) (fun c66 => ?_) (fun c66 => (by exfalso; have q9 : ((1443 + 3 * 20 : Nat) : Int) < x64.toInt := ti_nle c66 rfl (nI_toInt (by omega)); omega))
      have t67 : x64.toInt ≤ ((1443 + 3 * 20 : Nat) : Int) := ti_le c66 rfl (nI_toInt (by omega))
      refine lv_iload_n hx hb dX12_outside_78 rfl (lv_at hl 1 rfl) ?_
      exact W.iret (v := z10) hx hb hr (fun t ht hW => ⟨⟨z10, (), rfl, (by exact (by have q8 := ti_all z10; omega)), by (try dsimp only); rw [ht]; exact ⟨hT, hF⟩⟩, hS.F ht⟩) hS.2.2 dX12_outside_79
    | succ n56 ih56 =>
      intro i9 hn56 z10 h11 H locs hT hF hS m12 ls hl
      have hlt67 : i9 < 20 := by omega
      refine lv_iload_n hx hb dX12_outside_18 rfl (lv_at hl 0 rfl) ?_
      refine lv_sipush (v := 1443) hx hb dX12_outside_19 (by decide) ?_
      refine lv_iconst (v := 3) hx hb dX12_outside_22 (by decide) ?_
      refine lv_aload_n hx hb dX12_outside_23 rfl (lv_at hl 2 rfl) ?_
      refine tw_get hx hb hts bF_X12 hown hK hT hr_o0 shm_0 rfl 1 (by decide) (ht_at hts 0 rfl) (fun _ h9 => h9) dX12_outside_24 (fun v9 m68 h9 => ?_)
      obtain ⟨rfl, hg69⟩ := h9 _ rfl
      refine lv_sipush (v := 1442) hx hb dX12_outside_27 (by decide) ?_
      refine tw_iald (i := 1442) hx hb hK hT hg2 shm_2 rfl (by unfold vp_in; decide) dX12_outside_30 (fun v9 m70 h9 => ?_)
      obtain ⟨x71, rfl, gx71, kx71⟩ := (gp_at h9 (w_stc (by have q9 := tn_of (show (1442 : Int32).toInt = 1442 from (by decide)) (show (0 : Int) ≤ 1442 from by omega); omega)))
      refine lv_imul hx hb dX12_outside_31 ?_
      refine lv_topi (fun x72 ex72 => ?_)
      have t73 : x72.toInt = 3 * x71.toInt := ti_mul ex72 (by decide) rfl (by omega) (by omega)
      refine lv_iadd hx hb dX12_outside_32 ?_
      refine lv_topi (fun x74 ex74 => ?_)
      have t75 : x74.toInt = 1443 + x72.toInt := ti_add ex74 (by decide) rfl (by omega) (by omega)
      refine lv_icmp_ge (tgt := 78) hx hb dX12_outside_33 (by decide) (fun c76 => ?_) (fun c76 => ?_)
      · have t77 : x74.toInt ≤ ((1443 + 3 * i9 : Nat) : Int) := ti_le c76 rfl (nI_toInt (by omega))
        refine lv_iload_n hx hb dX12_outside_78 rfl (lv_at hl 1 rfl) ?_
        exact W.iret (v := z10) hx hb hr (fun t ht hW => ⟨⟨z10, (), rfl, (by exact (by have q8 := ti_all z10; omega)), by (try dsimp only); rw [ht]; exact ⟨hT, hF⟩⟩, hS.F ht⟩) hS.2.2 dX12_outside_79
      · have t78 : ((1443 + 3 * i9 : Nat) : Int) < x74.toInt := ti_nle c76 rfl (nI_toInt (by omega))
        refine lv_iload_n hx hb dX12_outside_36 rfl (lv_at hl 1 rfl) ?_
        refine lv_iload_n hx hb dX12_outside_37 rfl (lv_at hl 3 rfl) ?_
        refine lv_aload_n hx hb dX12_outside_38 rfl (lv_at hl 2 rfl) ?_
        refine tw_get hx hb hts bF_X12 hown hK hT hr_o0 shm_0 rfl 1 (by decide) (ht_at hts 0 rfl) (fun _ h9 => h9) dX12_outside_39 (fun v9 m79 h9 => ?_)
        obtain ⟨rfl, hg80⟩ := h9 _ rfl
        refine lv_iload_n hx hb dX12_outside_42 rfl (lv_at hl 0 rfl) ?_
        refine tw_iald (i := (nI (1443 + 3 * i9))) hx hb hK hT hg2 shm_2 rfl (vp_in_nI (by omega) (by decide)) dX12_outside_43 (fun v9 m81 h9 => ?_)
        obtain ⟨x82, rfl, gx82, kx82⟩ := (gp_at h9 (w_fre (by have q9 := tn_of (show (nI (1443 + 3 * i9)).toInt = ((1443 + 3 * i9 : Nat) : Int) from (nI_toInt (by omega))) (show (0 : Int) ≤ ((1443 + 3 * i9 : Nat) : Int) from by omega); omega)))
        refine lv_aload_n hx hb dX12_outside_44 rfl (lv_at hl 2 rfl) ?_
        refine tw_get hx hb hts bF_X12 hown hK hT hr_o0 shm_0 rfl 1 (by decide) (ht_at hts 0 rfl) (fun _ h9 => h9) dX12_outside_45 (fun v9 m83 h9 => ?_)
        obtain ⟨rfl, hg84⟩ := h9 _ rfl
        refine lv_iload_n hx hb dX12_outside_48 rfl (lv_at hl 0 rfl) ?_
        refine lv_iconst (v := 1) hx hb dX12_outside_49 (by decide) ?_
        refine lv_iadd hx hb dX12_outside_50 ?_
        refine lv_topi (fun x85 ex85 => ?_)
        obtain rfl : nI (1443 + 3 * i9 + 1) = x85 := (ex85.trans (nI_add (1443 + 3 * i9) 1)).symm
        refine tw_iald (i := (nI (1443 + 3 * i9 + 1))) hx hb hK hT hg2 shm_2 rfl (vp_in_nI (by omega) (by decide)) dX12_outside_51 (fun v9 m86 h9 => ?_)
        obtain ⟨x87, rfl, gx87, kx87⟩ := (gp_at h9 (w_fre (by have q9 := tn_of (show (nI (1443 + 3 * i9 + 1)).toInt = ((1443 + 3 * i9 + 1 : Nat) : Int) from (nI_toInt (by omega))) (show (0 : Int) ≤ ((1443 + 3 * i9 + 1 : Nat) : Int) from by omega); omega)))
        have hFc := gA_free hG hA hS
        refine va_calli (va_runS (As := [.int ho, .int x82, .int x87]) (rest := [.int z10]) ⟨hx, hb, hml, hown, hts⟩ (s_in l dC dI kA adK adV G H q wZ wN wH wB wC wL wK wU wV PI im PM PT lS lB lE lN ho x82 x87 hT hgz hgn hgh hgb hgc hgi hgu) (va_cwS 3 hts (goodIn_app (goodIn_r _ [3, 4, 5] rfl (by decide +kernel)) (goodIn_ca (goodIn_r _ [2] rfl (by decide +kernel)) (bs_in _ _))) rfl rfl rfl (by decide +kernel) ⟨(Nat.le_of_ble_eq_true rfl), (Nat.le_of_ble_eq_true rfl)⟩) ⟨fun a U g mk q => by obtain ⟨q0, q1, qK, qE⟩ := q; exact ⟨q0, q1, va_K.moved (u := U) (U := U.calling g mk a) (Vm.Alike.refl U.vm) qK, EVS.blind g mk a qE⟩, fun U hU hW => ⟨rfl, hU, va_K.moved hW.alike hK, hE.call hS hFc hU hW⟩⟩ rfl rfl hl.1 rfl (lv_room (Nat.le_of_ble_eq_true rfl)) dX12_outside_52 ⟨(Nat.le_of_ble_eq_true rfl), (Nat.le_of_ble_eq_true rfl)⟩) hS (fun q _ h => hFc q h) hFc (fun r88 u t H locs ht hvm hw89 hB _ _ hS => ?_)
        obtain ⟨hT, hF1⟩ := hB
        rw [ht] at hT hF1
        have m90 := (el_kept (hF1.arr hg2 skm_2 (by decide))).trans m12
        have hF := hF.more hF1 (by decide)
        try dsimp only at hw89
        obtain ⟨h94, hi95, hi96⟩ := hw89
        refine lv_if_eq (tgt := 69) hx hb dX12_outside_55 (by decide) (fun c97 => ?_) (fun c97 => ?_)
        · have t98 : r88.toInt = 0 := ti_eq c97 rfl (by decide)
          have t99 : ho.toInt < x82.toInt ∨ x87.toInt < ho.toInt := hi96 c97
          refine lv_iconst (v := 0) hx hb dX12_outside_69 (by decide) ?_
          refine lv_iadd hx hb dX12_outside_70 ?_
          refine lv_topi (fun x100 ex100 => ?_)
          have t101 : x100.toInt = z10.toInt + 0 := ti_add ex100 rfl (by decide) (by omega) (by omega)
          refine lv_istore_n (lv' := [(2, .int x100), (3, .int (nI (1443 + 3 * i9))), (0, .ref o0), (1, .int ho)]) hx hb dX12_outside_71 rfl hl (by decide) rfl (fun ls hl => ?_)
          refine lv_iinc (v := nI (1443 + 3 * i9 + 3)) (lv' := [(3, .int (nI (1443 + 3 * i9 + 3))), (2, .int x100), (0, .ref o0), (1, .int ho)]) hx hb dX12_outside_72 hl (k := 1) rfl (nI_add (1443 + 3 * i9) 3) (by decide) rfl (fun ls hl => ?_)
          refine lv_goto (tgt := 18) hx hb dX12_outside_75 (by decide) ?_
          have hl : lv_has ls 4 [(3, .int (nI (1443 + 3 * (i9 + 1)))), (2, .int x100), (0, .ref o0), (1, .int ho)] := by rw [show nI (1443 + 3 * (i9 + 1)) = nI (1443 + 3 * i9 + 3) from congrArg nI (by omega)]; exact hl
          exact ih56 (i9 + 1) (by omega) x100 (by have q8 := ti_all x100; omega) _ _ hT hF hS m90 ls (lv_sub hl [0, 1, 2, 3] rfl)
        · have t102 : r88.toInt ≠ 0 := ti_ne c97 rfl (by decide)
          have t103 : x82.toInt ≤ ho.toInt ∧ ho.toInt ≤ x87.toInt := hi95 ((bit_of ⟨by omega, by omega⟩).resolve_left c97)
          refine lv_aload_n hx hb dX12_outside_58 rfl (lv_at hl 2 rfl) ?_
          refine tw_get hx hb hts bF_X12 hown hK hT hr_o0 shm_0 rfl 1 (by decide) (ht_at hts 0 rfl) (fun _ h9 => h9) dX12_outside_59 (fun v9 m104 h9 => ?_)
          obtain ⟨rfl, hg105⟩ := h9 _ rfl
          refine lv_iload_n hx hb dX12_outside_62 rfl (lv_at hl 0 rfl) ?_
          refine lv_iconst (v := 2) hx hb dX12_outside_63 (by decide) ?_
          refine lv_iadd hx hb dX12_outside_64 ?_
          refine lv_topi (fun x106 ex106 => ?_)
          obtain rfl : nI (1443 + 3 * i9 + 2) = x106 := (ex106.trans (nI_add (1443 + 3 * i9) 2)).symm
          refine tw_iald (i := (nI (1443 + 3 * i9 + 2))) hx hb hK hT hg2 shm_2 rfl (vp_in_nI (by omega) (by decide)) dX12_outside_65 (fun v9 m107 h9 => ?_)
          obtain ⟨x108, rfl, gx108, kx108⟩ := (gp_at h9 (w_stm (by have q9 := tn_of (show (nI (1443 + 3 * i9 + 2)).toInt = ((1443 + 3 * i9 + 2 : Nat) : Int) from (nI_toInt (by omega))) (show (0 : Int) ≤ ((1443 + 3 * i9 + 2 : Nat) : Int) from by omega); omega)))
          refine lv_goto (tgt := 70) hx hb dX12_outside_66 (by decide) ?_
          refine lv_iadd hx hb dX12_outside_70 ?_
          refine lv_topi (fun x109 ex109 => ?_)
          have t110 : x109.toInt = z10.toInt + x108.toInt := ti_add ex109 rfl rfl (by omega) (by omega)
          refine lv_istore_n (lv' := [(2, .int x109), (3, .int (nI (1443 + 3 * i9))), (0, .ref o0), (1, .int ho)]) hx hb dX12_outside_71 rfl hl (by decide) rfl (fun ls hl => ?_)
          refine lv_iinc (v := nI (1443 + 3 * i9 + 3)) (lv' := [(3, .int (nI (1443 + 3 * i9 + 3))), (2, .int x109), (0, .ref o0), (1, .int ho)]) hx hb dX12_outside_72 hl (k := 1) rfl (nI_add (1443 + 3 * i9) 3) (by decide) rfl (fun ls hl => ?_)
          refine lv_goto (tgt := 18) hx hb dX12_outside_75 (by decide) ?_
          have hl : lv_has ls 4 [(3, .int (nI (1443 + 3 * (i9 + 1)))), (2, .int x109), (0, .ref o0), (1, .int ho)] := by rw [show nI (1443 + 3 * (i9 + 1)) = nI (1443 + 3 * i9 + 3) from congrArg nI (by omega)]; exact hl
          exact ih56 (i9 + 1) (by omega) x109 (by have q8 := ti_all x109; omega) _ _ hT hF hS m90 ls (lv_sub hl [0, 1, 2, 3] rfl)
  have hl2 : lv_has ls 4 [(3, .int (nI (1443 + 3 * 0))), (2, .int x8), (0, .ref o0), (1, .int ho)] := hl
  exact key56 (20 - 0) 0 (by omega) x8 (by have q8 := ti_all x8; omega) _ _ hT hF hS m7 ls (lv_sub hl2 [0, 1, 2, 3] rfl)
def w_s_lastOf : List Cond := .code yX12_lastOf cX12_lastOf 5 (some .int) :: (HAppend.hAppend (α := List Cond) (β := List Cond) (γ := List Cond) [.fieldLink RX12 42 "SeaLandModel" "lines" "[I", .fieldLink RX12 45 "SeaLandModel" "sort" "[I", .fieldLink RX12 48 "SeaLandModel" "told" "[I"] bs)
set_option maxHeartbeats 4000000 in
set_option maxRecDepth 100000 in
theorem s_lastOf (l : Launch) (dC : Nat → ClassId) (dI : Nat → Nat → Nat) (kA : Nat → ClassId) (adK adV : Nat → Nat) (G : gT) (H0 : Heap) (q : Nat → Nat) (wZ wN : Nat → Int) (wH wB wC : Int) (wL wK : Nat → Prop) (wU wV : Nat → Nat) (PI : Nat → Int → Prop) (im : Int) (PM PT : Nat → Int → Prop) (lS lB lE : Nat → Nat → Int → Prop) (lN : Nat → Int) (o0 : Nat) (so : Int32) (wo : Int32)  (hT : gH (dC, dI) kA (SHm q (wP wZ wN wH wB wC wL wK wU wV) PI im PM PT lS lB lE lN) G H0) (hr_o0 : G o0 = some 0) (hgz : ∀ i, 0 ≤ wZ i) (hgn : ∀ i, 6500000 ≤ wN i ∧ wN i ≤ 20200000) (hgh : 0 ≤ wH ∧ wH ≤ 40000) (hgb : 0 ≤ wB ∧ wB ≤ 3850000) (hgc : 0 ≤ wC ∧ wC ≤ 30) (hgi : 0 ≤ im ∧ im ≤ 1) (hgu : ∀ a t, G a = some (t + 1) → a = q t) : Met l yX12_lastOf w_s_lastOf ({ frames := 0, cells := 0, slots := 0, locals := 0 }) (va_Pc [.ref o0, .int so, .int wo] (fun U => U.heap = H0 ∧ va_K (dC, dI) vwCl (tyl kA) U ∧ EVS adK adV (gA G H0.size) U U.heap)) (va_Qi (fun (r : Int32) (u : Unit) => True) (fun (_ : Unit) (t : State) => gH (dC, dI) kA (SHm q (wP wZ wN wH wB wC wL wK wU wV) PI im PM PT lS lB lE lN) G t.heap ∧ gF (dC, dI) SKm G ([] : List (Nat × Nat)) H0 t.heap) (gA G H0.size)) 0 0 (gA G H0.size) := by
  refine Met.ofW (cc := cX12_lastOf) (maxL := 5) (ret := (some .int)) (by decide) rfl ?_
  intro p e s m args below meth c s₁ B hml hv
  obtain ⟨rfl, hH0, hK, hE⟩ := hv
  have hx := B.exec
  have hb := B.bytes
  have hr := B.returns
  have hts := atoms_spec (ws := w_s_lastOf) B.pre
  have hown : s.vm.findClass RX12 = some m.cls := findClass_of_methodNamed B.named
  have hlocks := B.notSynchronized
  subst hH0
  generalize hAe : gA G s.heap.size = A at hE ⊢
  have hA : ∀ q : Nat, s.heap.size ≤ q → A q := fun q h => by rw [← hAe]; exact Or.inr h
  have hG := gA_of hAe
  have hS : va_S A s.heap s.heap [] := va_S.rf
  have hF : gF (dC, dI) SKm G ([] : List (Nat × Nat)) s.heap s.heap := gF.rf
  have hl := lv_entry ([.ref o0, .int so, .int wo]) (n := 5) (Nat.le_of_ble_eq_true rfl)
  rw [lg_entry_eq]
  generalize (lg_sl ([.ref o0, .int so, .int wo]) ++ List.replicate (5 - (lg_sl ([.ref o0, .int so, .int wo])).length) Slot.unset).toArray = ls at hl ⊢
  have hl : lv_has ls 5 [(0, .ref o0), (1, .int so), (2, .int wo)] := hl
  refine lv_iload_n hx hb dX12_lastOf_0 rfl (lv_at hl 2 rfl) ?_
  refine lv_istore_n (lv' := [(3, .int wo), (0, .ref o0), (1, .int so), (2, .int wo)]) hx hb dX12_lastOf_1 rfl hl (by decide) rfl (fun ls hl => ?_)
  refine lv_iconst (v := 0) hx hb dX12_lastOf_2 (by decide) ?_
  refine lv_istore (lv' := [(4, .int 0), (3, .int wo), (0, .ref o0), (1, .int so), (2, .int wo)]) hx hb dX12_lastOf_3 hl (by decide) rfl (fun ls hl => ?_)
  have key21 : ∀ (n21 i1 : Nat), i1 + n21 = 20 → 0 ≤ i1 → ∀ (z2 : Int32), ∀ (H : Heap) (locs : List Loc), gH (dC, dI) kA (SHm q (wP wZ wN wH wB wC wL wK wU wV) PI im PM PT lS lB lE lN) G H → gF (dC, dI) SKm G ([] : List (Nat × Nat)) s.heap H → va_S A s.heap H locs → ∀ ls : Array Slot, lv_has ls 5 [(4, .int (nI i1)), (3, .int z2), (0, .ref o0), (1, .int so), (2, .int wo)] → W p l e (headSpec w_s_lastOf ({ frames := 0, cells := 0, slots := 0, locals := 0 })).room s m #[.ref o0, .int so, .int wo] below meth c H locs 0 0 (MQ below (va_Qi (fun (r : Int32) (u : Unit) => True) (fun (_ : Unit) (t : State) => gH (dC, dI) kA (SHm q (wP wZ wN wH wB wC wL wK wU wV) PI im PM PT lS lB lE lN) G t.heap ∧ gF (dC, dI) SKm G ([] : List (Nat × Nat)) s.heap t.heap) A) #[.ref o0, .int so, .int wo] s 0 0 A) (F0 m 5 ls []) := by
    intro n21
    induction n21 with
    | zero =>
      intro i1 hn21 hlo22 z2 H locs hT hF hS  ls hl
      obtain rfl : 20 = i1 := by omega
      refine lv_iload hx hb dX12_lastOf_5 (lv_at hl 0 rfl) ?_
      refine lv_aload_n hx hb dX12_lastOf_7 rfl (lv_at hl 2 rfl) ?_
      refine tw_get hx hb hts bF_X12 hown hK hT hr_o0 shm_0 rfl 18 (by decide) (ht_at hts 0 rfl) (fun _ h9 => h9) dX12_lastOf_8 (fun v9 m23 h9 => ?_)
      obtain ⟨rfl, hg24⟩ := h9 _ rfl
      refine lv_iconst (v := 0) hx hb dX12_lastOf_11 (by decide) ?_
      refine tw_iald (i := 0) hx hb hK hT hg24 shm_19 rfl (by unfold vp_in; decide) dX12_lastOf_12 (fun v9 m25 h9 => ?_)
      obtain ⟨x26, rfl, gx26, kx26⟩ := (gn_at h9)
      refine lv_icmp_ge (tgt := 41) hx hb dX12_lastOf_13 (by decide) (fun c27 => ?_) (fun c27 => (by exfalso; have q9 : ((20 : Nat) : Int) < x26.toInt := ti_nle c27 rfl (nI_toInt (by omega)); omega))
      have t28 : x26.toInt ≤ ((20 : Nat) : Int) := ti_le c27 rfl (nI_toInt (by omega))
      refine lv_iload_n hx hb dX12_lastOf_41 rfl (lv_at hl 1 rfl) ?_
      exact W.iret (v := z2) hx hb hr (fun t ht hW => ⟨⟨z2, (), rfl, (by exact trivial), by (try dsimp only); rw [ht]; exact ⟨hT, hF⟩⟩, hS.F ht⟩) hS.2.2 dX12_lastOf_42
    | succ n21 ih21 =>
      intro i1 hn21 hlo22 z2 H locs hT hF hS  ls hl
      have hlt28 : i1 < 20 := by omega
      refine lv_iload hx hb dX12_lastOf_5 (lv_at hl 0 rfl) ?_
      refine lv_aload_n hx hb dX12_lastOf_7 rfl (lv_at hl 2 rfl) ?_
      refine tw_get hx hb hts bF_X12 hown hK hT hr_o0 shm_0 rfl 18 (by decide) (ht_at hts 0 rfl) (fun _ h9 => h9) dX12_lastOf_8 (fun v9 m29 h9 => ?_)
      obtain ⟨rfl, hg30⟩ := h9 _ rfl
      refine lv_iconst (v := 0) hx hb dX12_lastOf_11 (by decide) ?_
      refine tw_iald (i := 0) hx hb hK hT hg30 shm_19 rfl (by unfold vp_in; decide) dX12_lastOf_12 (fun v9 m31 h9 => ?_)
      obtain ⟨x32, rfl, gx32, kx32⟩ := (gn_at h9)
      refine lv_icmp_ge (tgt := 41) hx hb dX12_lastOf_13 (by decide) (fun c33 => ?_) (fun c33 => ?_)
      · have t34 : x32.toInt ≤ ((i1 : Nat) : Int) := ti_le c33 rfl (nI_toInt (by omega))
        refine lv_iload_n hx hb dX12_lastOf_41 rfl (lv_at hl 1 rfl) ?_
        exact W.iret (v := z2) hx hb hr (fun t ht hW => ⟨⟨z2, (), rfl, (by exact trivial), by (try dsimp only); rw [ht]; exact ⟨hT, hF⟩⟩, hS.F ht⟩) hS.2.2 dX12_lastOf_42
      · have t35 : ((i1 : Nat) : Int) < x32.toInt := ti_nle c33 rfl (nI_toInt (by omega))
        refine lv_aload_n hx hb dX12_lastOf_16 rfl (lv_at hl 2 rfl) ?_
        refine tw_get hx hb hts bF_X12 hown hK hT hr_o0 shm_0 rfl 19 (by decide) (ht_at hts 1 rfl) (fun _ h9 => h9) dX12_lastOf_17 (fun v9 m36 h9 => ?_)
        obtain ⟨rfl, hg37⟩ := h9 _ rfl
        refine lv_iload hx hb dX12_lastOf_20 (lv_at hl 0 rfl) ?_
        refine tw_iald (i := (nI i1)) hx hb hK hT hg37 shm_20 rfl (vp_in_nI (by omega) (by decide)) dX12_lastOf_22 (fun v9 m38 h9 => ?_)
        obtain ⟨x39, rfl, gx39, kx39⟩ := h9
        refine lv_iload_n hx hb dX12_lastOf_23 rfl (lv_at hl 3 rfl) ?_
        refine lv_icmp_ne (tgt := 35) hx hb dX12_lastOf_24 (by decide) (fun c40 => ?_) (fun c40 => ?_)
        · have t41 : x39.toInt ≠ so.toInt := ti_ne c40 rfl rfl
          refine lv_iinc (v := nI (i1 + 1)) (lv' := [(4, .int (nI (i1 + 1))), (3, .int z2), (0, .ref o0), (1, .int so), (2, .int wo)]) hx hb dX12_lastOf_35 hl (k := 0) rfl (nI_add i1 1) (by decide) rfl (fun ls hl => ?_)
          refine lv_goto (tgt := 5) hx hb dX12_lastOf_38 (by decide) ?_
          exact ih21 (i1 + 1) (by omega) (by omega) z2 _ _ hT hF hS ls (lv_sub hl [0, 1, 2, 3, 4] rfl)
        · have t42 : x39.toInt = so.toInt := ti_eq c40 rfl rfl
          refine lv_aload_n hx hb dX12_lastOf_27 rfl (lv_at hl 2 rfl) ?_
          refine tw_get hx hb hts bF_X12 hown hK hT hr_o0 shm_0 rfl 20 (by decide) (ht_at hts 2 rfl) (fun _ h9 => h9) dX12_lastOf_28 (fun v9 m43 h9 => ?_)
          obtain ⟨rfl, hg44⟩ := h9 _ rfl
          refine lv_iload hx hb dX12_lastOf_31 (lv_at hl 0 rfl) ?_
          refine tw_iald (i := (nI i1)) hx hb hK hT hg44 shm_21 rfl (vp_in_nI (by omega) (by decide)) dX12_lastOf_33 (fun v9 m45 h9 => ?_)
          obtain ⟨x46, rfl, gx46, kx46⟩ := h9
          refine lv_istore_n (lv' := [(3, .int x46), (4, .int (nI i1)), (0, .ref o0), (1, .int so), (2, .int wo)]) hx hb dX12_lastOf_34 rfl hl (by decide) rfl (fun ls hl => ?_)
          refine lv_iinc (v := nI (i1 + 1)) (lv' := [(4, .int (nI (i1 + 1))), (3, .int x46), (0, .ref o0), (1, .int so), (2, .int wo)]) hx hb dX12_lastOf_35 hl (k := 1) rfl (nI_add i1 1) (by decide) rfl (fun ls hl => ?_)
          refine lv_goto (tgt := 5) hx hb dX12_lastOf_38 (by decide) ?_
          exact ih21 (i1 + 1) (by omega) (by omega) x46 _ _ hT hF hS ls (lv_sub hl [0, 1, 2, 3, 4] rfl)
  exact key21 (20 - 0) 0 (by omega) (Nat.le_refl _) wo _ _ hT hF hS ls (lv_sub hl [0, 1, 2, 3, 4] rfl)
def w_s_farmOf : List Cond := .code yX12_farmOf cX12_farmOf 3 (some .int) :: (HAppend.hAppend (α := List Cond) (β := List Cond) (γ := List Cond) [.fieldLink RX12 498 "SeaLandModel" "farms" "I", .fieldLink RX12 113 "SeaLandModel" "farmFrom" "[I", .fieldLink RX12 116 "SeaLandModel" "farmTo" "[I", .code yX12_isIn cX12_isIn 5 (some .boolean), .methodLink RX12 207 Lib.Math.min.name, .static Lib.Math.min.name, .initialized "java/lang/Math", .code Lib.Math.min.name Lib.Math.min.code 2 (some .int), .methodLink RX12 211 Lib.Math.max.name, .static Lib.Math.max.name, .code Lib.Math.max.name Lib.Math.max.code 2 (some .int), .code yX12_in cX12_in 3 (some .boolean), .methodLink RX12 197 yX12_in, .static yX12_in, .initialized RX12, .methodLink RX12 232 yX12_isIn, .static yX12_isIn] bs)
set_option maxHeartbeats 4000000 in
set_option maxRecDepth 100000 in
theorem s_farmOf (l : Launch) (dC : Nat → ClassId) (dI : Nat → Nat → Nat) (kA : Nat → ClassId) (adK adV : Nat → Nat) (G : gT) (H0 : Heap) (q : Nat → Nat) (wZ wN : Nat → Int) (wH wB wC : Int) (wL wK : Nat → Prop) (wU wV : Nat → Nat) (PI : Nat → Int → Prop) (im : Int) (PM PT : Nat → Int → Prop) (lS lB lE : Nat → Nat → Int → Prop) (lN : Nat → Int) (o0 : Nat) (sq : Int32)  (hT : gH (dC, dI) kA (SHm q (wP wZ wN wH wB wC wL wK wU wV) PI im PM PT lS lB lE lN) G H0) (hr_o0 : G o0 = some 0) (hgz : ∀ i, 0 ≤ wZ i) (hgn : ∀ i, 6500000 ≤ wN i ∧ wN i ≤ 20200000) (hgh : 0 ≤ wH ∧ wH ≤ 40000) (hgb : 0 ≤ wB ∧ wB ≤ 3850000) (hgc : 0 ≤ wC ∧ wC ≤ 30) (hgi : 0 ≤ im ∧ im ≤ 1) (hgu : ∀ a t, G a = some (t + 1) → a = q t) : Met l yX12_farmOf w_s_farmOf ({ frames := 2, cells := 0, slots := 0, locals := 64 }) (va_Pc [.ref o0, .int sq] (fun U => U.heap = H0 ∧ va_K (dC, dI) vwCl (tyl kA) U ∧ EVS adK adV (gA G H0.size) U U.heap)) (va_Qi (fun (r : Int32) (u : Unit) => (-1 ≤ r.toInt ∧ r.toInt ≤ 29)) (fun (_ : Unit) (t : State) => gH (dC, dI) kA (SHm q (wP wZ wN wH wB wC wL wK wU wV) PI im PM PT lS lB lE lN) G t.heap ∧ gF (dC, dI) SKm G ([] : List (Nat × Nat)) H0 t.heap) (gA G H0.size)) 0 0 (gA G H0.size) := by
  refine Met.ofW (cc := cX12_farmOf) (maxL := 3) (ret := (some .int)) (by decide) rfl ?_
  intro p e s m args below meth c s₁ B hml hv
  obtain ⟨rfl, hH0, hK, hE⟩ := hv
  have hx := B.exec
  have hb := B.bytes
  have hr := B.returns
  have hts := atoms_spec (ws := w_s_farmOf) B.pre
  have hown : s.vm.findClass RX12 = some m.cls := findClass_of_methodNamed B.named
  have hlocks := B.notSynchronized
  subst hH0
  generalize hAe : gA G s.heap.size = A at hE ⊢
  have hA : ∀ q : Nat, s.heap.size ≤ q → A q := fun q h => by rw [← hAe]; exact Or.inr h
  have hG := gA_of hAe
  have hS : va_S A s.heap s.heap [] := va_S.rf
  have hF : gF (dC, dI) SKm G ([] : List (Nat × Nat)) s.heap s.heap := gF.rf
  have hl := lv_entry ([.ref o0, .int sq]) (n := 3) (Nat.le_of_ble_eq_true rfl)
  rw [lg_entry_eq]
  generalize (lg_sl ([.ref o0, .int sq]) ++ List.replicate (3 - (lg_sl ([.ref o0, .int sq])).length) Slot.unset).toArray = ls at hl ⊢
  have hl : lv_has ls 3 [(0, .ref o0), (1, .int sq)] := hl
  refine lv_iconst (v := 0) hx hb dX12_farmOf_0 (by decide) ?_
  refine lv_istore_n (lv' := [(2, .int 0), (0, .ref o0), (1, .int sq)]) hx hb dX12_farmOf_1 rfl hl (by decide) rfl (fun ls hl => ?_)
  have key24 : ∀ (n24 i1 : Nat), i1 + n24 = 30 → 0 ≤ i1 → ∀ (H : Heap) (locs : List Loc), gH (dC, dI) kA (SHm q (wP wZ wN wH wB wC wL wK wU wV) PI im PM PT lS lB lE lN) G H → gF (dC, dI) SKm G ([] : List (Nat × Nat)) s.heap H → va_S A s.heap H locs → ∀ ls : Array Slot, lv_has ls 3 [(2, .int (nI i1)), (0, .ref o0), (1, .int sq)] → W p l e (headSpec w_s_farmOf ({ frames := 2, cells := 0, slots := 0, locals := 64 })).room s m #[.ref o0, .int sq] below meth c H locs 0 0 (MQ below (va_Qi (fun (r : Int32) (u : Unit) => (-1 ≤ r.toInt ∧ r.toInt ≤ 29)) (fun (_ : Unit) (t : State) => gH (dC, dI) kA (SHm q (wP wZ wN wH wB wC wL wK wU wV) PI im PM PT lS lB lE lN) G t.heap ∧ gF (dC, dI) SKm G ([] : List (Nat × Nat)) s.heap t.heap) A) #[.ref o0, .int sq] s 0 0 A) (F0 m 2 ls []) := by
    intro n24
    induction n24 with
    | zero =>
      intro i1 hn24 hlo25  H locs hT hF hS  ls hl
      obtain rfl : 30 = i1 := by omega
      refine lv_iload_n hx hb dX12_farmOf_2 rfl (lv_at hl 0 rfl) ?_
      refine lv_aload_n hx hb dX12_farmOf_3 rfl (lv_at hl 1 rfl) ?_
      refine tw_get hx hb hts bF_X12 hown hK hT hr_o0 shm_0 rfl 47 (by decide) (ht_at hts 0 rfl) (fun _ h9 => h9) dX12_farmOf_4 (fun v9 m26 h9 => ?_)
      obtain ⟨x27, rfl, gx27, kx27⟩ := h9 _ rfl
      refine lv_icmp_ge (tgt := 37) hx hb dX12_farmOf_7 (by decide) (fun c28 => ?_) (fun c28 => (by exfalso; have q9 : ((30 : Nat) : Int) < x27.toInt := ti_nle c28 rfl (nI_toInt (by omega)); omega))
      have t29 : x27.toInt ≤ ((30 : Nat) : Int) := ti_le c28 rfl (nI_toInt (by omega))
      refine lv_iconst (v := (-1)) hx hb dX12_farmOf_37 (by decide) ?_
      exact W.iret (v := (-1)) hx hb hr (fun t ht hW => ⟨⟨(-1), (), rfl, (by exact (rg_t (a := (-1)) (by decide) (by first | decide | omega) (by first | decide | omega))), by (try dsimp only); rw [ht]; exact ⟨hT, hF⟩⟩, hS.F ht⟩) hS.2.2 dX12_farmOf_38
    | succ n24 ih24 =>
      intro i1 hn24 hlo25  H locs hT hF hS  ls hl
      have hlt29 : i1 < 30 := by omega
      refine lv_iload_n hx hb dX12_farmOf_2 rfl (lv_at hl 0 rfl) ?_
      refine lv_aload_n hx hb dX12_farmOf_3 rfl (lv_at hl 1 rfl) ?_
      refine tw_get hx hb hts bF_X12 hown hK hT hr_o0 shm_0 rfl 47 (by decide) (ht_at hts 0 rfl) (fun _ h9 => h9) dX12_farmOf_4 (fun v9 m30 h9 => ?_)
      obtain ⟨x31, rfl, gx31, kx31⟩ := h9 _ rfl
      refine lv_icmp_ge (tgt := 37) hx hb dX12_farmOf_7 (by decide) (fun c32 => ?_) (fun c32 => ?_)
      · have t33 : x31.toInt ≤ ((i1 : Nat) : Int) := ti_le c32 rfl (nI_toInt (by omega))
        refine lv_iconst (v := (-1)) hx hb dX12_farmOf_37 (by decide) ?_
        exact W.iret (v := (-1)) hx hb hr (fun t ht hW => ⟨⟨(-1), (), rfl, (by exact (rg_t (a := (-1)) (by decide) (by first | decide | omega) (by first | decide | omega))), by (try dsimp only); rw [ht]; exact ⟨hT, hF⟩⟩, hS.F ht⟩) hS.2.2 dX12_farmOf_38
      · have t34 : ((i1 : Nat) : Int) < x31.toInt := ti_nle c32 rfl (nI_toInt (by omega))
        refine lv_iload_n hx hb dX12_farmOf_10 rfl (lv_at hl 2 rfl) ?_
        refine lv_aload_n hx hb dX12_farmOf_11 rfl (lv_at hl 1 rfl) ?_
        refine tw_get hx hb hts bF_X12 hown hK hT hr_o0 shm_0 rfl 43 (by decide) (ht_at hts 1 rfl) (fun _ h9 => h9) dX12_farmOf_12 (fun v9 m35 h9 => ?_)
        obtain ⟨rfl, hg36⟩ := h9 _ rfl
        refine lv_iload_n hx hb dX12_farmOf_15 rfl (lv_at hl 0 rfl) ?_
        refine tw_iald (i := (nI i1)) hx hb hK hT hg36 shm_44 rfl (vp_in_nI (by omega) (by decide)) dX12_farmOf_16 (fun v9 m37 h9 => ?_)
        obtain ⟨x38, rfl, gx38, kx38⟩ := h9
        refine lv_aload_n hx hb dX12_farmOf_17 rfl (lv_at hl 1 rfl) ?_
        refine tw_get hx hb hts bF_X12 hown hK hT hr_o0 shm_0 rfl 44 (by decide) (ht_at hts 2 rfl) (fun _ h9 => h9) dX12_farmOf_18 (fun v9 m39 h9 => ?_)
        obtain ⟨rfl, hg40⟩ := h9 _ rfl
        refine lv_iload_n hx hb dX12_farmOf_21 rfl (lv_at hl 0 rfl) ?_
        refine tw_iald (i := (nI i1)) hx hb hK hT hg40 shm_45 rfl (vp_in_nI (by omega) (by decide)) dX12_farmOf_22 (fun v9 m41 h9 => ?_)
        obtain ⟨x42, rfl, gx42, kx42⟩ := h9
        have hFc := gA_free hG hA hS
        refine va_calli (va_runS (As := [.int sq, .int x38, .int x42]) (rest := []) ⟨hx, hb, hml, hown, hts⟩ (s_isIn l dC dI kA adK adV G H q wZ wN wH wB wC wL wK wU wV PI im PM PT lS lB lE lN sq x38 x42 hT hgz hgn hgh hgb hgc hgi hgu) (va_cwS 3 hts (goodIn_app (goodIn_r _ [16, 17, 15] rfl (by decide +kernel)) (goodIn_ca (goodIn_r _ [4, 5, 6, 7, 8, 9, 10, 11, 12, 13, 14, 15] rfl (by decide +kernel)) (bs_in _ _))) rfl rfl rfl (by decide +kernel) ⟨(Nat.le_of_ble_eq_true rfl), (Nat.le_of_ble_eq_true rfl)⟩) ⟨fun a U g mk q => by obtain ⟨q0, q1, qK, qE⟩ := q; exact ⟨q0, q1, va_K.moved (u := U) (U := U.calling g mk a) (Vm.Alike.refl U.vm) qK, EVS.blind g mk a qE⟩, fun U hU hW => ⟨rfl, hU, va_K.moved hW.alike hK, hE.call hS hFc hU hW⟩⟩ rfl rfl hl.1 rfl (lv_room (Nat.le_of_ble_eq_true rfl)) dX12_farmOf_23 ⟨(Nat.le_of_ble_eq_true rfl), (Nat.le_of_ble_eq_true rfl)⟩) hS (fun q _ h => hFc q h) hFc (fun r43 u t H locs ht hvm hw44 hB _ _ hS => ?_)
        obtain ⟨hT, hF1⟩ := hB
        rw [ht] at hT hF1
        have hF := hF.more hF1 (by decide)
        try dsimp only at hw44
        have h48 := hw44
        refine lv_if_eq (tgt := 31) hx hb dX12_farmOf_26 (by decide) (fun c49 => ?_) (fun c49 => ?_)
        · have t50 : r43.toInt = 0 := ti_eq c49 rfl (by decide)
          refine lv_iinc (v := nI (i1 + 1)) (lv' := [(2, .int (nI (i1 + 1))), (0, .ref o0), (1, .int sq)]) hx hb dX12_farmOf_31 hl (k := 0) rfl (nI_add i1 1) (by decide) rfl (fun ls hl => ?_)
          refine lv_goto (tgt := 2) hx hb dX12_farmOf_34 (by decide) ?_
          exact ih24 (i1 + 1) (by omega) (by omega) _ _ hT hF hS ls (lv_sub hl [0, 1, 2] rfl)
        · have t51 : r43.toInt ≠ 0 := ti_ne c49 rfl (by decide)
          refine lv_iload_n hx hb dX12_farmOf_29 rfl (lv_at hl 0 rfl) ?_
          exact W.iret (v := nI i1) hx hb hr (fun t ht hW => ⟨⟨nI i1, (), rfl, (by exact (rg_t (a := ((i1 : Nat) : Int)) (nI_toInt (by omega)) (by omega) (by omega))), by (try dsimp only); rw [ht]; exact ⟨hT, hF⟩⟩, hS.F ht⟩) hS.2.2 dX12_farmOf_30
  exact key24 (30 - 0) 0 (by omega) (Nat.le_refl _) _ _ hT hF hS ls (lv_sub hl [0, 1, 2] rfl)
