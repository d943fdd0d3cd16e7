def w_c_X7_init : List Cond := .code yX7_init cX7_init 8 none :: (HAppend.hAppend (α := List Cond) (β := List Cond) (γ := List Cond) [.methodLink RX7 3 objectInit, .instanceMethod objectInit, .code objectInit ⟨#[0xb1]⟩ 1 none, .fieldLink RX7 9 "SeaLand$Settler" "farm" "I", .fieldLink RX7 15 "SeaLand$Settler" "age" "I", .fieldLink RX7 18 "SeaLand$Settler" "sons" "I", .fieldLink RX7 21 "SeaLand$Settler" "coin" "I", .fieldLink RX7 24 "SeaLand$Settler" "cattle" "I", .fieldLink RX7 27 "SeaLand$Settler" "kin" "Z", .fieldLink RX7 31 "SeaLand$Settler" "board" "Z", .fieldLink RX7 34 "SeaLand$Settler" "drawn" "I"] bs2)
set_option maxHeartbeats 4000000 in
set_option maxRecDepth 100000 in
theorem c_X7_init (l : Launch) (dC : Nat → ClassId) (dI : Nat → Nat → Nat) (kA : Nat → ClassId) (adK adV : Nat → Nat) (G : gT) (H0 : Heap) (nC nS : Int) (o0 : Nat) (p0 : Int32) (p1 : Int32) (p2 : Int32) (p3 : Int32) (p4 : Int32) (p5 : Int32) (p6 : Int32)  (hT : gH (dC, dI) kA (SHc nC nS) G H0) (hr_o0 : G o0 = some 10) (hq0 : 0 ≤ p4.toInt ∧ p4.toInt ≤ 1) (hq1 : 0 ≤ p5.toInt ∧ p5.toInt ≤ 1) (hgC : 0 ≤ nC ∧ nC ≤ 40) (hgS : 0 ≤ nS ∧ nS ≤ 60) : Met l yX7_init w_c_X7_init ({ frames := 1, cells := 0, slots := 0, locals := 30 }) (va_Pc [.ref o0, .int p0, .int p1, .int p2, .int p3, .int p4, .int p5, .int p6] (fun U => U.heap = H0 ∧ va_K (dC, dI) vwCl (tyl kA) U ∧ EVC adK adV (gA G H0.size) U U.heap)) (va_Qv (fun (u : Unit) => True) (fun (_ : Unit) (t : State) => gH (dC, dI) kA (SHc nC nS) G t.heap ∧ gF (dC, dI) SKc G ([(10, 0), (10, 1), (10, 2), (10, 3), (10, 4), (10, 5), (10, 6), (10, 7)] : List (Nat × Nat)) H0 t.heap) (gA G H0.size)) 0 0 (gA G H0.size) := by
  refine Met.ofW (cc := cX7_init) (maxL := 8) (ret := none) (by decide) rfl ?_
  intro p e s m args below meth c s₁ B hml hv
  obtain ⟨rfl, hH0, hK, hE⟩ := hv
  have hx := B.exec
  have hb := B.bytes
  have hr := B.returns
  have hts := atoms_spec (ws := w_c_X7_init) B.pre
  have hown : s.vm.findClass RX7 = some m.cls := findClass_of_methodNamed B.named
  have hlocks := B.notSynchronized
  have hin : meth.name = "<init>" := (name_of_methodNamed B.named B.method).1
  subst hH0
  generalize hAe : gA G s.heap.size = A at hE ⊢
  have hA : ∀ q : Nat, s.heap.size ≤ q → A q := fun q h => by rw [← hAe]; exact Or.inr h
  have hG := gA_of hAe
  have hS : va_S A s.heap s.heap [] := va_S.rf
  have hF : gF (dC, dI) SKc G ([(10, 0), (10, 1), (10, 2), (10, 3), (10, 4), (10, 5), (10, 6), (10, 7)] : List (Nat × Nat)) s.heap s.heap := gF.rf
  have hl := lv_entry ([.ref o0, .int p0, .int p1, .int p2, .int p3, .int p4, .int p5, .int p6]) (n := 8) (Nat.le_of_ble_eq_true rfl)
  rw [lg_entry_eq]
  generalize (lg_sl ([.ref o0, .int p0, .int p1, .int p2, .int p3, .int p4, .int p5, .int p6]) ++ List.replicate (8 - (lg_sl ([.ref o0, .int p0, .int p1, .int p2, .int p3, .int p4, .int p5, .int p6])).length) Slot.unset).toArray = ls at hl ⊢
  have hl : lv_has ls 8 [(0, .ref o0), (1, .int p0), (2, .int p1), (3, .int p2), (4, .int p3), (5, .int p4), (6, .int p5), (7, .int p6)] := hl
  refine lv_aload_n hx hb dX7_init_0 rfl (lv_at hl 0 rfl) ?_
  refine W.objInit hx hb hown (ht_at2 hts 0 rfl) (ht_at2 hts 1 rfl) (ht_at2 hts 2 rfl) rfl (by rw [hml]; exact hl.1) rfl dX7_init_1 (Nat.le_of_ble_eq_true rfl) (Nat.le_of_ble_eq_true rfl) ?_
  refine W.eq (g2 := F0 m 4 ls []) rfl ?_
  refine lv_aload_n hx hb dX7_init_4 rfl (lv_at hl 0 rfl) ?_
  refine lv_iconst (v := (-1)) hx hb dX7_init_5 (by decide) ?_
  refine tw_put (v := .int (-1)) (ty := .int) hx hb hts bF2_X7 tyX7 tyX7_ok nmX7 hown hK hT hG hS hr_o0 shc_10 rfl 7 (by decide) (ht_at2 hts 3 rfl) (fun _ h9 => h9) rfl (by decide +kernel) rfl rfl (gl_at rfl (gi_of (show (-1 : Int32).toInt = (-1) from (by decide)) (by first | decide | omega) (by first | decide | omega))) dX7_init_6 (fun H locs hT oq m1 oj hS => ?_)
  have hF := hF.put hr_o0 skc_10 oq oj (by decide)
  refine lv_aload_n hx hb dX7_init_9 rfl (lv_at hl 0 rfl) ?_
  refine lv_iload_n hx hb dX7_init_10 rfl (lv_at hl 1 rfl) ?_
  refine tw_putF (v := .int p0) (ty := .int) hx hb hts bF2_X7 tyX7 tyX7_ok nmX7 hown hK hT hG hS hr_o0 shc_10 rfl 0 (by decide) (ht_at2 hts 4 rfl) (fun _ h9 => h9) rfl hin rfl (by decide +kernel) rfl rfl (gl_at rfl (gi_all _)) dX7_init_11 (fun H locs hT oq m2 oj hS => ?_)
  have hF := hF.put hr_o0 skc_10 oq oj (by decide)
  refine lv_aload_n hx hb dX7_init_14 rfl (lv_at hl 0 rfl) ?_
  refine lv_iload_n hx hb dX7_init_15 rfl (lv_at hl 2 rfl) ?_
  refine tw_putF (v := .int p1) (ty := .int) hx hb hts bF2_X7 tyX7 tyX7_ok nmX7 hown hK hT hG hS hr_o0 shc_10 rfl 1 (by decide) (ht_at2 hts 5 rfl) (fun _ h9 => h9) rfl hin rfl (by decide +kernel) rfl rfl (gl_at rfl (gi_all _)) dX7_init_16 (fun H locs hT oq m4 oj hS => ?_)
  have hF := hF.put hr_o0 skc_10 oq oj (by decide)
  refine lv_aload_n hx hb dX7_init_19 rfl (lv_at hl 0 rfl) ?_
  refine lv_iload_n hx hb dX7_init_20 rfl (lv_at hl 3 rfl) ?_
  refine tw_put (v := .int p2) (ty := .int) hx hb hts bF2_X7 tyX7 tyX7_ok nmX7 hown hK hT hG hS hr_o0 shc_10 rfl 6 (by decide) (ht_at2 hts 6 rfl) (fun _ h9 => h9) rfl (by decide +kernel) rfl rfl (gl_at rfl (gi_all _)) dX7_init_21 (fun H locs hT oq m7 oj hS => ?_)
  have hF := hF.put hr_o0 skc_10 oq oj (by decide)
  refine lv_aload_n hx hb dX7_init_24 rfl (lv_at hl 0 rfl) ?_
  refine lv_iload hx hb dX7_init_25 (lv_at hl 4 rfl) ?_
  refine tw_putF (v := .int p3) (ty := .int) hx hb hts bF2_X7 tyX7 tyX7_ok nmX7 hown hK hT hG hS hr_o0 shc_10 rfl 2 (by decide) (ht_at2 hts 7 rfl) (fun _ h9 => h9) rfl hin rfl (by decide +kernel) rfl rfl (gl_at rfl (gi_all _)) dX7_init_27 (fun H locs hT oq m11 oj hS => ?_)
  have hF := hF.put hr_o0 skc_10 oq oj (by decide)
  refine lv_aload_n hx hb dX7_init_30 rfl (lv_at hl 0 rfl) ?_
  refine lv_iload hx hb dX7_init_31 (lv_at hl 5 rfl) ?_
  refine tw_putF (v := .int p4) (ty := .boolean) hx hb hts bF2_X7 tyX7 tyX7_ok nmX7 hown hK hT hG hS hr_o0 shc_10 rfl 3 (by decide) (ht_at2 hts 8 rfl) (fun _ h9 => h9) rfl hin rfl (by decide +kernel) (nar_b (by have q8 := ti_all p4; omega)) (fit_b (by have q8 := ti_all p4; omega)) (gl_at rfl (gi_of (show p4.toInt = p4.toInt from rfl) (by omega) (by omega))) dX7_init_33 (fun H locs hT oq m16 oj hS => ?_)
  have hF := hF.put hr_o0 skc_10 oq oj (by decide)
  refine lv_aload_n hx hb dX7_init_36 rfl (lv_at hl 0 rfl) ?_
  refine lv_iload hx hb dX7_init_37 (lv_at hl 6 rfl) ?_
  refine tw_putF (v := .int p5) (ty := .boolean) hx hb hts bF2_X7 tyX7 tyX7_ok nmX7 hown hK hT hG hS hr_o0 shc_10 rfl 4 (by decide) (ht_at2 hts 9 rfl) (fun _ h9 => h9) rfl hin rfl (by decide +kernel) (nar_b (by have q8 := ti_all p5; omega)) (fit_b (by have q8 := ti_all p5; omega)) (gl_at rfl (gi_of (show p5.toInt = p5.toInt from rfl) (by omega) (by omega))) dX7_init_39 (fun H locs hT oq m22 oj hS => ?_)
  have hF := hF.put hr_o0 skc_10 oq oj (by decide)
  refine lv_aload_n hx hb dX7_init_42 rfl (lv_at hl 0 rfl) ?_
  refine lv_iload hx hb dX7_init_43 (lv_at hl 7 rfl) ?_
  refine tw_putF (v := .int p6) (ty := .int) hx hb hts bF2_X7 tyX7 tyX7_ok nmX7 hown hK hT hG hS hr_o0 shc_10 rfl 5 (by decide) (ht_at2 hts 10 rfl) (fun _ h9 => h9) rfl hin rfl (by decide +kernel) rfl rfl (gl_at rfl (gi_all _)) dX7_init_45 (fun H locs hT oq m29 oj hS => ?_)
  have hF := hF.put hr_o0 skc_10 oq oj (by decide)
  exact W.vret hx hb hr (fun t ht hW => ⟨⟨(), rfl, (by exact trivial), by (try dsimp only); rw [ht]; exact ⟨hT, hF⟩⟩, hS.F ht⟩) hS.2.2 dX7_init_48
def w_c_X1_init : List Cond := .code yX1_init cX1_init 5 none :: (HAppend.hAppend (α := List Cond) (β := List Cond) (γ := List Cond) [.methodLink RX1 1 objectInit, .instanceMethod objectInit, .code objectInit ⟨#[0xb1]⟩ 1 none, .constant RX1 9 2147483647, .fieldLink RX1 10 "SeaLand$Contract" "most" "I", .fieldLink RX1 16 "SeaLand$Contract" "work" "I", .fieldLink RX1 19 "SeaLand$Contract" "clay" "I", .fieldLink RX1 22 "SeaLand$Contract" "price" "I", .fieldLink RX1 25 "SeaLand$Contract" "bound" "I"] bs2)
set_option maxHeartbeats 4000000 in
set_option maxRecDepth 100000 in
theorem c_X1_init (l : Launch) (dC : Nat → ClassId) (dI : Nat → Nat → Nat) (kA : Nat → ClassId) (adK adV : Nat → Nat) (G : gT) (H0 : Heap) (nC nS : Int) (o0 : Nat) (p0 : Int32) (p1 : Int32) (p2 : Int32) (p3 : Int32)  (hT : gH (dC, dI) kA (SHc nC nS) G H0) (hr_o0 : G o0 = some 4) (hq0 : 0 ≤ p0.toInt ∧ p0.toInt ≤ 29) (hgC : 0 ≤ nC ∧ nC ≤ 40) (hgS : 0 ≤ nS ∧ nS ≤ 60) : Met l yX1_init w_c_X1_init ({ frames := 1, cells := 0, slots := 0, locals := 30 }) (va_Pc [.ref o0, .int p0, .int p1, .int p2, .int p3] (fun U => U.heap = H0 ∧ va_K (dC, dI) vwCl (tyl kA) U ∧ EVC adK adV (gA G H0.size) U U.heap)) (va_Qv (fun (u : Unit) => True) (fun (_ : Unit) (t : State) => gH (dC, dI) kA (SHc nC nS) G t.heap ∧ gF (dC, dI) SKc G ([(4, 0), (4, 1), (4, 2), (4, 3), (4, 6)] : List (Nat × Nat)) H0 t.heap) (gA G H0.size)) 0 0 (gA G H0.size) := by
  refine Met.ofW (cc := cX1_init) (maxL := 5) (ret := none) (by decide) rfl ?_
  intro p e s m args below meth c s₁ B hml hv
  obtain ⟨rfl, hH0, hK, hE⟩ := hv
  have hx := B.exec
  have hb := B.bytes
  have hr := B.returns
  have hts := atoms_spec (ws := w_c_X1_init) B.pre
  have hown : s.vm.findClass RX1 = some m.cls := findClass_of_methodNamed B.named
  have hlocks := B.notSynchronized
  have hin : meth.name = "<init>" := (name_of_methodNamed B.named B.method).1
  subst hH0
  generalize hAe : gA G s.heap.size = A at hE ⊢
  have hA : ∀ q : Nat, s.heap.size ≤ q → A q := fun q h => by rw [← hAe]; exact Or.inr h
  have hG := gA_of hAe
  have hS : va_S A s.heap s.heap [] := va_S.rf
  have hF : gF (dC, dI) SKc G ([(4, 0), (4, 1), (4, 2), (4, 3), (4, 6)] : List (Nat × Nat)) s.heap s.heap := gF.rf
  have hl := lv_entry ([.ref o0, .int p0, .int p1, .int p2, .int p3]) (n := 5) (Nat.le_of_ble_eq_true rfl)
  rw [lg_entry_eq]
  generalize (lg_sl ([.ref o0, .int p0, .int p1, .int p2, .int p3]) ++ List.replicate (5 - (lg_sl ([.ref o0, .int p0, .int p1, .int p2, .int p3])).length) Slot.unset).toArray = ls at hl ⊢
  have hl : lv_has ls 5 [(0, .ref o0), (1, .int p0), (2, .int p1), (3, .int p2), (4, .int p3)] := hl
  refine lv_aload_n hx hb dX1_init_0 rfl (lv_at hl 0 rfl) ?_
  refine W.objInit hx hb hown (ht_at2 hts 0 rfl) (ht_at2 hts 1 rfl) (ht_at2 hts 2 rfl) rfl (by rw [hml]; exact hl.1) rfl dX1_init_1 (Nat.le_of_ble_eq_true rfl) (Nat.le_of_ble_eq_true rfl) ?_
  refine W.eq (g2 := F0 m 4 ls []) rfl ?_
  refine lv_aload_n hx hb dX1_init_4 rfl (lv_at hl 0 rfl) ?_
  refine lv_ldc (v := 2147483647) hx hb hown (ht_at2 hts 3 rfl) dX1_init_5 ?_
  refine tw_put (v := .int 2147483647) (ty := .int) hx hb hts bF2_X1 tyX1 tyX1_ok nmX1 hown hK hT hG hS hr_o0 shc_4 rfl 6 (by decide) (ht_at2 hts 4 rfl) (fun _ h9 => h9) rfl (by decide +kernel) rfl rfl (gl_at rfl (gi_all _)) dX1_init_7 (fun H locs hT oq m1 oj hS => ?_)
  have hF := hF.put hr_o0 skc_4 oq oj (by decide)
  refine lv_aload_n hx hb dX1_init_10 rfl (lv_at hl 0 rfl) ?_
  refine lv_iload_n hx hb dX1_init_11 rfl (lv_at hl 1 rfl) ?_
  refine tw_putF (v := .int p0) (ty := .int) hx hb hts bF2_X1 tyX1 tyX1_ok nmX1 hown hK hT hG hS hr_o0 shc_4 rfl 0 (by decide) (ht_at2 hts 5 rfl) (fun _ h9 => h9) rfl hin rfl (by decide +kernel) rfl rfl (gl_at rfl (gi_of (show p0.toInt = p0.toInt from rfl) (by omega) (by omega))) dX1_init_12 (fun H locs hT oq m2 oj hS => ?_)
  have hF := hF.put hr_o0 skc_4 oq oj (by decide)
  refine lv_aload_n hx hb dX1_init_15 rfl (lv_at hl 0 rfl) ?_
  refine lv_iload_n hx hb dX1_init_16 rfl (lv_at hl 2 rfl) ?_
  refine tw_putF (v := .int p1) (ty := .int) hx hb hts bF2_X1 tyX1 tyX1_ok nmX1 hown hK hT hG hS hr_o0 shc_4 rfl 1 (by decide) (ht_at2 hts 6 rfl) (fun _ h9 => h9) rfl hin rfl (by decide +kernel) rfl rfl (gl_at rfl (gi_all _)) dX1_init_17 (fun H locs hT oq m4 oj hS => ?_)
  have hF := hF.put hr_o0 skc_4 oq oj (by decide)
  refine lv_aload_n hx hb dX1_init_20 rfl (lv_at hl 0 rfl) ?_
  refine lv_iload_n hx hb dX1_init_21 rfl (lv_at hl 3 rfl) ?_
  refine tw_putF (v := .int p2) (ty := .int) hx hb hts bF2_X1 tyX1 tyX1_ok nmX1 hown hK hT hG hS hr_o0 shc_4 rfl 2 (by decide) (ht_at2 hts 7 rfl) (fun _ h9 => h9) rfl hin rfl (by decide +kernel) rfl rfl (gl_at rfl (gi_all _)) dX1_init_22 (fun H locs hT oq m7 oj hS => ?_)
  have hF := hF.put hr_o0 skc_4 oq oj (by decide)
  refine lv_aload_n hx hb dX1_init_25 rfl (lv_at hl 0 rfl) ?_
  refine lv_iload hx hb dX1_init_26 (lv_at hl 4 rfl) ?_
  refine tw_putF (v := .int p3) (ty := .int) hx hb hts bF2_X1 tyX1 tyX1_ok nmX1 hown hK hT hG hS hr_o0 shc_4 rfl 3 (by decide) (ht_at2 hts 8 rfl) (fun _ h9 => h9) rfl hin rfl (by decide +kernel) rfl rfl (gl_at rfl (gi_all _)) dX1_init_28 (fun H locs hT oq m11 oj hS => ?_)
  have hF := hF.put hr_o0 skc_4 oq oj (by decide)
  exact W.vret hx hb hr (fun t ht hW => ⟨⟨(), rfl, (by exact trivial), by (try dsimp only); rw [ht]; exact ⟨hT, hF⟩⟩, hS.F ht⟩) hS.2.2 dX1_init_31
def w_c_workOfI : List Cond := .code yX11_workOf cX11_workOf 2 (some (.object "SeaLand$Work")) :: (HAppend.hAppend (α := List Cond) (β := List Cond) (γ := List Cond) [.fieldLink RX11 16 "SeaLand" "lake" "LSeaLand$Lake;", .code yX11_within cX11_within 3 (some .boolean), .methodLink RX11 58 yX11_within, .static yX11_within, .initialized RX11, .classLink RX11 557 "java/lang/IndexOutOfBoundsException", .initialized "java/lang/IndexOutOfBoundsException"] bs2)
set_option maxHeartbeats 4000000 in
set_option maxRecDepth 100000 in
theorem c_workOfI (l : Launch) (hlt : l.stackTraces = false) (dC : Nat → ClassId) (dI : Nat → Nat → Nat) (kA : Nat → ClassId) (adK adV : Nat → Nat) (G : gT) (H0 : Heap) (nC nS : Int) (o0 : Nat) (p0 : Int32)  (hT : gH (dC, dI) kA (SHc nC nS) G H0) (hr_o0 : G o0 = some 14) (hgC : 0 ≤ nC ∧ nC ≤ 40) (hgS : 0 ≤ nS ∧ nS ≤ 60) : vx_Met l yX11_workOf w_c_workOfI ({ frames := 6, cells := 1, slots := 6, locals := 100 }) (va_Pc [.ref o0, .int p0] (fun U => U.heap = H0 ∧ va_K (dC, dI) vwCl (tyl kA) U ∧ EVC adK adV (gA G H0.size) U U.heap)) (va_Qr (fun (u : Unit) => (0 ≤ p0.toInt ∧ p0.toInt ≤ 29)) (fun (_ : Unit) (ra : Nat) (t : State) => G ra = some 13 ∧ gH (dC, dI) kA (SHc nC nS) G t.heap ∧ gF (dC, dI) SKc G ([] : List (Nat × Nat)) H0 t.heap) (gA G H0.size)) (vx_X (fun _ : Unit => True) (fun E _ t => (E = "java/lang/IndexOutOfBoundsException") ∧ gH (dC, dI) kA (SHc nC nS) G t.heap ∧ gF (dC, dI) SKc G ([] : List (Nat × Nat)) H0 t.heap) (gA G H0.size)) 1 6 (gA G H0.size) := by
  refine vx_ofW (cc := cX11_workOf) (maxL := 2) (ret := (some (.object "SeaLand$Work"))) (by decide +kernel) rfl ?_
  intro p e s m args below meth c s₁ B hml hnt hv
  obtain ⟨rfl, hH0, hK, hE⟩ := hv
  have hx := B.exec
  have hb := B.bytes
  have hr := B.returns
  have hts := atoms_spec (ws := w_c_workOfI) B.pre
  have hown : s.vm.findClass RX11 = some m.cls := findClass_of_methodNamed B.named
  have hlocks := B.notSynchronized
  subst hH0
  generalize hAe : gA G s.heap.size = A at hE ⊢
  have hA : ∀ q : Nat, s.heap.size ≤ q → A q := fun q h => by rw [← hAe]; exact Or.inr h
  have hG := gA_of hAe
  have hS : va_S A s.heap s.heap [] := va_S.rf
  have hF : gF (dC, dI) SKc G ([] : List (Nat × Nat)) s.heap s.heap := gF.rf
  have hl := lv_entry ([.ref o0, .int p0]) (n := 2) (Nat.le_of_ble_eq_true rfl)
  rw [lg_entry_eq]
  generalize (lg_sl ([.ref o0, .int p0]) ++ List.replicate (2 - (lg_sl ([.ref o0, .int p0])).length) Slot.unset).toArray = ls at hl ⊢
  have hl : lv_has ls 2 [(0, .ref o0), (1, .int p0)] := hl
  refine lv_iload_n hx hb dX11_workOf_0 rfl (lv_at hl 1 rfl) ?_
  refine lv_iconst (v := 0) hx hb dX11_workOf_1 (by decide) ?_
  refine lv_aload_n hx hb dX11_workOf_2 rfl (lv_at hl 0 rfl) ?_
  refine tw_get hx hb hts bF2_X11 hown hK hT hr_o0 shc_14 rfl 1 (by decide) (ht_at2 hts 0 rfl) (fun _ h9 => h9) dX11_workOf_3 (fun v9 m1 h9 => ?_)
  obtain ⟨b2, rfl, hg3⟩ := h9 _ rfl
  refine tw_getN hx hb hts bF2_X3 hown hK hT hg3 shc_6 rfl 3 (by decide) (hE.nw 44 rfl) (fun _ h9 => h9) dX11_workOf_6 (fun v9 m4 h9 => ?_)
  obtain ⟨x5, rfl, gx5, kx5⟩ := h9 _ rfl
  refine lv_iconst (v := 1) hx hb dX11_workOf_9 (by decide) ?_
  refine lv_isub hx hb dX11_workOf_10 ?_
  refine lv_topi (fun x6 ex6 => ?_)
  have t7 : x6.toInt = x5.toInt - 1 := ti_sub ex6 rfl (by decide) (by omega) (by omega)
  have hFc := gA_free hG hA hS
  refine va_calli (va_runS (As := [.int p0, .int 0, .int x6]) (rest := []) ⟨hx, hb, hml, hown, hts⟩ (c_within l dC dI kA adK adV G s.heap nC nS p0 0 x6 hT (by omega) (by omega)) (va_cwS 3 hts (goodIn_app (goodIn_r _ [3, 4, 5] rfl (by decide +kernel)) (goodIn_ca (goodIn_r _ [2] rfl (by decide +kernel)) (bs2_in _ _))) rfl rfl rfl (by decide +kernel) ⟨(Nat.le_of_ble_eq_true rfl), (Nat.le_of_ble_eq_true rfl)⟩) ⟨fun a U g mk q => by obtain ⟨q0, q1, qK, qE⟩ := q; exact ⟨q0, q1, va_K.moved (u := U) (U := U.calling g mk a) (Vm.Alike.refl U.vm) qK, EVC.blind g mk a qE⟩, fun U hU hW => ⟨rfl, hU, va_K.moved hW.alike hK, hE.call hS hFc hU hW⟩⟩ rfl rfl hl.1 rfl (lv_room (Nat.le_of_ble_eq_true rfl)) dX11_workOf_11 ⟨(Nat.le_of_ble_eq_true rfl), (Nat.le_of_ble_eq_true rfl)⟩) hS (fun q _ h => hFc q h) hFc (fun r8 u t H locs ht hvm hw9 hB _ _ hS => ?_)
  obtain ⟨hT, hF1⟩ := hB
  rw [ht] at hT hF1
  have m10 := (hF1.fld hr_o0 skc_14 (k := 1) (by decide) (by decide)).trans m1
  have hF := hF.more hF1 (by decide)
  try dsimp only at hw9
  obtain ⟨h12, hi13, hi14⟩ := hw9
  refine lv_if_ne (tgt := 28) hx hb dX11_workOf_14 (by decide) (fun c15 => ?_) (fun c15 => ?_)
  · have t16 : r8.toInt ≠ 0 := ti_ne c15 rfl (by decide)
    have t17 : (0 : Int32).toInt = 0 := by decide
    have t18 : (0 : Int32).toInt ≤ p0.toInt ∧ p0.toInt ≤ x6.toInt := hi13 ((bit_of ⟨by omega, by omega⟩).resolve_left c15)
    refine lv_aload_n hx hb dX11_workOf_28 rfl (lv_at hl 0 rfl) ?_
    refine tw_getM (v := .ref b2) hx hb hts bF2_X11 hown hK hT hr_o0 shc_14 rfl 1 (by decide) (ht_at2 hts 0 rfl) (fun _ h9 => h9) m10 dX11_workOf_29 ?_
    refine tw_getN hx hb hts bF2_X3 hown hK hT hg3 shc_6 rfl 2 (by decide) (hE.nw 45 rfl) (fun _ h9 => h9) dX11_workOf_32 (fun v9 m19 h9 => ?_)
    obtain ⟨b20, rfl, hg21⟩ := h9 _ rfl
    refine lv_iload_n hx hb dX11_workOf_35 rfl (lv_at hl 1 rfl) ?_
    refine tw_aald (i := p0) hx hb hK hT hg21 shc_18 rfl (vin_t (a := p0.toInt) rfl (by omega) (by omega)) dX11_workOf_36 (fun v9 m22 h9 => ?_)
    obtain ⟨b23, rfl, hg24⟩ := h9
    refine W.widen (k := 1) (n := 6) (by decide) (by decide) ?_
    exact vx_ret (W.aret (v := .ref b23) hx hb hr (Or.inl ⟨_, rfl⟩) (Or.inr ⟨_, rfl⟩) (fun t ht hW => ⟨⟨(), b23, rfl, (by exact (by omega)), by (try dsimp only); rw [ht]; exact ⟨hg24, hT, hF⟩⟩, hS.F ht⟩) hS.2.2 dX11_workOf_37)
  · have t25 : r8.toInt = 0 := ti_eq c15 rfl (by decide)
    have t26 : (0 : Int32).toInt = 0 := by decide
    have t27 : p0.toInt < (0 : Int32).toInt ∨ x6.toInt < p0.toInt := hi14 c15
    obtain ⟨sa28, hsa28⟩ := hE.str 18 rfl
    exact vx_throwSW (names := ["java/lang/RuntimeException", "java/lang/Exception"]) hx hb hlt hown (by decide +kernel) (by decide +kernel) (ht_at2 hts 5 rfl) (ht_at2 hts 6 rfl) hsa28 (bX2_at0 hts hE) bX_ok0_557 hE.1.1.2.2.1 hE.1.1.2.2.2 hS (by rw [hml]; exact hl.1) dX11_workOf_17 dX11_workOf_20 dX11_workOf_21 dX11_workOf_24 dX11_workOf_27 (fun x h => (hnt x h).elim) (by decide) (Nat.le_of_ble_eq_true rfl) (Nat.le_of_ble_eq_true rfl) (Nat.le_of_ble_eq_true rfl) hlocks (fun t hW hz hq => ⟨(), trivial, ⟨rfl, hT.ext hq, hF.ext hT hq⟩, Nat.le_trans hS.1 hz, fun q h1 h2 => (hq q (Nat.lt_of_lt_of_le h1 hS.1)).trans (hS.2.1 q h1 h2)⟩) hS.2.2 (by decide) (by decide)
def w_c_settle : List Cond := .code yX0_settle cX0_settle 2 (some .int) :: (HAppend.hAppend (α := List Cond) (β := List Cond) (γ := List Cond) [.fieldLink RX0 11 "SeaLand$Board" "settlers" "[LSeaLand$Settler;", .fieldLink RX0 75 "SeaLand$Board" "settled" "I"] bs2)
set_option maxHeartbeats 4000000 in
set_option maxRecDepth 100000 in
theorem c_settle (l : Launch) (dC : Nat → ClassId) (dI : Nat → Nat → Nat) (kA : Nat → ClassId) (adK adV : Nat → Nat) (G : gT) (H0 : Heap) (nC nS : Int) (o0 : Nat) (sl : Nat) (wa : Nat) (hT : gH (dC, dI) kA (SHc nC nS) G H0) (hr_sl : G sl = some 10) (hr_o0 : G o0 = some 3) (hu_o : ∀ b, G b = some 3 → b = o0) (hu_a : ∀ b, G b = some 51 → b = wa) (hn_s : nS ≤ 59) (hgC : 0 ≤ nC ∧ nC ≤ 40) (hgS : 0 ≤ nS ∧ nS ≤ 60) : Met l yX0_settle w_c_settle ({ frames := 0, cells := 0, slots := 0, locals := 0 }) (va_Pc [.ref o0, .ref sl] (fun U => U.heap = H0 ∧ va_K (dC, dI) vwCl (tyl kA) U ∧ EVC adK adV (gA G H0.size) U U.heap)) (va_Qi (fun (r : Int32) (u : Unit) => (0 ≤ r.toInt ∧ r.toInt ≤ 59)) (fun (_ : Unit) (t : State) => gH (dC, dI) kA (SHc nC (nS + 1)) G t.heap ∧ gF (dC, dI) SKc G ([(3, 14), (51, 0)] : List (Nat × Nat)) H0 t.heap) (gA G H0.size)) 0 0 (gA G H0.size) := by
  refine Met.ofW (cc := cX0_settle) (maxL := 2) (ret := (some .int)) (by decide) rfl ?_
  intro p e s m args below meth c s₁ B hml hv
  obtain ⟨rfl, hH0, hK, hE⟩ := hv
  have hx := B.exec
  have hb := B.bytes
  have hr := B.returns
  have hts := atoms_spec (ws := w_c_settle) B.pre
  have hown : s.vm.findClass RX0 = some m.cls := findClass_of_methodNamed B.named
  have hlocks := B.notSynchronized
  subst hH0
  generalize hAe : gA G s.heap.size = A at hE ⊢
  have hA : ∀ q : Nat, s.heap.size ≤ q → A q := fun q h => by rw [← hAe]; exact Or.inr h
  have hG := gA_of hAe
  have hS : va_S A s.heap s.heap [] := va_S.rf
  have hF : gF (dC, dI) SKc G ([(3, 14), (51, 0)] : List (Nat × Nat)) s.heap s.heap := gF.rf
  have hl := lv_entry ([.ref o0, .ref sl]) (n := 2) (Nat.le_of_ble_eq_true rfl)
  rw [lg_entry_eq]
  generalize (lg_sl ([.ref o0, .ref sl]) ++ List.replicate (2 - (lg_sl ([.ref o0, .ref sl])).length) Slot.unset).toArray = ls at hl ⊢
  have hl : lv_has ls 2 [(0, .ref o0), (1, .ref sl)] := hl
  refine lv_aload_n hx hb dX0_settle_0 rfl (lv_at hl 0 rfl) ?_
  refine tw_get hx hb hts bF2_X0 hown hK hT hr_o0 shc_3 rfl 0 (by decide) (ht_at2 hts 0 rfl) (fun _ h9 => h9) dX0_settle_1 (fun v9 m1 h9 => ?_)
  obtain ⟨b2, rfl, hg3⟩ := h9 _ rfl
  refine lv_aload_n hx hb dX0_settle_4 rfl (lv_at hl 0 rfl) ?_
  refine tw_get hx hb hts bF2_X0 hown hK hT hr_o0 shc_3 rfl 14 (by decide) (ht_at2 hts 1 rfl) (fun _ h9 => h9) dX0_settle_5 (fun v9 m4 h9 => ?_)
  obtain ⟨x5, rfl, gx5, kx5⟩ := h9 _ rfl
  refine lv_aload_n hx hb dX0_settle_8 rfl (lv_at hl 1 rfl) ?_
  refine tw_aast (C := RX7) (i := x5) hx hb hK hT hG hS hg3 shc_51 rfl hr_sl shc_10 rfl (vin_t (a := x5.toInt) rfl (by omega) (by omega)) ⟨fun _ => ⟨_, rfl, hr_sl⟩, ⟨some _, rfl, fun _ h => by cases h; exact hr_sl⟩⟩ dX0_settle_9 (fun H locs hT oq m6 oi hS => ?_)
  have hF := hF.ast hg3 skc_51 oq (by decide)
  have m8 := (el_kept (oq _ (gne hr_o0 hg3 (by decide)))).trans m4
  refine lv_aload_n hx hb dX0_settle_10 rfl (lv_at hl 0 rfl) ?_
  refine lv_dup hx hb dX0_settle_11 rfl ?_
  refine tw_getM (v := .int x5) hx hb hts bF2_X0 hown hK hT hr_o0 shc_3 rfl 14 (by decide) (ht_at2 hts 1 rfl) (fun _ h9 => h9) m8 dX0_settle_12 ?_
  refine lv_iconst (v := 1) hx hb dX0_settle_15 (by decide) ?_
  refine lv_iadd hx hb dX0_settle_16 ?_
  refine lv_topi (fun x9 ex9 => ?_)
  have t10 : x9.toInt = x5.toInt + 1 := ti_add ex9 rfl (by decide) (by omega) (by omega)
  have ho9 : ∀ b u, u ≠ 3 → G b = some u → gC (dC, dI) kA ((SHc nC (nS + 1)) u) G b H := fun b u h1 h2 => by
    by_cases e9 : u = 51
    · subst e9; have e8 := hu_a b h2; subst e8; have h8 := hT _ _ h2; rw [shc_51] at h8 ⊢
      exact gC.gnb1 h8 (k0 := x5.toNatClampNeg) (by have q9 := tn_of (show x5.toInt = x5.toInt from rfl) (by omega); omega) (by rw [← hu_a b2 hg3]; exact m6) hr_sl
    · rw [← shc_oS (nS := nS) h1 e9]; exact hT b u h2
  refine tw_put2 (Sg1 := (SHc nC (nS + 1))) (v := .int x9) (ty := .int) hx hb hts bF2_X0 tyX0 tyX0_ok nmX0 hown hK hT hG hS hr_o0 shc_3 shc_3 rfl 14 (by decide) (ht_at2 hts 1 rfl) (fun _ h9 => h9) rfl (by decide +kernel) rfl rfl (gl_at rfl ⟨_, rfl, by omega, by omega⟩) (fun j v _ hn h9 => gl_set (i := 14) (k := gI (nS + 1) (nS + 1)) hn h9) hu_o ho9 dX0_settle_17 (fun H locs hT oq m11 oj hS => ?_)
  have hF := hF.put hr_o0 skc_3 oq oj (by decide)
  refine lv_aload_n hx hb dX0_settle_20 rfl (lv_at hl 0 rfl) ?_
  refine tw_getM (v := .int x9) hx hb hts bF2_X0 hown hK hT hr_o0 shc_3 rfl 14 (by decide) (ht_at2 hts 1 rfl) (fun _ h9 => h9) m11 dX0_settle_21 ?_
  refine lv_iconst (v := 1) hx hb dX0_settle_24 (by decide) ?_
  refine lv_isub hx hb dX0_settle_25 ?_
  refine lv_topi (fun x14 ex14 => ?_)
  have t15 : x14.toInt = x9.toInt - 1 := ti_sub ex14 rfl (by decide) (by omega) (by omega)
  exact W.iret (v := x14) hx hb hr (fun t ht hW => ⟨⟨x14, (), rfl, (by exact (by have q8 := ti_all x14; omega)), by (try dsimp only); rw [ht]; exact ⟨hT, hF⟩⟩, hS.F ht⟩) hS.2.2 dX0_settle_26
