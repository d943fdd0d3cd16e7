def w_c_addJobE : List Cond := .code yX5_addJob cX5_addJob 5 (some .int) :: (HAppend.hAppend (α := List Cond) (β := List Cond) (γ := List Cond) [.fieldLink RX5 29 "SeaLand$Plans" "costs" "[I", .fieldLink RX5 154 "SeaLand$Plans" "jobs" "I", .fieldLink RX5 32 "SeaLand$Plans" "lasts" "[I", .fieldLink RX5 35 "SeaLand$Plans" "incomes" "[I", .fieldLink RX5 38 "SeaLand$Plans" "acres" "[I"] bs2)
set_option maxHeartbeats 4000000 in
set_option maxRecDepth 100000 in
theorem c_addJobE (l : Launch) (dC : Nat → ClassId) (dI : Nat → Nat → Nat) (kA : Nat → ClassId) (adK adV : Nat → Nat) (G : gT) (H0 : Heap) (nC nS : Int) (o0 : Nat) (p0 : Int32) (p1 : Int32) (p2 : Int32) (p3 : Int32) (jn : Int32)  (hT : gH (dC, dI) kA (SHc nC nS) G H0) (hr_o0 : G o0 = some 8) (hm_jn : el H0 o0 (dI 8 15) = some (.int jn)) (hq0 : 0 ≤ jn.toInt ∧ jn.toInt ≤ 6) (hgC : 0 ≤ nC ∧ nC ≤ 40) (hgS : 0 ≤ nS ∧ nS ≤ 60) : Met l yX5_addJob w_c_addJobE ({ frames := 0, cells := 0, slots := 0, locals := 0 }) (va_Pc [.ref o0, .int p0, .int p1, .int p2, .int p3] (fun U => U.heap = H0 ∧ va_K (dC, dI) vwCl (tyl kA) U ∧ EVC adK adV (gA G H0.size) U U.heap)) (va_Qi (fun (r : Int32) (u : Int32) => (1 ≤ r.toInt ∧ r.toInt ≤ 7) ∧ (r.toInt = jn.toInt + 1 ∧ u.toInt = jn.toInt + 1)) (fun (j1 : Int32) (t : State) => gH (dC, dI) kA (SHc nC nS) G t.heap ∧ gF (dC, dI) SKc G ([(8, 15), (63, 0), (64, 0), (65, 0), (66, 0)] : List (Nat × Nat)) H0 t.heap ∧ el t.heap o0 (dI 8 15) = some (.int j1)) (gA G H0.size)) 0 0 (gA G H0.size) := by
  refine Met.ofW (cc := cX5_addJob) (maxL := 5) (ret := (some .int)) (by decide) rfl ?_
  intro p e s m args below meth c s₁ B hml hv
  obtain ⟨rfl, hH0, hK, hE⟩ := hv
  have hx := B.exec
  have hb := B.bytes
  have hr := B.returns
  have hts := atoms_spec (ws := w_c_addJobE) B.pre
  have hown : s.vm.findClass RX5 = some m.cls := findClass_of_methodNamed B.named
  have hlocks := B.notSynchronized
  subst hH0
  generalize hAe : gA G s.heap.size = A at hE ⊢
  have hA : ∀ q : Nat, s.heap.size ≤ q → A q := fun q h => by rw [← hAe]; exact Or.inr h
  have hG := gA_of hAe
  have hS : va_S A s.heap s.heap [] := va_S.rf
  have hF : gF (dC, dI) SKc G ([(8, 15), (63, 0), (64, 0), (65, 0), (66, 0)] : List (Nat × Nat)) s.heap s.heap := gF.rf
  have hl := lv_entry ([.ref o0, .int p0, .int p1, .int p2, .int p3]) (n := 5) (Nat.le_of_ble_eq_true rfl)
  rw [lg_entry_eq]
  generalize (lg_sl ([.ref o0, .int p0, .int p1, .int p2, .int p3]) ++ List.replicate (5 - (lg_sl ([.ref o0, .int p0, .int p1, .int p2, .int p3])).length) Slot.unset).toArray = ls at hl ⊢
  have hl : lv_has ls 5 [(0, .ref o0), (1, .int p0), (2, .int p1), (3, .int p2), (4, .int p3)] := hl
  refine lv_aload_n hx hb dX5_addJob_0 rfl (lv_at hl 0 rfl) ?_
  refine tw_get hx hb hts bF2_X5 hown hK hT hr_o0 shc_8 rfl 5 (by decide) (ht_at2 hts 0 rfl) (fun _ h9 => h9) dX5_addJob_1 (fun v9 m1 h9 => ?_)
  obtain ⟨b2, rfl, hg3⟩ := h9 _ rfl
  refine lv_aload_n hx hb dX5_addJob_4 rfl (lv_at hl 0 rfl) ?_
  refine tw_getM (v := .int jn) hx hb hts bF2_X5 hown hK hT hr_o0 shc_8 rfl 15 (by decide) (ht_at2 hts 1 rfl) (fun _ h9 => h9) hm_jn dX5_addJob_5 ?_
  refine lv_iload_n hx hb dX5_addJob_8 rfl (lv_at hl 1 rfl) ?_
  refine tw_iast (i := jn) (x := p0) hx hb hK hT hG hS hg3 shc_63 rfl (vin_t (a := jn.toInt) rfl (by omega) (by omega)) (gi_all _) dX5_addJob_9 (fun H locs hT oq m4 oi hS => ?_)
  have hF := hF.ast hg3 skc_63 oq (by decide)
  have m5 := (el_kept (oq _ (gne hr_o0 hg3 (by decide)))).trans hm_jn
  have m6 := (el_kept (oq _ (gne hr_o0 hg3 (by decide)))).trans m1
  refine lv_aload_n hx hb dX5_addJob_10 rfl (lv_at hl 0 rfl) ?_
  refine tw_get hx hb hts bF2_X5 hown hK hT hr_o0 shc_8 rfl 6 (by decide) (ht_at2 hts 2 rfl) (fun _ h9 => h9) dX5_addJob_11 (fun v9 m7 h9 => ?_)
  obtain ⟨b8, rfl, hg9⟩ := h9 _ rfl
  refine lv_aload_n hx hb dX5_addJob_14 rfl (lv_at hl 0 rfl) ?_
  refine tw_getM (v := .int jn) hx hb hts bF2_X5 hown hK hT hr_o0 shc_8 rfl 15 (by decide) (ht_at2 hts 1 rfl) (fun _ h9 => h9) m5 dX5_addJob_15 ?_
  refine lv_iload_n hx hb dX5_addJob_18 rfl (lv_at hl 2 rfl) ?_
  refine tw_iast (i := jn) (x := p1) hx hb hK hT hG hS hg9 shc_64 rfl (vin_t (a := jn.toInt) rfl (by omega) (by omega)) (gi_all _) dX5_addJob_19 (fun H locs hT oq m10 oi hS => ?_)
  have hF := hF.ast hg9 skc_64 oq (by decide)
  have m11 := (el_kept (oq _ (gne hr_o0 hg9 (by decide)))).trans m5
  have m12 := (el_kept (oq _ (gne hr_o0 hg9 (by decide)))).trans m6
  have m13 := (el_kept (oq _ (gne hg3 hg9 (by decide)))).trans m4
  have m14 := (el_kept (oq _ (gne hr_o0 hg9 (by decide)))).trans m7
  refine lv_aload_n hx hb dX5_addJob_20 rfl (lv_at hl 0 rfl) ?_
  refine tw_get hx hb hts bF2_X5 hown hK hT hr_o0 shc_8 rfl 7 (by decide) (ht_at2 hts 3 rfl) (fun _ h9 => h9) dX5_addJob_21 (fun v9 m15 h9 => ?_)
  obtain ⟨b16, rfl, hg17⟩ := h9 _ rfl
  refine lv_aload_n hx hb dX5_addJob_24 rfl (lv_at hl 0 rfl) ?_
  refine tw_getM (v := .int jn) hx hb hts bF2_X5 hown hK hT hr_o0 shc_8 rfl 15 (by decide) (ht_at2 hts 1 rfl) (fun _ h9 => h9) m11 dX5_addJob_25 ?_
  refine lv_iload_n hx hb dX5_addJob_28 rfl (lv_at hl 3 rfl) ?_
  refine tw_iast (i := jn) (x := p2) hx hb hK hT hG hS hg17 shc_65 rfl (vin_t (a := jn.toInt) rfl (by omega) (by omega)) (gi_all _) dX5_addJob_29 (fun H locs hT oq m18 oi hS => ?_)
  have hF := hF.ast hg17 skc_65 oq (by decide)
  have m19 := (el_kept (oq _ (gne hr_o0 hg17 (by decide)))).trans m11
  have m20 := (el_kept (oq _ (gne hr_o0 hg17 (by decide)))).trans m12
  have m21 := (el_kept (oq _ (gne hg3 hg17 (by decide)))).trans m13
  have m22 := (el_kept (oq _ (gne hr_o0 hg17 (by decide)))).trans m14
  have m23 := (el_kept (oq _ (gne hg9 hg17 (by decide)))).trans m10
  have m24 := (el_kept (oq _ (gne hr_o0 hg17 (by decide)))).trans m15
  refine lv_aload_n hx hb dX5_addJob_30 rfl (lv_at hl 0 rfl) ?_
  refine tw_get hx hb hts bF2_X5 hown hK hT hr_o0 shc_8 rfl 8 (by decide) (ht_at2 hts 4 rfl) (fun _ h9 => h9) dX5_addJob_31 (fun v9 m25 h9 => ?_)
  obtain ⟨b26, rfl, hg27⟩ := h9 _ rfl
  refine lv_aload_n hx hb dX5_addJob_34 rfl (lv_at hl 0 rfl) ?_
  refine tw_getM (v := .int jn) hx hb hts bF2_X5 hown hK hT hr_o0 shc_8 rfl 15 (by decide) (ht_at2 hts 1 rfl) (fun _ h9 => h9) m19 dX5_addJob_35 ?_
  refine lv_iload hx hb dX5_addJob_38 (lv_at hl 4 rfl) ?_
  refine tw_iast (i := jn) (x := p3) hx hb hK hT hG hS hg27 shc_66 rfl (vin_t (a := jn.toInt) rfl (by omega) (by omega)) (gi_all _) dX5_addJob_40 (fun H locs hT oq m28 oi hS => ?_)
  have hF := hF.ast hg27 skc_66 oq (by decide)
  have m29 := (el_kept (oq _ (gne hr_o0 hg27 (by decide)))).trans m19
  have m30 := (el_kept (oq _ (gne hr_o0 hg27 (by decide)))).trans m20
  have m31 := (el_kept (oq _ (gne hg3 hg27 (by decide)))).trans m21
  have m32 := (el_kept (oq _ (gne hr_o0 hg27 (by decide)))).trans m22
  have m33 := (el_kept (oq _ (gne hg9 hg27 (by decide)))).trans m23
  have m34 := (el_kept (oq _ (gne hr_o0 hg27 (by decide)))).trans m24
  have m35 := (el_kept (oq _ (gne hg17 hg27 (by decide)))).trans m18
  have m36 := (el_kept (oq _ (gne hr_o0 hg27 (by decide)))).trans m25
  refine lv_aload_n hx hb dX5_addJob_41 rfl (lv_at hl 0 rfl) ?_
  refine lv_dup hx hb dX5_addJob_42 rfl ?_
  refine tw_getM (v := .int jn) hx hb hts bF2_X5 hown hK hT hr_o0 shc_8 rfl 15 (by decide) (ht_at2 hts 1 rfl) (fun _ h9 => h9) m29 dX5_addJob_43 ?_
  refine lv_iconst (v := 1) hx hb dX5_addJob_46 (by decide) ?_
  refine lv_iadd hx hb dX5_addJob_47 ?_
  refine lv_topi (fun x37 ex37 => ?_)
  have t38 : x37.toInt = jn.toInt + 1 := ti_add ex37 rfl (by decide) (by omega) (by omega)
  refine tw_put (v := .int x37) (ty := .int) hx hb hts bF2_X5 tyX5 tyX5_ok nmX5 hown hK hT hG hS hr_o0 shc_8 rfl 15 (by decide) (ht_at2 hts 1 rfl) (fun _ h9 => h9) rfl (by decide +kernel) rfl rfl (gl_at rfl (gi_of (show x37.toInt = x37.toInt from rfl) (by omega) (by omega))) dX5_addJob_48 (fun H locs hT oq m39 oj hS => ?_)
  have hF := hF.put hr_o0 skc_8 oq oj (by decide)
  have m40 := (oj 5 (by decide) (by decide)).trans m30
  have m41 := (el_kept (oq _ (gne hg3 hr_o0 (by decide)))).trans m31
  have m42 := (oj 6 (by decide) (by decide)).trans m32
  have m43 := (el_kept (oq _ (gne hg9 hr_o0 (by decide)))).trans m33
  have m44 := (oj 7 (by decide) (by decide)).trans m34
  have m45 := (el_kept (oq _ (gne hg17 hr_o0 (by decide)))).trans m35
  have m46 := (oj 8 (by decide) (by decide)).trans m36
  have m47 := (el_kept (oq _ (gne hg27 hr_o0 (by decide)))).trans m28
  refine lv_aload_n hx hb dX5_addJob_51 rfl (lv_at hl 0 rfl) ?_
  refine tw_getM (v := .int x37) hx hb hts bF2_X5 hown hK hT hr_o0 shc_8 rfl 15 (by decide) (ht_at2 hts 1 rfl) (fun _ h9 => h9) m39 dX5_addJob_52 ?_
  exact W.iret (v := x37) hx hb hr (fun t ht hW => ⟨⟨x37, x37, rfl, (by exact ⟨(rg_t (a := x37.toInt) rfl (by have q8 := ti_all x37; omega) (by have q8 := ti_all x37; omega)), (by omega)⟩), by (try dsimp only); rw [ht]; exact ⟨hT, hF, m39⟩⟩, hS.F ht⟩) hS.2.2 dX5_addJob_55
def w_c_jobE : List Cond := .code yX11_job cX11_job 5 (some .int) :: (HAppend.hAppend (α := List Cond) (β := List Cond) (γ := List Cond) [.constant RX11 411 1000000, .code yX11_within cX11_within 3 (some .boolean), .methodLink RX11 58 yX11_within, .static yX11_within, .initialized RX11, .code yX11_needNumbers cX11_needNumbers 1 none, .classLink RX11 547 "java/lang/IllegalArgumentException", .initialized "java/lang/IllegalArgumentException", .methodLink RX11 62 yX11_needNumbers, .static yX11_needNumbers, .constant RX11 96 100000, .fieldLink RX11 43 "SeaLand" "plans" "LSeaLand$Plans;", .code yX5_addJob cX5_addJob 5 (some .int), .fieldLink RX5 29 "SeaLand$Plans" "costs" "[I", .fieldLink RX5 154 "SeaLand$Plans" "jobs" "I", .fieldLink RX5 32 "SeaLand$Plans" "lasts" "[I", .fieldLink RX5 35 "SeaLand$Plans" "incomes" "[I", .fieldLink RX5 38 "SeaLand$Plans" "acres" "[I", .methodLink RX11 481 yX5_addJob, .instanceMethod yX5_addJob, .selects RX5 yX5_addJob yX5_addJob, .initialized RX5] bs2)
set_option maxHeartbeats 4000000 in
set_option maxRecDepth 100000 in
theorem c_jobE (l : Launch) (hlt : l.stackTraces = false) (dC : Nat → ClassId) (dI : Nat → Nat → Nat) (kA : Nat → ClassId) (adK adV : Nat → Nat) (G : gT) (H0 : Heap) (nC nS : Int) (o0 : Nat) (p0 : Int32) (p1 : Int32) (p2 : Int32) (p3 : Int32) (pl : Nat) (jn : Int32)  (hT : gH (dC, dI) kA (SHc nC nS) G H0) (hr_o0 : G o0 = some 14) (hm_pl : el H0 o0 (dI 14 5) = some (.ref pl)) (hr_pl : G pl = some 8) (hm_jn : el H0 pl (dI 8 15) = some (.int jn)) (hq0 : 0 ≤ jn.toInt ∧ jn.toInt ≤ 7) (hgC : 0 ≤ nC ∧ nC ≤ 40) (hgS : 0 ≤ nS ∧ nS ≤ 60) : vx_Met l yX11_job w_c_jobE ({ frames := 7, cells := 1, slots := 6, locals := 120 }) (va_Pc [.ref o0, .int p0, .int p1, .int p2, .int p3] (fun U => U.heap = H0 ∧ va_K (dC, dI) vwCl (tyl kA) U ∧ EVC adK adV (gA G H0.size) U U.heap)) (va_Qi (fun (r : Int32) (u : Int32) => (-1 ≤ r.toInt ∧ r.toInt ≤ 7) ∧ ((0 ≤ p0.toInt ∧ p0.toInt ≤ 1000000 ∧ 1 ≤ p1.toInt ∧ p1.toInt ≤ 20 ∧ 0 ≤ p2.toInt ∧ p2.toInt ≤ 100000 ∧ 0 ≤ p3.toInt ∧ p3.toInt ≤ 1000) ∧ ((jn.toInt = 7 ∧ r.toInt = -1 ∧ u.toInt = 7) ∨ (jn.toInt < 7 ∧ r.toInt = jn.toInt + 1 ∧ u.toInt = jn.toInt + 1)))) (fun (j1 : Int32) (t : State) => gH (dC, dI) kA (SHc nC nS) G t.heap ∧ gF (dC, dI) SKc G ([(8, 15), (63, 0), (64, 0), (65, 0), (66, 0)] : List (Nat × Nat)) H0 t.heap ∧ el t.heap pl (dI 8 15) = some (.int j1)) (gA G H0.size)) (vx_X (fun _ : Unit => True) (fun E _ t => (E = "java/lang/IllegalArgumentException") ∧ (¬ (0 ≤ p0.toInt ∧ p0.toInt ≤ 1000000 ∧ 1 ≤ p1.toInt ∧ p1.toInt ≤ 20 ∧ 0 ≤ p2.toInt ∧ p2.toInt ≤ 100000 ∧ 0 ≤ p3.toInt ∧ p3.toInt ≤ 1000)) ∧ gH (dC, dI) kA (SHc nC nS) G t.heap ∧ gF (dC, dI) SKc G ([(8, 15), (63, 0), (64, 0), (65, 0), (66, 0)] : List (Nat × Nat)) H0 t.heap ∧ el t.heap pl (dI 8 15) = some (.int jn)) (gA G H0.size)) 1 6 (gA G H0.size) := by
  refine vx_ofW (cc := cX11_job) (maxL := 5) (ret := (some .int)) (by decide) rfl ?_
  intro p e s m args below meth c s₁ B hml hnt hv
  obtain ⟨rfl, hH0, hK, hE⟩ := hv
  have hx := B.exec
  have hb := B.bytes
  have hr := B.returns
  have hts := atoms_spec (ws := w_c_jobE) B.pre
  have hown : s.vm.findClass RX11 = some m.cls := findClass_of_methodNamed B.named
  have hlocks := B.notSynchronized
  subst hH0
  generalize hAe : gA G s.heap.size = A at hE ⊢
  have hA : ∀ q : Nat, s.heap.size ≤ q → A q := fun q h => by rw [← hAe]; exact Or.inr h
  have hG := gA_of hAe
  have hS : va_S A s.heap s.heap [] := va_S.rf
  have hF : gF (dC, dI) SKc G ([(8, 15), (63, 0), (64, 0), (65, 0), (66, 0)] : List (Nat × Nat)) s.heap s.heap := gF.rf
  have hl := lv_entry ([.ref o0, .int p0, .int p1, .int p2, .int p3]) (n := 5) (Nat.le_of_ble_eq_true rfl)
  rw [lg_entry_eq]
  generalize (lg_sl ([.ref o0, .int p0, .int p1, .int p2, .int p3]) ++ List.replicate (5 - (lg_sl ([.ref o0, .int p0, .int p1, .int p2, .int p3])).length) Slot.unset).toArray = ls at hl ⊢
  have hl : lv_has ls 5 [(0, .ref o0), (1, .int p0), (2, .int p1), (3, .int p2), (4, .int p3)] := hl
  refine lv_iload_n hx hb dX11_job_0 rfl (lv_at hl 1 rfl) ?_
  refine lv_iconst (v := 0) hx hb dX11_job_1 (by decide) ?_
  refine lv_ldcw (v := 1000000) hx hb hown (ht_at2 hts 0 rfl) dX11_job_2 ?_
  have hFc := gA_free hG hA hS
  refine va_calli (va_runS (As := [.int p0, .int 0, .int 1000000]) (rest := []) ⟨hx, hb, hml, hown, hts⟩ (c_within l dC dI kA adK adV G s.heap nC nS p0 0 1000000 hT (by omega) (by omega)) (va_cwS 3 hts (goodIn_app (goodIn_r _ [3, 4, 5] rfl (by decide +kernel)) (goodIn_ca (goodIn_r _ [2] rfl (by decide +kernel)) (bs2_in _ _))) rfl rfl rfl (by decide +kernel) ⟨(Nat.le_of_ble_eq_true rfl), (Nat.le_of_ble_eq_true rfl)⟩) ⟨fun a U g mk q => by obtain ⟨q0, q1, qK, qE⟩ := q; exact ⟨q0, q1, va_K.moved (u := U) (U := U.calling g mk a) (Vm.Alike.refl U.vm) qK, EVC.blind g mk a qE⟩, fun U hU hW => ⟨rfl, hU, va_K.moved hW.alike hK, hE.call hS hFc hU hW⟩⟩ rfl rfl hl.1 rfl (lv_room (Nat.le_of_ble_eq_true rfl)) dX11_job_5 ⟨(Nat.le_of_ble_eq_true rfl), (Nat.le_of_ble_eq_true rfl)⟩) hS (fun q _ h => hFc q h) hFc (fun r1 u t H locs ht hvm hw2 hB _ _ hS => ?_)
  obtain ⟨hT, hF1⟩ := hB
  rw [ht] at hT hF1
  have m3 := (hF1.fld hr_o0 skc_14 (k := 5) (by decide) (by decide)).trans hm_pl
  have m4 := (hF1.fld hr_pl skc_8 (k := 15) (by decide) (by decide)).trans hm_jn
  have hF := hF.more hF1 (by decide)
  try dsimp only at hw2
  obtain ⟨h5, hi6, hi7⟩ := hw2
  refine lv_if_eq (tgt := 47) hx hb dX11_job_8 (by decide) (fun c8 => ?_) (fun c8 => ?_)
  · have t9 : r1.toInt = 0 := ti_eq c8 rfl (by decide)
    have t10 : (0 : Int32).toInt = 0 := by decide
    have t11 : (1000000 : Int32).toInt = 1000000 := by decide
    have t12 : p0.toInt < (0 : Int32).toInt ∨ (1000000 : Int32).toInt < p0.toInt := hi7 c8
    refine lv_iconst (v := 0) hx hb dX11_job_47 (by decide) ?_
    have hFc := gA_free hG hA hS
    refine vx_callN (vx_runS (As := [.int 0]) (rest := []) ⟨hx, hb, hml, hown, hts⟩ (c_needNumbers0 l hlt dC dI kA adK adV G H nC nS hT (by omega) (by omega)) (va_cwS 1 hts (goodIn_app (goodIn_r _ [9, 10, 5] rfl (by decide +kernel)) (goodIn_ca (goodIn_r _ [6, 7, 8] rfl (by decide +kernel)) (bs2_in _ _))) rfl rfl rfl (by decide +kernel) ⟨(Nat.le_of_ble_eq_true rfl), (Nat.le_of_ble_eq_true rfl)⟩) ⟨fun a U g mk q => by obtain ⟨q0, q1, qK, qE⟩ := q; exact ⟨q0, q1, va_K.moved (u := U) (U := U.calling g mk a) (Vm.Alike.refl U.vm) qK, EVC.blind g mk a qE⟩, fun U hU hW => ⟨rfl, hU, va_K.moved hW.alike hK, hE.call hS hFc hU hW⟩⟩ rfl rfl hl.1 rfl (lv_room (Nat.le_of_ble_eq_true rfl)) dX11_job_48 ⟨(Nat.le_of_ble_eq_true rfl), (Nat.le_of_ble_eq_true rfl)⟩) hS hFc (fun q _ h => hFc q h) (fun E ce q9 u t H locs ht hvm _ hw14 _ _ hS hce hcv hcl => ?_)
    obtain ⟨hw14, hTx, hFx⟩ := hw14; rw [ht] at hTx hFx
    exact vx_out (fun x h => (hnt x h).elim) hlocks hce hcv hcl (fun t2 h2 hW => ⟨(), trivial, ⟨((fun h9 => h9) hw14), (by first | omega | exact hxf.elim), by rw [h2]; exact hTx, by rw [h2]; exact hF.more hFx (by decide), by rw [h2]; exact (hFx.fld hr_pl skc_8 (k := 15) (by decide) (by decide)).trans m4⟩, hS.F h2⟩) hS.2.2 (by decide) (by decide)
  · have t15 : r1.toInt ≠ 0 := ti_ne c8 rfl (by decide)
    have t16 : (0 : Int32).toInt = 0 := by decide
    have t17 : (1000000 : Int32).toInt = 1000000 := by decide
    have t18 : (0 : Int32).toInt ≤ p0.toInt ∧ p0.toInt ≤ (1000000 : Int32).toInt := hi6 ((bit_of ⟨by omega, by omega⟩).resolve_left c8)
    refine lv_iload_n hx hb dX11_job_11 rfl (lv_at hl 2 rfl) ?_
    refine lv_iconst (v := 1) hx hb dX11_job_12 (by decide) ?_
    refine lv_bipush (v := 20) hx hb dX11_job_13 (by decide) ?_
    have hFc := gA_free hG hA hS
    refine va_calli (va_runS (As := [.int p1, .int 1, .int 20]) (rest := []) ⟨hx, hb, hml, hown, hts⟩ (c_within l dC dI kA adK adV G H nC nS p1 1 20 hT (by omega) (by omega)) (va_cwS 3 hts (goodIn_app (goodIn_r _ [3, 4, 5] rfl (by decide +kernel)) (goodIn_ca (goodIn_r _ [2] rfl (by decide +kernel)) (bs2_in _ _))) rfl rfl rfl (by decide +kernel) ⟨(Nat.le_of_ble_eq_true rfl), (Nat.le_of_ble_eq_true rfl)⟩) ⟨fun a U g mk q => by obtain ⟨q0, q1, qK, qE⟩ := q; exact ⟨q0, q1, va_K.moved (u := U) (U := U.calling g mk a) (Vm.Alike.refl U.vm) qK, EVC.blind g mk a qE⟩, fun U hU hW => ⟨rfl, hU, va_K.moved hW.alike hK, hE.call hS hFc hU hW⟩⟩ rfl rfl hl.1 rfl (lv_room (Nat.le_of_ble_eq_true rfl)) dX11_job_15 ⟨(Nat.le_of_ble_eq_true rfl), (Nat.le_of_ble_eq_true rfl)⟩) hS (fun q _ h => hFc q h) hFc (fun r19 u t H locs ht hvm hw20 hB _ _ hS => ?_)
    obtain ⟨hT, hF1⟩ := hB
    rw [ht] at hT hF1
    have m21 := (hF1.fld hr_o0 skc_14 (k := 5) (by decide) (by decide)).trans m3
    have m22 := (hF1.fld hr_pl skc_8 (k := 15) (by decide) (by decide)).trans m4
    have hF := hF.more hF1 (by decide)
    try dsimp only at hw20
    obtain ⟨h23, hi24, hi25⟩ := hw20
    refine lv_if_eq (tgt := 47) hx hb dX11_job_18 (by decide) (fun c26 => ?_) (fun c26 => ?_)
    · have t27 : r19.toInt = 0 := ti_eq c26 rfl (by decide)
      have t28 : (1 : Int32).toInt = 1 := by decide
      have t29 : (20 : Int32).toInt = 20 := by decide
      have t30 : p1.toInt < (1 : Int32).toInt ∨ (20 : Int32).toInt < p1.toInt := hi25 c26
      refine lv_iconst (v := 0) hx hb dX11_job_47 (by decide) ?_
      have hFc := gA_free hG hA hS
      refine vx_callN (vx_runS (As := [.int 0]) (rest := []) ⟨hx, hb, hml, hown, hts⟩ (c_needNumbers0 l hlt dC dI kA adK adV G H nC nS hT (by omega) (by omega)) (va_cwS 1 hts (goodIn_app (goodIn_r _ [9, 10, 5] rfl (by decide +kernel)) (goodIn_ca (goodIn_r _ [6, 7, 8] rfl (by decide +kernel)) (bs2_in _ _))) rfl rfl rfl (by decide +kernel) ⟨(Nat.le_of_ble_eq_true rfl), (Nat.le_of_ble_eq_true rfl)⟩) ⟨fun a U g mk q => by obtain ⟨q0, q1, qK, qE⟩ := q; exact ⟨q0, q1, va_K.moved (u := U) (U := U.calling g mk a) (Vm.Alike.refl U.vm) qK, EVC.blind g mk a qE⟩, fun U hU hW => ⟨rfl, hU, va_K.moved hW.alike hK, hE.call hS hFc hU hW⟩⟩ rfl rfl hl.1 rfl (lv_room (Nat.le_of_ble_eq_true rfl)) dX11_job_48 ⟨(Nat.le_of_ble_eq_true rfl), (Nat.le_of_ble_eq_true rfl)⟩) hS hFc (fun q _ h => hFc q h) (fun E ce q9 u t H locs ht hvm _ hw32 _ _ hS hce hcv hcl => ?_)
      obtain ⟨hw32, hTx, hFx⟩ := hw32; rw [ht] at hTx hFx
      exact vx_out (fun x h => (hnt x h).elim) hlocks hce hcv hcl (fun t2 h2 hW => ⟨(), trivial, ⟨((fun h9 => h9) hw32), (by first | omega | exact hxf.elim), by rw [h2]; exact hTx, by rw [h2]; exact hF.more hFx (by decide), by rw [h2]; exact (hFx.fld hr_pl skc_8 (k := 15) (by decide) (by decide)).trans m22⟩, hS.F h2⟩) hS.2.2 (by decide) (by decide)
    · have t33 : r19.toInt ≠ 0 := ti_ne c26 rfl (by decide)
      have t34 : (1 : Int32).toInt = 1 := by decide
      have t35 : (20 : Int32).toInt = 20 := by decide
      have t36 : (1 : Int32).toInt ≤ p1.toInt ∧ p1.toInt ≤ (20 : Int32).toInt := hi24 ((bit_of ⟨by omega, by omega⟩).resolve_left c26)
      refine lv_iload_n hx hb dX11_job_21 rfl (lv_at hl 3 rfl) ?_
      refine lv_iconst (v := 0) hx hb dX11_job_22 (by decide) ?_
      refine lv_ldc (v := 100000) hx hb hown (ht_at2 hts 10 rfl) dX11_job_23 ?_
      have hFc := gA_free hG hA hS
      refine va_calli (va_runS (As := [.int p2, .int 0, .int 100000]) (rest := []) ⟨hx, hb, hml, hown, hts⟩ (c_within l dC dI kA adK adV G H nC nS p2 0 100000 hT (by omega) (by omega)) (va_cwS 3 hts (goodIn_app (goodIn_r _ [3, 4, 5] rfl (by decide +kernel)) (goodIn_ca (goodIn_r _ [2] rfl (by decide +kernel)) (bs2_in _ _))) rfl rfl rfl (by decide +kernel) ⟨(Nat.le_of_ble_eq_true rfl), (Nat.le_of_ble_eq_true rfl)⟩) ⟨fun a U g mk q => by obtain ⟨q0, q1, qK, qE⟩ := q; exact ⟨q0, q1, va_K.moved (u := U) (U := U.calling g mk a) (Vm.Alike.refl U.vm) qK, EVC.blind g mk a qE⟩, fun U hU hW => ⟨rfl, hU, va_K.moved hW.alike hK, hE.call hS hFc hU hW⟩⟩ rfl rfl hl.1 rfl (lv_room (Nat.le_of_ble_eq_true rfl)) dX11_job_25 ⟨(Nat.le_of_ble_eq_true rfl), (Nat.le_of_ble_eq_true rfl)⟩) hS (fun q _ h => hFc q h) hFc (fun r37 u t H locs ht hvm hw38 hB _ _ hS => ?_)
      obtain ⟨hT, hF1⟩ := hB
      rw [ht] at hT hF1
      have m39 := (hF1.fld hr_o0 skc_14 (k := 5) (by decide) (by decide)).trans m21
      have m40 := (hF1.fld hr_pl skc_8 (k := 15) (by decide) (by decide)).trans m22
      have hF := hF.more hF1 (by decide)
      try dsimp only at hw38
      obtain ⟨h41, hi42, hi43⟩ := hw38
      refine lv_if_eq (tgt := 47) hx hb dX11_job_28 (by decide) (fun c44 => ?_) (fun c44 => ?_)
      · have t45 : r37.toInt = 0 := ti_eq c44 rfl (by decide)
        have t46 : (0 : Int32).toInt = 0 := by decide
        have t47 : (100000 : Int32).toInt = 100000 := by decide
        have t48 : p2.toInt < (0 : Int32).toInt ∨ (100000 : Int32).toInt < p2.toInt := hi43 c44
        refine lv_iconst (v := 0) hx hb dX11_job_47 (by decide) ?_
        have hFc := gA_free hG hA hS
        refine vx_callN (vx_runS (As := [.int 0]) (rest := []) ⟨hx, hb, hml, hown, hts⟩ (c_needNumbers0 l hlt dC dI kA adK adV G H nC nS hT (by omega) (by omega)) (va_cwS 1 hts (goodIn_app (goodIn_r _ [9, 10, 5] rfl (by decide +kernel)) (goodIn_ca (goodIn_r _ [6, 7, 8] rfl (by decide +kernel)) (bs2_in _ _))) rfl rfl rfl (by decide +kernel) ⟨(Nat.le_of_ble_eq_true rfl), (Nat.le_of_ble_eq_true rfl)⟩) ⟨fun a U g mk q => by obtain ⟨q0, q1, qK, qE⟩ := q; exact ⟨q0, q1, va_K.moved (u := U) (U := U.calling g mk a) (Vm.Alike.refl U.vm) qK, EVC.blind g mk a qE⟩, fun U hU hW => ⟨rfl, hU, va_K.moved hW.alike hK, hE.call hS hFc hU hW⟩⟩ rfl rfl hl.1 rfl (lv_room (Nat.le_of_ble_eq_true rfl)) dX11_job_48 ⟨(Nat.le_of_ble_eq_true rfl), (Nat.le_of_ble_eq_true rfl)⟩) hS hFc (fun q _ h => hFc q h) (fun E ce q9 u t H locs ht hvm _ hw50 _ _ hS hce hcv hcl => ?_)
        obtain ⟨hw50, hTx, hFx⟩ := hw50; rw [ht] at hTx hFx
        exact vx_out (fun x h => (hnt x h).elim) hlocks hce hcv hcl (fun t2 h2 hW => ⟨(), trivial, ⟨((fun h9 => h9) hw50), (by first | omega | exact hxf.elim), by rw [h2]; exact hTx, by rw [h2]; exact hF.more hFx (by decide), by rw [h2]; exact (hFx.fld hr_pl skc_8 (k := 15) (by decide) (by decide)).trans m40⟩, hS.F h2⟩) hS.2.2 (by decide) (by decide)
      · have t51 : r37.toInt ≠ 0 := ti_ne c44 rfl (by decide)
        have t52 : (0 : Int32).toInt = 0 := by decide
        have t53 : (100000 : Int32).toInt = 100000 := by decide
        have t54 : (0 : Int32).toInt ≤ p2.toInt ∧ p2.toInt ≤ (100000 : Int32).toInt := hi42 ((bit_of ⟨by omega, by omega⟩).resolve_left c44)
        refine lv_iload hx hb dX11_job_31 (lv_at hl 4 rfl) ?_
        refine lv_iconst (v := 0) hx hb dX11_job_33 (by decide) ?_
        refine lv_sipush (v := 1000) hx hb dX11_job_34 (by decide) ?_
        have hFc := gA_free hG hA hS
        refine va_calli (va_runS (As := [.int p3, .int 0, .int 1000]) (rest := []) ⟨hx, hb, hml, hown, hts⟩ (c_within l dC dI kA adK adV G H nC nS p3 0 1000 hT (by omega) (by omega)) (va_cwS 3 hts (goodIn_app (goodIn_r _ [3, 4, 5] rfl (by decide +kernel)) (goodIn_ca (goodIn_r _ [2] rfl (by decide +kernel)) (bs2_in _ _))) rfl rfl rfl (by decide +kernel) ⟨(Nat.le_of_ble_eq_true rfl), (Nat.le_of_ble_eq_true rfl)⟩) ⟨fun a U g mk q => by obtain ⟨q0, q1, qK, qE⟩ := q; exact ⟨q0, q1, va_K.moved (u := U) (U := U.calling g mk a) (Vm.Alike.refl U.vm) qK, EVC.blind g mk a qE⟩, fun U hU hW => ⟨rfl, hU, va_K.moved hW.alike hK, hE.call hS hFc hU hW⟩⟩ rfl rfl hl.1 rfl (lv_room (Nat.le_of_ble_eq_true rfl)) dX11_job_37 ⟨(Nat.le_of_ble_eq_true rfl), (Nat.le_of_ble_eq_true rfl)⟩) hS (fun q _ h => hFc q h) hFc (fun r55 u t H locs ht hvm hw56 hB _ _ hS => ?_)
        obtain ⟨hT, hF1⟩ := hB
        rw [ht] at hT hF1
        have m57 := (hF1.fld hr_o0 skc_14 (k := 5) (by decide) (by decide)).trans m39
        have m58 := (hF1.fld hr_pl skc_8 (k := 15) (by decide) (by decide)).trans m40
        have hF := hF.more hF1 (by decide)
        try dsimp only at hw56
        obtain ⟨h59, hi60, hi61⟩ := hw56
        refine lv_if_eq (tgt := 47) hx hb dX11_job_40 (by decide) (fun c62 => ?_) (fun c62 => ?_)
        · have t63 : r55.toInt = 0 := ti_eq c62 rfl (by decide)
          have t64 : (0 : Int32).toInt = 0 := by decide
          have t65 : (1000 : Int32).toInt = 1000 := by decide
          have t66 : p3.toInt < (0 : Int32).toInt ∨ (1000 : Int32).toInt < p3.toInt := hi61 c62
          refine lv_iconst (v := 0) hx hb dX11_job_47 (by decide) ?_
          have hFc := gA_free hG hA hS
          refine vx_callN (vx_runS (As := [.int 0]) (rest := []) ⟨hx, hb, hml, hown, hts⟩ (c_needNumbers0 l hlt dC dI kA adK adV G H nC nS hT (by omega) (by omega)) (va_cwS 1 hts (goodIn_app (goodIn_r _ [9, 10, 5] rfl (by decide +kernel)) (goodIn_ca (goodIn_r _ [6, 7, 8] rfl (by decide +kernel)) (bs2_in _ _))) rfl rfl rfl (by decide +kernel) ⟨(Nat.le_of_ble_eq_true rfl), (Nat.le_of_ble_eq_true rfl)⟩) ⟨fun a U g mk q => by obtain ⟨q0, q1, qK, qE⟩ := q; exact ⟨q0, q1, va_K.moved (u := U) (U := U.calling g mk a) (Vm.Alike.refl U.vm) qK, EVC.blind g mk a qE⟩, fun U hU hW => ⟨rfl, hU, va_K.moved hW.alike hK, hE.call hS hFc hU hW⟩⟩ rfl rfl hl.1 rfl (lv_room (Nat.le_of_ble_eq_true rfl)) dX11_job_48 ⟨(Nat.le_of_ble_eq_true rfl), (Nat.le_of_ble_eq_true rfl)⟩) hS hFc (fun q _ h => hFc q h) (fun E ce q9 u t H locs ht hvm _ hw68 _ _ hS hce hcv hcl => ?_)
          obtain ⟨hw68, hTx, hFx⟩ := hw68; rw [ht] at hTx hFx
          exact vx_out (fun x h => (hnt x h).elim) hlocks hce hcv hcl (fun t2 h2 hW => ⟨(), trivial, ⟨((fun h9 => h9) hw68), (by first | omega | exact hxf.elim), by rw [h2]; exact hTx, by rw [h2]; exact hF.more hFx (by decide), by rw [h2]; exact (hFx.fld hr_pl skc_8 (k := 15) (by decide) (by decide)).trans m58⟩, hS.F h2⟩) hS.2.2 (by decide) (by decide)
        · have t69 : r55.toInt ≠ 0 := ti_ne c62 rfl (by decide)
          have t70 : (0 : Int32).toInt = 0 := by decide
          have t71 : (1000 : Int32).toInt = 1000 := by decide
          have t72 : (0 : Int32).toInt ≤ p3.toInt ∧ p3.toInt ≤ (1000 : Int32).toInt := hi60 ((bit_of ⟨by omega, by omega⟩).resolve_left c62)
          refine lv_iconst (v := 1) hx hb dX11_job_43 (by decide) ?_
          refine lv_goto (tgt := 48) hx hb dX11_job_44 (by decide) ?_
          have hFc := gA_free hG hA hS
          refine vx_callv (vx_runS (As := [.int 1]) (rest := []) ⟨hx, hb, hml, hown, hts⟩ (c_needNumbers1X l hlt dC dI kA adK adV G H nC nS hT (by omega) (by omega)) (va_cwS 1 hts (goodIn_app (goodIn_r _ [9, 10, 5] rfl (by decide +kernel)) (goodIn_ca (goodIn_r _ [6] rfl (by decide +kernel)) (bs2_in _ _))) rfl rfl rfl (by decide +kernel) ⟨(Nat.le_of_ble_eq_true rfl), (Nat.le_of_ble_eq_true rfl)⟩) ⟨fun a U g mk q => by obtain ⟨q0, q1, qK, qE⟩ := q; exact ⟨q0, q1, va_K.moved (u := U) (U := U.calling g mk a) (Vm.Alike.refl U.vm) qK, EVC.blind g mk a qE⟩, fun U hU hW => ⟨rfl, hU, va_K.moved hW.alike hK, hE.call hS hFc hU hW⟩⟩ rfl rfl hl.1 rfl (lv_room (Nat.le_of_ble_eq_true rfl)) dX11_job_48 ⟨(Nat.le_of_ble_eq_true rfl), (Nat.le_of_ble_eq_true rfl)⟩) hS (fun q _ h => hFc q h) hFc (fun q _ h => hFc q h) (fun E ce q9 u t H locs ht hvm _ hw74 _ _ hS hce hcv hcl => ?_) (fun u t H locs ht hvm hw74 hB _ _ hS => ?_)
          · obtain ⟨hw74, hxf, hTx, hFx⟩ := hw74; rw [ht] at hTx hFx
            exact vx_out (fun x h => (hnt x h).elim) hlocks hce hcv hcl (fun t2 h2 hW => ⟨(), trivial, ⟨((fun h9 => h9) hw74), (by first | omega | exact hxf.elim), by rw [h2]; exact hTx, by rw [h2]; exact hF.more hFx (by decide), by rw [h2]; exact (hFx.fld hr_pl skc_8 (k := 15) (by decide) (by decide)).trans m58⟩, hS.F h2⟩) hS.2.2 (by decide) (by decide)
          · obtain ⟨hT, hF1⟩ := hB
            rw [ht] at hT hF1
            have m75 := (hF1.fld hr_o0 skc_14 (k := 5) (by decide) (by decide)).trans m57
            have m76 := (hF1.fld hr_pl skc_8 (k := 15) (by decide) (by decide)).trans m58
            have hF := hF.more hF1 (by decide)
            try dsimp only at hw74
            refine lv_aload_n hx hb dX11_job_51 rfl (lv_at hl 0 rfl) ?_
            refine tw_getM (v := .ref pl) hx hb hts bF2_X11 hown hK hT hr_o0 shc_14 rfl 5 (by decide) (ht_at2 hts 11 rfl) (fun _ h9 => h9) m75 dX11_job_52 ?_
            refine tw_getNM (v := .int jn) hx hb hts bF2_X5 hown hK hT hr_pl shc_8 rfl 15 (by decide) (hE.nw 47 rfl) (fun _ h9 => h9) m76 dX11_job_55 ?_
            refine lv_bipush (v := 7) hx hb dX11_job_58 (by decide) ?_
            refine lv_icmp_ne (tgt := 67) hx hb dX11_job_60 (by decide) (fun c77 => ?_) (fun c77 => ?_)
            · have t78 : jn.toInt ≠ 7 := ti_ne c77 rfl (by decide)
              refine lv_aload_n hx hb dX11_job_67 rfl (lv_at hl 0 rfl) ?_
              refine tw_getM (v := .ref pl) hx hb hts bF2_X11 hown hK hT hr_o0 shc_14 rfl 5 (by decide) (ht_at2 hts 11 rfl) (fun _ h9 => h9) m75 dX11_job_68 ?_
              refine lv_iload_n hx hb dX11_job_71 rfl (lv_at hl 1 rfl) ?_
              refine lv_iload_n hx hb dX11_job_72 rfl (lv_at hl 2 rfl) ?_
              refine lv_iload_n hx hb dX11_job_73 rfl (lv_at hl 3 rfl) ?_
              refine lv_iload hx hb dX11_job_74 (lv_at hl 4 rfl) ?_
              have hFc := gA_free hG hA hS
              refine va_calli (va_runV (As := [.int p0, .int p1, .int p2, .int p3]) (rest := []) ⟨hx, hb, hml, hown, hts⟩ (c_addJobE l dC dI kA adK adV G H nC nS pl p0 p1 p2 p3 jn hT hr_pl m76 (rg_t (a := jn.toInt) rfl (by have q8 := ti_all jn; omega) (by have q8 := ti_all jn; omega)) (by omega) (by omega)) (cwV 4 hts (goodIn_app (goodIn_r _ [19, 20, 21, 22] rfl (by decide +kernel)) (goodIn_ca (goodIn_r _ [13, 14, 15, 16, 17, 18] rfl (by decide +kernel)) (bs2_in _ _))) rfl rfl rfl (by decide +kernel) ⟨(Nat.le_of_ble_eq_true rfl), (Nat.le_of_ble_eq_true rfl)⟩) ⟨fun a U g mk q => by obtain ⟨q0, q1, qK, qE⟩ := q; exact ⟨q0, q1, va_K.moved (u := U) (U := U.calling g mk a) (Vm.Alike.refl U.vm) qK, EVC.blind g mk a qE⟩, gH_recv hK hT hr_pl shc_8 rfl, fun U hU hW => ⟨rfl, hU, va_K.moved hW.alike hK, hE.call hS hFc hU hW⟩⟩ rfl rfl hl.1 rfl (lv_room (Nat.le_of_ble_eq_true rfl)) dX11_job_76 ⟨(Nat.le_of_ble_eq_true rfl), (Nat.le_of_ble_eq_true rfl)⟩) hS (fun q _ h => hFc q h) hFc (fun r79 u t H locs ht hvm hw80 hB _ _ hS => ?_)
              obtain ⟨u81, rfl⟩ : ∃ z, z = u := ⟨_, rfl⟩
              obtain ⟨hT, hF1, m82⟩ := hB
              rw [ht] at hT hF1 m82
              have m83 := (hF1.fld hr_o0 skc_14 (k := 5) (by decide) (by decide)).trans m75
              have hF := hF.more hF1 (by decide)
              try dsimp only at hw80
              obtain ⟨h85, hf86⟩ := hw80
              refine W.widen (k := 1) (n := 6) (by decide) (by decide) ?_
              exact vx_ret (W.iret (v := r79) hx hb hr (fun t ht hW => ⟨⟨r79, u81, rfl, (by exact ⟨(rg_t (a := r79.toInt) rfl (by have q8 := ti_all r79; omega) (by have q8 := ti_all r79; omega)), (by omega)⟩), by (try dsimp only); rw [ht]; exact ⟨hT, hF, m82⟩⟩, hS.F ht⟩) hS.2.2 dX11_job_79)
            · have t87 : jn.toInt = 7 := ti_eq c77 rfl (by decide)
              refine lv_iconst (v := (-1)) hx hb dX11_job_63 (by decide) ?_
              refine lv_goto (tgt := 79) hx hb dX11_job_64 (by decide) ?_
              refine W.widen (k := 1) (n := 6) (by decide) (by decide) ?_
              exact vx_ret (W.iret (v := (-1)) hx hb hr (fun t ht hW => ⟨⟨(-1), jn, rfl, (by exact ⟨(rg_t (a := (-1)) (by decide) (by omega) (by omega)), (by have : (-1 : Int32).toInt = (-1) := (by decide); omega)⟩), by (try dsimp only); rw [ht]; exact ⟨hT, hF, m76⟩⟩, hS.F ht⟩) hS.2.2 dX11_job_79)
def w_c_jobsE : List Cond := .code yX11_jobs cX11_jobs 2 (some .int) :: (HAppend.hAppend (α := List Cond) (β := List Cond) (γ := List Cond) [.fieldLink RX11 43 "SeaLand" "plans" "LSeaLand$Plans;"] bs2)
set_option maxHeartbeats 4000000 in
set_option maxRecDepth 100000 in
theorem c_jobsE (l : Launch) (dC : Nat → ClassId) (dI : Nat → Nat → Nat) (kA : Nat → ClassId) (adK adV : Nat → Nat) (G : gT) (H0 : Heap) (nC nS : Int) (o0 : Nat) (pl : Nat) (jn : Int32)  (hT : gH (dC, dI) kA (SHc nC nS) G H0) (hr_o0 : G o0 = some 14) (hm_pl : el H0 o0 (dI 14 5) = some (.ref pl)) (hr_pl : G pl = some 8) (hm_jn : el H0 pl (dI 8 15) = some (.int jn)) (hq0 : 0 ≤ jn.toInt ∧ jn.toInt ≤ 7) (hgC : 0 ≤ nC ∧ nC ≤ 40) (hgS : 0 ≤ nS ∧ nS ≤ 60) : Met l yX11_jobs w_c_jobsE ({ frames := 0, cells := 0, slots := 0, locals := 0 }) (va_Pc [.ref o0] (fun U => U.heap = H0 ∧ va_K (dC, dI) vwCl (tyl kA) U ∧ EVC adK adV (gA G H0.size) U U.heap)) (va_Qi (fun (r : Int32) (u : Int32) => (0 ≤ r.toInt ∧ r.toInt ≤ 7) ∧ (u.toInt = 0) ∧ (r = jn)) (fun (j1 : Int32) (t : State) => gH (dC, dI) kA (SHc nC nS) G t.heap ∧ gF (dC, dI) SKc G ([(8, 15)] : List (Nat × Nat)) H0 t.heap ∧ el t.heap pl (dI 8 15) = some (.int j1)) (gA G H0.size)) 0 0 (gA G H0.size) := by
  refine Met.ofW (cc := cX11_jobs) (maxL := 2) (ret := (some .int)) (by decide) rfl ?_
  intro p e s m args below meth c s₁ B hml hv
  obtain ⟨rfl, hH0, hK, hE⟩ := hv
  have hx := B.exec
  have hb := B.bytes
  have hr := B.returns
  have hts := atoms_spec (ws := w_c_jobsE) B.pre
  have hown : s.vm.findClass RX11 = some m.cls := findClass_of_methodNamed B.named
  have hlocks := B.notSynchronized
  subst hH0
  generalize hAe : gA G s.heap.size = A at hE ⊢
  have hA : ∀ q : Nat, s.heap.size ≤ q → A q := fun q h => by rw [← hAe]; exact Or.inr h
  have hG := gA_of hAe
  have hS : va_S A s.heap s.heap [] := va_S.rf
  have hF : gF (dC, dI) SKc G ([(8, 15)] : List (Nat × Nat)) s.heap s.heap := gF.rf
  have hl := lv_entry ([.ref o0]) (n := 2) (Nat.le_of_ble_eq_true rfl)
  rw [lg_entry_eq]
  generalize (lg_sl ([.ref o0]) ++ List.replicate (2 - (lg_sl ([.ref o0])).length) Slot.unset).toArray = ls at hl ⊢
  have hl : lv_has ls 2 [(0, .ref o0)] := hl
  refine lv_aload_n hx hb dX11_jobs_0 rfl (lv_at hl 0 rfl) ?_
  refine tw_getM (v := .ref pl) hx hb hts bF2_X11 hown hK hT hr_o0 shc_14 rfl 5 (by decide) (ht_at2 hts 0 rfl) (fun _ h9 => h9) hm_pl dX11_jobs_1 ?_
  refine tw_getNM (v := .int jn) hx hb hts bF2_X5 hown hK hT hr_pl shc_8 rfl 15 (by decide) (hE.nw 47 rfl) (fun _ h9 => h9) hm_jn dX11_jobs_4 ?_
  refine lv_istore_n (lv' := [(1, .int jn), (0, .ref o0)]) hx hb dX11_jobs_7 rfl hl (by decide) rfl (fun ls hl => ?_)
  refine lv_aload_n hx hb dX11_jobs_8 rfl (lv_at hl 1 rfl) ?_
  refine tw_getM (v := .ref pl) hx hb hts bF2_X11 hown hK hT hr_o0 shc_14 rfl 5 (by decide) (ht_at2 hts 0 rfl) (fun _ h9 => h9) hm_pl dX11_jobs_9 ?_
  refine lv_iconst (v := 0) hx hb dX11_jobs_12 (by decide) ?_
  refine tw_putN (v := .int 0) (ty := .int) hx hb hts bF2_X5 tyX5 tyX5_ok nmX5 hown hK hT hG hS hr_pl shc_8 rfl 15 (by decide) (hE.nw 47 rfl) (fun _ h9 => h9) rfl (by decide +kernel) rfl rfl (gl_at rfl (gi_of (show (0 : Int32).toInt = 0 from (by decide)) (by omega) (by omega))) dX11_jobs_13 (fun H locs hT oq m1 oj hS => ?_)
  have hF := hF.put hr_pl skc_8 oq oj (by decide)
  have m2 := (el_kept (oq _ (gne hr_o0 hr_pl (by decide)))).trans hm_pl
  refine lv_iload_n hx hb dX11_jobs_16 rfl (lv_at hl 0 rfl) ?_
  exact W.iret (v := jn) hx hb hr (fun t ht hW => ⟨⟨jn, (0 : Int32), rfl, (by exact ⟨(rg_t (a := jn.toInt) rfl (by have q8 := ti_all jn; omega) (by have q8 := ti_all jn; omega)), (by have : (0 : Int32).toInt = 0 := (by decide); omega), rfl⟩), by (try dsimp only); rw [ht]; exact ⟨hT, hF, m1⟩⟩, hS.F ht⟩) hS.2.2 dX11_jobs_17
def w_l_jobE : List Cond := .codeWith yL_job cL_job 7 (some .int) [(0, 14, 17, 15)] :: (HAppend.hAppend (α := List Cond) (β := List Cond) (γ := List Cond) [.code yX11_job cX11_job 5 (some .int), .constant RX11 411 1000000, .code yX11_within cX11_within 3 (some .boolean), .methodLink RX11 58 yX11_within, .static yX11_within, .initialized RX11, .code yX11_needNumbers cX11_needNumbers 1 none, .classLink RX11 547 "java/lang/IllegalArgumentException", .initialized "java/lang/IllegalArgumentException", .methodLink RX11 62 yX11_needNumbers, .static yX11_needNumbers, .constant RX11 96 100000, .fieldLink RX11 43 "SeaLand" "plans" "LSeaLand$Plans;", .code yX5_addJob cX5_addJob 5 (some .int), .fieldLink RX5 29 "SeaLand$Plans" "costs" "[I", .fieldLink RX5 154 "SeaLand$Plans" "jobs" "I", .fieldLink RX5 32 "SeaLand$Plans" "lasts" "[I", .fieldLink RX5 35 "SeaLand$Plans" "incomes" "[I", .fieldLink RX5 38 "SeaLand$Plans" "acres" "[I", .methodLink RX11 481 yX5_addJob, .instanceMethod yX5_addJob, .selects RX5 yX5_addJob yX5_addJob, .initialized RX5, .methodLink RL 157 yX11_job, .instanceMethod yX11_job, .selects RX11 yX11_job yX11_job, .classLink RL 15 "java/lang/IllegalArgumentException"] bs2)
set_option maxHeartbeats 4000000 in
set_option maxRecDepth 100000 in
theorem l_jobE (l : Launch) (hlt : l.stackTraces = false) (dC : Nat → ClassId) (dI : Nat → Nat → Nat) (kA : Nat → ClassId) (adK adV : Nat → Nat) (G : gT) (H0 : Heap) (nC nS : Int) (o0 : Nat) (p1 : Int32) (p2 : Int32) (p3 : Int32) (p4 : Int32) (ou : Nat) (pl : Nat) (jn : Int32) (hT : gH (dC, dI) kA (SHc nC nS) G H0) (hr_o0 : G o0 = some 14) (hr_ou : G ou = some 98) (hm_pl : el H0 o0 (dI 14 5) = some (.ref pl)) (hr_pl : G pl = some 8) (hm_jn : el H0 pl (dI 8 15) = some (.int jn)) (hq0 : 0 ≤ jn.toInt ∧ jn.toInt ≤ 7) (hgC : 0 ≤ nC ∧ nC ≤ 40) (hgS : 0 ≤ nS ∧ nS ≤ 60) : Met l yL_job w_l_jobE ({ frames := 8, cells := 1, slots := 6, locals := 144 }) (va_Pc [.ref o0, .int p1, .int p2, .int p3, .int p4, .ref ou] (fun U => U.heap = H0 ∧ va_K (dC, dI) vwCl (tyl kA) U ∧ EVC adK adV (gA G H0.size) U U.heap ∧ NC U)) (va_Qi (fun (r : Int32) (u : Int32) => (0 ≤ r.toInt ∧ r.toInt ≤ 1) ∧ ((r.toInt = 0 ∧ (0 ≤ p1.toInt ∧ p1.toInt ≤ 1000000 ∧ 1 ≤ p2.toInt ∧ p2.toInt ≤ 20 ∧ 0 ≤ p3.toInt ∧ p3.toInt ≤ 100000 ∧ 0 ≤ p4.toInt ∧ p4.toInt ≤ 1000) ∧ ((jn.toInt = 7 ∧ u.toInt = 7) ∨ (jn.toInt < 7 ∧ u.toInt = jn.toInt + 1))) ∨ (r.toInt = 1 ∧ ¬ (0 ≤ p1.toInt ∧ p1.toInt ≤ 1000000 ∧ 1 ≤ p2.toInt ∧ p2.toInt ≤ 20 ∧ 0 ≤ p3.toInt ∧ p3.toInt ≤ 100000 ∧ 0 ≤ p4.toInt ∧ p4.toInt ≤ 1000) ∧ u.toInt = jn.toInt))) (fun (j1 : Int32) (t : State) => gH (dC, dI) kA (SHc nC nS) G t.heap ∧ gF (dC, dI) SKc G ([(8, 15), (63, 0), (64, 0), (65, 0), (66, 0), (98, 0)] : List (Nat × Nat)) H0 t.heap ∧ el t.heap pl (dI 8 15) = some (.int j1)) (gA G H0.size)) 1 6 (gA G H0.size) := by
  refine va_MetW (cc := cL_job) (maxL := 7) (ret := (some .int)) (by decide) rfl ?_
  intro p e s m args below meth c s₁ B hml hv
  obtain ⟨rfl, hH0, hK, hE, hN⟩ := hv
  have hx := B.exec
  have hb := B.bytes
  have hr := B.returns
  have hts := atoms_spec (ws := w_l_jobE) B.pre
  have hown : s.vm.findClass RL = some m.cls := findClass_of_methodNamed B.named
  have hlocks := B.notSynchronized
  have htab := vx_table (x := yL_job) B (hts _ List.mem_cons_self)
  subst hH0
  generalize hAe : gA G s.heap.size = A at hE ⊢
  have hA : ∀ q : Nat, s.heap.size ≤ q → A q := fun q h => by rw [← hAe]; exact Or.inr h
  have hG := gA_of hAe
  have hS : va_S A s.heap s.heap [] := va_S.rf
  have hF : gF (dC, dI) SKc G ([(8, 15), (63, 0), (64, 0), (65, 0), (66, 0), (98, 0)] : List (Nat × Nat)) s.heap s.heap := gF.rf
  have hl := lv_entry ([.ref o0, .int p1, .int p2, .int p3, .int p4, .ref ou]) (n := 7) (Nat.le_of_ble_eq_true rfl)
  rw [lg_entry_eq]
  generalize (lg_sl ([.ref o0, .int p1, .int p2, .int p3, .int p4, .ref ou]) ++ List.replicate (7 - (lg_sl ([.ref o0, .int p1, .int p2, .int p3, .int p4, .ref ou])).length) Slot.unset).toArray = ls at hl ⊢
  have hl : lv_has ls 7 [(0, .ref o0), (1, .int p1), (2, .int p2), (3, .int p3), (4, .int p4), (5, .ref ou)] := hl
  refine lv_aload hx hb dL_job_0 (lv_at hl 5 rfl) ?_
  refine lv_iconst (v := 0) hx hb dL_job_2 (by decide) ?_
  refine lv_aload_n hx hb dL_job_3 rfl (lv_at hl 0 rfl) ?_
  refine lv_iload_n hx hb dL_job_4 rfl (lv_at hl 1 rfl) ?_
  refine lv_iload_n hx hb dL_job_5 rfl (lv_at hl 2 rfl) ?_
  refine lv_iload_n hx hb dL_job_6 rfl (lv_at hl 3 rfl) ?_
  refine lv_iload hx hb dL_job_7 (lv_at hl 4 rfl) ?_
  have hFc := gA_free hG hA hS
  refine vx_calli (vx_runV (As := [.int p1, .int p2, .int p3, .int p4]) (rest := [.int 0, .ref ou]) ⟨hx, hb, hml, hown, hts⟩ (c_jobE l hlt dC dI kA adK adV G s.heap nC nS o0 p1 p2 p3 p4 pl jn hT hr_o0 hm_pl hr_pl hm_jn (rg_t (a := jn.toInt) rfl (by have q8 := ti_all jn; omega) (by have q8 := ti_all jn; omega)) (by omega) (by omega)) (cwV 4 hts (goodIn_app (goodIn_r _ [24, 25, 26, 6] rfl (by decide +kernel)) (goodIn_ca (goodIn_r _ [1, 2, 3, 4, 5, 6, 7, 8, 9, 10, 11, 12, 13, 14, 15, 16, 17, 18, 19, 20, 21, 22, 23] rfl (by decide +kernel)) (bs2_in _ _))) rfl rfl rfl (by decide +kernel) ⟨(Nat.le_of_ble_eq_true rfl), (Nat.le_of_ble_eq_true rfl)⟩) ⟨fun a U g mk q => by obtain ⟨q0, q1, qK, qE⟩ := q; exact ⟨q0, q1, va_K.moved (u := U) (U := U.calling g mk a) (Vm.Alike.refl U.vm) qK, EVC.blind g mk a qE⟩, gH_recv hK hT hr_o0 shc_14 rfl, fun U hU hW => ⟨rfl, hU, va_K.moved hW.alike hK, hE.call hS hFc hU hW⟩⟩ rfl rfl hl.1 rfl (lv_room (Nat.le_of_ble_eq_true rfl)) dL_job_9 ⟨(Nat.le_of_ble_eq_true rfl), (Nat.le_of_ble_eq_true rfl)⟩) hS (fun q _ h => hFc q h) hFc (fun q _ h => hFc q h) (fun E ce q9 u t H locs ht hvm _ hw2 _ _ hS hce hcv hcl => ?_) (fun r1 u t H locs ht hvm hw2 hB _ _ hS => ?_)
  · obtain ⟨hw2, hxf, hTx, hFx, hxm0⟩ := hw2; rw [ht] at hTx hFx hxm0
    have hT := hTx; have hF := hF.more hFx (by decide)
    subst hw2
    refine vx_catch (E := "java/lang/IllegalArgumentException") hown [] ⟨0, 14, 17, 15⟩ [] (by rw [htab]; rfl) (fun z h => absurd h List.not_mem_nil) (by decide) (by decide) (ht_at2 hts 26 rfl) (va_Nw.use rfl (hE.1.1.2.1.2.1 _ (List.mem_of_getElem? (i := 1) rfl))) hce hcv hcl ?_
    refine lv_astore (lv' := [(6, .ref q9), (0, .ref o0), (1, .int p1), (2, .int p2), (3, .int p3), (4, .int p4), (5, .ref ou)]) hx hb dL_job_17 hl (by decide) rfl (fun ls hl => ?_)
    refine lv_iconst (v := 1) hx hb dL_job_19 (by decide) ?_
    exact W.iret (v := 1) hx hb hr (fun t ht hW => ⟨⟨1, jn, rfl, (by exact ⟨(rg_t (a := 1) (by decide) (by omega) (by omega)), (by have : (1 : Int32).toInt = 1 := (by decide); omega)⟩), by (try dsimp only); rw [ht]; exact ⟨hT, hF, hxm0⟩⟩, hS.F ht⟩) hS.2.2 dL_job_20
  · obtain ⟨u3, rfl⟩ : ∃ z, z = u := ⟨_, rfl⟩
    obtain ⟨hT, hF1, m4⟩ := hB
    rw [ht] at hT hF1 m4
    have m5 := (hF1.fld hr_o0 skc_14 (k := 5) (by decide) (by decide)).trans hm_pl
    have hF := hF.more hF1 (by decide)
    try dsimp only at hw2
    obtain ⟨h7, hf8⟩ := hw2
    refine lv_i2l (v := r1.toInt64) hx hb dL_job_12 rfl ?_
    refine tw_last (i := 0)  hx hb hK hT hG hS hr_ou shc_98 rfl (by unfold vp_in; decide) ⟨_, rfl⟩ dL_job_13 (fun H locs hT oq m9 oi hS => ?_)
    have hF := hF.ast hr_ou skc_98 oq (by decide)
    have m10 := (el_kept (oq _ (gne hr_o0 hr_ou (by decide)))).trans m5
    have m11 := (el_kept (oq _ (gne hr_pl hr_ou (by decide)))).trans m4
    refine lv_goto (tgt := 21) hx hb dL_job_14 (by decide) ?_
    refine lv_iconst (v := 0) hx hb dL_job_21 (by decide) ?_
    exact W.iret (v := 0) hx hb hr (fun t ht hW => ⟨⟨0, u3, rfl, (by exact ⟨(rg_t (a := 0) (by decide) (by omega) (by omega)), (by have : (0 : Int32).toInt = 0 := (by decide); omega)⟩), by (try dsimp only); rw [ht]; exact ⟨hT, hF, m11⟩⟩, hS.F ht⟩) hS.2.2 dL_job_22
def w_l_jobO : List Cond := .codeWith yL_job cL_job 7 (some .int) [(0, 14, 17, 15)] :: (HAppend.hAppend (α := List Cond) (β := List Cond) (γ := List Cond) [.code yX11_job cX11_job 5 (some .int), .constant RX11 411 1000000, .code yX11_within cX11_within 3 (some .boolean), .methodLink RX11 58 yX11_within, .static yX11_within, .initialized RX11, .code yX11_needNumbers cX11_needNumbers 1 none, .classLink RX11 547 "java/lang/IllegalArgumentException", .initialized "java/lang/IllegalArgumentException", .methodLink RX11 62 yX11_needNumbers, .static yX11_needNumbers, .constant RX11 96 100000, .fieldLink RX11 43 "SeaLand" "plans" "LSeaLand$Plans;", .code yX5_addJob cX5_addJob 5 (some .int), .fieldLink RX5 29 "SeaLand$Plans" "costs" "[I", .fieldLink RX5 154 "SeaLand$Plans" "jobs" "I", .fieldLink RX5 32 "SeaLand$Plans" "lasts" "[I", .fieldLink RX5 35 "SeaLand$Plans" "incomes" "[I", .fieldLink RX5 38 "SeaLand$Plans" "acres" "[I", .methodLink RX11 481 yX5_addJob, .instanceMethod yX5_addJob, .selects RX5 yX5_addJob yX5_addJob, .initialized RX5, .methodLink RL 157 yX11_job, .instanceMethod yX11_job, .selects RX11 yX11_job yX11_job, .classLink RL 15 "java/lang/IllegalArgumentException"] bs2)
set_option maxHeartbeats 4000000 in
set_option maxRecDepth 100000 in
theorem l_jobO (l : Launch) (hlt : l.stackTraces = false) (dC : Nat → ClassId) (dI : Nat → Nat → Nat) (kA : Nat → ClassId) (adK adV : Nat → Nat) (G : gT) (H0 : Heap) (nC nS : Int) (o0 : Nat) (p1 : Int32) (p2 : Int32) (p3 : Int32) (p4 : Int32) (ou : Nat) (pl : Nat) (jn : Int32) (hT : gH (dC, dI) kA (SHc nC nS) G H0) (hr_o0 : G o0 = some 14) (hr_ou : G ou = some 98) (hm_pl : el H0 o0 (dI 14 5) = some (.ref pl)) (hr_pl : G pl = some 8) (hm_jn : el H0 pl (dI 8 15) = some (.int jn)) (hq0 : 0 ≤ jn.toInt ∧ jn.toInt ≤ 7) (hgC : 0 ≤ nC ∧ nC ≤ 40) (hgS : 0 ≤ nS ∧ nS ≤ 60) : Met l yL_job w_l_jobO ({ frames := 8, cells := 1, slots := 6, locals := 144 }) (va_Pc [.ref o0, .int p1, .int p2, .int p3, .int p4, .ref ou] (fun U => U.heap = H0 ∧ va_K (dC, dI) vwCl (tyl kA) U ∧ EVC adK adV (gA G H0.size) U U.heap ∧ NC U)) (va_Qi (fun (r : Int32) (u : Int32 × Int32 × Int32) => match u with | (c1, j1, a1) => (0 ≤ r.toInt ∧ r.toInt ≤ 1) ∧ ((c1.toInt = 0 ∧ r.toInt = 0 ∧ (0 ≤ p1.toInt ∧ p1.toInt ≤ 1000000 ∧ 1 ≤ p2.toInt ∧ p2.toInt ≤ 20 ∧ 0 ≤ p3.toInt ∧ p3.toInt ≤ 100000 ∧ 0 ≤ p4.toInt ∧ p4.toInt ≤ 1000) ∧ ((jn.toInt = 7 ∧ a1.toInt = -1 ∧ j1.toInt = 7) ∨ (jn.toInt < 7 ∧ a1.toInt = jn.toInt + 1 ∧ j1.toInt = jn.toInt + 1))) ∨ (c1.toInt = 1 ∧ r.toInt = 1 ∧ ¬ (0 ≤ p1.toInt ∧ p1.toInt ≤ 1000000 ∧ 1 ≤ p2.toInt ∧ p2.toInt ≤ 20 ∧ 0 ≤ p3.toInt ∧ p3.toInt ≤ 100000 ∧ 0 ≤ p4.toInt ∧ p4.toInt ≤ 1000) ∧ j1.toInt = jn.toInt))) (fun (u : Int32 × Int32 × Int32) (t : State) => match u with | (c1, j1, a1) => gH (dC, dI) kA (SHc nC nS) G t.heap ∧ gF (dC, dI) SKc G ([(8, 15), (63, 0), (64, 0), (65, 0), (66, 0), (98, 0)] : List (Nat × Nat)) H0 t.heap ∧ el t.heap pl (dI 8 15) = some (.int j1) ∧ (c1 = 0 → el t.heap ou 0 = some (.long a1.toInt64))) (gA G H0.size)) 1 6 (gA G H0.size) := by
  refine va_MetW (cc := cL_job) (maxL := 7) (ret := (some .int)) (by decide) rfl ?_
  intro p e s m args below meth c s₁ B hml hv
  obtain ⟨rfl, hH0, hK, hE, hN⟩ := hv
  have hx := B.exec
  have hb := B.bytes
  have hr := B.returns
  have hts := atoms_spec (ws := w_l_jobO) B.pre
  have hown : s.vm.findClass RL = some m.cls := findClass_of_methodNamed B.named
  have hlocks := B.notSynchronized
  have htab := vx_table (x := yL_job) B (hts _ List.mem_cons_self)
  subst hH0
  generalize hAe : gA G s.heap.size = A at hE ⊢
  have hA : ∀ q : Nat, s.heap.size ≤ q → A q := fun q h => by rw [← hAe]; exact Or.inr h
  have hG := gA_of hAe
  have hS : va_S A s.heap s.heap [] := va_S.rf
  have hF : gF (dC, dI) SKc G ([(8, 15), (63, 0), (64, 0), (65, 0), (66, 0), (98, 0)] : List (Nat × Nat)) s.heap s.heap := gF.rf
  have hl := lv_entry ([.ref o0, .int p1, .int p2, .int p3, .int p4, .ref ou]) (n := 7) (Nat.le_of_ble_eq_true rfl)
  rw [lg_entry_eq]
  generalize (lg_sl ([.ref o0, .int p1, .int p2, .int p3, .int p4, .ref ou]) ++ List.replicate (7 - (lg_sl ([.ref o0, .int p1, .int p2, .int p3, .int p4, .ref ou])).length) Slot.unset).toArray = ls at hl ⊢
  have hl : lv_has ls 7 [(0, .ref o0), (1, .int p1), (2, .int p2), (3, .int p3), (4, .int p4), (5, .ref ou)] := hl
  refine lv_aload hx hb dL_job_0 (lv_at hl 5 rfl) ?_
  refine lv_iconst (v := 0) hx hb dL_job_2 (by decide) ?_
  refine lv_aload_n hx hb dL_job_3 rfl (lv_at hl 0 rfl) ?_
  refine lv_iload_n hx hb dL_job_4 rfl (lv_at hl 1 rfl) ?_
  refine lv_iload_n hx hb dL_job_5 rfl (lv_at hl 2 rfl) ?_
  refine lv_iload_n hx hb dL_job_6 rfl (lv_at hl 3 rfl) ?_
  refine lv_iload hx hb dL_job_7 (lv_at hl 4 rfl) ?_
  have hFc := gA_free hG hA hS
  refine vx_calli (vx_runV (As := [.int p1, .int p2, .int p3, .int p4]) (rest := [.int 0, .ref ou]) ⟨hx, hb, hml, hown, hts⟩ (c_jobE l hlt dC dI kA adK adV G s.heap nC nS o0 p1 p2 p3 p4 pl jn hT hr_o0 hm_pl hr_pl hm_jn (rg_t (a := jn.toInt) rfl (by have q8 := ti_all jn; omega) (by have q8 := ti_all jn; omega)) (by omega) (by omega)) (cwV 4 hts (goodIn_app (goodIn_r _ [24, 25, 26, 6] rfl (by decide +kernel)) (goodIn_ca (goodIn_r _ [1, 2, 3, 4, 5, 6, 7, 8, 9, 10, 11, 12, 13, 14, 15, 16, 17, 18, 19, 20, 21, 22, 23] rfl (by decide +kernel)) (bs2_in _ _))) rfl rfl rfl (by decide +kernel) ⟨(Nat.le_of_ble_eq_true rfl), (Nat.le_of_ble_eq_true rfl)⟩) ⟨fun a U g mk q => by obtain ⟨q0, q1, qK, qE⟩ := q; exact ⟨q0, q1, va_K.moved (u := U) (U := U.calling g mk a) (Vm.Alike.refl U.vm) qK, EVC.blind g mk a qE⟩, gH_recv hK hT hr_o0 shc_14 rfl, fun U hU hW => ⟨rfl, hU, va_K.moved hW.alike hK, hE.call hS hFc hU hW⟩⟩ rfl rfl hl.1 rfl (lv_room (Nat.le_of_ble_eq_true rfl)) dL_job_9 ⟨(Nat.le_of_ble_eq_true rfl), (Nat.le_of_ble_eq_true rfl)⟩) hS (fun q _ h => hFc q h) hFc (fun q _ h => hFc q h) (fun E ce q9 u t H locs ht hvm _ hw2 _ _ hS hce hcv hcl => ?_) (fun r1 u t H locs ht hvm hw2 hB _ _ hS => ?_)
  · obtain ⟨hw2, hxf, hTx, hFx, hxm0⟩ := hw2; rw [ht] at hTx hFx hxm0
    have hT := hTx; have hF := hF.more hFx (by decide)
    subst hw2
    refine vx_catch (E := "java/lang/IllegalArgumentException") hown [] ⟨0, 14, 17, 15⟩ [] (by rw [htab]; rfl) (fun z h => absurd h List.not_mem_nil) (by decide) (by decide) (ht_at2 hts 26 rfl) (va_Nw.use rfl (hE.1.1.2.1.2.1 _ (List.mem_of_getElem? (i := 1) rfl))) hce hcv hcl ?_
    refine lv_astore (lv' := [(6, .ref q9), (0, .ref o0), (1, .int p1), (2, .int p2), (3, .int p3), (4, .int p4), (5, .ref ou)]) hx hb dL_job_17 hl (by decide) rfl (fun ls hl => ?_)
    refine lv_iconst (v := 1) hx hb dL_job_19 (by decide) ?_
    exact W.iret (v := 1) hx hb hr (fun t ht hW => ⟨⟨1, ((1 : Int32), jn, (0 : Int32)), rfl, (by exact ⟨(rg_t (a := 1) (by decide) (by omega) (by omega)), (by have : (0 : Int32).toInt = 0 := (by decide); have : (1 : Int32).toInt = 1 := (by decide); omega)⟩), by (try dsimp only); rw [ht]; exact ⟨hT, hF, hxm0, (fun h => absurd h (by decide))⟩⟩, hS.F ht⟩) hS.2.2 dL_job_20
  · obtain ⟨u3, rfl⟩ : ∃ z, z = u := ⟨_, rfl⟩
    obtain ⟨hT, hF1, m4⟩ := hB
    rw [ht] at hT hF1 m4
    have m5 := (hF1.fld hr_o0 skc_14 (k := 5) (by decide) (by decide)).trans hm_pl
    have hF := hF.more hF1 (by decide)
    try dsimp only at hw2
    obtain ⟨h7, hf8⟩ := hw2
    refine lv_i2l (v := r1.toInt64) hx hb dL_job_12 rfl ?_
    refine tw_last (i := 0)  hx hb hK hT hG hS hr_ou shc_98 rfl (by unfold vp_in; decide) ⟨_, rfl⟩ dL_job_13 (fun H locs hT oq m9 oi hS => ?_)
    have hF := hF.ast hr_ou skc_98 oq (by decide)
    have m10 := (el_kept (oq _ (gne hr_o0 hr_ou (by decide)))).trans m5
    have m11 := (el_kept (oq _ (gne hr_pl hr_ou (by decide)))).trans m4
    refine lv_goto (tgt := 21) hx hb dL_job_14 (by decide) ?_
    refine lv_iconst (v := 0) hx hb dL_job_21 (by decide) ?_
    exact W.iret (v := 0) hx hb hr (fun t ht hW => ⟨⟨0, ((0 : Int32), u3, r1), rfl, (by exact ⟨(rg_t (a := 0) (by decide) (by omega) (by omega)), (by have : (0 : Int32).toInt = 0 := (by decide); omega)⟩), by (try dsimp only); rw [ht]; exact ⟨hT, hF, m11, (fun _ => m9)⟩⟩, hS.F ht⟩) hS.2.2 dL_job_22

