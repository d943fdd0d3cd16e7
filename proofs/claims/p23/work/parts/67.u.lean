def w_c_feedOneC : List Cond := .code yX11_feedOne cX11_feedOne 3 none :: (HAppend.hAppend (α := List Cond) (β := List Cond) (γ := List Cond) [.fieldLink RX11 9 "SeaLand" "tape" "[I", .fieldLink RX11 47 "SeaLand" "taped" "I"] bs2)
set_option maxHeartbeats 4000000 in
set_option maxRecDepth 100000 in
theorem c_feedOneC (l : Launch) (dC : Nat → ClassId) (dI : Nat → Nat → Nat) (kA : Nat → ClassId) (adK adV : Nat → Nat) (G : gT) (H0 : Heap) (nC nS : Int) (o0 : Nat) (nu : Int32) (tp : Int32) (ta : Nat) (vc : Nat → Int32)  (hT : gH (dC, dI) kA (SHc nC nS) G H0) (hr_o0 : G o0 = some 14) (hm_tp : el H0 o0 (dI 14 7) = some (.int tp)) (hm_ta : el H0 o0 (dI 14 0) = some (.ref ta)) (hr_ta : G ta = some 16) (hq0 : 0 ≤ tp.toInt ∧ tp.toInt ≤ 396) (hc_vc : ct H0 ta 400 vc) (hgC : 0 ≤ nC ∧ nC ≤ 40) (hgS : 0 ≤ nS ∧ nS ≤ 60) : Met l yX11_feedOne w_c_feedOneC ({ frames := 0, cells := 0, slots := 0, locals := 0 }) (va_Pc [.ref o0, .int nu] (fun U => U.heap = H0 ∧ va_K (dC, dI) vwCl (tyl kA) U ∧ EVC adK adV (gA G H0.size) U U.heap)) (va_Qv (fun (u : Int32 × (Nat → Int32)) => match u with | (t1, vc1) => (0 ≤ t1.toInt ∧ t1.toInt ≤ 400) ∧ (t1.toInt = tp.toInt + 4) ∧ (vc1 = f4U vc tp.toNatClampNeg nu)) (fun (u : Int32 × (Nat → Int32)) (t : State) => match u with | (t1, vc1) => gH (dC, dI) kA (SHc nC nS) G t.heap ∧ gF (dC, dI) SKc G ([(14, 7), (16, 0)] : List (Nat × Nat)) H0 t.heap ∧ el t.heap o0 (dI 14 7) = some (.int t1) ∧ ct t.heap ta 400 vc1) (gA G H0.size)) 0 0 (gA G H0.size) := by
  refine Met.ofW (cc := cX11_feedOne) (maxL := 3) (ret := none) (by decide) rfl ?_
  intro p e s m args below meth c s₁ B hml hv
  obtain ⟨rfl, hH0, hK, hE⟩ := hv
  have hx := B.exec
  have hb := B.bytes
  have hr := B.returns
  have hts := atoms_spec (ws := w_c_feedOneC) B.pre
  have hown : s.vm.findClass RX11 = some m.cls := findClass_of_methodNamed B.named
  have hlocks := B.notSynchronized
  subst hH0
  generalize hAe : gA G s.heap.size = A at hE ⊢
  have hA : ∀ q : Nat, s.heap.size ≤ q → A q := fun q h => by rw [← hAe]; exact Or.inr h
  have hG := gA_of hAe
  have hS : va_S A s.heap s.heap [] := va_S.rf
  have hF : gF (dC, dI) SKc G ([(14, 7), (16, 0)] : List (Nat × Nat)) s.heap s.heap := gF.rf
  have hl := lv_entry ([.ref o0, .int nu]) (n := 3) (Nat.le_of_ble_eq_true rfl)
  rw [lg_entry_eq]
  generalize (lg_sl ([.ref o0, .int nu]) ++ List.replicate (3 - (lg_sl ([.ref o0, .int nu])).length) Slot.unset).toArray = ls at hl ⊢
  have hl : lv_has ls 3 [(0, .ref o0), (1, .int nu)] := hl
  refine lv_bipush (v := 24) hx hb dX11_feedOne_0 (by decide) ?_
  refine lv_istore_n (lv' := [(2, .int 24), (0, .ref o0), (1, .int nu)]) hx hb dX11_feedOne_2 rfl hl (by decide) rfl (fun ls hl => ?_)
  refine lv_iload_n hx hb dX11_feedOne_3 rfl (lv_at hl 0 rfl) ?_
  refine lv_if_lt (tgt := 39) hx hb dX11_feedOne_4 (by decide) (fun c1 => absurd c1 (by decide)) (fun c1 => ?_)
  refine lv_aload_n hx hb dX11_feedOne_7 rfl (lv_at hl 1 rfl) ?_
  refine tw_getM (v := .ref ta) hx hb hts bF2_X11 hown hK hT hr_o0 shc_14 rfl 0 (by decide) (ht_at2 hts 0 rfl) (fun _ h9 => h9) hm_ta dX11_feedOne_8 ?_
  refine lv_aload_n hx hb dX11_feedOne_11 rfl (lv_at hl 1 rfl) ?_
  refine tw_getM (v := .int tp) hx hb hts bF2_X11 hown hK hT hr_o0 shc_14 rfl 7 (by decide) (ht_at2 hts 1 rfl) (fun _ h9 => h9) hm_tp dX11_feedOne_12 ?_
  refine lv_iload_n hx hb dX11_feedOne_15 rfl (lv_at hl 2 rfl) ?_
  refine lv_iload_n hx hb dX11_feedOne_16 rfl (lv_at hl 0 rfl) ?_
  refine lv_iushr hx hb dX11_feedOne_17 rfl ?_
  refine lv_topi (fun x2 ex2 => ?_)
  refine lv_sipush (v := 255) hx hb dX11_feedOne_18 (by decide) ?_
  refine lv_iand hx hb dX11_feedOne_21 ?_
  refine lv_topi (fun x3 ex3 => ?_)
  have t4 : 0 ≤ x3.toInt ∧ x3.toInt ≤ 255 := by rw [ex3]; exact and_nn (show (255 : Int32).toInt = 255 from (by decide)) (by omega)
  refine tw_iast (i := tp) (x := x3) hx hb hK hT hG hS hr_ta shc_16 rfl (vin_t (a := tp.toInt) rfl (by omega) (by omega)) (gi_of (show x3.toInt = x3.toInt from rfl) (by omega) (by omega)) dX11_feedOne_22 (fun H locs hT oq m5 oi hS => ?_)
  have hF := hF.ast hr_ta skc_16 oq (by decide)
  have m6 := (el_kept (oq _ (gne hr_o0 hr_ta (by decide)))).trans hm_tp
  have m7 := (el_kept (oq _ (gne hr_o0 hr_ta (by decide)))).trans hm_ta
  have m8 := hc_vc.put m5 oi
  refine lv_aload_n hx hb dX11_feedOne_23 rfl (lv_at hl 1 rfl) ?_
  refine lv_dup hx hb dX11_feedOne_24 rfl ?_
  refine tw_getM (v := .int tp) hx hb hts bF2_X11 hown hK hT hr_o0 shc_14 rfl 7 (by decide) (ht_at2 hts 1 rfl) (fun _ h9 => h9) m6 dX11_feedOne_25 ?_
  refine lv_iconst (v := 1) hx hb dX11_feedOne_28 (by decide) ?_
  refine lv_iadd hx hb dX11_feedOne_29 ?_
  refine lv_topi (fun x9 ex9 => ?_)
  have t10 : x9.toInt = tp.toInt + 1 := ti_add ex9 rfl (by decide) (by omega) (by omega)
  refine tw_put (v := .int x9) (ty := .int) hx hb hts bF2_X11 tyX11 tyX11_ok nmX11 hown hK hT hG hS hr_o0 shc_14 rfl 7 (by decide) (ht_at2 hts 1 rfl) (fun _ h9 => h9) rfl (by decide +kernel) rfl rfl (gl_at rfl (gi_of (show x9.toInt = x9.toInt from rfl) (by omega) (by omega))) dX11_feedOne_30 (fun H locs hT oq m11 oj hS => ?_)
  have hF := hF.put hr_o0 skc_14 oq oj (by decide)
  have m12 := (oj 0 (by decide) (by decide)).trans m7
  have m13 := m8.kept (oq _ (gne hr_ta hr_o0 (by decide)))
  refine lv_iinc (v := 16) (lv' := [(2, .int 16), (0, .ref o0), (1, .int nu)]) hx hb dX11_feedOne_33 hl (k := 0) rfl (by decide) (by decide) rfl (fun ls hl => ?_)
  refine lv_goto (tgt := 3) hx hb dX11_feedOne_36 (by decide) ?_
  refine lv_iload_n hx hb dX11_feedOne_3 rfl (lv_at hl 0 rfl) ?_
  refine lv_if_lt (tgt := 39) hx hb dX11_feedOne_4 (by decide) (fun c15 => absurd c15 (by decide)) (fun c15 => ?_)
  refine lv_aload_n hx hb dX11_feedOne_7 rfl (lv_at hl 1 rfl) ?_
  refine tw_getM (v := .ref ta) hx hb hts bF2_X11 hown hK hT hr_o0 shc_14 rfl 0 (by decide) (ht_at2 hts 0 rfl) (fun _ h9 => h9) m12 dX11_feedOne_8 ?_
  refine lv_aload_n hx hb dX11_feedOne_11 rfl (lv_at hl 1 rfl) ?_
  refine tw_getM (v := .int x9) hx hb hts bF2_X11 hown hK hT hr_o0 shc_14 rfl 7 (by decide) (ht_at2 hts 1 rfl) (fun _ h9 => h9) m11 dX11_feedOne_12 ?_
  refine lv_iload_n hx hb dX11_feedOne_15 rfl (lv_at hl 2 rfl) ?_
  refine lv_iload_n hx hb dX11_feedOne_16 rfl (lv_at hl 0 rfl) ?_
  refine lv_iushr hx hb dX11_feedOne_17 rfl ?_
  refine lv_topi (fun x16 ex16 => ?_)
  refine lv_sipush (v := 255) hx hb dX11_feedOne_18 (by decide) ?_
  refine lv_iand hx hb dX11_feedOne_21 ?_
  refine lv_topi (fun x17 ex17 => ?_)
  have t18 : 0 ≤ x17.toInt ∧ x17.toInt ≤ 255 := by rw [ex17]; exact and_nn (show (255 : Int32).toInt = 255 from (by decide)) (by omega)
  refine tw_iast (i := x9) (x := x17) hx hb hK hT hG hS hr_ta shc_16 rfl (vin_t (a := x9.toInt) rfl (by omega) (by omega)) (gi_of (show x17.toInt = x17.toInt from rfl) (by omega) (by omega)) dX11_feedOne_22 (fun H locs hT oq m19 oi hS => ?_)
  have hF := hF.ast hr_ta skc_16 oq (by decide)
  have m20 := (el_kept (oq _ (gne hr_o0 hr_ta (by decide)))).trans m12
  have m21 := m13.put m19 oi
  have m23 := (el_kept (oq _ (gne hr_o0 hr_ta (by decide)))).trans m11
  refine lv_aload_n hx hb dX11_feedOne_23 rfl (lv_at hl 1 rfl) ?_
  refine lv_dup hx hb dX11_feedOne_24 rfl ?_
  refine tw_getM (v := .int x9) hx hb hts bF2_X11 hown hK hT hr_o0 shc_14 rfl 7 (by decide) (ht_at2 hts 1 rfl) (fun _ h9 => h9) m23 dX11_feedOne_25 ?_
  refine lv_iconst (v := 1) hx hb dX11_feedOne_28 (by decide) ?_
  refine lv_iadd hx hb dX11_feedOne_29 ?_
  refine lv_topi (fun x24 ex24 => ?_)
  have t25 : x24.toInt = x9.toInt + 1 := ti_add ex24 rfl (by decide) (by omega) (by omega)
  refine tw_put (v := .int x24) (ty := .int) hx hb hts bF2_X11 tyX11 tyX11_ok nmX11 hown hK hT hG hS hr_o0 shc_14 rfl 7 (by decide) (ht_at2 hts 1 rfl) (fun _ h9 => h9) rfl (by decide +kernel) rfl rfl (gl_at rfl (gi_of (show x24.toInt = x24.toInt from rfl) (by omega) (by omega))) dX11_feedOne_30 (fun H locs hT oq m26 oj hS => ?_)
  have hF := hF.put hr_o0 skc_14 oq oj (by decide)
  have m27 := (oj 0 (by decide) (by decide)).trans m20
  have m28 := m21.kept (oq _ (gne hr_ta hr_o0 (by decide)))
  refine lv_iinc (v := 8) (lv' := [(2, .int 8), (0, .ref o0), (1, .int nu)]) hx hb dX11_feedOne_33 hl (k := 0) rfl (by decide) (by decide) rfl (fun ls hl => ?_)
  refine lv_goto (tgt := 3) hx hb dX11_feedOne_36 (by decide) ?_
  refine lv_iload_n hx hb dX11_feedOne_3 rfl (lv_at hl 0 rfl) ?_
  refine lv_if_lt (tgt := 39) hx hb dX11_feedOne_4 (by decide) (fun c31 => absurd c31 (by decide)) (fun c31 => ?_)
  refine lv_aload_n hx hb dX11_feedOne_7 rfl (lv_at hl 1 rfl) ?_
  refine tw_getM (v := .ref ta) hx hb hts bF2_X11 hown hK hT hr_o0 shc_14 rfl 0 (by decide) (ht_at2 hts 0 rfl) (fun _ h9 => h9) m27 dX11_feedOne_8 ?_
  refine lv_aload_n hx hb dX11_feedOne_11 rfl (lv_at hl 1 rfl) ?_
  refine tw_getM (v := .int x24) hx hb hts bF2_X11 hown hK hT hr_o0 shc_14 rfl 7 (by decide) (ht_at2 hts 1 rfl) (fun _ h9 => h9) m26 dX11_feedOne_12 ?_
  refine lv_iload_n hx hb dX11_feedOne_15 rfl (lv_at hl 2 rfl) ?_
  refine lv_iload_n hx hb dX11_feedOne_16 rfl (lv_at hl 0 rfl) ?_
  refine lv_iushr hx hb dX11_feedOne_17 rfl ?_
  refine lv_topi (fun x32 ex32 => ?_)
  refine lv_sipush (v := 255) hx hb dX11_feedOne_18 (by decide) ?_
  refine lv_iand hx hb dX11_feedOne_21 ?_
  refine lv_topi (fun x33 ex33 => ?_)
  have t34 : 0 ≤ x33.toInt ∧ x33.toInt ≤ 255 := by rw [ex33]; exact and_nn (show (255 : Int32).toInt = 255 from (by decide)) (by omega)
  refine tw_iast (i := x24) (x := x33) hx hb hK hT hG hS hr_ta shc_16 rfl (vin_t (a := x24.toInt) rfl (by omega) (by omega)) (gi_of (show x33.toInt = x33.toInt from rfl) (by omega) (by omega)) dX11_feedOne_22 (fun H locs hT oq m35 oi hS => ?_)
  have hF := hF.ast hr_ta skc_16 oq (by decide)
  have m36 := (el_kept (oq _ (gne hr_o0 hr_ta (by decide)))).trans m27
  have m37 := m28.put m35 oi
  have m40 := (el_kept (oq _ (gne hr_o0 hr_ta (by decide)))).trans m26
  refine lv_aload_n hx hb dX11_feedOne_23 rfl (lv_at hl 1 rfl) ?_
  refine lv_dup hx hb dX11_feedOne_24 rfl ?_
  refine tw_getM (v := .int x24) hx hb hts bF2_X11 hown hK hT hr_o0 shc_14 rfl 7 (by decide) (ht_at2 hts 1 rfl) (fun _ h9 => h9) m40 dX11_feedOne_25 ?_
  refine lv_iconst (v := 1) hx hb dX11_feedOne_28 (by decide) ?_
  refine lv_iadd hx hb dX11_feedOne_29 ?_
  refine lv_topi (fun x41 ex41 => ?_)
  have t42 : x41.toInt = x24.toInt + 1 := ti_add ex41 rfl (by decide) (by omega) (by omega)
  refine tw_put (v := .int x41) (ty := .int) hx hb hts bF2_X11 tyX11 tyX11_ok nmX11 hown hK hT hG hS hr_o0 shc_14 rfl 7 (by decide) (ht_at2 hts 1 rfl) (fun _ h9 => h9) rfl (by decide +kernel) rfl rfl (gl_at rfl (gi_of (show x41.toInt = x41.toInt from rfl) (by omega) (by omega))) dX11_feedOne_30 (fun H locs hT oq m43 oj hS => ?_)
  have hF := hF.put hr_o0 skc_14 oq oj (by decide)
  have m44 := (oj 0 (by decide) (by decide)).trans m36
  have m45 := m37.kept (oq _ (gne hr_ta hr_o0 (by decide)))
  refine lv_iinc (v := 0) (lv' := [(2, .int 0), (0, .ref o0), (1, .int nu)]) hx hb dX11_feedOne_33 hl (k := 0) rfl (by decide) (by decide) rfl (fun ls hl => ?_)
  refine lv_goto (tgt := 3) hx hb dX11_feedOne_36 (by decide) ?_
  refine lv_iload_n hx hb dX11_feedOne_3 rfl (lv_at hl 0 rfl) ?_
  refine lv_if_lt (tgt := 39) hx hb dX11_feedOne_4 (by decide) (fun c49 => absurd c49 (by decide)) (fun c49 => ?_)
  refine lv_aload_n hx hb dX11_feedOne_7 rfl (lv_at hl 1 rfl) ?_
  refine tw_getM (v := .ref ta) hx hb hts bF2_X11 hown hK hT hr_o0 shc_14 rfl 0 (by decide) (ht_at2 hts 0 rfl) (fun _ h9 => h9) m44 dX11_feedOne_8 ?_
  refine lv_aload_n hx hb dX11_feedOne_11 rfl (lv_at hl 1 rfl) ?_
  refine tw_getM (v := .int x41) hx hb hts bF2_X11 hown hK hT hr_o0 shc_14 rfl 7 (by decide) (ht_at2 hts 1 rfl) (fun _ h9 => h9) m43 dX11_feedOne_12 ?_
  refine lv_iload_n hx hb dX11_feedOne_15 rfl (lv_at hl 2 rfl) ?_
  refine lv_iload_n hx hb dX11_feedOne_16 rfl (lv_at hl 0 rfl) ?_
  refine lv_iushr hx hb dX11_feedOne_17 rfl ?_
  refine lv_topi (fun x50 ex50 => ?_)
  refine lv_sipush (v := 255) hx hb dX11_feedOne_18 (by decide) ?_
  refine lv_iand hx hb dX11_feedOne_21 ?_
  refine lv_topi (fun x51 ex51 => ?_)
  have t52 : 0 ≤ x51.toInt ∧ x51.toInt ≤ 255 := by rw [ex51]; exact and_nn (show (255 : Int32).toInt = 255 from (by decide)) (by omega)
  refine tw_iast (i := x41) (x := x51) hx hb hK hT hG hS hr_ta shc_16 rfl (vin_t (a := x41.toInt) rfl (by omega) (by omega)) (gi_of (show x51.toInt = x51.toInt from rfl) (by omega) (by omega)) dX11_feedOne_22 (fun H locs hT oq m53 oi hS => ?_)
  have hF := hF.ast hr_ta skc_16 oq (by decide)
  have m55 := m45.put m53 oi
  have m59 := (el_kept (oq _ (gne hr_o0 hr_ta (by decide)))).trans m43
  refine lv_aload_n hx hb dX11_feedOne_23 rfl (lv_at hl 1 rfl) ?_
  refine lv_dup hx hb dX11_feedOne_24 rfl ?_
  refine tw_getM (v := .int x41) hx hb hts bF2_X11 hown hK hT hr_o0 shc_14 rfl 7 (by decide) (ht_at2 hts 1 rfl) (fun _ h9 => h9) m59 dX11_feedOne_25 ?_
  refine lv_iconst (v := 1) hx hb dX11_feedOne_28 (by decide) ?_
  refine lv_iadd hx hb dX11_feedOne_29 ?_
  refine lv_topi (fun x60 ex60 => ?_)
  have t61 : x60.toInt = x41.toInt + 1 := ti_add ex60 rfl (by decide) (by omega) (by omega)
  refine tw_put (v := .int x60) (ty := .int) hx hb hts bF2_X11 tyX11 tyX11_ok nmX11 hown hK hT hG hS hr_o0 shc_14 rfl 7 (by decide) (ht_at2 hts 1 rfl) (fun _ h9 => h9) rfl (by decide +kernel) rfl rfl (gl_at rfl (gi_of (show x60.toInt = x60.toInt from rfl) (by omega) (by omega))) dX11_feedOne_30 (fun H locs hT oq m62 oj hS => ?_)
  have hF := hF.put hr_o0 skc_14 oq oj (by decide)
  have m64 := m55.kept (oq _ (gne hr_ta hr_o0 (by decide)))
  refine lv_iinc (v := (-8)) (lv' := [(2, .int (-8)), (0, .ref o0), (1, .int nu)]) hx hb dX11_feedOne_33 hl (k := 0) rfl (by decide) (by decide) rfl (fun ls hl => ?_)
  refine lv_goto (tgt := 3) hx hb dX11_feedOne_36 (by decide) ?_
  refine lv_iload_n hx hb dX11_feedOne_3 rfl (lv_at hl 0 rfl) ?_
  refine lv_if_lt (tgt := 39) hx hb dX11_feedOne_4 (by decide) (fun c69 => ?_) (fun c69 => absurd c69 (by decide))
  exact W.vret hx hb hr (fun t ht hW => ⟨⟨(x60, (cu (cu (cu (cu vc tp.toNatClampNeg x3) x9.toNatClampNeg x17) x24.toNatClampNeg x33) x41.toNatClampNeg x51)), rfl, (by exact ⟨(by have q8 := ti_all x60; omega), (by omega), (by have := tn_of (show tp.toInt = tp.toInt from rfl) (by omega); have := tn_of (show x9.toInt = x9.toInt from rfl) (by omega); have := tn_of (show x24.toInt = x24.toInt from rfl) (by omega); have := tn_of (show x41.toInt = x41.toInt from rfl) (by omega); have j0 : x3 = ub nu 24 := (by rw [ex3, ex2]; rfl); have i1 : x9.toNatClampNeg = tp.toNatClampNeg + 1 := (by omega); have j1 : x17 = ub nu 16 := (by rw [ex17, ex16]; rfl); have i2 : x24.toNatClampNeg = tp.toNatClampNeg + 2 := (by omega); have j2 : x33 = ub nu 8 := (by rw [ex33, ex32]; rfl); have i3 : x41.toNatClampNeg = tp.toNatClampNeg + 3 := (by omega); have j3 : x51 = ub nu 0 := (by rw [ex51, ex50]; rfl); (try dsimp only); rw [j0, i1, j1, i2, j2, i3, j3]; rfl)⟩), by (try dsimp only); rw [ht]; exact ⟨hT, hF, m62, m64⟩⟩, hS.F ht⟩) hS.2.2 dX11_feedOne_39
def w_c_feedC : List Cond := .code yX11_feed cX11_feed 6 (some .int) :: (HAppend.hAppend (α := List Cond) (β := List Cond) (γ := List Cond) [.fieldLink RX11 47 "SeaLand" "taped" "I", .code yX11_feedOne cX11_feedOne 3 none, .fieldLink RX11 9 "SeaLand" "tape" "[I", .methodLink RX11 51 yX11_feedOne, .instanceMethod yX11_feedOne, .selects RX11 yX11_feedOne yX11_feedOne, .initialized RX11] bs2)
set_option maxHeartbeats 4000000 in
set_option maxRecDepth 100000 in
theorem c_feedC (l : Launch) (dC : Nat → ClassId) (dI : Nat → Nat → Nat) (kA : Nat → ClassId) (adK adV : Nat → Nat) (G : gT) (H0 : Heap) (nC nS : Int) (o0 : Nat) (p0 : Int32) (p1 : Int32) (p2 : Int32) (p3 : Int32) (p4 : Int32) (tn : Int32) (ta : Nat) (vc : Nat → Int32)  (hT : gH (dC, dI) kA (SHc nC nS) G H0) (hr_o0 : G o0 = some 14) (hm_tn : el H0 o0 (dI 14 7) = some (.int tn)) (hm_ta : el H0 o0 (dI 14 0) = some (.ref ta)) (hr_ta : G ta = some 16) (hq0 : 0 ≤ tn.toInt ∧ tn.toInt ≤ 400) (hc_vc : ct H0 ta 400 vc) (hgC : 0 ≤ nC ∧ nC ≤ 40) (hgS : 0 ≤ nS ∧ nS ≤ 60) : Met l yX11_feed w_c_feedC ({ frames := 1, cells := 0, slots := 0, locals := 22 }) (va_Pc [.ref o0, .int p0, .int p1, .int p2, .int p3, .int p4] (fun U => U.heap = H0 ∧ va_K (dC, dI) vwCl (tyl kA) U ∧ EVC adK adV (gA G H0.size) U U.heap)) (va_Qi (fun (r : Int32) (u : Int32 × (Nat → Int32)) => match u with | (t1, vc1) => (-1 ≤ r.toInt ∧ r.toInt ≤ 400) ∧ ((tn.toInt ≤ 380 ∧ r.toInt = tn.toInt + 20 ∧ t1.toInt = tn.toInt + 20 ∧ vc1 = fdU vc tn.toNatClampNeg p0 p1 p2 p3 p4) ∨ (380 < tn.toInt ∧ r.toInt = -1 ∧ t1.toInt = tn.toInt ∧ vc1 = vc))) (fun (u : Int32 × (Nat → Int32)) (t : State) => match u with | (t1, vc1) => gH (dC, dI) kA (SHc nC nS) G t.heap ∧ gF (dC, dI) SKc G ([(14, 7), (16, 0)] : List (Nat × Nat)) H0 t.heap ∧ el t.heap o0 (dI 14 7) = some (.int t1) ∧ ct t.heap ta 400 vc1) (gA G H0.size)) 0 0 (gA G H0.size) := by
  refine Met.ofW (cc := cX11_feed) (maxL := 6) (ret := (some .int)) (by decide) rfl ?_
  intro p e s m args below meth c s₁ B hml hv
  obtain ⟨rfl, hH0, hK, hE⟩ := hv
  have hx := B.exec
  have hb := B.bytes
  have hr := B.returns
  have hts := atoms_spec (ws := w_c_feedC) B.pre
  have hown : s.vm.findClass RX11 = some m.cls := findClass_of_methodNamed B.named
  have hlocks := B.notSynchronized
  subst hH0
  generalize hAe : gA G s.heap.size = A at hE ⊢
  have hA : ∀ q : Nat, s.heap.size ≤ q → A q := fun q h => by rw [← hAe]; exact Or.inr h
  have hG := gA_of hAe
  have hS : va_S A s.heap s.heap [] := va_S.rf
  have hF : gF (dC, dI) SKc G ([(14, 7), (16, 0)] : List (Nat × Nat)) s.heap s.heap := gF.rf
  have hl := lv_entry ([.ref o0, .int p0, .int p1, .int p2, .int p3, .int p4]) (n := 6) (Nat.le_of_ble_eq_true rfl)
  rw [lg_entry_eq]
  generalize (lg_sl ([.ref o0, .int p0, .int p1, .int p2, .int p3, .int p4]) ++ List.replicate (6 - (lg_sl ([.ref o0, .int p0, .int p1, .int p2, .int p3, .int p4])).length) Slot.unset).toArray = ls at hl ⊢
  have hl : lv_has ls 6 [(0, .ref o0), (1, .int p0), (2, .int p1), (3, .int p2), (4, .int p3), (5, .int p4)] := hl
  refine lv_aload_n hx hb dX11_feed_0 rfl (lv_at hl 0 rfl) ?_
  refine tw_getM (v := .int tn) hx hb hts bF2_X11 hown hK hT hr_o0 shc_14 rfl 7 (by decide) (ht_at2 hts 0 rfl) (fun _ h9 => h9) hm_tn dX11_feed_1 ?_
  refine lv_bipush (v := 20) hx hb dX11_feed_4 (by decide) ?_
  refine lv_iadd hx hb dX11_feed_6 ?_
  refine lv_topi (fun x1 ex1 => ?_)
  have t2 : x1.toInt = tn.toInt + 20 := ti_add ex1 rfl (by decide) (by omega) (by omega)
  refine lv_sipush (v := 400) hx hb dX11_feed_7 (by decide) ?_
  refine lv_icmp_le (tgt := 15) hx hb dX11_feed_10 (by decide) (fun c3 => ?_) (fun c3 => ?_)
  · have t4 : x1.toInt ≤ 400 := ti_le c3 rfl (by decide)
    refine lv_aload_n hx hb dX11_feed_15 rfl (lv_at hl 0 rfl) ?_
    refine lv_iload_n hx hb dX11_feed_16 rfl (lv_at hl 1 rfl) ?_
    have hFc := gA_free hG hA hS
    refine va_callv (va_runV (As := [.int p0]) (rest := []) ⟨hx, hb, hml, hown, hts⟩ (c_feedOneC l dC dI kA adK adV G s.heap nC nS o0 p0 tn ta vc hT hr_o0 hm_tn hm_ta hr_ta (by have q8 := ti_all tn; omega) hc_vc (by omega) (by omega)) (cwV 1 hts (goodIn_app (goodIn_r _ [4, 5, 6, 7] rfl (by decide +kernel)) (goodIn_ca (goodIn_r _ [2, 3, 1] rfl (by decide +kernel)) (bs2_in _ _))) rfl rfl rfl (by decide +kernel) ⟨(Nat.le_of_ble_eq_true rfl), (Nat.le_of_ble_eq_true rfl)⟩) ⟨fun a U g mk q => by obtain ⟨q0, q1, qK, qE⟩ := q; exact ⟨q0, q1, va_K.moved (u := U) (U := U.calling g mk a) (Vm.Alike.refl U.vm) qK, EVC.blind g mk a qE⟩, gH_rc hK hT hr_o0 shc_14 rfl, fun U hU hW => ⟨rfl, hU, va_K.moved hW.alike hK, hE.call hS hFc hU hW⟩⟩ rfl rfl hl.1 rfl (lv_room (Nat.le_of_ble_eq_true rfl)) dX11_feed_17 ⟨(Nat.le_of_ble_eq_true rfl), (Nat.le_of_ble_eq_true rfl)⟩) hS (fun q _ h => hFc q h) hFc (fun u t H locs ht hvm hw6 hB _ _ hS => ?_)
    obtain ⟨u7, u8⟩ := u
    obtain ⟨hT, hF1, m9, m10⟩ := hB
    rw [ht] at hT hF1 m9 m10
    have m12 := (hF1.fld hr_o0 skc_14 (k := 0) (by decide) (by decide)).trans hm_ta
    have hF := hF.more hF1 (by decide)
    try dsimp only at hw6
    obtain ⟨h14, hf15, hf16⟩ := hw6
    refine lv_aload_n hx hb dX11_feed_20 rfl (lv_at hl 0 rfl) ?_
    refine lv_iload_n hx hb dX11_feed_21 rfl (lv_at hl 2 rfl) ?_
    have hFc := gA_free hG hA hS
    refine va_callv (va_runV (As := [.int p1]) (rest := []) ⟨hx, hb, hml, hown, hts⟩ (c_feedOneC l dC dI kA adK adV G H nC nS o0 p1 u7 ta u8 hT hr_o0 m9 m12 hr_ta (by have q8 := ti_all u7; omega) m10 (by omega) (by omega)) (cwV 1 hts (goodIn_app (goodIn_r _ [4, 5, 6, 7] rfl (by decide +kernel)) (goodIn_ca (goodIn_r _ [2, 3, 1] rfl (by decide +kernel)) (bs2_in _ _))) rfl rfl rfl (by decide +kernel) ⟨(Nat.le_of_ble_eq_true rfl), (Nat.le_of_ble_eq_true rfl)⟩) ⟨fun a U g mk q => by obtain ⟨q0, q1, qK, qE⟩ := q; exact ⟨q0, q1, va_K.moved (u := U) (U := U.calling g mk a) (Vm.Alike.refl U.vm) qK, EVC.blind g mk a qE⟩, gH_rc hK hT hr_o0 shc_14 rfl, fun U hU hW => ⟨rfl, hU, va_K.moved hW.alike hK, hE.call hS hFc hU hW⟩⟩ rfl rfl hl.1 rfl (lv_room (Nat.le_of_ble_eq_true rfl)) dX11_feed_22 ⟨(Nat.le_of_ble_eq_true rfl), (Nat.le_of_ble_eq_true rfl)⟩) hS (fun q _ h => hFc q h) hFc (fun u t H locs ht hvm hw18 hB _ _ hS => ?_)
    obtain ⟨u19, u20⟩ := u
    obtain ⟨hT, hF1, m21, m22⟩ := hB
    rw [ht] at hT hF1 m21 m22
    have m23 := (hF1.fld hr_o0 skc_14 (k := 0) (by decide) (by decide)).trans m12
    have hF := hF.more hF1 (by decide)
    try dsimp only at hw18
    obtain ⟨h26, hf27, hf28⟩ := hw18
    refine lv_aload_n hx hb dX11_feed_25 rfl (lv_at hl 0 rfl) ?_
    refine lv_iload_n hx hb dX11_feed_26 rfl (lv_at hl 3 rfl) ?_
    have hFc := gA_free hG hA hS
    refine va_callv (va_runV (As := [.int p2]) (rest := []) ⟨hx, hb, hml, hown, hts⟩ (c_feedOneC l dC dI kA adK adV G H nC nS o0 p2 u19 ta u20 hT hr_o0 m21 m23 hr_ta (by have q8 := ti_all u19; omega) m22 (by omega) (by omega)) (cwV 1 hts (goodIn_app (goodIn_r _ [4, 5, 6, 7] rfl (by decide +kernel)) (goodIn_ca (goodIn_r _ [2, 3, 1] rfl (by decide +kernel)) (bs2_in _ _))) rfl rfl rfl (by decide +kernel) ⟨(Nat.le_of_ble_eq_true rfl), (Nat.le_of_ble_eq_true rfl)⟩) ⟨fun a U g mk q => by obtain ⟨q0, q1, qK, qE⟩ := q; exact ⟨q0, q1, va_K.moved (u := U) (U := U.calling g mk a) (Vm.Alike.refl U.vm) qK, EVC.blind g mk a qE⟩, gH_rc hK hT hr_o0 shc_14 rfl, fun U hU hW => ⟨rfl, hU, va_K.moved hW.alike hK, hE.call hS hFc hU hW⟩⟩ rfl rfl hl.1 rfl (lv_room (Nat.le_of_ble_eq_true rfl)) dX11_feed_27 ⟨(Nat.le_of_ble_eq_true rfl), (Nat.le_of_ble_eq_true rfl)⟩) hS (fun q _ h => hFc q h) hFc (fun u t H locs ht hvm hw30 hB _ _ hS => ?_)
    obtain ⟨u31, u32⟩ := u
    obtain ⟨hT, hF1, m33, m34⟩ := hB
    rw [ht] at hT hF1 m33 m34
    have m35 := (hF1.fld hr_o0 skc_14 (k := 0) (by decide) (by decide)).trans m23
    have hF := hF.more hF1 (by decide)
    try dsimp only at hw30
    obtain ⟨h38, hf39, hf40⟩ := hw30
    refine lv_aload_n hx hb dX11_feed_30 rfl (lv_at hl 0 rfl) ?_
    refine lv_iload hx hb dX11_feed_31 (lv_at hl 4 rfl) ?_
    have hFc := gA_free hG hA hS
    refine va_callv (va_runV (As := [.int p3]) (rest := []) ⟨hx, hb, hml, hown, hts⟩ (c_feedOneC l dC dI kA adK adV G H nC nS o0 p3 u31 ta u32 hT hr_o0 m33 m35 hr_ta (by have q8 := ti_all u31; omega) m34 (by omega) (by omega)) (cwV 1 hts (goodIn_app (goodIn_r _ [4, 5, 6, 7] rfl (by decide +kernel)) (goodIn_ca (goodIn_r _ [2, 3, 1] rfl (by decide +kernel)) (bs2_in _ _))) rfl rfl rfl (by decide +kernel) ⟨(Nat.le_of_ble_eq_true rfl), (Nat.le_of_ble_eq_true rfl)⟩) ⟨fun a U g mk q => by obtain ⟨q0, q1, qK, qE⟩ := q; exact ⟨q0, q1, va_K.moved (u := U) (U := U.calling g mk a) (Vm.Alike.refl U.vm) qK, EVC.blind g mk a qE⟩, gH_rc hK hT hr_o0 shc_14 rfl, fun U hU hW => ⟨rfl, hU, va_K.moved hW.alike hK, hE.call hS hFc hU hW⟩⟩ rfl rfl hl.1 rfl (lv_room (Nat.le_of_ble_eq_true rfl)) dX11_feed_33 ⟨(Nat.le_of_ble_eq_true rfl), (Nat.le_of_ble_eq_true rfl)⟩) hS (fun q _ h => hFc q h) hFc (fun u t H locs ht hvm hw42 hB _ _ hS => ?_)
    obtain ⟨u43, u44⟩ := u
    obtain ⟨hT, hF1, m45, m46⟩ := hB
    rw [ht] at hT hF1 m45 m46
    have m47 := (hF1.fld hr_o0 skc_14 (k := 0) (by decide) (by decide)).trans m35
    have hF := hF.more hF1 (by decide)
    try dsimp only at hw42
    obtain ⟨h50, hf51, hf52⟩ := hw42
    refine lv_aload_n hx hb dX11_feed_36 rfl (lv_at hl 0 rfl) ?_
    refine lv_iload hx hb dX11_feed_37 (lv_at hl 5 rfl) ?_
    have hFc := gA_free hG hA hS
    refine va_callv (va_runV (As := [.int p4]) (rest := []) ⟨hx, hb, hml, hown, hts⟩ (c_feedOneC l dC dI kA adK adV G H nC nS o0 p4 u43 ta u44 hT hr_o0 m45 m47 hr_ta (by have q8 := ti_all u43; omega) m46 (by omega) (by omega)) (cwV 1 hts (goodIn_app (goodIn_r _ [4, 5, 6, 7] rfl (by decide +kernel)) (goodIn_ca (goodIn_r _ [2, 3, 1] rfl (by decide +kernel)) (bs2_in _ _))) rfl rfl rfl (by decide +kernel) ⟨(Nat.le_of_ble_eq_true rfl), (Nat.le_of_ble_eq_true rfl)⟩) ⟨fun a U g mk q => by obtain ⟨q0, q1, qK, qE⟩ := q; exact ⟨q0, q1, va_K.moved (u := U) (U := U.calling g mk a) (Vm.Alike.refl U.vm) qK, EVC.blind g mk a qE⟩, gH_rc hK hT hr_o0 shc_14 rfl, fun U hU hW => ⟨rfl, hU, va_K.moved hW.alike hK, hE.call hS hFc hU hW⟩⟩ rfl rfl hl.1 rfl (lv_room (Nat.le_of_ble_eq_true rfl)) dX11_feed_39 ⟨(Nat.le_of_ble_eq_true rfl), (Nat.le_of_ble_eq_true rfl)⟩) hS (fun q _ h => hFc q h) hFc (fun u t H locs ht hvm hw54 hB _ _ hS => ?_)
    obtain ⟨u55, u56⟩ := u
    obtain ⟨hT, hF1, m57, m58⟩ := hB
    rw [ht] at hT hF1 m57 m58
    have hF := hF.more hF1 (by decide)
    try dsimp only at hw54
    obtain ⟨h62, hf63, hf64⟩ := hw54
    refine lv_aload_n hx hb dX11_feed_42 rfl (lv_at hl 0 rfl) ?_
    refine tw_getM (v := .int u55) hx hb hts bF2_X11 hown hK hT hr_o0 shc_14 rfl 7 (by decide) (ht_at2 hts 0 rfl) (fun _ h9 => h9) m57 dX11_feed_43 ?_
    exact W.iret (v := u55) hx hb hr (fun t ht hW => ⟨⟨u55, (u55, u56), rfl, (by exact ⟨(by have q8 := ti_all u55; omega), (Or.inl ⟨by omega, by omega, by omega, (by have := tn_of (show tn.toInt = tn.toInt from rfl) (by omega); have := tn_of (show u7.toInt = u7.toInt from rfl) (by omega); have := tn_of (show u19.toInt = u19.toInt from rfl) (by omega); have := tn_of (show u31.toInt = u31.toInt from rfl) (by omega); have := tn_of (show u43.toInt = u43.toInt from rfl) (by omega); have i1 : u7.toNatClampNeg = tn.toNatClampNeg + 4 := (by omega); have i2 : u19.toNatClampNeg = tn.toNatClampNeg + 8 := (by omega); have i3 : u31.toNatClampNeg = tn.toNatClampNeg + 12 := (by omega); have i4 : u43.toNatClampNeg = tn.toNatClampNeg + 16 := (by omega); (try dsimp only); rw [hf64, hf52, hf40, hf28, hf16, i1, i2, i3, i4]; rfl)⟩)⟩), by (try dsimp only); rw [ht]; exact ⟨hT, hF, m57, m58⟩⟩, hS.F ht⟩) hS.2.2 dX11_feed_46
  · have t65 : 400 < x1.toInt := ti_nle c3 rfl (by decide)
    refine lv_iconst (v := (-1)) hx hb dX11_feed_13 (by decide) ?_
    exact W.iret (v := (-1)) hx hb hr (fun t ht hW => ⟨⟨(-1), (tn, vc), rfl, (by exact ⟨(rg_t (a := (-1)) (by decide) (by first | decide | omega) (by first | decide | omega)), (Or.inr ⟨by omega, by have q0 : (0 : Int32).toInt = 0 := (by decide); have q1 : (1 : Int32).toInt = 1 := (by decide); have qm : (-1 : Int32).toInt = -1 := (by decide); omega, by omega, rfl⟩)⟩), by (try dsimp only); rw [ht]; exact ⟨hT, hF, hm_tn, hc_vc⟩⟩, hS.F ht⟩) hS.2.2 dX11_feed_14
def w_c_endC : List Cond := .code yX11_end cX11_end 2 (some .boolean) :: (HAppend.hAppend (α := List Cond) (β := List Cond) (γ := List Cond) [.fieldLink RX11 47 "SeaLand" "taped" "I"] bs2)
set_option maxHeartbeats 4000000 in
set_option maxRecDepth 100000 in
theorem c_endC (l : Launch) (dC : Nat → ClassId) (dI : Nat → Nat → Nat) (kA : Nat → ClassId) (adK adV : Nat → Nat) (G : gT) (H0 : Heap) (nC nS : Int) (o0 : Nat) (p0 : Int32) (tn : Int32)  (hT : gH (dC, dI) kA (SHc nC nS) G H0) (hr_o0 : G o0 = some 14) (hm_tn : el H0 o0 (dI 14 7) = some (.int tn)) (hq0 : 0 ≤ tn.toInt ∧ tn.toInt ≤ 400) (hgC : 0 ≤ nC ∧ nC ≤ 40) (hgS : 0 ≤ nS ∧ nS ≤ 60) : Met l yX11_end w_c_endC ({ frames := 0, cells := 0, slots := 0, locals := 0 }) (va_Pc [.ref o0, .int p0] (fun U => U.heap = H0 ∧ va_K (dC, dI) vwCl (tyl kA) U ∧ EVC adK adV (gA G H0.size) U U.heap)) (va_Qi (fun (r : Int32) (u : Int32) => (0 ≤ r.toInt ∧ r.toInt ≤ 1) ∧ ((0 ≤ p0.toInt ∧ p0.toInt ≤ tn.toInt ∧ r.toInt = 1 ∧ u.toInt = p0.toInt) ∨ (¬ (0 ≤ p0.toInt ∧ p0.toInt ≤ tn.toInt) ∧ r.toInt = 0 ∧ u.toInt = tn.toInt))) (fun (t1 : Int32) (t : State) => gH (dC, dI) kA (SHc nC nS) G t.heap ∧ gF (dC, dI) SKc G ([(14, 7)] : List (Nat × Nat)) H0 t.heap ∧ el t.heap o0 (dI 14 7) = some (.int t1)) (gA G H0.size)) 0 0 (gA G H0.size) := by
  refine Met.ofW (cc := cX11_end) (maxL := 2) (ret := (some .boolean)) (by decide) rfl ?_
  intro p e s m args below meth c s₁ B hml hv
  obtain ⟨rfl, hH0, hK, hE⟩ := hv
  have hx := B.exec
  have hb := B.bytes
  have hr := B.returns
  have hts := atoms_spec (ws := w_c_endC) B.pre
  have hown : s.vm.findClass RX11 = some m.cls := findClass_of_methodNamed B.named
  have hlocks := B.notSynchronized
  subst hH0
  generalize hAe : gA G s.heap.size = A at hE ⊢
  have hA : ∀ q : Nat, s.heap.size ≤ q → A q := fun q h => by rw [← hAe]; exact Or.inr h
  have hG := gA_of hAe
  have hS : va_S A s.heap s.heap [] := va_S.rf
  have hF : gF (dC, dI) SKc G ([(14, 7)] : List (Nat × Nat)) s.heap s.heap := gF.rf
  have hl := lv_entry ([.ref o0, .int p0]) (n := 2) (Nat.le_of_ble_eq_true rfl)
  rw [lg_entry_eq]
  generalize (lg_sl ([.ref o0, .int p0]) ++ List.replicate (2 - (lg_sl ([.ref o0, .int p0])).length) Slot.unset).toArray = ls at hl ⊢
  have hl : lv_has ls 2 [(0, .ref o0), (1, .int p0)] := hl
  refine lv_iload_n hx hb dX11_end_0 rfl (lv_at hl 1 rfl) ?_
  have t1 : -2147483648 ≤ p0.toInt ∧ p0.toInt ≤ 2147483647 := ti_all p0
  refine lv_if_lt (tgt := 12) hx hb dX11_end_1 (by decide) (fun c2 => ?_) (fun c2 => ?_)
  · have t3 : p0.toInt < 0 := ti_lt c2 rfl (by decide)
    refine lv_iconst (v := 0) hx hb dX11_end_12 (by decide) ?_
    exact W.zret (v := 0) hx hb hr (by decide) (fun t ht hW => ⟨⟨0, tn, rfl, (by exact ⟨(rg_t (a := 0) (by decide) (by first | decide | omega) (by first | decide | omega)), (by have : (0 : Int32).toInt = 0 := (by decide); omega)⟩), by (try dsimp only); rw [ht]; exact ⟨hT, hF, hm_tn⟩⟩, hS.F ht⟩) hS.2.2 dX11_end_13
  · have t4 : 0 ≤ p0.toInt := ti_nlt c2 rfl (by decide)
    refine lv_iload_n hx hb dX11_end_4 rfl (lv_at hl 1 rfl) ?_
    refine lv_aload_n hx hb dX11_end_5 rfl (lv_at hl 0 rfl) ?_
    refine tw_getM (v := .int tn) hx hb hts bF2_X11 hown hK hT hr_o0 shc_14 rfl 7 (by decide) (ht_at2 hts 0 rfl) (fun _ h9 => h9) hm_tn dX11_end_6 ?_
    refine lv_icmp_le (tgt := 14) hx hb dX11_end_9 (by decide) (fun c5 => ?_) (fun c5 => ?_)
    · have t6 : p0.toInt ≤ tn.toInt := ti_le c5 rfl rfl
      refine lv_aload_n hx hb dX11_end_14 rfl (lv_at hl 0 rfl) ?_
      refine lv_iload_n hx hb dX11_end_15 rfl (lv_at hl 1 rfl) ?_
      refine tw_put (v := .int p0) (ty := .int) hx hb hts bF2_X11 tyX11 tyX11_ok nmX11 hown hK hT hG hS hr_o0 shc_14 rfl 7 (by decide) (ht_at2 hts 0 rfl) (fun _ h9 => h9) rfl (by decide +kernel) rfl rfl (gl_at rfl (gi_of (show p0.toInt = p0.toInt from rfl) (by omega) (by omega))) dX11_end_16 (fun H locs hT oq m7 oj hS => ?_)
      have hF := hF.put hr_o0 skc_14 oq oj (by decide)
      refine lv_iconst (v := 1) hx hb dX11_end_19 (by decide) ?_
      exact W.zret (v := 1) hx hb hr (by decide) (fun t ht hW => ⟨⟨1, p0, rfl, (by exact ⟨(rg_t (a := 1) (by decide) (by first | decide | omega) (by first | decide | omega)), (by have : (1 : Int32).toInt = 1 := (by decide); omega)⟩), by (try dsimp only); rw [ht]; exact ⟨hT, hF, m7⟩⟩, hS.F ht⟩) hS.2.2 dX11_end_20
    · have t8 : tn.toInt < p0.toInt := ti_nle c5 rfl rfl
      refine lv_iconst (v := 0) hx hb dX11_end_12 (by decide) ?_
      exact W.zret (v := 0) hx hb hr (by decide) (fun t ht hW => ⟨⟨0, tn, rfl, (by exact ⟨(rg_t (a := 0) (by decide) (by first | decide | omega) (by first | decide | omega)), (by have : (0 : Int32).toInt = 0 := (by decide); omega)⟩), by (try dsimp only); rw [ht]; exact ⟨hT, hF, hm_tn⟩⟩, hS.F ht⟩) hS.2.2 dX11_end_13
def w_c_faultC : List Cond := .code yX11_fault cX11_fault 1 (some .int) :: (HAppend.hAppend (α := List Cond) (β := List Cond) (γ := List Cond) [.fieldLink RX11 30 "SeaLand" "board" "LSeaLand$Board;"] bs2)
set_option maxHeartbeats 4000000 in
set_option maxRecDepth 100000 in
theorem c_faultC (l : Launch) (dC : Nat → ClassId) (dI : Nat → Nat → Nat) (kA : Nat → ClassId) (adK adV : Nat → Nat) (G : gT) (H0 : Heap) (nC nS : Int) (o0 : Nat) (bd : Nat) (fa : Int32)  (hT : gH (dC, dI) kA (SHc nC nS) G H0) (hr_o0 : G o0 = some 14) (hm_bd : el H0 o0 (dI 14 3) = some (.ref bd)) (hr_bd : G bd = some 3) (hm_fa : el H0 bd (dI 3 10) = some (.int fa)) (hgC : 0 ≤ nC ∧ nC ≤ 40) (hgS : 0 ≤ nS ∧ nS ≤ 60) : Met l yX11_fault w_c_faultC ({ frames := 0, cells := 0, slots := 0, locals := 0 }) (va_Pc [.ref o0] (fun U => U.heap = H0 ∧ va_K (dC, dI) vwCl (tyl kA) U ∧ EVC adK adV (gA G H0.size) U U.heap)) (va_Qi (fun (r : Int32) (u : Unit) => (r = fa)) (fun (_ : Unit) (t : State) => gH (dC, dI) kA (SHc nC nS) G t.heap ∧ gF (dC, dI) SKc G ([] : List (Nat × Nat)) H0 t.heap) (gA G H0.size)) 0 0 (gA G H0.size) := by
  refine Met.ofW (cc := cX11_fault) (maxL := 1) (ret := (some .int)) (by decide) rfl ?_
  intro p e s m args below meth c s₁ B hml hv
  obtain ⟨rfl, hH0, hK, hE⟩ := hv
  have hx := B.exec
  have hb := B.bytes
  have hr := B.returns
  have hts := atoms_spec (ws := w_c_faultC) B.pre
  have hown : s.vm.findClass RX11 = some m.cls := findClass_of_methodNamed B.named
  have hlocks := B.notSynchronized
  subst hH0
  generalize hAe : gA G s.heap.size = A at hE ⊢
  have hA : ∀ q : Nat, s.heap.size ≤ q → A q := fun q h => by rw [← hAe]; exact Or.inr h
  have hG := gA_of hAe
  have hS : va_S A s.heap s.heap [] := va_S.rf
  have hF : gF (dC, dI) SKc G ([] : List (Nat × Nat)) s.heap s.heap := gF.rf
  have hl := lv_entry ([.ref o0]) (n := 1) (Nat.le_of_ble_eq_true rfl)
  rw [lg_entry_eq]
  generalize (lg_sl ([.ref o0]) ++ List.replicate (1 - (lg_sl ([.ref o0])).length) Slot.unset).toArray = ls at hl ⊢
  have hl : lv_has ls 1 [(0, .ref o0)] := hl
  refine lv_aload_n hx hb dX11_fault_0 rfl (lv_at hl 0 rfl) ?_
  refine tw_getM (v := .ref bd) hx hb hts bF2_X11 hown hK hT hr_o0 shc_14 rfl 3 (by decide) (ht_at2 hts 0 rfl) (fun _ h9 => h9) hm_bd dX11_fault_1 ?_
  refine tw_getNM (v := .int fa) hx hb hts bF2_X0 hown hK hT hr_bd shc_3 rfl 10 (by decide) (hE.nw 25 rfl) (fun _ h9 => h9) hm_fa dX11_fault_4 ?_
  exact W.iret (v := fa) hx hb hr (fun t ht hW => ⟨⟨fa, (), rfl, (by exact rfl), by (try dsimp only); rw [ht]; exact ⟨hT, hF⟩⟩, hS.F ht⟩) hS.2.2 dX11_fault_7
def w_c_foundC : List Cond := .code yX11_found cX11_found 1 (some .int) :: (HAppend.hAppend (α := List Cond) (β := List Cond) (γ := List Cond) [.fieldLink RX11 30 "SeaLand" "board" "LSeaLand$Board;", .fieldLink RX11 9 "SeaLand" "tape" "[I", .fieldLink RX11 47 "SeaLand" "taped" "I", .code yX4_read cX4_read 4 (some .int), .methodLink RX4 46 Lib.Math.min.name, .static Lib.Math.min.name, .initialized "java/lang/Math", .code Lib.Math.min.name Lib.Math.min.code 2 (some .int), .code yX4_scan cX4_scan 6 none, .fieldLink RX4 11 "SeaLand$Law" "things" "[I", .fieldLink RX4 15 "SeaLand$Law" "begins" "[I", .code yX4_thingEnd cX4_thingEnd 6 (some .int), .code yX4_isLetter cX4_isLetter 1 (some .boolean), .methodLink RX4 81 yX4_isLetter, .static yX4_isLetter, .initialized RX4, .code yX4_isDigit cX4_isDigit 1 (some .boolean), .methodLink RX4 84 yX4_isDigit, .static yX4_isDigit, .methodLink RX4 74 yX4_thingEnd, .static yX4_thingEnd, .code yX4_thingAt cX4_thingAt 3 (some .int), .code yX4_signThing cX4_signThing 1 (some .int), .methodLink RX4 93 yX4_signThing, .static yX4_signThing, .code yX4_numberThing cX4_numberThing 5 (some .int), .methodLink RX4 90 yX4_numberThing, .static yX4_numberThing, .code yX4_wordThing cX4_wordThing 4 (some .int), .code yX4_factThing cX4_factThing 3 (some .int), .code yX4_wordIs cX4_wordIs 5 (some .boolean), .code yJ0_length_8abf5 cJ0_length_8abf5 1 (some .int), .fieldLink RJ0 9 "java/lang/String" "value" "[B", .code yJ0_coder_7d493 cJ0_coder_7d493 1 (some .byte), .fieldLink RJ0 38 "java/lang/String" "COMPACT_STRINGS" "Z", .fieldLink RJ0 15 "java/lang/String" "coder" "B", .methodLink RJ0 335 yJ0_coder_7d493, .instanceMethod yJ0_coder_7d493, .selects RJ0 yJ0_coder_7d493 yJ0_coder_7d493, .initialized RJ0, .methodLink RX4 155 yJ0_length_8abf5, .instanceMethod yJ0_length_8abf5, .selects RJ0 yJ0_length_8abf5 yJ0_length_8abf5, .code yJ0_charAt_5068e cJ0_charAt_5068e 2 (some .char), .code yJ0_isLatin1_aae02 cJ0_isLatin1_aae02 1 (some .boolean), .methodLink RJ0 492 yJ0_isLatin1_aae02, .instanceMethod yJ0_isLatin1_aae02, .selects RJ0 yJ0_isLatin1_aae02 yJ0_isLatin1_aae02, .code yJ1_charAt_3b067 cJ1_charAt_3b067 2 (some .char), .code yJ0_checkIndex_df160 cJ0_checkIndex_df160 2 none, .fieldLink RJ0 1053 "jdk/internal/util/Preconditions" "SIOOBE_FORMATTER" "Ljava/util/function/BiFunction;", .code yJ3_checkIndex_8e157 cJ3_checkIndex_8e157 3 (some .int), .methodLink RJ0 1059 yJ3_checkIndex_8e157, .static yJ3_checkIndex_8e157, .initialized RJ3, .methodLink RJ1 9 yJ0_checkIndex_df160, .static yJ0_checkIndex_df160, .methodLink RJ0 495 yJ1_charAt_3b067, .static yJ1_charAt_3b067, .initialized RJ1, .methodLink RX4 161 yJ0_charAt_5068e, .instanceMethod yJ0_charAt_5068e, .selects RJ0 yJ0_charAt_5068e yJ0_charAt_5068e, .methodLink RX4 105 yX4_wordIs, .static yX4_wordIs, .methodLink RX4 97 yX4_factThing, .static yX4_factThing, .code yX4_lineThing cX4_lineThing 4 (some .int), .methodLink RX4 100 yX4_lineThing, .static yX4_lineThing, .methodLink RX4 87 yX4_wordThing, .static yX4_wordThing, .methodLink RX4 78 yX4_thingAt, .static yX4_thingAt, .methodLink RX4 52 yX4_scan, .instanceMethod yX4_scan, .selects RX4 yX4_scan yX4_scan, .fieldLink RX4 56 "SeaLand$Law" "at" "I", .fieldLink RX4 60 "SeaLand$Law" "lines" "I", .fieldLink RX4 63 "SeaLand$Law" "stepped" "I", .code yX4_readLine cX4_readLine 3 (some .boolean), .code yX4_lineKind cX4_lineKind 1 (some .int), .methodLink RX4 165 yX4_lineKind, .static yX4_lineKind, .fieldLink RX4 18 "SeaLand$Law" "kinds" "[I", .fieldLink RX4 33 "SeaLand$Law" "stepFrom" "[I", .code yX4_take cX4_take 2 (some .boolean), .methodLink RX4 70 yX4_take, .instanceMethod yX4_take, .selects RX4 yX4_take yX4_take, .fieldLink RX4 36 "SeaLand$Law" "stepTo" "[I", .code yX4_readAny cX4_readAny 4 (some .boolean), .code yX4_readAll cX4_readAll 4 (some .boolean), .code yX4_readAtom cX4_readAtom 4 (some .boolean), .code yX4_readComparison cX4_readComparison 3 (some .boolean), .code yX4_readSum cX4_readSum 3 (some .boolean), .code yX4_readPart cX4_readPart 2 (some .boolean), .code yX4_addStep cX4_addStep 2 none, .fieldLink RX4 39 "SeaLand$Law" "steps" "[I", .methodLink RX4 179 yX4_addStep, .instanceMethod yX4_addStep, .selects RX4 yX4_addStep yX4_addStep, .methodLink RX4 192 yX4_readPart, .instanceMethod yX4_readPart, .selects RX4 yX4_readPart yX4_readPart, .methodLink RX4 189 yX4_readSum, .instanceMethod yX4_readSum, .selects RX4 yX4_readSum yX4_readSum, .methodLink RX4 186 yX4_readComparison, .instanceMethod yX4_readComparison, .selects RX4 yX4_readComparison yX4_readComparison, .methodLink RX4 183 yX4_readAtom, .instanceMethod yX4_readAtom, .selects RX4 yX4_readAtom yX4_readAtom, .methodLink RX4 176 yX4_readAll, .instanceMethod yX4_readAll, .selects RX4 yX4_readAll yX4_readAll, .methodLink RX4 173 yX4_readAny, .instanceMethod yX4_readAny, .selects RX4 yX4_readAny yX4_readAny, .fieldLink RX4 21 "SeaLand$Law" "firsts" "[I", .code yX4_takeNumber cX4_takeNumber 4 (some .boolean), .methodLink RX4 168 yX4_takeNumber, .instanceMethod yX4_takeNumber, .selects RX4 yX4_takeNumber yX4_takeNumber, .fieldLink RX4 24 "SeaLand$Law" "seconds" "[I", .fieldLink RX4 27 "SeaLand$Law" "froms" "[I", .fieldLink RX4 30 "SeaLand$Law" "tos" "[I", .constant RX4 172 99999, .methodLink RX4 66 yX4_readLine, .instanceMethod yX4_readLine, .selects RX4 yX4_readLine yX4_readLine, .methodLink RX11 266 yX4_read, .instanceMethod yX4_read, .selects RX4 yX4_read yX4_read, .code yX11_needNumbers cX11_needNumbers 1 none, .classLink RX11 547 "java/lang/IllegalArgumentException", .initialized "java/lang/IllegalArgumentException", .methodLink RX11 62 yX11_needNumbers, .static yX11_needNumbers, .initialized RX11, .code yX0_foundSpare cX0_foundSpare 2 (some .int), .fieldLink RX0 41 "SeaLand$Board" "force" "LSeaLand$Law;", .fieldLink RX0 48 "SeaLand$Board" "spare" "LSeaLand$Law;", .methodLink RX11 280 yX0_foundSpare, .instanceMethod yX0_foundSpare, .selects RX0 yX0_foundSpare yX0_foundSpare, .initialized RX0, .classLink RX11 69 "java/lang/IllegalStateException", .initialized "java/lang/IllegalStateException"] bs2)
set_option maxHeartbeats 4000000 in
set_option maxRecDepth 100000 in
theorem c_foundC (l : Launch) (hlt : l.stackTraces = false) (dC : Nat → ClassId) (dI : Nat → Nat → Nat) (kA : Nat → ClassId) (adK adV : Nat → Nat) (G : gT) (H0 : Heap) (nC nS : Int) (o0 : Nat) (bd : Nat) (tn : Int32) (ta : Nat) (sp : Nat) (vc : Nat → Int32) (N : Nat) (fv : Int32) (hT : gH (dC, dI) kA (SHc nC nS) G H0) (hr_o0 : G o0 = some 14) (hm_bd : el H0 o0 (dI 14 3) = some (.ref bd)) (hr_bd : G bd = some 3) (hm_tn : el H0 o0 (dI 14 7) = some (.int tn)) (hm_ta : el H0 o0 (dI 14 0) = some (.ref ta)) (hr_ta : G ta = some 16) (hm_sp : el H0 bd (dI 3 9) = some (.ref sp)) (hr_sp : G sp = some 7) (hq0 : 0 ≤ tn.toInt ∧ tn.toInt ≤ 400) (hN : tn.toInt = ((N : Nat) : Int)) (hfv : fv = Int32.ofInt (laE (tc vc) N).2) (hc_vc : ct H0 ta 400 vc) (hgC : 0 ≤ nC ∧ nC ≤ 40) (hgS : 0 ≤ nS ∧ nS ≤ 60) : vx_Met l yX11_found w_c_foundC ({ frames := 27, cells := 1, slots := 6, locals := 614 }) (va_Pc [.ref o0] (fun U => U.heap = H0 ∧ va_K (dC, dI) vwCl (tyl kA) U ∧ EVC adK adV (gA G H0.size) U U.heap)) (va_Qi (fun (r : Int32) (u : Int32 × Int32) => match u with | (f1, t1) => (0 ≤ r.toInt ∧ r.toInt ≤ 20) ∧ ((laE (tc vc) N).2 = -1 ∧ f1.toInt = fv.toInt ∧ t1.toInt = 0)) (fun (u : Int32 × Int32) (t : State) => match u with | (f1, t1) => gH (dC, dI) kA (SHc nC nS) G t.heap ∧ gF (dC, dI) SKc G ([(3, 7), (3, 9), (3, 10), (7, 11), (7, 12), (7, 13), (14, 7), (40, 0), (41, 0), (42, 0), (43, 0), (44, 0), (45, 0), (46, 0), (47, 0), (48, 0), (49, 0)] : List (Nat × Nat)) H0 t.heap ∧ el t.heap bd (dI 3 10) = some (.int f1) ∧ el t.heap o0 (dI 14 7) = some (.int t1)) (gA G H0.size)) (vx_X (fun _ : Unit => True) (fun E _ t => (E = "java/lang/IllegalArgumentException" ∨ E = "java/lang/IllegalStateException") ∧ gH (dC, dI) kA (SHc nC nS) G t.heap ∧ gF (dC, dI) SKc G ([(3, 7), (3, 9), (3, 10), (7, 11), (7, 12), (7, 13), (14, 7), (40, 0), (41, 0), (42, 0), (43, 0), (44, 0), (45, 0), (46, 0), (47, 0), (48, 0), (49, 0)] : List (Nat × Nat)) H0 t.heap ∧ el t.heap bd (dI 3 10) = some (.int fv) ∧ el t.heap o0 (dI 14 7) = some (.int 0)) (gA G H0.size)) 1 6 (gA G H0.size) := by
  refine vx_ofW (cc := cX11_found) (maxL := 1) (ret := (some .int)) (by decide) rfl ?_
  intro p e s m args below meth c s₁ B hml hnt hv
  obtain ⟨rfl, hH0, hK, hE⟩ := hv
  have hx := B.exec
  have hb := B.bytes
  have hr := B.returns
  have hts := atoms_spec (ws := w_c_foundC) B.pre
  have hown : s.vm.findClass RX11 = some m.cls := findClass_of_methodNamed B.named
  have hlocks := B.notSynchronized
  subst hH0
  generalize hAe : gA G s.heap.size = A at hE ⊢
  have hA : ∀ q : Nat, s.heap.size ≤ q → A q := fun q h => by rw [← hAe]; exact Or.inr h
  have hG := gA_of hAe
  have hS : va_S A s.heap s.heap [] := va_S.rf
  have hF : gF (dC, dI) SKc G ([(3, 7), (3, 9), (3, 10), (7, 11), (7, 12), (7, 13), (14, 7), (40, 0), (41, 0), (42, 0), (43, 0), (44, 0), (45, 0), (46, 0), (47, 0), (48, 0), (49, 0)] : List (Nat × Nat)) s.heap s.heap := gF.rf
  have hl := lv_entry ([.ref o0]) (n := 1) (Nat.le_of_ble_eq_true rfl)
  rw [lg_entry_eq]
  generalize (lg_sl ([.ref o0]) ++ List.replicate (1 - (lg_sl ([.ref o0])).length) Slot.unset).toArray = ls at hl ⊢
  have hl : lv_has ls 1 [(0, .ref o0)] := hl
  refine lv_aload_n hx hb dX11_found_0 rfl (lv_at hl 0 rfl) ?_
  refine tw_getM (v := .ref bd) hx hb hts bF2_X11 hown hK hT hr_o0 shc_14 rfl 3 (by decide) (ht_at2 hts 0 rfl) (fun _ h9 => h9) hm_bd dX11_found_1 ?_
  refine lv_aload_n hx hb dX11_found_4 rfl (lv_at hl 0 rfl) ?_
  refine tw_getM (v := .ref bd) hx hb hts bF2_X11 hown hK hT hr_o0 shc_14 rfl 3 (by decide) (ht_at2 hts 0 rfl) (fun _ h9 => h9) hm_bd dX11_found_5 ?_
  refine tw_getNM (v := .ref sp) hx hb hts bF2_X0 hown hK hT hr_bd shc_3 rfl 9 (by decide) (hE.nw 24 rfl) (fun _ h9 => h9) hm_sp dX11_found_8 ?_
  refine lv_aload_n hx hb dX11_found_11 rfl (lv_at hl 0 rfl) ?_
  refine tw_getM (v := .ref ta) hx hb hts bF2_X11 hown hK hT hr_o0 shc_14 rfl 0 (by decide) (ht_at2 hts 1 rfl) (fun _ h9 => h9) hm_ta dX11_found_12 ?_
  refine lv_aload_n hx hb dX11_found_15 rfl (lv_at hl 0 rfl) ?_
  refine tw_getM (v := .int tn) hx hb hts bF2_X11 hown hK hT hr_o0 shc_14 rfl 7 (by decide) (ht_at2 hts 2 rfl) (fun _ h9 => h9) hm_tn dX11_found_16 ?_
  have hFc := gA_free hG hA hS
  refine va_calli (va_runV (As := [.ref ta, .int tn]) (rest := [.ref bd]) ⟨hx, hb, hml, hown, hts⟩ (c_read l dC dI kA adK adV G s.heap nC nS sp ta tn vc N hT hr_ta hr_sp (by have q8 := ti_all tn; omega) hN hc_vc (by omega) (by omega)) (cwV 2 hts (goodIn_app (goodIn_r _ [133, 134, 135, 16] rfl (by decide +kernel)) (goodIn_ca (goodIn_r _ [4, 5, 6, 7, 8, 9, 10, 11, 12, 13, 14, 15, 16, 17, 18, 19, 20, 21, 22, 23, 24, 25, 26, 27, 28, 29, 30, 31, 32, 33, 34, 35, 36, 37, 38, 39, 40, 41, 42, 43, 44, 45, 46, 47, 48, 49, 50, 51, 52, 53, 54, 55, 56, 57, 58, 59, 60, 61, 62, 63, 64, 65, 66, 67, 68, 69, 70, 71, 72, 73, 74, 75, 76, 77, 78, 79, 80, 81, 82, 83, 84, 85, 86, 87, 88, 89, 90, 91, 92, 93, 94, 95, 96, 97, 98, 99, 100, 101, 102, 103, 104, 105, 106, 107, 108, 109, 110, 111, 112, 113, 114, 115, 116, 117, 118, 119, 120, 121, 122, 123, 124, 125, 126, 127, 128, 129, 130, 131, 132] rfl (by decide +kernel)) (bs2_in _ _))) rfl rfl rfl (by decide +kernel) ⟨(Nat.le_of_ble_eq_true rfl), (Nat.le_of_ble_eq_true rfl)⟩) ⟨fun a U g mk q => by obtain ⟨q0, q1, qK, qE⟩ := q; exact ⟨q0, q1, va_K.moved (u := U) (U := U.calling g mk a) (Vm.Alike.refl U.vm) qK, EVC.blind g mk a qE⟩, gH_rc hK hT hr_sp shc_7 rfl, fun U hU hW => ⟨rfl, hU, va_K.moved hW.alike hK, hE.call hS hFc hU hW⟩⟩ rfl rfl hl.1 rfl (lv_room (Nat.le_of_ble_eq_true rfl)) dX11_found_19 ⟨(Nat.le_of_ble_eq_true rfl), (Nat.le_of_ble_eq_true rfl)⟩) hS (fun q _ h => hFc q h) hFc (fun r1 u t H locs ht hvm hw2 hB _ _ hS => ?_)
  obtain ⟨u3, rfl⟩ : ∃ z, z = u := ⟨_, rfl⟩
  obtain ⟨hT, hF1, m4⟩ := hB
  rw [ht] at hT hF1 m4
  have m5 := (hF1.fld hr_o0 skc_14 (k := 3) (by decide) (by decide)).trans hm_bd
  have hF := hF.more hF1 (by decide)
  try dsimp only at hw2
  obtain ⟨h10, hf11⟩ := hw2
  have la9 : r1.toInt = (laE (tc vc) N).2 ∧ (((laE (tc vc) N).2 = -1 ∧ u3.toInt = (laE (tc vc) N).1) ∨ (0 ≤ (laE (tc vc) N).2 ∧ (laE (tc vc) N).1 = -1)) := by rcases hf11 with ⟨a1, a2⟩ | ⟨a1, a2⟩ <;> obtain ⟨e1, e2⟩ := laE_s a2 <;> exact ⟨by omega, by omega⟩
  obtain rfl : fv = r1 := by rw [hfv, ← la9.1]; exact Int32.ofInt_toInt _
  refine tw_putN (v := .int fv) (ty := .int) hx hb hts bF2_X0 tyX0 tyX0_ok nmX0 hown hK hT hG hS hr_bd shc_3 rfl 10 (by decide) (hE.nw 25 rfl) (fun _ h9 => h9) rfl (by decide +kernel) rfl rfl (gl_at rfl (gi_all _)) dX11_found_22 (fun H locs hT oq m12 oj hS => ?_)
  have hF := hF.put hr_bd skc_3 oq oj (by decide)
  have m13 := (el_kept (oq _ (gne hr_o0 hr_bd (by decide)))).trans m5
  refine lv_aload_n hx hb dX11_found_25 rfl (lv_at hl 0 rfl) ?_
  refine lv_iconst (v := 0) hx hb dX11_found_26 (by decide) ?_
  refine tw_put (v := .int 0) (ty := .int) hx hb hts bF2_X11 tyX11 tyX11_ok nmX11 hown hK hT hG hS hr_o0 shc_14 rfl 7 (by decide) (ht_at2 hts 2 rfl) (fun _ h9 => h9) rfl (by decide +kernel) rfl rfl (gl_at rfl (gi_of (show (0 : Int32).toInt = 0 from (by decide)) (by first | decide | omega) (by first | decide | omega))) dX11_found_27 (fun H locs hT oq m19 oj hS => ?_)
  have hF := hF.put hr_o0 skc_14 oq oj (by decide)
  have m20 := (oj 3 (by decide) (by decide)).trans m13
  have m25 := (el_kept (oq _ (gne hr_bd hr_o0 (by decide)))).trans m12
  refine lv_aload_n hx hb dX11_found_30 rfl (lv_at hl 0 rfl) ?_
  refine tw_getM (v := .ref bd) hx hb hts bF2_X11 hown hK hT hr_o0 shc_14 rfl 3 (by decide) (ht_at2 hts 0 rfl) (fun _ h9 => h9) m20 dX11_found_31 ?_
  refine tw_getNM (v := .int fv) hx hb hts bF2_X0 hown hK hT hr_bd shc_3 rfl 10 (by decide) (hE.nw 25 rfl) (fun _ h9 => h9) m25 dX11_found_34 ?_
  refine lv_iconst (v := (-1)) hx hb dX11_found_37 (by decide) ?_
  have t26 : -2147483648 ≤ fv.toInt ∧ fv.toInt ≤ 2147483647 := ti_all fv
  refine lv_icmp_ne (tgt := 45) hx hb dX11_found_38 (by decide) (fun c27 => ?_) (fun c27 => ?_)
  · have t28 : fv.toInt ≠ (-1) := ti_ne c27 rfl (by decide)
    refine lv_iconst (v := 0) hx hb dX11_found_45 (by decide) ?_
    have hFc := gA_free hG hA hS
    refine vx_callN (vx_runS (As := [.int 0]) (rest := []) ⟨hx, hb, hml, hown, hts⟩ (c_needNumbers0 l hlt dC dI kA adK adV G H nC nS hT (by omega) (by omega)) (va_cwS 1 hts (goodIn_app (goodIn_r _ [139, 140, 141] rfl (by decide +kernel)) (goodIn_ca (goodIn_r _ [136, 137, 138] rfl (by decide +kernel)) (bs2_in _ _))) rfl rfl rfl (by decide +kernel) ⟨(Nat.le_of_ble_eq_true rfl), (Nat.le_of_ble_eq_true rfl)⟩) ⟨fun a U g mk q => by obtain ⟨q0, q1, qK, qE⟩ := q; exact ⟨q0, q1, va_K.moved (u := U) (U := U.calling g mk a) (Vm.Alike.refl U.vm) qK, EVC.blind g mk a qE⟩, fun U hU hW => ⟨rfl, hU, va_K.moved hW.alike hK, hE.call hS hFc hU hW⟩⟩ rfl rfl hl.1 rfl (lv_room (Nat.le_of_ble_eq_true rfl)) dX11_found_46 ⟨(Nat.le_of_ble_eq_true rfl), (Nat.le_of_ble_eq_true rfl)⟩) hS hFc (fun q _ h => hFc q h) (fun E ce q9 u t H locs ht hvm _ hw30 _ _ hS hce hcv hcl => ?_)
    obtain ⟨hw30, hTx, hFx⟩ := hw30; rw [ht] at hTx hFx
    exact vx_out (fun x h => (hnt x h).elim) hlocks hce hcv hcl (fun t2 h2 hW => ⟨(), trivial, ⟨((fun h9 => (Or.inl h9)) hw30), by rw [h2]; exact hTx, by rw [h2]; exact hF.more hFx (by decide), by rw [h2]; exact (hFx.fld hr_bd skc_3 (k := 10) (by decide) (by decide)).trans m25, by rw [h2]; exact (hFx.fld hr_o0 skc_14 (k := 7) (by decide) (by decide)).trans m19⟩, hS.F h2⟩) hS.2.2 (by decide) (by decide)
  · have t31 : fv.toInt = (-1) := ti_eq c27 rfl (by decide)
    refine lv_iconst (v := 1) hx hb dX11_found_41 (by decide) ?_
    refine lv_goto (tgt := 46) hx hb dX11_found_42 (by decide) ?_
    have hFc := gA_free hG hA hS
    refine vx_callv (vx_runS (As := [.int 1]) (rest := []) ⟨hx, hb, hml, hown, hts⟩ (c_needNumbers1X l hlt dC dI kA adK adV G H nC nS hT (by omega) (by omega)) (va_cwS 1 hts (goodIn_app (goodIn_r _ [139, 140, 141] rfl (by decide +kernel)) (goodIn_ca (goodIn_r _ [136] rfl (by decide +kernel)) (bs2_in _ _))) rfl rfl rfl (by decide +kernel) ⟨(Nat.le_of_ble_eq_true rfl), (Nat.le_of_ble_eq_true rfl)⟩) ⟨fun a U g mk q => by obtain ⟨q0, q1, qK, qE⟩ := q; exact ⟨q0, q1, va_K.moved (u := U) (U := U.calling g mk a) (Vm.Alike.refl U.vm) qK, EVC.blind g mk a qE⟩, fun U hU hW => ⟨rfl, hU, va_K.moved hW.alike hK, hE.call hS hFc hU hW⟩⟩ rfl rfl hl.1 rfl (lv_room (Nat.le_of_ble_eq_true rfl)) dX11_found_46 ⟨(Nat.le_of_ble_eq_true rfl), (Nat.le_of_ble_eq_true rfl)⟩) hS (fun q _ h => hFc q h) hFc (fun q _ h => hFc q h) (fun E ce q9 u t H locs ht hvm _ hw33 _ _ hS hce hcv hcl => ?_) (fun u t H locs ht hvm hw33 hB _ _ hS => ?_)
    · obtain ⟨hw33, hxf, hTx, hFx⟩ := hw33; rw [ht] at hTx hFx
      exact vx_out (fun x h => (hnt x h).elim) hlocks hce hcv hcl (fun t2 h2 hW => ⟨(), trivial, ⟨((fun h9 => (Or.inl h9)) hw33), by rw [h2]; exact hTx, by rw [h2]; exact hF.more hFx (by decide), by rw [h2]; exact (hFx.fld hr_bd skc_3 (k := 10) (by decide) (by decide)).trans m25, by rw [h2]; exact (hFx.fld hr_o0 skc_14 (k := 7) (by decide) (by decide)).trans m19⟩, hS.F h2⟩) hS.2.2 (by decide) (by decide)
    · obtain ⟨hT, hF1⟩ := hB
      rw [ht] at hT hF1
      have m34 := (hF1.fld hr_o0 skc_14 (k := 3) (by decide) (by decide)).trans m20
      have m39 := (hF1.fld hr_bd skc_3 (k := 10) (by decide) (by decide)).trans m25
      have m40 := (hF1.fld hr_o0 skc_14 (k := 7) (by decide) (by decide)).trans m19
      have hF := hF.more hF1 (by decide)
      try dsimp only at hw33
      refine lv_aload_n hx hb dX11_found_49 rfl (lv_at hl 0 rfl) ?_
      refine tw_getM (v := .ref bd) hx hb hts bF2_X11 hown hK hT hr_o0 shc_14 rfl 3 (by decide) (ht_at2 hts 0 rfl) (fun _ h9 => h9) m34 dX11_found_50 ?_
      refine tw_getN hx hb hts bF2_X0 hown hK hT hr_bd shc_3 rfl 15 (by decide) (hE.nw 26 rfl) (fun _ h9 => h9) dX11_found_53 (fun v9 m41 h9 => ?_)
      obtain ⟨x42, rfl, gx42, kx42⟩ := h9 _ rfl
      have t43 : -2147483648 ≤ x42.toInt ∧ x42.toInt ≤ 2147483647 := ti_all x42
      refine lv_if_le (tgt := 70) hx hb dX11_found_56 (by decide) (fun c44 => ?_) (fun c44 => ?_)
      · have t45 : x42.toInt ≤ 0 := ti_le c44 rfl (by decide)
        refine lv_aload_n hx hb dX11_found_70 rfl (lv_at hl 0 rfl) ?_
        refine tw_getM (v := .ref bd) hx hb hts bF2_X11 hown hK hT hr_o0 shc_14 rfl 3 (by decide) (ht_at2 hts 0 rfl) (fun _ h9 => h9) m34 dX11_found_71 ?_
        have hFc := gA_free hG hA hS
        refine va_calli (va_runV (As := []) (rest := []) ⟨hx, hb, hml, hown, hts⟩ (c_foundSpare l dC dI kA adK adV G H nC nS bd hT hr_bd (by omega) (by omega)) (cwV 0 hts (goodIn_app (goodIn_r _ [145, 146, 147, 148] rfl (by decide +kernel)) (goodIn_ca (goodIn_r _ [142, 143, 144] rfl (by decide +kernel)) (bs2_in _ _))) rfl rfl rfl (by decide +kernel) ⟨(Nat.le_of_ble_eq_true rfl), (Nat.le_of_ble_eq_true rfl)⟩) ⟨fun a U g mk q => by obtain ⟨q0, q1, qK, qE⟩ := q; exact ⟨q0, q1, va_K.moved (u := U) (U := U.calling g mk a) (Vm.Alike.refl U.vm) qK, EVC.blind g mk a qE⟩, gH_rc hK hT hr_bd shc_3 rfl, fun U hU hW => ⟨rfl, hU, va_K.moved hW.alike hK, hE.call hS hFc hU hW⟩⟩ rfl rfl hl.1 rfl (lv_room (Nat.le_of_ble_eq_true rfl)) dX11_found_74 ⟨(Nat.le_of_ble_eq_true rfl), (Nat.le_of_ble_eq_true rfl)⟩) hS (fun q _ h => hFc q h) hFc (fun r46 u t H locs ht hvm hw47 hB _ _ hS => ?_)
        obtain ⟨hT, hF1⟩ := hB
        rw [ht] at hT hF1
        have m53 := (hF1.fld hr_bd skc_3 (k := 10) (by decide) (by decide)).trans m39
        have m54 := (hF1.fld hr_o0 skc_14 (k := 7) (by decide) (by decide)).trans m40
        have hF := hF.more hF1 (by decide)
        try dsimp only at hw47
        have h56 := hw47
        refine W.widen (k := 1) (n := 6) (by decide) (by decide) ?_
        exact vx_ret (W.iret (v := r46) hx hb hr (fun t ht hW => ⟨⟨r46, (fv, (0 : Int32)), rfl, (by exact ⟨(by have q8 := ti_all r46; omega), (by have : (0 : Int32).toInt = 0 := (by decide); omega)⟩), by (try dsimp only); rw [ht]; exact ⟨hT, hF, m53, m54⟩⟩, hS.F ht⟩) hS.2.2 dX11_found_77)
      · have t57 : 0 < x42.toInt := ti_nle c44 rfl (by decide)
        obtain ⟨sa58, hsa58⟩ := hE.str 4 rfl
        exact vx_throwSW (names := ["java/lang/RuntimeException", "java/lang/Exception"]) hx hb hlt hown (by decide +kernel) (by decide +kernel) (ht_at2 hts 148 rfl) (ht_at2 hts 149 rfl) hsa58 (bX2_at3 hts hE) bX_ok3_69 hE.1.1.2.2.1 hE.1.1.2.2.2 hS (by rw [hml]; exact hl.1) dX11_found_59 dX11_found_62 dX11_found_63 dX11_found_66 dX11_found_69 (fun x h => (hnt x h).elim) (by decide) (Nat.le_of_ble_eq_true rfl) (Nat.le_of_ble_eq_true rfl) (Nat.le_of_ble_eq_true rfl) hlocks (fun t hW hz hq => ⟨(), trivial, ⟨(Or.inr rfl), hT.ext hq, hF.ext hT hq, (el_kept (hq _ (hT.lt hr_bd))).trans m39, (el_kept (hq _ (hT.lt hr_o0))).trans m40⟩, Nat.le_trans hS.1 hz, fun q h1 h2 => (hq q (Nat.lt_of_lt_of_le h1 hS.1)).trans (hS.2.1 q h1 h2)⟩) hS.2.2 (by decide) (by decide)
def w_c_proposeSpareC : List Cond := .code yX0_proposeSpare cX0_proposeSpare 3 (some .int) :: (HAppend.hAppend (α := List Cond) (β := List Cond) (γ := List Cond) [.fieldLink RX0 45 "SeaLand$Board" "proposed" "LSeaLand$Law;", .fieldLink RX0 48 "SeaLand$Board" "spare" "LSeaLand$Law;", .fieldLink RX0 64 "SeaLand$Board" "voting" "Z", .fieldLink RX0 68 "SeaLand$Board" "yesVotes" "J", .fieldLink RX0 72 "SeaLand$Board" "allVotes" "J", .fieldLink RX0 75 "SeaLand$Board" "settled" "I", .fieldLink RX0 11 "SeaLand$Board" "settlers" "[LSeaLand$Settler;"] bs2)
set_option maxHeartbeats 4000000 in
set_option maxRecDepth 100000 in
theorem c_proposeSpareC (l : Launch) (dC : Nat → ClassId) (dI : Nat → Nat → Nat) (kA : Nat → ClassId) (adK adV : Nat → Nat) (G : gT) (H0 : Heap) (nC nS : Int) (o0 : Nat) (sp : Nat) (ln : Int32)  (hT : gH (dC, dI) kA (SHc nC nS) G H0) (hr_o0 : G o0 = some 3) (hm_sp : el H0 o0 (dI 3 9) = some (.ref sp)) (hr_sp : G sp = some 7) (hm_ln : el H0 sp (dI 7 11) = some (.int ln)) (hq0 : 0 ≤ ln.toInt ∧ ln.toInt ≤ 20) (hgC : 0 ≤ nC ∧ nC ≤ 40) (hgS : 0 ≤ nS ∧ nS ≤ 60) : Met l yX0_proposeSpare w_c_proposeSpareC ({ frames := 0, cells := 0, slots := 0, locals := 0 }) (va_Pc [.ref o0] (fun U => U.heap = H0 ∧ va_K (dC, dI) vwCl (tyl kA) U ∧ EVC adK adV (gA G H0.size) U U.heap)) (va_Qi (fun (r : Int32) (u : Int32) => (0 ≤ r.toInt ∧ r.toInt ≤ 20) ∧ (u.toInt = 1) ∧ (r = ln)) (fun (v1 : Int32) (t : State) => gH (dC, dI) kA (SHc nC nS) G t.heap ∧ gF (dC, dI) SKc G ([(3, 8), (3, 9), (3, 11), (3, 12), (3, 13), (10, 11)] : List (Nat × Nat)) H0 t.heap ∧ el t.heap o0 (dI 3 11) = some (.int v1)) (gA G H0.size)) 0 0 (gA G H0.size) := by
  refine Met.ofW (cc := cX0_proposeSpare) (maxL := 3) (ret := (some .int)) (by decide) rfl ?_
  intro p e s m args below meth c s₁ B hml hv
  obtain ⟨rfl, hH0, hK, hE⟩ := hv
  have hx := B.exec
  have hb := B.bytes
  have hr := B.returns
  have hts := atoms_spec (ws := w_c_proposeSpareC) B.pre
  have hown : s.vm.findClass RX0 = some m.cls := findClass_of_methodNamed B.named
  have hlocks := B.notSynchronized
  subst hH0
  generalize hAe : gA G s.heap.size = A at hE ⊢
  have hA : ∀ q : Nat, s.heap.size ≤ q → A q := fun q h => by rw [← hAe]; exact Or.inr h
  have hG := gA_of hAe
  have hS : va_S A s.heap s.heap [] := va_S.rf
  have hF : gF (dC, dI) SKc G ([(3, 8), (3, 9), (3, 11), (3, 12), (3, 13), (10, 11)] : List (Nat × Nat)) s.heap s.heap := gF.rf
  have hl := lv_entry ([.ref o0]) (n := 3) (Nat.le_of_ble_eq_true rfl)
  rw [lg_entry_eq]
  generalize (lg_sl ([.ref o0]) ++ List.replicate (3 - (lg_sl ([.ref o0])).length) Slot.unset).toArray = ls at hl ⊢
  have hl : lv_has ls 3 [(0, .ref o0)] := hl
  refine lv_aload_n hx hb dX0_proposeSpare_0 rfl (lv_at hl 0 rfl) ?_
  refine tw_get hx hb hts bF2_X0 hown hK hT hr_o0 shc_3 rfl 8 (by decide) (ht_at2 hts 0 rfl) (fun _ h9 => h9) dX0_proposeSpare_1 (fun v9 m1 h9 => ?_)
  obtain ⟨b2, rfl, hg3⟩ := h9 _ rfl
  refine lv_astore_n (lv' := [(1, .ref b2), (0, .ref o0)]) hx hb dX0_proposeSpare_4 rfl hl (by decide) rfl (fun ls hl => ?_)
  refine lv_aload_n hx hb dX0_proposeSpare_5 rfl (lv_at hl 1 rfl) ?_
  refine lv_aload_n hx hb dX0_proposeSpare_6 rfl (lv_at hl 1 rfl) ?_
  refine tw_getM (v := .ref sp) hx hb hts bF2_X0 hown hK hT hr_o0 shc_3 rfl 9 (by decide) (ht_at2 hts 1 rfl) (fun _ h9 => h9) hm_sp dX0_proposeSpare_7 ?_
  refine tw_put (v := .ref sp) (ty := (.object "SeaLand$Law")) hx hb hts bF2_X0 tyX0 tyX0_ok nmX0 hown hK hT hG hS hr_o0 shc_3 rfl 8 (by decide) (ht_at2 hts 0 rfl) (fun _ h9 => h9) rfl (by decide +kernel) rfl rfl (gl_at rfl ⟨_, rfl, hr_sp⟩) dX0_proposeSpare_10 (fun H locs hT oq m4 oj hS => ?_)
  have hF := hF.put hr_o0 skc_3 oq oj (by decide)
  have m6 := (el_kept (oq _ (gne hr_sp hr_o0 (by decide)))).trans hm_ln
  refine lv_aload_n hx hb dX0_proposeSpare_13 rfl (lv_at hl 1 rfl) ?_
  refine lv_aload_n hx hb dX0_proposeSpare_14 rfl (lv_at hl 0 rfl) ?_
  refine tw_put (v := .ref b2) (ty := (.object "SeaLand$Law")) hx hb hts bF2_X0 tyX0 tyX0_ok nmX0 hown hK hT hG hS hr_o0 shc_3 rfl 9 (by decide) (ht_at2 hts 1 rfl) (fun _ h9 => h9) rfl (by decide +kernel) rfl rfl (gl_at rfl ⟨_, rfl, hg3⟩) dX0_proposeSpare_15 (fun H locs hT oq m7 oj hS => ?_)
  have hF := hF.put hr_o0 skc_3 oq oj (by decide)
  have m8 := (el_kept (oq _ (gne hr_sp hr_o0 (by decide)))).trans m6
  have m9 := (oj 8 (by decide) (by decide)).trans m4
  refine lv_aload_n hx hb dX0_proposeSpare_18 rfl (lv_at hl 1 rfl) ?_
  refine lv_iconst (v := 1) hx hb dX0_proposeSpare_19 (by decide) ?_
  refine tw_put (v := .int 1) (ty := .boolean) hx hb hts bF2_X0 tyX0 tyX0_ok nmX0 hown hK hT hG hS hr_o0 shc_3 rfl 11 (by decide) (ht_at2 hts 2 rfl) (fun _ h9 => h9) rfl (by decide +kernel) rfl rfl (gl_at rfl (gi_of (show (1 : Int32).toInt = 1 from (by decide)) (by first | decide | omega) (by first | decide | omega))) dX0_proposeSpare_20 (fun H locs hT oq m10 oj hS => ?_)
  have hF := hF.put hr_o0 skc_3 oq oj (by decide)
  have m11 := (el_kept (oq _ (gne hr_sp hr_o0 (by decide)))).trans m8
  have m12 := (oj 8 (by decide) (by decide)).trans m9
  have m13 := (oj 9 (by decide) (by decide)).trans m7
  refine lv_aload_n hx hb dX0_proposeSpare_23 rfl (lv_at hl 1 rfl) ?_
  refine lv_lconst (v := 0) hx hb dX0_proposeSpare_24 (by decide) ?_
  refine tw_put (v := .long 0) (ty := .long) hx hb hts bF2_X0 tyX0 tyX0_ok nmX0 hown hK hT hG hS hr_o0 shc_3 rfl 12 (by decide) (ht_at2 hts 3 rfl) (fun _ h9 => h9) rfl (by decide +kernel) rfl rfl (gl_at rfl ⟨_, rfl⟩) dX0_proposeSpare_25 (fun H locs hT oq m14 oj hS => ?_)
  have hF := hF.put hr_o0 skc_3 oq oj (by decide)
  have m15 := (el_kept (oq _ (gne hr_sp hr_o0 (by decide)))).trans m11
  have m16 := (oj 8 (by decide) (by decide)).trans m12
  have m17 := (oj 9 (by decide) (by decide)).trans m13
  have m18 := (oj 11 (by decide) (by decide)).trans m10
  refine lv_aload_n hx hb dX0_proposeSpare_28 rfl (lv_at hl 1 rfl) ?_
  refine lv_lconst (v := 0) hx hb dX0_proposeSpare_29 (by decide) ?_
  refine tw_put (v := .long 0) (ty := .long) hx hb hts bF2_X0 tyX0 tyX0_ok nmX0 hown hK hT hG hS hr_o0 shc_3 rfl 13 (by decide) (ht_at2 hts 4 rfl) (fun _ h9 => h9) rfl (by decide +kernel) rfl rfl (gl_at rfl ⟨_, rfl⟩) dX0_proposeSpare_30 (fun H locs hT oq m19 oj hS => ?_)
  have hF := hF.put hr_o0 skc_3 oq oj (by decide)
  have m20 := (el_kept (oq _ (gne hr_sp hr_o0 (by decide)))).trans m15
  have m21 := (oj 8 (by decide) (by decide)).trans m16
  have m22 := (oj 9 (by decide) (by decide)).trans m17
  have m23 := (oj 11 (by decide) (by decide)).trans m18
  have m24 := (oj 12 (by decide) (by decide)).trans m14
  refine lv_iconst (v := 0) hx hb dX0_proposeSpare_33 (by decide) ?_
  refine lv_istore_n (lv' := [(2, .int 0), (1, .ref b2), (0, .ref o0)]) hx hb dX0_proposeSpare_34 rfl hl (by decide) rfl (fun ls hl => ?_)
  have key53 : ∀ (n53 i25 : Nat), i25 + n53 = 60 → 0 ≤ i25 → ∀ (H : Heap) (locs : List Loc), gH (dC, dI) kA (SHc nC nS) G H → gF (dC, dI) SKc G ([(3, 8), (3, 9), (3, 11), (3, 12), (3, 13), (10, 11)] : List (Nat × Nat)) s.heap H → va_S A s.heap H locs → el H sp (dI 7 11) = some (.int ln) → el H o0 (dI 3 8) = some (.ref sp) → el H o0 (dI 3 9) = some (.ref b2) → el H o0 (dI 3 11) = some (.int 1) → el H o0 (dI 3 12) = some (.long 0) → el H o0 (dI 3 13) = some (.long 0) → ∀ ls : Array Slot, lv_has ls 3 [(2, .int (nI i25)), (1, .ref b2), (0, .ref o0)] → W p l e (headSpec w_c_proposeSpareC ({ frames := 0, cells := 0, slots := 0, locals := 0 })).room s m #[.ref o0] below meth c H locs 0 0 (MQ below (va_Qi (fun (r : Int32) (u : Int32) => (0 ≤ r.toInt ∧ r.toInt ≤ 20) ∧ (u.toInt = 1) ∧ (r = ln)) (fun (v1 : Int32) (t : State) => gH (dC, dI) kA (SHc nC nS) G t.heap ∧ gF (dC, dI) SKc G ([(3, 8), (3, 9), (3, 11), (3, 12), (3, 13), (10, 11)] : List (Nat × Nat)) s.heap t.heap ∧ el t.heap o0 (dI 3 11) = some (.int v1)) A) #[.ref o0] s 0 0 A) (F0 m 35 ls []) := by
    intro n53
    induction n53 with
    | zero =>
      intro i25 hn53 hlo54  H locs hT hF hS m26 m27 m28 m29 m30 m31 ls hl
      obtain rfl : 60 = i25 := by omega
      refine lv_iload_n hx hb dX0_proposeSpare_35 rfl (lv_at hl 0 rfl) ?_
      refine lv_aload_n hx hb dX0_proposeSpare_36 rfl (lv_at hl 2 rfl) ?_
      refine tw_get hx hb hts bF2_X0 hown hK hT hr_o0 shc_3 rfl 14 (by decide) (ht_at2 hts 5 rfl) (fun _ h9 => h9) dX0_proposeSpare_37 (fun v9 m55 h9 => ?_)
      obtain ⟨x56, rfl, gx56, kx56⟩ := h9 _ rfl
      refine lv_icmp_ge (tgt := 59) hx hb dX0_proposeSpare_40 (by decide) (fun c57 => ?_) (fun c57 => (by exfalso; have q9 : ((60 : Nat) : Int) < x56.toInt := ti_nle c57 rfl (nI_toInt (by omega)); omega))
      have t58 : x56.toInt ≤ ((60 : Nat) : Int) := ti_le c57 rfl (nI_toInt (by omega))
      refine lv_aload_n hx hb dX0_proposeSpare_59 rfl (lv_at hl 2 rfl) ?_
      refine tw_getM (v := .ref sp) hx hb hts bF2_X0 hown hK hT hr_o0 shc_3 rfl 8 (by decide) (ht_at2 hts 0 rfl) (fun _ h9 => h9) m27 dX0_proposeSpare_60 ?_
      refine tw_getNM (v := .int ln) hx hb hts bF2_X4 hown hK hT hr_sp shc_7 rfl 11 (by decide) (hE.nw 59 rfl) (fun _ h9 => h9) m26 dX0_proposeSpare_63 ?_
      exact W.iret (v := ln) hx hb hr (fun t ht hW => ⟨⟨ln, (1 : Int32), rfl, (by exact ⟨(by have q8 := ti_all ln; omega), (by have : (1 : Int32).toInt = 1 := (by decide); omega), rfl⟩), by (try dsimp only); rw [ht]; exact ⟨hT, hF, m29⟩⟩, hS.F ht⟩) hS.2.2 dX0_proposeSpare_66
    | succ n53 ih53 =>
      intro i25 hn53 hlo54  H locs hT hF hS m26 m27 m28 m29 m30 m31 ls hl
      have hlt58 : i25 < 60 := by omega
      refine lv_iload_n hx hb dX0_proposeSpare_35 rfl (lv_at hl 0 rfl) ?_
      refine lv_aload_n hx hb dX0_proposeSpare_36 rfl (lv_at hl 2 rfl) ?_
      refine tw_get hx hb hts bF2_X0 hown hK hT hr_o0 shc_3 rfl 14 (by decide) (ht_at2 hts 5 rfl) (fun _ h9 => h9) dX0_proposeSpare_37 (fun v9 m59 h9 => ?_)
      obtain ⟨x60, rfl, gx60, kx60⟩ := h9 _ rfl
      refine lv_icmp_ge (tgt := 59) hx hb dX0_proposeSpare_40 (by decide) (fun c61 => ?_) (fun c61 => ?_)
      · have t62 : x60.toInt ≤ ((i25 : Nat) : Int) := ti_le c61 rfl (nI_toInt (by omega))
        refine lv_aload_n hx hb dX0_proposeSpare_59 rfl (lv_at hl 2 rfl) ?_
        refine tw_getM (v := .ref sp) hx hb hts bF2_X0 hown hK hT hr_o0 shc_3 rfl 8 (by decide) (ht_at2 hts 0 rfl) (fun _ h9 => h9) m27 dX0_proposeSpare_60 ?_
        refine tw_getNM (v := .int ln) hx hb hts bF2_X4 hown hK hT hr_sp shc_7 rfl 11 (by decide) (hE.nw 59 rfl) (fun _ h9 => h9) m26 dX0_proposeSpare_63 ?_
        exact W.iret (v := ln) hx hb hr (fun t ht hW => ⟨⟨ln, (1 : Int32), rfl, (by exact ⟨(by have q8 := ti_all ln; omega), (by have : (1 : Int32).toInt = 1 := (by decide); omega), rfl⟩), by (try dsimp only); rw [ht]; exact ⟨hT, hF, m29⟩⟩, hS.F ht⟩) hS.2.2 dX0_proposeSpare_66
      · have t63 : ((i25 : Nat) : Int) < x60.toInt := ti_nle c61 rfl (nI_toInt (by omega))
        refine lv_aload_n hx hb dX0_proposeSpare_43 rfl (lv_at hl 2 rfl) ?_
        refine tw_get hx hb hts bF2_X0 hown hK hT hr_o0 shc_3 rfl 0 (by decide) (ht_at2 hts 6 rfl) (fun _ h9 => h9) dX0_proposeSpare_44 (fun v9 m64 h9 => ?_)
        obtain ⟨b65, rfl, hg66⟩ := h9 _ rfl
        refine lv_iload_n hx hb dX0_proposeSpare_47 rfl (lv_at hl 0 rfl) ?_
        refine tw_aald (i := (nI i25)) hx hb hK hT hg66 shc_51 rfl (vp_in_nI (by omega) (by decide)) dX0_proposeSpare_48 (fun v9 m67 h9 => ?_)
        obtain ⟨b68, rfl, hg69⟩ := (h9.1 (by have q9 := tn_of (show (nI i25).toInt = ((i25 : Nat) : Int) from (nI_toInt (by omega))) (by omega); omega))
        refine lv_iconst (v := 0) hx hb dX0_proposeSpare_49 (by decide) ?_
        refine tw_putN (v := .int 0) (ty := .boolean) hx hb hts bF2_X7 tyX7 tyX7_ok nmX7 hown hK hT hG hS hg69 shc_10 rfl 11 (by decide) (hE.nw 60 rfl) (fun _ h9 => h9) rfl (by decide +kernel) rfl rfl (gl_at rfl (gi_of (show (0 : Int32).toInt = 0 from (by decide)) (by first | decide | omega) (by first | decide | omega))) dX0_proposeSpare_50 (fun H locs hT oq m70 oj hS => ?_)
        have hF := hF.put hg69 skc_10 oq oj (by decide)
        have m71 := (el_kept (oq _ (gne hr_sp hg69 (by decide)))).trans m26
        have m72 := (el_kept (oq _ (gne hr_o0 hg69 (by decide)))).trans m27
        have m73 := (el_kept (oq _ (gne hr_o0 hg69 (by decide)))).trans m28
        have m74 := (el_kept (oq _ (gne hr_o0 hg69 (by decide)))).trans m29
        have m75 := (el_kept (oq _ (gne hr_o0 hg69 (by decide)))).trans m30
        have m76 := (el_kept (oq _ (gne hr_o0 hg69 (by decide)))).trans m31
        refine lv_iinc (v := nI (i25 + 1)) (lv' := [(2, .int (nI (i25 + 1))), (1, .ref b2), (0, .ref o0)]) hx hb dX0_proposeSpare_53 hl (k := 0) rfl (nI_add i25 1) (by decide) rfl (fun ls hl => ?_)
        refine lv_goto (tgt := 35) hx hb dX0_proposeSpare_56 (by decide) ?_
        exact ih53 (i25 + 1) (by omega) (by omega) _ _ hT hF hS m71 m72 m73 m74 m75 m76 ls (lv_sub hl [0, 1, 2] rfl)
  exact key53 (60 - 0) 0 (by omega) (Nat.le_refl _) _ _ hT hF hS m20 m21 m22 m23 m24 m19 ls (lv_sub hl [0, 1, 2] rfl)
def w_c_proposeC : List Cond := .code yX11_propose cX11_propose 1 (some .int) :: (HAppend.hAppend (α := List Cond) (β := List Cond) (γ := List Cond) [.fieldLink RX11 30 "SeaLand" "board" "LSeaLand$Board;", .fieldLink RX11 9 "SeaLand" "tape" "[I", .fieldLink RX11 47 "SeaLand" "taped" "I", .code yX4_read cX4_read 4 (some .int), .methodLink RX4 46 Lib.Math.min.name, .static Lib.Math.min.name, .initialized "java/lang/Math", .code Lib.Math.min.name Lib.Math.min.code 2 (some .int), .code yX4_scan cX4_scan 6 none, .fieldLink RX4 11 "SeaLand$Law" "things" "[I", .fieldLink RX4 15 "SeaLand$Law" "begins" "[I", .code yX4_thingEnd cX4_thingEnd 6 (some .int), .code yX4_isLetter cX4_isLetter 1 (some .boolean), .methodLink RX4 81 yX4_isLetter, .static yX4_isLetter, .initialized RX4, .code yX4_isDigit cX4_isDigit 1 (some .boolean), .methodLink RX4 84 yX4_isDigit, .static yX4_isDigit, .methodLink RX4 74 yX4_thingEnd, .static yX4_thingEnd, .code yX4_thingAt cX4_thingAt 3 (some .int), .code yX4_signThing cX4_signThing 1 (some .int), .methodLink RX4 93 yX4_signThing, .static yX4_signThing, .code yX4_numberThing cX4_numberThing 5 (some .int), .methodLink RX4 90 yX4_numberThing, .static yX4_numberThing, .code yX4_wordThing cX4_wordThing 4 (some .int), .code yX4_factThing cX4_factThing 3 (some .int), .code yX4_wordIs cX4_wordIs 5 (some .boolean), .code yJ0_length_8abf5 cJ0_length_8abf5 1 (some .int), .fieldLink RJ0 9 "java/lang/String" "value" "[B", .code yJ0_coder_7d493 cJ0_coder_7d493 1 (some .byte), .fieldLink RJ0 38 "java/lang/String" "COMPACT_STRINGS" "Z", .fieldLink RJ0 15 "java/lang/String" "coder" "B", .methodLink RJ0 335 yJ0_coder_7d493, .instanceMethod yJ0_coder_7d493, .selects RJ0 yJ0_coder_7d493 yJ0_coder_7d493, .initialized RJ0, .methodLink RX4 155 yJ0_length_8abf5, .instanceMethod yJ0_length_8abf5, .selects RJ0 yJ0_length_8abf5 yJ0_length_8abf5, .code yJ0_charAt_5068e cJ0_charAt_5068e 2 (some .char), .code yJ0_isLatin1_aae02 cJ0_isLatin1_aae02 1 (some .boolean), .methodLink RJ0 492 yJ0_isLatin1_aae02, .instanceMethod yJ0_isLatin1_aae02, .selects RJ0 yJ0_isLatin1_aae02 yJ0_isLatin1_aae02, .code yJ1_charAt_3b067 cJ1_charAt_3b067 2 (some .char), .code yJ0_checkIndex_df160 cJ0_checkIndex_df160 2 none, .fieldLink RJ0 1053 "jdk/internal/util/Preconditions" "SIOOBE_FORMATTER" "Ljava/util/function/BiFunction;", .code yJ3_checkIndex_8e157 cJ3_checkIndex_8e157 3 (some .int), .methodLink RJ0 1059 yJ3_checkIndex_8e157, .static yJ3_checkIndex_8e157, .initialized RJ3, .methodLink RJ1 9 yJ0_checkIndex_df160, .static yJ0_checkIndex_df160, .methodLink RJ0 495 yJ1_charAt_3b067, .static yJ1_charAt_3b067, .initialized RJ1, .methodLink RX4 161 yJ0_charAt_5068e, .instanceMethod yJ0_charAt_5068e, .selects RJ0 yJ0_charAt_5068e yJ0_charAt_5068e, .methodLink RX4 105 yX4_wordIs, .static yX4_wordIs, .methodLink RX4 97 yX4_factThing, .static yX4_factThing, .code yX4_lineThing cX4_lineThing 4 (some .int), .methodLink RX4 100 yX4_lineThing, .static yX4_lineThing, .methodLink RX4 87 yX4_wordThing, .static yX4_wordThing, .methodLink RX4 78 yX4_thingAt, .static yX4_thingAt, .methodLink RX4 52 yX4_scan, .instanceMethod yX4_scan, .selects RX4 yX4_scan yX4_scan, .fieldLink RX4 56 "SeaLand$Law" "at" "I", .fieldLink RX4 60 "SeaLand$Law" "lines" "I", .fieldLink RX4 63 "SeaLand$Law" "stepped" "I", .code yX4_readLine cX4_readLine 3 (some .boolean), .code yX4_lineKind cX4_lineKind 1 (some .int), .methodLink RX4 165 yX4_lineKind, .static yX4_lineKind, .fieldLink RX4 18 "SeaLand$Law" "kinds" "[I", .fieldLink RX4 33 "SeaLand$Law" "stepFrom" "[I", .code yX4_take cX4_take 2 (some .boolean), .methodLink RX4 70 yX4_take, .instanceMethod yX4_take, .selects RX4 yX4_take yX4_take, .fieldLink RX4 36 "SeaLand$Law" "stepTo" "[I", .code yX4_readAny cX4_readAny 4 (some .boolean), .code yX4_readAll cX4_readAll 4 (some .boolean), .code yX4_readAtom cX4_readAtom 4 (some .boolean), .code yX4_readComparison cX4_readComparison 3 (some .boolean), .code yX4_readSum cX4_readSum 3 (some .boolean), .code yX4_readPart cX4_readPart 2 (some .boolean), .code yX4_addStep cX4_addStep 2 none, .fieldLink RX4 39 "SeaLand$Law" "steps" "[I", .methodLink RX4 179 yX4_addStep, .instanceMethod yX4_addStep, .selects RX4 yX4_addStep yX4_addStep, .methodLink RX4 192 yX4_readPart, .instanceMethod yX4_readPart, .selects RX4 yX4_readPart yX4_readPart, .methodLink RX4 189 yX4_readSum, .instanceMethod yX4_readSum, .selects RX4 yX4_readSum yX4_readSum, .methodLink RX4 186 yX4_readComparison, .instanceMethod yX4_readComparison, .selects RX4 yX4_readComparison yX4_readComparison, .methodLink RX4 183 yX4_readAtom, .instanceMethod yX4_readAtom, .selects RX4 yX4_readAtom yX4_readAtom, .methodLink RX4 176 yX4_readAll, .instanceMethod yX4_readAll, .selects RX4 yX4_readAll yX4_readAll, .methodLink RX4 173 yX4_readAny, .instanceMethod yX4_readAny, .selects RX4 yX4_readAny yX4_readAny, .fieldLink RX4 21 "SeaLand$Law" "firsts" "[I", .code yX4_takeNumber cX4_takeNumber 4 (some .boolean), .methodLink RX4 168 yX4_takeNumber, .instanceMethod yX4_takeNumber, .selects RX4 yX4_takeNumber yX4_takeNumber, .fieldLink RX4 24 "SeaLand$Law" "seconds" "[I", .fieldLink RX4 27 "SeaLand$Law" "froms" "[I", .fieldLink RX4 30 "SeaLand$Law" "tos" "[I", .constant RX4 172 99999, .methodLink RX4 66 yX4_readLine, .instanceMethod yX4_readLine, .selects RX4 yX4_readLine yX4_readLine, .methodLink RX11 266 yX4_read, .instanceMethod yX4_read, .selects RX4 yX4_read yX4_read, .code yX11_needNumbers cX11_needNumbers 1 none, .classLink RX11 547 "java/lang/IllegalArgumentException", .initialized "java/lang/IllegalArgumentException", .methodLink RX11 62 yX11_needNumbers, .static yX11_needNumbers, .initialized RX11, .code yX0_proposeSpare cX0_proposeSpare 3 (some .int), .fieldLink RX0 45 "SeaLand$Board" "proposed" "LSeaLand$Law;", .fieldLink RX0 48 "SeaLand$Board" "spare" "LSeaLand$Law;", .fieldLink RX0 64 "SeaLand$Board" "voting" "Z", .fieldLink RX0 68 "SeaLand$Board" "yesVotes" "J", .fieldLink RX0 72 "SeaLand$Board" "allVotes" "J", .fieldLink RX0 75 "SeaLand$Board" "settled" "I", .fieldLink RX0 11 "SeaLand$Board" "settlers" "[LSeaLand$Settler;", .methodLink RX11 289 yX0_proposeSpare, .instanceMethod yX0_proposeSpare, .selects RX0 yX0_proposeSpare yX0_proposeSpare, .initialized RX0, .classLink RX11 69 "java/lang/IllegalStateException", .initialized "java/lang/IllegalStateException"] bs2)
set_option maxHeartbeats 4000000 in
set_option maxRecDepth 100000 in
theorem c_proposeC (l : Launch) (hlt : l.stackTraces = false) (dC : Nat → ClassId) (dI : Nat → Nat → Nat) (kA : Nat → ClassId) (adK adV : Nat → Nat) (G : gT) (H0 : Heap) (nC nS : Int) (o0 : Nat) (bd : Nat) (tn : Int32) (ta : Nat) (sp : Nat) (vo : Int32) (vc : Nat → Int32) (N : Nat) (fv : Int32) (hT : gH (dC, dI) kA (SHc nC nS) G H0) (hr_o0 : G o0 = some 14) (hm_bd : el H0 o0 (dI 14 3) = some (.ref bd)) (hr_bd : G bd = some 3) (hm_tn : el H0 o0 (dI 14 7) = some (.int tn)) (hm_ta : el H0 o0 (dI 14 0) = some (.ref ta)) (hr_ta : G ta = some 16) (hm_sp : el H0 bd (dI 3 9) = some (.ref sp)) (hr_sp : G sp = some 7) (hm_vo : el H0 bd (dI 3 11) = some (.int vo)) (hq0 : 0 ≤ tn.toInt ∧ tn.toInt ≤ 400) (hq1 : 0 ≤ vo.toInt ∧ vo.toInt ≤ 1) (hN : tn.toInt = ((N : Nat) : Int)) (hfv : fv = Int32.ofInt (laE (tc vc) N).2) (hc_vc : ct H0 ta 400 vc) (hgC : 0 ≤ nC ∧ nC ≤ 40) (hgS : 0 ≤ nS ∧ nS ≤ 60) : vx_Met l yX11_propose w_c_proposeC ({ frames := 27, cells := 1, slots := 6, locals := 614 }) (va_Pc [.ref o0] (fun U => U.heap = H0 ∧ va_K (dC, dI) vwCl (tyl kA) U ∧ EVC adK adV (gA G H0.size) U U.heap)) (va_Qi (fun (r : Int32) (u : Int32 × Int32 × Int32) => match u with | (f1, t1, v1) => (0 ≤ r.toInt ∧ r.toInt ≤ 20) ∧ (prK (laE (tc vc) N).2 vo.toInt = 0 ∧ f1.toInt = fv.toInt ∧ t1.toInt = 0 ∧ v1.toInt = 1 ∧ r.toInt = (laE (tc vc) N).1)) (fun (u : Int32 × Int32 × Int32) (t : State) => match u with | (f1, t1, v1) => gH (dC, dI) kA (SHc nC nS) G t.heap ∧ gF (dC, dI) SKc G ([(3, 8), (3, 9), (3, 10), (3, 11), (3, 12), (3, 13), (7, 11), (7, 12), (7, 13), (10, 11), (14, 7), (40, 0), (41, 0), (42, 0), (43, 0), (44, 0), (45, 0), (46, 0), (47, 0), (48, 0), (49, 0)] : List (Nat × Nat)) H0 t.heap ∧ el t.heap bd (dI 3 10) = some (.int f1) ∧ el t.heap o0 (dI 14 7) = some (.int t1) ∧ el t.heap bd (dI 3 11) = some (.int v1)) (gA G H0.size)) (vx_X (fun _ : Unit => True) (fun E _ t => (E = "java/lang/IllegalArgumentException" ∨ E = "java/lang/IllegalStateException") ∧ ((E = "java/lang/IllegalArgumentException" ∧ prK (laE (tc vc) N).2 vo.toInt = 1) ∨ (E = "java/lang/IllegalStateException" ∧ prK (laE (tc vc) N).2 vo.toInt = 2)) ∧ gH (dC, dI) kA (SHc nC nS) G t.heap ∧ gF (dC, dI) SKc G ([(3, 8), (3, 9), (3, 10), (3, 11), (3, 12), (3, 13), (7, 11), (7, 12), (7, 13), (10, 11), (14, 7), (40, 0), (41, 0), (42, 0), (43, 0), (44, 0), (45, 0), (46, 0), (47, 0), (48, 0), (49, 0)] : List (Nat × Nat)) H0 t.heap ∧ el t.heap bd (dI 3 10) = some (.int fv) ∧ el t.heap o0 (dI 14 7) = some (.int 0) ∧ el t.heap bd (dI 3 11) = some (.int vo)) (gA G H0.size)) 1 6 (gA G H0.size) := by
  refine vx_ofW (cc := cX11_propose) (maxL := 1) (ret := (some .int)) (by decide) rfl ?_
  intro p e s m args below meth c s₁ B hml hnt hv
  obtain ⟨rfl, hH0, hK, hE⟩ := hv
  have hx := B.exec
  have hb := B.bytes
  have hr := B.returns
  have hts := atoms_spec (ws := w_c_proposeC) B.pre
  have hown : s.vm.findClass RX11 = some m.cls := findClass_of_methodNamed B.named
  have hlocks := B.notSynchronized
  subst hH0
  generalize hAe : gA G s.heap.size = A at hE ⊢
  have hA : ∀ q : Nat, s.heap.size ≤ q → A q := fun q h => by rw [← hAe]; exact Or.inr h
  have hG := gA_of hAe
  have hS : va_S A s.heap s.heap [] := va_S.rf
  have hF : gF (dC, dI) SKc G ([(3, 8), (3, 9), (3, 10), (3, 11), (3, 12), (3, 13), (7, 11), (7, 12), (7, 13), (10, 11), (14, 7), (40, 0), (41, 0), (42, 0), (43, 0), (44, 0), (45, 0), (46, 0), (47, 0), (48, 0), (49, 0)] : List (Nat × Nat)) s.heap s.heap := gF.rf
  have hl := lv_entry ([.ref o0]) (n := 1) (Nat.le_of_ble_eq_true rfl)
  rw [lg_entry_eq]
  generalize (lg_sl ([.ref o0]) ++ List.replicate (1 - (lg_sl ([.ref o0])).length) Slot.unset).toArray = ls at hl ⊢
  have hl : lv_has ls 1 [(0, .ref o0)] := hl
  refine lv_aload_n hx hb dX11_propose_0 rfl (lv_at hl 0 rfl) ?_
  refine tw_getM (v := .ref bd) hx hb hts bF2_X11 hown hK hT hr_o0 shc_14 rfl 3 (by decide) (ht_at2 hts 0 rfl) (fun _ h9 => h9) hm_bd dX11_propose_1 ?_
  refine lv_aload_n hx hb dX11_propose_4 rfl (lv_at hl 0 rfl) ?_
  refine tw_getM (v := .ref bd) hx hb hts bF2_X11 hown hK hT hr_o0 shc_14 rfl 3 (by decide) (ht_at2 hts 0 rfl) (fun _ h9 => h9) hm_bd dX11_propose_5 ?_
  refine tw_getNM (v := .ref sp) hx hb hts bF2_X0 hown hK hT hr_bd shc_3 rfl 9 (by decide) (hE.nw 24 rfl) (fun _ h9 => h9) hm_sp dX11_propose_8 ?_
  refine lv_aload_n hx hb dX11_propose_11 rfl (lv_at hl 0 rfl) ?_
  refine tw_getM (v := .ref ta) hx hb hts bF2_X11 hown hK hT hr_o0 shc_14 rfl 0 (by decide) (ht_at2 hts 1 rfl) (fun _ h9 => h9) hm_ta dX11_propose_12 ?_
  refine lv_aload_n hx hb dX11_propose_15 rfl (lv_at hl 0 rfl) ?_
  refine tw_getM (v := .int tn) hx hb hts bF2_X11 hown hK hT hr_o0 shc_14 rfl 7 (by decide) (ht_at2 hts 2 rfl) (fun _ h9 => h9) hm_tn dX11_propose_16 ?_
  have hFc := gA_free hG hA hS
  refine va_calli (va_runV (As := [.ref ta, .int tn]) (rest := [.ref bd]) ⟨hx, hb, hml, hown, hts⟩ (c_read l dC dI kA adK adV G s.heap nC nS sp ta tn vc N hT hr_ta hr_sp (by have q8 := ti_all tn; omega) hN hc_vc (by omega) (by omega)) (cwV 2 hts (goodIn_app (goodIn_r _ [133, 134, 135, 16] rfl (by decide +kernel)) (goodIn_ca (goodIn_r _ [4, 5, 6, 7, 8, 9, 10, 11, 12, 13, 14, 15, 16, 17, 18, 19, 20, 21, 22, 23, 24, 25, 26, 27, 28, 29, 30, 31, 32, 33, 34, 35, 36, 37, 38, 39, 40, 41, 42, 43, 44, 45, 46, 47, 48, 49, 50, 51, 52, 53, 54, 55, 56, 57, 58, 59, 60, 61, 62, 63, 64, 65, 66, 67, 68, 69, 70, 71, 72, 73, 74, 75, 76, 77, 78, 79, 80, 81, 82, 83, 84, 85, 86, 87, 88, 89, 90, 91, 92, 93, 94, 95, 96, 97, 98, 99, 100, 101, 102, 103, 104, 105, 106, 107, 108, 109, 110, 111, 112, 113, 114, 115, 116, 117, 118, 119, 120, 121, 122, 123, 124, 125, 126, 127, 128, 129, 130, 131, 132] rfl (by decide +kernel)) (bs2_in _ _))) rfl rfl rfl (by decide +kernel) ⟨(Nat.le_of_ble_eq_true rfl), (Nat.le_of_ble_eq_true rfl)⟩) ⟨fun a U g mk q => by obtain ⟨q0, q1, qK, qE⟩ := q; exact ⟨q0, q1, va_K.moved (u := U) (U := U.calling g mk a) (Vm.Alike.refl U.vm) qK, EVC.blind g mk a qE⟩, gH_rc hK hT hr_sp shc_7 rfl, fun U hU hW => ⟨rfl, hU, va_K.moved hW.alike hK, hE.call hS hFc hU hW⟩⟩ rfl rfl hl.1 rfl (lv_room (Nat.le_of_ble_eq_true rfl)) dX11_propose_19 ⟨(Nat.le_of_ble_eq_true rfl), (Nat.le_of_ble_eq_true rfl)⟩) hS (fun q _ h => hFc q h) hFc (fun r1 u t H locs ht hvm hw2 hB _ _ hS => ?_)
  obtain ⟨u3, rfl⟩ : ∃ z, z = u := ⟨_, rfl⟩
  obtain ⟨hT, hF1, m4⟩ := hB
  rw [ht] at hT hF1 m4
  have m5 := (hF1.fld hr_o0 skc_14 (k := 3) (by decide) (by decide)).trans hm_bd
  have m8 := (hF1.fld hr_bd skc_3 (k := 9) (by decide) (by decide)).trans hm_sp
  have m9 := (hF1.fld hr_bd skc_3 (k := 11) (by decide) (by decide)).trans hm_vo
  have hF := hF.more hF1 (by decide)
  try dsimp only at hw2
  obtain ⟨h11, hf12⟩ := hw2
  have la9 : r1.toInt = (laE (tc vc) N).2 ∧ (((laE (tc vc) N).2 = -1 ∧ u3.toInt = (laE (tc vc) N).1) ∨ (0 ≤ (laE (tc vc) N).2 ∧ (laE (tc vc) N).1 = -1)) := by rcases hf12 with ⟨a1, a2⟩ | ⟨a1, a2⟩ <;> obtain ⟨e1, e2⟩ := laE_s a2 <;> exact ⟨by omega, by omega⟩
  obtain rfl : fv = r1 := by rw [hfv, ← la9.1]; exact Int32.ofInt_toInt _
  refine tw_putN (v := .int fv) (ty := .int) hx hb hts bF2_X0 tyX0 tyX0_ok nmX0 hown hK hT hG hS hr_bd shc_3 rfl 10 (by decide) (hE.nw 25 rfl) (fun _ h9 => h9) rfl (by decide +kernel) rfl rfl (gl_at rfl (gi_all _)) dX11_propose_22 (fun H locs hT oq m13 oj hS => ?_)
  have hF := hF.put hr_bd skc_3 oq oj (by decide)
  have m14 := (el_kept (oq _ (gne hr_o0 hr_bd (by decide)))).trans m5
  have m17 := (oj 9 (by decide) (by decide)).trans m8
  have m18 := (oj 11 (by decide) (by decide)).trans m9
  have m20 := (el_kept (oq _ (gne hr_sp hr_bd (by decide)))).trans m4
  refine lv_aload_n hx hb dX11_propose_25 rfl (lv_at hl 0 rfl) ?_
  refine lv_iconst (v := 0) hx hb dX11_propose_26 (by decide) ?_
  refine tw_put (v := .int 0) (ty := .int) hx hb hts bF2_X11 tyX11 tyX11_ok nmX11 hown hK hT hG hS hr_o0 shc_14 rfl 7 (by decide) (ht_at2 hts 2 rfl) (fun _ h9 => h9) rfl (by decide +kernel) rfl rfl (gl_at rfl (gi_of (show (0 : Int32).toInt = 0 from (by decide)) (by first | decide | omega) (by first | decide | omega))) dX11_propose_27 (fun H locs hT oq m21 oj hS => ?_)
  have hF := hF.put hr_o0 skc_14 oq oj (by decide)
  have m22 := (oj 3 (by decide) (by decide)).trans m14
  have m24 := (el_kept (oq _ (gne hr_bd hr_o0 (by decide)))).trans m17
  have m25 := (el_kept (oq _ (gne hr_bd hr_o0 (by decide)))).trans m18
  have m27 := (el_kept (oq _ (gne hr_sp hr_o0 (by decide)))).trans m20
  have m28 := (el_kept (oq _ (gne hr_bd hr_o0 (by decide)))).trans m13
  refine lv_aload_n hx hb dX11_propose_30 rfl (lv_at hl 0 rfl) ?_
  refine tw_getM (v := .ref bd) hx hb hts bF2_X11 hown hK hT hr_o0 shc_14 rfl 3 (by decide) (ht_at2 hts 0 rfl) (fun _ h9 => h9) m22 dX11_propose_31 ?_
  refine tw_getNM (v := .int fv) hx hb hts bF2_X0 hown hK hT hr_bd shc_3 rfl 10 (by decide) (hE.nw 25 rfl) (fun _ h9 => h9) m28 dX11_propose_34 ?_
  refine lv_iconst (v := (-1)) hx hb dX11_propose_37 (by decide) ?_
  have t29 : -2147483648 ≤ fv.toInt ∧ fv.toInt ≤ 2147483647 := ti_all fv
  refine lv_icmp_ne (tgt := 45) hx hb dX11_propose_38 (by decide) (fun c30 => ?_) (fun c30 => ?_)
  · have t31 : fv.toInt ≠ (-1) := ti_ne c30 rfl (by decide)
    refine lv_iconst (v := 0) hx hb dX11_propose_45 (by decide) ?_
    have hFc := gA_free hG hA hS
    refine vx_callN (vx_runS (As := [.int 0]) (rest := []) ⟨hx, hb, hml, hown, hts⟩ (c_needNumbers0 l hlt dC dI kA adK adV G H nC nS hT (by omega) (by omega)) (va_cwS 1 hts (goodIn_app (goodIn_r _ [139, 140, 141] rfl (by decide +kernel)) (goodIn_ca (goodIn_r _ [136, 137, 138] rfl (by decide +kernel)) (bs2_in _ _))) rfl rfl rfl (by decide +kernel) ⟨(Nat.le_of_ble_eq_true rfl), (Nat.le_of_ble_eq_true rfl)⟩) ⟨fun a U g mk q => by obtain ⟨q0, q1, qK, qE⟩ := q; exact ⟨q0, q1, va_K.moved (u := U) (U := U.calling g mk a) (Vm.Alike.refl U.vm) qK, EVC.blind g mk a qE⟩, fun U hU hW => ⟨rfl, hU, va_K.moved hW.alike hK, hE.call hS hFc hU hW⟩⟩ rfl rfl hl.1 rfl (lv_room (Nat.le_of_ble_eq_true rfl)) dX11_propose_46 ⟨(Nat.le_of_ble_eq_true rfl), (Nat.le_of_ble_eq_true rfl)⟩) hS hFc (fun q _ h => hFc q h) (fun E ce q9 u t H locs ht hvm _ hw33 _ _ hS hce hcv hcl => ?_)
    obtain ⟨hw33, hTx, hFx⟩ := hw33; rw [ht] at hTx hFx
    exact vx_out (fun x h => (hnt x h).elim) hlocks hce hcv hcl (fun t2 h2 hW => ⟨(), trivial, ⟨((fun h9 => (Or.inl h9)) hw33), (Or.inl ⟨hw33, (by have := prK_s (laE (tc vc) N).2 vo.toInt; first | omega | exact hxf.elim)⟩), by rw [h2]; exact hTx, by rw [h2]; exact hF.more hFx (by decide), by rw [h2]; exact (hFx.fld hr_bd skc_3 (k := 10) (by decide) (by decide)).trans m28, by rw [h2]; exact (hFx.fld hr_o0 skc_14 (k := 7) (by decide) (by decide)).trans m21, by rw [h2]; exact (hFx.fld hr_bd skc_3 (k := 11) (by decide) (by decide)).trans m25⟩, hS.F h2⟩) hS.2.2 (by decide) (by decide)
  · have t34 : fv.toInt = (-1) := ti_eq c30 rfl (by decide)
    refine lv_iconst (v := 1) hx hb dX11_propose_41 (by decide) ?_
    refine lv_goto (tgt := 46) hx hb dX11_propose_42 (by decide) ?_
    have hFc := gA_free hG hA hS
    refine vx_callv (vx_runS (As := [.int 1]) (rest := []) ⟨hx, hb, hml, hown, hts⟩ (c_needNumbers1X l hlt dC dI kA adK adV G H nC nS hT (by omega) (by omega)) (va_cwS 1 hts (goodIn_app (goodIn_r _ [139, 140, 141] rfl (by decide +kernel)) (goodIn_ca (goodIn_r _ [136] rfl (by decide +kernel)) (bs2_in _ _))) rfl rfl rfl (by decide +kernel) ⟨(Nat.le_of_ble_eq_true rfl), (Nat.le_of_ble_eq_true rfl)⟩) ⟨fun a U g mk q => by obtain ⟨q0, q1, qK, qE⟩ := q; exact ⟨q0, q1, va_K.moved (u := U) (U := U.calling g mk a) (Vm.Alike.refl U.vm) qK, EVC.blind g mk a qE⟩, fun U hU hW => ⟨rfl, hU, va_K.moved hW.alike hK, hE.call hS hFc hU hW⟩⟩ rfl rfl hl.1 rfl (lv_room (Nat.le_of_ble_eq_true rfl)) dX11_propose_46 ⟨(Nat.le_of_ble_eq_true rfl), (Nat.le_of_ble_eq_true rfl)⟩) hS (fun q _ h => hFc q h) hFc (fun q _ h => hFc q h) (fun E ce q9 u t H locs ht hvm _ hw36 _ _ hS hce hcv hcl => ?_) (fun u t H locs ht hvm hw36 hB _ _ hS => ?_)
    · obtain ⟨hw36, hxf, hTx, hFx⟩ := hw36; rw [ht] at hTx hFx
      exact vx_out (fun x h => (hnt x h).elim) hlocks hce hcv hcl (fun t2 h2 hW => ⟨(), trivial, ⟨((fun h9 => (Or.inl h9)) hw36), (Or.inl ⟨hw36, (by have := prK_s (laE (tc vc) N).2 vo.toInt; first | omega | exact hxf.elim)⟩), by rw [h2]; exact hTx, by rw [h2]; exact hF.more hFx (by decide), by rw [h2]; exact (hFx.fld hr_bd skc_3 (k := 10) (by decide) (by decide)).trans m28, by rw [h2]; exact (hFx.fld hr_o0 skc_14 (k := 7) (by decide) (by decide)).trans m21, by rw [h2]; exact (hFx.fld hr_bd skc_3 (k := 11) (by decide) (by decide)).trans m25⟩, hS.F h2⟩) hS.2.2 (by decide) (by decide)
    · obtain ⟨hT, hF1⟩ := hB
      rw [ht] at hT hF1
      have m37 := (hF1.fld hr_o0 skc_14 (k := 3) (by decide) (by decide)).trans m22
      have m39 := (hF1.fld hr_bd skc_3 (k := 9) (by decide) (by decide)).trans m24
      have m40 := (hF1.fld hr_bd skc_3 (k := 11) (by decide) (by decide)).trans m25
      have m42 := (hF1.fld hr_sp skc_7 (k := 11) (by decide) (by decide)).trans m27
      have m43 := (hF1.fld hr_bd skc_3 (k := 10) (by decide) (by decide)).trans m28
      have m44 := (hF1.fld hr_o0 skc_14 (k := 7) (by decide) (by decide)).trans m21
      have hF := hF.more hF1 (by decide)
      try dsimp only at hw36
      refine lv_aload_n hx hb dX11_propose_49 rfl (lv_at hl 0 rfl) ?_
      refine tw_getM (v := .ref bd) hx hb hts bF2_X11 hown hK hT hr_o0 shc_14 rfl 3 (by decide) (ht_at2 hts 0 rfl) (fun _ h9 => h9) m37 dX11_propose_50 ?_
      refine tw_getNM (v := .int vo) hx hb hts bF2_X0 hown hK hT hr_bd shc_3 rfl 11 (by decide) (hE.nw 27 rfl) (fun _ h9 => h9) m40 dX11_propose_53 ?_
      refine lv_if_eq (tgt := 70) hx hb dX11_propose_56 (by decide) (fun c45 => ?_) (fun c45 => ?_)
      · have t46 : vo.toInt = 0 := ti_eq c45 rfl (by decide)
        refine lv_aload_n hx hb dX11_propose_70 rfl (lv_at hl 0 rfl) ?_
        refine tw_getM (v := .ref bd) hx hb hts bF2_X11 hown hK hT hr_o0 shc_14 rfl 3 (by decide) (ht_at2 hts 0 rfl) (fun _ h9 => h9) m37 dX11_propose_71 ?_
        have hFc := gA_free hG hA hS
        refine va_calli (va_runV (As := []) (rest := []) ⟨hx, hb, hml, hown, hts⟩ (c_proposeSpareC l dC dI kA adK adV G H nC nS bd sp u3 hT hr_bd m39 hr_sp m42 (by have q8 := ti_all u3; omega) (by omega) (by omega)) (cwV 0 hts (goodIn_app (goodIn_r _ [150, 151, 152, 153] rfl (by decide +kernel)) (goodIn_ca (goodIn_r _ [142, 143, 144, 145, 146, 147, 148, 149] rfl (by decide +kernel)) (bs2_in _ _))) rfl rfl rfl (by decide +kernel) ⟨(Nat.le_of_ble_eq_true rfl), (Nat.le_of_ble_eq_true rfl)⟩) ⟨fun a U g mk q => by obtain ⟨q0, q1, qK, qE⟩ := q; exact ⟨q0, q1, va_K.moved (u := U) (U := U.calling g mk a) (Vm.Alike.refl U.vm) qK, EVC.blind g mk a qE⟩, gH_rc hK hT hr_bd shc_3 rfl, fun U hU hW => ⟨rfl, hU, va_K.moved hW.alike hK, hE.call hS hFc hU hW⟩⟩ rfl rfl hl.1 rfl (lv_room (Nat.le_of_ble_eq_true rfl)) dX11_propose_74 ⟨(Nat.le_of_ble_eq_true rfl), (Nat.le_of_ble_eq_true rfl)⟩) hS (fun q _ h => hFc q h) hFc (fun r47 u t H locs ht hvm hw48 hB _ _ hS => ?_)
        obtain ⟨u49, rfl⟩ : ∃ z, z = u := ⟨_, rfl⟩
        obtain ⟨hT, hF1, m50⟩ := hB
        rw [ht] at hT hF1 m50
        have m57 := (hF1.fld hr_bd skc_3 (k := 10) (by decide) (by decide)).trans m43
        have m58 := (hF1.fld hr_o0 skc_14 (k := 7) (by decide) (by decide)).trans m44
        have hF := hF.more hF1 (by decide)
        try dsimp only at hw48
        obtain ⟨h59, hf60, hd61⟩ := hw48
        obtain rfl : u3 = r47 := hd61.symm
        refine W.widen (k := 1) (n := 6) (by decide) (by decide) ?_
        exact vx_ret (W.iret (v := u3) hx hb hr (fun t ht hW => ⟨⟨u3, (fv, (0 : Int32), u49), rfl, (by exact ⟨(by have q8 := ti_all u3; omega), (by have := prK_s (laE (tc vc) N).2 vo.toInt; have : (0 : Int32).toInt = 0 := (by decide); omega)⟩), by (try dsimp only); rw [ht]; exact ⟨hT, hF, m57, m58, m50⟩⟩, hS.F ht⟩) hS.2.2 dX11_propose_77)
      · have t62 : vo.toInt ≠ 0 := ti_ne c45 rfl (by decide)
        obtain ⟨sa63, hsa63⟩ := hE.str 5 rfl
        exact vx_throwSW (names := ["java/lang/RuntimeException", "java/lang/Exception"]) hx hb hlt hown (by decide +kernel) (by decide +kernel) (ht_at2 hts 153 rfl) (ht_at2 hts 154 rfl) hsa63 (bX2_at3 hts hE) bX_ok3_69 hE.1.1.2.2.1 hE.1.1.2.2.2 hS (by rw [hml]; exact hl.1) dX11_propose_59 dX11_propose_62 dX11_propose_63 dX11_propose_66 dX11_propose_69 (fun x h => (hnt x h).elim) (by decide) (Nat.le_of_ble_eq_true rfl) (Nat.le_of_ble_eq_true rfl) (Nat.le_of_ble_eq_true rfl) hlocks (fun t hW hz hq => ⟨(), trivial, ⟨(Or.inr rfl), (Or.inr (⟨rfl, (by have := prK_s (laE (tc vc) N).2 vo.toInt; first | omega | exact hxf.elim)⟩)), hT.ext hq, hF.ext hT hq, (el_kept (hq _ (hT.lt hr_bd))).trans m43, (el_kept (hq _ (hT.lt hr_o0))).trans m44, (el_kept (hq _ (hT.lt hr_bd))).trans m40⟩, Nat.le_trans hS.1 hz, fun q h1 h2 => (hq q (Nat.lt_of_lt_of_le h1 hS.1)).trans (hS.2.1 q h1 h2)⟩) hS.2.2 (by decide) (by decide)
def w_c_needVoteC : List Cond := .code yX11_needVote cX11_needVote 1 none :: (HAppend.hAppend (α := List Cond) (β := List Cond) (γ := List Cond) [.fieldLink RX11 30 "SeaLand" "board" "LSeaLand$Board;", .classLink RX11 69 "java/lang/IllegalStateException", .initialized "java/lang/IllegalStateException"] bs2)
set_option maxHeartbeats 4000000 in
set_option maxRecDepth 100000 in
theorem c_needVoteC (l : Launch) (hlt : l.stackTraces = false) (dC : Nat → ClassId) (dI : Nat → Nat → Nat) (kA : Nat → ClassId) (adK adV : Nat → Nat) (G : gT) (H0 : Heap) (nC nS : Int) (o0 : Nat) (bd : Nat) (vo : Int32)  (hT : gH (dC, dI) kA (SHc nC nS) G H0) (hr_o0 : G o0 = some 14) (hm_bd : el H0 o0 (dI 14 3) = some (.ref bd)) (hr_bd : G bd = some 3) (hm_vo : el H0 bd (dI 3 11) = some (.int vo)) (hq0 : 0 ≤ vo.toInt ∧ vo.toInt ≤ 1) (hgC : 0 ≤ nC ∧ nC ≤ 40) (hgS : 0 ≤ nS ∧ nS ≤ 60) : vx_Met l yX11_needVote w_c_needVoteC ({ frames := 6, cells := 1, slots := 6, locals := 100 }) (va_Pc [.ref o0] (fun U => U.heap = H0 ∧ va_K (dC, dI) vwCl (tyl kA) U ∧ EVC adK adV (gA G H0.size) U U.heap)) (va_Qv (fun (u : Unit) => (vo.toInt = 1)) (fun (_ : Unit) (t : State) => gH (dC, dI) kA (SHc nC nS) G t.heap ∧ gF (dC, dI) SKc G ([] : List (Nat × Nat)) H0 t.heap) (gA G H0.size)) (vx_X (fun _ : Unit => True) (fun E _ t => (E = "java/lang/IllegalStateException") ∧ (vo.toInt = 0) ∧ gH (dC, dI) kA (SHc nC nS) G t.heap ∧ gF (dC, dI) SKc G ([] : List (Nat × Nat)) H0 t.heap) (gA G H0.size)) 1 6 (gA G H0.size) := by
  refine vx_ofW (cc := cX11_needVote) (maxL := 1) (ret := none) (by decide) rfl ?_
  intro p e s m args below meth c s₁ B hml hnt hv
  obtain ⟨rfl, hH0, hK, hE⟩ := hv
  have hx := B.exec
  have hb := B.bytes
  have hr := B.returns
  have hts := atoms_spec (ws := w_c_needVoteC) B.pre
  have hown : s.vm.findClass RX11 = some m.cls := findClass_of_methodNamed B.named
  have hlocks := B.notSynchronized
  subst hH0
  generalize hAe : gA G s.heap.size = A at hE ⊢
  have hA : ∀ q : Nat, s.heap.size ≤ q → A q := fun q h => by rw [← hAe]; exact Or.inr h
  have hG := gA_of hAe
  have hS : va_S A s.heap s.heap [] := va_S.rf
  have hF : gF (dC, dI) SKc G ([] : List (Nat × Nat)) s.heap s.heap := gF.rf
  have hl := lv_entry ([.ref o0]) (n := 1) (Nat.le_of_ble_eq_true rfl)
  rw [lg_entry_eq]
  generalize (lg_sl ([.ref o0]) ++ List.replicate (1 - (lg_sl ([.ref o0])).length) Slot.unset).toArray = ls at hl ⊢
  have hl : lv_has ls 1 [(0, .ref o0)] := hl
  refine lv_aload_n hx hb dX11_needVote_0 rfl (lv_at hl 0 rfl) ?_
  refine tw_getM (v := .ref bd) hx hb hts bF2_X11 hown hK hT hr_o0 shc_14 rfl 3 (by decide) (ht_at2 hts 0 rfl) (fun _ h9 => h9) hm_bd dX11_needVote_1 ?_
  refine tw_getNM (v := .int vo) hx hb hts bF2_X0 hown hK hT hr_bd shc_3 rfl 11 (by decide) (hE.nw 27 rfl) (fun _ h9 => h9) hm_vo dX11_needVote_4 ?_
  refine lv_if_ne (tgt := 21) hx hb dX11_needVote_7 (by decide) (fun c1 => ?_) (fun c1 => ?_)
  · have t2 : vo.toInt ≠ 0 := ti_ne c1 rfl (by decide)
    refine W.widen (k := 1) (n := 6) (by decide) (by decide) ?_
    exact vx_ret (W.vret hx hb hr (fun t ht hW => ⟨⟨(), rfl, (by exact (by omega)), by (try dsimp only); rw [ht]; exact ⟨hT, hF⟩⟩, hS.F ht⟩) hS.2.2 dX11_needVote_21)
  · have t3 : vo.toInt = 0 := ti_eq c1 rfl (by decide)
    obtain ⟨sa4, hsa4⟩ := hE.str 17 rfl
    exact vx_throwSW (names := ["java/lang/RuntimeException", "java/lang/Exception"]) hx hb hlt hown (by decide +kernel) (by decide +kernel) (ht_at2 hts 1 rfl) (ht_at2 hts 2 rfl) hsa4 (bX2_at3 hts hE) bX_ok3_69 hE.1.1.2.2.1 hE.1.1.2.2.2 hS (by rw [hml]; exact hl.1) dX11_needVote_10 dX11_needVote_13 dX11_needVote_14 dX11_needVote_17 dX11_needVote_20 (fun x h => (hnt x h).elim) (by decide) (Nat.le_of_ble_eq_true rfl) (Nat.le_of_ble_eq_true rfl) (Nat.le_of_ble_eq_true rfl) hlocks (fun t hW hz hq => ⟨(), trivial, ⟨rfl, (by omega), hT.ext hq, hF.ext hT hq⟩, Nat.le_trans hS.1 hz, fun q h1 h2 => (hq q (Nat.lt_of_lt_of_le h1 hS.1)).trans (hS.2.1 q h1 h2)⟩) hS.2.2 (by decide) (by decide)
def w_c_closeVoteC : List Cond := .code yX0_closeVote cX0_closeVote 3 (some .boolean) :: (HAppend.hAppend (α := List Cond) (β := List Cond) (γ := List Cond) [.fieldLink RX0 68 "SeaLand$Board" "yesVotes" "J", .constantLong RX0 92 100, .fieldLink RX0 72 "SeaLand$Board" "allVotes" "J", .fieldLink RX0 41 "SeaLand$Board" "force" "LSeaLand$Law;", .code yX4_lastOf cX4_lastOf 5 (some .int), .fieldLink RX4 60 "SeaLand$Law" "lines" "I", .fieldLink RX4 18 "SeaLand$Law" "kinds" "[I", .fieldLink RX4 21 "SeaLand$Law" "firsts" "[I", .methodLink RX0 94 yX4_lastOf, .instanceMethod yX4_lastOf, .selects RX4 yX4_lastOf yX4_lastOf, .initialized RX4, .fieldLink RX0 64 "SeaLand$Board" "voting" "Z", .fieldLink RX0 45 "SeaLand$Board" "proposed" "LSeaLand$Law;"] bs2)
set_option maxHeartbeats 4000000 in
set_option maxRecDepth 100000 in
theorem c_closeVoteC (l : Launch) (dC : Nat → ClassId) (dI : Nat → Nat → Nat) (kA : Nat → ClassId) (adK adV : Nat → Nat) (G : gT) (H0 : Heap) (nC nS : Int) (o0 : Nat)  (hT : gH (dC, dI) kA (SHc nC nS) G H0) (hr_o0 : G o0 = some 3) (hgC : 0 ≤ nC ∧ nC ≤ 40) (hgS : 0 ≤ nS ∧ nS ≤ 60) : Met l yX0_closeVote w_c_closeVoteC ({ frames := 1, cells := 0, slots := 0, locals := 24 }) (va_Pc [.ref o0] (fun U => U.heap = H0 ∧ va_K (dC, dI) vwCl (tyl kA) U ∧ EVC adK adV (gA G H0.size) U U.heap)) (va_Qi (fun (r : Int32) (u : Int32) => (0 ≤ r.toInt ∧ r.toInt ≤ 1) ∧ (u.toInt = 0)) (fun (v1 : Int32) (t : State) => gH (dC, dI) kA (SHc nC nS) G t.heap ∧ gF (dC, dI) SKc G ([(3, 7), (3, 8), (3, 11)] : List (Nat × Nat)) H0 t.heap ∧ el t.heap o0 (dI 3 11) = some (.int v1)) (gA G H0.size)) 0 0 (gA G H0.size) := by
  refine Met.ofW (cc := cX0_closeVote) (maxL := 3) (ret := (some .boolean)) (by decide) rfl ?_
  intro p e s m args below meth c s₁ B hml hv
  obtain ⟨rfl, hH0, hK, hE⟩ := hv
  have hx := B.exec
  have hb := B.bytes
  have hr := B.returns
  have hts := atoms_spec (ws := w_c_closeVoteC) B.pre
  have hown : s.vm.findClass RX0 = some m.cls := findClass_of_methodNamed B.named
  have hlocks := B.notSynchronized
  subst hH0
  generalize hAe : gA G s.heap.size = A at hE ⊢
  have hA : ∀ q : Nat, s.heap.size ≤ q → A q := fun q h => by rw [← hAe]; exact Or.inr h
  have hG := gA_of hAe
  have hS : va_S A s.heap s.heap [] := va_S.rf
  have hF : gF (dC, dI) SKc G ([(3, 7), (3, 8), (3, 11)] : List (Nat × Nat)) s.heap s.heap := gF.rf
  have hl := lv_entry ([.ref o0]) (n := 3) (Nat.le_of_ble_eq_true rfl)
  rw [lg_entry_eq]
  generalize (lg_sl ([.ref o0]) ++ List.replicate (3 - (lg_sl ([.ref o0])).length) Slot.unset).toArray = ls at hl ⊢
  have hl : lv_has ls 3 [(0, .ref o0)] := hl
  refine lv_aload_n hx hb dX0_closeVote_0 rfl (lv_at hl 0 rfl) ?_
  refine tw_get hx hb hts bF2_X0 hown hK hT hr_o0 shc_3 rfl 12 (by decide) (ht_at2 hts 0 rfl) (fun _ h9 => h9) dX0_closeVote_1 (fun v9 m1 h9 => ?_)
  obtain ⟨y2, rfl⟩ := h9 _ rfl
  refine lv_ldc2 (v := 100) hx hb hown (ht_at2 hts 1 rfl) dX0_closeVote_4 ?_
  refine lv_lmul hx hb dX0_closeVote_7 ?_
  refine lv_topl (fun y3 _ => ?_)
  refine lv_aload_n hx hb dX0_closeVote_8 rfl (lv_at hl 0 rfl) ?_
  refine tw_get hx hb hts bF2_X0 hown hK hT hr_o0 shc_3 rfl 13 (by decide) (ht_at2 hts 2 rfl) (fun _ h9 => h9) dX0_closeVote_9 (fun v9 m4 h9 => ?_)
  obtain ⟨y5, rfl⟩ := h9 _ rfl
  refine lv_aload_n hx hb dX0_closeVote_12 rfl (lv_at hl 0 rfl) ?_
  refine tw_get hx hb hts bF2_X0 hown hK hT hr_o0 shc_3 rfl 7 (by decide) (ht_at2 hts 3 rfl) (fun _ h9 => h9) dX0_closeVote_13 (fun v9 m6 h9 => ?_)
  obtain ⟨b7, rfl, hg8⟩ := h9 _ rfl
  refine lv_bipush (v := 8) hx hb dX0_closeVote_16 (by decide) ?_
  refine lv_bipush (v := 50) hx hb dX0_closeVote_18 (by decide) ?_
  have hFc := gA_free hG hA hS
  refine va_calli (va_runV (As := [.int 8, .int 50]) (rest := [.long y5, .long y3]) ⟨hx, hb, hml, hown, hts⟩ (c_lastOf l dC dI kA adK adV G s.heap nC nS b7 8 50 hT hg8 (by omega) (by omega)) (cwV 2 hts (goodIn_app (goodIn_r _ [9, 10, 11, 12] rfl (by decide +kernel)) (goodIn_ca (goodIn_r _ [5, 6, 7, 8] rfl (by decide +kernel)) (bs2_in _ _))) rfl rfl rfl (by decide +kernel) ⟨(Nat.le_of_ble_eq_true rfl), (Nat.le_of_ble_eq_true rfl)⟩) ⟨fun a U g mk q => by obtain ⟨q0, q1, qK, qE⟩ := q; exact ⟨q0, q1, va_K.moved (u := U) (U := U.calling g mk a) (Vm.Alike.refl U.vm) qK, EVC.blind g mk a qE⟩, gH_rc hK hT hg8 shc_7 rfl, fun U hU hW => ⟨rfl, hU, va_K.moved hW.alike hK, hE.call hS hFc hU hW⟩⟩ rfl rfl hl.1 rfl (lv_room (Nat.le_of_ble_eq_true rfl)) dX0_closeVote_20 ⟨(Nat.le_of_ble_eq_true rfl), (Nat.le_of_ble_eq_true rfl)⟩) hS (fun q _ h => hFc q h) hFc (fun r9 u t H locs ht hvm hw10 hB _ _ hS => ?_)
  obtain ⟨hT, hF1⟩ := hB
  rw [ht] at hT hF1
  have m13 := (hF1.fld hr_o0 skc_3 (k := 7) (by decide) (by decide)).trans m6
  have hF := hF.more hF1 (by decide)
  try dsimp only at hw10
  refine lv_i2l (v := r9.toInt64) hx hb dX0_closeVote_23 rfl ?_
  refine lv_lmul hx hb dX0_closeVote_24 ?_
  refine lv_topl (fun y14 _ => ?_)
  refine W.lcmp hx hb dX0_closeVote_25 ?_
  refine lv_topi (fun x15 _ => ?_)
  have t16 : -2147483648 ≤ x15.toInt ∧ x15.toInt ≤ 2147483647 := ti_all x15
  refine lv_if_le (tgt := 33) hx hb dX0_closeVote_26 (by decide) (fun c17 => ?_) (fun c17 => ?_)
  · have t18 : x15.toInt ≤ 0 := ti_le c17 rfl (by decide)
    refine lv_iconst (v := 0) hx hb dX0_closeVote_33 (by decide) ?_
    refine lv_istore_n (lv' := [(1, .int 0), (0, .ref o0)]) hx hb dX0_closeVote_34 rfl hl (by decide) rfl (fun ls hl => ?_)
    refine lv_aload_n hx hb dX0_closeVote_35 rfl (lv_at hl 1 rfl) ?_
    refine lv_iconst (v := 0) hx hb dX0_closeVote_36 (by decide) ?_
    refine tw_put (v := .int 0) (ty := .boolean) hx hb hts bF2_X0 tyX0 tyX0_ok nmX0 hown hK hT hG hS hr_o0 shc_3 rfl 11 (by decide) (ht_at2 hts 12 rfl) (fun _ h9 => h9) rfl (by decide +kernel) rfl rfl (gl_at rfl (gi_of (show (0 : Int32).toInt = 0 from (by decide)) (by first | decide | omega) (by first | decide | omega))) dX0_closeVote_37 (fun H locs hT oq m19 oj hS => ?_)
    have hF := hF.put hr_o0 skc_3 oq oj (by decide)
    refine lv_iload_n hx hb dX0_closeVote_40 rfl (lv_at hl 0 rfl) ?_
    refine lv_if_eq (tgt := 62) hx hb dX0_closeVote_41 (by decide) (fun c23 => ?_) (fun c23 => absurd c23 (by decide))
    refine lv_iload_n hx hb dX0_closeVote_62 rfl (lv_at hl 0 rfl) ?_
    exact W.zret (v := 0) hx hb hr (by decide) (fun t ht hW => ⟨⟨0, (0 : Int32), rfl, (by exact ⟨(rg_t (a := 0) (by decide) (by first | decide | omega) (by first | decide | omega)), (by have : (0 : Int32).toInt = 0 := (by decide); omega)⟩), by (try dsimp only); rw [ht]; exact ⟨hT, hF, m19⟩⟩, hS.F ht⟩) hS.2.2 dX0_closeVote_63
  · have t24 : 0 < x15.toInt := ti_nle c17 rfl (by decide)
    refine lv_iconst (v := 1) hx hb dX0_closeVote_29 (by decide) ?_
    refine lv_goto (tgt := 34) hx hb dX0_closeVote_30 (by decide) ?_
    refine lv_istore_n (lv' := [(1, .int 1), (0, .ref o0)]) hx hb dX0_closeVote_34 rfl hl (by decide) rfl (fun ls hl => ?_)
    refine lv_aload_n hx hb dX0_closeVote_35 rfl (lv_at hl 1 rfl) ?_
    refine lv_iconst (v := 0) hx hb dX0_closeVote_36 (by decide) ?_
    refine tw_put (v := .int 0) (ty := .boolean) hx hb hts bF2_X0 tyX0 tyX0_ok nmX0 hown hK hT hG hS hr_o0 shc_3 rfl 11 (by decide) (ht_at2 hts 12 rfl) (fun _ h9 => h9) rfl (by decide +kernel) rfl rfl (gl_at rfl (gi_of (show (0 : Int32).toInt = 0 from (by decide)) (by first | decide | omega) (by first | decide | omega))) dX0_closeVote_37 (fun H locs hT oq m25 oj hS => ?_)
    have hF := hF.put hr_o0 skc_3 oq oj (by decide)
    have m28 := (oj 7 (by decide) (by decide)).trans m13
    refine lv_iload_n hx hb dX0_closeVote_40 rfl (lv_at hl 0 rfl) ?_
    refine lv_if_eq (tgt := 62) hx hb dX0_closeVote_41 (by decide) (fun c29 => absurd c29 (by decide)) (fun c29 => ?_)
    refine lv_aload_n hx hb dX0_closeVote_44 rfl (lv_at hl 1 rfl) ?_
    refine tw_getM (v := .ref b7) hx hb hts bF2_X0 hown hK hT hr_o0 shc_3 rfl 7 (by decide) (ht_at2 hts 3 rfl) (fun _ h9 => h9) m28 dX0_closeVote_45 ?_
    refine lv_astore_n (lv' := [(2, .ref b7), (1, .int 1), (0, .ref o0)]) hx hb dX0_closeVote_48 rfl hl (by decide) rfl (fun ls hl => ?_)
    refine lv_aload_n hx hb dX0_closeVote_49 rfl (lv_at hl 2 rfl) ?_
    refine lv_aload_n hx hb dX0_closeVote_50 rfl (lv_at hl 2 rfl) ?_
    refine tw_get hx hb hts bF2_X0 hown hK hT hr_o0 shc_3 rfl 8 (by decide) (ht_at2 hts 13 rfl) (fun _ h9 => h9) dX0_closeVote_51 (fun v9 m30 h9 => ?_)
    obtain ⟨b31, rfl, hg32⟩ := h9 _ rfl
    refine tw_put (v := .ref b31) (ty := (.object "SeaLand$Law")) hx hb hts bF2_X0 tyX0 tyX0_ok nmX0 hown hK hT hG hS hr_o0 shc_3 rfl 7 (by decide) (ht_at2 hts 3 rfl) (fun _ h9 => h9) rfl (by decide +kernel) rfl rfl (gl_at rfl ⟨_, rfl, hg32⟩) dX0_closeVote_54 (fun H locs hT oq m33 oj hS => ?_)
    have hF := hF.put hr_o0 skc_3 oq oj (by decide)
    have m36 := (oj 11 (by decide) (by decide)).trans m25
    refine lv_aload_n hx hb dX0_closeVote_57 rfl (lv_at hl 2 rfl) ?_
    refine lv_aload_n hx hb dX0_closeVote_58 rfl (lv_at hl 0 rfl) ?_
    refine tw_put (v := .ref b7) (ty := (.object "SeaLand$Law")) hx hb hts bF2_X0 tyX0 tyX0_ok nmX0 hown hK hT hG hS hr_o0 shc_3 rfl 8 (by decide) (ht_at2 hts 13 rfl) (fun _ h9 => h9) rfl (by decide +kernel) rfl rfl (gl_at rfl ⟨_, rfl, hg8⟩) dX0_closeVote_59 (fun H locs hT oq m38 oj hS => ?_)
    have hF := hF.put hr_o0 skc_3 oq oj (by decide)
    have m41 := (oj 11 (by decide) (by decide)).trans m36
    refine lv_iload_n hx hb dX0_closeVote_62 rfl (lv_at hl 1 rfl) ?_
    exact W.zret (v := 1) hx hb hr (by decide) (fun t ht hW => ⟨⟨1, (0 : Int32), rfl, (by exact ⟨(rg_t (a := 1) (by decide) (by first | decide | omega) (by first | decide | omega)), (by have : (0 : Int32).toInt = 0 := (by decide); omega)⟩), by (try dsimp only); rw [ht]; exact ⟨hT, hF, m41⟩⟩, hS.F ht⟩) hS.2.2 dX0_closeVote_63
def w_c_closeC : List Cond := .code yX11_close cX11_close 1 (some .boolean) :: (HAppend.hAppend (α := List Cond) (β := List Cond) (γ := List Cond) [.code yX11_needVote cX11_needVote 1 none, .fieldLink RX11 30 "SeaLand" "board" "LSeaLand$Board;", .classLink RX11 69 "java/lang/IllegalStateException", .initialized "java/lang/IllegalStateException", .methodLink RX11 296 yX11_needVote, .instanceMethod yX11_needVote, .selects RX11 yX11_needVote yX11_needVote, .initialized RX11, .code yX0_closeVote cX0_closeVote 3 (some .boolean), .fieldLink RX0 68 "SeaLand$Board" "yesVotes" "J", .constantLong RX0 92 100, .fieldLink RX0 72 "SeaLand$Board" "allVotes" "J", .fieldLink RX0 41 "SeaLand$Board" "force" "LSeaLand$Law;", .code yX4_lastOf cX4_lastOf 5 (some .int), .fieldLink RX4 60 "SeaLand$Law" "lines" "I", .fieldLink RX4 18 "SeaLand$Law" "kinds" "[I", .fieldLink RX4 21 "SeaLand$Law" "firsts" "[I", .methodLink RX0 94 yX4_lastOf, .instanceMethod yX4_lastOf, .selects RX4 yX4_lastOf yX4_lastOf, .initialized RX4, .fieldLink RX0 64 "SeaLand$Board" "voting" "Z", .fieldLink RX0 45 "SeaLand$Board" "proposed" "LSeaLand$Law;", .methodLink RX11 303 yX0_closeVote, .instanceMethod yX0_closeVote, .selects RX0 yX0_closeVote yX0_closeVote, .initialized RX0] bs2)
set_option maxHeartbeats 4000000 in
set_option maxRecDepth 100000 in
theorem c_closeC (l : Launch) (hlt : l.stackTraces = false) (dC : Nat → ClassId) (dI : Nat → Nat → Nat) (kA : Nat → ClassId) (adK adV : Nat → Nat) (G : gT) (H0 : Heap) (nC nS : Int) (o0 : Nat) (bd : Nat) (vo : Int32)  (hT : gH (dC, dI) kA (SHc nC nS) G H0) (hr_o0 : G o0 = some 14) (hm_bd : el H0 o0 (dI 14 3) = some (.ref bd)) (hr_bd : G bd = some 3) (hm_vo : el H0 bd (dI 3 11) = some (.int vo)) (hq0 : 0 ≤ vo.toInt ∧ vo.toInt ≤ 1) (hgC : 0 ≤ nC ∧ nC ≤ 40) (hgS : 0 ≤ nS ∧ nS ≤ 60) : vx_Met l yX11_close w_c_closeC ({ frames := 7, cells := 1, slots := 6, locals := 120 }) (va_Pc [.ref o0] (fun U => U.heap = H0 ∧ va_K (dC, dI) vwCl (tyl kA) U ∧ EVC adK adV (gA G H0.size) U U.heap)) (va_Qi (fun (r : Int32) (u : Int32) => (0 ≤ r.toInt ∧ r.toInt ≤ 1) ∧ (vo.toInt = 1 ∧ u.toInt = 0)) (fun (v1 : Int32) (t : State) => gH (dC, dI) kA (SHc nC nS) G t.heap ∧ gF (dC, dI) SKc G ([(3, 7), (3, 8), (3, 11)] : List (Nat × Nat)) H0 t.heap ∧ el t.heap bd (dI 3 11) = some (.int v1)) (gA G H0.size)) (vx_X (fun _ : Unit => True) (fun E _ t => (E = "java/lang/IllegalStateException") ∧ ((E = "java/lang/IllegalStateException" ∧ vo.toInt = 0)) ∧ gH (dC, dI) kA (SHc nC nS) G t.heap ∧ gF (dC, dI) SKc G ([(3, 7), (3, 8), (3, 11)] : List (Nat × Nat)) H0 t.heap ∧ el t.heap bd (dI 3 11) = some (.int vo)) (gA G H0.size)) 1 6 (gA G H0.size) := by
  refine vx_ofW (cc := cX11_close) (maxL := 1) (ret := (some .boolean)) (by decide) rfl ?_
  intro p e s m args below meth c s₁ B hml hnt hv
  obtain ⟨rfl, hH0, hK, hE⟩ := hv
  have hx := B.exec
  have hb := B.bytes
  have hr := B.returns
  have hts := atoms_spec (ws := w_c_closeC) B.pre
  have hown : s.vm.findClass RX11 = some m.cls := findClass_of_methodNamed B.named
  have hlocks := B.notSynchronized
  subst hH0
  generalize hAe : gA G s.heap.size = A at hE ⊢
  have hA : ∀ q : Nat, s.heap.size ≤ q → A q := fun q h => by rw [← hAe]; exact Or.inr h
  have hG := gA_of hAe
  have hS : va_S A s.heap s.heap [] := va_S.rf
  have hF : gF (dC, dI) SKc G ([(3, 7), (3, 8), (3, 11)] : List (Nat × Nat)) s.heap s.heap := gF.rf
  have hl := lv_entry ([.ref o0]) (n := 1) (Nat.le_of_ble_eq_true rfl)
  rw [lg_entry_eq]
  generalize (lg_sl ([.ref o0]) ++ List.replicate (1 - (lg_sl ([.ref o0])).length) Slot.unset).toArray = ls at hl ⊢
  have hl : lv_has ls 1 [(0, .ref o0)] := hl
  refine lv_aload_n hx hb dX11_close_0 rfl (lv_at hl 0 rfl) ?_
  have hFc := gA_free hG hA hS
  refine vx_callv (vx_runV (As := []) (rest := []) ⟨hx, hb, hml, hown, hts⟩ (c_needVoteC l hlt dC dI kA adK adV G s.heap nC nS o0 bd vo hT hr_o0 hm_bd hr_bd hm_vo (by have q8 := ti_all vo; omega) (by omega) (by omega)) (cwV 0 hts (goodIn_app (goodIn_r _ [5, 6, 7, 8] rfl (by decide +kernel)) (goodIn_ca (goodIn_r _ [1, 2, 3, 4] rfl (by decide +kernel)) (bs2_in _ _))) rfl rfl rfl (by decide +kernel) ⟨(Nat.le_of_ble_eq_true rfl), (Nat.le_of_ble_eq_true rfl)⟩) ⟨fun a U g mk q => by obtain ⟨q0, q1, qK, qE⟩ := q; exact ⟨q0, q1, va_K.moved (u := U) (U := U.calling g mk a) (Vm.Alike.refl U.vm) qK, EVC.blind g mk a qE⟩, gH_rc hK hT hr_o0 shc_14 rfl, fun U hU hW => ⟨rfl, hU, va_K.moved hW.alike hK, hE.call hS hFc hU hW⟩⟩ rfl rfl hl.1 rfl (lv_room (Nat.le_of_ble_eq_true rfl)) dX11_close_1 ⟨(Nat.le_of_ble_eq_true rfl), (Nat.le_of_ble_eq_true rfl)⟩) hS (fun q _ h => hFc q h) hFc (fun q _ h => hFc q h) (fun E ce q9 u t H locs ht hvm _ hw2 _ _ hS hce hcv hcl => ?_) (fun u t H locs ht hvm hw2 hB _ _ hS => ?_)
  · obtain ⟨hw2, hxf, hTx, hFx⟩ := hw2; rw [ht] at hTx hFx
    exact vx_out (fun x h => (hnt x h).elim) hlocks hce hcv hcl (fun t2 h2 hW => ⟨(), trivial, ⟨((fun h9 => h9) hw2), (⟨hw2, (by first | omega | exact hxf.elim)⟩), by rw [h2]; exact hTx, by rw [h2]; exact hF.more hFx (by decide), by rw [h2]; exact (hFx.fld hr_bd skc_3 (k := 11) (by decide) (by decide)).trans hm_vo⟩, hS.F h2⟩) hS.2.2 (by decide) (by decide)
  · obtain ⟨hT, hF1⟩ := hB
    rw [ht] at hT hF1
    have m3 := (hF1.fld hr_o0 skc_14 (k := 3) (by decide) (by decide)).trans hm_bd
    have hF := hF.more hF1 (by decide)
    try dsimp only at hw2
    have hf5 := hw2
    refine lv_aload_n hx hb dX11_close_4 rfl (lv_at hl 0 rfl) ?_
    refine tw_getM (v := .ref bd) hx hb hts bF2_X11 hown hK hT hr_o0 shc_14 rfl 3 (by decide) (ht_at2 hts 1 rfl) (fun _ h9 => h9) m3 dX11_close_5 ?_
    have hFc := gA_free hG hA hS
    refine va_calli (va_runV (As := []) (rest := []) ⟨hx, hb, hml, hown, hts⟩ (c_closeVoteC l dC dI kA adK adV G H nC nS bd hT hr_bd (by omega) (by omega)) (cwV 0 hts (goodIn_app (goodIn_r _ [24, 25, 26, 27] rfl (by decide +kernel)) (goodIn_ca (goodIn_r _ [9, 10, 11, 12, 13, 14, 15, 16, 17, 18, 19, 20, 21, 22, 23] rfl (by decide +kernel)) (bs2_in _ _))) rfl rfl rfl (by decide +kernel) ⟨(Nat.le_of_ble_eq_true rfl), (Nat.le_of_ble_eq_true rfl)⟩) ⟨fun a U g mk q => by obtain ⟨q0, q1, qK, qE⟩ := q; exact ⟨q0, q1, va_K.moved (u := U) (U := U.calling g mk a) (Vm.Alike.refl U.vm) qK, EVC.blind g mk a qE⟩, gH_rc hK hT hr_bd shc_3 rfl, fun U hU hW => ⟨rfl, hU, va_K.moved hW.alike hK, hE.call hS hFc hU hW⟩⟩ rfl rfl hl.1 rfl (lv_room (Nat.le_of_ble_eq_true rfl)) dX11_close_8 ⟨(Nat.le_of_ble_eq_true rfl), (Nat.le_of_ble_eq_true rfl)⟩) hS (fun q _ h => hFc q h) hFc (fun r6 u t H locs ht hvm hw7 hB _ _ hS => ?_)
    obtain ⟨u8, rfl⟩ : ∃ z, z = u := ⟨_, rfl⟩
    obtain ⟨hT, hF1, m9⟩ := hB
    rw [ht] at hT hF1 m9
    have hF := hF.more hF1 (by decide)
    try dsimp only at hw7
    obtain ⟨h12, hf13⟩ := hw7
    exact vx_ret (W.zret (v := r6) hx hb hr (nar_b (by have q8 := ti_all r6; omega)) (fun t ht hW => ⟨⟨r6, u8, rfl, (by exact ⟨(by have q8 := ti_all r6; omega), (by omega)⟩), by (try dsimp only); rw [ht]; exact ⟨hT, hF, m9⟩⟩, hS.F ht⟩) hS.2.2 dX11_close_11)
def w_l_foundC : List Cond := .codeWith yL_found cL_found 3 (some .int) [(0, 8, 11, 15), (0, 8, 14, 17)] :: (HAppend.hAppend (α := List Cond) (β := List Cond) (γ := List Cond) [.code yX11_found cX11_found 1 (some .int), .fieldLink RX11 30 "SeaLand" "board" "LSeaLand$Board;", .fieldLink RX11 9 "SeaLand" "tape" "[I", .fieldLink RX11 47 "SeaLand" "taped" "I", .code yX4_read cX4_read 4 (some .int), .methodLink RX4 46 Lib.Math.min.name, .static Lib.Math.min.name, .initialized "java/lang/Math", .code Lib.Math.min.name Lib.Math.min.code 2 (some .int), .code yX4_scan cX4_scan 6 none, .fieldLink RX4 11 "SeaLand$Law" "things" "[I", .fieldLink RX4 15 "SeaLand$Law" "begins" "[I", .code yX4_thingEnd cX4_thingEnd 6 (some .int), .code yX4_isLetter cX4_isLetter 1 (some .boolean), .methodLink RX4 81 yX4_isLetter, .static yX4_isLetter, .initialized RX4, .code yX4_isDigit cX4_isDigit 1 (some .boolean), .methodLink RX4 84 yX4_isDigit, .static yX4_isDigit, .methodLink RX4 74 yX4_thingEnd, .static yX4_thingEnd, .code yX4_thingAt cX4_thingAt 3 (some .int), .code yX4_signThing cX4_signThing 1 (some .int), .methodLink RX4 93 yX4_signThing, .static yX4_signThing, .code yX4_numberThing cX4_numberThing 5 (some .int), .methodLink RX4 90 yX4_numberThing, .static yX4_numberThing, .code yX4_wordThing cX4_wordThing 4 (some .int), .code yX4_factThing cX4_factThing 3 (some .int), .code yX4_wordIs cX4_wordIs 5 (some .boolean), .code yJ0_length_8abf5 cJ0_length_8abf5 1 (some .int), .fieldLink RJ0 9 "java/lang/String" "value" "[B", .code yJ0_coder_7d493 cJ0_coder_7d493 1 (some .byte), .fieldLink RJ0 38 "java/lang/String" "COMPACT_STRINGS" "Z", .fieldLink RJ0 15 "java/lang/String" "coder" "B", .methodLink RJ0 335 yJ0_coder_7d493, .instanceMethod yJ0_coder_7d493, .selects RJ0 yJ0_coder_7d493 yJ0_coder_7d493, .initialized RJ0, .methodLink RX4 155 yJ0_length_8abf5, .instanceMethod yJ0_length_8abf5, .selects RJ0 yJ0_length_8abf5 yJ0_length_8abf5, .code yJ0_charAt_5068e cJ0_charAt_5068e 2 (some .char), .code yJ0_isLatin1_aae02 cJ0_isLatin1_aae02 1 (some .boolean), .methodLink RJ0 492 yJ0_isLatin1_aae02, .instanceMethod yJ0_isLatin1_aae02, .selects RJ0 yJ0_isLatin1_aae02 yJ0_isLatin1_aae02, .code yJ1_charAt_3b067 cJ1_charAt_3b067 2 (some .char), .code yJ0_checkIndex_df160 cJ0_checkIndex_df160 2 none, .fieldLink RJ0 1053 "jdk/internal/util/Preconditions" "SIOOBE_FORMATTER" "Ljava/util/function/BiFunction;", .code yJ3_checkIndex_8e157 cJ3_checkIndex_8e157 3 (some .int), .methodLink RJ0 1059 yJ3_checkIndex_8e157, .static yJ3_checkIndex_8e157, .initialized RJ3, .methodLink RJ1 9 yJ0_checkIndex_df160, .static yJ0_checkIndex_df160, .methodLink RJ0 495 yJ1_charAt_3b067, .static yJ1_charAt_3b067, .initialized RJ1, .methodLink RX4 161 yJ0_charAt_5068e, .instanceMethod yJ0_charAt_5068e, .selects RJ0 yJ0_charAt_5068e yJ0_charAt_5068e, .methodLink RX4 105 yX4_wordIs, .static yX4_wordIs, .methodLink RX4 97 yX4_factThing, .static yX4_factThing, .code yX4_lineThing cX4_lineThing 4 (some .int), .methodLink RX4 100 yX4_lineThing, .static yX4_lineThing, .methodLink RX4 87 yX4_wordThing, .static yX4_wordThing, .methodLink RX4 78 yX4_thingAt, .static yX4_thingAt, .methodLink RX4 52 yX4_scan, .instanceMethod yX4_scan, .selects RX4 yX4_scan yX4_scan, .fieldLink RX4 56 "SeaLand$Law" "at" "I", .fieldLink RX4 60 "SeaLand$Law" "lines" "I", .fieldLink RX4 63 "SeaLand$Law" "stepped" "I", .code yX4_readLine cX4_readLine 3 (some .boolean), .code yX4_lineKind cX4_lineKind 1 (some .int), .methodLink RX4 165 yX4_lineKind, .static yX4_lineKind, .fieldLink RX4 18 "SeaLand$Law" "kinds" "[I", .fieldLink RX4 33 "SeaLand$Law" "stepFrom" "[I", .code yX4_take cX4_take 2 (some .boolean), .methodLink RX4 70 yX4_take, .instanceMethod yX4_take, .selects RX4 yX4_take yX4_take, .fieldLink RX4 36 "SeaLand$Law" "stepTo" "[I", .code yX4_readAny cX4_readAny 4 (some .boolean), .code yX4_readAll cX4_readAll 4 (some .boolean), .code yX4_readAtom cX4_readAtom 4 (some .boolean), .code yX4_readComparison cX4_readComparison 3 (some .boolean), .code yX4_readSum cX4_readSum 3 (some .boolean), .code yX4_readPart cX4_readPart 2 (some .boolean), .code yX4_addStep cX4_addStep 2 none, .fieldLink RX4 39 "SeaLand$Law" "steps" "[I", .methodLink RX4 179 yX4_addStep, .instanceMethod yX4_addStep, .selects RX4 yX4_addStep yX4_addStep, .methodLink RX4 192 yX4_readPart, .instanceMethod yX4_readPart, .selects RX4 yX4_readPart yX4_readPart, .methodLink RX4 189 yX4_readSum, .instanceMethod yX4_readSum, .selects RX4 yX4_readSum yX4_readSum, .methodLink RX4 186 yX4_readComparison, .instanceMethod yX4_readComparison, .selects RX4 yX4_readComparison yX4_readComparison, .methodLink RX4 183 yX4_readAtom, .instanceMethod yX4_readAtom, .selects RX4 yX4_readAtom yX4_readAtom, .methodLink RX4 176 yX4_readAll, .instanceMethod yX4_readAll, .selects RX4 yX4_readAll yX4_readAll, .methodLink RX4 173 yX4_readAny, .instanceMethod yX4_readAny, .selects RX4 yX4_readAny yX4_readAny, .fieldLink RX4 21 "SeaLand$Law" "firsts" "[I", .code yX4_takeNumber cX4_takeNumber 4 (some .boolean), .methodLink RX4 168 yX4_takeNumber, .instanceMethod yX4_takeNumber, .selects RX4 yX4_takeNumber yX4_takeNumber, .fieldLink RX4 24 "SeaLand$Law" "seconds" "[I", .fieldLink RX4 27 "SeaLand$Law" "froms" "[I", .fieldLink RX4 30 "SeaLand$Law" "tos" "[I", .constant RX4 172 99999, .methodLink RX4 66 yX4_readLine, .instanceMethod yX4_readLine, .selects RX4 yX4_readLine yX4_readLine, .methodLink RX11 266 yX4_read, .instanceMethod yX4_read, .selects RX4 yX4_read yX4_read, .code yX11_needNumbers cX11_needNumbers 1 none, .classLink RX11 547 "java/lang/IllegalArgumentException", .initialized "java/lang/IllegalArgumentException", .methodLink RX11 62 yX11_needNumbers, .static yX11_needNumbers, .initialized RX11, .code yX0_foundSpare cX0_foundSpare 2 (some .int), .fieldLink RX0 41 "SeaLand$Board" "force" "LSeaLand$Law;", .fieldLink RX0 48 "SeaLand$Board" "spare" "LSeaLand$Law;", .methodLink RX11 280 yX0_foundSpare, .instanceMethod yX0_foundSpare, .selects RX0 yX0_foundSpare yX0_foundSpare, .initialized RX0, .classLink RX11 69 "java/lang/IllegalStateException", .initialized "java/lang/IllegalStateException", .methodLink RL 83 yX11_found, .instanceMethod yX11_found, .selects RX11 yX11_found yX11_found, .classLink RL 15 "java/lang/IllegalArgumentException", .classLink RL 17 "java/lang/IllegalStateException"] bs2)
set_option maxHeartbeats 4000000 in
set_option maxRecDepth 100000 in
theorem l_foundC (l : Launch) (hlt : l.stackTraces = false) (dC : Nat → ClassId) (dI : Nat → Nat → Nat) (kA : Nat → ClassId) (adK adV : Nat → Nat) (G : gT) (H0 : Heap) (nC nS : Int) (o0 : Nat) (ou : Nat) (bd : Nat) (tn : Int32) (ta : Nat) (sp : Nat) (vc : Nat → Int32) (N : Nat) (fv : Int32) (hT : gH (dC, dI) kA (SHc nC nS) G H0) (hr_o0 : G o0 = some 14) (hr_ou : G ou = some 98) (hm_bd : el H0 o0 (dI 14 3) = some (.ref bd)) (hr_bd : G bd = some 3) (hm_tn : el H0 o0 (dI 14 7) = some (.int tn)) (hm_ta : el H0 o0 (dI 14 0) = some (.ref ta)) (hr_ta : G ta = some 16) (hm_sp : el H0 bd (dI 3 9) = some (.ref sp)) (hr_sp : G sp = some 7) (hq0 : 0 ≤ tn.toInt ∧ tn.toInt ≤ 400) (hc_vc : ct H0 ta 400 vc) (hN : tn.toInt = ((N : Nat) : Int)) (hfv : fv = Int32.ofInt (laE (tc vc) N).2) (hgC : 0 ≤ nC ∧ nC ≤ 40) (hgS : 0 ≤ nS ∧ nS ≤ 60) : Met l yL_found w_l_foundC ({ frames := 28, cells := 1, slots := 6, locals := 634 }) (va_Pc [.ref o0, .ref ou] (fun U => U.heap = H0 ∧ va_K (dC, dI) vwCl (tyl kA) U ∧ EVC adK adV (gA G H0.size) U U.heap ∧ NC U)) (va_Qi (fun (r : Int32) (u : Int32 × Int32) => match u with | (f1, t1) => (0 ≤ r.toInt ∧ r.toInt ≤ 2) ∧ (f1.toInt = fv.toInt ∧ t1.toInt = 0)) (fun (u : Int32 × Int32) (t : State) => match u with | (f1, t1) => gH (dC, dI) kA (SHc nC nS) G t.heap ∧ gF (dC, dI) SKc G ([(3, 7), (3, 9), (3, 10), (7, 11), (7, 12), (7, 13), (14, 7), (40, 0), (41, 0), (42, 0), (43, 0), (44, 0), (45, 0), (46, 0), (47, 0), (48, 0), (49, 0), (98, 0)] : List (Nat × Nat)) H0 t.heap ∧ el t.heap bd (dI 3 10) = some (.int f1) ∧ el t.heap o0 (dI 14 7) = some (.int t1)) (gA G H0.size)) 1 6 (gA G H0.size) := by
  refine va_MetW (cc := cL_found) (maxL := 3) (ret := (some .int)) (by decide) rfl ?_
  intro p e s m args below meth c s₁ B hml hv
  have hNt := hN
  obtain ⟨rfl, hH0, hK, hE, hN⟩ := hv
  have hx := B.exec
  have hb := B.bytes
  have hr := B.returns
  have hts := atoms_spec (ws := w_l_foundC) B.pre
  have hown : s.vm.findClass RL = some m.cls := findClass_of_methodNamed B.named
  have hlocks := B.notSynchronized
  have htab := vx_table (x := yL_found) B (hts _ List.mem_cons_self)
  subst hH0
  generalize hAe : gA G s.heap.size = A at hE ⊢
  have hA : ∀ q : Nat, s.heap.size ≤ q → A q := fun q h => by rw [← hAe]; exact Or.inr h
  have hG := gA_of hAe
  have hS : va_S A s.heap s.heap [] := va_S.rf
  have hF : gF (dC, dI) SKc G ([(3, 7), (3, 9), (3, 10), (7, 11), (7, 12), (7, 13), (14, 7), (40, 0), (41, 0), (42, 0), (43, 0), (44, 0), (45, 0), (46, 0), (47, 0), (48, 0), (49, 0), (98, 0)] : List (Nat × Nat)) s.heap s.heap := gF.rf
  have hl := lv_entry ([.ref o0, .ref ou]) (n := 3) (Nat.le_of_ble_eq_true rfl)
  rw [lg_entry_eq]
  generalize (lg_sl ([.ref o0, .ref ou]) ++ List.replicate (3 - (lg_sl ([.ref o0, .ref ou])).length) Slot.unset).toArray = ls at hl ⊢
  have hl : lv_has ls 3 [(0, .ref o0), (1, .ref ou)] := hl
  refine lv_aload_n hx hb dL_found_0 rfl (lv_at hl 1 rfl) ?_
  refine lv_iconst (v := 0) hx hb dL_found_1 (by decide) ?_
  refine lv_aload_n hx hb dL_found_2 rfl (lv_at hl 0 rfl) ?_
  have hFc := gA_free hG hA hS
  refine vx_calli (vx_runV (As := []) (rest := [.int 0, .ref ou]) ⟨hx, hb, hml, hown, hts⟩ (c_foundC l hlt dC dI kA adK adV G s.heap nC nS o0 bd tn ta sp vc N fv hT hr_o0 hm_bd hr_bd hm_tn hm_ta hr_ta hm_sp hr_sp (by have q8 := ti_all tn; omega) hNt hfv hc_vc (by omega) (by omega)) (cwV 0 hts (goodIn_app (goodIn_r _ [152, 153, 154, 142] rfl (by decide +kernel)) (goodIn_ca (goodIn_r _ [1, 2, 3, 4, 5, 6, 7, 8, 9, 10, 11, 12, 13, 14, 15, 16, 17, 18, 19, 20, 21, 22, 23, 24, 25, 26, 27, 28, 29, 30, 31, 32, 33, 34, 35, 36, 37, 38, 39, 40, 41, 42, 43, 44, 45, 46, 47, 48, 49, 50, 51, 52, 53, 54, 55, 56, 57, 58, 59, 60, 61, 62, 63, 64, 65, 66, 67, 68, 69, 70, 71, 72, 73, 74, 75, 76, 77, 78, 79, 80, 81, 82, 83, 84, 85, 86, 87, 88, 89, 90, 91, 92, 93, 94, 95, 96, 97, 98, 99, 100, 101, 102, 103, 104, 105, 106, 107, 108, 109, 110, 111, 112, 113, 114, 115, 116, 117, 118, 119, 120, 121, 122, 123, 124, 125, 126, 127, 128, 129, 130, 131, 132, 133, 134, 135, 136, 137, 138, 139, 140, 141, 142, 143, 144, 145, 146, 147, 148, 149, 150, 151] rfl (by decide +kernel)) (bs2_in _ _))) rfl rfl rfl (by decide +kernel) ⟨(Nat.le_of_ble_eq_true rfl), (Nat.le_of_ble_eq_true rfl)⟩) ⟨fun a U g mk q => by obtain ⟨q0, q1, qK, qE⟩ := q; exact ⟨q0, q1, va_K.moved (u := U) (U := U.calling g mk a) (Vm.Alike.refl U.vm) qK, EVC.blind g mk a qE⟩, gH_rc hK hT hr_o0 shc_14 rfl, fun U hU hW => ⟨rfl, hU, va_K.moved hW.alike hK, hE.call hS hFc hU hW⟩⟩ rfl rfl hl.1 rfl (lv_room (Nat.le_of_ble_eq_true rfl)) dL_found_3 ⟨(Nat.le_of_ble_eq_true rfl), (Nat.le_of_ble_eq_true rfl)⟩) hS (fun q _ h => hFc q h) hFc (fun q _ h => hFc q h) (fun E ce q9 u t H locs ht hvm _ hw2 _ _ hS hce hcv hcl => ?_) (fun r1 u t H locs ht hvm hw2 hB _ _ hS => ?_)
  · obtain ⟨hw2, hTx, hFx, hxm0, hxm1⟩ := hw2; rw [ht] at hTx hFx hxm0 hxm1
    have hT := hTx; have hF := hF.more hFx (by decide)
    rcases hw2 with rfl | rfl
    · refine vx_catch (E := "java/lang/IllegalArgumentException") hown [] ⟨0, 8, 11, 15⟩ [⟨0, 8, 14, 17⟩] (by rw [htab]; rfl) (fun z h => absurd h List.not_mem_nil) (by decide) (by decide) (ht_at2 hts 154 rfl) (va_Nw.use rfl (hE.1.1.2.1.2.1 _ (List.mem_of_getElem? (i := 1) rfl))) hce hcv hcl ?_
      refine lv_astore_n (lv' := [(2, .ref q9), (0, .ref o0), (1, .ref ou)]) hx hb dL_found_11 rfl hl (by decide) rfl (fun ls hl => ?_)
      refine lv_iconst (v := 1) hx hb dL_found_12 (by decide) ?_
      exact W.iret (v := 1) hx hb hr (fun t ht hW => ⟨⟨1, (fv, (0 : Int32)), rfl, (by exact ⟨(rg_t (a := 1) (by decide) (by first | decide | omega) (by first | decide | omega)), (by have q0 : (0 : Int32).toInt = 0 := (by decide); have q1 : (1 : Int32).toInt = 1 := (by decide); have qm : (-1 : Int32).toInt = -1 := (by decide); omega)⟩), by (try dsimp only); rw [ht]; exact ⟨hT, hF, hxm0, hxm1⟩⟩, hS.F ht⟩) hS.2.2 dL_found_13
    · refine vx_catch (E := "java/lang/IllegalStateException") hown [⟨0, 8, 11, 15⟩] ⟨0, 8, 14, 17⟩ [] (by rw [htab]; rfl) (fun z h => by
          simp only [List.mem_cons, List.not_mem_nil, or_false] at h
          rcases h with rfl
          · exact Or.inr ⟨by decide, "java/lang/IllegalArgumentException", (ht_at2 hts 154 rfl), hN ("java/lang/IllegalStateException", "java/lang/IllegalArgumentException") (by decide +kernel)⟩) (by decide) (by decide) (ht_at2 hts 155 rfl) (va_Nw.use rfl (hE.1.1.2.1.2.1 _ (List.mem_of_getElem? (i := 3) rfl))) hce hcv hcl ?_
      refine lv_astore_n (lv' := [(2, .ref q9), (0, .ref o0), (1, .ref ou)]) hx hb dL_found_14 rfl hl (by decide) rfl (fun ls hl => ?_)
      refine lv_iconst (v := 2) hx hb dL_found_15 (by decide) ?_
      exact W.iret (v := 2) hx hb hr (fun t ht hW => ⟨⟨2, (fv, (0 : Int32)), rfl, (by exact ⟨(rg_t (a := 2) (by decide) (by first | decide | omega) (by first | decide | omega)), (by have q0 : (0 : Int32).toInt = 0 := (by decide); have q1 : (1 : Int32).toInt = 1 := (by decide); have qm : (-1 : Int32).toInt = -1 := (by decide); omega)⟩), by (try dsimp only); rw [ht]; exact ⟨hT, hF, hxm0, hxm1⟩⟩, hS.F ht⟩) hS.2.2 dL_found_16
  · obtain ⟨u3, u4⟩ := u
    obtain ⟨hT, hF1, m5, m6⟩ := hB
    rw [ht] at hT hF1 m5 m6
    have hF := hF.more hF1 (by decide)
    try dsimp only at hw2
    obtain ⟨h12, hf13⟩ := hw2
    refine lv_i2l (v := r1.toInt64) hx hb dL_found_6 rfl ?_
    refine tw_last (i := 0)  hx hb hK hT hG hS hr_ou shc_98 rfl (by unfold vp_in; decide) ⟨_, rfl⟩ dL_found_7 (fun H locs hT oq m14 oi hS => ?_)
    have hF := hF.ast hr_ou skc_98 oq (by decide)
    have m18 := (el_kept (oq _ (gne hr_bd hr_ou (by decide)))).trans m5
    have m19 := (el_kept (oq _ (gne hr_o0 hr_ou (by decide)))).trans m6
    refine lv_goto (tgt := 17) hx hb dL_found_8 (by decide) ?_
    refine lv_iconst (v := 0) hx hb dL_found_17 (by decide) ?_
    exact W.iret (v := 0) hx hb hr (fun t ht hW => ⟨⟨0, (u3, u4), rfl, (by exact ⟨(rg_t (a := 0) (by decide) (by first | decide | omega) (by first | decide | omega)), (by have q0 : (0 : Int32).toInt = 0 := (by decide); have q1 : (1 : Int32).toInt = 1 := (by decide); have qm : (-1 : Int32).toInt = -1 := (by decide); omega)⟩), by (try dsimp only); rw [ht]; exact ⟨hT, hF, m18, m19⟩⟩, hS.F ht⟩) hS.2.2 dL_found_18
def w_l_proposeC : List Cond := .codeWith yL_propose cL_propose 3 (some .int) [(0, 8, 11, 15), (0, 8, 14, 17)] :: (HAppend.hAppend (α := List Cond) (β := List Cond) (γ := List Cond) [.code yX11_propose cX11_propose 1 (some .int), .fieldLink RX11 30 "SeaLand" "board" "LSeaLand$Board;", .fieldLink RX11 9 "SeaLand" "tape" "[I", .fieldLink RX11 47 "SeaLand" "taped" "I", .code yX4_read cX4_read 4 (some .int), .methodLink RX4 46 Lib.Math.min.name, .static Lib.Math.min.name, .initialized "java/lang/Math", .code Lib.Math.min.name Lib.Math.min.code 2 (some .int), .code yX4_scan cX4_scan 6 none, .fieldLink RX4 11 "SeaLand$Law" "things" "[I", .fieldLink RX4 15 "SeaLand$Law" "begins" "[I", .code yX4_thingEnd cX4_thingEnd 6 (some .int), .code yX4_isLetter cX4_isLetter 1 (some .boolean), .methodLink RX4 81 yX4_isLetter, .static yX4_isLetter, .initialized RX4, .code yX4_isDigit cX4_isDigit 1 (some .boolean), .methodLink RX4 84 yX4_isDigit, .static yX4_isDigit, .methodLink RX4 74 yX4_thingEnd, .static yX4_thingEnd, .code yX4_thingAt cX4_thingAt 3 (some .int), .code yX4_signThing cX4_signThing 1 (some .int), .methodLink RX4 93 yX4_signThing, .static yX4_signThing, .code yX4_numberThing cX4_numberThing 5 (some .int), .methodLink RX4 90 yX4_numberThing, .static yX4_numberThing, .code yX4_wordThing cX4_wordThing 4 (some .int), .code yX4_factThing cX4_factThing 3 (some .int), .code yX4_wordIs cX4_wordIs 5 (some .boolean), .code yJ0_length_8abf5 cJ0_length_8abf5 1 (some .int), .fieldLink RJ0 9 "java/lang/String" "value" "[B", .code yJ0_coder_7d493 cJ0_coder_7d493 1 (some .byte), .fieldLink RJ0 38 "java/lang/String" "COMPACT_STRINGS" "Z", .fieldLink RJ0 15 "java/lang/String" "coder" "B", .methodLink RJ0 335 yJ0_coder_7d493, .instanceMethod yJ0_coder_7d493, .selects RJ0 yJ0_coder_7d493 yJ0_coder_7d493, .initialized RJ0, .methodLink RX4 155 yJ0_length_8abf5, .instanceMethod yJ0_length_8abf5, .selects RJ0 yJ0_length_8abf5 yJ0_length_8abf5, .code yJ0_charAt_5068e cJ0_charAt_5068e 2 (some .char), .code yJ0_isLatin1_aae02 cJ0_isLatin1_aae02 1 (some .boolean), .methodLink RJ0 492 yJ0_isLatin1_aae02, .instanceMethod yJ0_isLatin1_aae02, .selects RJ0 yJ0_isLatin1_aae02 yJ0_isLatin1_aae02, .code yJ1_charAt_3b067 cJ1_charAt_3b067 2 (some .char), .code yJ0_checkIndex_df160 cJ0_checkIndex_df160 2 none, .fieldLink RJ0 1053 "jdk/internal/util/Preconditions" "SIOOBE_FORMATTER" "Ljava/util/function/BiFunction;", .code yJ3_checkIndex_8e157 cJ3_checkIndex_8e157 3 (some .int), .methodLink RJ0 1059 yJ3_checkIndex_8e157, .static yJ3_checkIndex_8e157, .initialized RJ3, .methodLink RJ1 9 yJ0_checkIndex_df160, .static yJ0_checkIndex_df160, .methodLink RJ0 495 yJ1_charAt_3b067, .static yJ1_charAt_3b067, .initialized RJ1, .methodLink RX4 161 yJ0_charAt_5068e, .instanceMethod yJ0_charAt_5068e, .selects RJ0 yJ0_charAt_5068e yJ0_charAt_5068e, .methodLink RX4 105 yX4_wordIs, .static yX4_wordIs, .methodLink RX4 97 yX4_factThing, .static yX4_factThing, .code yX4_lineThing cX4_lineThing 4 (some .int), .methodLink RX4 100 yX4_lineThing, .static yX4_lineThing, .methodLink RX4 87 yX4_wordThing, .static yX4_wordThing, .methodLink RX4 78 yX4_thingAt, .static yX4_thingAt, .methodLink RX4 52 yX4_scan, .instanceMethod yX4_scan, .selects RX4 yX4_scan yX4_scan, .fieldLink RX4 56 "SeaLand$Law" "at" "I", .fieldLink RX4 60 "SeaLand$Law" "lines" "I", .fieldLink RX4 63 "SeaLand$Law" "stepped" "I", .code yX4_readLine cX4_readLine 3 (some .boolean), .code yX4_lineKind cX4_lineKind 1 (some .int), .methodLink RX4 165 yX4_lineKind, .static yX4_lineKind, .fieldLink RX4 18 "SeaLand$Law" "kinds" "[I", .fieldLink RX4 33 "SeaLand$Law" "stepFrom" "[I", .code yX4_take cX4_take 2 (some .boolean), .methodLink RX4 70 yX4_take, .instanceMethod yX4_take, .selects RX4 yX4_take yX4_take, .fieldLink RX4 36 "SeaLand$Law" "stepTo" "[I", .code yX4_readAny cX4_readAny 4 (some .boolean), .code yX4_readAll cX4_readAll 4 (some .boolean), .code yX4_readAtom cX4_readAtom 4 (some .boolean), .code yX4_readComparison cX4_readComparison 3 (some .boolean), .code yX4_readSum cX4_readSum 3 (some .boolean), .code yX4_readPart cX4_readPart 2 (some .boolean), .code yX4_addStep cX4_addStep 2 none, .fieldLink RX4 39 "SeaLand$Law" "steps" "[I", .methodLink RX4 179 yX4_addStep, .instanceMethod yX4_addStep, .selects RX4 yX4_addStep yX4_addStep, .methodLink RX4 192 yX4_readPart, .instanceMethod yX4_readPart, .selects RX4 yX4_readPart yX4_readPart, .methodLink RX4 189 yX4_readSum, .instanceMethod yX4_readSum, .selects RX4 yX4_readSum yX4_readSum, .methodLink RX4 186 yX4_readComparison, .instanceMethod yX4_readComparison, .selects RX4 yX4_readComparison yX4_readComparison, .methodLink RX4 183 yX4_readAtom, .instanceMethod yX4_readAtom, .selects RX4 yX4_readAtom yX4_readAtom, .methodLink RX4 176 yX4_readAll, .instanceMethod yX4_readAll, .selects RX4 yX4_readAll yX4_readAll, .methodLink RX4 173 yX4_readAny, .instanceMethod yX4_readAny, .selects RX4 yX4_readAny yX4_readAny, .fieldLink RX4 21 "SeaLand$Law" "firsts" "[I", .code yX4_takeNumber cX4_takeNumber 4 (some .boolean), .methodLink RX4 168 yX4_takeNumber, .instanceMethod yX4_takeNumber, .selects RX4 yX4_takeNumber yX4_takeNumber, .fieldLink RX4 24 "SeaLand$Law" "seconds" "[I", .fieldLink RX4 27 "SeaLand$Law" "froms" "[I", .fieldLink RX4 30 "SeaLand$Law" "tos" "[I", .constant RX4 172 99999, .methodLink RX4 66 yX4_readLine, .instanceMethod yX4_readLine, .selects RX4 yX4_readLine yX4_readLine, .methodLink RX11 266 yX4_read, .instanceMethod yX4_read, .selects RX4 yX4_read yX4_read, .code yX11_needNumbers cX11_needNumbers 1 none, .classLink RX11 547 "java/lang/IllegalArgumentException", .initialized "java/lang/IllegalArgumentException", .methodLink RX11 62 yX11_needNumbers, .static yX11_needNumbers, .initialized RX11, .code yX0_proposeSpare cX0_proposeSpare 3 (some .int), .fieldLink RX0 45 "SeaLand$Board" "proposed" "LSeaLand$Law;", .fieldLink RX0 48 "SeaLand$Board" "spare" "LSeaLand$Law;", .fieldLink RX0 64 "SeaLand$Board" "voting" "Z", .fieldLink RX0 68 "SeaLand$Board" "yesVotes" "J", .fieldLink RX0 72 "SeaLand$Board" "allVotes" "J", .fieldLink RX0 75 "SeaLand$Board" "settled" "I", .fieldLink RX0 11 "SeaLand$Board" "settlers" "[LSeaLand$Settler;", .methodLink RX11 289 yX0_proposeSpare, .instanceMethod yX0_proposeSpare, .selects RX0 yX0_proposeSpare yX0_proposeSpare, .initialized RX0, .classLink RX11 69 "java/lang/IllegalStateException", .initialized "java/lang/IllegalStateException", .methodLink RL 87 yX11_propose, .instanceMethod yX11_propose, .selects RX11 yX11_propose yX11_propose, .classLink RL 15 "java/lang/IllegalArgumentException", .classLink RL 17 "java/lang/IllegalStateException"] bs2)
set_option maxHeartbeats 4000000 in
set_option maxRecDepth 100000 in
theorem l_proposeC (l : Launch) (hlt : l.stackTraces = false) (dC : Nat → ClassId) (dI : Nat → Nat → Nat) (kA : Nat → ClassId) (adK adV : Nat → Nat) (G : gT) (H0 : Heap) (nC nS : Int) (o0 : Nat) (ou : Nat) (bd : Nat) (tn : Int32) (ta : Nat) (sp : Nat) (vo : Int32) (vc : Nat → Int32) (N : Nat) (fv : Int32) (hT : gH (dC, dI) kA (SHc nC nS) G H0) (hr_o0 : G o0 = some 14) (hr_ou : G ou = some 98) (hm_bd : el H0 o0 (dI 14 3) = some (.ref bd)) (hr_bd : G bd = some 3) (hm_tn : el H0 o0 (dI 14 7) = some (.int tn)) (hm_ta : el H0 o0 (dI 14 0) = some (.ref ta)) (hr_ta : G ta = some 16) (hm_sp : el H0 bd (dI 3 9) = some (.ref sp)) (hr_sp : G sp = some 7) (hm_vo : el H0 bd (dI 3 11) = some (.int vo)) (hq0 : 0 ≤ tn.toInt ∧ tn.toInt ≤ 400) (hq1 : 0 ≤ vo.toInt ∧ vo.toInt ≤ 1) (hc_vc : ct H0 ta 400 vc) (hN : tn.toInt = ((N : Nat) : Int)) (hfv : fv = Int32.ofInt (laE (tc vc) N).2) (hgC : 0 ≤ nC ∧ nC ≤ 40) (hgS : 0 ≤ nS ∧ nS ≤ 60) : Met l yL_propose w_l_proposeC ({ frames := 28, cells := 1, slots := 6, locals := 634 }) (va_Pc [.ref o0, .ref ou] (fun U => U.heap = H0 ∧ va_K (dC, dI) vwCl (tyl kA) U ∧ EVC adK adV (gA G H0.size) U U.heap ∧ NC U)) (va_Qi (fun (r : Int32) (u : Int32 × Int32 × Int32) => match u with | (f1, t1, v1) => (0 ≤ r.toInt ∧ r.toInt ≤ 2) ∧ (r.toInt = prK (laE (tc vc) N).2 vo.toInt) ∧ (f1.toInt = fv.toInt ∧ t1.toInt = 0 ∧ ((prK (laE (tc vc) N).2 vo.toInt = 0 ∧ v1.toInt = 1) ∨ (prK (laE (tc vc) N).2 vo.toInt ≠ 0 ∧ v1.toInt = vo.toInt)))) (fun (u : Int32 × Int32 × Int32) (t : State) => match u with | (f1, t1, v1) => gH (dC, dI) kA (SHc nC nS) G t.heap ∧ gF (dC, dI) SKc G ([(3, 8), (3, 9), (3, 10), (3, 11), (3, 12), (3, 13), (7, 11), (7, 12), (7, 13), (10, 11), (14, 7), (40, 0), (41, 0), (42, 0), (43, 0), (44, 0), (45, 0), (46, 0), (47, 0), (48, 0), (49, 0), (98, 0)] : List (Nat × Nat)) H0 t.heap ∧ el t.heap bd (dI 3 10) = some (.int f1) ∧ el t.heap o0 (dI 14 7) = some (.int t1) ∧ el t.heap bd (dI 3 11) = some (.int v1)) (gA G H0.size)) 1 6 (gA G H0.size) := by
  refine va_MetW (cc := cL_propose) (maxL := 3) (ret := (some .int)) (by decide) rfl ?_
  intro p e s m args below meth c s₁ B hml hv
  have hNt := hN
  obtain ⟨rfl, hH0, hK, hE, hN⟩ := hv
  have hx := B.exec
  have hb := B.bytes
  have hr := B.returns
  have hts := atoms_spec (ws := w_l_proposeC) B.pre
  have hown : s.vm.findClass RL = some m.cls := findClass_of_methodNamed B.named
  have hlocks := B.notSynchronized
  have htab := vx_table (x := yL_propose) B (hts _ List.mem_cons_self)
  subst hH0
  generalize hAe : gA G s.heap.size = A at hE ⊢
  have hA : ∀ q : Nat, s.heap.size ≤ q → A q := fun q h => by rw [← hAe]; exact Or.inr h
  have hG := gA_of hAe
  have hS : va_S A s.heap s.heap [] := va_S.rf
  have hF : gF (dC, dI) SKc G ([(3, 8), (3, 9), (3, 10), (3, 11), (3, 12), (3, 13), (7, 11), (7, 12), (7, 13), (10, 11), (14, 7), (40, 0), (41, 0), (42, 0), (43, 0), (44, 0), (45, 0), (46, 0), (47, 0), (48, 0), (49, 0), (98, 0)] : List (Nat × Nat)) s.heap s.heap := gF.rf
  have hl := lv_entry ([.ref o0, .ref ou]) (n := 3) (Nat.le_of_ble_eq_true rfl)
  rw [lg_entry_eq]
  generalize (lg_sl ([.ref o0, .ref ou]) ++ List.replicate (3 - (lg_sl ([.ref o0, .ref ou])).length) Slot.unset).toArray = ls at hl ⊢
  have hl : lv_has ls 3 [(0, .ref o0), (1, .ref ou)] := hl
  refine lv_aload_n hx hb dL_propose_0 rfl (lv_at hl 1 rfl) ?_
  refine lv_iconst (v := 0) hx hb dL_propose_1 (by decide) ?_
  refine lv_aload_n hx hb dL_propose_2 rfl (lv_at hl 0 rfl) ?_
  have hFc := gA_free hG hA hS
  refine vx_calli (vx_runV (As := []) (rest := [.int 0, .ref ou]) ⟨hx, hb, hml, hown, hts⟩ (c_proposeC l hlt dC dI kA adK adV G s.heap nC nS o0 bd tn ta sp vo vc N fv hT hr_o0 hm_bd hr_bd hm_tn hm_ta hr_ta hm_sp hr_sp hm_vo (by have q8 := ti_all tn; omega) (by have q8 := ti_all vo; omega) hNt hfv hc_vc (by omega) (by omega)) (cwV 0 hts (goodIn_app (goodIn_r _ [157, 158, 159, 142] rfl (by decide +kernel)) (goodIn_ca (goodIn_r _ [1, 2, 3, 4, 5, 6, 7, 8, 9, 10, 11, 12, 13, 14, 15, 16, 17, 18, 19, 20, 21, 22, 23, 24, 25, 26, 27, 28, 29, 30, 31, 32, 33, 34, 35, 36, 37, 38, 39, 40, 41, 42, 43, 44, 45, 46, 47, 48, 49, 50, 51, 52, 53, 54, 55, 56, 57, 58, 59, 60, 61, 62, 63, 64, 65, 66, 67, 68, 69, 70, 71, 72, 73, 74, 75, 76, 77, 78, 79, 80, 81, 82, 83, 84, 85, 86, 87, 88, 89, 90, 91, 92, 93, 94, 95, 96, 97, 98, 99, 100, 101, 102, 103, 104, 105, 106, 107, 108, 109, 110, 111, 112, 113, 114, 115, 116, 117, 118, 119, 120, 121, 122, 123, 124, 125, 126, 127, 128, 129, 130, 131, 132, 133, 134, 135, 136, 137, 138, 139, 140, 141, 142, 143, 144, 145, 146, 147, 148, 149, 150, 151, 152, 153, 154, 155, 156] rfl (by decide +kernel)) (bs2_in _ _))) rfl rfl rfl (by decide +kernel) ⟨(Nat.le_of_ble_eq_true rfl), (Nat.le_of_ble_eq_true rfl)⟩) ⟨fun a U g mk q => by obtain ⟨q0, q1, qK, qE⟩ := q; exact ⟨q0, q1, va_K.moved (u := U) (U := U.calling g mk a) (Vm.Alike.refl U.vm) qK, EVC.blind g mk a qE⟩, gH_rc hK hT hr_o0 shc_14 rfl, fun U hU hW => ⟨rfl, hU, va_K.moved hW.alike hK, hE.call hS hFc hU hW⟩⟩ rfl rfl hl.1 rfl (lv_room (Nat.le_of_ble_eq_true rfl)) dL_propose_3 ⟨(Nat.le_of_ble_eq_true rfl), (Nat.le_of_ble_eq_true rfl)⟩) hS (fun q _ h => hFc q h) hFc (fun q _ h => hFc q h) (fun E ce q9 u t H locs ht hvm _ hw2 _ _ hS hce hcv hcl => ?_) (fun r1 u t H locs ht hvm hw2 hB _ _ hS => ?_)
  · obtain ⟨hw2, hxf, hTx, hFx, hxm0, hxm1, hxm2⟩ := hw2; rw [ht] at hTx hFx hxm0 hxm1 hxm2
    have hT := hTx; have hF := hF.more hFx (by decide)
    rcases hw2 with rfl | rfl
    · have hxf := (hxf.resolve_right (fun h => absurd h.1 (by decide))).2
      refine vx_catch (E := "java/lang/IllegalArgumentException") hown [] ⟨0, 8, 11, 15⟩ [⟨0, 8, 14, 17⟩] (by rw [htab]; rfl) (fun z h => absurd h List.not_mem_nil) (by decide) (by decide) (ht_at2 hts 159 rfl) (va_Nw.use rfl (hE.1.1.2.1.2.1 _ (List.mem_of_getElem? (i := 1) rfl))) hce hcv hcl ?_
      refine lv_astore_n (lv' := [(2, .ref q9), (0, .ref o0), (1, .ref ou)]) hx hb dL_propose_11 rfl hl (by decide) rfl (fun ls hl => ?_)
      refine lv_iconst (v := 1) hx hb dL_propose_12 (by decide) ?_
      exact W.iret (v := 1) hx hb hr (fun t ht hW => ⟨⟨1, (fv, (0 : Int32), vo), rfl, (by exact ⟨(rg_t (a := 1) (by decide) (by first | decide | omega) (by first | decide | omega)), (by have : (1 : Int32).toInt = 1 := (by decide); omega), (by have q0 : (0 : Int32).toInt = 0 := (by decide); have q1 : (1 : Int32).toInt = 1 := (by decide); have qm : (-1 : Int32).toInt = -1 := (by decide); omega)⟩), by (try dsimp only); rw [ht]; exact ⟨hT, hF, hxm0, hxm1, hxm2⟩⟩, hS.F ht⟩) hS.2.2 dL_propose_13
    · have hxf := (hxf.resolve_left (fun h => absurd h.1 (by decide))).2
      refine vx_catch (E := "java/lang/IllegalStateException") hown [⟨0, 8, 11, 15⟩] ⟨0, 8, 14, 17⟩ [] (by rw [htab]; rfl) (fun z h => by
          simp only [List.mem_cons, List.not_mem_nil, or_false] at h
          rcases h with rfl
          · exact Or.inr ⟨by decide, "java/lang/IllegalArgumentException", (ht_at2 hts 159 rfl), hN ("java/lang/IllegalStateException", "java/lang/IllegalArgumentException") (by decide +kernel)⟩) (by decide) (by decide) (ht_at2 hts 160 rfl) (va_Nw.use rfl (hE.1.1.2.1.2.1 _ (List.mem_of_getElem? (i := 3) rfl))) hce hcv hcl ?_
      refine lv_astore_n (lv' := [(2, .ref q9), (0, .ref o0), (1, .ref ou)]) hx hb dL_propose_14 rfl hl (by decide) rfl (fun ls hl => ?_)
      refine lv_iconst (v := 2) hx hb dL_propose_15 (by decide) ?_
      exact W.iret (v := 2) hx hb hr (fun t ht hW => ⟨⟨2, (fv, (0 : Int32), vo), rfl, (by exact ⟨(rg_t (a := 2) (by decide) (by first | decide | omega) (by first | decide | omega)), (by have : (2 : Int32).toInt = 2 := (by decide); omega), (by have q0 : (0 : Int32).toInt = 0 := (by decide); have q1 : (1 : Int32).toInt = 1 := (by decide); have qm : (-1 : Int32).toInt = -1 := (by decide); omega)⟩), by (try dsimp only); rw [ht]; exact ⟨hT, hF, hxm0, hxm1, hxm2⟩⟩, hS.F ht⟩) hS.2.2 dL_propose_16
  · obtain ⟨u3, u4, u5⟩ := u
    obtain ⟨hT, hF1, m6, m7, m8⟩ := hB
    rw [ht] at hT hF1 m6 m7 m8
    have hF := hF.more hF1 (by decide)
    try dsimp only at hw2
    obtain ⟨h15, hf16⟩ := hw2
    refine lv_i2l (v := r1.toInt64) hx hb dL_propose_6 rfl ?_
    refine tw_last (i := 0)  hx hb hK hT hG hS hr_ou shc_98 rfl (by unfold vp_in; decide) ⟨_, rfl⟩ dL_propose_7 (fun H locs hT oq m17 oi hS => ?_)
    have hF := hF.ast hr_ou skc_98 oq (by decide)
    have m21 := (el_kept (oq _ (gne hr_bd hr_ou (by decide)))).trans m6
    have m22 := (el_kept (oq _ (gne hr_o0 hr_ou (by decide)))).trans m7
    have m23 := (el_kept (oq _ (gne hr_bd hr_ou (by decide)))).trans m8
    refine lv_goto (tgt := 17) hx hb dL_propose_8 (by decide) ?_
    refine lv_iconst (v := 0) hx hb dL_propose_17 (by decide) ?_
    exact W.iret (v := 0) hx hb hr (fun t ht hW => ⟨⟨0, (u3, u4, u5), rfl, (by exact ⟨(rg_t (a := 0) (by decide) (by first | decide | omega) (by first | decide | omega)), (by have : (0 : Int32).toInt = 0 := (by decide); omega), (by have q0 : (0 : Int32).toInt = 0 := (by decide); have q1 : (1 : Int32).toInt = 1 := (by decide); have qm : (-1 : Int32).toInt = -1 := (by decide); omega)⟩), by (try dsimp only); rw [ht]; exact ⟨hT, hF, m21, m22, m23⟩⟩, hS.F ht⟩) hS.2.2 dL_propose_18
def w_l_closeC : List Cond := .codeWith yL_close cL_close 3 (some .int) [(0, 15, 18, 17)] :: (HAppend.hAppend (α := List Cond) (β := List Cond) (γ := List Cond) [.code yX11_close cX11_close 1 (some .boolean), .code yX11_needVote cX11_needVote 1 none, .fieldLink RX11 30 "SeaLand" "board" "LSeaLand$Board;", .classLink RX11 69 "java/lang/IllegalStateException", .initialized "java/lang/IllegalStateException", .methodLink RX11 296 yX11_needVote, .instanceMethod yX11_needVote, .selects RX11 yX11_needVote yX11_needVote, .initialized RX11, .code yX0_closeVote cX0_closeVote 3 (some .boolean), .fieldLink RX0 68 "SeaLand$Board" "yesVotes" "J", .constantLong RX0 92 100, .fieldLink RX0 72 "SeaLand$Board" "allVotes" "J", .fieldLink RX0 41 "SeaLand$Board" "force" "LSeaLand$Law;", .code yX4_lastOf cX4_lastOf 5 (some .int), .fieldLink RX4 60 "SeaLand$Law" "lines" "I", .fieldLink RX4 18 "SeaLand$Law" "kinds" "[I", .fieldLink RX4 21 "SeaLand$Law" "firsts" "[I", .methodLink RX0 94 yX4_lastOf, .instanceMethod yX4_lastOf, .selects RX4 yX4_lastOf yX4_lastOf, .initialized RX4, .fieldLink RX0 64 "SeaLand$Board" "voting" "Z", .fieldLink RX0 45 "SeaLand$Board" "proposed" "LSeaLand$Law;", .methodLink RX11 303 yX0_closeVote, .instanceMethod yX0_closeVote, .selects RX0 yX0_closeVote yX0_closeVote, .initialized RX0, .methodLink RL 94 yX11_close, .instanceMethod yX11_close, .selects RX11 yX11_close yX11_close, .classLink RL 17 "java/lang/IllegalStateException"] bs2)
set_option maxHeartbeats 4000000 in
set_option maxRecDepth 100000 in
theorem l_closeC (l : Launch) (hlt : l.stackTraces = false) (dC : Nat → ClassId) (dI : Nat → Nat → Nat) (kA : Nat → ClassId) (adK adV : Nat → Nat) (G : gT) (H0 : Heap) (nC nS : Int) (o0 : Nat) (ou : Nat) (bd : Nat) (vo : Int32) (hT : gH (dC, dI) kA (SHc nC nS) G H0) (hr_o0 : G o0 = some 14) (hr_ou : G ou = some 98) (hm_bd : el H0 o0 (dI 14 3) = some (.ref bd)) (hr_bd : G bd = some 3) (hm_vo : el H0 bd (dI 3 11) = some (.int vo)) (hq0 : 0 ≤ vo.toInt ∧ vo.toInt ≤ 1) (hgC : 0 ≤ nC ∧ nC ≤ 40) (hgS : 0 ≤ nS ∧ nS ≤ 60) : Met l yL_close w_l_closeC ({ frames := 8, cells := 1, slots := 6, locals := 140 }) (va_Pc [.ref o0, .ref ou] (fun U => U.heap = H0 ∧ va_K (dC, dI) vwCl (tyl kA) U ∧ EVC adK adV (gA G H0.size) U U.heap ∧ NC U)) (va_Qi (fun (r : Int32) (u : Int32) => (0 ≤ r.toInt ∧ r.toInt ≤ 1) ∧ (u.toInt = 0)) (fun (v1 : Int32) (t : State) => gH (dC, dI) kA (SHc nC nS) G t.heap ∧ gF (dC, dI) SKc G ([(3, 7), (3, 8), (3, 11), (98, 0)] : List (Nat × Nat)) H0 t.heap ∧ el t.heap bd (dI 3 11) = some (.int v1)) (gA G H0.size)) 1 6 (gA G H0.size) := by
  refine va_MetW (cc := cL_close) (maxL := 3) (ret := (some .int)) (by decide) rfl ?_
  intro p e s m args below meth c s₁ B hml hv
  obtain ⟨rfl, hH0, hK, hE, hN⟩ := hv
  have hx := B.exec
  have hb := B.bytes
  have hr := B.returns
  have hts := atoms_spec (ws := w_l_closeC) B.pre
  have hown : s.vm.findClass RL = some m.cls := findClass_of_methodNamed B.named
  have hlocks := B.notSynchronized
  have htab := vx_table (x := yL_close) B (hts _ List.mem_cons_self)
  subst hH0
  generalize hAe : gA G s.heap.size = A at hE ⊢
  have hA : ∀ q : Nat, s.heap.size ≤ q → A q := fun q h => by rw [← hAe]; exact Or.inr h
  have hG := gA_of hAe
  have hS : va_S A s.heap s.heap [] := va_S.rf
  have hF : gF (dC, dI) SKc G ([(3, 7), (3, 8), (3, 11), (98, 0)] : List (Nat × Nat)) s.heap s.heap := gF.rf
  have hl := lv_entry ([.ref o0, .ref ou]) (n := 3) (Nat.le_of_ble_eq_true rfl)
  rw [lg_entry_eq]
  generalize (lg_sl ([.ref o0, .ref ou]) ++ List.replicate (3 - (lg_sl ([.ref o0, .ref ou])).length) Slot.unset).toArray = ls at hl ⊢
  have hl : lv_has ls 3 [(0, .ref o0), (1, .ref ou)] := hl
  refine lv_aload_n hx hb dL_close_0 rfl (lv_at hl 1 rfl) ?_
  refine lv_iconst (v := 0) hx hb dL_close_1 (by decide) ?_
  refine lv_aload_n hx hb dL_close_2 rfl (lv_at hl 0 rfl) ?_
  have hFc := gA_free hG hA hS
  refine vx_calli (vx_runV (As := []) (rest := [.int 0, .ref ou]) ⟨hx, hb, hml, hown, hts⟩ (c_closeC l hlt dC dI kA adK adV G s.heap nC nS o0 bd vo hT hr_o0 hm_bd hr_bd hm_vo (by have q8 := ti_all vo; omega) (by omega) (by omega)) (cwV 0 hts (goodIn_app (goodIn_r _ [29, 30, 31, 9] rfl (by decide +kernel)) (goodIn_ca (goodIn_r _ [1, 2, 3, 4, 5, 6, 7, 8, 9, 10, 11, 12, 13, 14, 15, 16, 17, 18, 19, 20, 21, 22, 23, 24, 25, 26, 27, 28] rfl (by decide +kernel)) (bs2_in _ _))) rfl rfl rfl (by decide +kernel) ⟨(Nat.le_of_ble_eq_true rfl), (Nat.le_of_ble_eq_true rfl)⟩) ⟨fun a U g mk q => by obtain ⟨q0, q1, qK, qE⟩ := q; exact ⟨q0, q1, va_K.moved (u := U) (U := U.calling g mk a) (Vm.Alike.refl U.vm) qK, EVC.blind g mk a qE⟩, gH_rc hK hT hr_o0 shc_14 rfl, fun U hU hW => ⟨rfl, hU, va_K.moved hW.alike hK, hE.call hS hFc hU hW⟩⟩ rfl rfl hl.1 rfl (lv_room (Nat.le_of_ble_eq_true rfl)) dL_close_3 ⟨(Nat.le_of_ble_eq_true rfl), (Nat.le_of_ble_eq_true rfl)⟩) hS (fun q _ h => hFc q h) hFc (fun q _ h => hFc q h) (fun E ce q9 u t H locs ht hvm _ hw2 _ _ hS hce hcv hcl => ?_) (fun r1 u t H locs ht hvm hw2 hB _ _ hS => ?_)
  · obtain ⟨hw2, hxf, hTx, hFx, hxm0⟩ := hw2; rw [ht] at hTx hFx hxm0
    have hT := hTx; have hF := hF.more hFx (by decide)
    subst hw2
    have hxf := hxf.2
    refine vx_catch (E := "java/lang/IllegalStateException") hown [] ⟨0, 15, 18, 17⟩ [] (by rw [htab]; rfl) (fun z h => absurd h List.not_mem_nil) (by decide) (by decide) (ht_at2 hts 31 rfl) (va_Nw.use rfl (hE.1.1.2.1.2.1 _ (List.mem_of_getElem? (i := 3) rfl))) hce hcv hcl ?_
    refine lv_astore_n (lv' := [(2, .ref q9), (0, .ref o0), (1, .ref ou)]) hx hb dL_close_18 rfl hl (by decide) rfl (fun ls hl => ?_)
    refine lv_iconst (v := 1) hx hb dL_close_19 (by decide) ?_
    exact W.iret (v := 1) hx hb hr (fun t ht hW => ⟨⟨1, vo, rfl, (by exact ⟨(rg_t (a := 1) (by decide) (by first | decide | omega) (by first | decide | omega)), (by have q0 : (0 : Int32).toInt = 0 := (by decide); have q1 : (1 : Int32).toInt = 1 := (by decide); have qm : (-1 : Int32).toInt = -1 := (by decide); omega)⟩), by (try dsimp only); rw [ht]; exact ⟨hT, hF, hxm0⟩⟩, hS.F ht⟩) hS.2.2 dL_close_20
  · obtain ⟨u3, rfl⟩ : ∃ z, z = u := ⟨_, rfl⟩
    obtain ⟨hT, hF1, m4⟩ := hB
    rw [ht] at hT hF1 m4
    have hF := hF.more hF1 (by decide)
    try dsimp only at hw2
    obtain ⟨h7, hf8⟩ := hw2
    refine lv_if_eq (tgt := 13) hx hb dL_close_6 (by decide) (fun c9 => ?_) (fun c9 => ?_)
    · have t10 : r1.toInt = 0 := ti_eq c9 rfl (by decide)
      refine lv_lconst (v := 0) hx hb dL_close_13 (by decide) ?_
      refine tw_last (i := 0)  hx hb hK hT hG hS hr_ou shc_98 rfl (by unfold vp_in; decide) ⟨_, rfl⟩ dL_close_14 (fun H locs hT oq m11 oi hS => ?_)
      have hF := hF.ast hr_ou skc_98 oq (by decide)
      have m13 := (el_kept (oq _ (gne hr_bd hr_ou (by decide)))).trans m4
      refine lv_goto (tgt := 21) hx hb dL_close_15 (by decide) ?_
      refine lv_iconst (v := 0) hx hb dL_close_21 (by decide) ?_
      exact W.iret (v := 0) hx hb hr (fun t ht hW => ⟨⟨0, u3, rfl, (by exact ⟨(rg_t (a := 0) (by decide) (by first | decide | omega) (by first | decide | omega)), (by have q0 : (0 : Int32).toInt = 0 := (by decide); have q1 : (1 : Int32).toInt = 1 := (by decide); have qm : (-1 : Int32).toInt = -1 := (by decide); omega)⟩), by (try dsimp only); rw [ht]; exact ⟨hT, hF, m13⟩⟩, hS.F ht⟩) hS.2.2 dL_close_22
    · have t14 : r1.toInt ≠ 0 := ti_ne c9 rfl (by decide)
      refine lv_lconst (v := 1) hx hb dL_close_9 (by decide) ?_
      refine lv_goto (tgt := 14) hx hb dL_close_10 (by decide) ?_
      refine tw_last (i := 0)  hx hb hK hT hG hS hr_ou shc_98 rfl (by unfold vp_in; decide) ⟨_, rfl⟩ dL_close_14 (fun H locs hT oq m15 oi hS => ?_)
      have hF := hF.ast hr_ou skc_98 oq (by decide)
      have m17 := (el_kept (oq _ (gne hr_bd hr_ou (by decide)))).trans m4
      refine lv_goto (tgt := 21) hx hb dL_close_15 (by decide) ?_
      refine lv_iconst (v := 0) hx hb dL_close_21 (by decide) ?_
      exact W.iret (v := 0) hx hb hr (fun t ht hW => ⟨⟨0, u3, rfl, (by exact ⟨(rg_t (a := 0) (by decide) (by first | decide | omega) (by first | decide | omega)), (by have q0 : (0 : Int32).toInt = 0 := (by decide); have q1 : (1 : Int32).toInt = 1 := (by decide); have qm : (-1 : Int32).toInt = -1 := (by decide); omega)⟩), by (try dsimp only); rw [ht]; exact ⟨hT, hF, m17⟩⟩, hS.F ht⟩) hS.2.2 dL_close_22

