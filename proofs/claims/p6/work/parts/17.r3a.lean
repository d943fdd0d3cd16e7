def w_s_lays : List Cond := .code yX12_lays cX12_lays 5 none :: ([.code yX12_of cX12_of 3 (some .int), .fieldLink RX12 9 "SeaLandModel" "world" "[I", .code yX12_at cX12_at 2 (some .int), .methodLink RX12 214 yX12_at, .static yX12_at, .initialized RX12, .methodLink RX12 217 yX12_of, .instanceMethod yX12_of, .selects RX12 yX12_of yX12_of, .fieldLink RX12 238 "SeaLandModel" "rows" "I"] ++ bs)
set_option maxHeartbeats 4000000 in
set_option maxRecDepth 100000 in
theorem s_lays (l : Launch) (dC : Nat → ClassId) (dI : Nat → Nat → Nat) (kA : Nat → ClassId) (G : gT) (H0 : Heap) (q : Nat → Nat) (wN wH wB wC : Int) (wL wK : Nat → Prop) (PI : Nat → Int → Prop) (o0 : Nat) (wk : Int32) (th : Int32) (cy : Int32) (wl ix_wl : Int32) (hT : gH (dC, dI) kA (SHm q (wP wN wH wB wC wC wL wK) PI) G H0) (hr_o0 : G o0 = some 0) (hq0 : 0 ≤ wk.toInt ∧ wk.toInt ≤ 29) (hq1 : 0 ≤ cy.toInt ∧ cy.toInt ≤ 9) (hx_wl : ix_wl.toInt = 772 + 22 * wk.toInt) (hm_wl : el H0 (q 1) ix_wl.toNatClampNeg = some (.int wl)) (hv_wl : 0 ≤ wl.toInt ∧ wl.toInt ≤ 5) (hgn : 6500000 ≤ wN ∧ wN ≤ 400000000) (hgh : 0 ≤ wH ∧ wH ≤ 40000) (hgb : 0 ≤ wB ∧ wB ≤ 3850000) (hgc : 0 ≤ wC ∧ wC ≤ 30) : Met l yX12_lays w_s_lays ({ frames := 2, cells := 0, slots := 0, locals := 43 }) (va_Pc [.ref o0, .int wk, .int th, .int cy] (fun U => U.heap = H0 ∧ va_K (dC, dI) vwCl (tyl kA) U ∧ EV (gA G H0.size) U U.heap)) (va_Qv (fun (u : Unit) => True) (fun (_ : Unit) (t : State) => gH (dC, dI) kA (SHm q (wP wN wH wB wC wC wL wK) PI) G t.heap ∧ gF (dC, dI) SKm G ([(0, 9), (2, 0)] : List (Nat × Nat)) H0 t.heap) (gA G H0.size)) 0 0 (gA G H0.size) := by
  refine Met.ofW (cc := cX12_lays) (maxL := 5) (ret := none) (by decide) rfl ?_
  intro p e s m args below meth c s₁ B hml hv
  obtain ⟨rfl, hH0, hK, hE⟩ := hv
  have hx := B.exec
  have hb := B.bytes
  have hr := B.returns
  have hts := atoms_spec (ws := w_s_lays) B.pre
  have hown : s.vm.findClass RX12 = some m.cls := findClass_of_methodNamed B.named
  have hlocks := B.notSynchronized
  subst hH0
  generalize hAe : gA G s.heap.size = A at hE ⊢
  have hA : ∀ q : Nat, s.heap.size ≤ q → A q := fun q h => by rw [← hAe]; exact Or.inr h
  have hG := gA_of hAe
  have hS : va_S A s.heap s.heap [] := va_S.rf
  have hF : gF (dC, dI) SKm G ([(0, 9), (2, 0)] : List (Nat × Nat)) s.heap s.heap := gF.rf
  have hl := lv_entry ([.ref o0, .int wk, .int th, .int cy]) (n := 5) (Nat.le_of_ble_eq_true rfl)
  rw [lg_entry_eq]
  generalize (lg_sl ([.ref o0, .int wk, .int th, .int cy]) ++ List.replicate (5 - (lg_sl ([.ref o0, .int wk, .int th, .int cy])).length) Slot.unset).toArray = ls at hl ⊢
  have hl : lv_has ls 5 [(0, .ref o0), (1, .int wk), (2, .int th), (3, .int cy)] := hl
  have hg1 : G (q 1) = some 2 := gx_of hT hr_o0 shm_0 (k := 1) (by decide) rfl
  refine lv_aload_n hx hb dX12_lays_0 rfl (lv_at hl 0 rfl) ?_
  refine lv_iload_n hx hb dX12_lays_1 rfl (lv_at hl 1 rfl) ?_
  refine lv_iconst (v := 4) hx hb dX12_lays_2 (by decide) ?_
  have hFc := gA_free hG hA hS
  refine va_calli (va_runV (As := [.int wk, .int 4]) (rest := []) ⟨hx, hb, hml, hown, hts⟩ (s_of4 l dC dI kA G s.heap q wN wH wB wC wL wK PI o0 wk hT hr_o0 (rg_t (a := wk.toInt) rfl (by have q8 := ti_all wk; omega) (by have q8 := ti_all wk; omega)) (by omega) (by omega) (by omega) (by omega)) (cwV 2 hts (goodIn_app (goodIn_r _ [7, 8, 9, 6] (by decide +kernel) (by decide +kernel)) (goodIn_ca (goodIn_r _ [1, 2, 3, 4, 5, 6] (by decide +kernel) (by decide +kernel)) (bs_in _ _))) rfl rfl rfl (by decide +kernel) ⟨(Nat.le_of_ble_eq_true rfl), (Nat.le_of_ble_eq_true rfl)⟩) ⟨fun a U g mk q => by obtain ⟨q0, q1, qK, qE⟩ := q; exact ⟨q0, q1, va_K.moved (u := U) (U := U.calling g mk a) (Vm.Alike.refl U.vm) qK, EV.blind g mk a qE⟩, gH_recv hK hT hr_o0 shm_0 rfl, fun U hU hW => ⟨rfl, hU, va_K.moved hW.alike hK, hE.call hS hFc hU hW⟩⟩ rfl rfl hl.1 rfl (lv_room (Nat.le_of_ble_eq_true rfl)) dX12_lays_3 ⟨(Nat.le_of_ble_eq_true rfl), (Nat.le_of_ble_eq_true rfl)⟩) hS (fun q _ h => hFc q h) hFc (fun r2 u t H locs ht hvm hw3 hB _ _ hS => ?_)
  obtain ⟨hT, hF1⟩ := hB
  rw [ht] at hT hF1
  have m4 := (el_kept (hF1.arr hg1 skm_2 (by decide))).trans hm_wl
  have hF := hF.more hF1 (by decide)
  try dsimp only at hw3
  obtain ⟨h5, ⟨ix6, hix6, m7⟩⟩ := hw3
  have m8 := (el_kept (hF1.arr hg1 skm_2 (by decide))).trans m7
  obtain rfl : wl = r2 := (el_same m8 m4 (by have q8 := (show ix_wl.toInt = ix_wl.toInt from rfl); omega)).symm
  refine lv_istore (lv' := [(4, .int wl), (0, .ref o0), (1, .int wk), (2, .int th), (3, .int cy)]) hx hb dX12_lays_6 hl (by decide) rfl (fun ls hl => ?_)
  refine lv_aload_n hx hb dX12_lays_8 rfl (lv_at hl 1 rfl) ?_
  refine tw_get hx hb hts bF_X12 hown hK hT hr_o0 shm_0 rfl 1 (by decide) (ht_at hts 1 rfl) (fun _ h9 => h9) dX12_lays_9 (fun v9 m9 h9 => ?_)
  obtain ⟨rfl, hg10⟩ := h9 _ rfl
  refine lv_iload_n hx hb dX12_lays_12 rfl (lv_at hl 2 rfl) ?_
  refine lv_iconst (v := 5) hx hb dX12_lays_13 (by decide) ?_
  refine lv_iload hx hb dX12_lays_14 (lv_at hl 0 rfl) ?_
  refine lv_iadd hx hb dX12_lays_16 ?_
  refine lv_topi (fun x11 ex11 => ?_)
  have t12 : x11.toInt = 5 + wl.toInt := ti_add ex11 (by decide) rfl (by omega) (by omega)
  have hFc := gA_free hG hA hS
  refine va_calli (va_runS (As := [.int wk, .int x11]) (rest := [.ref (q 1)]) ⟨hx, hb, hml, hown, hts⟩ (s_at l dC dI kA G H q wN wH wB wC wL wK PI wk x11 hT (rg_t (a := wk.toInt) rfl (by have q8 := ti_all wk; omega) (by have q8 := ti_all wk; omega)) (rg_t (a := x11.toInt) rfl (by have q8 := ti_all x11; omega) (by have q8 := ti_all x11; omega)) (by omega) (by omega) (by omega) (by omega)) (va_cwS 2 hts (goodIn_app (goodIn_r _ [4, 5, 6] (by decide +kernel) (by decide +kernel)) (goodIn_ca (goodIn_r _ [3] (by decide +kernel) (by decide +kernel)) (bs_in _ _))) rfl rfl rfl (by decide +kernel) ⟨(Nat.le_of_ble_eq_true rfl), (Nat.le_of_ble_eq_true rfl)⟩) ⟨fun a U g mk q => by obtain ⟨q0, q1, qK, qE⟩ := q; exact ⟨q0, q1, va_K.moved (u := U) (U := U.calling g mk a) (Vm.Alike.refl U.vm) qK, EV.blind g mk a qE⟩, fun U hU hW => ⟨rfl, hU, va_K.moved hW.alike hK, hE.call hS hFc hU hW⟩⟩ rfl rfl hl.1 rfl (lv_room (Nat.le_of_ble_eq_true rfl)) dX12_lays_17 ⟨(Nat.le_of_ble_eq_true rfl), (Nat.le_of_ble_eq_true rfl)⟩) hS (fun q _ h => hFc q h) hFc (fun r13 u t H locs ht hvm hw14 hB _ _ hS => ?_)
  obtain ⟨hT, hF1⟩ := hB
  rw [ht] at hT hF1
  have m15 := (el_kept (hF1.arr hg1 skm_2 (by decide))).trans m4
  have hF := hF.more hF1 (by decide)
  try dsimp only at hw14
  obtain ⟨h16, hf17⟩ := hw14
  refine lv_iload_n hx hb dX12_lays_20 rfl (lv_at hl 3 rfl) ?_
  refine tw_iast (i := r13) (x := th) hx hb hK hT hG hS hg1 shm_2 rfl (vin_t (a := r13.toInt) rfl (by omega) (by omega)) (gp_of (gi_all _) (w_fre (by have q9 := tn_of (show r13.toInt = r13.toInt from rfl) (show (0 : Int) ≤ r13.toInt from by omega); omega)) (wX_o (by have q9 := tn_of (show r13.toInt = r13.toInt from rfl) (show (0 : Int) ≤ r13.toInt from by omega); omega) (by omega))) dX12_lays_21 (fun H locs hT oq m18 oi hS => ?_)
  have hF := hF.ast hg1 skm_2 oq (by decide)
  have m19 := (oi _ (tn_ne (show ix_wl.toInt = ix_wl.toInt from rfl) (show r13.toInt = r13.toInt from rfl) (by omega) (by omega) (by omega))).trans m15
  refine lv_aload_n hx hb dX12_lays_22 rfl (lv_at hl 1 rfl) ?_
  refine tw_get hx hb hts bF_X12 hown hK hT hr_o0 shm_0 rfl 1 (by decide) (ht_at hts 1 rfl) (fun _ h9 => h9) dX12_lays_23 (fun v9 m20 h9 => ?_)
  obtain ⟨rfl, hg21⟩ := h9 _ rfl
  refine lv_iload_n hx hb dX12_lays_26 rfl (lv_at hl 2 rfl) ?_
  refine lv_bipush (v := 11) hx hb dX12_lays_27 (by decide) ?_
  refine lv_iload hx hb dX12_lays_29 (lv_at hl 0 rfl) ?_
  refine lv_iadd hx hb dX12_lays_31 ?_
  refine lv_topi (fun x22 ex22 => ?_)
  have t23 : x22.toInt = 11 + wl.toInt := ti_add ex22 (by decide) rfl (by omega) (by omega)
  have hFc := gA_free hG hA hS
  refine va_calli (va_runS (As := [.int wk, .int x22]) (rest := [.ref (q 1)]) ⟨hx, hb, hml, hown, hts⟩ (s_at l dC dI kA G H q wN wH wB wC wL wK PI wk x22 hT (rg_t (a := wk.toInt) rfl (by have q8 := ti_all wk; omega) (by have q8 := ti_all wk; omega)) (rg_t (a := x22.toInt) rfl (by have q8 := ti_all x22; omega) (by have q8 := ti_all x22; omega)) (by omega) (by omega) (by omega) (by omega)) (va_cwS 2 hts (goodIn_app (goodIn_r _ [4, 5, 6] (by decide +kernel) (by decide +kernel)) (goodIn_ca (goodIn_r _ [3] (by decide +kernel) (by decide +kernel)) (bs_in _ _))) rfl rfl rfl (by decide +kernel) ⟨(Nat.le_of_ble_eq_true rfl), (Nat.le_of_ble_eq_true rfl)⟩) ⟨fun a U g mk q => by obtain ⟨q0, q1, qK, qE⟩ := q; exact ⟨q0, q1, va_K.moved (u := U) (U := U.calling g mk a) (Vm.Alike.refl U.vm) qK, EV.blind g mk a qE⟩, fun U hU hW => ⟨rfl, hU, va_K.moved hW.alike hK, hE.call hS hFc hU hW⟩⟩ rfl rfl hl.1 rfl (lv_room (Nat.le_of_ble_eq_true rfl)) dX12_lays_32 ⟨(Nat.le_of_ble_eq_true rfl), (Nat.le_of_ble_eq_true rfl)⟩) hS (fun q _ h => hFc q h) hFc (fun r24 u t H locs ht hvm hw25 hB _ _ hS => ?_)
  obtain ⟨hT, hF1⟩ := hB
  rw [ht] at hT hF1
  have m26 := (el_kept (hF1.arr hg1 skm_2 (by decide))).trans m19
  have m27 := (el_kept (hF1.arr hg1 skm_2 (by decide))).trans m18
  have hF := hF.more hF1 (by decide)
  try dsimp only at hw25
  obtain ⟨h28, hf29⟩ := hw25
  refine lv_iload_n hx hb dX12_lays_35 rfl (lv_at hl 4 rfl) ?_
  refine tw_iast (i := r24) (x := cy) hx hb hK hT hG hS hg1 shm_2 rfl (vin_t (a := r24.toInt) rfl (by omega) (by omega)) (gp_of (gi_of (show cy.toInt = cy.toInt from rfl) (by omega) (by omega)) (w_wcl (by have q9 := tn_of (show r24.toInt = r24.toInt from rfl) (show (0 : Int) ≤ r24.toInt from by omega); omega)) (wX_o (by have q9 := tn_of (show r24.toInt = r24.toInt from rfl) (show (0 : Int) ≤ r24.toInt from by omega); omega) (by omega))) dX12_lays_36 (fun H locs hT oq m30 oi hS => ?_)
  have hF := hF.ast hg1 skm_2 oq (by decide)
  have m31 := (oi _ (tn_ne (show ix_wl.toInt = ix_wl.toInt from rfl) (show r24.toInt = r24.toInt from rfl) (by omega) (by omega) (by omega))).trans m26
  have m32 := (oi _ (tn_ne (show r13.toInt = r13.toInt from rfl) (show r24.toInt = r24.toInt from rfl) (by omega) (by omega) (by omega))).trans m27
  refine lv_aload_n hx hb dX12_lays_37 rfl (lv_at hl 1 rfl) ?_
  refine tw_get hx hb hts bF_X12 hown hK hT hr_o0 shm_0 rfl 1 (by decide) (ht_at hts 1 rfl) (fun _ h9 => h9) dX12_lays_38 (fun v9 m33 h9 => ?_)
  obtain ⟨rfl, hg34⟩ := h9 _ rfl
  refine lv_iload_n hx hb dX12_lays_41 rfl (lv_at hl 2 rfl) ?_
  refine lv_iconst (v := 4) hx hb dX12_lays_42 (by decide) ?_
  have hFc := gA_free hG hA hS
  refine va_calli (va_runS (As := [.int wk, .int 4]) (rest := [.ref (q 1)]) ⟨hx, hb, hml, hown, hts⟩ (s_at l dC dI kA G H q wN wH wB wC wL wK PI wk 4 hT (rg_t (a := wk.toInt) rfl (by have q8 := ti_all wk; omega) (by have q8 := ti_all wk; omega)) (rg_t (a := 4) (by decide) (by omega) (by omega)) (by omega) (by omega) (by omega) (by omega)) (va_cwS 2 hts (goodIn_app (goodIn_r _ [4, 5, 6] (by decide +kernel) (by decide +kernel)) (goodIn_ca (goodIn_r _ [3] (by decide +kernel) (by decide +kernel)) (bs_in _ _))) rfl rfl rfl (by decide +kernel) ⟨(Nat.le_of_ble_eq_true rfl), (Nat.le_of_ble_eq_true rfl)⟩) ⟨fun a U g mk q => by obtain ⟨q0, q1, qK, qE⟩ := q; exact ⟨q0, q1, va_K.moved (u := U) (U := U.calling g mk a) (Vm.Alike.refl U.vm) qK, EV.blind g mk a qE⟩, fun U hU hW => ⟨rfl, hU, va_K.moved hW.alike hK, hE.call hS hFc hU hW⟩⟩ rfl rfl hl.1 rfl (lv_room (Nat.le_of_ble_eq_true rfl)) dX12_lays_43 ⟨(Nat.le_of_ble_eq_true rfl), (Nat.le_of_ble_eq_true rfl)⟩) hS (fun q _ h => hFc q h) hFc (fun r35 u t H locs ht hvm hw36 hB _ _ hS => ?_)
  obtain ⟨hT, hF1⟩ := hB
  rw [ht] at hT hF1
  have m37 := (el_kept (hF1.arr hg1 skm_2 (by decide))).trans m31
  have m38 := (el_kept (hF1.arr hg1 skm_2 (by decide))).trans m32
  have m39 := (el_kept (hF1.arr hg1 skm_2 (by decide))).trans m30
  have hF := hF.more hF1 (by decide)
  try dsimp only at hw36
  obtain ⟨h40, hf41⟩ := hw36
  have t42 : (4 : Int32).toInt = 4 := by decide
  refine lv_iload hx hb dX12_lays_46 (lv_at hl 0 rfl) ?_
  refine lv_iconst (v := 1) hx hb dX12_lays_48 (by decide) ?_
  refine lv_iadd hx hb dX12_lays_49 ?_
  refine lv_topi (fun x43 ex43 => ?_)
  have t44 : x43.toInt = wl.toInt + 1 := ti_add ex43 rfl (by decide) (by omega) (by omega)
  refine tw_iast (i := r35) (x := x43) hx hb hK hT hG hS hg1 shm_2 rfl (vin_t (a := r35.toInt) rfl (by omega) (by omega)) (gp_of (gi_of (show x43.toInt = x43.toInt from rfl) (by omega) (by omega)) (w_wld (by have q9 := tn_of (show r35.toInt = r35.toInt from rfl) (show (0 : Int) ≤ r35.toInt from by omega); omega)) (wX_o (by have q9 := tn_of (show r35.toInt = r35.toInt from rfl) (show (0 : Int) ≤ r35.toInt from by omega); omega) (by omega))) dX12_lays_50 (fun H locs hT oq m45 oi hS => ?_)
  have hF := hF.ast hg1 skm_2 oq (by decide)
  have m46 := (oi _ (tn_ne (show r13.toInt = r13.toInt from rfl) (show r35.toInt = r35.toInt from rfl) (by omega) (by omega) (by omega))).trans m38
  have m47 := (oi _ (tn_ne (show r24.toInt = r24.toInt from rfl) (show r35.toInt = r35.toInt from rfl) (by omega) (by omega) (by omega))).trans m39
  refine lv_aload_n hx hb dX12_lays_51 rfl (lv_at hl 1 rfl) ?_
  refine lv_iconst (v := 0) hx hb dX12_lays_52 (by decide) ?_
  refine tw_put (v := .int 0) (ty := .int) hx hb hts bF_X12 tyX12 tyX12_ok nmX12 hown hK hT hG hS hr_o0 shm_0 rfl 9 (by decide) (ht_at hts 9 rfl) (fun _ h9 => h9) rfl (by decide +kernel) rfl rfl (gl_at rfl (gi_of (show (0 : Int32).toInt = 0 from (by decide)) (by omega) (by omega))) dX12_lays_53 (fun H locs hT oq m48 oj hS => ?_)
  have hF := hF.put hr_o0 skm_0 oq oj (by decide)
  have m49 := (el_kept (oq _ (gne hg1 hr_o0 (by decide)))).trans m46
  have m50 := (el_kept (oq _ (gne hg1 hr_o0 (by decide)))).trans m47
  have m51 := (el_kept (oq _ (gne hg1 hr_o0 (by decide)))).trans m45
  exact W.vret hx hb hr (fun t ht hW => ⟨⟨(), rfl, (by exact trivial), by (try dsimp only); rw [ht]; exact ⟨hT, hF⟩⟩, hS.F ht⟩) hS.2.2 dX12_lays_56
def w_s_level : List Cond := .code yX12_level cX12_level 2 (some .int) :: ([.code yX12_isLand cX12_isLand 2 (some .boolean), .fieldLink RX12 9 "SeaLandModel" "world" "[I", .methodLink RX12 235 yX12_isLand, .instanceMethod yX12_isLand, .selects RX12 yX12_isLand yX12_isLand, .initialized RX12, .code yX12_hour cX12_hour 1 (some .int), .methodLink RX12 228 yX12_hour, .instanceMethod yX12_hour, .selects RX12 yX12_hour yX12_hour, .code yX12_outside cX12_outside 4 (some .int), .code yX12_in cX12_in 3 (some .boolean), .methodLink RX12 197 yX12_in, .static yX12_in, .methodLink RX12 247 yX12_outside, .instanceMethod yX12_outside, .selects RX12 yX12_outside yX12_outside] ++ bs)
set_option maxHeartbeats 4000000 in
set_option maxRecDepth 100000 in
theorem s_level (l : Launch) (dC : Nat → ClassId) (dI : Nat → Nat → Nat) (kA : Nat → ClassId) (G : gT) (H0 : Heap) (q : Nat → Nat) (wN wH wB wC : Int) (wL wK : Nat → Prop) (PI : Nat → Int → Prop) (o0 : Nat) (sq : Int32) (hT : gH (dC, dI) kA (SHm q (wP wN wH wB wC wC wL wK) PI) G H0) (hr_o0 : G o0 = some 0) (hq0 : 0 ≤ sq.toInt ∧ sq.toInt ≤ 95) (hgn : 6500000 ≤ wN ∧ wN ≤ 400000000) (hgh : 0 ≤ wH ∧ wH ≤ 40000) (hgb : 0 ≤ wB ∧ wB ≤ 3850000) (hgc : 0 ≤ wC ∧ wC ≤ 30) : Met l yX12_level w_s_level ({ frames := 2, cells := 0, slots := 0, locals := 45 }) (va_Pc [.ref o0, .int sq] (fun U => U.heap = H0 ∧ va_K (dC, dI) vwCl (tyl kA) U ∧ EV (gA G H0.size) U U.heap)) (va_Qi (fun (r : Int32) (u : Unit) => True) (fun (_ : Unit) (t : State) => gH (dC, dI) kA (SHm q (wP wN wH wB wC wC wL wK) PI) G t.heap ∧ gF (dC, dI) SKm G ([] : List (Nat × Nat)) H0 t.heap) (gA G H0.size)) 0 0 (gA G H0.size) := by
  refine Met.ofW (cc := cX12_level) (maxL := 2) (ret := (some .int)) (by decide) rfl ?_
  intro p e s m args below meth c s₁ B hml hv
  obtain ⟨rfl, hH0, hK, hE⟩ := hv
  have hx := B.exec
  have hb := B.bytes
  have hr := B.returns
  have hts := atoms_spec (ws := w_s_level) B.pre
  have hown : s.vm.findClass RX12 = some m.cls := findClass_of_methodNamed B.named
  have hlocks := B.notSynchronized
  subst hH0
  generalize hAe : gA G s.heap.size = A at hE ⊢
  have hA : ∀ q : Nat, s.heap.size ≤ q → A q := fun q h => by rw [← hAe]; exact Or.inr h
  have hG := gA_of hAe
  have hS : va_S A s.heap s.heap [] := va_S.rf
  have hF : gF (dC, dI) SKm G ([] : List (Nat × Nat)) s.heap s.heap := gF.rf
  have hl := lv_entry ([.ref o0, .int sq]) (n := 2) (Nat.le_of_ble_eq_true rfl)
  rw [lg_entry_eq]
  generalize (lg_sl ([.ref o0, .int sq]) ++ List.replicate (2 - (lg_sl ([.ref o0, .int sq])).length) Slot.unset).toArray = ls at hl ⊢
  have hl : lv_has ls 2 [(0, .ref o0), (1, .int sq)] := hl
  refine lv_aload_n hx hb dX12_level_0 rfl (lv_at hl 0 rfl) ?_
  refine lv_iload_n hx hb dX12_level_1 rfl (lv_at hl 1 rfl) ?_
  have hFc := gA_free hG hA hS
  refine va_calli (va_runV (As := [.int sq]) (rest := []) ⟨hx, hb, hml, hown, hts⟩ (s_isLand l dC dI kA G s.heap q wN wH wB wC wL wK PI o0 sq hT hr_o0 (rg_t (a := sq.toInt) rfl (by have q8 := ti_all sq; omega) (by have q8 := ti_all sq; omega)) (by omega) (by omega) (by omega) (by omega)) (cwV 1 hts (goodIn_app (goodIn_r _ [3, 4, 5, 6] (by decide +kernel) (by decide +kernel)) (goodIn_ca (goodIn_r _ [1, 2] (by decide +kernel) (by decide +kernel)) (bs_in _ _))) rfl rfl rfl (by decide +kernel) ⟨(Nat.le_of_ble_eq_true rfl), (Nat.le_of_ble_eq_true rfl)⟩) ⟨fun a U g mk q => by obtain ⟨q0, q1, qK, qE⟩ := q; exact ⟨q0, q1, va_K.moved (u := U) (U := U.calling g mk a) (Vm.Alike.refl U.vm) qK, EV.blind g mk a qE⟩, gH_recv hK hT hr_o0 shm_0 rfl, fun U hU hW => ⟨rfl, hU, va_K.moved hW.alike hK, hE.call hS hFc hU hW⟩⟩ rfl rfl hl.1 rfl (lv_room (Nat.le_of_ble_eq_true rfl)) dX12_level_2 ⟨(Nat.le_of_ble_eq_true rfl), (Nat.le_of_ble_eq_true rfl)⟩) hS (fun q _ h => hFc q h) hFc (fun r1 u t H locs ht hvm hw2 hB _ _ hS => ?_)
  obtain ⟨hT, hF1⟩ := hB
  rw [ht] at hT hF1
  have hF := hF.more hF1 (by decide)
  try dsimp only at hw2
  have h3 := hw2
  refine lv_if_eq (tgt := 31) hx hb dX12_level_5 (by decide) (fun c4 => ?_) (fun c4 => ?_)
  · have t5 : r1.toInt = 0 := ti_eq c4 rfl (by decide)
    refine lv_aload_n hx hb dX12_level_31 rfl (lv_at hl 0 rfl) ?_
    refine lv_aload_n hx hb dX12_level_32 rfl (lv_at hl 0 rfl) ?_
    have hFc := gA_free hG hA hS
    refine va_calli (va_runV (As := []) (rest := [.ref o0]) ⟨hx, hb, hml, hown, hts⟩ (s_hour l dC dI kA G H q wN wH wB wC wL wK PI o0 hT hr_o0 (by omega) (by omega) (by omega) (by omega)) (cwV 0 hts (goodIn_app (goodIn_r _ [8, 9, 10, 6] (by decide +kernel) (by decide +kernel)) (goodIn_ca (goodIn_r _ [7, 2] (by decide +kernel) (by decide +kernel)) (bs_in _ _))) rfl rfl rfl (by decide +kernel) ⟨(Nat.le_of_ble_eq_true rfl), (Nat.le_of_ble_eq_true rfl)⟩) ⟨fun a U g mk q => by obtain ⟨q0, q1, qK, qE⟩ := q; exact ⟨q0, q1, va_K.moved (u := U) (U := U.calling g mk a) (Vm.Alike.refl U.vm) qK, EV.blind g mk a qE⟩, gH_recv hK hT hr_o0 shm_0 rfl, fun U hU hW => ⟨rfl, hU, va_K.moved hW.alike hK, hE.call hS hFc hU hW⟩⟩ rfl rfl hl.1 rfl (lv_room (Nat.le_of_ble_eq_true rfl)) dX12_level_33 ⟨(Nat.le_of_ble_eq_true rfl), (Nat.le_of_ble_eq_true rfl)⟩) hS (fun q _ h => hFc q h) hFc (fun r6 u t H locs ht hvm hw7 hB _ _ hS => ?_)
    obtain ⟨hT, hF1⟩ := hB
    rw [ht] at hT hF1
    have hF := hF.more hF1 (by decide)
    try dsimp only at hw7
    have h8 := hw7
    have hFc := gA_free hG hA hS
    refine va_calli (va_runV (As := [.int r6]) (rest := []) ⟨hx, hb, hml, hown, hts⟩ (s_outside l dC dI kA G H q wN wH wB wC wL wK PI o0 r6 hT hr_o0 (rg_t (a := r6.toInt) rfl (by have q8 := ti_all r6; omega) (by have q8 := ti_all r6; omega)) (by omega) (by omega) (by omega) (by omega)) (cwV 1 hts (goodIn_app (goodIn_r _ [15, 16, 17, 6] (by decide +kernel) (by decide +kernel)) (goodIn_ca (goodIn_r _ [11, 2, 12, 13, 14, 6] (by decide +kernel) (by decide +kernel)) (bs_in _ _))) rfl rfl rfl (by decide +kernel) ⟨(Nat.le_of_ble_eq_true rfl), (Nat.le_of_ble_eq_true rfl)⟩) ⟨fun a U g mk q => by obtain ⟨q0, q1, qK, qE⟩ := q; exact ⟨q0, q1, va_K.moved (u := U) (U := U.calling g mk a) (Vm.Alike.refl U.vm) qK, EV.blind g mk a qE⟩, gH_recv hK hT hr_o0 shm_0 rfl, fun U hU hW => ⟨rfl, hU, va_K.moved hW.alike hK, hE.call hS hFc hU hW⟩⟩ rfl rfl hl.1 rfl (lv_room (Nat.le_of_ble_eq_true rfl)) dX12_level_36 ⟨(Nat.le_of_ble_eq_true rfl), (Nat.le_of_ble_eq_true rfl)⟩) hS (fun q _ h => hFc q h) hFc (fun r9 u t H locs ht hvm hw10 hB _ _ hS => ?_)
    obtain ⟨hT, hF1⟩ := hB
    rw [ht] at hT hF1
    have hF := hF.more hF1 (by decide)
    try dsimp only at hw10
    exact W.iret (v := r9) hx hb hr (fun t ht hW => ⟨⟨r9, (), rfl, (by exact trivial), by (try dsimp only); rw [ht]; exact ⟨hT, hF⟩⟩, hS.F ht⟩) hS.2.2 dX12_level_39
  · have t11 : r1.toInt ≠ 0 := ti_ne c4 rfl (by decide)
    refine lv_aload_n hx hb dX12_level_8 rfl (lv_at hl 0 rfl) ?_
    refine tw_get hx hb hts bF_X12 hown hK hT hr_o0 shm_0 rfl 1 (by decide) (ht_at hts 1 rfl) (fun _ h9 => h9) dX12_level_9 (fun v9 m12 h9 => ?_)
    obtain ⟨rfl, hg13⟩ := h9 _ rfl
    refine lv_bipush (v := 96) hx hb dX12_level_12 (by decide) ?_
    refine lv_iload_n hx hb dX12_level_14 rfl (lv_at hl 1 rfl) ?_
    refine lv_iadd hx hb dX12_level_15 ?_
    refine lv_topi (fun x14 ex14 => ?_)
    have t15 : x14.toInt = 96 + sq.toInt := ti_add ex14 (by decide) rfl (by omega) (by omega)
    refine tw_iald (i := x14) hx hb hK hT hg13 shm_2 rfl (vin_t (a := x14.toInt) rfl (by omega) (by omega)) dX12_level_16 (fun v9 m16 h9 => ?_)
    obtain ⟨x17, rfl, gx17, kx17⟩ := (gp_at h9 (w_hgt (by have q9 := tn_of (show x14.toInt = x14.toInt from rfl) (show (0 : Int) ≤ x14.toInt from by omega); omega)))
    refine lv_aload_n hx hb dX12_level_17 rfl (lv_at hl 0 rfl) ?_
    refine tw_get hx hb hts bF_X12 hown hK hT hr_o0 shm_0 rfl 1 (by decide) (ht_at hts 1 rfl) (fun _ h9 => h9) dX12_level_18 (fun v9 m18 h9 => ?_)
    obtain ⟨rfl, hg19⟩ := h9 _ rfl
    refine lv_sipush (v := 384) hx hb dX12_level_21 (by decide) ?_
    refine lv_iload_n hx hb dX12_level_24 rfl (lv_at hl 1 rfl) ?_
    refine lv_iadd hx hb dX12_level_25 ?_
    refine lv_topi (fun x20 ex20 => ?_)
    have t21 : x20.toInt = 384 + sq.toInt := ti_add ex20 (by decide) rfl (by omega) (by omega)
    refine tw_iald (i := x20) hx hb hK hT hg13 shm_2 rfl (vin_t (a := x20.toInt) rfl (by omega) (by omega)) dX12_level_26 (fun v9 m22 h9 => ?_)
    obtain ⟨x23, rfl, gx23, kx23⟩ := (gp_at h9 (w_wat (by have q9 := tn_of (show x20.toInt = x20.toInt from rfl) (show (0 : Int) ≤ x20.toInt from by omega); omega)))
    refine lv_iadd hx hb dX12_level_27 ?_
    refine lv_topi (fun x24 ex24 => ?_)
    have t25 : x24.toInt = x17.toInt + x23.toInt := ti_add ex24 rfl rfl (by omega) (by omega)
    refine lv_goto (tgt := 39) hx hb dX12_level_28 (by decide) ?_
    exact W.iret (v := x24) hx hb hr (fun t ht hW => ⟨⟨x24, (), rfl, (by exact trivial), by (try dsimp only); rw [ht]; exact ⟨hT, hF⟩⟩, hS.F ht⟩) hS.2.2 dX12_level_39
def w_s_brings : List Cond := .code yX12_brings cX12_brings 3 none :: ([.fieldLink RX12 9 "SeaLandModel" "world" "[I", .code yX12_at cX12_at 2 (some .int), .methodLink RX12 214 yX12_at, .static yX12_at, .initialized RX12] ++ bs)
set_option maxHeartbeats 4000000 in
set_option maxRecDepth 100000 in
theorem s_brings (l : Launch) (dC : Nat → ClassId) (dI : Nat → Nat → Nat) (kA : Nat → ClassId) (G : gT) (H0 : Heap) (q : Nat → Nat) (wN wH wB wC : Int) (wL wK : Nat → Prop) (PI : Nat → Int → Prop) (o0 : Nat) (wk : Int32) (am : Int32) (hT : gH (dC, dI) kA (SHm q (wP wN wH wB wC wC wL wK) PI) G H0) (hr_o0 : G o0 = some 0) (hq0 : 0 ≤ wk.toInt ∧ wk.toInt ≤ 29) (hgn : 6500000 ≤ wN ∧ wN ≤ 400000000) (hgh : 0 ≤ wH ∧ wH ≤ 40000) (hgb : 0 ≤ wB ∧ wB ≤ 3850000) (hgc : 0 ≤ wC ∧ wC ≤ 30) : Met l yX12_brings w_s_brings ({ frames := 1, cells := 0, slots := 0, locals := 21 }) (va_Pc [.ref o0, .int wk, .int am] (fun U => U.heap = H0 ∧ va_K (dC, dI) vwCl (tyl kA) U ∧ EV (gA G H0.size) U U.heap)) (va_Qv (fun (u : Unit) => True) (fun (_ : Unit) (t : State) => gH (dC, dI) kA (SHm q (wP wN wH wB wC wC wL wK) PI) G t.heap ∧ gF (dC, dI) SKm G ([(2, 0)] : List (Nat × Nat)) H0 t.heap) (gA G H0.size)) 0 0 (gA G H0.size) := by
  refine Met.ofW (cc := cX12_brings) (maxL := 3) (ret := none) (by decide) rfl ?_
  intro p e s m args below meth c s₁ B hml hv
  obtain ⟨rfl, hH0, hK, hE⟩ := hv
  have hx := B.exec
  have hb := B.bytes
  have hr := B.returns
  have hts := atoms_spec (ws := w_s_brings) B.pre
  have hown : s.vm.findClass RX12 = some m.cls := findClass_of_methodNamed B.named
  have hlocks := B.notSynchronized
  subst hH0
  generalize hAe : gA G s.heap.size = A at hE ⊢
  have hA : ∀ q : Nat, s.heap.size ≤ q → A q := fun q h => by rw [← hAe]; exact Or.inr h
  have hG := gA_of hAe
  have hS : va_S A s.heap s.heap [] := va_S.rf
  have hF : gF (dC, dI) SKm G ([(2, 0)] : List (Nat × Nat)) s.heap s.heap := gF.rf
  have hl := lv_entry ([.ref o0, .int wk, .int am]) (n := 3) (Nat.le_of_ble_eq_true rfl)
  rw [lg_entry_eq]
  generalize (lg_sl ([.ref o0, .int wk, .int am]) ++ List.replicate (3 - (lg_sl ([.ref o0, .int wk, .int am])).length) Slot.unset).toArray = ls at hl ⊢
  have hl : lv_has ls 3 [(0, .ref o0), (1, .int wk), (2, .int am)] := hl
  refine lv_aload_n hx hb dX12_brings_0 rfl (lv_at hl 0 rfl) ?_
  refine tw_get hx hb hts bF_X12 hown hK hT hr_o0 shm_0 rfl 1 (by decide) (ht_at hts 0 rfl) (fun _ h9 => h9) dX12_brings_1 (fun v9 m1 h9 => ?_)
  obtain ⟨rfl, hg2⟩ := h9 _ rfl
  refine lv_iload_n hx hb dX12_brings_4 rfl (lv_at hl 1 rfl) ?_
  refine lv_bipush (v := 20) hx hb dX12_brings_5 (by decide) ?_
  have hFc := gA_free hG hA hS
  refine va_calli (va_runS (As := [.int wk, .int 20]) (rest := [.ref (q 1)]) ⟨hx, hb, hml, hown, hts⟩ (s_at l dC dI kA G s.heap q wN wH wB wC wL wK PI wk 20 hT (rg_t (a := wk.toInt) rfl (by have q8 := ti_all wk; omega) (by have q8 := ti_all wk; omega)) (rg_t (a := 20) (by decide) (by omega) (by omega)) (by omega) (by omega) (by omega) (by omega)) (va_cwS 2 hts (goodIn_app (goodIn_r _ [3, 4, 5] (by decide +kernel) (by decide +kernel)) (goodIn_ca (goodIn_r _ [2] (by decide +kernel) (by decide +kernel)) (bs_in _ _))) rfl rfl rfl (by decide +kernel) ⟨(Nat.le_of_ble_eq_true rfl), (Nat.le_of_ble_eq_true rfl)⟩) ⟨fun a U g mk q => by obtain ⟨q0, q1, qK, qE⟩ := q; exact ⟨q0, q1, va_K.moved (u := U) (U := U.calling g mk a) (Vm.Alike.refl U.vm) qK, EV.blind g mk a qE⟩, fun U hU hW => ⟨rfl, hU, va_K.moved hW.alike hK, hE.call hS hFc hU hW⟩⟩ rfl rfl hl.1 rfl (lv_room (Nat.le_of_ble_eq_true rfl)) dX12_brings_7 ⟨(Nat.le_of_ble_eq_true rfl), (Nat.le_of_ble_eq_true rfl)⟩) hS (fun q _ h => hFc q h) hFc (fun r3 u t H locs ht hvm hw4 hB _ _ hS => ?_)
  obtain ⟨hT, hF1⟩ := hB
  rw [ht] at hT hF1
  have hF := hF.more hF1 (by decide)
  try dsimp only at hw4
  obtain ⟨h5, hf6⟩ := hw4
  have t7 : (20 : Int32).toInt = 20 := by decide
  refine lv_iload_n hx hb dX12_brings_10 rfl (lv_at hl 2 rfl) ?_
  refine tw_iast (i := r3) (x := am) hx hb hK hT hG hS hg2 shm_2 rfl (vin_t (a := r3.toInt) rfl (by omega) (by omega)) (gp_of (gi_all _) (w_fre (by have q9 := tn_of (show r3.toInt = r3.toInt from rfl) (show (0 : Int) ≤ r3.toInt from by omega); omega)) (wX_o (by have q9 := tn_of (show r3.toInt = r3.toInt from rfl) (show (0 : Int) ≤ r3.toInt from by omega); omega) (by omega))) dX12_brings_11 (fun H locs hT oq m8 oi hS => ?_)
  have hF := hF.ast hg2 skm_2 oq (by decide)
  refine lv_aload_n hx hb dX12_brings_12 rfl (lv_at hl 0 rfl) ?_
  refine tw_get hx hb hts bF_X12 hown hK hT hr_o0 shm_0 rfl 1 (by decide) (ht_at hts 0 rfl) (fun _ h9 => h9) dX12_brings_13 (fun v9 m9 h9 => ?_)
  obtain ⟨rfl, hg10⟩ := h9 _ rfl
  refine lv_iload_n hx hb dX12_brings_16 rfl (lv_at hl 1 rfl) ?_
  refine lv_bipush (v := 21) hx hb dX12_brings_17 (by decide) ?_
  have hFc := gA_free hG hA hS
  refine va_calli (va_runS (As := [.int wk, .int 21]) (rest := [.ref (q 1)]) ⟨hx, hb, hml, hown, hts⟩ (s_at l dC dI kA G H q wN wH wB wC wL wK PI wk 21 hT (rg_t (a := wk.toInt) rfl (by have q8 := ti_all wk; omega) (by have q8 := ti_all wk; omega)) (rg_t (a := 21) (by decide) (by omega) (by omega)) (by omega) (by omega) (by omega) (by omega)) (va_cwS 2 hts (goodIn_app (goodIn_r _ [3, 4, 5] (by decide +kernel) (by decide +kernel)) (goodIn_ca (goodIn_r _ [2] (by decide +kernel) (by decide +kernel)) (bs_in _ _))) rfl rfl rfl (by decide +kernel) ⟨(Nat.le_of_ble_eq_true rfl), (Nat.le_of_ble_eq_true rfl)⟩) ⟨fun a U g mk q => by obtain ⟨q0, q1, qK, qE⟩ := q; exact ⟨q0, q1, va_K.moved (u := U) (U := U.calling g mk a) (Vm.Alike.refl U.vm) qK, EV.blind g mk a qE⟩, fun U hU hW => ⟨rfl, hU, va_K.moved hW.alike hK, hE.call hS hFc hU hW⟩⟩ rfl rfl hl.1 rfl (lv_room (Nat.le_of_ble_eq_true rfl)) dX12_brings_19 ⟨(Nat.le_of_ble_eq_true rfl), (Nat.le_of_ble_eq_true rfl)⟩) hS (fun q _ h => hFc q h) hFc (fun r11 u t H locs ht hvm hw12 hB _ _ hS => ?_)
  obtain ⟨hT, hF1⟩ := hB
  rw [ht] at hT hF1
  have m13 := (el_kept (hF1.arr hg2 skm_2 (by decide))).trans m8
  have hF := hF.more hF1 (by decide)
  try dsimp only at hw12
  obtain ⟨h14, hf15⟩ := hw12
  have t16 : (21 : Int32).toInt = 21 := by decide
  refine lv_dup2_11 hx hb dX12_brings_22 rfl rfl ?_
  refine tw_iald (i := r11) hx hb hK hT hg2 shm_2 rfl (vin_t (a := r11.toInt) rfl (by omega) (by omega)) dX12_brings_23 (fun v9 m17 h9 => ?_)
  obtain ⟨x18, rfl, gx18, kx18⟩ := (gp_at h9 (w_fre (by have q9 := tn_of (show r11.toInt = r11.toInt from rfl) (show (0 : Int) ≤ r11.toInt from by omega); omega)))
  refine lv_iload_n hx hb dX12_brings_24 rfl (lv_at hl 2 rfl) ?_
  refine lv_iadd hx hb dX12_brings_25 ?_
  refine lv_topi (fun x19 ex19 => ?_)
  refine tw_iast (i := r11) (x := x19) hx hb hK hT hG hS hg2 shm_2 rfl (vin_t (a := r11.toInt) rfl (by omega) (by omega)) (gp_of (gi_all _) (w_fre (by have q9 := tn_of (show r11.toInt = r11.toInt from rfl) (show (0 : Int) ≤ r11.toInt from by omega); omega)) (wX_o (by have q9 := tn_of (show r11.toInt = r11.toInt from rfl) (show (0 : Int) ≤ r11.toInt from by omega); omega) (by omega))) dX12_brings_26 (fun H locs hT oq m20 oi hS => ?_)
  have hF := hF.ast hg2 skm_2 oq (by decide)
  have m21 := (oi _ (tn_ne (show r3.toInt = r3.toInt from rfl) (show r11.toInt = r11.toInt from rfl) (by omega) (by omega) (by omega))).trans m13
  exact W.vret hx hb hr (fun t ht hW => ⟨⟨(), rfl, (by exact trivial), by (try dsimp only); rw [ht]; exact ⟨hT, hF⟩⟩, hS.F ht⟩) hS.2.2 dX12_brings_27
def w_s_seepOf : List Cond := .code yX12_seepOf cX12_seepOf 8 (some .int) :: ([.code yX12_of cX12_of 3 (some .int), .fieldLink RX12 9 "SeaLandModel" "world" "[I", .code yX12_at cX12_at 2 (some .int), .methodLink RX12 214 yX12_at, .static yX12_at, .initialized RX12, .methodLink RX12 217 yX12_of, .instanceMethod yX12_of, .selects RX12 yX12_of yX12_of, .code yX12_level cX12_level 2 (some .int), .code yX12_isLand cX12_isLand 2 (some .boolean), .methodLink RX12 235 yX12_isLand, .instanceMethod yX12_isLand, .selects RX12 yX12_isLand yX12_isLand, .code yX12_hour cX12_hour 1 (some .int), .methodLink RX12 228 yX12_hour, .instanceMethod yX12_hour, .selects RX12 yX12_hour yX12_hour, .code yX12_outside cX12_outside 4 (some .int), .code yX12_in cX12_in 3 (some .boolean), .methodLink RX12 197 yX12_in, .static yX12_in, .methodLink RX12 247 yX12_outside, .instanceMethod yX12_outside, .selects RX12 yX12_outside yX12_outside, .methodLink RX12 285 yX12_level, .instanceMethod yX12_level, .selects RX12 yX12_level yX12_level, .methodLink RX12 211 Lib.Math.max.name, .static Lib.Math.max.name, .initialized "java/lang/Math", .code Lib.Math.max.name Lib.Math.max.code 2 (some .int)] ++ bs)
set_option maxHeartbeats 4000000 in
set_option maxRecDepth 100000 in
theorem s_seepOf (l : Launch) (dC : Nat → ClassId) (dI : Nat → Nat → Nat) (kA : Nat → ClassId) (G : gT) (H0 : Heap) (q : Nat → Nat) (wN wH wB wC : Int) (wL wK : Nat → Prop) (PI : Nat → Int → Prop) (o0 : Nat) (wk : Int32) (ou : Int32) (hT : gH (dC, dI) kA (SHm q (wP wN wH wB wC wC wL wK) PI) G H0) (hr_o0 : G o0 = some 0) (hq0 : 0 ≤ wk.toInt ∧ wk.toInt ≤ 29) (hgn : 6500000 ≤ wN ∧ wN ≤ 400000000) (hgh : 0 ≤ wH ∧ wH ≤ 40000) (hgb : 0 ≤ wB ∧ wB ≤ 3850000) (hgc : 0 ≤ wC ∧ wC ≤ 30) : Met l yX12_seepOf w_s_seepOf ({ frames := 3, cells := 0, slots := 0, locals := 66 }) (va_Pc [.ref o0, .int wk, .int ou] (fun U => U.heap = H0 ∧ va_K (dC, dI) vwCl (tyl kA) U ∧ EV (gA G H0.size) U U.heap)) (va_Qi (fun (r : Int32) (u : Unit) => (-21474836 ≤ r.toInt ∧ r.toInt ≤ 21474836)) (fun (_ : Unit) (t : State) => gH (dC, dI) kA (SHm q (wP wN wH wB wC wC wL wK) PI) G t.heap ∧ gF (dC, dI) SKm G ([] : List (Nat × Nat)) H0 t.heap) (gA G H0.size)) 0 0 (gA G H0.size) := by
  refine Met.ofW (cc := cX12_seepOf) (maxL := 8) (ret := (some .int)) (by decide) rfl ?_
  intro p e s m args below meth c s₁ B hml hv
  obtain ⟨rfl, hH0, hK, hE⟩ := hv
  have hx := B.exec
  have hb := B.bytes
  have hr := B.returns
  have hts := atoms_spec (ws := w_s_seepOf) B.pre
  have hown : s.vm.findClass RX12 = some m.cls := findClass_of_methodNamed B.named
  have hlocks := B.notSynchronized
  subst hH0
  generalize hAe : gA G s.heap.size = A at hE ⊢
  have hA : ∀ q : Nat, s.heap.size ≤ q → A q := fun q h => by rw [← hAe]; exact Or.inr h
  have hG := gA_of hAe
  have hS : va_S A s.heap s.heap [] := va_S.rf
  have hF : gF (dC, dI) SKm G ([] : List (Nat × Nat)) s.heap s.heap := gF.rf
  have hl := lv_entry ([.ref o0, .int wk, .int ou]) (n := 8) (Nat.le_of_ble_eq_true rfl)
  rw [lg_entry_eq]
  generalize (lg_sl ([.ref o0, .int wk, .int ou]) ++ List.replicate (8 - (lg_sl ([.ref o0, .int wk, .int ou])).length) Slot.unset).toArray = ls at hl ⊢
  have hl : lv_has ls 8 [(0, .ref o0), (1, .int wk), (2, .int ou)] := hl
  refine lv_aload_n hx hb dX12_seepOf_0 rfl (lv_at hl 0 rfl) ?_
  refine lv_iload_n hx hb dX12_seepOf_1 rfl (lv_at hl 1 rfl) ?_
  refine lv_iconst (v := 2) hx hb dX12_seepOf_2 (by decide) ?_
  have hFc := gA_free hG hA hS
  refine va_calli (va_runV (As := [.int wk, .int 2]) (rest := []) ⟨hx, hb, hml, hown, hts⟩ (s_of2 l dC dI kA G s.heap q wN wH wB wC wL wK PI o0 wk hT hr_o0 (rg_t (a := wk.toInt) rfl (by have q8 := ti_all wk; omega) (by have q8 := ti_all wk; omega)) (by omega) (by omega) (by omega) (by omega)) (cwV 2 hts (goodIn_app (goodIn_r _ [7, 8, 9, 6] (by decide +kernel) (by decide +kernel)) (goodIn_ca (goodIn_r _ [1, 2, 3, 4, 5, 6] (by decide +kernel) (by decide +kernel)) (bs_in _ _))) rfl rfl rfl (by decide +kernel) ⟨(Nat.le_of_ble_eq_true rfl), (Nat.le_of_ble_eq_true rfl)⟩) ⟨fun a U g mk q => by obtain ⟨q0, q1, qK, qE⟩ := q; exact ⟨q0, q1, va_K.moved (u := U) (U := U.calling g mk a) (Vm.Alike.refl U.vm) qK, EV.blind g mk a qE⟩, gH_recv hK hT hr_o0 shm_0 rfl, fun U hU hW => ⟨rfl, hU, va_K.moved hW.alike hK, hE.call hS hFc hU hW⟩⟩ rfl rfl hl.1 rfl (lv_room (Nat.le_of_ble_eq_true rfl)) dX12_seepOf_3 ⟨(Nat.le_of_ble_eq_true rfl), (Nat.le_of_ble_eq_true rfl)⟩) hS (fun q _ h => hFc q h) hFc (fun r1 u t H locs ht hvm hw2 hB _ _ hS => ?_)
  obtain ⟨hT, hF1⟩ := hB
  rw [ht] at hT hF1
  have hF := hF.more hF1 (by decide)
  try dsimp only at hw2
  obtain ⟨h3, ⟨ix4, hix4, m5⟩⟩ := hw2
  have hg6 : G (q 1) = some 2 := gx_of hT hr_o0 shm_0 (k := 1) (by decide) rfl
  have m7 := (el_kept (hF1.arr hg6 skm_2 (by decide))).trans m5
  refine lv_istore_n (lv' := [(3, .int r1), (0, .ref o0), (1, .int wk), (2, .int ou)]) hx hb dX12_seepOf_6 rfl hl (by decide) rfl (fun ls hl => ?_)
  refine lv_iconst (v := 0) hx hb dX12_seepOf_7 (by decide) ?_
  refine lv_iload_n hx hb dX12_seepOf_8 rfl (lv_at hl 3 rfl) ?_
  refine lv_aload_n hx hb dX12_seepOf_9 rfl (lv_at hl 1 rfl) ?_
  refine lv_iload_n hx hb dX12_seepOf_10 rfl (lv_at hl 0 rfl) ?_
  have hFc := gA_free hG hA hS
  refine va_calli (va_runV (As := [.int r1]) (rest := [.int ou, .int 0]) ⟨hx, hb, hml, hown, hts⟩ (s_level l dC dI kA G H q wN wH wB wC wL wK PI o0 r1 hT hr_o0 (rg_t (a := r1.toInt) rfl (by have q8 := ti_all r1; omega) (by have q8 := ti_all r1; omega)) (by omega) (by omega) (by omega) (by omega)) (cwV 1 hts (goodIn_app (goodIn_r _ [26, 27, 28, 6] (by decide +kernel) (by decide +kernel)) (goodIn_ca (goodIn_r _ [10, 11, 2, 12, 13, 14, 6, 15, 16, 17, 18, 19, 20, 21, 22, 23, 24, 25] (by decide +kernel) (by decide +kernel)) (bs_in _ _))) rfl rfl rfl (by decide +kernel) ⟨(Nat.le_of_ble_eq_true rfl), (Nat.le_of_ble_eq_true rfl)⟩) ⟨fun a U g mk q => by obtain ⟨q0, q1, qK, qE⟩ := q; exact ⟨q0, q1, va_K.moved (u := U) (U := U.calling g mk a) (Vm.Alike.refl U.vm) qK, EV.blind g mk a qE⟩, gH_recv hK hT hr_o0 shm_0 rfl, fun U hU hW => ⟨rfl, hU, va_K.moved hW.alike hK, hE.call hS hFc hU hW⟩⟩ rfl rfl hl.1 rfl (lv_room (Nat.le_of_ble_eq_true rfl)) dX12_seepOf_11 ⟨(Nat.le_of_ble_eq_true rfl), (Nat.le_of_ble_eq_true rfl)⟩) hS (fun q _ h => hFc q h) hFc (fun r8 u t H locs ht hvm hw9 hB _ _ hS => ?_)
  obtain ⟨hT, hF1⟩ := hB
  rw [ht] at hT hF1
  have m10 := (el_kept (hF1.arr hg6 skm_2 (by decide))).trans m7
  have hF := hF.more hF1 (by decide)
  try dsimp only at hw9
  refine lv_aload_n hx hb dX12_seepOf_14 rfl (lv_at hl 1 rfl) ?_
  refine tw_get hx hb hts bF_X12 hown hK hT hr_o0 shm_0 rfl 1 (by decide) (ht_at hts 1 rfl) (fun _ h9 => h9) dX12_seepOf_15 (fun v9 m11 h9 => ?_)
  obtain ⟨rfl, hg12⟩ := h9 _ rfl
  refine lv_bipush (v := 96) hx hb dX12_seepOf_18 (by decide) ?_
  refine lv_aload_n hx hb dX12_seepOf_20 rfl (lv_at hl 1 rfl) ?_
  refine lv_iload_n hx hb dX12_seepOf_21 rfl (lv_at hl 2 rfl) ?_
  refine lv_iconst (v := 1) hx hb dX12_seepOf_22 (by decide) ?_
  have hFc := gA_free hG hA hS
  refine va_calli (va_runV (As := [.int wk, .int 1]) (rest := [.int 96, .ref (q 1), .int r8, .int ou, .int 0]) ⟨hx, hb, hml, hown, hts⟩ (s_of1 l dC dI kA G H q wN wH wB wC wL wK PI o0 wk hT hr_o0 (rg_t (a := wk.toInt) rfl (by have q8 := ti_all wk; omega) (by have q8 := ti_all wk; omega)) (by omega) (by omega) (by omega) (by omega)) (cwV 2 hts (goodIn_app (goodIn_r _ [7, 8, 9, 6] (by decide +kernel) (by decide +kernel)) (goodIn_ca (goodIn_r _ [1, 2, 3, 4, 5, 6] (by decide +kernel) (by decide +kernel)) (bs_in _ _))) rfl rfl rfl (by decide +kernel) ⟨(Nat.le_of_ble_eq_true rfl), (Nat.le_of_ble_eq_true rfl)⟩) ⟨fun a U g mk q => by obtain ⟨q0, q1, qK, qE⟩ := q; exact ⟨q0, q1, va_K.moved (u := U) (U := U.calling g mk a) (Vm.Alike.refl U.vm) qK, EV.blind g mk a qE⟩, gH_recv hK hT hr_o0 shm_0 rfl, fun U hU hW => ⟨rfl, hU, va_K.moved hW.alike hK, hE.call hS hFc hU hW⟩⟩ rfl rfl hl.1 rfl (lv_room (Nat.le_of_ble_eq_true rfl)) dX12_seepOf_23 ⟨(Nat.le_of_ble_eq_true rfl), (Nat.le_of_ble_eq_true rfl)⟩) hS (fun q _ h => hFc q h) hFc (fun r13 u t H locs ht hvm hw14 hB _ _ hS => ?_)
  obtain ⟨hT, hF1⟩ := hB
  rw [ht] at hT hF1
  have m15 := (el_kept (hF1.arr hg6 skm_2 (by decide))).trans m10
  have hF := hF.more hF1 (by decide)
  try dsimp only at hw14
  obtain ⟨h16, ⟨ix17, hix17, m18⟩⟩ := hw14
  have m19 := (el_kept (hF1.arr hg6 skm_2 (by decide))).trans m18
  refine lv_iadd hx hb dX12_seepOf_26 ?_
  refine lv_topi (fun x20 ex20 => ?_)
  have t21 : x20.toInt = 96 + r13.toInt := ti_add ex20 (by decide) rfl (by omega) (by omega)
  refine tw_iald (i := x20) hx hb hK hT hg6 shm_2 rfl (vin_t (a := x20.toInt) rfl (by omega) (by omega)) dX12_seepOf_27 (fun v9 m22 h9 => ?_)
  obtain ⟨x23, rfl, gx23, kx23⟩ := (gp_at h9 (w_hgt (by have q9 := tn_of (show x20.toInt = x20.toInt from rfl) (show (0 : Int) ≤ x20.toInt from by omega); omega)))
  refine va_mmax hx hb (hml.trans hl.1.symm) hown (ht_at hts 28 rfl) (ht_at hts 29 rfl) (ht_at hts 30 rfl) (ht_at hts 31 rfl) (Nat.le_of_ble_eq_true rfl) (Nat.le_of_ble_eq_true rfl) (Nat.le_of_ble_eq_true rfl) (Nat.le_of_ble_eq_true rfl) dX12_seepOf_28 ?_
  refine lv_topi (fun x24 ex24 => ?_)
  have t25 : r8.toInt ≤ x24.toInt ∧ x23.toInt ≤ x24.toInt ∧ (x24.toInt = r8.toInt ∨ x24.toInt = x23.toInt) := mx_f ex24 rfl rfl
  refine lv_isub hx hb dX12_seepOf_31 ?_
  refine lv_topi (fun x26 ex26 => ?_)
  refine va_mmax hx hb (hml.trans hl.1.symm) hown (ht_at hts 28 rfl) (ht_at hts 29 rfl) (ht_at hts 30 rfl) (ht_at hts 31 rfl) (Nat.le_of_ble_eq_true rfl) (Nat.le_of_ble_eq_true rfl) (Nat.le_of_ble_eq_true rfl) (Nat.le_of_ble_eq_true rfl) dX12_seepOf_32 ?_
  refine lv_topi (fun x27 ex27 => ?_)
  have t28 : 0 ≤ x27.toInt ∧ x26.toInt ≤ x27.toInt ∧ (x27.toInt = 0 ∨ x27.toInt = x26.toInt) := mx_f ex27 (by decide) rfl
  refine lv_istore (lv' := [(4, .int x27), (3, .int r1), (0, .ref o0), (1, .int wk), (2, .int ou)]) hx hb dX12_seepOf_35 hl (by decide) rfl (fun ls hl => ?_)
  refine lv_aload_n hx hb dX12_seepOf_37 rfl (lv_at hl 2 rfl) ?_
  refine tw_get hx hb hts bF_X12 hown hK hT hr_o0 shm_0 rfl 1 (by decide) (ht_at hts 1 rfl) (fun _ h9 => h9) dX12_seepOf_38 (fun v9 m29 h9 => ?_)
  obtain ⟨rfl, hg30⟩ := h9 _ rfl
  refine lv_bipush (v := 96) hx hb dX12_seepOf_41 (by decide) ?_
  refine lv_aload_n hx hb dX12_seepOf_43 rfl (lv_at hl 2 rfl) ?_
  refine lv_iload_n hx hb dX12_seepOf_44 rfl (lv_at hl 3 rfl) ?_
  refine lv_iconst (v := 1) hx hb dX12_seepOf_45 (by decide) ?_
  have hFc := gA_free hG hA hS
  refine va_calli (va_runV (As := [.int wk, .int 1]) (rest := [.int 96, .ref (q 1)]) ⟨hx, hb, hml, hown, hts⟩ (s_of1 l dC dI kA G H q wN wH wB wC wL wK PI o0 wk hT hr_o0 (rg_t (a := wk.toInt) rfl (by have q8 := ti_all wk; omega) (by have q8 := ti_all wk; omega)) (by omega) (by omega) (by omega) (by omega)) (cwV 2 hts (goodIn_app (goodIn_r _ [7, 8, 9, 6] (by decide +kernel) (by decide +kernel)) (goodIn_ca (goodIn_r _ [1, 2, 3, 4, 5, 6] (by decide +kernel) (by decide +kernel)) (bs_in _ _))) rfl rfl rfl (by decide +kernel) ⟨(Nat.le_of_ble_eq_true rfl), (Nat.le_of_ble_eq_true rfl)⟩) ⟨fun a U g mk q => by obtain ⟨q0, q1, qK, qE⟩ := q; exact ⟨q0, q1, va_K.moved (u := U) (U := U.calling g mk a) (Vm.Alike.refl U.vm) qK, EV.blind g mk a qE⟩, gH_recv hK hT hr_o0 shm_0 rfl, fun U hU hW => ⟨rfl, hU, va_K.moved hW.alike hK, hE.call hS hFc hU hW⟩⟩ rfl rfl hl.1 rfl (lv_room (Nat.le_of_ble_eq_true rfl)) dX12_seepOf_46 ⟨(Nat.le_of_ble_eq_true rfl), (Nat.le_of_ble_eq_true rfl)⟩) hS (fun q _ h => hFc q h) hFc (fun r31 u t H locs ht hvm hw32 hB _ _ hS => ?_)
  obtain ⟨hT, hF1⟩ := hB
  rw [ht] at hT hF1
  have m33 := (el_kept (hF1.arr hg6 skm_2 (by decide))).trans m15
  have m34 := (el_kept (hF1.arr hg6 skm_2 (by decide))).trans m19
  have m35 := (el_kept (hF1.arr hg6 skm_2 (by decide))).trans m22
  have hF := hF.more hF1 (by decide)
  try dsimp only at hw32
  obtain ⟨h36, ⟨ix37, hix37, m38⟩⟩ := hw32
  have m39 := (el_kept (hF1.arr hg6 skm_2 (by decide))).trans m38
  obtain rfl : r13 = r31 := (el_same m39 m34 (by have q8 := (show ix17.toInt = ix17.toInt from rfl); omega)).symm
  refine lv_iadd hx hb dX12_seepOf_49 ?_
  refine lv_topi (fun x40 ex40 => ?_)
  have t41 : x40.toInt = 96 + r13.toInt := ti_add ex40 (by decide) rfl (by omega) (by omega)
  refine tw_iald (i := x40) hx hb hK hT hg6 shm_2 rfl (vin_t (a := x40.toInt) rfl (by omega) (by omega)) dX12_seepOf_50 (fun v9 m42 h9 => ?_)
  obtain ⟨x43, rfl, gx43, kx43⟩ := (gp_at h9 (w_hgt (by have q9 := tn_of (show x40.toInt = x40.toInt from rfl) (show (0 : Int) ≤ x40.toInt from by omega); omega)))
  obtain rfl : x23 = x43 := (el_same m42 m35 (show x40.toInt = x20.toInt from by rw []; try omega)).symm
  refine lv_istore (lv' := [(5, .int x23), (4, .int x27), (3, .int r1), (0, .ref o0), (1, .int wk), (2, .int ou)]) hx hb dX12_seepOf_51 hl (by decide) rfl (fun ls hl => ?_)
  refine lv_iconst (v := 0) hx hb dX12_seepOf_53 (by decide) ?_
  refine lv_istore (lv' := [(6, .int 0), (5, .int x23), (4, .int x27), (3, .int r1), (0, .ref o0), (1, .int wk), (2, .int ou)]) hx hb dX12_seepOf_54 hl (by decide) rfl (fun ls hl => ?_)
  refine lv_iconst (v := 0) hx hb dX12_seepOf_56 (by decide) ?_
  refine lv_istore (lv' := [(7, .int 0), (6, .int 0), (5, .int x23), (4, .int x27), (3, .int r1), (0, .ref o0), (1, .int wk), (2, .int ou)]) hx hb dX12_seepOf_57 hl (by decide) rfl (fun ls hl => ?_)
  have jn1451 : ∀ (z1444 : Int32), ∀ (z1446 : Int32), ∀ (z1447 : Int32), ((0 ≤ z1444.toInt ∧ z1444.toInt ≤ 6)) → ∀ (H : Heap) (locs : List Loc), gH (dC, dI) kA (SHm q (wP wN wH wB wC wC wL wK) PI) G H → gF (dC, dI) SKm G ([] : List (Nat × Nat)) s.heap H → va_S A s.heap H locs → el H (q 1) ix4.toNatClampNeg = some (.int r1) → el H (q 1) ix17.toNatClampNeg = some (.int r13) → el H (q 1) x20.toNatClampNeg = some (.int x23) → ∀ ls : Array Slot, lv_has ls 8 [(7, .int z1444), (6, .int z1446), (5, .int z1447), (4, .int x27), (3, .int r1), (0, .ref o0), (1, .int wk), (2, .int ou)] → W p l e (headSpec w_s_seepOf ({ frames := 3, cells := 0, slots := 0, locals := 66 })).room s m #[.ref o0, .int wk, .int ou] below meth c H locs 0 0 (MQ below (va_Qi (fun (r : Int32) (u : Unit) => (-21474836 ≤ r.toInt ∧ r.toInt ≤ 21474836)) (fun (_ : Unit) (t : State) => gH (dC, dI) kA (SHm q (wP wN wH wB wC wC wL wK) PI) G t.heap ∧ gF (dC, dI) SKm G ([] : List (Nat × Nat)) s.heap t.heap) A) #[.ref o0, .int wk, .int ou] s 0 0 A) (F0 m 118 ls []) := by
    intro z1444 z1446 z1447 h1445 H locs hT hF hS m1448 m1449 m1450 ls hl
    refine lv_iload hx hb dX12_seepOf_118 (lv_at hl 3 rfl) ?_
    refine lv_iload hx hb dX12_seepOf_120 (lv_at hl 1 rfl) ?_
    refine lv_imul hx hb dX12_seepOf_122 ?_
    refine lv_topi (fun x1452 ex1452 => ?_)
    refine lv_bipush (v := 100) hx hb dX12_seepOf_123 (by decide) ?_
    have t1453 : -2147483648 ≤ x1452.toInt ∧ x1452.toInt ≤ 2147483647 := ti_all x1452
    refine lv_idiv hx hb dX12_seepOf_125 (by decide) ?_
    refine lv_topi (fun x1454 ex1454 => ?_)
    have t1455 : (0 ≤ x1452.toInt ∧ x1454.toInt = x1452.toInt / 100) ∨ (x1452.toInt < 0 ∧ x1454.toInt = -((-x1452.toInt) / 100)) := ti_divs ex1454 rfl (by decide) (by decide)
    exact W.iret (v := x1454) hx hb hr (fun t ht hW => ⟨⟨x1454, (), rfl, (by exact (rg_t (a := x1454.toInt) rfl (by have q8 := ti_all x1454; omega) (by have q8 := ti_all x1454; omega))), by (try dsimp only); rw [ht]; exact ⟨hT, hF⟩⟩, hS.F ht⟩) hS.2.2 dX12_seepOf_126
  have key1456 : ∀ (n1456 i44 : Nat), i44 + n1456 = 6 → 0 ≤ i44 → ∀ (z1298 : Int32), ∀ (z1299 : Int32), ∀ (H : Heap) (locs : List Loc), gH (dC, dI) kA (SHm q (wP wN wH wB wC wC wL wK) PI) G H → gF (dC, dI) SKm G ([] : List (Nat × Nat)) s.heap H → va_S A s.heap H locs → el H (q 1) ix4.toNatClampNeg = some (.int r1) → el H (q 1) ix17.toNatClampNeg = some (.int r13) → el H (q 1) x20.toNatClampNeg = some (.int x23) → ∀ ls : Array Slot, lv_has ls 8 [(7, .int (nI i44)), (6, .int z1298), (5, .int z1299), (4, .int x27), (3, .int r1), (0, .ref o0), (1, .int wk), (2, .int ou)] → W p l e (headSpec w_s_seepOf ({ frames := 3, cells := 0, slots := 0, locals := 66 })).room s m #[.ref o0, .int wk, .int ou] below meth c H locs 0 0 (MQ below (va_Qi (fun (r : Int32) (u : Unit) => (-21474836 ≤ r.toInt ∧ r.toInt ≤ 21474836)) (fun (_ : Unit) (t : State) => gH (dC, dI) kA (SHm q (wP wN wH wB wC wC wL wK) PI) G t.heap ∧ gF (dC, dI) SKm G ([] : List (Nat × Nat)) s.heap t.heap) A) #[.ref o0, .int wk, .int ou] s 0 0 A) (F0 m 59 ls []) := by
    intro n1456
    induction n1456 with
    | zero =>
      intro i44 hn1456 hlo1457 z1298 z1299 H locs hT hF hS m1300 m1301 m1302 ls hl
      obtain rfl : 6 = i44 := by omega
      refine lv_iload hx hb dX12_seepOf_59 (lv_at hl 0 rfl) ?_
      refine lv_aload_n hx hb dX12_seepOf_61 rfl (lv_at hl 5 rfl) ?_
      refine lv_iload_n hx hb dX12_seepOf_62 rfl (lv_at hl 6 rfl) ?_
      refine lv_iconst (v := 4) hx hb dX12_seepOf_63 (by decide) ?_
      have hFc := gA_free hG hA hS
      refine va_calli (va_runV (As := [.int wk, .int 4]) (rest := [.int (nI 6)]) ⟨hx, hb, hml, hown, hts⟩ (s_of4 l dC dI kA G H q wN wH wB wC wL wK PI o0 wk hT hr_o0 (rg_t (a := wk.toInt) rfl (by have q8 := ti_all wk; omega) (by have q8 := ti_all wk; omega)) (by omega) (by omega) (by omega) (by omega)) (cwV 2 hts (goodIn_app (goodIn_r _ [7, 8, 9, 6] (by decide +kernel) (by decide +kernel)) (goodIn_ca (goodIn_r _ [1, 2, 3, 4, 5, 6] (by decide +kernel) (by decide +kernel)) (bs_in _ _))) rfl rfl rfl (by decide +kernel) ⟨(Nat.le_of_ble_eq_true rfl), (Nat.le_of_ble_eq_true rfl)⟩) ⟨fun a U g mk q => by obtain ⟨q0, q1, qK, qE⟩ := q; exact ⟨q0, q1, va_K.moved (u := U) (U := U.calling g mk a) (Vm.Alike.refl U.vm) qK, EV.blind g mk a qE⟩, gH_recv hK hT hr_o0 shm_0 rfl, fun U hU hW => ⟨rfl, hU, va_K.moved hW.alike hK, hE.call hS hFc hU hW⟩⟩ rfl rfl hl.1 rfl (lv_room (Nat.le_of_ble_eq_true rfl)) dX12_seepOf_64 ⟨(Nat.le_of_ble_eq_true rfl), (Nat.le_of_ble_eq_true rfl)⟩) hS (fun q _ h => hFc q h) hFc (fun r1458 u t H locs ht hvm hw1459 hB _ _ hS => ?_)
      obtain ⟨hT, hF1⟩ := hB
      rw [ht] at hT hF1
      have m1460 := (el_kept (hF1.arr hg6 skm_2 (by decide))).trans m1300
      have m1461 := (el_kept (hF1.arr hg6 skm_2 (by decide))).trans m1301
      have m1462 := (el_kept (hF1.arr hg6 skm_2 (by decide))).trans m1302
      have hF := hF.more hF1 (by decide)
      try dsimp only at hw1459
      obtain ⟨h1463, ⟨ix1464, hix1464, m1465⟩⟩ := hw1459
      have m1466 := (el_kept (hF1.arr hg6 skm_2 (by decide))).trans m1465
      refine lv_icmp_ge (tgt := 118) hx hb dX12_seepOf_67 (by decide) (fun c1467 => ?_) (fun c1467 => (by exfalso; have q9 : ((6 : Nat) : Int) < r1458.toInt := ti_nle c1467 rfl (nI_toInt (by omega)); omega))
      have t1468 : r1458.toInt ≤ ((6 : Nat) : Int) := ti_le c1467 rfl (nI_toInt (by omega))
      exact jn1451 (nI 6) z1298 z1299 (rg_t (a := ((6 : Nat) : Int)) (nI_toInt (by omega)) (by omega) (by omega)) _ _ hT hF hS m1460 m1461 m1462 ls (lv_sub hl [0, 1, 2, 3, 4, 5, 6, 7] rfl)
    | succ n1456 ih1456 =>
      intro i44 hn1456 hlo1457 z1298 z1299 H locs hT hF hS m1300 m1301 m1302 ls hl
      have hlt1468 : i44 < 6 := by omega
      refine lv_iload hx hb dX12_seepOf_59 (lv_at hl 0 rfl) ?_
      refine lv_aload_n hx hb dX12_seepOf_61 rfl (lv_at hl 5 rfl) ?_
      refine lv_iload_n hx hb dX12_seepOf_62 rfl (lv_at hl 6 rfl) ?_
      refine lv_iconst (v := 4) hx hb dX12_seepOf_63 (by decide) ?_
      have hFc := gA_free hG hA hS
      refine va_calli (va_runV (As := [.int wk, .int 4]) (rest := [.int (nI i44)]) ⟨hx, hb, hml, hown, hts⟩ (s_of4 l dC dI kA G H q wN wH wB wC wL wK PI o0 wk hT hr_o0 (rg_t (a := wk.toInt) rfl (by have q8 := ti_all wk; omega) (by have q8 := ti_all wk; omega)) (by omega) (by omega) (by omega) (by omega)) (cwV 2 hts (goodIn_app (goodIn_r _ [7, 8, 9, 6] (by decide +kernel) (by decide +kernel)) (goodIn_ca (goodIn_r _ [1, 2, 3, 4, 5, 6] (by decide +kernel) (by decide +kernel)) (bs_in _ _))) rfl rfl rfl (by decide +kernel) ⟨(Nat.le_of_ble_eq_true rfl), (Nat.le_of_ble_eq_true rfl)⟩) ⟨fun a U g mk q => by obtain ⟨q0, q1, qK, qE⟩ := q; exact ⟨q0, q1, va_K.moved (u := U) (U := U.calling g mk a) (Vm.Alike.refl U.vm) qK, EV.blind g mk a qE⟩, gH_recv hK hT hr_o0 shm_0 rfl, fun U hU hW => ⟨rfl, hU, va_K.moved hW.alike hK, hE.call hS hFc hU hW⟩⟩ rfl rfl hl.1 rfl (lv_room (Nat.le_of_ble_eq_true rfl)) dX12_seepOf_64 ⟨(Nat.le_of_ble_eq_true rfl), (Nat.le_of_ble_eq_true rfl)⟩) hS (fun q _ h => hFc q h) hFc (fun r1469 u t H locs ht hvm hw1470 hB _ _ hS => ?_)
      obtain ⟨hT, hF1⟩ := hB
      rw [ht] at hT hF1
      have m1471 := (el_kept (hF1.arr hg6 skm_2 (by decide))).trans m1300
      have m1472 := (el_kept (hF1.arr hg6 skm_2 (by decide))).trans m1301
      have m1473 := (el_kept (hF1.arr hg6 skm_2 (by decide))).trans m1302
      have hF := hF.more hF1 (by decide)
      try dsimp only at hw1470
      obtain ⟨h1474, ⟨ix1475, hix1475, m1476⟩⟩ := hw1470
      have m1477 := (el_kept (hF1.arr hg6 skm_2 (by decide))).trans m1476
      refine lv_icmp_ge (tgt := 118) hx hb dX12_seepOf_67 (by decide) (fun c1478 => ?_) (fun c1478 => ?_)
      · have t1479 : r1469.toInt ≤ ((i44 : Nat) : Int) := ti_le c1478 rfl (nI_toInt (by omega))
        exact jn1451 (nI i44) z1298 z1299 (rg_t (a := ((i44 : Nat) : Int)) (nI_toInt (by omega)) (by omega) (by omega)) _ _ hT hF hS m1471 m1472 m1473 ls (lv_sub hl [0, 1, 2, 3, 4, 5, 6, 7] rfl)
      · have t1480 : ((i44 : Nat) : Int) < r1469.toInt := ti_nle c1478 rfl (nI_toInt (by omega))
        refine lv_iload hx hb dX12_seepOf_70 (lv_at hl 1 rfl) ?_
        refine lv_iload hx hb dX12_seepOf_72 (lv_at hl 2 rfl) ?_
        refine lv_iload_n hx hb dX12_seepOf_74 rfl (lv_at hl 7 rfl) ?_
        have jn1501 : ∀ (z1495 : Int32), ((0 ≤ z1495.toInt ∧ z1495.toInt ≤ 10)) → ∀ (H : Heap) (locs : List Loc), gH (dC, dI) kA (SHm q (wP wN wH wB wC wC wL wK) PI) G H → gF (dC, dI) SKm G ([] : List (Nat × Nat)) s.heap H → va_S A s.heap H locs → el H (q 1) ix4.toNatClampNeg = some (.int r1) → el H (q 1) ix17.toNatClampNeg = some (.int r13) → el H (q 1) x20.toNatClampNeg = some (.int x23) → el H (q 1) ix1475.toNatClampNeg = some (.int r1469) → ∀ ls : Array Slot, lv_has ls 8 [(7, .int (nI i44)), (6, .int z1298), (5, .int z1299), (4, .int x27), (3, .int r1), (0, .ref o0), (1, .int wk), (2, .int ou)] → W p l e (headSpec w_s_seepOf ({ frames := 3, cells := 0, slots := 0, locals := 66 })).room s m #[.ref o0, .int wk, .int ou] below meth c H locs 0 0 (MQ below (va_Qi (fun (r : Int32) (u : Unit) => (-21474836 ≤ r.toInt ∧ r.toInt ≤ 21474836)) (fun (_ : Unit) (t : State) => gH (dC, dI) kA (SHm q (wP wN wH wB wC wC wL wK) PI) G t.heap ∧ gF (dC, dI) SKm G ([] : List (Nat × Nat)) s.heap t.heap) A) #[.ref o0, .int wk, .int ou] s 0 0 A) (F0 m 95 ls [.int z1495, .int z1298]) := by
          intro z1495 h1496 H locs hT hF hS m1497 m1498 m1499 m1500 ls hl
          refine lv_iadd hx hb dX12_seepOf_95 ?_
          refine lv_topi (fun x1502 ex1502 => ?_)
          refine lv_istore (lv' := [(6, .int x1502), (7, .int (nI i44)), (5, .int z1299), (4, .int x27), (3, .int r1), (0, .ref o0), (1, .int wk), (2, .int ou)]) hx hb dX12_seepOf_96 hl (by decide) rfl (fun ls hl => ?_)
          refine lv_iload hx hb dX12_seepOf_98 (lv_at hl 2 rfl) ?_
          refine lv_aload_n hx hb dX12_seepOf_100 rfl (lv_at hl 5 rfl) ?_
          refine lv_iload_n hx hb dX12_seepOf_101 rfl (lv_at hl 6 rfl) ?_
          refine lv_iconst (v := 5) hx hb dX12_seepOf_102 (by decide) ?_
          refine lv_iload hx hb dX12_seepOf_103 (lv_at hl 1 rfl) ?_
          refine lv_iadd hx hb dX12_seepOf_105 ?_
          refine lv_topi (fun x1503 ex1503 => ?_)
          obtain rfl : nI (5 + i44) = x1503 := (ex1503.trans (nI_add 5 i44)).symm
          have hFc := gA_free hG hA hS
          refine va_calli (va_runV (As := [.int wk, .int (nI (5 + i44))]) (rest := [.int z1299]) ⟨hx, hb, hml, hown, hts⟩ (s_ofT l dC dI kA G H q wN wH wB wC wL wK PI o0 wk (nI (5 + i44)) hT hr_o0 (rg_t (a := wk.toInt) rfl (by have q8 := ti_all wk; omega) (by have q8 := ti_all wk; omega)) (rg_t (a := ((5 + i44 : Nat) : Int)) (nI_toInt (by omega)) (by omega) (by omega)) (by omega) (by omega) (by omega) (by omega)) (cwV 2 hts (goodIn_app (goodIn_r _ [7, 8, 9, 6] (by decide +kernel) (by decide +kernel)) (goodIn_ca (goodIn_r _ [1, 2, 3, 4, 5, 6] (by decide +kernel) (by decide +kernel)) (bs_in _ _))) rfl rfl rfl (by decide +kernel) ⟨(Nat.le_of_ble_eq_true rfl), (Nat.le_of_ble_eq_true rfl)⟩) ⟨fun a U g mk q => by obtain ⟨q0, q1, qK, qE⟩ := q; exact ⟨q0, q1, va_K.moved (u := U) (U := U.calling g mk a) (Vm.Alike.refl U.vm) qK, EV.blind g mk a qE⟩, gH_recv hK hT hr_o0 shm_0 rfl, fun U hU hW => ⟨rfl, hU, va_K.moved hW.alike hK, hE.call hS hFc hU hW⟩⟩ rfl rfl hl.1 rfl (lv_room (Nat.le_of_ble_eq_true rfl)) dX12_seepOf_106 ⟨(Nat.le_of_ble_eq_true rfl), (Nat.le_of_ble_eq_true rfl)⟩) hS (fun q _ h => hFc q h) hFc (fun r1504 u t H locs ht hvm hw1505 hB _ _ hS => ?_)
          obtain ⟨hT, hF1⟩ := hB
          rw [ht] at hT hF1
          have m1506 := (el_kept (hF1.arr hg6 skm_2 (by decide))).trans m1497
          have m1507 := (el_kept (hF1.arr hg6 skm_2 (by decide))).trans m1498
          have m1508 := (el_kept (hF1.arr hg6 skm_2 (by decide))).trans m1499
          have m1509 := (el_kept (hF1.arr hg6 skm_2 (by decide))).trans m1500
          have hF := hF.more hF1 (by decide)
          try dsimp only at hw1505
          have ⟨ix1510, hix1510, m1511⟩ := hw1505
          have t1512 : (nI (5 + i44)).toInt = ((5 + i44 : Nat) : Int) := nI_toInt (by omega)
          have m1513 := (el_kept (hF1.arr hg6 skm_2 (by decide))).trans m1511
          refine lv_iadd hx hb dX12_seepOf_109 ?_
          refine lv_topi (fun x1514 ex1514 => ?_)
          refine lv_istore (lv' := [(5, .int x1514), (6, .int x1502), (7, .int (nI i44)), (4, .int x27), (3, .int r1), (0, .ref o0), (1, .int wk), (2, .int ou)]) hx hb dX12_seepOf_110 hl (by decide) rfl (fun ls hl => ?_)
          refine lv_iinc (v := nI (i44 + 1)) (lv' := [(7, .int (nI (i44 + 1))), (5, .int x1514), (6, .int x1502), (4, .int x27), (3, .int r1), (0, .ref o0), (1, .int wk), (2, .int ou)]) hx hb dX12_seepOf_112 hl (k := 2) rfl (nI_add i44 1) (by decide) rfl (fun ls hl => ?_)
          refine lv_goto (tgt := 59) hx hb dX12_seepOf_115 (by decide) ?_
          exact ih1456 (i44 + 1) (by omega) (by omega) x1502 x1514 _ _ hT hF hS m1506 m1507 m1508 ls (lv_sub hl [0, 2, 1, 3, 4, 5, 6, 7] rfl)
        refine lv_icmp_ge (tgt := 94) hx hb dX12_seepOf_75 (by decide) (fun c1515 => ?_) (fun c1515 => ?_)
        · have t1516 : ou.toInt ≤ z1299.toInt := ti_le c1515 rfl rfl
          refine lv_iconst (v := 0) hx hb dX12_seepOf_94 (by decide) ?_
          exact jn1501 0 (rg_t (a := 0) (by decide) (by omega) (by omega)) _ _ hT hF hS m1471 m1472 m1473 m1477 ls (lv_sub hl [0, 1, 2, 3, 4, 5, 6, 7] rfl)
        · have t1517 : z1299.toInt < ou.toInt := ti_nle c1515 rfl rfl
          refine lv_bipush (v := 10) hx hb dX12_seepOf_78 (by decide) ?_
          refine lv_aload_n hx hb dX12_seepOf_80 rfl (lv_at hl 5 rfl) ?_
          refine lv_iload_n hx hb dX12_seepOf_81 rfl (lv_at hl 6 rfl) ?_
          refine lv_bipush (v := 11) hx hb dX12_seepOf_82 (by decide) ?_
          refine lv_iload hx hb dX12_seepOf_84 (lv_at hl 0 rfl) ?_
          refine lv_iadd hx hb dX12_seepOf_86 ?_
          refine lv_topi (fun x1518 ex1518 => ?_)
          obtain rfl : nI (11 + i44) = x1518 := (ex1518.trans (nI_add 11 i44)).symm
          have hFc := gA_free hG hA hS
          refine va_calli (va_runV (As := [.int wk, .int (nI (11 + i44))]) (rest := [.int 10, .int z1298]) ⟨hx, hb, hml, hown, hts⟩ (s_ofC l dC dI kA G H q wN wH wB wC wL wK PI o0 wk (nI (11 + i44)) hT hr_o0 (rg_t (a := wk.toInt) rfl (by have q8 := ti_all wk; omega) (by have q8 := ti_all wk; omega)) (rg_t (a := ((11 + i44 : Nat) : Int)) (nI_toInt (by omega)) (by omega) (by omega)) (by omega) (by omega) (by omega) (by omega)) (cwV 2 hts (goodIn_app (goodIn_r _ [7, 8, 9, 6] (by decide +kernel) (by decide +kernel)) (goodIn_ca (goodIn_r _ [1, 2, 3, 4, 5, 6] (by decide +kernel) (by decide +kernel)) (bs_in _ _))) rfl rfl rfl (by decide +kernel) ⟨(Nat.le_of_ble_eq_true rfl), (Nat.le_of_ble_eq_true rfl)⟩) ⟨fun a U g mk q => by obtain ⟨q0, q1, qK, qE⟩ := q; exact ⟨q0, q1, va_K.moved (u := U) (U := U.calling g mk a) (Vm.Alike.refl U.vm) qK, EV.blind g mk a qE⟩, gH_recv hK hT hr_o0 shm_0 rfl, fun U hU hW => ⟨rfl, hU, va_K.moved hW.alike hK, hE.call hS hFc hU hW⟩⟩ rfl rfl hl.1 rfl (lv_room (Nat.le_of_ble_eq_true rfl)) dX12_seepOf_87 ⟨(Nat.le_of_ble_eq_true rfl), (Nat.le_of_ble_eq_true rfl)⟩) hS (fun q _ h => hFc q h) hFc (fun r1519 u t H locs ht hvm hw1520 hB _ _ hS => ?_)
          obtain ⟨hT, hF1⟩ := hB
          rw [ht] at hT hF1
          have m1521 := (el_kept (hF1.arr hg6 skm_2 (by decide))).trans m1471
          have m1522 := (el_kept (hF1.arr hg6 skm_2 (by decide))).trans m1472
          have m1523 := (el_kept (hF1.arr hg6 skm_2 (by decide))).trans m1473
          have m1524 := (el_kept (hF1.arr hg6 skm_2 (by decide))).trans m1477
          have hF := hF.more hF1 (by decide)
          try dsimp only at hw1520
          obtain ⟨h1525, ⟨ix1526, hix1526, m1527⟩⟩ := hw1520
          have t1528 : (nI (11 + i44)).toInt = ((11 + i44 : Nat) : Int) := nI_toInt (by omega)
          have m1529 := (el_kept (hF1.arr hg6 skm_2 (by decide))).trans m1527
          refine lv_isub hx hb dX12_seepOf_90 ?_
          refine lv_topi (fun x1530 ex1530 => ?_)
          have t1531 : x1530.toInt = 10 - r1519.toInt := ti_sub ex1530 (by decide) rfl (by omega) (by omega)
          refine lv_goto (tgt := 95) hx hb dX12_seepOf_91 (by decide) ?_
          exact jn1501 x1530 (rg_t (a := x1530.toInt) rfl (by have q8 := ti_all x1530; omega) (by have q8 := ti_all x1530; omega)) _ _ hT hF hS m1521 m1522 m1523 m1524 ls (lv_sub hl [0, 1, 2, 3, 4, 5, 6, 7] rfl)
  exact key1456 (6 - 0) 0 (by omega) (Nat.le_refl _) 0 x23 _ _ hT hF hS m33 m34 m35 ls (lv_sub hl [0, 1, 2, 3, 4, 5, 6, 7] rfl)
