def w_s_lays : List Cond := .code yX12_lays cX12_lays 5 none :: (HAppend.hAppend (α := List Cond) (β := List Cond) (γ := List Cond) [.code yX12_of cX12_of 3 (some .int), .fieldLink RX12 9 "SeaLandModel" "world" "[I", .code yX12_at cX12_at 2 (some .int), .methodLink RX12 214 yX12_at, .static yX12_at, .initialized RX12, .methodLink RX12 217 yX12_of, .instanceMethod yX12_of, .selects RX12 yX12_of yX12_of, .fieldLink RX12 238 "SeaLandModel" "rows" "I"] bs)
set_option maxHeartbeats 4000000 in
set_option maxRecDepth 100000 in
theorem s_lays (l : Launch) (dC : Nat → ClassId) (dI : Nat → Nat → Nat) (kA : Nat → ClassId) (adK adV : Nat → Nat) (G : gT) (H0 : Heap) (q : Nat → Nat) (wZ wN : Nat → Int) (wH wB wC : Int) (wL wK : Nat → Prop) (wU wV : Nat → Nat) (PI : Nat → Int → Prop) (im : Int) (PM PT : Nat → Int → Prop) (lS lB lE : Nat → Nat → Int → Prop) (lN : Nat → Int) (o0 : Nat) (wk : Int32) (th : Int32) (cy : Int32) (wl ix_wl : Int32)  (hT : gH (dC, dI) kA (SHm q (wP wZ wN wH wB wC wL wK wU wV) PI im PM PT lS lB lE lN) G H0) (hr_o0 : G o0 = some 0) (hq0 : 0 ≤ wk.toInt ∧ wk.toInt ≤ 29) (hq1 : 0 ≤ cy.toInt ∧ cy.toInt ≤ 9) (hx_wl : ix_wl.toInt = 772 + 22 * wk.toInt) (hm_wl : el H0 (q 1) ix_wl.toNatClampNeg = some (.int wl)) (hv_wl : 0 ≤ wl.toInt ∧ wl.toInt ≤ 5) (hgz : ∀ i, 0 ≤ wZ i) (hgn : ∀ i, 6500000 ≤ wN i ∧ wN i ≤ 20200000) (hgh : 0 ≤ wH ∧ wH ≤ 40000) (hgb : 0 ≤ wB ∧ wB ≤ 3850000) (hgc : 0 ≤ wC ∧ wC ≤ 30) (hgi : 0 ≤ im ∧ im ≤ 1) (hgu : ∀ a t, G a = some (t + 1) → a = q t) : Met l yX12_lays w_s_lays ({ frames := 2, cells := 0, slots := 0, locals := 43 }) (va_Pc [.ref o0, .int wk, .int th, .int cy] (fun U => U.heap = H0 ∧ va_K (dC, dI) vwCl (tyl kA) U ∧ EVS adK adV (gA G H0.size) U U.heap)) (va_Qv (fun (u : Unit) => True) (fun (_ : Unit) (t : State) => gH (dC, dI) kA (SHm q (wP wZ wN wH wB wC wL wK wU wV) PI im PM PT lS lB lE lN) G t.heap ∧ gF (dC, dI) SKm G ([(0, 9), (2, 0)] : List (Nat × Nat)) H0 t.heap) (gA G H0.size)) 0 0 (gA G H0.size) := by
  refine Met.ofW (cc := cX12_lays) (maxL := 5) (ret := none) (by decide) rfl ?_
  intro p e s m args below meth c s₁ B hml hv
  obtain ⟨rfl, hH0, hK, hE⟩ := hv
  have hx := B.exec
  have hb := B.bytes
  have hr := B.returns
  have hts := atoms_spec (ws := w_s_lays) B.pre
  have hown : s.vm.findClass RX12 = some m.cls := findClass_of_methodNamed B.named
  have hlocks := B.notSynchronized
  subst hH0
  generalize hAe : gA G s.heap.size = A at hE ⊢
  have hA : ∀ q : Nat, s.heap.size ≤ q → A q := fun q h => by rw [← hAe]; exact Or.inr h
  have hG := gA_of hAe
  have hS : va_S A s.heap s.heap [] := va_S.rf
  have hF : gF (dC, dI) SKm G ([(0, 9), (2, 0)] : List (Nat × Nat)) s.heap s.heap := gF.rf
  have hl := lv_entry ([.ref o0, .int wk, .int th, .int cy]) (n := 5) (Nat.le_of_ble_eq_true rfl)
  rw [lg_entry_eq]
  generalize (lg_sl ([.ref o0, .int wk, .int th, .int cy]) ++ List.replicate (5 - (lg_sl ([.ref o0, .int wk, .int th, .int cy])).length) Slot.unset).toArray = ls at hl ⊢
  have hl : lv_has ls 5 [(0, .ref o0), (1, .int wk), (2, .int th), (3, .int cy)] := hl
  have hg1 : G (q 1) = some 2 := gx_of hT hr_o0 shm_0 (k := 1) (by decide) rfl
  refine lv_aload_n hx hb dX12_lays_0 rfl (lv_at hl 0 rfl) ?_
  refine lv_iload_n hx hb dX12_lays_1 rfl (lv_at hl 1 rfl) ?_
  refine lv_iconst (v := 4) hx hb dX12_lays_2 (by decide) ?_
  have hFc := gA_free hG hA hS
  refine va_calli (va_runV (As := [.int wk, .int 4]) (rest := []) ⟨hx, hb, hml, hown, hts⟩ (s_of4 l dC dI kA adK adV G s.heap q wZ wN wH wB wC wL wK wU wV PI im PM PT lS lB lE lN o0 wk hT hr_o0 (by have q8 := ti_all wk; omega) hgz hgn hgh hgb hgc hgi hgu) (cwV 2 hts (goodIn_app (goodIn_r _ [7, 8, 9, 6] rfl (by decide +kernel)) (goodIn_ca (goodIn_r _ [1, 2, 3, 4, 5, 6] rfl (by decide +kernel)) (bs_in _ _))) rfl rfl rfl (by decide +kernel) ⟨(Nat.le_of_ble_eq_true rfl), (Nat.le_of_ble_eq_true rfl)⟩) ⟨fun a U g mk q => by obtain ⟨q0, q1, qK, qE⟩ := q; exact ⟨q0, q1, va_K.moved (u := U) (U := U.calling g mk a) (Vm.Alike.refl U.vm) qK, EVS.blind g mk a qE⟩, gH_rc hK hT hr_o0 shm_0 rfl, fun U hU hW => ⟨rfl, hU, va_K.moved hW.alike hK, hE.call hS hFc hU hW⟩⟩ rfl rfl hl.1 rfl (lv_room (Nat.le_of_ble_eq_true rfl)) dX12_lays_3 ⟨(Nat.le_of_ble_eq_true rfl), (Nat.le_of_ble_eq_true rfl)⟩) hS (fun q _ h => hFc q h) hFc (fun r2 u t H locs ht hvm hw3 hB _ _ hS => ?_)
  obtain ⟨hT, hF1⟩ := hB
  rw [ht] at hT hF1
  have m4 := (el_kept (hF1.arr hg1 skm_2 (by decide))).trans hm_wl
  have hF := hF.more hF1 (by decide)
  try dsimp only at hw3
  obtain ⟨h5, ⟨ix6, hix6, m7⟩⟩ := hw3
  have m8 := (el_kept (hF1.arr hg1 skm_2 (by decide))).trans m7
  obtain rfl : wl = r2 := (el_same m8 m4 (by have q8 := (show ix_wl.toInt = ix_wl.toInt from rfl); omega)).symm
  refine lv_istore (lv' := [(4, .int wl), (0, .ref o0), (1, .int wk), (2, .int th), (3, .int cy)]) hx hb dX12_lays_6 hl (by decide) rfl (fun ls hl => ?_)
  refine lv_aload_n hx hb dX12_lays_8 rfl (lv_at hl 1 rfl) ?_
  refine tw_get hx hb hts bF_X12 hown hK hT hr_o0 shm_0 rfl 1 (by decide) (ht_at hts 1 rfl) (fun _ h9 => h9) dX12_lays_9 (fun v9 m9 h9 => ?_)
  obtain ⟨rfl, hg10⟩ := h9 _ rfl
  refine lv_iload_n hx hb dX12_lays_12 rfl (lv_at hl 2 rfl) ?_
  refine lv_iconst (v := 5) hx hb dX12_lays_13 (by decide) ?_
  refine lv_iload hx hb dX12_lays_14 (lv_at hl 0 rfl) ?_
  refine lv_iadd hx hb dX12_lays_16 ?_
  refine lv_topi (fun x11 ex11 => ?_)
  have t12 : x11.toInt = 5 + wl.toInt := ti_add ex11 (by decide) rfl (by omega) (by omega)
  have hFc := gA_free hG hA hS
  refine va_calli (va_runS (As := [.int wk, .int x11]) (rest := [.ref (q 1)]) ⟨hx, hb, hml, hown, hts⟩ (s_at l dC dI kA adK adV G H q wZ wN wH wB wC wL wK wU wV PI im PM PT lS lB lE lN wk x11 hT (by have q8 := ti_all wk; omega) (by have q8 := ti_all x11; omega) hgz hgn hgh hgb hgc hgi hgu) (va_cwS 2 hts (goodIn_app (goodIn_r _ [4, 5, 6] rfl (by decide +kernel)) (goodIn_ca (goodIn_r _ [3] rfl (by decide +kernel)) (bs_in _ _))) rfl rfl rfl (by decide +kernel) ⟨(Nat.le_of_ble_eq_true rfl), (Nat.le_of_ble_eq_true rfl)⟩) ⟨fun a U g mk q => by obtain ⟨q0, q1, qK, qE⟩ := q; exact ⟨q0, q1, va_K.moved (u := U) (U := U.calling g mk a) (Vm.Alike.refl U.vm) qK, EVS.blind g mk a qE⟩, fun U hU hW => ⟨rfl, hU, va_K.moved hW.alike hK, hE.call hS hFc hU hW⟩⟩ rfl rfl hl.1 rfl (lv_room (Nat.le_of_ble_eq_true rfl)) dX12_lays_17 ⟨(Nat.le_of_ble_eq_true rfl), (Nat.le_of_ble_eq_true rfl)⟩) hS (fun q _ h => hFc q h) hFc (fun r13 u t H locs ht hvm hw14 hB _ _ hS => ?_)
  obtain ⟨hT, hF1⟩ := hB
  rw [ht] at hT hF1
  have hF := hF.more hF1 (by decide)
  try dsimp only at hw14
  obtain ⟨h16, hf17⟩ := hw14
  refine lv_iload_n hx hb dX12_lays_20 rfl (lv_at hl 3 rfl) ?_
  refine tw_iast (i := r13) (x := th) hx hb hK hT hG hS hg1 shm_2 rfl (vin_t (a := r13.toInt) rfl (by omega) (by omega)) (gp_of (gi_all _) (w_fre (by have q9 := tn_of (show r13.toInt = r13.toInt from rfl) (show (0 : Int) ≤ r13.toInt from by omega); omega)) (wX_o (by have q9 := tn_of (show r13.toInt = r13.toInt from rfl) (show (0 : Int) ≤ r13.toInt from by omega); omega) (by omega))) dX12_lays_21 (fun H locs hT oq m18 oi hS => ?_)
  have hF := hF.ast hg1 skm_2 oq (by decide)
  refine lv_aload_n hx hb dX12_lays_22 rfl (lv_at hl 1 rfl) ?_
  refine tw_get hx hb hts bF_X12 hown hK hT hr_o0 shm_0 rfl 1 (by decide) (ht_at hts 1 rfl) (fun _ h9 => h9) dX12_lays_23 (fun v9 m20 h9 => ?_)
  obtain ⟨rfl, hg21⟩ := h9 _ rfl
  refine lv_iload_n hx hb dX12_lays_26 rfl (lv_at hl 2 rfl) ?_
  refine lv_bipush (v := 11) hx hb dX12_lays_27 (by decide) ?_
  refine lv_iload hx hb dX12_lays_29 (lv_at hl 0 rfl) ?_
  refine lv_iadd hx hb dX12_lays_31 ?_
  refine lv_topi (fun x22 ex22 => ?_)
  have t23 : x22.toInt = 11 + wl.toInt := ti_add ex22 (by decide) rfl (by omega) (by omega)
  have hFc := gA_free hG hA hS
  refine va_calli (va_runS (As := [.int wk, .int x22]) (rest := [.ref (q 1)]) ⟨hx, hb, hml, hown, hts⟩ (s_at l dC dI kA adK adV G H q wZ wN wH wB wC wL wK wU wV PI im PM PT lS lB lE lN wk x22 hT (by have q8 := ti_all wk; omega) (by have q8 := ti_all x22; omega) hgz hgn hgh hgb hgc hgi hgu) (va_cwS 2 hts (goodIn_app (goodIn_r _ [4, 5, 6] rfl (by decide +kernel)) (goodIn_ca (goodIn_r _ [3] rfl (by decide +kernel)) (bs_in _ _))) rfl rfl rfl (by decide +kernel) ⟨(Nat.le_of_ble_eq_true rfl), (Nat.le_of_ble_eq_true rfl)⟩) ⟨fun a U g mk q => by obtain ⟨q0, q1, qK, qE⟩ := q; exact ⟨q0, q1, va_K.moved (u := U) (U := U.calling g mk a) (Vm.Alike.refl U.vm) qK, EVS.blind g mk a qE⟩, fun U hU hW => ⟨rfl, hU, va_K.moved hW.alike hK, hE.call hS hFc hU hW⟩⟩ rfl rfl hl.1 rfl (lv_room (Nat.le_of_ble_eq_true rfl)) dX12_lays_32 ⟨(Nat.le_of_ble_eq_true rfl), (Nat.le_of_ble_eq_true rfl)⟩) hS (fun q _ h => hFc q h) hFc (fun r24 u t H locs ht hvm hw25 hB _ _ hS => ?_)
  obtain ⟨hT, hF1⟩ := hB
  rw [ht] at hT hF1
  have hF := hF.more hF1 (by decide)
  try dsimp only at hw25
  obtain ⟨h28, hf29⟩ := hw25
  refine lv_iload_n hx hb dX12_lays_35 rfl (lv_at hl 4 rfl) ?_
  refine tw_iast (i := r24) (x := cy) hx hb hK hT hG hS hg1 shm_2 rfl (vin_t (a := r24.toInt) rfl (by omega) (by omega)) (gp_of (gi_of (show cy.toInt = cy.toInt from rfl) (by omega) (by omega)) (w_wcl (by have q9 := tn_of (show r24.toInt = r24.toInt from rfl) (show (0 : Int) ≤ r24.toInt from by omega); omega)) (wX_o (by have q9 := tn_of (show r24.toInt = r24.toInt from rfl) (show (0 : Int) ≤ r24.toInt from by omega); omega) (by omega))) dX12_lays_36 (fun H locs hT oq m30 oi hS => ?_)
  have hF := hF.ast hg1 skm_2 oq (by decide)
  refine lv_aload_n hx hb dX12_lays_37 rfl (lv_at hl 1 rfl) ?_
  refine tw_get hx hb hts bF_X12 hown hK hT hr_o0 shm_0 rfl 1 (by decide) (ht_at hts 1 rfl) (fun _ h9 => h9) dX12_lays_38 (fun v9 m33 h9 => ?_)
  obtain ⟨rfl, hg34⟩ := h9 _ rfl
  refine lv_iload_n hx hb dX12_lays_41 rfl (lv_at hl 2 rfl) ?_
  refine lv_iconst (v := 4) hx hb dX12_lays_42 (by decide) ?_
  have hFc := gA_free hG hA hS
  refine va_calli (va_runS (As := [.int wk, .int 4]) (rest := [.ref (q 1)]) ⟨hx, hb, hml, hown, hts⟩ (s_at l dC dI kA adK adV G H q wZ wN wH wB wC wL wK wU wV PI im PM PT lS lB lE lN wk 4 hT (by have q8 := ti_all wk; omega) (rg_t (a := 4) (by decide) (by first | decide | omega) (by first | decide | omega)) hgz hgn hgh hgb hgc hgi hgu) (va_cwS 2 hts (goodIn_app (goodIn_r _ [4, 5, 6] rfl (by decide +kernel)) (goodIn_ca (goodIn_r _ [3] rfl (by decide +kernel)) (bs_in _ _))) rfl rfl rfl (by decide +kernel) ⟨(Nat.le_of_ble_eq_true rfl), (Nat.le_of_ble_eq_true rfl)⟩) ⟨fun a U g mk q => by obtain ⟨q0, q1, qK, qE⟩ := q; exact ⟨q0, q1, va_K.moved (u := U) (U := U.calling g mk a) (Vm.Alike.refl U.vm) qK, EVS.blind g mk a qE⟩, fun U hU hW => ⟨rfl, hU, va_K.moved hW.alike hK, hE.call hS hFc hU hW⟩⟩ rfl rfl hl.1 rfl (lv_room (Nat.le_of_ble_eq_true rfl)) dX12_lays_43 ⟨(Nat.le_of_ble_eq_true rfl), (Nat.le_of_ble_eq_true rfl)⟩) hS (fun q _ h => hFc q h) hFc (fun r35 u t H locs ht hvm hw36 hB _ _ hS => ?_)
  obtain ⟨hT, hF1⟩ := hB
  rw [ht] at hT hF1
  have hF := hF.more hF1 (by decide)
  try dsimp only at hw36
  obtain ⟨h40, hf41⟩ := hw36
  have t42 : (4 : Int32).toInt = 4 := by decide
  refine lv_iload hx hb dX12_lays_46 (lv_at hl 0 rfl) ?_
  refine lv_iconst (v := 1) hx hb dX12_lays_48 (by decide) ?_
  refine lv_iadd hx hb dX12_lays_49 ?_
  refine lv_topi (fun x43 ex43 => ?_)
  have t44 : x43.toInt = wl.toInt + 1 := ti_add ex43 rfl (by decide) (by omega) (by omega)
  refine tw_iast (i := r35) (x := x43) hx hb hK hT hG hS hg1 shm_2 rfl (vin_t (a := r35.toInt) rfl (by omega) (by omega)) (gp_of (gi_of (show x43.toInt = x43.toInt from rfl) (by omega) (by omega)) (w_wld (by have q9 := tn_of (show r35.toInt = r35.toInt from rfl) (show (0 : Int) ≤ r35.toInt from by omega); omega)) (wX_o (by have q9 := tn_of (show r35.toInt = r35.toInt from rfl) (show (0 : Int) ≤ r35.toInt from by omega); omega) (by omega))) dX12_lays_50 (fun H locs hT oq m45 oi hS => ?_)
  have hF := hF.ast hg1 skm_2 oq (by decide)
  refine lv_aload_n hx hb dX12_lays_51 rfl (lv_at hl 1 rfl) ?_
  refine lv_iconst (v := 0) hx hb dX12_lays_52 (by decide) ?_
  refine tw_put (v := .int 0) (ty := .int) hx hb hts bF_X12 tyX12 tyX12_ok nmX12 hown hK hT hG hS hr_o0 shm_0 rfl 9 (by decide) (ht_at hts 9 rfl) (fun _ h9 => h9) rfl (by decide +kernel) rfl rfl (gl_at rfl (gi_of (show (0 : Int32).toInt = 0 from (by decide)) (by first | decide | omega) (by first | decide | omega))) dX12_lays_53 (fun H locs hT oq m48 oj hS => ?_)
  have hF := hF.put hr_o0 skm_0 oq oj (by decide)
  exact W.vret hx hb hr (fun t ht hW => ⟨⟨(), rfl, (by exact trivial), by (try dsimp only); rw [ht]; exact ⟨hT, hF⟩⟩, hS.F ht⟩) hS.2.2 dX12_lays_56
def w_s_level : List Cond := .code yX12_level cX12_level 2 (some .int) :: (HAppend.hAppend (α := List Cond) (β := List Cond) (γ := List Cond) [.code yX12_isLand cX12_isLand 2 (some .boolean), .fieldLink RX12 9 "SeaLandModel" "world" "[I", .methodLink RX12 235 yX12_isLand, .instanceMethod yX12_isLand, .selects RX12 yX12_isLand yX12_isLand, .initialized RX12, .code yX12_hour cX12_hour 1 (some .int), .methodLink RX12 228 yX12_hour, .instanceMethod yX12_hour, .selects RX12 yX12_hour yX12_hour, .code yX12_outside cX12_outside 4 (some .int), .code yX12_in cX12_in 3 (some .boolean), .methodLink RX12 197 yX12_in, .static yX12_in, .methodLink RX12 247 yX12_outside, .instanceMethod yX12_outside, .selects RX12 yX12_outside yX12_outside] bs)
set_option maxHeartbeats 4000000 in
set_option maxRecDepth 100000 in
theorem s_level (l : Launch) (dC : Nat → ClassId) (dI : Nat → Nat → Nat) (kA : Nat → ClassId) (adK adV : Nat → Nat) (G : gT) (H0 : Heap) (q : Nat → Nat) (wZ wN : Nat → Int) (wH wB wC : Int) (wL wK : Nat → Prop) (wU wV : Nat → Nat) (PI : Nat → Int → Prop) (im : Int) (PM PT : Nat → Int → Prop) (lS lB lE : Nat → Nat → Int → Prop) (lN : Nat → Int) (o0 : Nat) (sq : Int32)  (hT : gH (dC, dI) kA (SHm q (wP wZ wN wH wB wC wL wK wU wV) PI im PM PT lS lB lE lN) G H0) (hr_o0 : G o0 = some 0) (hq0 : 0 ≤ sq.toInt ∧ sq.toInt ≤ 95) (hgz : ∀ i, 0 ≤ wZ i) (hgn : ∀ i, 6500000 ≤ wN i ∧ wN i ≤ 20200000) (hgh : 0 ≤ wH ∧ wH ≤ 40000) (hgb : 0 ≤ wB ∧ wB ≤ 3850000) (hgc : 0 ≤ wC ∧ wC ≤ 30) (hgi : 0 ≤ im ∧ im ≤ 1) (hgu : ∀ a t, G a = some (t + 1) → a = q t) : Met l yX12_level w_s_level ({ frames := 2, cells := 0, slots := 0, locals := 45 }) (va_Pc [.ref o0, .int sq] (fun U => U.heap = H0 ∧ va_K (dC, dI) vwCl (tyl kA) U ∧ EVS adK adV (gA G H0.size) U U.heap)) (va_Qi (fun (r : Int32) (u : Unit) => (-3850900 ≤ r.toInt ∧ r.toInt ≤ 20200300)) (fun (_ : Unit) (t : State) => gH (dC, dI) kA (SHm q (wP wZ wN wH wB wC wL wK wU wV) PI im PM PT lS lB lE lN) G t.heap ∧ gF (dC, dI) SKm G ([] : List (Nat × Nat)) H0 t.heap) (gA G H0.size)) 0 0 (gA G H0.size) := by
  refine Met.ofW (cc := cX12_level) (maxL := 2) (ret := (some .int)) (by decide) rfl ?_
  intro p e s m args below meth c s₁ B hml hv
  obtain ⟨rfl, hH0, hK, hE⟩ := hv
  have hx := B.exec
  have hb := B.bytes
  have hr := B.returns
  have hts := atoms_spec (ws := w_s_level) B.pre
  have hown : s.vm.findClass RX12 = some m.cls := findClass_of_methodNamed B.named
  have hlocks := B.notSynchronized
  subst hH0
  generalize hAe : gA G s.heap.size = A at hE ⊢
  have hA : ∀ q : Nat, s.heap.size ≤ q → A q := fun q h => by rw [← hAe]; exact Or.inr h
  have hG := gA_of hAe
  have hS : va_S A s.heap s.heap [] := va_S.rf
  have hF : gF (dC, dI) SKm G ([] : List (Nat × Nat)) s.heap s.heap := gF.rf
  have hl := lv_entry ([.ref o0, .int sq]) (n := 2) (Nat.le_of_ble_eq_true rfl)
  rw [lg_entry_eq]
  generalize (lg_sl ([.ref o0, .int sq]) ++ List.replicate (2 - (lg_sl ([.ref o0, .int sq])).length) Slot.unset).toArray = ls at hl ⊢
  have hl : lv_has ls 2 [(0, .ref o0), (1, .int sq)] := hl
  refine lv_aload_n hx hb dX12_level_0 rfl (lv_at hl 0 rfl) ?_
  refine lv_iload_n hx hb dX12_level_1 rfl (lv_at hl 1 rfl) ?_
  have hFc := gA_free hG hA hS
  refine va_calli (va_runV (As := [.int sq]) (rest := []) ⟨hx, hb, hml, hown, hts⟩ (s_isLand l dC dI kA adK adV G s.heap q wZ wN wH wB wC wL wK wU wV PI im PM PT lS lB lE lN o0 sq hT hr_o0 (by have q8 := ti_all sq; omega) hgz hgn hgh hgb hgc hgi hgu) (cwV 1 hts (goodIn_app (goodIn_r _ [3, 4, 5, 6] rfl (by decide +kernel)) (goodIn_ca (goodIn_r _ [1, 2] rfl (by decide +kernel)) (bs_in _ _))) rfl rfl rfl (by decide +kernel) ⟨(Nat.le_of_ble_eq_true rfl), (Nat.le_of_ble_eq_true rfl)⟩) ⟨fun a U g mk q => by obtain ⟨q0, q1, qK, qE⟩ := q; exact ⟨q0, q1, va_K.moved (u := U) (U := U.calling g mk a) (Vm.Alike.refl U.vm) qK, EVS.blind g mk a qE⟩, gH_rc hK hT hr_o0 shm_0 rfl, fun U hU hW => ⟨rfl, hU, va_K.moved hW.alike hK, hE.call hS hFc hU hW⟩⟩ rfl rfl hl.1 rfl (lv_room (Nat.le_of_ble_eq_true rfl)) dX12_level_2 ⟨(Nat.le_of_ble_eq_true rfl), (Nat.le_of_ble_eq_true rfl)⟩) hS (fun q _ h => hFc q h) hFc (fun r1 u t H locs ht hvm hw2 hB _ _ hS => ?_)
  obtain ⟨hT, hF1⟩ := hB
  rw [ht] at hT hF1
  have hF := hF.more hF1 (by decide)
  try dsimp only at hw2
  obtain ⟨h3, hi4, hi5⟩ := hw2
  refine lv_if_eq (tgt := 31) hx hb dX12_level_5 (by decide) (fun c6 => ?_) (fun c6 => ?_)
  · have t7 : r1.toInt = 0 := ti_eq c6 rfl (by decide)
    have t8 : ¬ wL sq.toNatClampNeg := hi5 c6
    refine lv_aload_n hx hb dX12_level_31 rfl (lv_at hl 0 rfl) ?_
    refine lv_aload_n hx hb dX12_level_32 rfl (lv_at hl 0 rfl) ?_
    have hFc := gA_free hG hA hS
    refine va_calli (va_runV (As := []) (rest := [.ref o0]) ⟨hx, hb, hml, hown, hts⟩ (s_hour l dC dI kA adK adV G H q wZ wN wH wB wC wL wK wU wV PI im PM PT lS lB lE lN o0 hT hr_o0 hgz hgn hgh hgb hgc hgi hgu) (cwV 0 hts (goodIn_app (goodIn_r _ [8, 9, 10, 6] rfl (by decide +kernel)) (goodIn_ca (goodIn_r _ [7, 2] rfl (by decide +kernel)) (bs_in _ _))) rfl rfl rfl (by decide +kernel) ⟨(Nat.le_of_ble_eq_true rfl), (Nat.le_of_ble_eq_true rfl)⟩) ⟨fun a U g mk q => by obtain ⟨q0, q1, qK, qE⟩ := q; exact ⟨q0, q1, va_K.moved (u := U) (U := U.calling g mk a) (Vm.Alike.refl U.vm) qK, EVS.blind g mk a qE⟩, gH_rc hK hT hr_o0 shm_0 rfl, fun U hU hW => ⟨rfl, hU, va_K.moved hW.alike hK, hE.call hS hFc hU hW⟩⟩ rfl rfl hl.1 rfl (lv_room (Nat.le_of_ble_eq_true rfl)) dX12_level_33 ⟨(Nat.le_of_ble_eq_true rfl), (Nat.le_of_ble_eq_true rfl)⟩) hS (fun q _ h => hFc q h) hFc (fun r9 u t H locs ht hvm hw10 hB _ _ hS => ?_)
    obtain ⟨hT, hF1⟩ := hB
    rw [ht] at hT hF1
    have hF := hF.more hF1 (by decide)
    try dsimp only at hw10
    obtain ⟨h11, hf12⟩ := hw10
    have hFc := gA_free hG hA hS
    refine va_calli (va_runV (As := [.int r9]) (rest := []) ⟨hx, hb, hml, hown, hts⟩ (s_outside l dC dI kA adK adV G H q wZ wN wH wB wC wL wK wU wV PI im PM PT lS lB lE lN o0 r9 hT hr_o0 (by have q8 := ti_all r9; omega) hgz hgn hgh hgb hgc hgi hgu) (cwV 1 hts (goodIn_app (goodIn_r _ [15, 16, 17, 6] rfl (by decide +kernel)) (goodIn_ca (goodIn_r _ [11, 2, 12, 13, 14, 6] rfl (by decide +kernel)) (bs_in _ _))) rfl rfl rfl (by decide +kernel) ⟨(Nat.le_of_ble_eq_true rfl), (Nat.le_of_ble_eq_true rfl)⟩) ⟨fun a U g mk q => by obtain ⟨q0, q1, qK, qE⟩ := q; exact ⟨q0, q1, va_K.moved (u := U) (U := U.calling g mk a) (Vm.Alike.refl U.vm) qK, EVS.blind g mk a qE⟩, gH_rc hK hT hr_o0 shm_0 rfl, fun U hU hW => ⟨rfl, hU, va_K.moved hW.alike hK, hE.call hS hFc hU hW⟩⟩ rfl rfl hl.1 rfl (lv_room (Nat.le_of_ble_eq_true rfl)) dX12_level_36 ⟨(Nat.le_of_ble_eq_true rfl), (Nat.le_of_ble_eq_true rfl)⟩) hS (fun q _ h => hFc q h) hFc (fun r13 u t H locs ht hvm hw14 hB _ _ hS => ?_)
    obtain ⟨hT, hF1⟩ := hB
    rw [ht] at hT hF1
    have hF := hF.more hF1 (by decide)
    try dsimp only at hw14
    have h15 := hw14
    exact W.iret (v := r13) hx hb hr (fun t ht hW => ⟨⟨r13, (), rfl, (by exact (by have q8 := ti_all r13; omega)), by (try dsimp only); rw [ht]; exact ⟨hT, hF⟩⟩, hS.F ht⟩) hS.2.2 dX12_level_39
  · have t16 : r1.toInt ≠ 0 := ti_ne c6 rfl (by decide)
    have t17 : wL sq.toNatClampNeg := hi4 ((bit_of ⟨by omega, by omega⟩).resolve_left c6)
    refine lv_aload_n hx hb dX12_level_8 rfl (lv_at hl 0 rfl) ?_
    refine tw_get hx hb hts bF_X12 hown hK hT hr_o0 shm_0 rfl 1 (by decide) (ht_at hts 1 rfl) (fun _ h9 => h9) dX12_level_9 (fun v9 m18 h9 => ?_)
    obtain ⟨rfl, hg19⟩ := h9 _ rfl
    refine lv_bipush (v := 96) hx hb dX12_level_12 (by decide) ?_
    refine lv_iload_n hx hb dX12_level_14 rfl (lv_at hl 1 rfl) ?_
    refine lv_iadd hx hb dX12_level_15 ?_
    refine lv_topi (fun x20 ex20 => ?_)
    have t21 : x20.toInt = 96 + sq.toInt := ti_add ex20 (by decide) rfl (by omega) (by omega)
    refine tw_iald (i := x20) hx hb hK hT hg19 shm_2 rfl (vin_t (a := x20.toInt) rfl (by omega) (by omega)) dX12_level_16 (fun v9 m22 h9 => ?_)
    obtain ⟨x23, rfl, gx23, kx23⟩ := (gp_at h9 (w_hgt (by have q9 := tn_of (show x20.toInt = x20.toInt from rfl) (show (0 : Int) ≤ x20.toInt from by omega); omega)))
    refine lv_aload_n hx hb dX12_level_17 rfl (lv_at hl 0 rfl) ?_
    refine tw_get hx hb hts bF_X12 hown hK hT hr_o0 shm_0 rfl 1 (by decide) (ht_at hts 1 rfl) (fun _ h9 => h9) dX12_level_18 (fun v9 m24 h9 => ?_)
    obtain ⟨rfl, hg25⟩ := h9 _ rfl
    refine lv_sipush (v := 384) hx hb dX12_level_21 (by decide) ?_
    refine lv_iload_n hx hb dX12_level_24 rfl (lv_at hl 1 rfl) ?_
    refine lv_iadd hx hb dX12_level_25 ?_
    refine lv_topi (fun x26 ex26 => ?_)
    have t27 : x26.toInt = 384 + sq.toInt := ti_add ex26 (by decide) rfl (by omega) (by omega)
    refine tw_iald (i := x26) hx hb hK hT hg19 shm_2 rfl (vin_t (a := x26.toInt) rfl (by omega) (by omega)) dX12_level_26 (fun v9 m28 h9 => ?_)
    obtain ⟨x29, rfl, gx29, kx29⟩ := (gw_at h9 (w_wat (by have q9 := tn_of (show x26.toInt = x26.toInt from rfl) (show (0 : Int) ≤ x26.toInt from by omega); omega)) hgn hgz)
    refine lv_iadd hx hb dX12_level_27 ?_
    refine lv_topi (fun x30 ex30 => ?_)
    have t31 : x30.toInt = x23.toInt + x29.toInt := ti_add ex30 rfl rfl (by omega) (by omega)
    refine lv_goto (tgt := 39) hx hb dX12_level_28 (by decide) ?_
    exact W.iret (v := x30) hx hb hr (fun t ht hW => ⟨⟨x30, (), rfl, (by exact (by have q8 := ti_all x30; omega)), by (try dsimp only); rw [ht]; exact ⟨hT, hF⟩⟩, hS.F ht⟩) hS.2.2 dX12_level_39
def w_s_brings : List Cond := .code yX12_brings cX12_brings 3 none :: (HAppend.hAppend (α := List Cond) (β := List Cond) (γ := List Cond) [.fieldLink RX12 9 "SeaLandModel" "world" "[I", .code yX12_at cX12_at 2 (some .int), .methodLink RX12 214 yX12_at, .static yX12_at, .initialized RX12] bs)
set_option maxHeartbeats 4000000 in
set_option maxRecDepth 100000 in
theorem s_brings (l : Launch) (dC : Nat → ClassId) (dI : Nat → Nat → Nat) (kA : Nat → ClassId) (adK adV : Nat → Nat) (G : gT) (H0 : Heap) (q : Nat → Nat) (wZ wN : Nat → Int) (wH wB wC : Int) (wL wK : Nat → Prop) (wU wV : Nat → Nat) (PI : Nat → Int → Prop) (im : Int) (PM PT : Nat → Int → Prop) (lS lB lE : Nat → Nat → Int → Prop) (lN : Nat → Int) (o0 : Nat) (wk : Int32) (am : Int32)  (hT : gH (dC, dI) kA (SHm q (wP wZ wN wH wB wC wL wK wU wV) PI im PM PT lS lB lE lN) G H0) (hr_o0 : G o0 = some 0) (hq0 : 0 ≤ wk.toInt ∧ wk.toInt ≤ 29) (hgz : ∀ i, 0 ≤ wZ i) (hgn : ∀ i, 6500000 ≤ wN i ∧ wN i ≤ 20200000) (hgh : 0 ≤ wH ∧ wH ≤ 40000) (hgb : 0 ≤ wB ∧ wB ≤ 3850000) (hgc : 0 ≤ wC ∧ wC ≤ 30) (hgi : 0 ≤ im ∧ im ≤ 1) (hgu : ∀ a t, G a = some (t + 1) → a = q t) : Met l yX12_brings w_s_brings ({ frames := 1, cells := 0, slots := 0, locals := 21 }) (va_Pc [.ref o0, .int wk, .int am] (fun U => U.heap = H0 ∧ va_K (dC, dI) vwCl (tyl kA) U ∧ EVS adK adV (gA G H0.size) U U.heap)) (va_Qv (fun (u : Unit) => True) (fun (_ : Unit) (t : State) => gH (dC, dI) kA (SHm q (wP wZ wN wH wB wC wL wK wU wV) PI im PM PT lS lB lE lN) G t.heap ∧ gF (dC, dI) SKm G ([(2, 0)] : List (Nat × Nat)) H0 t.heap) (gA G H0.size)) 0 0 (gA G H0.size) := by
  refine Met.ofW (cc := cX12_brings) (maxL := 3) (ret := none) (by decide) rfl ?_
  intro p e s m args below meth c s₁ B hml hv
  obtain ⟨rfl, hH0, hK, hE⟩ := hv
  have hx := B.exec
  have hb := B.bytes
  have hr := B.returns
  have hts := atoms_spec (ws := w_s_brings) B.pre
  have hown : s.vm.findClass RX12 = some m.cls := findClass_of_methodNamed B.named
  have hlocks := B.notSynchronized
  subst hH0
  generalize hAe : gA G s.heap.size = A at hE ⊢
  have hA : ∀ q : Nat, s.heap.size ≤ q → A q := fun q h => by rw [← hAe]; exact Or.inr h
  have hG := gA_of hAe
  have hS : va_S A s.heap s.heap [] := va_S.rf
  have hF : gF (dC, dI) SKm G ([(2, 0)] : List (Nat × Nat)) s.heap s.heap := gF.rf
  have hl := lv_entry ([.ref o0, .int wk, .int am]) (n := 3) (Nat.le_of_ble_eq_true rfl)
  rw [lg_entry_eq]
  generalize (lg_sl ([.ref o0, .int wk, .int am]) ++ List.replicate (3 - (lg_sl ([.ref o0, .int wk, .int am])).length) Slot.unset).toArray = ls at hl ⊢
  have hl : lv_has ls 3 [(0, .ref o0), (1, .int wk), (2, .int am)] := hl
  refine lv_aload_n hx hb dX12_brings_0 rfl (lv_at hl 0 rfl) ?_
  refine tw_get hx hb hts bF_X12 hown hK hT hr_o0 shm_0 rfl 1 (by decide) (ht_at hts 0 rfl) (fun _ h9 => h9) dX12_brings_1 (fun v9 m1 h9 => ?_)
  obtain ⟨rfl, hg2⟩ := h9 _ rfl
  refine lv_iload_n hx hb dX12_brings_4 rfl (lv_at hl 1 rfl) ?_
  refine lv_bipush (v := 20) hx hb dX12_brings_5 (by decide) ?_
  have hFc := gA_free hG hA hS
  refine va_calli (va_runS (As := [.int wk, .int 20]) (rest := [.ref (q 1)]) ⟨hx, hb, hml, hown, hts⟩ (s_at l dC dI kA adK adV G s.heap q wZ wN wH wB wC wL wK wU wV PI im PM PT lS lB lE lN wk 20 hT (by have q8 := ti_all wk; omega) (rg_t (a := 20) (by decide) (by first | decide | omega) (by first | decide | omega)) hgz hgn hgh hgb hgc hgi hgu) (va_cwS 2 hts (goodIn_app (goodIn_r _ [3, 4, 5] rfl (by decide +kernel)) (goodIn_ca (goodIn_r _ [2] rfl (by decide +kernel)) (bs_in _ _))) rfl rfl rfl (by decide +kernel) ⟨(Nat.le_of_ble_eq_true rfl), (Nat.le_of_ble_eq_true rfl)⟩) ⟨fun a U g mk q => by obtain ⟨q0, q1, qK, qE⟩ := q; exact ⟨q0, q1, va_K.moved (u := U) (U := U.calling g mk a) (Vm.Alike.refl U.vm) qK, EVS.blind g mk a qE⟩, fun U hU hW => ⟨rfl, hU, va_K.moved hW.alike hK, hE.call hS hFc hU hW⟩⟩ rfl rfl hl.1 rfl (lv_room (Nat.le_of_ble_eq_true rfl)) dX12_brings_7 ⟨(Nat.le_of_ble_eq_true rfl), (Nat.le_of_ble_eq_true rfl)⟩) hS (fun q _ h => hFc q h) hFc (fun r3 u t H locs ht hvm hw4 hB _ _ hS => ?_)
  obtain ⟨hT, hF1⟩ := hB
  rw [ht] at hT hF1
  have hF := hF.more hF1 (by decide)
  try dsimp only at hw4
  obtain ⟨h5, hf6⟩ := hw4
  have t7 : (20 : Int32).toInt = 20 := by decide
  refine lv_iload_n hx hb dX12_brings_10 rfl (lv_at hl 2 rfl) ?_
  refine tw_iast (i := r3) (x := am) hx hb hK hT hG hS hg2 shm_2 rfl (vin_t (a := r3.toInt) rfl (by omega) (by omega)) (gp_of (gi_all _) (w_fre (by have q9 := tn_of (show r3.toInt = r3.toInt from rfl) (show (0 : Int) ≤ r3.toInt from by omega); omega)) (wX_o (by have q9 := tn_of (show r3.toInt = r3.toInt from rfl) (show (0 : Int) ≤ r3.toInt from by omega); omega) (by omega))) dX12_brings_11 (fun H locs hT oq m8 oi hS => ?_)
  have hF := hF.ast hg2 skm_2 oq (by decide)
  refine lv_aload_n hx hb dX12_brings_12 rfl (lv_at hl 0 rfl) ?_
  refine tw_get hx hb hts bF_X12 hown hK hT hr_o0 shm_0 rfl 1 (by decide) (ht_at hts 0 rfl) (fun _ h9 => h9) dX12_brings_13 (fun v9 m9 h9 => ?_)
  obtain ⟨rfl, hg10⟩ := h9 _ rfl
  refine lv_iload_n hx hb dX12_brings_16 rfl (lv_at hl 1 rfl) ?_
  refine lv_bipush (v := 21) hx hb dX12_brings_17 (by decide) ?_
  have hFc := gA_free hG hA hS
  refine va_calli (va_runS (As := [.int wk, .int 21]) (rest := [.ref (q 1)]) ⟨hx, hb, hml, hown, hts⟩ (s_at l dC dI kA adK adV G H q wZ wN wH wB wC wL wK wU wV PI im PM PT lS lB lE lN wk 21 hT (by have q8 := ti_all wk; omega) (rg_t (a := 21) (by decide) (by first | decide | omega) (by first | decide | omega)) hgz hgn hgh hgb hgc hgi hgu) (va_cwS 2 hts (goodIn_app (goodIn_r _ [3, 4, 5] rfl (by decide +kernel)) (goodIn_ca (goodIn_r _ [2] rfl (by decide +kernel)) (bs_in _ _))) rfl rfl rfl (by decide +kernel) ⟨(Nat.le_of_ble_eq_true rfl), (Nat.le_of_ble_eq_true rfl)⟩) ⟨fun a U g mk q => by obtain ⟨q0, q1, qK, qE⟩ := q; exact ⟨q0, q1, va_K.moved (u := U) (U := U.calling g mk a) (Vm.Alike.refl U.vm) qK, EVS.blind g mk a qE⟩, fun U hU hW => ⟨rfl, hU, va_K.moved hW.alike hK, hE.call hS hFc hU hW⟩⟩ rfl rfl hl.1 rfl (lv_room (Nat.le_of_ble_eq_true rfl)) dX12_brings_19 ⟨(Nat.le_of_ble_eq_true rfl), (Nat.le_of_ble_eq_true rfl)⟩) hS (fun q _ h => hFc q h) hFc (fun r11 u t H locs ht hvm hw12 hB _ _ hS => ?_)
  obtain ⟨hT, hF1⟩ := hB
  rw [ht] at hT hF1
  have hF := hF.more hF1 (by decide)
  try dsimp only at hw12
  obtain ⟨h14, hf15⟩ := hw12
  have t16 : (21 : Int32).toInt = 21 := by decide
  refine lv_dup2_11 hx hb dX12_brings_22 rfl rfl ?_
  refine tw_iald (i := r11) hx hb hK hT hg2 shm_2 rfl (vin_t (a := r11.toInt) rfl (by omega) (by omega)) dX12_brings_23 (fun v9 m17 h9 => ?_)
  obtain ⟨x18, rfl, gx18, kx18⟩ := (gp_at h9 (w_fre (by have q9 := tn_of (show r11.toInt = r11.toInt from rfl) (show (0 : Int) ≤ r11.toInt from by omega); omega)))
  refine lv_iload_n hx hb dX12_brings_24 rfl (lv_at hl 2 rfl) ?_
  refine lv_iadd hx hb dX12_brings_25 ?_
  refine lv_topi (fun x19 ex19 => ?_)
  refine tw_iast (i := r11) (x := x19) hx hb hK hT hG hS hg2 shm_2 rfl (vin_t (a := r11.toInt) rfl (by omega) (by omega)) (gp_of (gi_all _) (w_fre (by have q9 := tn_of (show r11.toInt = r11.toInt from rfl) (show (0 : Int) ≤ r11.toInt from by omega); omega)) (wX_o (by have q9 := tn_of (show r11.toInt = r11.toInt from rfl) (show (0 : Int) ≤ r11.toInt from by omega); omega) (by omega))) dX12_brings_26 (fun H locs hT oq m20 oi hS => ?_)
  have hF := hF.ast hg2 skm_2 oq (by decide)
  exact W.vret hx hb hr (fun t ht hW => ⟨⟨(), rfl, (by exact trivial), by (try dsimp only); rw [ht]; exact ⟨hT, hF⟩⟩, hS.F ht⟩) hS.2.2 dX12_brings_27
def w_s_seepOf : List Cond := .code yX12_seepOf cX12_seepOf 8 (some .int) :: (HAppend.hAppend (α := List Cond) (β := List Cond) (γ := List Cond) [.code yX12_of cX12_of 3 (some .int), .fieldLink RX12 9 "SeaLandModel" "world" "[I", .code yX12_at cX12_at 2 (some .int), .methodLink RX12 214 yX12_at, .static yX12_at, .initialized RX12, .methodLink RX12 217 yX12_of, .instanceMethod yX12_of, .selects RX12 yX12_of yX12_of, .code yX12_level cX12_level 2 (some .int), .code yX12_isLand cX12_isLand 2 (some .boolean), .methodLink RX12 235 yX12_isLand, .instanceMethod yX12_isLand, .selects RX12 yX12_isLand yX12_isLand, .code yX12_hour cX12_hour 1 (some .int), .methodLink RX12 228 yX12_hour, .instanceMethod yX12_hour, .selects RX12 yX12_hour yX12_hour, .code yX12_outside cX12_outside 4 (some .int), .code yX12_in cX12_in 3 (some .boolean), .methodLink RX12 197 yX12_in, .static yX12_in, .methodLink RX12 247 yX12_outside, .instanceMethod yX12_outside, .selects RX12 yX12_outside yX12_outside, .methodLink RX12 285 yX12_level, .instanceMethod yX12_level, .selects RX12 yX12_level yX12_level, .methodLink RX12 211 Lib.Math.max.name, .static Lib.Math.max.name, .initialized "java/lang/Math", .code Lib.Math.max.name Lib.Math.max.code 2 (some .int)] bs)
set_option maxHeartbeats 4000000 in
set_option maxRecDepth 100000 in
theorem s_seepOf (l : Launch) (dC : Nat → ClassId) (dI : Nat → Nat → Nat) (kA : Nat → ClassId) (adK adV : Nat → Nat) (G : gT) (H0 : Heap) (q : Nat → Nat) (wZ wN : Nat → Int) (wH wB wC : Int) (wL wK : Nat → Prop) (wU wV : Nat → Nat) (PI : Nat → Int → Prop) (im : Int) (PM PT : Nat → Int → Prop) (lS lB lE : Nat → Nat → Int → Prop) (lN : Nat → Int) (o0 : Nat) (wk : Int32) (ou : Int32)  (hT : gH (dC, dI) kA (SHm q (wP wZ wN wH wB wC wL wK wU wV) PI im PM PT lS lB lE lN) G H0) (hr_o0 : G o0 = some 0) (hq0 : 0 ≤ wk.toInt ∧ wk.toInt ≤ 29) (hgz : ∀ i, 0 ≤ wZ i) (hgn : ∀ i, 6500000 ≤ wN i ∧ wN i ≤ 20200000) (hgh : 0 ≤ wH ∧ wH ≤ 40000) (hgb : 0 ≤ wB ∧ wB ≤ 3850000) (hgc : 0 ≤ wC ∧ wC ≤ 30) (hgi : 0 ≤ im ∧ im ≤ 1) (hgu : ∀ a t, G a = some (t + 1) → a = q t) : Met l yX12_seepOf w_s_seepOf ({ frames := 3, cells := 0, slots := 0, locals := 66 }) (va_Pc [.ref o0, .int wk, .int ou] (fun U => U.heap = H0 ∧ va_K (dC, dI) vwCl (tyl kA) U ∧ EVS adK adV (gA G H0.size) U U.heap)) (va_Qi (fun (r : Int32) (u : Unit) => (-21474836 ≤ r.toInt ∧ r.toInt ≤ 21474836)) (fun (_ : Unit) (t : State) => gH (dC, dI) kA (SHm q (wP wZ wN wH wB wC wL wK wU wV) PI im PM PT lS lB lE lN) G t.heap ∧ gF (dC, dI) SKm G ([] : List (Nat × Nat)) H0 t.heap) (gA G H0.size)) 0 0 (gA G H0.size) := by
  refine Met.ofW (cc := cX12_seepOf) (maxL := 8) (ret := (some .int)) (by decide) rfl ?_
  intro p e s m args below meth c s₁ B hml hv
  obtain ⟨rfl, hH0, hK, hE⟩ := hv
  have hx := B.exec
  have hb := B.bytes
  have hr := B.returns
  have hts := atoms_spec (ws := w_s_seepOf) B.pre
  have hown : s.vm.findClass RX12 = some m.cls := findClass_of_methodNamed B.named
  have hlocks := B.notSynchronized
  subst hH0
  generalize hAe : gA G s.heap.size = A at hE ⊢
  have hA : ∀ q : Nat, s.heap.size ≤ q → A q := fun q h => by rw [← hAe]; exact Or.inr h
  have hG := gA_of hAe
  have hS : va_S A s.heap s.heap [] := va_S.rf
  have hF : gF (dC, dI) SKm G ([] : List (Nat × Nat)) s.heap s.heap := gF.rf
  have hl := lv_entry ([.ref o0, .int wk, .int ou]) (n := 8) (Nat.le_of_ble_eq_true rfl)
  rw [lg_entry_eq]
  generalize (lg_sl ([.ref o0, .int wk, .int ou]) ++ List.replicate (8 - (lg_sl ([.ref o0, .int wk, .int ou])).length) Slot.unset).toArray = ls at hl ⊢
  have hl : lv_has ls 8 [(0, .ref o0), (1, .int wk), (2, .int ou)] := hl
  refine lv_aload_n hx hb dX12_seepOf_0 rfl (lv_at hl 0 rfl) ?_
  refine lv_iload_n hx hb dX12_seepOf_1 rfl (lv_at hl 1 rfl) ?_
  refine lv_iconst (v := 2) hx hb dX12_seepOf_2 (by decide) ?_
  have hFc := gA_free hG hA hS
  refine va_calli (va_runV (As := [.int wk, .int 2]) (rest := []) ⟨hx, hb, hml, hown, hts⟩ (s_of2 l dC dI kA adK adV G s.heap q wZ wN wH wB wC wL wK wU wV PI im PM PT lS lB lE lN o0 wk hT hr_o0 (by have q8 := ti_all wk; omega) hgz hgn hgh hgb hgc hgi hgu) (cwV 2 hts (goodIn_app (goodIn_r _ [7, 8, 9, 6] rfl (by decide +kernel)) (goodIn_ca (goodIn_r _ [1, 2, 3, 4, 5, 6] rfl (by decide +kernel)) (bs_in _ _))) rfl rfl rfl (by decide +kernel) ⟨(Nat.le_of_ble_eq_true rfl), (Nat.le_of_ble_eq_true rfl)⟩) ⟨fun a U g mk q => by obtain ⟨q0, q1, qK, qE⟩ := q; exact ⟨q0, q1, va_K.moved (u := U) (U := U.calling g mk a) (Vm.Alike.refl U.vm) qK, EVS.blind g mk a qE⟩, gH_rc hK hT hr_o0 shm_0 rfl, fun U hU hW => ⟨rfl, hU, va_K.moved hW.alike hK, hE.call hS hFc hU hW⟩⟩ rfl rfl hl.1 rfl (lv_room (Nat.le_of_ble_eq_true rfl)) dX12_seepOf_3 ⟨(Nat.le_of_ble_eq_true rfl), (Nat.le_of_ble_eq_true rfl)⟩) hS (fun q _ h => hFc q h) hFc (fun r1 u t H locs ht hvm hw2 hB _ _ hS => ?_)
  obtain ⟨hT, hF1⟩ := hB
  rw [ht] at hT hF1
  have hF := hF.more hF1 (by decide)
  try dsimp only at hw2
  obtain ⟨h3, ⟨ix4, hix4, m5⟩⟩ := hw2
  have hg6 : G (q 1) = some 2 := gx_of hT hr_o0 shm_0 (k := 1) (by decide) rfl
  have m7 := (el_kept (hF1.arr hg6 skm_2 (by decide))).trans m5
  refine lv_istore_n (lv' := [(3, .int r1), (0, .ref o0), (1, .int wk), (2, .int ou)]) hx hb dX12_seepOf_6 rfl hl (by decide) rfl (fun ls hl => ?_)
  refine lv_iconst (v := 0) hx hb dX12_seepOf_7 (by decide) ?_
  refine lv_iload_n hx hb dX12_seepOf_8 rfl (lv_at hl 3 rfl) ?_
  refine lv_aload_n hx hb dX12_seepOf_9 rfl (lv_at hl 1 rfl) ?_
  refine lv_iload_n hx hb dX12_seepOf_10 rfl (lv_at hl 0 rfl) ?_
  have hFc := gA_free hG hA hS
  refine va_calli (va_runV (As := [.int r1]) (rest := [.int ou, .int 0]) ⟨hx, hb, hml, hown, hts⟩ (s_level l dC dI kA adK adV G H q wZ wN wH wB wC wL wK wU wV PI im PM PT lS lB lE lN o0 r1 hT hr_o0 (by have q8 := ti_all r1; omega) hgz hgn hgh hgb hgc hgi hgu) (cwV 1 hts (goodIn_app (goodIn_r _ [26, 27, 28, 6] rfl (by decide +kernel)) (goodIn_ca (goodIn_r _ [10, 11, 2, 12, 13, 14, 6, 15, 16, 17, 18, 19, 20, 21, 22, 23, 24, 25] rfl (by decide +kernel)) (bs_in _ _))) rfl rfl rfl (by decide +kernel) ⟨(Nat.le_of_ble_eq_true rfl), (Nat.le_of_ble_eq_true rfl)⟩) ⟨fun a U g mk q => by obtain ⟨q0, q1, qK, qE⟩ := q; exact ⟨q0, q1, va_K.moved (u := U) (U := U.calling g mk a) (Vm.Alike.refl U.vm) qK, EVS.blind g mk a qE⟩, gH_rc hK hT hr_o0 shm_0 rfl, fun U hU hW => ⟨rfl, hU, va_K.moved hW.alike hK, hE.call hS hFc hU hW⟩⟩ rfl rfl hl.1 rfl (lv_room (Nat.le_of_ble_eq_true rfl)) dX12_seepOf_11 ⟨(Nat.le_of_ble_eq_true rfl), (Nat.le_of_ble_eq_true rfl)⟩) hS (fun q _ h => hFc q h) hFc (fun r8 u t H locs ht hvm hw9 hB _ _ hS => ?_)
  obtain ⟨hT, hF1⟩ := hB
  rw [ht] at hT hF1
  have m10 := (el_kept (hF1.arr hg6 skm_2 (by decide))).trans m7
  have hF := hF.more hF1 (by decide)
  try dsimp only at hw9
  have h11 := hw9
  refine lv_aload_n hx hb dX12_seepOf_14 rfl (lv_at hl 1 rfl) ?_
  refine tw_get hx hb hts bF_X12 hown hK hT hr_o0 shm_0 rfl 1 (by decide) (ht_at hts 1 rfl) (fun _ h9 => h9) dX12_seepOf_15 (fun v9 m12 h9 => ?_)
  obtain ⟨rfl, hg13⟩ := h9 _ rfl
  refine lv_bipush (v := 96) hx hb dX12_seepOf_18 (by decide) ?_
  refine lv_aload_n hx hb dX12_seepOf_20 rfl (lv_at hl 1 rfl) ?_
  refine lv_iload_n hx hb dX12_seepOf_21 rfl (lv_at hl 2 rfl) ?_
  refine lv_iconst (v := 1) hx hb dX12_seepOf_22 (by decide) ?_
  have hFc := gA_free hG hA hS
  refine va_calli (va_runV (As := [.int wk, .int 1]) (rest := [.int 96, .ref (q 1), .int r8, .int ou, .int 0]) ⟨hx, hb, hml, hown, hts⟩ (s_of1 l dC dI kA adK adV G H q wZ wN wH wB wC wL wK wU wV PI im PM PT lS lB lE lN o0 wk hT hr_o0 (by have q8 := ti_all wk; omega) hgz hgn hgh hgb hgc hgi hgu) (cwV 2 hts (goodIn_app (goodIn_r _ [7, 8, 9, 6] rfl (by decide +kernel)) (goodIn_ca (goodIn_r _ [1, 2, 3, 4, 5, 6] rfl (by decide +kernel)) (bs_in _ _))) rfl rfl rfl (by decide +kernel) ⟨(Nat.le_of_ble_eq_true rfl), (Nat.le_of_ble_eq_true rfl)⟩) ⟨fun a U g mk q => by obtain ⟨q0, q1, qK, qE⟩ := q; exact ⟨q0, q1, va_K.moved (u := U) (U := U.calling g mk a) (Vm.Alike.refl U.vm) qK, EVS.blind g mk a qE⟩, gH_rc hK hT hr_o0 shm_0 rfl, fun U hU hW => ⟨rfl, hU, va_K.moved hW.alike hK, hE.call hS hFc hU hW⟩⟩ rfl rfl hl.1 rfl (lv_room (Nat.le_of_ble_eq_true rfl)) dX12_seepOf_23 ⟨(Nat.le_of_ble_eq_true rfl), (Nat.le_of_ble_eq_true rfl)⟩) hS (fun q _ h => hFc q h) hFc (fun r14 u t H locs ht hvm hw15 hB _ _ hS => ?_)
  obtain ⟨hT, hF1⟩ := hB
  rw [ht] at hT hF1
  have m16 := (el_kept (hF1.arr hg6 skm_2 (by decide))).trans m10
  have hF := hF.more hF1 (by decide)
  try dsimp only at hw15
  obtain ⟨h17, ⟨ix18, hix18, m19⟩⟩ := hw15
  have m20 := (el_kept (hF1.arr hg6 skm_2 (by decide))).trans m19
  refine lv_iadd hx hb dX12_seepOf_26 ?_
  refine lv_topi (fun x21 ex21 => ?_)
  have t22 : x21.toInt = 96 + r14.toInt := ti_add ex21 (by decide) rfl (by omega) (by omega)
  refine tw_iald (i := x21) hx hb hK hT hg6 shm_2 rfl (vin_t (a := x21.toInt) rfl (by omega) (by omega)) dX12_seepOf_27 (fun v9 m23 h9 => ?_)
  obtain ⟨x24, rfl, gx24, kx24⟩ := (gp_at h9 (w_hgt (by have q9 := tn_of (show x21.toInt = x21.toInt from rfl) (show (0 : Int) ≤ x21.toInt from by omega); omega)))
  refine va_mmax hx hb (hml.trans hl.1.symm) hown (ht_at hts 28 rfl) (ht_at hts 29 rfl) (ht_at hts 30 rfl) (ht_at hts 31 rfl) (Nat.le_of_ble_eq_true rfl) (Nat.le_of_ble_eq_true rfl) (Nat.le_of_ble_eq_true rfl) (Nat.le_of_ble_eq_true rfl) dX12_seepOf_28 ?_
  refine lv_topi (fun x25 ex25 => ?_)
  have t26 : r8.toInt ≤ x25.toInt ∧ x24.toInt ≤ x25.toInt ∧ (x25.toInt = r8.toInt ∨ x25.toInt = x24.toInt) := mx_f ex25 rfl rfl
  refine lv_isub hx hb dX12_seepOf_31 ?_
  refine lv_topi (fun x27 ex27 => ?_)
  refine va_mmax hx hb (hml.trans hl.1.symm) hown (ht_at hts 28 rfl) (ht_at hts 29 rfl) (ht_at hts 30 rfl) (ht_at hts 31 rfl) (Nat.le_of_ble_eq_true rfl) (Nat.le_of_ble_eq_true rfl) (Nat.le_of_ble_eq_true rfl) (Nat.le_of_ble_eq_true rfl) dX12_seepOf_32 ?_
  refine lv_topi (fun x28 ex28 => ?_)
  have t29 : 0 ≤ x28.toInt ∧ x27.toInt ≤ x28.toInt ∧ (x28.toInt = 0 ∨ x28.toInt = x27.toInt) := mx_f ex28 (by decide) rfl
  refine lv_istore (lv' := [(4, .int x28), (3, .int r1), (0, .ref o0), (1, .int wk), (2, .int ou)]) hx hb dX12_seepOf_35 hl (by decide) rfl (fun ls hl => ?_)
  refine lv_aload_n hx hb dX12_seepOf_37 rfl (lv_at hl 2 rfl) ?_
  refine tw_get hx hb hts bF_X12 hown hK hT hr_o0 shm_0 rfl 1 (by decide) (ht_at hts 1 rfl) (fun _ h9 => h9) dX12_seepOf_38 (fun v9 m30 h9 => ?_)
  obtain ⟨rfl, hg31⟩ := h9 _ rfl
  refine lv_bipush (v := 96) hx hb dX12_seepOf_41 (by decide) ?_
  refine lv_aload_n hx hb dX12_seepOf_43 rfl (lv_at hl 2 rfl) ?_
  refine lv_iload_n hx hb dX12_seepOf_44 rfl (lv_at hl 3 rfl) ?_
  refine lv_iconst (v := 1) hx hb dX12_seepOf_45 (by decide) ?_
  have hFc := gA_free hG hA hS
  refine va_calli (va_runV (As := [.int wk, .int 1]) (rest := [.int 96, .ref (q 1)]) ⟨hx, hb, hml, hown, hts⟩ (s_of1 l dC dI kA adK adV G H q wZ wN wH wB wC wL wK wU wV PI im PM PT lS lB lE lN o0 wk hT hr_o0 (by have q8 := ti_all wk; omega) hgz hgn hgh hgb hgc hgi hgu) (cwV 2 hts (goodIn_app (goodIn_r _ [7, 8, 9, 6] rfl (by decide +kernel)) (goodIn_ca (goodIn_r _ [1, 2, 3, 4, 5, 6] rfl (by decide +kernel)) (bs_in _ _))) rfl rfl rfl (by decide +kernel) ⟨(Nat.le_of_ble_eq_true rfl), (Nat.le_of_ble_eq_true rfl)⟩) ⟨fun a U g mk q => by obtain ⟨q0, q1, qK, qE⟩ := q; exact ⟨q0, q1, va_K.moved (u := U) (U := U.calling g mk a) (Vm.Alike.refl U.vm) qK, EVS.blind g mk a qE⟩, gH_rc hK hT hr_o0 shm_0 rfl, fun U hU hW => ⟨rfl, hU, va_K.moved hW.alike hK, hE.call hS hFc hU hW⟩⟩ rfl rfl hl.1 rfl (lv_room (Nat.le_of_ble_eq_true rfl)) dX12_seepOf_46 ⟨(Nat.le_of_ble_eq_true rfl), (Nat.le_of_ble_eq_true rfl)⟩) hS (fun q _ h => hFc q h) hFc (fun r32 u t H locs ht hvm hw33 hB _ _ hS => ?_)
  obtain ⟨hT, hF1⟩ := hB
  rw [ht] at hT hF1
  have m34 := (el_kept (hF1.arr hg6 skm_2 (by decide))).trans m16
  have m35 := (el_kept (hF1.arr hg6 skm_2 (by decide))).trans m20
  have m36 := (el_kept (hF1.arr hg6 skm_2 (by decide))).trans m23
  have hF := hF.more hF1 (by decide)
  try dsimp only at hw33
  obtain ⟨h37, ⟨ix38, hix38, m39⟩⟩ := hw33
  have m40 := (el_kept (hF1.arr hg6 skm_2 (by decide))).trans m39
  obtain rfl : r14 = r32 := (el_same m40 m35 (by have q8 := (show ix18.toInt = ix18.toInt from rfl); omega)).symm
  refine lv_iadd hx hb dX12_seepOf_49 ?_
  refine lv_topi (fun x41 ex41 => ?_)
  have t42 : x41.toInt = 96 + r14.toInt := ti_add ex41 (by decide) rfl (by omega) (by omega)
  refine tw_iald (i := x41) hx hb hK hT hg6 shm_2 rfl (vin_t (a := x41.toInt) rfl (by omega) (by omega)) dX12_seepOf_50 (fun v9 m43 h9 => ?_)
  obtain ⟨x44, rfl, gx44, kx44⟩ := (gp_at h9 (w_hgt (by have q9 := tn_of (show x41.toInt = x41.toInt from rfl) (show (0 : Int) ≤ x41.toInt from by omega); omega)))
  obtain rfl : x24 = x44 := (el_same m43 m36 (show x41.toInt = x21.toInt from by rw []; try omega)).symm
  refine lv_istore (lv' := [(5, .int x24), (4, .int x28), (3, .int r1), (0, .ref o0), (1, .int wk), (2, .int ou)]) hx hb dX12_seepOf_51 hl (by decide) rfl (fun ls hl => ?_)
  refine lv_iconst (v := 0) hx hb dX12_seepOf_53 (by decide) ?_
  refine lv_istore (lv' := [(6, .int 0), (5, .int x24), (4, .int x28), (3, .int r1), (0, .ref o0), (1, .int wk), (2, .int ou)]) hx hb dX12_seepOf_54 hl (by decide) rfl (fun ls hl => ?_)
  refine lv_iconst (v := 0) hx hb dX12_seepOf_56 (by decide) ?_
  refine lv_istore (lv' := [(7, .int 0), (6, .int 0), (5, .int x24), (4, .int x28), (3, .int r1), (0, .ref o0), (1, .int wk), (2, .int ou)]) hx hb dX12_seepOf_57 hl (by decide) rfl (fun ls hl => ?_)
  have jn199 : ∀ (z192 : Int32), ∀ (z194 : Int32), ∀ (z195 : Int32), ((0 ≤ z192.toInt ∧ z192.toInt ≤ 6)) → ∀ (H : Heap) (locs : List Loc), gH (dC, dI) kA (SHm q (wP wZ wN wH wB wC wL wK wU wV) PI im PM PT lS lB lE lN) G H → gF (dC, dI) SKm G ([] : List (Nat × Nat)) s.heap H → va_S A s.heap H locs → el H (q 1) ix4.toNatClampNeg = some (.int r1) → el H (q 1) ix18.toNatClampNeg = some (.int r14) → el H (q 1) x21.toNatClampNeg = some (.int x24) → ∀ ls : Array Slot, lv_has ls 8 [(7, .int z192), (6, .int z194), (5, .int z195), (4, .int x28), (3, .int r1), (0, .ref o0), (1, .int wk), (2, .int ou)] → W p l e (headSpec w_s_seepOf ({ frames := 3, cells := 0, slots := 0, locals := 66 })).room s m #[.ref o0, .int wk, .int ou] below meth c H locs 0 0 (MQ below (va_Qi (fun (r : Int32) (u : Unit) => (-21474836 ≤ r.toInt ∧ r.toInt ≤ 21474836)) (fun (_ : Unit) (t : State) => gH (dC, dI) kA (SHm q (wP wZ wN wH wB wC wL wK wU wV) PI im PM PT lS lB lE lN) G t.heap ∧ gF (dC, dI) SKm G ([] : List (Nat × Nat)) s.heap t.heap) A) #[.ref o0, .int wk, .int ou] s 0 0 A) (F0 m 118 ls []) := by
    intro z192 z194 z195 h193 H locs hT hF hS m196 m197 m198 ls hl
    refine lv_iload hx hb dX12_seepOf_118 (lv_at hl 3 rfl) ?_
    refine lv_iload hx hb dX12_seepOf_120 (lv_at hl 1 rfl) ?_
    refine lv_imul hx hb dX12_seepOf_122 ?_
    refine lv_topi (fun x200 ex200 => ?_)
    refine lv_bipush (v := 100) hx hb dX12_seepOf_123 (by decide) ?_
    have t201 : -2147483648 ≤ x200.toInt ∧ x200.toInt ≤ 2147483647 := ti_all x200
    refine lv_idiv hx hb dX12_seepOf_125 (by decide) ?_
    refine lv_topi (fun x202 ex202 => ?_)
    have t203 : (0 ≤ x200.toInt ∧ x202.toInt = x200.toInt / 100) ∨ (x200.toInt < 0 ∧ x202.toInt = -((-x200.toInt) / 100)) := ti_divs ex202 rfl (by decide) (by decide)
    exact W.iret (v := x202) hx hb hr (fun t ht hW => ⟨⟨x202, (), rfl, (by exact (by have q8 := ti_all x202; omega)), by (try dsimp only); rw [ht]; exact ⟨hT, hF⟩⟩, hS.F ht⟩) hS.2.2 dX12_seepOf_126
  have key204 : ∀ (n204 i45 : Nat), i45 + n204 = 6 → 0 ≤ i45 → ∀ (z46 : Int32), ∀ (z47 : Int32), ∀ (H : Heap) (locs : List Loc), gH (dC, dI) kA (SHm q (wP wZ wN wH wB wC wL wK wU wV) PI im PM PT lS lB lE lN) G H → gF (dC, dI) SKm G ([] : List (Nat × Nat)) s.heap H → va_S A s.heap H locs → el H (q 1) ix4.toNatClampNeg = some (.int r1) → el H (q 1) ix18.toNatClampNeg = some (.int r14) → el H (q 1) x21.toNatClampNeg = some (.int x24) → ∀ ls : Array Slot, lv_has ls 8 [(7, .int (nI i45)), (6, .int z46), (5, .int z47), (4, .int x28), (3, .int r1), (0, .ref o0), (1, .int wk), (2, .int ou)] → W p l e (headSpec w_s_seepOf ({ frames := 3, cells := 0, slots := 0, locals := 66 })).room s m #[.ref o0, .int wk, .int ou] below meth c H locs 0 0 (MQ below (va_Qi (fun (r : Int32) (u : Unit) => (-21474836 ≤ r.toInt ∧ r.toInt ≤ 21474836)) (fun (_ : Unit) (t : State) => gH (dC, dI) kA (SHm q (wP wZ wN wH wB wC wL wK wU wV) PI im PM PT lS lB lE lN) G t.heap ∧ gF (dC, dI) SKm G ([] : List (Nat × Nat)) s.heap t.heap) A) #[.ref o0, .int wk, .int ou] s 0 0 A) (F0 m 59 ls []) := by
    intro n204
    induction n204 with
    | zero =>
      intro i45 hn204 hlo205 z46 z47 H locs hT hF hS m48 m49 m50 ls hl
      obtain rfl : 6 = i45 := by omega
      refine lv_iload hx hb dX12_seepOf_59 (lv_at hl 0 rfl) ?_
      refine lv_aload_n hx hb dX12_seepOf_61 rfl (lv_at hl 5 rfl) ?_
      refine lv_iload_n hx hb dX12_seepOf_62 rfl (lv_at hl 6 rfl) ?_
      refine lv_iconst (v := 4) hx hb dX12_seepOf_63 (by decide) ?_
      have hFc := gA_free hG hA hS
      refine va_calli (va_runV (As := [.int wk, .int 4]) (rest := [.int (nI 6)]) ⟨hx, hb, hml, hown, hts⟩ (s_of4 l dC dI kA adK adV G H q wZ wN wH wB wC wL wK wU wV PI im PM PT lS lB lE lN o0 wk hT hr_o0 (by have q8 := ti_all wk; omega) hgz hgn hgh hgb hgc hgi hgu) (cwV 2 hts (goodIn_app (goodIn_r _ [7, 8, 9, 6] rfl (by decide +kernel)) (goodIn_ca (goodIn_r _ [1, 2, 3, 4, 5, 6] rfl (by decide +kernel)) (bs_in _ _))) rfl rfl rfl (by decide +kernel) ⟨(Nat.le_of_ble_eq_true rfl), (Nat.le_of_ble_eq_true rfl)⟩) ⟨fun a U g mk q => by obtain ⟨q0, q1, qK, qE⟩ := q; exact ⟨q0, q1, va_K.moved (u := U) (U := U.calling g mk a) (Vm.Alike.refl U.vm) qK, EVS.blind g mk a qE⟩, gH_rc hK hT hr_o0 shm_0 rfl, fun U hU hW => ⟨rfl, hU, va_K.moved hW.alike hK, hE.call hS hFc hU hW⟩⟩ rfl rfl hl.1 rfl (lv_room (Nat.le_of_ble_eq_true rfl)) dX12_seepOf_64 ⟨(Nat.le_of_ble_eq_true rfl), (Nat.le_of_ble_eq_true rfl)⟩) hS (fun q _ h => hFc q h) hFc (fun r206 u t H locs ht hvm hw207 hB _ _ hS => ?_)
      obtain ⟨hT, hF1⟩ := hB
      rw [ht] at hT hF1
      have m208 := (el_kept (hF1.arr hg6 skm_2 (by decide))).trans m48
      have m209 := (el_kept (hF1.arr hg6 skm_2 (by decide))).trans m49
      have m210 := (el_kept (hF1.arr hg6 skm_2 (by decide))).trans m50
      have hF := hF.more hF1 (by decide)
      try dsimp only at hw207
      obtain ⟨h211, ⟨ix212, hix212, m213⟩⟩ := hw207
      refine lv_icmp_ge (tgt := 118) hx hb dX12_seepOf_67 (by decide) (fun c215 => ?_) (fun c215 => (by exfalso; have q9 : ((6 : Nat) : Int) < r206.toInt := ti_nle c215 rfl (nI_toInt (by omega)); omega))
      have t216 : r206.toInt ≤ ((6 : Nat) : Int) := ti_le c215 rfl (nI_toInt (by omega))
      exact jn199 (nI 6) z46 z47 (rg_t (a := ((6 : Nat) : Int)) (nI_toInt (by omega)) (by omega) (by omega)) _ _ hT hF hS m208 m209 m210 ls (lv_sub hl [0, 1, 2, 3, 4, 5, 6, 7] rfl)
    | succ n204 ih204 =>
      intro i45 hn204 hlo205 z46 z47 H locs hT hF hS m48 m49 m50 ls hl
      have hlt216 : i45 < 6 := by omega
      refine lv_iload hx hb dX12_seepOf_59 (lv_at hl 0 rfl) ?_
      refine lv_aload_n hx hb dX12_seepOf_61 rfl (lv_at hl 5 rfl) ?_
      refine lv_iload_n hx hb dX12_seepOf_62 rfl (lv_at hl 6 rfl) ?_
      refine lv_iconst (v := 4) hx hb dX12_seepOf_63 (by decide) ?_
      have hFc := gA_free hG hA hS
      refine va_calli (va_runV (As := [.int wk, .int 4]) (rest := [.int (nI i45)]) ⟨hx, hb, hml, hown, hts⟩ (s_of4 l dC dI kA adK adV G H q wZ wN wH wB wC wL wK wU wV PI im PM PT lS lB lE lN o0 wk hT hr_o0 (by have q8 := ti_all wk; omega) hgz hgn hgh hgb hgc hgi hgu) (cwV 2 hts (goodIn_app (goodIn_r _ [7, 8, 9, 6] rfl (by decide +kernel)) (goodIn_ca (goodIn_r _ [1, 2, 3, 4, 5, 6] rfl (by decide +kernel)) (bs_in _ _))) rfl rfl rfl (by decide +kernel) ⟨(Nat.le_of_ble_eq_true rfl), (Nat.le_of_ble_eq_true rfl)⟩) ⟨fun a U g mk q => by obtain ⟨q0, q1, qK, qE⟩ := q; exact ⟨q0, q1, va_K.moved (u := U) (U := U.calling g mk a) (Vm.Alike.refl U.vm) qK, EVS.blind g mk a qE⟩, gH_rc hK hT hr_o0 shm_0 rfl, fun U hU hW => ⟨rfl, hU, va_K.moved hW.alike hK, hE.call hS hFc hU hW⟩⟩ rfl rfl hl.1 rfl (lv_room (Nat.le_of_ble_eq_true rfl)) dX12_seepOf_64 ⟨(Nat.le_of_ble_eq_true rfl), (Nat.le_of_ble_eq_true rfl)⟩) hS (fun q _ h => hFc q h) hFc (fun r217 u t H locs ht hvm hw218 hB _ _ hS => ?_)
      obtain ⟨hT, hF1⟩ := hB
      rw [ht] at hT hF1
      have m219 := (el_kept (hF1.arr hg6 skm_2 (by decide))).trans m48
      have m220 := (el_kept (hF1.arr hg6 skm_2 (by decide))).trans m49
      have m221 := (el_kept (hF1.arr hg6 skm_2 (by decide))).trans m50
      have hF := hF.more hF1 (by decide)
      try dsimp only at hw218
      obtain ⟨h222, ⟨ix223, hix223, m224⟩⟩ := hw218
      have m225 := (el_kept (hF1.arr hg6 skm_2 (by decide))).trans m224
      refine lv_icmp_ge (tgt := 118) hx hb dX12_seepOf_67 (by decide) (fun c226 => ?_) (fun c226 => ?_)
      · have t227 : r217.toInt ≤ ((i45 : Nat) : Int) := ti_le c226 rfl (nI_toInt (by omega))
        exact jn199 (nI i45) z46 z47 (rg_t (a := ((i45 : Nat) : Int)) (nI_toInt (by omega)) (by omega) (by omega)) _ _ hT hF hS m219 m220 m221 ls (lv_sub hl [0, 1, 2, 3, 4, 5, 6, 7] rfl)
      · have t228 : ((i45 : Nat) : Int) < r217.toInt := ti_nle c226 rfl (nI_toInt (by omega))
        refine lv_iload hx hb dX12_seepOf_70 (lv_at hl 1 rfl) ?_
        refine lv_iload hx hb dX12_seepOf_72 (lv_at hl 2 rfl) ?_
        refine lv_iload_n hx hb dX12_seepOf_74 rfl (lv_at hl 7 rfl) ?_
        have jn249 : ∀ (z243 : Int32), ((0 ≤ z243.toInt ∧ z243.toInt ≤ 10)) → ∀ (H : Heap) (locs : List Loc), gH (dC, dI) kA (SHm q (wP wZ wN wH wB wC wL wK wU wV) PI im PM PT lS lB lE lN) G H → gF (dC, dI) SKm G ([] : List (Nat × Nat)) s.heap H → va_S A s.heap H locs → el H (q 1) ix4.toNatClampNeg = some (.int r1) → el H (q 1) ix18.toNatClampNeg = some (.int r14) → el H (q 1) x21.toNatClampNeg = some (.int x24) → el H (q 1) ix223.toNatClampNeg = some (.int r217) → ∀ ls : Array Slot, lv_has ls 8 [(7, .int (nI i45)), (6, .int z46), (5, .int z47), (4, .int x28), (3, .int r1), (0, .ref o0), (1, .int wk), (2, .int ou)] → W p l e (headSpec w_s_seepOf ({ frames := 3, cells := 0, slots := 0, locals := 66 })).room s m #[.ref o0, .int wk, .int ou] below meth c H locs 0 0 (MQ below (va_Qi (fun (r : Int32) (u : Unit) => (-21474836 ≤ r.toInt ∧ r.toInt ≤ 21474836)) (fun (_ : Unit) (t : State) => gH (dC, dI) kA (SHm q (wP wZ wN wH wB wC wL wK wU wV) PI im PM PT lS lB lE lN) G t.heap ∧ gF (dC, dI) SKm G ([] : List (Nat × Nat)) s.heap t.heap) A) #[.ref o0, .int wk, .int ou] s 0 0 A) (F0 m 95 ls [.int z243, .int z46]) := by
          intro z243 h244 H locs hT hF hS m245 m246 m247 m248 ls hl
          refine lv_iadd hx hb dX12_seepOf_95 ?_
          refine lv_topi (fun x250 ex250 => ?_)
          refine lv_istore (lv' := [(6, .int x250), (7, .int (nI i45)), (5, .int z47), (4, .int x28), (3, .int r1), (0, .ref o0), (1, .int wk), (2, .int ou)]) hx hb dX12_seepOf_96 hl (by decide) rfl (fun ls hl => ?_)
          refine lv_iload hx hb dX12_seepOf_98 (lv_at hl 2 rfl) ?_
          refine lv_aload_n hx hb dX12_seepOf_100 rfl (lv_at hl 5 rfl) ?_
          refine lv_iload_n hx hb dX12_seepOf_101 rfl (lv_at hl 6 rfl) ?_
          refine lv_iconst (v := 5) hx hb dX12_seepOf_102 (by decide) ?_
          refine lv_iload hx hb dX12_seepOf_103 (lv_at hl 1 rfl) ?_
          refine lv_iadd hx hb dX12_seepOf_105 ?_
          refine lv_topi (fun x251 ex251 => ?_)
          obtain rfl : nI (5 + i45) = x251 := (ex251.trans (nI_add 5 i45)).symm
          have hFc := gA_free hG hA hS
          refine va_calli (va_runV (As := [.int wk, .int (nI (5 + i45))]) (rest := [.int z47]) ⟨hx, hb, hml, hown, hts⟩ (s_ofT l dC dI kA adK adV G H q wZ wN wH wB wC wL wK wU wV PI im PM PT lS lB lE lN o0 wk (nI (5 + i45)) hT hr_o0 (by have q8 := ti_all wk; omega) (rg_t (a := ((5 + i45 : Nat) : Int)) (nI_toInt (by omega)) (by omega) (by omega)) hgz hgn hgh hgb hgc hgi hgu) (cwV 2 hts (goodIn_app (goodIn_r _ [7, 8, 9, 6] rfl (by decide +kernel)) (goodIn_ca (goodIn_r _ [1, 2, 3, 4, 5, 6] rfl (by decide +kernel)) (bs_in _ _))) rfl rfl rfl (by decide +kernel) ⟨(Nat.le_of_ble_eq_true rfl), (Nat.le_of_ble_eq_true rfl)⟩) ⟨fun a U g mk q => by obtain ⟨q0, q1, qK, qE⟩ := q; exact ⟨q0, q1, va_K.moved (u := U) (U := U.calling g mk a) (Vm.Alike.refl U.vm) qK, EVS.blind g mk a qE⟩, gH_rc hK hT hr_o0 shm_0 rfl, fun U hU hW => ⟨rfl, hU, va_K.moved hW.alike hK, hE.call hS hFc hU hW⟩⟩ rfl rfl hl.1 rfl (lv_room (Nat.le_of_ble_eq_true rfl)) dX12_seepOf_106 ⟨(Nat.le_of_ble_eq_true rfl), (Nat.le_of_ble_eq_true rfl)⟩) hS (fun q _ h => hFc q h) hFc (fun r252 u t H locs ht hvm hw253 hB _ _ hS => ?_)
          obtain ⟨hT, hF1⟩ := hB
          rw [ht] at hT hF1
          have m254 := (el_kept (hF1.arr hg6 skm_2 (by decide))).trans m245
          have m255 := (el_kept (hF1.arr hg6 skm_2 (by decide))).trans m246
          have m256 := (el_kept (hF1.arr hg6 skm_2 (by decide))).trans m247
          have hF := hF.more hF1 (by decide)
          try dsimp only at hw253
          have ⟨ix258, hix258, m259⟩ := hw253
          have t260 : (nI (5 + i45)).toInt = ((5 + i45 : Nat) : Int) := nI_toInt (by omega)
          refine lv_iadd hx hb dX12_seepOf_109 ?_
          refine lv_topi (fun x262 ex262 => ?_)
          refine lv_istore (lv' := [(5, .int x262), (6, .int x250), (7, .int (nI i45)), (4, .int x28), (3, .int r1), (0, .ref o0), (1, .int wk), (2, .int ou)]) hx hb dX12_seepOf_110 hl (by decide) rfl (fun ls hl => ?_)
          refine lv_iinc (v := nI (i45 + 1)) (lv' := [(7, .int (nI (i45 + 1))), (5, .int x262), (6, .int x250), (4, .int x28), (3, .int r1), (0, .ref o0), (1, .int wk), (2, .int ou)]) hx hb dX12_seepOf_112 hl (k := 2) rfl (nI_add i45 1) (by decide) rfl (fun ls hl => ?_)
          refine lv_goto (tgt := 59) hx hb dX12_seepOf_115 (by decide) ?_
          exact ih204 (i45 + 1) (by omega) (by omega) x250 x262 _ _ hT hF hS m254 m255 m256 ls (lv_sub hl [0, 2, 1, 3, 4, 5, 6, 7] rfl)
        refine lv_icmp_ge (tgt := 94) hx hb dX12_seepOf_75 (by decide) (fun c263 => ?_) (fun c263 => ?_)
        · have t264 : ou.toInt ≤ z47.toInt := ti_le c263 rfl rfl
          refine lv_iconst (v := 0) hx hb dX12_seepOf_94 (by decide) ?_
          exact jn249 0 (rg_t (a := 0) (by decide) (by first | decide | omega) (by first | decide | omega)) _ _ hT hF hS m219 m220 m221 m225 ls (lv_sub hl [0, 1, 2, 3, 4, 5, 6, 7] rfl)
        · have t265 : z47.toInt < ou.toInt := ti_nle c263 rfl rfl
          refine lv_bipush (v := 10) hx hb dX12_seepOf_78 (by decide) ?_
          refine lv_aload_n hx hb dX12_seepOf_80 rfl (lv_at hl 5 rfl) ?_
          refine lv_iload_n hx hb dX12_seepOf_81 rfl (lv_at hl 6 rfl) ?_
          refine lv_bipush (v := 11) hx hb dX12_seepOf_82 (by decide) ?_
          refine lv_iload hx hb dX12_seepOf_84 (lv_at hl 0 rfl) ?_
          refine lv_iadd hx hb dX12_seepOf_86 ?_
          refine lv_topi (fun x266 ex266 => ?_)
          obtain rfl : nI (11 + i45) = x266 := (ex266.trans (nI_add 11 i45)).symm
          have hFc := gA_free hG hA hS
          refine va_calli (va_runV (As := [.int wk, .int (nI (11 + i45))]) (rest := [.int 10, .int z46]) ⟨hx, hb, hml, hown, hts⟩ (s_ofC l dC dI kA adK adV G H q wZ wN wH wB wC wL wK wU wV PI im PM PT lS lB lE lN o0 wk (nI (11 + i45)) hT hr_o0 (by have q8 := ti_all wk; omega) (rg_t (a := ((11 + i45 : Nat) : Int)) (nI_toInt (by omega)) (by omega) (by omega)) hgz hgn hgh hgb hgc hgi hgu) (cwV 2 hts (goodIn_app (goodIn_r _ [7, 8, 9, 6] rfl (by decide +kernel)) (goodIn_ca (goodIn_r _ [1, 2, 3, 4, 5, 6] rfl (by decide +kernel)) (bs_in _ _))) rfl rfl rfl (by decide +kernel) ⟨(Nat.le_of_ble_eq_true rfl), (Nat.le_of_ble_eq_true rfl)⟩) ⟨fun a U g mk q => by obtain ⟨q0, q1, qK, qE⟩ := q; exact ⟨q0, q1, va_K.moved (u := U) (U := U.calling g mk a) (Vm.Alike.refl U.vm) qK, EVS.blind g mk a qE⟩, gH_rc hK hT hr_o0 shm_0 rfl, fun U hU hW => ⟨rfl, hU, va_K.moved hW.alike hK, hE.call hS hFc hU hW⟩⟩ rfl rfl hl.1 rfl (lv_room (Nat.le_of_ble_eq_true rfl)) dX12_seepOf_87 ⟨(Nat.le_of_ble_eq_true rfl), (Nat.le_of_ble_eq_true rfl)⟩) hS (fun q _ h => hFc q h) hFc (fun r267 u t H locs ht hvm hw268 hB _ _ hS => ?_)
          obtain ⟨hT, hF1⟩ := hB
          rw [ht] at hT hF1
          have m269 := (el_kept (hF1.arr hg6 skm_2 (by decide))).trans m219
          have m270 := (el_kept (hF1.arr hg6 skm_2 (by decide))).trans m220
          have m271 := (el_kept (hF1.arr hg6 skm_2 (by decide))).trans m221
          have m272 := (el_kept (hF1.arr hg6 skm_2 (by decide))).trans m225
          have hF := hF.more hF1 (by decide)
          try dsimp only at hw268
          obtain ⟨h273, ⟨ix274, hix274, m275⟩⟩ := hw268
          have t276 : (nI (11 + i45)).toInt = ((11 + i45 : Nat) : Int) := nI_toInt (by omega)
          refine lv_isub hx hb dX12_seepOf_90 ?_
          refine lv_topi (fun x278 ex278 => ?_)
          have t279 : x278.toInt = 10 - r267.toInt := ti_sub ex278 (by decide) rfl (by omega) (by omega)
          refine lv_goto (tgt := 95) hx hb dX12_seepOf_91 (by decide) ?_
          exact jn249 x278 (by have q8 := ti_all x278; omega) _ _ hT hF hS m269 m270 m271 m272 ls (lv_sub hl [0, 1, 2, 3, 4, 5, 6, 7] rfl)
  exact key204 (6 - 0) 0 (by omega) (Nat.le_refl _) 0 x24 _ _ hT hF hS m34 m35 m36 ls (lv_sub hl [0, 1, 2, 3, 4, 5, 6, 7] rfl)
