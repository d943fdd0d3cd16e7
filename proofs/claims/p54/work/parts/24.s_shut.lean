def w_s_shut : List Cond := .code yX12_shut cX12_shut 2 (some .boolean) :: (HAppend.hAppend (α := List Cond) (β := List Cond) (γ := List Cond) [.fieldLink RX12 194 "SeaLandModel" "thrown" "I", .code yX12_noWork cX12_noWork 2 (some .boolean), .fieldLink RX12 9 "SeaLandModel" "world" "[I", .code yX12_in cX12_in 3 (some .boolean), .methodLink RX12 197 yX12_in, .static yX12_in, .initialized RX12, .methodLink RX12 269 yX12_noWork, .instanceMethod yX12_noWork, .selects RX12 yX12_noWork yX12_noWork, .code yX12_throwsIf cX12_throwsIf 3 (some .boolean), .methodLink RX12 224 yX12_throwsIf, .instanceMethod yX12_throwsIf, .selects RX12 yX12_throwsIf yX12_throwsIf, .code yX12_of cX12_of 3 (some .int), .code yX12_at cX12_at 2 (some .int), .methodLink RX12 214 yX12_at, .static yX12_at, .methodLink RX12 217 yX12_of, .instanceMethod yX12_of, .selects RX12 yX12_of yX12_of, .fieldLink RX12 238 "SeaLandModel" "rows" "I"] bs)
set_option maxHeartbeats 4000000 in
set_option maxRecDepth 100000 in
theorem s_shut (l : Launch) (dC : Nat → ClassId) (dI : Nat → Nat → Nat) (kA : Nat → ClassId) (adK adV : Nat → Nat) (G : gT) (H0 : Heap) (q : Nat → Nat) (wZ wN : Nat → Int) (wH wB wC : Int) (wL wK : Nat → Prop) (wU wV : Nat → Nat) (PI : Nat → Int → Prop) (im : Int) (PM PT : Nat → Int → Prop) (lS lB lE : Nat → Nat → Int → Prop) (lN : Nat → Int) (o0 : Nat) (p0 : Int32)  (hT : gH (dC, dI) kA (SHm q (wP wZ wN wH wB wC wL wK wU wV) PI im PM PT lS lB lE lN) G H0) (hr_o0 : G o0 = some 0) (hgz : ∀ i, 0 ≤ wZ i) (hgn : ∀ i, 6500000 ≤ wN i ∧ wN i ≤ 20200000) (hgh : 0 ≤ wH ∧ wH ≤ 40000) (hgb : 0 ≤ wB ∧ wB ≤ 3850000) (hgc : 0 ≤ wC ∧ wC ≤ 30) (hgi : 0 ≤ im ∧ im ≤ 1) (hgu : ∀ a t, G a = some (t + 1) → a = q t) : Met l yX12_shut w_s_shut ({ frames := 2, cells := 0, slots := 0, locals := 43 }) (va_Pc [.ref o0, .int p0] (fun U => U.heap = H0 ∧ va_K (dC, dI) vwCl (tyl kA) U ∧ EVS adK adV (gA G H0.size) U U.heap)) (va_Qi (fun (r : Int32) (u : Unit) => (0 ≤ r.toInt ∧ r.toInt ≤ 1)) (fun (_ : Unit) (t : State) => gH (dC, dI) kA (SHm q (wP wZ wN wH wB wC wL wK wU wV) PI im PM PT lS lB lE lN) G t.heap ∧ gF (dC, dI) SKm G ([(0, 0), (0, 9), (2, 0)] : List (Nat × Nat)) H0 t.heap) (gA G H0.size)) 0 0 (gA G H0.size) := by
  refine Met.ofW (cc := cX12_shut) (maxL := 2) (ret := (some .boolean)) (by decide) rfl ?_
  intro p e s m args below meth c s₁ B hml hv
  obtain ⟨rfl, hH0, hK, hE⟩ := hv
  have hx := B.exec
  have hb := B.bytes
  have hr := B.returns
  have hts := atoms_spec (ws := w_s_shut) B.pre
  have hown : s.vm.findClass RX12 = some m.cls := findClass_of_methodNamed B.named
  have hlocks := B.notSynchronized
  subst hH0
  generalize hAe : gA G s.heap.size = A at hE ⊢
  have hA : ∀ q : Nat, s.heap.size ≤ q → A q := fun q h => by rw [← hAe]; exact Or.inr h
  have hG := gA_of hAe
  have hS : va_S A s.heap s.heap [] := va_S.rf
  have hF : gF (dC, dI) SKm G ([(0, 0), (0, 9), (2, 0)] : List (Nat × Nat)) s.heap s.heap := gF.rf
  have hl := lv_entry ([.ref o0, .int p0]) (n := 2) (Nat.le_of_ble_eq_true rfl)
  rw [lg_entry_eq]
  generalize (lg_sl ([.ref o0, .int p0]) ++ List.replicate (2 - (lg_sl ([.ref o0, .int p0])).length) Slot.unset).toArray = ls at hl ⊢
  have hl : lv_has ls 2 [(0, .ref o0), (1, .int p0)] := hl
  refine lv_aload_n hx hb dX12_shut_0 rfl (lv_at hl 0 rfl) ?_
  refine lv_iconst (v := 0) hx hb dX12_shut_1 (by decide) ?_
  refine tw_put (v := .int 0) (ty := .int) hx hb hts bF_X12 tyX12 tyX12_ok nmX12 hown hK hT hG hS hr_o0 shm_0 rfl 0 (by decide) (ht_at hts 0 rfl) (fun _ h9 => h9) rfl (by decide +kernel) rfl rfl (gl_at rfl (gi_all _)) dX12_shut_2 (fun H locs hT oq m1 oj hS => ?_)
  have hF := hF.put hr_o0 skm_0 oq oj (by decide)
  refine lv_aload_n hx hb dX12_shut_5 rfl (lv_at hl 0 rfl) ?_
  refine lv_aload_n hx hb dX12_shut_6 rfl (lv_at hl 0 rfl) ?_
  refine lv_iload_n hx hb dX12_shut_7 rfl (lv_at hl 1 rfl) ?_
  have hFc := gA_free hG hA hS
  refine va_calli (va_runV (As := [.int p0]) (rest := [.ref o0]) ⟨hx, hb, hml, hown, hts⟩ (s_noWork l dC dI kA adK adV G H q wZ wN wH wB wC wL wK wU wV PI im PM PT lS lB lE lN o0 p0 hT hr_o0 hgz hgn hgh hgb hgc hgi hgu) (cwV 1 hts (goodIn_app (goodIn_r _ [8, 9, 10, 7] rfl (by decide +kernel)) (goodIn_ca (goodIn_r _ [2, 3, 4, 5, 6, 7] rfl (by decide +kernel)) (bs_in _ _))) rfl rfl rfl (by decide +kernel) ⟨(Nat.le_of_ble_eq_true rfl), (Nat.le_of_ble_eq_true rfl)⟩) ⟨fun a U g mk q => by obtain ⟨q0, q1, qK, qE⟩ := q; exact ⟨q0, q1, va_K.moved (u := U) (U := U.calling g mk a) (Vm.Alike.refl U.vm) qK, EVS.blind g mk a qE⟩, gH_rc hK hT hr_o0 shm_0 rfl, fun U hU hW => ⟨rfl, hU, va_K.moved hW.alike hK, hE.call hS hFc hU hW⟩⟩ rfl rfl hl.1 rfl (lv_room (Nat.le_of_ble_eq_true rfl)) dX12_shut_8 ⟨(Nat.le_of_ble_eq_true rfl), (Nat.le_of_ble_eq_true rfl)⟩) hS (fun q _ h => hFc q h) hFc (fun r2 u t H locs ht hvm hw3 hB _ _ hS => ?_)
  obtain ⟨hT, hF1⟩ := hB
  rw [ht] at hT hF1
  have hF := hF.more hF1 (by decide)
  try dsimp only at hw3
  obtain ⟨h5, hi6⟩ := hw3
  refine lv_iconst (v := 1) hx hb dX12_shut_11 (by decide) ?_
  have hFc := gA_free hG hA hS
  refine va_calli (va_runV (As := [.int r2, .int 1]) (rest := []) ⟨hx, hb, hml, hown, hts⟩ (s_throwsIf l dC dI kA adK adV G H q wZ wN wH wB wC wL wK wU wV PI im PM PT lS lB lE lN o0 r2 1 hT hr_o0 (by have q8 := ti_all r2; omega) hgz hgn hgh hgb hgc hgi hgu) (cwV 2 hts (goodIn_app (goodIn_r _ [12, 13, 14, 7] rfl (by decide +kernel)) (goodIn_ca (goodIn_r _ [11, 1] rfl (by decide +kernel)) (bs_in _ _))) rfl rfl rfl (by decide +kernel) ⟨(Nat.le_of_ble_eq_true rfl), (Nat.le_of_ble_eq_true rfl)⟩) ⟨fun a U g mk q => by obtain ⟨q0, q1, qK, qE⟩ := q; exact ⟨q0, q1, va_K.moved (u := U) (U := U.calling g mk a) (Vm.Alike.refl U.vm) qK, EVS.blind g mk a qE⟩, gH_rc hK hT hr_o0 shm_0 rfl, fun U hU hW => ⟨rfl, hU, va_K.moved hW.alike hK, hE.call hS hFc hU hW⟩⟩ rfl rfl hl.1 rfl (lv_room (Nat.le_of_ble_eq_true rfl)) dX12_shut_12 ⟨(Nat.le_of_ble_eq_true rfl), (Nat.le_of_ble_eq_true rfl)⟩) hS (fun q _ h => hFc q h) hFc (fun r7 u t H locs ht hvm hw8 hB _ _ hS => ?_)
  obtain ⟨hT, hF1⟩ := hB
  rw [ht] at hT hF1
  have hF := hF.more hF1 (by decide)
  try dsimp only at hw8
  obtain ⟨h10, hd11⟩ := hw8
  obtain rfl : r2 = r7 := hd11.symm
  refine lv_if_ne (tgt := 41) hx hb dX12_shut_15 (by decide) (fun c12 => ?_) (fun c12 => ?_)
  · have t13 : r2.toInt ≠ 0 := ti_ne c12 rfl (by decide)
    refine lv_iconst (v := 0) hx hb dX12_shut_41 (by decide) ?_
    exact W.zret (v := 0) hx hb hr (by decide) (fun t ht hW => ⟨⟨0, (), rfl, (by exact (rg_t (a := 0) (by decide) (by first | decide | omega) (by first | decide | omega))), by (try dsimp only); rw [ht]; exact ⟨hT, hF⟩⟩, hS.F ht⟩) hS.2.2 dX12_shut_42
  · have t14 : r2.toInt = 0 := ti_eq c12 rfl (by decide)
    have t15 : 0 ≤ p0.toInt ∧ p0.toInt ≤ 29 ∧ p0.toInt < wC := hi6 c12
    refine lv_aload_n hx hb dX12_shut_18 rfl (lv_at hl 0 rfl) ?_
    refine lv_aload_n hx hb dX12_shut_19 rfl (lv_at hl 0 rfl) ?_
    refine lv_iload_n hx hb dX12_shut_20 rfl (lv_at hl 1 rfl) ?_
    refine lv_iconst (v := 0) hx hb dX12_shut_21 (by decide) ?_
    have hFc := gA_free hG hA hS
    refine va_calli (va_runV (As := [.int p0, .int 0]) (rest := [.ref o0]) ⟨hx, hb, hml, hown, hts⟩ (s_of0 l dC dI kA adK adV G H q wZ wN wH wB wC wL wK wU wV PI im PM PT lS lB lE lN o0 p0 hT hr_o0 (by have q8 := ti_all p0; omega) hgz hgn hgh hgb hgc hgi hgu) (cwV 2 hts (goodIn_app (goodIn_r _ [19, 20, 21, 7] rfl (by decide +kernel)) (goodIn_ca (goodIn_r _ [15, 3, 16, 17, 18, 7] rfl (by decide +kernel)) (bs_in _ _))) rfl rfl rfl (by decide +kernel) ⟨(Nat.le_of_ble_eq_true rfl), (Nat.le_of_ble_eq_true rfl)⟩) ⟨fun a U g mk q => by obtain ⟨q0, q1, qK, qE⟩ := q; exact ⟨q0, q1, va_K.moved (u := U) (U := U.calling g mk a) (Vm.Alike.refl U.vm) qK, EVS.blind g mk a qE⟩, gH_rc hK hT hr_o0 shm_0 rfl, fun U hU hW => ⟨rfl, hU, va_K.moved hW.alike hK, hE.call hS hFc hU hW⟩⟩ rfl rfl hl.1 rfl (lv_room (Nat.le_of_ble_eq_true rfl)) dX12_shut_22 ⟨(Nat.le_of_ble_eq_true rfl), (Nat.le_of_ble_eq_true rfl)⟩) hS (fun q _ h => hFc q h) hFc (fun r16 u t H locs ht hvm hw17 hB _ _ hS => ?_)
    obtain ⟨hT, hF1⟩ := hB
    rw [ht] at hT hF1
    have hF := hF.more hF1 (by decide)
    try dsimp only at hw17
    have ⟨ix18, hix18, m19⟩ := hw17
    have hg20 : G (q 1) = some 2 := gx_of hT hr_o0 shm_0 (k := 1) (by decide) rfl
    have m21 := (el_kept (hF1.arr hg20 skm_2 (by decide))).trans m19
    refine lv_iconst (v := 1) hx hb dX12_shut_25 (by decide) ?_
    refine lv_icmp_eq (tgt := 33) hx hb dX12_shut_26 (by decide) (fun c22 => ?_) (fun c22 => ?_)
    · have t23 : r16.toInt = 1 := ti_eq c22 rfl (by decide)
      refine lv_iconst (v := 0) hx hb dX12_shut_33 (by decide) ?_
      refine lv_iconst (v := 2) hx hb dX12_shut_34 (by decide) ?_
      have hFc := gA_free hG hA hS
      refine va_calli (va_runV (As := [.int 0, .int 2]) (rest := []) ⟨hx, hb, hml, hown, hts⟩ (s_throwsIf l dC dI kA adK adV G H q wZ wN wH wB wC wL wK wU wV PI im PM PT lS lB lE lN o0 0 2 hT hr_o0 (rg_t (a := 0) (by decide) (by first | decide | omega) (by first | decide | omega)) hgz hgn hgh hgb hgc hgi hgu) (cwV 2 hts (goodIn_app (goodIn_r _ [12, 13, 14, 7] rfl (by decide +kernel)) (goodIn_ca (goodIn_r _ [11, 1] rfl (by decide +kernel)) (bs_in _ _))) rfl rfl rfl (by decide +kernel) ⟨(Nat.le_of_ble_eq_true rfl), (Nat.le_of_ble_eq_true rfl)⟩) ⟨fun a U g mk q => by obtain ⟨q0, q1, qK, qE⟩ := q; exact ⟨q0, q1, va_K.moved (u := U) (U := U.calling g mk a) (Vm.Alike.refl U.vm) qK, EVS.blind g mk a qE⟩, gH_rc hK hT hr_o0 shm_0 rfl, fun U hU hW => ⟨rfl, hU, va_K.moved hW.alike hK, hE.call hS hFc hU hW⟩⟩ rfl rfl hl.1 rfl (lv_room (Nat.le_of_ble_eq_true rfl)) dX12_shut_35 ⟨(Nat.le_of_ble_eq_true rfl), (Nat.le_of_ble_eq_true rfl)⟩) hS (fun q _ h => hFc q h) hFc (fun r24 u t H locs ht hvm hw25 hB _ _ hS => ?_)
      obtain ⟨hT, hF1⟩ := hB
      rw [ht] at hT hF1
      have m26 := (el_kept (hF1.arr hg20 skm_2 (by decide))).trans m21
      have hF := hF.more hF1 (by decide)
      try dsimp only at hw25
      obtain ⟨h27, hd28⟩ := hw25
      obtain rfl : (0 : Int32) = r24 := hd28.symm
      refine lv_if_eq (tgt := 43) hx hb dX12_shut_38 (by decide) (fun c29 => ?_) (fun c29 => absurd c29 (by decide))
      refine lv_aload_n hx hb dX12_shut_43 rfl (lv_at hl 0 rfl) ?_
      refine tw_get hx hb hts bF_X12 hown hK hT hr_o0 shm_0 rfl 1 (by decide) (ht_at hts 2 rfl) (fun _ h9 => h9) dX12_shut_44 (fun v9 m30 h9 => ?_)
      obtain ⟨rfl, hg31⟩ := h9 _ rfl
      refine lv_iload_n hx hb dX12_shut_47 rfl (lv_at hl 1 rfl) ?_
      refine lv_iconst (v := 0) hx hb dX12_shut_48 (by decide) ?_
      have hFc := gA_free hG hA hS
      refine va_calli (va_runS (As := [.int p0, .int 0]) (rest := [.ref (q 1)]) ⟨hx, hb, hml, hown, hts⟩ (s_at l dC dI kA adK adV G H q wZ wN wH wB wC wL wK wU wV PI im PM PT lS lB lE lN p0 0 hT (by have q8 := ti_all p0; omega) (rg_t (a := 0) (by decide) (by first | decide | omega) (by first | decide | omega)) hgz hgn hgh hgb hgc hgi hgu) (va_cwS 2 hts (goodIn_app (goodIn_r _ [17, 18, 7] rfl (by decide +kernel)) (goodIn_ca (goodIn_r _ [16] rfl (by decide +kernel)) (bs_in _ _))) rfl rfl rfl (by decide +kernel) ⟨(Nat.le_of_ble_eq_true rfl), (Nat.le_of_ble_eq_true rfl)⟩) ⟨fun a U g mk q => by obtain ⟨q0, q1, qK, qE⟩ := q; exact ⟨q0, q1, va_K.moved (u := U) (U := U.calling g mk a) (Vm.Alike.refl U.vm) qK, EVS.blind g mk a qE⟩, fun U hU hW => ⟨rfl, hU, va_K.moved hW.alike hK, hE.call hS hFc hU hW⟩⟩ rfl rfl hl.1 rfl (lv_room (Nat.le_of_ble_eq_true rfl)) dX12_shut_49 ⟨(Nat.le_of_ble_eq_true rfl), (Nat.le_of_ble_eq_true rfl)⟩) hS (fun q _ h => hFc q h) hFc (fun r32 u t H locs ht hvm hw33 hB _ _ hS => ?_)
      obtain ⟨hT, hF1⟩ := hB
      rw [ht] at hT hF1
      have m34 := (el_kept (hF1.arr hg20 skm_2 (by decide))).trans m26
      have hF := hF.more hF1 (by decide)
      try dsimp only at hw33
      obtain ⟨h35, hf36⟩ := hw33
      have t37 : (0 : Int32).toInt = 0 := by decide
      refine lv_iconst (v := 0) hx hb dX12_shut_52 (by decide) ?_
      refine tw_iast (i := r32) (x := 0) hx hb hK hT hG hS hg20 shm_2 rfl (vin_t (a := r32.toInt) rfl (by omega) (by omega)) (w_wk0 (by have q9 := tn_of (show r32.toInt = r32.toInt from rfl) (show (0 : Int) ≤ r32.toInt from by omega); omega) (wX_k (u := p0.toNatClampNeg) (wK_of hT hg20 (show ix18.toInt = 768 + 22 * p0.toInt from by have q9 := (show ix18.toInt = ix18.toInt from rfl); omega) (by omega) (by omega) (by omega) m34 (by omega)) (by have q9 := tn_of (show r32.toInt = r32.toInt from rfl) (by omega); have q8 := tn_of (i := p0) rfl (by omega); omega))) dX12_shut_53 (fun H locs hT oq m38 oi hS => ?_)
      have hF := hF.ast hg20 skm_2 oq (by decide)
      refine lv_aload_n hx hb dX12_shut_54 rfl (lv_at hl 0 rfl) ?_
      refine tw_get hx hb hts bF_X12 hown hK hT hr_o0 shm_0 rfl 1 (by decide) (ht_at hts 2 rfl) (fun _ h9 => h9) dX12_shut_55 (fun v9 m39 h9 => ?_)
      obtain ⟨rfl, hg40⟩ := h9 _ rfl
      refine lv_iload_n hx hb dX12_shut_58 rfl (lv_at hl 1 rfl) ?_
      refine lv_bipush (v := 17) hx hb dX12_shut_59 (by decide) ?_
      have hFc := gA_free hG hA hS
      refine va_calli (va_runS (As := [.int p0, .int 17]) (rest := [.ref (q 1)]) ⟨hx, hb, hml, hown, hts⟩ (s_at l dC dI kA adK adV G H q wZ wN wH wB wC wL wK wU wV PI im PM PT lS lB lE lN p0 17 hT (by have q8 := ti_all p0; omega) (rg_t (a := 17) (by decide) (by first | decide | omega) (by first | decide | omega)) hgz hgn hgh hgb hgc hgi hgu) (va_cwS 2 hts (goodIn_app (goodIn_r _ [17, 18, 7] rfl (by decide +kernel)) (goodIn_ca (goodIn_r _ [16] rfl (by decide +kernel)) (bs_in _ _))) rfl rfl rfl (by decide +kernel) ⟨(Nat.le_of_ble_eq_true rfl), (Nat.le_of_ble_eq_true rfl)⟩) ⟨fun a U g mk q => by obtain ⟨q0, q1, qK, qE⟩ := q; exact ⟨q0, q1, va_K.moved (u := U) (U := U.calling g mk a) (Vm.Alike.refl U.vm) qK, EVS.blind g mk a qE⟩, fun U hU hW => ⟨rfl, hU, va_K.moved hW.alike hK, hE.call hS hFc hU hW⟩⟩ rfl rfl hl.1 rfl (lv_room (Nat.le_of_ble_eq_true rfl)) dX12_shut_61 ⟨(Nat.le_of_ble_eq_true rfl), (Nat.le_of_ble_eq_true rfl)⟩) hS (fun q _ h => hFc q h) hFc (fun r41 u t H locs ht hvm hw42 hB _ _ hS => ?_)
      obtain ⟨hT, hF1⟩ := hB
      rw [ht] at hT hF1
      have hF := hF.more hF1 (by decide)
      try dsimp only at hw42
      obtain ⟨h44, hf45⟩ := hw42
      have t46 : (17 : Int32).toInt = 17 := by decide
      refine lv_iconst (v := 0) hx hb dX12_shut_64 (by decide) ?_
      refine tw_iast (i := r41) (x := 0) hx hb hK hT hG hS hg20 shm_2 rfl (vin_t (a := r41.toInt) rfl (by omega) (by omega)) (w_wk0 (by have q9 := tn_of (show r41.toInt = r41.toInt from rfl) (show (0 : Int) ≤ r41.toInt from by omega); omega) (wX_o (by have q9 := tn_of (show r41.toInt = r41.toInt from rfl) (show (0 : Int) ≤ r41.toInt from by omega); omega) (by omega))) dX12_shut_65 (fun H locs hT oq m47 oi hS => ?_)
      have hF := hF.ast hg20 skm_2 oq (by decide)
      refine lv_aload_n hx hb dX12_shut_66 rfl (lv_at hl 0 rfl) ?_
      refine lv_iconst (v := 0) hx hb dX12_shut_67 (by decide) ?_
      refine tw_put (v := .int 0) (ty := .int) hx hb hts bF_X12 tyX12 tyX12_ok nmX12 hown hK hT hG hS hr_o0 shm_0 rfl 9 (by decide) (ht_at hts 21 rfl) (fun _ h9 => h9) rfl (by decide +kernel) rfl rfl (gl_at rfl (gi_of (show (0 : Int32).toInt = 0 from (by decide)) (by first | decide | omega) (by first | decide | omega))) dX12_shut_68 (fun H locs hT oq m49 oj hS => ?_)
      have hF := hF.put hr_o0 skm_0 oq oj (by decide)
      refine lv_iconst (v := 1) hx hb dX12_shut_71 (by decide) ?_
      exact W.zret (v := 1) hx hb hr (by decide) (fun t ht hW => ⟨⟨1, (), rfl, (by exact (rg_t (a := 1) (by decide) (by first | decide | omega) (by first | decide | omega))), by (try dsimp only); rw [ht]; exact ⟨hT, hF⟩⟩, hS.F ht⟩) hS.2.2 dX12_shut_72
    · have t52 : r16.toInt ≠ 1 := ti_ne c22 rfl (by decide)
      refine lv_iconst (v := 1) hx hb dX12_shut_29 (by decide) ?_
      refine lv_goto (tgt := 34) hx hb dX12_shut_30 (by decide) ?_
      refine lv_iconst (v := 2) hx hb dX12_shut_34 (by decide) ?_
      have hFc := gA_free hG hA hS
      refine va_calli (va_runV (As := [.int 1, .int 2]) (rest := []) ⟨hx, hb, hml, hown, hts⟩ (s_throwsIf l dC dI kA adK adV G H q wZ wN wH wB wC wL wK wU wV PI im PM PT lS lB lE lN o0 1 2 hT hr_o0 (rg_t (a := 1) (by decide) (by first | decide | omega) (by first | decide | omega)) hgz hgn hgh hgb hgc hgi hgu) (cwV 2 hts (goodIn_app (goodIn_r _ [12, 13, 14, 7] rfl (by decide +kernel)) (goodIn_ca (goodIn_r _ [11, 1] rfl (by decide +kernel)) (bs_in _ _))) rfl rfl rfl (by decide +kernel) ⟨(Nat.le_of_ble_eq_true rfl), (Nat.le_of_ble_eq_true rfl)⟩) ⟨fun a U g mk q => by obtain ⟨q0, q1, qK, qE⟩ := q; exact ⟨q0, q1, va_K.moved (u := U) (U := U.calling g mk a) (Vm.Alike.refl U.vm) qK, EVS.blind g mk a qE⟩, gH_rc hK hT hr_o0 shm_0 rfl, fun U hU hW => ⟨rfl, hU, va_K.moved hW.alike hK, hE.call hS hFc hU hW⟩⟩ rfl rfl hl.1 rfl (lv_room (Nat.le_of_ble_eq_true rfl)) dX12_shut_35 ⟨(Nat.le_of_ble_eq_true rfl), (Nat.le_of_ble_eq_true rfl)⟩) hS (fun q _ h => hFc q h) hFc (fun r53 u t H locs ht hvm hw54 hB _ _ hS => ?_)
      obtain ⟨hT, hF1⟩ := hB
      rw [ht] at hT hF1
      have hF := hF.more hF1 (by decide)
      try dsimp only at hw54
      obtain ⟨h56, hd57⟩ := hw54
      obtain rfl : (1 : Int32) = r53 := hd57.symm
      refine lv_if_eq (tgt := 43) hx hb dX12_shut_38 (by decide) (fun c58 => absurd c58 (by decide)) (fun c58 => ?_)
      refine lv_iconst (v := 0) hx hb dX12_shut_41 (by decide) ?_
      exact W.zret (v := 0) hx hb hr (by decide) (fun t ht hW => ⟨⟨0, (), rfl, (by exact (rg_t (a := 0) (by decide) (by first | decide | omega) (by first | decide | omega))), by (try dsimp only); rw [ht]; exact ⟨hT, hF⟩⟩, hS.F ht⟩) hS.2.2 dX12_shut_42
