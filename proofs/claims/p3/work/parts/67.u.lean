def w_c_feedE : List Cond := .code yX11_feed cX11_feed 6 (some .int) :: (HAppend.hAppend (α := List Cond) (β := List Cond) (γ := List Cond) [.fieldLink RX11 47 "SeaLand" "taped" "I", .code yX11_feedOne cX11_feedOne 3 none, .fieldLink RX11 9 "SeaLand" "tape" "[I", .methodLink RX11 51 yX11_feedOne, .instanceMethod yX11_feedOne, .selects RX11 yX11_feedOne yX11_feedOne, .initialized RX11] bs2)
set_option maxHeartbeats 4000000 in
set_option maxRecDepth 100000 in
theorem c_feedE (l : Launch) (dC : Nat → ClassId) (dI : Nat → Nat → Nat) (kA : Nat → ClassId) (adK adV : Nat → Nat) (G : gT) (H0 : Heap) (nC nS : Int) (o0 : Nat) (p0 : Int32) (p1 : Int32) (p2 : Int32) (p3 : Int32) (p4 : Int32) (tn : Int32)  (hT : gH (dC, dI) kA (SHc nC nS) G H0) (hr_o0 : G o0 = some 14) (hm_tn : el H0 o0 (dI 14 7) = some (.int tn)) (hq0 : 0 ≤ tn.toInt ∧ tn.toInt ≤ 400) (hgC : 0 ≤ nC ∧ nC ≤ 40) (hgS : 0 ≤ nS ∧ nS ≤ 60) : Met l yX11_feed w_c_feedE ({ frames := 1, cells := 0, slots := 0, locals := 22 }) (va_Pc [.ref o0, .int p0, .int p1, .int p2, .int p3, .int p4] (fun U => U.heap = H0 ∧ va_K (dC, dI) vwCl (tyl kA) U ∧ EVC adK adV (gA G H0.size) U U.heap)) (va_Qi (fun (r : Int32) (u : Int32) => (-1 ≤ r.toInt ∧ r.toInt ≤ 400) ∧ ((tn.toInt ≤ 380 ∧ r.toInt = tn.toInt + 20 ∧ u.toInt = tn.toInt + 20) ∨ (380 < tn.toInt ∧ r.toInt = -1 ∧ u.toInt = tn.toInt))) (fun (t1 : Int32) (t : State) => gH (dC, dI) kA (SHc nC nS) G t.heap ∧ gF (dC, dI) SKc G ([(14, 7), (16, 0)] : List (Nat × Nat)) H0 t.heap ∧ el t.heap o0 (dI 14 7) = some (.int t1)) (gA G H0.size)) 0 0 (gA G H0.size) := by
  refine Met.ofW (cc := cX11_feed) (maxL := 6) (ret := (some .int)) (by decide) rfl ?_
  intro p e s m args below meth c s₁ B hml hv
  obtain ⟨rfl, hH0, hK, hE⟩ := hv
  have hx := B.exec
  have hb := B.bytes
  have hr := B.returns
  have hts := atoms_spec (ws := w_c_feedE) B.pre
  have hown : s.vm.findClass RX11 = some m.cls := findClass_of_methodNamed B.named
  have hlocks := B.notSynchronized
  subst hH0
  generalize hAe : gA G s.heap.size = A at hE ⊢
  have hA : ∀ q : Nat, s.heap.size ≤ q → A q := fun q h => by rw [← hAe]; exact Or.inr h
  have hG := gA_of hAe
  have hS : va_S A s.heap s.heap [] := va_S.rf
  have hF : gF (dC, dI) SKc G ([(14, 7), (16, 0)] : List (Nat × Nat)) s.heap s.heap := gF.rf
  have hl := lv_entry ([.ref o0, .int p0, .int p1, .int p2, .int p3, .int p4]) (n := 6) (Nat.le_of_ble_eq_true rfl)
  rw [lg_entry_eq]
  generalize (lg_sl ([.ref o0, .int p0, .int p1, .int p2, .int p3, .int p4]) ++ List.replicate (6 - (lg_sl ([.ref o0, .int p0, .int p1, .int p2, .int p3, .int p4])).length) Slot.unset).toArray = ls at hl ⊢
  have hl : lv_has ls 6 [(0, .ref o0), (1, .int p0), (2, .int p1), (3, .int p2), (4, .int p3), (5, .int p4)] := hl
  refine lv_aload_n hx hb dX11_feed_0 rfl (lv_at hl 0 rfl) ?_
  refine tw_getM (v := .int tn) hx hb hts bF2_X11 hown hK hT hr_o0 shc_14 rfl 7 (by decide) (ht_at2 hts 0 rfl) (fun _ h9 => h9) hm_tn dX11_feed_1 ?_
  refine lv_bipush (v := 20) hx hb dX11_feed_4 (by decide) ?_
  refine lv_iadd hx hb dX11_feed_6 ?_
  refine lv_topi (fun x1 ex1 => ?_)
  have t2 : x1.toInt = tn.toInt + 20 := ti_add ex1 rfl (by decide) (by omega) (by omega)
  refine lv_sipush (v := 400) hx hb dX11_feed_7 (by decide) ?_
  refine lv_icmp_le (tgt := 15) hx hb dX11_feed_10 (by decide) (fun c3 => ?_) (fun c3 => ?_)
  · have t4 : x1.toInt ≤ 400 := ti_le c3 rfl (by decide)
    refine lv_aload_n hx hb dX11_feed_15 rfl (lv_at hl 0 rfl) ?_
    refine lv_iload_n hx hb dX11_feed_16 rfl (lv_at hl 1 rfl) ?_
    have hFc := gA_free hG hA hS
    refine va_callv (va_runV (As := [.int p0]) (rest := []) ⟨hx, hb, hml, hown, hts⟩ (c_feedOne l dC dI kA adK adV G s.heap nC nS o0 p0 tn hT hr_o0 hm_tn (rg_t (a := tn.toInt) rfl (by have q8 := ti_all tn; omega) (by have q8 := ti_all tn; omega)) (by omega) (by omega)) (cwV 1 hts (goodIn_app (goodIn_r _ [4, 5, 6, 7] rfl (by decide +kernel)) (goodIn_ca (goodIn_r _ [2, 3, 1] rfl (by decide +kernel)) (bs2_in _ _))) rfl rfl rfl (by decide +kernel) ⟨(Nat.le_of_ble_eq_true rfl), (Nat.le_of_ble_eq_true rfl)⟩) ⟨fun a U g mk q => by obtain ⟨q0, q1, qK, qE⟩ := q; exact ⟨q0, q1, va_K.moved (u := U) (U := U.calling g mk a) (Vm.Alike.refl U.vm) qK, EVC.blind g mk a qE⟩, gH_recv hK hT hr_o0 shc_14 rfl, fun U hU hW => ⟨rfl, hU, va_K.moved hW.alike hK, hE.call hS hFc hU hW⟩⟩ rfl rfl hl.1 rfl (lv_room (Nat.le_of_ble_eq_true rfl)) dX11_feed_17 ⟨(Nat.le_of_ble_eq_true rfl), (Nat.le_of_ble_eq_true rfl)⟩) hS (fun q _ h => hFc q h) hFc (fun u t H locs ht hvm hw6 hB _ _ hS => ?_)
    obtain ⟨u7, rfl⟩ : ∃ z, z = u := ⟨_, rfl⟩
    obtain ⟨hT, hF1, m8⟩ := hB
    rw [ht] at hT hF1 m8
    have hF := hF.more hF1 (by decide)
    try dsimp only at hw6
    obtain ⟨h10, hf11⟩ := hw6
    refine lv_aload_n hx hb dX11_feed_20 rfl (lv_at hl 0 rfl) ?_
    refine lv_iload_n hx hb dX11_feed_21 rfl (lv_at hl 2 rfl) ?_
    have hFc := gA_free hG hA hS
    refine va_callv (va_runV (As := [.int p1]) (rest := []) ⟨hx, hb, hml, hown, hts⟩ (c_feedOne l dC dI kA adK adV G H nC nS o0 p1 u7 hT hr_o0 m8 (rg_t (a := u7.toInt) rfl (by have q8 := ti_all u7; omega) (by have q8 := ti_all u7; omega)) (by omega) (by omega)) (cwV 1 hts (goodIn_app (goodIn_r _ [4, 5, 6, 7] rfl (by decide +kernel)) (goodIn_ca (goodIn_r _ [2, 3, 1] rfl (by decide +kernel)) (bs2_in _ _))) rfl rfl rfl (by decide +kernel) ⟨(Nat.le_of_ble_eq_true rfl), (Nat.le_of_ble_eq_true rfl)⟩) ⟨fun a U g mk q => by obtain ⟨q0, q1, qK, qE⟩ := q; exact ⟨q0, q1, va_K.moved (u := U) (U := U.calling g mk a) (Vm.Alike.refl U.vm) qK, EVC.blind g mk a qE⟩, gH_recv hK hT hr_o0 shc_14 rfl, fun U hU hW => ⟨rfl, hU, va_K.moved hW.alike hK, hE.call hS hFc hU hW⟩⟩ rfl rfl hl.1 rfl (lv_room (Nat.le_of_ble_eq_true rfl)) dX11_feed_22 ⟨(Nat.le_of_ble_eq_true rfl), (Nat.le_of_ble_eq_true rfl)⟩) hS (fun q _ h => hFc q h) hFc (fun u t H locs ht hvm hw13 hB _ _ hS => ?_)
    obtain ⟨u14, rfl⟩ : ∃ z, z = u := ⟨_, rfl⟩
    obtain ⟨hT, hF1, m15⟩ := hB
    rw [ht] at hT hF1 m15
    have hF := hF.more hF1 (by decide)
    try dsimp only at hw13
    obtain ⟨h17, hf18⟩ := hw13
    refine lv_aload_n hx hb dX11_feed_25 rfl (lv_at hl 0 rfl) ?_
    refine lv_iload_n hx hb dX11_feed_26 rfl (lv_at hl 3 rfl) ?_
    have hFc := gA_free hG hA hS
    refine va_callv (va_runV (As := [.int p2]) (rest := []) ⟨hx, hb, hml, hown, hts⟩ (c_feedOne l dC dI kA adK adV G H nC nS o0 p2 u14 hT hr_o0 m15 (rg_t (a := u14.toInt) rfl (by have q8 := ti_all u14; omega) (by have q8 := ti_all u14; omega)) (by omega) (by omega)) (cwV 1 hts (goodIn_app (goodIn_r _ [4, 5, 6, 7] rfl (by decide +kernel)) (goodIn_ca (goodIn_r _ [2, 3, 1] rfl (by decide +kernel)) (bs2_in _ _))) rfl rfl rfl (by decide +kernel) ⟨(Nat.le_of_ble_eq_true rfl), (Nat.le_of_ble_eq_true rfl)⟩) ⟨fun a U g mk q => by obtain ⟨q0, q1, qK, qE⟩ := q; exact ⟨q0, q1, va_K.moved (u := U) (U := U.calling g mk a) (Vm.Alike.refl U.vm) qK, EVC.blind g mk a qE⟩, gH_recv hK hT hr_o0 shc_14 rfl, fun U hU hW => ⟨rfl, hU, va_K.moved hW.alike hK, hE.call hS hFc hU hW⟩⟩ rfl rfl hl.1 rfl (lv_room (Nat.le_of_ble_eq_true rfl)) dX11_feed_27 ⟨(Nat.le_of_ble_eq_true rfl), (Nat.le_of_ble_eq_true rfl)⟩) hS (fun q _ h => hFc q h) hFc (fun u t H locs ht hvm hw20 hB _ _ hS => ?_)
    obtain ⟨u21, rfl⟩ : ∃ z, z = u := ⟨_, rfl⟩
    obtain ⟨hT, hF1, m22⟩ := hB
    rw [ht] at hT hF1 m22
    have hF := hF.more hF1 (by decide)
    try dsimp only at hw20
    obtain ⟨h24, hf25⟩ := hw20
    refine lv_aload_n hx hb dX11_feed_30 rfl (lv_at hl 0 rfl) ?_
    refine lv_iload hx hb dX11_feed_31 (lv_at hl 4 rfl) ?_
    have hFc := gA_free hG hA hS
    refine va_callv (va_runV (As := [.int p3]) (rest := []) ⟨hx, hb, hml, hown, hts⟩ (c_feedOne l dC dI kA adK adV G H nC nS o0 p3 u21 hT hr_o0 m22 (rg_t (a := u21.toInt) rfl (by have q8 := ti_all u21; omega) (by have q8 := ti_all u21; omega)) (by omega) (by omega)) (cwV 1 hts (goodIn_app (goodIn_r _ [4, 5, 6, 7] rfl (by decide +kernel)) (goodIn_ca (goodIn_r _ [2, 3, 1] rfl (by decide +kernel)) (bs2_in _ _))) rfl rfl rfl (by decide +kernel) ⟨(Nat.le_of_ble_eq_true rfl), (Nat.le_of_ble_eq_true rfl)⟩) ⟨fun a U g mk q => by obtain ⟨q0, q1, qK, qE⟩ := q; exact ⟨q0, q1, va_K.moved (u := U) (U := U.calling g mk a) (Vm.Alike.refl U.vm) qK, EVC.blind g mk a qE⟩, gH_recv hK hT hr_o0 shc_14 rfl, fun U hU hW => ⟨rfl, hU, va_K.moved hW.alike hK, hE.call hS hFc hU hW⟩⟩ rfl rfl hl.1 rfl (lv_room (Nat.le_of_ble_eq_true rfl)) dX11_feed_33 ⟨(Nat.le_of_ble_eq_true rfl), (Nat.le_of_ble_eq_true rfl)⟩) hS (fun q _ h => hFc q h) hFc (fun u t H locs ht hvm hw27 hB _ _ hS => ?_)
    obtain ⟨u28, rfl⟩ : ∃ z, z = u := ⟨_, rfl⟩
    obtain ⟨hT, hF1, m29⟩ := hB
    rw [ht] at hT hF1 m29
    have hF := hF.more hF1 (by decide)
    try dsimp only at hw27
    obtain ⟨h31, hf32⟩ := hw27
    refine lv_aload_n hx hb dX11_feed_36 rfl (lv_at hl 0 rfl) ?_
    refine lv_iload hx hb dX11_feed_37 (lv_at hl 5 rfl) ?_
    have hFc := gA_free hG hA hS
    refine va_callv (va_runV (As := [.int p4]) (rest := []) ⟨hx, hb, hml, hown, hts⟩ (c_feedOne l dC dI kA adK adV G H nC nS o0 p4 u28 hT hr_o0 m29 (rg_t (a := u28.toInt) rfl (by have q8 := ti_all u28; omega) (by have q8 := ti_all u28; omega)) (by omega) (by omega)) (cwV 1 hts (goodIn_app (goodIn_r _ [4, 5, 6, 7] rfl (by decide +kernel)) (goodIn_ca (goodIn_r _ [2, 3, 1] rfl (by decide +kernel)) (bs2_in _ _))) rfl rfl rfl (by decide +kernel) ⟨(Nat.le_of_ble_eq_true rfl), (Nat.le_of_ble_eq_true rfl)⟩) ⟨fun a U g mk q => by obtain ⟨q0, q1, qK, qE⟩ := q; exact ⟨q0, q1, va_K.moved (u := U) (U := U.calling g mk a) (Vm.Alike.refl U.vm) qK, EVC.blind g mk a qE⟩, gH_recv hK hT hr_o0 shc_14 rfl, fun U hU hW => ⟨rfl, hU, va_K.moved hW.alike hK, hE.call hS hFc hU hW⟩⟩ rfl rfl hl.1 rfl (lv_room (Nat.le_of_ble_eq_true rfl)) dX11_feed_39 ⟨(Nat.le_of_ble_eq_true rfl), (Nat.le_of_ble_eq_true rfl)⟩) hS (fun q _ h => hFc q h) hFc (fun u t H locs ht hvm hw34 hB _ _ hS => ?_)
    obtain ⟨u35, rfl⟩ : ∃ z, z = u := ⟨_, rfl⟩
    obtain ⟨hT, hF1, m36⟩ := hB
    rw [ht] at hT hF1 m36
    have hF := hF.more hF1 (by decide)
    try dsimp only at hw34
    obtain ⟨h38, hf39⟩ := hw34
    refine lv_aload_n hx hb dX11_feed_42 rfl (lv_at hl 0 rfl) ?_
    refine tw_getM (v := .int u35) hx hb hts bF2_X11 hown hK hT hr_o0 shc_14 rfl 7 (by decide) (ht_at2 hts 0 rfl) (fun _ h9 => h9) m36 dX11_feed_43 ?_
    exact W.iret (v := u35) hx hb hr (fun t ht hW => ⟨⟨u35, u35, rfl, (by exact ⟨(rg_t (a := u35.toInt) rfl (by have q8 := ti_all u35; omega) (by have q8 := ti_all u35; omega)), (by omega)⟩), by (try dsimp only); rw [ht]; exact ⟨hT, hF, m36⟩⟩, hS.F ht⟩) hS.2.2 dX11_feed_46
  · have t40 : 400 < x1.toInt := ti_nle c3 rfl (by decide)
    refine lv_iconst (v := (-1)) hx hb dX11_feed_13 (by decide) ?_
    exact W.iret (v := (-1)) hx hb hr (fun t ht hW => ⟨⟨(-1), tn, rfl, (by exact ⟨(rg_t (a := (-1)) (by decide) (by omega) (by omega)), (by have : (-1 : Int32).toInt = (-1) := (by decide); omega)⟩), by (try dsimp only); rw [ht]; exact ⟨hT, hF, hm_tn⟩⟩, hS.F ht⟩) hS.2.2 dX11_feed_14
def w_c_endE : List Cond := .code yX11_end cX11_end 2 (some .boolean) :: (HAppend.hAppend (α := List Cond) (β := List Cond) (γ := List Cond) [.fieldLink RX11 47 "SeaLand" "taped" "I"] bs2)
set_option maxHeartbeats 4000000 in
set_option maxRecDepth 100000 in
theorem c_endE (l : Launch) (dC : Nat → ClassId) (dI : Nat → Nat → Nat) (kA : Nat → ClassId) (adK adV : Nat → Nat) (G : gT) (H0 : Heap) (nC nS : Int) (o0 : Nat) (p0 : Int32) (tn : Int32)  (hT : gH (dC, dI) kA (SHc nC nS) G H0) (hr_o0 : G o0 = some 14) (hm_tn : el H0 o0 (dI 14 7) = some (.int tn)) (hq0 : 0 ≤ tn.toInt ∧ tn.toInt ≤ 400) (hgC : 0 ≤ nC ∧ nC ≤ 40) (hgS : 0 ≤ nS ∧ nS ≤ 60) : Met l yX11_end w_c_endE ({ frames := 0, cells := 0, slots := 0, locals := 0 }) (va_Pc [.ref o0, .int p0] (fun U => U.heap = H0 ∧ va_K (dC, dI) vwCl (tyl kA) U ∧ EVC adK adV (gA G H0.size) U U.heap)) (va_Qi (fun (r : Int32) (u : Int32) => (0 ≤ r.toInt ∧ r.toInt ≤ 1) ∧ ((0 ≤ p0.toInt ∧ p0.toInt ≤ tn.toInt ∧ r.toInt = 1 ∧ u.toInt = p0.toInt) ∨ (¬ (0 ≤ p0.toInt ∧ p0.toInt ≤ tn.toInt) ∧ r.toInt = 0 ∧ u.toInt = tn.toInt))) (fun (t1 : Int32) (t : State) => gH (dC, dI) kA (SHc nC nS) G t.heap ∧ gF (dC, dI) SKc G ([(14, 7)] : List (Nat × Nat)) H0 t.heap ∧ el t.heap o0 (dI 14 7) = some (.int t1)) (gA G H0.size)) 0 0 (gA G H0.size) := by
  refine Met.ofW (cc := cX11_end) (maxL := 2) (ret := (some .boolean)) (by decide) rfl ?_
  intro p e s m args below meth c s₁ B hml hv
  obtain ⟨rfl, hH0, hK, hE⟩ := hv
  have hx := B.exec
  have hb := B.bytes
  have hr := B.returns
  have hts := atoms_spec (ws := w_c_endE) B.pre
  have hown : s.vm.findClass RX11 = some m.cls := findClass_of_methodNamed B.named
  have hlocks := B.notSynchronized
  subst hH0
  generalize hAe : gA G s.heap.size = A at hE ⊢
  have hA : ∀ q : Nat, s.heap.size ≤ q → A q := fun q h => by rw [← hAe]; exact Or.inr h
  have hG := gA_of hAe
  have hS : va_S A s.heap s.heap [] := va_S.rf
  have hF : gF (dC, dI) SKc G ([(14, 7)] : List (Nat × Nat)) s.heap s.heap := gF.rf
  have hl := lv_entry ([.ref o0, .int p0]) (n := 2) (Nat.le_of_ble_eq_true rfl)
  rw [lg_entry_eq]
  generalize (lg_sl ([.ref o0, .int p0]) ++ List.replicate (2 - (lg_sl ([.ref o0, .int p0])).length) Slot.unset).toArray = ls at hl ⊢
  have hl : lv_has ls 2 [(0, .ref o0), (1, .int p0)] := hl
  refine lv_iload_n hx hb dX11_end_0 rfl (lv_at hl 1 rfl) ?_
  have t1 : -2147483648 ≤ p0.toInt ∧ p0.toInt ≤ 2147483647 := ti_all p0
  refine lv_if_lt (tgt := 12) hx hb dX11_end_1 (by decide) (fun c2 => ?_) (fun c2 => ?_)
  · have t3 : p0.toInt < 0 := ti_lt c2 rfl (by decide)
    refine lv_iconst (v := 0) hx hb dX11_end_12 (by decide) ?_
    exact W.zret (v := 0) hx hb hr (by decide) (fun t ht hW => ⟨⟨0, tn, rfl, (by exact ⟨(rg_t (a := 0) (by decide) (by omega) (by omega)), (by have : (0 : Int32).toInt = 0 := (by decide); omega)⟩), by (try dsimp only); rw [ht]; exact ⟨hT, hF, hm_tn⟩⟩, hS.F ht⟩) hS.2.2 dX11_end_13
  · have t4 : 0 ≤ p0.toInt := ti_nlt c2 rfl (by decide)
    refine lv_iload_n hx hb dX11_end_4 rfl (lv_at hl 1 rfl) ?_
    refine lv_aload_n hx hb dX11_end_5 rfl (lv_at hl 0 rfl) ?_
    refine tw_getM (v := .int tn) hx hb hts bF2_X11 hown hK hT hr_o0 shc_14 rfl 7 (by decide) (ht_at2 hts 0 rfl) (fun _ h9 => h9) hm_tn dX11_end_6 ?_
    refine lv_icmp_le (tgt := 14) hx hb dX11_end_9 (by decide) (fun c5 => ?_) (fun c5 => ?_)
    · have t6 : p0.toInt ≤ tn.toInt := ti_le c5 rfl rfl
      refine lv_aload_n hx hb dX11_end_14 rfl (lv_at hl 0 rfl) ?_
      refine lv_iload_n hx hb dX11_end_15 rfl (lv_at hl 1 rfl) ?_
      refine tw_put (v := .int p0) (ty := .int) hx hb hts bF2_X11 tyX11 tyX11_ok nmX11 hown hK hT hG hS hr_o0 shc_14 rfl 7 (by decide) (ht_at2 hts 0 rfl) (fun _ h9 => h9) rfl (by decide +kernel) rfl rfl (gl_at rfl (gi_of (show p0.toInt = p0.toInt from rfl) (by omega) (by omega))) dX11_end_16 (fun H locs hT oq m7 oj hS => ?_)
      have hF := hF.put hr_o0 skc_14 oq oj (by decide)
      refine lv_iconst (v := 1) hx hb dX11_end_19 (by decide) ?_
      exact W.zret (v := 1) hx hb hr (by decide) (fun t ht hW => ⟨⟨1, p0, rfl, (by exact ⟨(rg_t (a := 1) (by decide) (by omega) (by omega)), (by have : (1 : Int32).toInt = 1 := (by decide); omega)⟩), by (try dsimp only); rw [ht]; exact ⟨hT, hF, m7⟩⟩, hS.F ht⟩) hS.2.2 dX11_end_20
    · have t8 : tn.toInt < p0.toInt := ti_nle c5 rfl rfl
      refine lv_iconst (v := 0) hx hb dX11_end_12 (by decide) ?_
      exact W.zret (v := 0) hx hb hr (by decide) (fun t ht hW => ⟨⟨0, tn, rfl, (by exact ⟨(rg_t (a := 0) (by decide) (by omega) (by omega)), (by have : (0 : Int32).toInt = 0 := (by decide); omega)⟩), by (try dsimp only); rw [ht]; exact ⟨hT, hF, hm_tn⟩⟩, hS.F ht⟩) hS.2.2 dX11_end_13
def w_c_foundE : List Cond := .code yX11_found cX11_found 1 (some .int) :: (HAppend.hAppend (α := List Cond) (β := List Cond) (γ := List Cond) [.fieldLink RX11 30 "SeaLand" "board" "LSeaLand$Board;", .fieldLink RX11 9 "SeaLand" "tape" "[I", .fieldLink RX11 47 "SeaLand" "taped" "I", .code yX4_read cX4_read 4 (some .int), .methodLink RX4 46 Lib.Math.min.name, .static Lib.Math.min.name, .initialized "java/lang/Math", .code Lib.Math.min.name Lib.Math.min.code 2 (some .int), .code yX4_scan cX4_scan 6 none, .code yX4_thingEnd cX4_thingEnd 6 (some .int), .code yX4_isLetter cX4_isLetter 1 (some .boolean), .methodLink RX4 81 yX4_isLetter, .static yX4_isLetter, .initialized RX4, .code yX4_isDigit cX4_isDigit 1 (some .boolean), .methodLink RX4 84 yX4_isDigit, .static yX4_isDigit, .methodLink RX4 74 yX4_thingEnd, .static yX4_thingEnd, .fieldLink RX4 11 "SeaLand$Law" "things" "[I", .code yX4_thingAt cX4_thingAt 3 (some .int), .code yX4_signThing cX4_signThing 1 (some .int), .methodLink RX4 93 yX4_signThing, .static yX4_signThing, .code yX4_numberThing cX4_numberThing 5 (some .int), .methodLink RX4 90 yX4_numberThing, .static yX4_numberThing, .code yX4_wordThing cX4_wordThing 4 (some .int), .code yX4_factThing cX4_factThing 3 (some .int), .code yX4_wordIs cX4_wordIs 5 (some .boolean), .code yJ0_length_8abf5 cJ0_length_8abf5 1 (some .int), .fieldLink RJ0 9 "java/lang/String" "value" "[B", .code yJ0_coder_7d493 cJ0_coder_7d493 1 (some .byte), .fieldLink RJ0 38 "java/lang/String" "COMPACT_STRINGS" "Z", .fieldLink RJ0 15 "java/lang/String" "coder" "B", .methodLink RJ0 335 yJ0_coder_7d493, .instanceMethod yJ0_coder_7d493, .selects RJ0 yJ0_coder_7d493 yJ0_coder_7d493, .initialized RJ0, .methodLink RX4 155 yJ0_length_8abf5, .instanceMethod yJ0_length_8abf5, .selects RJ0 yJ0_length_8abf5 yJ0_length_8abf5, .code yJ0_charAt_5068e cJ0_charAt_5068e 2 (some .char), .code yJ0_isLatin1_aae02 cJ0_isLatin1_aae02 1 (some .boolean), .methodLink RJ0 492 yJ0_isLatin1_aae02, .instanceMethod yJ0_isLatin1_aae02, .selects RJ0 yJ0_isLatin1_aae02 yJ0_isLatin1_aae02, .code yJ1_charAt_3b067 cJ1_charAt_3b067 2 (some .char), .code yJ0_checkIndex_df160 cJ0_checkIndex_df160 2 none, .fieldLink RJ0 1053 "jdk/internal/util/Preconditions" "SIOOBE_FORMATTER" "Ljava/util/function/BiFunction;", .code yJ3_checkIndex_8e157 cJ3_checkIndex_8e157 3 (some .int), .methodLink RJ0 1059 yJ3_checkIndex_8e157, .static yJ3_checkIndex_8e157, .initialized RJ3, .methodLink RJ1 9 yJ0_checkIndex_df160, .static yJ0_checkIndex_df160, .methodLink RJ0 495 yJ1_charAt_3b067, .static yJ1_charAt_3b067, .initialized RJ1, .methodLink RX4 161 yJ0_charAt_5068e, .instanceMethod yJ0_charAt_5068e, .selects RJ0 yJ0_charAt_5068e yJ0_charAt_5068e, .methodLink RX4 105 yX4_wordIs, .static yX4_wordIs, .methodLink RX4 97 yX4_factThing, .static yX4_factThing, .code yX4_lineThing cX4_lineThing 4 (some .int), .methodLink RX4 100 yX4_lineThing, .static yX4_lineThing, .methodLink RX4 87 yX4_wordThing, .static yX4_wordThing, .methodLink RX4 78 yX4_thingAt, .static yX4_thingAt, .fieldLink RX4 15 "SeaLand$Law" "begins" "[I", .methodLink RX4 52 yX4_scan, .instanceMethod yX4_scan, .selects RX4 yX4_scan yX4_scan, .fieldLink RX4 56 "SeaLand$Law" "at" "I", .fieldLink RX4 60 "SeaLand$Law" "lines" "I", .fieldLink RX4 63 "SeaLand$Law" "stepped" "I", .code yX4_readLine cX4_readLine 3 (some .boolean), .code yX4_lineKind cX4_lineKind 1 (some .int), .methodLink RX4 165 yX4_lineKind, .static yX4_lineKind, .fieldLink RX4 18 "SeaLand$Law" "kinds" "[I", .fieldLink RX4 33 "SeaLand$Law" "stepFrom" "[I", .code yX4_take cX4_take 2 (some .boolean), .methodLink RX4 70 yX4_take, .instanceMethod yX4_take, .selects RX4 yX4_take yX4_take, .code yX4_readAny cX4_readAny 4 (some .boolean), .code yX4_readAll cX4_readAll 4 (some .boolean), .code yX4_readAtom cX4_readAtom 4 (some .boolean), .code yX4_readComparison cX4_readComparison 3 (some .boolean), .code yX4_readSum cX4_readSum 3 (some .boolean), .code yX4_readPart cX4_readPart 2 (some .boolean), .code yX4_addStep cX4_addStep 2 none, .fieldLink RX4 39 "SeaLand$Law" "steps" "[I", .methodLink RX4 179 yX4_addStep, .instanceMethod yX4_addStep, .selects RX4 yX4_addStep yX4_addStep, .methodLink RX4 192 yX4_readPart, .instanceMethod yX4_readPart, .selects RX4 yX4_readPart yX4_readPart, .methodLink RX4 189 yX4_readSum, .instanceMethod yX4_readSum, .selects RX4 yX4_readSum yX4_readSum, .methodLink RX4 186 yX4_readComparison, .instanceMethod yX4_readComparison, .selects RX4 yX4_readComparison yX4_readComparison, .methodLink RX4 183 yX4_readAtom, .instanceMethod yX4_readAtom, .selects RX4 yX4_readAtom yX4_readAtom, .methodLink RX4 176 yX4_readAll, .instanceMethod yX4_readAll, .selects RX4 yX4_readAll yX4_readAll, .methodLink RX4 173 yX4_readAny, .instanceMethod yX4_readAny, .selects RX4 yX4_readAny yX4_readAny, .fieldLink RX4 36 "SeaLand$Law" "stepTo" "[I", .fieldLink RX4 21 "SeaLand$Law" "firsts" "[I", .code yX4_takeNumber cX4_takeNumber 4 (some .boolean), .methodLink RX4 168 yX4_takeNumber, .instanceMethod yX4_takeNumber, .selects RX4 yX4_takeNumber yX4_takeNumber, .fieldLink RX4 24 "SeaLand$Law" "seconds" "[I", .fieldLink RX4 27 "SeaLand$Law" "froms" "[I", .fieldLink RX4 30 "SeaLand$Law" "tos" "[I", .constant RX4 172 99999, .methodLink RX4 66 yX4_readLine, .instanceMethod yX4_readLine, .selects RX4 yX4_readLine yX4_readLine, .methodLink RX11 266 yX4_read, .instanceMethod yX4_read, .selects RX4 yX4_read yX4_read, .code yX11_needNumbers cX11_needNumbers 1 none, .classLink RX11 547 "java/lang/IllegalArgumentException", .initialized "java/lang/IllegalArgumentException", .methodLink RX11 62 yX11_needNumbers, .static yX11_needNumbers, .initialized RX11, .code yX0_foundSpare cX0_foundSpare 2 (some .int), .fieldLink RX0 41 "SeaLand$Board" "force" "LSeaLand$Law;", .fieldLink RX0 48 "SeaLand$Board" "spare" "LSeaLand$Law;", .methodLink RX11 280 yX0_foundSpare, .instanceMethod yX0_foundSpare, .selects RX0 yX0_foundSpare yX0_foundSpare, .initialized RX0, .classLink RX11 69 "java/lang/IllegalStateException", .initialized "java/lang/IllegalStateException"] bs2)
set_option maxHeartbeats 4000000 in
set_option maxRecDepth 100000 in
theorem c_foundE (l : Launch) (hlt : l.stackTraces = false) (dC : Nat → ClassId) (dI : Nat → Nat → Nat) (kA : Nat → ClassId) (adK adV : Nat → Nat) (G : gT) (H0 : Heap) (nC nS : Int) (o0 : Nat) (tn : Int32)  (hT : gH (dC, dI) kA (SHc nC nS) G H0) (hr_o0 : G o0 = some 14) (hm_tn : el H0 o0 (dI 14 7) = some (.int tn)) (hq0 : 0 ≤ tn.toInt ∧ tn.toInt ≤ 400) (hgC : 0 ≤ nC ∧ nC ≤ 40) (hgS : 0 ≤ nS ∧ nS ≤ 60) : vx_Met l yX11_found w_c_foundE ({ frames := 27, cells := 1, slots := 6, locals := 614 }) (va_Pc [.ref o0] (fun U => U.heap = H0 ∧ va_K (dC, dI) vwCl (tyl kA) U ∧ EVC adK adV (gA G H0.size) U U.heap)) (va_Qi (fun (r : Int32) (u : Int32) => (0 ≤ r.toInt ∧ r.toInt ≤ 20) ∧ (u.toInt = 0)) (fun (t1 : Int32) (t : State) => gH (dC, dI) kA (SHc nC nS) G t.heap ∧ gF (dC, dI) SKc G ([(3, 7), (3, 9), (3, 10), (7, 11), (7, 12), (7, 13), (14, 7), (40, 0), (41, 0), (42, 0), (43, 0), (44, 0), (45, 0), (46, 0), (47, 0), (48, 0), (49, 0)] : List (Nat × Nat)) H0 t.heap ∧ el t.heap o0 (dI 14 7) = some (.int t1)) (gA G H0.size)) (vx_X (fun _ : Unit => True) (fun E _ t => (E = "java/lang/IllegalArgumentException" ∨ E = "java/lang/IllegalStateException") ∧ gH (dC, dI) kA (SHc nC nS) G t.heap ∧ gF (dC, dI) SKc G ([(3, 7), (3, 9), (3, 10), (7, 11), (7, 12), (7, 13), (14, 7), (40, 0), (41, 0), (42, 0), (43, 0), (44, 0), (45, 0), (46, 0), (47, 0), (48, 0), (49, 0)] : List (Nat × Nat)) H0 t.heap ∧ el t.heap o0 (dI 14 7) = some (.int 0)) (gA G H0.size)) 1 6 (gA G H0.size) := by
  refine vx_ofW (cc := cX11_found) (maxL := 1) (ret := (some .int)) (by decide) rfl ?_
  intro p e s m args below meth c s₁ B hml hnt hv
  obtain ⟨rfl, hH0, hK, hE⟩ := hv
  have hx := B.exec
  have hb := B.bytes
  have hr := B.returns
  have hts := atoms_spec (ws := w_c_foundE) B.pre
  have hown : s.vm.findClass RX11 = some m.cls := findClass_of_methodNamed B.named
  have hlocks := B.notSynchronized
  subst hH0
  generalize hAe : gA G s.heap.size = A at hE ⊢
  have hA : ∀ q : Nat, s.heap.size ≤ q → A q := fun q h => by rw [← hAe]; exact Or.inr h
  have hG := gA_of hAe
  have hS : va_S A s.heap s.heap [] := va_S.rf
  have hF : gF (dC, dI) SKc G ([(3, 7), (3, 9), (3, 10), (7, 11), (7, 12), (7, 13), (14, 7), (40, 0), (41, 0), (42, 0), (43, 0), (44, 0), (45, 0), (46, 0), (47, 0), (48, 0), (49, 0)] : List (Nat × Nat)) s.heap s.heap := gF.rf
  have hl := lv_entry ([.ref o0]) (n := 1) (Nat.le_of_ble_eq_true rfl)
  rw [lg_entry_eq]
  generalize (lg_sl ([.ref o0]) ++ List.replicate (1 - (lg_sl ([.ref o0])).length) Slot.unset).toArray = ls at hl ⊢
  have hl : lv_has ls 1 [(0, .ref o0)] := hl
  refine lv_aload_n hx hb dX11_found_0 rfl (lv_at hl 0 rfl) ?_
  refine tw_get hx hb hts bF2_X11 hown hK hT hr_o0 shc_14 rfl 3 (by decide) (ht_at2 hts 0 rfl) (fun _ h9 => h9) dX11_found_1 (fun v9 m1 h9 => ?_)
  obtain ⟨b2, rfl, hg3⟩ := h9 _ rfl
  refine lv_aload_n hx hb dX11_found_4 rfl (lv_at hl 0 rfl) ?_
  refine tw_getM (v := .ref b2) hx hb hts bF2_X11 hown hK hT hr_o0 shc_14 rfl 3 (by decide) (ht_at2 hts 0 rfl) (fun _ h9 => h9) m1 dX11_found_5 ?_
  refine tw_getN hx hb hts bF2_X0 hown hK hT hg3 shc_3 rfl 9 (by decide) (hE.nw 24 rfl) (fun _ h9 => h9) dX11_found_8 (fun v9 m4 h9 => ?_)
  obtain ⟨b5, rfl, hg6⟩ := h9 _ rfl
  refine lv_aload_n hx hb dX11_found_11 rfl (lv_at hl 0 rfl) ?_
  refine tw_get hx hb hts bF2_X11 hown hK hT hr_o0 shc_14 rfl 0 (by decide) (ht_at2 hts 1 rfl) (fun _ h9 => h9) dX11_found_12 (fun v9 m7 h9 => ?_)
  obtain ⟨b8, rfl, hg9⟩ := h9 _ rfl
  refine lv_aload_n hx hb dX11_found_15 rfl (lv_at hl 0 rfl) ?_
  refine tw_getM (v := .int tn) hx hb hts bF2_X11 hown hK hT hr_o0 shc_14 rfl 7 (by decide) (ht_at2 hts 2 rfl) (fun _ h9 => h9) hm_tn dX11_found_16 ?_
  have hFc := gA_free hG hA hS
  refine va_calli (va_runV (As := [.ref b8, .int tn]) (rest := [.ref b2]) ⟨hx, hb, hml, hown, hts⟩ (c_read l dC dI kA adK adV G s.heap nC nS b5 b8 tn hT hg9 hg6 (rg_t (a := tn.toInt) rfl (by have q8 := ti_all tn; omega) (by have q8 := ti_all tn; omega)) (by omega) (by omega)) (cwV 2 hts (goodIn_app (goodIn_r _ [133, 134, 135, 14] rfl (by decide +kernel)) (goodIn_ca (goodIn_r _ [4, 5, 6, 7, 8, 9, 10, 11, 12, 13, 14, 15, 16, 17, 18, 19, 20, 21, 22, 23, 24, 25, 26, 27, 28, 29, 30, 31, 32, 33, 34, 35, 36, 37, 38, 39, 40, 41, 42, 43, 44, 45, 46, 47, 48, 49, 50, 51, 52, 53, 54, 55, 56, 57, 58, 59, 60, 61, 62, 63, 64, 65, 66, 67, 68, 69, 70, 71, 72, 73, 74, 75, 76, 77, 78, 79, 80, 81, 82, 83, 84, 85, 86, 87, 88, 89, 90, 91, 92, 93, 94, 95, 96, 97, 98, 99, 100, 101, 102, 103, 104, 105, 106, 107, 108, 109, 110, 111, 112, 113, 114, 115, 116, 117, 118, 119, 120, 121, 122, 123, 124, 125, 126, 127, 128, 129, 130, 131, 132] rfl (by decide +kernel)) (bs2_in _ _))) rfl rfl rfl (by decide +kernel) ⟨(Nat.le_of_ble_eq_true rfl), (Nat.le_of_ble_eq_true rfl)⟩) ⟨fun a U g mk q => by obtain ⟨q0, q1, qK, qE⟩ := q; exact ⟨q0, q1, va_K.moved (u := U) (U := U.calling g mk a) (Vm.Alike.refl U.vm) qK, EVC.blind g mk a qE⟩, gH_recv hK hT hg6 shc_7 rfl, fun U hU hW => ⟨rfl, hU, va_K.moved hW.alike hK, hE.call hS hFc hU hW⟩⟩ rfl rfl hl.1 rfl (lv_room (Nat.le_of_ble_eq_true rfl)) dX11_found_19 ⟨(Nat.le_of_ble_eq_true rfl), (Nat.le_of_ble_eq_true rfl)⟩) hS (fun q _ h => hFc q h) hFc (fun r10 u t H locs ht hvm hw11 hB _ _ hS => ?_)
  obtain ⟨hT, hF1⟩ := hB
  rw [ht] at hT hF1
  have m12 := (hF1.fld hr_o0 skc_14 (k := 7) (by decide) (by decide)).trans hm_tn
  have m13 := (hF1.fld hr_o0 skc_14 (k := 3) (by decide) (by decide)).trans m1
  have m14 := (hF1.fld hg3 skc_3 (k := 9) (by decide) (by decide)).trans m4
  have m15 := (hF1.fld hr_o0 skc_14 (k := 0) (by decide) (by decide)).trans m7
  have hF := hF.more hF1 (by decide)
  try dsimp only at hw11
  refine tw_putN (v := .int r10) (ty := .int) hx hb hts bF2_X0 tyX0 tyX0_ok nmX0 hown hK hT hG hS hg3 shc_3 rfl 10 (by decide) (hE.nw 25 rfl) (fun _ h9 => h9) rfl (by decide +kernel) rfl rfl (gl_at rfl (gi_all _)) dX11_found_22 (fun H locs hT oq m16 oj hS => ?_)
  have hF := hF.put hg3 skc_3 oq oj (by decide)
  have m17 := (el_kept (oq _ (gne hr_o0 hg3 (by decide)))).trans m12
  have m18 := (el_kept (oq _ (gne hr_o0 hg3 (by decide)))).trans m13
  have m19 := (oj 9 (by decide) (by decide)).trans m14
  have m20 := (el_kept (oq _ (gne hr_o0 hg3 (by decide)))).trans m15
  refine lv_aload_n hx hb dX11_found_25 rfl (lv_at hl 0 rfl) ?_
  refine lv_iconst (v := 0) hx hb dX11_found_26 (by decide) ?_
  refine tw_put (v := .int 0) (ty := .int) hx hb hts bF2_X11 tyX11 tyX11_ok nmX11 hown hK hT hG hS hr_o0 shc_14 rfl 7 (by decide) (ht_at2 hts 2 rfl) (fun _ h9 => h9) rfl (by decide +kernel) rfl rfl (gl_at rfl (gi_of (show (0 : Int32).toInt = 0 from (by decide)) (by omega) (by omega))) dX11_found_27 (fun H locs hT oq m21 oj hS => ?_)
  have hF := hF.put hr_o0 skc_14 oq oj (by decide)
  have m22 := (oj 3 (by decide) (by decide)).trans m18
  have m23 := (el_kept (oq _ (gne hg3 hr_o0 (by decide)))).trans m19
  have m24 := (oj 0 (by decide) (by decide)).trans m20
  have m25 := (el_kept (oq _ (gne hg3 hr_o0 (by decide)))).trans m16
  refine lv_aload_n hx hb dX11_found_30 rfl (lv_at hl 0 rfl) ?_
  refine tw_getM (v := .ref b2) hx hb hts bF2_X11 hown hK hT hr_o0 shc_14 rfl 3 (by decide) (ht_at2 hts 0 rfl) (fun _ h9 => h9) m22 dX11_found_31 ?_
  refine tw_getNM (v := .int r10) hx hb hts bF2_X0 hown hK hT hg3 shc_3 rfl 10 (by decide) (hE.nw 25 rfl) (fun _ h9 => h9) m25 dX11_found_34 ?_
  refine lv_iconst (v := (-1)) hx hb dX11_found_37 (by decide) ?_
  have t26 : -2147483648 ≤ r10.toInt ∧ r10.toInt ≤ 2147483647 := ti_all r10
  refine lv_icmp_ne (tgt := 45) hx hb dX11_found_38 (by decide) (fun c27 => ?_) (fun c27 => ?_)
  · have t28 : r10.toInt ≠ (-1) := ti_ne c27 rfl (by decide)
    refine lv_iconst (v := 0) hx hb dX11_found_45 (by decide) ?_
    have hFc := gA_free hG hA hS
    refine vx_callN (vx_runS (As := [.int 0]) (rest := []) ⟨hx, hb, hml, hown, hts⟩ (c_needNumbers0 l hlt dC dI kA adK adV G H nC nS hT (by omega) (by omega)) (va_cwS 1 hts (goodIn_app (goodIn_r _ [139, 140, 141] rfl (by decide +kernel)) (goodIn_ca (goodIn_r _ [136, 137, 138] rfl (by decide +kernel)) (bs2_in _ _))) rfl rfl rfl (by decide +kernel) ⟨(Nat.le_of_ble_eq_true rfl), (Nat.le_of_ble_eq_true rfl)⟩) ⟨fun a U g mk q => by obtain ⟨q0, q1, qK, qE⟩ := q; exact ⟨q0, q1, va_K.moved (u := U) (U := U.calling g mk a) (Vm.Alike.refl U.vm) qK, EVC.blind g mk a qE⟩, fun U hU hW => ⟨rfl, hU, va_K.moved hW.alike hK, hE.call hS hFc hU hW⟩⟩ rfl rfl hl.1 rfl (lv_room (Nat.le_of_ble_eq_true rfl)) dX11_found_46 ⟨(Nat.le_of_ble_eq_true rfl), (Nat.le_of_ble_eq_true rfl)⟩) hS hFc (fun q _ h => hFc q h) (fun E ce q9 u t H locs ht hvm _ hw30 _ _ hS hce hcv hcl => ?_)
    obtain ⟨hw30, hTx, hFx⟩ := hw30; rw [ht] at hTx hFx
    exact vx_out (fun x h => (hnt x h).elim) hlocks hce hcv hcl (fun t2 h2 hW => ⟨(), trivial, ⟨((fun h9 => (Or.inl h9)) hw30), by rw [h2]; exact hTx, by rw [h2]; exact hF.more hFx (by decide), by rw [h2]; exact (hFx.fld hr_o0 skc_14 (k := 7) (by decide) (by decide)).trans m21⟩, hS.F h2⟩) hS.2.2 (by decide) (by decide)
  · have t31 : r10.toInt = (-1) := ti_eq c27 rfl (by decide)
    refine lv_iconst (v := 1) hx hb dX11_found_41 (by decide) ?_
    refine lv_goto (tgt := 46) hx hb dX11_found_42 (by decide) ?_
    have hFc := gA_free hG hA hS
    refine vx_callv (vx_runS (As := [.int 1]) (rest := []) ⟨hx, hb, hml, hown, hts⟩ (c_needNumbers1 l hlt dC dI kA adK adV G H nC nS hT (by omega) (by omega)) (va_cwS 1 hts (goodIn_app (goodIn_r _ [139, 140, 141] rfl (by decide +kernel)) (goodIn_ca (goodIn_r _ [136] rfl (by decide +kernel)) (bs2_in _ _))) rfl rfl rfl (by decide +kernel) ⟨(Nat.le_of_ble_eq_true rfl), (Nat.le_of_ble_eq_true rfl)⟩) ⟨fun a U g mk q => by obtain ⟨q0, q1, qK, qE⟩ := q; exact ⟨q0, q1, va_K.moved (u := U) (U := U.calling g mk a) (Vm.Alike.refl U.vm) qK, EVC.blind g mk a qE⟩, fun U hU hW => ⟨rfl, hU, va_K.moved hW.alike hK, hE.call hS hFc hU hW⟩⟩ rfl rfl hl.1 rfl (lv_room (Nat.le_of_ble_eq_true rfl)) dX11_found_46 ⟨(Nat.le_of_ble_eq_true rfl), (Nat.le_of_ble_eq_true rfl)⟩) hS (fun q _ h => hFc q h) hFc (fun q _ h => hFc q h) (fun E ce q9 u t H locs ht hvm _ hw33 _ _ hS hce hcv hcl => ?_) (fun u t H locs ht hvm hw33 hB _ _ hS => ?_)
    · obtain ⟨hw33, hTx, hFx⟩ := hw33; rw [ht] at hTx hFx
      exact vx_out (fun x h => (hnt x h).elim) hlocks hce hcv hcl (fun t2 h2 hW => ⟨(), trivial, ⟨((fun h9 => (Or.inl h9)) hw33), by rw [h2]; exact hTx, by rw [h2]; exact hF.more hFx (by decide), by rw [h2]; exact (hFx.fld hr_o0 skc_14 (k := 7) (by decide) (by decide)).trans m21⟩, hS.F h2⟩) hS.2.2 (by decide) (by decide)
    · obtain ⟨hT, hF1⟩ := hB
      rw [ht] at hT hF1
      have m34 := (hF1.fld hr_o0 skc_14 (k := 3) (by decide) (by decide)).trans m22
      have m35 := (hF1.fld hg3 skc_3 (k := 9) (by decide) (by decide)).trans m23
      have m36 := (hF1.fld hr_o0 skc_14 (k := 0) (by decide) (by decide)).trans m24
      have m37 := (hF1.fld hg3 skc_3 (k := 10) (by decide) (by decide)).trans m25
      have m38 := (hF1.fld hr_o0 skc_14 (k := 7) (by decide) (by decide)).trans m21
      have hF := hF.more hF1 (by decide)
      try dsimp only at hw33
      refine lv_aload_n hx hb dX11_found_49 rfl (lv_at hl 0 rfl) ?_
      refine tw_getM (v := .ref b2) hx hb hts bF2_X11 hown hK hT hr_o0 shc_14 rfl 3 (by decide) (ht_at2 hts 0 rfl) (fun _ h9 => h9) m34 dX11_found_50 ?_
      refine tw_getN hx hb hts bF2_X0 hown hK hT hg3 shc_3 rfl 15 (by decide) (hE.nw 26 rfl) (fun _ h9 => h9) dX11_found_53 (fun v9 m39 h9 => ?_)
      obtain ⟨x40, rfl, gx40, kx40⟩ := h9 _ rfl
      have t41 : -2147483648 ≤ x40.toInt ∧ x40.toInt ≤ 2147483647 := ti_all x40
      refine lv_if_le (tgt := 70) hx hb dX11_found_56 (by decide) (fun c42 => ?_) (fun c42 => ?_)
      · have t43 : x40.toInt ≤ 0 := ti_le c42 rfl (by decide)
        refine lv_aload_n hx hb dX11_found_70 rfl (lv_at hl 0 rfl) ?_
        refine tw_getM (v := .ref b2) hx hb hts bF2_X11 hown hK hT hr_o0 shc_14 rfl 3 (by decide) (ht_at2 hts 0 rfl) (fun _ h9 => h9) m34 dX11_found_71 ?_
        have hFc := gA_free hG hA hS
        refine va_calli (va_runV (As := []) (rest := []) ⟨hx, hb, hml, hown, hts⟩ (c_foundSpare l dC dI kA adK adV G H nC nS b2 hT hg3 (by omega) (by omega)) (cwV 0 hts (goodIn_app (goodIn_r _ [145, 146, 147, 148] rfl (by decide +kernel)) (goodIn_ca (goodIn_r _ [142, 143, 144] rfl (by decide +kernel)) (bs2_in _ _))) rfl rfl rfl (by decide +kernel) ⟨(Nat.le_of_ble_eq_true rfl), (Nat.le_of_ble_eq_true rfl)⟩) ⟨fun a U g mk q => by obtain ⟨q0, q1, qK, qE⟩ := q; exact ⟨q0, q1, va_K.moved (u := U) (U := U.calling g mk a) (Vm.Alike.refl U.vm) qK, EVC.blind g mk a qE⟩, gH_recv hK hT hg3 shc_3 rfl, fun U hU hW => ⟨rfl, hU, va_K.moved hW.alike hK, hE.call hS hFc hU hW⟩⟩ rfl rfl hl.1 rfl (lv_room (Nat.le_of_ble_eq_true rfl)) dX11_found_74 ⟨(Nat.le_of_ble_eq_true rfl), (Nat.le_of_ble_eq_true rfl)⟩) hS (fun q _ h => hFc q h) hFc (fun r44 u t H locs ht hvm hw45 hB _ _ hS => ?_)
        obtain ⟨hT, hF1⟩ := hB
        rw [ht] at hT hF1
        have m46 := (hF1.fld hr_o0 skc_14 (k := 3) (by decide) (by decide)).trans m34
        have m48 := (hF1.fld hr_o0 skc_14 (k := 0) (by decide) (by decide)).trans m36
        have m49 := (hF1.fld hg3 skc_3 (k := 10) (by decide) (by decide)).trans m37
        have m50 := (hF1.fld hr_o0 skc_14 (k := 7) (by decide) (by decide)).trans m38
        have m51 := (hF1.fld hg3 skc_3 (k := 15) (by decide) (by decide)).trans m39
        have hF := hF.more hF1 (by decide)
        try dsimp only at hw45
        have h52 := hw45
        refine W.widen (k := 1) (n := 6) (by decide) (by decide) ?_
        exact vx_ret (W.iret (v := r44) hx hb hr (fun t ht hW => ⟨⟨r44, (0 : Int32), rfl, (by exact ⟨(rg_t (a := r44.toInt) rfl (by have q8 := ti_all r44; omega) (by have q8 := ti_all r44; omega)), (by have : (0 : Int32).toInt = 0 := (by decide); omega)⟩), by (try dsimp only); rw [ht]; exact ⟨hT, hF, m50⟩⟩, hS.F ht⟩) hS.2.2 dX11_found_77)
      · have t53 : 0 < x40.toInt := ti_nle c42 rfl (by decide)
        obtain ⟨sa54, hsa54⟩ := hE.str 4 rfl
        exact vx_throwSW (names := ["java/lang/RuntimeException", "java/lang/Exception"]) hx hb hlt hown (by decide +kernel) (by decide +kernel) (ht_at2 hts 148 rfl) (ht_at2 hts 149 rfl) hsa54 (bX2_at3 hts hE) bX_ok3_69 hE.1.1.2.2.1 hE.1.1.2.2.2 hS (by rw [hml]; exact hl.1) dX11_found_59 dX11_found_62 dX11_found_63 dX11_found_66 dX11_found_69 (fun x h => (hnt x h).elim) (by decide) (Nat.le_of_ble_eq_true rfl) (Nat.le_of_ble_eq_true rfl) (Nat.le_of_ble_eq_true rfl) hlocks (fun t hW hz hq => ⟨(), trivial, ⟨(Or.inr rfl), hT.ext hq, hF.ext hT hq, (el_kept (hq _ (hT.lt hr_o0))).trans m38⟩, Nat.le_trans hS.1 hz, fun q h1 h2 => (hq q (Nat.lt_of_lt_of_le h1 hS.1)).trans (hS.2.1 q h1 h2)⟩) hS.2.2 (by decide) (by decide)
def w_l_foundE : List Cond := .codeWith yL_found cL_found 3 (some .int) [(0, 8, 11, 15), (0, 8, 14, 17)] :: (HAppend.hAppend (α := List Cond) (β := List Cond) (γ := List Cond) [.code yX11_found cX11_found 1 (some .int), .fieldLink RX11 30 "SeaLand" "board" "LSeaLand$Board;", .fieldLink RX11 9 "SeaLand" "tape" "[I", .fieldLink RX11 47 "SeaLand" "taped" "I", .code yX4_read cX4_read 4 (some .int), .methodLink RX4 46 Lib.Math.min.name, .static Lib.Math.min.name, .initialized "java/lang/Math", .code Lib.Math.min.name Lib.Math.min.code 2 (some .int), .code yX4_scan cX4_scan 6 none, .code yX4_thingEnd cX4_thingEnd 6 (some .int), .code yX4_isLetter cX4_isLetter 1 (some .boolean), .methodLink RX4 81 yX4_isLetter, .static yX4_isLetter, .initialized RX4, .code yX4_isDigit cX4_isDigit 1 (some .boolean), .methodLink RX4 84 yX4_isDigit, .static yX4_isDigit, .methodLink RX4 74 yX4_thingEnd, .static yX4_thingEnd, .fieldLink RX4 11 "SeaLand$Law" "things" "[I", .code yX4_thingAt cX4_thingAt 3 (some .int), .code yX4_signThing cX4_signThing 1 (some .int), .methodLink RX4 93 yX4_signThing, .static yX4_signThing, .code yX4_numberThing cX4_numberThing 5 (some .int), .methodLink RX4 90 yX4_numberThing, .static yX4_numberThing, .code yX4_wordThing cX4_wordThing 4 (some .int), .code yX4_factThing cX4_factThing 3 (some .int), .code yX4_wordIs cX4_wordIs 5 (some .boolean), .code yJ0_length_8abf5 cJ0_length_8abf5 1 (some .int), .fieldLink RJ0 9 "java/lang/String" "value" "[B", .code yJ0_coder_7d493 cJ0_coder_7d493 1 (some .byte), .fieldLink RJ0 38 "java/lang/String" "COMPACT_STRINGS" "Z", .fieldLink RJ0 15 "java/lang/String" "coder" "B", .methodLink RJ0 335 yJ0_coder_7d493, .instanceMethod yJ0_coder_7d493, .selects RJ0 yJ0_coder_7d493 yJ0_coder_7d493, .initialized RJ0, .methodLink RX4 155 yJ0_length_8abf5, .instanceMethod yJ0_length_8abf5, .selects RJ0 yJ0_length_8abf5 yJ0_length_8abf5, .code yJ0_charAt_5068e cJ0_charAt_5068e 2 (some .char), .code yJ0_isLatin1_aae02 cJ0_isLatin1_aae02 1 (some .boolean), .methodLink RJ0 492 yJ0_isLatin1_aae02, .instanceMethod yJ0_isLatin1_aae02, .selects RJ0 yJ0_isLatin1_aae02 yJ0_isLatin1_aae02, .code yJ1_charAt_3b067 cJ1_charAt_3b067 2 (some .char), .code yJ0_checkIndex_df160 cJ0_checkIndex_df160 2 none, .fieldLink RJ0 1053 "jdk/internal/util/Preconditions" "SIOOBE_FORMATTER" "Ljava/util/function/BiFunction;", .code yJ3_checkIndex_8e157 cJ3_checkIndex_8e157 3 (some .int), .methodLink RJ0 1059 yJ3_checkIndex_8e157, .static yJ3_checkIndex_8e157, .initialized RJ3, .methodLink RJ1 9 yJ0_checkIndex_df160, .static yJ0_checkIndex_df160, .methodLink RJ0 495 yJ1_charAt_3b067, .static yJ1_charAt_3b067, .initialized RJ1, .methodLink RX4 161 yJ0_charAt_5068e, .instanceMethod yJ0_charAt_5068e, .selects RJ0 yJ0_charAt_5068e yJ0_charAt_5068e, .methodLink RX4 105 yX4_wordIs, .static yX4_wordIs, .methodLink RX4 97 yX4_factThing, .static yX4_factThing, .code yX4_lineThing cX4_lineThing 4 (some .int), .methodLink RX4 100 yX4_lineThing, .static yX4_lineThing, .methodLink RX4 87 yX4_wordThing, .static yX4_wordThing, .methodLink RX4 78 yX4_thingAt, .static yX4_thingAt, .fieldLink RX4 15 "SeaLand$Law" "begins" "[I", .methodLink RX4 52 yX4_scan, .instanceMethod yX4_scan, .selects RX4 yX4_scan yX4_scan, .fieldLink RX4 56 "SeaLand$Law" "at" "I", .fieldLink RX4 60 "SeaLand$Law" "lines" "I", .fieldLink RX4 63 "SeaLand$Law" "stepped" "I", .code yX4_readLine cX4_readLine 3 (some .boolean), .code yX4_lineKind cX4_lineKind 1 (some .int), .methodLink RX4 165 yX4_lineKind, .static yX4_lineKind, .fieldLink RX4 18 "SeaLand$Law" "kinds" "[I", .fieldLink RX4 33 "SeaLand$Law" "stepFrom" "[I", .code yX4_take cX4_take 2 (some .boolean), .methodLink RX4 70 yX4_take, .instanceMethod yX4_take, .selects RX4 yX4_take yX4_take, .code yX4_readAny cX4_readAny 4 (some .boolean), .code yX4_readAll cX4_readAll 4 (some .boolean), .code yX4_readAtom cX4_readAtom 4 (some .boolean), .code yX4_readComparison cX4_readComparison 3 (some .boolean), .code yX4_readSum cX4_readSum 3 (some .boolean), .code yX4_readPart cX4_readPart 2 (some .boolean), .code yX4_addStep cX4_addStep 2 none, .fieldLink RX4 39 "SeaLand$Law" "steps" "[I", .methodLink RX4 179 yX4_addStep, .instanceMethod yX4_addStep, .selects RX4 yX4_addStep yX4_addStep, .methodLink RX4 192 yX4_readPart, .instanceMethod yX4_readPart, .selects RX4 yX4_readPart yX4_readPart, .methodLink RX4 189 yX4_readSum, .instanceMethod yX4_readSum, .selects RX4 yX4_readSum yX4_readSum, .methodLink RX4 186 yX4_readComparison, .instanceMethod yX4_readComparison, .selects RX4 yX4_readComparison yX4_readComparison, .methodLink RX4 183 yX4_readAtom, .instanceMethod yX4_readAtom, .selects RX4 yX4_readAtom yX4_readAtom, .methodLink RX4 176 yX4_readAll, .instanceMethod yX4_readAll, .selects RX4 yX4_readAll yX4_readAll, .methodLink RX4 173 yX4_readAny, .instanceMethod yX4_readAny, .selects RX4 yX4_readAny yX4_readAny, .fieldLink RX4 36 "SeaLand$Law" "stepTo" "[I", .fieldLink RX4 21 "SeaLand$Law" "firsts" "[I", .code yX4_takeNumber cX4_takeNumber 4 (some .boolean), .methodLink RX4 168 yX4_takeNumber, .instanceMethod yX4_takeNumber, .selects RX4 yX4_takeNumber yX4_takeNumber, .fieldLink RX4 24 "SeaLand$Law" "seconds" "[I", .fieldLink RX4 27 "SeaLand$Law" "froms" "[I", .fieldLink RX4 30 "SeaLand$Law" "tos" "[I", .constant RX4 172 99999, .methodLink RX4 66 yX4_readLine, .instanceMethod yX4_readLine, .selects RX4 yX4_readLine yX4_readLine, .methodLink RX11 266 yX4_read, .instanceMethod yX4_read, .selects RX4 yX4_read yX4_read, .code yX11_needNumbers cX11_needNumbers 1 none, .classLink RX11 547 "java/lang/IllegalArgumentException", .initialized "java/lang/IllegalArgumentException", .methodLink RX11 62 yX11_needNumbers, .static yX11_needNumbers, .initialized RX11, .code yX0_foundSpare cX0_foundSpare 2 (some .int), .fieldLink RX0 41 "SeaLand$Board" "force" "LSeaLand$Law;", .fieldLink RX0 48 "SeaLand$Board" "spare" "LSeaLand$Law;", .methodLink RX11 280 yX0_foundSpare, .instanceMethod yX0_foundSpare, .selects RX0 yX0_foundSpare yX0_foundSpare, .initialized RX0, .classLink RX11 69 "java/lang/IllegalStateException", .initialized "java/lang/IllegalStateException", .methodLink RL 83 yX11_found, .instanceMethod yX11_found, .selects RX11 yX11_found yX11_found, .classLink RL 15 "java/lang/IllegalArgumentException", .classLink RL 17 "java/lang/IllegalStateException"] bs2)
set_option maxHeartbeats 4000000 in
set_option maxRecDepth 100000 in
theorem l_foundE (l : Launch) (hlt : l.stackTraces = false) (dC : Nat → ClassId) (dI : Nat → Nat → Nat) (kA : Nat → ClassId) (adK adV : Nat → Nat) (G : gT) (H0 : Heap) (nC nS : Int) (o0 : Nat) (ou : Nat) (tn : Int32) (hT : gH (dC, dI) kA (SHc nC nS) G H0) (hr_o0 : G o0 = some 14) (hr_ou : G ou = some 98) (hm_tn : el H0 o0 (dI 14 7) = some (.int tn)) (hq0 : 0 ≤ tn.toInt ∧ tn.toInt ≤ 400) (hgC : 0 ≤ nC ∧ nC ≤ 40) (hgS : 0 ≤ nS ∧ nS ≤ 60) : Met l yL_found w_l_foundE ({ frames := 28, cells := 1, slots := 6, locals := 634 }) (va_Pc [.ref o0, .ref ou] (fun U => U.heap = H0 ∧ va_K (dC, dI) vwCl (tyl kA) U ∧ EVC adK adV (gA G H0.size) U U.heap ∧ NC U)) (va_Qi (fun (r : Int32) (u : Int32) => (0 ≤ r.toInt ∧ r.toInt ≤ 2) ∧ (u.toInt = 0)) (fun (t1 : Int32) (t : State) => gH (dC, dI) kA (SHc nC nS) G t.heap ∧ gF (dC, dI) SKc G ([(3, 7), (3, 9), (3, 10), (7, 11), (7, 12), (7, 13), (14, 7), (40, 0), (41, 0), (42, 0), (43, 0), (44, 0), (45, 0), (46, 0), (47, 0), (48, 0), (49, 0), (98, 0)] : List (Nat × Nat)) H0 t.heap ∧ el t.heap o0 (dI 14 7) = some (.int t1)) (gA G H0.size)) 1 6 (gA G H0.size) := by
  refine va_MetW (cc := cL_found) (maxL := 3) (ret := (some .int)) (by decide) rfl ?_
  intro p e s m args below meth c s₁ B hml hv
  obtain ⟨rfl, hH0, hK, hE, hN⟩ := hv
  have hx := B.exec
  have hb := B.bytes
  have hr := B.returns
  have hts := atoms_spec (ws := w_l_foundE) B.pre
  have hown : s.vm.findClass RL = some m.cls := findClass_of_methodNamed B.named
  have hlocks := B.notSynchronized
  have htab := vx_table (x := yL_found) B (hts _ List.mem_cons_self)
  subst hH0
  generalize hAe : gA G s.heap.size = A at hE ⊢
  have hA : ∀ q : Nat, s.heap.size ≤ q → A q := fun q h => by rw [← hAe]; exact Or.inr h
  have hG := gA_of hAe
  have hS : va_S A s.heap s.heap [] := va_S.rf
  have hF : gF (dC, dI) SKc G ([(3, 7), (3, 9), (3, 10), (7, 11), (7, 12), (7, 13), (14, 7), (40, 0), (41, 0), (42, 0), (43, 0), (44, 0), (45, 0), (46, 0), (47, 0), (48, 0), (49, 0), (98, 0)] : List (Nat × Nat)) s.heap s.heap := gF.rf
  have hl := lv_entry ([.ref o0, .ref ou]) (n := 3) (Nat.le_of_ble_eq_true rfl)
  rw [lg_entry_eq]
  generalize (lg_sl ([.ref o0, .ref ou]) ++ List.replicate (3 - (lg_sl ([.ref o0, .ref ou])).length) Slot.unset).toArray = ls at hl ⊢
  have hl : lv_has ls 3 [(0, .ref o0), (1, .ref ou)] := hl
  refine lv_aload_n hx hb dL_found_0 rfl (lv_at hl 1 rfl) ?_
  refine lv_iconst (v := 0) hx hb dL_found_1 (by decide) ?_
  refine lv_aload_n hx hb dL_found_2 rfl (lv_at hl 0 rfl) ?_
  have hFc := gA_free hG hA hS
  refine vx_calli (vx_runV (As := []) (rest := [.int 0, .ref ou]) ⟨hx, hb, hml, hown, hts⟩ (c_foundE l hlt dC dI kA adK adV G s.heap nC nS o0 tn hT hr_o0 hm_tn (rg_t (a := tn.toInt) rfl (by have q8 := ti_all tn; omega) (by have q8 := ti_all tn; omega)) (by omega) (by omega)) (cwV 0 hts (goodIn_app (goodIn_r _ [152, 153, 154, 142] rfl (by decide +kernel)) (goodIn_ca (goodIn_r _ [1, 2, 3, 4, 5, 6, 7, 8, 9, 10, 11, 12, 13, 14, 15, 16, 17, 18, 19, 20, 21, 22, 23, 24, 25, 26, 27, 28, 29, 30, 31, 32, 33, 34, 35, 36, 37, 38, 39, 40, 41, 42, 43, 44, 45, 46, 47, 48, 49, 50, 51, 52, 53, 54, 55, 56, 57, 58, 59, 60, 61, 62, 63, 64, 65, 66, 67, 68, 69, 70, 71, 72, 73, 74, 75, 76, 77, 78, 79, 80, 81, 82, 83, 84, 85, 86, 87, 88, 89, 90, 91, 92, 93, 94, 95, 96, 97, 98, 99, 100, 101, 102, 103, 104, 105, 106, 107, 108, 109, 110, 111, 112, 113, 114, 115, 116, 117, 118, 119, 120, 121, 122, 123, 124, 125, 126, 127, 128, 129, 130, 131, 132, 133, 134, 135, 136, 137, 138, 139, 140, 141, 142, 143, 144, 145, 146, 147, 148, 149, 150, 151] rfl (by decide +kernel)) (bs2_in _ _))) rfl rfl rfl (by decide +kernel) ⟨(Nat.le_of_ble_eq_true rfl), (Nat.le_of_ble_eq_true rfl)⟩) ⟨fun a U g mk q => by obtain ⟨q0, q1, qK, qE⟩ := q; exact ⟨q0, q1, va_K.moved (u := U) (U := U.calling g mk a) (Vm.Alike.refl U.vm) qK, EVC.blind g mk a qE⟩, gH_recv hK hT hr_o0 shc_14 rfl, fun U hU hW => ⟨rfl, hU, va_K.moved hW.alike hK, hE.call hS hFc hU hW⟩⟩ rfl rfl hl.1 rfl (lv_room (Nat.le_of_ble_eq_true rfl)) dL_found_3 ⟨(Nat.le_of_ble_eq_true rfl), (Nat.le_of_ble_eq_true rfl)⟩) hS (fun q _ h => hFc q h) hFc (fun q _ h => hFc q h) (fun E ce q9 u t H locs ht hvm _ hw2 _ _ hS hce hcv hcl => ?_) (fun r1 u t H locs ht hvm hw2 hB _ _ hS => ?_)
  · obtain ⟨hw2, hTx, hFx, hxm0⟩ := hw2; rw [ht] at hTx hFx hxm0
    have hT := hTx; have hF := hF.more hFx (by decide)
    rcases hw2 with rfl | rfl
    · refine vx_catch (E := "java/lang/IllegalArgumentException") hown [] ⟨0, 8, 11, 15⟩ [⟨0, 8, 14, 17⟩] (by rw [htab]; rfl) (fun z h => absurd h List.not_mem_nil) (by decide) (by decide) (ht_at2 hts 154 rfl) (va_Nw.use rfl (hE.1.1.2.1.2.1 _ (List.mem_of_getElem? (i := 1) rfl))) hce hcv hcl ?_
      refine lv_astore_n (lv' := [(2, .ref q9), (0, .ref o0), (1, .ref ou)]) hx hb dL_found_11 rfl hl (by decide) rfl (fun ls hl => ?_)
      refine lv_iconst (v := 1) hx hb dL_found_12 (by decide) ?_
      exact W.iret (v := 1) hx hb hr (fun t ht hW => ⟨⟨1, (0 : Int32), rfl, (by exact ⟨(rg_t (a := 1) (by decide) (by omega) (by omega)), (by have : (0 : Int32).toInt = 0 := (by decide); omega)⟩), by (try dsimp only); rw [ht]; exact ⟨hT, hF, hxm0⟩⟩, hS.F ht⟩) hS.2.2 dL_found_13
    · refine vx_catch (E := "java/lang/IllegalStateException") hown [⟨0, 8, 11, 15⟩] ⟨0, 8, 14, 17⟩ [] (by rw [htab]; rfl) (fun z h => by
          simp only [List.mem_cons, List.not_mem_nil, or_false] at h
          rcases h with rfl
          · exact Or.inr ⟨by decide, "java/lang/IllegalArgumentException", (ht_at2 hts 154 rfl), hN ("java/lang/IllegalStateException", "java/lang/IllegalArgumentException") (by decide +kernel)⟩) (by decide) (by decide) (ht_at2 hts 155 rfl) (va_Nw.use rfl (hE.1.1.2.1.2.1 _ (List.mem_of_getElem? (i := 3) rfl))) hce hcv hcl ?_
      refine lv_astore_n (lv' := [(2, .ref q9), (0, .ref o0), (1, .ref ou)]) hx hb dL_found_14 rfl hl (by decide) rfl (fun ls hl => ?_)
      refine lv_iconst (v := 2) hx hb dL_found_15 (by decide) ?_
      exact W.iret (v := 2) hx hb hr (fun t ht hW => ⟨⟨2, (0 : Int32), rfl, (by exact ⟨(rg_t (a := 2) (by decide) (by omega) (by omega)), (by have : (0 : Int32).toInt = 0 := (by decide); omega)⟩), by (try dsimp only); rw [ht]; exact ⟨hT, hF, hxm0⟩⟩, hS.F ht⟩) hS.2.2 dL_found_16
  · obtain ⟨u3, rfl⟩ : ∃ z, z = u := ⟨_, rfl⟩
    obtain ⟨hT, hF1, m4⟩ := hB
    rw [ht] at hT hF1 m4
    have hF := hF.more hF1 (by decide)
    try dsimp only at hw2
    obtain ⟨h6, hf7⟩ := hw2
    refine lv_i2l (v := r1.toInt64) hx hb dL_found_6 rfl ?_
    refine tw_last (i := 0)  hx hb hK hT hG hS hr_ou shc_98 rfl (by unfold vp_in; decide) ⟨_, rfl⟩ dL_found_7 (fun H locs hT oq m8 oi hS => ?_)
    have hF := hF.ast hr_ou skc_98 oq (by decide)
    have m9 := (el_kept (oq _ (gne hr_o0 hr_ou (by decide)))).trans m4
    refine lv_goto (tgt := 17) hx hb dL_found_8 (by decide) ?_
    refine lv_iconst (v := 0) hx hb dL_found_17 (by decide) ?_
    exact W.iret (v := 0) hx hb hr (fun t ht hW => ⟨⟨0, u3, rfl, (by exact ⟨(rg_t (a := 0) (by decide) (by omega) (by omega)), (by omega)⟩), by (try dsimp only); rw [ht]; exact ⟨hT, hF, m9⟩⟩, hS.F ht⟩) hS.2.2 dL_found_18
def w_c_proposeE : List Cond := .code yX11_propose cX11_propose 1 (some .int) :: (HAppend.hAppend (α := List Cond) (β := List Cond) (γ := List Cond) [.fieldLink RX11 30 "SeaLand" "board" "LSeaLand$Board;", .fieldLink RX11 9 "SeaLand" "tape" "[I", .fieldLink RX11 47 "SeaLand" "taped" "I", .code yX4_read cX4_read 4 (some .int), .methodLink RX4 46 Lib.Math.min.name, .static Lib.Math.min.name, .initialized "java/lang/Math", .code Lib.Math.min.name Lib.Math.min.code 2 (some .int), .code yX4_scan cX4_scan 6 none, .code yX4_thingEnd cX4_thingEnd 6 (some .int), .code yX4_isLetter cX4_isLetter 1 (some .boolean), .methodLink RX4 81 yX4_isLetter, .static yX4_isLetter, .initialized RX4, .code yX4_isDigit cX4_isDigit 1 (some .boolean), .methodLink RX4 84 yX4_isDigit, .static yX4_isDigit, .methodLink RX4 74 yX4_thingEnd, .static yX4_thingEnd, .fieldLink RX4 11 "SeaLand$Law" "things" "[I", .code yX4_thingAt cX4_thingAt 3 (some .int), .code yX4_signThing cX4_signThing 1 (some .int), .methodLink RX4 93 yX4_signThing, .static yX4_signThing, .code yX4_numberThing cX4_numberThing 5 (some .int), .methodLink RX4 90 yX4_numberThing, .static yX4_numberThing, .code yX4_wordThing cX4_wordThing 4 (some .int), .code yX4_factThing cX4_factThing 3 (some .int), .code yX4_wordIs cX4_wordIs 5 (some .boolean), .code yJ0_length_8abf5 cJ0_length_8abf5 1 (some .int), .fieldLink RJ0 9 "java/lang/String" "value" "[B", .code yJ0_coder_7d493 cJ0_coder_7d493 1 (some .byte), .fieldLink RJ0 38 "java/lang/String" "COMPACT_STRINGS" "Z", .fieldLink RJ0 15 "java/lang/String" "coder" "B", .methodLink RJ0 335 yJ0_coder_7d493, .instanceMethod yJ0_coder_7d493, .selects RJ0 yJ0_coder_7d493 yJ0_coder_7d493, .initialized RJ0, .methodLink RX4 155 yJ0_length_8abf5, .instanceMethod yJ0_length_8abf5, .selects RJ0 yJ0_length_8abf5 yJ0_length_8abf5, .code yJ0_charAt_5068e cJ0_charAt_5068e 2 (some .char), .code yJ0_isLatin1_aae02 cJ0_isLatin1_aae02 1 (some .boolean), .methodLink RJ0 492 yJ0_isLatin1_aae02, .instanceMethod yJ0_isLatin1_aae02, .selects RJ0 yJ0_isLatin1_aae02 yJ0_isLatin1_aae02, .code yJ1_charAt_3b067 cJ1_charAt_3b067 2 (some .char), .code yJ0_checkIndex_df160 cJ0_checkIndex_df160 2 none, .fieldLink RJ0 1053 "jdk/internal/util/Preconditions" "SIOOBE_FORMATTER" "Ljava/util/function/BiFunction;", .code yJ3_checkIndex_8e157 cJ3_checkIndex_8e157 3 (some .int), .methodLink RJ0 1059 yJ3_checkIndex_8e157, .static yJ3_checkIndex_8e157, .initialized RJ3, .methodLink RJ1 9 yJ0_checkIndex_df160, .static yJ0_checkIndex_df160, .methodLink RJ0 495 yJ1_charAt_3b067, .static yJ1_charAt_3b067, .initialized RJ1, .methodLink RX4 161 yJ0_charAt_5068e, .instanceMethod yJ0_charAt_5068e, .selects RJ0 yJ0_charAt_5068e yJ0_charAt_5068e, .methodLink RX4 105 yX4_wordIs, .static yX4_wordIs, .methodLink RX4 97 yX4_factThing, .static yX4_factThing, .code yX4_lineThing cX4_lineThing 4 (some .int), .methodLink RX4 100 yX4_lineThing, .static yX4_lineThing, .methodLink RX4 87 yX4_wordThing, .static yX4_wordThing, .methodLink RX4 78 yX4_thingAt, .static yX4_thingAt, .fieldLink RX4 15 "SeaLand$Law" "begins" "[I", .methodLink RX4 52 yX4_scan, .instanceMethod yX4_scan, .selects RX4 yX4_scan yX4_scan, .fieldLink RX4 56 "SeaLand$Law" "at" "I", .fieldLink RX4 60 "SeaLand$Law" "lines" "I", .fieldLink RX4 63 "SeaLand$Law" "stepped" "I", .code yX4_readLine cX4_readLine 3 (some .boolean), .code yX4_lineKind cX4_lineKind 1 (some .int), .methodLink RX4 165 yX4_lineKind, .static yX4_lineKind, .fieldLink RX4 18 "SeaLand$Law" "kinds" "[I", .fieldLink RX4 33 "SeaLand$Law" "stepFrom" "[I", .code yX4_take cX4_take 2 (some .boolean), .methodLink RX4 70 yX4_take, .instanceMethod yX4_take, .selects RX4 yX4_take yX4_take, .code yX4_readAny cX4_readAny 4 (some .boolean), .code yX4_readAll cX4_readAll 4 (some .boolean), .code yX4_readAtom cX4_readAtom 4 (some .boolean), .code yX4_readComparison cX4_readComparison 3 (some .boolean), .code yX4_readSum cX4_readSum 3 (some .boolean), .code yX4_readPart cX4_readPart 2 (some .boolean), .code yX4_addStep cX4_addStep 2 none, .fieldLink RX4 39 "SeaLand$Law" "steps" "[I", .methodLink RX4 179 yX4_addStep, .instanceMethod yX4_addStep, .selects RX4 yX4_addStep yX4_addStep, .methodLink RX4 192 yX4_readPart, .instanceMethod yX4_readPart, .selects RX4 yX4_readPart yX4_readPart, .methodLink RX4 189 yX4_readSum, .instanceMethod yX4_readSum, .selects RX4 yX4_readSum yX4_readSum, .methodLink RX4 186 yX4_readComparison, .instanceMethod yX4_readComparison, .selects RX4 yX4_readComparison yX4_readComparison, .methodLink RX4 183 yX4_readAtom, .instanceMethod yX4_readAtom, .selects RX4 yX4_readAtom yX4_readAtom, .methodLink RX4 176 yX4_readAll, .instanceMethod yX4_readAll, .selects RX4 yX4_readAll yX4_readAll, .methodLink RX4 173 yX4_readAny, .instanceMethod yX4_readAny, .selects RX4 yX4_readAny yX4_readAny, .fieldLink RX4 36 "SeaLand$Law" "stepTo" "[I", .fieldLink RX4 21 "SeaLand$Law" "firsts" "[I", .code yX4_takeNumber cX4_takeNumber 4 (some .boolean), .methodLink RX4 168 yX4_takeNumber, .instanceMethod yX4_takeNumber, .selects RX4 yX4_takeNumber yX4_takeNumber, .fieldLink RX4 24 "SeaLand$Law" "seconds" "[I", .fieldLink RX4 27 "SeaLand$Law" "froms" "[I", .fieldLink RX4 30 "SeaLand$Law" "tos" "[I", .constant RX4 172 99999, .methodLink RX4 66 yX4_readLine, .instanceMethod yX4_readLine, .selects RX4 yX4_readLine yX4_readLine, .methodLink RX11 266 yX4_read, .instanceMethod yX4_read, .selects RX4 yX4_read yX4_read, .code yX11_needNumbers cX11_needNumbers 1 none, .classLink RX11 547 "java/lang/IllegalArgumentException", .initialized "java/lang/IllegalArgumentException", .methodLink RX11 62 yX11_needNumbers, .static yX11_needNumbers, .initialized RX11, .code yX0_proposeSpare cX0_proposeSpare 3 (some .int), .fieldLink RX0 45 "SeaLand$Board" "proposed" "LSeaLand$Law;", .fieldLink RX0 48 "SeaLand$Board" "spare" "LSeaLand$Law;", .fieldLink RX0 64 "SeaLand$Board" "voting" "Z", .fieldLink RX0 68 "SeaLand$Board" "yesVotes" "J", .fieldLink RX0 72 "SeaLand$Board" "allVotes" "J", .fieldLink RX0 75 "SeaLand$Board" "settled" "I", .fieldLink RX0 11 "SeaLand$Board" "settlers" "[LSeaLand$Settler;", .methodLink RX11 289 yX0_proposeSpare, .instanceMethod yX0_proposeSpare, .selects RX0 yX0_proposeSpare yX0_proposeSpare, .initialized RX0, .classLink RX11 69 "java/lang/IllegalStateException", .initialized "java/lang/IllegalStateException"] bs2)
set_option maxHeartbeats 4000000 in
set_option maxRecDepth 100000 in
theorem c_proposeE (l : Launch) (hlt : l.stackTraces = false) (dC : Nat → ClassId) (dI : Nat → Nat → Nat) (kA : Nat → ClassId) (adK adV : Nat → Nat) (G : gT) (H0 : Heap) (nC nS : Int) (o0 : Nat) (tn : Int32)  (hT : gH (dC, dI) kA (SHc nC nS) G H0) (hr_o0 : G o0 = some 14) (hm_tn : el H0 o0 (dI 14 7) = some (.int tn)) (hq0 : 0 ≤ tn.toInt ∧ tn.toInt ≤ 400) (hgC : 0 ≤ nC ∧ nC ≤ 40) (hgS : 0 ≤ nS ∧ nS ≤ 60) : vx_Met l yX11_propose w_c_proposeE ({ frames := 27, cells := 1, slots := 6, locals := 614 }) (va_Pc [.ref o0] (fun U => U.heap = H0 ∧ va_K (dC, dI) vwCl (tyl kA) U ∧ EVC adK adV (gA G H0.size) U U.heap)) (va_Qi (fun (r : Int32) (u : Int32) => (0 ≤ r.toInt ∧ r.toInt ≤ 20) ∧ (u.toInt = 0)) (fun (t1 : Int32) (t : State) => gH (dC, dI) kA (SHc nC nS) G t.heap ∧ gF (dC, dI) SKc G ([(3, 8), (3, 9), (3, 10), (3, 11), (3, 12), (3, 13), (7, 11), (7, 12), (7, 13), (10, 11), (14, 7), (40, 0), (41, 0), (42, 0), (43, 0), (44, 0), (45, 0), (46, 0), (47, 0), (48, 0), (49, 0)] : List (Nat × Nat)) H0 t.heap ∧ el t.heap o0 (dI 14 7) = some (.int t1)) (gA G H0.size)) (vx_X (fun _ : Unit => True) (fun E _ t => (E = "java/lang/IllegalArgumentException" ∨ E = "java/lang/IllegalStateException") ∧ gH (dC, dI) kA (SHc nC nS) G t.heap ∧ gF (dC, dI) SKc G ([(3, 8), (3, 9), (3, 10), (3, 11), (3, 12), (3, 13), (7, 11), (7, 12), (7, 13), (10, 11), (14, 7), (40, 0), (41, 0), (42, 0), (43, 0), (44, 0), (45, 0), (46, 0), (47, 0), (48, 0), (49, 0)] : List (Nat × Nat)) H0 t.heap ∧ el t.heap o0 (dI 14 7) = some (.int 0)) (gA G H0.size)) 1 6 (gA G H0.size) := by
  refine vx_ofW (cc := cX11_propose) (maxL := 1) (ret := (some .int)) (by decide) rfl ?_
  intro p e s m args below meth c s₁ B hml hnt hv
  obtain ⟨rfl, hH0, hK, hE⟩ := hv
  have hx := B.exec
  have hb := B.bytes
  have hr := B.returns
  have hts := atoms_spec (ws := w_c_proposeE) B.pre
  have hown : s.vm.findClass RX11 = some m.cls := findClass_of_methodNamed B.named
  have hlocks := B.notSynchronized
  subst hH0
  generalize hAe : gA G s.heap.size = A at hE ⊢
  have hA : ∀ q : Nat, s.heap.size ≤ q → A q := fun q h => by rw [← hAe]; exact Or.inr h
  have hG := gA_of hAe
  have hS : va_S A s.heap s.heap [] := va_S.rf
  have hF : gF (dC, dI) SKc G ([(3, 8), (3, 9), (3, 10), (3, 11), (3, 12), (3, 13), (7, 11), (7, 12), (7, 13), (10, 11), (14, 7), (40, 0), (41, 0), (42, 0), (43, 0), (44, 0), (45, 0), (46, 0), (47, 0), (48, 0), (49, 0)] : List (Nat × Nat)) s.heap s.heap := gF.rf
  have hl := lv_entry ([.ref o0]) (n := 1) (Nat.le_of_ble_eq_true rfl)
  rw [lg_entry_eq]
  generalize (lg_sl ([.ref o0]) ++ List.replicate (1 - (lg_sl ([.ref o0])).length) Slot.unset).toArray = ls at hl ⊢
  have hl : lv_has ls 1 [(0, .ref o0)] := hl
  refine lv_aload_n hx hb dX11_propose_0 rfl (lv_at hl 0 rfl) ?_
  refine tw_get hx hb hts bF2_X11 hown hK hT hr_o0 shc_14 rfl 3 (by decide) (ht_at2 hts 0 rfl) (fun _ h9 => h9) dX11_propose_1 (fun v9 m1 h9 => ?_)
  obtain ⟨b2, rfl, hg3⟩ := h9 _ rfl
  refine lv_aload_n hx hb dX11_propose_4 rfl (lv_at hl 0 rfl) ?_
  refine tw_getM (v := .ref b2) hx hb hts bF2_X11 hown hK hT hr_o0 shc_14 rfl 3 (by decide) (ht_at2 hts 0 rfl) (fun _ h9 => h9) m1 dX11_propose_5 ?_
  refine tw_getN hx hb hts bF2_X0 hown hK hT hg3 shc_3 rfl 9 (by decide) (hE.nw 24 rfl) (fun _ h9 => h9) dX11_propose_8 (fun v9 m4 h9 => ?_)
  obtain ⟨b5, rfl, hg6⟩ := h9 _ rfl
  refine lv_aload_n hx hb dX11_propose_11 rfl (lv_at hl 0 rfl) ?_
  refine tw_get hx hb hts bF2_X11 hown hK hT hr_o0 shc_14 rfl 0 (by decide) (ht_at2 hts 1 rfl) (fun _ h9 => h9) dX11_propose_12 (fun v9 m7 h9 => ?_)
  obtain ⟨b8, rfl, hg9⟩ := h9 _ rfl
  refine lv_aload_n hx hb dX11_propose_15 rfl (lv_at hl 0 rfl) ?_
  refine tw_getM (v := .int tn) hx hb hts bF2_X11 hown hK hT hr_o0 shc_14 rfl 7 (by decide) (ht_at2 hts 2 rfl) (fun _ h9 => h9) hm_tn dX11_propose_16 ?_
  have hFc := gA_free hG hA hS
  refine va_calli (va_runV (As := [.ref b8, .int tn]) (rest := [.ref b2]) ⟨hx, hb, hml, hown, hts⟩ (c_read l dC dI kA adK adV G s.heap nC nS b5 b8 tn hT hg9 hg6 (rg_t (a := tn.toInt) rfl (by have q8 := ti_all tn; omega) (by have q8 := ti_all tn; omega)) (by omega) (by omega)) (cwV 2 hts (goodIn_app (goodIn_r _ [133, 134, 135, 14] rfl (by decide +kernel)) (goodIn_ca (goodIn_r _ [4, 5, 6, 7, 8, 9, 10, 11, 12, 13, 14, 15, 16, 17, 18, 19, 20, 21, 22, 23, 24, 25, 26, 27, 28, 29, 30, 31, 32, 33, 34, 35, 36, 37, 38, 39, 40, 41, 42, 43, 44, 45, 46, 47, 48, 49, 50, 51, 52, 53, 54, 55, 56, 57, 58, 59, 60, 61, 62, 63, 64, 65, 66, 67, 68, 69, 70, 71, 72, 73, 74, 75, 76, 77, 78, 79, 80, 81, 82, 83, 84, 85, 86, 87, 88, 89, 90, 91, 92, 93, 94, 95, 96, 97, 98, 99, 100, 101, 102, 103, 104, 105, 106, 107, 108, 109, 110, 111, 112, 113, 114, 115, 116, 117, 118, 119, 120, 121, 122, 123, 124, 125, 126, 127, 128, 129, 130, 131, 132] rfl (by decide +kernel)) (bs2_in _ _))) rfl rfl rfl (by decide +kernel) ⟨(Nat.le_of_ble_eq_true rfl), (Nat.le_of_ble_eq_true rfl)⟩) ⟨fun a U g mk q => by obtain ⟨q0, q1, qK, qE⟩ := q; exact ⟨q0, q1, va_K.moved (u := U) (U := U.calling g mk a) (Vm.Alike.refl U.vm) qK, EVC.blind g mk a qE⟩, gH_recv hK hT hg6 shc_7 rfl, fun U hU hW => ⟨rfl, hU, va_K.moved hW.alike hK, hE.call hS hFc hU hW⟩⟩ rfl rfl hl.1 rfl (lv_room (Nat.le_of_ble_eq_true rfl)) dX11_propose_19 ⟨(Nat.le_of_ble_eq_true rfl), (Nat.le_of_ble_eq_true rfl)⟩) hS (fun q _ h => hFc q h) hFc (fun r10 u t H locs ht hvm hw11 hB _ _ hS => ?_)
  obtain ⟨hT, hF1⟩ := hB
  rw [ht] at hT hF1
  have m12 := (hF1.fld hr_o0 skc_14 (k := 7) (by decide) (by decide)).trans hm_tn
  have m13 := (hF1.fld hr_o0 skc_14 (k := 3) (by decide) (by decide)).trans m1
  have m14 := (hF1.fld hg3 skc_3 (k := 9) (by decide) (by decide)).trans m4
  have m15 := (hF1.fld hr_o0 skc_14 (k := 0) (by decide) (by decide)).trans m7
  have hF := hF.more hF1 (by decide)
  try dsimp only at hw11
  refine tw_putN (v := .int r10) (ty := .int) hx hb hts bF2_X0 tyX0 tyX0_ok nmX0 hown hK hT hG hS hg3 shc_3 rfl 10 (by decide) (hE.nw 25 rfl) (fun _ h9 => h9) rfl (by decide +kernel) rfl rfl (gl_at rfl (gi_all _)) dX11_propose_22 (fun H locs hT oq m16 oj hS => ?_)
  have hF := hF.put hg3 skc_3 oq oj (by decide)
  have m17 := (el_kept (oq _ (gne hr_o0 hg3 (by decide)))).trans m12
  have m18 := (el_kept (oq _ (gne hr_o0 hg3 (by decide)))).trans m13
  have m19 := (oj 9 (by decide) (by decide)).trans m14
  have m20 := (el_kept (oq _ (gne hr_o0 hg3 (by decide)))).trans m15
  refine lv_aload_n hx hb dX11_propose_25 rfl (lv_at hl 0 rfl) ?_
  refine lv_iconst (v := 0) hx hb dX11_propose_26 (by decide) ?_
  refine tw_put (v := .int 0) (ty := .int) hx hb hts bF2_X11 tyX11 tyX11_ok nmX11 hown hK hT hG hS hr_o0 shc_14 rfl 7 (by decide) (ht_at2 hts 2 rfl) (fun _ h9 => h9) rfl (by decide +kernel) rfl rfl (gl_at rfl (gi_of (show (0 : Int32).toInt = 0 from (by decide)) (by omega) (by omega))) dX11_propose_27 (fun H locs hT oq m21 oj hS => ?_)
  have hF := hF.put hr_o0 skc_14 oq oj (by decide)
  have m22 := (oj 3 (by decide) (by decide)).trans m18
  have m23 := (el_kept (oq _ (gne hg3 hr_o0 (by decide)))).trans m19
  have m24 := (oj 0 (by decide) (by decide)).trans m20
  have m25 := (el_kept (oq _ (gne hg3 hr_o0 (by decide)))).trans m16
  refine lv_aload_n hx hb dX11_propose_30 rfl (lv_at hl 0 rfl) ?_
  refine tw_getM (v := .ref b2) hx hb hts bF2_X11 hown hK hT hr_o0 shc_14 rfl 3 (by decide) (ht_at2 hts 0 rfl) (fun _ h9 => h9) m22 dX11_propose_31 ?_
  refine tw_getNM (v := .int r10) hx hb hts bF2_X0 hown hK hT hg3 shc_3 rfl 10 (by decide) (hE.nw 25 rfl) (fun _ h9 => h9) m25 dX11_propose_34 ?_
  refine lv_iconst (v := (-1)) hx hb dX11_propose_37 (by decide) ?_
  have t26 : -2147483648 ≤ r10.toInt ∧ r10.toInt ≤ 2147483647 := ti_all r10
  refine lv_icmp_ne (tgt := 45) hx hb dX11_propose_38 (by decide) (fun c27 => ?_) (fun c27 => ?_)
  · have t28 : r10.toInt ≠ (-1) := ti_ne c27 rfl (by decide)
    refine lv_iconst (v := 0) hx hb dX11_propose_45 (by decide) ?_
    have hFc := gA_free hG hA hS
    refine vx_callN (vx_runS (As := [.int 0]) (rest := []) ⟨hx, hb, hml, hown, hts⟩ (c_needNumbers0 l hlt dC dI kA adK adV G H nC nS hT (by omega) (by omega)) (va_cwS 1 hts (goodIn_app (goodIn_r _ [139, 140, 141] rfl (by decide +kernel)) (goodIn_ca (goodIn_r _ [136, 137, 138] rfl (by decide +kernel)) (bs2_in _ _))) rfl rfl rfl (by decide +kernel) ⟨(Nat.le_of_ble_eq_true rfl), (Nat.le_of_ble_eq_true rfl)⟩) ⟨fun a U g mk q => by obtain ⟨q0, q1, qK, qE⟩ := q; exact ⟨q0, q1, va_K.moved (u := U) (U := U.calling g mk a) (Vm.Alike.refl U.vm) qK, EVC.blind g mk a qE⟩, fun U hU hW => ⟨rfl, hU, va_K.moved hW.alike hK, hE.call hS hFc hU hW⟩⟩ rfl rfl hl.1 rfl (lv_room (Nat.le_of_ble_eq_true rfl)) dX11_propose_46 ⟨(Nat.le_of_ble_eq_true rfl), (Nat.le_of_ble_eq_true rfl)⟩) hS hFc (fun q _ h => hFc q h) (fun E ce q9 u t H locs ht hvm _ hw30 _ _ hS hce hcv hcl => ?_)
    obtain ⟨hw30, hTx, hFx⟩ := hw30; rw [ht] at hTx hFx
    exact vx_out (fun x h => (hnt x h).elim) hlocks hce hcv hcl (fun t2 h2 hW => ⟨(), trivial, ⟨((fun h9 => (Or.inl h9)) hw30), by rw [h2]; exact hTx, by rw [h2]; exact hF.more hFx (by decide), by rw [h2]; exact (hFx.fld hr_o0 skc_14 (k := 7) (by decide) (by decide)).trans m21⟩, hS.F h2⟩) hS.2.2 (by decide) (by decide)
  · have t31 : r10.toInt = (-1) := ti_eq c27 rfl (by decide)
    refine lv_iconst (v := 1) hx hb dX11_propose_41 (by decide) ?_
    refine lv_goto (tgt := 46) hx hb dX11_propose_42 (by decide) ?_
    have hFc := gA_free hG hA hS
    refine vx_callv (vx_runS (As := [.int 1]) (rest := []) ⟨hx, hb, hml, hown, hts⟩ (c_needNumbers1 l hlt dC dI kA adK adV G H nC nS hT (by omega) (by omega)) (va_cwS 1 hts (goodIn_app (goodIn_r _ [139, 140, 141] rfl (by decide +kernel)) (goodIn_ca (goodIn_r _ [136] rfl (by decide +kernel)) (bs2_in _ _))) rfl rfl rfl (by decide +kernel) ⟨(Nat.le_of_ble_eq_true rfl), (Nat.le_of_ble_eq_true rfl)⟩) ⟨fun a U g mk q => by obtain ⟨q0, q1, qK, qE⟩ := q; exact ⟨q0, q1, va_K.moved (u := U) (U := U.calling g mk a) (Vm.Alike.refl U.vm) qK, EVC.blind g mk a qE⟩, fun U hU hW => ⟨rfl, hU, va_K.moved hW.alike hK, hE.call hS hFc hU hW⟩⟩ rfl rfl hl.1 rfl (lv_room (Nat.le_of_ble_eq_true rfl)) dX11_propose_46 ⟨(Nat.le_of_ble_eq_true rfl), (Nat.le_of_ble_eq_true rfl)⟩) hS (fun q _ h => hFc q h) hFc (fun q _ h => hFc q h) (fun E ce q9 u t H locs ht hvm _ hw33 _ _ hS hce hcv hcl => ?_) (fun u t H locs ht hvm hw33 hB _ _ hS => ?_)
    · obtain ⟨hw33, hTx, hFx⟩ := hw33; rw [ht] at hTx hFx
      exact vx_out (fun x h => (hnt x h).elim) hlocks hce hcv hcl (fun t2 h2 hW => ⟨(), trivial, ⟨((fun h9 => (Or.inl h9)) hw33), by rw [h2]; exact hTx, by rw [h2]; exact hF.more hFx (by decide), by rw [h2]; exact (hFx.fld hr_o0 skc_14 (k := 7) (by decide) (by decide)).trans m21⟩, hS.F h2⟩) hS.2.2 (by decide) (by decide)
    · obtain ⟨hT, hF1⟩ := hB
      rw [ht] at hT hF1
      have m34 := (hF1.fld hr_o0 skc_14 (k := 3) (by decide) (by decide)).trans m22
      have m35 := (hF1.fld hg3 skc_3 (k := 9) (by decide) (by decide)).trans m23
      have m36 := (hF1.fld hr_o0 skc_14 (k := 0) (by decide) (by decide)).trans m24
      have m37 := (hF1.fld hg3 skc_3 (k := 10) (by decide) (by decide)).trans m25
      have m38 := (hF1.fld hr_o0 skc_14 (k := 7) (by decide) (by decide)).trans m21
      have hF := hF.more hF1 (by decide)
      try dsimp only at hw33
      refine lv_aload_n hx hb dX11_propose_49 rfl (lv_at hl 0 rfl) ?_
      refine tw_getM (v := .ref b2) hx hb hts bF2_X11 hown hK hT hr_o0 shc_14 rfl 3 (by decide) (ht_at2 hts 0 rfl) (fun _ h9 => h9) m34 dX11_propose_50 ?_
      refine tw_getN hx hb hts bF2_X0 hown hK hT hg3 shc_3 rfl 11 (by decide) (hE.nw 27 rfl) (fun _ h9 => h9) dX11_propose_53 (fun v9 m39 h9 => ?_)
      obtain ⟨x40, rfl, gx40, kx40⟩ := h9 _ rfl
      refine lv_if_eq (tgt := 70) hx hb dX11_propose_56 (by decide) (fun c41 => ?_) (fun c41 => ?_)
      · have t42 : x40.toInt = 0 := ti_eq c41 rfl (by decide)
        refine lv_aload_n hx hb dX11_propose_70 rfl (lv_at hl 0 rfl) ?_
        refine tw_getM (v := .ref b2) hx hb hts bF2_X11 hown hK hT hr_o0 shc_14 rfl 3 (by decide) (ht_at2 hts 0 rfl) (fun _ h9 => h9) m34 dX11_propose_71 ?_
        have hFc := gA_free hG hA hS
        refine va_calli (va_runV (As := []) (rest := []) ⟨hx, hb, hml, hown, hts⟩ (c_proposeSpare l dC dI kA adK adV G H nC nS b2 hT hg3 (by omega) (by omega)) (cwV 0 hts (goodIn_app (goodIn_r _ [150, 151, 152, 153] rfl (by decide +kernel)) (goodIn_ca (goodIn_r _ [142, 143, 144, 145, 146, 147, 148, 149] rfl (by decide +kernel)) (bs2_in _ _))) rfl rfl rfl (by decide +kernel) ⟨(Nat.le_of_ble_eq_true rfl), (Nat.le_of_ble_eq_true rfl)⟩) ⟨fun a U g mk q => by obtain ⟨q0, q1, qK, qE⟩ := q; exact ⟨q0, q1, va_K.moved (u := U) (U := U.calling g mk a) (Vm.Alike.refl U.vm) qK, EVC.blind g mk a qE⟩, gH_recv hK hT hg3 shc_3 rfl, fun U hU hW => ⟨rfl, hU, va_K.moved hW.alike hK, hE.call hS hFc hU hW⟩⟩ rfl rfl hl.1 rfl (lv_room (Nat.le_of_ble_eq_true rfl)) dX11_propose_74 ⟨(Nat.le_of_ble_eq_true rfl), (Nat.le_of_ble_eq_true rfl)⟩) hS (fun q _ h => hFc q h) hFc (fun r43 u t H locs ht hvm hw44 hB _ _ hS => ?_)
        obtain ⟨hT, hF1⟩ := hB
        rw [ht] at hT hF1
        have m45 := (hF1.fld hr_o0 skc_14 (k := 3) (by decide) (by decide)).trans m34
        have m47 := (hF1.fld hr_o0 skc_14 (k := 0) (by decide) (by decide)).trans m36
        have m48 := (hF1.fld hg3 skc_3 (k := 10) (by decide) (by decide)).trans m37
        have m49 := (hF1.fld hr_o0 skc_14 (k := 7) (by decide) (by decide)).trans m38
        have hF := hF.more hF1 (by decide)
        try dsimp only at hw44
        have h51 := hw44
        refine W.widen (k := 1) (n := 6) (by decide) (by decide) ?_
        exact vx_ret (W.iret (v := r43) hx hb hr (fun t ht hW => ⟨⟨r43, (0 : Int32), rfl, (by exact ⟨(rg_t (a := r43.toInt) rfl (by have q8 := ti_all r43; omega) (by have q8 := ti_all r43; omega)), (by have : (0 : Int32).toInt = 0 := (by decide); omega)⟩), by (try dsimp only); rw [ht]; exact ⟨hT, hF, m49⟩⟩, hS.F ht⟩) hS.2.2 dX11_propose_77)
      · have t52 : x40.toInt ≠ 0 := ti_ne c41 rfl (by decide)
        obtain ⟨sa53, hsa53⟩ := hE.str 5 rfl
        exact vx_throwSW (names := ["java/lang/RuntimeException", "java/lang/Exception"]) hx hb hlt hown (by decide +kernel) (by decide +kernel) (ht_at2 hts 153 rfl) (ht_at2 hts 154 rfl) hsa53 (bX2_at3 hts hE) bX_ok3_69 hE.1.1.2.2.1 hE.1.1.2.2.2 hS (by rw [hml]; exact hl.1) dX11_propose_59 dX11_propose_62 dX11_propose_63 dX11_propose_66 dX11_propose_69 (fun x h => (hnt x h).elim) (by decide) (Nat.le_of_ble_eq_true rfl) (Nat.le_of_ble_eq_true rfl) (Nat.le_of_ble_eq_true rfl) hlocks (fun t hW hz hq => ⟨(), trivial, ⟨(Or.inr rfl), hT.ext hq, hF.ext hT hq, (el_kept (hq _ (hT.lt hr_o0))).trans m38⟩, Nat.le_trans hS.1 hz, fun q h1 h2 => (hq q (Nat.lt_of_lt_of_le h1 hS.1)).trans (hS.2.1 q h1 h2)⟩) hS.2.2 (by decide) (by decide)
def w_l_proposeE : List Cond := .codeWith yL_propose cL_propose 3 (some .int) [(0, 8, 11, 15), (0, 8, 14, 17)] :: (HAppend.hAppend (α := List Cond) (β := List Cond) (γ := List Cond) [.code yX11_propose cX11_propose 1 (some .int), .fieldLink RX11 30 "SeaLand" "board" "LSeaLand$Board;", .fieldLink RX11 9 "SeaLand" "tape" "[I", .fieldLink RX11 47 "SeaLand" "taped" "I", .code yX4_read cX4_read 4 (some .int), .methodLink RX4 46 Lib.Math.min.name, .static Lib.Math.min.name, .initialized "java/lang/Math", .code Lib.Math.min.name Lib.Math.min.code 2 (some .int), .code yX4_scan cX4_scan 6 none, .code yX4_thingEnd cX4_thingEnd 6 (some .int), .code yX4_isLetter cX4_isLetter 1 (some .boolean), .methodLink RX4 81 yX4_isLetter, .static yX4_isLetter, .initialized RX4, .code yX4_isDigit cX4_isDigit 1 (some .boolean), .methodLink RX4 84 yX4_isDigit, .static yX4_isDigit, .methodLink RX4 74 yX4_thingEnd, .static yX4_thingEnd, .fieldLink RX4 11 "SeaLand$Law" "things" "[I", .code yX4_thingAt cX4_thingAt 3 (some .int), .code yX4_signThing cX4_signThing 1 (some .int), .methodLink RX4 93 yX4_signThing, .static yX4_signThing, .code yX4_numberThing cX4_numberThing 5 (some .int), .methodLink RX4 90 yX4_numberThing, .static yX4_numberThing, .code yX4_wordThing cX4_wordThing 4 (some .int), .code yX4_factThing cX4_factThing 3 (some .int), .code yX4_wordIs cX4_wordIs 5 (some .boolean), .code yJ0_length_8abf5 cJ0_length_8abf5 1 (some .int), .fieldLink RJ0 9 "java/lang/String" "value" "[B", .code yJ0_coder_7d493 cJ0_coder_7d493 1 (some .byte), .fieldLink RJ0 38 "java/lang/String" "COMPACT_STRINGS" "Z", .fieldLink RJ0 15 "java/lang/String" "coder" "B", .methodLink RJ0 335 yJ0_coder_7d493, .instanceMethod yJ0_coder_7d493, .selects RJ0 yJ0_coder_7d493 yJ0_coder_7d493, .initialized RJ0, .methodLink RX4 155 yJ0_length_8abf5, .instanceMethod yJ0_length_8abf5, .selects RJ0 yJ0_length_8abf5 yJ0_length_8abf5, .code yJ0_charAt_5068e cJ0_charAt_5068e 2 (some .char), .code yJ0_isLatin1_aae02 cJ0_isLatin1_aae02 1 (some .boolean), .methodLink RJ0 492 yJ0_isLatin1_aae02, .instanceMethod yJ0_isLatin1_aae02, .selects RJ0 yJ0_isLatin1_aae02 yJ0_isLatin1_aae02, .code yJ1_charAt_3b067 cJ1_charAt_3b067 2 (some .char), .code yJ0_checkIndex_df160 cJ0_checkIndex_df160 2 none, .fieldLink RJ0 1053 "jdk/internal/util/Preconditions" "SIOOBE_FORMATTER" "Ljava/util/function/BiFunction;", .code yJ3_checkIndex_8e157 cJ3_checkIndex_8e157 3 (some .int), .methodLink RJ0 1059 yJ3_checkIndex_8e157, .static yJ3_checkIndex_8e157, .initialized RJ3, .methodLink RJ1 9 yJ0_checkIndex_df160, .static yJ0_checkIndex_df160, .methodLink RJ0 495 yJ1_charAt_3b067, .static yJ1_charAt_3b067, .initialized RJ1, .methodLink RX4 161 yJ0_charAt_5068e, .instanceMethod yJ0_charAt_5068e, .selects RJ0 yJ0_charAt_5068e yJ0_charAt_5068e, .methodLink RX4 105 yX4_wordIs, .static yX4_wordIs, .methodLink RX4 97 yX4_factThing, .static yX4_factThing, .code yX4_lineThing cX4_lineThing 4 (some .int), .methodLink RX4 100 yX4_lineThing, .static yX4_lineThing, .methodLink RX4 87 yX4_wordThing, .static yX4_wordThing, .methodLink RX4 78 yX4_thingAt, .static yX4_thingAt, .fieldLink RX4 15 "SeaLand$Law" "begins" "[I", .methodLink RX4 52 yX4_scan, .instanceMethod yX4_scan, .selects RX4 yX4_scan yX4_scan, .fieldLink RX4 56 "SeaLand$Law" "at" "I", .fieldLink RX4 60 "SeaLand$Law" "lines" "I", .fieldLink RX4 63 "SeaLand$Law" "stepped" "I", .code yX4_readLine cX4_readLine 3 (some .boolean), .code yX4_lineKind cX4_lineKind 1 (some .int), .methodLink RX4 165 yX4_lineKind, .static yX4_lineKind, .fieldLink RX4 18 "SeaLand$Law" "kinds" "[I", .fieldLink RX4 33 "SeaLand$Law" "stepFrom" "[I", .code yX4_take cX4_take 2 (some .boolean), .methodLink RX4 70 yX4_take, .instanceMethod yX4_take, .selects RX4 yX4_take yX4_take, .code yX4_readAny cX4_readAny 4 (some .boolean), .code yX4_readAll cX4_readAll 4 (some .boolean), .code yX4_readAtom cX4_readAtom 4 (some .boolean), .code yX4_readComparison cX4_readComparison 3 (some .boolean), .code yX4_readSum cX4_readSum 3 (some .boolean), .code yX4_readPart cX4_readPart 2 (some .boolean), .code yX4_addStep cX4_addStep 2 none, .fieldLink RX4 39 "SeaLand$Law" "steps" "[I", .methodLink RX4 179 yX4_addStep, .instanceMethod yX4_addStep, .selects RX4 yX4_addStep yX4_addStep, .methodLink RX4 192 yX4_readPart, .instanceMethod yX4_readPart, .selects RX4 yX4_readPart yX4_readPart, .methodLink RX4 189 yX4_readSum, .instanceMethod yX4_readSum, .selects RX4 yX4_readSum yX4_readSum, .methodLink RX4 186 yX4_readComparison, .instanceMethod yX4_readComparison, .selects RX4 yX4_readComparison yX4_readComparison, .methodLink RX4 183 yX4_readAtom, .instanceMethod yX4_readAtom, .selects RX4 yX4_readAtom yX4_readAtom, .methodLink RX4 176 yX4_readAll, .instanceMethod yX4_readAll, .selects RX4 yX4_readAll yX4_readAll, .methodLink RX4 173 yX4_readAny, .instanceMethod yX4_readAny, .selects RX4 yX4_readAny yX4_readAny, .fieldLink RX4 36 "SeaLand$Law" "stepTo" "[I", .fieldLink RX4 21 "SeaLand$Law" "firsts" "[I", .code yX4_takeNumber cX4_takeNumber 4 (some .boolean), .methodLink RX4 168 yX4_takeNumber, .instanceMethod yX4_takeNumber, .selects RX4 yX4_takeNumber yX4_takeNumber, .fieldLink RX4 24 "SeaLand$Law" "seconds" "[I", .fieldLink RX4 27 "SeaLand$Law" "froms" "[I", .fieldLink RX4 30 "SeaLand$Law" "tos" "[I", .constant RX4 172 99999, .methodLink RX4 66 yX4_readLine, .instanceMethod yX4_readLine, .selects RX4 yX4_readLine yX4_readLine, .methodLink RX11 266 yX4_read, .instanceMethod yX4_read, .selects RX4 yX4_read yX4_read, .code yX11_needNumbers cX11_needNumbers 1 none, .classLink RX11 547 "java/lang/IllegalArgumentException", .initialized "java/lang/IllegalArgumentException", .methodLink RX11 62 yX11_needNumbers, .static yX11_needNumbers, .initialized RX11, .code yX0_proposeSpare cX0_proposeSpare 3 (some .int), .fieldLink RX0 45 "SeaLand$Board" "proposed" "LSeaLand$Law;", .fieldLink RX0 48 "SeaLand$Board" "spare" "LSeaLand$Law;", .fieldLink RX0 64 "SeaLand$Board" "voting" "Z", .fieldLink RX0 68 "SeaLand$Board" "yesVotes" "J", .fieldLink RX0 72 "SeaLand$Board" "allVotes" "J", .fieldLink RX0 75 "SeaLand$Board" "settled" "I", .fieldLink RX0 11 "SeaLand$Board" "settlers" "[LSeaLand$Settler;", .methodLink RX11 289 yX0_proposeSpare, .instanceMethod yX0_proposeSpare, .selects RX0 yX0_proposeSpare yX0_proposeSpare, .initialized RX0, .classLink RX11 69 "java/lang/IllegalStateException", .initialized "java/lang/IllegalStateException", .methodLink RL 87 yX11_propose, .instanceMethod yX11_propose, .selects RX11 yX11_propose yX11_propose, .classLink RL 15 "java/lang/IllegalArgumentException", .classLink RL 17 "java/lang/IllegalStateException"] bs2)
set_option maxHeartbeats 4000000 in
set_option maxRecDepth 100000 in
theorem l_proposeE (l : Launch) (hlt : l.stackTraces = false) (dC : Nat → ClassId) (dI : Nat → Nat → Nat) (kA : Nat → ClassId) (adK adV : Nat → Nat) (G : gT) (H0 : Heap) (nC nS : Int) (o0 : Nat) (ou : Nat) (tn : Int32) (hT : gH (dC, dI) kA (SHc nC nS) G H0) (hr_o0 : G o0 = some 14) (hr_ou : G ou = some 98) (hm_tn : el H0 o0 (dI 14 7) = some (.int tn)) (hq0 : 0 ≤ tn.toInt ∧ tn.toInt ≤ 400) (hgC : 0 ≤ nC ∧ nC ≤ 40) (hgS : 0 ≤ nS ∧ nS ≤ 60) : Met l yL_propose w_l_proposeE ({ frames := 28, cells := 1, slots := 6, locals := 634 }) (va_Pc [.ref o0, .ref ou] (fun U => U.heap = H0 ∧ va_K (dC, dI) vwCl (tyl kA) U ∧ EVC adK adV (gA G H0.size) U U.heap ∧ NC U)) (va_Qi (fun (r : Int32) (u : Int32) => (0 ≤ r.toInt ∧ r.toInt ≤ 2) ∧ (u.toInt = 0)) (fun (t1 : Int32) (t : State) => gH (dC, dI) kA (SHc nC nS) G t.heap ∧ gF (dC, dI) SKc G ([(3, 8), (3, 9), (3, 10), (3, 11), (3, 12), (3, 13), (7, 11), (7, 12), (7, 13), (10, 11), (14, 7), (40, 0), (41, 0), (42, 0), (43, 0), (44, 0), (45, 0), (46, 0), (47, 0), (48, 0), (49, 0), (98, 0)] : List (Nat × Nat)) H0 t.heap ∧ el t.heap o0 (dI 14 7) = some (.int t1)) (gA G H0.size)) 1 6 (gA G H0.size) := by
  refine va_MetW (cc := cL_propose) (maxL := 3) (ret := (some .int)) (by decide) rfl ?_
  intro p e s m args below meth c s₁ B hml hv
  obtain ⟨rfl, hH0, hK, hE, hN⟩ := hv
  have hx := B.exec
  have hb := B.bytes
  have hr := B.returns
  have hts := atoms_spec (ws := w_l_proposeE) B.pre
  have hown : s.vm.findClass RL = some m.cls := findClass_of_methodNamed B.named
  have hlocks := B.notSynchronized
  have htab := vx_table (x := yL_propose) B (hts _ List.mem_cons_self)
  subst hH0
  generalize hAe : gA G s.heap.size = A at hE ⊢
  have hA : ∀ q : Nat, s.heap.size ≤ q → A q := fun q h => by rw [← hAe]; exact Or.inr h
  have hG := gA_of hAe
  have hS : va_S A s.heap s.heap [] := va_S.rf
  have hF : gF (dC, dI) SKc G ([(3, 8), (3, 9), (3, 10), (3, 11), (3, 12), (3, 13), (7, 11), (7, 12), (7, 13), (10, 11), (14, 7), (40, 0), (41, 0), (42, 0), (43, 0), (44, 0), (45, 0), (46, 0), (47, 0), (48, 0), (49, 0), (98, 0)] : List (Nat × Nat)) s.heap s.heap := gF.rf
  have hl := lv_entry ([.ref o0, .ref ou]) (n := 3) (Nat.le_of_ble_eq_true rfl)
  rw [lg_entry_eq]
  generalize (lg_sl ([.ref o0, .ref ou]) ++ List.replicate (3 - (lg_sl ([.ref o0, .ref ou])).length) Slot.unset).toArray = ls at hl ⊢
  have hl : lv_has ls 3 [(0, .ref o0), (1, .ref ou)] := hl
  refine lv_aload_n hx hb dL_propose_0 rfl (lv_at hl 1 rfl) ?_
  refine lv_iconst (v := 0) hx hb dL_propose_1 (by decide) ?_
  refine lv_aload_n hx hb dL_propose_2 rfl (lv_at hl 0 rfl) ?_
  have hFc := gA_free hG hA hS
  refine vx_calli (vx_runV (As := []) (rest := [.int 0, .ref ou]) ⟨hx, hb, hml, hown, hts⟩ (c_proposeE l hlt dC dI kA adK adV G s.heap nC nS o0 tn hT hr_o0 hm_tn (rg_t (a := tn.toInt) rfl (by have q8 := ti_all tn; omega) (by have q8 := ti_all tn; omega)) (by omega) (by omega)) (cwV 0 hts (goodIn_app (goodIn_r _ [157, 158, 159, 142] rfl (by decide +kernel)) (goodIn_ca (goodIn_r _ [1, 2, 3, 4, 5, 6, 7, 8, 9, 10, 11, 12, 13, 14, 15, 16, 17, 18, 19, 20, 21, 22, 23, 24, 25, 26, 27, 28, 29, 30, 31, 32, 33, 34, 35, 36, 37, 38, 39, 40, 41, 42, 43, 44, 45, 46, 47, 48, 49, 50, 51, 52, 53, 54, 55, 56, 57, 58, 59, 60, 61, 62, 63, 64, 65, 66, 67, 68, 69, 70, 71, 72, 73, 74, 75, 76, 77, 78, 79, 80, 81, 82, 83, 84, 85, 86, 87, 88, 89, 90, 91, 92, 93, 94, 95, 96, 97, 98, 99, 100, 101, 102, 103, 104, 105, 106, 107, 108, 109, 110, 111, 112, 113, 114, 115, 116, 117, 118, 119, 120, 121, 122, 123, 124, 125, 126, 127, 128, 129, 130, 131, 132, 133, 134, 135, 136, 137, 138, 139, 140, 141, 142, 143, 144, 145, 146, 147, 148, 149, 150, 151, 152, 153, 154, 155, 156] rfl (by decide +kernel)) (bs2_in _ _))) rfl rfl rfl (by decide +kernel) ⟨(Nat.le_of_ble_eq_true rfl), (Nat.le_of_ble_eq_true rfl)⟩) ⟨fun a U g mk q => by obtain ⟨q0, q1, qK, qE⟩ := q; exact ⟨q0, q1, va_K.moved (u := U) (U := U.calling g mk a) (Vm.Alike.refl U.vm) qK, EVC.blind g mk a qE⟩, gH_recv hK hT hr_o0 shc_14 rfl, fun U hU hW => ⟨rfl, hU, va_K.moved hW.alike hK, hE.call hS hFc hU hW⟩⟩ rfl rfl hl.1 rfl (lv_room (Nat.le_of_ble_eq_true rfl)) dL_propose_3 ⟨(Nat.le_of_ble_eq_true rfl), (Nat.le_of_ble_eq_true rfl)⟩) hS (fun q _ h => hFc q h) hFc (fun q _ h => hFc q h) (fun E ce q9 u t H locs ht hvm _ hw2 _ _ hS hce hcv hcl => ?_) (fun r1 u t H locs ht hvm hw2 hB _ _ hS => ?_)
  · obtain ⟨hw2, hTx, hFx, hxm0⟩ := hw2; rw [ht] at hTx hFx hxm0
    have hT := hTx; have hF := hF.more hFx (by decide)
    rcases hw2 with rfl | rfl
    · refine vx_catch (E := "java/lang/IllegalArgumentException") hown [] ⟨0, 8, 11, 15⟩ [⟨0, 8, 14, 17⟩] (by rw [htab]; rfl) (fun z h => absurd h List.not_mem_nil) (by decide) (by decide) (ht_at2 hts 159 rfl) (va_Nw.use rfl (hE.1.1.2.1.2.1 _ (List.mem_of_getElem? (i := 1) rfl))) hce hcv hcl ?_
      refine lv_astore_n (lv' := [(2, .ref q9), (0, .ref o0), (1, .ref ou)]) hx hb dL_propose_11 rfl hl (by decide) rfl (fun ls hl => ?_)
      refine lv_iconst (v := 1) hx hb dL_propose_12 (by decide) ?_
      exact W.iret (v := 1) hx hb hr (fun t ht hW => ⟨⟨1, (0 : Int32), rfl, (by exact ⟨(rg_t (a := 1) (by decide) (by omega) (by omega)), (by have : (0 : Int32).toInt = 0 := (by decide); omega)⟩), by (try dsimp only); rw [ht]; exact ⟨hT, hF, hxm0⟩⟩, hS.F ht⟩) hS.2.2 dL_propose_13
    · refine vx_catch (E := "java/lang/IllegalStateException") hown [⟨0, 8, 11, 15⟩] ⟨0, 8, 14, 17⟩ [] (by rw [htab]; rfl) (fun z h => by
          simp only [List.mem_cons, List.not_mem_nil, or_false] at h
          rcases h with rfl
          · exact Or.inr ⟨by decide, "java/lang/IllegalArgumentException", (ht_at2 hts 159 rfl), hN ("java/lang/IllegalStateException", "java/lang/IllegalArgumentException") (by decide +kernel)⟩) (by decide) (by decide) (ht_at2 hts 160 rfl) (va_Nw.use rfl (hE.1.1.2.1.2.1 _ (List.mem_of_getElem? (i := 3) rfl))) hce hcv hcl ?_
      refine lv_astore_n (lv' := [(2, .ref q9), (0, .ref o0), (1, .ref ou)]) hx hb dL_propose_14 rfl hl (by decide) rfl (fun ls hl => ?_)
      refine lv_iconst (v := 2) hx hb dL_propose_15 (by decide) ?_
      exact W.iret (v := 2) hx hb hr (fun t ht hW => ⟨⟨2, (0 : Int32), rfl, (by exact ⟨(rg_t (a := 2) (by decide) (by omega) (by omega)), (by have : (0 : Int32).toInt = 0 := (by decide); omega)⟩), by (try dsimp only); rw [ht]; exact ⟨hT, hF, hxm0⟩⟩, hS.F ht⟩) hS.2.2 dL_propose_16
  · obtain ⟨u3, rfl⟩ : ∃ z, z = u := ⟨_, rfl⟩
    obtain ⟨hT, hF1, m4⟩ := hB
    rw [ht] at hT hF1 m4
    have hF := hF.more hF1 (by decide)
    try dsimp only at hw2
    obtain ⟨h6, hf7⟩ := hw2
    refine lv_i2l (v := r1.toInt64) hx hb dL_propose_6 rfl ?_
    refine tw_last (i := 0)  hx hb hK hT hG hS hr_ou shc_98 rfl (by unfold vp_in; decide) ⟨_, rfl⟩ dL_propose_7 (fun H locs hT oq m8 oi hS => ?_)
    have hF := hF.ast hr_ou skc_98 oq (by decide)
    have m9 := (el_kept (oq _ (gne hr_o0 hr_ou (by decide)))).trans m4
    refine lv_goto (tgt := 17) hx hb dL_propose_8 (by decide) ?_
    refine lv_iconst (v := 0) hx hb dL_propose_17 (by decide) ?_
    exact W.iret (v := 0) hx hb hr (fun t ht hW => ⟨⟨0, u3, rfl, (by exact ⟨(rg_t (a := 0) (by decide) (by omega) (by omega)), (by omega)⟩), by (try dsimp only); rw [ht]; exact ⟨hT, hF, m9⟩⟩, hS.F ht⟩) hS.2.2 dL_propose_18

