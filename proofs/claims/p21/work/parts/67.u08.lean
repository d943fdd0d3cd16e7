def w_c_feedC : List Cond := .code yX11_feed cX11_feed 6 (some .int) :: (HAppend.hAppend (α := List Cond) (β := List Cond) (γ := List Cond) [.fieldLink RX11 47 "SeaLand" "taped" "I", .code yX11_feedOne cX11_feedOne 3 none, .fieldLink RX11 9 "SeaLand" "tape" "[I", .methodLink RX11 51 yX11_feedOne, .instanceMethod yX11_feedOne, .selects RX11 yX11_feedOne yX11_feedOne, .initialized RX11] bs2)
set_option maxHeartbeats 4000000 in
set_option maxRecDepth 100000 in
theorem c_feedC (l : Launch) (dC : Nat → ClassId) (dI : Nat → Nat → Nat) (kA : Nat → ClassId) (adK adV : Nat → Nat) (G : gT) (H0 : Heap) (nC nS : Int) (o0 : Nat) (p0 : Int32) (p1 : Int32) (p2 : Int32) (p3 : Int32) (p4 : Int32) (tn : Int32) (ta : Nat) (vc : Nat → Int32)  (hT : gH (dC, dI) kA (SHc nC nS) G H0) (hr_o0 : G o0 = some 14) (hm_tn : el H0 o0 (dI 14 7) = some (.int tn)) (hm_ta : el H0 o0 (dI 14 0) = some (.ref ta)) (hr_ta : G ta = some 16) (hq0 : 0 ≤ tn.toInt ∧ tn.toInt ≤ 400) (hc_vc : ct H0 ta 400 vc) (hgC : 0 ≤ nC ∧ nC ≤ 40) (hgS : 0 ≤ nS ∧ nS ≤ 60) : Met l yX11_feed w_c_feedC ({ frames := 1, cells := 0, slots := 0, locals := 22 }) (va_Pc [.ref o0, .int p0, .int p1, .int p2, .int p3, .int p4] (fun U => U.heap = H0 ∧ va_K (dC, dI) vwCl (tyl kA) U ∧ EVC adK adV (gA G H0.size) U U.heap)) (va_Qi (fun (r : Int32) (u : Int32 × (Nat → Int32)) => match u with | (t1, vc1) => (-1 ≤ r.toInt ∧ r.toInt ≤ 400) ∧ ((tn.toInt ≤ 380 ∧ r.toInt = tn.toInt + 20 ∧ t1.toInt = tn.toInt + 20 ∧ vc1 = fdU vc tn.toNatClampNeg p0 p1 p2 p3 p4) ∨ (380 < tn.toInt ∧ r.toInt = -1 ∧ t1.toInt = tn.toInt ∧ vc1 = vc))) (fun (u : Int32 × (Nat → Int32)) (t : State) => match u with | (t1, vc1) => gH (dC, dI) kA (SHc nC nS) G t.heap ∧ gF (dC, dI) SKc G ([(14, 7), (16, 0)] : List (Nat × Nat)) H0 t.heap ∧ el t.heap o0 (dI 14 7) = some (.int t1) ∧ ct t.heap ta 400 vc1) (gA G H0.size)) 0 0 (gA G H0.size) := by
  refine Met.ofW (cc := cX11_feed) (maxL := 6) (ret := (some .int)) (by decide) rfl ?_
  intro p e s m args below meth c s₁ B hml hv
  obtain ⟨rfl, hH0, hK, hE⟩ := hv
  have hx := B.exec
  have hb := B.bytes
  have hr := B.returns
  have hts := atoms_spec (ws := w_c_feedC) B.pre
  have hown : s.vm.findClass RX11 = some m.cls := findClass_of_methodNamed B.named
  have hlocks := B.notSynchronized
  subst hH0
  generalize hAe : gA G s.heap.size = A at hE ⊢
  have hA : ∀ q : Nat, s.heap.size ≤ q → A q := fun q h => by rw [← hAe]; exact Or.inr h
  have hG := gA_of hAe
  have hS : va_S A s.heap s.heap [] := va_S.rf
  have hF : gF (dC, dI) SKc G ([(14, 7), (16, 0)] : List (Nat × Nat)) s.heap s.heap := gF.rf
  have hl := lv_entry ([.ref o0, .int p0, .int p1, .int p2, .int p3, .int p4]) (n := 6) (Nat.le_of_ble_eq_true rfl)
  rw [lg_entry_eq]
  generalize (lg_sl ([.ref o0, .int p0, .int p1, .int p2, .int p3, .int p4]) ++ List.replicate (6 - (lg_sl ([.ref o0, .int p0, .int p1, .int p2, .int p3, .int p4])).length) Slot.unset).toArray = ls at hl ⊢
  have hl : lv_has ls 6 [(0, .ref o0), (1, .int p0), (2, .int p1), (3, .int p2), (4, .int p3), (5, .int p4)] := hl
  refine lv_aload_n hx hb dX11_feed_0 rfl (lv_at hl 0 rfl) ?_
  refine tw_getM (v := .int tn) hx hb hts bF2_X11 hown hK hT hr_o0 shc_14 rfl 7 (by decide) (ht_at2 hts 0 rfl) (fun _ h9 => h9) hm_tn dX11_feed_1 ?_
  refine lv_bipush (v := 20) hx hb dX11_feed_4 (by decide) ?_
  refine lv_iadd hx hb dX11_feed_6 ?_
  refine lv_topi (fun x1 ex1 => ?_)
  have t2 : x1.toInt = tn.toInt + 20 := ti_add ex1 rfl (by decide) (by omega) (by omega)
  refine lv_sipush (v := 400) hx hb dX11_feed_7 (by decide) ?_
  refine lv_icmp_le (tgt := 15) hx hb dX11_feed_10 (by decide) (fun c3 => ?_) (fun c3 => ?_)
  · have t4 : x1.toInt ≤ 400 := ti_le c3 rfl (by decide)
    refine lv_aload_n hx hb dX11_feed_15 rfl (lv_at hl 0 rfl) ?_
    refine lv_iload_n hx hb dX11_feed_16 rfl (lv_at hl 1 rfl) ?_
    have hFc := gA_free hG hA hS
    refine va_callv (va_runV (As := [.int p0]) (rest := []) ⟨hx, hb, hml, hown, hts⟩ (c_feedOneC l dC dI kA adK adV G s.heap nC nS o0 p0 tn ta vc hT hr_o0 hm_tn hm_ta hr_ta (by have q8 := ti_all tn; omega) hc_vc (by omega) (by omega)) (cwV 1 hts (goodIn_app (goodIn_r _ [4, 5, 6, 7] rfl (by decide +kernel)) (goodIn_ca (goodIn_r _ [2, 3, 1] rfl (by decide +kernel)) (bs2_in _ _))) rfl rfl rfl (by decide +kernel) ⟨(Nat.le_of_ble_eq_true rfl), (Nat.le_of_ble_eq_true rfl)⟩) ⟨fun a U g mk q => by obtain ⟨q0, q1, qK, qE⟩ := q; exact ⟨q0, q1, va_K.moved (u := U) (U := U.calling g mk a) (Vm.Alike.refl U.vm) qK, EVC.blind g mk a qE⟩, gH_rc hK hT hr_o0 shc_14 rfl, fun U hU hW => ⟨rfl, hU, va_K.moved hW.alike hK, hE.call hS hFc hU hW⟩⟩ rfl rfl hl.1 rfl (lv_room (Nat.le_of_ble_eq_true rfl)) dX11_feed_17 ⟨(Nat.le_of_ble_eq_true rfl), (Nat.le_of_ble_eq_true rfl)⟩) hS (fun q _ h => hFc q h) hFc (fun u t H locs ht hvm hw6 hB _ _ hS => ?_)
    obtain ⟨u7, u8⟩ := u
    obtain ⟨hT, hF1, m9, m10⟩ := hB
    rw [ht] at hT hF1 m9 m10
    have m12 := (hF1.fld hr_o0 skc_14 (k := 0) (by decide) (by decide)).trans hm_ta
    have hF := hF.more hF1 (by decide)
    try dsimp only at hw6
    obtain ⟨h14, hf15, hf16⟩ := hw6
    refine lv_aload_n hx hb dX11_feed_20 rfl (lv_at hl 0 rfl) ?_
    refine lv_iload_n hx hb dX11_feed_21 rfl (lv_at hl 2 rfl) ?_
    have hFc := gA_free hG hA hS
    refine va_callv (va_runV (As := [.int p1]) (rest := []) ⟨hx, hb, hml, hown, hts⟩ (c_feedOneC l dC dI kA adK adV G H nC nS o0 p1 u7 ta u8 hT hr_o0 m9 m12 hr_ta (by have q8 := ti_all u7; omega) m10 (by omega) (by omega)) (cwV 1 hts (goodIn_app (goodIn_r _ [4, 5, 6, 7] rfl (by decide +kernel)) (goodIn_ca (goodIn_r _ [2, 3, 1] rfl (by decide +kernel)) (bs2_in _ _))) rfl rfl rfl (by decide +kernel) ⟨(Nat.le_of_ble_eq_true rfl), (Nat.le_of_ble_eq_true rfl)⟩) ⟨fun a U g mk q => by obtain ⟨q0, q1, qK, qE⟩ := q; exact ⟨q0, q1, va_K.moved (u := U) (U := U.calling g mk a) (Vm.Alike.refl U.vm) qK, EVC.blind g mk a qE⟩, gH_rc hK hT hr_o0 shc_14 rfl, fun U hU hW => ⟨rfl, hU, va_K.moved hW.alike hK, hE.call hS hFc hU hW⟩⟩ rfl rfl hl.1 rfl (lv_room (Nat.le_of_ble_eq_true rfl)) dX11_feed_22 ⟨(Nat.le_of_ble_eq_true rfl), (Nat.le_of_ble_eq_true rfl)⟩) hS (fun q _ h => hFc q h) hFc (fun u t H locs ht hvm hw18 hB _ _ hS => ?_)
    obtain ⟨u19, u20⟩ := u
    obtain ⟨hT, hF1, m21, m22⟩ := hB
    rw [ht] at hT hF1 m21 m22
    have m23 := (hF1.fld hr_o0 skc_14 (k := 0) (by decide) (by decide)).trans m12
    have hF := hF.more hF1 (by decide)
    try dsimp only at hw18
    obtain ⟨h26, hf27, hf28⟩ := hw18
    refine lv_aload_n hx hb dX11_feed_25 rfl (lv_at hl 0 rfl) ?_
    refine lv_iload_n hx hb dX11_feed_26 rfl (lv_at hl 3 rfl) ?_
    have hFc := gA_free hG hA hS
    refine va_callv (va_runV (As := [.int p2]) (rest := []) ⟨hx, hb, hml, hown, hts⟩ (c_feedOneC l dC dI kA adK adV G H nC nS o0 p2 u19 ta u20 hT hr_o0 m21 m23 hr_ta (by have q8 := ti_all u19; omega) m22 (by omega) (by omega)) (cwV 1 hts (goodIn_app (goodIn_r _ [4, 5, 6, 7] rfl (by decide +kernel)) (goodIn_ca (goodIn_r _ [2, 3, 1] rfl (by decide +kernel)) (bs2_in _ _))) rfl rfl rfl (by decide +kernel) ⟨(Nat.le_of_ble_eq_true rfl), (Nat.le_of_ble_eq_true rfl)⟩) ⟨fun a U g mk q => by obtain ⟨q0, q1, qK, qE⟩ := q; exact ⟨q0, q1, va_K.moved (u := U) (U := U.calling g mk a) (Vm.Alike.refl U.vm) qK, EVC.blind g mk a qE⟩, gH_rc hK hT hr_o0 shc_14 rfl, fun U hU hW => ⟨rfl, hU, va_K.moved hW.alike hK, hE.call hS hFc hU hW⟩⟩ rfl rfl hl.1 rfl (lv_room (Nat.le_of_ble_eq_true rfl)) dX11_feed_27 ⟨(Nat.le_of_ble_eq_true rfl), (Nat.le_of_ble_eq_true rfl)⟩) hS (fun q _ h => hFc q h) hFc (fun u t H locs ht hvm hw30 hB _ _ hS => ?_)
    obtain ⟨u31, u32⟩ := u
    obtain ⟨hT, hF1, m33, m34⟩ := hB
    rw [ht] at hT hF1 m33 m34
    have m35 := (hF1.fld hr_o0 skc_14 (k := 0) (by decide) (by decide)).trans m23
    have hF := hF.more hF1 (by decide)
    try dsimp only at hw30
    obtain ⟨h38, hf39, hf40⟩ := hw30
    refine lv_aload_n hx hb dX11_feed_30 rfl (lv_at hl 0 rfl) ?_
    refine lv_iload hx hb dX11_feed_31 (lv_at hl 4 rfl) ?_
    have hFc := gA_free hG hA hS
    refine va_callv (va_runV (As := [.int p3]) (rest := []) ⟨hx, hb, hml, hown, hts⟩ (c_feedOneC l dC dI kA adK adV G H nC nS o0 p3 u31 ta u32 hT hr_o0 m33 m35 hr_ta (by have q8 := ti_all u31; omega) m34 (by omega) (by omega)) (cwV 1 hts (goodIn_app (goodIn_r _ [4, 5, 6, 7] rfl (by decide +kernel)) (goodIn_ca (goodIn_r _ [2, 3, 1] rfl (by decide +kernel)) (bs2_in _ _))) rfl rfl rfl (by decide +kernel) ⟨(Nat.le_of_ble_eq_true rfl), (Nat.le_of_ble_eq_true rfl)⟩) ⟨fun a U g mk q => by obtain ⟨q0, q1, qK, qE⟩ := q; exact ⟨q0, q1, va_K.moved (u := U) (U := U.calling g mk a) (Vm.Alike.refl U.vm) qK, EVC.blind g mk a qE⟩, gH_rc hK hT hr_o0 shc_14 rfl, fun U hU hW => ⟨rfl, hU, va_K.moved hW.alike hK, hE.call hS hFc hU hW⟩⟩ rfl rfl hl.1 rfl (lv_room (Nat.le_of_ble_eq_true rfl)) dX11_feed_33 ⟨(Nat.le_of_ble_eq_true rfl), (Nat.le_of_ble_eq_true rfl)⟩) hS (fun q _ h => hFc q h) hFc (fun u t H locs ht hvm hw42 hB _ _ hS => ?_)
    obtain ⟨u43, u44⟩ := u
    obtain ⟨hT, hF1, m45, m46⟩ := hB
    rw [ht] at hT hF1 m45 m46
    have m47 := (hF1.fld hr_o0 skc_14 (k := 0) (by decide) (by decide)).trans m35
    have hF := hF.more hF1 (by decide)
    try dsimp only at hw42
    obtain ⟨h50, hf51, hf52⟩ := hw42
    refine lv_aload_n hx hb dX11_feed_36 rfl (lv_at hl 0 rfl) ?_
    refine lv_iload hx hb dX11_feed_37 (lv_at hl 5 rfl) ?_
    have hFc := gA_free hG hA hS
    refine va_callv (va_runV (As := [.int p4]) (rest := []) ⟨hx, hb, hml, hown, hts⟩ (c_feedOneC l dC dI kA adK adV G H nC nS o0 p4 u43 ta u44 hT hr_o0 m45 m47 hr_ta (by have q8 := ti_all u43; omega) m46 (by omega) (by omega)) (cwV 1 hts (goodIn_app (goodIn_r _ [4, 5, 6, 7] rfl (by decide +kernel)) (goodIn_ca (goodIn_r _ [2, 3, 1] rfl (by decide +kernel)) (bs2_in _ _))) rfl rfl rfl (by decide +kernel) ⟨(Nat.le_of_ble_eq_true rfl), (Nat.le_of_ble_eq_true rfl)⟩) ⟨fun a U g mk q => by obtain ⟨q0, q1, qK, qE⟩ := q; exact ⟨q0, q1, va_K.moved (u := U) (U := U.calling g mk a) (Vm.Alike.refl U.vm) qK, EVC.blind g mk a qE⟩, gH_rc hK hT hr_o0 shc_14 rfl, fun U hU hW => ⟨rfl, hU, va_K.moved hW.alike hK, hE.call hS hFc hU hW⟩⟩ rfl rfl hl.1 rfl (lv_room (Nat.le_of_ble_eq_true rfl)) dX11_feed_39 ⟨(Nat.le_of_ble_eq_true rfl), (Nat.le_of_ble_eq_true rfl)⟩) hS (fun q _ h => hFc q h) hFc (fun u t H locs ht hvm hw54 hB _ _ hS => ?_)
    obtain ⟨u55, u56⟩ := u
    obtain ⟨hT, hF1, m57, m58⟩ := hB
    rw [ht] at hT hF1 m57 m58
    have hF := hF.more hF1 (by decide)
    try dsimp only at hw54
    obtain ⟨h62, hf63, hf64⟩ := hw54
    refine lv_aload_n hx hb dX11_feed_42 rfl (lv_at hl 0 rfl) ?_
    refine tw_getM (v := .int u55) hx hb hts bF2_X11 hown hK hT hr_o0 shc_14 rfl 7 (by decide) (ht_at2 hts 0 rfl) (fun _ h9 => h9) m57 dX11_feed_43 ?_
    exact W.iret (v := u55) hx hb hr (fun t ht hW => ⟨⟨u55, (u55, u56), rfl, (by exact ⟨(by have q8 := ti_all u55; omega), (Or.inl ⟨by omega, by omega, by omega, (by have := tn_of (show tn.toInt = tn.toInt from rfl) (by omega); have := tn_of (show u7.toInt = u7.toInt from rfl) (by omega); have := tn_of (show u19.toInt = u19.toInt from rfl) (by omega); have := tn_of (show u31.toInt = u31.toInt from rfl) (by omega); have := tn_of (show u43.toInt = u43.toInt from rfl) (by omega); have i1 : u7.toNatClampNeg = tn.toNatClampNeg + 4 := (by omega); have i2 : u19.toNatClampNeg = tn.toNatClampNeg + 8 := (by omega); have i3 : u31.toNatClampNeg = tn.toNatClampNeg + 12 := (by omega); have i4 : u43.toNatClampNeg = tn.toNatClampNeg + 16 := (by omega); (try dsimp only); rw [hf64, hf52, hf40, hf28, hf16, i1, i2, i3, i4]; rfl)⟩)⟩), by (try dsimp only); rw [ht]; exact ⟨hT, hF, m57, m58⟩⟩, hS.F ht⟩) hS.2.2 dX11_feed_46
  · have t65 : 400 < x1.toInt := ti_nle c3 rfl (by decide)
    refine lv_iconst (v := (-1)) hx hb dX11_feed_13 (by decide) ?_
    exact W.iret (v := (-1)) hx hb hr (fun t ht hW => ⟨⟨(-1), (tn, vc), rfl, (by exact ⟨(rg_t (a := (-1)) (by decide) (by first | decide | omega) (by first | decide | omega)), (Or.inr ⟨by omega, by have q0 : (0 : Int32).toInt = 0 := (by decide); have q1 : (1 : Int32).toInt = 1 := (by decide); have qm : (-1 : Int32).toInt = -1 := (by decide); omega, by omega, rfl⟩)⟩), by (try dsimp only); rw [ht]; exact ⟨hT, hF, hm_tn, hc_vc⟩⟩, hS.F ht⟩) hS.2.2 dX11_feed_14
def w_c_endC : List Cond := .code yX11_end cX11_end 2 (some .boolean) :: (HAppend.hAppend (α := List Cond) (β := List Cond) (γ := List Cond) [.fieldLink RX11 47 "SeaLand" "taped" "I"] bs2)
set_option maxHeartbeats 4000000 in
set_option maxRecDepth 100000 in
theorem c_endC (l : Launch) (dC : Nat → ClassId) (dI : Nat → Nat → Nat) (kA : Nat → ClassId) (adK adV : Nat → Nat) (G : gT) (H0 : Heap) (nC nS : Int) (o0 : Nat) (p0 : Int32) (tn : Int32)  (hT : gH (dC, dI) kA (SHc nC nS) G H0) (hr_o0 : G o0 = some 14) (hm_tn : el H0 o0 (dI 14 7) = some (.int tn)) (hq0 : 0 ≤ tn.toInt ∧ tn.toInt ≤ 400) (hgC : 0 ≤ nC ∧ nC ≤ 40) (hgS : 0 ≤ nS ∧ nS ≤ 60) : Met l yX11_end w_c_endC ({ frames := 0, cells := 0, slots := 0, locals := 0 }) (va_Pc [.ref o0, .int p0] (fun U => U.heap = H0 ∧ va_K (dC, dI) vwCl (tyl kA) U ∧ EVC adK adV (gA G H0.size) U U.heap)) (va_Qi (fun (r : Int32) (u : Int32) => (0 ≤ r.toInt ∧ r.toInt ≤ 1) ∧ ((0 ≤ p0.toInt ∧ p0.toInt ≤ tn.toInt ∧ r.toInt = 1 ∧ u.toInt = p0.toInt) ∨ (¬ (0 ≤ p0.toInt ∧ p0.toInt ≤ tn.toInt) ∧ r.toInt = 0 ∧ u.toInt = tn.toInt))) (fun (t1 : Int32) (t : State) => gH (dC, dI) kA (SHc nC nS) G t.heap ∧ gF (dC, dI) SKc G ([(14, 7)] : List (Nat × Nat)) H0 t.heap ∧ el t.heap o0 (dI 14 7) = some (.int t1)) (gA G H0.size)) 0 0 (gA G H0.size) := by
  refine Met.ofW (cc := cX11_end) (maxL := 2) (ret := (some .boolean)) (by decide) rfl ?_
  intro p e s m args below meth c s₁ B hml hv
  obtain ⟨rfl, hH0, hK, hE⟩ := hv
  have hx := B.exec
  have hb := B.bytes
  have hr := B.returns
  have hts := atoms_spec (ws := w_c_endC) B.pre
  have hown : s.vm.findClass RX11 = some m.cls := findClass_of_methodNamed B.named
  have hlocks := B.notSynchronized
  subst hH0
  generalize hAe : gA G s.heap.size = A at hE ⊢
  have hA : ∀ q : Nat, s.heap.size ≤ q → A q := fun q h => by rw [← hAe]; exact Or.inr h
  have hG := gA_of hAe
  have hS : va_S A s.heap s.heap [] := va_S.rf
  have hF : gF (dC, dI) SKc G ([(14, 7)] : List (Nat × Nat)) s.heap s.heap := gF.rf
  have hl := lv_entry ([.ref o0, .int p0]) (n := 2) (Nat.le_of_ble_eq_true rfl)
  rw [lg_entry_eq]
  generalize (lg_sl ([.ref o0, .int p0]) ++ List.replicate (2 - (lg_sl ([.ref o0, .int p0])).length) Slot.unset).toArray = ls at hl ⊢
  have hl : lv_has ls 2 [(0, .ref o0), (1, .int p0)] := hl
  refine lv_iload_n hx hb dX11_end_0 rfl (lv_at hl 1 rfl) ?_
  have t1 : -2147483648 ≤ p0.toInt ∧ p0.toInt ≤ 2147483647 := ti_all p0
  refine lv_if_lt (tgt := 12) hx hb dX11_end_1 (by decide) (fun c2 => ?_) (fun c2 => ?_)
  · have t3 : p0.toInt < 0 := ti_lt c2 rfl (by decide)
    refine lv_iconst (v := 0) hx hb dX11_end_12 (by decide) ?_
    exact W.zret (v := 0) hx hb hr (by decide) (fun t ht hW => ⟨⟨0, tn, rfl, (by exact ⟨(rg_t (a := 0) (by decide) (by first | decide | omega) (by first | decide | omega)), (by have : (0 : Int32).toInt = 0 := (by decide); omega)⟩), by (try dsimp only); rw [ht]; exact ⟨hT, hF, hm_tn⟩⟩, hS.F ht⟩) hS.2.2 dX11_end_13
  · have t4 : 0 ≤ p0.toInt := ti_nlt c2 rfl (by decide)
    refine lv_iload_n hx hb dX11_end_4 rfl (lv_at hl 1 rfl) ?_
    refine lv_aload_n hx hb dX11_end_5 rfl (lv_at hl 0 rfl) ?_
    refine tw_getM (v := .int tn) hx hb hts bF2_X11 hown hK hT hr_o0 shc_14 rfl 7 (by decide) (ht_at2 hts 0 rfl) (fun _ h9 => h9) hm_tn dX11_end_6 ?_
    refine lv_icmp_le (tgt := 14) hx hb dX11_end_9 (by decide) (fun c5 => ?_) (fun c5 => ?_)
    · have t6 : p0.toInt ≤ tn.toInt := ti_le c5 rfl rfl
      refine lv_aload_n hx hb dX11_end_14 rfl (lv_at hl 0 rfl) ?_
      refine lv_iload_n hx hb dX11_end_15 rfl (lv_at hl 1 rfl) ?_
      refine tw_put (v := .int p0) (ty := .int) hx hb hts bF2_X11 tyX11 tyX11_ok nmX11 hown hK hT hG hS hr_o0 shc_14 rfl 7 (by decide) (ht_at2 hts 0 rfl) (fun _ h9 => h9) rfl (by decide +kernel) rfl rfl (gl_at rfl (gi_of (show p0.toInt = p0.toInt from rfl) (by omega) (by omega))) dX11_end_16 (fun H locs hT oq m7 oj hS => ?_)
      have hF := hF.put hr_o0 skc_14 oq oj (by decide)
      refine lv_iconst (v := 1) hx hb dX11_end_19 (by decide) ?_
      exact W.zret (v := 1) hx hb hr (by decide) (fun t ht hW => ⟨⟨1, p0, rfl, (by exact ⟨(rg_t (a := 1) (by decide) (by first | decide | omega) (by first | decide | omega)), (by have : (1 : Int32).toInt = 1 := (by decide); omega)⟩), by (try dsimp only); rw [ht]; exact ⟨hT, hF, m7⟩⟩, hS.F ht⟩) hS.2.2 dX11_end_20
    · have t8 : tn.toInt < p0.toInt := ti_nle c5 rfl rfl
      refine lv_iconst (v := 0) hx hb dX11_end_12 (by decide) ?_
      exact W.zret (v := 0) hx hb hr (by decide) (fun t ht hW => ⟨⟨0, tn, rfl, (by exact ⟨(rg_t (a := 0) (by decide) (by first | decide | omega) (by first | decide | omega)), (by have : (0 : Int32).toInt = 0 := (by decide); omega)⟩), by (try dsimp only); rw [ht]; exact ⟨hT, hF, hm_tn⟩⟩, hS.F ht⟩) hS.2.2 dX11_end_13
def w_c_faultC : List Cond := .code yX11_fault cX11_fault 1 (some .int) :: (HAppend.hAppend (α := List Cond) (β := List Cond) (γ := List Cond) [.fieldLink RX11 30 "SeaLand" "board" "LSeaLand$Board;"] bs2)
set_option maxHeartbeats 4000000 in
set_option maxRecDepth 100000 in
theorem c_faultC (l : Launch) (dC : Nat → ClassId) (dI : Nat → Nat → Nat) (kA : Nat → ClassId) (adK adV : Nat → Nat) (G : gT) (H0 : Heap) (nC nS : Int) (o0 : Nat) (bd : Nat) (fa : Int32)  (hT : gH (dC, dI) kA (SHc nC nS) G H0) (hr_o0 : G o0 = some 14) (hm_bd : el H0 o0 (dI 14 3) = some (.ref bd)) (hr_bd : G bd = some 3) (hm_fa : el H0 bd (dI 3 10) = some (.int fa)) (hgC : 0 ≤ nC ∧ nC ≤ 40) (hgS : 0 ≤ nS ∧ nS ≤ 60) : Met l yX11_fault w_c_faultC ({ frames := 0, cells := 0, slots := 0, locals := 0 }) (va_Pc [.ref o0] (fun U => U.heap = H0 ∧ va_K (dC, dI) vwCl (tyl kA) U ∧ EVC adK adV (gA G H0.size) U U.heap)) (va_Qi (fun (r : Int32) (u : Unit) => (r = fa)) (fun (_ : Unit) (t : State) => gH (dC, dI) kA (SHc nC nS) G t.heap ∧ gF (dC, dI) SKc G ([] : List (Nat × Nat)) H0 t.heap) (gA G H0.size)) 0 0 (gA G H0.size) := by
  refine Met.ofW (cc := cX11_fault) (maxL := 1) (ret := (some .int)) (by decide) rfl ?_
  intro p e s m args below meth c s₁ B hml hv
  obtain ⟨rfl, hH0, hK, hE⟩ := hv
  have hx := B.exec
  have hb := B.bytes
  have hr := B.returns
  have hts := atoms_spec (ws := w_c_faultC) B.pre
  have hown : s.vm.findClass RX11 = some m.cls := findClass_of_methodNamed B.named
  have hlocks := B.notSynchronized
  subst hH0
  generalize hAe : gA G s.heap.size = A at hE ⊢
  have hA : ∀ q : Nat, s.heap.size ≤ q → A q := fun q h => by rw [← hAe]; exact Or.inr h
  have hG := gA_of hAe
  have hS : va_S A s.heap s.heap [] := va_S.rf
  have hF : gF (dC, dI) SKc G ([] : List (Nat × Nat)) s.heap s.heap := gF.rf
  have hl := lv_entry ([.ref o0]) (n := 1) (Nat.le_of_ble_eq_true rfl)
  rw [lg_entry_eq]
  generalize (lg_sl ([.ref o0]) ++ List.replicate (1 - (lg_sl ([.ref o0])).length) Slot.unset).toArray = ls at hl ⊢
  have hl : lv_has ls 1 [(0, .ref o0)] := hl
  refine lv_aload_n hx hb dX11_fault_0 rfl (lv_at hl 0 rfl) ?_
  refine tw_getM (v := .ref bd) hx hb hts bF2_X11 hown hK hT hr_o0 shc_14 rfl 3 (by decide) (ht_at2 hts 0 rfl) (fun _ h9 => h9) hm_bd dX11_fault_1 ?_
  refine tw_getNM (v := .int fa) hx hb hts bF2_X0 hown hK hT hr_bd shc_3 rfl 10 (by decide) (hE.nw 25 rfl) (fun _ h9 => h9) hm_fa dX11_fault_4 ?_
  exact W.iret (v := fa) hx hb hr (fun t ht hW => ⟨⟨fa, (), rfl, (by exact rfl), by (try dsimp only); rw [ht]; exact ⟨hT, hF⟩⟩, hS.F ht⟩) hS.2.2 dX11_fault_7
def w_c_X7_initZ : List Cond := .code yX7_init cX7_init 8 none :: (HAppend.hAppend (α := List Cond) (β := List Cond) (γ := List Cond) [.methodLink RX7 3 objectInit, .instanceMethod objectInit, .code objectInit ⟨#[0xb1]⟩ 1 none, .fieldLink RX7 9 "SeaLand$Settler" "farm" "I", .fieldLink RX7 15 "SeaLand$Settler" "age" "I", .fieldLink RX7 18 "SeaLand$Settler" "sons" "I", .fieldLink RX7 21 "SeaLand$Settler" "coin" "I", .fieldLink RX7 24 "SeaLand$Settler" "cattle" "I", .fieldLink RX7 27 "SeaLand$Settler" "kin" "Z", .fieldLink RX7 31 "SeaLand$Settler" "board" "Z", .fieldLink RX7 34 "SeaLand$Settler" "drawn" "I"] bs2)
set_option maxHeartbeats 4000000 in
set_option maxRecDepth 100000 in
theorem c_X7_initZ (l : Launch) (dC : Nat → ClassId) (dI : Nat → Nat → Nat) (kA : Nat → ClassId) (adK adV : Nat → Nat) (G : gT) (H0 : Heap) (nC nS : Int) (o0 : Nat) (p0 : Int32) (p1 : Int32) (p2 : Int32) (p3 : Int32) (p4 : Int32) (p5 : Int32) (p6 : Int32)  (hT : gH (dC, dI) kA (SHc nC nS) G H0) (hr_o0 : G o0 = some 110) (hq0 : 0 ≤ p4.toInt ∧ p4.toInt ≤ 1) (hq1 : 0 ≤ p5.toInt ∧ p5.toInt ≤ 1) (hgC : 0 ≤ nC ∧ nC ≤ 40) (hgS : 0 ≤ nS ∧ nS ≤ 60) : Met l yX7_init w_c_X7_initZ ({ frames := 1, cells := 0, slots := 0, locals := 30 }) (va_Pc [.ref o0, .int p0, .int p1, .int p2, .int p3, .int p4, .int p5, .int p6] (fun U => U.heap = H0 ∧ va_K (dC, dI) vwCl (tyl kA) U ∧ EVC adK adV (gA G H0.size) U U.heap)) (va_Qv (fun (u : Unit) => True) (fun (_ : Unit) (t : State) => gH (dC, dI) kA (SHc nC nS) G t.heap ∧ gF (dC, dI) SKc G ([(110, 0), (110, 1), (110, 2), (110, 3), (110, 4), (110, 5), (110, 6), (110, 7)] : List (Nat × Nat)) H0 t.heap ∧ el t.heap o0 (dI 10 0) = some (.int p0) ∧ el t.heap o0 (dI 10 1) = some (.int p1) ∧ el t.heap o0 (dI 10 6) = some (.int p2) ∧ el t.heap o0 (dI 10 2) = some (.int p3) ∧ el t.heap o0 (dI 10 3) = some (.int p4) ∧ el t.heap o0 (dI 10 4) = some (.int p5) ∧ el t.heap o0 (dI 10 7) = some (.int (-1))) (gA G H0.size)) 0 0 (gA G H0.size) := by
  refine Met.ofW (cc := cX7_init) (maxL := 8) (ret := none) (by decide) rfl ?_
  intro p e s m args below meth c s₁ B hml hv
  obtain ⟨rfl, hH0, hK, hE⟩ := hv
  have hx := B.exec
  have hb := B.bytes
  have hr := B.returns
  have hts := atoms_spec (ws := w_c_X7_initZ) B.pre
  have hown : s.vm.findClass RX7 = some m.cls := findClass_of_methodNamed B.named
  have hlocks := B.notSynchronized
  have hin : meth.name = "<init>" := (name_of_methodNamed B.named B.method).1
  subst hH0
  generalize hAe : gA G s.heap.size = A at hE ⊢
  have hA : ∀ q : Nat, s.heap.size ≤ q → A q := fun q h => by rw [← hAe]; exact Or.inr h
  have hG := gA_of hAe
  have hS : va_S A s.heap s.heap [] := va_S.rf
  have hF : gF (dC, dI) SKc G ([(110, 0), (110, 1), (110, 2), (110, 3), (110, 4), (110, 5), (110, 6), (110, 7)] : List (Nat × Nat)) s.heap s.heap := gF.rf
  have hl := lv_entry ([.ref o0, .int p0, .int p1, .int p2, .int p3, .int p4, .int p5, .int p6]) (n := 8) (Nat.le_of_ble_eq_true rfl)
  rw [lg_entry_eq]
  generalize (lg_sl ([.ref o0, .int p0, .int p1, .int p2, .int p3, .int p4, .int p5, .int p6]) ++ List.replicate (8 - (lg_sl ([.ref o0, .int p0, .int p1, .int p2, .int p3, .int p4, .int p5, .int p6])).length) Slot.unset).toArray = ls at hl ⊢
  have hl : lv_has ls 8 [(0, .ref o0), (1, .int p0), (2, .int p1), (3, .int p2), (4, .int p3), (5, .int p4), (6, .int p5), (7, .int p6)] := hl
  refine lv_aload_n hx hb dX7_init_0 rfl (lv_at hl 0 rfl) ?_
  refine W.objInit hx hb hown (ht_at2 hts 0 rfl) (ht_at2 hts 1 rfl) (ht_at2 hts 2 rfl) rfl (by rw [hml]; exact hl.1) rfl dX7_init_1 (Nat.le_of_ble_eq_true rfl) (Nat.le_of_ble_eq_true rfl) ?_
  refine W.eq (g2 := F0 m 4 ls []) rfl ?_
  refine lv_aload_n hx hb dX7_init_4 rfl (lv_at hl 0 rfl) ?_
  refine lv_iconst (v := (-1)) hx hb dX7_init_5 (by decide) ?_
  refine tw_put (v := .int (-1)) (ty := .int) hx hb hts bF2_X7 tyX7 tyX7_ok nmX7 hown hK hT hG hS hr_o0 shc_110 rfl 7 (by decide) (ht_at2 hts 3 rfl) (fun _ h9 => h9) rfl (by decide +kernel) rfl rfl (gl_at rfl (gi_of (show (-1 : Int32).toInt = (-1) from (by decide)) (by first | decide | omega) (by first | decide | omega))) dX7_init_6 (fun H locs hT oq m1 oj hS => ?_)
  have hF := hF.put hr_o0 skc_110 oq oj (by decide)
  refine lv_aload_n hx hb dX7_init_9 rfl (lv_at hl 0 rfl) ?_
  refine lv_iload_n hx hb dX7_init_10 rfl (lv_at hl 1 rfl) ?_
  refine tw_putF (v := .int p0) (ty := .int) hx hb hts bF2_X7 tyX7 tyX7_ok nmX7 hown hK hT hG hS hr_o0 shc_110 rfl 0 (by decide) (ht_at2 hts 4 rfl) (fun _ h9 => h9) rfl hin rfl (by decide +kernel) rfl rfl (gl_at rfl (gi_all _)) dX7_init_11 (fun H locs hT oq m2 oj hS => ?_)
  have hF := hF.put hr_o0 skc_110 oq oj (by decide)
  have m3 := (oj 7 (by decide) (by decide)).trans m1
  refine lv_aload_n hx hb dX7_init_14 rfl (lv_at hl 0 rfl) ?_
  refine lv_iload_n hx hb dX7_init_15 rfl (lv_at hl 2 rfl) ?_
  refine tw_putF (v := .int p1) (ty := .int) hx hb hts bF2_X7 tyX7 tyX7_ok nmX7 hown hK hT hG hS hr_o0 shc_110 rfl 1 (by decide) (ht_at2 hts 5 rfl) (fun _ h9 => h9) rfl hin rfl (by decide +kernel) rfl rfl (gl_at rfl (gi_all _)) dX7_init_16 (fun H locs hT oq m4 oj hS => ?_)
  have hF := hF.put hr_o0 skc_110 oq oj (by decide)
  have m5 := (oj 7 (by decide) (by decide)).trans m3
  have m6 := (oj 0 (by decide) (by decide)).trans m2
  refine lv_aload_n hx hb dX7_init_19 rfl (lv_at hl 0 rfl) ?_
  refine lv_iload_n hx hb dX7_init_20 rfl (lv_at hl 3 rfl) ?_
  refine tw_put (v := .int p2) (ty := .int) hx hb hts bF2_X7 tyX7 tyX7_ok nmX7 hown hK hT hG hS hr_o0 shc_110 rfl 6 (by decide) (ht_at2 hts 6 rfl) (fun _ h9 => h9) rfl (by decide +kernel) rfl rfl (gl_at rfl (gi_all _)) dX7_init_21 (fun H locs hT oq m7 oj hS => ?_)
  have hF := hF.put hr_o0 skc_110 oq oj (by decide)
  have m8 := (oj 7 (by decide) (by decide)).trans m5
  have m9 := (oj 0 (by decide) (by decide)).trans m6
  have m10 := (oj 1 (by decide) (by decide)).trans m4
  refine lv_aload_n hx hb dX7_init_24 rfl (lv_at hl 0 rfl) ?_
  refine lv_iload hx hb dX7_init_25 (lv_at hl 4 rfl) ?_
  refine tw_putF (v := .int p3) (ty := .int) hx hb hts bF2_X7 tyX7 tyX7_ok nmX7 hown hK hT hG hS hr_o0 shc_110 rfl 2 (by decide) (ht_at2 hts 7 rfl) (fun _ h9 => h9) rfl hin rfl (by decide +kernel) rfl rfl (gl_at rfl (gi_all _)) dX7_init_27 (fun H locs hT oq m11 oj hS => ?_)
  have hF := hF.put hr_o0 skc_110 oq oj (by decide)
  have m12 := (oj 7 (by decide) (by decide)).trans m8
  have m13 := (oj 0 (by decide) (by decide)).trans m9
  have m14 := (oj 1 (by decide) (by decide)).trans m10
  have m15 := (oj 6 (by decide) (by decide)).trans m7
  refine lv_aload_n hx hb dX7_init_30 rfl (lv_at hl 0 rfl) ?_
  refine lv_iload hx hb dX7_init_31 (lv_at hl 5 rfl) ?_
  refine tw_putF (v := .int p4) (ty := .boolean) hx hb hts bF2_X7 tyX7 tyX7_ok nmX7 hown hK hT hG hS hr_o0 shc_110 rfl 3 (by decide) (ht_at2 hts 8 rfl) (fun _ h9 => h9) rfl hin rfl (by decide +kernel) (nar_b (by have q8 := ti_all p4; omega)) (fit_b (by have q8 := ti_all p4; omega)) (gl_at rfl (gi_of (show p4.toInt = p4.toInt from rfl) (by omega) (by omega))) dX7_init_33 (fun H locs hT oq m16 oj hS => ?_)
  have hF := hF.put hr_o0 skc_110 oq oj (by decide)
  have m17 := (oj 7 (by decide) (by decide)).trans m12
  have m18 := (oj 0 (by decide) (by decide)).trans m13
  have m19 := (oj 1 (by decide) (by decide)).trans m14
  have m20 := (oj 6 (by decide) (by decide)).trans m15
  have m21 := (oj 2 (by decide) (by decide)).trans m11
  refine lv_aload_n hx hb dX7_init_36 rfl (lv_at hl 0 rfl) ?_
  refine lv_iload hx hb dX7_init_37 (lv_at hl 6 rfl) ?_
  refine tw_putF (v := .int p5) (ty := .boolean) hx hb hts bF2_X7 tyX7 tyX7_ok nmX7 hown hK hT hG hS hr_o0 shc_110 rfl 4 (by decide) (ht_at2 hts 9 rfl) (fun _ h9 => h9) rfl hin rfl (by decide +kernel) (nar_b (by have q8 := ti_all p5; omega)) (fit_b (by have q8 := ti_all p5; omega)) (gl_at rfl (gi_of (show p5.toInt = p5.toInt from rfl) (by omega) (by omega))) dX7_init_39 (fun H locs hT oq m22 oj hS => ?_)
  have hF := hF.put hr_o0 skc_110 oq oj (by decide)
  have m23 := (oj 7 (by decide) (by decide)).trans m17
  have m24 := (oj 0 (by decide) (by decide)).trans m18
  have m25 := (oj 1 (by decide) (by decide)).trans m19
  have m26 := (oj 6 (by decide) (by decide)).trans m20
  have m27 := (oj 2 (by decide) (by decide)).trans m21
  have m28 := (oj 3 (by decide) (by decide)).trans m16
  refine lv_aload_n hx hb dX7_init_42 rfl (lv_at hl 0 rfl) ?_
  refine lv_iload hx hb dX7_init_43 (lv_at hl 7 rfl) ?_
  refine tw_putF (v := .int p6) (ty := .int) hx hb hts bF2_X7 tyX7 tyX7_ok nmX7 hown hK hT hG hS hr_o0 shc_110 rfl 5 (by decide) (ht_at2 hts 10 rfl) (fun _ h9 => h9) rfl hin rfl (by decide +kernel) rfl rfl (gl_at rfl (gi_all _)) dX7_init_45 (fun H locs hT oq m29 oj hS => ?_)
  have hF := hF.put hr_o0 skc_110 oq oj (by decide)
  have m30 := (oj 7 (by decide) (by decide)).trans m23
  have m31 := (oj 0 (by decide) (by decide)).trans m24
  have m32 := (oj 1 (by decide) (by decide)).trans m25
  have m33 := (oj 6 (by decide) (by decide)).trans m26
  have m34 := (oj 2 (by decide) (by decide)).trans m27
  have m35 := (oj 3 (by decide) (by decide)).trans m28
  have m36 := (oj 4 (by decide) (by decide)).trans m22
  exact W.vret hx hb hr (fun t ht hW => ⟨⟨(), rfl, (by exact trivial), by (try dsimp only); rw [ht]; exact ⟨hT, hF, m31, m32, m33, m34, m35, m36, m30⟩⟩, hS.F ht⟩) hS.2.2 dX7_init_48
def w_c_settleZ : List Cond := .code yX0_settle cX0_settle 2 (some .int) :: (HAppend.hAppend (α := List Cond) (β := List Cond) (γ := List Cond) [.fieldLink RX0 11 "SeaLand$Board" "settlers" "[LSeaLand$Settler;", .fieldLink RX0 75 "SeaLand$Board" "settled" "I"] bs2)
set_option maxHeartbeats 4000000 in
set_option maxRecDepth 100000 in
theorem c_settleZ (l : Launch) (dC : Nat → ClassId) (dI : Nat → Nat → Nat) (kA : Nat → ClassId) (adK adV : Nat → Nat) (G : gT) (H0 : Heap) (nC nS : Int) (o0 : Nat) (sl : Nat) (wa : Nat) (hT : gH (dC, dI) kA (SHc nC nS) G H0) (hr_sl : G sl = some 10) (hr_o0 : G o0 = some 3) (hu_o : ∀ b, G b = some 3 → b = o0) (hu_a : ∀ b, G b = some 51 → b = wa) (hn_s : nS ≤ 59) (hgC : 0 ≤ nC ∧ nC ≤ 40) (hgS : 0 ≤ nS ∧ nS ≤ 60) : Met l yX0_settle w_c_settleZ ({ frames := 0, cells := 0, slots := 0, locals := 0 }) (va_Pc [.ref o0, .ref sl] (fun U => U.heap = H0 ∧ va_K (dC, dI) vwCl (tyl kA) U ∧ EVC adK adV (gA G H0.size) U U.heap)) (va_Qi (fun (r : Int32) (u : Unit) => (0 ≤ r.toInt ∧ r.toInt ≤ 59) ∧ (r.toInt = nS)) (fun (_ : Unit) (t : State) => gH (dC, dI) kA (SHc nC (nS + 1)) G t.heap ∧ gF (dC, dI) SKc G ([(3, 14), (51, 0)] : List (Nat × Nat)) H0 t.heap ∧ (el t.heap wa nS.toNat = some (.ref sl) ∧ ∀ k : Nat, k ≠ nS.toNat → el t.heap wa k = el H0 wa k)) (gA G H0.size)) 0 0 (gA G H0.size) := by
  refine Met.ofW (cc := cX0_settle) (maxL := 2) (ret := (some .int)) (by decide) rfl ?_
  intro p e s m args below meth c s₁ B hml hv
  obtain ⟨rfl, hH0, hK, hE⟩ := hv
  have hx := B.exec
  have hb := B.bytes
  have hr := B.returns
  have hts := atoms_spec (ws := w_c_settleZ) B.pre
  have hown : s.vm.findClass RX0 = some m.cls := findClass_of_methodNamed B.named
  have hlocks := B.notSynchronized
  subst hH0
  generalize hAe : gA G s.heap.size = A at hE ⊢
  have hA : ∀ q : Nat, s.heap.size ≤ q → A q := fun q h => by rw [← hAe]; exact Or.inr h
  have hG := gA_of hAe
  have hS : va_S A s.heap s.heap [] := va_S.rf
  have hF : gF (dC, dI) SKc G ([(3, 14), (51, 0)] : List (Nat × Nat)) s.heap s.heap := gF.rf
  have hl := lv_entry ([.ref o0, .ref sl]) (n := 2) (Nat.le_of_ble_eq_true rfl)
  rw [lg_entry_eq]
  generalize (lg_sl ([.ref o0, .ref sl]) ++ List.replicate (2 - (lg_sl ([.ref o0, .ref sl])).length) Slot.unset).toArray = ls at hl ⊢
  have hl : lv_has ls 2 [(0, .ref o0), (1, .ref sl)] := hl
  refine lv_aload_n hx hb dX0_settle_0 rfl (lv_at hl 0 rfl) ?_
  refine tw_get hx hb hts bF2_X0 hown hK hT hr_o0 shc_3 rfl 0 (by decide) (ht_at2 hts 0 rfl) (fun _ h9 => h9) dX0_settle_1 (fun v9 m1 h9 => ?_)
  obtain ⟨b2, rfl, hg3⟩ := h9 _ rfl
  refine lv_aload_n hx hb dX0_settle_4 rfl (lv_at hl 0 rfl) ?_
  refine tw_get hx hb hts bF2_X0 hown hK hT hr_o0 shc_3 rfl 14 (by decide) (ht_at2 hts 1 rfl) (fun _ h9 => h9) dX0_settle_5 (fun v9 m4 h9 => ?_)
  obtain ⟨x5, rfl, gx5, kx5⟩ := h9 _ rfl
  refine lv_aload_n hx hb dX0_settle_8 rfl (lv_at hl 1 rfl) ?_
  refine tw_aast (C := RX7) (i := x5) hx hb hK hT hG hS hg3 shc_51 rfl hr_sl shc_10 rfl (vin_t (a := x5.toInt) rfl (by omega) (by omega)) ⟨fun _ => ⟨_, rfl, hr_sl⟩, ⟨some _, rfl, fun _ h => by cases h; exact hr_sl⟩⟩ dX0_settle_9 (fun H locs hT oq m6 oi hS => ?_)
  have hF := hF.ast hg3 skc_51 oq (by decide)
  have m8 := (el_kept (oq _ (gne hr_o0 hg3 (by decide)))).trans m4
  have az9 : el H wa nS.toNat = some (.ref sl) ∧ ∀ k : Nat, k ≠ nS.toNat → el H wa k = el s.heap wa k := by have w9 := hu_a b2 hg3; have n9 : x5.toNatClampNeg = nS.toNat := (by have q9 := tn_of (show x5.toInt = x5.toInt from rfl) (by omega); omega); rw [n9, w9] at m6 oi; exact ⟨m6, oi⟩
  refine lv_aload_n hx hb dX0_settle_10 rfl (lv_at hl 0 rfl) ?_
  refine lv_dup hx hb dX0_settle_11 rfl ?_
  refine tw_getM (v := .int x5) hx hb hts bF2_X0 hown hK hT hr_o0 shc_3 rfl 14 (by decide) (ht_at2 hts 1 rfl) (fun _ h9 => h9) m8 dX0_settle_12 ?_
  refine lv_iconst (v := 1) hx hb dX0_settle_15 (by decide) ?_
  refine lv_iadd hx hb dX0_settle_16 ?_
  refine lv_topi (fun x9 ex9 => ?_)
  have t10 : x9.toInt = x5.toInt + 1 := ti_add ex9 rfl (by decide) (by omega) (by omega)
  have ho9 : ∀ b u, u ≠ 3 → G b = some u → gC (dC, dI) kA ((SHc nC (nS + 1)) u) G b H := fun b u h1 h2 => by
    by_cases e9 : u = 51
    · subst e9; have e8 := hu_a b h2; subst e8; have h8 := hT _ _ h2; rw [shc_51] at h8 ⊢
      exact gC.gnb1 h8 (k0 := x5.toNatClampNeg) (by have q9 := tn_of (show x5.toInt = x5.toInt from rfl) (by omega); omega) (by rw [← hu_a b2 hg3]; exact m6) hr_sl
    · rw [← shc_oS (nS := nS) h1 e9]; exact hT b u h2
  refine tw_put2 (Sg1 := (SHc nC (nS + 1))) (v := .int x9) (ty := .int) hx hb hts bF2_X0 tyX0 tyX0_ok nmX0 hown hK hT hG hS hr_o0 shc_3 shc_3 rfl 14 (by decide) (ht_at2 hts 1 rfl) (fun _ h9 => h9) rfl (by decide +kernel) rfl rfl (gl_at rfl ⟨_, rfl, by omega, by omega⟩) (fun j v _ hn h9 => gl_set (i := 14) (k := gI (nS + 1) (nS + 1)) hn h9) hu_o ho9 dX0_settle_17 (fun H locs hT oq m11 oj hS => ?_)
  have hF := hF.put hr_o0 skc_3 oq oj (by decide)
  have az9 : el H wa nS.toNat = some (.ref sl) ∧ ∀ k : Nat, k ≠ nS.toNat → el H wa k = el s.heap wa k := by have w9 := hu_a b2 hg3; have k9 := oq b2 (gne hg3 hr_o0 (by decide)); rw [w9] at k9; exact ⟨(el_kept k9).trans az9.1, fun k hk => (el_kept k9).trans (az9.2 k hk)⟩
  refine lv_aload_n hx hb dX0_settle_20 rfl (lv_at hl 0 rfl) ?_
  refine tw_getM (v := .int x9) hx hb hts bF2_X0 hown hK hT hr_o0 shc_3 rfl 14 (by decide) (ht_at2 hts 1 rfl) (fun _ h9 => h9) m11 dX0_settle_21 ?_
  refine lv_iconst (v := 1) hx hb dX0_settle_24 (by decide) ?_
  refine lv_isub hx hb dX0_settle_25 ?_
  refine lv_topi (fun x14 ex14 => ?_)
  have t15 : x14.toInt = x9.toInt - 1 := ti_sub ex14 rfl (by decide) (by omega) (by omega)
  exact W.iret (v := x14) hx hb hr (fun t ht hW => ⟨⟨x14, (), rfl, (by exact ⟨(by have q8 := ti_all x14; omega), (by omega)⟩), by (try dsimp only); rw [ht]; exact ⟨hT, hF, az9⟩⟩, hS.F ht⟩) hS.2.2 dX0_settle_26
def w_c_settlerZ : List Cond := .code yX11_settler cX11_settler 8 (some .int) :: (HAppend.hAppend (α := List Cond) (β := List Cond) (γ := List Cond) [.code yX11_within cX11_within 3 (some .boolean), .methodLink RX11 58 yX11_within, .static yX11_within, .initialized RX11, .code yX11_needNumbers cX11_needNumbers 1 none, .classLink RX11 547 "java/lang/IllegalArgumentException", .initialized "java/lang/IllegalArgumentException", .methodLink RX11 62 yX11_needNumbers, .static yX11_needNumbers, .constant RX11 96 100000, .constant RX11 341 999999, .fieldLink RX11 30 "SeaLand" "board" "LSeaLand$Board;", .classLink RX11 350 RX7, .instantiable RX7 12, .initialized RX7, .code yX7_init cX7_init 8 none, .methodLink RX7 3 objectInit, .instanceMethod objectInit, .code objectInit ⟨#[0xb1]⟩ 1 none, .fieldLink RX7 9 "SeaLand$Settler" "farm" "I", .fieldLink RX7 15 "SeaLand$Settler" "age" "I", .fieldLink RX7 18 "SeaLand$Settler" "sons" "I", .fieldLink RX7 21 "SeaLand$Settler" "coin" "I", .fieldLink RX7 24 "SeaLand$Settler" "cattle" "I", .fieldLink RX7 27 "SeaLand$Settler" "kin" "Z", .fieldLink RX7 31 "SeaLand$Settler" "board" "Z", .fieldLink RX7 34 "SeaLand$Settler" "drawn" "I", .methodLink RX11 352 yX7_init, .instanceMethod yX7_init, .code yX0_settle cX0_settle 2 (some .int), .fieldLink RX0 11 "SeaLand$Board" "settlers" "[LSeaLand$Settler;", .fieldLink RX0 75 "SeaLand$Board" "settled" "I", .methodLink RX11 355 yX0_settle, .instanceMethod yX0_settle, .selects RX0 yX0_settle yX0_settle, .initialized RX0, .classLink RX11 345 "java/lang/UnsupportedOperationException", .initialized "java/lang/UnsupportedOperationException"] bs2)
set_option maxHeartbeats 4000000 in
set_option maxRecDepth 100000 in
theorem c_settlerZ (l : Launch) (hlt : l.stackTraces = false) (dC : Nat → ClassId) (dI : Nat → Nat → Nat) (kA : Nat → ClassId) (adK adV : Nat → Nat) (G : gT) (H0 : Heap) (nC nS : Int) (o0 : Nat) (p0 : Int32) (p1 : Int32) (p2 : Int32) (p3 : Int32) (p4 : Int32) (p5 : Int32) (p6 : Int32) (wa : Nat) (bo : Nat) (hT : gH (dC, dI) kA (SHc nC nS) G H0) (hr_o0 : G o0 = some 14) (hq4 : 0 ≤ p4.toInt ∧ p4.toInt ≤ 1) (hq5 : 0 ≤ p5.toInt ∧ p5.toInt ≤ 1) (hu_o0 : ∀ b, G b = some 3 → b = bo) (hu_a0 : ∀ b, G b = some 51 → b = wa) (hgC : 0 ≤ nC ∧ nC ≤ 40) (hgS : 0 ≤ nS ∧ nS ≤ 60) : vx_Met l yX11_settler w_c_settlerZ ({ frames := 7, cells := 1, slots := 12, locals := 120 }) (va_Pc [.ref o0, .int p0, .int p1, .int p2, .int p3, .int p4, .int p5, .int p6] (fun U => U.heap = H0 ∧ va_K (dC, dI) vwCl (tyl kA) U ∧ EVC adK adV (gA G H0.size) U U.heap)) (va_Qi (fun (r : Int32) (u : gT × Int × Int) => (0 ≤ r.toInt ∧ r.toInt ≤ 59) ∧ ((0 ≤ p0.toInt ∧ p0.toInt ≤ 99 ∧ 0 ≤ p1.toInt ∧ p1.toInt ≤ 20 ∧ 0 ≤ p2.toInt ∧ p2.toInt ≤ 100000 ∧ 0 ≤ p3.toInt ∧ p3.toInt ≤ 100 ∧ 0 ≤ p6.toInt ∧ p6.toInt ≤ 999999) ∧ nS ≤ 59 ∧ r.toInt = nS)) (fun (u : gT × Int × Int) (t : State) => match u with | (G1, n1, n2) => gH (dC, dI) kA (SHc n1 n2) G1 t.heap ∧ gF (dC, dI) SKc G ([(3, 14), (51, 0), (110, 0), (110, 1), (110, 2), (110, 3), (110, 4), (110, 5), (110, 6), (110, 7)] : List (Nat × Nat)) H0 t.heap ∧ gZ ([10, 110] : List Nat) H0.size G G1 ∧ (0 ≤ n1 ∧ n1 ≤ 40) ∧ ((0 ≤ n2 ∧ n2 ≤ 60) ∧ n2 = nS + 1) ∧ (∃ sl : Nat, (el t.heap wa nS.toNat = some (.ref sl) ∧ ∀ k : Nat, k ≠ nS.toNat → el t.heap wa k = el H0 wa k) ∧ zSf dI t.heap sl p0 p1 p2 p3 p4 p5)) (gA G H0.size)) (vx_X (fun _ : Unit => True) (fun E _ t => (E = "java/lang/IllegalArgumentException" ∨ E = "java/lang/UnsupportedOperationException") ∧ ((E = "java/lang/IllegalArgumentException" ∧ ¬ (0 ≤ p0.toInt ∧ p0.toInt ≤ 99 ∧ 0 ≤ p1.toInt ∧ p1.toInt ≤ 20 ∧ 0 ≤ p2.toInt ∧ p2.toInt ≤ 100000 ∧ 0 ≤ p3.toInt ∧ p3.toInt ≤ 100 ∧ 0 ≤ p6.toInt ∧ p6.toInt ≤ 999999)) ∨ (E = "java/lang/UnsupportedOperationException" ∧ ((0 ≤ p0.toInt ∧ p0.toInt ≤ 99 ∧ 0 ≤ p1.toInt ∧ p1.toInt ≤ 20 ∧ 0 ≤ p2.toInt ∧ p2.toInt ≤ 100000 ∧ 0 ≤ p3.toInt ∧ p3.toInt ≤ 100 ∧ 0 ≤ p6.toInt ∧ p6.toInt ≤ 999999) ∧ nS = 60))) ∧ gH (dC, dI) kA (SHc nC nS) G t.heap ∧ gF (dC, dI) SKc G ([(3, 14), (51, 0), (110, 0), (110, 1), (110, 2), (110, 3), (110, 4), (110, 5), (110, 6), (110, 7)] : List (Nat × Nat)) H0 t.heap ∧ (gF (dC, dI) SKc G ([(110, 0), (110, 1), (110, 2), (110, 3), (110, 4), (110, 5), (110, 6), (110, 7), (110, 8), (110, 9), (110, 10), (110, 11)] : List (Nat × Nat)) H0 t.heap)) (gA G H0.size)) 1 12 (gA G H0.size) := by
  refine vx_ofW (cc := cX11_settler) (maxL := 8) (ret := (some .int)) (by decide) rfl ?_
  intro p e s m args below meth c s₁ B hml hnt hv
  obtain ⟨rfl, hH0, hK, hE⟩ := hv
  have hx := B.exec
  have hb := B.bytes
  have hr := B.returns
  have hts := atoms_spec (ws := w_c_settlerZ) B.pre
  have hown : s.vm.findClass RX11 = some m.cls := findClass_of_methodNamed B.named
  have hlocks := B.notSynchronized
  subst hH0
  generalize hAe : gA G s.heap.size = A at hE ⊢
  have hA : ∀ q : Nat, s.heap.size ≤ q → A q := fun q h => by rw [← hAe]; exact Or.inr h
  have hG := gA_of hAe
  have hS : va_S A s.heap s.heap [] := va_S.rf
  have hF : gF (dC, dI) SKc G ([(3, 14), (51, 0), (110, 0), (110, 1), (110, 2), (110, 3), (110, 4), (110, 5), (110, 6), (110, 7)] : List (Nat × Nat)) s.heap s.heap := gF.rf
  have hl := lv_entry ([.ref o0, .int p0, .int p1, .int p2, .int p3, .int p4, .int p5, .int p6]) (n := 8) (Nat.le_of_ble_eq_true rfl)
  rw [lg_entry_eq]
  generalize (lg_sl ([.ref o0, .int p0, .int p1, .int p2, .int p3, .int p4, .int p5, .int p6]) ++ List.replicate (8 - (lg_sl ([.ref o0, .int p0, .int p1, .int p2, .int p3, .int p4, .int p5, .int p6])).length) Slot.unset).toArray = ls at hl ⊢
  have hl : lv_has ls 8 [(0, .ref o0), (1, .int p0), (2, .int p1), (3, .int p2), (4, .int p3), (5, .int p4), (6, .int p5), (7, .int p6)] := hl
  have hG0 := hG
  have hZ : gZ ([10, 110] : List Nat) s.heap.size G G := gZ.rf hT
  have hw0 : G wa = some 51 := by obtain ⟨v9, e9, h9⟩ := gH_fld hT hr_o0 shc_14 (k := 3) (by decide); obtain ⟨b9, -, g9⟩ := h9 _ rfl; obtain ⟨v8, e8, h8⟩ := gH_fld hT g9 shc_3 (k := 0) (by decide); obtain ⟨b8, -, g8⟩ := h8 _ rfl; rw [← hu_a0 b8 g8]; exact g8
  have hF2 : gF (dC, dI) SKc G ([(110, 0), (110, 1), (110, 2), (110, 3), (110, 4), (110, 5), (110, 6), (110, 7), (110, 8), (110, 9), (110, 10), (110, 11)] : List (Nat × Nat)) s.heap s.heap := gF.rf
  refine lv_iload_n hx hb dX11_settler_0 rfl (lv_at hl 1 rfl) ?_
  refine lv_iconst (v := 0) hx hb dX11_settler_1 (by decide) ?_
  refine lv_bipush (v := 99) hx hb dX11_settler_2 (by decide) ?_
  have hFc := gA_free hG hA hS
  refine va_calli (va_runS (As := [.int p0, .int 0, .int 99]) (rest := []) ⟨hx, hb, hml, hown, hts⟩ (c_within l dC dI kA adK adV G s.heap nC nS p0 0 99 hT (by omega) (by omega)) (va_cwS 3 hts (goodIn_app (goodIn_r _ [2, 3, 4] rfl (by decide +kernel)) (goodIn_ca (goodIn_r _ [1] rfl (by decide +kernel)) (bs2_in _ _))) rfl rfl rfl (by decide +kernel) ⟨(Nat.le_of_ble_eq_true rfl), (Nat.le_of_ble_eq_true rfl)⟩) ⟨fun a U g mk q => by obtain ⟨q0, q1, qK, qE⟩ := q; exact ⟨q0, q1, va_K.moved (u := U) (U := U.calling g mk a) (Vm.Alike.refl U.vm) qK, EVC.blind g mk a qE⟩, fun U hU hW => ⟨rfl, hU, va_K.moved hW.alike hK, hE.call hS hFc hU hW⟩⟩ rfl rfl hl.1 rfl (lv_room (Nat.le_of_ble_eq_true rfl)) dX11_settler_4 ⟨(Nat.le_of_ble_eq_true rfl), (Nat.le_of_ble_eq_true rfl)⟩) hS (fun q _ h => hFc q h) hFc (fun r1 u t H locs ht hvm hw2 hB _ _ hS => ?_)
  obtain ⟨hT, hF1⟩ := hB
  rw [ht] at hT hF1
  have hF := hF.more (hF1.sub hZ.1) (by decide)
  have hF2 := hF2.more (hF1.sub hZ.1) (by decide)
  try dsimp only at hw2
  obtain ⟨h3, hi4, hi5⟩ := hw2
  refine lv_if_eq (tgt := 57) hx hb dX11_settler_7 (by decide) (fun c6 => ?_) (fun c6 => ?_)
  · have t7 : r1.toInt = 0 := ti_eq c6 rfl (by decide)
    have t8 : (0 : Int32).toInt = 0 := by decide
    have t9 : (99 : Int32).toInt = 99 := by decide
    have t10 : p0.toInt < (0 : Int32).toInt ∨ (99 : Int32).toInt < p0.toInt := hi5 c6
    refine lv_iconst (v := 0) hx hb dX11_settler_57 (by decide) ?_
    have hFc := gA_free hG hA hS
    refine vx_callN (vx_runS (As := [.int 0]) (rest := []) ⟨hx, hb, hml, hown, hts⟩ (c_needNumbers0 l hlt dC dI kA adK adV G H nC nS hT (by omega) (by omega)) (va_cwS 1 hts (goodIn_app (goodIn_r _ [8, 9, 4] rfl (by decide +kernel)) (goodIn_ca (goodIn_r _ [5, 6, 7] rfl (by decide +kernel)) (bs2_in _ _))) rfl rfl rfl (by decide +kernel) ⟨(Nat.le_of_ble_eq_true rfl), (Nat.le_of_ble_eq_true rfl)⟩) ⟨fun a U g mk q => by obtain ⟨q0, q1, qK, qE⟩ := q; exact ⟨q0, q1, va_K.moved (u := U) (U := U.calling g mk a) (Vm.Alike.refl U.vm) qK, EVC.blind g mk a qE⟩, fun U hU hW => ⟨rfl, hU, va_K.moved hW.alike hK, hE.call hS hFc hU hW⟩⟩ rfl rfl hl.1 rfl (lv_room (Nat.le_of_ble_eq_true rfl)) dX11_settler_58 ⟨(Nat.le_of_ble_eq_true rfl), (Nat.le_of_ble_eq_true rfl)⟩) hS hFc (fun q _ h => hFc q h) (fun E ce q9 u t H locs ht hvm _ hw12 _ _ hS hce hcv hcl => ?_)
    obtain ⟨hw12, hTx, hFx⟩ := hw12; rw [ht] at hTx hFx
    exact vx_out (fun x h => (hnt x h).elim) hlocks hce hcv hcl (fun t2 h2 hW => ⟨(), trivial, ⟨((fun h9 => (Or.inl h9)) hw12), (Or.inl ⟨hw12, (by first | omega | exact hxf.elim)⟩), by rw [h2]; exact hTx, by rw [h2]; exact hF.more hFx (by decide), by rw [h2]; exact hF2.more hFx (by decide)⟩, hS.F h2⟩) hS.2.2 (by decide) (by decide)
  · have t13 : r1.toInt ≠ 0 := ti_ne c6 rfl (by decide)
    have t14 : (0 : Int32).toInt = 0 := by decide
    have t15 : (99 : Int32).toInt = 99 := by decide
    have t16 : (0 : Int32).toInt ≤ p0.toInt ∧ p0.toInt ≤ (99 : Int32).toInt := hi4 ((bit_of ⟨by omega, by omega⟩).resolve_left c6)
    refine lv_iload_n hx hb dX11_settler_10 rfl (lv_at hl 2 rfl) ?_
    refine lv_iconst (v := 0) hx hb dX11_settler_11 (by decide) ?_
    refine lv_bipush (v := 20) hx hb dX11_settler_12 (by decide) ?_
    have hFc := gA_free hG hA hS
    refine va_calli (va_runS (As := [.int p1, .int 0, .int 20]) (rest := []) ⟨hx, hb, hml, hown, hts⟩ (c_within l dC dI kA adK adV G H nC nS p1 0 20 hT (by omega) (by omega)) (va_cwS 3 hts (goodIn_app (goodIn_r _ [2, 3, 4] rfl (by decide +kernel)) (goodIn_ca (goodIn_r _ [1] rfl (by decide +kernel)) (bs2_in _ _))) rfl rfl rfl (by decide +kernel) ⟨(Nat.le_of_ble_eq_true rfl), (Nat.le_of_ble_eq_true rfl)⟩) ⟨fun a U g mk q => by obtain ⟨q0, q1, qK, qE⟩ := q; exact ⟨q0, q1, va_K.moved (u := U) (U := U.calling g mk a) (Vm.Alike.refl U.vm) qK, EVC.blind g mk a qE⟩, fun U hU hW => ⟨rfl, hU, va_K.moved hW.alike hK, hE.call hS hFc hU hW⟩⟩ rfl rfl hl.1 rfl (lv_room (Nat.le_of_ble_eq_true rfl)) dX11_settler_14 ⟨(Nat.le_of_ble_eq_true rfl), (Nat.le_of_ble_eq_true rfl)⟩) hS (fun q _ h => hFc q h) hFc (fun r17 u t H locs ht hvm hw18 hB _ _ hS => ?_)
    obtain ⟨hT, hF1⟩ := hB
    rw [ht] at hT hF1
    have hF := hF.more (hF1.sub hZ.1) (by decide)
    have hF2 := hF2.more (hF1.sub hZ.1) (by decide)
    try dsimp only at hw18
    obtain ⟨h19, hi20, hi21⟩ := hw18
    refine lv_if_eq (tgt := 57) hx hb dX11_settler_17 (by decide) (fun c22 => ?_) (fun c22 => ?_)
    · have t23 : r17.toInt = 0 := ti_eq c22 rfl (by decide)
      have t24 : (0 : Int32).toInt = 0 := by decide
      have t25 : (20 : Int32).toInt = 20 := by decide
      have t26 : p1.toInt < (0 : Int32).toInt ∨ (20 : Int32).toInt < p1.toInt := hi21 c22
      refine lv_iconst (v := 0) hx hb dX11_settler_57 (by decide) ?_
      have hFc := gA_free hG hA hS
      refine vx_callN (vx_runS (As := [.int 0]) (rest := []) ⟨hx, hb, hml, hown, hts⟩ (c_needNumbers0 l hlt dC dI kA adK adV G H nC nS hT (by omega) (by omega)) (va_cwS 1 hts (goodIn_app (goodIn_r _ [8, 9, 4] rfl (by decide +kernel)) (goodIn_ca (goodIn_r _ [5, 6, 7] rfl (by decide +kernel)) (bs2_in _ _))) rfl rfl rfl (by decide +kernel) ⟨(Nat.le_of_ble_eq_true rfl), (Nat.le_of_ble_eq_true rfl)⟩) ⟨fun a U g mk q => by obtain ⟨q0, q1, qK, qE⟩ := q; exact ⟨q0, q1, va_K.moved (u := U) (U := U.calling g mk a) (Vm.Alike.refl U.vm) qK, EVC.blind g mk a qE⟩, fun U hU hW => ⟨rfl, hU, va_K.moved hW.alike hK, hE.call hS hFc hU hW⟩⟩ rfl rfl hl.1 rfl (lv_room (Nat.le_of_ble_eq_true rfl)) dX11_settler_58 ⟨(Nat.le_of_ble_eq_true rfl), (Nat.le_of_ble_eq_true rfl)⟩) hS hFc (fun q _ h => hFc q h) (fun E ce q9 u t H locs ht hvm _ hw28 _ _ hS hce hcv hcl => ?_)
      obtain ⟨hw28, hTx, hFx⟩ := hw28; rw [ht] at hTx hFx
      exact vx_out (fun x h => (hnt x h).elim) hlocks hce hcv hcl (fun t2 h2 hW => ⟨(), trivial, ⟨((fun h9 => (Or.inl h9)) hw28), (Or.inl ⟨hw28, (by first | omega | exact hxf.elim)⟩), by rw [h2]; exact hTx, by rw [h2]; exact hF.more hFx (by decide), by rw [h2]; exact hF2.more hFx (by decide)⟩, hS.F h2⟩) hS.2.2 (by decide) (by decide)
    · have t29 : r17.toInt ≠ 0 := ti_ne c22 rfl (by decide)
      have t30 : (0 : Int32).toInt = 0 := by decide
      have t31 : (20 : Int32).toInt = 20 := by decide
      have t32 : (0 : Int32).toInt ≤ p1.toInt ∧ p1.toInt ≤ (20 : Int32).toInt := hi20 ((bit_of ⟨by omega, by omega⟩).resolve_left c22)
      refine lv_iload_n hx hb dX11_settler_20 rfl (lv_at hl 3 rfl) ?_
      refine lv_iconst (v := 0) hx hb dX11_settler_21 (by decide) ?_
      refine lv_ldc (v := 100000) hx hb hown (ht_at2 hts 9 rfl) dX11_settler_22 ?_
      have hFc := gA_free hG hA hS
      refine va_calli (va_runS (As := [.int p2, .int 0, .int 100000]) (rest := []) ⟨hx, hb, hml, hown, hts⟩ (c_within l dC dI kA adK adV G H nC nS p2 0 100000 hT (by omega) (by omega)) (va_cwS 3 hts (goodIn_app (goodIn_r _ [2, 3, 4] rfl (by decide +kernel)) (goodIn_ca (goodIn_r _ [1] rfl (by decide +kernel)) (bs2_in _ _))) rfl rfl rfl (by decide +kernel) ⟨(Nat.le_of_ble_eq_true rfl), (Nat.le_of_ble_eq_true rfl)⟩) ⟨fun a U g mk q => by obtain ⟨q0, q1, qK, qE⟩ := q; exact ⟨q0, q1, va_K.moved (u := U) (U := U.calling g mk a) (Vm.Alike.refl U.vm) qK, EVC.blind g mk a qE⟩, fun U hU hW => ⟨rfl, hU, va_K.moved hW.alike hK, hE.call hS hFc hU hW⟩⟩ rfl rfl hl.1 rfl (lv_room (Nat.le_of_ble_eq_true rfl)) dX11_settler_24 ⟨(Nat.le_of_ble_eq_true rfl), (Nat.le_of_ble_eq_true rfl)⟩) hS (fun q _ h => hFc q h) hFc (fun r33 u t H locs ht hvm hw34 hB _ _ hS => ?_)
      obtain ⟨hT, hF1⟩ := hB
      rw [ht] at hT hF1
      have hF := hF.more (hF1.sub hZ.1) (by decide)
      have hF2 := hF2.more (hF1.sub hZ.1) (by decide)
      try dsimp only at hw34
      obtain ⟨h35, hi36, hi37⟩ := hw34
      refine lv_if_eq (tgt := 57) hx hb dX11_settler_27 (by decide) (fun c38 => ?_) (fun c38 => ?_)
      · have t39 : r33.toInt = 0 := ti_eq c38 rfl (by decide)
        have t40 : (0 : Int32).toInt = 0 := by decide
        have t41 : (100000 : Int32).toInt = 100000 := by decide
        have t42 : p2.toInt < (0 : Int32).toInt ∨ (100000 : Int32).toInt < p2.toInt := hi37 c38
        refine lv_iconst (v := 0) hx hb dX11_settler_57 (by decide) ?_
        have hFc := gA_free hG hA hS
        refine vx_callN (vx_runS (As := [.int 0]) (rest := []) ⟨hx, hb, hml, hown, hts⟩ (c_needNumbers0 l hlt dC dI kA adK adV G H nC nS hT (by omega) (by omega)) (va_cwS 1 hts (goodIn_app (goodIn_r _ [8, 9, 4] rfl (by decide +kernel)) (goodIn_ca (goodIn_r _ [5, 6, 7] rfl (by decide +kernel)) (bs2_in _ _))) rfl rfl rfl (by decide +kernel) ⟨(Nat.le_of_ble_eq_true rfl), (Nat.le_of_ble_eq_true rfl)⟩) ⟨fun a U g mk q => by obtain ⟨q0, q1, qK, qE⟩ := q; exact ⟨q0, q1, va_K.moved (u := U) (U := U.calling g mk a) (Vm.Alike.refl U.vm) qK, EVC.blind g mk a qE⟩, fun U hU hW => ⟨rfl, hU, va_K.moved hW.alike hK, hE.call hS hFc hU hW⟩⟩ rfl rfl hl.1 rfl (lv_room (Nat.le_of_ble_eq_true rfl)) dX11_settler_58 ⟨(Nat.le_of_ble_eq_true rfl), (Nat.le_of_ble_eq_true rfl)⟩) hS hFc (fun q _ h => hFc q h) (fun E ce q9 u t H locs ht hvm _ hw44 _ _ hS hce hcv hcl => ?_)
        obtain ⟨hw44, hTx, hFx⟩ := hw44; rw [ht] at hTx hFx
        exact vx_out (fun x h => (hnt x h).elim) hlocks hce hcv hcl (fun t2 h2 hW => ⟨(), trivial, ⟨((fun h9 => (Or.inl h9)) hw44), (Or.inl ⟨hw44, (by first | omega | exact hxf.elim)⟩), by rw [h2]; exact hTx, by rw [h2]; exact hF.more hFx (by decide), by rw [h2]; exact hF2.more hFx (by decide)⟩, hS.F h2⟩) hS.2.2 (by decide) (by decide)
      · have t45 : r33.toInt ≠ 0 := ti_ne c38 rfl (by decide)
        have t46 : (0 : Int32).toInt = 0 := by decide
        have t47 : (100000 : Int32).toInt = 100000 := by decide
        have t48 : (0 : Int32).toInt ≤ p2.toInt ∧ p2.toInt ≤ (100000 : Int32).toInt := hi36 ((bit_of ⟨by omega, by omega⟩).resolve_left c38)
        refine lv_iload hx hb dX11_settler_30 (lv_at hl 4 rfl) ?_
        refine lv_iconst (v := 0) hx hb dX11_settler_32 (by decide) ?_
        refine lv_bipush (v := 100) hx hb dX11_settler_33 (by decide) ?_
        have hFc := gA_free hG hA hS
        refine va_calli (va_runS (As := [.int p3, .int 0, .int 100]) (rest := []) ⟨hx, hb, hml, hown, hts⟩ (c_within l dC dI kA adK adV G H nC nS p3 0 100 hT (by omega) (by omega)) (va_cwS 3 hts (goodIn_app (goodIn_r _ [2, 3, 4] rfl (by decide +kernel)) (goodIn_ca (goodIn_r _ [1] rfl (by decide +kernel)) (bs2_in _ _))) rfl rfl rfl (by decide +kernel) ⟨(Nat.le_of_ble_eq_true rfl), (Nat.le_of_ble_eq_true rfl)⟩) ⟨fun a U g mk q => by obtain ⟨q0, q1, qK, qE⟩ := q; exact ⟨q0, q1, va_K.moved (u := U) (U := U.calling g mk a) (Vm.Alike.refl U.vm) qK, EVC.blind g mk a qE⟩, fun U hU hW => ⟨rfl, hU, va_K.moved hW.alike hK, hE.call hS hFc hU hW⟩⟩ rfl rfl hl.1 rfl (lv_room (Nat.le_of_ble_eq_true rfl)) dX11_settler_35 ⟨(Nat.le_of_ble_eq_true rfl), (Nat.le_of_ble_eq_true rfl)⟩) hS (fun q _ h => hFc q h) hFc (fun r49 u t H locs ht hvm hw50 hB _ _ hS => ?_)
        obtain ⟨hT, hF1⟩ := hB
        rw [ht] at hT hF1
        have hF := hF.more (hF1.sub hZ.1) (by decide)
        have hF2 := hF2.more (hF1.sub hZ.1) (by decide)
        try dsimp only at hw50
        obtain ⟨h51, hi52, hi53⟩ := hw50
        refine lv_if_eq (tgt := 57) hx hb dX11_settler_38 (by decide) (fun c54 => ?_) (fun c54 => ?_)
        · have t55 : r49.toInt = 0 := ti_eq c54 rfl (by decide)
          have t56 : (0 : Int32).toInt = 0 := by decide
          have t57 : (100 : Int32).toInt = 100 := by decide
          have t58 : p3.toInt < (0 : Int32).toInt ∨ (100 : Int32).toInt < p3.toInt := hi53 c54
          refine lv_iconst (v := 0) hx hb dX11_settler_57 (by decide) ?_
          have hFc := gA_free hG hA hS
          refine vx_callN (vx_runS (As := [.int 0]) (rest := []) ⟨hx, hb, hml, hown, hts⟩ (c_needNumbers0 l hlt dC dI kA adK adV G H nC nS hT (by omega) (by omega)) (va_cwS 1 hts (goodIn_app (goodIn_r _ [8, 9, 4] rfl (by decide +kernel)) (goodIn_ca (goodIn_r _ [5, 6, 7] rfl (by decide +kernel)) (bs2_in _ _))) rfl rfl rfl (by decide +kernel) ⟨(Nat.le_of_ble_eq_true rfl), (Nat.le_of_ble_eq_true rfl)⟩) ⟨fun a U g mk q => by obtain ⟨q0, q1, qK, qE⟩ := q; exact ⟨q0, q1, va_K.moved (u := U) (U := U.calling g mk a) (Vm.Alike.refl U.vm) qK, EVC.blind g mk a qE⟩, fun U hU hW => ⟨rfl, hU, va_K.moved hW.alike hK, hE.call hS hFc hU hW⟩⟩ rfl rfl hl.1 rfl (lv_room (Nat.le_of_ble_eq_true rfl)) dX11_settler_58 ⟨(Nat.le_of_ble_eq_true rfl), (Nat.le_of_ble_eq_true rfl)⟩) hS hFc (fun q _ h => hFc q h) (fun E ce q9 u t H locs ht hvm _ hw60 _ _ hS hce hcv hcl => ?_)
          obtain ⟨hw60, hTx, hFx⟩ := hw60; rw [ht] at hTx hFx
          exact vx_out (fun x h => (hnt x h).elim) hlocks hce hcv hcl (fun t2 h2 hW => ⟨(), trivial, ⟨((fun h9 => (Or.inl h9)) hw60), (Or.inl ⟨hw60, (by first | omega | exact hxf.elim)⟩), by rw [h2]; exact hTx, by rw [h2]; exact hF.more hFx (by decide), by rw [h2]; exact hF2.more hFx (by decide)⟩, hS.F h2⟩) hS.2.2 (by decide) (by decide)
        · have t61 : r49.toInt ≠ 0 := ti_ne c54 rfl (by decide)
          have t62 : (0 : Int32).toInt = 0 := by decide
          have t63 : (100 : Int32).toInt = 100 := by decide
          have t64 : (0 : Int32).toInt ≤ p3.toInt ∧ p3.toInt ≤ (100 : Int32).toInt := hi52 ((bit_of ⟨by omega, by omega⟩).resolve_left c54)
          refine lv_iload hx hb dX11_settler_41 (lv_at hl 7 rfl) ?_
          refine lv_iconst (v := 0) hx hb dX11_settler_43 (by decide) ?_
          refine lv_ldcw (v := 999999) hx hb hown (ht_at2 hts 10 rfl) dX11_settler_44 ?_
          have hFc := gA_free hG hA hS
          refine va_calli (va_runS (As := [.int p6, .int 0, .int 999999]) (rest := []) ⟨hx, hb, hml, hown, hts⟩ (c_within l dC dI kA adK adV G H nC nS p6 0 999999 hT (by omega) (by omega)) (va_cwS 3 hts (goodIn_app (goodIn_r _ [2, 3, 4] rfl (by decide +kernel)) (goodIn_ca (goodIn_r _ [1] rfl (by decide +kernel)) (bs2_in _ _))) rfl rfl rfl (by decide +kernel) ⟨(Nat.le_of_ble_eq_true rfl), (Nat.le_of_ble_eq_true rfl)⟩) ⟨fun a U g mk q => by obtain ⟨q0, q1, qK, qE⟩ := q; exact ⟨q0, q1, va_K.moved (u := U) (U := U.calling g mk a) (Vm.Alike.refl U.vm) qK, EVC.blind g mk a qE⟩, fun U hU hW => ⟨rfl, hU, va_K.moved hW.alike hK, hE.call hS hFc hU hW⟩⟩ rfl rfl hl.1 rfl (lv_room (Nat.le_of_ble_eq_true rfl)) dX11_settler_47 ⟨(Nat.le_of_ble_eq_true rfl), (Nat.le_of_ble_eq_true rfl)⟩) hS (fun q _ h => hFc q h) hFc (fun r65 u t H locs ht hvm hw66 hB _ _ hS => ?_)
          obtain ⟨hT, hF1⟩ := hB
          rw [ht] at hT hF1
          have hF := hF.more (hF1.sub hZ.1) (by decide)
          have hF2 := hF2.more (hF1.sub hZ.1) (by decide)
          try dsimp only at hw66
          obtain ⟨h67, hi68, hi69⟩ := hw66
          refine lv_if_eq (tgt := 57) hx hb dX11_settler_50 (by decide) (fun c70 => ?_) (fun c70 => ?_)
          · have t71 : r65.toInt = 0 := ti_eq c70 rfl (by decide)
            have t72 : (0 : Int32).toInt = 0 := by decide
            have t73 : (999999 : Int32).toInt = 999999 := by decide
            have t74 : p6.toInt < (0 : Int32).toInt ∨ (999999 : Int32).toInt < p6.toInt := hi69 c70
            refine lv_iconst (v := 0) hx hb dX11_settler_57 (by decide) ?_
            have hFc := gA_free hG hA hS
            refine vx_callN (vx_runS (As := [.int 0]) (rest := []) ⟨hx, hb, hml, hown, hts⟩ (c_needNumbers0 l hlt dC dI kA adK adV G H nC nS hT (by omega) (by omega)) (va_cwS 1 hts (goodIn_app (goodIn_r _ [8, 9, 4] rfl (by decide +kernel)) (goodIn_ca (goodIn_r _ [5, 6, 7] rfl (by decide +kernel)) (bs2_in _ _))) rfl rfl rfl (by decide +kernel) ⟨(Nat.le_of_ble_eq_true rfl), (Nat.le_of_ble_eq_true rfl)⟩) ⟨fun a U g mk q => by obtain ⟨q0, q1, qK, qE⟩ := q; exact ⟨q0, q1, va_K.moved (u := U) (U := U.calling g mk a) (Vm.Alike.refl U.vm) qK, EVC.blind g mk a qE⟩, fun U hU hW => ⟨rfl, hU, va_K.moved hW.alike hK, hE.call hS hFc hU hW⟩⟩ rfl rfl hl.1 rfl (lv_room (Nat.le_of_ble_eq_true rfl)) dX11_settler_58 ⟨(Nat.le_of_ble_eq_true rfl), (Nat.le_of_ble_eq_true rfl)⟩) hS hFc (fun q _ h => hFc q h) (fun E ce q9 u t H locs ht hvm _ hw76 _ _ hS hce hcv hcl => ?_)
            obtain ⟨hw76, hTx, hFx⟩ := hw76; rw [ht] at hTx hFx
            exact vx_out (fun x h => (hnt x h).elim) hlocks hce hcv hcl (fun t2 h2 hW => ⟨(), trivial, ⟨((fun h9 => (Or.inl h9)) hw76), (Or.inl ⟨hw76, (by first | omega | exact hxf.elim)⟩), by rw [h2]; exact hTx, by rw [h2]; exact hF.more hFx (by decide), by rw [h2]; exact hF2.more hFx (by decide)⟩, hS.F h2⟩) hS.2.2 (by decide) (by decide)
          · have t77 : r65.toInt ≠ 0 := ti_ne c70 rfl (by decide)
            have t78 : (0 : Int32).toInt = 0 := by decide
            have t79 : (999999 : Int32).toInt = 999999 := by decide
            have t80 : (0 : Int32).toInt ≤ p6.toInt ∧ p6.toInt ≤ (999999 : Int32).toInt := hi68 ((bit_of ⟨by omega, by omega⟩).resolve_left c70)
            refine lv_iconst (v := 1) hx hb dX11_settler_53 (by decide) ?_
            refine lv_goto (tgt := 58) hx hb dX11_settler_54 (by decide) ?_
            have hFc := gA_free hG hA hS
            refine vx_callv (vx_runS (As := [.int 1]) (rest := []) ⟨hx, hb, hml, hown, hts⟩ (c_needNumbers1X l hlt dC dI kA adK adV G H nC nS hT (by omega) (by omega)) (va_cwS 1 hts (goodIn_app (goodIn_r _ [8, 9, 4] rfl (by decide +kernel)) (goodIn_ca (goodIn_r _ [5] rfl (by decide +kernel)) (bs2_in _ _))) rfl rfl rfl (by decide +kernel) ⟨(Nat.le_of_ble_eq_true rfl), (Nat.le_of_ble_eq_true rfl)⟩) ⟨fun a U g mk q => by obtain ⟨q0, q1, qK, qE⟩ := q; exact ⟨q0, q1, va_K.moved (u := U) (U := U.calling g mk a) (Vm.Alike.refl U.vm) qK, EVC.blind g mk a qE⟩, fun U hU hW => ⟨rfl, hU, va_K.moved hW.alike hK, hE.call hS hFc hU hW⟩⟩ rfl rfl hl.1 rfl (lv_room (Nat.le_of_ble_eq_true rfl)) dX11_settler_58 ⟨(Nat.le_of_ble_eq_true rfl), (Nat.le_of_ble_eq_true rfl)⟩) hS (fun q _ h => hFc q h) hFc (fun q _ h => hFc q h) (fun E ce q9 u t H locs ht hvm _ hw82 _ _ hS hce hcv hcl => ?_) (fun u t H locs ht hvm hw82 hB _ _ hS => ?_)
            · obtain ⟨hw82, hxf, hTx, hFx⟩ := hw82; rw [ht] at hTx hFx
              exact vx_out (fun x h => (hnt x h).elim) hlocks hce hcv hcl (fun t2 h2 hW => ⟨(), trivial, ⟨((fun h9 => (Or.inl h9)) hw82), (Or.inl ⟨hw82, (by first | omega | exact hxf.elim)⟩), by rw [h2]; exact hTx, by rw [h2]; exact hF.more hFx (by decide), by rw [h2]; exact hF2.more hFx (by decide)⟩, hS.F h2⟩) hS.2.2 (by decide) (by decide)
            · obtain ⟨hT, hF1⟩ := hB
              rw [ht] at hT hF1
              have hF := hF.more (hF1.sub hZ.1) (by decide)
              have hF2 := hF2.more (hF1.sub hZ.1) (by decide)
              try dsimp only at hw82
              refine lv_aload_n hx hb dX11_settler_61 rfl (lv_at hl 0 rfl) ?_
              refine tw_get hx hb hts bF2_X11 hown hK hT hr_o0 shc_14 rfl 3 (by decide) (ht_at2 hts 11 rfl) (fun _ h9 => h9) dX11_settler_62 (fun v9 m83 h9 => ?_)
              obtain ⟨b84, rfl, hg85⟩ := h9 _ rfl
              refine tw_getN hx hb hts bF2_X0 hown hK hT hg85 shc_3 rfl 14 (by decide) (hE.nw 30 rfl) (fun _ h9 => h9) dX11_settler_65 (fun v9 m86 h9 => ?_)
              obtain ⟨x87, rfl, gx87, kx87⟩ := h9 _ rfl
              refine lv_bipush (v := 60) hx hb dX11_settler_68 (by decide) ?_
              refine lv_icmp_ne (tgt := 84) hx hb dX11_settler_70 (by decide) (fun c88 => ?_) (fun c88 => ?_)
              · have t89 : x87.toInt ≠ 60 := ti_ne c88 rfl (by decide)
                refine lv_aload_n hx hb dX11_settler_84 rfl (lv_at hl 0 rfl) ?_
                refine tw_getM (v := .ref b84) hx hb hts bF2_X11 hown hK hT hr_o0 shc_14 rfl 3 (by decide) (ht_at2 hts 11 rfl) (fun _ h9 => h9) m83 dX11_settler_85 ?_
                have hz9 := hS.1
                refine tw_new hx hb hts bF2_X7 tyX7 tyX7_ok hown (ht_at2 hts 12 rfl) (ht_at2 hts 13 rfl) (ht_at2 hts 14 rfl) hK mon_c hT hS hG hA (shc_110) rfl nd_110 (Nat.le_of_ble_eq_true rfl) (Nat.le_of_ble_eq_true rfl) dX11_settler_88 (fun q90 G1 H hq9 eG hz1 hz2 hT hx9 hG hm9 hS => ?_)
                have hn_q90 : s.heap.size ≤ q90 := Nat.le_trans hz9 (Nat.le_of_eq hz2)
                have hF2 := hF2.same (fun a t h => (hx9 _ _ (hZ.1 a t h)).2)
                have hF := hF.same (fun a t h => (hx9 _ _ (hZ.1 a t h)).2)
                have hZ := hZ.new hn_q90 eG hx9 (by decide)
                have hu_o := hZ.uniq hu_o0 (by decide)
                have hu_a := hZ.uniq hu_a0 (by decide)
                have hg93 := (hx9 _ _ hr_o0).1
                have hg94 := (hx9 _ _ hg85).1
                have hg95 : G1 q90 = some 110 := by rw [eG]; exact gU_at
                have m96 : el H q90 (dI 10 8) = some (.int 0) := hm9 8 (by decide)
                have m97 : el H q90 (dI 10 9) = some (.int 0) := hm9 9 (by decide)
                refine lv_dup hx hb dX11_settler_91 rfl ?_
                refine lv_iload_n hx hb dX11_settler_92 rfl (lv_at hl 1 rfl) ?_
                refine lv_iload_n hx hb dX11_settler_93 rfl (lv_at hl 2 rfl) ?_
                refine lv_iload_n hx hb dX11_settler_94 rfl (lv_at hl 3 rfl) ?_
                refine lv_iload hx hb dX11_settler_95 (lv_at hl 4 rfl) ?_
                refine lv_iload hx hb dX11_settler_97 (lv_at hl 5 rfl) ?_
                refine lv_iload hx hb dX11_settler_99 (lv_at hl 6 rfl) ?_
                refine lv_iload hx hb dX11_settler_101 (lv_at hl 7 rfl) ?_
                have hFc := gA_free hG hA hS
                refine va_callv (va_runI (As := [.int p0, .int p1, .int p2, .int p3, .int p4, .int p5, .int p6]) (rest := [.ref q90, .ref b84]) ⟨hx, hb, hml, hown, hts⟩ (c_X7_initZ l dC dI kA adK adV G1 H nC nS q90 p0 p1 p2 p3 p4 p5 p6 hT hg95 (by have q8 := ti_all p4; omega) (by have q8 := ti_all p5; omega) (by omega) (by omega)) (cwI 7 hts (goodIn_ca (goodIn_r _ [16, 17, 18, 19, 20, 21, 22, 23, 24, 25, 26, 27] rfl (by decide +kernel)) (bs2_in _ _)) rfl rfl rfl (ht_at2 hts 14 rfl) (ht_at2 hts 27 rfl) (ht_at2 hts 28 rfl) rfl (by decide +kernel) ⟨(Nat.le_of_ble_eq_true rfl), (Nat.le_of_ble_eq_true rfl)⟩) ⟨fun a U g mk q => by obtain ⟨q0, q1, qK, qE⟩ := q; exact ⟨q0, q1, va_K.moved (u := U) (U := U.calling g mk a) (Vm.Alike.refl U.vm) qK, EVC.blind g mk a qE⟩, fun U hU hW => ⟨rfl, hU, va_K.moved hW.alike hK, hE.call hS hFc hU hW⟩⟩ rfl rfl hl.1 rfl (lv_room (Nat.le_of_ble_eq_true rfl)) dX11_settler_103 ⟨(Nat.le_of_ble_eq_true rfl), (Nat.le_of_ble_eq_true rfl)⟩) hS (fun q _ h => hFc q h) hFc (fun u t H locs ht hvm hw99 hB _ _ hS => ?_)
                obtain ⟨hT, hF1, m100, m101, m102, m103, m104, m105, m106⟩ := hB
                rw [ht] at hT hF1 m100 m101 m102 m103 m104 m105 m106
                have m109 := (hF1.fld hg95 skc_110 (k := 8) (by decide) (by decide)).trans m96
                have m110 := (hF1.fld hg95 skc_110 (k := 9) (by decide) (by decide)).trans m97
                have hF := hF.more (hF1.sub hZ.1) (by decide)
                have hF2 := hF2.more (hF1.sub hZ.1) (by decide)
                try dsimp only at hw99
                have hT := hT.grown (t := 10) mon_c hg95 (by decide) (by
                  have h8 := hT _ _ hg95; rw [shc_110] at h8; rw [shc_10]
                  refine gC.grow h8 (fun k v hk hm hv => match k, hk, hm, hv with
                    | 0, _, hm, hv => gl_at rfl (hv _ rfl)
                    | 1, _, hm, hv => gl_at rfl (hv _ rfl)
                    | 2, _, hm, hv => gl_at rfl (hv _ rfl)
                    | 3, _, hm, hv => gl_at rfl (hv _ rfl)
                    | 4, _, hm, hv => gl_at rfl (hv _ rfl)
                    | 5, _, hm, hv => gl_at rfl (hv _ rfl)
                    | 6, _, hm, hv => gl_at rfl (hv _ rfl)
                    | 7, _, hm, hv => gl_at rfl (hv _ rfl)
                    | 8, _, hm, hv => gl_at rfl (hv _ rfl)
                    | 9, _, hm, hv => gl_at rfl (hv _ rfl)
                    | 10, _, hm, hv => gl_at rfl (hv _ rfl)
                    | 11, _, hm, hv => gl_at rfl (hv _ rfl)
                    | k + 12, hk, _, _ => absurd hk (by omega)))
                have hZ := hZ.re (t := 10) hn_q90 (by decide)
                have hG := hZ.A hG0 hA
                have hu_o := hZ.uniq hu_o0 (by decide)
                have hu_a := hZ.uniq hu_a0 (by decide)
                have hg111 : (gU G1 q90 10) o0 = some 14 := (gU_ne (gne hg93 hg95 (by decide))).trans hg93
                have hg112 : (gU G1 q90 10) b84 = some 3 := (gU_ne (gne hg94 hg95 (by decide))).trans hg94
                have hg113 : (gU G1 q90 10) q90 = some 10 := gU_at
                have sf9 : zSf dI H q90 p0 p1 p2 p3 p4 p5 := ⟨m106, m109, m110, m100, m101, m102, m103, m104, m105⟩
                have wk9 : ∀ k : Nat, el H wa k = el s.heap wa k := fun k => el_kept (hF2.arr hw0 skc_51 (by decide))
                have hFc := gA_free hG hA hS
                refine va_calli (va_runV (As := [.ref q90]) (rest := []) ⟨hx, hb, hml, hown, hts⟩ (c_settleZ l dC dI kA adK adV (gU G1 q90 10) H nC nS b84 q90 wa hT hg113 hg112 (fun b h => (hu_o b h).trans (hu_o b84 hg112).symm) hu_a (by omega) (by omega) (by omega)) (cwV 1 hts (goodIn_app (goodIn_r _ [33, 34, 35, 36] rfl (by decide +kernel)) (goodIn_ca (goodIn_r _ [30, 31, 32] rfl (by decide +kernel)) (bs2_in _ _))) rfl rfl rfl (by decide +kernel) ⟨(Nat.le_of_ble_eq_true rfl), (Nat.le_of_ble_eq_true rfl)⟩) ⟨fun a U g mk q => by obtain ⟨q0, q1, qK, qE⟩ := q; exact ⟨q0, q1, va_K.moved (u := U) (U := U.calling g mk a) (Vm.Alike.refl U.vm) qK, EVC.blind g mk a qE⟩, gH_rc hK hT hg112 shc_3 rfl, fun U hU hW => ⟨rfl, hU, va_K.moved hW.alike hK, hE.call hS hFc hU hW⟩⟩ rfl rfl hl.1 rfl (lv_room (Nat.le_of_ble_eq_true rfl)) dX11_settler_106 ⟨(Nat.le_of_ble_eq_true rfl), (Nat.le_of_ble_eq_true rfl)⟩) hS (fun q _ h => hFc q h) hFc (fun r114 u t H locs ht hvm hw115 hB _ _ hS => ?_)
                obtain ⟨hT, hF1, hbx116⟩ := hB
                rw [ht] at hT hF1 hbx116
                have hF := hF.more (hF1.sub hZ.1) (by decide)
                try dsimp only at hw115
                obtain ⟨h128, hf129⟩ := hw115
                have sf9 : zSf dI H q90 p0 p1 p2 p3 p4 p5 := ⟨(hF1.fld hg113 skc_10 (k := 7) (by decide) (by decide)).trans sf9.1, (hF1.fld hg113 skc_10 (k := 8) (by decide) (by decide)).trans sf9.2.1, (hF1.fld hg113 skc_10 (k := 9) (by decide) (by decide)).trans sf9.2.2.1, (hF1.fld hg113 skc_10 (k := 0) (by decide) (by decide)).trans sf9.2.2.2.1, (hF1.fld hg113 skc_10 (k := 1) (by decide) (by decide)).trans sf9.2.2.2.2.1, (hF1.fld hg113 skc_10 (k := 6) (by decide) (by decide)).trans sf9.2.2.2.2.2.1, (hF1.fld hg113 skc_10 (k := 2) (by decide) (by decide)).trans sf9.2.2.2.2.2.2.1, (hF1.fld hg113 skc_10 (k := 3) (by decide) (by decide)).trans sf9.2.2.2.2.2.2.2.1, (hF1.fld hg113 skc_10 (k := 4) (by decide) (by decide)).trans sf9.2.2.2.2.2.2.2.2⟩
                exact vx_ret (W.iret (v := r114) hx hb hr (fun t ht hW => ⟨⟨r114, ((gU G1 q90 10), nC, (nS + 1)), rfl, (by exact ⟨(by have q8 := ti_all r114; omega), (by omega)⟩), by (try dsimp only); rw [ht]; exact ⟨hT, hF, hZ, (by omega), (by omega), ⟨_, ⟨hbx116.1, fun k hk => (hbx116.2 k hk).trans (wk9 k)⟩, sf9⟩⟩⟩, hS.F ht⟩) hS.2.2 dX11_settler_109)
              · have t130 : x87.toInt = 60 := ti_eq c88 rfl (by decide)
                obtain ⟨sa131, hsa131⟩ := hE.str 8 rfl
                exact vx_throwSW (names := ["java/lang/RuntimeException", "java/lang/Exception"]) hx hb hlt hown (by decide +kernel) (by decide +kernel) (ht_at2 hts 36 rfl) (ht_at2 hts 37 rfl) hsa131 (bX2_at4 hts hE) bX_ok4_345 hE.1.1.2.2.1 hE.1.1.2.2.2 hS (by rw [hml]; exact hl.1) dX11_settler_73 dX11_settler_76 dX11_settler_77 dX11_settler_80 dX11_settler_83 (fun x h => (hnt x h).elim) (by decide) (Nat.le_of_ble_eq_true rfl) (Nat.le_of_ble_eq_true rfl) (Nat.le_of_ble_eq_true rfl) hlocks (fun t hW hz hq => ⟨(), trivial, ⟨(Or.inr rfl), (Or.inr (⟨rfl, (by first | omega | exact hxf.elim)⟩)), hT.ext hq, hF.ext hT hq, hF2.ext hT hq⟩, Nat.le_trans hS.1 hz, fun q h1 h2 => (hq q (Nat.lt_of_lt_of_le h1 hS.1)).trans (hS.2.1 q h1 h2)⟩) hS.2.2 (by decide) (by decide)
