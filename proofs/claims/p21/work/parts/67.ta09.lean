set_option maxHeartbeats 4000000 in
set_option maxRecDepth 100000 in
theorem c_reapZ (l : Launch) (dC : Nat → ClassId) (dI : Nat → Nat → Nat) (kA : Nat → ClassId) (adK adV : Nat → Nat) (G : gT) (H0 : Heap) (nC nS : Int) (o0 : Nat) (p0 : Nat) (sA : Nat) (vA vD vC vU vI vW : Nat → Int32) (hT : gH (dC, dI) kA (SHc nC nS) G H0) (hr_p0 : G p0 = some 6) (hr_o0 : G o0 = some 3) (hm_sA : el H0 o0 (dI 3 0) = some (.ref sA)) (hr_sA : G sA = some 51) (hFS : ∀ i : Nat, ((i : Nat) : Int) < nS → ∀ a : Nat, el H0 sA i = some (.ref a) → zSf dI H0 a (vA i) (vD i) (vC i) (vU i) (vI i) (vW i)) (hgC : 0 ≤ nC ∧ nC ≤ 40) (hgS : 0 ≤ nS ∧ nS ≤ 60) : Met l yX0_reap w_c_reapZ ({ frames := 1, cells := 0, slots := 0, locals := 40 }) (va_Pc [.ref o0, .ref p0] (fun U => U.heap = H0 ∧ va_K (dC, dI) vwCl (tyl kA) U ∧ EVC adK adV (gA G H0.size) U U.heap)) (va_Qi (fun (r : Int32) (u : Unit) => (-1 ≤ r.toInt ∧ r.toInt ≤ 0)) (fun (_ : Unit) (t : State) => gH (dC, dI) kA (SHc nC nS) G t.heap ∧ gF (dC, dI) SKc G ([(10, 10), (32, 0), (55, 0)] : List (Nat × Nat)) H0 t.heap) (gA G H0.size)) 0 0 (gA G H0.size) := by
  refine Met.ofW (cc := cX0_reap) (maxL := 5) (ret := (some .int)) (by decide) rfl ?_
  intro p e s m args below meth c s₁ B hml hv
  obtain ⟨rfl, hH0, hK, hE⟩ := hv
  have hx := B.exec
  have hb := B.bytes
  have hr := B.returns
  have hts := atoms_spec (ws := w_c_reapZ) B.pre
  have hown : s.vm.findClass RX0 = some m.cls := findClass_of_methodNamed B.named
  have hlocks := B.notSynchronized
  subst hH0
  generalize hAe : gA G s.heap.size = A at hE ⊢
  have hA : ∀ q : Nat, s.heap.size ≤ q → A q := fun q h => by rw [← hAe]; exact Or.inr h
  have hG := gA_of hAe
  have hS : va_S A s.heap s.heap [] := va_S.rf
  have hF : gF (dC, dI) SKc G ([(10, 10), (32, 0), (55, 0)] : List (Nat × Nat)) s.heap s.heap := gF.rf
  have hl := lv_entry ([.ref o0, .ref p0]) (n := 5) (Nat.le_of_ble_eq_true rfl)
  rw [lg_entry_eq]
  generalize (lg_sl ([.ref o0, .ref p0]) ++ List.replicate (5 - (lg_sl ([.ref o0, .ref p0])).length) Slot.unset).toArray = ls at hl ⊢
  have hl : lv_has ls 5 [(0, .ref o0), (1, .ref p0)] := hl
  refine lv_aload_n hx hb dX0_reap_0 rfl (lv_at hl 1 rfl) ?_
  have hFc := gA_free hG hA hS
  refine va_calli (va_runV (As := []) (rest := []) ⟨hx, hb, hml, hown, hts⟩ (c_dayNow l dC dI kA adK adV G s.heap nC nS p0 hT hr_p0 (by omega) (by omega)) (cwV 0 hts (goodIn_app (goodIn_r _ [3, 4, 5, 6] rfl (by decide +kernel)) (goodIn_ca (goodIn_r _ [1, 2] rfl (by decide +kernel)) (bs2_in _ _))) rfl rfl rfl (by decide +kernel) ⟨(Nat.le_of_ble_eq_true rfl), (Nat.le_of_ble_eq_true rfl)⟩) ⟨fun a U g mk q => by obtain ⟨q0, q1, qK, qE⟩ := q; exact ⟨q0, q1, va_K.moved (u := U) (U := U.calling g mk a) (Vm.Alike.refl U.vm) qK, EVC.blind g mk a qE⟩, gH_rc hK hT hr_p0 shc_6 rfl, fun U hU hW => ⟨rfl, hU, va_K.moved hW.alike hK, hE.call hS hFc hU hW⟩⟩ rfl rfl hl.1 rfl (lv_room (Nat.le_of_ble_eq_true rfl)) dX0_reap_1 ⟨(Nat.le_of_ble_eq_true rfl), (Nat.le_of_ble_eq_true rfl)⟩) hS (fun q _ h => hFc q h) hFc (fun r1 u t H locs ht hvm hw2 hB _ _ hS => ?_)
  obtain ⟨hT, hF1⟩ := hB
  rw [ht] at hT hF1
  have m3 := (hF1.fld hr_o0 skc_3 (k := 0) (by decide) (by decide)).trans hm_sA
  have hF := hF.more hF1 (by decide)
  try dsimp only at hw2
  have h4 := hw2
  refine lv_sipush (v := 360) hx hb dX0_reap_4 (by decide) ?_
  refine lv_idiv hx hb dX0_reap_7 (by decide) ?_
  refine lv_topi (fun x5 ex5 => ?_)
  have t6 : x5.toInt = r1.toInt / 360 := ti_div ex5 rfl (by decide) (by omega) (by omega)
  refine lv_iconst (v := 4) hx hb dX0_reap_8 (by decide) ?_
  refine va_mmin hx hb (hml.trans hl.1.symm) hown (ht_at2 hts 6 rfl) (ht_at2 hts 7 rfl) (ht_at2 hts 8 rfl) (ht_at2 hts 9 rfl) (Nat.le_of_ble_eq_true rfl) (Nat.le_of_ble_eq_true rfl) (Nat.le_of_ble_eq_true rfl) (Nat.le_of_ble_eq_true rfl) dX0_reap_9 ?_
  refine lv_topi (fun x7 ex7 => ?_)
  have t8 : x7.toInt ≤ x5.toInt ∧ x7.toInt ≤ 4 ∧ (x7.toInt = x5.toInt ∨ x7.toInt = 4) := mn_f ex7 rfl (by decide)
  refine lv_istore_n (lv' := [(2, .int x7), (0, .ref o0), (1, .ref p0)]) hx hb dX0_reap_12 rfl hl (by decide) rfl (fun ls hl => ?_)
  refine lv_aload_n hx hb dX0_reap_13 rfl (lv_at hl 1 rfl) ?_
  refine tw_get hx hb hts bF2_X0 hown hK hT hr_o0 shc_3 rfl 4 (by decide) (ht_at2 hts 10 rfl) (fun _ h9 => h9) dX0_reap_14 (fun v9 m9 h9 => ?_)
  obtain ⟨b10, rfl, hg11⟩ := h9 _ rfl
  refine lv_iload_n hx hb dX0_reap_17 rfl (lv_at hl 0 rfl) ?_
  refine tw_zald (i := x7) hx hb hK hT hg11 shc_55 rfl (vin_t (a := x7.toInt) rfl (by omega) (by omega)) dX0_reap_18 (fun v9 m12 h9 => ?_)
  obtain ⟨x13, rfl, gx13, kx13⟩ := h9
  refine lv_if_eq (tgt := 24) hx hb dX0_reap_19 (by decide) (fun c14 => ?_) (fun c14 => ?_)
  · have t15 : x13.toInt = 0 := ti_eq c14 rfl (by decide)
    refine lv_aload_n hx hb dX0_reap_24 rfl (lv_at hl 1 rfl) ?_
    refine tw_getM (v := .ref b10) hx hb hts bF2_X0 hown hK hT hr_o0 shc_3 rfl 4 (by decide) (ht_at2 hts 10 rfl) (fun _ h9 => h9) m9 dX0_reap_25 ?_
    refine lv_iload_n hx hb dX0_reap_28 rfl (lv_at hl 0 rfl) ?_
    refine lv_iconst (v := 1) hx hb dX0_reap_29 (by decide) ?_
    refine tw_zast (i := x7) (x := 1) hx hb hK hT hG hS hg11 shc_55 rfl (vin_t (a := x7.toInt) rfl (by omega) (by omega)) (gi_z (rg_t (a := 1) (by decide) (by first | decide | omega) (by first | decide | omega)) (by decide) (by decide)) dX0_reap_30 (fun H locs hT oq m16 oi hS => ?_)
    have hF := hF.ast hg11 skc_55 oq (by decide)
    have m17 := (el_kept (oq _ (gne hr_o0 hg11 (by decide)))).trans m3
    have m18 := (el_kept (oq _ (gne hr_o0 hg11 (by decide)))).trans m9
    refine lv_iconst (v := 0) hx hb dX0_reap_31 (by decide) ?_
    refine lv_istore_n (lv' := [(3, .int 0), (2, .int x7), (0, .ref o0), (1, .ref p0)]) hx hb dX0_reap_32 rfl hl (by decide) rfl (fun ls hl => ?_)
    refine lv_iconst (v := 0) hx hb dX0_reap_33 (by decide) ?_
    refine lv_istore (lv' := [(4, .int 0), (3, .int 0), (2, .int x7), (0, .ref o0), (1, .ref p0)]) hx hb dX0_reap_34 hl (by decide) rfl (fun ls hl => ?_)
    have jn134 : ∀ (z127 : Int32), ∀ (z131 : Int32), ((0 ≤ z127.toInt ∧ z127.toInt ≤ 60) ∧ (0 ≤ z131.toInt ∧ z131.toInt ≤ 60)) → ∀ (H : Heap) (locs : List Loc), gH (dC, dI) kA (SHc nC nS) G H → gF (dC, dI) SKc G ([(10, 10), (32, 0), (55, 0)] : List (Nat × Nat)) s.heap H → va_S A s.heap H locs → el H o0 (dI 3 0) = some (.ref sA) → el H o0 (dI 3 4) = some (.ref b10) → el H o0 (dI 3 14) = some (.int z131) → ∀ ls : Array Slot, lv_has ls 5 [(4, .int z127), (3, .int 0), (2, .int x7), (0, .ref o0), (1, .ref p0)] → W p l e (headSpec w_c_reapZ ({ frames := 1, cells := 0, slots := 0, locals := 40 })).room s m #[.ref o0, .ref p0] below meth c H locs 0 0 (MQ below (va_Qi (fun (r : Int32) (u : Unit) => (-1 ≤ r.toInt ∧ r.toInt ≤ 0)) (fun (_ : Unit) (t : State) => gH (dC, dI) kA (SHc nC nS) G t.heap ∧ gF (dC, dI) SKc G ([(10, 10), (32, 0), (55, 0)] : List (Nat × Nat)) s.heap t.heap) A) #[.ref o0, .ref p0] s 0 0 A) (F0 m 106 ls []) := by
      intro z127 z131 ⟨h128, h132⟩ H locs hT hF hS m129 m130 m133 ls hl
      refine lv_aload_n hx hb dX0_reap_106 rfl (lv_at hl 4 rfl) ?_
      refine tw_getN hx hb hts bF2_X3 hown hK hT hr_p0 shc_6 rfl 1 (by decide) (hE.nw 73 rfl) (fun _ h9 => h9) dX0_reap_107 (fun v9 m135 h9 => ?_)
      obtain ⟨b136, rfl, hg137⟩ := h9 _ rfl
      refine tw_getN hx hb hts bF2_X2 hown hK hT hg137 shc_5 rfl 7 (by decide) (hE.nw 76 rfl) (fun _ h9 => h9) dX0_reap_110 (fun v9 m138 h9 => ?_)
      obtain ⟨b139, rfl, hg140⟩ := h9 _ rfl
      refine lv_iconst (v := 0) hx hb dX0_reap_113 (by decide) ?_
      have hFc := gA_free hG hA hS
      refine va_callv (va_runS (As := [.ref b139, .int 0]) (rest := []) ⟨hx, hb, hml, hown, hts⟩ (c_fill_wet l dC dI kA adK adV G H nC nS b139 0 hT hg140 (by omega) (by omega)) (va_cwS 2 hts (goodIn_app (goodIn_r _ [14, 15, 16] rfl (by decide +kernel)) (goodIn_ca (goodIn_r _ [13] rfl (by decide +kernel)) (bs2_in _ _))) rfl rfl rfl (by decide +kernel) ⟨(Nat.le_of_ble_eq_true rfl), (Nat.le_of_ble_eq_true rfl)⟩) ⟨fun a U g mk q => by obtain ⟨q0, q1, qK, qE⟩ := q; exact ⟨q0, q1, va_K.moved (u := U) (U := U.calling g mk a) (Vm.Alike.refl U.vm) qK, EVC.blind g mk a qE⟩, fun U hU hW => ⟨rfl, hU, va_K.moved hW.alike hK, hE.call hS hFc hU hW⟩⟩ rfl rfl hl.1 rfl (lv_room (Nat.le_of_ble_eq_true rfl)) dX0_reap_114 ⟨(Nat.le_of_ble_eq_true rfl), (Nat.le_of_ble_eq_true rfl)⟩) hS (fun q _ h => hFc q h) hFc (fun u t H locs ht hvm hw142 hB _ _ hS => ?_)
      obtain ⟨hT, hF1⟩ := hB
      rw [ht] at hT hF1
      have hF := hF.more hF1 (by decide)
      try dsimp only at hw142
      refine lv_iload_n hx hb dX0_reap_117 rfl (lv_at hl 1 rfl) ?_
      exact W.iret (v := 0) hx hb hr (fun t ht hW => ⟨⟨0, (), rfl, (by exact (rg_t (a := 0) (by decide) (by first | decide | omega) (by first | decide | omega))), by (try dsimp only); rw [ht]; exact ⟨hT, hF⟩⟩, hS.F ht⟩) hS.2.2 dX0_reap_118
    have key148 : ∀ (n148 i19 : Nat), i19 + n148 = 60 → 0 ≤ i19 → ∀ (H : Heap) (locs : List Loc), gH (dC, dI) kA (SHc nC nS) G H → gF (dC, dI) SKc G ([(10, 10), (32, 0), (55, 0)] : List (Nat × Nat)) s.heap H → va_S A s.heap H locs → el H o0 (dI 3 0) = some (.ref sA) → el H o0 (dI 3 4) = some (.ref b10) → ∀ ls : Array Slot, lv_has ls 5 [(4, .int (nI i19)), (3, .int 0), (2, .int x7), (0, .ref o0), (1, .ref p0)] → W p l e (headSpec w_c_reapZ ({ frames := 1, cells := 0, slots := 0, locals := 40 })).room s m #[.ref o0, .ref p0] below meth c H locs 0 0 (MQ below (va_Qi (fun (r : Int32) (u : Unit) => (-1 ≤ r.toInt ∧ r.toInt ≤ 0)) (fun (_ : Unit) (t : State) => gH (dC, dI) kA (SHc nC nS) G t.heap ∧ gF (dC, dI) SKc G ([(10, 10), (32, 0), (55, 0)] : List (Nat × Nat)) s.heap t.heap) A) #[.ref o0, .ref p0] s 0 0 A) (F0 m 36 ls []) := by
      intro n148
      induction n148 with
      | zero =>
        intro i19 hn148 hlo149  H locs hT hF hS m20 m21 ls hl
        obtain rfl : 60 = i19 := by omega
        refine lv_iload hx hb dX0_reap_36 (lv_at hl 0 rfl) ?_
        refine lv_aload_n hx hb dX0_reap_38 rfl (lv_at hl 3 rfl) ?_
        refine tw_get hx hb hts bF2_X0 hown hK hT hr_o0 shc_3 rfl 14 (by decide) (ht_at2 hts 11 rfl) (fun _ h9 => h9) dX0_reap_39 (fun v9 m150 h9 => ?_)
        obtain ⟨x151, rfl, gx151, kx151⟩ := h9 _ rfl
        refine lv_icmp_ge (tgt := 106) hx hb dX0_reap_42 (by decide) (fun c152 => ?_) (fun c152 => (by exfalso; have q9 : ((60 : Nat) : Int) < x151.toInt := ti_nle c152 rfl (nI_toInt (by omega)); omega))
        have t153 : x151.toInt ≤ ((60 : Nat) : Int) := ti_le c152 rfl (nI_toInt (by omega))
        exact jn134 (nI 60) x151 ⟨(rg_t (a := ((60 : Nat) : Int)) (nI_toInt (by omega)) (by omega) (by omega)), (by have q8 := ti_all x151; omega)⟩ _ _ hT hF hS m20 m21 m150 ls (lv_sub hl [0, 1, 2, 3, 4] rfl)
      | succ n148 ih148 =>
        intro i19 hn148 hlo149  H locs hT hF hS m20 m21 ls hl
        have hlt153 : i19 < 60 := by omega
        refine lv_iload hx hb dX0_reap_36 (lv_at hl 0 rfl) ?_
        refine lv_aload_n hx hb dX0_reap_38 rfl (lv_at hl 3 rfl) ?_
        refine tw_get hx hb hts bF2_X0 hown hK hT hr_o0 shc_3 rfl 14 (by decide) (ht_at2 hts 11 rfl) (fun _ h9 => h9) dX0_reap_39 (fun v9 m154 h9 => ?_)
        obtain ⟨x155, rfl, gx155, kx155⟩ := h9 _ rfl
        refine lv_icmp_ge (tgt := 106) hx hb dX0_reap_42 (by decide) (fun c156 => ?_) (fun c156 => ?_)
        · have t157 : x155.toInt ≤ ((i19 : Nat) : Int) := ti_le c156 rfl (nI_toInt (by omega))
          exact jn134 (nI i19) x155 ⟨(rg_t (a := ((i19 : Nat) : Int)) (nI_toInt (by omega)) (by omega) (by omega)), (by have q8 := ti_all x155; omega)⟩ _ _ hT hF hS m20 m21 m154 ls (lv_sub hl [0, 1, 2, 3, 4] rfl)
        · have t158 : ((i19 : Nat) : Int) < x155.toInt := ti_nle c156 rfl (nI_toInt (by omega))
          refine lv_aload_n hx hb dX0_reap_45 rfl (lv_at hl 3 rfl) ?_
          refine tw_getM (v := .ref sA) hx hb hts bF2_X0 hown hK hT hr_o0 shc_3 rfl 0 (by decide) (ht_at2 hts 16 rfl) (fun _ h9 => h9) m20 dX0_reap_46 ?_
          refine lv_iload hx hb dX0_reap_49 (lv_at hl 0 rfl) ?_
          refine tw_aald (i := (nI i19)) hx hb hK hT hr_sA shc_51 rfl (vp_in_nI (by omega) (by decide)) dX0_reap_51 (fun v9 m159 h9 => ?_)
          obtain ⟨b160, rfl, hg161⟩ := (h9.1 (by have q9 := tn_of (show (nI i19).toInt = ((i19 : Nat) : Int) from (nI_toInt (by omega))) (by omega); omega))
          have fs162 := hFS (nI i19).toNatClampNeg (by have := tn_of (show (nI i19).toInt = ((i19 : Nat) : Int) from (nI_toInt (by omega))) (by omega); omega) b160 ((el_kept (hF.arr hr_sA skc_51 (by decide))).symm.trans m159)
          rw [tn_nI (by omega)] at fs162
          have m163 := (hF.fld hg161 skc_10 (k := 7) (by decide) (by decide)).trans fs162.1
          have m166 := (hF.fld hg161 skc_10 (k := 0) (by decide) (by decide)).trans fs162.2.2.2.1
          obtain ⟨x167, ex167⟩ : ∃ y : Int32, y = vA i19 := ⟨_, rfl⟩
          rw [← ex167] at m166
          have m168 := (hF.fld hg161 skc_10 (k := 1) (by decide) (by decide)).trans fs162.2.2.2.2.1
          obtain ⟨x169, ex169⟩ : ∃ y : Int32, y = vD i19 := ⟨_, rfl⟩
          rw [← ex169] at m168
          have m170 := (hF.fld hg161 skc_10 (k := 6) (by decide) (by decide)).trans fs162.2.2.2.2.2.1
          obtain ⟨x171, ex171⟩ : ∃ y : Int32, y = vC i19 := ⟨_, rfl⟩
          rw [← ex171] at m170
          have m172 := (hF.fld hg161 skc_10 (k := 2) (by decide) (by decide)).trans fs162.2.2.2.2.2.2.1
          obtain ⟨x173, ex173⟩ : ∃ y : Int32, y = vU i19 := ⟨_, rfl⟩
          rw [← ex173] at m172
          have m174 := (hF.fld hg161 skc_10 (k := 3) (by decide) (by decide)).trans fs162.2.2.2.2.2.2.2.1
          obtain ⟨x175, ex175⟩ : ∃ y : Int32, y = vI i19 := ⟨_, rfl⟩
          rw [← ex175] at m174
          have h176 : 0 ≤ x175.toInt ∧ x175.toInt ≤ 1 := by obtain ⟨v9, e9, h9⟩ := gH_fld hT hg161 shc_10 (k := 3) (by decide); rw [m174] at e9; cases e9; obtain ⟨y9, z9, a9, b9⟩ := h9 _ rfl; cases z9; exact ⟨a9, b9⟩
          have m177 := (hF.fld hg161 skc_10 (k := 4) (by decide) (by decide)).trans fs162.2.2.2.2.2.2.2.2
          obtain ⟨x178, ex178⟩ : ∃ y : Int32, y = vW i19 := ⟨_, rfl⟩
          rw [← ex178] at m177
          have h179 : 0 ≤ x178.toInt ∧ x178.toInt ≤ 1 := by obtain ⟨v9, e9, h9⟩ := gH_fld hT hg161 shc_10 (k := 4) (by decide); rw [m177] at e9; cases e9; obtain ⟨y9, z9, a9, b9⟩ := h9 _ rfl; cases z9; exact ⟨a9, b9⟩
          refine tw_getNM (v := .int (-1)) hx hb hts bF2_X7 hown hK hT hg161 shc_10 rfl 7 (by decide) (hE.nw 61 rfl) (fun _ h9 => h9) m163 dX0_reap_52 ?_
          refine lv_iconst (v := (-1)) hx hb dX0_reap_55 (by decide) ?_
          refine lv_icmp_eq (tgt := 89) hx hb dX0_reap_56 (by decide) (fun c180 => ?_) (fun c180 => absurd c180 (by decide))
          refine lv_aload_n hx hb dX0_reap_89 rfl (lv_at hl 3 rfl) ?_
          refine tw_getM (v := .ref sA) hx hb hts bF2_X0 hown hK hT hr_o0 shc_3 rfl 0 (by decide) (ht_at2 hts 16 rfl) (fun _ h9 => h9) m20 dX0_reap_90 ?_
          refine lv_iload hx hb dX0_reap_93 (lv_at hl 0 rfl) ?_
          refine tw_aald (i := (nI i19)) hx hb hK hT hr_sA shc_51 rfl (vp_in_nI (by omega) (by decide)) dX0_reap_95 (fun v9 m181 h9 => ?_)
          obtain ⟨b182, rfl, hg183⟩ := (h9.1 (by have q9 := tn_of (show (nI i19).toInt = ((i19 : Nat) : Int) from (nI_toInt (by omega))) (by omega); omega))
          obtain rfl : b160 = b182 := (el_sameR m181 m159 (show (nI i19).toInt = (nI i19).toInt from by have q9 := (show (nI i19).toInt = ((i19 : Nat) : Int) from (nI_toInt (by omega))); have q8 := (show (nI i19).toInt = ((i19 : Nat) : Int) from (nI_toInt (by omega))); omega)).symm
          refine lv_iconst (v := 0) hx hb dX0_reap_96 (by decide) ?_
          refine tw_putN (v := .int 0) (ty := .boolean) hx hb hts bF2_X7 tyX7 tyX7_ok nmX7 hown hK hT hG hS hg161 shc_10 rfl 10 (by decide) (hE.nw 75 rfl) (fun _ h9 => h9) rfl (by decide +kernel) rfl rfl (gl_at rfl (gi_of (show (0 : Int32).toInt = 0 from (by decide)) (by first | decide | omega) (by first | decide | omega))) dX0_reap_97 (fun H locs hT oq m184 oj hS => ?_)
          have hF := hF.put hg161 skc_10 oq oj (by decide)
          have m185 := (el_kept (oq _ (gne hr_o0 hg161 (by decide)))).trans m20
          have m186 := (el_kept (oq _ (gne hr_o0 hg161 (by decide)))).trans m21
          refine lv_iinc (v := nI (i19 + 1)) (lv' := [(4, .int (nI (i19 + 1))), (3, .int 0), (2, .int x7), (0, .ref o0), (1, .ref p0)]) hx hb dX0_reap_100 hl (k := 0) rfl (nI_add i19 1) (by decide) rfl (fun ls hl => ?_)
          refine lv_goto (tgt := 36) hx hb dX0_reap_103 (by decide) ?_
          exact ih148 (i19 + 1) (by omega) (by omega) _ _ hT hF hS m185 m186 ls (lv_sub hl [0, 1, 2, 3, 4] rfl)
    exact key148 (60 - 0) 0 (by omega) (Nat.le_refl _) _ _ hT hF hS m17 m18 ls (lv_sub hl [0, 1, 2, 3, 4] rfl)
  · have t198 : x13.toInt ≠ 0 := ti_ne c14 rfl (by decide)
    refine lv_iconst (v := (-1)) hx hb dX0_reap_22 (by decide) ?_
    exact W.iret (v := (-1)) hx hb hr (fun t ht hW => ⟨⟨(-1), (), rfl, (by exact (rg_t (a := (-1)) (by decide) (by first | decide | omega) (by first | decide | omega))), by (try dsimp only); rw [ht]; exact ⟨hT, hF⟩⟩, hS.F ht⟩) hS.2.2 dX0_reap_23
def w_c_harvestZ : List Cond := .code yX11_harvest cX11_harvest 1 (some .int) :: (HAppend.hAppend (α := List Cond) (β := List Cond) (γ := List Cond) [.fieldLink RX11 30 "SeaLand" "board" "LSeaLand$Board;", .fieldLink RX11 16 "SeaLand" "lake" "LSeaLand$Lake;", .code yX0_reap cX0_reap 5 (some .int), .code yX3_dayNow cX3_dayNow 1 (some .int), .fieldLink RX3 32 "SeaLand$Lake" "hour" "I", .methodLink RX0 195 yX3_dayNow, .instanceMethod yX3_dayNow, .selects RX3 yX3_dayNow yX3_dayNow, .initialized RX3, .methodLink RX0 166 Lib.Math.min.name, .static Lib.Math.min.name, .initialized "java/lang/Math", .code Lib.Math.min.name Lib.Math.min.code 2 (some .int), .fieldLink RX0 28 "SeaLand$Board" "harvested" "[Z", .fieldLink RX0 75 "SeaLand$Board" "settled" "I", .code yJ7_fill_53178 cJ7_fill_53178 4 none, .methodLink RX0 55 yJ7_fill_53178, .static yJ7_fill_53178, .initialized RJ7, .fieldLink RX0 11 "SeaLand$Board" "settlers" "[LSeaLand$Settler;", .methodLink RX11 386 yX0_reap, .instanceMethod yX0_reap, .selects RX0 yX0_reap yX0_reap, .initialized RX0] bs2)
set_option maxHeartbeats 4000000 in
set_option maxRecDepth 100000 in
theorem c_harvestZ (l : Launch) (dC : Nat → ClassId) (dI : Nat → Nat → Nat) (kA : Nat → ClassId) (adK adV : Nat → Nat) (G : gT) (H0 : Heap) (nC nS : Int) (o0 : Nat) (bd : Nat) (sA : Nat) (vA vD vC vU vI vW : Nat → Int32) (hT : gH (dC, dI) kA (SHc nC nS) G H0) (hr_o0 : G o0 = some 14) (hm_bd : el H0 o0 (dI 14 3) = some (.ref bd)) (hr_bd : G bd = some 3) (hm_sA : el H0 bd (dI 3 0) = some (.ref sA)) (hr_sA : G sA = some 51) (hFS : ∀ i : Nat, ((i : Nat) : Int) < nS → ∀ a : Nat, el H0 sA i = some (.ref a) → zSf dI H0 a (vA i) (vD i) (vC i) (vU i) (vI i) (vW i)) (hgC : 0 ≤ nC ∧ nC ≤ 40) (hgS : 0 ≤ nS ∧ nS ≤ 60) : Met l yX11_harvest w_c_harvestZ ({ frames := 2, cells := 0, slots := 0, locals := 64 }) (va_Pc [.ref o0] (fun U => U.heap = H0 ∧ va_K (dC, dI) vwCl (tyl kA) U ∧ EVC adK adV (gA G H0.size) U U.heap)) (va_Qi (fun (r : Int32) (u : Unit) => (-1 ≤ r.toInt ∧ r.toInt ≤ 0)) (fun (_ : Unit) (t : State) => gH (dC, dI) kA (SHc nC nS) G t.heap ∧ gF (dC, dI) SKc G ([(10, 10), (32, 0), (55, 0)] : List (Nat × Nat)) H0 t.heap) (gA G H0.size)) 0 0 (gA G H0.size) := by
  refine Met.ofW (cc := cX11_harvest) (maxL := 1) (ret := (some .int)) (by decide) rfl ?_
  intro p e s m args below meth c s₁ B hml hv
  obtain ⟨rfl, hH0, hK, hE⟩ := hv
  have hx := B.exec
  have hb := B.bytes
  have hr := B.returns
  have hts := atoms_spec (ws := w_c_harvestZ) B.pre
  have hown : s.vm.findClass RX11 = some m.cls := findClass_of_methodNamed B.named
  have hlocks := B.notSynchronized
  subst hH0
  generalize hAe : gA G s.heap.size = A at hE ⊢
  have hA : ∀ q : Nat, s.heap.size ≤ q → A q := fun q h => by rw [← hAe]; exact Or.inr h
  have hG := gA_of hAe
  have hS : va_S A s.heap s.heap [] := va_S.rf
  have hF : gF (dC, dI) SKc G ([(10, 10), (32, 0), (55, 0)] : List (Nat × Nat)) s.heap s.heap := gF.rf
  have hl := lv_entry ([.ref o0]) (n := 1) (Nat.le_of_ble_eq_true rfl)
  rw [lg_entry_eq]
  generalize (lg_sl ([.ref o0]) ++ List.replicate (1 - (lg_sl ([.ref o0])).length) Slot.unset).toArray = ls at hl ⊢
  have hl : lv_has ls 1 [(0, .ref o0)] := hl
  refine lv_aload_n hx hb dX11_harvest_0 rfl (lv_at hl 0 rfl) ?_
  refine tw_getM (v := .ref bd) hx hb hts bF2_X11 hown hK hT hr_o0 shc_14 rfl 3 (by decide) (ht_at2 hts 0 rfl) (fun _ h9 => h9) hm_bd dX11_harvest_1 ?_
  refine lv_aload_n hx hb dX11_harvest_4 rfl (lv_at hl 0 rfl) ?_
  refine tw_get hx hb hts bF2_X11 hown hK hT hr_o0 shc_14 rfl 1 (by decide) (ht_at2 hts 1 rfl) (fun _ h9 => h9) dX11_harvest_5 (fun v9 m1 h9 => ?_)
  obtain ⟨b2, rfl, hg3⟩ := h9 _ rfl
  have hFc := gA_free hG hA hS
  refine va_calli (va_runV (As := [.ref b2]) (rest := []) ⟨hx, hb, hml, hown, hts⟩ (c_reapZ l dC dI kA adK adV G s.heap nC nS bd b2 sA vA vD vC vU vI vW hT hg3 hr_bd hm_sA hr_sA hFS (by omega) (by omega)) (cwV 1 hts (goodIn_app (goodIn_r _ [21, 22, 23, 24] rfl (by decide +kernel)) (goodIn_ca (goodIn_r _ [3, 4, 5, 6, 7, 8, 9, 10, 11, 12, 13, 14, 15, 16, 17, 18, 19, 20] rfl (by decide +kernel)) (bs2_in _ _))) rfl rfl rfl (by decide +kernel) ⟨(Nat.le_of_ble_eq_true rfl), (Nat.le_of_ble_eq_true rfl)⟩) ⟨fun a U g mk q => by obtain ⟨q0, q1, qK, qE⟩ := q; exact ⟨q0, q1, va_K.moved (u := U) (U := U.calling g mk a) (Vm.Alike.refl U.vm) qK, EVC.blind g mk a qE⟩, gH_rc hK hT hr_bd shc_3 rfl, fun U hU hW => ⟨rfl, hU, va_K.moved hW.alike hK, hE.call hS hFc hU hW⟩⟩ rfl rfl hl.1 rfl (lv_room (Nat.le_of_ble_eq_true rfl)) dX11_harvest_8 ⟨(Nat.le_of_ble_eq_true rfl), (Nat.le_of_ble_eq_true rfl)⟩) hS (fun q _ h => hFc q h) hFc (fun r4 u t H locs ht hvm hw5 hB _ _ hS => ?_)
  obtain ⟨hT, hF1⟩ := hB
  rw [ht] at hT hF1
  have hF := hF.more hF1 (by decide)
  try dsimp only at hw5
  have h9 := hw5
  exact W.iret (v := r4) hx hb hr (fun t ht hW => ⟨⟨r4, (), rfl, (by exact (by have q8 := ti_all r4; omega)), by (try dsimp only); rw [ht]; exact ⟨hT, hF⟩⟩, hS.F ht⟩) hS.2.2 dX11_harvest_11
def w_c_hearZ : List Cond := .code yX0_hear cX0_hear 5 (some .int) :: (HAppend.hAppend (α := List Cond) (β := List Cond) (γ := List Cond) [] bs2)
set_option maxHeartbeats 4000000 in
set_option maxRecDepth 100000 in
theorem c_hearZ (l : Launch) (dC : Nat → ClassId) (dI : Nat → Nat → Nat) (kA : Nat → ClassId) (adK adV : Nat → Nat) (G : gT) (H0 : Heap) (nC nS : Int) (o0 : Nat) (p0 : Nat) (p1 : Int32) (p2 : Nat) (fmv : Int32)  (hT : gH (dC, dI) kA (SHc nC nS) G H0) (hr_p0 : G p0 = some 10) (hr_p2 : G p2 = some 6) (hr_o0 : G o0 = some 3) (hm_fmv : el H0 p0 (dI 10 7) = some (.int fmv)) (hq0 : 0 ≤ p1.toInt ∧ p1.toInt ≤ 1) (hq1 : -1 ≤ fmv.toInt ∧ fmv.toInt ≤ -1) (hgC : 0 ≤ nC ∧ nC ≤ 40) (hgS : 0 ≤ nS ∧ nS ≤ 60) : Met l yX0_hear w_c_hearZ ({ frames := 0, cells := 0, slots := 0, locals := 0 }) (va_Pc [.ref o0, .ref p0, .int p1, .ref p2] (fun U => U.heap = H0 ∧ va_K (dC, dI) vwCl (tyl kA) U ∧ EVC adK adV (gA G H0.size) U U.heap)) (va_Qi (fun (r : Int32) (u : Unit) => (-1 ≤ r.toInt ∧ r.toInt ≤ -1) ∧ (r = -1)) (fun (_ : Unit) (t : State) => gH (dC, dI) kA (SHc nC nS) G t.heap ∧ gF (dC, dI) SKc G ([] : List (Nat × Nat)) H0 t.heap) (gA G H0.size)) 0 0 (gA G H0.size) := by
  refine Met.ofW (cc := cX0_hear) (maxL := 5) (ret := (some .int)) (by decide) rfl ?_
  intro p e s m args below meth c s₁ B hml hv
  obtain ⟨rfl, hH0, hK, hE⟩ := hv
  have hx := B.exec
  have hb := B.bytes
  have hr := B.returns
  have hts := atoms_spec (ws := w_c_hearZ) B.pre
  have hown : s.vm.findClass RX0 = some m.cls := findClass_of_methodNamed B.named
  have hlocks := B.notSynchronized
  subst hH0
  generalize hAe : gA G s.heap.size = A at hE ⊢
  have hA : ∀ q : Nat, s.heap.size ≤ q → A q := fun q h => by rw [← hAe]; exact Or.inr h
  have hG := gA_of hAe
  have hS : va_S A s.heap s.heap [] := va_S.rf
  have hF : gF (dC, dI) SKc G ([] : List (Nat × Nat)) s.heap s.heap := gF.rf
  have hl := lv_entry ([.ref o0, .ref p0, .int p1, .ref p2]) (n := 5) (Nat.le_of_ble_eq_true rfl)
  rw [lg_entry_eq]
  generalize (lg_sl ([.ref o0, .ref p0, .int p1, .ref p2]) ++ List.replicate (5 - (lg_sl ([.ref o0, .ref p0, .int p1, .ref p2])).length) Slot.unset).toArray = ls at hl ⊢
  have hl : lv_has ls 5 [(0, .ref o0), (1, .ref p0), (2, .int p1), (3, .ref p2)] := hl
  refine lv_aload_n hx hb dX0_hear_0 rfl (lv_at hl 1 rfl) ?_
  refine tw_getNM (v := .int fmv) hx hb hts bF2_X7 hown hK hT hr_p0 shc_10 rfl 7 (by decide) (hE.nw 61 rfl) (fun _ h9 => h9) hm_fmv dX0_hear_1 ?_
  refine lv_iconst (v := (-1)) hx hb dX0_hear_4 (by decide) ?_
  refine lv_icmp_eq (tgt := 15) hx hb dX0_hear_5 (by decide) (fun c1 => ?_) (fun c1 => (by exfalso; have q9 : fmv.toInt ≠ (-1) := ti_ne c1 rfl (by decide); omega))
  have t2 : fmv.toInt = (-1) := ti_eq c1 rfl (by decide)
  refine lv_iconst (v := (-1)) hx hb dX0_hear_15 (by decide) ?_
  exact W.iret (v := (-1)) hx hb hr (fun t ht hW => ⟨⟨(-1), (), rfl, (by exact ⟨(rg_t (a := (-1)) (by decide) (by first | decide | omega) (by first | decide | omega)), rfl⟩), by (try dsimp only); rw [ht]; exact ⟨hT, hF⟩⟩, hS.F ht⟩) hS.2.2 dX0_hear_16
def w_c_settlerOfZ : List Cond := .code yX11_settlerOf cX11_settlerOf 2 (some (.object "SeaLand$Settler")) :: (HAppend.hAppend (α := List Cond) (β := List Cond) (γ := List Cond) [.fieldLink RX11 30 "SeaLand" "board" "LSeaLand$Board;", .code yX11_within cX11_within 3 (some .boolean), .methodLink RX11 58 yX11_within, .static yX11_within, .initialized RX11, .classLink RX11 557 "java/lang/IndexOutOfBoundsException", .initialized "java/lang/IndexOutOfBoundsException"] bs2)
set_option maxHeartbeats 4000000 in
set_option maxRecDepth 100000 in
theorem c_settlerOfZ (l : Launch) (hlt : l.stackTraces = false) (dC : Nat → ClassId) (dI : Nat → Nat → Nat) (kA : Nat → ClassId) (adK adV : Nat → Nat) (G : gT) (H0 : Heap) (nC nS : Int) (o0 : Nat) (p0 : Int32) (bd : Nat) (sA : Nat)  (hT : gH (dC, dI) kA (SHc nC nS) G H0) (hr_o0 : G o0 = some 14) (hm_bd : el H0 o0 (dI 14 3) = some (.ref bd)) (hr_bd : G bd = some 3) (hm_sA : el H0 bd (dI 3 0) = some (.ref sA)) (hr_sA : G sA = some 51) (hgC : 0 ≤ nC ∧ nC ≤ 40) (hgS : 0 ≤ nS ∧ nS ≤ 60) : vx_Met l yX11_settlerOf w_c_settlerOfZ ({ frames := 6, cells := 1, slots := 6, locals := 100 }) (va_Pc [.ref o0, .int p0] (fun U => U.heap = H0 ∧ va_K (dC, dI) vwCl (tyl kA) U ∧ EVC adK adV (gA G H0.size) U U.heap)) (va_Qr (fun (u : Unit) => True) (fun (_ : Unit) (ra : Nat) (t : State) => (G ra = some 10 ∧ (0 ≤ p0.toInt ∧ p0.toInt < nS) ∧ el H0 sA p0.toNatClampNeg = some (.ref ra)) ∧ gH (dC, dI) kA (SHc nC nS) G t.heap ∧ gF (dC, dI) SKc G ([] : List (Nat × Nat)) H0 t.heap) (gA G H0.size)) (vx_X (fun _ : Unit => True) (fun E _ t => (E = "java/lang/IndexOutOfBoundsException") ∧ gH (dC, dI) kA (SHc nC nS) G t.heap ∧ gF (dC, dI) SKc G ([] : List (Nat × Nat)) H0 t.heap) (gA G H0.size)) 1 6 (gA G H0.size) := by
  refine vx_ofW (cc := cX11_settlerOf) (maxL := 2) (ret := (some (.object "SeaLand$Settler"))) (by decide +kernel) rfl ?_
  intro p e s m args below meth c s₁ B hml hnt hv
  obtain ⟨rfl, hH0, hK, hE⟩ := hv
  have hx := B.exec
  have hb := B.bytes
  have hr := B.returns
  have hts := atoms_spec (ws := w_c_settlerOfZ) B.pre
  have hown : s.vm.findClass RX11 = some m.cls := findClass_of_methodNamed B.named
  have hlocks := B.notSynchronized
  subst hH0
  generalize hAe : gA G s.heap.size = A at hE ⊢
  have hA : ∀ q : Nat, s.heap.size ≤ q → A q := fun q h => by rw [← hAe]; exact Or.inr h
  have hG := gA_of hAe
  have hS : va_S A s.heap s.heap [] := va_S.rf
  have hF : gF (dC, dI) SKc G ([] : List (Nat × Nat)) s.heap s.heap := gF.rf
  have hl := lv_entry ([.ref o0, .int p0]) (n := 2) (Nat.le_of_ble_eq_true rfl)
  rw [lg_entry_eq]
  generalize (lg_sl ([.ref o0, .int p0]) ++ List.replicate (2 - (lg_sl ([.ref o0, .int p0])).length) Slot.unset).toArray = ls at hl ⊢
  have hl : lv_has ls 2 [(0, .ref o0), (1, .int p0)] := hl
  refine lv_iload_n hx hb dX11_settlerOf_0 rfl (lv_at hl 1 rfl) ?_
  refine lv_iconst (v := 0) hx hb dX11_settlerOf_1 (by decide) ?_
  refine lv_aload_n hx hb dX11_settlerOf_2 rfl (lv_at hl 0 rfl) ?_
  refine tw_getM (v := .ref bd) hx hb hts bF2_X11 hown hK hT hr_o0 shc_14 rfl 3 (by decide) (ht_at2 hts 0 rfl) (fun _ h9 => h9) hm_bd dX11_settlerOf_3 ?_
  refine tw_getN hx hb hts bF2_X0 hown hK hT hr_bd shc_3 rfl 14 (by decide) (hE.nw 30 rfl) (fun _ h9 => h9) dX11_settlerOf_6 (fun v9 m1 h9 => ?_)
  obtain ⟨x2, rfl, gx2, kx2⟩ := h9 _ rfl
  refine lv_iconst (v := 1) hx hb dX11_settlerOf_9 (by decide) ?_
  refine lv_isub hx hb dX11_settlerOf_10 ?_
  refine lv_topi (fun x3 ex3 => ?_)
  have t4 : x3.toInt = x2.toInt - 1 := ti_sub ex3 rfl (by decide) (by omega) (by omega)
  have hFc := gA_free hG hA hS
  refine va_calli (va_runS (As := [.int p0, .int 0, .int x3]) (rest := []) ⟨hx, hb, hml, hown, hts⟩ (c_within l dC dI kA adK adV G s.heap nC nS p0 0 x3 hT (by omega) (by omega)) (va_cwS 3 hts (goodIn_app (goodIn_r _ [3, 4, 5] rfl (by decide +kernel)) (goodIn_ca (goodIn_r _ [2] rfl (by decide +kernel)) (bs2_in _ _))) rfl rfl rfl (by decide +kernel) ⟨(Nat.le_of_ble_eq_true rfl), (Nat.le_of_ble_eq_true rfl)⟩) ⟨fun a U g mk q => by obtain ⟨q0, q1, qK, qE⟩ := q; exact ⟨q0, q1, va_K.moved (u := U) (U := U.calling g mk a) (Vm.Alike.refl U.vm) qK, EVC.blind g mk a qE⟩, fun U hU hW => ⟨rfl, hU, va_K.moved hW.alike hK, hE.call hS hFc hU hW⟩⟩ rfl rfl hl.1 rfl (lv_room (Nat.le_of_ble_eq_true rfl)) dX11_settlerOf_11 ⟨(Nat.le_of_ble_eq_true rfl), (Nat.le_of_ble_eq_true rfl)⟩) hS (fun q _ h => hFc q h) hFc (fun r5 u t H locs ht hvm hw6 hB _ _ hS => ?_)
  obtain ⟨hT, hF1⟩ := hB
  rw [ht] at hT hF1
  have m7 := (hF1.fld hr_o0 skc_14 (k := 3) (by decide) (by decide)).trans hm_bd
  have m8 := (hF1.fld hr_bd skc_3 (k := 0) (by decide) (by decide)).trans hm_sA
  have hF := hF.more hF1 (by decide)
  try dsimp only at hw6
  obtain ⟨h10, hi11, hi12⟩ := hw6
  refine lv_if_ne (tgt := 28) hx hb dX11_settlerOf_14 (by decide) (fun c13 => ?_) (fun c13 => ?_)
  · have t14 : r5.toInt ≠ 0 := ti_ne c13 rfl (by decide)
    have t15 : (0 : Int32).toInt = 0 := by decide
    have t16 : (0 : Int32).toInt ≤ p0.toInt ∧ p0.toInt ≤ x3.toInt := hi11 ((bit_of ⟨by omega, by omega⟩).resolve_left c13)
    refine lv_aload_n hx hb dX11_settlerOf_28 rfl (lv_at hl 0 rfl) ?_
    refine tw_getM (v := .ref bd) hx hb hts bF2_X11 hown hK hT hr_o0 shc_14 rfl 3 (by decide) (ht_at2 hts 0 rfl) (fun _ h9 => h9) m7 dX11_settlerOf_29 ?_
    refine tw_getNM (v := .ref sA) hx hb hts bF2_X0 hown hK hT hr_bd shc_3 rfl 0 (by decide) (hE.nw 58 rfl) (fun _ h9 => h9) m8 dX11_settlerOf_32 ?_
    refine lv_iload_n hx hb dX11_settlerOf_35 rfl (lv_at hl 1 rfl) ?_
    refine tw_aald (i := p0) hx hb hK hT hr_sA shc_51 rfl (vin_t (a := p0.toInt) rfl (by omega) (by omega)) dX11_settlerOf_36 (fun v9 m17 h9 => ?_)
    obtain ⟨b18, rfl, hg19⟩ := (h9.1 (by have q9 := tn_of (show p0.toInt = p0.toInt from rfl) (by omega); omega))
    refine W.widen (k := 1) (n := 6) (by decide) (by decide) ?_
    exact vx_ret (W.aret (v := .ref b18) hx hb hr (Or.inl ⟨_, rfl⟩) (Or.inr ⟨_, rfl⟩) (fun t ht hW => ⟨⟨(), b18, rfl, (by exact trivial), by (try dsimp only); rw [ht]; exact ⟨⟨hg19, ⟨by omega, by omega⟩, (el_kept (hF.arr hr_sA skc_51 (by decide))).symm.trans m17⟩, hT, hF⟩⟩, hS.F ht⟩) hS.2.2 dX11_settlerOf_37)
  · have t20 : r5.toInt = 0 := ti_eq c13 rfl (by decide)
    have t21 : (0 : Int32).toInt = 0 := by decide
    have t22 : p0.toInt < (0 : Int32).toInt ∨ x3.toInt < p0.toInt := hi12 c13
    obtain ⟨sa23, hsa23⟩ := hE.str 19 rfl
    exact vx_throwSW (names := ["java/lang/RuntimeException", "java/lang/Exception"]) hx hb hlt hown (by decide +kernel) (by decide +kernel) (ht_at2 hts 5 rfl) (ht_at2 hts 6 rfl) hsa23 (bX2_at0 hts hE) bX_ok0_557 hE.1.1.2.2.1 hE.1.1.2.2.2 hS (by rw [hml]; exact hl.1) dX11_settlerOf_17 dX11_settlerOf_20 dX11_settlerOf_21 dX11_settlerOf_24 dX11_settlerOf_27 (fun x h => (hnt x h).elim) (by decide) (Nat.le_of_ble_eq_true rfl) (Nat.le_of_ble_eq_true rfl) (Nat.le_of_ble_eq_true rfl) hlocks (fun t hW hz hq => ⟨(), trivial, ⟨rfl, hT.ext hq, hF.ext hT hq⟩, Nat.le_trans hS.1 hz, fun q h1 h2 => (hq q (Nat.lt_of_lt_of_le h1 hS.1)).trans (hS.2.1 q h1 h2)⟩) hS.2.2 (by decide) (by decide)
def w_c_voteZ : List Cond := .code yX11_vote cX11_vote 4 (some .int) :: (HAppend.hAppend (α := List Cond) (β := List Cond) (γ := List Cond) [.code yX11_settlerOf cX11_settlerOf 2 (some (.object "SeaLand$Settler")), .fieldLink RX11 30 "SeaLand" "board" "LSeaLand$Board;", .code yX11_within cX11_within 3 (some .boolean), .methodLink RX11 58 yX11_within, .static yX11_within, .initialized RX11, .classLink RX11 557 "java/lang/IndexOutOfBoundsException", .initialized "java/lang/IndexOutOfBoundsException", .methodLink RX11 292 yX11_settlerOf, .instanceMethod yX11_settlerOf, .selects RX11 yX11_settlerOf yX11_settlerOf, .code yX11_needVote cX11_needVote 1 none, .classLink RX11 69 "java/lang/IllegalStateException", .initialized "java/lang/IllegalStateException", .methodLink RX11 296 yX11_needVote, .instanceMethod yX11_needVote, .selects RX11 yX11_needVote yX11_needVote, .fieldLink RX11 16 "SeaLand" "lake" "LSeaLand$Lake;", .code yX0_hear cX0_hear 5 (some .int), .methodLink RX11 299 yX0_hear, .instanceMethod yX0_hear, .selects RX0 yX0_hear yX0_hear, .initialized RX0] bs2)
set_option maxHeartbeats 4000000 in
set_option maxRecDepth 100000 in
theorem c_voteZ (l : Launch) (hlt : l.stackTraces = false) (dC : Nat → ClassId) (dI : Nat → Nat → Nat) (kA : Nat → ClassId) (adK adV : Nat → Nat) (G : gT) (H0 : Heap) (nC nS : Int) (o0 : Nat) (p0 : Int32) (p1 : Int32) (bd : Nat) (sA : Nat) (vA vD vC vU vI vW : Nat → Int32) (hT : gH (dC, dI) kA (SHc nC nS) G H0) (hr_o0 : G o0 = some 14) (hm_bd : el H0 o0 (dI 14 3) = some (.ref bd)) (hr_bd : G bd = some 3) (hm_sA : el H0 bd (dI 3 0) = some (.ref sA)) (hr_sA : G sA = some 51) (hq0 : 0 ≤ p1.toInt ∧ p1.toInt ≤ 1) (hFS : ∀ i : Nat, ((i : Nat) : Int) < nS → ∀ a : Nat, el H0 sA i = some (.ref a) → zSf dI H0 a (vA i) (vD i) (vC i) (vU i) (vI i) (vW i)) (hgC : 0 ≤ nC ∧ nC ≤ 40) (hgS : 0 ≤ nS ∧ nS ≤ 60) : vx_Met l yX11_vote w_c_voteZ ({ frames := 7, cells := 2, slots := 12, locals := 121 }) (va_Pc [.ref o0, .int p0, .int p1] (fun U => U.heap = H0 ∧ va_K (dC, dI) vwCl (tyl kA) U ∧ EVC adK adV (gA G H0.size) U U.heap)) (va_Qi (fun (r : Int32) (u : Unit) => (-1 ≤ r.toInt ∧ r.toInt ≤ -1)) (fun (_ : Unit) (t : State) => gH (dC, dI) kA (SHc nC nS) G t.heap ∧ gF (dC, dI) SKc G ([] : List (Nat × Nat)) H0 t.heap) (gA G H0.size)) (vx_X (fun _ : Unit => True) (fun E _ t => (E = "java/lang/IllegalStateException" ∨ E = "java/lang/IndexOutOfBoundsException") ∧ gH (dC, dI) kA (SHc nC nS) G t.heap ∧ gF (dC, dI) SKc G ([] : List (Nat × Nat)) H0 t.heap) (gA G H0.size)) 2 12 (gA G H0.size) := by
  refine vx_ofW (cc := cX11_vote) (maxL := 4) (ret := (some .int)) (by decide) rfl ?_
  intro p e s m args below meth c s₁ B hml hnt hv
  obtain ⟨rfl, hH0, hK, hE⟩ := hv
  have hx := B.exec
  have hb := B.bytes
  have hr := B.returns
  have hts := atoms_spec (ws := w_c_voteZ) B.pre
  have hown : s.vm.findClass RX11 = some m.cls := findClass_of_methodNamed B.named
  have hlocks := B.notSynchronized
  subst hH0
  generalize hAe : gA G s.heap.size = A at hE ⊢
  have hA : ∀ q : Nat, s.heap.size ≤ q → A q := fun q h => by rw [← hAe]; exact Or.inr h
  have hG := gA_of hAe
  have hS : va_S A s.heap s.heap [] := va_S.rf
  have hF : gF (dC, dI) SKc G ([] : List (Nat × Nat)) s.heap s.heap := gF.rf
  have hl := lv_entry ([.ref o0, .int p0, .int p1]) (n := 4) (Nat.le_of_ble_eq_true rfl)
  rw [lg_entry_eq]
  generalize (lg_sl ([.ref o0, .int p0, .int p1]) ++ List.replicate (4 - (lg_sl ([.ref o0, .int p0, .int p1])).length) Slot.unset).toArray = ls at hl ⊢
  have hl : lv_has ls 4 [(0, .ref o0), (1, .int p0), (2, .int p1)] := hl
  refine lv_aload_n hx hb dX11_vote_0 rfl (lv_at hl 0 rfl) ?_
  refine lv_iload_n hx hb dX11_vote_1 rfl (lv_at hl 1 rfl) ?_
  have hFc := gA_free hG hA hS
  refine vx_callr (vx_runV (As := [.int p0]) (rest := []) ⟨hx, hb, hml, hown, hts⟩ (c_settlerOfZ l hlt dC dI kA adK adV G s.heap nC nS o0 p0 bd sA hT hr_o0 hm_bd hr_bd hm_sA hr_sA (by omega) (by omega)) (cwV 1 hts (goodIn_app (goodIn_r _ [9, 10, 11, 6] rfl (by decide +kernel)) (goodIn_ca (goodIn_r _ [1, 2, 3, 4, 5, 6, 7, 8] rfl (by decide +kernel)) (bs2_in _ _))) rfl rfl rfl (by decide +kernel) ⟨(Nat.le_of_ble_eq_true rfl), (Nat.le_of_ble_eq_true rfl)⟩) ⟨fun a U g mk q => by obtain ⟨q0, q1, qK, qE⟩ := q; exact ⟨q0, q1, va_K.moved (u := U) (U := U.calling g mk a) (Vm.Alike.refl U.vm) qK, EVC.blind g mk a qE⟩, gH_rc hK hT hr_o0 shc_14 rfl, fun U hU hW => ⟨rfl, hU, va_K.moved hW.alike hK, hE.call hS hFc hU hW⟩⟩ rfl rfl hl.1 rfl (lv_room (Nat.le_of_ble_eq_true rfl)) dX11_vote_2 ⟨(Nat.le_of_ble_eq_true rfl), (Nat.le_of_ble_eq_true rfl)⟩) hS (fun q _ h => hFc q h) hFc (fun q _ h => hFc q h) (fun E ce q9 u t H locs ht hvm _ hw2 _ _ hS hce hcv hcl => ?_) (fun u r1 t H locs ht hvm hw2 hB _ _ hS => ?_)
  · obtain ⟨hw2, hTx, hFx⟩ := hw2; rw [ht] at hTx hFx
    exact vx_out (fun x h => (hnt x h).elim) hlocks hce hcv hcl (fun t2 h2 hW => ⟨(), trivial, ⟨((fun h9 => (Or.inr h9)) hw2), by rw [h2]; exact hTx, by rw [h2]; exact hF.more hFx (by decide)⟩, hS.F h2⟩) hS.2.2 (by decide) (by decide)
  · obtain ⟨hr9, hT, hF1⟩ := hB
    rw [ht] at hT hF1
    have m3 := (hF1.fld hr_o0 skc_14 (k := 3) (by decide) (by decide)).trans hm_bd
    have hF := hF.more hF1 (by decide)
    obtain ⟨hg5, h6, m7⟩ : _ ∧ _ ∧ _ := hr9
    try dsimp only at hw2
    have fs8 := hFS p0.toNatClampNeg (by have := tn_of (show p0.toInt = p0.toInt from rfl) (by omega); omega) r1 m7
    have m9 := (hF.fld hg5 skc_10 (k := 7) (by decide) (by decide)).trans fs8.1
    refine lv_astore_n (lv' := [(3, .ref r1), (0, .ref o0), (1, .int p0), (2, .int p1)]) hx hb dX11_vote_5 rfl hl (by decide) rfl (fun ls hl => ?_)
    refine lv_aload_n hx hb dX11_vote_6 rfl (lv_at hl 1 rfl) ?_
    have hFc := gA_free hG hA hS
    refine vx_callv (vx_runV (As := []) (rest := []) ⟨hx, hb, hml, hown, hts⟩ (c_needVote l hlt dC dI kA adK adV G H nC nS o0 hT hr_o0 (by omega) (by omega)) (cwV 0 hts (goodIn_app (goodIn_r _ [15, 16, 17, 6] rfl (by decide +kernel)) (goodIn_ca (goodIn_r _ [12, 2, 13, 14] rfl (by decide +kernel)) (bs2_in _ _))) rfl rfl rfl (by decide +kernel) ⟨(Nat.le_of_ble_eq_true rfl), (Nat.le_of_ble_eq_true rfl)⟩) ⟨fun a U g mk q => by obtain ⟨q0, q1, qK, qE⟩ := q; exact ⟨q0, q1, va_K.moved (u := U) (U := U.calling g mk a) (Vm.Alike.refl U.vm) qK, EVC.blind g mk a qE⟩, gH_rc hK hT hr_o0 shc_14 rfl, fun U hU hW => ⟨rfl, hU, va_K.moved hW.alike hK, hE.call hS hFc hU hW⟩⟩ rfl rfl hl.1 rfl (lv_room (Nat.le_of_ble_eq_true rfl)) dX11_vote_7 ⟨(Nat.le_of_ble_eq_true rfl), (Nat.le_of_ble_eq_true rfl)⟩) hS (fun q _ h => hFc q h) hFc (fun q _ h => hFc q h) (fun E ce q9 u t H locs ht hvm _ hw11 _ _ hS hce hcv hcl => ?_) (fun u t H locs ht hvm hw11 hB _ _ hS => ?_)
    · obtain ⟨hw11, hTx, hFx⟩ := hw11; rw [ht] at hTx hFx
      exact vx_out (fun x h => (hnt x h).elim) hlocks hce hcv hcl (fun t2 h2 hW => ⟨(), trivial, ⟨((fun h9 => (Or.inl h9)) hw11), by rw [h2]; exact hTx, by rw [h2]; exact hF.more hFx (by decide)⟩, hS.F h2⟩) hS.2.2 (by decide) (by decide)
    · obtain ⟨hT, hF1⟩ := hB
      rw [ht] at hT hF1
      have m12 := (hF1.fld hr_o0 skc_14 (k := 3) (by decide) (by decide)).trans m3
      have m14 := (hF1.fld hg5 skc_10 (k := 7) (by decide) (by decide)).trans m9
      have hF := hF.more hF1 (by decide)
      try dsimp only at hw11
      refine lv_aload_n hx hb dX11_vote_10 rfl (lv_at hl 1 rfl) ?_
      refine tw_getM (v := .ref bd) hx hb hts bF2_X11 hown hK hT hr_o0 shc_14 rfl 3 (by decide) (ht_at2 hts 1 rfl) (fun _ h9 => h9) m12 dX11_vote_11 ?_
      refine lv_aload_n hx hb dX11_vote_14 rfl (lv_at hl 0 rfl) ?_
      refine lv_iload_n hx hb dX11_vote_15 rfl (lv_at hl 3 rfl) ?_
      refine lv_aload_n hx hb dX11_vote_16 rfl (lv_at hl 1 rfl) ?_
      refine tw_get hx hb hts bF2_X11 hown hK hT hr_o0 shc_14 rfl 1 (by decide) (ht_at2 hts 17 rfl) (fun _ h9 => h9) dX11_vote_17 (fun v9 m15 h9 => ?_)
      obtain ⟨b16, rfl, hg17⟩ := h9 _ rfl
      have hFc := gA_free hG hA hS
      refine va_calli (va_runV (As := [.ref r1, .int p1, .ref b16]) (rest := []) ⟨hx, hb, hml, hown, hts⟩ (c_hearZ l dC dI kA adK adV G H nC nS bd r1 p1 b16 (-1) hT hg5 hg17 hr_bd m14 (by have q8 := ti_all p1; omega) (rg_t (a := (-1)) (by decide) (by first | decide | omega) (by first | decide | omega)) (by omega) (by omega)) (cwV 3 hts (goodIn_app (goodIn_r _ [20, 21, 22, 23] rfl (by decide +kernel)) (goodIn_ca (goodIn_r _ [19] rfl (by decide +kernel)) (bs2_in _ _))) rfl rfl rfl (by decide +kernel) ⟨(Nat.le_of_ble_eq_true rfl), (Nat.le_of_ble_eq_true rfl)⟩) ⟨fun a U g mk q => by obtain ⟨q0, q1, qK, qE⟩ := q; exact ⟨q0, q1, va_K.moved (u := U) (U := U.calling g mk a) (Vm.Alike.refl U.vm) qK, EVC.blind g mk a qE⟩, gH_rc hK hT hr_bd shc_3 rfl, fun U hU hW => ⟨rfl, hU, va_K.moved hW.alike hK, hE.call hS hFc hU hW⟩⟩ rfl rfl hl.1 rfl (lv_room (Nat.le_of_ble_eq_true rfl)) dX11_vote_20 ⟨(Nat.le_of_ble_eq_true rfl), (Nat.le_of_ble_eq_true rfl)⟩) hS (fun q _ h => hFc q h) hFc (fun r18 u t H locs ht hvm hw19 hB _ _ hS => ?_)
      obtain ⟨hT, hF1⟩ := hB
      rw [ht] at hT hF1
      have hF := hF.more hF1 (by decide)
      try dsimp only at hw19
      obtain ⟨h24, hd25⟩ := hw19
      obtain rfl : (-1 : Int32) = r18 := hd25.symm
      exact vx_ret (W.iret (v := (-1)) hx hb hr (fun t ht hW => ⟨⟨(-1), (), rfl, (by exact (rg_t (a := (-1)) (by decide) (by first | decide | omega) (by first | decide | omega))), by (try dsimp only); rw [ht]; exact ⟨hT, hF⟩⟩, hS.F ht⟩) hS.2.2 dX11_vote_23)
def w_c_chooseZ : List Cond := .code yX11_choose cX11_choose 2 (some .int) :: (HAppend.hAppend (α := List Cond) (β := List Cond) (γ := List Cond) [.code yX11_within cX11_within 3 (some .boolean), .methodLink RX11 58 yX11_within, .static yX11_within, .initialized RX11, .code yX11_needNumbers cX11_needNumbers 1 none, .classLink RX11 547 "java/lang/IllegalArgumentException", .initialized "java/lang/IllegalArgumentException", .methodLink RX11 62 yX11_needNumbers, .static yX11_needNumbers, .fieldLink RX11 30 "SeaLand" "board" "LSeaLand$Board;", .fieldLink RX11 16 "SeaLand" "lake" "LSeaLand$Lake;", .code yX0_giveFarms cX0_giveFarms 7 (some .int), .fieldLink RX0 75 "SeaLand$Board" "settled" "I", .fieldLink RX0 185 "SeaLand$Board" "holding" "I", .code yX0_firstByMark cX0_firstByMark 3 (some .int), .fieldLink RX0 37 "SeaLand$Board" "marks" "[I", .fieldLink RX0 11 "SeaLand$Board" "settlers" "[LSeaLand$Settler;", .methodLink RX0 173 yX0_firstByMark, .instanceMethod yX0_firstByMark, .selects RX0 yX0_firstByMark yX0_firstByMark, .initialized RX0, .code yX0_bestFreeFarm cX0_bestFreeFarm 6 (some .int), .fieldLink RX0 143 "SeaLand$Board" "farms" "I", .fieldLink RX0 24 "SeaLand$Board" "held" "[Z", .code yX0_worthOf cX0_worthOf 7 (some .int), .fieldLink RX0 17 "SeaLand$Board" "farmOf" "[I", .methodLink RX0 161 Lib.Math.max.name, .static Lib.Math.max.name, .initialized "java/lang/Math", .code Lib.Math.max.name Lib.Math.max.code 2 (some .int), .methodLink RX0 191 yX0_worthOf, .instanceMethod yX0_worthOf, .selects RX0 yX0_worthOf yX0_worthOf, .methodLink RX0 181 yX0_bestFreeFarm, .instanceMethod yX0_bestFreeFarm, .selects RX0 yX0_bestFreeFarm yX0_bestFreeFarm, .code yX0_gatherFacts cX0_gatherFacts 3 none, .fieldLink RX0 33 "SeaLand$Board" "facts" "[J", .code yX0_acresOf cX0_acresOf 4 (some .int), .methodLink RX0 98 yX0_acresOf, .instanceMethod yX0_acresOf, .selects RX0 yX0_acresOf yX0_acresOf, .code yX0_nearOf cX0_nearOf 5 (some .int), .methodLink RX0 123 yX0_nearOf, .instanceMethod yX0_nearOf, .selects RX0 yX0_nearOf yX0_nearOf, .methodLink RX0 84 yX0_gatherFacts, .instanceMethod yX0_gatherFacts, .selects RX0 yX0_gatherFacts yX0_gatherFacts, .code yX0_isRuled cX0_isRuled 2 (some .boolean), .fieldLink RX0 41 "SeaLand$Board" "force" "LSeaLand$Law;", .code yX4_firstThatHolds cX4_firstThatHolds 4 (some .int), .fieldLink RX4 60 "SeaLand$Law" "lines" "I", .fieldLink RX4 18 "SeaLand$Law" "kinds" "[I", .code yX4_lineHolds cX4_lineHolds 6 (some .boolean), .fieldLink RX4 33 "SeaLand$Law" "stepFrom" "[I", .fieldLink RX4 36 "SeaLand$Law" "stepTo" "[I", .fieldLink RX4 39 "SeaLand$Law" "steps" "[I", .fieldLink RX4 42 "SeaLand$Law" "stack" "[J", .code yX4_joined cX4_joined 5 (some .long), .methodLink RX4 199 Lib.MathLoose.max_long.x, .static Lib.MathLoose.max_long.x, .code Lib.MathLoose.max_long.x Lib.MathLoose.max_long.code 4 (some .long), .methodLink RX4 195 yX4_joined, .static yX4_joined, .initialized RX4, .methodLink RX4 203 yX4_lineHolds, .instanceMethod yX4_lineHolds, .selects RX4 yX4_lineHolds yX4_lineHolds, .methodLink RX0 134 yX4_firstThatHolds, .instanceMethod yX4_firstThatHolds, .selects RX4 yX4_firstThatHolds yX4_firstThatHolds, .methodLink RX0 169 yX0_isRuled, .instanceMethod yX0_isRuled, .selects RX0 yX0_isRuled yX0_isRuled, .code yX0_ruled cX0_ruled 2 (some .int), .code yX4_sumThatHolds cX4_sumThatHolds 6 (some .long), .fieldLink RX4 21 "SeaLand$Law" "firsts" "[I", .methodLink RX0 130 yX4_sumThatHolds, .instanceMethod yX4_sumThatHolds, .selects RX4 yX4_sumThatHolds yX4_sumThatHolds, .methodLink RX0 88 yX0_ruled, .instanceMethod yX0_ruled, .selects RX0 yX0_ruled yX0_ruled, .methodLink RX11 373 yX0_giveFarms, .instanceMethod yX0_giveFarms, .selects RX0 yX0_giveFarms yX0_giveFarms] bs2)
set_option maxHeartbeats 4000000 in
set_option maxRecDepth 100000 in
theorem c_chooseZ (l : Launch) (hlt : l.stackTraces = false) (dC : Nat → ClassId) (dI : Nat → Nat → Nat) (kA : Nat → ClassId) (adK adV : Nat → Nat) (G : gT) (H0 : Heap) (nC nS : Int) (o0 : Nat) (p0 : Int32) (bd : Nat) (mk9 : Nat) (hd9 : Nat) (sA : Nat) (fm : Int32) (fa9 : Nat) (hv0 : Int32) (lw : Nat) (kn : Nat) (ln : Int32) (sf : Nat) (sto : Nat) (stp9 : Nat) (stk : Nat) (vM0 : Nat → Int32) (vh : Nat → Int32) (vK : Nat → Int32) (vF : Nat → Int32) (vT : Nat → Int32) (vS : Nat → Int32) (vQ : Nat → Int64) (fL : Nat → Int64) (A9 : zAl) (vA vD vC vU vI vW : Nat → Int32) (hT : gH (dC, dI) kA (SHc nC nS) G H0) (hr_o0 : G o0 = some 14) (hm_bd : el H0 o0 (dI 14 3) = some (.ref bd)) (hr_bd : G bd = some 3) (hm_mk9 : el H0 bd (dI 3 6) = some (.ref mk9)) (hr_mk9 : G mk9 = some 57) (hm_hd9 : el H0 bd (dI 3 3) = some (.ref hd9)) (hr_hd9 : G hd9 = some 54) (hm_sA : el H0 bd (dI 3 0) = some (.ref sA)) (hr_sA : G sA = some 51) (hm_fm : el H0 bd (dI 3 16) = some (.int fm)) (hm_fa9 : el H0 bd (dI 3 5) = some (.ref fa9)) (hr_fa9 : G fa9 = some 56) (hm_hv0 : el H0 bd (dI 3 15) = some (.int hv0)) (hm_lw : el H0 bd (dI 3 7) = some (.ref lw)) (hr_lw : G lw = some 7) (hm_kn : el H0 lw (dI 7 2) = some (.ref kn)) (hr_kn : G kn = some 42) (hm_ln : el H0 lw (dI 7 11) = some (.int ln)) (hm_sf : el H0 lw (dI 7 7) = some (.ref sf)) (hr_sf : G sf = some 47) (hm_sto : el H0 lw (dI 7 8) = some (.ref sto)) (hr_sto : G sto = some 48) (hm_stp9 : el H0 lw (dI 7 9) = some (.ref stp9)) (hr_stp9 : G stp9 = some 49) (hm_stk : el H0 lw (dI 7 10) = some (.ref stk)) (hr_stk : G stk = some 50) (hq0 : 0 ≤ fm.toInt ∧ fm.toInt ≤ 30) (hq1 : 0 ≤ hv0.toInt ∧ hv0.toInt ≤ 0) (hq2 : 0 ≤ ln.toInt ∧ ln.toInt ≤ 20) (hnh : ∀ f : Nat, f < 30 → (vh f).toInt = 0) (hct : zct vh 30 = 0) (hFS : ∀ i : Nat, ((i : Nat) : Int) < nS → ∀ a : Nat, el H0 sA i = some (.ref a) → zSf dI H0 a (vA i) (vD i) (vC i) (vU i) (vI i) (vW i)) (hrp : zRp A9 vK vF vT (tz vS) 400) (hzk : ∀ e ∈ A9, zok e.2) (hln : ((A9.length : Nat) : Int) = ln.toInt) (hc_vM0 : ct H0 mk9 60 vM0) (hc_vh : ct H0 hd9 30 vh) (hc_vK : ct H0 kn 20 vK) (hc_vF : ct H0 sf 20 vF) (hc_vT : ct H0 sto 20 vT) (hc_vS : ct H0 stp9 400 vS) (hc_vQ : ctl H0 stk 20 vQ) (hc_fL : ctl H0 fa9 10 fL) (hgC : 0 ≤ nC ∧ nC ≤ 40) (hgS : 0 ≤ nS ∧ nS ≤ 60) : vx_Met l yX11_choose w_c_chooseZ ({ frames := 7, cells := 1, slots := 6, locals := 161 }) (va_Pc [.ref o0, .int p0] (fun U => U.heap = H0 ∧ va_K (dC, dI) vwCl (tyl kA) U ∧ EVC adK adV (gA G H0.size) U U.heap)) (va_Qi (fun (r : Int32) (u : Int32 × (Nat → Int32)) => match u with | (hl1, vh1) => (0 ≤ r.toInt ∧ r.toInt ≤ 60) ∧ ((0 < r.toInt ∧ ((1 ≤ p0.toInt ∧ p0.toInt ≤ 60) ∧ 0 < fm.toInt ∧ zNO (zLs (fun _ => 0) vA vD vC vU vI vW (fun _ => 0)) A9 nS)) ∨ (r.toInt = 0 ∧ ¬ ((1 ≤ p0.toInt ∧ p0.toInt ≤ 60) ∧ 0 < fm.toInt ∧ zNO (zLs (fun _ => 0) vA vD vC vU vI vW (fun _ => 0)) A9 nS) ∧ vh = vh1)) ∧ (hl1.toInt = r.toInt ∧ zct vh1 30 = hl1.toInt)) (fun (u : Int32 × (Nat → Int32)) (t : State) => match u with | (hl1, vh1) => gH (dC, dI) kA (SHc nC nS) G t.heap ∧ gF (dC, dI) SKc G ([(3, 15), (10, 7), (50, 0), (54, 0), (56, 0), (57, 0)] : List (Nat × Nat)) H0 t.heap ∧ el t.heap bd (dI 3 15) = some (.int hl1) ∧ ct t.heap hd9 30 vh1 ∧ (hl1 = 0 → gF (dC, dI) SKc G ([(3, 15), (50, 0), (56, 0), (57, 0)] : List (Nat × Nat)) H0 t.heap)) (gA G H0.size)) (vx_X (fun _ : Unit => True) (fun E _ t => (E = "java/lang/IllegalArgumentException") ∧ ((E = "java/lang/IllegalArgumentException" ∧ ¬ (0 ≤ p0.toInt ∧ p0.toInt ≤ 60))) ∧ gH (dC, dI) kA (SHc nC nS) G t.heap ∧ gF (dC, dI) SKc G ([(3, 15), (10, 7), (50, 0), (54, 0), (56, 0), (57, 0)] : List (Nat × Nat)) H0 t.heap ∧ (gF (dC, dI) SKc G ([] : List (Nat × Nat)) H0 t.heap)) (gA G H0.size)) 1 6 (gA G H0.size) := by
  refine vx_ofW (cc := cX11_choose) (maxL := 2) (ret := (some .int)) (by decide) rfl ?_
  intro p e s m args below meth c s₁ B hml hnt hv
  obtain ⟨rfl, hH0, hK, hE⟩ := hv
  have hx := B.exec
  have hb := B.bytes
  have hr := B.returns
  have hts := atoms_spec (ws := w_c_chooseZ) B.pre
  have hown : s.vm.findClass RX11 = some m.cls := findClass_of_methodNamed B.named
  have hlocks := B.notSynchronized
  subst hH0
  generalize hAe : gA G s.heap.size = A at hE ⊢
  have hA : ∀ q : Nat, s.heap.size ≤ q → A q := fun q h => by rw [← hAe]; exact Or.inr h
  have hG := gA_of hAe
  have hS : va_S A s.heap s.heap [] := va_S.rf
  have hF : gF (dC, dI) SKc G ([(3, 15), (10, 7), (50, 0), (54, 0), (56, 0), (57, 0)] : List (Nat × Nat)) s.heap s.heap := gF.rf
  have hl := lv_entry ([.ref o0, .int p0]) (n := 2) (Nat.le_of_ble_eq_true rfl)
  rw [lg_entry_eq]
  generalize (lg_sl ([.ref o0, .int p0]) ++ List.replicate (2 - (lg_sl ([.ref o0, .int p0])).length) Slot.unset).toArray = ls at hl ⊢
  have hl : lv_has ls 2 [(0, .ref o0), (1, .int p0)] := hl
  have hF2 : gF (dC, dI) SKc G ([] : List (Nat × Nat)) s.heap s.heap := gF.rf
  refine lv_iload_n hx hb dX11_choose_0 rfl (lv_at hl 1 rfl) ?_
  refine lv_iconst (v := 0) hx hb dX11_choose_1 (by decide) ?_
  refine lv_bipush (v := 60) hx hb dX11_choose_2 (by decide) ?_
  have hFc := gA_free hG hA hS
  refine va_calli (va_runS (As := [.int p0, .int 0, .int 60]) (rest := []) ⟨hx, hb, hml, hown, hts⟩ (c_within l dC dI kA adK adV G s.heap nC nS p0 0 60 hT (by omega) (by omega)) (va_cwS 3 hts (goodIn_app (goodIn_r _ [2, 3, 4] rfl (by decide +kernel)) (goodIn_ca (goodIn_r _ [1] rfl (by decide +kernel)) (bs2_in _ _))) rfl rfl rfl (by decide +kernel) ⟨(Nat.le_of_ble_eq_true rfl), (Nat.le_of_ble_eq_true rfl)⟩) ⟨fun a U g mk q => by obtain ⟨q0, q1, qK, qE⟩ := q; exact ⟨q0, q1, va_K.moved (u := U) (U := U.calling g mk a) (Vm.Alike.refl U.vm) qK, EVC.blind g mk a qE⟩, fun U hU hW => ⟨rfl, hU, va_K.moved hW.alike hK, hE.call hS hFc hU hW⟩⟩ rfl rfl hl.1 rfl (lv_room (Nat.le_of_ble_eq_true rfl)) dX11_choose_4 ⟨(Nat.le_of_ble_eq_true rfl), (Nat.le_of_ble_eq_true rfl)⟩) hS (fun q _ h => hFc q h) hFc (fun r1 u t H locs ht hvm hw2 hB _ _ hS => ?_)
  obtain ⟨hT, hF1⟩ := hB
  rw [ht] at hT hF1
  have m3 := (hF1.fld hr_o0 skc_14 (k := 3) (by decide) (by decide)).trans hm_bd
  have m4 := (hF1.fld hr_bd skc_3 (k := 6) (by decide) (by decide)).trans hm_mk9
  have m5 := (hF1.fld hr_bd skc_3 (k := 3) (by decide) (by decide)).trans hm_hd9
  have m6 := (hF1.fld hr_bd skc_3 (k := 0) (by decide) (by decide)).trans hm_sA
  have m7 := (hF1.fld hr_bd skc_3 (k := 16) (by decide) (by decide)).trans hm_fm
  have m8 := (hF1.fld hr_bd skc_3 (k := 5) (by decide) (by decide)).trans hm_fa9
  have m9 := (hF1.fld hr_bd skc_3 (k := 15) (by decide) (by decide)).trans hm_hv0
  have m10 := (hF1.fld hr_bd skc_3 (k := 7) (by decide) (by decide)).trans hm_lw
  have m11 := (hF1.fld hr_lw skc_7 (k := 2) (by decide) (by decide)).trans hm_kn
  have m12 := (hF1.fld hr_lw skc_7 (k := 11) (by decide) (by decide)).trans hm_ln
  have m13 := (hF1.fld hr_lw skc_7 (k := 7) (by decide) (by decide)).trans hm_sf
  have m14 := (hF1.fld hr_lw skc_7 (k := 8) (by decide) (by decide)).trans hm_sto
  have m15 := (hF1.fld hr_lw skc_7 (k := 9) (by decide) (by decide)).trans hm_stp9
  have m16 := (hF1.fld hr_lw skc_7 (k := 10) (by decide) (by decide)).trans hm_stk
  have m17 := hc_vM0.kept (hF1.arr hr_mk9 skc_57 (by decide))
  have m18 := hc_vh.kept (hF1.arr hr_hd9 skc_54 (by decide))
  have m19 := hc_vK.kept (hF1.arr hr_kn skc_42 (by decide))
  have m20 := hc_vF.kept (hF1.arr hr_sf skc_47 (by decide))
  have m21 := hc_vT.kept (hF1.arr hr_sto skc_48 (by decide))
  have m22 := hc_vS.kept (hF1.arr hr_stp9 skc_49 (by decide))
  have m23 := hc_vQ.kept (hF1.arr hr_stk skc_50 (by decide))
  have m24 := hc_fL.kept (hF1.arr hr_fa9 skc_56 (by decide))
  have hF := hF.more hF1 (by decide)
  have hF2 := hF2.more hF1 (by decide)
  try dsimp only at hw2
  obtain ⟨h25, hi26, hi27⟩ := hw2
  have hb28 : r1 = 0 ∨ r1 = 1 := bit_of ⟨by omega, by omega⟩
  rcases hb28 with rfl | rfl
  · have t29 : (0 : Int32).toInt = 0 := by decide
    have t30 : (60 : Int32).toInt = 60 := by decide
    have t31 : p0.toInt < (0 : Int32).toInt ∨ (60 : Int32).toInt < p0.toInt := hi27 rfl
    have hFc := gA_free hG hA hS
    refine vx_callN (vx_runS (As := [.int 0]) (rest := []) ⟨hx, hb, hml, hown, hts⟩ (c_needNumbers0 l hlt dC dI kA adK adV G H nC nS hT (by omega) (by omega)) (va_cwS 1 hts (goodIn_app (goodIn_r _ [8, 9, 4] rfl (by decide +kernel)) (goodIn_ca (goodIn_r _ [5, 6, 7] rfl (by decide +kernel)) (bs2_in _ _))) rfl rfl rfl (by decide +kernel) ⟨(Nat.le_of_ble_eq_true rfl), (Nat.le_of_ble_eq_true rfl)⟩) ⟨fun a U g mk q => by obtain ⟨q0, q1, qK, qE⟩ := q; exact ⟨q0, q1, va_K.moved (u := U) (U := U.calling g mk a) (Vm.Alike.refl U.vm) qK, EVC.blind g mk a qE⟩, fun U hU hW => ⟨rfl, hU, va_K.moved hW.alike hK, hE.call hS hFc hU hW⟩⟩ rfl rfl hl.1 rfl (lv_room (Nat.le_of_ble_eq_true rfl)) dX11_choose_7 ⟨(Nat.le_of_ble_eq_true rfl), (Nat.le_of_ble_eq_true rfl)⟩) hS hFc (fun q _ h => hFc q h) (fun E ce q9 u t H locs ht hvm _ hw33 _ _ hS hce hcv hcl => ?_)
    obtain ⟨hw33, hTx, hFx⟩ := hw33; rw [ht] at hTx hFx
    exact vx_out (fun x h => (hnt x h).elim) hlocks hce hcv hcl (fun t2 h2 hW => ⟨(), trivial, ⟨((fun h9 => h9) hw33), (⟨hw33, (by first | omega | exact hxf.elim)⟩), by rw [h2]; exact hTx, by rw [h2]; exact hF.more hFx (by decide), by rw [h2]; exact hF2.more hFx (by decide)⟩, hS.F h2⟩) hS.2.2 (by decide) (by decide)
  · have t34 : (0 : Int32).toInt = 0 := by decide
    have t35 : (60 : Int32).toInt = 60 := by decide
    have t36 : (0 : Int32).toInt ≤ p0.toInt ∧ p0.toInt ≤ (60 : Int32).toInt := hi26 rfl
    have hFc := gA_free hG hA hS
    refine vx_callv (vx_runS (As := [.int 1]) (rest := []) ⟨hx, hb, hml, hown, hts⟩ (c_needNumbers1X l hlt dC dI kA adK adV G H nC nS hT (by omega) (by omega)) (va_cwS 1 hts (goodIn_app (goodIn_r _ [8, 9, 4] rfl (by decide +kernel)) (goodIn_ca (goodIn_r _ [5] rfl (by decide +kernel)) (bs2_in _ _))) rfl rfl rfl (by decide +kernel) ⟨(Nat.le_of_ble_eq_true rfl), (Nat.le_of_ble_eq_true rfl)⟩) ⟨fun a U g mk q => by obtain ⟨q0, q1, qK, qE⟩ := q; exact ⟨q0, q1, va_K.moved (u := U) (U := U.calling g mk a) (Vm.Alike.refl U.vm) qK, EVC.blind g mk a qE⟩, fun U hU hW => ⟨rfl, hU, va_K.moved hW.alike hK, hE.call hS hFc hU hW⟩⟩ rfl rfl hl.1 rfl (lv_room (Nat.le_of_ble_eq_true rfl)) dX11_choose_7 ⟨(Nat.le_of_ble_eq_true rfl), (Nat.le_of_ble_eq_true rfl)⟩) hS (fun q _ h => hFc q h) hFc (fun q _ h => hFc q h) (fun E ce q9 u t H locs ht hvm _ hw38 _ _ hS hce hcv hcl => ?_) (fun u t H locs ht hvm hw38 hB _ _ hS => ?_)
    · obtain ⟨hw38, hxf, hTx, hFx⟩ := hw38; rw [ht] at hTx hFx
      exact vx_out (fun x h => (hnt x h).elim) hlocks hce hcv hcl (fun t2 h2 hW => ⟨(), trivial, ⟨((fun h9 => h9) hw38), (⟨hw38, (by first | omega | exact hxf.elim)⟩), by rw [h2]; exact hTx, by rw [h2]; exact hF.more hFx (by decide), by rw [h2]; exact hF2.more hFx (by decide)⟩, hS.F h2⟩) hS.2.2 (by decide) (by decide)
    · obtain ⟨hT, hF1⟩ := hB
      rw [ht] at hT hF1
      have m39 := (hF1.fld hr_o0 skc_14 (k := 3) (by decide) (by decide)).trans m3
      have m40 := (hF1.fld hr_bd skc_3 (k := 6) (by decide) (by decide)).trans m4
      have m41 := (hF1.fld hr_bd skc_3 (k := 3) (by decide) (by decide)).trans m5
      have m42 := (hF1.fld hr_bd skc_3 (k := 0) (by decide) (by decide)).trans m6
      have m43 := (hF1.fld hr_bd skc_3 (k := 16) (by decide) (by decide)).trans m7
      have m44 := (hF1.fld hr_bd skc_3 (k := 5) (by decide) (by decide)).trans m8
      have m45 := (hF1.fld hr_bd skc_3 (k := 15) (by decide) (by decide)).trans m9
      have m46 := (hF1.fld hr_bd skc_3 (k := 7) (by decide) (by decide)).trans m10
      have m47 := (hF1.fld hr_lw skc_7 (k := 2) (by decide) (by decide)).trans m11
      have m48 := (hF1.fld hr_lw skc_7 (k := 11) (by decide) (by decide)).trans m12
      have m49 := (hF1.fld hr_lw skc_7 (k := 7) (by decide) (by decide)).trans m13
      have m50 := (hF1.fld hr_lw skc_7 (k := 8) (by decide) (by decide)).trans m14
      have m51 := (hF1.fld hr_lw skc_7 (k := 9) (by decide) (by decide)).trans m15
      have m52 := (hF1.fld hr_lw skc_7 (k := 10) (by decide) (by decide)).trans m16
      have m53 := m17.kept (hF1.arr hr_mk9 skc_57 (by decide))
      have m54 := m18.kept (hF1.arr hr_hd9 skc_54 (by decide))
      have m55 := m19.kept (hF1.arr hr_kn skc_42 (by decide))
      have m56 := m20.kept (hF1.arr hr_sf skc_47 (by decide))
      have m57 := m21.kept (hF1.arr hr_sto skc_48 (by decide))
      have m58 := m22.kept (hF1.arr hr_stp9 skc_49 (by decide))
      have m59 := m23.kept (hF1.arr hr_stk skc_50 (by decide))
      have m60 := m24.kept (hF1.arr hr_fa9 skc_56 (by decide))
      have hF := hF.more hF1 (by decide)
      have hF2 := hF2.more hF1 (by decide)
      try dsimp only at hw38
      refine lv_aload_n hx hb dX11_choose_10 rfl (lv_at hl 0 rfl) ?_
      refine tw_getM (v := .ref bd) hx hb hts bF2_X11 hown hK hT hr_o0 shc_14 rfl 3 (by decide) (ht_at2 hts 9 rfl) (fun _ h9 => h9) m39 dX11_choose_11 ?_
      refine lv_iload_n hx hb dX11_choose_14 rfl (lv_at hl 1 rfl) ?_
      refine lv_aload_n hx hb dX11_choose_15 rfl (lv_at hl 0 rfl) ?_
      refine tw_get hx hb hts bF2_X11 hown hK hT hr_o0 shc_14 rfl 1 (by decide) (ht_at2 hts 10 rfl) (fun _ h9 => h9) dX11_choose_16 (fun v9 m61 h9 => ?_)
      obtain ⟨b62, rfl, hg63⟩ := h9 _ rfl
      have hF2k := hF2
      have hFc := gA_free hG hA hS
      refine va_calli (va_runV (As := [.int p0, .ref b62]) (rest := []) ⟨hx, hb, hml, hown, hts⟩ (c_giveFarmsZ l dC dI kA adK adV G H nC nS bd p0 b62 mk9 hd9 sA fm fa9 hv0 lw kn ln sf sto stp9 stk vM0 vh vK vF vT vS vQ fL A9 vA vD vC vU vI vW hT hg63 hr_bd m40 hr_mk9 m41 hr_hd9 m42 hr_sA m43 m44 hr_fa9 m45 m46 hr_lw m47 hr_kn m48 m49 hr_sf m50 hr_sto m51 hr_stp9 m52 hr_stk (by have q8 := ti_all p0; omega) (by have q8 := ti_all fm; omega) (by have q8 := ti_all hv0; omega) (by have q8 := ti_all ln; omega) hnh hct (fun i9 h9 a9 e9 => by have z9 := hFS i9 h9 a9 ((el_kept (hF2k.arr hr_sA skc_51 (by decide))).symm.trans e9); have h8 : G a9 = some 10 := gnb_tag hT hr_sA shc_51 (by omega) h9 e9; exact ⟨(hF2k.fld h8 skc_10 (k := 7) (by decide) (by decide)).trans z9.1, (hF2k.fld h8 skc_10 (k := 8) (by decide) (by decide)).trans z9.2.1, (hF2k.fld h8 skc_10 (k := 9) (by decide) (by decide)).trans z9.2.2.1, (hF2k.fld h8 skc_10 (k := 0) (by decide) (by decide)).trans z9.2.2.2.1, (hF2k.fld h8 skc_10 (k := 1) (by decide) (by decide)).trans z9.2.2.2.2.1, (hF2k.fld h8 skc_10 (k := 6) (by decide) (by decide)).trans z9.2.2.2.2.2.1, (hF2k.fld h8 skc_10 (k := 2) (by decide) (by decide)).trans z9.2.2.2.2.2.2.1, (hF2k.fld h8 skc_10 (k := 3) (by decide) (by decide)).trans z9.2.2.2.2.2.2.2.1, (hF2k.fld h8 skc_10 (k := 4) (by decide) (by decide)).trans z9.2.2.2.2.2.2.2.2⟩) hrp hzk hln m53 m54 m55 m56 m57 m58 m59 m60 (by omega) (by omega)) (cwV 2 hts (goodIn_app (goodIn_r _ [85, 86, 87, 21] rfl (by decide +kernel)) (goodIn_ca (goodIn_r _ [12, 13, 14, 15, 16, 17, 18, 19, 20, 21, 22, 23, 24, 25, 26, 27, 28, 29, 30, 31, 32, 33, 34, 35, 36, 37, 38, 39, 40, 41, 42, 43, 44, 45, 46, 47, 48, 49, 50, 51, 52, 53, 54, 55, 56, 57, 58, 59, 60, 61, 62, 63, 64, 65, 66, 67, 68, 69, 70, 71, 72, 73, 74, 75, 76, 77, 78, 79, 80, 81, 82, 83, 84] rfl (by decide +kernel)) (bs2_in _ _))) rfl rfl rfl (by decide +kernel) ⟨(Nat.le_of_ble_eq_true rfl), (Nat.le_of_ble_eq_true rfl)⟩) ⟨fun a U g mk q => by obtain ⟨q0, q1, qK, qE⟩ := q; exact ⟨q0, q1, va_K.moved (u := U) (U := U.calling g mk a) (Vm.Alike.refl U.vm) qK, EVC.blind g mk a qE⟩, gH_rc hK hT hr_bd shc_3 rfl, fun U hU hW => ⟨rfl, hU, va_K.moved hW.alike hK, hE.call hS hFc hU hW⟩⟩ rfl rfl hl.1 rfl (lv_room (Nat.le_of_ble_eq_true rfl)) dX11_choose_19 ⟨(Nat.le_of_ble_eq_true rfl), (Nat.le_of_ble_eq_true rfl)⟩) hS (fun q _ h => hFc q h) hFc (fun r64 u t H locs ht hvm hw65 hB _ _ hS => ?_)
      obtain ⟨u66, u67⟩ := u
      obtain ⟨hT, hF1, m68, m69, hbx70⟩ := hB
      rw [ht] at hT hF1 m68 m69 hbx70
      have hF := hF.more hF1 (by decide)
      try dsimp only at hw65
      obtain ⟨h94, hf95, hf96⟩ := hw65
      refine W.widen (k := 1) (n := 6) (by decide) (by decide) ?_
      exact vx_ret (W.iret (v := r64) hx hb hr (fun t ht hW => ⟨⟨r64, (u66, u67), rfl, (by exact ⟨(by have q8 := ti_all r64; omega), hf95, hf96⟩), by (try dsimp only); rw [ht]; exact ⟨hT, hF, m68, m69, (fun h9 => hF2k.wk.more (hbx70 h9) (fun _ h8 => h8))⟩⟩, hS.F ht⟩) hS.2.2 dX11_choose_22)
def w_c_chooseH : List Cond := .code yX11_choose cX11_choose 2 (some .int) :: (HAppend.hAppend (α := List Cond) (β := List Cond) (γ := List Cond) [.code yX11_within cX11_within 3 (some .boolean), .methodLink RX11 58 yX11_within, .static yX11_within, .initialized RX11, .code yX11_needNumbers cX11_needNumbers 1 none, .classLink RX11 547 "java/lang/IllegalArgumentException", .initialized "java/lang/IllegalArgumentException", .methodLink RX11 62 yX11_needNumbers, .static yX11_needNumbers, .fieldLink RX11 30 "SeaLand" "board" "LSeaLand$Board;", .fieldLink RX11 16 "SeaLand" "lake" "LSeaLand$Lake;", .code yX0_giveFarms cX0_giveFarms 7 (some .int), .fieldLink RX0 75 "SeaLand$Board" "settled" "I", .fieldLink RX0 185 "SeaLand$Board" "holding" "I", .code yX0_firstByMark cX0_firstByMark 3 (some .int), .fieldLink RX0 37 "SeaLand$Board" "marks" "[I", .fieldLink RX0 11 "SeaLand$Board" "settlers" "[LSeaLand$Settler;", .methodLink RX0 173 yX0_firstByMark, .instanceMethod yX0_firstByMark, .selects RX0 yX0_firstByMark yX0_firstByMark, .initialized RX0, .code yX0_bestFreeFarm cX0_bestFreeFarm 6 (some .int), .fieldLink RX0 143 "SeaLand$Board" "farms" "I", .fieldLink RX0 24 "SeaLand$Board" "held" "[Z", .code yX0_worthOf cX0_worthOf 7 (some .int), .fieldLink RX0 17 "SeaLand$Board" "farmOf" "[I", .methodLink RX0 161 Lib.Math.max.name, .static Lib.Math.max.name, .initialized "java/lang/Math", .code Lib.Math.max.name Lib.Math.max.code 2 (some .int), .methodLink RX0 191 yX0_worthOf, .instanceMethod yX0_worthOf, .selects RX0 yX0_worthOf yX0_worthOf, .methodLink RX0 181 yX0_bestFreeFarm, .instanceMethod yX0_bestFreeFarm, .selects RX0 yX0_bestFreeFarm yX0_bestFreeFarm, .code yX0_gatherFacts cX0_gatherFacts 3 none, .fieldLink RX0 33 "SeaLand$Board" "facts" "[J", .code yX0_acresOf cX0_acresOf 4 (some .int), .methodLink RX0 98 yX0_acresOf, .instanceMethod yX0_acresOf, .selects RX0 yX0_acresOf yX0_acresOf, .code yX0_nearOf cX0_nearOf 5 (some .int), .code yX3_stepsToBank cX3_stepsToBank 4 (some .int), .fieldLink RX3 47 "SeaLand$Lake" "built" "I", .fieldLink RX3 27 "SeaLand$Lake" "works" "[LSeaLand$Work;", .code yX10_isBank cX10_isBank 1 (some .boolean), .fieldLink RX10 18 "SeaLand$Work" "kind" "I", .methodLink RX3 67 yX10_isBank, .instanceMethod yX10_isBank, .selects RX10 yX10_isBank yX10_isBank, .initialized RX10, .code yX11_stepsApart cX11_stepsApart 2 (some .int), .methodLink RX11 580 Lib.Math.abs.name, .static Lib.Math.abs.name, .code Lib.Math.abs.name Lib.Math.abs.code 1 (some .int), .static yX11_stepsApart, .methodLink RX3 71 Lib.Math.min.name, .static Lib.Math.min.name, .code Lib.Math.min.name Lib.Math.min.code 2 (some .int), .methodLink RX0 138 yX3_stepsToBank, .instanceMethod yX3_stepsToBank, .selects RX3 yX3_stepsToBank yX3_stepsToBank, .initialized RX3, .methodLink RX0 166 Lib.Math.min.name, .methodLink RX0 123 yX0_nearOf, .instanceMethod yX0_nearOf, .selects RX0 yX0_nearOf yX0_nearOf, .methodLink RX0 84 yX0_gatherFacts, .instanceMethod yX0_gatherFacts, .selects RX0 yX0_gatherFacts yX0_gatherFacts, .code yX0_isRuled cX0_isRuled 2 (some .boolean), .fieldLink RX0 41 "SeaLand$Board" "force" "LSeaLand$Law;", .code yX4_firstThatHolds cX4_firstThatHolds 4 (some .int), .fieldLink RX4 60 "SeaLand$Law" "lines" "I", .fieldLink RX4 18 "SeaLand$Law" "kinds" "[I", .code yX4_lineHolds cX4_lineHolds 6 (some .boolean), .fieldLink RX4 33 "SeaLand$Law" "stepFrom" "[I", .fieldLink RX4 36 "SeaLand$Law" "stepTo" "[I", .fieldLink RX4 39 "SeaLand$Law" "steps" "[I", .fieldLink RX4 42 "SeaLand$Law" "stack" "[J", .code yX4_joined cX4_joined 5 (some .long), .methodLink RX4 199 Lib.MathLoose.max_long.x, .static Lib.MathLoose.max_long.x, .code Lib.MathLoose.max_long.x Lib.MathLoose.max_long.code 4 (some .long), .methodLink RX4 195 yX4_joined, .static yX4_joined, .initialized RX4, .methodLink RX4 203 yX4_lineHolds, .instanceMethod yX4_lineHolds, .selects RX4 yX4_lineHolds yX4_lineHolds, .methodLink RX0 134 yX4_firstThatHolds, .instanceMethod yX4_firstThatHolds, .selects RX4 yX4_firstThatHolds yX4_firstThatHolds, .methodLink RX0 169 yX0_isRuled, .instanceMethod yX0_isRuled, .selects RX0 yX0_isRuled yX0_isRuled, .code yX0_ruled cX0_ruled 2 (some .int), .code yX4_sumThatHolds cX4_sumThatHolds 6 (some .long), .fieldLink RX4 21 "SeaLand$Law" "firsts" "[I", .methodLink RX0 130 yX4_sumThatHolds, .instanceMethod yX4_sumThatHolds, .selects RX4 yX4_sumThatHolds yX4_sumThatHolds, .methodLink RX0 88 yX0_ruled, .instanceMethod yX0_ruled, .selects RX0 yX0_ruled yX0_ruled, .methodLink RX11 373 yX0_giveFarms, .instanceMethod yX0_giveFarms, .selects RX0 yX0_giveFarms yX0_giveFarms] bs2)
