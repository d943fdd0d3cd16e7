def w_s_back : List Cond := .code yX12_back cX12_back 2 (some .boolean) :: (HAppend.hAppend (α := List Cond) (β := List Cond) (γ := List Cond) [.fieldLink RX12 194 "SeaLandModel" "thrown" "I", .fieldLink RX12 325 "SeaLandModel" "hasImage" "Z", .fieldLink RX12 13 "SeaLandModel" "image" "[I", .code yX12_hour cX12_hour 1 (some .int), .fieldLink RX12 9 "SeaLandModel" "world" "[I", .methodLink RX12 228 yX12_hour, .instanceMethod yX12_hour, .selects RX12 yX12_hour yX12_hour, .initialized RX12, .fieldLink RX12 238 "SeaLandModel" "rows" "I"] bs)
set_option maxHeartbeats 4000000 in
set_option maxRecDepth 100000 in
theorem s_back (l : Launch) (dC : Nat → ClassId) (dI : Nat → Nat → Nat) (kA : Nat → ClassId) (adK adV : Nat → Nat) (G : gT) (H0 : Heap) (q : Nat → Nat) (wZ wN : Nat → Int) (wH wB wC : Int) (wL wK : Nat → Prop) (wU wV : Nat → Nat) (PI : Nat → Int → Prop) (im : Int) (PM PT : Nat → Int → Prop) (lS lB lE : Nat → Nat → Int → Prop) (lN : Nat → Int) (o0 : Nat) (vN : Nat → Int) (vH vB vC : Int) (vL vK : Nat → Prop) (vU vV : Nat → Nat) (hT : gH (dC, dI) kA (SHm q (wP wZ0 wN wH wB wC wL wK wU wV) (wP wZ0 vN vH vB vC vL vK vU vV) im PM PT lS lB lE lN) G H0) (hr_o0 : G o0 = some 0) (hgz : ∀ i, 0 ≤ wZ i) (hgn : ∀ i, 6500000 ≤ wN i ∧ wN i ≤ 20200000) (hgh : 0 ≤ wH ∧ wH ≤ 40000) (hgb : 0 ≤ wB ∧ wB ≤ 3850000) (hgc : 0 ≤ wC ∧ wC ≤ 30) (hgi : 0 ≤ im ∧ im ≤ 1) (hgu : ∀ a t, G a = some (t + 1) → a = q t) : Met l yX12_back w_s_back ({ frames := 1, cells := 0, slots := 0, locals := 20 }) (va_Pc [.ref o0] (fun U => U.heap = H0 ∧ va_K (dC, dI) vwCl (tyl kA) U ∧ EVS adK adV (gA G H0.size) U U.heap)) (va_Qi (fun (r : Int32) (u : (Nat → Int) × Int × Int × Int × (Nat → Prop) × (Nat → Prop) × (Nat → Nat) × (Nat → Nat)) => match u with | (wN1, wH1, wB1, wC1, wL1, wK1, wU1, wV1) => (0 ≤ r.toInt ∧ r.toInt ≤ 1) ∧ ((wN1 = wN ∧ wH1 = wH ∧ wB1 = wB ∧ wC1 = wC ∧ wL1 = wL ∧ wK1 = wK ∧ wU1 = wU ∧ wV1 = wV) ∨ (wN1 = vN ∧ wH1 = vH ∧ wB1 = vB ∧ wC1 = vC ∧ wL1 = vL ∧ wK1 = vK ∧ wU1 = vU ∧ wV1 = vV))) (fun (u : (Nat → Int) × Int × Int × Int × (Nat → Prop) × (Nat → Prop) × (Nat → Nat) × (Nat → Nat)) (t : State) => match u with | (wN1, wH1, wB1, wC1, wL1, wK1, wU1, wV1) => gH (dC, dI) kA (SHm q (wP wZ0 wN1 wH1 wB1 wC1 wL1 wK1 wU1 wV1) (wP wZ0 vN vH vB vC vL vK vU vV) im PM PT lS lB lE lN) G t.heap ∧ gF (dC, dI) SKm G ([(0, 0), (0, 9), (2, 0)] : List (Nat × Nat)) H0 t.heap) (gA G H0.size)) 0 0 (gA G H0.size) := by
  refine Met.ofW (cc := cX12_back) (maxL := 2) (ret := (some .boolean)) (by decide) rfl ?_
  intro p e s m args below meth c s₁ B hml hv
  obtain ⟨rfl, hH0, hK, hE⟩ := hv
  have hx := B.exec
  have hb := B.bytes
  have hr := B.returns
  have hts := atoms_spec (ws := w_s_back) B.pre
  have hown : s.vm.findClass RX12 = some m.cls := findClass_of_methodNamed B.named
  have hlocks := B.notSynchronized
  subst hH0
  generalize hAe : gA G s.heap.size = A at hE ⊢
  have hA : ∀ q : Nat, s.heap.size ≤ q → A q := fun q h => by rw [← hAe]; exact Or.inr h
  have hG := gA_of hAe
  have hS : va_S A s.heap s.heap [] := va_S.rf
  have hF : gF (dC, dI) SKm G ([(0, 0), (0, 9), (2, 0)] : List (Nat × Nat)) s.heap s.heap := gF.rf
  have hl := lv_entry ([.ref o0]) (n := 2) (Nat.le_of_ble_eq_true rfl)
  rw [lg_entry_eq]
  generalize (lg_sl ([.ref o0]) ++ List.replicate (2 - (lg_sl ([.ref o0])).length) Slot.unset).toArray = ls at hl ⊢
  have hl : lv_has ls 2 [(0, .ref o0)] := hl
  refine lv_aload_n hx hb dX12_back_0 rfl (lv_at hl 0 rfl) ?_
  refine lv_iconst (v := 0) hx hb dX12_back_1 (by decide) ?_
  refine tw_put (v := .int 0) (ty := .int) hx hb hts bF_X12 tyX12 tyX12_ok nmX12 hown hK hT hG hS hr_o0 shm_0 rfl 0 (by decide) (ht_at hts 0 rfl) (fun _ h9 => h9) rfl (by decide +kernel) rfl rfl (gl_at rfl (gi_all _)) dX12_back_2 (fun H locs hT oq m1 oj hS => ?_)
  have hF := hF.put hr_o0 skm_0 oq oj (by decide)
  refine lv_aload_n hx hb dX12_back_5 rfl (lv_at hl 0 rfl) ?_
  refine tw_get hx hb hts bF_X12 hown hK hT hr_o0 shm_0 rfl 3 (by decide) (ht_at hts 1 rfl) (fun _ h9 => h9) dX12_back_6 (fun v9 m2 h9 => ?_)
  obtain ⟨x3, rfl, gx3, kx3⟩ := h9 _ rfl
  refine lv_if_eq (tgt := 27) hx hb dX12_back_9 (by decide) (fun c4 => ?_) (fun c4 => ?_)
  · have t5 : x3.toInt = 0 := ti_eq c4 rfl (by decide)
    refine lv_iconst (v := 0) hx hb dX12_back_27 (by decide) ?_
    exact W.zret (v := 0) hx hb hr (by decide) (fun t ht hW => ⟨⟨0, (wN, wH, wB, wC, wL, wK, wU, wV), rfl, (by exact ⟨(rg_t (a := 0) (by decide) (by first | decide | omega) (by first | decide | omega)), (Or.inl ⟨rfl, rfl, rfl, rfl, rfl, rfl, rfl, rfl⟩)⟩), by (try dsimp only); rw [ht]; exact ⟨hT, hF⟩⟩, hS.F ht⟩) hS.2.2 dX12_back_28
  · have t6 : x3.toInt ≠ 0 := ti_ne c4 rfl (by decide)
    refine lv_aload_n hx hb dX12_back_12 rfl (lv_at hl 0 rfl) ?_
    refine tw_get hx hb hts bF_X12 hown hK hT hr_o0 shm_0 rfl 2 (by decide) (ht_at hts 2 rfl) (fun _ h9 => h9) dX12_back_13 (fun v9 m7 h9 => ?_)
    obtain ⟨rfl, hg8⟩ := h9 _ rfl
    refine lv_sipush (v := 1429) hx hb dX12_back_16 (by decide) ?_
    refine tw_iald (i := 1429) hx hb hK hT hg8 shm_3 rfl (by unfold vp_in; decide) dX12_back_19 (fun v9 m9 h9 => ?_)
    obtain ⟨x10, rfl, gx10, kx10⟩ := (gp_any h9)
    refine lv_aload_n hx hb dX12_back_20 rfl (lv_at hl 0 rfl) ?_
    have hFc := gA_free hG hA hS
    refine va_calli (va_runV (As := []) (rest := [.int x10]) ⟨hx, hb, hml, hown, hts⟩ (s_hour l dC dI kA adK adV G H q wZ0 wN wH wB wC wL wK wU wV (wP wZ0 vN vH vB vC vL vK vU vV) im PM PT lS lB lE lN o0 hT hr_o0 (fun _ => Int.le_refl 0) hgn hgh hgb hgc hgi hgu) (cwV 0 hts (goodIn_app (goodIn_r _ [6, 7, 8, 9] rfl (by decide +kernel)) (goodIn_ca (goodIn_r _ [4, 5] rfl (by decide +kernel)) (bs_in _ _))) rfl rfl rfl (by decide +kernel) ⟨(Nat.le_of_ble_eq_true rfl), (Nat.le_of_ble_eq_true rfl)⟩) ⟨fun a U g mk q => by obtain ⟨q0, q1, qK, qE⟩ := q; exact ⟨q0, q1, va_K.moved (u := U) (U := U.calling g mk a) (Vm.Alike.refl U.vm) qK, EVS.blind g mk a qE⟩, gH_rc hK hT hr_o0 shm_0 rfl, fun U hU hW => ⟨rfl, hU, va_K.moved hW.alike hK, hE.call hS hFc hU hW⟩⟩ rfl rfl hl.1 rfl (lv_room (Nat.le_of_ble_eq_true rfl)) dX12_back_21 ⟨(Nat.le_of_ble_eq_true rfl), (Nat.le_of_ble_eq_true rfl)⟩) hS (fun q _ h => hFc q h) hFc (fun r11 u t H locs ht hvm hw12 hB _ _ hS => ?_)
    obtain ⟨hT, hF1⟩ := hB
    rw [ht] at hT hF1
    have m13 := (hF1.fld hr_o0 skm_0 (k := 0) (by decide) (by decide)).trans m1
    have m14 := (hF1.fld hr_o0 skm_0 (k := 3) (by decide) (by decide)).trans m2
    have m15 := (el_kept (hF1.arr hg8 skm_3 (by decide))).trans m9
    have hF := hF.more hF1 (by decide)
    try dsimp only at hw12
    obtain ⟨h16, hf17⟩ := hw12
    refine lv_icmp_le (tgt := 29) hx hb dX12_back_24 (by decide) (fun c18 => ?_) (fun c18 => ?_)
    · have t19 : x10.toInt ≤ r11.toInt := ti_le c18 rfl rfl
      refine lv_iconst (v := 0) hx hb dX12_back_29 (by decide) ?_
      refine lv_istore_n (lv' := [(1, .int 0), (0, .ref o0)]) hx hb dX12_back_30 rfl hl (by decide) rfl (fun ls hl => ?_)
      have key38 : ∀ (n38 i20 : Nat), i20 + n38 = 1749 → 0 ≤ i20 → ∀ (H : Heap) (locs : List Loc), gH (dC, dI) kA (SHm q (pcP (wP wZ0 vN vH vB vC vL vK vU vV) (wP wZ0 wN wH wB wC wL wK wU wV) i20) (wP wZ0 vN vH vB vC vL vK vU vV) im PM PT lS lB lE lN) G H → gF (dC, dI) SKm G ([(0, 0), (0, 9), (2, 0)] : List (Nat × Nat)) s.heap H → va_S A s.heap H locs → el H o0 (dI 15 0) = some (.int 0) → el H o0 (dI 15 3) = some (.int x3) → el H (q 2) (1429 : Int32).toNatClampNeg = some (.int x10) → ∀ ls : Array Slot, lv_has ls 2 [(1, .int (nI i20)), (0, .ref o0)] → W p l e (headSpec w_s_back ({ frames := 1, cells := 0, slots := 0, locals := 20 })).room s m #[.ref o0] below meth c H locs 0 0 (MQ below (va_Qi (fun (r : Int32) (u : (Nat → Int) × Int × Int × Int × (Nat → Prop) × (Nat → Prop) × (Nat → Nat) × (Nat → Nat)) => match u with | (wN1, wH1, wB1, wC1, wL1, wK1, wU1, wV1) => (0 ≤ r.toInt ∧ r.toInt ≤ 1) ∧ ((wN1 = wN ∧ wH1 = wH ∧ wB1 = wB ∧ wC1 = wC ∧ wL1 = wL ∧ wK1 = wK ∧ wU1 = wU ∧ wV1 = wV) ∨ (wN1 = vN ∧ wH1 = vH ∧ wB1 = vB ∧ wC1 = vC ∧ wL1 = vL ∧ wK1 = vK ∧ wU1 = vU ∧ wV1 = vV))) (fun (u : (Nat → Int) × Int × Int × Int × (Nat → Prop) × (Nat → Prop) × (Nat → Nat) × (Nat → Nat)) (t : State) => match u with | (wN1, wH1, wB1, wC1, wL1, wK1, wU1, wV1) => gH (dC, dI) kA (SHm q (wP wZ0 wN1 wH1 wB1 wC1 wL1 wK1 wU1 wV1) (wP wZ0 vN vH vB vC vL vK vU vV) im PM PT lS lB lE lN) G t.heap ∧ gF (dC, dI) SKm G ([(0, 0), (0, 9), (2, 0)] : List (Nat × Nat)) s.heap t.heap) A) #[.ref o0] s 0 0 A) (F0 m 31 ls []) := by
        intro n38
        induction n38 with
        | zero =>
          intro i20 hn38 hlo39  H locs hT hF hS m21 m22 m23 ls hl
          obtain rfl : 1749 = i20 := by omega
          refine lv_iload_n hx hb dX12_back_31 rfl (lv_at hl 0 rfl) ?_
          refine lv_sipush (v := 1749) hx hb dX12_back_32 (by decide) ?_
          refine lv_icmp_ge (tgt := 56) hx hb dX12_back_35 (by decide) (fun c40 => ?_) (fun c40 => (by exfalso; have q9 : ((1749 : Nat) : Int) < 1749 := ti_nle c40 (by decide) (nI_toInt (by omega)); omega))
          have t41 : 1749 ≤ ((1749 : Nat) : Int) := ti_le c40 (by decide) (nI_toInt (by omega))
          have hT : gH (dC, dI) kA (SHm q (wP wZ0 vN vH vB vC vL vK vU vV) (wP wZ0 vN vH vB vC vL vK vU vV) im PM PT lS lB lE lN) G H := SHm_w hT (fun _ hi _ p => pc_all hi p)
          refine lv_aload_n hx hb dX12_back_56 rfl (lv_at hl 1 rfl) ?_
          refine lv_iconst (v := 0) hx hb dX12_back_57 (by decide) ?_
          refine tw_put (v := .int 0) (ty := .int) hx hb hts bF_X12 tyX12 tyX12_ok nmX12 hown hK hT hG hS hr_o0 shm_0 rfl 9 (by decide) (ht_at hts 9 rfl) (fun _ h9 => h9) rfl (by decide +kernel) rfl rfl (gl_at rfl (gi_of (show (0 : Int32).toInt = 0 from (by decide)) (by first | decide | omega) (by first | decide | omega))) dX12_back_58 (fun H locs hT oq m42 oj hS => ?_)
          have hF := hF.put hr_o0 skm_0 oq oj (by decide)
          refine lv_iconst (v := 1) hx hb dX12_back_61 (by decide) ?_
          exact W.zret (v := 1) hx hb hr (by decide) (fun t ht hW => ⟨⟨1, (vN, vH, vB, vC, vL, vK, vU, vV), rfl, (by exact ⟨(rg_t (a := 1) (by decide) (by first | decide | omega) (by first | decide | omega)), (Or.inr ⟨rfl, rfl, rfl, rfl, rfl, rfl, rfl, rfl⟩)⟩), by (try dsimp only); rw [ht]; exact ⟨hT, hF⟩⟩, hS.F ht⟩) hS.2.2 dX12_back_62
        | succ n38 ih38 =>
          intro i20 hn38 hlo39  H locs hT hF hS m21 m22 m23 ls hl
          have hlt45 : i20 < 1749 := by omega
          refine lv_iload_n hx hb dX12_back_31 rfl (lv_at hl 0 rfl) ?_
          refine lv_sipush (v := 1749) hx hb dX12_back_32 (by decide) ?_
          refine lv_icmp_ge (tgt := 56) hx hb dX12_back_35 (by decide) (fun c46 => (by exfalso; have q9 : 1749 ≤ ((i20 : Nat) : Int) := ti_le c46 (by decide) (nI_toInt (by omega)); omega)) (fun c46 => ?_)
          have t47 : ((i20 : Nat) : Int) < 1749 := ti_nle c46 (by decide) (nI_toInt (by omega))
          refine lv_aload_n hx hb dX12_back_38 rfl (lv_at hl 1 rfl) ?_
          refine tw_get hx hb hts bF_X12 hown hK hT hr_o0 shm_0 rfl 1 (by decide) (ht_at hts 4 rfl) (fun _ h9 => h9) dX12_back_39 (fun v9 m48 h9 => ?_)
          obtain ⟨rfl, hg49⟩ := h9 _ rfl
          refine lv_iload_n hx hb dX12_back_42 rfl (lv_at hl 0 rfl) ?_
          refine lv_aload_n hx hb dX12_back_43 rfl (lv_at hl 1 rfl) ?_
          refine tw_get hx hb hts bF_X12 hown hK hT hr_o0 shm_0 rfl 2 (by decide) (ht_at hts 2 rfl) (fun _ h9 => h9) dX12_back_44 (fun v9 m50 h9 => ?_)
          obtain ⟨rfl, hg51⟩ := h9 _ rfl
          refine lv_iload_n hx hb dX12_back_47 rfl (lv_at hl 0 rfl) ?_
          refine tw_iald (i := (nI i20)) hx hb hK hT hg8 shm_3 rfl (vp_in_nI (by omega) (by decide)) dX12_back_48 (fun v9 m52 h9 => ?_)
          obtain ⟨x53, rfl, gx53, kx53⟩ := (gp_any h9)
          have t54 : (nI i20).toNatClampNeg = i20 := tn_nI (by omega)
          refine tw_iast2 (Sg1 := (SHm q (pcP (wP wZ0 vN vH vB vC vL vK vU vV) (wP wZ0 wN wH wB wC wL wK wU wV) (i20 + 1)) (wP wZ0 vN vH vB vC vL vK vU vV) im PM PT lS lB lE lN)) (i := (nI i20)) (x := x53) hx hb hK hT hG hS hg49 shm_2 rfl shm_2 shm_o2 (fun b9 h9 => hgu b9 1 h9) (vp_in_nI (by omega) (by decide)) (⟨_, rfl, by rw [show (nI i20).toNatClampNeg = i20 from tn_nI (by omega)]; exact pc_at (by have q8 := gq_at hT hg8 shm_3 (by have q9 := tn_of (show (nI i20).toInt = ((i20 : Nat) : Int) from (nI_toInt (by omega))) (by omega); omega) m52; rw [show (nI i20).toNatClampNeg = i20 from tn_nI (by omega)] at q8; exact q8)⟩) (fun k9 hk9 hne9 v9 hv9 he9 => by obtain ⟨x9, rfl, p9⟩ := he9; exact ⟨x9, rfl, pc_st (by omega) p9⟩) dX12_back_49 (fun H locs hT oq m55 oi hS => ?_)
          have hF := hF.ast hg49 skm_2 oq (by decide)
          have m56 := (el_kept (oq _ (gne hr_o0 hg49 (by decide)))).trans m21
          have m57 := (el_kept (oq _ (gne hr_o0 hg49 (by decide)))).trans m22
          have m58 := (el_kept (oq _ (gne hg8 hg49 (by decide)))).trans m23
          refine lv_iinc (v := nI (i20 + 1)) (lv' := [(1, .int (nI (i20 + 1))), (0, .ref o0)]) hx hb dX12_back_50 hl (k := 0) rfl (nI_add i20 1) (by decide) rfl (fun ls hl => ?_)
          refine lv_goto (tgt := 31) hx hb dX12_back_53 (by decide) ?_
          exact ih38 (i20 + 1) (by omega) (by omega) _ _ hT hF hS m56 m57 m58 ls (lv_sub hl [0, 1] rfl)
      have hT : gH (dC, dI) kA (SHm q (pcP (wP wZ0 vN vH vB vC vL vK vU vV) (wP wZ0 wN wH wB wC wL wK wU wV) 0) (wP wZ0 vN vH vB vC vL vK vU vV) im PM PT lS lB lE lN) G H := SHm_w hT (fun _ _ _ p => pc_0 p)
      exact key38 (1749 - 0) 0 (by omega) (Nat.le_refl _) _ _ hT hF hS m13 m14 m15 ls (lv_sub hl [0, 1] rfl)
    · have t60 : r11.toInt < x10.toInt := ti_nle c18 rfl rfl
      refine lv_iconst (v := 0) hx hb dX12_back_27 (by decide) ?_
      exact W.zret (v := 0) hx hb hr (by decide) (fun t ht hW => ⟨⟨0, (wN, wH, wB, wC, wL, wK, wU, wV), rfl, (by exact ⟨(rg_t (a := 0) (by decide) (by first | decide | omega) (by first | decide | omega)), (Or.inl ⟨rfl, rfl, rfl, rfl, rfl, rfl, rfl, rfl⟩)⟩), by (try dsimp only); rw [ht]; exact ⟨hT, hF⟩⟩, hS.F ht⟩) hS.2.2 dX12_back_28
