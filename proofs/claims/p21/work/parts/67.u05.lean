set_option maxHeartbeats 4000000 in
set_option maxRecDepth 100000 in
theorem c_copyL_lC (l : Launch) (dC : Nat → ClassId) (dI : Nat → Nat → Nat) (kA : Nat → ClassId) (adK adV : Nat → Nat) (G : gT) (H0 : Heap) (nC nS : Int) (o0 : Nat) (p0 : Nat) (oh : Int32) (gr : Nat) (go : Nat) (la : Nat) (lb : Nat) (VB : Nat → Int32)  (hT : gH (dC, dI) kA (SHc nC nS) G H0) (hr_o0 : G o0 = some 6) (hr_p0 : G p0 = some 90) (hm_oh : el H0 p0 (dI 6 4) = some (.int oh)) (hm_gr : el H0 o0 (dI 6 1) = some (.ref gr)) (hr_gr : G gr = some 5) (hm_go : el H0 p0 (dI 6 1) = some (.ref go)) (hr_go : G go = some 93) (hm_la : el H0 gr (dI 5 0) = some (.ref la)) (hr_la : G la = some 25) (hm_lb : el H0 go (dI 5 0) = some (.ref lb)) (hr_lb : G lb = some 77) (hq0 : 0 ≤ oh.toInt ∧ oh.toInt ≤ 40000) (hc_VB : ct H0 lb 96 VB) (hgC : 0 ≤ nC ∧ nC ≤ 40) (hgS : 0 ≤ nS ∧ nS ≤ 60) : Met l yX3_copyFrom w_c_copyL_lC ({ frames := 4, cells := 0, slots := 0, locals := 102 }) (va_Pc [.ref o0, .ref p0] (fun U => U.heap = H0 ∧ va_K (dC, dI) vwCl (tyl kA) U ∧ EVC adK adV (gA G H0.size) U U.heap)) (va_Qv (fun (u : Int32) => (u.toInt = oh.toInt)) (fun (h1 : Int32) (t : State) => gH (dC, dI) kA (SHc nC nS) G t.heap ∧ gF (dC, dI) SKc G ([(5, 11), (5, 12), (5, 13), (5, 14), (6, 3), (6, 4), (11, 6), (12, 2), (13, 2), (13, 3), (13, 4), (13, 5), (13, 6), (13, 7), (13, 8), (13, 9), (13, 10), (13, 11), (19, 0), (20, 0), (21, 0), (22, 0), (23, 0), (24, 0), (25, 0), (26, 0), (27, 0), (28, 0), (29, 0), (30, 0), (31, 0), (32, 0), (36, 0), (37, 0)] : List (Nat × Nat)) H0 t.heap ∧ el t.heap o0 (dI 6 4) = some (.int h1) ∧ ct t.heap la 96 VB) (gA G H0.size)) 0 0 (gA G H0.size) := by
  refine Met.ofW (cc := cX3_copyFrom) (maxL := 3) (ret := none) (by decide) rfl ?_
  intro p e s m args below meth c s₁ B hml hv
  obtain ⟨rfl, hH0, hK, hE⟩ := hv
  have hx := B.exec
  have hb := B.bytes
  have hr := B.returns
  have hts := atoms_spec (ws := w_c_copyL_lC) B.pre
  have hown : s.vm.findClass RX3 = some m.cls := findClass_of_methodNamed B.named
  have hlocks := B.notSynchronized
  subst hH0
  generalize hAe : gA G s.heap.size = A at hE ⊢
  have hA : ∀ q : Nat, s.heap.size ≤ q → A q := fun q h => by rw [← hAe]; exact Or.inr h
  have hG := gA_of hAe
  have hS : va_S A s.heap s.heap [] := va_S.rf
  have hF : gF (dC, dI) SKc G ([(5, 11), (5, 12), (5, 13), (5, 14), (6, 3), (6, 4), (11, 6), (12, 2), (13, 2), (13, 3), (13, 4), (13, 5), (13, 6), (13, 7), (13, 8), (13, 9), (13, 10), (13, 11), (19, 0), (20, 0), (21, 0), (22, 0), (23, 0), (24, 0), (25, 0), (26, 0), (27, 0), (28, 0), (29, 0), (30, 0), (31, 0), (32, 0), (36, 0), (37, 0)] : List (Nat × Nat)) s.heap s.heap := gF.rf
  have hl := lv_entry ([.ref o0, .ref p0]) (n := 3) (Nat.le_of_ble_eq_true rfl)
  rw [lg_entry_eq]
  generalize (lg_sl ([.ref o0, .ref p0]) ++ List.replicate (3 - (lg_sl ([.ref o0, .ref p0])).length) Slot.unset).toArray = ls at hl ⊢
  have hl : lv_has ls 3 [(0, .ref o0), (1, .ref p0)] := hl
  refine lv_aload_n hx hb dX3_copyFrom_0 rfl (lv_at hl 0 rfl) ?_
  refine tw_get hx hb hts bF2_X3 hown hK hT hr_o0 shc_6 rfl 0 (by decide) (ht_at2 hts 0 rfl) (fun _ h9 => h9) dX3_copyFrom_1 (fun v9 m1 h9 => ?_)
  obtain ⟨b2, rfl, hg3⟩ := h9 _ rfl
  refine lv_aload_n hx hb dX3_copyFrom_4 rfl (lv_at hl 1 rfl) ?_
  refine tw_get hx hb hts bF2_X3 hown hK hT hr_p0 shc_90 rfl 0 (by decide) (ht_at2 hts 0 rfl) (fun _ h9 => h9) dX3_copyFrom_5 (fun v9 m4 h9 => ?_)
  obtain ⟨b5, rfl, hg6⟩ := h9 _ rfl
  have hFc := gA_free hG hA hS
  refine va_callv (va_runV (As := [.ref b5]) (rest := []) ⟨hx, hb, hml, hown, hts⟩ (c_copyS_l l dC dI kA adK adV G s.heap nC nS b2 b5 hT hg3 hg6 (by omega) (by omega)) (cwV 1 hts (goodIn_app (goodIn_r _ [23, 24, 25, 26] rfl (by decide +kernel)) (goodIn_ca (goodIn_r _ [2, 3, 4, 5, 6, 7, 8, 9, 10, 11, 12, 13, 14, 15, 16, 17, 18, 19, 20, 21, 22] rfl (by decide +kernel)) (bs2_in _ _))) rfl rfl rfl (by decide +kernel) ⟨(Nat.le_of_ble_eq_true rfl), (Nat.le_of_ble_eq_true rfl)⟩) ⟨fun a U g mk q => by obtain ⟨q0, q1, qK, qE⟩ := q; exact ⟨q0, q1, va_K.moved (u := U) (U := U.calling g mk a) (Vm.Alike.refl U.vm) qK, EVC.blind g mk a qE⟩, gH_rc hK hT hg3 shc_11 rfl, fun U hU hW => ⟨rfl, hU, va_K.moved hW.alike hK, hE.call hS hFc hU hW⟩⟩ rfl rfl hl.1 rfl (lv_room (Nat.le_of_ble_eq_true rfl)) dX3_copyFrom_8 ⟨(Nat.le_of_ble_eq_true rfl), (Nat.le_of_ble_eq_true rfl)⟩) hS (fun q _ h => hFc q h) hFc (fun u t H locs ht hvm hw8 hB _ _ hS => ?_)
  obtain ⟨hT, hF1⟩ := hB
  rw [ht] at hT hF1
  have m9 := (hF1.fld hr_p0 skc_90 (k := 4) (by decide) (by decide)).trans hm_oh
  have m10 := (hF1.fld hr_o0 skc_6 (k := 1) (by decide) (by decide)).trans hm_gr
  have m11 := (hF1.fld hr_p0 skc_90 (k := 1) (by decide) (by decide)).trans hm_go
  have m12 := (hF1.fld hr_gr skc_5 (k := 0) (by decide) (by decide)).trans hm_la
  have m13 := (hF1.fld hr_go skc_93 (k := 0) (by decide) (by decide)).trans hm_lb
  have m14 := hc_VB.kept (hF1.arr hr_lb skc_77 (by decide))
  have m15 := (hF1.fld hr_o0 skc_6 (k := 0) (by decide) (by decide)).trans m1
  have m16 := (hF1.fld hr_p0 skc_90 (k := 0) (by decide) (by decide)).trans m4
  have hF := hF.more hF1 (by decide)
  try dsimp only at hw8
  refine lv_aload_n hx hb dX3_copyFrom_11 rfl (lv_at hl 0 rfl) ?_
  refine tw_getM (v := .ref gr) hx hb hts bF2_X3 hown hK hT hr_o0 shc_6 rfl 1 (by decide) (ht_at2 hts 26 rfl) (fun _ h9 => h9) m10 dX3_copyFrom_12 ?_
  refine lv_aload_n hx hb dX3_copyFrom_15 rfl (lv_at hl 1 rfl) ?_
  refine tw_getM (v := .ref go) hx hb hts bF2_X3 hown hK hT hr_p0 shc_90 rfl 1 (by decide) (ht_at2 hts 26 rfl) (fun _ h9 => h9) m11 dX3_copyFrom_16 ?_
  have hFc := gA_free hG hA hS
  refine va_callv (va_runV (As := [.ref go]) (rest := []) ⟨hx, hb, hml, hown, hts⟩ (c_copyG_lC l dC dI kA adK adV G H nC nS gr go la lb VB hT hr_gr hr_go m12 hr_la m13 hr_lb m14 (by omega) (by omega)) (cwV 1 hts (goodIn_app (goodIn_r _ [42, 43, 44, 45] rfl (by decide +kernel)) (goodIn_ca (goodIn_r _ [28, 29, 30, 5, 6, 7, 31, 32, 33, 34, 35, 36, 37, 38, 39, 40, 41] rfl (by decide +kernel)) (bs2_in _ _))) rfl rfl rfl (by decide +kernel) ⟨(Nat.le_of_ble_eq_true rfl), (Nat.le_of_ble_eq_true rfl)⟩) ⟨fun a U g mk q => by obtain ⟨q0, q1, qK, qE⟩ := q; exact ⟨q0, q1, va_K.moved (u := U) (U := U.calling g mk a) (Vm.Alike.refl U.vm) qK, EVC.blind g mk a qE⟩, gH_rc hK hT hr_gr shc_5 rfl, fun U hU hW => ⟨rfl, hU, va_K.moved hW.alike hK, hE.call hS hFc hU hW⟩⟩ rfl rfl hl.1 rfl (lv_room (Nat.le_of_ble_eq_true rfl)) dX3_copyFrom_19 ⟨(Nat.le_of_ble_eq_true rfl), (Nat.le_of_ble_eq_true rfl)⟩) hS (fun q _ h => hFc q h) hFc (fun u t H locs ht hvm hw18 hB _ _ hS => ?_)
  obtain ⟨hT, hF1, m19⟩ := hB
  rw [ht] at hT hF1 m19
  have m20 := (hF1.fld hr_p0 skc_90 (k := 4) (by decide) (by decide)).trans m9
  have m21 := (hF1.fld hr_o0 skc_6 (k := 1) (by decide) (by decide)).trans m10
  have m22 := (hF1.fld hr_p0 skc_90 (k := 1) (by decide) (by decide)).trans m11
  have m23 := (hF1.fld hr_gr skc_5 (k := 0) (by decide) (by decide)).trans m12
  have m24 := (hF1.fld hr_go skc_93 (k := 0) (by decide) (by decide)).trans m13
  have m25 := m14.kept (hF1.arr hr_lb skc_77 (by decide))
  have m26 := (hF1.fld hr_o0 skc_6 (k := 0) (by decide) (by decide)).trans m15
  have m27 := (hF1.fld hr_p0 skc_90 (k := 0) (by decide) (by decide)).trans m16
  have hF := hF.more hF1 (by decide)
  try dsimp only at hw18
  refine lv_iconst (v := 0) hx hb dX3_copyFrom_22 (by decide) ?_
  refine lv_istore_n (lv' := [(2, .int 0), (0, .ref o0), (1, .ref p0)]) hx hb dX3_copyFrom_23 rfl hl (by decide) rfl (fun ls hl => ?_)
  have jn145 : ∀ (z131 : Int32), ∀ (z142 : Int32), ((0 ≤ z131.toInt ∧ z131.toInt ≤ 30) ∧ (0 ≤ z142.toInt ∧ z142.toInt ≤ 30)) → ∀ (H : Heap) (locs : List Loc), gH (dC, dI) kA (SHc nC nS) G H → gF (dC, dI) SKc G ([(5, 11), (5, 12), (5, 13), (5, 14), (6, 3), (6, 4), (11, 6), (12, 2), (13, 2), (13, 3), (13, 4), (13, 5), (13, 6), (13, 7), (13, 8), (13, 9), (13, 10), (13, 11), (19, 0), (20, 0), (21, 0), (22, 0), (23, 0), (24, 0), (25, 0), (26, 0), (27, 0), (28, 0), (29, 0), (30, 0), (31, 0), (32, 0), (36, 0), (37, 0)] : List (Nat × Nat)) s.heap H → va_S A s.heap H locs → ct H lb 96 VB → ct H la 96 VB → el H p0 (dI 6 4) = some (.int oh) → el H o0 (dI 6 1) = some (.ref gr) → el H p0 (dI 6 1) = some (.ref go) → el H gr (dI 5 0) = some (.ref la) → el H go (dI 5 0) = some (.ref lb) → el H o0 (dI 6 0) = some (.ref b2) → el H p0 (dI 6 0) = some (.ref b5) → el H p0 (dI 6 3) = some (.int z142) → ∀ ls : Array Slot, lv_has ls 3 [(2, .int z131), (0, .ref o0), (1, .ref p0)] → W p l e (headSpec w_c_copyL_lC ({ frames := 4, cells := 0, slots := 0, locals := 102 })).room s m #[.ref o0, .ref p0] below meth c H locs 0 0 (MQ below (va_Qv (fun (u : Int32) => (u.toInt = oh.toInt)) (fun (h1 : Int32) (t : State) => gH (dC, dI) kA (SHc nC nS) G t.heap ∧ gF (dC, dI) SKc G ([(5, 11), (5, 12), (5, 13), (5, 14), (6, 3), (6, 4), (11, 6), (12, 2), (13, 2), (13, 3), (13, 4), (13, 5), (13, 6), (13, 7), (13, 8), (13, 9), (13, 10), (13, 11), (19, 0), (20, 0), (21, 0), (22, 0), (23, 0), (24, 0), (25, 0), (26, 0), (27, 0), (28, 0), (29, 0), (30, 0), (31, 0), (32, 0), (36, 0), (37, 0)] : List (Nat × Nat)) s.heap t.heap ∧ el t.heap o0 (dI 6 4) = some (.int h1) ∧ ct t.heap la 96 VB) A) #[.ref o0, .ref p0] s 0 0 A) (F0 m 53 ls []) := by
    intro z131 z142 ⟨h132, h143⟩ H locs hT hF hS m133 m134 m135 m136 m137 m138 m139 m140 m141 m144 ls hl
    refine lv_aload_n hx hb dX3_copyFrom_53 rfl (lv_at hl 1 rfl) ?_
    refine lv_aload_n hx hb dX3_copyFrom_54 rfl (lv_at hl 2 rfl) ?_
    refine tw_getM (v := .int z142) hx hb hts bF2_X3 hown hK hT hr_p0 shc_90 rfl 3 (by decide) (ht_at2 hts 45 rfl) (fun _ h9 => h9) m144 dX3_copyFrom_55 ?_
    refine tw_put (v := .int z142) (ty := .int) hx hb hts bF2_X3 tyX3 tyX3_ok nmX3 hown hK hT hG hS hr_o0 shc_6 rfl 3 (by decide) (ht_at2 hts 45 rfl) (fun _ h9 => h9) rfl (by decide +kernel) rfl rfl (gl_at rfl (gi_of (show z142.toInt = z142.toInt from rfl) (by omega) (by omega))) dX3_copyFrom_58 (fun H locs hT oq m146 oj hS => ?_)
    have hF := hF.put hr_o0 skc_6 oq oj (by decide)
    have m148 := m134.kept (oq _ (gne hr_la hr_o0 (by decide)))
    have m149 := (el_kept (oq _ (gne hr_p0 hr_o0 (by decide)))).trans m135
    refine lv_aload_n hx hb dX3_copyFrom_61 rfl (lv_at hl 1 rfl) ?_
    refine lv_aload_n hx hb dX3_copyFrom_62 rfl (lv_at hl 2 rfl) ?_
    refine tw_getM (v := .int oh) hx hb hts bF2_X3 hown hK hT hr_p0 shc_90 rfl 4 (by decide) (ht_at2 hts 46 rfl) (fun _ h9 => h9) m149 dX3_copyFrom_63 ?_
    refine tw_put (v := .int oh) (ty := .int) hx hb hts bF2_X3 tyX3 tyX3_ok nmX3 hown hK hT hG hS hr_o0 shc_6 rfl 4 (by decide) (ht_at2 hts 46 rfl) (fun _ h9 => h9) rfl (by decide +kernel) rfl rfl (gl_at rfl (gi_of (show oh.toInt = oh.toInt from rfl) (by omega) (by omega))) dX3_copyFrom_66 (fun H locs hT oq m157 oj hS => ?_)
    have hF := hF.put hr_o0 skc_6 oq oj (by decide)
    have m159 := m148.kept (oq _ (gne hr_la hr_o0 (by decide)))
    exact W.vret hx hb hr (fun t ht hW => ⟨⟨oh, rfl, (by exact (by omega)), by (try dsimp only); rw [ht]; exact ⟨hT, hF, m157, m159⟩⟩, hS.F ht⟩) hS.2.2 dX3_copyFrom_69
  have key169 : ∀ (n169 i28 : Nat), i28 + n169 = 30 → 0 ≤ i28 → ∀ (H : Heap) (locs : List Loc), gH (dC, dI) kA (SHc nC nS) G H → gF (dC, dI) SKc G ([(5, 11), (5, 12), (5, 13), (5, 14), (6, 3), (6, 4), (11, 6), (12, 2), (13, 2), (13, 3), (13, 4), (13, 5), (13, 6), (13, 7), (13, 8), (13, 9), (13, 10), (13, 11), (19, 0), (20, 0), (21, 0), (22, 0), (23, 0), (24, 0), (25, 0), (26, 0), (27, 0), (28, 0), (29, 0), (30, 0), (31, 0), (32, 0), (36, 0), (37, 0)] : List (Nat × Nat)) s.heap H → va_S A s.heap H locs → ct H lb 96 VB → ct H la 96 VB → el H p0 (dI 6 4) = some (.int oh) → el H o0 (dI 6 1) = some (.ref gr) → el H p0 (dI 6 1) = some (.ref go) → el H gr (dI 5 0) = some (.ref la) → el H go (dI 5 0) = some (.ref lb) → el H o0 (dI 6 0) = some (.ref b2) → el H p0 (dI 6 0) = some (.ref b5) → ∀ ls : Array Slot, lv_has ls 3 [(2, .int (nI i28)), (0, .ref o0), (1, .ref p0)] → W p l e (headSpec w_c_copyL_lC ({ frames := 4, cells := 0, slots := 0, locals := 102 })).room s m #[.ref o0, .ref p0] below meth c H locs 0 0 (MQ below (va_Qv (fun (u : Int32) => (u.toInt = oh.toInt)) (fun (h1 : Int32) (t : State) => gH (dC, dI) kA (SHc nC nS) G t.heap ∧ gF (dC, dI) SKc G ([(5, 11), (5, 12), (5, 13), (5, 14), (6, 3), (6, 4), (11, 6), (12, 2), (13, 2), (13, 3), (13, 4), (13, 5), (13, 6), (13, 7), (13, 8), (13, 9), (13, 10), (13, 11), (19, 0), (20, 0), (21, 0), (22, 0), (23, 0), (24, 0), (25, 0), (26, 0), (27, 0), (28, 0), (29, 0), (30, 0), (31, 0), (32, 0), (36, 0), (37, 0)] : List (Nat × Nat)) s.heap t.heap ∧ el t.heap o0 (dI 6 4) = some (.int h1) ∧ ct t.heap la 96 VB) A) #[.ref o0, .ref p0] s 0 0 A) (F0 m 24 ls []) := by
    intro n169
    induction n169 with
    | zero =>
      intro i28 hn169 hlo170  H locs hT hF hS m29 m30 m31 m32 m33 m34 m35 m36 m37 ls hl
      obtain rfl : 30 = i28 := by omega
      refine lv_iload_n hx hb dX3_copyFrom_24 rfl (lv_at hl 0 rfl) ?_
      refine lv_aload_n hx hb dX3_copyFrom_25 rfl (lv_at hl 2 rfl) ?_
      refine tw_get hx hb hts bF2_X3 hown hK hT hr_p0 shc_90 rfl 3 (by decide) (ht_at2 hts 45 rfl) (fun _ h9 => h9) dX3_copyFrom_26 (fun v9 m171 h9 => ?_)
      obtain ⟨x172, rfl, gx172, kx172⟩ := h9 _ rfl
      refine lv_icmp_ge (tgt := 53) hx hb dX3_copyFrom_29 (by decide) (fun c173 => ?_) (fun c173 => (by exfalso; have q9 : ((30 : Nat) : Int) < x172.toInt := ti_nle c173 rfl (nI_toInt (by omega)); omega))
      have t174 : x172.toInt ≤ ((30 : Nat) : Int) := ti_le c173 rfl (nI_toInt (by omega))
      exact jn145 (nI 30) x172 ⟨(rg_t (a := ((30 : Nat) : Int)) (nI_toInt (by omega)) (by omega) (by omega)), (by have q8 := ti_all x172; omega)⟩ _ _ hT hF hS m29 m30 m31 m32 m33 m34 m35 m36 m37 m171 ls (lv_sub hl [0, 1, 2] rfl)
    | succ n169 ih169 =>
      intro i28 hn169 hlo170  H locs hT hF hS m29 m30 m31 m32 m33 m34 m35 m36 m37 ls hl
      have hlt174 : i28 < 30 := by omega
      refine lv_iload_n hx hb dX3_copyFrom_24 rfl (lv_at hl 0 rfl) ?_
      refine lv_aload_n hx hb dX3_copyFrom_25 rfl (lv_at hl 2 rfl) ?_
      refine tw_get hx hb hts bF2_X3 hown hK hT hr_p0 shc_90 rfl 3 (by decide) (ht_at2 hts 45 rfl) (fun _ h9 => h9) dX3_copyFrom_26 (fun v9 m175 h9 => ?_)
      obtain ⟨x176, rfl, gx176, kx176⟩ := h9 _ rfl
      refine lv_icmp_ge (tgt := 53) hx hb dX3_copyFrom_29 (by decide) (fun c177 => ?_) (fun c177 => ?_)
      · have t178 : x176.toInt ≤ ((i28 : Nat) : Int) := ti_le c177 rfl (nI_toInt (by omega))
        exact jn145 (nI i28) x176 ⟨(rg_t (a := ((i28 : Nat) : Int)) (nI_toInt (by omega)) (by omega) (by omega)), (by have q8 := ti_all x176; omega)⟩ _ _ hT hF hS m29 m30 m31 m32 m33 m34 m35 m36 m37 m175 ls (lv_sub hl [0, 1, 2] rfl)
      · have t179 : ((i28 : Nat) : Int) < x176.toInt := ti_nle c177 rfl (nI_toInt (by omega))
        refine lv_aload_n hx hb dX3_copyFrom_32 rfl (lv_at hl 1 rfl) ?_
        refine tw_get hx hb hts bF2_X3 hown hK hT hr_o0 shc_6 rfl 2 (by decide) (ht_at2 hts 47 rfl) (fun _ h9 => h9) dX3_copyFrom_33 (fun v9 m180 h9 => ?_)
        obtain ⟨b181, rfl, hg182⟩ := h9 _ rfl
        refine lv_iload_n hx hb dX3_copyFrom_36 rfl (lv_at hl 0 rfl) ?_
        refine tw_aald (i := (nI i28)) hx hb hK hT hg182 shc_18 rfl (vp_in_nI (by omega) (by decide)) dX3_copyFrom_37 (fun v9 m183 h9 => ?_)
        obtain ⟨b184, rfl, hg185⟩ := h9
        refine lv_aload_n hx hb dX3_copyFrom_38 rfl (lv_at hl 2 rfl) ?_
        refine tw_get hx hb hts bF2_X3 hown hK hT hr_p0 shc_90 rfl 2 (by decide) (ht_at2 hts 47 rfl) (fun _ h9 => h9) dX3_copyFrom_39 (fun v9 m186 h9 => ?_)
        obtain ⟨b187, rfl, hg188⟩ := h9 _ rfl
        refine lv_iload_n hx hb dX3_copyFrom_42 rfl (lv_at hl 0 rfl) ?_
        refine tw_aald (i := (nI i28)) hx hb hK hT hg188 shc_70 rfl (vp_in_nI (by omega) (by decide)) dX3_copyFrom_43 (fun v9 m189 h9 => ?_)
        obtain ⟨b190, rfl, hg191⟩ := h9
        have hFc := gA_free hG hA hS
        refine va_callv (va_runV (As := [.ref b190]) (rest := []) ⟨hx, hb, hml, hown, hts⟩ (c_copyW_l l dC dI kA adK adV G H nC nS b184 b190 hT hg185 hg191 (by omega) (by omega)) (cwV 1 hts (goodIn_app (goodIn_r _ [63, 64, 65, 66] rfl (by decide +kernel)) (goodIn_ca (goodIn_r _ [49, 50, 51, 5, 6, 7, 52, 53, 54, 55, 56, 57, 58, 59, 60, 61, 62] rfl (by decide +kernel)) (bs2_in _ _))) rfl rfl rfl (by decide +kernel) ⟨(Nat.le_of_ble_eq_true rfl), (Nat.le_of_ble_eq_true rfl)⟩) ⟨fun a U g mk q => by obtain ⟨q0, q1, qK, qE⟩ := q; exact ⟨q0, q1, va_K.moved (u := U) (U := U.calling g mk a) (Vm.Alike.refl U.vm) qK, EVC.blind g mk a qE⟩, gH_rc hK hT hg185 shc_13 rfl, fun U hU hW => ⟨rfl, hU, va_K.moved hW.alike hK, hE.call hS hFc hU hW⟩⟩ rfl rfl hl.1 rfl (lv_room (Nat.le_of_ble_eq_true rfl)) dX3_copyFrom_44 ⟨(Nat.le_of_ble_eq_true rfl), (Nat.le_of_ble_eq_true rfl)⟩) hS (fun q _ h => hFc q h) hFc (fun u t H locs ht hvm hw193 hB _ _ hS => ?_)
        obtain ⟨hT, hF1⟩ := hB
        rw [ht] at hT hF1
        have m194 := m29.kept (hF1.arr hr_lb skc_77 (by decide))
        have m195 := m30.kept (hF1.arr hr_la skc_25 (by decide))
        have m196 := (hF1.fld hr_p0 skc_90 (k := 4) (by decide) (by decide)).trans m31
        have m197 := (hF1.fld hr_o0 skc_6 (k := 1) (by decide) (by decide)).trans m32
        have m198 := (hF1.fld hr_p0 skc_90 (k := 1) (by decide) (by decide)).trans m33
        have m199 := (hF1.fld hr_gr skc_5 (k := 0) (by decide) (by decide)).trans m34
        have m200 := (hF1.fld hr_go skc_93 (k := 0) (by decide) (by decide)).trans m35
        have m201 := (hF1.fld hr_o0 skc_6 (k := 0) (by decide) (by decide)).trans m36
        have m202 := (hF1.fld hr_p0 skc_90 (k := 0) (by decide) (by decide)).trans m37
        have hF := hF.more hF1 (by decide)
        try dsimp only at hw193
        refine lv_iinc (v := nI (i28 + 1)) (lv' := [(2, .int (nI (i28 + 1))), (0, .ref o0), (1, .ref p0)]) hx hb dX3_copyFrom_47 hl (k := 0) rfl (nI_add i28 1) (by decide) rfl (fun ls hl => ?_)
        refine lv_goto (tgt := 24) hx hb dX3_copyFrom_50 (by decide) ?_
        exact ih169 (i28 + 1) (by omega) (by omega) _ _ hT hF hS m194 m195 m196 m197 m198 m199 m200 m201 m202 ls (lv_sub hl [0, 1, 2] rfl)
  exact key169 (30 - 0) 0 (by omega) (Nat.le_refl _) _ _ hT hF hS m25 m19 m20 m21 m22 m23 m24 m26 m27 ls (lv_sub hl [0, 1, 2] rfl)
def w_c_backC : List Cond := .code yX11_back cX11_back 1 (some .boolean) :: (HAppend.hAppend (α := List Cond) (β := List Cond) (γ := List Cond) [.fieldLink RX11 505 "SeaLand" "image" "LSeaLand$Lake;", .fieldLink RX11 16 "SeaLand" "lake" "LSeaLand$Lake;", .code yX3_copyFrom cX3_copyFrom 3 none, .fieldLink RX3 12 "SeaLand$Lake" "sky" "LSeaLand$Sky;", .code yX8_copyFrom cX8_copyFrom 2 none, .fieldLink RX8 9 "SeaLand$Sky" "tides" "[I", .methodLink RX8 63 arraycopyName, .native arraycopyName, .static arraycopyName, .initialized "java/lang/System", .fieldLink RX8 15 "SeaLand$Sky" "stormFrom" "[I", .fieldLink RX8 18 "SeaLand$Sky" "stormTo" "[I", .fieldLink RX8 21 "SeaLand$Sky" "stormMore" "[I", .fieldLink RX8 27 "SeaLand$Sky" "wind" "LSeaLand$Tellings;", .code yX9_copyFrom cX9_copyFrom 2 none, .fieldLink RX9 9 "SeaLand$Tellings" "hours" "[I", .methodLink RX9 23 arraycopyName, .fieldLink RX9 15 "SeaLand$Tellings" "numbers" "[I", .fieldLink RX9 18 "SeaLand$Tellings" "told" "I", .methodLink RX8 69 yX9_copyFrom, .instanceMethod yX9_copyFrom, .selects RX9 yX9_copyFrom yX9_copyFrom, .initialized RX9, .fieldLink RX8 31 "SeaLand$Sky" "rain" "LSeaLand$Tellings;", .fieldLink RX8 34 "SeaLand$Sky" "storms" "I", .methodLink RX3 175 yX8_copyFrom, .instanceMethod yX8_copyFrom, .selects RX8 yX8_copyFrom yX8_copyFrom, .initialized RX8, .fieldLink RX3 21 "SeaLand$Lake" "ground" "LSeaLand$Ground;", .code yX2_copyFrom cX2_copyFrom 2 none, .fieldLink RX2 9 "SeaLand$Ground" "isLand" "[Z", .methodLink RX2 95 arraycopyName, .fieldLink RX2 15 "SeaLand$Ground" "height" "[I", .fieldLink RX2 19 "SeaLand$Ground" "soil" "[I", .fieldLink RX2 22 "SeaLand$Ground" "ditch" "[I", .fieldLink RX2 25 "SeaLand$Ground" "water" "[I", .fieldLink RX2 28 "SeaLand$Ground" "salt" "[I", .fieldLink RX2 31 "SeaLand$Ground" "dry" "[I", .fieldLink RX2 34 "SeaLand$Ground" "wet" "[I", .fieldLink RX2 54 "SeaLand$Ground" "rained" "I", .fieldLink RX2 57 "SeaLand$Ground" "cameIn" "I", .fieldLink RX2 64 "SeaLand$Ground" "wentOut" "I", .fieldLink RX2 50 "SeaLand$Ground" "toldMore" "I", .methodLink RX3 179 yX2_copyFrom, .instanceMethod yX2_copyFrom, .selects RX2 yX2_copyFrom yX2_copyFrom, .initialized RX2, .fieldLink RX3 47 "SeaLand$Lake" "built" "I", .fieldLink RX3 32 "SeaLand$Lake" "hour" "I", .fieldLink RX3 27 "SeaLand$Lake" "works" "[LSeaLand$Work;", .code yX10_copyFrom cX10_copyFrom 2 none, .fieldLink RX10 9 "SeaLand$Work" "thick" "[I", .methodLink RX10 60 arraycopyName, .fieldLink RX10 15 "SeaLand$Work" "clay" "[I", .fieldLink RX10 18 "SeaLand$Work" "kind" "I", .fieldLink RX10 22 "SeaLand$Work" "square" "I", .fieldLink RX10 25 "SeaLand$Work" "to" "I", .fieldLink RX10 28 "SeaLand$Work" "size" "I", .fieldLink RX10 31 "SeaLand$Work" "width" "I", .fieldLink RX10 34 "SeaLand$Work" "layers" "I", .fieldLink RX10 37 "SeaLand$Work" "coal" "I", .fieldLink RX10 40 "SeaLand$Work" "on" "Z", .fieldLink RX10 44 "SeaLand$Work" "latest" "I", .fieldLink RX10 47 "SeaLand$Work" "total" "I", .methodLink RX3 182 yX10_copyFrom, .instanceMethod yX10_copyFrom, .selects RX10 yX10_copyFrom yX10_copyFrom, .initialized RX10, .methodLink RX11 508 yX3_copyFrom, .instanceMethod yX3_copyFrom, .selects RX3 yX3_copyFrom yX3_copyFrom, .initialized RX3, .fieldLink RX11 23 "SeaLand" "rows" "LSeaLand$Rows;", .code yX6_forget cX6_forget 1 none, .fieldLink RX6 18 "SeaLand$Rows" "kept" "I", .fieldLink RX6 22 "SeaLand$Rows" "oldest" "I", .methodLink RX11 76 yX6_forget, .instanceMethod yX6_forget, .selects RX6 yX6_forget yX6_forget, .initialized RX6] bs2)
set_option maxHeartbeats 4000000 in
set_option maxRecDepth 100000 in
theorem c_backC (l : Launch) (dC : Nat → ClassId) (dI : Nat → Nat → Nat) (kA : Nat → ClassId) (adK adV : Nat → Nat) (G : gT) (H0 : Heap) (nC nS : Int) (o0 : Nat) (lk : Nat) (ho : Int32) (gr : Nat) (la : Nat) (VL : Nat → Int32) (vh im : Int) (VI : Nat → Int32) (hT : gH (dC, dI) kA (SHc nC nS) G H0) (hr_o0 : G o0 = some 14) (hm_lk : el H0 o0 (dI 14 1) = some (.ref lk)) (hr_lk : G lk = some 6) (hm_ho : el H0 lk (dI 6 4) = some (.int ho)) (hm_gr : el H0 lk (dI 6 1) = some (.ref gr)) (hr_gr : G gr = some 5) (hm_la : el H0 gr (dI 5 0) = some (.ref la)) (hr_la : G la = some 25) (hq0 : 0 ≤ ho.toInt ∧ ho.toInt ≤ 40000) (hV : ∀ b, el H0 o0 (dI 14 6) = some (.ref b) → im = 1 ∧ ∃ (v : Int32) (gb lb : Nat), el H0 b (dI 6 4) = some (.int v) ∧ v.toInt = vh ∧ (0 ≤ v.toInt ∧ v.toInt ≤ 40000) ∧ el H0 b (dI 6 1) = some (.ref gb) ∧ G gb = some 93 ∧ el H0 gb (dI 5 0) = some (.ref lb) ∧ G lb = some 77 ∧ ct H0 lb 96 VI) (hN0 : el H0 o0 (dI 14 6) = some .null → im = 0) (hc_VL : ct H0 la 96 VL) (hgC : 0 ≤ nC ∧ nC ≤ 40) (hgS : 0 ≤ nS ∧ nS ≤ 60) : Met l yX11_back w_c_backC ({ frames := 5, cells := 0, slots := 0, locals := 124 }) (va_Pc [.ref o0] (fun U => U.heap = H0 ∧ va_K (dC, dI) vwCl (tyl kA) U ∧ EVC adK adV (gA G H0.size) U U.heap)) (va_Qi (fun (r : Int32) (u : Int32 × (Nat → Int32)) => match u with | (h1, V1) => (0 ≤ r.toInt ∧ r.toInt ≤ 1) ∧ ((im = 1 ∧ vh ≤ ho.toInt ∧ r.toInt = 1 ∧ h1.toInt = vh ∧ V1 = VI) ∨ ((im = 0 ∨ ho.toInt < vh) ∧ r.toInt = 0 ∧ h1.toInt = ho.toInt ∧ V1 = VL))) (fun (u : Int32 × (Nat → Int32)) (t : State) => match u with | (h1, V1) => gH (dC, dI) kA (SHc nC nS) G t.heap ∧ gF (dC, dI) SKc G ([(5, 11), (5, 12), (5, 13), (5, 14), (6, 3), (6, 4), (9, 2), (9, 3), (11, 6), (12, 2), (13, 2), (13, 3), (13, 4), (13, 5), (13, 6), (13, 7), (13, 8), (13, 9), (13, 10), (13, 11), (19, 0), (20, 0), (21, 0), (22, 0), (23, 0), (24, 0), (25, 0), (26, 0), (27, 0), (28, 0), (29, 0), (30, 0), (31, 0), (32, 0), (36, 0), (37, 0)] : List (Nat × Nat)) H0 t.heap ∧ el t.heap lk (dI 6 4) = some (.int h1) ∧ ct t.heap la 96 V1) (gA G H0.size)) 0 0 (gA G H0.size) := by
  refine Met.ofW (cc := cX11_back) (maxL := 1) (ret := (some .boolean)) (by decide) rfl ?_
  intro p e s m args below meth c s₁ B hml hv
  obtain ⟨rfl, hH0, hK, hE⟩ := hv
  have hx := B.exec
  have hb := B.bytes
  have hr := B.returns
  have hts := atoms_spec (ws := w_c_backC) B.pre
  have hown : s.vm.findClass RX11 = some m.cls := findClass_of_methodNamed B.named
  have hlocks := B.notSynchronized
  subst hH0
  generalize hAe : gA G s.heap.size = A at hE ⊢
  have hA : ∀ q : Nat, s.heap.size ≤ q → A q := fun q h => by rw [← hAe]; exact Or.inr h
  have hG := gA_of hAe
  have hS : va_S A s.heap s.heap [] := va_S.rf
  have hF : gF (dC, dI) SKc G ([(5, 11), (5, 12), (5, 13), (5, 14), (6, 3), (6, 4), (9, 2), (9, 3), (11, 6), (12, 2), (13, 2), (13, 3), (13, 4), (13, 5), (13, 6), (13, 7), (13, 8), (13, 9), (13, 10), (13, 11), (19, 0), (20, 0), (21, 0), (22, 0), (23, 0), (24, 0), (25, 0), (26, 0), (27, 0), (28, 0), (29, 0), (30, 0), (31, 0), (32, 0), (36, 0), (37, 0)] : List (Nat × Nat)) s.heap s.heap := gF.rf
  have hl := lv_entry ([.ref o0]) (n := 1) (Nat.le_of_ble_eq_true rfl)
  rw [lg_entry_eq]
  generalize (lg_sl ([.ref o0]) ++ List.replicate (1 - (lg_sl ([.ref o0])).length) Slot.unset).toArray = ls at hl ⊢
  have hl : lv_has ls 1 [(0, .ref o0)] := hl
  refine lv_aload_n hx hb dX11_back_0 rfl (lv_at hl 0 rfl) ?_
  refine tw_get hx hb hts bF2_X11 hown hK hT hr_o0 shc_14 rfl 6 (by decide) (ht_at2 hts 0 rfl) (fun _ h9 => h9) dX11_back_1 (fun v9 m1 h9 => ?_)
  obtain ⟨r9, rfl, hn9⟩ := h9 _ rfl
  rcases r9 with _ | b2
  · refine W.eq (g2 := F0 m 4 ls [.null]) rfl ?_
    have hi9 := hN0 m1
    refine lv_ifnullN (tgt := 24) hx hb dX11_back_4 (by decide) ?_
    refine lv_iconst (v := 0) hx hb dX11_back_24 (by decide) ?_
    exact W.zret (v := 0) hx hb hr (by decide) (fun t ht hW => ⟨⟨0, (ho, VL), rfl, (by exact ⟨(rg_t (a := 0) (by decide) (by first | decide | omega) (by first | decide | omega)), (Or.inr ⟨by omega, by decide, by omega, rfl⟩)⟩), by (try dsimp only); rw [ht]; exact ⟨hT, hF, hm_ho, hc_VL⟩⟩, hS.F ht⟩) hS.2.2 dX11_back_25
  · refine W.eq (g2 := F0 m 4 ls [.ref b2]) rfl ?_
    have hg3 := hn9 b2 rfl
    obtain ⟨hi9, v9, gb9, lb9, hm9, hv9, hr9, y19, y29, y39, y49, y59⟩ := hV _ m1
    refine lv_ifnull hx hb dX11_back_4 ?_
    refine lv_aload_n hx hb dX11_back_7 rfl (lv_at hl 0 rfl) ?_
    refine tw_getM (v := .ref b2) hx hb hts bF2_X11 hown hK hT hr_o0 shc_14 rfl 6 (by decide) (ht_at2 hts 0 rfl) (fun _ h9 => h9) m1 dX11_back_8 ?_
    refine tw_getNM (v := .int v9) hx hb hts bF2_X3 hown hK hT hg3 shc_90 rfl 4 (by decide) (hE.nw 0 rfl) (fun _ h9 => h9) hm9 dX11_back_11 ?_
    refine lv_aload_n hx hb dX11_back_14 rfl (lv_at hl 0 rfl) ?_
    refine tw_getM (v := .ref lk) hx hb hts bF2_X11 hown hK hT hr_o0 shc_14 rfl 1 (by decide) (ht_at2 hts 1 rfl) (fun _ h9 => h9) hm_lk dX11_back_15 ?_
    refine tw_getNM (v := .int ho) hx hb hts bF2_X3 hown hK hT hr_lk shc_6 rfl 4 (by decide) (hE.nw 0 rfl) (fun _ h9 => h9) hm_ho dX11_back_18 ?_
    refine lv_icmp_le (tgt := 26) hx hb dX11_back_21 (by decide) (fun c4 => ?_) (fun c4 => ?_)
    · have t5 : v9.toInt ≤ ho.toInt := ti_le c4 rfl rfl
      refine lv_aload_n hx hb dX11_back_26 rfl (lv_at hl 0 rfl) ?_
      refine tw_getM (v := .ref lk) hx hb hts bF2_X11 hown hK hT hr_o0 shc_14 rfl 1 (by decide) (ht_at2 hts 1 rfl) (fun _ h9 => h9) hm_lk dX11_back_27 ?_
      refine lv_aload_n hx hb dX11_back_30 rfl (lv_at hl 0 rfl) ?_
      refine tw_getM (v := .ref b2) hx hb hts bF2_X11 hown hK hT hr_o0 shc_14 rfl 6 (by decide) (ht_at2 hts 0 rfl) (fun _ h9 => h9) m1 dX11_back_31 ?_
      have hFc := gA_free hG hA hS
      refine va_callv (va_runV (As := [.ref b2]) (rest := []) ⟨hx, hb, hml, hown, hts⟩ (c_copyL_lC l dC dI kA adK adV G s.heap nC nS lk b2 v9 gr gb9 la lb9 VI hT hr_lk hg3 hm9 hm_gr hr_gr y19 y29 hm_la hr_la y39 y49 (by have q8 := ti_all v9; omega) y59 (by omega) (by omega)) (cwV 1 hts (goodIn_app (goodIn_r _ [70, 71, 72, 73] rfl (by decide +kernel)) (goodIn_ca (goodIn_r _ [3, 4, 5, 6, 7, 8, 9, 10, 11, 12, 13, 14, 15, 16, 17, 18, 19, 20, 21, 22, 23, 24, 25, 26, 27, 28, 29, 30, 31, 32, 33, 34, 35, 36, 37, 38, 39, 40, 41, 42, 43, 44, 45, 46, 47, 48, 49, 50, 51, 52, 53, 54, 55, 56, 57, 58, 59, 60, 61, 62, 63, 64, 65, 66, 67, 68, 69] rfl (by decide +kernel)) (bs2_in _ _))) rfl rfl rfl (by decide +kernel) ⟨(Nat.le_of_ble_eq_true rfl), (Nat.le_of_ble_eq_true rfl)⟩) ⟨fun a U g mk q => by obtain ⟨q0, q1, qK, qE⟩ := q; exact ⟨q0, q1, va_K.moved (u := U) (U := U.calling g mk a) (Vm.Alike.refl U.vm) qK, EVC.blind g mk a qE⟩, gH_rc hK hT hr_lk shc_6 rfl, fun U hU hW => ⟨rfl, hU, va_K.moved hW.alike hK, hE.call hS hFc hU hW⟩⟩ rfl rfl hl.1 rfl (lv_room (Nat.le_of_ble_eq_true rfl)) dX11_back_34 ⟨(Nat.le_of_ble_eq_true rfl), (Nat.le_of_ble_eq_true rfl)⟩) hS (fun q _ h => hFc q h) hFc (fun u t H locs ht hvm hw7 hB _ _ hS => ?_)
      obtain ⟨u8, rfl⟩ : ∃ z, z = u := ⟨_, rfl⟩
      obtain ⟨hT, hF1, m9, m10⟩ := hB
      rw [ht] at hT hF1 m9 m10
      have hF := hF.more hF1 (by decide)
      try dsimp only at hw7
      have hf21 := hw7
      refine lv_aload_n hx hb dX11_back_37 rfl (lv_at hl 0 rfl) ?_
      refine tw_get hx hb hts bF2_X11 hown hK hT hr_o0 shc_14 rfl 2 (by decide) (ht_at2 hts 73 rfl) (fun _ h9 => h9) dX11_back_38 (fun v9 m22 h9 => ?_)
      obtain ⟨b23, rfl, hg24⟩ := h9 _ rfl
      have hFc := gA_free hG hA hS
      refine va_callv (va_runV (As := []) (rest := []) ⟨hx, hb, hml, hown, hts⟩ (c_forget l dC dI kA adK adV G H nC nS b23 hT hg24 (by omega) (by omega)) (cwV 0 hts (goodIn_app (goodIn_r _ [78, 79, 80, 81] rfl (by decide +kernel)) (goodIn_ca (goodIn_r _ [75, 76, 77] rfl (by decide +kernel)) (bs2_in _ _))) rfl rfl rfl (by decide +kernel) ⟨(Nat.le_of_ble_eq_true rfl), (Nat.le_of_ble_eq_true rfl)⟩) ⟨fun a U g mk q => by obtain ⟨q0, q1, qK, qE⟩ := q; exact ⟨q0, q1, va_K.moved (u := U) (U := U.calling g mk a) (Vm.Alike.refl U.vm) qK, EVC.blind g mk a qE⟩, gH_rc hK hT hg24 shc_9 rfl, fun U hU hW => ⟨rfl, hU, va_K.moved hW.alike hK, hE.call hS hFc hU hW⟩⟩ rfl rfl hl.1 rfl (lv_room (Nat.le_of_ble_eq_true rfl)) dX11_back_41 ⟨(Nat.le_of_ble_eq_true rfl), (Nat.le_of_ble_eq_true rfl)⟩) hS (fun q _ h => hFc q h) hFc (fun u t H locs ht hvm hw26 hB _ _ hS => ?_)
      obtain ⟨hT, hF1⟩ := hB
      rw [ht] at hT hF1
      have m35 := (hF1.fld hr_lk skc_6 (k := 4) (by decide) (by decide)).trans m9
      have m36 := m10.kept (hF1.arr hr_la skc_25 (by decide))
      have hF := hF.more hF1 (by decide)
      try dsimp only at hw26
      refine lv_iconst (v := 1) hx hb dX11_back_44 (by decide) ?_
      exact W.zret (v := 1) hx hb hr (by decide) (fun t ht hW => ⟨⟨1, (u8, VI), rfl, (by exact ⟨(rg_t (a := 1) (by decide) (by first | decide | omega) (by first | decide | omega)), (Or.inl ⟨by omega, by omega, by decide, by omega, rfl⟩)⟩), by (try dsimp only); rw [ht]; exact ⟨hT, hF, m35, m36⟩⟩, hS.F ht⟩) hS.2.2 dX11_back_45
    · have t38 : ho.toInt < v9.toInt := ti_nle c4 rfl rfl
      refine lv_iconst (v := 0) hx hb dX11_back_24 (by decide) ?_
      exact W.zret (v := 0) hx hb hr (by decide) (fun t ht hW => ⟨⟨0, (ho, VL), rfl, (by exact ⟨(rg_t (a := 0) (by decide) (by first | decide | omega) (by first | decide | omega)), (Or.inr ⟨by omega, by decide, by omega, rfl⟩)⟩), by (try dsimp only); rw [ht]; exact ⟨hT, hF, hm_ho, hc_VL⟩⟩, hS.F ht⟩) hS.2.2 dX11_back_25
def w_c_keepC : List Cond := .code yX11_keep cX11_keep 1 (some .boolean) :: (HAppend.hAppend (α := List Cond) (β := List Cond) (γ := List Cond) [.fieldLink RX11 16 "SeaLand" "lake" "LSeaLand$Lake;", .fieldLink RX11 505 "SeaLand" "image" "LSeaLand$Lake;", .classLink RX11 13 RX3, .instantiable RX3 5, .initialized RX3, .code yX3_init cX3_init 2 none, .methodLink RX3 3 objectInit, .instanceMethod objectInit, .code objectInit ⟨#[0xb1]⟩ 1 none, .classLink RX3 9 RX8, .instantiable RX8 7, .initialized RX8, .code yX8_init cX8_init 1 none, .methodLink RX8 3 objectInit, .arrayClass .int, .fieldLink RX8 9 "SeaLand$Sky" "tides" "[I", .fieldLink RX8 15 "SeaLand$Sky" "stormFrom" "[I", .fieldLink RX8 18 "SeaLand$Sky" "stormTo" "[I", .fieldLink RX8 21 "SeaLand$Sky" "stormMore" "[I", .classLink RX8 24 RX9, .instantiable RX9 3, .initialized RX9, .code yX9_init cX9_init 1 none, .methodLink RX9 3 objectInit, .fieldLink RX9 9 "SeaLand$Tellings" "hours" "[I", .fieldLink RX9 15 "SeaLand$Tellings" "numbers" "[I", .instanceMethod yX9_init, .fieldLink RX8 27 "SeaLand$Sky" "wind" "LSeaLand$Tellings;", .fieldLink RX8 31 "SeaLand$Sky" "rain" "LSeaLand$Tellings;", .instanceMethod yX8_init, .fieldLink RX3 12 "SeaLand$Lake" "sky" "LSeaLand$Sky;", .classLink RX3 18 RX2, .instantiable RX2 15, .initialized RX2, .code yX2_init cX2_init 1 none, .methodLink RX2 3 objectInit, .arrayClass .boolean, .fieldLink RX2 9 "SeaLand$Ground" "isLand" "[Z", .fieldLink RX2 15 "SeaLand$Ground" "height" "[I", .fieldLink RX2 19 "SeaLand$Ground" "soil" "[I", .fieldLink RX2 22 "SeaLand$Ground" "ditch" "[I", .fieldLink RX2 25 "SeaLand$Ground" "water" "[I", .fieldLink RX2 28 "SeaLand$Ground" "salt" "[I", .fieldLink RX2 31 "SeaLand$Ground" "dry" "[I", .fieldLink RX2 34 "SeaLand$Ground" "wet" "[I", .fieldLink RX2 37 "SeaLand$Ground" "ditchTo" "[I", .fieldLink RX2 40 "SeaLand$Ground" "ditchWater" "[I", .fieldLink RX2 43 "SeaLand$Ground" "ditchSalt" "[I", .instanceMethod yX2_init, .fieldLink RX3 21 "SeaLand$Lake" "ground" "LSeaLand$Ground;", .classLink RX3 25 RX10, .fieldLink RX3 27 "SeaLand$Lake" "works" "[LSeaLand$Work;", .instantiable RX10 12, .initialized RX10, .code yX10_init cX10_init 1 none, .methodLink RX10 3 objectInit, .fieldLink RX10 9 "SeaLand$Work" "thick" "[I", .fieldLink RX10 15 "SeaLand$Work" "clay" "[I", .instanceMethod yX10_init, .methodLink RX11 15 yX3_init, .instanceMethod yX3_init, .code yX3_copyFrom cX3_copyFrom 3 none, .code yX8_copyFrom cX8_copyFrom 2 none, .methodLink RX8 63 arraycopyName, .native arraycopyName, .static arraycopyName, .initialized "java/lang/System", .code yX9_copyFrom cX9_copyFrom 2 none, .methodLink RX9 23 arraycopyName, .fieldLink RX9 18 "SeaLand$Tellings" "told" "I", .methodLink RX8 69 yX9_copyFrom, .instanceMethod yX9_copyFrom, .selects RX9 yX9_copyFrom yX9_copyFrom, .fieldLink RX8 34 "SeaLand$Sky" "storms" "I", .methodLink RX3 175 yX8_copyFrom, .instanceMethod yX8_copyFrom, .selects RX8 yX8_copyFrom yX8_copyFrom, .code yX2_copyFrom cX2_copyFrom 2 none, .methodLink RX2 95 arraycopyName, .fieldLink RX2 54 "SeaLand$Ground" "rained" "I", .fieldLink RX2 57 "SeaLand$Ground" "cameIn" "I", .fieldLink RX2 64 "SeaLand$Ground" "wentOut" "I", .fieldLink RX2 50 "SeaLand$Ground" "toldMore" "I", .methodLink RX3 179 yX2_copyFrom, .instanceMethod yX2_copyFrom, .selects RX2 yX2_copyFrom yX2_copyFrom, .fieldLink RX3 47 "SeaLand$Lake" "built" "I", .fieldLink RX3 32 "SeaLand$Lake" "hour" "I", .code yX10_copyFrom cX10_copyFrom 2 none, .methodLink RX10 60 arraycopyName, .fieldLink RX10 18 "SeaLand$Work" "kind" "I", .fieldLink RX10 22 "SeaLand$Work" "square" "I", .fieldLink RX10 25 "SeaLand$Work" "to" "I", .fieldLink RX10 28 "SeaLand$Work" "size" "I", .fieldLink RX10 31 "SeaLand$Work" "width" "I", .fieldLink RX10 34 "SeaLand$Work" "layers" "I", .fieldLink RX10 37 "SeaLand$Work" "coal" "I", .fieldLink RX10 40 "SeaLand$Work" "on" "Z", .fieldLink RX10 44 "SeaLand$Work" "latest" "I", .fieldLink RX10 47 "SeaLand$Work" "total" "I", .methodLink RX3 182 yX10_copyFrom, .instanceMethod yX10_copyFrom, .selects RX10 yX10_copyFrom yX10_copyFrom, .methodLink RX11 508 yX3_copyFrom, .instanceMethod yX3_copyFrom, .selects RX3 yX3_copyFrom yX3_copyFrom] bs2)
set_option maxHeartbeats 4000000 in
set_option maxRecDepth 100000 in
theorem c_keepC (l : Launch) (dC : Nat → ClassId) (dI : Nat → Nat → Nat) (kA : Nat → ClassId) (adK adV : Nat → Nat) (G : gT) (H0 : Heap) (nC nS : Int) (o0 : Nat) (lk : Nat) (ho : Int32) (gr : Nat) (la : Nat) (VL : Nat → Int32) (hT : gH (dC, dI) kA (SHc nC nS) G H0) (hr_o0 : G o0 = some 14) (hm_lk : el H0 o0 (dI 14 1) = some (.ref lk)) (hr_lk : G lk = some 6) (hm_ho : el H0 lk (dI 6 4) = some (.int ho)) (hq0 : 0 ≤ ho.toInt ∧ ho.toInt ≤ 40000) (hm_gr : el H0 lk (dI 6 1) = some (.ref gr)) (hr_gr : G gr = some 5) (hm_la : el H0 gr (dI 5 0) = some (.ref la)) (hr_la : G la = some 25) (hc_VL : ct H0 la 96 VL) (hgC : 0 ≤ nC ∧ nC ≤ 40) (hgS : 0 ≤ nS ∧ nS ≤ 60) : Met l yX11_keep w_c_keepC ({ frames := 5, cells := 115, slots := 2151, locals := 124 }) (va_Pc [.ref o0] (fun U => U.heap = H0 ∧ va_K (dC, dI) vwCl (tyl kA) U ∧ EVC adK adV (gA G H0.size) U U.heap ∧ AO U)) (va_Qi (fun (r : Int32) (u : gT × Int × Int) => (0 ≤ r.toInt ∧ r.toInt ≤ 1) ∧ ((r.toInt = 0 ∧ ho.toInt = 0) ∨ (r.toInt = 1 ∧ ho.toInt ≠ 0))) (fun (u : gT × Int × Int) (t : State) => match u with | (G1, n1, n2) => gH (dC, dI) kA (SHc n1 n2) G1 t.heap ∧ gF (dC, dI) SKc G ([(14, 6), (71, 0), (72, 0), (73, 0), (74, 0), (75, 0), (76, 0), (77, 0), (78, 0), (79, 0), (80, 0), (81, 0), (82, 0), (83, 0), (84, 0), (88, 0), (89, 0), (90, 3), (90, 4), (91, 6), (92, 2), (93, 11), (93, 12), (93, 13), (93, 14), (94, 2), (94, 3), (94, 4), (94, 5), (94, 6), (94, 7), (94, 8), (94, 9), (94, 10), (94, 11)] : List (Nat × Nat)) H0 t.heap ∧ gZ ([70, 71, 72, 73, 74, 75, 76, 77, 78, 79, 80, 81, 82, 83, 84, 85, 86, 87, 88, 89, 90, 91, 92, 93, 94, 120, 121, 122, 123, 124, 125] : List Nat) H0.size G G1 ∧ (0 ≤ n1 ∧ n1 ≤ 40) ∧ ((0 ≤ n2 ∧ n2 ≤ 60) ∧ n2 = nS) ∧ ((ho.toInt = 0 ∧ t.heap = H0) ∨ (ho.toInt ≠ 0 ∧ ∃ (ig : Nat) (v1 : Int32) (gb lb : Nat), el t.heap o0 (dI 14 6) = some (.ref ig) ∧ G1 ig = some 90 ∧ el t.heap ig (dI 6 4) = some (.int v1) ∧ v1.toInt = ho.toInt ∧ el t.heap ig (dI 6 1) = some (.ref gb) ∧ G1 gb = some 93 ∧ el t.heap gb (dI 5 0) = some (.ref lb) ∧ G1 lb = some 77 ∧ ct t.heap lb 96 VL))) (gA G H0.size)) 115 2151 (gA G H0.size) := by
  refine Met.ofW (cc := cX11_keep) (maxL := 1) (ret := (some .boolean)) (by decide) rfl ?_
  intro p e s m args below meth c s₁ B hml hv
  obtain ⟨rfl, hH0, hK, hE, hAO⟩ := hv
  have hx := B.exec
  have hb := B.bytes
  have hr := B.returns
  have hts := atoms_spec (ws := w_c_keepC) B.pre
  have hown : s.vm.findClass RX11 = some m.cls := findClass_of_methodNamed B.named
  have hlocks := B.notSynchronized
  subst hH0
  generalize hAe : gA G s.heap.size = A at hE ⊢
  have hA : ∀ q : Nat, s.heap.size ≤ q → A q := fun q h => by rw [← hAe]; exact Or.inr h
  have hG := gA_of hAe
  have hS : va_S A s.heap s.heap [] := va_S.rf
  have hF : gF (dC, dI) SKc G ([(14, 6), (71, 0), (72, 0), (73, 0), (74, 0), (75, 0), (76, 0), (77, 0), (78, 0), (79, 0), (80, 0), (81, 0), (82, 0), (83, 0), (84, 0), (88, 0), (89, 0), (90, 3), (90, 4), (91, 6), (92, 2), (93, 11), (93, 12), (93, 13), (93, 14), (94, 2), (94, 3), (94, 4), (94, 5), (94, 6), (94, 7), (94, 8), (94, 9), (94, 10), (94, 11)] : List (Nat × Nat)) s.heap s.heap := gF.rf
  have hl := lv_entry ([.ref o0]) (n := 1) (Nat.le_of_ble_eq_true rfl)
  rw [lg_entry_eq]
  generalize (lg_sl ([.ref o0]) ++ List.replicate (1 - (lg_sl ([.ref o0])).length) Slot.unset).toArray = ls at hl ⊢
  have hl : lv_has ls 1 [(0, .ref o0)] := hl
  have hG0 := hG
  have hZ : gZ ([70, 71, 72, 73, 74, 75, 76, 77, 78, 79, 80, 81, 82, 83, 84, 85, 86, 87, 88, 89, 90, 91, 92, 93, 94, 120, 121, 122, 123, 124, 125] : List Nat) s.heap.size G G := gZ.rf hT
  refine lv_aload_n hx hb dX11_keep_0 rfl (lv_at hl 0 rfl) ?_
  refine tw_getM (v := .ref lk) hx hb hts bF2_X11 hown hK hT hr_o0 shc_14 rfl 1 (by decide) (ht_at2 hts 0 rfl) (fun _ h9 => h9) hm_lk dX11_keep_1 ?_
  refine tw_getNM (v := .int ho) hx hb hts bF2_X3 hown hK hT hr_lk shc_6 rfl 4 (by decide) (hE.nw 0 rfl) (fun _ h9 => h9) hm_ho dX11_keep_4 ?_
  refine lv_if_ne (tgt := 12) hx hb dX11_keep_7 (by decide) (fun c1 => ?_) (fun c1 => ?_)
  · have t2 : ho.toInt ≠ 0 := ti_ne c1 rfl (by decide)
    refine lv_aload_n hx hb dX11_keep_12 rfl (lv_at hl 0 rfl) ?_
    refine tw_get hx hb hts bF2_X11 hown hK hT hr_o0 shc_14 rfl 6 (by decide) (ht_at2 hts 1 rfl) (fun _ h9 => h9) dX11_keep_13 (fun v9 m3 h9 => ?_)
    obtain ⟨r9, rfl, hn9⟩ := h9 _ rfl
    rcases r9 with _ | b4
    · refine W.eq (g2 := F0 m 16 ls [.null]) rfl ?_
      refine lv_ifnonnullN hx hb dX11_keep_16 ?_
      refine lv_aload_n hx hb dX11_keep_19 rfl (lv_at hl 0 rfl) ?_
      have hz9 := hS.1
      refine tw_new hx hb hts bF2_X3 tyX3 tyX3_ok hown (ht_at2 hts 2 rfl) (ht_at2 hts 3 rfl) (ht_at2 hts 4 rfl) hK mon_c hT hS hG hA (shc_120) rfl nd_120 (Nat.le_of_ble_eq_true rfl) (Nat.le_of_ble_eq_true rfl) dX11_keep_20 (fun q6 G1 H hq9 eG hz1 hz2 hT hx9 hG hm9 hS => ?_)
      have hn_q6 : s.heap.size ≤ q6 := Nat.le_trans hz9 (Nat.le_of_eq hz2)
      have hF := hF.same (fun a t h => (hx9 _ _ (hZ.1 a t h)).2)
      have hZ := hZ.new hn_q6 eG hx9 (by decide)
      have m7 := (el_kept (hx9 _ _ hr_o0).2).trans hm_lk
      have m8 := (el_kept (hx9 _ _ hr_lk).2).trans hm_ho
      have m9 := (el_kept (hx9 _ _ hr_lk).2).trans hm_gr
      have m10 := (el_kept (hx9 _ _ hr_gr).2).trans hm_la
      have m11 := hc_VL.kept (hx9 _ _ hr_la).2
      have hg13 := (hx9 _ _ hr_o0).1
      have hg14 := (hx9 _ _ hr_lk).1
      have hg15 := (hx9 _ _ hr_gr).1
      have hg16 := (hx9 _ _ hr_la).1
      have hg17 : G1 q6 = some 120 := by rw [eG]; exact gU_at
      refine lv_dup hx hb dX11_keep_23 rfl ?_
      have hFc := gA_free hG hA hS
      have hz9 := hS.1
      refine va_callv (va_runI (As := []) (rest := [.ref q6, .ref o0]) ⟨hx, hb, hml, hown, hts⟩ (n_I3 l dC dI kA adK adV G1 H nC nS q6 hT hg17 (by omega) (by omega)) (cwI 0 hts (goodIn_ca (goodIn_r _ [6, 7, 8, 9, 10, 11, 12, 13, 14, 15, 16, 17, 18, 19, 20, 21, 22, 23, 24, 25, 26, 27, 28, 29, 30, 31, 32, 33, 34, 35, 36, 37, 38, 39, 40, 41, 42, 43, 44, 45, 46, 47, 48, 49, 50, 51, 52, 53, 54, 55, 56, 57, 58, 59] rfl (by decide +kernel)) (bs2_in _ _)) rfl rfl rfl (ht_at2 hts 4 rfl) (ht_at2 hts 59 rfl) (ht_at2 hts 60 rfl) rfl (by decide +kernel) ⟨(Nat.le_of_ble_eq_true rfl), (Nat.le_of_ble_eq_true rfl)⟩) ⟨fun a U g mk q => by obtain ⟨q0, q1, qK, qE, qA⟩ := q; exact ⟨q0, q1, va_K.moved (u := U) (U := U.calling g mk a) (Vm.Alike.refl U.vm) qK, EVC.blind g mk a qE, AO.blind g mk a qA⟩, fun U hU hW => ⟨rfl, hU, va_K.moved hW.alike hK, hE.call hS hFc hU hW, hAO.call hW⟩⟩ rfl rfl hl.1 rfl (lv_room (Nat.le_of_ble_eq_true rfl)) dX11_keep_24 ⟨(Nat.le_of_ble_eq_true rfl), (Nat.le_of_ble_eq_true rfl)⟩) hS (fun q _ h => hFc q h) hFc (fun G2 t H locs ht hvm _ hB _ _ hS => ?_)
      (try dsimp only at hB); rw [ht] at hB; obtain ⟨hT, hg18, hY1⟩ := hB
      have hF := hF.same (hZ.kept hn_q6 hY1)
      have hZ := hZ.call hn_q6 hY1 hz9 (by decide)
      have hG := hZ.A hG0 hA
      have m19 := (el_kept (hY1.1 _ _ (gne hg13 hg17 (by decide)) hg13).2).trans m7
      have m20 := (el_kept (hY1.1 _ _ (gne hg14 hg17 (by decide)) hg14).2).trans m8
      have m21 := (el_kept (hY1.1 _ _ (gne hg14 hg17 (by decide)) hg14).2).trans m9
      have m22 := (el_kept (hY1.1 _ _ (gne hg15 hg17 (by decide)) hg15).2).trans m10
      have m23 := m11.kept (hY1.1 _ _ (gne hg16 hg17 (by decide)) hg16).2
      have hg25 := (hY1.1 _ _ (gne hg13 hg17 (by decide)) hg13).1
      have hg26 := (hY1.1 _ _ (gne hg14 hg17 (by decide)) hg14).1
      have hg27 := (hY1.1 _ _ (gne hg15 hg17 (by decide)) hg15).1
      have hg28 := (hY1.1 _ _ (gne hg16 hg17 (by decide)) hg16).1
      refine tw_put (v := .ref q6) (ty := (.object "SeaLand$Lake")) hx hb hts bF2_X11 tyX11 tyX11_ok nmX11 hown hK hT hG hS hg25 shc_14 rfl 6 (by decide) (ht_at2 hts 1 rfl) (fun _ h9 => h9) rfl (by decide +kernel) rfl rfl (gl_at rfl ⟨some _, rfl, fun _ h => by cases h; exact hg18⟩) dX11_keep_27 (fun H locs hT oq m29 oj hS => ?_)
      have hF := gF.putX hZ.1 hF hg25 skc_14 oq oj (by decide)
      have m30 := (oj 1 (by decide) (by decide)).trans m19
      have m31 := (el_kept (oq _ (gne hg26 hg25 (by decide)))).trans m20
      have m32 := (el_kept (oq _ (gne hg26 hg25 (by decide)))).trans m21
      have m33 := (el_kept (oq _ (gne hg27 hg25 (by decide)))).trans m22
      have m34 := m23.kept (oq _ (gne hg28 hg25 (by decide)))
      refine lv_aload_n hx hb dX11_keep_30 rfl (lv_at hl 0 rfl) ?_
      refine tw_getM (v := .ref q6) hx hb hts bF2_X11 hown hK hT hg25 shc_14 rfl 6 (by decide) (ht_at2 hts 1 rfl) (fun _ h9 => h9) m29 dX11_keep_31 ?_
      refine lv_aload_n hx hb dX11_keep_34 rfl (lv_at hl 0 rfl) ?_
      refine tw_getM (v := .ref lk) hx hb hts bF2_X11 hown hK hT hg25 shc_14 rfl 1 (by decide) (ht_at2 hts 0 rfl) (fun _ h9 => h9) m30 dX11_keep_35 ?_
      obtain ⟨v9, m35, h9⟩ := gH_fld hT hg18 shc_90 (k := 1) (by decide)
      obtain ⟨b36, rfl, hg37⟩ := h9 _ rfl
      obtain ⟨v9, m38, h9⟩ := gH_fld hT hg37 shc_93 (k := 0) (by decide)
      obtain ⟨b39, rfl, hg40⟩ := h9 _ rfl
      have hFc := gA_free hG hA hS
      refine va_callv (va_runV (As := [.ref lk]) (rest := []) ⟨hx, hb, hml, hown, hts⟩ (c_copyL_iC l dC dI kA adK adV G2 H nC nS q6 lk ho b36 gr b39 la VL hT hg18 hg26 m31 m35 hg37 m32 hg27 m38 hg40 m33 hg28 (by have q8 := ti_all ho; omega) m34 (by omega) (by omega)) (cwV 1 hts (goodIn_app (goodIn_r _ [104, 105, 106, 5] rfl (by decide +kernel)) (goodIn_ca (goodIn_r _ [62, 31, 63, 16, 64, 65, 66, 67, 17, 18, 19, 28, 68, 25, 69, 26, 70, 71, 72, 73, 22, 29, 74, 75, 76, 77, 12, 50, 78, 38, 79, 39, 40, 41, 42, 43, 44, 45, 80, 81, 82, 83, 84, 85, 86, 34, 87, 88, 52, 89, 57, 90, 58, 91, 92, 93, 94, 95, 96, 97, 98, 99, 100, 101, 102, 103, 54] rfl (by decide +kernel)) (bs2_in _ _))) rfl rfl rfl (by decide +kernel) ⟨(Nat.le_of_ble_eq_true rfl), (Nat.le_of_ble_eq_true rfl)⟩) ⟨fun a U g mk q => by obtain ⟨q0, q1, qK, qE⟩ := q; exact ⟨q0, q1, va_K.moved (u := U) (U := U.calling g mk a) (Vm.Alike.refl U.vm) qK, EVC.blind g mk a qE⟩, gH_rc hK hT hg18 shc_90 rfl, fun U hU hW => ⟨rfl, hU, va_K.moved hW.alike hK, hE.call hS hFc hU hW⟩⟩ rfl rfl hl.1 rfl (lv_room (Nat.le_of_ble_eq_true rfl)) dX11_keep_38 ⟨(Nat.le_of_ble_eq_true rfl), (Nat.le_of_ble_eq_true rfl)⟩) hS (fun q _ h => hFc q h) hFc (fun u t H locs ht hvm hw42 hB _ _ hS => ?_)
      obtain ⟨u43, rfl⟩ : ∃ z, z = u := ⟨_, rfl⟩
      obtain ⟨hT, hF1, m44, m45⟩ := hB
      rw [ht] at hT hF1 m44 m45
      have m51 := (hF1.fld hg25 skc_14 (k := 6) (by decide) (by decide)).trans m29
      have m52 := (hF1.fld hg18 skc_90 (k := 1) (by decide) (by decide)).trans m35
      have m53 := (hF1.fld hg37 skc_93 (k := 0) (by decide) (by decide)).trans m38
      have hF := hF.more (hF1.sub hZ.1) (by decide)
      try dsimp only at hw42
      have hf54 := hw42
      refine lv_iconst (v := 1) hx hb dX11_keep_41 (by decide) ?_
      exact W.zret (v := 1) hx hb hr (by decide) (fun t ht hW => ⟨⟨1, (G2, nC, nS), rfl, ⟨(rg_t (a := 1) (by decide) (by first | decide | omega) (by first | decide | omega)), by have : (1 : Int32).toInt = 1 := (by decide); omega⟩, by (try dsimp only); rw [ht]; exact ⟨hT, hF, hZ, (by omega), (by omega), Or.inr ⟨by omega, _, _, _, _, m51, hg18, m44, by omega, m52, hg37, m53, hg40, m45⟩⟩⟩, hS.F ht⟩) hS.2.2 dX11_keep_42
    · refine W.eq (g2 := F0 m 16 ls [.ref b4]) rfl ?_
      have hg5 := hn9 b4 rfl
      refine lv_ifnonnull (tgt := 30) hx hb dX11_keep_16 (by decide) ?_
      refine lv_aload_n hx hb dX11_keep_30 rfl (lv_at hl 0 rfl) ?_
      refine tw_getM (v := .ref b4) hx hb hts bF2_X11 hown hK hT hr_o0 shc_14 rfl 6 (by decide) (ht_at2 hts 1 rfl) (fun _ h9 => h9) m3 dX11_keep_31 ?_
      refine lv_aload_n hx hb dX11_keep_34 rfl (lv_at hl 0 rfl) ?_
      refine tw_getM (v := .ref lk) hx hb hts bF2_X11 hown hK hT hr_o0 shc_14 rfl 1 (by decide) (ht_at2 hts 0 rfl) (fun _ h9 => h9) hm_lk dX11_keep_35 ?_
      obtain ⟨v9, m55, h9⟩ := gH_fld hT hg5 shc_90 (k := 1) (by decide)
      obtain ⟨b56, rfl, hg57⟩ := h9 _ rfl
      obtain ⟨v9, m58, h9⟩ := gH_fld hT hg57 shc_93 (k := 0) (by decide)
      obtain ⟨b59, rfl, hg60⟩ := h9 _ rfl
      have hFc := gA_free hG hA hS
      refine va_callv (va_runV (As := [.ref lk]) (rest := []) ⟨hx, hb, hml, hown, hts⟩ (c_copyL_iC l dC dI kA adK adV G s.heap nC nS b4 lk ho b56 gr b59 la VL hT hg5 hr_lk hm_ho m55 hg57 hm_gr hr_gr m58 hg60 hm_la hr_la (by have q8 := ti_all ho; omega) hc_VL (by omega) (by omega)) (cwV 1 hts (goodIn_app (goodIn_r _ [104, 105, 106, 5] rfl (by decide +kernel)) (goodIn_ca (goodIn_r _ [62, 31, 63, 16, 64, 65, 66, 67, 17, 18, 19, 28, 68, 25, 69, 26, 70, 71, 72, 73, 22, 29, 74, 75, 76, 77, 12, 50, 78, 38, 79, 39, 40, 41, 42, 43, 44, 45, 80, 81, 82, 83, 84, 85, 86, 34, 87, 88, 52, 89, 57, 90, 58, 91, 92, 93, 94, 95, 96, 97, 98, 99, 100, 101, 102, 103, 54] rfl (by decide +kernel)) (bs2_in _ _))) rfl rfl rfl (by decide +kernel) ⟨(Nat.le_of_ble_eq_true rfl), (Nat.le_of_ble_eq_true rfl)⟩) ⟨fun a U g mk q => by obtain ⟨q0, q1, qK, qE⟩ := q; exact ⟨q0, q1, va_K.moved (u := U) (U := U.calling g mk a) (Vm.Alike.refl U.vm) qK, EVC.blind g mk a qE⟩, gH_rc hK hT hg5 shc_90 rfl, fun U hU hW => ⟨rfl, hU, va_K.moved hW.alike hK, hE.call hS hFc hU hW⟩⟩ rfl rfl hl.1 rfl (lv_room (Nat.le_of_ble_eq_true rfl)) dX11_keep_38 ⟨(Nat.le_of_ble_eq_true rfl), (Nat.le_of_ble_eq_true rfl)⟩) hS (fun q _ h => hFc q h) hFc (fun u t H locs ht hvm hw62 hB _ _ hS => ?_)
      obtain ⟨u63, rfl⟩ : ∃ z, z = u := ⟨_, rfl⟩
      obtain ⟨hT, hF1, m64, m65⟩ := hB
      rw [ht] at hT hF1 m64 m65
      have m71 := (hF1.fld hr_o0 skc_14 (k := 6) (by decide) (by decide)).trans m3
      have m72 := (hF1.fld hg5 skc_90 (k := 1) (by decide) (by decide)).trans m55
      have m73 := (hF1.fld hg57 skc_93 (k := 0) (by decide) (by decide)).trans m58
      have hF := hF.more (hF1.sub hZ.1) (by decide)
      try dsimp only at hw62
      have hf74 := hw62
      refine lv_iconst (v := 1) hx hb dX11_keep_41 (by decide) ?_
      refine W.widen (k := 115) (n := 2151) (by decide) (by decide) ?_
      exact W.zret (v := 1) hx hb hr (by decide) (fun t ht hW => ⟨⟨1, (G, nC, nS), rfl, ⟨(rg_t (a := 1) (by decide) (by first | decide | omega) (by first | decide | omega)), by have : (1 : Int32).toInt = 1 := (by decide); omega⟩, by (try dsimp only); rw [ht]; exact ⟨hT, hF, hZ, (by omega), (by omega), Or.inr ⟨by omega, _, _, _, _, m71, hg5, m64, by omega, m72, hg57, m73, hg60, m65⟩⟩⟩, hS.F ht⟩) hS.2.2 dX11_keep_42
  · have t75 : ho.toInt = 0 := ti_eq c1 rfl (by decide)
    refine lv_iconst (v := 0) hx hb dX11_keep_10 (by decide) ?_
    refine W.widen (k := 115) (n := 2151) (by decide) (by decide) ?_
    exact W.zret (v := 0) hx hb hr (by decide) (fun t ht hW => ⟨⟨0, (G, nC, nS), rfl, ⟨(rg_t (a := 0) (by decide) (by first | decide | omega) (by first | decide | omega)), by have : (0 : Int32).toInt = 0 := (by decide); omega⟩, by (try dsimp only); rw [ht]; exact ⟨hT, hF, hZ, (by omega), (by omega), Or.inl ⟨by omega, rfl⟩⟩⟩, hS.F ht⟩) hS.2.2 dX11_keep_11
def w_c_farmMayBeC : List Cond := .code yX0_farmMayBe cX0_farmMayBe 6 (some .boolean) :: (HAppend.hAppend (α := List Cond) (β := List Cond) (γ := List Cond) [.fieldLink RX0 143 "SeaLand$Board" "farms" "I", .code yX11_inRectangle cX11_inRectangle 3 (some .boolean), .code yX11_isBetween cX11_isBetween 3 (some .boolean), .methodLink RX11 588 Lib.Math.min.name, .static Lib.Math.min.name, .initialized "java/lang/Math", .code Lib.Math.min.name Lib.Math.min.code 2 (some .int), .methodLink RX11 591 Lib.Math.max.name, .static Lib.Math.max.name, .code Lib.Math.max.name Lib.Math.max.code 2 (some .int), .methodLink RX11 585 yX11_isBetween, .static yX11_isBetween, .initialized RX11, .static yX11_inRectangle, .fieldLink RX0 17 "SeaLand$Board" "farmOf" "[I"] bs2)
