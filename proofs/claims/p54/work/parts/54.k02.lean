def w_c_floorMod : List Cond := .code yJ9_floorMod_7cf53 cJ9_floorMod_7cf53 3 (some .int) :: (HAppend.hAppend (α := List Cond) (β := List Cond) (γ := List Cond) [] bs2)
set_option maxHeartbeats 4000000 in
set_option maxRecDepth 100000 in
theorem c_floorMod (l : Launch) (dC : Nat → ClassId) (dI : Nat → Nat → Nat) (kA : Nat → ClassId) (adK adV : Nat → Nat) (G : gT) (H0 : Heap) (nC nS : Int) (xm : Int32)  (hT : gH (dC, dI) kA (SHc nC nS) G H0) (hq0 : 0 ≤ xm.toInt ∧ xm.toInt ≤ 100000) (hgC : 0 ≤ nC ∧ nC ≤ 40) (hgS : 0 ≤ nS ∧ nS ≤ 60) : Met l yJ9_floorMod_7cf53 w_c_floorMod ({ frames := 0, cells := 0, slots := 0, locals := 0 }) (va_Pc [.int xm, .int 12] (fun U => U.heap = H0 ∧ va_K (dC, dI) vwCl (tyl kA) U ∧ EVC adK adV (gA G H0.size) U U.heap)) (va_Qi (fun (r : Int32) (u : Unit) => (0 ≤ r.toInt ∧ r.toInt ≤ 11)) (fun (_ : Unit) (t : State) => gH (dC, dI) kA (SHc nC nS) G t.heap ∧ gF (dC, dI) SKc G ([] : List (Nat × Nat)) H0 t.heap) (gA G H0.size)) 0 0 (gA G H0.size) := by
  refine va_MetF (cc := cJ9_floorMod_7cf53) (maxL := 3) (ret := (some .int)) (by decide +kernel) rfl ?_
  intro p e s m args below meth c s₁ B hml hv
  obtain ⟨rfl, hH0, hK, hE⟩ := hv
  have hx := B.exec
  have hb := B.bytes
  have hr := B.returns
  have hts := atoms_spec (ws := w_c_floorMod) B.pre
  have hown : s.vm.findClass RJ9 = some m.cls := findClass_of_methodNamed B.named
  have hlocks := B.notSynchronized
  subst hH0
  generalize hAe : gA G s.heap.size = A at hE ⊢
  have hA : ∀ q : Nat, s.heap.size ≤ q → A q := fun q h => by rw [← hAe]; exact Or.inr h
  have hG := gA_of hAe
  have hS : va_S A s.heap s.heap [] := va_S.rf
  have hF : gF (dC, dI) SKc G ([] : List (Nat × Nat)) s.heap s.heap := gF.rf
  have hl := lv_entry ([.int xm, .int 12]) (n := 3) (Nat.le_of_ble_eq_true rfl)
  rw [lg_entry_eq]
  generalize (lg_sl ([.int xm, .int 12]) ++ List.replicate (3 - (lg_sl ([.int xm, .int 12])).length) Slot.unset).toArray = ls at hl ⊢
  have hl : lv_has ls 3 [(0, .int xm), (1, .int 12)] := hl
  refine lv_iload_n hx hb dJ9_floorMod_7cf53_0 rfl (lv_at hl 0 rfl) ?_
  refine lv_iload_n hx hb dJ9_floorMod_7cf53_1 rfl (lv_at hl 1 rfl) ?_
  refine lv_irem hx hb dJ9_floorMod_7cf53_2 (by decide) ?_
  refine lv_topi (fun x1 ex1 => ?_)
  have t2 : x1.toInt = xm.toInt % 12 := ti_rem ex1 rfl (by decide) (by omega) (by omega)
  refine lv_istore_n (lv' := [(2, .int x1), (0, .int xm), (1, .int 12)]) hx hb dJ9_floorMod_7cf53_3 rfl hl (by decide) rfl (fun ls hl => ?_)
  refine lv_iload_n hx hb dJ9_floorMod_7cf53_4 rfl (lv_at hl 1 rfl) ?_
  refine lv_iload_n hx hb dJ9_floorMod_7cf53_5 rfl (lv_at hl 2 rfl) ?_
  refine lv_ixor hx hb dJ9_floorMod_7cf53_6 ?_
  refine lv_topi (fun x3 ex3 => ?_)
  have t4 : 0 ≤ x3.toInt := by rw [ex3]; exact xor_nn (show xm.toInt = xm.toInt from rfl) (show (12 : Int32).toInt = 12 from (by decide)) (by omega) (by omega)
  have t5 : -2147483648 ≤ x3.toInt ∧ x3.toInt ≤ 2147483647 := ti_all x3
  refine lv_if_ge (tgt := 18) hx hb dJ9_floorMod_7cf53_7 (by decide) (fun c6 => ?_) (fun c6 => (by exfalso; have q9 : x3.toInt < 0 := ti_nle c6 (by decide) rfl; have := ti_all x3; omega))
  have t7 : 0 ≤ x3.toInt := ti_le c6 (by decide) rfl
  refine lv_iload_n hx hb dJ9_floorMod_7cf53_18 rfl (lv_at hl 0 rfl) ?_
  exact W.iret (v := x1) hx hb hr (fun t ht hW => ⟨⟨x1, (), rfl, (by exact (by have q8 := ti_all x1; omega)), by (try dsimp only); rw [ht]; exact ⟨hT, hF⟩⟩, hS.F ht⟩) hS.2.2 dJ9_floorMod_7cf53_19
def w_c_tell : List Cond := .code yX9_tell cX9_tell 4 (some .int) :: (HAppend.hAppend (α := List Cond) (β := List Cond) (γ := List Cond) [.fieldLink RX9 18 "SeaLand$Tellings" "told" "I", .fieldLink RX9 9 "SeaLand$Tellings" "hours" "[I", .fieldLink RX9 15 "SeaLand$Tellings" "numbers" "[I"] bs2)
set_option maxHeartbeats 4000000 in
set_option maxRecDepth 100000 in
theorem c_tell (l : Launch) (dC : Nat → ClassId) (dI : Nat → Nat → Nat) (kA : Nat → ClassId) (adK adV : Nat → Nat) (G : gT) (H0 : Heap) (nC nS : Int) (o0 : Nat) (p0 : Int32) (p1 : Int32) (to : Int32)  (hT : gH (dC, dI) kA (SHc nC nS) G H0) (hr_o0 : G o0 = some 12) (hm_to : el H0 o0 (dI 12 2) = some (.int to)) (hq0 : 0 ≤ to.toInt ∧ to.toInt ≤ 59) (hgC : 0 ≤ nC ∧ nC ≤ 40) (hgS : 0 ≤ nS ∧ nS ≤ 60) : Met l yX9_tell w_c_tell ({ frames := 0, cells := 0, slots := 0, locals := 0 }) (va_Pc [.ref o0, .int p0, .int p1] (fun U => U.heap = H0 ∧ va_K (dC, dI) vwCl (tyl kA) U ∧ EVC adK adV (gA G H0.size) U U.heap)) (va_Qi (fun (r : Int32) (u : Unit) => (1 ≤ r.toInt ∧ r.toInt ≤ 60)) (fun (_ : Unit) (t : State) => gH (dC, dI) kA (SHc nC nS) G t.heap ∧ gF (dC, dI) SKc G ([(12, 2), (23, 0), (24, 0)] : List (Nat × Nat)) H0 t.heap) (gA G H0.size)) 0 0 (gA G H0.size) := by
  refine Met.ofW (cc := cX9_tell) (maxL := 4) (ret := (some .int)) (by decide) rfl ?_
  intro p e s m args below meth c s₁ B hml hv
  obtain ⟨rfl, hH0, hK, hE⟩ := hv
  have hx := B.exec
  have hb := B.bytes
  have hr := B.returns
  have hts := atoms_spec (ws := w_c_tell) B.pre
  have hown : s.vm.findClass RX9 = some m.cls := findClass_of_methodNamed B.named
  have hlocks := B.notSynchronized
  subst hH0
  generalize hAe : gA G s.heap.size = A at hE ⊢
  have hA : ∀ q : Nat, s.heap.size ≤ q → A q := fun q h => by rw [← hAe]; exact Or.inr h
  have hG := gA_of hAe
  have hS : va_S A s.heap s.heap [] := va_S.rf
  have hF : gF (dC, dI) SKc G ([(12, 2), (23, 0), (24, 0)] : List (Nat × Nat)) s.heap s.heap := gF.rf
  have hl := lv_entry ([.ref o0, .int p0, .int p1]) (n := 4) (Nat.le_of_ble_eq_true rfl)
  rw [lg_entry_eq]
  generalize (lg_sl ([.ref o0, .int p0, .int p1]) ++ List.replicate (4 - (lg_sl ([.ref o0, .int p0, .int p1])).length) Slot.unset).toArray = ls at hl ⊢
  have hl : lv_has ls 4 [(0, .ref o0), (1, .int p0), (2, .int p1)] := hl
  refine lv_iconst (v := 0) hx hb dX9_tell_0 (by decide) ?_
  refine lv_istore_n (lv' := [(3, .int 0), (0, .ref o0), (1, .int p0), (2, .int p1)]) hx hb dX9_tell_1 rfl hl (by decide) rfl (fun ls hl => ?_)
  have jn74 : ∀ (z71 : Int32), ((0 ≤ z71.toInt ∧ z71.toInt ≤ 59)) → ∀ (H : Heap) (locs : List Loc), gH (dC, dI) kA (SHc nC nS) G H → gF (dC, dI) SKc G ([(12, 2), (23, 0), (24, 0)] : List (Nat × Nat)) s.heap H → va_S A s.heap H locs → el H o0 (dI 12 2) = some (.int to) → ∀ ls : Array Slot, lv_has ls 4 [(3, .int z71), (0, .ref o0), (1, .int p0), (2, .int p1)] → W p l e (headSpec w_c_tell ({ frames := 0, cells := 0, slots := 0, locals := 0 })).room s m #[.ref o0, .int p0, .int p1] below meth c H locs 0 0 (MQ below (va_Qi (fun (r : Int32) (u : Unit) => (1 ≤ r.toInt ∧ r.toInt ≤ 60)) (fun (_ : Unit) (t : State) => gH (dC, dI) kA (SHc nC nS) G t.heap ∧ gF (dC, dI) SKc G ([(12, 2), (23, 0), (24, 0)] : List (Nat × Nat)) s.heap t.heap) A) #[.ref o0, .int p0, .int p1] s 0 0 A) (F0 m 33 ls []) := by
    intro z71 h72 H locs hT hF hS m73 ls hl
    refine lv_aload_n hx hb dX9_tell_33 rfl (lv_at hl 1 rfl) ?_
    refine tw_get hx hb hts bF2_X9 hown hK hT hr_o0 shc_12 rfl 0 (by decide) (ht_at2 hts 1 rfl) (fun _ h9 => h9) dX9_tell_34 (fun v9 m75 h9 => ?_)
    obtain ⟨b76, rfl, hg77⟩ := h9 _ rfl
    refine lv_aload_n hx hb dX9_tell_37 rfl (lv_at hl 1 rfl) ?_
    refine tw_getM (v := .int to) hx hb hts bF2_X9 hown hK hT hr_o0 shc_12 rfl 2 (by decide) (ht_at2 hts 0 rfl) (fun _ h9 => h9) m73 dX9_tell_38 ?_
    refine lv_iload_n hx hb dX9_tell_41 rfl (lv_at hl 2 rfl) ?_
    refine tw_iast (i := to) (x := p0) hx hb hK hT hG hS hg77 shc_23 rfl (vin_t (a := to.toInt) rfl (by omega) (by omega)) (gi_all _) dX9_tell_42 (fun H locs hT oq m78 oi hS => ?_)
    have hF := hF.ast hg77 skc_23 oq (by decide)
    have m79 := (el_kept (oq _ (gne hr_o0 hg77 (by decide)))).trans m73
    refine lv_aload_n hx hb dX9_tell_43 rfl (lv_at hl 1 rfl) ?_
    refine tw_get hx hb hts bF2_X9 hown hK hT hr_o0 shc_12 rfl 1 (by decide) (ht_at2 hts 2 rfl) (fun _ h9 => h9) dX9_tell_44 (fun v9 m81 h9 => ?_)
    obtain ⟨b82, rfl, hg83⟩ := h9 _ rfl
    refine lv_aload_n hx hb dX9_tell_47 rfl (lv_at hl 1 rfl) ?_
    refine tw_getM (v := .int to) hx hb hts bF2_X9 hown hK hT hr_o0 shc_12 rfl 2 (by decide) (ht_at2 hts 0 rfl) (fun _ h9 => h9) m79 dX9_tell_48 ?_
    refine lv_iload_n hx hb dX9_tell_51 rfl (lv_at hl 3 rfl) ?_
    refine tw_iast (i := to) (x := p1) hx hb hK hT hG hS hg83 shc_24 rfl (vin_t (a := to.toInt) rfl (by omega) (by omega)) (gi_all _) dX9_tell_52 (fun H locs hT oq m84 oi hS => ?_)
    have hF := hF.ast hg83 skc_24 oq (by decide)
    have m85 := (el_kept (oq _ (gne hr_o0 hg83 (by decide)))).trans m79
    refine lv_aload_n hx hb dX9_tell_53 rfl (lv_at hl 1 rfl) ?_
    refine lv_dup hx hb dX9_tell_54 rfl ?_
    refine tw_getM (v := .int to) hx hb hts bF2_X9 hown hK hT hr_o0 shc_12 rfl 2 (by decide) (ht_at2 hts 0 rfl) (fun _ h9 => h9) m85 dX9_tell_55 ?_
    refine lv_iconst (v := 1) hx hb dX9_tell_58 (by decide) ?_
    refine lv_iadd hx hb dX9_tell_59 ?_
    refine lv_topi (fun x89 ex89 => ?_)
    have t90 : x89.toInt = to.toInt + 1 := ti_add ex89 rfl (by decide) (by omega) (by omega)
    refine tw_put (v := .int x89) (ty := .int) hx hb hts bF2_X9 tyX9 tyX9_ok nmX9 hown hK hT hG hS hr_o0 shc_12 rfl 2 (by decide) (ht_at2 hts 0 rfl) (fun _ h9 => h9) rfl (by decide +kernel) rfl rfl (gl_at rfl (gi_of (show x89.toInt = x89.toInt from rfl) (by omega) (by omega))) dX9_tell_60 (fun H locs hT oq m91 oj hS => ?_)
    have hF := hF.put hr_o0 skc_12 oq oj (by decide)
    refine lv_aload_n hx hb dX9_tell_63 rfl (lv_at hl 1 rfl) ?_
    refine tw_getM (v := .int x89) hx hb hts bF2_X9 hown hK hT hr_o0 shc_12 rfl 2 (by decide) (ht_at2 hts 0 rfl) (fun _ h9 => h9) m91 dX9_tell_64 ?_
    exact W.iret (v := x89) hx hb hr (fun t ht hW => ⟨⟨x89, (), rfl, (by exact (by have q8 := ti_all x89; omega)), by (try dsimp only); rw [ht]; exact ⟨hT, hF⟩⟩, hS.F ht⟩) hS.2.2 dX9_tell_67
  have key96 : ∀ (n96 i1 : Nat), i1 + n96 = 59 → 0 ≤ i1 → ∀ (H : Heap) (locs : List Loc), gH (dC, dI) kA (SHc nC nS) G H → gF (dC, dI) SKc G ([(12, 2), (23, 0), (24, 0)] : List (Nat × Nat)) s.heap H → va_S A s.heap H locs → el H o0 (dI 12 2) = some (.int to) → ∀ ls : Array Slot, lv_has ls 4 [(3, .int (nI i1)), (0, .ref o0), (1, .int p0), (2, .int p1)] → W p l e (headSpec w_c_tell ({ frames := 0, cells := 0, slots := 0, locals := 0 })).room s m #[.ref o0, .int p0, .int p1] below meth c H locs 0 0 (MQ below (va_Qi (fun (r : Int32) (u : Unit) => (1 ≤ r.toInt ∧ r.toInt ≤ 60)) (fun (_ : Unit) (t : State) => gH (dC, dI) kA (SHc nC nS) G t.heap ∧ gF (dC, dI) SKc G ([(12, 2), (23, 0), (24, 0)] : List (Nat × Nat)) s.heap t.heap) A) #[.ref o0, .int p0, .int p1] s 0 0 A) (F0 m 2 ls []) := by
    intro n96
    induction n96 with
    | zero =>
      intro i1 hn96 hlo97  H locs hT hF hS m2 ls hl
      obtain rfl : 59 = i1 := by omega
      refine lv_iload_n hx hb dX9_tell_2 rfl (lv_at hl 0 rfl) ?_
      refine lv_aload_n hx hb dX9_tell_3 rfl (lv_at hl 1 rfl) ?_
      refine tw_getM (v := .int to) hx hb hts bF2_X9 hown hK hT hr_o0 shc_12 rfl 2 (by decide) (ht_at2 hts 0 rfl) (fun _ h9 => h9) m2 dX9_tell_4 ?_
      refine lv_icmp_ge (tgt := 33) hx hb dX9_tell_7 (by decide) (fun c98 => ?_) (fun c98 => (by exfalso; have q9 : ((59 : Nat) : Int) < to.toInt := ti_nle c98 rfl (nI_toInt (by omega)); omega))
      have t99 : to.toInt ≤ ((59 : Nat) : Int) := ti_le c98 rfl (nI_toInt (by omega))
      exact jn74 (nI 59) (rg_t (a := ((59 : Nat) : Int)) (nI_toInt (by omega)) (by omega) (by omega)) _ _ hT hF hS m2 ls (lv_sub hl [0, 1, 2, 3] rfl)
    | succ n96 ih96 =>
      intro i1 hn96 hlo97  H locs hT hF hS m2 ls hl
      have hlt99 : i1 < 59 := by omega
      refine lv_iload_n hx hb dX9_tell_2 rfl (lv_at hl 0 rfl) ?_
      refine lv_aload_n hx hb dX9_tell_3 rfl (lv_at hl 1 rfl) ?_
      refine tw_getM (v := .int to) hx hb hts bF2_X9 hown hK hT hr_o0 shc_12 rfl 2 (by decide) (ht_at2 hts 0 rfl) (fun _ h9 => h9) m2 dX9_tell_4 ?_
      refine lv_icmp_ge (tgt := 33) hx hb dX9_tell_7 (by decide) (fun c100 => ?_) (fun c100 => ?_)
      · have t101 : to.toInt ≤ ((i1 : Nat) : Int) := ti_le c100 rfl (nI_toInt (by omega))
        exact jn74 (nI i1) (rg_t (a := ((i1 : Nat) : Int)) (nI_toInt (by omega)) (by omega) (by omega)) _ _ hT hF hS m2 ls (lv_sub hl [0, 1, 2, 3] rfl)
      · have t102 : ((i1 : Nat) : Int) < to.toInt := ti_nle c100 rfl (nI_toInt (by omega))
        refine lv_aload_n hx hb dX9_tell_10 rfl (lv_at hl 1 rfl) ?_
        refine tw_get hx hb hts bF2_X9 hown hK hT hr_o0 shc_12 rfl 0 (by decide) (ht_at2 hts 1 rfl) (fun _ h9 => h9) dX9_tell_11 (fun v9 m103 h9 => ?_)
        obtain ⟨b104, rfl, hg105⟩ := h9 _ rfl
        refine lv_iload_n hx hb dX9_tell_14 rfl (lv_at hl 0 rfl) ?_
        refine tw_iald (i := (nI i1)) hx hb hK hT hg105 shc_23 rfl (vp_in_nI (by omega) (by decide)) dX9_tell_15 (fun v9 m106 h9 => ?_)
        obtain ⟨x107, rfl, gx107, kx107⟩ := h9
        refine lv_iload_n hx hb dX9_tell_16 rfl (lv_at hl 2 rfl) ?_
        have t108 : -2147483648 ≤ x107.toInt ∧ x107.toInt ≤ 2147483647 := ti_all x107
        have t109 : -2147483648 ≤ p0.toInt ∧ p0.toInt ≤ 2147483647 := ti_all p0
        refine lv_icmp_ne (tgt := 27) hx hb dX9_tell_17 (by decide) (fun c110 => ?_) (fun c110 => ?_)
        · have t111 : x107.toInt ≠ p0.toInt := ti_ne c110 rfl rfl
          refine lv_iinc (v := nI (i1 + 1)) (lv' := [(3, .int (nI (i1 + 1))), (0, .ref o0), (1, .int p0), (2, .int p1)]) hx hb dX9_tell_27 hl (k := 0) rfl (nI_add i1 1) (by decide) rfl (fun ls hl => ?_)
          refine lv_goto (tgt := 2) hx hb dX9_tell_30 (by decide) ?_
          exact ih96 (i1 + 1) (by omega) (by omega) _ _ hT hF hS m2 ls (lv_sub hl [0, 1, 2, 3] rfl)
        · have t112 : x107.toInt = p0.toInt := ti_eq c110 rfl rfl
          refine lv_aload_n hx hb dX9_tell_20 rfl (lv_at hl 1 rfl) ?_
          refine tw_getM (v := .ref b104) hx hb hts bF2_X9 hown hK hT hr_o0 shc_12 rfl 0 (by decide) (ht_at2 hts 1 rfl) (fun _ h9 => h9) m103 dX9_tell_21 ?_
          refine lv_iload_n hx hb dX9_tell_24 rfl (lv_at hl 0 rfl) ?_
          refine lv_iconst (v := (-1)) hx hb dX9_tell_25 (by decide) ?_
          refine tw_iast (i := (nI i1)) (x := (-1)) hx hb hK hT hG hS hg105 shc_23 rfl (vp_in_nI (by omega) (by decide)) (gi_all _) dX9_tell_26 (fun H locs hT oq m113 oi hS => ?_)
          have hF := hF.ast hg105 skc_23 oq (by decide)
          have m114 := (el_kept (oq _ (gne hr_o0 hg105 (by decide)))).trans m2
          refine lv_iinc (v := nI (i1 + 1)) (lv' := [(3, .int (nI (i1 + 1))), (0, .ref o0), (1, .int p0), (2, .int p1)]) hx hb dX9_tell_27 hl (k := 0) rfl (nI_add i1 1) (by decide) rfl (fun ls hl => ?_)
          refine lv_goto (tgt := 2) hx hb dX9_tell_30 (by decide) ?_
          exact ih96 (i1 + 1) (by omega) (by omega) _ _ hT hF hS m114 ls (lv_sub hl [0, 1, 2, 3] rfl)
  exact key96 (59 - 0) 0 (by omega) (Nat.le_refl _) _ _ hT hF hS hm_to ls (lv_sub hl [0, 1, 2, 3] rfl)
def w_c_standingAt : List Cond := .code yX9_standingAt cX9_standingAt 5 (some .int) :: (HAppend.hAppend (α := List Cond) (β := List Cond) (γ := List Cond) [.fieldLink RX9 18 "SeaLand$Tellings" "told" "I", .fieldLink RX9 9 "SeaLand$Tellings" "hours" "[I"] bs2)
set_option maxHeartbeats 4000000 in
set_option maxRecDepth 100000 in
theorem c_standingAt (l : Launch) (dC : Nat → ClassId) (dI : Nat → Nat → Nat) (kA : Nat → ClassId) (adK adV : Nat → Nat) (G : gT) (H0 : Heap) (nC nS : Int) (o0 : Nat) (p0 : Int32)  (hT : gH (dC, dI) kA (SHc nC nS) G H0) (hr_o0 : G o0 = some 12) (hgC : 0 ≤ nC ∧ nC ≤ 40) (hgS : 0 ≤ nS ∧ nS ≤ 60) : Met l yX9_standingAt w_c_standingAt ({ frames := 0, cells := 0, slots := 0, locals := 0 }) (va_Pc [.ref o0, .int p0] (fun U => U.heap = H0 ∧ va_K (dC, dI) vwCl (tyl kA) U ∧ EVC adK adV (gA G H0.size) U U.heap)) (va_Qi (fun (r : Int32) (u : Unit) => (-1 ≤ r.toInt ∧ r.toInt ≤ 59)) (fun (_ : Unit) (t : State) => gH (dC, dI) kA (SHc nC nS) G t.heap ∧ gF (dC, dI) SKc G ([] : List (Nat × Nat)) H0 t.heap) (gA G H0.size)) 0 0 (gA G H0.size) := by
  refine Met.ofW (cc := cX9_standingAt) (maxL := 5) (ret := (some .int)) (by decide) rfl ?_
  intro p e s m args below meth c s₁ B hml hv
  obtain ⟨rfl, hH0, hK, hE⟩ := hv
  have hx := B.exec
  have hb := B.bytes
  have hr := B.returns
  have hts := atoms_spec (ws := w_c_standingAt) B.pre
  have hown : s.vm.findClass RX9 = some m.cls := findClass_of_methodNamed B.named
  have hlocks := B.notSynchronized
  subst hH0
  generalize hAe : gA G s.heap.size = A at hE ⊢
  have hA : ∀ q : Nat, s.heap.size ≤ q → A q := fun q h => by rw [← hAe]; exact Or.inr h
  have hG := gA_of hAe
  have hS : va_S A s.heap s.heap [] := va_S.rf
  have hF : gF (dC, dI) SKc G ([] : List (Nat × Nat)) s.heap s.heap := gF.rf
  have hl := lv_entry ([.ref o0, .int p0]) (n := 5) (Nat.le_of_ble_eq_true rfl)
  rw [lg_entry_eq]
  generalize (lg_sl ([.ref o0, .int p0]) ++ List.replicate (5 - (lg_sl ([.ref o0, .int p0])).length) Slot.unset).toArray = ls at hl ⊢
  have hl : lv_has ls 5 [(0, .ref o0), (1, .int p0)] := hl
  refine lv_iconst (v := (-1)) hx hb dX9_standingAt_0 (by decide) ?_
  refine lv_istore_n (lv' := [(2, .int (-1)), (0, .ref o0), (1, .int p0)]) hx hb dX9_standingAt_1 rfl hl (by decide) rfl (fun ls hl => ?_)
  refine lv_iconst (v := (-1)) hx hb dX9_standingAt_2 (by decide) ?_
  refine lv_istore_n (lv' := [(3, .int (-1)), (2, .int (-1)), (0, .ref o0), (1, .int p0)]) hx hb dX9_standingAt_3 rfl hl (by decide) rfl (fun ls hl => ?_)
  refine lv_iconst (v := 0) hx hb dX9_standingAt_4 (by decide) ?_
  refine lv_istore (lv' := [(4, .int 0), (3, .int (-1)), (2, .int (-1)), (0, .ref o0), (1, .int p0)]) hx hb dX9_standingAt_5 hl (by decide) rfl (fun ls hl => ?_)
  have key29 : ∀ (n29 i1 : Nat), i1 + n29 = 60 → 0 ≤ i1 → ∀ (z2 : Int32), ∀ (z4 : Int32), ((-1 ≤ z2.toInt ∧ z2.toInt ≤ 2147483647) ∧ (-1 ≤ z4.toInt ∧ z4.toInt ≤ 59)) → ∀ (H : Heap) (locs : List Loc), gH (dC, dI) kA (SHc nC nS) G H → gF (dC, dI) SKc G ([] : List (Nat × Nat)) s.heap H → va_S A s.heap H locs → ∀ ls : Array Slot, lv_has ls 5 [(4, .int (nI i1)), (3, .int z2), (2, .int z4), (0, .ref o0), (1, .int p0)] → W p l e (headSpec w_c_standingAt ({ frames := 0, cells := 0, slots := 0, locals := 0 })).room s m #[.ref o0, .int p0] below meth c H locs 0 0 (MQ below (va_Qi (fun (r : Int32) (u : Unit) => (-1 ≤ r.toInt ∧ r.toInt ≤ 59)) (fun (_ : Unit) (t : State) => gH (dC, dI) kA (SHc nC nS) G t.heap ∧ gF (dC, dI) SKc G ([] : List (Nat × Nat)) s.heap t.heap) A) #[.ref o0, .int p0] s 0 0 A) (F0 m 7 ls []) := by
    intro n29
    induction n29 with
    | zero =>
      intro i1 hn29 hlo30 z2 z4 ⟨h3, h5⟩ H locs hT hF hS  ls hl
      obtain rfl : 60 = i1 := by omega
      refine lv_iload hx hb dX9_standingAt_7 (lv_at hl 0 rfl) ?_
      refine lv_aload_n hx hb dX9_standingAt_9 rfl (lv_at hl 3 rfl) ?_
      refine tw_get hx hb hts bF2_X9 hown hK hT hr_o0 shc_12 rfl 2 (by decide) (ht_at2 hts 0 rfl) (fun _ h9 => h9) dX9_standingAt_10 (fun v9 m31 h9 => ?_)
      obtain ⟨x32, rfl, gx32, kx32⟩ := h9 _ rfl
      refine lv_icmp_ge (tgt := 55) hx hb dX9_standingAt_13 (by decide) (fun c33 => ?_) (fun c33 => (by exfalso; have q9 : ((60 : Nat) : Int) < x32.toInt := ti_nle c33 rfl (nI_toInt (by omega)); omega))
      have t34 : x32.toInt ≤ ((60 : Nat) : Int) := ti_le c33 rfl (nI_toInt (by omega))
      refine lv_iload_n hx hb dX9_standingAt_55 rfl (lv_at hl 2 rfl) ?_
      exact W.iret (v := z4) hx hb hr (fun t ht hW => ⟨⟨z4, (), rfl, (by exact (by have q8 := ti_all z4; omega)), by (try dsimp only); rw [ht]; exact ⟨hT, hF⟩⟩, hS.F ht⟩) hS.2.2 dX9_standingAt_56
    | succ n29 ih29 =>
      intro i1 hn29 hlo30 z2 z4 ⟨h3, h5⟩ H locs hT hF hS  ls hl
      have hlt34 : i1 < 60 := by omega
      refine lv_iload hx hb dX9_standingAt_7 (lv_at hl 0 rfl) ?_
      refine lv_aload_n hx hb dX9_standingAt_9 rfl (lv_at hl 3 rfl) ?_
      refine tw_get hx hb hts bF2_X9 hown hK hT hr_o0 shc_12 rfl 2 (by decide) (ht_at2 hts 0 rfl) (fun _ h9 => h9) dX9_standingAt_10 (fun v9 m35 h9 => ?_)
      obtain ⟨x36, rfl, gx36, kx36⟩ := h9 _ rfl
      refine lv_icmp_ge (tgt := 55) hx hb dX9_standingAt_13 (by decide) (fun c37 => ?_) (fun c37 => ?_)
      · have t38 : x36.toInt ≤ ((i1 : Nat) : Int) := ti_le c37 rfl (nI_toInt (by omega))
        refine lv_iload_n hx hb dX9_standingAt_55 rfl (lv_at hl 2 rfl) ?_
        exact W.iret (v := z4) hx hb hr (fun t ht hW => ⟨⟨z4, (), rfl, (by exact (by have q8 := ti_all z4; omega)), by (try dsimp only); rw [ht]; exact ⟨hT, hF⟩⟩, hS.F ht⟩) hS.2.2 dX9_standingAt_56
      · have t39 : ((i1 : Nat) : Int) < x36.toInt := ti_nle c37 rfl (nI_toInt (by omega))
        refine lv_aload_n hx hb dX9_standingAt_16 rfl (lv_at hl 3 rfl) ?_
        refine tw_get hx hb hts bF2_X9 hown hK hT hr_o0 shc_12 rfl 0 (by decide) (ht_at2 hts 1 rfl) (fun _ h9 => h9) dX9_standingAt_17 (fun v9 m40 h9 => ?_)
        obtain ⟨b41, rfl, hg42⟩ := h9 _ rfl
        refine lv_iload hx hb dX9_standingAt_20 (lv_at hl 0 rfl) ?_
        refine tw_iald (i := (nI i1)) hx hb hK hT hg42 shc_23 rfl (vp_in_nI (by omega) (by decide)) dX9_standingAt_22 (fun v9 m43 h9 => ?_)
        obtain ⟨x44, rfl, gx44, kx44⟩ := h9
        refine lv_iload_n hx hb dX9_standingAt_23 rfl (lv_at hl 4 rfl) ?_
        have t45 : -2147483648 ≤ x44.toInt ∧ x44.toInt ≤ 2147483647 := ti_all x44
        have t46 : -2147483648 ≤ p0.toInt ∧ p0.toInt ≤ 2147483647 := ti_all p0
        refine lv_icmp_gt (tgt := 49) hx hb dX9_standingAt_24 (by decide) (fun c47 => ?_) (fun c47 => ?_)
        · have t48 : p0.toInt < x44.toInt := ti_lt c47 rfl rfl
          refine lv_iinc (v := nI (i1 + 1)) (lv' := [(4, .int (nI (i1 + 1))), (3, .int z2), (2, .int z4), (0, .ref o0), (1, .int p0)]) hx hb dX9_standingAt_49 hl (k := 0) rfl (nI_add i1 1) (by decide) rfl (fun ls hl => ?_)
          refine lv_goto (tgt := 7) hx hb dX9_standingAt_52 (by decide) ?_
          exact ih29 (i1 + 1) (by omega) (by omega) z2 z4 ⟨(by have q8 := ti_all z2; omega), (by have q8 := ti_all z4; omega)⟩ _ _ hT hF hS ls (lv_sub hl [0, 1, 2, 3, 4] rfl)
        · have t49 : x44.toInt ≤ p0.toInt := ti_nlt c47 rfl rfl
          refine lv_aload_n hx hb dX9_standingAt_27 rfl (lv_at hl 3 rfl) ?_
          refine tw_getM (v := .ref b41) hx hb hts bF2_X9 hown hK hT hr_o0 shc_12 rfl 0 (by decide) (ht_at2 hts 1 rfl) (fun _ h9 => h9) m40 dX9_standingAt_28 ?_
          refine lv_iload hx hb dX9_standingAt_31 (lv_at hl 0 rfl) ?_
          refine tw_iald (i := (nI i1)) hx hb hK hT hg42 shc_23 rfl (vp_in_nI (by omega) (by decide)) dX9_standingAt_33 (fun v9 m50 h9 => ?_)
          obtain ⟨x51, rfl, gx51, kx51⟩ := h9
          obtain rfl : x44 = x51 := (el_same m50 m43 rfl).symm
          refine lv_iload_n hx hb dX9_standingAt_34 rfl (lv_at hl 1 rfl) ?_
          have t52 : -2147483648 ≤ z2.toInt ∧ z2.toInt ≤ 2147483647 := ti_all z2
          refine lv_icmp_le (tgt := 49) hx hb dX9_standingAt_35 (by decide) (fun c53 => ?_) (fun c53 => ?_)
          · have t54 : x44.toInt ≤ z2.toInt := ti_le c53 rfl rfl
            refine lv_iinc (v := nI (i1 + 1)) (lv' := [(4, .int (nI (i1 + 1))), (3, .int z2), (2, .int z4), (0, .ref o0), (1, .int p0)]) hx hb dX9_standingAt_49 hl (k := 0) rfl (nI_add i1 1) (by decide) rfl (fun ls hl => ?_)
            refine lv_goto (tgt := 7) hx hb dX9_standingAt_52 (by decide) ?_
            exact ih29 (i1 + 1) (by omega) (by omega) z2 z4 ⟨(by have q8 := ti_all z2; omega), (by have q8 := ti_all z4; omega)⟩ _ _ hT hF hS ls (lv_sub hl [0, 1, 2, 3, 4] rfl)
          · have t55 : z2.toInt < x44.toInt := ti_nle c53 rfl rfl
            refine lv_aload_n hx hb dX9_standingAt_38 rfl (lv_at hl 3 rfl) ?_
            refine tw_getM (v := .ref b41) hx hb hts bF2_X9 hown hK hT hr_o0 shc_12 rfl 0 (by decide) (ht_at2 hts 1 rfl) (fun _ h9 => h9) m40 dX9_standingAt_39 ?_
            refine lv_iload hx hb dX9_standingAt_42 (lv_at hl 0 rfl) ?_
            refine tw_iald (i := (nI i1)) hx hb hK hT hg42 shc_23 rfl (vp_in_nI (by omega) (by decide)) dX9_standingAt_44 (fun v9 m56 h9 => ?_)
            obtain ⟨x57, rfl, gx57, kx57⟩ := h9
            obtain rfl : x44 = x57 := (el_same m56 m43 rfl).symm
            refine lv_istore_n (lv' := [(3, .int x44), (4, .int (nI i1)), (2, .int z4), (0, .ref o0), (1, .int p0)]) hx hb dX9_standingAt_45 rfl hl (by decide) rfl (fun ls hl => ?_)
            refine lv_iload hx hb dX9_standingAt_46 (lv_at hl 1 rfl) ?_
            refine lv_istore_n (lv' := [(2, .int (nI i1)), (3, .int x44), (4, .int (nI i1)), (0, .ref o0), (1, .int p0)]) hx hb dX9_standingAt_48 rfl hl (by decide) rfl (fun ls hl => ?_)
            refine lv_iinc (v := nI (i1 + 1)) (lv' := [(4, .int (nI (i1 + 1))), (2, .int (nI i1)), (3, .int x44), (0, .ref o0), (1, .int p0)]) hx hb dX9_standingAt_49 hl (k := 2) rfl (nI_add i1 1) (by decide) rfl (fun ls hl => ?_)
            refine lv_goto (tgt := 7) hx hb dX9_standingAt_52 (by decide) ?_
            exact ih29 (i1 + 1) (by omega) (by omega) x44 (nI i1) ⟨(by have q8 := ti_all x44; omega), (rg_t (a := ((i1 : Nat) : Int)) (nI_toInt (by omega)) (by omega) (by omega))⟩ _ _ hT hF hS ls (lv_sub hl [0, 2, 1, 3, 4] rfl)
  exact key29 (60 - 0) 0 (by omega) (Nat.le_refl _) (-1) (-1) ⟨(rg_t (a := (-1)) (by decide) (by first | decide | omega) (by first | decide | omega)), (rg_t (a := (-1)) (by decide) (by first | decide | omega) (by first | decide | omega))⟩ _ _ hT hF hS ls (lv_sub hl [0, 1, 2, 3, 4] rfl)
def w_c_nearestNumberBefore : List Cond := .code yX9_nearestNumberBefore cX9_nearestNumberBefore 5 (some .int) :: (HAppend.hAppend (α := List Cond) (β := List Cond) (γ := List Cond) [.fieldLink RX9 18 "SeaLand$Tellings" "told" "I", .fieldLink RX9 15 "SeaLand$Tellings" "numbers" "[I", .fieldLink RX9 9 "SeaLand$Tellings" "hours" "[I"] bs2)
set_option maxHeartbeats 4000000 in
set_option maxRecDepth 100000 in
theorem c_nearestNumberBefore (l : Launch) (dC : Nat → ClassId) (dI : Nat → Nat → Nat) (kA : Nat → ClassId) (adK adV : Nat → Nat) (G : gT) (H0 : Heap) (nC nS : Int) (o0 : Nat) (p0 : Int32)  (hT : gH (dC, dI) kA (SHc nC nS) G H0) (hr_o0 : G o0 = some 12) (hgC : 0 ≤ nC ∧ nC ≤ 40) (hgS : 0 ≤ nS ∧ nS ≤ 60) : Met l yX9_nearestNumberBefore w_c_nearestNumberBefore ({ frames := 0, cells := 0, slots := 0, locals := 0 }) (va_Pc [.ref o0, .int p0] (fun U => U.heap = H0 ∧ va_K (dC, dI) vwCl (tyl kA) U ∧ EVC adK adV (gA G H0.size) U U.heap)) (va_Qi (fun (r : Int32) (u : Unit) => True) (fun (_ : Unit) (t : State) => gH (dC, dI) kA (SHc nC nS) G t.heap ∧ gF (dC, dI) SKc G ([] : List (Nat × Nat)) H0 t.heap) (gA G H0.size)) 0 0 (gA G H0.size) := by
  refine Met.ofW (cc := cX9_nearestNumberBefore) (maxL := 5) (ret := (some .int)) (by decide) rfl ?_
  intro p e s m args below meth c s₁ B hml hv
  obtain ⟨rfl, hH0, hK, hE⟩ := hv
  have hx := B.exec
  have hb := B.bytes
  have hr := B.returns
  have hts := atoms_spec (ws := w_c_nearestNumberBefore) B.pre
  have hown : s.vm.findClass RX9 = some m.cls := findClass_of_methodNamed B.named
  have hlocks := B.notSynchronized
  subst hH0
  generalize hAe : gA G s.heap.size = A at hE ⊢
  have hA : ∀ q : Nat, s.heap.size ≤ q → A q := fun q h => by rw [← hAe]; exact Or.inr h
  have hG := gA_of hAe
  have hS : va_S A s.heap s.heap [] := va_S.rf
  have hF : gF (dC, dI) SKc G ([] : List (Nat × Nat)) s.heap s.heap := gF.rf
  have hl := lv_entry ([.ref o0, .int p0]) (n := 5) (Nat.le_of_ble_eq_true rfl)
  rw [lg_entry_eq]
  generalize (lg_sl ([.ref o0, .int p0]) ++ List.replicate (5 - (lg_sl ([.ref o0, .int p0])).length) Slot.unset).toArray = ls at hl ⊢
  have hl : lv_has ls 5 [(0, .ref o0), (1, .int p0)] := hl
  refine lv_iconst (v := (-1)) hx hb dX9_nearestNumberBefore_0 (by decide) ?_
  refine lv_istore_n (lv' := [(2, .int (-1)), (0, .ref o0), (1, .int p0)]) hx hb dX9_nearestNumberBefore_1 rfl hl (by decide) rfl (fun ls hl => ?_)
  refine lv_iconst (v := (-1)) hx hb dX9_nearestNumberBefore_2 (by decide) ?_
  refine lv_istore_n (lv' := [(3, .int (-1)), (2, .int (-1)), (0, .ref o0), (1, .int p0)]) hx hb dX9_nearestNumberBefore_3 rfl hl (by decide) rfl (fun ls hl => ?_)
  refine lv_iconst (v := 0) hx hb dX9_nearestNumberBefore_4 (by decide) ?_
  refine lv_istore (lv' := [(4, .int 0), (3, .int (-1)), (2, .int (-1)), (0, .ref o0), (1, .int p0)]) hx hb dX9_nearestNumberBefore_5 hl (by decide) rfl (fun ls hl => ?_)
  have key38 : ∀ (n38 i1 : Nat), i1 + n38 = 60 → 0 ≤ i1 → ∀ (z2 : Int32), ∀ (z4 : Int32), ((-1 ≤ z2.toInt ∧ z2.toInt ≤ 2147483646)) → ∀ (H : Heap) (locs : List Loc), gH (dC, dI) kA (SHc nC nS) G H → gF (dC, dI) SKc G ([] : List (Nat × Nat)) s.heap H → va_S A s.heap H locs → ∀ ls : Array Slot, lv_has ls 5 [(4, .int (nI i1)), (3, .int z2), (2, .int z4), (0, .ref o0), (1, .int p0)] → W p l e (headSpec w_c_nearestNumberBefore ({ frames := 0, cells := 0, slots := 0, locals := 0 })).room s m #[.ref o0, .int p0] below meth c H locs 0 0 (MQ below (va_Qi (fun (r : Int32) (u : Unit) => True) (fun (_ : Unit) (t : State) => gH (dC, dI) kA (SHc nC nS) G t.heap ∧ gF (dC, dI) SKc G ([] : List (Nat × Nat)) s.heap t.heap) A) #[.ref o0, .int p0] s 0 0 A) (F0 m 7 ls []) := by
    intro n38
    induction n38 with
    | zero =>
      intro i1 hn38 hlo39 z2 z4 h3 H locs hT hF hS  ls hl
      obtain rfl : 60 = i1 := by omega
      refine lv_iload hx hb dX9_nearestNumberBefore_7 (lv_at hl 0 rfl) ?_
      refine lv_aload_n hx hb dX9_nearestNumberBefore_9 rfl (lv_at hl 3 rfl) ?_
      refine tw_get hx hb hts bF2_X9 hown hK hT hr_o0 shc_12 rfl 2 (by decide) (ht_at2 hts 0 rfl) (fun _ h9 => h9) dX9_nearestNumberBefore_10 (fun v9 m40 h9 => ?_)
      obtain ⟨x41, rfl, gx41, kx41⟩ := h9 _ rfl
      refine lv_icmp_ge (tgt := 71) hx hb dX9_nearestNumberBefore_13 (by decide) (fun c42 => ?_) (fun c42 => (by exfalso; have q9 : ((60 : Nat) : Int) < x41.toInt := ti_nle c42 rfl (nI_toInt (by omega)); omega))
      have t43 : x41.toInt ≤ ((60 : Nat) : Int) := ti_le c42 rfl (nI_toInt (by omega))
      refine lv_iload_n hx hb dX9_nearestNumberBefore_71 rfl (lv_at hl 2 rfl) ?_
      exact W.iret (v := z4) hx hb hr (fun t ht hW => ⟨⟨z4, (), rfl, (by exact trivial), by (try dsimp only); rw [ht]; exact ⟨hT, hF⟩⟩, hS.F ht⟩) hS.2.2 dX9_nearestNumberBefore_72
    | succ n38 ih38 =>
      intro i1 hn38 hlo39 z2 z4 h3 H locs hT hF hS  ls hl
      have hlt43 : i1 < 60 := by omega
      refine lv_iload hx hb dX9_nearestNumberBefore_7 (lv_at hl 0 rfl) ?_
      refine lv_aload_n hx hb dX9_nearestNumberBefore_9 rfl (lv_at hl 3 rfl) ?_
      refine tw_get hx hb hts bF2_X9 hown hK hT hr_o0 shc_12 rfl 2 (by decide) (ht_at2 hts 0 rfl) (fun _ h9 => h9) dX9_nearestNumberBefore_10 (fun v9 m44 h9 => ?_)
      obtain ⟨x45, rfl, gx45, kx45⟩ := h9 _ rfl
      refine lv_icmp_ge (tgt := 71) hx hb dX9_nearestNumberBefore_13 (by decide) (fun c46 => ?_) (fun c46 => ?_)
      · have t47 : x45.toInt ≤ ((i1 : Nat) : Int) := ti_le c46 rfl (nI_toInt (by omega))
        refine lv_iload_n hx hb dX9_nearestNumberBefore_71 rfl (lv_at hl 2 rfl) ?_
        exact W.iret (v := z4) hx hb hr (fun t ht hW => ⟨⟨z4, (), rfl, (by exact trivial), by (try dsimp only); rw [ht]; exact ⟨hT, hF⟩⟩, hS.F ht⟩) hS.2.2 dX9_nearestNumberBefore_72
      · have t48 : ((i1 : Nat) : Int) < x45.toInt := ti_nle c46 rfl (nI_toInt (by omega))
        refine lv_aload_n hx hb dX9_nearestNumberBefore_16 rfl (lv_at hl 3 rfl) ?_
        refine tw_get hx hb hts bF2_X9 hown hK hT hr_o0 shc_12 rfl 1 (by decide) (ht_at2 hts 1 rfl) (fun _ h9 => h9) dX9_nearestNumberBefore_17 (fun v9 m49 h9 => ?_)
        obtain ⟨b50, rfl, hg51⟩ := h9 _ rfl
        refine lv_iload hx hb dX9_nearestNumberBefore_20 (lv_at hl 0 rfl) ?_
        refine tw_iald (i := (nI i1)) hx hb hK hT hg51 shc_24 rfl (vp_in_nI (by omega) (by decide)) dX9_nearestNumberBefore_22 (fun v9 m52 h9 => ?_)
        obtain ⟨x53, rfl, gx53, kx53⟩ := h9
        refine lv_iconst (v := (-1)) hx hb dX9_nearestNumberBefore_23 (by decide) ?_
        have t54 : -2147483648 ≤ x53.toInt ∧ x53.toInt ≤ 2147483647 := ti_all x53
        refine lv_icmp_eq (tgt := 65) hx hb dX9_nearestNumberBefore_24 (by decide) (fun c55 => ?_) (fun c55 => ?_)
        · have t56 : x53.toInt = (-1) := ti_eq c55 rfl (by decide)
          refine lv_iinc (v := nI (i1 + 1)) (lv' := [(4, .int (nI (i1 + 1))), (3, .int z2), (2, .int z4), (0, .ref o0), (1, .int p0)]) hx hb dX9_nearestNumberBefore_65 hl (k := 0) rfl (nI_add i1 1) (by decide) rfl (fun ls hl => ?_)
          refine lv_goto (tgt := 7) hx hb dX9_nearestNumberBefore_68 (by decide) ?_
          exact ih38 (i1 + 1) (by omega) (by omega) z2 z4 (by have q8 := ti_all z2; omega) _ _ hT hF hS ls (lv_sub hl [0, 1, 2, 3, 4] rfl)
        · have t57 : x53.toInt ≠ (-1) := ti_ne c55 rfl (by decide)
          refine lv_aload_n hx hb dX9_nearestNumberBefore_27 rfl (lv_at hl 3 rfl) ?_
          refine tw_get hx hb hts bF2_X9 hown hK hT hr_o0 shc_12 rfl 0 (by decide) (ht_at2 hts 2 rfl) (fun _ h9 => h9) dX9_nearestNumberBefore_28 (fun v9 m58 h9 => ?_)
          obtain ⟨b59, rfl, hg60⟩ := h9 _ rfl
          refine lv_iload hx hb dX9_nearestNumberBefore_31 (lv_at hl 0 rfl) ?_
          refine tw_iald (i := (nI i1)) hx hb hK hT hg60 shc_23 rfl (vp_in_nI (by omega) (by decide)) dX9_nearestNumberBefore_33 (fun v9 m61 h9 => ?_)
          obtain ⟨x62, rfl, gx62, kx62⟩ := h9
          refine lv_iload_n hx hb dX9_nearestNumberBefore_34 rfl (lv_at hl 4 rfl) ?_
          have t63 : -2147483648 ≤ x62.toInt ∧ x62.toInt ≤ 2147483647 := ti_all x62
          have t64 : -2147483648 ≤ p0.toInt ∧ p0.toInt ≤ 2147483647 := ti_all p0
          refine lv_icmp_ge (tgt := 65) hx hb dX9_nearestNumberBefore_35 (by decide) (fun c65 => ?_) (fun c65 => ?_)
          · have t66 : p0.toInt ≤ x62.toInt := ti_le c65 rfl rfl
            refine lv_iinc (v := nI (i1 + 1)) (lv' := [(4, .int (nI (i1 + 1))), (3, .int z2), (2, .int z4), (0, .ref o0), (1, .int p0)]) hx hb dX9_nearestNumberBefore_65 hl (k := 0) rfl (nI_add i1 1) (by decide) rfl (fun ls hl => ?_)
            refine lv_goto (tgt := 7) hx hb dX9_nearestNumberBefore_68 (by decide) ?_
            exact ih38 (i1 + 1) (by omega) (by omega) z2 z4 (by have q8 := ti_all z2; omega) _ _ hT hF hS ls (lv_sub hl [0, 1, 2, 3, 4] rfl)
          · have t67 : x62.toInt < p0.toInt := ti_nle c65 rfl rfl
            refine lv_aload_n hx hb dX9_nearestNumberBefore_38 rfl (lv_at hl 3 rfl) ?_
            refine tw_getM (v := .ref b59) hx hb hts bF2_X9 hown hK hT hr_o0 shc_12 rfl 0 (by decide) (ht_at2 hts 2 rfl) (fun _ h9 => h9) m58 dX9_nearestNumberBefore_39 ?_
            refine lv_iload hx hb dX9_nearestNumberBefore_42 (lv_at hl 0 rfl) ?_
            refine tw_iald (i := (nI i1)) hx hb hK hT hg60 shc_23 rfl (vp_in_nI (by omega) (by decide)) dX9_nearestNumberBefore_44 (fun v9 m68 h9 => ?_)
            obtain ⟨x69, rfl, gx69, kx69⟩ := h9
            obtain rfl : x62 = x69 := (el_same m68 m61 rfl).symm
            refine lv_iload_n hx hb dX9_nearestNumberBefore_45 rfl (lv_at hl 1 rfl) ?_
            refine lv_icmp_le (tgt := 65) hx hb dX9_nearestNumberBefore_46 (by decide) (fun c70 => ?_) (fun c70 => ?_)
            · have t71 : x62.toInt ≤ z2.toInt := ti_le c70 rfl rfl
              refine lv_iinc (v := nI (i1 + 1)) (lv' := [(4, .int (nI (i1 + 1))), (3, .int z2), (2, .int z4), (0, .ref o0), (1, .int p0)]) hx hb dX9_nearestNumberBefore_65 hl (k := 0) rfl (nI_add i1 1) (by decide) rfl (fun ls hl => ?_)
              refine lv_goto (tgt := 7) hx hb dX9_nearestNumberBefore_68 (by decide) ?_
              exact ih38 (i1 + 1) (by omega) (by omega) z2 z4 (by have q8 := ti_all z2; omega) _ _ hT hF hS ls (lv_sub hl [0, 1, 2, 3, 4] rfl)
            · have t72 : z2.toInt < x62.toInt := ti_nle c70 rfl rfl
              refine lv_aload_n hx hb dX9_nearestNumberBefore_49 rfl (lv_at hl 3 rfl) ?_
              refine tw_getM (v := .ref b59) hx hb hts bF2_X9 hown hK hT hr_o0 shc_12 rfl 0 (by decide) (ht_at2 hts 2 rfl) (fun _ h9 => h9) m58 dX9_nearestNumberBefore_50 ?_
              refine lv_iload hx hb dX9_nearestNumberBefore_53 (lv_at hl 0 rfl) ?_
              refine tw_iald (i := (nI i1)) hx hb hK hT hg60 shc_23 rfl (vp_in_nI (by omega) (by decide)) dX9_nearestNumberBefore_55 (fun v9 m73 h9 => ?_)
              obtain ⟨x74, rfl, gx74, kx74⟩ := h9
              obtain rfl : x62 = x74 := (el_same m73 m61 rfl).symm
              refine lv_istore_n (lv' := [(3, .int x62), (4, .int (nI i1)), (2, .int z4), (0, .ref o0), (1, .int p0)]) hx hb dX9_nearestNumberBefore_56 rfl hl (by decide) rfl (fun ls hl => ?_)
              refine lv_aload_n hx hb dX9_nearestNumberBefore_57 rfl (lv_at hl 3 rfl) ?_
              refine tw_getM (v := .ref b50) hx hb hts bF2_X9 hown hK hT hr_o0 shc_12 rfl 1 (by decide) (ht_at2 hts 1 rfl) (fun _ h9 => h9) m49 dX9_nearestNumberBefore_58 ?_
              refine lv_iload hx hb dX9_nearestNumberBefore_61 (lv_at hl 1 rfl) ?_
              refine tw_iald (i := (nI i1)) hx hb hK hT hg51 shc_24 rfl (vp_in_nI (by omega) (by decide)) dX9_nearestNumberBefore_63 (fun v9 m75 h9 => ?_)
              obtain ⟨x76, rfl, gx76, kx76⟩ := h9
              obtain rfl : x53 = x76 := (el_same m75 m52 rfl).symm
              refine lv_istore_n (lv' := [(2, .int x53), (3, .int x62), (4, .int (nI i1)), (0, .ref o0), (1, .int p0)]) hx hb dX9_nearestNumberBefore_64 rfl hl (by decide) rfl (fun ls hl => ?_)
              refine lv_iinc (v := nI (i1 + 1)) (lv' := [(4, .int (nI (i1 + 1))), (2, .int x53), (3, .int x62), (0, .ref o0), (1, .int p0)]) hx hb dX9_nearestNumberBefore_65 hl (k := 2) rfl (nI_add i1 1) (by decide) rfl (fun ls hl => ?_)
              refine lv_goto (tgt := 7) hx hb dX9_nearestNumberBefore_68 (by decide) ?_
              exact ih38 (i1 + 1) (by omega) (by omega) x62 x53 (by have q8 := ti_all x62; omega) _ _ hT hF hS ls (lv_sub hl [0, 2, 1, 3, 4] rfl)
  exact key38 (60 - 0) 0 (by omega) (Nat.le_refl _) (-1) (-1) (rg_t (a := (-1)) (by decide) (by first | decide | omega) (by first | decide | omega)) _ _ hT hF hS ls (lv_sub hl [0, 1, 2, 3, 4] rfl)
def w_c_nearestNumberAfter : List Cond := .code yX9_nearestNumberAfter cX9_nearestNumberAfter 5 (some .int) :: (HAppend.hAppend (α := List Cond) (β := List Cond) (γ := List Cond) [.constant RX9 22 40001, .fieldLink RX9 18 "SeaLand$Tellings" "told" "I", .fieldLink RX9 15 "SeaLand$Tellings" "numbers" "[I", .fieldLink RX9 9 "SeaLand$Tellings" "hours" "[I"] bs2)
set_option maxHeartbeats 4000000 in
set_option maxRecDepth 100000 in
theorem c_nearestNumberAfter (l : Launch) (dC : Nat → ClassId) (dI : Nat → Nat → Nat) (kA : Nat → ClassId) (adK adV : Nat → Nat) (G : gT) (H0 : Heap) (nC nS : Int) (o0 : Nat) (p0 : Int32)  (hT : gH (dC, dI) kA (SHc nC nS) G H0) (hr_o0 : G o0 = some 12) (hgC : 0 ≤ nC ∧ nC ≤ 40) (hgS : 0 ≤ nS ∧ nS ≤ 60) : Met l yX9_nearestNumberAfter w_c_nearestNumberAfter ({ frames := 0, cells := 0, slots := 0, locals := 0 }) (va_Pc [.ref o0, .int p0] (fun U => U.heap = H0 ∧ va_K (dC, dI) vwCl (tyl kA) U ∧ EVC adK adV (gA G H0.size) U U.heap)) (va_Qi (fun (r : Int32) (u : Unit) => True) (fun (_ : Unit) (t : State) => gH (dC, dI) kA (SHc nC nS) G t.heap ∧ gF (dC, dI) SKc G ([] : List (Nat × Nat)) H0 t.heap) (gA G H0.size)) 0 0 (gA G H0.size) := by
  refine Met.ofW (cc := cX9_nearestNumberAfter) (maxL := 5) (ret := (some .int)) (by decide) rfl ?_
  intro p e s m args below meth c s₁ B hml hv
  obtain ⟨rfl, hH0, hK, hE⟩ := hv
  have hx := B.exec
  have hb := B.bytes
  have hr := B.returns
  have hts := atoms_spec (ws := w_c_nearestNumberAfter) B.pre
  have hown : s.vm.findClass RX9 = some m.cls := findClass_of_methodNamed B.named
  have hlocks := B.notSynchronized
  subst hH0
  generalize hAe : gA G s.heap.size = A at hE ⊢
  have hA : ∀ q : Nat, s.heap.size ≤ q → A q := fun q h => by rw [← hAe]; exact Or.inr h
  have hG := gA_of hAe
  have hS : va_S A s.heap s.heap [] := va_S.rf
  have hF : gF (dC, dI) SKc G ([] : List (Nat × Nat)) s.heap s.heap := gF.rf
  have hl := lv_entry ([.ref o0, .int p0]) (n := 5) (Nat.le_of_ble_eq_true rfl)
  rw [lg_entry_eq]
  generalize (lg_sl ([.ref o0, .int p0]) ++ List.replicate (5 - (lg_sl ([.ref o0, .int p0])).length) Slot.unset).toArray = ls at hl ⊢
  have hl : lv_has ls 5 [(0, .ref o0), (1, .int p0)] := hl
  refine lv_iconst (v := (-1)) hx hb dX9_nearestNumberAfter_0 (by decide) ?_
  refine lv_istore_n (lv' := [(2, .int (-1)), (0, .ref o0), (1, .int p0)]) hx hb dX9_nearestNumberAfter_1 rfl hl (by decide) rfl (fun ls hl => ?_)
  refine lv_ldc (v := 40001) hx hb hown (ht_at2 hts 0 rfl) dX9_nearestNumberAfter_2 ?_
  refine lv_istore_n (lv' := [(3, .int 40001), (2, .int (-1)), (0, .ref o0), (1, .int p0)]) hx hb dX9_nearestNumberAfter_4 rfl hl (by decide) rfl (fun ls hl => ?_)
  refine lv_iconst (v := 0) hx hb dX9_nearestNumberAfter_5 (by decide) ?_
  refine lv_istore (lv' := [(4, .int 0), (3, .int 40001), (2, .int (-1)), (0, .ref o0), (1, .int p0)]) hx hb dX9_nearestNumberAfter_6 hl (by decide) rfl (fun ls hl => ?_)
  have key38 : ∀ (n38 i1 : Nat), i1 + n38 = 60 → 0 ≤ i1 → ∀ (z2 : Int32), ∀ (z4 : Int32), ((-2147483647 ≤ z2.toInt ∧ z2.toInt ≤ 40001)) → ∀ (H : Heap) (locs : List Loc), gH (dC, dI) kA (SHc nC nS) G H → gF (dC, dI) SKc G ([] : List (Nat × Nat)) s.heap H → va_S A s.heap H locs → ∀ ls : Array Slot, lv_has ls 5 [(4, .int (nI i1)), (3, .int z2), (2, .int z4), (0, .ref o0), (1, .int p0)] → W p l e (headSpec w_c_nearestNumberAfter ({ frames := 0, cells := 0, slots := 0, locals := 0 })).room s m #[.ref o0, .int p0] below meth c H locs 0 0 (MQ below (va_Qi (fun (r : Int32) (u : Unit) => True) (fun (_ : Unit) (t : State) => gH (dC, dI) kA (SHc nC nS) G t.heap ∧ gF (dC, dI) SKc G ([] : List (Nat × Nat)) s.heap t.heap) A) #[.ref o0, .int p0] s 0 0 A) (F0 m 8 ls []) := by
    intro n38
    induction n38 with
    | zero =>
      intro i1 hn38 hlo39 z2 z4 h3 H locs hT hF hS  ls hl
      obtain rfl : 60 = i1 := by omega
      refine lv_iload hx hb dX9_nearestNumberAfter_8 (lv_at hl 0 rfl) ?_
      refine lv_aload_n hx hb dX9_nearestNumberAfter_10 rfl (lv_at hl 3 rfl) ?_
      refine tw_get hx hb hts bF2_X9 hown hK hT hr_o0 shc_12 rfl 2 (by decide) (ht_at2 hts 1 rfl) (fun _ h9 => h9) dX9_nearestNumberAfter_11 (fun v9 m40 h9 => ?_)
      obtain ⟨x41, rfl, gx41, kx41⟩ := h9 _ rfl
      refine lv_icmp_ge (tgt := 72) hx hb dX9_nearestNumberAfter_14 (by decide) (fun c42 => ?_) (fun c42 => (by exfalso; have q9 : ((60 : Nat) : Int) < x41.toInt := ti_nle c42 rfl (nI_toInt (by omega)); omega))
      have t43 : x41.toInt ≤ ((60 : Nat) : Int) := ti_le c42 rfl (nI_toInt (by omega))
      refine lv_iload_n hx hb dX9_nearestNumberAfter_72 rfl (lv_at hl 2 rfl) ?_
      exact W.iret (v := z4) hx hb hr (fun t ht hW => ⟨⟨z4, (), rfl, (by exact trivial), by (try dsimp only); rw [ht]; exact ⟨hT, hF⟩⟩, hS.F ht⟩) hS.2.2 dX9_nearestNumberAfter_73
    | succ n38 ih38 =>
      intro i1 hn38 hlo39 z2 z4 h3 H locs hT hF hS  ls hl
      have hlt43 : i1 < 60 := by omega
      refine lv_iload hx hb dX9_nearestNumberAfter_8 (lv_at hl 0 rfl) ?_
      refine lv_aload_n hx hb dX9_nearestNumberAfter_10 rfl (lv_at hl 3 rfl) ?_
      refine tw_get hx hb hts bF2_X9 hown hK hT hr_o0 shc_12 rfl 2 (by decide) (ht_at2 hts 1 rfl) (fun _ h9 => h9) dX9_nearestNumberAfter_11 (fun v9 m44 h9 => ?_)
      obtain ⟨x45, rfl, gx45, kx45⟩ := h9 _ rfl
      refine lv_icmp_ge (tgt := 72) hx hb dX9_nearestNumberAfter_14 (by decide) (fun c46 => ?_) (fun c46 => ?_)
      · have t47 : x45.toInt ≤ ((i1 : Nat) : Int) := ti_le c46 rfl (nI_toInt (by omega))
        refine lv_iload_n hx hb dX9_nearestNumberAfter_72 rfl (lv_at hl 2 rfl) ?_
        exact W.iret (v := z4) hx hb hr (fun t ht hW => ⟨⟨z4, (), rfl, (by exact trivial), by (try dsimp only); rw [ht]; exact ⟨hT, hF⟩⟩, hS.F ht⟩) hS.2.2 dX9_nearestNumberAfter_73
      · have t48 : ((i1 : Nat) : Int) < x45.toInt := ti_nle c46 rfl (nI_toInt (by omega))
        refine lv_aload_n hx hb dX9_nearestNumberAfter_17 rfl (lv_at hl 3 rfl) ?_
        refine tw_get hx hb hts bF2_X9 hown hK hT hr_o0 shc_12 rfl 1 (by decide) (ht_at2 hts 2 rfl) (fun _ h9 => h9) dX9_nearestNumberAfter_18 (fun v9 m49 h9 => ?_)
        obtain ⟨b50, rfl, hg51⟩ := h9 _ rfl
        refine lv_iload hx hb dX9_nearestNumberAfter_21 (lv_at hl 0 rfl) ?_
        refine tw_iald (i := (nI i1)) hx hb hK hT hg51 shc_24 rfl (vp_in_nI (by omega) (by decide)) dX9_nearestNumberAfter_23 (fun v9 m52 h9 => ?_)
        obtain ⟨x53, rfl, gx53, kx53⟩ := h9
        refine lv_iconst (v := (-1)) hx hb dX9_nearestNumberAfter_24 (by decide) ?_
        have t54 : -2147483648 ≤ x53.toInt ∧ x53.toInt ≤ 2147483647 := ti_all x53
        refine lv_icmp_eq (tgt := 66) hx hb dX9_nearestNumberAfter_25 (by decide) (fun c55 => ?_) (fun c55 => ?_)
        · have t56 : x53.toInt = (-1) := ti_eq c55 rfl (by decide)
          refine lv_iinc (v := nI (i1 + 1)) (lv' := [(4, .int (nI (i1 + 1))), (3, .int z2), (2, .int z4), (0, .ref o0), (1, .int p0)]) hx hb dX9_nearestNumberAfter_66 hl (k := 0) rfl (nI_add i1 1) (by decide) rfl (fun ls hl => ?_)
          refine lv_goto (tgt := 8) hx hb dX9_nearestNumberAfter_69 (by decide) ?_
          exact ih38 (i1 + 1) (by omega) (by omega) z2 z4 (by have q8 := ti_all z2; omega) _ _ hT hF hS ls (lv_sub hl [0, 1, 2, 3, 4] rfl)
        · have t57 : x53.toInt ≠ (-1) := ti_ne c55 rfl (by decide)
          refine lv_aload_n hx hb dX9_nearestNumberAfter_28 rfl (lv_at hl 3 rfl) ?_
          refine tw_get hx hb hts bF2_X9 hown hK hT hr_o0 shc_12 rfl 0 (by decide) (ht_at2 hts 3 rfl) (fun _ h9 => h9) dX9_nearestNumberAfter_29 (fun v9 m58 h9 => ?_)
          obtain ⟨b59, rfl, hg60⟩ := h9 _ rfl
          refine lv_iload hx hb dX9_nearestNumberAfter_32 (lv_at hl 0 rfl) ?_
          refine tw_iald (i := (nI i1)) hx hb hK hT hg60 shc_23 rfl (vp_in_nI (by omega) (by decide)) dX9_nearestNumberAfter_34 (fun v9 m61 h9 => ?_)
          obtain ⟨x62, rfl, gx62, kx62⟩ := h9
          refine lv_iload_n hx hb dX9_nearestNumberAfter_35 rfl (lv_at hl 4 rfl) ?_
          have t63 : -2147483648 ≤ x62.toInt ∧ x62.toInt ≤ 2147483647 := ti_all x62
          have t64 : -2147483648 ≤ p0.toInt ∧ p0.toInt ≤ 2147483647 := ti_all p0
          refine lv_icmp_le (tgt := 66) hx hb dX9_nearestNumberAfter_36 (by decide) (fun c65 => ?_) (fun c65 => ?_)
          · have t66 : x62.toInt ≤ p0.toInt := ti_le c65 rfl rfl
            refine lv_iinc (v := nI (i1 + 1)) (lv' := [(4, .int (nI (i1 + 1))), (3, .int z2), (2, .int z4), (0, .ref o0), (1, .int p0)]) hx hb dX9_nearestNumberAfter_66 hl (k := 0) rfl (nI_add i1 1) (by decide) rfl (fun ls hl => ?_)
            refine lv_goto (tgt := 8) hx hb dX9_nearestNumberAfter_69 (by decide) ?_
            exact ih38 (i1 + 1) (by omega) (by omega) z2 z4 (by have q8 := ti_all z2; omega) _ _ hT hF hS ls (lv_sub hl [0, 1, 2, 3, 4] rfl)
          · have t67 : p0.toInt < x62.toInt := ti_nle c65 rfl rfl
            refine lv_aload_n hx hb dX9_nearestNumberAfter_39 rfl (lv_at hl 3 rfl) ?_
            refine tw_getM (v := .ref b59) hx hb hts bF2_X9 hown hK hT hr_o0 shc_12 rfl 0 (by decide) (ht_at2 hts 3 rfl) (fun _ h9 => h9) m58 dX9_nearestNumberAfter_40 ?_
            refine lv_iload hx hb dX9_nearestNumberAfter_43 (lv_at hl 0 rfl) ?_
            refine tw_iald (i := (nI i1)) hx hb hK hT hg60 shc_23 rfl (vp_in_nI (by omega) (by decide)) dX9_nearestNumberAfter_45 (fun v9 m68 h9 => ?_)
            obtain ⟨x69, rfl, gx69, kx69⟩ := h9
            obtain rfl : x62 = x69 := (el_same m68 m61 rfl).symm
            refine lv_iload_n hx hb dX9_nearestNumberAfter_46 rfl (lv_at hl 1 rfl) ?_
            refine lv_icmp_ge (tgt := 66) hx hb dX9_nearestNumberAfter_47 (by decide) (fun c70 => ?_) (fun c70 => ?_)
            · have t71 : z2.toInt ≤ x62.toInt := ti_le c70 rfl rfl
              refine lv_iinc (v := nI (i1 + 1)) (lv' := [(4, .int (nI (i1 + 1))), (3, .int z2), (2, .int z4), (0, .ref o0), (1, .int p0)]) hx hb dX9_nearestNumberAfter_66 hl (k := 0) rfl (nI_add i1 1) (by decide) rfl (fun ls hl => ?_)
              refine lv_goto (tgt := 8) hx hb dX9_nearestNumberAfter_69 (by decide) ?_
              exact ih38 (i1 + 1) (by omega) (by omega) z2 z4 (by have q8 := ti_all z2; omega) _ _ hT hF hS ls (lv_sub hl [0, 1, 2, 3, 4] rfl)
            · have t72 : x62.toInt < z2.toInt := ti_nle c70 rfl rfl
              refine lv_aload_n hx hb dX9_nearestNumberAfter_50 rfl (lv_at hl 3 rfl) ?_
              refine tw_getM (v := .ref b59) hx hb hts bF2_X9 hown hK hT hr_o0 shc_12 rfl 0 (by decide) (ht_at2 hts 3 rfl) (fun _ h9 => h9) m58 dX9_nearestNumberAfter_51 ?_
              refine lv_iload hx hb dX9_nearestNumberAfter_54 (lv_at hl 0 rfl) ?_
              refine tw_iald (i := (nI i1)) hx hb hK hT hg60 shc_23 rfl (vp_in_nI (by omega) (by decide)) dX9_nearestNumberAfter_56 (fun v9 m73 h9 => ?_)
              obtain ⟨x74, rfl, gx74, kx74⟩ := h9
              obtain rfl : x62 = x74 := (el_same m73 m61 rfl).symm
              refine lv_istore_n (lv' := [(3, .int x62), (4, .int (nI i1)), (2, .int z4), (0, .ref o0), (1, .int p0)]) hx hb dX9_nearestNumberAfter_57 rfl hl (by decide) rfl (fun ls hl => ?_)
              refine lv_aload_n hx hb dX9_nearestNumberAfter_58 rfl (lv_at hl 3 rfl) ?_
              refine tw_getM (v := .ref b50) hx hb hts bF2_X9 hown hK hT hr_o0 shc_12 rfl 1 (by decide) (ht_at2 hts 2 rfl) (fun _ h9 => h9) m49 dX9_nearestNumberAfter_59 ?_
              refine lv_iload hx hb dX9_nearestNumberAfter_62 (lv_at hl 1 rfl) ?_
              refine tw_iald (i := (nI i1)) hx hb hK hT hg51 shc_24 rfl (vp_in_nI (by omega) (by decide)) dX9_nearestNumberAfter_64 (fun v9 m75 h9 => ?_)
              obtain ⟨x76, rfl, gx76, kx76⟩ := h9
              obtain rfl : x53 = x76 := (el_same m75 m52 rfl).symm
              refine lv_istore_n (lv' := [(2, .int x53), (3, .int x62), (4, .int (nI i1)), (0, .ref o0), (1, .int p0)]) hx hb dX9_nearestNumberAfter_65 rfl hl (by decide) rfl (fun ls hl => ?_)
              refine lv_iinc (v := nI (i1 + 1)) (lv' := [(4, .int (nI (i1 + 1))), (2, .int x53), (3, .int x62), (0, .ref o0), (1, .int p0)]) hx hb dX9_nearestNumberAfter_66 hl (k := 2) rfl (nI_add i1 1) (by decide) rfl (fun ls hl => ?_)
              refine lv_goto (tgt := 8) hx hb dX9_nearestNumberAfter_69 (by decide) ?_
              exact ih38 (i1 + 1) (by omega) (by omega) x62 x53 (by have q8 := ti_all x62; omega) _ _ hT hF hS ls (lv_sub hl [0, 2, 1, 3, 4] rfl)
  exact key38 (60 - 0) 0 (by omega) (Nat.le_refl _) 40001 (-1) (rg_t (a := 40001) (by decide) (by first | decide | omega) (by first | decide | omega)) _ _ hT hF hS ls (lv_sub hl [0, 1, 2, 3, 4] rfl)
def w_c_copyT_i : List Cond := .code yX9_copyFrom cX9_copyFrom 2 none :: (HAppend.hAppend (α := List Cond) (β := List Cond) (γ := List Cond) [.fieldLink RX9 9 "SeaLand$Tellings" "hours" "[I", .methodLink RX9 23 arraycopyName, .native arraycopyName, .static arraycopyName, .initialized "java/lang/System", .fieldLink RX9 15 "SeaLand$Tellings" "numbers" "[I", .fieldLink RX9 18 "SeaLand$Tellings" "told" "I"] bs2)
set_option maxHeartbeats 4000000 in
set_option maxRecDepth 100000 in
theorem c_copyT_i (l : Launch) (dC : Nat → ClassId) (dI : Nat → Nat → Nat) (kA : Nat → ClassId) (adK adV : Nat → Nat) (G : gT) (H0 : Heap) (nC nS : Int) (o0 : Nat) (p0 : Nat)  (hT : gH (dC, dI) kA (SHc nC nS) G H0) (hr_o0 : G o0 = some 92) (hr_p0 : G p0 = some 12) (hgC : 0 ≤ nC ∧ nC ≤ 40) (hgS : 0 ≤ nS ∧ nS ≤ 60) : Met l yX9_copyFrom w_c_copyT_i ({ frames := 2, cells := 0, slots := 0, locals := 60 }) (va_Pc [.ref o0, .ref p0] (fun U => U.heap = H0 ∧ va_K (dC, dI) vwCl (tyl kA) U ∧ EVC adK adV (gA G H0.size) U U.heap)) (va_Qv (fun (u : Unit) => True) (fun (_ : Unit) (t : State) => gH (dC, dI) kA (SHc nC nS) G t.heap ∧ gF (dC, dI) SKc G ([(75, 0), (76, 0), (92, 2)] : List (Nat × Nat)) H0 t.heap) (gA G H0.size)) 0 0 (gA G H0.size) := by
  refine Met.ofW (cc := cX9_copyFrom) (maxL := 2) (ret := none) (by decide) rfl ?_
  intro p e s m args below meth c s₁ B hml hv
  obtain ⟨rfl, hH0, hK, hE⟩ := hv
  have hx := B.exec
  have hb := B.bytes
  have hr := B.returns
  have hts := atoms_spec (ws := w_c_copyT_i) B.pre
  have hown : s.vm.findClass RX9 = some m.cls := findClass_of_methodNamed B.named
  have hlocks := B.notSynchronized
  subst hH0
  generalize hAe : gA G s.heap.size = A at hE ⊢
  have hA : ∀ q : Nat, s.heap.size ≤ q → A q := fun q h => by rw [← hAe]; exact Or.inr h
  have hG := gA_of hAe
  have hS : va_S A s.heap s.heap [] := va_S.rf
  have hF : gF (dC, dI) SKc G ([(75, 0), (76, 0), (92, 2)] : List (Nat × Nat)) s.heap s.heap := gF.rf
  have hl := lv_entry ([.ref o0, .ref p0]) (n := 2) (Nat.le_of_ble_eq_true rfl)
  rw [lg_entry_eq]
  generalize (lg_sl ([.ref o0, .ref p0]) ++ List.replicate (2 - (lg_sl ([.ref o0, .ref p0])).length) Slot.unset).toArray = ls at hl ⊢
  have hl : lv_has ls 2 [(0, .ref o0), (1, .ref p0)] := hl
  refine lv_aload_n hx hb dX9_copyFrom_0 rfl (lv_at hl 1 rfl) ?_
  refine tw_get hx hb hts bF2_X9 hown hK hT hr_p0 shc_12 rfl 0 (by decide) (ht_at2 hts 0 rfl) (fun _ h9 => h9) dX9_copyFrom_1 (fun v9 m1 h9 => ?_)
  obtain ⟨b2, rfl, hg3⟩ := h9 _ rfl
  refine lv_iconst (v := 0) hx hb dX9_copyFrom_4 (by decide) ?_
  refine lv_aload_n hx hb dX9_copyFrom_5 rfl (lv_at hl 0 rfl) ?_
  refine tw_get hx hb hts bF2_X9 hown hK hT hr_o0 shc_92 rfl 0 (by decide) (ht_at2 hts 0 rfl) (fun _ h9 => h9) dX9_copyFrom_6 (fun v9 m4 h9 => ?_)
  obtain ⟨b5, rfl, hg6⟩ := h9 _ rfl
  refine lv_iconst (v := 0) hx hb dX9_copyFrom_9 (by decide) ?_
  refine lv_bipush (v := 60) hx hb dX9_copyFrom_10 (by decide) ?_
  refine tw_copy (ty := .int) hx hb (hml.trans hl.1.symm) hown (ht_at2 hts 1 rfl) (ht_at2 hts 2 rfl) (ht_at2 hts 3 rfl) (ht_at2 hts 4 rfl) hK hT hG hS hg3 hg6 shc_23 shc_75 rfl rfl (by decide) (by decide) (by decide) (by decide) (by decide) (fun _ _ h9 => by obtain ⟨x9, e9, _⟩ := h9; exact ⟨x9, e9, rfl⟩) (fun _ _ _ h9 => h9) (Nat.le_of_ble_eq_true rfl) (Nat.le_of_ble_eq_true rfl) dX9_copyFrom_12 (fun H locs hT oq hS => ?_)
  have hF := hF.ast hg6 skc_75 oq (by decide)
  refine lv_aload_n hx hb dX9_copyFrom_15 rfl (lv_at hl 1 rfl) ?_
  refine tw_get hx hb hts bF2_X9 hown hK hT hr_p0 shc_12 rfl 1 (by decide) (ht_at2 hts 5 rfl) (fun _ h9 => h9) dX9_copyFrom_16 (fun v9 m9 h9 => ?_)
  obtain ⟨b10, rfl, hg11⟩ := h9 _ rfl
  refine lv_iconst (v := 0) hx hb dX9_copyFrom_19 (by decide) ?_
  refine lv_aload_n hx hb dX9_copyFrom_20 rfl (lv_at hl 0 rfl) ?_
  refine tw_get hx hb hts bF2_X9 hown hK hT hr_o0 shc_92 rfl 1 (by decide) (ht_at2 hts 5 rfl) (fun _ h9 => h9) dX9_copyFrom_21 (fun v9 m12 h9 => ?_)
  obtain ⟨b13, rfl, hg14⟩ := h9 _ rfl
  refine lv_iconst (v := 0) hx hb dX9_copyFrom_24 (by decide) ?_
  refine lv_bipush (v := 60) hx hb dX9_copyFrom_25 (by decide) ?_
  refine tw_copy (ty := .int) hx hb (hml.trans hl.1.symm) hown (ht_at2 hts 1 rfl) (ht_at2 hts 2 rfl) (ht_at2 hts 3 rfl) (ht_at2 hts 4 rfl) hK hT hG hS hg11 hg14 shc_24 shc_76 rfl rfl (by decide) (by decide) (by decide) (by decide) (by decide) (fun _ _ h9 => by obtain ⟨x9, e9, _⟩ := h9; exact ⟨x9, e9, rfl⟩) (fun _ _ _ h9 => h9) (Nat.le_of_ble_eq_true rfl) (Nat.le_of_ble_eq_true rfl) dX9_copyFrom_27 (fun H locs hT oq hS => ?_)
  have hF := hF.ast hg14 skc_76 oq (by decide)
  refine lv_aload_n hx hb dX9_copyFrom_30 rfl (lv_at hl 0 rfl) ?_
  refine lv_aload_n hx hb dX9_copyFrom_31 rfl (lv_at hl 1 rfl) ?_
  refine tw_get hx hb hts bF2_X9 hown hK hT hr_p0 shc_12 rfl 2 (by decide) (ht_at2 hts 6 rfl) (fun _ h9 => h9) dX9_copyFrom_32 (fun v9 m19 h9 => ?_)
  obtain ⟨x20, rfl, gx20, kx20⟩ := h9 _ rfl
  refine tw_put (v := .int x20) (ty := .int) hx hb hts bF2_X9 tyX9 tyX9_ok nmX9 hown hK hT hG hS hr_o0 shc_92 rfl 2 (by decide) (ht_at2 hts 6 rfl) (fun _ h9 => h9) rfl (by decide +kernel) rfl rfl (gl_at rfl (gi_of (show x20.toInt = x20.toInt from rfl) (by omega) (by omega))) dX9_copyFrom_35 (fun H locs hT oq m21 oj hS => ?_)
  have hF := hF.put hr_o0 skc_92 oq oj (by decide)
  exact W.vret hx hb hr (fun t ht hW => ⟨⟨(), rfl, (by exact trivial), by (try dsimp only); rw [ht]; exact ⟨hT, hF⟩⟩, hS.F ht⟩) hS.2.2 dX9_copyFrom_38
def w_c_copyT_l : List Cond := .code yX9_copyFrom cX9_copyFrom 2 none :: (HAppend.hAppend (α := List Cond) (β := List Cond) (γ := List Cond) [.fieldLink RX9 9 "SeaLand$Tellings" "hours" "[I", .methodLink RX9 23 arraycopyName, .native arraycopyName, .static arraycopyName, .initialized "java/lang/System", .fieldLink RX9 15 "SeaLand$Tellings" "numbers" "[I", .fieldLink RX9 18 "SeaLand$Tellings" "told" "I"] bs2)
set_option maxHeartbeats 4000000 in
set_option maxRecDepth 100000 in
theorem c_copyT_l (l : Launch) (dC : Nat → ClassId) (dI : Nat → Nat → Nat) (kA : Nat → ClassId) (adK adV : Nat → Nat) (G : gT) (H0 : Heap) (nC nS : Int) (o0 : Nat) (p0 : Nat)  (hT : gH (dC, dI) kA (SHc nC nS) G H0) (hr_o0 : G o0 = some 12) (hr_p0 : G p0 = some 92) (hgC : 0 ≤ nC ∧ nC ≤ 40) (hgS : 0 ≤ nS ∧ nS ≤ 60) : Met l yX9_copyFrom w_c_copyT_l ({ frames := 2, cells := 0, slots := 0, locals := 60 }) (va_Pc [.ref o0, .ref p0] (fun U => U.heap = H0 ∧ va_K (dC, dI) vwCl (tyl kA) U ∧ EVC adK adV (gA G H0.size) U U.heap)) (va_Qv (fun (u : Unit) => True) (fun (_ : Unit) (t : State) => gH (dC, dI) kA (SHc nC nS) G t.heap ∧ gF (dC, dI) SKc G ([(12, 2), (23, 0), (24, 0)] : List (Nat × Nat)) H0 t.heap) (gA G H0.size)) 0 0 (gA G H0.size) := by
  refine Met.ofW (cc := cX9_copyFrom) (maxL := 2) (ret := none) (by decide) rfl ?_
  intro p e s m args below meth c s₁ B hml hv
  obtain ⟨rfl, hH0, hK, hE⟩ := hv
  have hx := B.exec
  have hb := B.bytes
  have hr := B.returns
  have hts := atoms_spec (ws := w_c_copyT_l) B.pre
  have hown : s.vm.findClass RX9 = some m.cls := findClass_of_methodNamed B.named
  have hlocks := B.notSynchronized
  subst hH0
  generalize hAe : gA G s.heap.size = A at hE ⊢
  have hA : ∀ q : Nat, s.heap.size ≤ q → A q := fun q h => by rw [← hAe]; exact Or.inr h
  have hG := gA_of hAe
  have hS : va_S A s.heap s.heap [] := va_S.rf
  have hF : gF (dC, dI) SKc G ([(12, 2), (23, 0), (24, 0)] : List (Nat × Nat)) s.heap s.heap := gF.rf
  have hl := lv_entry ([.ref o0, .ref p0]) (n := 2) (Nat.le_of_ble_eq_true rfl)
  rw [lg_entry_eq]
  generalize (lg_sl ([.ref o0, .ref p0]) ++ List.replicate (2 - (lg_sl ([.ref o0, .ref p0])).length) Slot.unset).toArray = ls at hl ⊢
  have hl : lv_has ls 2 [(0, .ref o0), (1, .ref p0)] := hl
  refine lv_aload_n hx hb dX9_copyFrom_0 rfl (lv_at hl 1 rfl) ?_
  refine tw_get hx hb hts bF2_X9 hown hK hT hr_p0 shc_92 rfl 0 (by decide) (ht_at2 hts 0 rfl) (fun _ h9 => h9) dX9_copyFrom_1 (fun v9 m1 h9 => ?_)
  obtain ⟨b2, rfl, hg3⟩ := h9 _ rfl
  refine lv_iconst (v := 0) hx hb dX9_copyFrom_4 (by decide) ?_
  refine lv_aload_n hx hb dX9_copyFrom_5 rfl (lv_at hl 0 rfl) ?_
  refine tw_get hx hb hts bF2_X9 hown hK hT hr_o0 shc_12 rfl 0 (by decide) (ht_at2 hts 0 rfl) (fun _ h9 => h9) dX9_copyFrom_6 (fun v9 m4 h9 => ?_)
  obtain ⟨b5, rfl, hg6⟩ := h9 _ rfl
  refine lv_iconst (v := 0) hx hb dX9_copyFrom_9 (by decide) ?_
  refine lv_bipush (v := 60) hx hb dX9_copyFrom_10 (by decide) ?_
  refine tw_copy (ty := .int) hx hb (hml.trans hl.1.symm) hown (ht_at2 hts 1 rfl) (ht_at2 hts 2 rfl) (ht_at2 hts 3 rfl) (ht_at2 hts 4 rfl) hK hT hG hS hg3 hg6 shc_75 shc_23 rfl rfl (by decide) (by decide) (by decide) (by decide) (by decide) (fun _ _ h9 => by obtain ⟨x9, e9, _⟩ := h9; exact ⟨x9, e9, rfl⟩) (fun _ _ _ h9 => h9) (Nat.le_of_ble_eq_true rfl) (Nat.le_of_ble_eq_true rfl) dX9_copyFrom_12 (fun H locs hT oq hS => ?_)
  have hF := hF.ast hg6 skc_23 oq (by decide)
  refine lv_aload_n hx hb dX9_copyFrom_15 rfl (lv_at hl 1 rfl) ?_
  refine tw_get hx hb hts bF2_X9 hown hK hT hr_p0 shc_92 rfl 1 (by decide) (ht_at2 hts 5 rfl) (fun _ h9 => h9) dX9_copyFrom_16 (fun v9 m9 h9 => ?_)
  obtain ⟨b10, rfl, hg11⟩ := h9 _ rfl
  refine lv_iconst (v := 0) hx hb dX9_copyFrom_19 (by decide) ?_
  refine lv_aload_n hx hb dX9_copyFrom_20 rfl (lv_at hl 0 rfl) ?_
  refine tw_get hx hb hts bF2_X9 hown hK hT hr_o0 shc_12 rfl 1 (by decide) (ht_at2 hts 5 rfl) (fun _ h9 => h9) dX9_copyFrom_21 (fun v9 m12 h9 => ?_)
  obtain ⟨b13, rfl, hg14⟩ := h9 _ rfl
  refine lv_iconst (v := 0) hx hb dX9_copyFrom_24 (by decide) ?_
  refine lv_bipush (v := 60) hx hb dX9_copyFrom_25 (by decide) ?_
  refine tw_copy (ty := .int) hx hb (hml.trans hl.1.symm) hown (ht_at2 hts 1 rfl) (ht_at2 hts 2 rfl) (ht_at2 hts 3 rfl) (ht_at2 hts 4 rfl) hK hT hG hS hg11 hg14 shc_76 shc_24 rfl rfl (by decide) (by decide) (by decide) (by decide) (by decide) (fun _ _ h9 => by obtain ⟨x9, e9, _⟩ := h9; exact ⟨x9, e9, rfl⟩) (fun _ _ _ h9 => h9) (Nat.le_of_ble_eq_true rfl) (Nat.le_of_ble_eq_true rfl) dX9_copyFrom_27 (fun H locs hT oq hS => ?_)
  have hF := hF.ast hg14 skc_24 oq (by decide)
  refine lv_aload_n hx hb dX9_copyFrom_30 rfl (lv_at hl 0 rfl) ?_
  refine lv_aload_n hx hb dX9_copyFrom_31 rfl (lv_at hl 1 rfl) ?_
  refine tw_get hx hb hts bF2_X9 hown hK hT hr_p0 shc_92 rfl 2 (by decide) (ht_at2 hts 6 rfl) (fun _ h9 => h9) dX9_copyFrom_32 (fun v9 m19 h9 => ?_)
  obtain ⟨x20, rfl, gx20, kx20⟩ := h9 _ rfl
  refine tw_put (v := .int x20) (ty := .int) hx hb hts bF2_X9 tyX9 tyX9_ok nmX9 hown hK hT hG hS hr_o0 shc_12 rfl 2 (by decide) (ht_at2 hts 6 rfl) (fun _ h9 => h9) rfl (by decide +kernel) rfl rfl (gl_at rfl (gi_of (show x20.toInt = x20.toInt from rfl) (by omega) (by omega))) dX9_copyFrom_35 (fun H locs hT oq m21 oj hS => ?_)
  have hF := hF.put hr_o0 skc_12 oq oj (by decide)
  exact W.vret hx hb hr (fun t ht hW => ⟨⟨(), rfl, (by exact trivial), by (try dsimp only); rw [ht]; exact ⟨hT, hF⟩⟩, hS.F ht⟩) hS.2.2 dX9_copyFrom_38
def w_c_tellStorm : List Cond := .code yX8_tellStorm cX8_tellStorm 4 (some .int) :: (HAppend.hAppend (α := List Cond) (β := List Cond) (γ := List Cond) [.fieldLink RX8 15 "SeaLand$Sky" "stormFrom" "[I", .fieldLink RX8 34 "SeaLand$Sky" "storms" "I", .fieldLink RX8 18 "SeaLand$Sky" "stormTo" "[I", .fieldLink RX8 21 "SeaLand$Sky" "stormMore" "[I"] bs2)
set_option maxHeartbeats 4000000 in
set_option maxRecDepth 100000 in
theorem c_tellStorm (l : Launch) (dC : Nat → ClassId) (dI : Nat → Nat → Nat) (kA : Nat → ClassId) (adK adV : Nat → Nat) (G : gT) (H0 : Heap) (nC nS : Int) (o0 : Nat) (p0 : Int32) (p1 : Int32) (p2 : Int32) (to : Int32)  (hT : gH (dC, dI) kA (SHc nC nS) G H0) (hr_o0 : G o0 = some 11) (hm_to : el H0 o0 (dI 11 6) = some (.int to)) (hq0 : 0 ≤ to.toInt ∧ to.toInt ≤ 19) (hgC : 0 ≤ nC ∧ nC ≤ 40) (hgS : 0 ≤ nS ∧ nS ≤ 60) : Met l yX8_tellStorm w_c_tellStorm ({ frames := 0, cells := 0, slots := 0, locals := 0 }) (va_Pc [.ref o0, .int p0, .int p1, .int p2] (fun U => U.heap = H0 ∧ va_K (dC, dI) vwCl (tyl kA) U ∧ EVC adK adV (gA G H0.size) U U.heap)) (va_Qi (fun (r : Int32) (u : Unit) => (1 ≤ r.toInt ∧ r.toInt ≤ 20)) (fun (_ : Unit) (t : State) => gH (dC, dI) kA (SHc nC nS) G t.heap ∧ gF (dC, dI) SKc G ([(11, 6), (20, 0), (21, 0), (22, 0)] : List (Nat × Nat)) H0 t.heap) (gA G H0.size)) 0 0 (gA G H0.size) := by
  refine Met.ofW (cc := cX8_tellStorm) (maxL := 4) (ret := (some .int)) (by decide) rfl ?_
  intro p e s m args below meth c s₁ B hml hv
  obtain ⟨rfl, hH0, hK, hE⟩ := hv
  have hx := B.exec
  have hb := B.bytes
  have hr := B.returns
  have hts := atoms_spec (ws := w_c_tellStorm) B.pre
  have hown : s.vm.findClass RX8 = some m.cls := findClass_of_methodNamed B.named
  have hlocks := B.notSynchronized
  subst hH0
  generalize hAe : gA G s.heap.size = A at hE ⊢
  have hA : ∀ q : Nat, s.heap.size ≤ q → A q := fun q h => by rw [← hAe]; exact Or.inr h
  have hG := gA_of hAe
  have hS : va_S A s.heap s.heap [] := va_S.rf
  have hF : gF (dC, dI) SKc G ([(11, 6), (20, 0), (21, 0), (22, 0)] : List (Nat × Nat)) s.heap s.heap := gF.rf
  have hl := lv_entry ([.ref o0, .int p0, .int p1, .int p2]) (n := 4) (Nat.le_of_ble_eq_true rfl)
  rw [lg_entry_eq]
  generalize (lg_sl ([.ref o0, .int p0, .int p1, .int p2]) ++ List.replicate (4 - (lg_sl ([.ref o0, .int p0, .int p1, .int p2])).length) Slot.unset).toArray = ls at hl ⊢
  have hl : lv_has ls 4 [(0, .ref o0), (1, .int p0), (2, .int p1), (3, .int p2)] := hl
  refine lv_aload_n hx hb dX8_tellStorm_0 rfl (lv_at hl 0 rfl) ?_
  refine tw_get hx hb hts bF2_X8 hown hK hT hr_o0 shc_11 rfl 1 (by decide) (ht_at2 hts 0 rfl) (fun _ h9 => h9) dX8_tellStorm_1 (fun v9 m1 h9 => ?_)
  obtain ⟨b2, rfl, hg3⟩ := h9 _ rfl
  refine lv_aload_n hx hb dX8_tellStorm_4 rfl (lv_at hl 0 rfl) ?_
  refine tw_getM (v := .int to) hx hb hts bF2_X8 hown hK hT hr_o0 shc_11 rfl 6 (by decide) (ht_at2 hts 1 rfl) (fun _ h9 => h9) hm_to dX8_tellStorm_5 ?_
  refine lv_iload_n hx hb dX8_tellStorm_8 rfl (lv_at hl 1 rfl) ?_
  refine tw_iast (i := to) (x := p0) hx hb hK hT hG hS hg3 shc_20 rfl (vin_t (a := to.toInt) rfl (by omega) (by omega)) (gi_all _) dX8_tellStorm_9 (fun H locs hT oq m4 oi hS => ?_)
  have hF := hF.ast hg3 skc_20 oq (by decide)
  have m5 := (el_kept (oq _ (gne hr_o0 hg3 (by decide)))).trans hm_to
  refine lv_aload_n hx hb dX8_tellStorm_10 rfl (lv_at hl 0 rfl) ?_
  refine tw_get hx hb hts bF2_X8 hown hK hT hr_o0 shc_11 rfl 2 (by decide) (ht_at2 hts 2 rfl) (fun _ h9 => h9) dX8_tellStorm_11 (fun v9 m7 h9 => ?_)
  obtain ⟨b8, rfl, hg9⟩ := h9 _ rfl
  refine lv_aload_n hx hb dX8_tellStorm_14 rfl (lv_at hl 0 rfl) ?_
  refine tw_getM (v := .int to) hx hb hts bF2_X8 hown hK hT hr_o0 shc_11 rfl 6 (by decide) (ht_at2 hts 1 rfl) (fun _ h9 => h9) m5 dX8_tellStorm_15 ?_
  refine lv_iload_n hx hb dX8_tellStorm_18 rfl (lv_at hl 2 rfl) ?_
  refine tw_iast (i := to) (x := p1) hx hb hK hT hG hS hg9 shc_21 rfl (vin_t (a := to.toInt) rfl (by omega) (by omega)) (gi_all _) dX8_tellStorm_19 (fun H locs hT oq m10 oi hS => ?_)
  have hF := hF.ast hg9 skc_21 oq (by decide)
  have m11 := (el_kept (oq _ (gne hr_o0 hg9 (by decide)))).trans m5
  refine lv_aload_n hx hb dX8_tellStorm_20 rfl (lv_at hl 0 rfl) ?_
  refine tw_get hx hb hts bF2_X8 hown hK hT hr_o0 shc_11 rfl 3 (by decide) (ht_at2 hts 3 rfl) (fun _ h9 => h9) dX8_tellStorm_21 (fun v9 m15 h9 => ?_)
  obtain ⟨b16, rfl, hg17⟩ := h9 _ rfl
  refine lv_aload_n hx hb dX8_tellStorm_24 rfl (lv_at hl 0 rfl) ?_
  refine tw_getM (v := .int to) hx hb hts bF2_X8 hown hK hT hr_o0 shc_11 rfl 6 (by decide) (ht_at2 hts 1 rfl) (fun _ h9 => h9) m11 dX8_tellStorm_25 ?_
  refine lv_iload_n hx hb dX8_tellStorm_28 rfl (lv_at hl 3 rfl) ?_
  refine tw_iast (i := to) (x := p2) hx hb hK hT hG hS hg17 shc_22 rfl (vin_t (a := to.toInt) rfl (by omega) (by omega)) (gi_all _) dX8_tellStorm_29 (fun H locs hT oq m18 oi hS => ?_)
  have hF := hF.ast hg17 skc_22 oq (by decide)
  have m19 := (el_kept (oq _ (gne hr_o0 hg17 (by decide)))).trans m11
  refine lv_aload_n hx hb dX8_tellStorm_30 rfl (lv_at hl 0 rfl) ?_
  refine lv_dup hx hb dX8_tellStorm_31 rfl ?_
  refine tw_getM (v := .int to) hx hb hts bF2_X8 hown hK hT hr_o0 shc_11 rfl 6 (by decide) (ht_at2 hts 1 rfl) (fun _ h9 => h9) m19 dX8_tellStorm_32 ?_
  refine lv_iconst (v := 1) hx hb dX8_tellStorm_35 (by decide) ?_
  refine lv_iadd hx hb dX8_tellStorm_36 ?_
  refine lv_topi (fun x25 ex25 => ?_)
  have t26 : x25.toInt = to.toInt + 1 := ti_add ex25 rfl (by decide) (by omega) (by omega)
  refine tw_put (v := .int x25) (ty := .int) hx hb hts bF2_X8 tyX8 tyX8_ok nmX8 hown hK hT hG hS hr_o0 shc_11 rfl 6 (by decide) (ht_at2 hts 1 rfl) (fun _ h9 => h9) rfl (by decide +kernel) rfl rfl (gl_at rfl (gi_of (show x25.toInt = x25.toInt from rfl) (by omega) (by omega))) dX8_tellStorm_37 (fun H locs hT oq m27 oj hS => ?_)
  have hF := hF.put hr_o0 skc_11 oq oj (by decide)
  refine lv_aload_n hx hb dX8_tellStorm_40 rfl (lv_at hl 0 rfl) ?_
  refine tw_getM (v := .int x25) hx hb hts bF2_X8 hown hK hT hr_o0 shc_11 rfl 6 (by decide) (ht_at2 hts 1 rfl) (fun _ h9 => h9) m27 dX8_tellStorm_41 ?_
  exact W.iret (v := x25) hx hb hr (fun t ht hW => ⟨⟨x25, (), rfl, (by exact (by have q8 := ti_all x25; omega)), by (try dsimp only); rw [ht]; exact ⟨hT, hF⟩⟩, hS.F ht⟩) hS.2.2 dX8_tellStorm_44
def w_c_outsideAt : List Cond := .code yX8_outsideAt cX8_outsideAt 4 (some .int) :: (HAppend.hAppend (α := List Cond) (β := List Cond) (γ := List Cond) [.fieldLink RX8 9 "SeaLand$Sky" "tides" "[I", .code yJ9_floorMod_7cf53 cJ9_floorMod_7cf53 3 (some .int), .methodLink RX8 38 yJ9_floorMod_7cf53, .static yJ9_floorMod_7cf53, .initialized RJ9, .fieldLink RX8 34 "SeaLand$Sky" "storms" "I", .fieldLink RX8 15 "SeaLand$Sky" "stormFrom" "[I", .fieldLink RX8 18 "SeaLand$Sky" "stormTo" "[I", .fieldLink RX8 21 "SeaLand$Sky" "stormMore" "[I"] bs2)
set_option maxHeartbeats 4000000 in
set_option maxRecDepth 100000 in
theorem c_outsideAt (l : Launch) (dC : Nat → ClassId) (dI : Nat → Nat → Nat) (kA : Nat → ClassId) (adK adV : Nat → Nat) (G : gT) (H0 : Heap) (nC nS : Int) (o0 : Nat) (p0 : Int32)  (hT : gH (dC, dI) kA (SHc nC nS) G H0) (hr_o0 : G o0 = some 11) (hq0 : 0 ≤ p0.toInt ∧ p0.toInt ≤ 100000) (hgC : 0 ≤ nC ∧ nC ≤ 40) (hgS : 0 ≤ nS ∧ nS ≤ 60) : Met l yX8_outsideAt w_c_outsideAt ({ frames := 1, cells := 0, slots := 0, locals := 22 }) (va_Pc [.ref o0, .int p0] (fun U => U.heap = H0 ∧ va_K (dC, dI) vwCl (tyl kA) U ∧ EVC adK adV (gA G H0.size) U U.heap)) (va_Qi (fun (r : Int32) (u : Unit) => True) (fun (_ : Unit) (t : State) => gH (dC, dI) kA (SHc nC nS) G t.heap ∧ gF (dC, dI) SKc G ([] : List (Nat × Nat)) H0 t.heap) (gA G H0.size)) 0 0 (gA G H0.size) := by
  refine Met.ofW (cc := cX8_outsideAt) (maxL := 4) (ret := (some .int)) (by decide) rfl ?_
  intro p e s m args below meth c s₁ B hml hv
  obtain ⟨rfl, hH0, hK, hE⟩ := hv
  have hx := B.exec
  have hb := B.bytes
  have hr := B.returns
  have hts := atoms_spec (ws := w_c_outsideAt) B.pre
  have hown : s.vm.findClass RX8 = some m.cls := findClass_of_methodNamed B.named
  have hlocks := B.notSynchronized
  subst hH0
  generalize hAe : gA G s.heap.size = A at hE ⊢
  have hA : ∀ q : Nat, s.heap.size ≤ q → A q := fun q h => by rw [← hAe]; exact Or.inr h
  have hG := gA_of hAe
  have hS : va_S A s.heap s.heap [] := va_S.rf
  have hF : gF (dC, dI) SKc G ([] : List (Nat × Nat)) s.heap s.heap := gF.rf
  have hl := lv_entry ([.ref o0, .int p0]) (n := 4) (Nat.le_of_ble_eq_true rfl)
  rw [lg_entry_eq]
  generalize (lg_sl ([.ref o0, .int p0]) ++ List.replicate (4 - (lg_sl ([.ref o0, .int p0])).length) Slot.unset).toArray = ls at hl ⊢
  have hl : lv_has ls 4 [(0, .ref o0), (1, .int p0)] := hl
  refine lv_aload_n hx hb dX8_outsideAt_0 rfl (lv_at hl 0 rfl) ?_
  refine tw_get hx hb hts bF2_X8 hown hK hT hr_o0 shc_11 rfl 0 (by decide) (ht_at2 hts 0 rfl) (fun _ h9 => h9) dX8_outsideAt_1 (fun v9 m1 h9 => ?_)
  obtain ⟨b2, rfl, hg3⟩ := h9 _ rfl
  refine lv_iload_n hx hb dX8_outsideAt_4 rfl (lv_at hl 1 rfl) ?_
  refine lv_bipush (v := 12) hx hb dX8_outsideAt_5 (by decide) ?_
  have hFc := gA_free hG hA hS
  refine va_calli (va_runS (As := [.int p0, .int 12]) (rest := [.ref b2]) ⟨hx, hb, hml, hown, hts⟩ (c_floorMod l dC dI kA adK adV G s.heap nC nS p0 hT (by have q8 := ti_all p0; omega) (by omega) (by omega)) (va_cwS 2 hts (goodIn_app (goodIn_r _ [3, 4, 5] rfl (by decide +kernel)) (goodIn_ca (goodIn_r _ [2] rfl (by decide +kernel)) (bs2_in _ _))) rfl rfl rfl (by decide +kernel) ⟨(Nat.le_of_ble_eq_true rfl), (Nat.le_of_ble_eq_true rfl)⟩) ⟨fun a U g mk q => by obtain ⟨q0, q1, qK, qE⟩ := q; exact ⟨q0, q1, va_K.moved (u := U) (U := U.calling g mk a) (Vm.Alike.refl U.vm) qK, EVC.blind g mk a qE⟩, fun U hU hW => ⟨rfl, hU, va_K.moved hW.alike hK, hE.call hS hFc hU hW⟩⟩ rfl rfl hl.1 rfl (lv_room (Nat.le_of_ble_eq_true rfl)) dX8_outsideAt_7 ⟨(Nat.le_of_ble_eq_true rfl), (Nat.le_of_ble_eq_true rfl)⟩) hS (fun q _ h => hFc q h) hFc (fun r4 u t H locs ht hvm hw5 hB _ _ hS => ?_)
  obtain ⟨hT, hF1⟩ := hB
  rw [ht] at hT hF1
  have m6 := (hF1.fld hr_o0 skc_11 (k := 0) (by decide) (by decide)).trans m1
  have hF := hF.more hF1 (by decide)
  try dsimp only at hw5
  have h7 := hw5
  refine tw_iald (i := r4) hx hb hK hT hg3 shc_19 rfl (vin_t (a := r4.toInt) rfl (by omega) (by omega)) dX8_outsideAt_10 (fun v9 m8 h9 => ?_)
  obtain ⟨x9, rfl, gx9, kx9⟩ := h9
  refine lv_istore_n (lv' := [(2, .int x9), (0, .ref o0), (1, .int p0)]) hx hb dX8_outsideAt_11 rfl hl (by decide) rfl (fun ls hl => ?_)
  refine lv_iconst (v := 0) hx hb dX8_outsideAt_12 (by decide) ?_
  refine lv_istore_n (lv' := [(3, .int 0), (2, .int x9), (0, .ref o0), (1, .int p0)]) hx hb dX8_outsideAt_13 rfl hl (by decide) rfl (fun ls hl => ?_)
  have key43 : ∀ (n43 i10 : Nat), i10 + n43 = 20 → 0 ≤ i10 → ∀ (z11 : Int32), ∀ (H : Heap) (locs : List Loc), gH (dC, dI) kA (SHc nC nS) G H → gF (dC, dI) SKc G ([] : List (Nat × Nat)) s.heap H → va_S A s.heap H locs → el H o0 (dI 11 0) = some (.ref b2) → el H b2 r4.toNatClampNeg = some (.int x9) → ∀ ls : Array Slot, lv_has ls 4 [(3, .int (nI i10)), (2, .int z11), (0, .ref o0), (1, .int p0)] → W p l e (headSpec w_c_outsideAt ({ frames := 1, cells := 0, slots := 0, locals := 22 })).room s m #[.ref o0, .int p0] below meth c H locs 0 0 (MQ below (va_Qi (fun (r : Int32) (u : Unit) => True) (fun (_ : Unit) (t : State) => gH (dC, dI) kA (SHc nC nS) G t.heap ∧ gF (dC, dI) SKc G ([] : List (Nat × Nat)) s.heap t.heap) A) #[.ref o0, .int p0] s 0 0 A) (F0 m 14 ls []) := by
    intro n43
    induction n43 with
    | zero =>
      intro i10 hn43 hlo44 z11 H locs hT hF hS m12 m13 ls hl
      obtain rfl : 20 = i10 := by omega
      refine lv_iload_n hx hb dX8_outsideAt_14 rfl (lv_at hl 0 rfl) ?_
      refine lv_aload_n hx hb dX8_outsideAt_15 rfl (lv_at hl 2 rfl) ?_
      refine tw_get hx hb hts bF2_X8 hown hK hT hr_o0 shc_11 rfl 6 (by decide) (ht_at2 hts 5 rfl) (fun _ h9 => h9) dX8_outsideAt_16 (fun v9 m45 h9 => ?_)
      obtain ⟨x46, rfl, gx46, kx46⟩ := h9 _ rfl
      refine lv_icmp_ge (tgt := 57) hx hb dX8_outsideAt_19 (by decide) (fun c47 => ?_) (fun c47 => (by exfalso; have q9 : ((20 : Nat) : Int) < x46.toInt := ti_nle c47 rfl (nI_toInt (by omega)); omega))
      have t48 : x46.toInt ≤ ((20 : Nat) : Int) := ti_le c47 rfl (nI_toInt (by omega))
      refine lv_iload_n hx hb dX8_outsideAt_57 rfl (lv_at hl 1 rfl) ?_
      exact W.iret (v := z11) hx hb hr (fun t ht hW => ⟨⟨z11, (), rfl, (by exact trivial), by (try dsimp only); rw [ht]; exact ⟨hT, hF⟩⟩, hS.F ht⟩) hS.2.2 dX8_outsideAt_58
    | succ n43 ih43 =>
      intro i10 hn43 hlo44 z11 H locs hT hF hS m12 m13 ls hl
      have hlt48 : i10 < 20 := by omega
      refine lv_iload_n hx hb dX8_outsideAt_14 rfl (lv_at hl 0 rfl) ?_
      refine lv_aload_n hx hb dX8_outsideAt_15 rfl (lv_at hl 2 rfl) ?_
      refine tw_get hx hb hts bF2_X8 hown hK hT hr_o0 shc_11 rfl 6 (by decide) (ht_at2 hts 5 rfl) (fun _ h9 => h9) dX8_outsideAt_16 (fun v9 m49 h9 => ?_)
      obtain ⟨x50, rfl, gx50, kx50⟩ := h9 _ rfl
      refine lv_icmp_ge (tgt := 57) hx hb dX8_outsideAt_19 (by decide) (fun c51 => ?_) (fun c51 => ?_)
      · have t52 : x50.toInt ≤ ((i10 : Nat) : Int) := ti_le c51 rfl (nI_toInt (by omega))
        refine lv_iload_n hx hb dX8_outsideAt_57 rfl (lv_at hl 1 rfl) ?_
        exact W.iret (v := z11) hx hb hr (fun t ht hW => ⟨⟨z11, (), rfl, (by exact trivial), by (try dsimp only); rw [ht]; exact ⟨hT, hF⟩⟩, hS.F ht⟩) hS.2.2 dX8_outsideAt_58
      · have t53 : ((i10 : Nat) : Int) < x50.toInt := ti_nle c51 rfl (nI_toInt (by omega))
        refine lv_aload_n hx hb dX8_outsideAt_22 rfl (lv_at hl 2 rfl) ?_
        refine tw_get hx hb hts bF2_X8 hown hK hT hr_o0 shc_11 rfl 1 (by decide) (ht_at2 hts 6 rfl) (fun _ h9 => h9) dX8_outsideAt_23 (fun v9 m54 h9 => ?_)
        obtain ⟨b55, rfl, hg56⟩ := h9 _ rfl
        refine lv_iload_n hx hb dX8_outsideAt_26 rfl (lv_at hl 0 rfl) ?_
        refine tw_iald (i := (nI i10)) hx hb hK hT hg56 shc_20 rfl (vp_in_nI (by omega) (by decide)) dX8_outsideAt_27 (fun v9 m57 h9 => ?_)
        obtain ⟨x58, rfl, gx58, kx58⟩ := h9
        refine lv_iload_n hx hb dX8_outsideAt_28 rfl (lv_at hl 3 rfl) ?_
        have t59 : -2147483648 ≤ x58.toInt ∧ x58.toInt ≤ 2147483647 := ti_all x58
        refine lv_icmp_gt (tgt := 51) hx hb dX8_outsideAt_29 (by decide) (fun c60 => ?_) (fun c60 => ?_)
        · have t61 : p0.toInt < x58.toInt := ti_lt c60 rfl rfl
          refine lv_iinc (v := nI (i10 + 1)) (lv' := [(3, .int (nI (i10 + 1))), (2, .int z11), (0, .ref o0), (1, .int p0)]) hx hb dX8_outsideAt_51 hl (k := 0) rfl (nI_add i10 1) (by decide) rfl (fun ls hl => ?_)
          refine lv_goto (tgt := 14) hx hb dX8_outsideAt_54 (by decide) ?_
          exact ih43 (i10 + 1) (by omega) (by omega) z11 _ _ hT hF hS m12 m13 ls (lv_sub hl [0, 1, 2, 3] rfl)
        · have t62 : x58.toInt ≤ p0.toInt := ti_nlt c60 rfl rfl
          refine lv_iload_n hx hb dX8_outsideAt_32 rfl (lv_at hl 3 rfl) ?_
          refine lv_aload_n hx hb dX8_outsideAt_33 rfl (lv_at hl 2 rfl) ?_
          refine tw_get hx hb hts bF2_X8 hown hK hT hr_o0 shc_11 rfl 2 (by decide) (ht_at2 hts 7 rfl) (fun _ h9 => h9) dX8_outsideAt_34 (fun v9 m63 h9 => ?_)
          obtain ⟨b64, rfl, hg65⟩ := h9 _ rfl
          refine lv_iload_n hx hb dX8_outsideAt_37 rfl (lv_at hl 0 rfl) ?_
          refine tw_iald (i := (nI i10)) hx hb hK hT hg65 shc_21 rfl (vp_in_nI (by omega) (by decide)) dX8_outsideAt_38 (fun v9 m66 h9 => ?_)
          obtain ⟨x67, rfl, gx67, kx67⟩ := h9
          have t68 : -2147483648 ≤ x67.toInt ∧ x67.toInt ≤ 2147483647 := ti_all x67
          refine lv_icmp_gt (tgt := 51) hx hb dX8_outsideAt_39 (by decide) (fun c69 => ?_) (fun c69 => ?_)
          · have t70 : x67.toInt < p0.toInt := ti_lt c69 rfl rfl
            refine lv_iinc (v := nI (i10 + 1)) (lv' := [(3, .int (nI (i10 + 1))), (2, .int z11), (0, .ref o0), (1, .int p0)]) hx hb dX8_outsideAt_51 hl (k := 0) rfl (nI_add i10 1) (by decide) rfl (fun ls hl => ?_)
            refine lv_goto (tgt := 14) hx hb dX8_outsideAt_54 (by decide) ?_
            exact ih43 (i10 + 1) (by omega) (by omega) z11 _ _ hT hF hS m12 m13 ls (lv_sub hl [0, 1, 2, 3] rfl)
          · have t71 : p0.toInt ≤ x67.toInt := ti_nlt c69 rfl rfl
            refine lv_iload_n hx hb dX8_outsideAt_42 rfl (lv_at hl 1 rfl) ?_
            refine lv_aload_n hx hb dX8_outsideAt_43 rfl (lv_at hl 2 rfl) ?_
            refine tw_get hx hb hts bF2_X8 hown hK hT hr_o0 shc_11 rfl 3 (by decide) (ht_at2 hts 8 rfl) (fun _ h9 => h9) dX8_outsideAt_44 (fun v9 m72 h9 => ?_)
            obtain ⟨b73, rfl, hg74⟩ := h9 _ rfl
            refine lv_iload_n hx hb dX8_outsideAt_47 rfl (lv_at hl 0 rfl) ?_
            refine tw_iald (i := (nI i10)) hx hb hK hT hg74 shc_22 rfl (vp_in_nI (by omega) (by decide)) dX8_outsideAt_48 (fun v9 m75 h9 => ?_)
            obtain ⟨x76, rfl, gx76, kx76⟩ := h9
            refine lv_iadd hx hb dX8_outsideAt_49 ?_
            refine lv_topi (fun x77 ex77 => ?_)
            refine lv_istore_n (lv' := [(2, .int x77), (3, .int (nI i10)), (0, .ref o0), (1, .int p0)]) hx hb dX8_outsideAt_50 rfl hl (by decide) rfl (fun ls hl => ?_)
            refine lv_iinc (v := nI (i10 + 1)) (lv' := [(3, .int (nI (i10 + 1))), (2, .int x77), (0, .ref o0), (1, .int p0)]) hx hb dX8_outsideAt_51 hl (k := 1) rfl (nI_add i10 1) (by decide) rfl (fun ls hl => ?_)
            refine lv_goto (tgt := 14) hx hb dX8_outsideAt_54 (by decide) ?_
            exact ih43 (i10 + 1) (by omega) (by omega) x77 _ _ hT hF hS m12 m13 ls (lv_sub hl [0, 1, 2, 3] rfl)
  exact key43 (20 - 0) 0 (by omega) (Nat.le_refl _) x9 _ _ hT hF hS m6 m8 ls (lv_sub hl [0, 1, 2, 3] rfl)
def w_c_windAt : List Cond := .code yX8_windAt cX8_windAt 4 (some .int) :: (HAppend.hAppend (α := List Cond) (β := List Cond) (γ := List Cond) [.fieldLink RX8 27 "SeaLand$Sky" "wind" "LSeaLand$Tellings;", .code yX9_standingAt cX9_standingAt 5 (some .int), .fieldLink RX9 18 "SeaLand$Tellings" "told" "I", .fieldLink RX9 9 "SeaLand$Tellings" "hours" "[I", .methodLink RX8 44 yX9_standingAt, .instanceMethod yX9_standingAt, .selects RX9 yX9_standingAt yX9_standingAt, .initialized RX9, .code yX9_nearestNumberBefore cX9_nearestNumberBefore 5 (some .int), .fieldLink RX9 15 "SeaLand$Tellings" "numbers" "[I", .methodLink RX8 54 yX9_nearestNumberBefore, .instanceMethod yX9_nearestNumberBefore, .selects RX9 yX9_nearestNumberBefore yX9_nearestNumberBefore, .code yX9_nearestNumberAfter cX9_nearestNumberAfter 5 (some .int), .constant RX9 22 40001, .methodLink RX8 57 yX9_nearestNumberAfter, .instanceMethod yX9_nearestNumberAfter, .selects RX9 yX9_nearestNumberAfter yX9_nearestNumberAfter, .methodLink RX8 60 Lib.Math.max.name, .static Lib.Math.max.name, .initialized "java/lang/Math", .code Lib.Math.max.name Lib.Math.max.code 2 (some .int)] bs2)
set_option maxHeartbeats 4000000 in
set_option maxRecDepth 100000 in
theorem c_windAt (l : Launch) (dC : Nat → ClassId) (dI : Nat → Nat → Nat) (kA : Nat → ClassId) (adK adV : Nat → Nat) (G : gT) (H0 : Heap) (nC nS : Int) (o0 : Nat) (p0 : Int32)  (hT : gH (dC, dI) kA (SHc nC nS) G H0) (hr_o0 : G o0 = some 11) (hgC : 0 ≤ nC ∧ nC ≤ 40) (hgS : 0 ≤ nS ∧ nS ≤ 60) : Met l yX8_windAt w_c_windAt ({ frames := 1, cells := 0, slots := 0, locals := 40 }) (va_Pc [.ref o0, .int p0] (fun U => U.heap = H0 ∧ va_K (dC, dI) vwCl (tyl kA) U ∧ EVC adK adV (gA G H0.size) U U.heap)) (va_Qi (fun (r : Int32) (u : Unit) => True) (fun (_ : Unit) (t : State) => gH (dC, dI) kA (SHc nC nS) G t.heap ∧ gF (dC, dI) SKc G ([] : List (Nat × Nat)) H0 t.heap) (gA G H0.size)) 0 0 (gA G H0.size) := by
  refine Met.ofW (cc := cX8_windAt) (maxL := 4) (ret := (some .int)) (by decide) rfl ?_
  intro p e s m args below meth c s₁ B hml hv
  obtain ⟨rfl, hH0, hK, hE⟩ := hv
  have hx := B.exec
  have hb := B.bytes
  have hr := B.returns
  have hts := atoms_spec (ws := w_c_windAt) B.pre
  have hown : s.vm.findClass RX8 = some m.cls := findClass_of_methodNamed B.named
  have hlocks := B.notSynchronized
  subst hH0
  generalize hAe : gA G s.heap.size = A at hE ⊢
  have hA : ∀ q : Nat, s.heap.size ≤ q → A q := fun q h => by rw [← hAe]; exact Or.inr h
  have hG := gA_of hAe
  have hS : va_S A s.heap s.heap [] := va_S.rf
  have hF : gF (dC, dI) SKc G ([] : List (Nat × Nat)) s.heap s.heap := gF.rf
  have hl := lv_entry ([.ref o0, .int p0]) (n := 4) (Nat.le_of_ble_eq_true rfl)
  rw [lg_entry_eq]
  generalize (lg_sl ([.ref o0, .int p0]) ++ List.replicate (4 - (lg_sl ([.ref o0, .int p0])).length) Slot.unset).toArray = ls at hl ⊢
  have hl : lv_has ls 4 [(0, .ref o0), (1, .int p0)] := hl
  refine lv_aload_n hx hb dX8_windAt_0 rfl (lv_at hl 0 rfl) ?_
  refine tw_get hx hb hts bF2_X8 hown hK hT hr_o0 shc_11 rfl 4 (by decide) (ht_at2 hts 0 rfl) (fun _ h9 => h9) dX8_windAt_1 (fun v9 m1 h9 => ?_)
  obtain ⟨b2, rfl, hg3⟩ := h9 _ rfl
  refine lv_iload_n hx hb dX8_windAt_4 rfl (lv_at hl 1 rfl) ?_
  have hFc := gA_free hG hA hS
  refine va_calli (va_runV (As := [.int p0]) (rest := []) ⟨hx, hb, hml, hown, hts⟩ (c_standingAt l dC dI kA adK adV G s.heap nC nS b2 p0 hT hg3 (by omega) (by omega)) (cwV 1 hts (goodIn_app (goodIn_r _ [5, 6, 7, 8] rfl (by decide +kernel)) (goodIn_ca (goodIn_r _ [2, 3, 4] rfl (by decide +kernel)) (bs2_in _ _))) rfl rfl rfl (by decide +kernel) ⟨(Nat.le_of_ble_eq_true rfl), (Nat.le_of_ble_eq_true rfl)⟩) ⟨fun a U g mk q => by obtain ⟨q0, q1, qK, qE⟩ := q; exact ⟨q0, q1, va_K.moved (u := U) (U := U.calling g mk a) (Vm.Alike.refl U.vm) qK, EVC.blind g mk a qE⟩, gH_rc hK hT hg3 shc_12 rfl, fun U hU hW => ⟨rfl, hU, va_K.moved hW.alike hK, hE.call hS hFc hU hW⟩⟩ rfl rfl hl.1 rfl (lv_room (Nat.le_of_ble_eq_true rfl)) dX8_windAt_5 ⟨(Nat.le_of_ble_eq_true rfl), (Nat.le_of_ble_eq_true rfl)⟩) hS (fun q _ h => hFc q h) hFc (fun r4 u t H locs ht hvm hw5 hB _ _ hS => ?_)
  obtain ⟨hT, hF1⟩ := hB
  rw [ht] at hT hF1
  have m6 := (hF1.fld hr_o0 skc_11 (k := 4) (by decide) (by decide)).trans m1
  have hF := hF.more hF1 (by decide)
  try dsimp only at hw5
  have h7 := hw5
  refine lv_istore_n (lv' := [(2, .int r4), (0, .ref o0), (1, .int p0)]) hx hb dX8_windAt_8 rfl hl (by decide) rfl (fun ls hl => ?_)
  refine lv_iload_n hx hb dX8_windAt_9 rfl (lv_at hl 0 rfl) ?_
  refine lv_iconst (v := (-1)) hx hb dX8_windAt_10 (by decide) ?_
  refine lv_icmp_ne (tgt := 16) hx hb dX8_windAt_11 (by decide) (fun c8 => ?_) (fun c8 => ?_)
  · have t9 : r4.toInt ≠ (-1) := ti_ne c8 rfl (by decide)
    refine lv_aload_n hx hb dX8_windAt_16 rfl (lv_at hl 1 rfl) ?_
    refine tw_getM (v := .ref b2) hx hb hts bF2_X8 hown hK hT hr_o0 shc_11 rfl 4 (by decide) (ht_at2 hts 0 rfl) (fun _ h9 => h9) m6 dX8_windAt_17 ?_
    refine tw_getN hx hb hts bF2_X9 hown hK hT hg3 shc_12 rfl 1 (by decide) (hE.nw 100 rfl) (fun _ h9 => h9) dX8_windAt_20 (fun v9 m10 h9 => ?_)
    obtain ⟨b11, rfl, hg12⟩ := h9 _ rfl
    refine lv_iload_n hx hb dX8_windAt_23 rfl (lv_at hl 0 rfl) ?_
    refine tw_iald (i := r4) hx hb hK hT hg12 shc_24 rfl (vin_t (a := r4.toInt) rfl (by omega) (by omega)) dX8_windAt_24 (fun v9 m13 h9 => ?_)
    obtain ⟨x14, rfl, gx14, kx14⟩ := h9
    refine lv_iconst (v := (-1)) hx hb dX8_windAt_25 (by decide) ?_
    have t15 : -2147483648 ≤ x14.toInt ∧ x14.toInt ≤ 2147483647 := ti_all x14
    refine lv_icmp_eq (tgt := 39) hx hb dX8_windAt_26 (by decide) (fun c16 => ?_) (fun c16 => ?_)
    · have t17 : x14.toInt = (-1) := ti_eq c16 rfl (by decide)
      refine lv_aload_n hx hb dX8_windAt_39 rfl (lv_at hl 1 rfl) ?_
      refine tw_getM (v := .ref b2) hx hb hts bF2_X8 hown hK hT hr_o0 shc_11 rfl 4 (by decide) (ht_at2 hts 0 rfl) (fun _ h9 => h9) m6 dX8_windAt_40 ?_
      refine tw_getN hx hb hts bF2_X9 hown hK hT hg3 shc_12 rfl 0 (by decide) (hE.nw 101 rfl) (fun _ h9 => h9) dX8_windAt_43 (fun v9 m18 h9 => ?_)
      obtain ⟨b19, rfl, hg20⟩ := h9 _ rfl
      refine lv_iload_n hx hb dX8_windAt_46 rfl (lv_at hl 0 rfl) ?_
      refine tw_iald (i := r4) hx hb hK hT hg20 shc_23 rfl (vin_t (a := r4.toInt) rfl (by omega) (by omega)) dX8_windAt_47 (fun v9 m21 h9 => ?_)
      obtain ⟨x22, rfl, gx22, kx22⟩ := h9
      refine lv_istore_n (lv' := [(3, .int x22), (2, .int r4), (0, .ref o0), (1, .int p0)]) hx hb dX8_windAt_48 rfl hl (by decide) rfl (fun ls hl => ?_)
      refine lv_iconst (v := 0) hx hb dX8_windAt_49 (by decide) ?_
      refine lv_aload_n hx hb dX8_windAt_50 rfl (lv_at hl 2 rfl) ?_
      refine tw_getM (v := .ref b2) hx hb hts bF2_X8 hown hK hT hr_o0 shc_11 rfl 4 (by decide) (ht_at2 hts 0 rfl) (fun _ h9 => h9) m6 dX8_windAt_51 ?_
      refine lv_iload_n hx hb dX8_windAt_54 rfl (lv_at hl 0 rfl) ?_
      have hFc := gA_free hG hA hS
      refine va_calli (va_runV (As := [.int x22]) (rest := [.int 0]) ⟨hx, hb, hml, hown, hts⟩ (c_nearestNumberBefore l dC dI kA adK adV G H nC nS b2 x22 hT hg3 (by omega) (by omega)) (cwV 1 hts (goodIn_app (goodIn_r _ [11, 12, 13, 8] rfl (by decide +kernel)) (goodIn_ca (goodIn_r _ [9, 3, 10, 4] rfl (by decide +kernel)) (bs2_in _ _))) rfl rfl rfl (by decide +kernel) ⟨(Nat.le_of_ble_eq_true rfl), (Nat.le_of_ble_eq_true rfl)⟩) ⟨fun a U g mk q => by obtain ⟨q0, q1, qK, qE⟩ := q; exact ⟨q0, q1, va_K.moved (u := U) (U := U.calling g mk a) (Vm.Alike.refl U.vm) qK, EVC.blind g mk a qE⟩, gH_rc hK hT hg3 shc_12 rfl, fun U hU hW => ⟨rfl, hU, va_K.moved hW.alike hK, hE.call hS hFc hU hW⟩⟩ rfl rfl hl.1 rfl (lv_room (Nat.le_of_ble_eq_true rfl)) dX8_windAt_55 ⟨(Nat.le_of_ble_eq_true rfl), (Nat.le_of_ble_eq_true rfl)⟩) hS (fun q _ h => hFc q h) hFc (fun r23 u t H locs ht hvm hw24 hB _ _ hS => ?_)
      obtain ⟨hT, hF1⟩ := hB
      rw [ht] at hT hF1
      have m25 := (hF1.fld hr_o0 skc_11 (k := 4) (by decide) (by decide)).trans m6
      have hF := hF.more hF1 (by decide)
      try dsimp only at hw24
      refine lv_aload_n hx hb dX8_windAt_58 rfl (lv_at hl 2 rfl) ?_
      refine tw_getM (v := .ref b2) hx hb hts bF2_X8 hown hK hT hr_o0 shc_11 rfl 4 (by decide) (ht_at2 hts 0 rfl) (fun _ h9 => h9) m25 dX8_windAt_59 ?_
      refine lv_iload_n hx hb dX8_windAt_62 rfl (lv_at hl 0 rfl) ?_
      have hFc := gA_free hG hA hS
      refine va_calli (va_runV (As := [.int x22]) (rest := [.int r23, .int 0]) ⟨hx, hb, hml, hown, hts⟩ (c_nearestNumberAfter l dC dI kA adK adV G H nC nS b2 x22 hT hg3 (by omega) (by omega)) (cwV 1 hts (goodIn_app (goodIn_r _ [16, 17, 18, 8] rfl (by decide +kernel)) (goodIn_ca (goodIn_r _ [14, 15, 3, 10, 4] rfl (by decide +kernel)) (bs2_in _ _))) rfl rfl rfl (by decide +kernel) ⟨(Nat.le_of_ble_eq_true rfl), (Nat.le_of_ble_eq_true rfl)⟩) ⟨fun a U g mk q => by obtain ⟨q0, q1, qK, qE⟩ := q; exact ⟨q0, q1, va_K.moved (u := U) (U := U.calling g mk a) (Vm.Alike.refl U.vm) qK, EVC.blind g mk a qE⟩, gH_rc hK hT hg3 shc_12 rfl, fun U hU hW => ⟨rfl, hU, va_K.moved hW.alike hK, hE.call hS hFc hU hW⟩⟩ rfl rfl hl.1 rfl (lv_room (Nat.le_of_ble_eq_true rfl)) dX8_windAt_63 ⟨(Nat.le_of_ble_eq_true rfl), (Nat.le_of_ble_eq_true rfl)⟩) hS (fun q _ h => hFc q h) hFc (fun r30 u t H locs ht hvm hw31 hB _ _ hS => ?_)
      obtain ⟨hT, hF1⟩ := hB
      rw [ht] at hT hF1
      have hF := hF.more hF1 (by decide)
      try dsimp only at hw31
      refine va_mmax hx hb (hml.trans hl.1.symm) hown (ht_at2 hts 18 rfl) (ht_at2 hts 19 rfl) (ht_at2 hts 20 rfl) (ht_at2 hts 21 rfl) (Nat.le_of_ble_eq_true rfl) (Nat.le_of_ble_eq_true rfl) (Nat.le_of_ble_eq_true rfl) (Nat.le_of_ble_eq_true rfl) dX8_windAt_66 ?_
      refine lv_topi (fun x37 ex37 => ?_)
      have t38 : r23.toInt ≤ x37.toInt ∧ r30.toInt ≤ x37.toInt ∧ (x37.toInt = r23.toInt ∨ x37.toInt = r30.toInt) := mx_f ex37 rfl rfl
      refine va_mmax hx hb (hml.trans hl.1.symm) hown (ht_at2 hts 18 rfl) (ht_at2 hts 19 rfl) (ht_at2 hts 20 rfl) (ht_at2 hts 21 rfl) (Nat.le_of_ble_eq_true rfl) (Nat.le_of_ble_eq_true rfl) (Nat.le_of_ble_eq_true rfl) (Nat.le_of_ble_eq_true rfl) dX8_windAt_69 ?_
      refine lv_topi (fun x39 ex39 => ?_)
      have t40 : 0 ≤ x39.toInt ∧ x37.toInt ≤ x39.toInt ∧ (x39.toInt = 0 ∨ x39.toInt = x37.toInt) := mx_f ex39 (by decide) rfl
      exact W.iret (v := x39) hx hb hr (fun t ht hW => ⟨⟨x39, (), rfl, (by exact trivial), by (try dsimp only); rw [ht]; exact ⟨hT, hF⟩⟩, hS.F ht⟩) hS.2.2 dX8_windAt_72
    · have t41 : x14.toInt ≠ (-1) := ti_ne c16 rfl (by decide)
      refine lv_aload_n hx hb dX8_windAt_29 rfl (lv_at hl 1 rfl) ?_
      refine tw_getM (v := .ref b2) hx hb hts bF2_X8 hown hK hT hr_o0 shc_11 rfl 4 (by decide) (ht_at2 hts 0 rfl) (fun _ h9 => h9) m6 dX8_windAt_30 ?_
      refine tw_getNM (v := .ref b11) hx hb hts bF2_X9 hown hK hT hg3 shc_12 rfl 1 (by decide) (hE.nw 100 rfl) (fun _ h9 => h9) m10 dX8_windAt_33 ?_
      refine lv_iload_n hx hb dX8_windAt_36 rfl (lv_at hl 0 rfl) ?_
      refine tw_iald (i := r4) hx hb hK hT hg12 shc_24 rfl (vin_t (a := r4.toInt) rfl (by omega) (by omega)) dX8_windAt_37 (fun v9 m42 h9 => ?_)
      obtain ⟨x43, rfl, gx43, kx43⟩ := h9
      obtain rfl : x14 = x43 := (el_same m42 m13 rfl).symm
      exact W.iret (v := x14) hx hb hr (fun t ht hW => ⟨⟨x14, (), rfl, (by exact trivial), by (try dsimp only); rw [ht]; exact ⟨hT, hF⟩⟩, hS.F ht⟩) hS.2.2 dX8_windAt_38
  · have t44 : r4.toInt = (-1) := ti_eq c8 rfl (by decide)
    refine lv_iconst (v := 0) hx hb dX8_windAt_14 (by decide) ?_
    exact W.iret (v := 0) hx hb hr (fun t ht hW => ⟨⟨0, (), rfl, (by exact trivial), by (try dsimp only); rw [ht]; exact ⟨hT, hF⟩⟩, hS.F ht⟩) hS.2.2 dX8_windAt_15
def w_c_rainAt : List Cond := .code yX8_rainAt cX8_rainAt 3 (some .int) :: (HAppend.hAppend (α := List Cond) (β := List Cond) (γ := List Cond) [.fieldLink RX8 31 "SeaLand$Sky" "rain" "LSeaLand$Tellings;", .code yX9_standingAt cX9_standingAt 5 (some .int), .fieldLink RX9 18 "SeaLand$Tellings" "told" "I", .fieldLink RX9 9 "SeaLand$Tellings" "hours" "[I", .methodLink RX8 44 yX9_standingAt, .instanceMethod yX9_standingAt, .selects RX9 yX9_standingAt yX9_standingAt, .initialized RX9] bs2)
set_option maxHeartbeats 4000000 in
set_option maxRecDepth 100000 in
theorem c_rainAt (l : Launch) (dC : Nat → ClassId) (dI : Nat → Nat → Nat) (kA : Nat → ClassId) (adK adV : Nat → Nat) (G : gT) (H0 : Heap) (nC nS : Int) (o0 : Nat) (p0 : Int32)  (hT : gH (dC, dI) kA (SHc nC nS) G H0) (hr_o0 : G o0 = some 11) (hgC : 0 ≤ nC ∧ nC ≤ 40) (hgS : 0 ≤ nS ∧ nS ≤ 60) : Met l yX8_rainAt w_c_rainAt ({ frames := 1, cells := 0, slots := 0, locals := 24 }) (va_Pc [.ref o0, .int p0] (fun U => U.heap = H0 ∧ va_K (dC, dI) vwCl (tyl kA) U ∧ EVC adK adV (gA G H0.size) U U.heap)) (va_Qi (fun (r : Int32) (u : Unit) => True) (fun (_ : Unit) (t : State) => gH (dC, dI) kA (SHc nC nS) G t.heap ∧ gF (dC, dI) SKc G ([] : List (Nat × Nat)) H0 t.heap) (gA G H0.size)) 0 0 (gA G H0.size) := by
  refine Met.ofW (cc := cX8_rainAt) (maxL := 3) (ret := (some .int)) (by decide) rfl ?_
  intro p e s m args below meth c s₁ B hml hv
  obtain ⟨rfl, hH0, hK, hE⟩ := hv
  have hx := B.exec
  have hb := B.bytes
  have hr := B.returns
  have hts := atoms_spec (ws := w_c_rainAt) B.pre
  have hown : s.vm.findClass RX8 = some m.cls := findClass_of_methodNamed B.named
  have hlocks := B.notSynchronized
  subst hH0
  generalize hAe : gA G s.heap.size = A at hE ⊢
  have hA : ∀ q : Nat, s.heap.size ≤ q → A q := fun q h => by rw [← hAe]; exact Or.inr h
  have hG := gA_of hAe
  have hS : va_S A s.heap s.heap [] := va_S.rf
  have hF : gF (dC, dI) SKc G ([] : List (Nat × Nat)) s.heap s.heap := gF.rf
  have hl := lv_entry ([.ref o0, .int p0]) (n := 3) (Nat.le_of_ble_eq_true rfl)
  rw [lg_entry_eq]
  generalize (lg_sl ([.ref o0, .int p0]) ++ List.replicate (3 - (lg_sl ([.ref o0, .int p0])).length) Slot.unset).toArray = ls at hl ⊢
  have hl : lv_has ls 3 [(0, .ref o0), (1, .int p0)] := hl
  refine lv_aload_n hx hb dX8_rainAt_0 rfl (lv_at hl 0 rfl) ?_
  refine tw_get hx hb hts bF2_X8 hown hK hT hr_o0 shc_11 rfl 5 (by decide) (ht_at2 hts 0 rfl) (fun _ h9 => h9) dX8_rainAt_1 (fun v9 m1 h9 => ?_)
  obtain ⟨b2, rfl, hg3⟩ := h9 _ rfl
  refine lv_iload_n hx hb dX8_rainAt_4 rfl (lv_at hl 1 rfl) ?_
  have hFc := gA_free hG hA hS
  refine va_calli (va_runV (As := [.int p0]) (rest := []) ⟨hx, hb, hml, hown, hts⟩ (c_standingAt l dC dI kA adK adV G s.heap nC nS b2 p0 hT hg3 (by omega) (by omega)) (cwV 1 hts (goodIn_app (goodIn_r _ [5, 6, 7, 8] rfl (by decide +kernel)) (goodIn_ca (goodIn_r _ [2, 3, 4] rfl (by decide +kernel)) (bs2_in _ _))) rfl rfl rfl (by decide +kernel) ⟨(Nat.le_of_ble_eq_true rfl), (Nat.le_of_ble_eq_true rfl)⟩) ⟨fun a U g mk q => by obtain ⟨q0, q1, qK, qE⟩ := q; exact ⟨q0, q1, va_K.moved (u := U) (U := U.calling g mk a) (Vm.Alike.refl U.vm) qK, EVC.blind g mk a qE⟩, gH_rc hK hT hg3 shc_12 rfl, fun U hU hW => ⟨rfl, hU, va_K.moved hW.alike hK, hE.call hS hFc hU hW⟩⟩ rfl rfl hl.1 rfl (lv_room (Nat.le_of_ble_eq_true rfl)) dX8_rainAt_5 ⟨(Nat.le_of_ble_eq_true rfl), (Nat.le_of_ble_eq_true rfl)⟩) hS (fun q _ h => hFc q h) hFc (fun r4 u t H locs ht hvm hw5 hB _ _ hS => ?_)
  obtain ⟨hT, hF1⟩ := hB
  rw [ht] at hT hF1
  have m6 := (hF1.fld hr_o0 skc_11 (k := 5) (by decide) (by decide)).trans m1
  have hF := hF.more hF1 (by decide)
  try dsimp only at hw5
  have h7 := hw5
  refine lv_istore_n (lv' := [(2, .int r4), (0, .ref o0), (1, .int p0)]) hx hb dX8_rainAt_8 rfl hl (by decide) rfl (fun ls hl => ?_)
  refine lv_iload_n hx hb dX8_rainAt_9 rfl (lv_at hl 0 rfl) ?_
  refine lv_iconst (v := (-1)) hx hb dX8_rainAt_10 (by decide) ?_
  refine lv_icmp_ne (tgt := 18) hx hb dX8_rainAt_11 (by decide) (fun c8 => ?_) (fun c8 => ?_)
  · have t9 : r4.toInt ≠ (-1) := ti_ne c8 rfl (by decide)
    refine lv_aload_n hx hb dX8_rainAt_18 rfl (lv_at hl 1 rfl) ?_
    refine tw_getM (v := .ref b2) hx hb hts bF2_X8 hown hK hT hr_o0 shc_11 rfl 5 (by decide) (ht_at2 hts 0 rfl) (fun _ h9 => h9) m6 dX8_rainAt_19 ?_
    refine tw_getN hx hb hts bF2_X9 hown hK hT hg3 shc_12 rfl 1 (by decide) (hE.nw 100 rfl) (fun _ h9 => h9) dX8_rainAt_22 (fun v9 m10 h9 => ?_)
    obtain ⟨b11, rfl, hg12⟩ := h9 _ rfl
    refine lv_iload_n hx hb dX8_rainAt_25 rfl (lv_at hl 0 rfl) ?_
    refine tw_iald (i := r4) hx hb hK hT hg12 shc_24 rfl (vin_t (a := r4.toInt) rfl (by omega) (by omega)) dX8_rainAt_26 (fun v9 m13 h9 => ?_)
    obtain ⟨x14, rfl, gx14, kx14⟩ := h9
    exact W.iret (v := x14) hx hb hr (fun t ht hW => ⟨⟨x14, (), rfl, (by exact trivial), by (try dsimp only); rw [ht]; exact ⟨hT, hF⟩⟩, hS.F ht⟩) hS.2.2 dX8_rainAt_27
  · have t15 : r4.toInt = (-1) := ti_eq c8 rfl (by decide)
    refine lv_iconst (v := 0) hx hb dX8_rainAt_14 (by decide) ?_
    refine lv_goto (tgt := 27) hx hb dX8_rainAt_15 (by decide) ?_
    exact W.iret (v := 0) hx hb hr (fun t ht hW => ⟨⟨0, (), rfl, (by exact trivial), by (try dsimp only); rw [ht]; exact ⟨hT, hF⟩⟩, hS.F ht⟩) hS.2.2 dX8_rainAt_27
def w_c_copyS_i : List Cond := .code yX8_copyFrom cX8_copyFrom 2 none :: (HAppend.hAppend (α := List Cond) (β := List Cond) (γ := List Cond) [.fieldLink RX8 9 "SeaLand$Sky" "tides" "[I", .methodLink RX8 63 arraycopyName, .native arraycopyName, .static arraycopyName, .initialized "java/lang/System", .fieldLink RX8 15 "SeaLand$Sky" "stormFrom" "[I", .fieldLink RX8 18 "SeaLand$Sky" "stormTo" "[I", .fieldLink RX8 21 "SeaLand$Sky" "stormMore" "[I", .fieldLink RX8 27 "SeaLand$Sky" "wind" "LSeaLand$Tellings;", .code yX9_copyFrom cX9_copyFrom 2 none, .fieldLink RX9 9 "SeaLand$Tellings" "hours" "[I", .methodLink RX9 23 arraycopyName, .fieldLink RX9 15 "SeaLand$Tellings" "numbers" "[I", .fieldLink RX9 18 "SeaLand$Tellings" "told" "I", .methodLink RX8 69 yX9_copyFrom, .instanceMethod yX9_copyFrom, .selects RX9 yX9_copyFrom yX9_copyFrom, .initialized RX9, .fieldLink RX8 31 "SeaLand$Sky" "rain" "LSeaLand$Tellings;", .fieldLink RX8 34 "SeaLand$Sky" "storms" "I"] bs2)
set_option maxHeartbeats 4000000 in
set_option maxRecDepth 100000 in
theorem c_copyS_i (l : Launch) (dC : Nat → ClassId) (dI : Nat → Nat → Nat) (kA : Nat → ClassId) (adK adV : Nat → Nat) (G : gT) (H0 : Heap) (nC nS : Int) (o0 : Nat) (p0 : Nat)  (hT : gH (dC, dI) kA (SHc nC nS) G H0) (hr_o0 : G o0 = some 91) (hr_p0 : G p0 = some 11) (hgC : 0 ≤ nC ∧ nC ≤ 40) (hgS : 0 ≤ nS ∧ nS ≤ 60) : Met l yX8_copyFrom w_c_copyS_i ({ frames := 3, cells := 0, slots := 0, locals := 81 }) (va_Pc [.ref o0, .ref p0] (fun U => U.heap = H0 ∧ va_K (dC, dI) vwCl (tyl kA) U ∧ EVC adK adV (gA G H0.size) U U.heap)) (va_Qv (fun (u : Unit) => True) (fun (_ : Unit) (t : State) => gH (dC, dI) kA (SHc nC nS) G t.heap ∧ gF (dC, dI) SKc G ([(71, 0), (72, 0), (73, 0), (74, 0), (75, 0), (76, 0), (91, 6), (92, 2)] : List (Nat × Nat)) H0 t.heap) (gA G H0.size)) 0 0 (gA G H0.size) := by
  refine Met.ofW (cc := cX8_copyFrom) (maxL := 2) (ret := none) (by decide) rfl ?_
  intro p e s m args below meth c s₁ B hml hv
  obtain ⟨rfl, hH0, hK, hE⟩ := hv
  have hx := B.exec
  have hb := B.bytes
  have hr := B.returns
  have hts := atoms_spec (ws := w_c_copyS_i) B.pre
  have hown : s.vm.findClass RX8 = some m.cls := findClass_of_methodNamed B.named
  have hlocks := B.notSynchronized
  subst hH0
  generalize hAe : gA G s.heap.size = A at hE ⊢
  have hA : ∀ q : Nat, s.heap.size ≤ q → A q := fun q h => by rw [← hAe]; exact Or.inr h
  have hG := gA_of hAe
  have hS : va_S A s.heap s.heap [] := va_S.rf
  have hF : gF (dC, dI) SKc G ([(71, 0), (72, 0), (73, 0), (74, 0), (75, 0), (76, 0), (91, 6), (92, 2)] : List (Nat × Nat)) s.heap s.heap := gF.rf
  have hl := lv_entry ([.ref o0, .ref p0]) (n := 2) (Nat.le_of_ble_eq_true rfl)
  rw [lg_entry_eq]
  generalize (lg_sl ([.ref o0, .ref p0]) ++ List.replicate (2 - (lg_sl ([.ref o0, .ref p0])).length) Slot.unset).toArray = ls at hl ⊢
  have hl : lv_has ls 2 [(0, .ref o0), (1, .ref p0)] := hl
  refine lv_aload_n hx hb dX8_copyFrom_0 rfl (lv_at hl 1 rfl) ?_
  refine tw_get hx hb hts bF2_X8 hown hK hT hr_p0 shc_11 rfl 0 (by decide) (ht_at2 hts 0 rfl) (fun _ h9 => h9) dX8_copyFrom_1 (fun v9 m1 h9 => ?_)
  obtain ⟨b2, rfl, hg3⟩ := h9 _ rfl
  refine lv_iconst (v := 0) hx hb dX8_copyFrom_4 (by decide) ?_
  refine lv_aload_n hx hb dX8_copyFrom_5 rfl (lv_at hl 0 rfl) ?_
  refine tw_get hx hb hts bF2_X8 hown hK hT hr_o0 shc_91 rfl 0 (by decide) (ht_at2 hts 0 rfl) (fun _ h9 => h9) dX8_copyFrom_6 (fun v9 m4 h9 => ?_)
  obtain ⟨b5, rfl, hg6⟩ := h9 _ rfl
  refine lv_iconst (v := 0) hx hb dX8_copyFrom_9 (by decide) ?_
  refine lv_bipush (v := 12) hx hb dX8_copyFrom_10 (by decide) ?_
  refine tw_copy (ty := .int) hx hb (hml.trans hl.1.symm) hown (ht_at2 hts 1 rfl) (ht_at2 hts 2 rfl) (ht_at2 hts 3 rfl) (ht_at2 hts 4 rfl) hK hT hG hS hg3 hg6 shc_19 shc_71 rfl rfl (by decide) (by decide) (by decide) (by decide) (by decide) (fun _ _ h9 => by obtain ⟨x9, e9, _⟩ := h9; exact ⟨x9, e9, rfl⟩) (fun _ _ _ h9 => h9) (Nat.le_of_ble_eq_true rfl) (Nat.le_of_ble_eq_true rfl) dX8_copyFrom_12 (fun H locs hT oq hS => ?_)
  have hF := hF.ast hg6 skc_71 oq (by decide)
  refine lv_aload_n hx hb dX8_copyFrom_15 rfl (lv_at hl 1 rfl) ?_
  refine tw_get hx hb hts bF2_X8 hown hK hT hr_p0 shc_11 rfl 1 (by decide) (ht_at2 hts 5 rfl) (fun _ h9 => h9) dX8_copyFrom_16 (fun v9 m9 h9 => ?_)
  obtain ⟨b10, rfl, hg11⟩ := h9 _ rfl
  refine lv_iconst (v := 0) hx hb dX8_copyFrom_19 (by decide) ?_
  refine lv_aload_n hx hb dX8_copyFrom_20 rfl (lv_at hl 0 rfl) ?_
  refine tw_get hx hb hts bF2_X8 hown hK hT hr_o0 shc_91 rfl 1 (by decide) (ht_at2 hts 5 rfl) (fun _ h9 => h9) dX8_copyFrom_21 (fun v9 m12 h9 => ?_)
  obtain ⟨b13, rfl, hg14⟩ := h9 _ rfl
  refine lv_iconst (v := 0) hx hb dX8_copyFrom_24 (by decide) ?_
  refine lv_bipush (v := 20) hx hb dX8_copyFrom_25 (by decide) ?_
  refine tw_copy (ty := .int) hx hb (hml.trans hl.1.symm) hown (ht_at2 hts 1 rfl) (ht_at2 hts 2 rfl) (ht_at2 hts 3 rfl) (ht_at2 hts 4 rfl) hK hT hG hS hg11 hg14 shc_20 shc_72 rfl rfl (by decide) (by decide) (by decide) (by decide) (by decide) (fun _ _ h9 => by obtain ⟨x9, e9, _⟩ := h9; exact ⟨x9, e9, rfl⟩) (fun _ _ _ h9 => h9) (Nat.le_of_ble_eq_true rfl) (Nat.le_of_ble_eq_true rfl) dX8_copyFrom_27 (fun H locs hT oq hS => ?_)
  have hF := hF.ast hg14 skc_72 oq (by decide)
  refine lv_aload_n hx hb dX8_copyFrom_30 rfl (lv_at hl 1 rfl) ?_
  refine tw_get hx hb hts bF2_X8 hown hK hT hr_p0 shc_11 rfl 2 (by decide) (ht_at2 hts 6 rfl) (fun _ h9 => h9) dX8_copyFrom_31 (fun v9 m19 h9 => ?_)
  obtain ⟨b20, rfl, hg21⟩ := h9 _ rfl
  refine lv_iconst (v := 0) hx hb dX8_copyFrom_34 (by decide) ?_
  refine lv_aload_n hx hb dX8_copyFrom_35 rfl (lv_at hl 0 rfl) ?_
  refine tw_get hx hb hts bF2_X8 hown hK hT hr_o0 shc_91 rfl 2 (by decide) (ht_at2 hts 6 rfl) (fun _ h9 => h9) dX8_copyFrom_36 (fun v9 m22 h9 => ?_)
  obtain ⟨b23, rfl, hg24⟩ := h9 _ rfl
  refine lv_iconst (v := 0) hx hb dX8_copyFrom_39 (by decide) ?_
  refine lv_bipush (v := 20) hx hb dX8_copyFrom_40 (by decide) ?_
  refine tw_copy (ty := .int) hx hb (hml.trans hl.1.symm) hown (ht_at2 hts 1 rfl) (ht_at2 hts 2 rfl) (ht_at2 hts 3 rfl) (ht_at2 hts 4 rfl) hK hT hG hS hg21 hg24 shc_21 shc_73 rfl rfl (by decide) (by decide) (by decide) (by decide) (by decide) (fun _ _ h9 => by obtain ⟨x9, e9, _⟩ := h9; exact ⟨x9, e9, rfl⟩) (fun _ _ _ h9 => h9) (Nat.le_of_ble_eq_true rfl) (Nat.le_of_ble_eq_true rfl) dX8_copyFrom_42 (fun H locs hT oq hS => ?_)
  have hF := hF.ast hg24 skc_73 oq (by decide)
  refine lv_aload_n hx hb dX8_copyFrom_45 rfl (lv_at hl 1 rfl) ?_
  refine tw_get hx hb hts bF2_X8 hown hK hT hr_p0 shc_11 rfl 3 (by decide) (ht_at2 hts 7 rfl) (fun _ h9 => h9) dX8_copyFrom_46 (fun v9 m31 h9 => ?_)
  obtain ⟨b32, rfl, hg33⟩ := h9 _ rfl
  refine lv_iconst (v := 0) hx hb dX8_copyFrom_49 (by decide) ?_
  refine lv_aload_n hx hb dX8_copyFrom_50 rfl (lv_at hl 0 rfl) ?_
  refine tw_get hx hb hts bF2_X8 hown hK hT hr_o0 shc_91 rfl 3 (by decide) (ht_at2 hts 7 rfl) (fun _ h9 => h9) dX8_copyFrom_51 (fun v9 m34 h9 => ?_)
  obtain ⟨b35, rfl, hg36⟩ := h9 _ rfl
  refine lv_iconst (v := 0) hx hb dX8_copyFrom_54 (by decide) ?_
  refine lv_bipush (v := 20) hx hb dX8_copyFrom_55 (by decide) ?_
  refine tw_copy (ty := .int) hx hb (hml.trans hl.1.symm) hown (ht_at2 hts 1 rfl) (ht_at2 hts 2 rfl) (ht_at2 hts 3 rfl) (ht_at2 hts 4 rfl) hK hT hG hS hg33 hg36 shc_22 shc_74 rfl rfl (by decide) (by decide) (by decide) (by decide) (by decide) (fun _ _ h9 => by obtain ⟨x9, e9, _⟩ := h9; exact ⟨x9, e9, rfl⟩) (fun _ _ _ h9 => h9) (Nat.le_of_ble_eq_true rfl) (Nat.le_of_ble_eq_true rfl) dX8_copyFrom_57 (fun H locs hT oq hS => ?_)
  have hF := hF.ast hg36 skc_74 oq (by decide)
  refine lv_aload_n hx hb dX8_copyFrom_60 rfl (lv_at hl 0 rfl) ?_
  refine tw_get hx hb hts bF2_X8 hown hK hT hr_o0 shc_91 rfl 4 (by decide) (ht_at2 hts 8 rfl) (fun _ h9 => h9) dX8_copyFrom_61 (fun v9 m45 h9 => ?_)
  obtain ⟨b46, rfl, hg47⟩ := h9 _ rfl
  refine lv_aload_n hx hb dX8_copyFrom_64 rfl (lv_at hl 1 rfl) ?_
  refine tw_get hx hb hts bF2_X8 hown hK hT hr_p0 shc_11 rfl 4 (by decide) (ht_at2 hts 8 rfl) (fun _ h9 => h9) dX8_copyFrom_65 (fun v9 m48 h9 => ?_)
  obtain ⟨b49, rfl, hg50⟩ := h9 _ rfl
  have hFc := gA_free hG hA hS
  refine va_callv (va_runV (As := [.ref b49]) (rest := []) ⟨hx, hb, hml, hown, hts⟩ (c_copyT_i l dC dI kA adK adV G H nC nS b46 b49 hT hg47 hg50 (by omega) (by omega)) (cwV 1 hts (goodIn_app (goodIn_r _ [15, 16, 17, 18] rfl (by decide +kernel)) (goodIn_ca (goodIn_r _ [10, 11, 12, 3, 4, 5, 13, 14] rfl (by decide +kernel)) (bs2_in _ _))) rfl rfl rfl (by decide +kernel) ⟨(Nat.le_of_ble_eq_true rfl), (Nat.le_of_ble_eq_true rfl)⟩) ⟨fun a U g mk q => by obtain ⟨q0, q1, qK, qE⟩ := q; exact ⟨q0, q1, va_K.moved (u := U) (U := U.calling g mk a) (Vm.Alike.refl U.vm) qK, EVC.blind g mk a qE⟩, gH_rc hK hT hg47 shc_92 rfl, fun U hU hW => ⟨rfl, hU, va_K.moved hW.alike hK, hE.call hS hFc hU hW⟩⟩ rfl rfl hl.1 rfl (lv_room (Nat.le_of_ble_eq_true rfl)) dX8_copyFrom_68 ⟨(Nat.le_of_ble_eq_true rfl), (Nat.le_of_ble_eq_true rfl)⟩) hS (fun q _ h => hFc q h) hFc (fun u t H locs ht hvm hw52 hB _ _ hS => ?_)
  obtain ⟨hT, hF1⟩ := hB
  rw [ht] at hT hF1
  have hF := hF.more hF1 (by decide)
  try dsimp only at hw52
  refine lv_aload_n hx hb dX8_copyFrom_71 rfl (lv_at hl 0 rfl) ?_
  refine tw_get hx hb hts bF2_X8 hown hK hT hr_o0 shc_91 rfl 5 (by decide) (ht_at2 hts 18 rfl) (fun _ h9 => h9) dX8_copyFrom_72 (fun v9 m63 h9 => ?_)
  obtain ⟨b64, rfl, hg65⟩ := h9 _ rfl
  refine lv_aload_n hx hb dX8_copyFrom_75 rfl (lv_at hl 1 rfl) ?_
  refine tw_get hx hb hts bF2_X8 hown hK hT hr_p0 shc_11 rfl 5 (by decide) (ht_at2 hts 18 rfl) (fun _ h9 => h9) dX8_copyFrom_76 (fun v9 m66 h9 => ?_)
  obtain ⟨b67, rfl, hg68⟩ := h9 _ rfl
  have hFc := gA_free hG hA hS
  refine va_callv (va_runV (As := [.ref b67]) (rest := []) ⟨hx, hb, hml, hown, hts⟩ (c_copyT_i l dC dI kA adK adV G H nC nS b64 b67 hT hg65 hg68 (by omega) (by omega)) (cwV 1 hts (goodIn_app (goodIn_r _ [15, 16, 17, 18] rfl (by decide +kernel)) (goodIn_ca (goodIn_r _ [10, 11, 12, 3, 4, 5, 13, 14] rfl (by decide +kernel)) (bs2_in _ _))) rfl rfl rfl (by decide +kernel) ⟨(Nat.le_of_ble_eq_true rfl), (Nat.le_of_ble_eq_true rfl)⟩) ⟨fun a U g mk q => by obtain ⟨q0, q1, qK, qE⟩ := q; exact ⟨q0, q1, va_K.moved (u := U) (U := U.calling g mk a) (Vm.Alike.refl U.vm) qK, EVC.blind g mk a qE⟩, gH_rc hK hT hg65 shc_92 rfl, fun U hU hW => ⟨rfl, hU, va_K.moved hW.alike hK, hE.call hS hFc hU hW⟩⟩ rfl rfl hl.1 rfl (lv_room (Nat.le_of_ble_eq_true rfl)) dX8_copyFrom_79 ⟨(Nat.le_of_ble_eq_true rfl), (Nat.le_of_ble_eq_true rfl)⟩) hS (fun q _ h => hFc q h) hFc (fun u t H locs ht hvm hw70 hB _ _ hS => ?_)
  obtain ⟨hT, hF1⟩ := hB
  rw [ht] at hT hF1
  have hF := hF.more hF1 (by decide)
  try dsimp only at hw70
  refine lv_aload_n hx hb dX8_copyFrom_82 rfl (lv_at hl 0 rfl) ?_
  refine lv_aload_n hx hb dX8_copyFrom_83 rfl (lv_at hl 1 rfl) ?_
  refine tw_get hx hb hts bF2_X8 hown hK hT hr_p0 shc_11 rfl 6 (by decide) (ht_at2 hts 19 rfl) (fun _ h9 => h9) dX8_copyFrom_84 (fun v9 m83 h9 => ?_)
  obtain ⟨x84, rfl, gx84, kx84⟩ := h9 _ rfl
  refine tw_put (v := .int x84) (ty := .int) hx hb hts bF2_X8 tyX8 tyX8_ok nmX8 hown hK hT hG hS hr_o0 shc_91 rfl 6 (by decide) (ht_at2 hts 19 rfl) (fun _ h9 => h9) rfl (by decide +kernel) rfl rfl (gl_at rfl (gi_of (show x84.toInt = x84.toInt from rfl) (by omega) (by omega))) dX8_copyFrom_87 (fun H locs hT oq m85 oj hS => ?_)
  have hF := hF.put hr_o0 skc_91 oq oj (by decide)
  exact W.vret hx hb hr (fun t ht hW => ⟨⟨(), rfl, (by exact trivial), by (try dsimp only); rw [ht]; exact ⟨hT, hF⟩⟩, hS.F ht⟩) hS.2.2 dX8_copyFrom_90
def w_c_copyS_l : List Cond := .code yX8_copyFrom cX8_copyFrom 2 none :: (HAppend.hAppend (α := List Cond) (β := List Cond) (γ := List Cond) [.fieldLink RX8 9 "SeaLand$Sky" "tides" "[I", .methodLink RX8 63 arraycopyName, .native arraycopyName, .static arraycopyName, .initialized "java/lang/System", .fieldLink RX8 15 "SeaLand$Sky" "stormFrom" "[I", .fieldLink RX8 18 "SeaLand$Sky" "stormTo" "[I", .fieldLink RX8 21 "SeaLand$Sky" "stormMore" "[I", .fieldLink RX8 27 "SeaLand$Sky" "wind" "LSeaLand$Tellings;", .code yX9_copyFrom cX9_copyFrom 2 none, .fieldLink RX9 9 "SeaLand$Tellings" "hours" "[I", .methodLink RX9 23 arraycopyName, .fieldLink RX9 15 "SeaLand$Tellings" "numbers" "[I", .fieldLink RX9 18 "SeaLand$Tellings" "told" "I", .methodLink RX8 69 yX9_copyFrom, .instanceMethod yX9_copyFrom, .selects RX9 yX9_copyFrom yX9_copyFrom, .initialized RX9, .fieldLink RX8 31 "SeaLand$Sky" "rain" "LSeaLand$Tellings;", .fieldLink RX8 34 "SeaLand$Sky" "storms" "I"] bs2)
set_option maxHeartbeats 4000000 in
set_option maxRecDepth 100000 in
theorem c_copyS_l (l : Launch) (dC : Nat → ClassId) (dI : Nat → Nat → Nat) (kA : Nat → ClassId) (adK adV : Nat → Nat) (G : gT) (H0 : Heap) (nC nS : Int) (o0 : Nat) (p0 : Nat)  (hT : gH (dC, dI) kA (SHc nC nS) G H0) (hr_o0 : G o0 = some 11) (hr_p0 : G p0 = some 91) (hgC : 0 ≤ nC ∧ nC ≤ 40) (hgS : 0 ≤ nS ∧ nS ≤ 60) : Met l yX8_copyFrom w_c_copyS_l ({ frames := 3, cells := 0, slots := 0, locals := 81 }) (va_Pc [.ref o0, .ref p0] (fun U => U.heap = H0 ∧ va_K (dC, dI) vwCl (tyl kA) U ∧ EVC adK adV (gA G H0.size) U U.heap)) (va_Qv (fun (u : Unit) => True) (fun (_ : Unit) (t : State) => gH (dC, dI) kA (SHc nC nS) G t.heap ∧ gF (dC, dI) SKc G ([(11, 6), (12, 2), (19, 0), (20, 0), (21, 0), (22, 0), (23, 0), (24, 0)] : List (Nat × Nat)) H0 t.heap) (gA G H0.size)) 0 0 (gA G H0.size) := by
  refine Met.ofW (cc := cX8_copyFrom) (maxL := 2) (ret := none) (by decide) rfl ?_
  intro p e s m args below meth c s₁ B hml hv
  obtain ⟨rfl, hH0, hK, hE⟩ := hv
  have hx := B.exec
  have hb := B.bytes
  have hr := B.returns
  have hts := atoms_spec (ws := w_c_copyS_l) B.pre
  have hown : s.vm.findClass RX8 = some m.cls := findClass_of_methodNamed B.named
  have hlocks := B.notSynchronized
  subst hH0
  generalize hAe : gA G s.heap.size = A at hE ⊢
  have hA : ∀ q : Nat, s.heap.size ≤ q → A q := fun q h => by rw [← hAe]; exact Or.inr h
  have hG := gA_of hAe
  have hS : va_S A s.heap s.heap [] := va_S.rf
  have hF : gF (dC, dI) SKc G ([(11, 6), (12, 2), (19, 0), (20, 0), (21, 0), (22, 0), (23, 0), (24, 0)] : List (Nat × Nat)) s.heap s.heap := gF.rf
  have hl := lv_entry ([.ref o0, .ref p0]) (n := 2) (Nat.le_of_ble_eq_true rfl)
  rw [lg_entry_eq]
  generalize (lg_sl ([.ref o0, .ref p0]) ++ List.replicate (2 - (lg_sl ([.ref o0, .ref p0])).length) Slot.unset).toArray = ls at hl ⊢
  have hl : lv_has ls 2 [(0, .ref o0), (1, .ref p0)] := hl
  refine lv_aload_n hx hb dX8_copyFrom_0 rfl (lv_at hl 1 rfl) ?_
  refine tw_get hx hb hts bF2_X8 hown hK hT hr_p0 shc_91 rfl 0 (by decide) (ht_at2 hts 0 rfl) (fun _ h9 => h9) dX8_copyFrom_1 (fun v9 m1 h9 => ?_)
  obtain ⟨b2, rfl, hg3⟩ := h9 _ rfl
  refine lv_iconst (v := 0) hx hb dX8_copyFrom_4 (by decide) ?_
  refine lv_aload_n hx hb dX8_copyFrom_5 rfl (lv_at hl 0 rfl) ?_
  refine tw_get hx hb hts bF2_X8 hown hK hT hr_o0 shc_11 rfl 0 (by decide) (ht_at2 hts 0 rfl) (fun _ h9 => h9) dX8_copyFrom_6 (fun v9 m4 h9 => ?_)
  obtain ⟨b5, rfl, hg6⟩ := h9 _ rfl
  refine lv_iconst (v := 0) hx hb dX8_copyFrom_9 (by decide) ?_
  refine lv_bipush (v := 12) hx hb dX8_copyFrom_10 (by decide) ?_
  refine tw_copy (ty := .int) hx hb (hml.trans hl.1.symm) hown (ht_at2 hts 1 rfl) (ht_at2 hts 2 rfl) (ht_at2 hts 3 rfl) (ht_at2 hts 4 rfl) hK hT hG hS hg3 hg6 shc_71 shc_19 rfl rfl (by decide) (by decide) (by decide) (by decide) (by decide) (fun _ _ h9 => by obtain ⟨x9, e9, _⟩ := h9; exact ⟨x9, e9, rfl⟩) (fun _ _ _ h9 => h9) (Nat.le_of_ble_eq_true rfl) (Nat.le_of_ble_eq_true rfl) dX8_copyFrom_12 (fun H locs hT oq hS => ?_)
  have hF := hF.ast hg6 skc_19 oq (by decide)
  refine lv_aload_n hx hb dX8_copyFrom_15 rfl (lv_at hl 1 rfl) ?_
  refine tw_get hx hb hts bF2_X8 hown hK hT hr_p0 shc_91 rfl 1 (by decide) (ht_at2 hts 5 rfl) (fun _ h9 => h9) dX8_copyFrom_16 (fun v9 m9 h9 => ?_)
  obtain ⟨b10, rfl, hg11⟩ := h9 _ rfl
  refine lv_iconst (v := 0) hx hb dX8_copyFrom_19 (by decide) ?_
  refine lv_aload_n hx hb dX8_copyFrom_20 rfl (lv_at hl 0 rfl) ?_
  refine tw_get hx hb hts bF2_X8 hown hK hT hr_o0 shc_11 rfl 1 (by decide) (ht_at2 hts 5 rfl) (fun _ h9 => h9) dX8_copyFrom_21 (fun v9 m12 h9 => ?_)
  obtain ⟨b13, rfl, hg14⟩ := h9 _ rfl
  refine lv_iconst (v := 0) hx hb dX8_copyFrom_24 (by decide) ?_
  refine lv_bipush (v := 20) hx hb dX8_copyFrom_25 (by decide) ?_
  refine tw_copy (ty := .int) hx hb (hml.trans hl.1.symm) hown (ht_at2 hts 1 rfl) (ht_at2 hts 2 rfl) (ht_at2 hts 3 rfl) (ht_at2 hts 4 rfl) hK hT hG hS hg11 hg14 shc_72 shc_20 rfl rfl (by decide) (by decide) (by decide) (by decide) (by decide) (fun _ _ h9 => by obtain ⟨x9, e9, _⟩ := h9; exact ⟨x9, e9, rfl⟩) (fun _ _ _ h9 => h9) (Nat.le_of_ble_eq_true rfl) (Nat.le_of_ble_eq_true rfl) dX8_copyFrom_27 (fun H locs hT oq hS => ?_)
  have hF := hF.ast hg14 skc_20 oq (by decide)
  refine lv_aload_n hx hb dX8_copyFrom_30 rfl (lv_at hl 1 rfl) ?_
  refine tw_get hx hb hts bF2_X8 hown hK hT hr_p0 shc_91 rfl 2 (by decide) (ht_at2 hts 6 rfl) (fun _ h9 => h9) dX8_copyFrom_31 (fun v9 m19 h9 => ?_)
  obtain ⟨b20, rfl, hg21⟩ := h9 _ rfl
  refine lv_iconst (v := 0) hx hb dX8_copyFrom_34 (by decide) ?_
  refine lv_aload_n hx hb dX8_copyFrom_35 rfl (lv_at hl 0 rfl) ?_
  refine tw_get hx hb hts bF2_X8 hown hK hT hr_o0 shc_11 rfl 2 (by decide) (ht_at2 hts 6 rfl) (fun _ h9 => h9) dX8_copyFrom_36 (fun v9 m22 h9 => ?_)
  obtain ⟨b23, rfl, hg24⟩ := h9 _ rfl
  refine lv_iconst (v := 0) hx hb dX8_copyFrom_39 (by decide) ?_
  refine lv_bipush (v := 20) hx hb dX8_copyFrom_40 (by decide) ?_
  refine tw_copy (ty := .int) hx hb (hml.trans hl.1.symm) hown (ht_at2 hts 1 rfl) (ht_at2 hts 2 rfl) (ht_at2 hts 3 rfl) (ht_at2 hts 4 rfl) hK hT hG hS hg21 hg24 shc_73 shc_21 rfl rfl (by decide) (by decide) (by decide) (by decide) (by decide) (fun _ _ h9 => by obtain ⟨x9, e9, _⟩ := h9; exact ⟨x9, e9, rfl⟩) (fun _ _ _ h9 => h9) (Nat.le_of_ble_eq_true rfl) (Nat.le_of_ble_eq_true rfl) dX8_copyFrom_42 (fun H locs hT oq hS => ?_)
  have hF := hF.ast hg24 skc_21 oq (by decide)
  refine lv_aload_n hx hb dX8_copyFrom_45 rfl (lv_at hl 1 rfl) ?_
  refine tw_get hx hb hts bF2_X8 hown hK hT hr_p0 shc_91 rfl 3 (by decide) (ht_at2 hts 7 rfl) (fun _ h9 => h9) dX8_copyFrom_46 (fun v9 m31 h9 => ?_)
  obtain ⟨b32, rfl, hg33⟩ := h9 _ rfl
  refine lv_iconst (v := 0) hx hb dX8_copyFrom_49 (by decide) ?_
  refine lv_aload_n hx hb dX8_copyFrom_50 rfl (lv_at hl 0 rfl) ?_
  refine tw_get hx hb hts bF2_X8 hown hK hT hr_o0 shc_11 rfl 3 (by decide) (ht_at2 hts 7 rfl) (fun _ h9 => h9) dX8_copyFrom_51 (fun v9 m34 h9 => ?_)
  obtain ⟨b35, rfl, hg36⟩ := h9 _ rfl
  refine lv_iconst (v := 0) hx hb dX8_copyFrom_54 (by decide) ?_
  refine lv_bipush (v := 20) hx hb dX8_copyFrom_55 (by decide) ?_
  refine tw_copy (ty := .int) hx hb (hml.trans hl.1.symm) hown (ht_at2 hts 1 rfl) (ht_at2 hts 2 rfl) (ht_at2 hts 3 rfl) (ht_at2 hts 4 rfl) hK hT hG hS hg33 hg36 shc_74 shc_22 rfl rfl (by decide) (by decide) (by decide) (by decide) (by decide) (fun _ _ h9 => by obtain ⟨x9, e9, _⟩ := h9; exact ⟨x9, e9, rfl⟩) (fun _ _ _ h9 => h9) (Nat.le_of_ble_eq_true rfl) (Nat.le_of_ble_eq_true rfl) dX8_copyFrom_57 (fun H locs hT oq hS => ?_)
  have hF := hF.ast hg36 skc_22 oq (by decide)
  refine lv_aload_n hx hb dX8_copyFrom_60 rfl (lv_at hl 0 rfl) ?_
  refine tw_get hx hb hts bF2_X8 hown hK hT hr_o0 shc_11 rfl 4 (by decide) (ht_at2 hts 8 rfl) (fun _ h9 => h9) dX8_copyFrom_61 (fun v9 m45 h9 => ?_)
  obtain ⟨b46, rfl, hg47⟩ := h9 _ rfl
  refine lv_aload_n hx hb dX8_copyFrom_64 rfl (lv_at hl 1 rfl) ?_
  refine tw_get hx hb hts bF2_X8 hown hK hT hr_p0 shc_91 rfl 4 (by decide) (ht_at2 hts 8 rfl) (fun _ h9 => h9) dX8_copyFrom_65 (fun v9 m48 h9 => ?_)
  obtain ⟨b49, rfl, hg50⟩ := h9 _ rfl
  have hFc := gA_free hG hA hS
  refine va_callv (va_runV (As := [.ref b49]) (rest := []) ⟨hx, hb, hml, hown, hts⟩ (c_copyT_l l dC dI kA adK adV G H nC nS b46 b49 hT hg47 hg50 (by omega) (by omega)) (cwV 1 hts (goodIn_app (goodIn_r _ [15, 16, 17, 18] rfl (by decide +kernel)) (goodIn_ca (goodIn_r _ [10, 11, 12, 3, 4, 5, 13, 14] rfl (by decide +kernel)) (bs2_in _ _))) rfl rfl rfl (by decide +kernel) ⟨(Nat.le_of_ble_eq_true rfl), (Nat.le_of_ble_eq_true rfl)⟩) ⟨fun a U g mk q => by obtain ⟨q0, q1, qK, qE⟩ := q; exact ⟨q0, q1, va_K.moved (u := U) (U := U.calling g mk a) (Vm.Alike.refl U.vm) qK, EVC.blind g mk a qE⟩, gH_rc hK hT hg47 shc_12 rfl, fun U hU hW => ⟨rfl, hU, va_K.moved hW.alike hK, hE.call hS hFc hU hW⟩⟩ rfl rfl hl.1 rfl (lv_room (Nat.le_of_ble_eq_true rfl)) dX8_copyFrom_68 ⟨(Nat.le_of_ble_eq_true rfl), (Nat.le_of_ble_eq_true rfl)⟩) hS (fun q _ h => hFc q h) hFc (fun u t H locs ht hvm hw52 hB _ _ hS => ?_)
  obtain ⟨hT, hF1⟩ := hB
  rw [ht] at hT hF1
  have hF := hF.more hF1 (by decide)
  try dsimp only at hw52
  refine lv_aload_n hx hb dX8_copyFrom_71 rfl (lv_at hl 0 rfl) ?_
  refine tw_get hx hb hts bF2_X8 hown hK hT hr_o0 shc_11 rfl 5 (by decide) (ht_at2 hts 18 rfl) (fun _ h9 => h9) dX8_copyFrom_72 (fun v9 m63 h9 => ?_)
  obtain ⟨b64, rfl, hg65⟩ := h9 _ rfl
  refine lv_aload_n hx hb dX8_copyFrom_75 rfl (lv_at hl 1 rfl) ?_
  refine tw_get hx hb hts bF2_X8 hown hK hT hr_p0 shc_91 rfl 5 (by decide) (ht_at2 hts 18 rfl) (fun _ h9 => h9) dX8_copyFrom_76 (fun v9 m66 h9 => ?_)
  obtain ⟨b67, rfl, hg68⟩ := h9 _ rfl
  have hFc := gA_free hG hA hS
  refine va_callv (va_runV (As := [.ref b67]) (rest := []) ⟨hx, hb, hml, hown, hts⟩ (c_copyT_l l dC dI kA adK adV G H nC nS b64 b67 hT hg65 hg68 (by omega) (by omega)) (cwV 1 hts (goodIn_app (goodIn_r _ [15, 16, 17, 18] rfl (by decide +kernel)) (goodIn_ca (goodIn_r _ [10, 11, 12, 3, 4, 5, 13, 14] rfl (by decide +kernel)) (bs2_in _ _))) rfl rfl rfl (by decide +kernel) ⟨(Nat.le_of_ble_eq_true rfl), (Nat.le_of_ble_eq_true rfl)⟩) ⟨fun a U g mk q => by obtain ⟨q0, q1, qK, qE⟩ := q; exact ⟨q0, q1, va_K.moved (u := U) (U := U.calling g mk a) (Vm.Alike.refl U.vm) qK, EVC.blind g mk a qE⟩, gH_rc hK hT hg65 shc_12 rfl, fun U hU hW => ⟨rfl, hU, va_K.moved hW.alike hK, hE.call hS hFc hU hW⟩⟩ rfl rfl hl.1 rfl (lv_room (Nat.le_of_ble_eq_true rfl)) dX8_copyFrom_79 ⟨(Nat.le_of_ble_eq_true rfl), (Nat.le_of_ble_eq_true rfl)⟩) hS (fun q _ h => hFc q h) hFc (fun u t H locs ht hvm hw70 hB _ _ hS => ?_)
  obtain ⟨hT, hF1⟩ := hB
  rw [ht] at hT hF1
  have hF := hF.more hF1 (by decide)
  try dsimp only at hw70
  refine lv_aload_n hx hb dX8_copyFrom_82 rfl (lv_at hl 0 rfl) ?_
  refine lv_aload_n hx hb dX8_copyFrom_83 rfl (lv_at hl 1 rfl) ?_
  refine tw_get hx hb hts bF2_X8 hown hK hT hr_p0 shc_91 rfl 6 (by decide) (ht_at2 hts 19 rfl) (fun _ h9 => h9) dX8_copyFrom_84 (fun v9 m83 h9 => ?_)
  obtain ⟨x84, rfl, gx84, kx84⟩ := h9 _ rfl
  refine tw_put (v := .int x84) (ty := .int) hx hb hts bF2_X8 tyX8 tyX8_ok nmX8 hown hK hT hG hS hr_o0 shc_11 rfl 6 (by decide) (ht_at2 hts 19 rfl) (fun _ h9 => h9) rfl (by decide +kernel) rfl rfl (gl_at rfl (gi_of (show x84.toInt = x84.toInt from rfl) (by omega) (by omega))) dX8_copyFrom_87 (fun H locs hT oq m85 oj hS => ?_)
  have hF := hF.put hr_o0 skc_11 oq oj (by decide)
  exact W.vret hx hb hr (fun t ht hW => ⟨⟨(), rfl, (by exact trivial), by (try dsimp only); rw [ht]; exact ⟨hT, hF⟩⟩, hS.F ht⟩) hS.2.2 dX8_copyFrom_90
