def w_c_gatherEngines : List Cond := .code yX5_gatherEngines cX5_gatherEngines 4 none :: (HAppend.hAppend (α := List Cond) (β := List Cond) (γ := List Cond) [.fieldLink RX5 76 "SeaLand$Plans" "engines" "I", .fieldLink RX5 13 "SeaLand$Plans" "liftOf" "[I"] bs2)
set_option maxHeartbeats 4000000 in
set_option maxRecDepth 100000 in
theorem c_gatherEngines (l : Launch) (dC : Nat → ClassId) (dI : Nat → Nat → Nat) (kA : Nat → ClassId) (adK adV : Nat → Nat) (G : gT) (H0 : Heap) (nC nS : Int) (o0 : Nat) (p0 : Nat)  (hT : gH (dC, dI) kA (SHc nC nS) G H0) (hr_p0 : G p0 = some 6) (hr_o0 : G o0 = some 8) (hgC : 0 ≤ nC ∧ nC ≤ 40) (hgS : 0 ≤ nS ∧ nS ≤ 60) : Met l yX5_gatherEngines w_c_gatherEngines ({ frames := 0, cells := 0, slots := 0, locals := 0 }) (va_Pc [.ref o0, .ref p0] (fun U => U.heap = H0 ∧ va_K (dC, dI) vwCl (tyl kA) U ∧ EVC adK adV (gA G H0.size) U U.heap)) (va_Qv (fun (u : Unit) => True) (fun (_ : Unit) (t : State) => gH (dC, dI) kA (SHc nC nS) G t.heap ∧ gF (dC, dI) SKc G ([(8, 12), (58, 0)] : List (Nat × Nat)) H0 t.heap) (gA G H0.size)) 0 0 (gA G H0.size) := by
  refine Met.ofW (cc := cX5_gatherEngines) (maxL := 4) (ret := none) (by decide) rfl ?_
  intro p e s m args below meth c s₁ B hml hv
  obtain ⟨rfl, hH0, hK, hE⟩ := hv
  have hx := B.exec
  have hb := B.bytes
  have hr := B.returns
  have hts := atoms_spec (ws := w_c_gatherEngines) B.pre
  have hown : s.vm.findClass RX5 = some m.cls := findClass_of_methodNamed B.named
  have hlocks := B.notSynchronized
  subst hH0
  generalize hAe : gA G s.heap.size = A at hE ⊢
  have hA : ∀ q : Nat, s.heap.size ≤ q → A q := fun q h => by rw [← hAe]; exact Or.inr h
  have hG := gA_of hAe
  have hS : va_S A s.heap s.heap [] := va_S.rf
  have hF : gF (dC, dI) SKc G ([(8, 12), (58, 0)] : List (Nat × Nat)) s.heap s.heap := gF.rf
  have hl := lv_entry ([.ref o0, .ref p0]) (n := 4) (Nat.le_of_ble_eq_true rfl)
  rw [lg_entry_eq]
  generalize (lg_sl ([.ref o0, .ref p0]) ++ List.replicate (4 - (lg_sl ([.ref o0, .ref p0])).length) Slot.unset).toArray = ls at hl ⊢
  have hl : lv_has ls 4 [(0, .ref o0), (1, .ref p0)] := hl
  refine lv_aload_n hx hb dX5_gatherEngines_0 rfl (lv_at hl 0 rfl) ?_
  refine lv_iconst (v := 0) hx hb dX5_gatherEngines_1 (by decide) ?_
  refine tw_put (v := .int 0) (ty := .int) hx hb hts bF2_X5 tyX5 tyX5_ok nmX5 hown hK hT hG hS hr_o0 shc_8 rfl 12 (by decide) (ht_at2 hts 0 rfl) (fun _ h9 => h9) rfl (by decide +kernel) rfl rfl (gl_at rfl (gi_of (show (0 : Int32).toInt = 0 from (by decide)) (by first | decide | omega) (by first | decide | omega))) dX5_gatherEngines_2 (fun H locs hT oq m1 oj hS => ?_)
  have hF := hF.put hr_o0 skc_8 oq oj (by decide)
  refine lv_iconst (v := 0) hx hb dX5_gatherEngines_5 (by decide) ?_
  refine lv_istore_n (lv' := [(2, .int 0), (0, .ref o0), (1, .ref p0)]) hx hb dX5_gatherEngines_6 rfl hl (by decide) rfl (fun ls hl => ?_)
  have jn746 : ∀ (z738 : Int32), ∀ (z740 : Int32), ∀ (z743 : Int32), ((0 ≤ z738.toInt ∧ z738.toInt ≤ 30) ∧ (0 ≤ z740.toInt ∧ z740.toInt ≤ 5) ∧ (0 ≤ z743.toInt ∧ z743.toInt ≤ 30)) → ∀ (H : Heap) (locs : List Loc), gH (dC, dI) kA (SHc nC nS) G H → gF (dC, dI) SKc G ([(8, 12), (58, 0)] : List (Nat × Nat)) s.heap H → va_S A s.heap H locs → el H o0 (dI 8 12) = some (.int z740) → el H p0 (dI 6 3) = some (.int z743) → ∀ ls : Array Slot, lv_has ls 4 [(2, .int z738), (0, .ref o0), (1, .ref p0)] → W p l e (headSpec w_c_gatherEngines ({ frames := 0, cells := 0, slots := 0, locals := 0 })).room s m #[.ref o0, .ref p0] below meth c H locs 0 0 (MQ below (va_Qv (fun (u : Unit) => True) (fun (_ : Unit) (t : State) => gH (dC, dI) kA (SHc nC nS) G t.heap ∧ gF (dC, dI) SKc G ([(8, 12), (58, 0)] : List (Nat × Nat)) s.heap t.heap) A) #[.ref o0, .ref p0] s 0 0 A) (F0 m 117 ls []) := by
    intro z738 z740 z743 ⟨h739, h741, h744⟩ H locs hT hF hS m742 m745 ls hl
    refine lv_aload_n hx hb dX5_gatherEngines_117 rfl (lv_at hl 1 rfl) ?_
    refine tw_get hx hb hts bF2_X5 hown hK hT hr_o0 shc_8 rfl 0 (by decide) (ht_at2 hts 1 rfl) (fun _ h9 => h9) dX5_gatherEngines_118 (fun v9 m747 h9 => ?_)
    obtain ⟨b748, rfl, hg749⟩ := h9 _ rfl
    refine lv_iconst (v := 0) hx hb dX5_gatherEngines_121 (by decide) ?_
    refine lv_iconst (v := 0) hx hb dX5_gatherEngines_122 (by decide) ?_
    refine tw_iast (i := 0) (x := 0) hx hb hK hT hG hS hg749 shc_58 rfl (by unfold vp_in; decide) (gi_all _) dX5_gatherEngines_123 (fun H locs hT oq m750 oi hS => ?_)
    have hF := hF.ast hg749 skc_58 oq (by decide)
    have m751 := (el_kept (oq _ (gne hr_o0 hg749 (by decide)))).trans m742
    have m752 := (el_kept (oq _ (gne hr_p0 hg749 (by decide)))).trans m745
    have m753 := (el_kept (oq _ (gne hr_o0 hg749 (by decide)))).trans m747
    refine lv_iconst (v := 1) hx hb dX5_gatherEngines_124 (by decide) ?_
    refine lv_istore_n (lv' := [(2, .int 1), (0, .ref o0), (1, .ref p0)]) hx hb dX5_gatherEngines_125 rfl hl (by decide) rfl (fun ls hl => ?_)
    have key791 : ∀ (n791 i754 : Nat), i754 + n791 = 6 → 1 ≤ i754 → ∀ (H : Heap) (locs : List Loc), gH (dC, dI) kA (SHc nC nS) G H → gF (dC, dI) SKc G ([(8, 12), (58, 0)] : List (Nat × Nat)) s.heap H → va_S A s.heap H locs → el H o0 (dI 8 12) = some (.int z740) → el H p0 (dI 6 3) = some (.int z743) → el H o0 (dI 8 0) = some (.ref b748) → el H b748 (0 : Int32).toNatClampNeg = some (.int 0) → ∀ ls : Array Slot, lv_has ls 4 [(2, .int (nI i754)), (0, .ref o0), (1, .ref p0)] → W p l e (headSpec w_c_gatherEngines ({ frames := 0, cells := 0, slots := 0, locals := 0 })).room s m #[.ref o0, .ref p0] below meth c H locs 0 0 (MQ below (va_Qv (fun (u : Unit) => True) (fun (_ : Unit) (t : State) => gH (dC, dI) kA (SHc nC nS) G t.heap ∧ gF (dC, dI) SKc G ([(8, 12), (58, 0)] : List (Nat × Nat)) s.heap t.heap) A) #[.ref o0, .ref p0] s 0 0 A) (F0 m 126 ls []) := by
      intro n791
      induction n791 with
      | zero =>
        intro i754 hn791 hlo792  H locs hT hF hS m773 m774 m775 m776 ls hl
        obtain rfl : 6 = i754 := by omega
        refine lv_iload_n hx hb dX5_gatherEngines_126 rfl (lv_at hl 0 rfl) ?_
        refine lv_aload_n hx hb dX5_gatherEngines_127 rfl (lv_at hl 1 rfl) ?_
        refine tw_getM (v := .int z740) hx hb hts bF2_X5 hown hK hT hr_o0 shc_8 rfl 12 (by decide) (ht_at2 hts 0 rfl) (fun _ h9 => h9) m773 dX5_gatherEngines_128 ?_
        refine lv_icmp_gt (tgt := 157) hx hb dX5_gatherEngines_131 (by decide) (fun c793 => ?_) (fun c793 => (by exfalso; have q9 : ((6 : Nat) : Int) ≤ z740.toInt := ti_nlt c793 rfl (nI_toInt (by omega)); omega))
        have t794 : z740.toInt < ((6 : Nat) : Int) := ti_lt c793 rfl (nI_toInt (by omega))
        exact W.vret hx hb hr (fun t ht hW => ⟨⟨(), rfl, (by exact trivial), by (try dsimp only); rw [ht]; exact ⟨hT, hF⟩⟩, hS.F ht⟩) hS.2.2 dX5_gatherEngines_157
      | succ n791 ih791 =>
        intro i754 hn791 hlo792  H locs hT hF hS m773 m774 m775 m776 ls hl
        have hlt794 : i754 < 6 := by omega
        refine lv_iload_n hx hb dX5_gatherEngines_126 rfl (lv_at hl 0 rfl) ?_
        refine lv_aload_n hx hb dX5_gatherEngines_127 rfl (lv_at hl 1 rfl) ?_
        refine tw_getM (v := .int z740) hx hb hts bF2_X5 hown hK hT hr_o0 shc_8 rfl 12 (by decide) (ht_at2 hts 0 rfl) (fun _ h9 => h9) m773 dX5_gatherEngines_128 ?_
        refine lv_icmp_gt (tgt := 157) hx hb dX5_gatherEngines_131 (by decide) (fun c795 => ?_) (fun c795 => ?_)
        · have t796 : z740.toInt < ((i754 : Nat) : Int) := ti_lt c795 rfl (nI_toInt (by omega))
          exact W.vret hx hb hr (fun t ht hW => ⟨⟨(), rfl, (by exact trivial), by (try dsimp only); rw [ht]; exact ⟨hT, hF⟩⟩, hS.F ht⟩) hS.2.2 dX5_gatherEngines_157
        · have t797 : ((i754 : Nat) : Int) ≤ z740.toInt := ti_nlt c795 rfl (nI_toInt (by omega))
          refine lv_aload_n hx hb dX5_gatherEngines_134 rfl (lv_at hl 1 rfl) ?_
          refine tw_getM (v := .ref b748) hx hb hts bF2_X5 hown hK hT hr_o0 shc_8 rfl 0 (by decide) (ht_at2 hts 1 rfl) (fun _ h9 => h9) m775 dX5_gatherEngines_135 ?_
          refine lv_iload_n hx hb dX5_gatherEngines_138 rfl (lv_at hl 0 rfl) ?_
          refine lv_dup2_11 hx hb dX5_gatherEngines_139 rfl rfl ?_
          refine tw_iald (i := (nI i754)) hx hb hK hT hg749 shc_58 rfl (vp_in_nI (by omega) (by decide)) dX5_gatherEngines_140 (fun v9 m798 h9 => ?_)
          obtain ⟨x799, rfl, gx799, kx799⟩ := h9
          refine lv_aload_n hx hb dX5_gatherEngines_141 rfl (lv_at hl 1 rfl) ?_
          refine tw_getM (v := .ref b748) hx hb hts bF2_X5 hown hK hT hr_o0 shc_8 rfl 0 (by decide) (ht_at2 hts 1 rfl) (fun _ h9 => h9) m775 dX5_gatherEngines_142 ?_
          refine lv_iload_n hx hb dX5_gatherEngines_145 rfl (lv_at hl 0 rfl) ?_
          refine lv_iconst (v := 1) hx hb dX5_gatherEngines_146 (by decide) ?_
          refine lv_isub hx hb dX5_gatherEngines_147 ?_
          refine lv_topi (fun x800 ex800 => ?_)
          obtain rfl : nI (i754 - 1) = x800 := (ex800.trans (pk_sub (a := i754) (b := 1) (by omega))).symm
          refine tw_iald (i := (nI (i754 - 1))) hx hb hK hT hg749 shc_58 rfl (vp_in_nI (by omega) (by decide)) dX5_gatherEngines_148 (fun v9 m801 h9 => ?_)
          obtain ⟨x802, rfl, gx802, kx802⟩ := h9
          refine lv_iadd hx hb dX5_gatherEngines_149 ?_
          refine lv_topi (fun x803 ex803 => ?_)
          refine tw_iast (i := (nI i754)) (x := x803) hx hb hK hT hG hS hg749 shc_58 rfl (vp_in_nI (by omega) (by decide)) (gi_all _) dX5_gatherEngines_150 (fun H locs hT oq m804 oi hS => ?_)
          have hF := hF.ast hg749 skc_58 oq (by decide)
          have m805 := (el_kept (oq _ (gne hr_o0 hg749 (by decide)))).trans m773
          have m806 := (el_kept (oq _ (gne hr_p0 hg749 (by decide)))).trans m774
          have m807 := (el_kept (oq _ (gne hr_o0 hg749 (by decide)))).trans m775
          have m808 := (oi _ (tn_ne (show (0 : Int32).toInt = 0 from (by decide)) (show (nI i754).toInt = ((i754 : Nat) : Int) from (nI_toInt (by omega))) (by omega) (by omega) (by omega))).trans m776
          refine lv_iinc (v := nI (i754 + 1)) (lv' := [(2, .int (nI (i754 + 1))), (0, .ref o0), (1, .ref p0)]) hx hb dX5_gatherEngines_151 hl (k := 0) rfl (nI_add i754 1) (by decide) rfl (fun ls hl => ?_)
          refine lv_goto (tgt := 126) hx hb dX5_gatherEngines_154 (by decide) ?_
          exact ih791 (i754 + 1) (by omega) (by omega) _ _ hT hF hS m805 m806 m807 m808 ls (lv_sub hl [0, 1, 2] rfl)
    exact key791 (6 - 1) 1 (by omega) (Nat.le_refl _) _ _ hT hF hS m751 m752 m753 m750 ls (lv_sub hl [0, 1, 2] rfl)
  have key809 : ∀ (n809 i2 : Nat), i2 + n809 = 30 → 0 ≤ i2 → ∀ (z3 : Int32), ((0 ≤ z3.toInt ∧ z3.toInt ≤ 5)) → ∀ (H : Heap) (locs : List Loc), gH (dC, dI) kA (SHc nC nS) G H → gF (dC, dI) SKc G ([(8, 12), (58, 0)] : List (Nat × Nat)) s.heap H → va_S A s.heap H locs → el H o0 (dI 8 12) = some (.int z3) → ∀ ls : Array Slot, lv_has ls 4 [(2, .int (nI i2)), (0, .ref o0), (1, .ref p0)] → W p l e (headSpec w_c_gatherEngines ({ frames := 0, cells := 0, slots := 0, locals := 0 })).room s m #[.ref o0, .ref p0] below meth c H locs 0 0 (MQ below (va_Qv (fun (u : Unit) => True) (fun (_ : Unit) (t : State) => gH (dC, dI) kA (SHc nC nS) G t.heap ∧ gF (dC, dI) SKc G ([(8, 12), (58, 0)] : List (Nat × Nat)) s.heap t.heap) A) #[.ref o0, .ref p0] s 0 0 A) (F0 m 7 ls []) := by
    intro n809
    induction n809 with
    | zero =>
      intro i2 hn809 hlo810 z3 h4 H locs hT hF hS m5 ls hl
      obtain rfl : 30 = i2 := by omega
      refine lv_iload_n hx hb dX5_gatherEngines_7 rfl (lv_at hl 0 rfl) ?_
      refine lv_aload_n hx hb dX5_gatherEngines_8 rfl (lv_at hl 2 rfl) ?_
      refine tw_getN hx hb hts bF2_X3 hown hK hT hr_p0 shc_6 rfl 3 (by decide) (hE.nw 88 rfl) (fun _ h9 => h9) dX5_gatherEngines_9 (fun v9 m811 h9 => ?_)
      obtain ⟨x812, rfl, gx812, kx812⟩ := h9 _ rfl
      refine lv_icmp_ge (tgt := 117) hx hb dX5_gatherEngines_12 (by decide) (fun c813 => ?_) (fun c813 => (by exfalso; have q9 : ((30 : Nat) : Int) < x812.toInt := ti_nle c813 rfl (nI_toInt (by omega)); omega))
      have t814 : x812.toInt ≤ ((30 : Nat) : Int) := ti_le c813 rfl (nI_toInt (by omega))
      exact jn746 (nI 30) z3 x812 ⟨(rg_t (a := ((30 : Nat) : Int)) (nI_toInt (by omega)) (by omega) (by omega)), (by have q8 := ti_all z3; omega), (by have q8 := ti_all x812; omega)⟩ _ _ hT hF hS m5 m811 ls (lv_sub hl [0, 1, 2] rfl)
    | succ n809 ih809 =>
      intro i2 hn809 hlo810 z3 h4 H locs hT hF hS m5 ls hl
      have hlt814 : i2 < 30 := by omega
      refine lv_iload_n hx hb dX5_gatherEngines_7 rfl (lv_at hl 0 rfl) ?_
      refine lv_aload_n hx hb dX5_gatherEngines_8 rfl (lv_at hl 2 rfl) ?_
      refine tw_getN hx hb hts bF2_X3 hown hK hT hr_p0 shc_6 rfl 3 (by decide) (hE.nw 88 rfl) (fun _ h9 => h9) dX5_gatherEngines_9 (fun v9 m815 h9 => ?_)
      obtain ⟨x816, rfl, gx816, kx816⟩ := h9 _ rfl
      refine lv_icmp_ge (tgt := 117) hx hb dX5_gatherEngines_12 (by decide) (fun c817 => ?_) (fun c817 => ?_)
      · have t818 : x816.toInt ≤ ((i2 : Nat) : Int) := ti_le c817 rfl (nI_toInt (by omega))
        exact jn746 (nI i2) z3 x816 ⟨(rg_t (a := ((i2 : Nat) : Int)) (nI_toInt (by omega)) (by omega) (by omega)), (by have q8 := ti_all z3; omega), (by have q8 := ti_all x816; omega)⟩ _ _ hT hF hS m5 m815 ls (lv_sub hl [0, 1, 2] rfl)
      · have t819 : ((i2 : Nat) : Int) < x816.toInt := ti_nle c817 rfl (nI_toInt (by omega))
        refine lv_aload_n hx hb dX5_gatherEngines_15 rfl (lv_at hl 1 rfl) ?_
        refine tw_getM (v := .int z3) hx hb hts bF2_X5 hown hK hT hr_o0 shc_8 rfl 12 (by decide) (ht_at2 hts 0 rfl) (fun _ h9 => h9) m5 dX5_gatherEngines_16 ?_
        refine lv_iconst (v := 5) hx hb dX5_gatherEngines_19 (by decide) ?_
        refine lv_icmp_ge (tgt := 117) hx hb dX5_gatherEngines_20 (by decide) (fun c820 => ?_) (fun c820 => ?_)
        · have t821 : 5 ≤ z3.toInt := ti_le c820 (by decide) rfl
          exact jn746 (nI i2) z3 x816 ⟨(rg_t (a := ((i2 : Nat) : Int)) (nI_toInt (by omega)) (by omega) (by omega)), (by have q8 := ti_all z3; omega), (by have q8 := ti_all x816; omega)⟩ _ _ hT hF hS m5 m815 ls (lv_sub hl [0, 1, 2] rfl)
        · have t822 : z3.toInt < 5 := ti_nle c820 (by decide) rfl
          refine lv_aload_n hx hb dX5_gatherEngines_23 rfl (lv_at hl 2 rfl) ?_
          refine tw_getN hx hb hts bF2_X3 hown hK hT hr_p0 shc_6 rfl 2 (by decide) (hE.nw 89 rfl) (fun _ h9 => h9) dX5_gatherEngines_24 (fun v9 m823 h9 => ?_)
          obtain ⟨b824, rfl, hg825⟩ := h9 _ rfl
          refine lv_iload_n hx hb dX5_gatherEngines_27 rfl (lv_at hl 0 rfl) ?_
          refine tw_aald (i := (nI i2)) hx hb hK hT hg825 shc_18 rfl (vp_in_nI (by omega) (by decide)) dX5_gatherEngines_28 (fun v9 m826 h9 => ?_)
          obtain ⟨b827, rfl, hg828⟩ := h9
          refine tw_getN hx hb hts bF2_X10 hown hK hT hg828 shc_13 rfl 2 (by decide) (hE.nw 90 rfl) (fun _ h9 => h9) dX5_gatherEngines_29 (fun v9 m829 h9 => ?_)
          obtain ⟨x830, rfl, gx830, kx830⟩ := h9 _ rfl
          refine lv_iconst (v := 3) hx hb dX5_gatherEngines_32 (by decide) ?_
          have t831 : -2147483648 ≤ x830.toInt ∧ x830.toInt ≤ 2147483647 := ti_all x830
          refine lv_icmp_ne (tgt := 111) hx hb dX5_gatherEngines_33 (by decide) (fun c832 => ?_) (fun c832 => ?_)
          · have t833 : x830.toInt ≠ 3 := ti_ne c832 rfl (by decide)
            refine lv_iinc (v := nI (i2 + 1)) (lv' := [(2, .int (nI (i2 + 1))), (0, .ref o0), (1, .ref p0)]) hx hb dX5_gatherEngines_111 hl (k := 0) rfl (nI_add i2 1) (by decide) rfl (fun ls hl => ?_)
            refine lv_goto (tgt := 7) hx hb dX5_gatherEngines_114 (by decide) ?_
            exact ih809 (i2 + 1) (by omega) (by omega) z3 (by have q8 := ti_all z3; omega) _ _ hT hF hS m5 ls (lv_sub hl [0, 1, 2] rfl)
          · have t834 : x830.toInt = 3 := ti_eq c832 rfl (by decide)
            refine lv_aload_n hx hb dX5_gatherEngines_36 rfl (lv_at hl 1 rfl) ?_
            refine lv_dup hx hb dX5_gatherEngines_37 rfl ?_
            refine tw_getM (v := .int z3) hx hb hts bF2_X5 hown hK hT hr_o0 shc_8 rfl 12 (by decide) (ht_at2 hts 0 rfl) (fun _ h9 => h9) m5 dX5_gatherEngines_38 ?_
            refine lv_iconst (v := 1) hx hb dX5_gatherEngines_41 (by decide) ?_
            refine lv_iadd hx hb dX5_gatherEngines_42 ?_
            refine lv_topi (fun x835 ex835 => ?_)
            have t836 : x835.toInt = z3.toInt + 1 := ti_add ex835 rfl (by decide) (by omega) (by omega)
            refine tw_put (v := .int x835) (ty := .int) hx hb hts bF2_X5 tyX5 tyX5_ok nmX5 hown hK hT hG hS hr_o0 shc_8 rfl 12 (by decide) (ht_at2 hts 0 rfl) (fun _ h9 => h9) rfl (by decide +kernel) rfl rfl (gl_at rfl (gi_of (show x835.toInt = x835.toInt from rfl) (by omega) (by omega))) dX5_gatherEngines_43 (fun H locs hT oq m837 oj hS => ?_)
            have hF := hF.put hr_o0 skc_8 oq oj (by decide)
            have m838 := (el_kept (oq _ (gne hr_p0 hr_o0 (by decide)))).trans m815
            have m839 := (el_kept (oq _ (gne hr_p0 hr_o0 (by decide)))).trans m823
            have m840 := (el_kept (oq _ (gne hg825 hr_o0 (by decide)))).trans m826
            have m841 := (el_kept (oq _ (gne hg828 hr_o0 (by decide)))).trans m829
            refine lv_aload_n hx hb dX5_gatherEngines_46 rfl (lv_at hl 1 rfl) ?_
            refine tw_getM (v := .int x835) hx hb hts bF2_X5 hown hK hT hr_o0 shc_8 rfl 12 (by decide) (ht_at2 hts 0 rfl) (fun _ h9 => h9) m837 dX5_gatherEngines_47 ?_
            refine lv_istore_n (lv' := [(3, .int x835), (2, .int (nI i2)), (0, .ref o0), (1, .ref p0)]) hx hb dX5_gatherEngines_50 rfl hl (by decide) rfl (fun ls hl => ?_)
            have jn1074 : ∀ (z1067 : Int32), ((1 ≤ z1067.toInt ∧ z1067.toInt ≤ 5)) → ∀ (H : Heap) (locs : List Loc), gH (dC, dI) kA (SHc nC nS) G H → gF (dC, dI) SKc G ([(8, 12), (58, 0)] : List (Nat × Nat)) s.heap H → va_S A s.heap H locs → el H p0 (dI 6 3) = some (.int x816) → el H p0 (dI 6 2) = some (.ref b824) → el H b824 (nI i2).toNatClampNeg = some (.ref b827) → el H b827 (dI 13 2) = some (.int x830) → el H o0 (dI 8 12) = some (.int x835) → ∀ ls : Array Slot, lv_has ls 4 [(3, .int z1067), (2, .int (nI i2)), (0, .ref o0), (1, .ref p0)] → W p l e (headSpec w_c_gatherEngines ({ frames := 0, cells := 0, slots := 0, locals := 0 })).room s m #[.ref o0, .ref p0] below meth c H locs 0 0 (MQ below (va_Qv (fun (u : Unit) => True) (fun (_ : Unit) (t : State) => gH (dC, dI) kA (SHc nC nS) G t.heap ∧ gF (dC, dI) SKc G ([(8, 12), (58, 0)] : List (Nat × Nat)) s.heap t.heap) A) #[.ref o0, .ref p0] s 0 0 A) (F0 m 96 ls []) := by
              intro z1067 h1068 H locs hT hF hS m1069 m1070 m1071 m1072 m1073 ls hl
              refine lv_aload_n hx hb dX5_gatherEngines_96 rfl (lv_at hl 2 rfl) ?_
              refine tw_get hx hb hts bF2_X5 hown hK hT hr_o0 shc_8 rfl 0 (by decide) (ht_at2 hts 1 rfl) (fun _ h9 => h9) dX5_gatherEngines_97 (fun v9 m1075 h9 => ?_)
              obtain ⟨b1076, rfl, hg1077⟩ := h9 _ rfl
              refine lv_iload_n hx hb dX5_gatherEngines_100 rfl (lv_at hl 0 rfl) ?_
              refine lv_aload_n hx hb dX5_gatherEngines_101 rfl (lv_at hl 3 rfl) ?_
              refine tw_getNM (v := .ref b824) hx hb hts bF2_X3 hown hK hT hr_p0 shc_6 rfl 2 (by decide) (hE.nw 89 rfl) (fun _ h9 => h9) m1070 dX5_gatherEngines_102 ?_
              refine lv_iload_n hx hb dX5_gatherEngines_105 rfl (lv_at hl 1 rfl) ?_
              refine tw_aald (i := (nI i2)) hx hb hK hT hg825 shc_18 rfl (vp_in_nI (by omega) (by decide)) dX5_gatherEngines_106 (fun v9 m1078 h9 => ?_)
              obtain ⟨b1079, rfl, hg1080⟩ := h9
              obtain rfl : b827 = b1079 := (el_sameR m1078 m1071 (show (nI i2).toInt = (nI i2).toInt from by have q9 := (show (nI i2).toInt = ((i2 : Nat) : Int) from (nI_toInt (by omega))); have q8 := (show (nI i2).toInt = ((i2 : Nat) : Int) from (nI_toInt (by omega))); omega)).symm
              refine tw_getN hx hb hts bF2_X10 hown hK hT hg828 shc_13 rfl 5 (by decide) (hE.nw 91 rfl) (fun _ h9 => h9) dX5_gatherEngines_107 (fun v9 m1081 h9 => ?_)
              obtain ⟨x1082, rfl, gx1082, kx1082⟩ := h9 _ rfl
              refine tw_iast (i := z1067) (x := x1082) hx hb hK hT hG hS hg1077 shc_58 rfl (vin_t (a := z1067.toInt) rfl (by omega) (by omega)) (gi_all _) dX5_gatherEngines_110 (fun H locs hT oq m1083 oi hS => ?_)
              have hF := hF.ast hg1077 skc_58 oq (by decide)
              have m1088 := (el_kept (oq _ (gne hr_o0 hg1077 (by decide)))).trans m1073
              refine lv_iinc (v := nI (i2 + 1)) (lv' := [(2, .int (nI (i2 + 1))), (3, .int z1067), (0, .ref o0), (1, .ref p0)]) hx hb dX5_gatherEngines_111 hl (k := 1) rfl (nI_add i2 1) (by decide) rfl (fun ls hl => ?_)
              refine lv_goto (tgt := 7) hx hb dX5_gatherEngines_114 (by decide) ?_
              exact ih809 (i2 + 1) (by omega) (by omega) x835 (by have q8 := ti_all x835; omega) _ _ hT hF hS m1088 ls (lv_sub hl [0, 2, 3] rfl)
            have key1091 : ∀ (n1091 : Nat), ∀ (z936 : Int32), (z936.toInt < ((n1091 : Nat) : Int)) → ((1 ≤ z936.toInt ∧ z936.toInt ≤ 5)) → ∀ (H : Heap) (locs : List Loc), gH (dC, dI) kA (SHc nC nS) G H → gF (dC, dI) SKc G ([(8, 12), (58, 0)] : List (Nat × Nat)) s.heap H → va_S A s.heap H locs → el H p0 (dI 6 3) = some (.int x816) → el H p0 (dI 6 2) = some (.ref b824) → el H b824 (nI i2).toNatClampNeg = some (.ref b827) → el H b827 (dI 13 2) = some (.int x830) → el H o0 (dI 8 12) = some (.int x835) → ∀ ls : Array Slot, lv_has ls 4 [(3, .int z936), (2, .int (nI i2)), (0, .ref o0), (1, .ref p0)] → W p l e (headSpec w_c_gatherEngines ({ frames := 0, cells := 0, slots := 0, locals := 0 })).room s m #[.ref o0, .ref p0] below meth c H locs 0 0 (MQ below (va_Qv (fun (u : Unit) => True) (fun (_ : Unit) (t : State) => gH (dC, dI) kA (SHc nC nS) G t.heap ∧ gF (dC, dI) SKc G ([(8, 12), (58, 0)] : List (Nat × Nat)) s.heap t.heap) A) #[.ref o0, .ref p0] s 0 0 A) (F0 m 51 ls []) := by
              intro n1091
              induction n1091 with
              | zero =>
                intro z936 hv1091 h937 H locs hT hF hS m938 m939 m940 m941 m942 ls hl
                exfalso; have q9 := (show z936.toInt = z936.toInt from rfl); omega
              | succ n1091 ih1091 =>
                intro z936 hv1091 h937 H locs hT hF hS m938 m939 m940 m941 m942 ls hl
                refine lv_iload_n hx hb dX5_gatherEngines_51 rfl (lv_at hl 0 rfl) ?_
                refine lv_iconst (v := 1) hx hb dX5_gatherEngines_52 (by decide) ?_
                refine lv_icmp_le (tgt := 96) hx hb dX5_gatherEngines_53 (by decide) (fun c1092 => ?_) (fun c1092 => ?_)
                · have t1093 : z936.toInt ≤ 1 := ti_le c1092 rfl (by decide)
                  exact jn1074 z936 (by have q8 := ti_all z936; omega) _ _ hT hF hS m938 m939 m940 m941 m942 ls (lv_sub hl [0, 1, 2, 3] rfl)
                · have t1094 : 1 < z936.toInt := ti_nle c1092 rfl (by decide)
                  refine lv_aload_n hx hb dX5_gatherEngines_56 rfl (lv_at hl 2 rfl) ?_
                  refine tw_get hx hb hts bF2_X5 hown hK hT hr_o0 shc_8 rfl 0 (by decide) (ht_at2 hts 1 rfl) (fun _ h9 => h9) dX5_gatherEngines_57 (fun v9 m1095 h9 => ?_)
                  obtain ⟨b1096, rfl, hg1097⟩ := h9 _ rfl
                  refine lv_iload_n hx hb dX5_gatherEngines_60 rfl (lv_at hl 0 rfl) ?_
                  refine lv_iconst (v := 1) hx hb dX5_gatherEngines_61 (by decide) ?_
                  refine lv_isub hx hb dX5_gatherEngines_62 ?_
                  refine lv_topi (fun x1098 ex1098 => ?_)
                  have t1099 : x1098.toInt = z936.toInt - 1 := ti_sub ex1098 rfl (by decide) (by omega) (by omega)
                  refine tw_iald (i := x1098) hx hb hK hT hg1097 shc_58 rfl (vin_t (a := x1098.toInt) rfl (by omega) (by omega)) dX5_gatherEngines_63 (fun v9 m1100 h9 => ?_)
                  obtain ⟨x1101, rfl, gx1101, kx1101⟩ := h9
                  refine lv_aload_n hx hb dX5_gatherEngines_64 rfl (lv_at hl 3 rfl) ?_
                  refine tw_getNM (v := .ref b824) hx hb hts bF2_X3 hown hK hT hr_p0 shc_6 rfl 2 (by decide) (hE.nw 89 rfl) (fun _ h9 => h9) m939 dX5_gatherEngines_65 ?_
                  refine lv_iload_n hx hb dX5_gatherEngines_68 rfl (lv_at hl 1 rfl) ?_
                  refine tw_aald (i := (nI i2)) hx hb hK hT hg825 shc_18 rfl (vp_in_nI (by omega) (by decide)) dX5_gatherEngines_69 (fun v9 m1102 h9 => ?_)
                  obtain ⟨b1103, rfl, hg1104⟩ := h9
                  obtain rfl : b827 = b1103 := (el_sameR m1102 m940 (show (nI i2).toInt = (nI i2).toInt from by have q9 := (show (nI i2).toInt = ((i2 : Nat) : Int) from (nI_toInt (by omega))); have q8 := (show (nI i2).toInt = ((i2 : Nat) : Int) from (nI_toInt (by omega))); omega)).symm
                  refine tw_getN hx hb hts bF2_X10 hown hK hT hg828 shc_13 rfl 5 (by decide) (hE.nw 91 rfl) (fun _ h9 => h9) dX5_gatherEngines_70 (fun v9 m1105 h9 => ?_)
                  obtain ⟨x1106, rfl, gx1106, kx1106⟩ := h9 _ rfl
                  have t1107 : -2147483648 ≤ x1101.toInt ∧ x1101.toInt ≤ 2147483647 := ti_all x1101
                  have t1108 : -2147483648 ≤ x1106.toInt ∧ x1106.toInt ≤ 2147483647 := ti_all x1106
                  refine lv_icmp_ge (tgt := 96) hx hb dX5_gatherEngines_73 (by decide) (fun c1109 => ?_) (fun c1109 => ?_)
                  · have t1110 : x1106.toInt ≤ x1101.toInt := ti_le c1109 rfl rfl
                    exact jn1074 z936 (by have q8 := ti_all z936; omega) _ _ hT hF hS m938 m939 m940 m941 m942 ls (lv_sub hl [0, 1, 2, 3] rfl)
                  · have t1111 : x1101.toInt < x1106.toInt := ti_nle c1109 rfl rfl
                    refine lv_aload_n hx hb dX5_gatherEngines_76 rfl (lv_at hl 2 rfl) ?_
                    refine tw_getM (v := .ref b1096) hx hb hts bF2_X5 hown hK hT hr_o0 shc_8 rfl 0 (by decide) (ht_at2 hts 1 rfl) (fun _ h9 => h9) m1095 dX5_gatherEngines_77 ?_
                    refine lv_iload_n hx hb dX5_gatherEngines_80 rfl (lv_at hl 0 rfl) ?_
                    refine lv_aload_n hx hb dX5_gatherEngines_81 rfl (lv_at hl 2 rfl) ?_
                    refine tw_getM (v := .ref b1096) hx hb hts bF2_X5 hown hK hT hr_o0 shc_8 rfl 0 (by decide) (ht_at2 hts 1 rfl) (fun _ h9 => h9) m1095 dX5_gatherEngines_82 ?_
                    refine lv_iload_n hx hb dX5_gatherEngines_85 rfl (lv_at hl 0 rfl) ?_
                    refine lv_iconst (v := 1) hx hb dX5_gatherEngines_86 (by decide) ?_
                    refine lv_isub hx hb dX5_gatherEngines_87 ?_
                    refine lv_topi (fun x1112 ex1112 => ?_)
                    have t1113 : x1112.toInt = z936.toInt - 1 := ti_sub ex1112 rfl (by decide) (by omega) (by omega)
                    refine tw_iald (i := x1112) hx hb hK hT hg1097 shc_58 rfl (vin_t (a := x1112.toInt) rfl (by omega) (by omega)) dX5_gatherEngines_88 (fun v9 m1114 h9 => ?_)
                    obtain ⟨x1115, rfl, gx1115, kx1115⟩ := h9
                    obtain rfl : x1101 = x1115 := (el_same m1114 m1100 (show x1112.toInt = x1098.toInt from by rw []; try omega)).symm
                    refine tw_iast (i := z936) (x := x1101) hx hb hK hT hG hS hg1097 shc_58 rfl (vin_t (a := z936.toInt) rfl (by omega) (by omega)) (gi_all _) dX5_gatherEngines_89 (fun H locs hT oq m1116 oi hS => ?_)
                    have hF := hF.ast hg1097 skc_58 oq (by decide)
                    have m1117 := (el_kept (oq _ (gne hr_p0 hg1097 (by decide)))).trans m938
                    have m1118 := (el_kept (oq _ (gne hr_p0 hg1097 (by decide)))).trans m939
                    have m1119 := (el_kept (oq _ (gne hg825 hg1097 (by decide)))).trans m940
                    have m1120 := (el_kept (oq _ (gne hg828 hg1097 (by decide)))).trans m941
                    have m1121 := (el_kept (oq _ (gne hr_o0 hg1097 (by decide)))).trans m942
                    obtain ⟨x1125, ex1125⟩ : ∃ y : Int32, y = z936 + (-1) := ⟨_, rfl⟩
                    have t1126 : x1125.toInt = z936.toInt + (-1) := ti_add ex1125 rfl (by decide) (by omega) (by omega)
                    refine lv_iinc (v := x1125) (lv' := [(3, .int x1125), (2, .int (nI i2)), (0, .ref o0), (1, .ref p0)]) hx hb dX5_gatherEngines_90 hl (k := 0) rfl (by first | (rw [ex1125]; done) | (rw [ex1125]; rfl)) (by decide) rfl (fun ls hl => ?_)
                    refine lv_goto (tgt := 51) hx hb dX5_gatherEngines_93 (by decide) ?_
                    exact ih1091 x1125 (by have q9 := (show x1125.toInt = x1125.toInt from rfl); omega) (by have q8 := ti_all x1125; omega) _ _ hT hF hS m1117 m1118 m1119 m1120 m1121 ls (lv_sub hl [0, 1, 2, 3] rfl)
            exact key1091 7 x835 (by have q9 := (show x835.toInt = x835.toInt from rfl); omega) (by have q8 := ti_all x835; omega) _ _ hT hF hS m838 m839 m840 m841 m837 ls (lv_sub hl [0, 1, 2, 3] rfl)
  exact key809 (30 - 0) 0 (by omega) (Nat.le_refl _) 0 (rg_t (a := 0) (by decide) (by first | decide | omega) (by first | decide | omega)) _ _ hT hF hS m1 ls (lv_sub hl [0, 1, 2] rfl)
def w_c_passPlannedHour : List Cond := .code yX5_passPlannedHour cX5_passPlannedHour 7 none :: (HAppend.hAppend (α := List Cond) (β := List Cond) (γ := List Cond) [.fieldLink RX5 20 "SeaLand$Plans" "leastThen" "[I", .constant RX5 55 2147483647, .code yJ7_fill_53178 cJ7_fill_53178 4 none, .methodLink RX5 56 yJ7_fill_53178, .static yJ7_fill_53178, .initialized RJ7, .fieldLink RX5 76 "SeaLand$Plans" "engines" "I", .fieldLink RX5 17 "SeaLand$Plans" "leastNow" "[I", .fieldLink RX5 13 "SeaLand$Plans" "liftOf" "[I", .methodLink RX5 94 Lib.Math.max.name, .static Lib.Math.max.name, .initialized "java/lang/Math", .code Lib.Math.max.name Lib.Math.max.code 2 (some .int), .methodLink RX5 100 arraycopyName, .native arraycopyName, .static arraycopyName, .initialized "java/lang/System"] bs2)
set_option maxHeartbeats 4000000 in
set_option maxRecDepth 100000 in
theorem c_passPlannedHour (l : Launch) (dC : Nat → ClassId) (dI : Nat → Nat → Nat) (kA : Nat → ClassId) (adK adV : Nat → Nat) (G : gT) (H0 : Heap) (nC nS : Int) (o0 : Nat) (p0 : Int32) (p1 : Int32) (p2 : Int32)  (hT : gH (dC, dI) kA (SHc nC nS) G H0) (hr_o0 : G o0 = some 8) (hgC : 0 ≤ nC ∧ nC ≤ 40) (hgS : 0 ≤ nS ∧ nS ≤ 60) : Met l yX5_passPlannedHour w_c_passPlannedHour ({ frames := 2, cells := 0, slots := 0, locals := 60 }) (va_Pc [.ref o0, .int p0, .int p1, .int p2] (fun U => U.heap = H0 ∧ va_K (dC, dI) vwCl (tyl kA) U ∧ EVC adK adV (gA G H0.size) U U.heap)) (va_Qv (fun (u : Unit) => True) (fun (_ : Unit) (t : State) => gH (dC, dI) kA (SHc nC nS) G t.heap ∧ gF (dC, dI) SKc G ([(59, 0), (60, 0)] : List (Nat × Nat)) H0 t.heap) (gA G H0.size)) 0 0 (gA G H0.size) := by
  refine Met.ofW (cc := cX5_passPlannedHour) (maxL := 7) (ret := none) (by decide) rfl ?_
  intro p e s m args below meth c s₁ B hml hv
  obtain ⟨rfl, hH0, hK, hE⟩ := hv
  have hx := B.exec
  have hb := B.bytes
  have hr := B.returns
  have hts := atoms_spec (ws := w_c_passPlannedHour) B.pre
  have hown : s.vm.findClass RX5 = some m.cls := findClass_of_methodNamed B.named
  have hlocks := B.notSynchronized
  subst hH0
  generalize hAe : gA G s.heap.size = A at hE ⊢
  have hA : ∀ q : Nat, s.heap.size ≤ q → A q := fun q h => by rw [← hAe]; exact Or.inr h
  have hG := gA_of hAe
  have hS : va_S A s.heap s.heap [] := va_S.rf
  have hF : gF (dC, dI) SKc G ([(59, 0), (60, 0)] : List (Nat × Nat)) s.heap s.heap := gF.rf
  have hl := lv_entry ([.ref o0, .int p0, .int p1, .int p2]) (n := 7) (Nat.le_of_ble_eq_true rfl)
  rw [lg_entry_eq]
  generalize (lg_sl ([.ref o0, .int p0, .int p1, .int p2]) ++ List.replicate (7 - (lg_sl ([.ref o0, .int p0, .int p1, .int p2])).length) Slot.unset).toArray = ls at hl ⊢
  have hl : lv_has ls 7 [(0, .ref o0), (1, .int p0), (2, .int p1), (3, .int p2)] := hl
  refine lv_aload_n hx hb dX5_passPlannedHour_0 rfl (lv_at hl 0 rfl) ?_
  refine tw_get hx hb hts bF2_X5 hown hK hT hr_o0 shc_8 rfl 2 (by decide) (ht_at2 hts 0 rfl) (fun _ h9 => h9) dX5_passPlannedHour_1 (fun v9 m1 h9 => ?_)
  obtain ⟨b2, rfl, hg3⟩ := h9 _ rfl
  refine lv_ldc (v := 2147483647) hx hb hown (ht_at2 hts 1 rfl) dX5_passPlannedHour_4 ?_
  have hFc := gA_free hG hA hS
  refine va_callv (va_runS (As := [.ref b2, .int 2147483647]) (rest := []) ⟨hx, hb, hml, hown, hts⟩ (c_fill_leastThen l dC dI kA adK adV G s.heap nC nS b2 2147483647 hT hg3 (by omega) (by omega)) (va_cwS 2 hts (goodIn_app (goodIn_r _ [4, 5, 6] rfl (by decide +kernel)) (goodIn_ca (goodIn_r _ [3] rfl (by decide +kernel)) (bs2_in _ _))) rfl rfl rfl (by decide +kernel) ⟨(Nat.le_of_ble_eq_true rfl), (Nat.le_of_ble_eq_true rfl)⟩) ⟨fun a U g mk q => by obtain ⟨q0, q1, qK, qE⟩ := q; exact ⟨q0, q1, va_K.moved (u := U) (U := U.calling g mk a) (Vm.Alike.refl U.vm) qK, EVC.blind g mk a qE⟩, fun U hU hW => ⟨rfl, hU, va_K.moved hW.alike hK, hE.call hS hFc hU hW⟩⟩ rfl rfl hl.1 rfl (lv_room (Nat.le_of_ble_eq_true rfl)) dX5_passPlannedHour_6 ⟨(Nat.le_of_ble_eq_true rfl), (Nat.le_of_ble_eq_true rfl)⟩) hS (fun q _ h => hFc q h) hFc (fun u t H locs ht hvm hw5 hB _ _ hS => ?_)
  obtain ⟨hT, hF1⟩ := hB
  rw [ht] at hT hF1
  have m6 := (hF1.fld hr_o0 skc_8 (k := 2) (by decide) (by decide)).trans m1
  have hF := hF.more hF1 (by decide)
  try dsimp only at hw5
  refine lv_iconst (v := 0) hx hb dX5_passPlannedHour_9 (by decide) ?_
  refine lv_istore (lv' := [(4, .int 0), (0, .ref o0), (1, .int p0), (2, .int p1), (3, .int p2)]) hx hb dX5_passPlannedHour_10 hl (by decide) rfl (fun ls hl => ?_)
  have jn232 : ∀ (H : Heap) (locs : List Loc), gH (dC, dI) kA (SHc nC nS) G H → gF (dC, dI) SKc G ([(59, 0), (60, 0)] : List (Nat × Nat)) s.heap H → va_S A s.heap H locs → el H o0 (dI 8 2) = some (.ref b2) → ∀ ls : Array Slot, lv_has ls 7 [(4, .int (nI 121)), (0, .ref o0), (1, .int p0), (2, .int p1), (3, .int p2)] → W p l e (headSpec w_c_passPlannedHour ({ frames := 2, cells := 0, slots := 0, locals := 60 })).room s m #[.ref o0, .int p0, .int p1, .int p2] below meth c H locs 0 0 (MQ below (va_Qv (fun (u : Unit) => True) (fun (_ : Unit) (t : State) => gH (dC, dI) kA (SHc nC nS) G t.heap ∧ gF (dC, dI) SKc G ([(59, 0), (60, 0)] : List (Nat × Nat)) s.heap t.heap) A) #[.ref o0, .int p0, .int p1, .int p2] s 0 0 A) (F0 m 123 ls []) := by
    intro  H locs hT hF hS m231 ls hl
    refine lv_aload_n hx hb dX5_passPlannedHour_123 rfl (lv_at hl 1 rfl) ?_
    refine tw_getM (v := .ref b2) hx hb hts bF2_X5 hown hK hT hr_o0 shc_8 rfl 2 (by decide) (ht_at2 hts 0 rfl) (fun _ h9 => h9) m231 dX5_passPlannedHour_124 ?_
    refine lv_iconst (v := 0) hx hb dX5_passPlannedHour_127 (by decide) ?_
    refine lv_aload_n hx hb dX5_passPlannedHour_128 rfl (lv_at hl 1 rfl) ?_
    refine tw_get hx hb hts bF2_X5 hown hK hT hr_o0 shc_8 rfl 1 (by decide) (ht_at2 hts 7 rfl) (fun _ h9 => h9) dX5_passPlannedHour_129 (fun v9 m233 h9 => ?_)
    obtain ⟨b234, rfl, hg235⟩ := h9 _ rfl
    refine lv_iconst (v := 0) hx hb dX5_passPlannedHour_132 (by decide) ?_
    refine lv_bipush (v := 121) hx hb dX5_passPlannedHour_133 (by decide) ?_
    refine tw_copy (ty := .int) hx hb (hml.trans hl.1.symm) hown (ht_at2 hts 13 rfl) (ht_at2 hts 14 rfl) (ht_at2 hts 15 rfl) (ht_at2 hts 16 rfl) hK hT hG hS hg3 hg235 shc_60 shc_59 rfl rfl (by decide) (by decide) (by decide) (by decide) (by decide) (fun _ _ h9 => by obtain ⟨x9, e9, _⟩ := h9; exact ⟨x9, e9, rfl⟩) (fun _ _ _ h9 => h9) (Nat.le_of_ble_eq_true rfl) (Nat.le_of_ble_eq_true rfl) dX5_passPlannedHour_135 (fun H locs hT oq hS => ?_)
    have hF := hF.ast hg235 skc_59 oq (by decide)
    exact W.vret hx hb hr (fun t ht hW => ⟨⟨(), rfl, (by exact trivial), by (try dsimp only); rw [ht]; exact ⟨hT, hF⟩⟩, hS.F ht⟩) hS.2.2 dX5_passPlannedHour_138
  have key238 : ∀ (n238 i7 : Nat), i7 + n238 = 121 → 0 ≤ i7 → ∀ (H : Heap) (locs : List Loc), gH (dC, dI) kA (SHc nC nS) G H → gF (dC, dI) SKc G ([(59, 0), (60, 0)] : List (Nat × Nat)) s.heap H → va_S A s.heap H locs → el H o0 (dI 8 2) = some (.ref b2) → ∀ ls : Array Slot, lv_has ls 7 [(4, .int (nI i7)), (0, .ref o0), (1, .int p0), (2, .int p1), (3, .int p2)] → W p l e (headSpec w_c_passPlannedHour ({ frames := 2, cells := 0, slots := 0, locals := 60 })).room s m #[.ref o0, .int p0, .int p1, .int p2] below meth c H locs 0 0 (MQ below (va_Qv (fun (u : Unit) => True) (fun (_ : Unit) (t : State) => gH (dC, dI) kA (SHc nC nS) G t.heap ∧ gF (dC, dI) SKc G ([(59, 0), (60, 0)] : List (Nat × Nat)) s.heap t.heap) A) #[.ref o0, .int p0, .int p1, .int p2] s 0 0 A) (F0 m 12 ls []) := by
    intro n238
    induction n238 with
    | zero =>
      intro i7 hn238 hlo239  H locs hT hF hS m8 ls hl
      obtain rfl : 121 = i7 := by omega
      refine lv_iload hx hb dX5_passPlannedHour_12 (lv_at hl 0 rfl) ?_
      refine lv_bipush (v := 120) hx hb dX5_passPlannedHour_14 (by decide) ?_
      refine lv_icmp_gt (tgt := 123) hx hb dX5_passPlannedHour_16 (by decide) (fun c240 => ?_) (fun c240 => (by exfalso; have q9 : ((121 : Nat) : Int) ≤ 120 := ti_nlt c240 (by decide) (nI_toInt (by omega)); omega))
      have t241 : 120 < ((121 : Nat) : Int) := ti_lt c240 (by decide) (nI_toInt (by omega))
      exact jn232 _ _ hT hF hS m8 ls (lv_sub hl [0, 1, 2, 3, 4] rfl)
    | succ n238 ih238 =>
      intro i7 hn238 hlo239  H locs hT hF hS m8 ls hl
      have hlt241 : i7 < 121 := by omega
      refine lv_iload hx hb dX5_passPlannedHour_12 (lv_at hl 0 rfl) ?_
      refine lv_bipush (v := 120) hx hb dX5_passPlannedHour_14 (by decide) ?_
      refine lv_icmp_gt (tgt := 123) hx hb dX5_passPlannedHour_16 (by decide) (fun c242 => (by exfalso; have q9 : 120 < ((i7 : Nat) : Int) := ti_lt c242 (by decide) (nI_toInt (by omega)); omega)) (fun c242 => ?_)
      have t243 : ((i7 : Nat) : Int) ≤ 120 := ti_nlt c242 (by decide) (nI_toInt (by omega))
      refine lv_iconst (v := 0) hx hb dX5_passPlannedHour_19 (by decide) ?_
      refine lv_istore (lv' := [(5, .int 0), (4, .int (nI i7)), (0, .ref o0), (1, .int p0), (2, .int p1), (3, .int p2)]) hx hb dX5_passPlannedHour_20 hl (by decide) rfl (fun ls hl => ?_)
      have key296 : ∀ (n296 i244 : Nat), i244 + n296 = 6 → 0 ≤ i244 → ∀ (H : Heap) (locs : List Loc), gH (dC, dI) kA (SHc nC nS) G H → gF (dC, dI) SKc G ([(59, 0), (60, 0)] : List (Nat × Nat)) s.heap H → va_S A s.heap H locs → el H o0 (dI 8 2) = some (.ref b2) → ∀ ls : Array Slot, lv_has ls 7 [(5, .int (nI i244)), (4, .int (nI i7)), (0, .ref o0), (1, .int p0), (2, .int p1), (3, .int p2)] → W p l e (headSpec w_c_passPlannedHour ({ frames := 2, cells := 0, slots := 0, locals := 60 })).room s m #[.ref o0, .int p0, .int p1, .int p2] below meth c H locs 0 0 (MQ below (va_Qv (fun (u : Unit) => True) (fun (_ : Unit) (t : State) => gH (dC, dI) kA (SHc nC nS) G t.heap ∧ gF (dC, dI) SKc G ([(59, 0), (60, 0)] : List (Nat × Nat)) s.heap t.heap) A) #[.ref o0, .int p0, .int p1, .int p2] s 0 0 A) (F0 m 22 ls []) := by
        intro n296
        induction n296 with
        | zero =>
          intro i244 hn296 hlo297  H locs hT hF hS m245 ls hl
          obtain rfl : 6 = i244 := by omega
          refine lv_iload hx hb dX5_passPlannedHour_22 (lv_at hl 0 rfl) ?_
          refine lv_aload_n hx hb dX5_passPlannedHour_24 rfl (lv_at hl 2 rfl) ?_
          refine tw_get hx hb hts bF2_X5 hown hK hT hr_o0 shc_8 rfl 12 (by decide) (ht_at2 hts 6 rfl) (fun _ h9 => h9) dX5_passPlannedHour_25 (fun v9 m298 h9 => ?_)
          obtain ⟨x299, rfl, gx299, kx299⟩ := h9 _ rfl
          refine lv_icmp_gt (tgt := 117) hx hb dX5_passPlannedHour_28 (by decide) (fun c300 => ?_) (fun c300 => (by exfalso; have q9 : ((6 : Nat) : Int) ≤ x299.toInt := ti_nlt c300 rfl (nI_toInt (by omega)); omega))
          have t301 : x299.toInt < ((6 : Nat) : Int) := ti_lt c300 rfl (nI_toInt (by omega))
          refine lv_iinc (v := nI (i7 + 1)) (lv' := [(4, .int (nI (i7 + 1))), (5, .int (nI 6)), (0, .ref o0), (1, .int p0), (2, .int p1), (3, .int p2)]) hx hb dX5_passPlannedHour_117 hl (k := 1) rfl (nI_add i7 1) (by decide) rfl (fun ls hl => ?_)
          refine lv_goto (tgt := 12) hx hb dX5_passPlannedHour_120 (by decide) ?_
          exact ih238 (i7 + 1) (by omega) (by omega) _ _ hT hF hS m245 ls (lv_sub hl [0, 2, 3, 4, 5] rfl)
        | succ n296 ih296 =>
          intro i244 hn296 hlo297  H locs hT hF hS m245 ls hl
          have hlt301 : i244 < 6 := by omega
          refine lv_iload hx hb dX5_passPlannedHour_22 (lv_at hl 0 rfl) ?_
          refine lv_aload_n hx hb dX5_passPlannedHour_24 rfl (lv_at hl 2 rfl) ?_
          refine tw_get hx hb hts bF2_X5 hown hK hT hr_o0 shc_8 rfl 12 (by decide) (ht_at2 hts 6 rfl) (fun _ h9 => h9) dX5_passPlannedHour_25 (fun v9 m302 h9 => ?_)
          obtain ⟨x303, rfl, gx303, kx303⟩ := h9 _ rfl
          refine lv_icmp_gt (tgt := 117) hx hb dX5_passPlannedHour_28 (by decide) (fun c304 => ?_) (fun c304 => ?_)
          · have t305 : x303.toInt < ((i244 : Nat) : Int) := ti_lt c304 rfl (nI_toInt (by omega))
            refine lv_iinc (v := nI (i7 + 1)) (lv' := [(4, .int (nI (i7 + 1))), (5, .int (nI i244)), (0, .ref o0), (1, .int p0), (2, .int p1), (3, .int p2)]) hx hb dX5_passPlannedHour_117 hl (k := 1) rfl (nI_add i7 1) (by decide) rfl (fun ls hl => ?_)
            refine lv_goto (tgt := 12) hx hb dX5_passPlannedHour_120 (by decide) ?_
            exact ih238 (i7 + 1) (by omega) (by omega) _ _ hT hF hS m245 ls (lv_sub hl [0, 2, 3, 4, 5] rfl)
          · have t306 : ((i244 : Nat) : Int) ≤ x303.toInt := ti_nlt c304 rfl (nI_toInt (by omega))
            refine lv_iload hx hb dX5_passPlannedHour_31 (lv_at hl 1 rfl) ?_
            refine lv_iload hx hb dX5_passPlannedHour_33 (lv_at hl 0 rfl) ?_
            refine lv_iadd hx hb dX5_passPlannedHour_35 ?_
            refine lv_topi (fun x307 ex307 => ?_)
            obtain rfl : nI (i7 + i244) = x307 := (ex307.trans (nI_add i7 i244)).symm
            refine lv_bipush (v := 120) hx hb dX5_passPlannedHour_36 (by decide) ?_
            refine lv_icmp_gt (tgt := 117) hx hb dX5_passPlannedHour_38 (by decide) (fun c308 => ?_) (fun c308 => ?_)
            · have t309 : 120 < ((i7 + i244 : Nat) : Int) := ti_lt c308 (by decide) (nI_toInt (by omega))
              refine lv_iinc (v := nI (i7 + 1)) (lv' := [(4, .int (nI (i7 + 1))), (5, .int (nI i244)), (0, .ref o0), (1, .int p0), (2, .int p1), (3, .int p2)]) hx hb dX5_passPlannedHour_117 hl (k := 1) rfl (nI_add i7 1) (by decide) rfl (fun ls hl => ?_)
              refine lv_goto (tgt := 12) hx hb dX5_passPlannedHour_120 (by decide) ?_
              exact ih238 (i7 + 1) (by omega) (by omega) _ _ hT hF hS m245 ls (lv_sub hl [0, 2, 3, 4, 5] rfl)
            · have t310 : ((i7 + i244 : Nat) : Int) ≤ 120 := ti_nlt c308 (by decide) (nI_toInt (by omega))
              refine lv_aload_n hx hb dX5_passPlannedHour_41 rfl (lv_at hl 2 rfl) ?_
              refine tw_get hx hb hts bF2_X5 hown hK hT hr_o0 shc_8 rfl 1 (by decide) (ht_at2 hts 7 rfl) (fun _ h9 => h9) dX5_passPlannedHour_42 (fun v9 m311 h9 => ?_)
              obtain ⟨b312, rfl, hg313⟩ := h9 _ rfl
              refine lv_iload hx hb dX5_passPlannedHour_45 (lv_at hl 1 rfl) ?_
              refine tw_iald (i := (nI i7)) hx hb hK hT hg313 shc_59 rfl (vp_in_nI (by omega) (by decide)) dX5_passPlannedHour_47 (fun v9 m314 h9 => ?_)
              obtain ⟨x315, rfl, gx315, kx315⟩ := h9
              refine lv_ldc (v := 2147483647) hx hb hown (ht_at2 hts 1 rfl) dX5_passPlannedHour_48 ?_
              have t316 : -2147483648 ≤ x315.toInt ∧ x315.toInt ≤ 2147483647 := ti_all x315
              refine lv_icmp_eq (tgt := 117) hx hb dX5_passPlannedHour_50 (by decide) (fun c317 => ?_) (fun c317 => ?_)
              · have t318 : x315.toInt = 2147483647 := ti_eq c317 rfl (by decide)
                refine lv_iinc (v := nI (i7 + 1)) (lv' := [(4, .int (nI (i7 + 1))), (5, .int (nI i244)), (0, .ref o0), (1, .int p0), (2, .int p1), (3, .int p2)]) hx hb dX5_passPlannedHour_117 hl (k := 1) rfl (nI_add i7 1) (by decide) rfl (fun ls hl => ?_)
                refine lv_goto (tgt := 12) hx hb dX5_passPlannedHour_120 (by decide) ?_
                exact ih238 (i7 + 1) (by omega) (by omega) _ _ hT hF hS m245 ls (lv_sub hl [0, 2, 3, 4, 5] rfl)
              · have t319 : x315.toInt ≠ 2147483647 := ti_ne c317 rfl (by decide)
                refine lv_iconst (v := 0) hx hb dX5_passPlannedHour_53 (by decide) ?_
                refine lv_aload_n hx hb dX5_passPlannedHour_54 rfl (lv_at hl 2 rfl) ?_
                refine tw_getM (v := .ref b312) hx hb hts bF2_X5 hown hK hT hr_o0 shc_8 rfl 1 (by decide) (ht_at2 hts 7 rfl) (fun _ h9 => h9) m311 dX5_passPlannedHour_55 ?_
                refine lv_iload hx hb dX5_passPlannedHour_58 (lv_at hl 1 rfl) ?_
                refine tw_iald (i := (nI i7)) hx hb hK hT hg313 shc_59 rfl (vp_in_nI (by omega) (by decide)) dX5_passPlannedHour_60 (fun v9 m320 h9 => ?_)
                obtain ⟨x321, rfl, gx321, kx321⟩ := h9
                obtain rfl : x315 = x321 := (el_same m320 m314 rfl).symm
                refine lv_iload_n hx hb dX5_passPlannedHour_61 rfl (lv_at hl 3 rfl) ?_
                refine lv_iadd hx hb dX5_passPlannedHour_62 ?_
                refine lv_topi (fun x322 ex322 => ?_)
                refine lv_iload_n hx hb dX5_passPlannedHour_63 rfl (lv_at hl 4 rfl) ?_
                refine lv_isub hx hb dX5_passPlannedHour_64 ?_
                refine lv_topi (fun x323 ex323 => ?_)
                refine lv_aload_n hx hb dX5_passPlannedHour_65 rfl (lv_at hl 2 rfl) ?_
                refine tw_get hx hb hts bF2_X5 hown hK hT hr_o0 shc_8 rfl 0 (by decide) (ht_at2 hts 8 rfl) (fun _ h9 => h9) dX5_passPlannedHour_66 (fun v9 m324 h9 => ?_)
                obtain ⟨b325, rfl, hg326⟩ := h9 _ rfl
                refine lv_iload hx hb dX5_passPlannedHour_69 (lv_at hl 0 rfl) ?_
                refine tw_iald (i := (nI i244)) hx hb hK hT hg326 shc_58 rfl (vp_in_nI (by omega) (by decide)) dX5_passPlannedHour_71 (fun v9 m327 h9 => ?_)
                obtain ⟨x328, rfl, gx328, kx328⟩ := h9
                refine lv_isub hx hb dX5_passPlannedHour_72 ?_
                refine lv_topi (fun x329 ex329 => ?_)
                refine va_mmax hx hb (hml.trans hl.1.symm) hown (ht_at2 hts 9 rfl) (ht_at2 hts 10 rfl) (ht_at2 hts 11 rfl) (ht_at2 hts 12 rfl) (Nat.le_of_ble_eq_true rfl) (Nat.le_of_ble_eq_true rfl) (Nat.le_of_ble_eq_true rfl) (Nat.le_of_ble_eq_true rfl) dX5_passPlannedHour_73 ?_
                refine lv_topi (fun x330 ex330 => ?_)
                have t331 : 0 ≤ x330.toInt ∧ x329.toInt ≤ x330.toInt ∧ (x330.toInt = 0 ∨ x330.toInt = x329.toInt) := mx_f ex330 (by decide) rfl
                refine lv_istore (lv' := [(6, .int x330), (5, .int (nI i244)), (4, .int (nI i7)), (0, .ref o0), (1, .int p0), (2, .int p1), (3, .int p2)]) hx hb dX5_passPlannedHour_76 hl (by decide) rfl (fun ls hl => ?_)
                refine lv_iload hx hb dX5_passPlannedHour_78 (lv_at hl 0 rfl) ?_
                refine lv_iload_n hx hb dX5_passPlannedHour_80 rfl (lv_at hl 6 rfl) ?_
                have t332 : -2147483648 ≤ x330.toInt ∧ x330.toInt ≤ 2147483647 := ti_all x330
                have t333 : -2147483648 ≤ p2.toInt ∧ p2.toInt ≤ 2147483647 := ti_all p2
                refine lv_icmp_gt (tgt := 111) hx hb dX5_passPlannedHour_81 (by decide) (fun c334 => ?_) (fun c334 => ?_)
                · have t335 : p2.toInt < x330.toInt := ti_lt c334 rfl rfl
                  refine lv_iinc (v := nI (i244 + 1)) (lv' := [(5, .int (nI (i244 + 1))), (6, .int x330), (4, .int (nI i7)), (0, .ref o0), (1, .int p0), (2, .int p1), (3, .int p2)]) hx hb dX5_passPlannedHour_111 hl (k := 1) rfl (nI_add i244 1) (by decide) rfl (fun ls hl => ?_)
                  refine lv_goto (tgt := 22) hx hb dX5_passPlannedHour_114 (by decide) ?_
                  exact ih296 (i244 + 1) (by omega) (by omega) _ _ hT hF hS m245 ls (lv_sub hl [0, 2, 3, 4, 5, 6] rfl)
                · have t336 : x330.toInt ≤ p2.toInt := ti_nlt c334 rfl rfl
                  refine lv_iload hx hb dX5_passPlannedHour_84 (lv_at hl 0 rfl) ?_
                  refine lv_aload_n hx hb dX5_passPlannedHour_86 rfl (lv_at hl 3 rfl) ?_
                  refine tw_getM (v := .ref b2) hx hb hts bF2_X5 hown hK hT hr_o0 shc_8 rfl 2 (by decide) (ht_at2 hts 0 rfl) (fun _ h9 => h9) m245 dX5_passPlannedHour_87 ?_
                  refine lv_iload hx hb dX5_passPlannedHour_90 (lv_at hl 2 rfl) ?_
                  refine lv_iload hx hb dX5_passPlannedHour_92 (lv_at hl 1 rfl) ?_
                  refine lv_iadd hx hb dX5_passPlannedHour_94 ?_
                  refine lv_topi (fun x337 ex337 => ?_)
                  obtain rfl : nI (i7 + i244) = x337 := (ex337.trans (nI_add i7 i244)).symm
                  refine tw_iald (i := (nI (i7 + i244))) hx hb hK hT hg3 shc_60 rfl (vp_in_nI (by omega) (by decide)) dX5_passPlannedHour_95 (fun v9 m338 h9 => ?_)
                  obtain ⟨x339, rfl, gx339, kx339⟩ := h9
                  have t340 : -2147483648 ≤ x339.toInt ∧ x339.toInt ≤ 2147483647 := ti_all x339
                  refine lv_icmp_ge (tgt := 111) hx hb dX5_passPlannedHour_96 (by decide) (fun c341 => ?_) (fun c341 => ?_)
                  · have t342 : x339.toInt ≤ x330.toInt := ti_le c341 rfl rfl
                    refine lv_iinc (v := nI (i244 + 1)) (lv' := [(5, .int (nI (i244 + 1))), (6, .int x330), (4, .int (nI i7)), (0, .ref o0), (1, .int p0), (2, .int p1), (3, .int p2)]) hx hb dX5_passPlannedHour_111 hl (k := 1) rfl (nI_add i244 1) (by decide) rfl (fun ls hl => ?_)
                    refine lv_goto (tgt := 22) hx hb dX5_passPlannedHour_114 (by decide) ?_
                    exact ih296 (i244 + 1) (by omega) (by omega) _ _ hT hF hS m245 ls (lv_sub hl [0, 2, 3, 4, 5, 6] rfl)
                  · have t343 : x330.toInt < x339.toInt := ti_nle c341 rfl rfl
                    refine lv_aload_n hx hb dX5_passPlannedHour_99 rfl (lv_at hl 3 rfl) ?_
                    refine tw_getM (v := .ref b2) hx hb hts bF2_X5 hown hK hT hr_o0 shc_8 rfl 2 (by decide) (ht_at2 hts 0 rfl) (fun _ h9 => h9) m245 dX5_passPlannedHour_100 ?_
                    refine lv_iload hx hb dX5_passPlannedHour_103 (lv_at hl 2 rfl) ?_
                    refine lv_iload hx hb dX5_passPlannedHour_105 (lv_at hl 1 rfl) ?_
                    refine lv_iadd hx hb dX5_passPlannedHour_107 ?_
                    refine lv_topi (fun x344 ex344 => ?_)
                    obtain rfl : nI (i7 + i244) = x344 := (ex344.trans (nI_add i7 i244)).symm
                    refine lv_iload hx hb dX5_passPlannedHour_108 (lv_at hl 0 rfl) ?_
                    refine tw_iast (i := (nI (i7 + i244))) (x := x330) hx hb hK hT hG hS hg3 shc_60 rfl (vp_in_nI (by omega) (by decide)) (gi_all _) dX5_passPlannedHour_110 (fun H locs hT oq m345 oi hS => ?_)
                    have hF := hF.ast hg3 skc_60 oq (by decide)
                    have m346 := (el_kept (oq _ (gne hr_o0 hg3 (by decide)))).trans m245
                    refine lv_iinc (v := nI (i244 + 1)) (lv' := [(5, .int (nI (i244 + 1))), (6, .int x330), (4, .int (nI i7)), (0, .ref o0), (1, .int p0), (2, .int p1), (3, .int p2)]) hx hb dX5_passPlannedHour_111 hl (k := 1) rfl (nI_add i244 1) (by decide) rfl (fun ls hl => ?_)
                    refine lv_goto (tgt := 22) hx hb dX5_passPlannedHour_114 (by decide) ?_
                    exact ih296 (i244 + 1) (by omega) (by omega) _ _ hT hF hS m346 ls (lv_sub hl [0, 2, 3, 4, 5, 6] rfl)
      exact key296 (6 - 0) 0 (by omega) (Nat.le_refl _) _ _ hT hF hS m8 ls (lv_sub hl [0, 1, 2, 3, 4, 5] rfl)
  exact key238 (121 - 0) 0 (by omega) (Nat.le_refl _) _ _ hT hF hS m6 ls (lv_sub hl [0, 1, 2, 3, 4] rfl)
def w_c_leastCoal : List Cond := .code yX5_leastCoal cX5_leastCoal 7 (some .int) :: (HAppend.hAppend (α := List Cond) (β := List Cond) (γ := List Cond) [.code yX5_gatherEngines cX5_gatherEngines 4 none, .fieldLink RX5 76 "SeaLand$Plans" "engines" "I", .fieldLink RX5 13 "SeaLand$Plans" "liftOf" "[I", .methodLink RX5 51 yX5_gatherEngines, .instanceMethod yX5_gatherEngines, .selects RX5 yX5_gatherEngines yX5_gatherEngines, .initialized RX5, .fieldLink RX5 17 "SeaLand$Plans" "leastNow" "[I", .constant RX5 55 2147483647, .code yJ7_fill_53178 cJ7_fill_53178 4 none, .methodLink RX5 56 yJ7_fill_53178, .static yJ7_fill_53178, .initialized RJ7, .code yX3_allMillsLift cX3_allMillsLift 5 (some .int), .fieldLink RX3 12 "SeaLand$Lake" "sky" "LSeaLand$Sky;", .code yX8_windAt cX8_windAt 4 (some .int), .fieldLink RX8 27 "SeaLand$Sky" "wind" "LSeaLand$Tellings;", .code yX9_standingAt cX9_standingAt 5 (some .int), .fieldLink RX9 18 "SeaLand$Tellings" "told" "I", .fieldLink RX9 9 "SeaLand$Tellings" "hours" "[I", .methodLink RX8 44 yX9_standingAt, .instanceMethod yX9_standingAt, .selects RX9 yX9_standingAt yX9_standingAt, .initialized RX9, .code yX9_nearestNumberBefore cX9_nearestNumberBefore 5 (some .int), .fieldLink RX9 15 "SeaLand$Tellings" "numbers" "[I", .methodLink RX8 54 yX9_nearestNumberBefore, .instanceMethod yX9_nearestNumberBefore, .selects RX9 yX9_nearestNumberBefore yX9_nearestNumberBefore, .code yX9_nearestNumberAfter cX9_nearestNumberAfter 5 (some .int), .constant RX9 22 40001, .methodLink RX8 57 yX9_nearestNumberAfter, .instanceMethod yX9_nearestNumberAfter, .selects RX9 yX9_nearestNumberAfter yX9_nearestNumberAfter, .methodLink RX8 60 Lib.Math.max.name, .static Lib.Math.max.name, .initialized "java/lang/Math", .code Lib.Math.max.name Lib.Math.max.code 2 (some .int), .methodLink RX3 120 yX8_windAt, .instanceMethod yX8_windAt, .selects RX8 yX8_windAt yX8_windAt, .initialized RX8, .fieldLink RX3 47 "SeaLand$Lake" "built" "I", .fieldLink RX3 27 "SeaLand$Lake" "works" "[LSeaLand$Work;", .methodLink RX5 68 yX3_allMillsLift, .instanceMethod yX3_allMillsLift, .selects RX3 yX3_allMillsLift yX3_allMillsLift, .initialized RX3, .code yX5_passPlannedHour cX5_passPlannedHour 7 none, .fieldLink RX5 20 "SeaLand$Plans" "leastThen" "[I", .methodLink RX5 94 Lib.Math.max.name, .methodLink RX5 100 arraycopyName, .native arraycopyName, .static arraycopyName, .initialized "java/lang/System", .methodLink RX5 72 yX5_passPlannedHour, .instanceMethod yX5_passPlannedHour, .selects RX5 yX5_passPlannedHour yX5_passPlannedHour] bs2)
set_option maxHeartbeats 4000000 in
set_option maxRecDepth 100000 in
theorem c_leastCoal (l : Launch) (dC : Nat → ClassId) (dI : Nat → Nat → Nat) (kA : Nat → ClassId) (adK adV : Nat → Nat) (G : gT) (H0 : Heap) (nC nS : Int) (o0 : Nat) (p0 : Nat) (p1 : Int32) (p2 : Int32) (p3 : Int32) (p4 : Int32)  (hT : gH (dC, dI) kA (SHc nC nS) G H0) (hr_p0 : G p0 = some 6) (hr_o0 : G o0 = some 8) (hq0 : 0 ≤ p3.toInt ∧ p3.toInt ≤ 24) (hgC : 0 ≤ nC ∧ nC ≤ 40) (hgS : 0 ≤ nS ∧ nS ≤ 60) : Met l yX5_leastCoal w_c_leastCoal ({ frames := 3, cells := 0, slots := 0, locals := 87 }) (va_Pc [.ref o0, .ref p0, .int p1, .int p2, .int p3, .int p4] (fun U => U.heap = H0 ∧ va_K (dC, dI) vwCl (tyl kA) U ∧ EVC adK adV (gA G H0.size) U U.heap)) (va_Qi (fun (r : Int32) (u : Unit) => (-1 ≤ r.toInt ∧ r.toInt ≤ 120)) (fun (_ : Unit) (t : State) => gH (dC, dI) kA (SHc nC nS) G t.heap ∧ gF (dC, dI) SKc G ([(8, 12), (58, 0), (59, 0), (60, 0)] : List (Nat × Nat)) H0 t.heap) (gA G H0.size)) 0 0 (gA G H0.size) := by
  refine Met.ofW (cc := cX5_leastCoal) (maxL := 7) (ret := (some .int)) (by decide) rfl ?_
  intro p e s m args below meth c s₁ B hml hv
  obtain ⟨rfl, hH0, hK, hE⟩ := hv
  have hx := B.exec
  have hb := B.bytes
  have hr := B.returns
  have hts := atoms_spec (ws := w_c_leastCoal) B.pre
  have hown : s.vm.findClass RX5 = some m.cls := findClass_of_methodNamed B.named
  have hlocks := B.notSynchronized
  subst hH0
  generalize hAe : gA G s.heap.size = A at hE ⊢
  have hA : ∀ q : Nat, s.heap.size ≤ q → A q := fun q h => by rw [← hAe]; exact Or.inr h
  have hG := gA_of hAe
  have hS : va_S A s.heap s.heap [] := va_S.rf
  have hF : gF (dC, dI) SKc G ([(8, 12), (58, 0), (59, 0), (60, 0)] : List (Nat × Nat)) s.heap s.heap := gF.rf
  have hl := lv_entry ([.ref o0, .ref p0, .int p1, .int p2, .int p3, .int p4]) (n := 7) (Nat.le_of_ble_eq_true rfl)
  rw [lg_entry_eq]
  generalize (lg_sl ([.ref o0, .ref p0, .int p1, .int p2, .int p3, .int p4]) ++ List.replicate (7 - (lg_sl ([.ref o0, .ref p0, .int p1, .int p2, .int p3, .int p4])).length) Slot.unset).toArray = ls at hl ⊢
  have hl : lv_has ls 7 [(0, .ref o0), (1, .ref p0), (2, .int p1), (3, .int p2), (4, .int p3), (5, .int p4)] := hl
  refine lv_aload_n hx hb dX5_leastCoal_0 rfl (lv_at hl 0 rfl) ?_
  refine lv_aload_n hx hb dX5_leastCoal_1 rfl (lv_at hl 1 rfl) ?_
  have hFc := gA_free hG hA hS
  refine va_callv (va_runV (As := [.ref p0]) (rest := []) ⟨hx, hb, hml, hown, hts⟩ (c_gatherEngines l dC dI kA adK adV G s.heap nC nS o0 p0 hT hr_p0 hr_o0 (by omega) (by omega)) (cwV 1 hts (goodIn_app (goodIn_r _ [4, 5, 6, 7] rfl (by decide +kernel)) (goodIn_ca (goodIn_r _ [1, 2, 3] rfl (by decide +kernel)) (bs2_in _ _))) rfl rfl rfl (by decide +kernel) ⟨(Nat.le_of_ble_eq_true rfl), (Nat.le_of_ble_eq_true rfl)⟩) ⟨fun a U g mk q => by obtain ⟨q0, q1, qK, qE⟩ := q; exact ⟨q0, q1, va_K.moved (u := U) (U := U.calling g mk a) (Vm.Alike.refl U.vm) qK, EVC.blind g mk a qE⟩, gH_rc hK hT hr_o0 shc_8 rfl, fun U hU hW => ⟨rfl, hU, va_K.moved hW.alike hK, hE.call hS hFc hU hW⟩⟩ rfl rfl hl.1 rfl (lv_room (Nat.le_of_ble_eq_true rfl)) dX5_leastCoal_2 ⟨(Nat.le_of_ble_eq_true rfl), (Nat.le_of_ble_eq_true rfl)⟩) hS (fun q _ h => hFc q h) hFc (fun u t H locs ht hvm hw2 hB _ _ hS => ?_)
  obtain ⟨hT, hF1⟩ := hB
  rw [ht] at hT hF1
  have hF := hF.more hF1 (by decide)
  try dsimp only at hw2
  refine lv_aload_n hx hb dX5_leastCoal_5 rfl (lv_at hl 0 rfl) ?_
  refine tw_get hx hb hts bF2_X5 hown hK hT hr_o0 shc_8 rfl 1 (by decide) (ht_at2 hts 7 rfl) (fun _ h9 => h9) dX5_leastCoal_6 (fun v9 m3 h9 => ?_)
  obtain ⟨b4, rfl, hg5⟩ := h9 _ rfl
  refine lv_ldc (v := 2147483647) hx hb hown (ht_at2 hts 8 rfl) dX5_leastCoal_9 ?_
  have hFc := gA_free hG hA hS
  refine va_callv (va_runS (As := [.ref b4, .int 2147483647]) (rest := []) ⟨hx, hb, hml, hown, hts⟩ (c_fill_leastNow l dC dI kA adK adV G H nC nS b4 2147483647 hT hg5 (by omega) (by omega)) (va_cwS 2 hts (goodIn_app (goodIn_r _ [11, 12, 13] rfl (by decide +kernel)) (goodIn_ca (goodIn_r _ [10] rfl (by decide +kernel)) (bs2_in _ _))) rfl rfl rfl (by decide +kernel) ⟨(Nat.le_of_ble_eq_true rfl), (Nat.le_of_ble_eq_true rfl)⟩) ⟨fun a U g mk q => by obtain ⟨q0, q1, qK, qE⟩ := q; exact ⟨q0, q1, va_K.moved (u := U) (U := U.calling g mk a) (Vm.Alike.refl U.vm) qK, EVC.blind g mk a qE⟩, fun U hU hW => ⟨rfl, hU, va_K.moved hW.alike hK, hE.call hS hFc hU hW⟩⟩ rfl rfl hl.1 rfl (lv_room (Nat.le_of_ble_eq_true rfl)) dX5_leastCoal_11 ⟨(Nat.le_of_ble_eq_true rfl), (Nat.le_of_ble_eq_true rfl)⟩) hS (fun q _ h => hFc q h) hFc (fun u t H locs ht hvm hw7 hB _ _ hS => ?_)
  obtain ⟨hT, hF1⟩ := hB
  rw [ht] at hT hF1
  have m8 := (hF1.fld hr_o0 skc_8 (k := 1) (by decide) (by decide)).trans m3
  have hF := hF.more hF1 (by decide)
  try dsimp only at hw7
  refine lv_aload_n hx hb dX5_leastCoal_14 rfl (lv_at hl 0 rfl) ?_
  refine tw_getM (v := .ref b4) hx hb hts bF2_X5 hown hK hT hr_o0 shc_8 rfl 1 (by decide) (ht_at2 hts 7 rfl) (fun _ h9 => h9) m8 dX5_leastCoal_15 ?_
  refine lv_iconst (v := 0) hx hb dX5_leastCoal_18 (by decide) ?_
  refine lv_iload_n hx hb dX5_leastCoal_19 rfl (lv_at hl 2 rfl) ?_
  refine tw_iast (i := 0) (x := p1) hx hb hK hT hG hS hg5 shc_59 rfl (by unfold vp_in; decide) (gi_all _) dX5_leastCoal_20 (fun H locs hT oq m9 oi hS => ?_)
  have hF := hF.ast hg5 skc_59 oq (by decide)
  have m10 := (el_kept (oq _ (gne hr_o0 hg5 (by decide)))).trans m8
  refine lv_iconst (v := 1) hx hb dX5_leastCoal_21 (by decide) ?_
  refine lv_istore (lv' := [(6, .int 1), (0, .ref o0), (1, .ref p0), (2, .int p1), (3, .int p2), (4, .int p3), (5, .int p4)]) hx hb dX5_leastCoal_22 hl (by decide) rfl (fun ls hl => ?_)
  have key50 : ∀ (n50 i11 : Nat), i11 + n50 = 25 → 1 ≤ i11 → ∀ (H : Heap) (locs : List Loc), gH (dC, dI) kA (SHc nC nS) G H → gF (dC, dI) SKc G ([(8, 12), (58, 0), (59, 0), (60, 0)] : List (Nat × Nat)) s.heap H → va_S A s.heap H locs → el H o0 (dI 8 1) = some (.ref b4) → ∀ ls : Array Slot, lv_has ls 7 [(6, .int (nI i11)), (0, .ref o0), (1, .ref p0), (2, .int p1), (3, .int p2), (4, .int p3), (5, .int p4)] → W p l e (headSpec w_c_leastCoal ({ frames := 3, cells := 0, slots := 0, locals := 87 })).room s m #[.ref o0, .ref p0, .int p1, .int p2, .int p3, .int p4] below meth c H locs 0 0 (MQ below (va_Qi (fun (r : Int32) (u : Unit) => (-1 ≤ r.toInt ∧ r.toInt ≤ 120)) (fun (_ : Unit) (t : State) => gH (dC, dI) kA (SHc nC nS) G t.heap ∧ gF (dC, dI) SKc G ([(8, 12), (58, 0), (59, 0), (60, 0)] : List (Nat × Nat)) s.heap t.heap) A) #[.ref o0, .ref p0, .int p1, .int p2, .int p3, .int p4] s 0 0 A) (F0 m 24 ls []) := by
    intro n50
    induction n50 with
    | zero =>
      intro i11 hn50 hlo51  H locs hT hF hS m12 ls hl
      obtain rfl : 25 = i11 := by omega
      refine lv_iload hx hb dX5_leastCoal_24 (lv_at hl 0 rfl) ?_
      refine lv_iload hx hb dX5_leastCoal_26 (lv_at hl 5 rfl) ?_
      refine lv_icmp_gt (tgt := 55) hx hb dX5_leastCoal_28 (by decide) (fun c52 => ?_) (fun c52 => (by exfalso; have q9 : ((25 : Nat) : Int) ≤ p3.toInt := ti_nlt c52 rfl (nI_toInt (by omega)); omega))
      have t53 : p3.toInt < ((25 : Nat) : Int) := ti_lt c52 rfl (nI_toInt (by omega))
      refine lv_iconst (v := 0) hx hb dX5_leastCoal_55 (by decide) ?_
      refine lv_istore (lv' := [(6, .int 0), (0, .ref o0), (1, .ref p0), (2, .int p1), (3, .int p2), (4, .int p3), (5, .int p4)]) hx hb dX5_leastCoal_56 hl (by decide) rfl (fun ls hl => ?_)
      have key64 : ∀ (n64 i54 : Nat), i54 + n64 = 121 → 0 ≤ i54 → ∀ (H : Heap) (locs : List Loc), gH (dC, dI) kA (SHc nC nS) G H → gF (dC, dI) SKc G ([(8, 12), (58, 0), (59, 0), (60, 0)] : List (Nat × Nat)) s.heap H → va_S A s.heap H locs → el H o0 (dI 8 1) = some (.ref b4) → ∀ ls : Array Slot, lv_has ls 7 [(6, .int (nI i54)), (0, .ref o0), (1, .ref p0), (2, .int p1), (3, .int p2), (4, .int p3), (5, .int p4)] → W p l e (headSpec w_c_leastCoal ({ frames := 3, cells := 0, slots := 0, locals := 87 })).room s m #[.ref o0, .ref p0, .int p1, .int p2, .int p3, .int p4] below meth c H locs 0 0 (MQ below (va_Qi (fun (r : Int32) (u : Unit) => (-1 ≤ r.toInt ∧ r.toInt ≤ 120)) (fun (_ : Unit) (t : State) => gH (dC, dI) kA (SHc nC nS) G t.heap ∧ gF (dC, dI) SKc G ([(8, 12), (58, 0), (59, 0), (60, 0)] : List (Nat × Nat)) s.heap t.heap) A) #[.ref o0, .ref p0, .int p1, .int p2, .int p3, .int p4] s 0 0 A) (F0 m 58 ls []) := by
        intro n64
        induction n64 with
        | zero =>
          intro i54 hn64 hlo65  H locs hT hF hS m55 ls hl
          obtain rfl : 121 = i54 := by omega
          refine lv_iload hx hb dX5_leastCoal_58 (lv_at hl 0 rfl) ?_
          refine lv_bipush (v := 120) hx hb dX5_leastCoal_60 (by decide) ?_
          refine lv_icmp_gt (tgt := 86) hx hb dX5_leastCoal_62 (by decide) (fun c66 => ?_) (fun c66 => (by exfalso; have q9 : ((121 : Nat) : Int) ≤ 120 := ti_nlt c66 (by decide) (nI_toInt (by omega)); omega))
          have t67 : 120 < ((121 : Nat) : Int) := ti_lt c66 (by decide) (nI_toInt (by omega))
          refine lv_iconst (v := (-1)) hx hb dX5_leastCoal_86 (by decide) ?_
          exact W.iret (v := (-1)) hx hb hr (fun t ht hW => ⟨⟨(-1), (), rfl, (by exact (rg_t (a := (-1)) (by decide) (by first | decide | omega) (by first | decide | omega))), by (try dsimp only); rw [ht]; exact ⟨hT, hF⟩⟩, hS.F ht⟩) hS.2.2 dX5_leastCoal_87
        | succ n64 ih64 =>
          intro i54 hn64 hlo65  H locs hT hF hS m55 ls hl
          have hlt67 : i54 < 121 := by omega
          refine lv_iload hx hb dX5_leastCoal_58 (lv_at hl 0 rfl) ?_
          refine lv_bipush (v := 120) hx hb dX5_leastCoal_60 (by decide) ?_
          refine lv_icmp_gt (tgt := 86) hx hb dX5_leastCoal_62 (by decide) (fun c68 => (by exfalso; have q9 : 120 < ((i54 : Nat) : Int) := ti_lt c68 (by decide) (nI_toInt (by omega)); omega)) (fun c68 => ?_)
          have t69 : ((i54 : Nat) : Int) ≤ 120 := ti_nlt c68 (by decide) (nI_toInt (by omega))
          refine lv_aload_n hx hb dX5_leastCoal_65 rfl (lv_at hl 1 rfl) ?_
          refine tw_getM (v := .ref b4) hx hb hts bF2_X5 hown hK hT hr_o0 shc_8 rfl 1 (by decide) (ht_at2 hts 7 rfl) (fun _ h9 => h9) m55 dX5_leastCoal_66 ?_
          refine lv_iload hx hb dX5_leastCoal_69 (lv_at hl 0 rfl) ?_
          refine tw_iald (i := (nI i54)) hx hb hK hT hg5 shc_59 rfl (vp_in_nI (by omega) (by decide)) dX5_leastCoal_71 (fun v9 m70 h9 => ?_)
          obtain ⟨x71, rfl, gx71, kx71⟩ := h9
          refine lv_ldc (v := 2147483647) hx hb hown (ht_at2 hts 8 rfl) dX5_leastCoal_72 ?_
          have t72 : -2147483648 ≤ x71.toInt ∧ x71.toInt ≤ 2147483647 := ti_all x71
          refine lv_icmp_eq (tgt := 80) hx hb dX5_leastCoal_74 (by decide) (fun c73 => ?_) (fun c73 => ?_)
          · have t74 : x71.toInt = 2147483647 := ti_eq c73 rfl (by decide)
            refine lv_iinc (v := nI (i54 + 1)) (lv' := [(6, .int (nI (i54 + 1))), (0, .ref o0), (1, .ref p0), (2, .int p1), (3, .int p2), (4, .int p3), (5, .int p4)]) hx hb dX5_leastCoal_80 hl (k := 0) rfl (nI_add i54 1) (by decide) rfl (fun ls hl => ?_)
            refine lv_goto (tgt := 58) hx hb dX5_leastCoal_83 (by decide) ?_
            exact ih64 (i54 + 1) (by omega) (by omega) _ _ hT hF hS m55 ls (lv_sub hl [0, 1, 2, 3, 4, 5, 6] rfl)
          · have t75 : x71.toInt ≠ 2147483647 := ti_ne c73 rfl (by decide)
            refine lv_iload hx hb dX5_leastCoal_77 (lv_at hl 0 rfl) ?_
            exact W.iret (v := nI i54) hx hb hr (fun t ht hW => ⟨⟨nI i54, (), rfl, (by exact (rg_t (a := ((i54 : Nat) : Int)) (nI_toInt (by omega)) (by omega) (by omega))), by (try dsimp only); rw [ht]; exact ⟨hT, hF⟩⟩, hS.F ht⟩) hS.2.2 dX5_leastCoal_79
      exact key64 (121 - 0) 0 (by omega) (Nat.le_refl _) _ _ hT hF hS m12 ls (lv_sub hl [0, 1, 2, 3, 4, 5, 6] rfl)
    | succ n50 ih50 =>
      intro i11 hn50 hlo51  H locs hT hF hS m12 ls hl
      have hlt75 : i11 < 25 := by omega
      refine lv_iload hx hb dX5_leastCoal_24 (lv_at hl 0 rfl) ?_
      refine lv_iload hx hb dX5_leastCoal_26 (lv_at hl 5 rfl) ?_
      refine lv_icmp_gt (tgt := 55) hx hb dX5_leastCoal_28 (by decide) (fun c76 => ?_) (fun c76 => ?_)
      · have t77 : p3.toInt < ((i11 : Nat) : Int) := ti_lt c76 rfl (nI_toInt (by omega))
        refine lv_iconst (v := 0) hx hb dX5_leastCoal_55 (by decide) ?_
        refine lv_istore (lv' := [(6, .int 0), (0, .ref o0), (1, .ref p0), (2, .int p1), (3, .int p2), (4, .int p3), (5, .int p4)]) hx hb dX5_leastCoal_56 hl (by decide) rfl (fun ls hl => ?_)
        have key88 : ∀ (n88 i78 : Nat), i78 + n88 = 121 → 0 ≤ i78 → ∀ (H : Heap) (locs : List Loc), gH (dC, dI) kA (SHc nC nS) G H → gF (dC, dI) SKc G ([(8, 12), (58, 0), (59, 0), (60, 0)] : List (Nat × Nat)) s.heap H → va_S A s.heap H locs → el H o0 (dI 8 1) = some (.ref b4) → ∀ ls : Array Slot, lv_has ls 7 [(6, .int (nI i78)), (0, .ref o0), (1, .ref p0), (2, .int p1), (3, .int p2), (4, .int p3), (5, .int p4)] → W p l e (headSpec w_c_leastCoal ({ frames := 3, cells := 0, slots := 0, locals := 87 })).room s m #[.ref o0, .ref p0, .int p1, .int p2, .int p3, .int p4] below meth c H locs 0 0 (MQ below (va_Qi (fun (r : Int32) (u : Unit) => (-1 ≤ r.toInt ∧ r.toInt ≤ 120)) (fun (_ : Unit) (t : State) => gH (dC, dI) kA (SHc nC nS) G t.heap ∧ gF (dC, dI) SKc G ([(8, 12), (58, 0), (59, 0), (60, 0)] : List (Nat × Nat)) s.heap t.heap) A) #[.ref o0, .ref p0, .int p1, .int p2, .int p3, .int p4] s 0 0 A) (F0 m 58 ls []) := by
          intro n88
          induction n88 with
          | zero =>
            intro i78 hn88 hlo89  H locs hT hF hS m79 ls hl
            obtain rfl : 121 = i78 := by omega
            refine lv_iload hx hb dX5_leastCoal_58 (lv_at hl 0 rfl) ?_
            refine lv_bipush (v := 120) hx hb dX5_leastCoal_60 (by decide) ?_
            refine lv_icmp_gt (tgt := 86) hx hb dX5_leastCoal_62 (by decide) (fun c90 => ?_) (fun c90 => (by exfalso; have q9 : ((121 : Nat) : Int) ≤ 120 := ti_nlt c90 (by decide) (nI_toInt (by omega)); omega))
            have t91 : 120 < ((121 : Nat) : Int) := ti_lt c90 (by decide) (nI_toInt (by omega))
            refine lv_iconst (v := (-1)) hx hb dX5_leastCoal_86 (by decide) ?_
            exact W.iret (v := (-1)) hx hb hr (fun t ht hW => ⟨⟨(-1), (), rfl, (by exact (rg_t (a := (-1)) (by decide) (by first | decide | omega) (by first | decide | omega))), by (try dsimp only); rw [ht]; exact ⟨hT, hF⟩⟩, hS.F ht⟩) hS.2.2 dX5_leastCoal_87
          | succ n88 ih88 =>
            intro i78 hn88 hlo89  H locs hT hF hS m79 ls hl
            have hlt91 : i78 < 121 := by omega
            refine lv_iload hx hb dX5_leastCoal_58 (lv_at hl 0 rfl) ?_
            refine lv_bipush (v := 120) hx hb dX5_leastCoal_60 (by decide) ?_
            refine lv_icmp_gt (tgt := 86) hx hb dX5_leastCoal_62 (by decide) (fun c92 => (by exfalso; have q9 : 120 < ((i78 : Nat) : Int) := ti_lt c92 (by decide) (nI_toInt (by omega)); omega)) (fun c92 => ?_)
            have t93 : ((i78 : Nat) : Int) ≤ 120 := ti_nlt c92 (by decide) (nI_toInt (by omega))
            refine lv_aload_n hx hb dX5_leastCoal_65 rfl (lv_at hl 1 rfl) ?_
            refine tw_getM (v := .ref b4) hx hb hts bF2_X5 hown hK hT hr_o0 shc_8 rfl 1 (by decide) (ht_at2 hts 7 rfl) (fun _ h9 => h9) m79 dX5_leastCoal_66 ?_
            refine lv_iload hx hb dX5_leastCoal_69 (lv_at hl 0 rfl) ?_
            refine tw_iald (i := (nI i78)) hx hb hK hT hg5 shc_59 rfl (vp_in_nI (by omega) (by decide)) dX5_leastCoal_71 (fun v9 m94 h9 => ?_)
            obtain ⟨x95, rfl, gx95, kx95⟩ := h9
            refine lv_ldc (v := 2147483647) hx hb hown (ht_at2 hts 8 rfl) dX5_leastCoal_72 ?_
            have t96 : -2147483648 ≤ x95.toInt ∧ x95.toInt ≤ 2147483647 := ti_all x95
            refine lv_icmp_eq (tgt := 80) hx hb dX5_leastCoal_74 (by decide) (fun c97 => ?_) (fun c97 => ?_)
            · have t98 : x95.toInt = 2147483647 := ti_eq c97 rfl (by decide)
              refine lv_iinc (v := nI (i78 + 1)) (lv' := [(6, .int (nI (i78 + 1))), (0, .ref o0), (1, .ref p0), (2, .int p1), (3, .int p2), (4, .int p3), (5, .int p4)]) hx hb dX5_leastCoal_80 hl (k := 0) rfl (nI_add i78 1) (by decide) rfl (fun ls hl => ?_)
              refine lv_goto (tgt := 58) hx hb dX5_leastCoal_83 (by decide) ?_
              exact ih88 (i78 + 1) (by omega) (by omega) _ _ hT hF hS m79 ls (lv_sub hl [0, 1, 2, 3, 4, 5, 6] rfl)
            · have t99 : x95.toInt ≠ 2147483647 := ti_ne c97 rfl (by decide)
              refine lv_iload hx hb dX5_leastCoal_77 (lv_at hl 0 rfl) ?_
              exact W.iret (v := nI i78) hx hb hr (fun t ht hW => ⟨⟨nI i78, (), rfl, (by exact (rg_t (a := ((i78 : Nat) : Int)) (nI_toInt (by omega)) (by omega) (by omega))), by (try dsimp only); rw [ht]; exact ⟨hT, hF⟩⟩, hS.F ht⟩) hS.2.2 dX5_leastCoal_79
        exact key88 (121 - 0) 0 (by omega) (Nat.le_refl _) _ _ hT hF hS m12 ls (lv_sub hl [0, 1, 2, 3, 4, 5, 6] rfl)
      · have t100 : ((i11 : Nat) : Int) ≤ p3.toInt := ti_nlt c76 rfl (nI_toInt (by omega))
        refine lv_aload_n hx hb dX5_leastCoal_31 rfl (lv_at hl 1 rfl) ?_
        refine lv_iload_n hx hb dX5_leastCoal_32 rfl (lv_at hl 4 rfl) ?_
        refine lv_aload_n hx hb dX5_leastCoal_33 rfl (lv_at hl 2 rfl) ?_
        refine lv_aload_n hx hb dX5_leastCoal_34 rfl (lv_at hl 2 rfl) ?_
        refine tw_getN hx hb hts bF2_X3 hown hK hT hr_p0 shc_6 rfl 4 (by decide) (hE.nw 87 rfl) (fun _ h9 => h9) dX5_leastCoal_35 (fun v9 m101 h9 => ?_)
        obtain ⟨x102, rfl, gx102, kx102⟩ := h9 _ rfl
        refine lv_iload hx hb dX5_leastCoal_38 (lv_at hl 0 rfl) ?_
        refine lv_iadd hx hb dX5_leastCoal_40 ?_
        refine lv_topi (fun x103 ex103 => ?_)
        have t104 : x103.toInt = x102.toInt + ((i11 : Nat) : Int) := ti_add ex103 rfl (nI_toInt (by omega)) (by omega) (by omega)
        have hFc := gA_free hG hA hS
        refine va_calli (va_runV (As := [.int x103]) (rest := [.int p2, .ref o0]) ⟨hx, hb, hml, hown, hts⟩ (c_allMillsLift l dC dI kA adK adV G H nC nS p0 x103 hT hr_p0 (by have q8 := ti_all x103; omega) (by omega) (by omega)) (cwV 1 hts (goodIn_app (goodIn_r _ [45, 46, 47, 48] rfl (by decide +kernel)) (goodIn_ca (goodIn_r _ [14, 15, 16, 17, 18, 19, 20, 21, 22, 23, 24, 25, 26, 27, 28, 29, 30, 31, 32, 33, 34, 35, 36, 37, 38, 39, 40, 41, 42, 43, 44] rfl (by decide +kernel)) (bs2_in _ _))) rfl rfl rfl (by decide +kernel) ⟨(Nat.le_of_ble_eq_true rfl), (Nat.le_of_ble_eq_true rfl)⟩) ⟨fun a U g mk q => by obtain ⟨q0, q1, qK, qE⟩ := q; exact ⟨q0, q1, va_K.moved (u := U) (U := U.calling g mk a) (Vm.Alike.refl U.vm) qK, EVC.blind g mk a qE⟩, gH_rc hK hT hr_p0 shc_6 rfl, fun U hU hW => ⟨rfl, hU, va_K.moved hW.alike hK, hE.call hS hFc hU hW⟩⟩ rfl rfl hl.1 rfl (lv_room (Nat.le_of_ble_eq_true rfl)) dX5_leastCoal_41 ⟨(Nat.le_of_ble_eq_true rfl), (Nat.le_of_ble_eq_true rfl)⟩) hS (fun q _ h => hFc q h) hFc (fun r105 u t H locs ht hvm hw106 hB _ _ hS => ?_)
        obtain ⟨hT, hF1⟩ := hB
        rw [ht] at hT hF1
        have m107 := (hF1.fld hr_o0 skc_8 (k := 1) (by decide) (by decide)).trans m12
        have hF := hF.more hF1 (by decide)
        try dsimp only at hw106
        refine lv_iload hx hb dX5_leastCoal_44 (lv_at hl 6 rfl) ?_
        have hFc := gA_free hG hA hS
        refine va_callv (va_runV (As := [.int p2, .int r105, .int p4]) (rest := []) ⟨hx, hb, hml, hown, hts⟩ (c_passPlannedHour l dC dI kA adK adV G H nC nS o0 p2 r105 p4 hT hr_o0 (by omega) (by omega)) (cwV 3 hts (goodIn_app (goodIn_r _ [56, 57, 58, 7] rfl (by decide +kernel)) (goodIn_ca (goodIn_r _ [49, 50, 9, 10, 11, 12, 13, 2, 8, 3, 51, 36, 37, 38, 52, 53, 54, 55] rfl (by decide +kernel)) (bs2_in _ _))) rfl rfl rfl (by decide +kernel) ⟨(Nat.le_of_ble_eq_true rfl), (Nat.le_of_ble_eq_true rfl)⟩) ⟨fun a U g mk q => by obtain ⟨q0, q1, qK, qE⟩ := q; exact ⟨q0, q1, va_K.moved (u := U) (U := U.calling g mk a) (Vm.Alike.refl U.vm) qK, EVC.blind g mk a qE⟩, gH_rc hK hT hr_o0 shc_8 rfl, fun U hU hW => ⟨rfl, hU, va_K.moved hW.alike hK, hE.call hS hFc hU hW⟩⟩ rfl rfl hl.1 rfl (lv_room (Nat.le_of_ble_eq_true rfl)) dX5_leastCoal_46 ⟨(Nat.le_of_ble_eq_true rfl), (Nat.le_of_ble_eq_true rfl)⟩) hS (fun q _ h => hFc q h) hFc (fun u t H locs ht hvm hw110 hB _ _ hS => ?_)
        obtain ⟨hT, hF1⟩ := hB
        rw [ht] at hT hF1
        have m111 := (hF1.fld hr_o0 skc_8 (k := 1) (by decide) (by decide)).trans m107
        have hF := hF.more hF1 (by decide)
        try dsimp only at hw110
        refine lv_iinc (v := nI (i11 + 1)) (lv' := [(6, .int (nI (i11 + 1))), (0, .ref o0), (1, .ref p0), (2, .int p1), (3, .int p2), (4, .int p3), (5, .int p4)]) hx hb dX5_leastCoal_49 hl (k := 0) rfl (nI_add i11 1) (by decide) rfl (fun ls hl => ?_)
        refine lv_goto (tgt := 24) hx hb dX5_leastCoal_52 (by decide) ?_
        exact ih50 (i11 + 1) (by omega) (by omega) _ _ hT hF hS m111 ls (lv_sub hl [0, 1, 2, 3, 4, 5, 6] rfl)
  exact key50 (25 - 1) 1 (by omega) (Nat.le_refl _) _ _ hT hF hS m10 ls (lv_sub hl [0, 1, 2, 3, 4, 5, 6] rfl)
def w_c_closingHour : List Cond := .code yX5_closingHour cX5_closingHour 8 (some .int) :: (HAppend.hAppend (α := List Cond) (β := List Cond) (γ := List Cond) [.code yX8_outsideAt cX8_outsideAt 4 (some .int), .fieldLink RX8 9 "SeaLand$Sky" "tides" "[I", .code yJ9_floorMod_7cf53 cJ9_floorMod_7cf53 3 (some .int), .methodLink RX8 38 yJ9_floorMod_7cf53, .static yJ9_floorMod_7cf53, .initialized RJ9, .fieldLink RX8 34 "SeaLand$Sky" "storms" "I", .fieldLink RX8 15 "SeaLand$Sky" "stormFrom" "[I", .fieldLink RX8 18 "SeaLand$Sky" "stormTo" "[I", .fieldLink RX8 21 "SeaLand$Sky" "stormMore" "[I", .methodLink RX5 110 yX8_outsideAt, .instanceMethod yX8_outsideAt, .selects RX8 yX8_outsideAt yX8_outsideAt, .initialized RX8, .code yX10_wider cX10_wider 1 (some .int), .methodLink RX10 54 Lib.Math.min.name, .static Lib.Math.min.name, .initialized "java/lang/Math", .code Lib.Math.min.name Lib.Math.min.code 2 (some .int), .methodLink RX5 115 yX10_wider, .static yX10_wider, .initialized RX10] bs2)
set_option maxHeartbeats 4000000 in
set_option maxRecDepth 100000 in
theorem c_closingHour (l : Launch) (dC : Nat → ClassId) (dI : Nat → Nat → Nat) (kA : Nat → ClassId) (adK adV : Nat → Nat) (G : gT) (H0 : Heap) (nC nS : Int) (o0 : Nat) (p0 : Nat) (p1 : Int32) (p2 : Int32) (p3 : Int32)  (hT : gH (dC, dI) kA (SHc nC nS) G H0) (hr_p0 : G p0 = some 6) (hr_o0 : G o0 = some 8) (hgC : 0 ≤ nC ∧ nC ≤ 40) (hgS : 0 ≤ nS ∧ nS ≤ 60) : Met l yX5_closingHour w_c_closingHour ({ frames := 2, cells := 0, slots := 0, locals := 60 }) (va_Pc [.ref o0, .ref p0, .int p1, .int p2, .int p3] (fun U => U.heap = H0 ∧ va_K (dC, dI) vwCl (tyl kA) U ∧ EVC adK adV (gA G H0.size) U U.heap)) (va_Qi (fun (r : Int32) (u : Unit) => (-1 ≤ r.toInt ∧ r.toInt ≤ 40200)) (fun (_ : Unit) (t : State) => gH (dC, dI) kA (SHc nC nS) G t.heap ∧ gF (dC, dI) SKc G ([] : List (Nat × Nat)) H0 t.heap) (gA G H0.size)) 0 0 (gA G H0.size) := by
  refine Met.ofW (cc := cX5_closingHour) (maxL := 8) (ret := (some .int)) (by decide) rfl ?_
  intro p e s m args below meth c s₁ B hml hv
  obtain ⟨rfl, hH0, hK, hE⟩ := hv
  have hx := B.exec
  have hb := B.bytes
  have hr := B.returns
  have hts := atoms_spec (ws := w_c_closingHour) B.pre
  have hown : s.vm.findClass RX5 = some m.cls := findClass_of_methodNamed B.named
  have hlocks := B.notSynchronized
  subst hH0
  generalize hAe : gA G s.heap.size = A at hE ⊢
  have hA : ∀ q : Nat, s.heap.size ≤ q → A q := fun q h => by rw [← hAe]; exact Or.inr h
  have hG := gA_of hAe
  have hS : va_S A s.heap s.heap [] := va_S.rf
  have hF : gF (dC, dI) SKc G ([] : List (Nat × Nat)) s.heap s.heap := gF.rf
  have hl := lv_entry ([.ref o0, .ref p0, .int p1, .int p2, .int p3]) (n := 8) (Nat.le_of_ble_eq_true rfl)
  rw [lg_entry_eq]
  generalize (lg_sl ([.ref o0, .ref p0, .int p1, .int p2, .int p3]) ++ List.replicate (8 - (lg_sl ([.ref o0, .ref p0, .int p1, .int p2, .int p3])).length) Slot.unset).toArray = ls at hl ⊢
  have hl : lv_has ls 8 [(0, .ref o0), (1, .ref p0), (2, .int p1), (3, .int p2), (4, .int p3)] := hl
  refine lv_iload_n hx hb dX5_closingHour_0 rfl (lv_at hl 2 rfl) ?_
  refine lv_istore (lv' := [(5, .int p1), (0, .ref o0), (1, .ref p0), (2, .int p1), (3, .int p2), (4, .int p3)]) hx hb dX5_closingHour_1 hl (by decide) rfl (fun ls hl => ?_)
  refine lv_iconst (v := 1) hx hb dX5_closingHour_3 (by decide) ?_
  refine lv_istore (lv' := [(6, .int 1), (5, .int p1), (0, .ref o0), (1, .ref p0), (2, .int p1), (3, .int p2), (4, .int p3)]) hx hb dX5_closingHour_4 hl (by decide) rfl (fun ls hl => ?_)
  have key38 : ∀ (n38 i1 : Nat), i1 + n38 = 201 → 1 ≤ i1 → ∀ (z2 : Int32), ∀ (H : Heap) (locs : List Loc), gH (dC, dI) kA (SHc nC nS) G H → gF (dC, dI) SKc G ([] : List (Nat × Nat)) s.heap H → va_S A s.heap H locs → ∀ ls : Array Slot, lv_has ls 8 [(6, .int (nI i1)), (5, .int z2), (0, .ref o0), (1, .ref p0), (2, .int p1), (3, .int p2), (4, .int p3)] → W p l e (headSpec w_c_closingHour ({ frames := 2, cells := 0, slots := 0, locals := 60 })).room s m #[.ref o0, .ref p0, .int p1, .int p2, .int p3] below meth c H locs 0 0 (MQ below (va_Qi (fun (r : Int32) (u : Unit) => (-1 ≤ r.toInt ∧ r.toInt ≤ 40200)) (fun (_ : Unit) (t : State) => gH (dC, dI) kA (SHc nC nS) G t.heap ∧ gF (dC, dI) SKc G ([] : List (Nat × Nat)) s.heap t.heap) A) #[.ref o0, .ref p0, .int p1, .int p2, .int p3] s 0 0 A) (F0 m 6 ls []) := by
    intro n38
    induction n38 with
    | zero =>
      intro i1 hn38 hlo39 z2 H locs hT hF hS  ls hl
      obtain rfl : 201 = i1 := by omega
      refine lv_iload hx hb dX5_closingHour_6 (lv_at hl 0 rfl) ?_
      refine lv_sipush (v := 200) hx hb dX5_closingHour_8 (by decide) ?_
      refine lv_icmp_gt (tgt := 67) hx hb dX5_closingHour_11 (by decide) (fun c40 => ?_) (fun c40 => (by exfalso; have q9 : ((201 : Nat) : Int) ≤ 200 := ti_nlt c40 (by decide) (nI_toInt (by omega)); omega))
      have t41 : 200 < ((201 : Nat) : Int) := ti_lt c40 (by decide) (nI_toInt (by omega))
      refine lv_iconst (v := (-1)) hx hb dX5_closingHour_67 (by decide) ?_
      exact W.iret (v := (-1)) hx hb hr (fun t ht hW => ⟨⟨(-1), (), rfl, (by exact (rg_t (a := (-1)) (by decide) (by first | decide | omega) (by first | decide | omega))), by (try dsimp only); rw [ht]; exact ⟨hT, hF⟩⟩, hS.F ht⟩) hS.2.2 dX5_closingHour_68
    | succ n38 ih38 =>
      intro i1 hn38 hlo39 z2 H locs hT hF hS  ls hl
      have hlt41 : i1 < 201 := by omega
      refine lv_iload hx hb dX5_closingHour_6 (lv_at hl 0 rfl) ?_
      refine lv_sipush (v := 200) hx hb dX5_closingHour_8 (by decide) ?_
      refine lv_icmp_gt (tgt := 67) hx hb dX5_closingHour_11 (by decide) (fun c42 => (by exfalso; have q9 : 200 < ((i1 : Nat) : Int) := ti_lt c42 (by decide) (nI_toInt (by omega)); omega)) (fun c42 => ?_)
      have t43 : ((i1 : Nat) : Int) ≤ 200 := ti_nlt c42 (by decide) (nI_toInt (by omega))
      refine lv_aload_n hx hb dX5_closingHour_14 rfl (lv_at hl 3 rfl) ?_
      refine tw_getN hx hb hts bF2_X3 hown hK hT hr_p0 shc_6 rfl 4 (by decide) (hE.nw 87 rfl) (fun _ h9 => h9) dX5_closingHour_15 (fun v9 m44 h9 => ?_)
      obtain ⟨x45, rfl, gx45, kx45⟩ := h9 _ rfl
      refine lv_iload hx hb dX5_closingHour_18 (lv_at hl 0 rfl) ?_
      refine lv_iadd hx hb dX5_closingHour_20 ?_
      refine lv_topi (fun x46 ex46 => ?_)
      have t47 : x46.toInt = x45.toInt + ((i1 : Nat) : Int) := ti_add ex46 rfl (nI_toInt (by omega)) (by omega) (by omega)
      refine lv_istore (lv' := [(7, .int x46), (6, .int (nI i1)), (5, .int z2), (0, .ref o0), (1, .ref p0), (2, .int p1), (3, .int p2), (4, .int p3)]) hx hb dX5_closingHour_21 hl (by decide) rfl (fun ls hl => ?_)
      refine lv_aload_n hx hb dX5_closingHour_23 rfl (lv_at hl 4 rfl) ?_
      refine tw_getN hx hb hts bF2_X3 hown hK hT hr_p0 shc_6 rfl 0 (by decide) (hE.nw 92 rfl) (fun _ h9 => h9) dX5_closingHour_24 (fun v9 m48 h9 => ?_)
      obtain ⟨b49, rfl, hg50⟩ := h9 _ rfl
      refine lv_iload hx hb dX5_closingHour_27 (lv_at hl 0 rfl) ?_
      have hFc := gA_free hG hA hS
      refine va_calli (va_runV (As := [.int x46]) (rest := []) ⟨hx, hb, hml, hown, hts⟩ (c_outsideAt l dC dI kA adK adV G H nC nS b49 x46 hT hg50 (by have q8 := ti_all x46; omega) (by omega) (by omega)) (cwV 1 hts (goodIn_app (goodIn_r _ [11, 12, 13, 14] rfl (by decide +kernel)) (goodIn_ca (goodIn_r _ [1, 2, 3, 4, 5, 6, 7, 8, 9, 10] rfl (by decide +kernel)) (bs2_in _ _))) rfl rfl rfl (by decide +kernel) ⟨(Nat.le_of_ble_eq_true rfl), (Nat.le_of_ble_eq_true rfl)⟩) ⟨fun a U g mk q => by obtain ⟨q0, q1, qK, qE⟩ := q; exact ⟨q0, q1, va_K.moved (u := U) (U := U.calling g mk a) (Vm.Alike.refl U.vm) qK, EVC.blind g mk a qE⟩, gH_rc hK hT hg50 shc_11 rfl, fun U hU hW => ⟨rfl, hU, va_K.moved hW.alike hK, hE.call hS hFc hU hW⟩⟩ rfl rfl hl.1 rfl (lv_room (Nat.le_of_ble_eq_true rfl)) dX5_closingHour_29 ⟨(Nat.le_of_ble_eq_true rfl), (Nat.le_of_ble_eq_true rfl)⟩) hS (fun q _ h => hFc q h) hFc (fun r51 u t H locs ht hvm hw52 hB _ _ hS => ?_)
      obtain ⟨hT, hF1⟩ := hB
      rw [ht] at hT hF1
      have hF := hF.more hF1 (by decide)
      try dsimp only at hw52
      refine lv_iload hx hb dX5_closingHour_32 (lv_at hl 7 rfl) ?_
      have t55 : -2147483648 ≤ r51.toInt ∧ r51.toInt ≤ 2147483647 := ti_all r51
      have t56 : -2147483648 ≤ p3.toInt ∧ p3.toInt ≤ 2147483647 := ti_all p3
      refine lv_icmp_gt (tgt := 46) hx hb dX5_closingHour_34 (by decide) (fun c57 => ?_) (fun c57 => ?_)
      · have t58 : p3.toInt < r51.toInt := ti_lt c57 rfl rfl
        refine lv_iload hx hb dX5_closingHour_46 (lv_at hl 2 rfl) ?_
        have hFc := gA_free hG hA hS
        refine va_calli (va_runS (As := [.int z2]) (rest := []) ⟨hx, hb, hml, hown, hts⟩ (c_wider l dC dI kA adK adV G H nC nS z2 hT (by omega) (by omega)) (va_cwS 1 hts (goodIn_app (goodIn_r _ [20, 21, 22] rfl (by decide +kernel)) (goodIn_ca (goodIn_r _ [15, 16, 17, 18, 19] rfl (by decide +kernel)) (bs2_in _ _))) rfl rfl rfl (by decide +kernel) ⟨(Nat.le_of_ble_eq_true rfl), (Nat.le_of_ble_eq_true rfl)⟩) ⟨fun a U g mk q => by obtain ⟨q0, q1, qK, qE⟩ := q; exact ⟨q0, q1, va_K.moved (u := U) (U := U.calling g mk a) (Vm.Alike.refl U.vm) qK, EVC.blind g mk a qE⟩, fun U hU hW => ⟨rfl, hU, va_K.moved hW.alike hK, hE.call hS hFc hU hW⟩⟩ rfl rfl hl.1 rfl (lv_room (Nat.le_of_ble_eq_true rfl)) dX5_closingHour_48 ⟨(Nat.le_of_ble_eq_true rfl), (Nat.le_of_ble_eq_true rfl)⟩) hS (fun q _ h => hFc q h) hFc (fun r59 u t H locs ht hvm hw60 hB _ _ hS => ?_)
        obtain ⟨hT, hF1⟩ := hB
        rw [ht] at hT hF1
        have hF := hF.more hF1 (by decide)
        try dsimp only at hw60
        have h63 := hw60
        refine lv_istore (lv' := [(5, .int r59), (7, .int x46), (6, .int (nI i1)), (0, .ref o0), (1, .ref p0), (2, .int p1), (3, .int p2), (4, .int p3)]) hx hb dX5_closingHour_51 hl (by decide) rfl (fun ls hl => ?_)
        refine lv_iload hx hb dX5_closingHour_53 (lv_at hl 0 rfl) ?_
        have t64 : -2147483648 ≤ r59.toInt ∧ r59.toInt ≤ 2147483647 := ti_all r59
        refine lv_if_gt (tgt := 61) hx hb dX5_closingHour_55 (by decide) (fun c65 => ?_) (fun c65 => ?_)
        · have t66 : 0 < r59.toInt := ti_lt c65 (by decide) rfl
          refine lv_iinc (v := nI (i1 + 1)) (lv' := [(6, .int (nI (i1 + 1))), (5, .int r59), (7, .int x46), (0, .ref o0), (1, .ref p0), (2, .int p1), (3, .int p2), (4, .int p3)]) hx hb dX5_closingHour_61 hl (k := 2) rfl (nI_add i1 1) (by decide) rfl (fun ls hl => ?_)
          refine lv_goto (tgt := 6) hx hb dX5_closingHour_64 (by decide) ?_
          exact ih38 (i1 + 1) (by omega) (by omega) r59 _ _ hT hF hS ls (lv_sub hl [0, 1, 3, 4, 5, 6, 7] rfl)
        · have t67 : r59.toInt ≤ 0 := ti_nlt c65 (by decide) rfl
          refine lv_iload hx hb dX5_closingHour_58 (lv_at hl 1 rfl) ?_
          exact W.iret (v := x46) hx hb hr (fun t ht hW => ⟨⟨x46, (), rfl, (by exact (by have q8 := ti_all x46; omega)), by (try dsimp only); rw [ht]; exact ⟨hT, hF⟩⟩, hS.F ht⟩) hS.2.2 dX5_closingHour_60
      · have t68 : r51.toInt ≤ p3.toInt := ti_nlt c57 rfl rfl
        refine lv_iload hx hb dX5_closingHour_37 (lv_at hl 2 rfl) ?_
        refine lv_iload_n hx hb dX5_closingHour_39 rfl (lv_at hl 6 rfl) ?_
        refine lv_iconst (v := 4) hx hb dX5_closingHour_40 (by decide) ?_
        have t69 : -2147483648 ≤ p2.toInt ∧ p2.toInt ≤ 2147483647 := ti_all p2
        refine lv_idiv hx hb dX5_closingHour_41 (by decide) ?_
        refine lv_topi (fun x70 ex70 => ?_)
        have t71 : (0 ≤ p2.toInt ∧ x70.toInt = p2.toInt / 4) ∨ (p2.toInt < 0 ∧ x70.toInt = -((-p2.toInt) / 4)) := ti_divs ex70 rfl (by decide) (by decide)
        refine lv_isub hx hb dX5_closingHour_42 ?_
        refine lv_topi (fun x72 ex72 => ?_)
        refine lv_goto (tgt := 51) hx hb dX5_closingHour_43 (by decide) ?_
        refine lv_istore (lv' := [(5, .int x72), (7, .int x46), (6, .int (nI i1)), (0, .ref o0), (1, .ref p0), (2, .int p1), (3, .int p2), (4, .int p3)]) hx hb dX5_closingHour_51 hl (by decide) rfl (fun ls hl => ?_)
        refine lv_iload hx hb dX5_closingHour_53 (lv_at hl 0 rfl) ?_
        have t73 : -2147483648 ≤ x72.toInt ∧ x72.toInt ≤ 2147483647 := ti_all x72
        refine lv_if_gt (tgt := 61) hx hb dX5_closingHour_55 (by decide) (fun c74 => ?_) (fun c74 => ?_)
        · have t75 : 0 < x72.toInt := ti_lt c74 (by decide) rfl
          refine lv_iinc (v := nI (i1 + 1)) (lv' := [(6, .int (nI (i1 + 1))), (5, .int x72), (7, .int x46), (0, .ref o0), (1, .ref p0), (2, .int p1), (3, .int p2), (4, .int p3)]) hx hb dX5_closingHour_61 hl (k := 2) rfl (nI_add i1 1) (by decide) rfl (fun ls hl => ?_)
          refine lv_goto (tgt := 6) hx hb dX5_closingHour_64 (by decide) ?_
          exact ih38 (i1 + 1) (by omega) (by omega) x72 _ _ hT hF hS ls (lv_sub hl [0, 1, 3, 4, 5, 6, 7] rfl)
        · have t76 : x72.toInt ≤ 0 := ti_nlt c74 (by decide) rfl
          refine lv_iload hx hb dX5_closingHour_58 (lv_at hl 1 rfl) ?_
          exact W.iret (v := x46) hx hb hr (fun t ht hW => ⟨⟨x46, (), rfl, (by exact (by have q8 := ti_all x46; omega)), by (try dsimp only); rw [ht]; exact ⟨hT, hF⟩⟩, hS.F ht⟩) hS.2.2 dX5_closingHour_60
  exact key38 (201 - 1) 1 (by omega) (Nat.le_refl _) p1 _ _ hT hF hS ls (lv_sub hl [0, 1, 2, 3, 4, 5, 6] rfl)
def w_c_agreesWithEarlier : List Cond := .code yX5_agreesWithEarlier cX5_agreesWithEarlier 4 (some .boolean) :: (HAppend.hAppend (α := List Cond) (β := List Cond) (γ := List Cond) [.fieldLink RX5 23 "SeaLand$Plans" "fields" "[I", .code yX11_stepsApart cX11_stepsApart 2 (some .int), .methodLink RX11 580 Lib.Math.abs.name, .static Lib.Math.abs.name, .initialized "java/lang/Math", .code Lib.Math.abs.name Lib.Math.abs.code 1 (some .int), .initialized RX11, .static yX11_stepsApart, .fieldLink RX5 26 "SeaLand$Plans" "fieldLevels" "[I", .methodLink RX5 151 Lib.Math.abs.name] bs2)
set_option maxHeartbeats 4000000 in
set_option maxRecDepth 100000 in
theorem c_agreesWithEarlier (l : Launch) (dC : Nat → ClassId) (dI : Nat → Nat → Nat) (kA : Nat → ClassId) (adK adV : Nat → Nat) (G : gT) (H0 : Heap) (nC nS : Int) (o0 : Nat) (p0 : Int32) (p1 : Int32)  (hT : gH (dC, dI) kA (SHc nC nS) G H0) (hr_o0 : G o0 = some 8) (hq0 : 0 ≤ p0.toInt ∧ p0.toInt ≤ 5) (hgC : 0 ≤ nC ∧ nC ≤ 40) (hgS : 0 ≤ nS ∧ nS ≤ 60) : Met l yX5_agreesWithEarlier w_c_agreesWithEarlier ({ frames := 2, cells := 0, slots := 0, locals := 61 }) (va_Pc [.ref o0, .int p0, .int p1] (fun U => U.heap = H0 ∧ va_K (dC, dI) vwCl (tyl kA) U ∧ EVC adK adV (gA G H0.size) U U.heap)) (va_Qi (fun (r : Int32) (u : Unit) => (0 ≤ r.toInt ∧ r.toInt ≤ 1)) (fun (_ : Unit) (t : State) => gH (dC, dI) kA (SHc nC nS) G t.heap ∧ gF (dC, dI) SKc G ([] : List (Nat × Nat)) H0 t.heap) (gA G H0.size)) 0 0 (gA G H0.size) := by
  refine Met.ofW (cc := cX5_agreesWithEarlier) (maxL := 4) (ret := (some .boolean)) (by decide) rfl ?_
  intro p e s m args below meth c s₁ B hml hv
  obtain ⟨rfl, hH0, hK, hE⟩ := hv
  have hx := B.exec
  have hb := B.bytes
  have hr := B.returns
  have hts := atoms_spec (ws := w_c_agreesWithEarlier) B.pre
  have hown : s.vm.findClass RX5 = some m.cls := findClass_of_methodNamed B.named
  have hlocks := B.notSynchronized
  subst hH0
  generalize hAe : gA G s.heap.size = A at hE ⊢
  have hA : ∀ q : Nat, s.heap.size ≤ q → A q := fun q h => by rw [← hAe]; exact Or.inr h
  have hG := gA_of hAe
  have hS : va_S A s.heap s.heap [] := va_S.rf
  have hF : gF (dC, dI) SKc G ([] : List (Nat × Nat)) s.heap s.heap := gF.rf
  have hl := lv_entry ([.ref o0, .int p0, .int p1]) (n := 4) (Nat.le_of_ble_eq_true rfl)
  rw [lg_entry_eq]
  generalize (lg_sl ([.ref o0, .int p0, .int p1]) ++ List.replicate (4 - (lg_sl ([.ref o0, .int p0, .int p1])).length) Slot.unset).toArray = ls at hl ⊢
  have hl : lv_has ls 4 [(0, .ref o0), (1, .int p0), (2, .int p1)] := hl
  refine lv_iconst (v := 0) hx hb dX5_agreesWithEarlier_0 (by decide) ?_
  refine lv_istore_n (lv' := [(3, .int 0), (0, .ref o0), (1, .int p0), (2, .int p1)]) hx hb dX5_agreesWithEarlier_1 rfl hl (by decide) rfl (fun ls hl => ?_)
  have key35 : ∀ (n35 i1 : Nat), i1 + n35 = 5 → 0 ≤ i1 → ∀ (H : Heap) (locs : List Loc), gH (dC, dI) kA (SHc nC nS) G H → gF (dC, dI) SKc G ([] : List (Nat × Nat)) s.heap H → va_S A s.heap H locs → ∀ ls : Array Slot, lv_has ls 4 [(3, .int (nI i1)), (0, .ref o0), (1, .int p0), (2, .int p1)] → W p l e (headSpec w_c_agreesWithEarlier ({ frames := 2, cells := 0, slots := 0, locals := 61 })).room s m #[.ref o0, .int p0, .int p1] below meth c H locs 0 0 (MQ below (va_Qi (fun (r : Int32) (u : Unit) => (0 ≤ r.toInt ∧ r.toInt ≤ 1)) (fun (_ : Unit) (t : State) => gH (dC, dI) kA (SHc nC nS) G t.heap ∧ gF (dC, dI) SKc G ([] : List (Nat × Nat)) s.heap t.heap) A) #[.ref o0, .int p0, .int p1] s 0 0 A) (F0 m 2 ls []) := by
    intro n35
    induction n35 with
    | zero =>
      intro i1 hn35 hlo36  H locs hT hF hS  ls hl
      obtain rfl : 5 = i1 := by omega
      refine lv_iload_n hx hb dX5_agreesWithEarlier_2 rfl (lv_at hl 0 rfl) ?_
      refine lv_iload_n hx hb dX5_agreesWithEarlier_3 rfl (lv_at hl 2 rfl) ?_
      refine lv_icmp_ge (tgt := 54) hx hb dX5_agreesWithEarlier_4 (by decide) (fun c37 => ?_) (fun c37 => (by exfalso; have q9 : ((5 : Nat) : Int) < p0.toInt := ti_nle c37 rfl (nI_toInt (by omega)); omega))
      have t38 : p0.toInt ≤ ((5 : Nat) : Int) := ti_le c37 rfl (nI_toInt (by omega))
      refine lv_iconst (v := 1) hx hb dX5_agreesWithEarlier_54 (by decide) ?_
      exact W.zret (v := 1) hx hb hr (by decide) (fun t ht hW => ⟨⟨1, (), rfl, (by exact (rg_t (a := 1) (by decide) (by first | decide | omega) (by first | decide | omega))), by (try dsimp only); rw [ht]; exact ⟨hT, hF⟩⟩, hS.F ht⟩) hS.2.2 dX5_agreesWithEarlier_55
    | succ n35 ih35 =>
      intro i1 hn35 hlo36  H locs hT hF hS  ls hl
      have hlt38 : i1 < 5 := by omega
      refine lv_iload_n hx hb dX5_agreesWithEarlier_2 rfl (lv_at hl 0 rfl) ?_
      refine lv_iload_n hx hb dX5_agreesWithEarlier_3 rfl (lv_at hl 2 rfl) ?_
      refine lv_icmp_ge (tgt := 54) hx hb dX5_agreesWithEarlier_4 (by decide) (fun c39 => ?_) (fun c39 => ?_)
      · have t40 : p0.toInt ≤ ((i1 : Nat) : Int) := ti_le c39 rfl (nI_toInt (by omega))
        refine lv_iconst (v := 1) hx hb dX5_agreesWithEarlier_54 (by decide) ?_
        exact W.zret (v := 1) hx hb hr (by decide) (fun t ht hW => ⟨⟨1, (), rfl, (by exact (rg_t (a := 1) (by decide) (by first | decide | omega) (by first | decide | omega))), by (try dsimp only); rw [ht]; exact ⟨hT, hF⟩⟩, hS.F ht⟩) hS.2.2 dX5_agreesWithEarlier_55
      · have t41 : ((i1 : Nat) : Int) < p0.toInt := ti_nle c39 rfl (nI_toInt (by omega))
        refine lv_aload_n hx hb dX5_agreesWithEarlier_7 rfl (lv_at hl 1 rfl) ?_
        refine tw_get hx hb hts bF2_X5 hown hK hT hr_o0 shc_8 rfl 3 (by decide) (ht_at2 hts 0 rfl) (fun _ h9 => h9) dX5_agreesWithEarlier_8 (fun v9 m42 h9 => ?_)
        obtain ⟨b43, rfl, hg44⟩ := h9 _ rfl
        refine lv_iload_n hx hb dX5_agreesWithEarlier_11 rfl (lv_at hl 0 rfl) ?_
        refine tw_iald (i := (nI i1)) hx hb hK hT hg44 shc_61 rfl (vp_in_nI (by omega) (by decide)) dX5_agreesWithEarlier_12 (fun v9 m45 h9 => ?_)
        obtain ⟨x46, rfl, gx46, kx46⟩ := h9
        refine lv_aload_n hx hb dX5_agreesWithEarlier_13 rfl (lv_at hl 1 rfl) ?_
        refine tw_getM (v := .ref b43) hx hb hts bF2_X5 hown hK hT hr_o0 shc_8 rfl 3 (by decide) (ht_at2 hts 0 rfl) (fun _ h9 => h9) m42 dX5_agreesWithEarlier_14 ?_
        refine lv_iload_n hx hb dX5_agreesWithEarlier_17 rfl (lv_at hl 2 rfl) ?_
        refine tw_iald (i := p0) hx hb hK hT hg44 shc_61 rfl (vin_t (a := p0.toInt) rfl (by omega) (by omega)) dX5_agreesWithEarlier_18 (fun v9 m47 h9 => ?_)
        obtain ⟨x48, rfl, gx48, kx48⟩ := h9
        have hFc := gA_free hG hA hS
        refine va_calli (va_runSN (As := [.int x46, .int x48]) (rest := []) ⟨hx, hb, hml, hown, hts⟩ (c_stepsApart l dC dI kA adK adV G H nC nS x46 x48 hT (by omega) (by omega)) ⟨va_cnB 2 hts (goodIn_ca (goodIn_r _ [2, 3, 4, 5, 6] rfl (by decide +kernel)) (bs2_in _ _)) rfl rfl rfl (hE.nm 111 rfl) (ht_at2 hts 6 rfl) (by decide +kernel) ⟨(Nat.le_of_ble_eq_true rfl), (Nat.le_of_ble_eq_true rfl)⟩, (ht_at2 hts 7 rfl), trivial⟩ ⟨fun a U g mk q => by obtain ⟨q0, q1, qK, qE⟩ := q; exact ⟨q0, q1, va_K.moved (u := U) (U := U.calling g mk a) (Vm.Alike.refl U.vm) qK, EVC.blind g mk a qE⟩, fun U hU hW => ⟨rfl, hU, va_K.moved hW.alike hK, hE.call hS hFc hU hW⟩⟩ rfl rfl hl.1 rfl (lv_room (Nat.le_of_ble_eq_true rfl)) dX5_agreesWithEarlier_19 ⟨(Nat.le_of_ble_eq_true rfl), (Nat.le_of_ble_eq_true rfl)⟩) hS (fun q _ h => hFc q h) hFc (fun r49 u t H locs ht hvm hw50 hB _ _ hS => ?_)
        obtain ⟨hT, hF1⟩ := hB
        rw [ht] at hT hF1
        have hF := hF.more hF1 (by decide)
        try dsimp only at hw50
        refine lv_iconst (v := 1) hx hb dX5_agreesWithEarlier_22 (by decide) ?_
        have t54 : -2147483648 ≤ r49.toInt ∧ r49.toInt ≤ 2147483647 := ti_all r49
        refine lv_icmp_ne (tgt := 48) hx hb dX5_agreesWithEarlier_23 (by decide) (fun c55 => ?_) (fun c55 => ?_)
        · have t56 : r49.toInt ≠ 1 := ti_ne c55 rfl (by decide)
          refine lv_iinc (v := nI (i1 + 1)) (lv' := [(3, .int (nI (i1 + 1))), (0, .ref o0), (1, .int p0), (2, .int p1)]) hx hb dX5_agreesWithEarlier_48 hl (k := 0) rfl (nI_add i1 1) (by decide) rfl (fun ls hl => ?_)
          refine lv_goto (tgt := 2) hx hb dX5_agreesWithEarlier_51 (by decide) ?_
          exact ih35 (i1 + 1) (by omega) (by omega) _ _ hT hF hS ls (lv_sub hl [0, 1, 2, 3] rfl)
        · have t57 : r49.toInt = 1 := ti_eq c55 rfl (by decide)
          refine lv_aload_n hx hb dX5_agreesWithEarlier_26 rfl (lv_at hl 1 rfl) ?_
          refine tw_get hx hb hts bF2_X5 hown hK hT hr_o0 shc_8 rfl 4 (by decide) (ht_at2 hts 8 rfl) (fun _ h9 => h9) dX5_agreesWithEarlier_27 (fun v9 m58 h9 => ?_)
          obtain ⟨b59, rfl, hg60⟩ := h9 _ rfl
          refine lv_iload_n hx hb dX5_agreesWithEarlier_30 rfl (lv_at hl 0 rfl) ?_
          refine tw_iald (i := (nI i1)) hx hb hK hT hg60 shc_62 rfl (vp_in_nI (by omega) (by decide)) dX5_agreesWithEarlier_31 (fun v9 m61 h9 => ?_)
          obtain ⟨x62, rfl, gx62, kx62⟩ := h9
          refine lv_aload_n hx hb dX5_agreesWithEarlier_32 rfl (lv_at hl 1 rfl) ?_
          refine tw_getM (v := .ref b59) hx hb hts bF2_X5 hown hK hT hr_o0 shc_8 rfl 4 (by decide) (ht_at2 hts 8 rfl) (fun _ h9 => h9) m58 dX5_agreesWithEarlier_33 ?_
          refine lv_iload_n hx hb dX5_agreesWithEarlier_36 rfl (lv_at hl 2 rfl) ?_
          refine tw_iald (i := p0) hx hb hK hT hg60 shc_62 rfl (vin_t (a := p0.toInt) rfl (by omega) (by omega)) dX5_agreesWithEarlier_37 (fun v9 m63 h9 => ?_)
          obtain ⟨x64, rfl, gx64, kx64⟩ := h9
          refine lv_isub hx hb dX5_agreesWithEarlier_38 ?_
          refine lv_topi (fun x65 ex65 => ?_)
          refine va_mabs hx hb (hml.trans hl.1.symm) hown (ht_at2 hts 9 rfl) (ht_at2 hts 3 rfl) (ht_at2 hts 4 rfl) (ht_at2 hts 5 rfl) (Nat.le_of_ble_eq_true rfl) (Nat.le_of_ble_eq_true rfl) (Nat.le_of_ble_eq_true rfl) (Nat.le_of_ble_eq_true rfl) dX5_agreesWithEarlier_39 ?_
          refine lv_topi (fun x66 ex66 => ?_)
          refine lv_iload_n hx hb dX5_agreesWithEarlier_42 rfl (lv_at hl 3 rfl) ?_
          have t67 : -2147483648 ≤ x66.toInt ∧ x66.toInt ≤ 2147483647 := ti_all x66
          have t68 : -2147483648 ≤ p1.toInt ∧ p1.toInt ≤ 2147483647 := ti_all p1
          refine lv_icmp_le (tgt := 48) hx hb dX5_agreesWithEarlier_43 (by decide) (fun c69 => ?_) (fun c69 => ?_)
          · have t70 : x66.toInt ≤ p1.toInt := ti_le c69 rfl rfl
            refine lv_iinc (v := nI (i1 + 1)) (lv' := [(3, .int (nI (i1 + 1))), (0, .ref o0), (1, .int p0), (2, .int p1)]) hx hb dX5_agreesWithEarlier_48 hl (k := 0) rfl (nI_add i1 1) (by decide) rfl (fun ls hl => ?_)
            refine lv_goto (tgt := 2) hx hb dX5_agreesWithEarlier_51 (by decide) ?_
            exact ih35 (i1 + 1) (by omega) (by omega) _ _ hT hF hS ls (lv_sub hl [0, 1, 2, 3] rfl)
          · have t71 : p1.toInt < x66.toInt := ti_nle c69 rfl rfl
            refine lv_iconst (v := 0) hx hb dX5_agreesWithEarlier_46 (by decide) ?_
            exact W.zret (v := 0) hx hb hr (by decide) (fun t ht hW => ⟨⟨0, (), rfl, (by exact (rg_t (a := 0) (by decide) (by first | decide | omega) (by first | decide | omega))), by (try dsimp only); rw [ht]; exact ⟨hT, hF⟩⟩, hS.F ht⟩) hS.2.2 dX5_agreesWithEarlier_47
  exact key35 (5 - 0) 0 (by omega) (Nat.le_refl _) _ _ hT hF hS ls (lv_sub hl [0, 1, 2, 3] rfl)
def w_c_worthOfDepth : List Cond := .code yX5_worthOfDepth cX5_worthOfDepth 2 (some .int) :: (HAppend.hAppend (α := List Cond) (β := List Cond) (γ := List Cond) [.methodLink RX5 151 Lib.Math.abs.name, .static Lib.Math.abs.name, .initialized "java/lang/Math", .code Lib.Math.abs.name Lib.Math.abs.code 1 (some .int), .methodLink RX5 94 Lib.Math.max.name, .static Lib.Math.max.name, .code Lib.Math.max.name Lib.Math.max.code 2 (some .int)] bs2)
set_option maxHeartbeats 4000000 in
set_option maxRecDepth 100000 in
theorem c_worthOfDepth (l : Launch) (dC : Nat → ClassId) (dI : Nat → Nat → Nat) (kA : Nat → ClassId) (adK adV : Nat → Nat) (G : gT) (H0 : Heap) (nC nS : Int) (p0 : Int32) (p1 : Int32)  (hT : gH (dC, dI) kA (SHc nC nS) G H0) (hgC : 0 ≤ nC ∧ nC ≤ 40) (hgS : 0 ≤ nS ∧ nS ≤ 60) : Met l yX5_worthOfDepth w_c_worthOfDepth ({ frames := 1, cells := 0, slots := 0, locals := 40 }) (va_Pc [.int p0, .int p1] (fun U => U.heap = H0 ∧ va_K (dC, dI) vwCl (tyl kA) U ∧ EVC adK adV (gA G H0.size) U U.heap)) (va_Qi (fun (r : Int32) (u : Unit) => (0 ≤ r.toInt ∧ r.toInt ≤ 1073741874)) (fun (_ : Unit) (t : State) => gH (dC, dI) kA (SHc nC nS) G t.heap ∧ gF (dC, dI) SKc G ([] : List (Nat × Nat)) H0 t.heap) (gA G H0.size)) 0 0 (gA G H0.size) := by
  refine Met.ofW (cc := cX5_worthOfDepth) (maxL := 2) (ret := (some .int)) (by decide) rfl ?_
  intro p e s m args below meth c s₁ B hml hv
  obtain ⟨rfl, hH0, hK, hE⟩ := hv
  have hx := B.exec
  have hb := B.bytes
  have hr := B.returns
  have hts := atoms_spec (ws := w_c_worthOfDepth) B.pre
  have hown : s.vm.findClass RX5 = some m.cls := findClass_of_methodNamed B.named
  have hlocks := B.notSynchronized
  subst hH0
  generalize hAe : gA G s.heap.size = A at hE ⊢
  have hA : ∀ q : Nat, s.heap.size ≤ q → A q := fun q h => by rw [← hAe]; exact Or.inr h
  have hG := gA_of hAe
  have hS : va_S A s.heap s.heap [] := va_S.rf
  have hF : gF (dC, dI) SKc G ([] : List (Nat × Nat)) s.heap s.heap := gF.rf
  have hl := lv_entry ([.int p0, .int p1]) (n := 2) (Nat.le_of_ble_eq_true rfl)
  rw [lg_entry_eq]
  generalize (lg_sl ([.int p0, .int p1]) ++ List.replicate (2 - (lg_sl ([.int p0, .int p1])).length) Slot.unset).toArray = ls at hl ⊢
  have hl : lv_has ls 2 [(0, .int p0), (1, .int p1)] := hl
  refine lv_iload_n hx hb dX5_worthOfDepth_0 rfl (lv_at hl 0 rfl) ?_
  by_cases hs1 : p0 = 1
  · subst hs1
    refine lv_tableIn (x := 1) (off := 27) (tgt := 28) hx hb dX5_worthOfDepth_1 (by decide) (by decide) (by decide) (by decide) ?_
    refine lv_iconst (v := 0) hx hb dX5_worthOfDepth_28 (by decide) ?_
    refine lv_bipush (v := 20) hx hb dX5_worthOfDepth_29 (by decide) ?_
    refine lv_iload_n hx hb dX5_worthOfDepth_31 rfl (lv_at hl 1 rfl) ?_
    refine lv_bipush (v := 60) hx hb dX5_worthOfDepth_32 (by decide) ?_
    refine lv_isub hx hb dX5_worthOfDepth_34 ?_
    refine lv_topi (fun x2 ex2 => ?_)
    refine va_mabs hx hb (hml.trans hl.1.symm) hown (ht_at2 hts 0 rfl) (ht_at2 hts 1 rfl) (ht_at2 hts 2 rfl) (ht_at2 hts 3 rfl) (Nat.le_of_ble_eq_true rfl) (Nat.le_of_ble_eq_true rfl) (Nat.le_of_ble_eq_true rfl) (Nat.le_of_ble_eq_true rfl) dX5_worthOfDepth_35 ?_
    refine lv_topi (fun x3 ex3 => ?_)
    refine lv_iconst (v := 5) hx hb dX5_worthOfDepth_38 (by decide) ?_
    have t4 : -2147483648 ≤ x3.toInt ∧ x3.toInt ≤ 2147483647 := ti_all x3
    refine lv_idiv hx hb dX5_worthOfDepth_39 (by decide) ?_
    refine lv_topi (fun x5 ex5 => ?_)
    have t6 : (0 ≤ x3.toInt ∧ x5.toInt = x3.toInt / 5) ∨ (x3.toInt < 0 ∧ x5.toInt = -((-x3.toInt) / 5)) := ti_divs ex5 rfl (by decide) (by decide)
    refine lv_isub hx hb dX5_worthOfDepth_40 ?_
    refine lv_topi (fun x7 ex7 => ?_)
    have t8 : x7.toInt = 20 - x5.toInt := ti_sub ex7 (by decide) rfl (by omega) (by omega)
    refine va_mmax hx hb (hml.trans hl.1.symm) hown (ht_at2 hts 4 rfl) (ht_at2 hts 5 rfl) (ht_at2 hts 2 rfl) (ht_at2 hts 6 rfl) (Nat.le_of_ble_eq_true rfl) (Nat.le_of_ble_eq_true rfl) (Nat.le_of_ble_eq_true rfl) (Nat.le_of_ble_eq_true rfl) dX5_worthOfDepth_41 ?_
    refine lv_topi (fun x9 ex9 => ?_)
    have t10 : 0 ≤ x9.toInt ∧ x7.toInt ≤ x9.toInt ∧ (x9.toInt = 0 ∨ x9.toInt = x7.toInt) := mx_f ex9 (by decide) rfl
    exact W.iret (v := x9) hx hb hr (fun t ht hW => ⟨⟨x9, (), rfl, (by exact (by have q8 := ti_all x9; omega)), by (try dsimp only); rw [ht]; exact ⟨hT, hF⟩⟩, hS.F ht⟩) hS.2.2 dX5_worthOfDepth_44
  by_cases hs11 : p0 = 2
  · subst hs11
    refine lv_tableIn (x := 2) (off := 44) (tgt := 45) hx hb dX5_worthOfDepth_1 (by decide) (by decide) (by decide) (by decide) ?_
    refine lv_iconst (v := 0) hx hb dX5_worthOfDepth_45 (by decide) ?_
    refine lv_bipush (v := 50) hx hb dX5_worthOfDepth_46 (by decide) ?_
    refine lv_iload_n hx hb dX5_worthOfDepth_48 rfl (lv_at hl 1 rfl) ?_
    refine lv_bipush (v := 120) hx hb dX5_worthOfDepth_49 (by decide) ?_
    refine lv_isub hx hb dX5_worthOfDepth_51 ?_
    refine lv_topi (fun x12 ex12 => ?_)
    refine va_mabs hx hb (hml.trans hl.1.symm) hown (ht_at2 hts 0 rfl) (ht_at2 hts 1 rfl) (ht_at2 hts 2 rfl) (ht_at2 hts 3 rfl) (Nat.le_of_ble_eq_true rfl) (Nat.le_of_ble_eq_true rfl) (Nat.le_of_ble_eq_true rfl) (Nat.le_of_ble_eq_true rfl) dX5_worthOfDepth_52 ?_
    refine lv_topi (fun x13 ex13 => ?_)
    refine lv_iconst (v := 2) hx hb dX5_worthOfDepth_55 (by decide) ?_
    have t14 : -2147483648 ≤ x13.toInt ∧ x13.toInt ≤ 2147483647 := ti_all x13
    refine lv_idiv hx hb dX5_worthOfDepth_56 (by decide) ?_
    refine lv_topi (fun x15 ex15 => ?_)
    have t16 : (0 ≤ x13.toInt ∧ x15.toInt = x13.toInt / 2) ∨ (x13.toInt < 0 ∧ x15.toInt = -((-x13.toInt) / 2)) := ti_divs ex15 rfl (by decide) (by decide)
    refine lv_isub hx hb dX5_worthOfDepth_57 ?_
    refine lv_topi (fun x17 ex17 => ?_)
    have t18 : x17.toInt = 50 - x15.toInt := ti_sub ex17 (by decide) rfl (by omega) (by omega)
    refine va_mmax hx hb (hml.trans hl.1.symm) hown (ht_at2 hts 4 rfl) (ht_at2 hts 5 rfl) (ht_at2 hts 2 rfl) (ht_at2 hts 6 rfl) (Nat.le_of_ble_eq_true rfl) (Nat.le_of_ble_eq_true rfl) (Nat.le_of_ble_eq_true rfl) (Nat.le_of_ble_eq_true rfl) dX5_worthOfDepth_58 ?_
    refine lv_topi (fun x19 ex19 => ?_)
    have t20 : 0 ≤ x19.toInt ∧ x17.toInt ≤ x19.toInt ∧ (x19.toInt = 0 ∨ x19.toInt = x17.toInt) := mx_f ex19 (by decide) rfl
    exact W.iret (v := x19) hx hb hr (fun t ht hW => ⟨⟨x19, (), rfl, (by exact (by have q8 := ti_all x19; omega)), by (try dsimp only); rw [ht]; exact ⟨hT, hF⟩⟩, hS.F ht⟩) hS.2.2 dX5_worthOfDepth_61
  by_cases hs21 : p0 = 3
  · subst hs21
    refine lv_tableIn (x := 3) (off := 61) (tgt := 62) hx hb dX5_worthOfDepth_1 (by decide) (by decide) (by decide) (by decide) ?_
    refine lv_iconst (v := 0) hx hb dX5_worthOfDepth_62 (by decide) ?_
    refine lv_bipush (v := 40) hx hb dX5_worthOfDepth_63 (by decide) ?_
    refine lv_iload_n hx hb dX5_worthOfDepth_65 rfl (lv_at hl 1 rfl) ?_
    refine lv_bipush (v := 100) hx hb dX5_worthOfDepth_66 (by decide) ?_
    refine lv_isub hx hb dX5_worthOfDepth_68 ?_
    refine lv_topi (fun x22 ex22 => ?_)
    refine va_mabs hx hb (hml.trans hl.1.symm) hown (ht_at2 hts 0 rfl) (ht_at2 hts 1 rfl) (ht_at2 hts 2 rfl) (ht_at2 hts 3 rfl) (Nat.le_of_ble_eq_true rfl) (Nat.le_of_ble_eq_true rfl) (Nat.le_of_ble_eq_true rfl) (Nat.le_of_ble_eq_true rfl) dX5_worthOfDepth_69 ?_
    refine lv_topi (fun x23 ex23 => ?_)
    refine lv_iconst (v := 3) hx hb dX5_worthOfDepth_72 (by decide) ?_
    have t24 : -2147483648 ≤ x23.toInt ∧ x23.toInt ≤ 2147483647 := ti_all x23
    refine lv_idiv hx hb dX5_worthOfDepth_73 (by decide) ?_
    refine lv_topi (fun x25 ex25 => ?_)
    have t26 : (0 ≤ x23.toInt ∧ x25.toInt = x23.toInt / 3) ∨ (x23.toInt < 0 ∧ x25.toInt = -((-x23.toInt) / 3)) := ti_divs ex25 rfl (by decide) (by decide)
    refine lv_isub hx hb dX5_worthOfDepth_74 ?_
    refine lv_topi (fun x27 ex27 => ?_)
    have t28 : x27.toInt = 40 - x25.toInt := ti_sub ex27 (by decide) rfl (by omega) (by omega)
    refine va_mmax hx hb (hml.trans hl.1.symm) hown (ht_at2 hts 4 rfl) (ht_at2 hts 5 rfl) (ht_at2 hts 2 rfl) (ht_at2 hts 6 rfl) (Nat.le_of_ble_eq_true rfl) (Nat.le_of_ble_eq_true rfl) (Nat.le_of_ble_eq_true rfl) (Nat.le_of_ble_eq_true rfl) dX5_worthOfDepth_75 ?_
    refine lv_topi (fun x29 ex29 => ?_)
    have t30 : 0 ≤ x29.toInt ∧ x27.toInt ≤ x29.toInt ∧ (x29.toInt = 0 ∨ x29.toInt = x27.toInt) := mx_f ex29 (by decide) rfl
    exact W.iret (v := x29) hx hb hr (fun t ht hW => ⟨⟨x29, (), rfl, (by exact (by have q8 := ti_all x29; omega)), by (try dsimp only); rw [ht]; exact ⟨hT, hF⟩⟩, hS.F ht⟩) hS.2.2 dX5_worthOfDepth_78
  have ho31 : p0.toInt < 1 ∨ 3 < p0.toInt := by
    have ehs1 : p0.toInt ≠ 1 := fun e => hs1 (Int32.toInt_inj.mp (e.trans (by decide)))
    have ehs11 : p0.toInt ≠ 2 := fun e => hs11 (Int32.toInt_inj.mp (e.trans (by decide)))
    have ehs21 : p0.toInt ≠ 3 := fun e => hs21 (Int32.toInt_inj.mp (e.trans (by decide)))
    omega
  refine lv_tableOut (tgt := 79) hx hb dX5_worthOfDepth_1 ho31 (by decide) ?_
  refine lv_iconst (v := 0) hx hb dX5_worthOfDepth_79 (by decide) ?_
  exact W.iret (v := 0) hx hb hr (fun t ht hW => ⟨⟨0, (), rfl, (by exact (rg_t (a := 0) (by decide) (by first | decide | omega) (by first | decide | omega))), by (try dsimp only); rw [ht]; exact ⟨hT, hF⟩⟩, hS.F ht⟩) hS.2.2 dX5_worthOfDepth_80
def w_c_tryLevels6 : List Cond := .code yX5_tryLevels cX5_tryLevels 7 none :: (HAppend.hAppend (α := List Cond) (β := List Cond) (γ := List Cond) [.fieldLink RX5 118 "SeaLand$Plans" "fieldCount" "I", .fieldLink RX5 126 "SeaLand$Plans" "bestSum" "I", .methodLink RX5 94 Lib.Math.max.name, .static Lib.Math.max.name, .initialized "java/lang/Math", .code Lib.Math.max.name Lib.Math.max.code 2 (some .int)] bs2)
set_option maxHeartbeats 4000000 in
set_option maxRecDepth 100000 in
theorem c_tryLevels6 (l : Launch) (dC : Nat → ClassId) (dI : Nat → Nat → Nat) (kA : Nat → ClassId) (adK adV : Nat → Nat) (G : gT) (H0 : Heap) (nC nS : Int) (o0 : Nat) (su : Int32) (cr : Int32) (gr : Nat) (sp : Int32) (fc : Int32)  (hT : gH (dC, dI) kA (SHc nC nS) G H0) (hr_gr : G gr = some 5) (hr_o0 : G o0 = some 8) (hm_fc : el H0 o0 (dI 8 13) = some (.int fc)) (hq0 : 0 ≤ fc.toInt ∧ fc.toInt ≤ 6) (hgC : 0 ≤ nC ∧ nC ≤ 40) (hgS : 0 ≤ nS ∧ nS ≤ 60) : Met l yX5_tryLevels w_c_tryLevels6 ({ frames := 1, cells := 0, slots := 0, locals := 40 }) (va_Pc [.ref o0, .int 6, .int su, .int cr, .ref gr, .int sp] (fun U => U.heap = H0 ∧ va_K (dC, dI) vwCl (tyl kA) U ∧ EVC adK adV (gA G H0.size) U U.heap)) (va_Qv (fun (u : Unit) => True) (fun (_ : Unit) (t : State) => gH (dC, dI) kA (SHc nC nS) G t.heap ∧ gF (dC, dI) SKc G ([(8, 14)] : List (Nat × Nat)) H0 t.heap) (gA G H0.size)) 0 0 (gA G H0.size) := by
  refine Met.ofW (cc := cX5_tryLevels) (maxL := 7) (ret := none) (by decide) rfl ?_
  intro p e s m args below meth c s₁ B hml hv
  obtain ⟨rfl, hH0, hK, hE⟩ := hv
  have hx := B.exec
  have hb := B.bytes
  have hr := B.returns
  have hts := atoms_spec (ws := w_c_tryLevels6) B.pre
  have hown : s.vm.findClass RX5 = some m.cls := findClass_of_methodNamed B.named
  have hlocks := B.notSynchronized
  subst hH0
  generalize hAe : gA G s.heap.size = A at hE ⊢
  have hA : ∀ q : Nat, s.heap.size ≤ q → A q := fun q h => by rw [← hAe]; exact Or.inr h
  have hG := gA_of hAe
  have hS : va_S A s.heap s.heap [] := va_S.rf
  have hF : gF (dC, dI) SKc G ([(8, 14)] : List (Nat × Nat)) s.heap s.heap := gF.rf
  have hl := lv_entry ([.ref o0, .int 6, .int su, .int cr, .ref gr, .int sp]) (n := 7) (Nat.le_of_ble_eq_true rfl)
  rw [lg_entry_eq]
  generalize (lg_sl ([.ref o0, .int 6, .int su, .int cr, .ref gr, .int sp]) ++ List.replicate (7 - (lg_sl ([.ref o0, .int 6, .int su, .int cr, .ref gr, .int sp])).length) Slot.unset).toArray = ls at hl ⊢
  have hl : lv_has ls 7 [(0, .ref o0), (1, .int 6), (2, .int su), (3, .int cr), (4, .ref gr), (5, .int sp)] := hl
  refine lv_iload_n hx hb dX5_tryLevels_0 rfl (lv_at hl 1 rfl) ?_
  refine lv_aload_n hx hb dX5_tryLevels_1 rfl (lv_at hl 0 rfl) ?_
  refine tw_getM (v := .int fc) hx hb hts bF2_X5 hown hK hT hr_o0 shc_8 rfl 13 (by decide) (ht_at2 hts 0 rfl) (fun _ h9 => h9) hm_fc dX5_tryLevels_2 ?_
  refine lv_icmp_lt (tgt := 21) hx hb dX5_tryLevels_5 (by decide) (fun c1 => (by exfalso; have q9 : 6 < fc.toInt := ti_lt c1 (by decide) rfl; omega)) (fun c1 => ?_)
  have t2 : fc.toInt ≤ 6 := ti_nlt c1 (by decide) rfl
  refine lv_aload_n hx hb dX5_tryLevels_8 rfl (lv_at hl 0 rfl) ?_
  refine lv_aload_n hx hb dX5_tryLevels_9 rfl (lv_at hl 0 rfl) ?_
  refine tw_get hx hb hts bF2_X5 hown hK hT hr_o0 shc_8 rfl 14 (by decide) (ht_at2 hts 1 rfl) (fun _ h9 => h9) dX5_tryLevels_10 (fun v9 m3 h9 => ?_)
  obtain ⟨x4, rfl, gx4, kx4⟩ := h9 _ rfl
  refine lv_iload_n hx hb dX5_tryLevels_13 rfl (lv_at hl 2 rfl) ?_
  refine va_mmax hx hb (hml.trans hl.1.symm) hown (ht_at2 hts 2 rfl) (ht_at2 hts 3 rfl) (ht_at2 hts 4 rfl) (ht_at2 hts 5 rfl) (Nat.le_of_ble_eq_true rfl) (Nat.le_of_ble_eq_true rfl) (Nat.le_of_ble_eq_true rfl) (Nat.le_of_ble_eq_true rfl) dX5_tryLevels_14 ?_
  refine lv_topi (fun x5 ex5 => ?_)
  have t6 : x4.toInt ≤ x5.toInt ∧ su.toInt ≤ x5.toInt ∧ (x5.toInt = x4.toInt ∨ x5.toInt = su.toInt) := mx_f ex5 rfl rfl
  refine tw_put (v := .int x5) (ty := .int) hx hb hts bF2_X5 tyX5 tyX5_ok nmX5 hown hK hT hG hS hr_o0 shc_8 rfl 14 (by decide) (ht_at2 hts 1 rfl) (fun _ h9 => h9) rfl (by decide +kernel) rfl rfl (gl_at rfl (gi_all _)) dX5_tryLevels_17 (fun H locs hT oq m7 oj hS => ?_)
  have hF := hF.put hr_o0 skc_8 oq oj (by decide)
  exact W.vret hx hb hr (fun t ht hW => ⟨⟨(), rfl, (by exact trivial), by (try dsimp only); rw [ht]; exact ⟨hT, hF⟩⟩, hS.F ht⟩) hS.2.2 dX5_tryLevels_20
def w_c_tryLevels5 : List Cond := .code yX5_tryLevels cX5_tryLevels 7 none :: (HAppend.hAppend (α := List Cond) (β := List Cond) (γ := List Cond) [.fieldLink RX5 118 "SeaLand$Plans" "fieldCount" "I", .fieldLink RX5 26 "SeaLand$Plans" "fieldLevels" "[I", .fieldLink RX5 23 "SeaLand$Plans" "fields" "[I", .code yX5_agreesWithEarlier cX5_agreesWithEarlier 4 (some .boolean), .code yX11_stepsApart cX11_stepsApart 2 (some .int), .methodLink RX11 580 Lib.Math.abs.name, .static Lib.Math.abs.name, .initialized "java/lang/Math", .code Lib.Math.abs.name Lib.Math.abs.code 1 (some .int), .initialized RX11, .static yX11_stepsApart, .methodLink RX5 151 Lib.Math.abs.name, .methodLink RX5 141 yX5_agreesWithEarlier, .instanceMethod yX5_agreesWithEarlier, .selects RX5 yX5_agreesWithEarlier yX5_agreesWithEarlier, .initialized RX5, .code yX5_worthOfDepth cX5_worthOfDepth 2 (some .int), .methodLink RX5 94 Lib.Math.max.name, .static Lib.Math.max.name, .code Lib.Math.max.name Lib.Math.max.code 2 (some .int), .methodLink RX5 145 yX5_worthOfDepth, .static yX5_worthOfDepth, .code yX5_tryLevels cX5_tryLevels 7 none, .fieldLink RX5 126 "SeaLand$Plans" "bestSum" "I", .methodLink RX5 132 yX5_tryLevels, .instanceMethod yX5_tryLevels, .selects RX5 yX5_tryLevels yX5_tryLevels] bs2)
set_option maxHeartbeats 4000000 in
set_option maxRecDepth 100000 in
theorem c_tryLevels5 (l : Launch) (dC : Nat → ClassId) (dI : Nat → Nat → Nat) (kA : Nat → ClassId) (adK adV : Nat → Nat) (G : gT) (H0 : Heap) (nC nS : Int) (o0 : Nat) (su : Int32) (cr : Int32) (gr : Nat) (sp : Int32) (fc : Int32)  (hT : gH (dC, dI) kA (SHc nC nS) G H0) (hr_gr : G gr = some 5) (hr_o0 : G o0 = some 8) (hm_fc : el H0 o0 (dI 8 13) = some (.int fc)) (hq0 : 0 ≤ fc.toInt ∧ fc.toInt ≤ 6) (hgC : 0 ≤ nC ∧ nC ≤ 40) (hgS : 0 ≤ nS ∧ nS ≤ 60) : Met l yX5_tryLevels w_c_tryLevels5 ({ frames := 3, cells := 0, slots := 0, locals := 84 }) (va_Pc [.ref o0, .int 5, .int su, .int cr, .ref gr, .int sp] (fun U => U.heap = H0 ∧ va_K (dC, dI) vwCl (tyl kA) U ∧ EVC adK adV (gA G H0.size) U U.heap)) (va_Qv (fun (u : Unit) => True) (fun (_ : Unit) (t : State) => gH (dC, dI) kA (SHc nC nS) G t.heap ∧ gF (dC, dI) SKc G ([(8, 14), (62, 0)] : List (Nat × Nat)) H0 t.heap) (gA G H0.size)) 0 0 (gA G H0.size) := by
  refine Met.ofW (cc := cX5_tryLevels) (maxL := 7) (ret := none) (by decide) rfl ?_
  intro p e s m args below meth c s₁ B hml hv
  obtain ⟨rfl, hH0, hK, hE⟩ := hv
  have hx := B.exec
  have hb := B.bytes
  have hr := B.returns
  have hts := atoms_spec (ws := w_c_tryLevels5) B.pre
  have hown : s.vm.findClass RX5 = some m.cls := findClass_of_methodNamed B.named
  have hlocks := B.notSynchronized
  subst hH0
  generalize hAe : gA G s.heap.size = A at hE ⊢
  have hA : ∀ q : Nat, s.heap.size ≤ q → A q := fun q h => by rw [← hAe]; exact Or.inr h
  have hG := gA_of hAe
  have hS : va_S A s.heap s.heap [] := va_S.rf
  have hF : gF (dC, dI) SKc G ([(8, 14), (62, 0)] : List (Nat × Nat)) s.heap s.heap := gF.rf
  have hl := lv_entry ([.ref o0, .int 5, .int su, .int cr, .ref gr, .int sp]) (n := 7) (Nat.le_of_ble_eq_true rfl)
  rw [lg_entry_eq]
  generalize (lg_sl ([.ref o0, .int 5, .int su, .int cr, .ref gr, .int sp]) ++ List.replicate (7 - (lg_sl ([.ref o0, .int 5, .int su, .int cr, .ref gr, .int sp])).length) Slot.unset).toArray = ls at hl ⊢
  have hl : lv_has ls 7 [(0, .ref o0), (1, .int 5), (2, .int su), (3, .int cr), (4, .ref gr), (5, .int sp)] := hl
  refine lv_iload_n hx hb dX5_tryLevels_0 rfl (lv_at hl 1 rfl) ?_
  refine lv_aload_n hx hb dX5_tryLevels_1 rfl (lv_at hl 0 rfl) ?_
  refine tw_getM (v := .int fc) hx hb hts bF2_X5 hown hK hT hr_o0 shc_8 rfl 13 (by decide) (ht_at2 hts 0 rfl) (fun _ h9 => h9) hm_fc dX5_tryLevels_2 ?_
  refine lv_icmp_lt (tgt := 21) hx hb dX5_tryLevels_5 (by decide) (fun c1 => ?_) (fun c1 => ?_)
  · have t2 : 5 < fc.toInt := ti_lt c1 (by decide) rfl
    refine lv_bipush (v := 40) hx hb dX5_tryLevels_21 (by decide) ?_
    refine lv_istore (lv' := [(6, .int 40), (0, .ref o0), (1, .int 5), (2, .int su), (3, .int cr), (4, .ref gr), (5, .int sp)]) hx hb dX5_tryLevels_23 hl (by decide) rfl (fun ls hl => ?_)
    have key62 : ∀ (n62 i3 : Nat), i3 + n62 = 4 → ∀ (H : Heap) (locs : List Loc), gH (dC, dI) kA (SHc nC nS) G H → gF (dC, dI) SKc G ([(8, 14), (62, 0)] : List (Nat × Nat)) s.heap H → va_S A s.heap H locs → el H o0 (dI 8 13) = some (.int fc) → ∀ ls : Array Slot, lv_has ls 7 [(6, .int (nI (40 + 40 * i3))), (0, .ref o0), (1, .int 5), (2, .int su), (3, .int cr), (4, .ref gr), (5, .int sp)] → W p l e (headSpec w_c_tryLevels5 ({ frames := 3, cells := 0, slots := 0, locals := 84 })).room s m #[.ref o0, .int 5, .int su, .int cr, .ref gr, .int sp] below meth c H locs 0 0 (MQ below (va_Qv (fun (u : Unit) => True) (fun (_ : Unit) (t : State) => gH (dC, dI) kA (SHc nC nS) G t.heap ∧ gF (dC, dI) SKc G ([(8, 14), (62, 0)] : List (Nat × Nat)) s.heap t.heap) A) #[.ref o0, .int 5, .int su, .int cr, .ref gr, .int sp] s 0 0 A) (F0 m 25 ls []) := by
      intro n62
      induction n62 with
      | zero =>
        intro i3 hn62  H locs hT hF hS m4 ls hl
        obtain rfl : 4 = i3 := by omega
        refine lv_iload hx hb dX5_tryLevels_25 (lv_at hl 0 rfl) ?_
        refine lv_sipush (v := 160) hx hb dX5_tryLevels_27 (by decide) ?_
        refine lv_icmp_gt (tgt := 90) hx hb dX5_tryLevels_30 (by decide) (fun c64 => ?_) (fun c64 => (by exfalso; have q9 : ((40 + 40 * 4 : Nat) : Int) ≤ 160 := ti_nlt c64 (by decide) (nI_toInt (by omega)); omega))
        have t65 : 160 < ((40 + 40 * 4 : Nat) : Int) := ti_lt c64 (by decide) (nI_toInt (by omega))
        exact W.vret hx hb hr (fun t ht hW => ⟨⟨(), rfl, (by exact trivial), by (try dsimp only); rw [ht]; exact ⟨hT, hF⟩⟩, hS.F ht⟩) hS.2.2 dX5_tryLevels_90
      | succ n62 ih62 =>
        intro i3 hn62  H locs hT hF hS m4 ls hl
        have hlt65 : i3 < 4 := by omega
        refine lv_iload hx hb dX5_tryLevels_25 (lv_at hl 0 rfl) ?_
        refine lv_sipush (v := 160) hx hb dX5_tryLevels_27 (by decide) ?_
        refine lv_icmp_gt (tgt := 90) hx hb dX5_tryLevels_30 (by decide) (fun c66 => (by exfalso; have q9 : 160 < ((40 + 40 * i3 : Nat) : Int) := ti_lt c66 (by decide) (nI_toInt (by omega)); omega)) (fun c66 => ?_)
        have t67 : ((40 + 40 * i3 : Nat) : Int) ≤ 160 := ti_nlt c66 (by decide) (nI_toInt (by omega))
        refine lv_aload_n hx hb dX5_tryLevels_33 rfl (lv_at hl 1 rfl) ?_
        refine tw_get hx hb hts bF2_X5 hown hK hT hr_o0 shc_8 rfl 4 (by decide) (ht_at2 hts 1 rfl) (fun _ h9 => h9) dX5_tryLevels_34 (fun v9 m68 h9 => ?_)
        obtain ⟨b69, rfl, hg70⟩ := h9 _ rfl
        refine lv_iload_n hx hb dX5_tryLevels_37 rfl (lv_at hl 2 rfl) ?_
        refine lv_aload hx hb dX5_tryLevels_38 (lv_at hl 5 rfl) ?_
        refine tw_getN hx hb hts bF2_X2 hown hK hT hr_gr shc_5 rfl 1 (by decide) (hE.nw 95 rfl) (fun _ h9 => h9) dX5_tryLevels_40 (fun v9 m71 h9 => ?_)
        obtain ⟨b72, rfl, hg73⟩ := h9 _ rfl
        refine lv_aload_n hx hb dX5_tryLevels_43 rfl (lv_at hl 1 rfl) ?_
        refine tw_get hx hb hts bF2_X5 hown hK hT hr_o0 shc_8 rfl 3 (by decide) (ht_at2 hts 2 rfl) (fun _ h9 => h9) dX5_tryLevels_44 (fun v9 m74 h9 => ?_)
        obtain ⟨b75, rfl, hg76⟩ := h9 _ rfl
        refine lv_iload_n hx hb dX5_tryLevels_47 rfl (lv_at hl 2 rfl) ?_
        refine tw_iald (i := 5) hx hb hK hT hg76 shc_61 rfl (by unfold vp_in; decide) dX5_tryLevels_48 (fun v9 m77 h9 => ?_)
        obtain ⟨x78, rfl, gx78, kx78⟩ := h9
        refine tw_iald (i := x78) hx hb hK hT hg73 shc_26 rfl (vin_t (a := x78.toInt) rfl (by omega) (by omega)) dX5_tryLevels_49 (fun v9 m79 h9 => ?_)
        obtain ⟨x80, rfl, gx80, kx80⟩ := h9
        refine lv_iload hx hb dX5_tryLevels_50 (lv_at hl 0 rfl) ?_
        refine lv_isub hx hb dX5_tryLevels_52 ?_
        refine lv_topi (fun x81 ex81 => ?_)
        refine tw_iast (i := 5) (x := x81) hx hb hK hT hG hS hg70 shc_62 rfl (by unfold vp_in; decide) (gi_all _) dX5_tryLevels_53 (fun H locs hT oq m82 oi hS => ?_)
        have hF := hF.ast hg70 skc_62 oq (by decide)
        have m83 := (el_kept (oq _ (gne hr_o0 hg70 (by decide)))).trans m4
        refine lv_aload_n hx hb dX5_tryLevels_54 rfl (lv_at hl 1 rfl) ?_
        refine lv_iload_n hx hb dX5_tryLevels_55 rfl (lv_at hl 2 rfl) ?_
        refine lv_iload hx hb dX5_tryLevels_56 (lv_at hl 6 rfl) ?_
        have hFc := gA_free hG hA hS
        refine va_calli (va_runV (As := [.int 5, .int sp]) (rest := []) ⟨hx, hb, hml, hown, hts⟩ (c_agreesWithEarlier l dC dI kA adK adV G H nC nS o0 5 sp hT hr_o0 (rg_t (a := 5) (by decide) (by first | decide | omega) (by first | decide | omega)) (by omega) (by omega)) (cwV 2 hts (goodIn_app (goodIn_r _ [13, 14, 15, 16] rfl (by decide +kernel)) (goodIn_ca (goodIn_r _ [4, 3, 5, 6, 7, 8, 9, 10, 11, 2, 12] rfl (by decide +kernel)) (bs2_in _ _))) rfl rfl rfl (by decide +kernel) ⟨(Nat.le_of_ble_eq_true rfl), (Nat.le_of_ble_eq_true rfl)⟩) ⟨fun a U g mk q => by obtain ⟨q0, q1, qK, qE⟩ := q; exact ⟨q0, q1, va_K.moved (u := U) (U := U.calling g mk a) (Vm.Alike.refl U.vm) qK, EVC.blind g mk a qE⟩, gH_rc hK hT hr_o0 shc_8 rfl, fun U hU hW => ⟨rfl, hU, va_K.moved hW.alike hK, hE.call hS hFc hU hW⟩⟩ rfl rfl hl.1 rfl (lv_room (Nat.le_of_ble_eq_true rfl)) dX5_tryLevels_58 ⟨(Nat.le_of_ble_eq_true rfl), (Nat.le_of_ble_eq_true rfl)⟩) hS (fun q _ h => hFc q h) hFc (fun r89 u t H locs ht hvm hw90 hB _ _ hS => ?_)
        obtain ⟨hT, hF1⟩ := hB
        rw [ht] at hT hF1
        have m91 := (hF1.fld hr_o0 skc_8 (k := 13) (by decide) (by decide)).trans m83
        have hF := hF.more hF1 (by decide)
        try dsimp only at hw90
        have h98 := hw90
        refine lv_if_eq (tgt := 84) hx hb dX5_tryLevels_61 (by decide) (fun c99 => ?_) (fun c99 => ?_)
        · have t100 : r89.toInt = 0 := ti_eq c99 rfl (by decide)
          refine lv_iinc (v := nI (40 + 40 * i3 + 40)) (lv' := [(6, .int (nI (40 + 40 * i3 + 40))), (0, .ref o0), (1, .int 5), (2, .int su), (3, .int cr), (4, .ref gr), (5, .int sp)]) hx hb dX5_tryLevels_84 hl (k := 0) rfl (nI_add (40 + 40 * i3) 40) (by decide) rfl (fun ls hl => ?_)
          refine lv_goto (tgt := 25) hx hb dX5_tryLevels_87 (by decide) ?_
          have hl : lv_has ls 7 [(6, .int (nI (40 + 40 * (i3 + 1)))), (0, .ref o0), (1, .int 5), (2, .int su), (3, .int cr), (4, .ref gr), (5, .int sp)] := by rw [show nI (40 + 40 * (i3 + 1)) = nI (40 + 40 * i3 + 40) from congrArg nI (by omega)]; exact hl
          exact ih62 (i3 + 1) (by omega) _ _ hT hF hS m91 ls (lv_sub hl [0, 1, 2, 3, 4, 5, 6] rfl)
        · have t101 : r89.toInt ≠ 0 := ti_ne c99 rfl (by decide)
          refine lv_aload_n hx hb dX5_tryLevels_64 rfl (lv_at hl 1 rfl) ?_
          refine lv_iload_n hx hb dX5_tryLevels_65 rfl (lv_at hl 2 rfl) ?_
          refine lv_iconst (v := 1) hx hb dX5_tryLevels_66 (by decide) ?_
          refine lv_iadd hx hb dX5_tryLevels_67 ?_
          refine lv_topi (fun x102 ex102 => ?_)
          obtain rfl : x102 = 6 := ex102.trans (by decide)
          refine lv_iload_n hx hb dX5_tryLevels_68 rfl (lv_at hl 3 rfl) ?_
          refine lv_iload_n hx hb dX5_tryLevels_69 rfl (lv_at hl 4 rfl) ?_
          refine lv_iload hx hb dX5_tryLevels_70 (lv_at hl 0 rfl) ?_
          have hFc := gA_free hG hA hS
          refine va_calli (va_runS (As := [.int cr, .int (nI (40 + 40 * i3))]) (rest := [.int su, .int 6, .ref o0]) ⟨hx, hb, hml, hown, hts⟩ (c_worthOfDepth l dC dI kA adK adV G H nC nS cr (nI (40 + 40 * i3)) hT (by omega) (by omega)) (va_cwS 2 hts (goodIn_app (goodIn_r _ [21, 22, 16] rfl (by decide +kernel)) (goodIn_ca (goodIn_r _ [17, 12, 7, 8, 9, 18, 19, 20] rfl (by decide +kernel)) (bs2_in _ _))) rfl rfl rfl (by decide +kernel) ⟨(Nat.le_of_ble_eq_true rfl), (Nat.le_of_ble_eq_true rfl)⟩) ⟨fun a U g mk q => by obtain ⟨q0, q1, qK, qE⟩ := q; exact ⟨q0, q1, va_K.moved (u := U) (U := U.calling g mk a) (Vm.Alike.refl U.vm) qK, EVC.blind g mk a qE⟩, fun U hU hW => ⟨rfl, hU, va_K.moved hW.alike hK, hE.call hS hFc hU hW⟩⟩ rfl rfl hl.1 rfl (lv_room (Nat.le_of_ble_eq_true rfl)) dX5_tryLevels_72 ⟨(Nat.le_of_ble_eq_true rfl), (Nat.le_of_ble_eq_true rfl)⟩) hS (fun q _ h => hFc q h) hFc (fun r103 u t H locs ht hvm hw104 hB _ _ hS => ?_)
          obtain ⟨hT, hF1⟩ := hB
          rw [ht] at hT hF1
          have m105 := (hF1.fld hr_o0 skc_8 (k := 13) (by decide) (by decide)).trans m91
          have hF := hF.more hF1 (by decide)
          try dsimp only at hw104
          have h112 := hw104
          refine lv_iadd hx hb dX5_tryLevels_75 ?_
          refine lv_topi (fun x113 ex113 => ?_)
          refine lv_iload_n hx hb dX5_tryLevels_76 rfl (lv_at hl 4 rfl) ?_
          refine lv_aload hx hb dX5_tryLevels_77 (lv_at hl 5 rfl) ?_
          refine lv_iload hx hb dX5_tryLevels_79 (lv_at hl 6 rfl) ?_
          have hFc := gA_free hG hA hS
          refine va_callv (va_runV (As := [.int 6, .int x113, .int cr, .ref gr, .int sp]) (rest := []) ⟨hx, hb, hml, hown, hts⟩ (c_tryLevels6 l dC dI kA adK adV G H nC nS o0 x113 cr gr sp fc hT hr_gr hr_o0 m105 (by have q8 := ti_all fc; omega) (by omega) (by omega)) (cwV 5 hts (goodIn_app (goodIn_r _ [25, 26, 27, 16] rfl (by decide +kernel)) (goodIn_ca (goodIn_r _ [23, 1, 24, 18, 19, 8, 20] rfl (by decide +kernel)) (bs2_in _ _))) rfl rfl rfl (by decide +kernel) ⟨(Nat.le_of_ble_eq_true rfl), (Nat.le_of_ble_eq_true rfl)⟩) ⟨fun a U g mk q => by obtain ⟨q0, q1, qK, qE⟩ := q; exact ⟨q0, q1, va_K.moved (u := U) (U := U.calling g mk a) (Vm.Alike.refl U.vm) qK, EVC.blind g mk a qE⟩, gH_rc hK hT hr_o0 shc_8 rfl, fun U hU hW => ⟨rfl, hU, va_K.moved hW.alike hK, hE.call hS hFc hU hW⟩⟩ rfl rfl hl.1 rfl (lv_room (Nat.le_of_ble_eq_true rfl)) dX5_tryLevels_81 ⟨(Nat.le_of_ble_eq_true rfl), (Nat.le_of_ble_eq_true rfl)⟩) hS (fun q _ h => hFc q h) hFc (fun u t H locs ht hvm hw115 hB _ _ hS => ?_)
          obtain ⟨hT, hF1⟩ := hB
          rw [ht] at hT hF1
          have m116 := (hF1.fld hr_o0 skc_8 (k := 13) (by decide) (by decide)).trans m105
          have hF := hF.more hF1 (by decide)
          try dsimp only at hw115
          refine lv_iinc (v := nI (40 + 40 * i3 + 40)) (lv' := [(6, .int (nI (40 + 40 * i3 + 40))), (0, .ref o0), (1, .int 5), (2, .int su), (3, .int cr), (4, .ref gr), (5, .int sp)]) hx hb dX5_tryLevels_84 hl (k := 0) rfl (nI_add (40 + 40 * i3) 40) (by decide) rfl (fun ls hl => ?_)
          refine lv_goto (tgt := 25) hx hb dX5_tryLevels_87 (by decide) ?_
          have hl : lv_has ls 7 [(6, .int (nI (40 + 40 * (i3 + 1)))), (0, .ref o0), (1, .int 5), (2, .int su), (3, .int cr), (4, .ref gr), (5, .int sp)] := by rw [show nI (40 + 40 * (i3 + 1)) = nI (40 + 40 * i3 + 40) from congrArg nI (by omega)]; exact hl
          exact ih62 (i3 + 1) (by omega) _ _ hT hF hS m116 ls (lv_sub hl [0, 1, 2, 3, 4, 5, 6] rfl)
    have hl2 : lv_has ls 7 [(6, .int (nI (40 + 40 * 0))), (0, .ref o0), (1, .int 5), (2, .int su), (3, .int cr), (4, .ref gr), (5, .int sp)] := hl
    exact key62 (4 - 0) 0 (by omega) _ _ hT hF hS hm_fc ls (lv_sub hl2 [0, 1, 2, 3, 4, 5, 6] rfl)
  · have t123 : fc.toInt ≤ 5 := ti_nlt c1 (by decide) rfl
    refine lv_aload_n hx hb dX5_tryLevels_8 rfl (lv_at hl 0 rfl) ?_
    refine lv_aload_n hx hb dX5_tryLevels_9 rfl (lv_at hl 0 rfl) ?_
    refine tw_get hx hb hts bF2_X5 hown hK hT hr_o0 shc_8 rfl 14 (by decide) (ht_at2 hts 23 rfl) (fun _ h9 => h9) dX5_tryLevels_10 (fun v9 m124 h9 => ?_)
    obtain ⟨x125, rfl, gx125, kx125⟩ := h9 _ rfl
    refine lv_iload_n hx hb dX5_tryLevels_13 rfl (lv_at hl 2 rfl) ?_
    refine va_mmax hx hb (hml.trans hl.1.symm) hown (ht_at2 hts 17 rfl) (ht_at2 hts 18 rfl) (ht_at2 hts 7 rfl) (ht_at2 hts 19 rfl) (Nat.le_of_ble_eq_true rfl) (Nat.le_of_ble_eq_true rfl) (Nat.le_of_ble_eq_true rfl) (Nat.le_of_ble_eq_true rfl) dX5_tryLevels_14 ?_
    refine lv_topi (fun x126 ex126 => ?_)
    have t127 : x125.toInt ≤ x126.toInt ∧ su.toInt ≤ x126.toInt ∧ (x126.toInt = x125.toInt ∨ x126.toInt = su.toInt) := mx_f ex126 rfl rfl
    refine tw_put (v := .int x126) (ty := .int) hx hb hts bF2_X5 tyX5 tyX5_ok nmX5 hown hK hT hG hS hr_o0 shc_8 rfl 14 (by decide) (ht_at2 hts 23 rfl) (fun _ h9 => h9) rfl (by decide +kernel) rfl rfl (gl_at rfl (gi_all _)) dX5_tryLevels_17 (fun H locs hT oq m128 oj hS => ?_)
    have hF := hF.put hr_o0 skc_8 oq oj (by decide)
    exact W.vret hx hb hr (fun t ht hW => ⟨⟨(), rfl, (by exact trivial), by (try dsimp only); rw [ht]; exact ⟨hT, hF⟩⟩, hS.F ht⟩) hS.2.2 dX5_tryLevels_20
def w_c_tryLevels4 : List Cond := .code yX5_tryLevels cX5_tryLevels 7 none :: (HAppend.hAppend (α := List Cond) (β := List Cond) (γ := List Cond) [.fieldLink RX5 118 "SeaLand$Plans" "fieldCount" "I", .fieldLink RX5 26 "SeaLand$Plans" "fieldLevels" "[I", .fieldLink RX5 23 "SeaLand$Plans" "fields" "[I", .code yX5_agreesWithEarlier cX5_agreesWithEarlier 4 (some .boolean), .code yX11_stepsApart cX11_stepsApart 2 (some .int), .methodLink RX11 580 Lib.Math.abs.name, .static Lib.Math.abs.name, .initialized "java/lang/Math", .code Lib.Math.abs.name Lib.Math.abs.code 1 (some .int), .initialized RX11, .static yX11_stepsApart, .methodLink RX5 151 Lib.Math.abs.name, .methodLink RX5 141 yX5_agreesWithEarlier, .instanceMethod yX5_agreesWithEarlier, .selects RX5 yX5_agreesWithEarlier yX5_agreesWithEarlier, .initialized RX5, .code yX5_worthOfDepth cX5_worthOfDepth 2 (some .int), .methodLink RX5 94 Lib.Math.max.name, .static Lib.Math.max.name, .code Lib.Math.max.name Lib.Math.max.code 2 (some .int), .methodLink RX5 145 yX5_worthOfDepth, .static yX5_worthOfDepth, .code yX5_tryLevels cX5_tryLevels 7 none, .fieldLink RX5 126 "SeaLand$Plans" "bestSum" "I", .methodLink RX5 132 yX5_tryLevels, .instanceMethod yX5_tryLevels, .selects RX5 yX5_tryLevels yX5_tryLevels] bs2)
set_option maxHeartbeats 4000000 in
set_option maxRecDepth 100000 in
theorem c_tryLevels4 (l : Launch) (dC : Nat → ClassId) (dI : Nat → Nat → Nat) (kA : Nat → ClassId) (adK adV : Nat → Nat) (G : gT) (H0 : Heap) (nC nS : Int) (o0 : Nat) (su : Int32) (cr : Int32) (gr : Nat) (sp : Int32) (fc : Int32)  (hT : gH (dC, dI) kA (SHc nC nS) G H0) (hr_gr : G gr = some 5) (hr_o0 : G o0 = some 8) (hm_fc : el H0 o0 (dI 8 13) = some (.int fc)) (hq0 : 0 ≤ fc.toInt ∧ fc.toInt ≤ 6) (hgC : 0 ≤ nC ∧ nC ≤ 40) (hgS : 0 ≤ nS ∧ nS ≤ 60) : Met l yX5_tryLevels w_c_tryLevels4 ({ frames := 4, cells := 0, slots := 0, locals := 110 }) (va_Pc [.ref o0, .int 4, .int su, .int cr, .ref gr, .int sp] (fun U => U.heap = H0 ∧ va_K (dC, dI) vwCl (tyl kA) U ∧ EVC adK adV (gA G H0.size) U U.heap)) (va_Qv (fun (u : Unit) => True) (fun (_ : Unit) (t : State) => gH (dC, dI) kA (SHc nC nS) G t.heap ∧ gF (dC, dI) SKc G ([(8, 14), (62, 0)] : List (Nat × Nat)) H0 t.heap) (gA G H0.size)) 0 0 (gA G H0.size) := by
  refine Met.ofW (cc := cX5_tryLevels) (maxL := 7) (ret := none) (by decide) rfl ?_
  intro p e s m args below meth c s₁ B hml hv
  obtain ⟨rfl, hH0, hK, hE⟩ := hv
  have hx := B.exec
  have hb := B.bytes
  have hr := B.returns
  have hts := atoms_spec (ws := w_c_tryLevels4) B.pre
  have hown : s.vm.findClass RX5 = some m.cls := findClass_of_methodNamed B.named
  have hlocks := B.notSynchronized
  subst hH0
  generalize hAe : gA G s.heap.size = A at hE ⊢
  have hA : ∀ q : Nat, s.heap.size ≤ q → A q := fun q h => by rw [← hAe]; exact Or.inr h
  have hG := gA_of hAe
  have hS : va_S A s.heap s.heap [] := va_S.rf
  have hF : gF (dC, dI) SKc G ([(8, 14), (62, 0)] : List (Nat × Nat)) s.heap s.heap := gF.rf
  have hl := lv_entry ([.ref o0, .int 4, .int su, .int cr, .ref gr, .int sp]) (n := 7) (Nat.le_of_ble_eq_true rfl)
  rw [lg_entry_eq]
  generalize (lg_sl ([.ref o0, .int 4, .int su, .int cr, .ref gr, .int sp]) ++ List.replicate (7 - (lg_sl ([.ref o0, .int 4, .int su, .int cr, .ref gr, .int sp])).length) Slot.unset).toArray = ls at hl ⊢
  have hl : lv_has ls 7 [(0, .ref o0), (1, .int 4), (2, .int su), (3, .int cr), (4, .ref gr), (5, .int sp)] := hl
  refine lv_iload_n hx hb dX5_tryLevels_0 rfl (lv_at hl 1 rfl) ?_
  refine lv_aload_n hx hb dX5_tryLevels_1 rfl (lv_at hl 0 rfl) ?_
  refine tw_getM (v := .int fc) hx hb hts bF2_X5 hown hK hT hr_o0 shc_8 rfl 13 (by decide) (ht_at2 hts 0 rfl) (fun _ h9 => h9) hm_fc dX5_tryLevels_2 ?_
  refine lv_icmp_lt (tgt := 21) hx hb dX5_tryLevels_5 (by decide) (fun c1 => ?_) (fun c1 => ?_)
  · have t2 : 4 < fc.toInt := ti_lt c1 (by decide) rfl
    refine lv_bipush (v := 40) hx hb dX5_tryLevels_21 (by decide) ?_
    refine lv_istore (lv' := [(6, .int 40), (0, .ref o0), (1, .int 4), (2, .int su), (3, .int cr), (4, .ref gr), (5, .int sp)]) hx hb dX5_tryLevels_23 hl (by decide) rfl (fun ls hl => ?_)
    have key62 : ∀ (n62 i3 : Nat), i3 + n62 = 4 → ∀ (H : Heap) (locs : List Loc), gH (dC, dI) kA (SHc nC nS) G H → gF (dC, dI) SKc G ([(8, 14), (62, 0)] : List (Nat × Nat)) s.heap H → va_S A s.heap H locs → el H o0 (dI 8 13) = some (.int fc) → ∀ ls : Array Slot, lv_has ls 7 [(6, .int (nI (40 + 40 * i3))), (0, .ref o0), (1, .int 4), (2, .int su), (3, .int cr), (4, .ref gr), (5, .int sp)] → W p l e (headSpec w_c_tryLevels4 ({ frames := 4, cells := 0, slots := 0, locals := 110 })).room s m #[.ref o0, .int 4, .int su, .int cr, .ref gr, .int sp] below meth c H locs 0 0 (MQ below (va_Qv (fun (u : Unit) => True) (fun (_ : Unit) (t : State) => gH (dC, dI) kA (SHc nC nS) G t.heap ∧ gF (dC, dI) SKc G ([(8, 14), (62, 0)] : List (Nat × Nat)) s.heap t.heap) A) #[.ref o0, .int 4, .int su, .int cr, .ref gr, .int sp] s 0 0 A) (F0 m 25 ls []) := by
      intro n62
      induction n62 with
      | zero =>
        intro i3 hn62  H locs hT hF hS m4 ls hl
        obtain rfl : 4 = i3 := by omega
        refine lv_iload hx hb dX5_tryLevels_25 (lv_at hl 0 rfl) ?_
        refine lv_sipush (v := 160) hx hb dX5_tryLevels_27 (by decide) ?_
        refine lv_icmp_gt (tgt := 90) hx hb dX5_tryLevels_30 (by decide) (fun c64 => ?_) (fun c64 => (by exfalso; have q9 : ((40 + 40 * 4 : Nat) : Int) ≤ 160 := ti_nlt c64 (by decide) (nI_toInt (by omega)); omega))
        have t65 : 160 < ((40 + 40 * 4 : Nat) : Int) := ti_lt c64 (by decide) (nI_toInt (by omega))
        exact W.vret hx hb hr (fun t ht hW => ⟨⟨(), rfl, (by exact trivial), by (try dsimp only); rw [ht]; exact ⟨hT, hF⟩⟩, hS.F ht⟩) hS.2.2 dX5_tryLevels_90
      | succ n62 ih62 =>
        intro i3 hn62  H locs hT hF hS m4 ls hl
        have hlt65 : i3 < 4 := by omega
        refine lv_iload hx hb dX5_tryLevels_25 (lv_at hl 0 rfl) ?_
        refine lv_sipush (v := 160) hx hb dX5_tryLevels_27 (by decide) ?_
        refine lv_icmp_gt (tgt := 90) hx hb dX5_tryLevels_30 (by decide) (fun c66 => (by exfalso; have q9 : 160 < ((40 + 40 * i3 : Nat) : Int) := ti_lt c66 (by decide) (nI_toInt (by omega)); omega)) (fun c66 => ?_)
        have t67 : ((40 + 40 * i3 : Nat) : Int) ≤ 160 := ti_nlt c66 (by decide) (nI_toInt (by omega))
        refine lv_aload_n hx hb dX5_tryLevels_33 rfl (lv_at hl 1 rfl) ?_
        refine tw_get hx hb hts bF2_X5 hown hK hT hr_o0 shc_8 rfl 4 (by decide) (ht_at2 hts 1 rfl) (fun _ h9 => h9) dX5_tryLevels_34 (fun v9 m68 h9 => ?_)
        obtain ⟨b69, rfl, hg70⟩ := h9 _ rfl
        refine lv_iload_n hx hb dX5_tryLevels_37 rfl (lv_at hl 2 rfl) ?_
        refine lv_aload hx hb dX5_tryLevels_38 (lv_at hl 5 rfl) ?_
        refine tw_getN hx hb hts bF2_X2 hown hK hT hr_gr shc_5 rfl 1 (by decide) (hE.nw 95 rfl) (fun _ h9 => h9) dX5_tryLevels_40 (fun v9 m71 h9 => ?_)
        obtain ⟨b72, rfl, hg73⟩ := h9 _ rfl
        refine lv_aload_n hx hb dX5_tryLevels_43 rfl (lv_at hl 1 rfl) ?_
        refine tw_get hx hb hts bF2_X5 hown hK hT hr_o0 shc_8 rfl 3 (by decide) (ht_at2 hts 2 rfl) (fun _ h9 => h9) dX5_tryLevels_44 (fun v9 m74 h9 => ?_)
        obtain ⟨b75, rfl, hg76⟩ := h9 _ rfl
        refine lv_iload_n hx hb dX5_tryLevels_47 rfl (lv_at hl 2 rfl) ?_
        refine tw_iald (i := 4) hx hb hK hT hg76 shc_61 rfl (by unfold vp_in; decide) dX5_tryLevels_48 (fun v9 m77 h9 => ?_)
        obtain ⟨x78, rfl, gx78, kx78⟩ := h9
        refine tw_iald (i := x78) hx hb hK hT hg73 shc_26 rfl (vin_t (a := x78.toInt) rfl (by omega) (by omega)) dX5_tryLevels_49 (fun v9 m79 h9 => ?_)
        obtain ⟨x80, rfl, gx80, kx80⟩ := h9
        refine lv_iload hx hb dX5_tryLevels_50 (lv_at hl 0 rfl) ?_
        refine lv_isub hx hb dX5_tryLevels_52 ?_
        refine lv_topi (fun x81 ex81 => ?_)
        refine tw_iast (i := 4) (x := x81) hx hb hK hT hG hS hg70 shc_62 rfl (by unfold vp_in; decide) (gi_all _) dX5_tryLevels_53 (fun H locs hT oq m82 oi hS => ?_)
        have hF := hF.ast hg70 skc_62 oq (by decide)
        have m83 := (el_kept (oq _ (gne hr_o0 hg70 (by decide)))).trans m4
        refine lv_aload_n hx hb dX5_tryLevels_54 rfl (lv_at hl 1 rfl) ?_
        refine lv_iload_n hx hb dX5_tryLevels_55 rfl (lv_at hl 2 rfl) ?_
        refine lv_iload hx hb dX5_tryLevels_56 (lv_at hl 6 rfl) ?_
        have hFc := gA_free hG hA hS
        refine va_calli (va_runV (As := [.int 4, .int sp]) (rest := []) ⟨hx, hb, hml, hown, hts⟩ (c_agreesWithEarlier l dC dI kA adK adV G H nC nS o0 4 sp hT hr_o0 (rg_t (a := 4) (by decide) (by first | decide | omega) (by first | decide | omega)) (by omega) (by omega)) (cwV 2 hts (goodIn_app (goodIn_r _ [13, 14, 15, 16] rfl (by decide +kernel)) (goodIn_ca (goodIn_r _ [4, 3, 5, 6, 7, 8, 9, 10, 11, 2, 12] rfl (by decide +kernel)) (bs2_in _ _))) rfl rfl rfl (by decide +kernel) ⟨(Nat.le_of_ble_eq_true rfl), (Nat.le_of_ble_eq_true rfl)⟩) ⟨fun a U g mk q => by obtain ⟨q0, q1, qK, qE⟩ := q; exact ⟨q0, q1, va_K.moved (u := U) (U := U.calling g mk a) (Vm.Alike.refl U.vm) qK, EVC.blind g mk a qE⟩, gH_rc hK hT hr_o0 shc_8 rfl, fun U hU hW => ⟨rfl, hU, va_K.moved hW.alike hK, hE.call hS hFc hU hW⟩⟩ rfl rfl hl.1 rfl (lv_room (Nat.le_of_ble_eq_true rfl)) dX5_tryLevels_58 ⟨(Nat.le_of_ble_eq_true rfl), (Nat.le_of_ble_eq_true rfl)⟩) hS (fun q _ h => hFc q h) hFc (fun r89 u t H locs ht hvm hw90 hB _ _ hS => ?_)
        obtain ⟨hT, hF1⟩ := hB
        rw [ht] at hT hF1
        have m91 := (hF1.fld hr_o0 skc_8 (k := 13) (by decide) (by decide)).trans m83
        have hF := hF.more hF1 (by decide)
        try dsimp only at hw90
        have h98 := hw90
        refine lv_if_eq (tgt := 84) hx hb dX5_tryLevels_61 (by decide) (fun c99 => ?_) (fun c99 => ?_)
        · have t100 : r89.toInt = 0 := ti_eq c99 rfl (by decide)
          refine lv_iinc (v := nI (40 + 40 * i3 + 40)) (lv' := [(6, .int (nI (40 + 40 * i3 + 40))), (0, .ref o0), (1, .int 4), (2, .int su), (3, .int cr), (4, .ref gr), (5, .int sp)]) hx hb dX5_tryLevels_84 hl (k := 0) rfl (nI_add (40 + 40 * i3) 40) (by decide) rfl (fun ls hl => ?_)
          refine lv_goto (tgt := 25) hx hb dX5_tryLevels_87 (by decide) ?_
          have hl : lv_has ls 7 [(6, .int (nI (40 + 40 * (i3 + 1)))), (0, .ref o0), (1, .int 4), (2, .int su), (3, .int cr), (4, .ref gr), (5, .int sp)] := by rw [show nI (40 + 40 * (i3 + 1)) = nI (40 + 40 * i3 + 40) from congrArg nI (by omega)]; exact hl
          exact ih62 (i3 + 1) (by omega) _ _ hT hF hS m91 ls (lv_sub hl [0, 1, 2, 3, 4, 5, 6] rfl)
        · have t101 : r89.toInt ≠ 0 := ti_ne c99 rfl (by decide)
          refine lv_aload_n hx hb dX5_tryLevels_64 rfl (lv_at hl 1 rfl) ?_
          refine lv_iload_n hx hb dX5_tryLevels_65 rfl (lv_at hl 2 rfl) ?_
          refine lv_iconst (v := 1) hx hb dX5_tryLevels_66 (by decide) ?_
          refine lv_iadd hx hb dX5_tryLevels_67 ?_
          refine lv_topi (fun x102 ex102 => ?_)
          obtain rfl : x102 = 5 := ex102.trans (by decide)
          refine lv_iload_n hx hb dX5_tryLevels_68 rfl (lv_at hl 3 rfl) ?_
          refine lv_iload_n hx hb dX5_tryLevels_69 rfl (lv_at hl 4 rfl) ?_
          refine lv_iload hx hb dX5_tryLevels_70 (lv_at hl 0 rfl) ?_
          have hFc := gA_free hG hA hS
          refine va_calli (va_runS (As := [.int cr, .int (nI (40 + 40 * i3))]) (rest := [.int su, .int 5, .ref o0]) ⟨hx, hb, hml, hown, hts⟩ (c_worthOfDepth l dC dI kA adK adV G H nC nS cr (nI (40 + 40 * i3)) hT (by omega) (by omega)) (va_cwS 2 hts (goodIn_app (goodIn_r _ [21, 22, 16] rfl (by decide +kernel)) (goodIn_ca (goodIn_r _ [17, 12, 7, 8, 9, 18, 19, 20] rfl (by decide +kernel)) (bs2_in _ _))) rfl rfl rfl (by decide +kernel) ⟨(Nat.le_of_ble_eq_true rfl), (Nat.le_of_ble_eq_true rfl)⟩) ⟨fun a U g mk q => by obtain ⟨q0, q1, qK, qE⟩ := q; exact ⟨q0, q1, va_K.moved (u := U) (U := U.calling g mk a) (Vm.Alike.refl U.vm) qK, EVC.blind g mk a qE⟩, fun U hU hW => ⟨rfl, hU, va_K.moved hW.alike hK, hE.call hS hFc hU hW⟩⟩ rfl rfl hl.1 rfl (lv_room (Nat.le_of_ble_eq_true rfl)) dX5_tryLevels_72 ⟨(Nat.le_of_ble_eq_true rfl), (Nat.le_of_ble_eq_true rfl)⟩) hS (fun q _ h => hFc q h) hFc (fun r103 u t H locs ht hvm hw104 hB _ _ hS => ?_)
          obtain ⟨hT, hF1⟩ := hB
          rw [ht] at hT hF1
          have m105 := (hF1.fld hr_o0 skc_8 (k := 13) (by decide) (by decide)).trans m91
          have hF := hF.more hF1 (by decide)
          try dsimp only at hw104
          have h112 := hw104
          refine lv_iadd hx hb dX5_tryLevels_75 ?_
          refine lv_topi (fun x113 ex113 => ?_)
          refine lv_iload_n hx hb dX5_tryLevels_76 rfl (lv_at hl 4 rfl) ?_
          refine lv_aload hx hb dX5_tryLevels_77 (lv_at hl 5 rfl) ?_
          refine lv_iload hx hb dX5_tryLevels_79 (lv_at hl 6 rfl) ?_
          have hFc := gA_free hG hA hS
          refine va_callv (va_runV (As := [.int 5, .int x113, .int cr, .ref gr, .int sp]) (rest := []) ⟨hx, hb, hml, hown, hts⟩ (c_tryLevels5 l dC dI kA adK adV G H nC nS o0 x113 cr gr sp fc hT hr_gr hr_o0 m105 (by have q8 := ti_all fc; omega) (by omega) (by omega)) (cwV 5 hts (goodIn_app (goodIn_r _ [25, 26, 27, 16] rfl (by decide +kernel)) (goodIn_ca (goodIn_r _ [23, 1, 2, 3, 4, 5, 6, 7, 8, 9, 10, 11, 12, 13, 14, 15, 16, 17, 18, 19, 20, 21, 22, 23, 24, 25, 26, 27] rfl (by decide +kernel)) (bs2_in _ _))) rfl rfl rfl (by decide +kernel) ⟨(Nat.le_of_ble_eq_true rfl), (Nat.le_of_ble_eq_true rfl)⟩) ⟨fun a U g mk q => by obtain ⟨q0, q1, qK, qE⟩ := q; exact ⟨q0, q1, va_K.moved (u := U) (U := U.calling g mk a) (Vm.Alike.refl U.vm) qK, EVC.blind g mk a qE⟩, gH_rc hK hT hr_o0 shc_8 rfl, fun U hU hW => ⟨rfl, hU, va_K.moved hW.alike hK, hE.call hS hFc hU hW⟩⟩ rfl rfl hl.1 rfl (lv_room (Nat.le_of_ble_eq_true rfl)) dX5_tryLevels_81 ⟨(Nat.le_of_ble_eq_true rfl), (Nat.le_of_ble_eq_true rfl)⟩) hS (fun q _ h => hFc q h) hFc (fun u t H locs ht hvm hw115 hB _ _ hS => ?_)
          obtain ⟨hT, hF1⟩ := hB
          rw [ht] at hT hF1
          have m116 := (hF1.fld hr_o0 skc_8 (k := 13) (by decide) (by decide)).trans m105
          have hF := hF.more hF1 (by decide)
          try dsimp only at hw115
          refine lv_iinc (v := nI (40 + 40 * i3 + 40)) (lv' := [(6, .int (nI (40 + 40 * i3 + 40))), (0, .ref o0), (1, .int 4), (2, .int su), (3, .int cr), (4, .ref gr), (5, .int sp)]) hx hb dX5_tryLevels_84 hl (k := 0) rfl (nI_add (40 + 40 * i3) 40) (by decide) rfl (fun ls hl => ?_)
          refine lv_goto (tgt := 25) hx hb dX5_tryLevels_87 (by decide) ?_
          have hl : lv_has ls 7 [(6, .int (nI (40 + 40 * (i3 + 1)))), (0, .ref o0), (1, .int 4), (2, .int su), (3, .int cr), (4, .ref gr), (5, .int sp)] := by rw [show nI (40 + 40 * (i3 + 1)) = nI (40 + 40 * i3 + 40) from congrArg nI (by omega)]; exact hl
          exact ih62 (i3 + 1) (by omega) _ _ hT hF hS m116 ls (lv_sub hl [0, 1, 2, 3, 4, 5, 6] rfl)
    have hl2 : lv_has ls 7 [(6, .int (nI (40 + 40 * 0))), (0, .ref o0), (1, .int 4), (2, .int su), (3, .int cr), (4, .ref gr), (5, .int sp)] := hl
    exact key62 (4 - 0) 0 (by omega) _ _ hT hF hS hm_fc ls (lv_sub hl2 [0, 1, 2, 3, 4, 5, 6] rfl)
  · have t123 : fc.toInt ≤ 4 := ti_nlt c1 (by decide) rfl
    refine lv_aload_n hx hb dX5_tryLevels_8 rfl (lv_at hl 0 rfl) ?_
    refine lv_aload_n hx hb dX5_tryLevels_9 rfl (lv_at hl 0 rfl) ?_
    refine tw_get hx hb hts bF2_X5 hown hK hT hr_o0 shc_8 rfl 14 (by decide) (ht_at2 hts 23 rfl) (fun _ h9 => h9) dX5_tryLevels_10 (fun v9 m124 h9 => ?_)
    obtain ⟨x125, rfl, gx125, kx125⟩ := h9 _ rfl
    refine lv_iload_n hx hb dX5_tryLevels_13 rfl (lv_at hl 2 rfl) ?_
    refine va_mmax hx hb (hml.trans hl.1.symm) hown (ht_at2 hts 17 rfl) (ht_at2 hts 18 rfl) (ht_at2 hts 7 rfl) (ht_at2 hts 19 rfl) (Nat.le_of_ble_eq_true rfl) (Nat.le_of_ble_eq_true rfl) (Nat.le_of_ble_eq_true rfl) (Nat.le_of_ble_eq_true rfl) dX5_tryLevels_14 ?_
    refine lv_topi (fun x126 ex126 => ?_)
    have t127 : x125.toInt ≤ x126.toInt ∧ su.toInt ≤ x126.toInt ∧ (x126.toInt = x125.toInt ∨ x126.toInt = su.toInt) := mx_f ex126 rfl rfl
    refine tw_put (v := .int x126) (ty := .int) hx hb hts bF2_X5 tyX5 tyX5_ok nmX5 hown hK hT hG hS hr_o0 shc_8 rfl 14 (by decide) (ht_at2 hts 23 rfl) (fun _ h9 => h9) rfl (by decide +kernel) rfl rfl (gl_at rfl (gi_all _)) dX5_tryLevels_17 (fun H locs hT oq m128 oj hS => ?_)
    have hF := hF.put hr_o0 skc_8 oq oj (by decide)
    exact W.vret hx hb hr (fun t ht hW => ⟨⟨(), rfl, (by exact trivial), by (try dsimp only); rw [ht]; exact ⟨hT, hF⟩⟩, hS.F ht⟩) hS.2.2 dX5_tryLevels_20
def w_c_tryLevels3 : List Cond := .code yX5_tryLevels cX5_tryLevels 7 none :: (HAppend.hAppend (α := List Cond) (β := List Cond) (γ := List Cond) [.fieldLink RX5 118 "SeaLand$Plans" "fieldCount" "I", .fieldLink RX5 26 "SeaLand$Plans" "fieldLevels" "[I", .fieldLink RX5 23 "SeaLand$Plans" "fields" "[I", .code yX5_agreesWithEarlier cX5_agreesWithEarlier 4 (some .boolean), .code yX11_stepsApart cX11_stepsApart 2 (some .int), .methodLink RX11 580 Lib.Math.abs.name, .static Lib.Math.abs.name, .initialized "java/lang/Math", .code Lib.Math.abs.name Lib.Math.abs.code 1 (some .int), .initialized RX11, .static yX11_stepsApart, .methodLink RX5 151 Lib.Math.abs.name, .methodLink RX5 141 yX5_agreesWithEarlier, .instanceMethod yX5_agreesWithEarlier, .selects RX5 yX5_agreesWithEarlier yX5_agreesWithEarlier, .initialized RX5, .code yX5_worthOfDepth cX5_worthOfDepth 2 (some .int), .methodLink RX5 94 Lib.Math.max.name, .static Lib.Math.max.name, .code Lib.Math.max.name Lib.Math.max.code 2 (some .int), .methodLink RX5 145 yX5_worthOfDepth, .static yX5_worthOfDepth, .code yX5_tryLevels cX5_tryLevels 7 none, .fieldLink RX5 126 "SeaLand$Plans" "bestSum" "I", .methodLink RX5 132 yX5_tryLevels, .instanceMethod yX5_tryLevels, .selects RX5 yX5_tryLevels yX5_tryLevels] bs2)
set_option maxHeartbeats 4000000 in
set_option maxRecDepth 100000 in
theorem c_tryLevels3 (l : Launch) (dC : Nat → ClassId) (dI : Nat → Nat → Nat) (kA : Nat → ClassId) (adK adV : Nat → Nat) (G : gT) (H0 : Heap) (nC nS : Int) (o0 : Nat) (su : Int32) (cr : Int32) (gr : Nat) (sp : Int32) (fc : Int32)  (hT : gH (dC, dI) kA (SHc nC nS) G H0) (hr_gr : G gr = some 5) (hr_o0 : G o0 = some 8) (hm_fc : el H0 o0 (dI 8 13) = some (.int fc)) (hq0 : 0 ≤ fc.toInt ∧ fc.toInt ≤ 6) (hgC : 0 ≤ nC ∧ nC ≤ 40) (hgS : 0 ≤ nS ∧ nS ≤ 60) : Met l yX5_tryLevels w_c_tryLevels3 ({ frames := 5, cells := 0, slots := 0, locals := 136 }) (va_Pc [.ref o0, .int 3, .int su, .int cr, .ref gr, .int sp] (fun U => U.heap = H0 ∧ va_K (dC, dI) vwCl (tyl kA) U ∧ EVC adK adV (gA G H0.size) U U.heap)) (va_Qv (fun (u : Unit) => True) (fun (_ : Unit) (t : State) => gH (dC, dI) kA (SHc nC nS) G t.heap ∧ gF (dC, dI) SKc G ([(8, 14), (62, 0)] : List (Nat × Nat)) H0 t.heap) (gA G H0.size)) 0 0 (gA G H0.size) := by
  refine Met.ofW (cc := cX5_tryLevels) (maxL := 7) (ret := none) (by decide) rfl ?_
  intro p e s m args below meth c s₁ B hml hv
  obtain ⟨rfl, hH0, hK, hE⟩ := hv
  have hx := B.exec
  have hb := B.bytes
  have hr := B.returns
  have hts := atoms_spec (ws := w_c_tryLevels3) B.pre
  have hown : s.vm.findClass RX5 = some m.cls := findClass_of_methodNamed B.named
  have hlocks := B.notSynchronized
  subst hH0
  generalize hAe : gA G s.heap.size = A at hE ⊢
  have hA : ∀ q : Nat, s.heap.size ≤ q → A q := fun q h => by rw [← hAe]; exact Or.inr h
  have hG := gA_of hAe
  have hS : va_S A s.heap s.heap [] := va_S.rf
  have hF : gF (dC, dI) SKc G ([(8, 14), (62, 0)] : List (Nat × Nat)) s.heap s.heap := gF.rf
  have hl := lv_entry ([.ref o0, .int 3, .int su, .int cr, .ref gr, .int sp]) (n := 7) (Nat.le_of_ble_eq_true rfl)
  rw [lg_entry_eq]
  generalize (lg_sl ([.ref o0, .int 3, .int su, .int cr, .ref gr, .int sp]) ++ List.replicate (7 - (lg_sl ([.ref o0, .int 3, .int su, .int cr, .ref gr, .int sp])).length) Slot.unset).toArray = ls at hl ⊢
  have hl : lv_has ls 7 [(0, .ref o0), (1, .int 3), (2, .int su), (3, .int cr), (4, .ref gr), (5, .int sp)] := hl
  refine lv_iload_n hx hb dX5_tryLevels_0 rfl (lv_at hl 1 rfl) ?_
  refine lv_aload_n hx hb dX5_tryLevels_1 rfl (lv_at hl 0 rfl) ?_
  refine tw_getM (v := .int fc) hx hb hts bF2_X5 hown hK hT hr_o0 shc_8 rfl 13 (by decide) (ht_at2 hts 0 rfl) (fun _ h9 => h9) hm_fc dX5_tryLevels_2 ?_
  refine lv_icmp_lt (tgt := 21) hx hb dX5_tryLevels_5 (by decide) (fun c1 => ?_) (fun c1 => ?_)
  · have t2 : 3 < fc.toInt := ti_lt c1 (by decide) rfl
    refine lv_bipush (v := 40) hx hb dX5_tryLevels_21 (by decide) ?_
    refine lv_istore (lv' := [(6, .int 40), (0, .ref o0), (1, .int 3), (2, .int su), (3, .int cr), (4, .ref gr), (5, .int sp)]) hx hb dX5_tryLevels_23 hl (by decide) rfl (fun ls hl => ?_)
    have key62 : ∀ (n62 i3 : Nat), i3 + n62 = 4 → ∀ (H : Heap) (locs : List Loc), gH (dC, dI) kA (SHc nC nS) G H → gF (dC, dI) SKc G ([(8, 14), (62, 0)] : List (Nat × Nat)) s.heap H → va_S A s.heap H locs → el H o0 (dI 8 13) = some (.int fc) → ∀ ls : Array Slot, lv_has ls 7 [(6, .int (nI (40 + 40 * i3))), (0, .ref o0), (1, .int 3), (2, .int su), (3, .int cr), (4, .ref gr), (5, .int sp)] → W p l e (headSpec w_c_tryLevels3 ({ frames := 5, cells := 0, slots := 0, locals := 136 })).room s m #[.ref o0, .int 3, .int su, .int cr, .ref gr, .int sp] below meth c H locs 0 0 (MQ below (va_Qv (fun (u : Unit) => True) (fun (_ : Unit) (t : State) => gH (dC, dI) kA (SHc nC nS) G t.heap ∧ gF (dC, dI) SKc G ([(8, 14), (62, 0)] : List (Nat × Nat)) s.heap t.heap) A) #[.ref o0, .int 3, .int su, .int cr, .ref gr, .int sp] s 0 0 A) (F0 m 25 ls []) := by
      intro n62
      induction n62 with
      | zero =>
        intro i3 hn62  H locs hT hF hS m4 ls hl
        obtain rfl : 4 = i3 := by omega
        refine lv_iload hx hb dX5_tryLevels_25 (lv_at hl 0 rfl) ?_
        refine lv_sipush (v := 160) hx hb dX5_tryLevels_27 (by decide) ?_
        refine lv_icmp_gt (tgt := 90) hx hb dX5_tryLevels_30 (by decide) (fun c64 => ?_) (fun c64 => (by exfalso; have q9 : ((40 + 40 * 4 : Nat) : Int) ≤ 160 := ti_nlt c64 (by decide) (nI_toInt (by omega)); omega))
        have t65 : 160 < ((40 + 40 * 4 : Nat) : Int) := ti_lt c64 (by decide) (nI_toInt (by omega))
        exact W.vret hx hb hr (fun t ht hW => ⟨⟨(), rfl, (by exact trivial), by (try dsimp only); rw [ht]; exact ⟨hT, hF⟩⟩, hS.F ht⟩) hS.2.2 dX5_tryLevels_90
      | succ n62 ih62 =>
        intro i3 hn62  H locs hT hF hS m4 ls hl
        have hlt65 : i3 < 4 := by omega
        refine lv_iload hx hb dX5_tryLevels_25 (lv_at hl 0 rfl) ?_
        refine lv_sipush (v := 160) hx hb dX5_tryLevels_27 (by decide) ?_
        refine lv_icmp_gt (tgt := 90) hx hb dX5_tryLevels_30 (by decide) (fun c66 => (by exfalso; have q9 : 160 < ((40 + 40 * i3 : Nat) : Int) := ti_lt c66 (by decide) (nI_toInt (by omega)); omega)) (fun c66 => ?_)
        have t67 : ((40 + 40 * i3 : Nat) : Int) ≤ 160 := ti_nlt c66 (by decide) (nI_toInt (by omega))
        refine lv_aload_n hx hb dX5_tryLevels_33 rfl (lv_at hl 1 rfl) ?_
        refine tw_get hx hb hts bF2_X5 hown hK hT hr_o0 shc_8 rfl 4 (by decide) (ht_at2 hts 1 rfl) (fun _ h9 => h9) dX5_tryLevels_34 (fun v9 m68 h9 => ?_)
        obtain ⟨b69, rfl, hg70⟩ := h9 _ rfl
        refine lv_iload_n hx hb dX5_tryLevels_37 rfl (lv_at hl 2 rfl) ?_
        refine lv_aload hx hb dX5_tryLevels_38 (lv_at hl 5 rfl) ?_
        refine tw_getN hx hb hts bF2_X2 hown hK hT hr_gr shc_5 rfl 1 (by decide) (hE.nw 95 rfl) (fun _ h9 => h9) dX5_tryLevels_40 (fun v9 m71 h9 => ?_)
        obtain ⟨b72, rfl, hg73⟩ := h9 _ rfl
        refine lv_aload_n hx hb dX5_tryLevels_43 rfl (lv_at hl 1 rfl) ?_
        refine tw_get hx hb hts bF2_X5 hown hK hT hr_o0 shc_8 rfl 3 (by decide) (ht_at2 hts 2 rfl) (fun _ h9 => h9) dX5_tryLevels_44 (fun v9 m74 h9 => ?_)
        obtain ⟨b75, rfl, hg76⟩ := h9 _ rfl
        refine lv_iload_n hx hb dX5_tryLevels_47 rfl (lv_at hl 2 rfl) ?_
        refine tw_iald (i := 3) hx hb hK hT hg76 shc_61 rfl (by unfold vp_in; decide) dX5_tryLevels_48 (fun v9 m77 h9 => ?_)
        obtain ⟨x78, rfl, gx78, kx78⟩ := h9
        refine tw_iald (i := x78) hx hb hK hT hg73 shc_26 rfl (vin_t (a := x78.toInt) rfl (by omega) (by omega)) dX5_tryLevels_49 (fun v9 m79 h9 => ?_)
        obtain ⟨x80, rfl, gx80, kx80⟩ := h9
        refine lv_iload hx hb dX5_tryLevels_50 (lv_at hl 0 rfl) ?_
        refine lv_isub hx hb dX5_tryLevels_52 ?_
        refine lv_topi (fun x81 ex81 => ?_)
        refine tw_iast (i := 3) (x := x81) hx hb hK hT hG hS hg70 shc_62 rfl (by unfold vp_in; decide) (gi_all _) dX5_tryLevels_53 (fun H locs hT oq m82 oi hS => ?_)
        have hF := hF.ast hg70 skc_62 oq (by decide)
        have m83 := (el_kept (oq _ (gne hr_o0 hg70 (by decide)))).trans m4
        refine lv_aload_n hx hb dX5_tryLevels_54 rfl (lv_at hl 1 rfl) ?_
        refine lv_iload_n hx hb dX5_tryLevels_55 rfl (lv_at hl 2 rfl) ?_
        refine lv_iload hx hb dX5_tryLevels_56 (lv_at hl 6 rfl) ?_
        have hFc := gA_free hG hA hS
        refine va_calli (va_runV (As := [.int 3, .int sp]) (rest := []) ⟨hx, hb, hml, hown, hts⟩ (c_agreesWithEarlier l dC dI kA adK adV G H nC nS o0 3 sp hT hr_o0 (rg_t (a := 3) (by decide) (by first | decide | omega) (by first | decide | omega)) (by omega) (by omega)) (cwV 2 hts (goodIn_app (goodIn_r _ [13, 14, 15, 16] rfl (by decide +kernel)) (goodIn_ca (goodIn_r _ [4, 3, 5, 6, 7, 8, 9, 10, 11, 2, 12] rfl (by decide +kernel)) (bs2_in _ _))) rfl rfl rfl (by decide +kernel) ⟨(Nat.le_of_ble_eq_true rfl), (Nat.le_of_ble_eq_true rfl)⟩) ⟨fun a U g mk q => by obtain ⟨q0, q1, qK, qE⟩ := q; exact ⟨q0, q1, va_K.moved (u := U) (U := U.calling g mk a) (Vm.Alike.refl U.vm) qK, EVC.blind g mk a qE⟩, gH_rc hK hT hr_o0 shc_8 rfl, fun U hU hW => ⟨rfl, hU, va_K.moved hW.alike hK, hE.call hS hFc hU hW⟩⟩ rfl rfl hl.1 rfl (lv_room (Nat.le_of_ble_eq_true rfl)) dX5_tryLevels_58 ⟨(Nat.le_of_ble_eq_true rfl), (Nat.le_of_ble_eq_true rfl)⟩) hS (fun q _ h => hFc q h) hFc (fun r89 u t H locs ht hvm hw90 hB _ _ hS => ?_)
        obtain ⟨hT, hF1⟩ := hB
        rw [ht] at hT hF1
        have m91 := (hF1.fld hr_o0 skc_8 (k := 13) (by decide) (by decide)).trans m83
        have hF := hF.more hF1 (by decide)
        try dsimp only at hw90
        have h98 := hw90
        refine lv_if_eq (tgt := 84) hx hb dX5_tryLevels_61 (by decide) (fun c99 => ?_) (fun c99 => ?_)
        · have t100 : r89.toInt = 0 := ti_eq c99 rfl (by decide)
          refine lv_iinc (v := nI (40 + 40 * i3 + 40)) (lv' := [(6, .int (nI (40 + 40 * i3 + 40))), (0, .ref o0), (1, .int 3), (2, .int su), (3, .int cr), (4, .ref gr), (5, .int sp)]) hx hb dX5_tryLevels_84 hl (k := 0) rfl (nI_add (40 + 40 * i3) 40) (by decide) rfl (fun ls hl => ?_)
          refine lv_goto (tgt := 25) hx hb dX5_tryLevels_87 (by decide) ?_
          have hl : lv_has ls 7 [(6, .int (nI (40 + 40 * (i3 + 1)))), (0, .ref o0), (1, .int 3), (2, .int su), (3, .int cr), (4, .ref gr), (5, .int sp)] := by rw [show nI (40 + 40 * (i3 + 1)) = nI (40 + 40 * i3 + 40) from congrArg nI (by omega)]; exact hl
          exact ih62 (i3 + 1) (by omega) _ _ hT hF hS m91 ls (lv_sub hl [0, 1, 2, 3, 4, 5, 6] rfl)
        · have t101 : r89.toInt ≠ 0 := ti_ne c99 rfl (by decide)
          refine lv_aload_n hx hb dX5_tryLevels_64 rfl (lv_at hl 1 rfl) ?_
          refine lv_iload_n hx hb dX5_tryLevels_65 rfl (lv_at hl 2 rfl) ?_
          refine lv_iconst (v := 1) hx hb dX5_tryLevels_66 (by decide) ?_
          refine lv_iadd hx hb dX5_tryLevels_67 ?_
          refine lv_topi (fun x102 ex102 => ?_)
          obtain rfl : x102 = 4 := ex102.trans (by decide)
          refine lv_iload_n hx hb dX5_tryLevels_68 rfl (lv_at hl 3 rfl) ?_
          refine lv_iload_n hx hb dX5_tryLevels_69 rfl (lv_at hl 4 rfl) ?_
          refine lv_iload hx hb dX5_tryLevels_70 (lv_at hl 0 rfl) ?_
          have hFc := gA_free hG hA hS
          refine va_calli (va_runS (As := [.int cr, .int (nI (40 + 40 * i3))]) (rest := [.int su, .int 4, .ref o0]) ⟨hx, hb, hml, hown, hts⟩ (c_worthOfDepth l dC dI kA adK adV G H nC nS cr (nI (40 + 40 * i3)) hT (by omega) (by omega)) (va_cwS 2 hts (goodIn_app (goodIn_r _ [21, 22, 16] rfl (by decide +kernel)) (goodIn_ca (goodIn_r _ [17, 12, 7, 8, 9, 18, 19, 20] rfl (by decide +kernel)) (bs2_in _ _))) rfl rfl rfl (by decide +kernel) ⟨(Nat.le_of_ble_eq_true rfl), (Nat.le_of_ble_eq_true rfl)⟩) ⟨fun a U g mk q => by obtain ⟨q0, q1, qK, qE⟩ := q; exact ⟨q0, q1, va_K.moved (u := U) (U := U.calling g mk a) (Vm.Alike.refl U.vm) qK, EVC.blind g mk a qE⟩, fun U hU hW => ⟨rfl, hU, va_K.moved hW.alike hK, hE.call hS hFc hU hW⟩⟩ rfl rfl hl.1 rfl (lv_room (Nat.le_of_ble_eq_true rfl)) dX5_tryLevels_72 ⟨(Nat.le_of_ble_eq_true rfl), (Nat.le_of_ble_eq_true rfl)⟩) hS (fun q _ h => hFc q h) hFc (fun r103 u t H locs ht hvm hw104 hB _ _ hS => ?_)
          obtain ⟨hT, hF1⟩ := hB
          rw [ht] at hT hF1
          have m105 := (hF1.fld hr_o0 skc_8 (k := 13) (by decide) (by decide)).trans m91
          have hF := hF.more hF1 (by decide)
          try dsimp only at hw104
          have h112 := hw104
          refine lv_iadd hx hb dX5_tryLevels_75 ?_
          refine lv_topi (fun x113 ex113 => ?_)
          refine lv_iload_n hx hb dX5_tryLevels_76 rfl (lv_at hl 4 rfl) ?_
          refine lv_aload hx hb dX5_tryLevels_77 (lv_at hl 5 rfl) ?_
          refine lv_iload hx hb dX5_tryLevels_79 (lv_at hl 6 rfl) ?_
          have hFc := gA_free hG hA hS
          refine va_callv (va_runV (As := [.int 4, .int x113, .int cr, .ref gr, .int sp]) (rest := []) ⟨hx, hb, hml, hown, hts⟩ (c_tryLevels4 l dC dI kA adK adV G H nC nS o0 x113 cr gr sp fc hT hr_gr hr_o0 m105 (by have q8 := ti_all fc; omega) (by omega) (by omega)) (cwV 5 hts (goodIn_app (goodIn_r _ [25, 26, 27, 16] rfl (by decide +kernel)) (goodIn_ca (goodIn_r _ [23, 1, 2, 3, 4, 5, 6, 7, 8, 9, 10, 11, 12, 13, 14, 15, 16, 17, 18, 19, 20, 21, 22, 23, 24, 25, 26, 27] rfl (by decide +kernel)) (bs2_in _ _))) rfl rfl rfl (by decide +kernel) ⟨(Nat.le_of_ble_eq_true rfl), (Nat.le_of_ble_eq_true rfl)⟩) ⟨fun a U g mk q => by obtain ⟨q0, q1, qK, qE⟩ := q; exact ⟨q0, q1, va_K.moved (u := U) (U := U.calling g mk a) (Vm.Alike.refl U.vm) qK, EVC.blind g mk a qE⟩, gH_rc hK hT hr_o0 shc_8 rfl, fun U hU hW => ⟨rfl, hU, va_K.moved hW.alike hK, hE.call hS hFc hU hW⟩⟩ rfl rfl hl.1 rfl (lv_room (Nat.le_of_ble_eq_true rfl)) dX5_tryLevels_81 ⟨(Nat.le_of_ble_eq_true rfl), (Nat.le_of_ble_eq_true rfl)⟩) hS (fun q _ h => hFc q h) hFc (fun u t H locs ht hvm hw115 hB _ _ hS => ?_)
          obtain ⟨hT, hF1⟩ := hB
          rw [ht] at hT hF1
          have m116 := (hF1.fld hr_o0 skc_8 (k := 13) (by decide) (by decide)).trans m105
          have hF := hF.more hF1 (by decide)
          try dsimp only at hw115
          refine lv_iinc (v := nI (40 + 40 * i3 + 40)) (lv' := [(6, .int (nI (40 + 40 * i3 + 40))), (0, .ref o0), (1, .int 3), (2, .int su), (3, .int cr), (4, .ref gr), (5, .int sp)]) hx hb dX5_tryLevels_84 hl (k := 0) rfl (nI_add (40 + 40 * i3) 40) (by decide) rfl (fun ls hl => ?_)
          refine lv_goto (tgt := 25) hx hb dX5_tryLevels_87 (by decide) ?_
          have hl : lv_has ls 7 [(6, .int (nI (40 + 40 * (i3 + 1)))), (0, .ref o0), (1, .int 3), (2, .int su), (3, .int cr), (4, .ref gr), (5, .int sp)] := by rw [show nI (40 + 40 * (i3 + 1)) = nI (40 + 40 * i3 + 40) from congrArg nI (by omega)]; exact hl
          exact ih62 (i3 + 1) (by omega) _ _ hT hF hS m116 ls (lv_sub hl [0, 1, 2, 3, 4, 5, 6] rfl)
    have hl2 : lv_has ls 7 [(6, .int (nI (40 + 40 * 0))), (0, .ref o0), (1, .int 3), (2, .int su), (3, .int cr), (4, .ref gr), (5, .int sp)] := hl
    exact key62 (4 - 0) 0 (by omega) _ _ hT hF hS hm_fc ls (lv_sub hl2 [0, 1, 2, 3, 4, 5, 6] rfl)
  · have t123 : fc.toInt ≤ 3 := ti_nlt c1 (by decide) rfl
    refine lv_aload_n hx hb dX5_tryLevels_8 rfl (lv_at hl 0 rfl) ?_
    refine lv_aload_n hx hb dX5_tryLevels_9 rfl (lv_at hl 0 rfl) ?_
    refine tw_get hx hb hts bF2_X5 hown hK hT hr_o0 shc_8 rfl 14 (by decide) (ht_at2 hts 23 rfl) (fun _ h9 => h9) dX5_tryLevels_10 (fun v9 m124 h9 => ?_)
    obtain ⟨x125, rfl, gx125, kx125⟩ := h9 _ rfl
    refine lv_iload_n hx hb dX5_tryLevels_13 rfl (lv_at hl 2 rfl) ?_
    refine va_mmax hx hb (hml.trans hl.1.symm) hown (ht_at2 hts 17 rfl) (ht_at2 hts 18 rfl) (ht_at2 hts 7 rfl) (ht_at2 hts 19 rfl) (Nat.le_of_ble_eq_true rfl) (Nat.le_of_ble_eq_true rfl) (Nat.le_of_ble_eq_true rfl) (Nat.le_of_ble_eq_true rfl) dX5_tryLevels_14 ?_
    refine lv_topi (fun x126 ex126 => ?_)
    have t127 : x125.toInt ≤ x126.toInt ∧ su.toInt ≤ x126.toInt ∧ (x126.toInt = x125.toInt ∨ x126.toInt = su.toInt) := mx_f ex126 rfl rfl
    refine tw_put (v := .int x126) (ty := .int) hx hb hts bF2_X5 tyX5 tyX5_ok nmX5 hown hK hT hG hS hr_o0 shc_8 rfl 14 (by decide) (ht_at2 hts 23 rfl) (fun _ h9 => h9) rfl (by decide +kernel) rfl rfl (gl_at rfl (gi_all _)) dX5_tryLevels_17 (fun H locs hT oq m128 oj hS => ?_)
    have hF := hF.put hr_o0 skc_8 oq oj (by decide)
    exact W.vret hx hb hr (fun t ht hW => ⟨⟨(), rfl, (by exact trivial), by (try dsimp only); rw [ht]; exact ⟨hT, hF⟩⟩, hS.F ht⟩) hS.2.2 dX5_tryLevels_20
def w_c_tryLevels2 : List Cond := .code yX5_tryLevels cX5_tryLevels 7 none :: (HAppend.hAppend (α := List Cond) (β := List Cond) (γ := List Cond) [.fieldLink RX5 118 "SeaLand$Plans" "fieldCount" "I", .fieldLink RX5 26 "SeaLand$Plans" "fieldLevels" "[I", .fieldLink RX5 23 "SeaLand$Plans" "fields" "[I", .code yX5_agreesWithEarlier cX5_agreesWithEarlier 4 (some .boolean), .code yX11_stepsApart cX11_stepsApart 2 (some .int), .methodLink RX11 580 Lib.Math.abs.name, .static Lib.Math.abs.name, .initialized "java/lang/Math", .code Lib.Math.abs.name Lib.Math.abs.code 1 (some .int), .initialized RX11, .static yX11_stepsApart, .methodLink RX5 151 Lib.Math.abs.name, .methodLink RX5 141 yX5_agreesWithEarlier, .instanceMethod yX5_agreesWithEarlier, .selects RX5 yX5_agreesWithEarlier yX5_agreesWithEarlier, .initialized RX5, .code yX5_worthOfDepth cX5_worthOfDepth 2 (some .int), .methodLink RX5 94 Lib.Math.max.name, .static Lib.Math.max.name, .code Lib.Math.max.name Lib.Math.max.code 2 (some .int), .methodLink RX5 145 yX5_worthOfDepth, .static yX5_worthOfDepth, .code yX5_tryLevels cX5_tryLevels 7 none, .fieldLink RX5 126 "SeaLand$Plans" "bestSum" "I", .methodLink RX5 132 yX5_tryLevels, .instanceMethod yX5_tryLevels, .selects RX5 yX5_tryLevels yX5_tryLevels] bs2)
set_option maxHeartbeats 4000000 in
set_option maxRecDepth 100000 in
theorem c_tryLevels2 (l : Launch) (dC : Nat → ClassId) (dI : Nat → Nat → Nat) (kA : Nat → ClassId) (adK adV : Nat → Nat) (G : gT) (H0 : Heap) (nC nS : Int) (o0 : Nat) (su : Int32) (cr : Int32) (gr : Nat) (sp : Int32) (fc : Int32)  (hT : gH (dC, dI) kA (SHc nC nS) G H0) (hr_gr : G gr = some 5) (hr_o0 : G o0 = some 8) (hm_fc : el H0 o0 (dI 8 13) = some (.int fc)) (hq0 : 0 ≤ fc.toInt ∧ fc.toInt ≤ 6) (hgC : 0 ≤ nC ∧ nC ≤ 40) (hgS : 0 ≤ nS ∧ nS ≤ 60) : Met l yX5_tryLevels w_c_tryLevels2 ({ frames := 6, cells := 0, slots := 0, locals := 162 }) (va_Pc [.ref o0, .int 2, .int su, .int cr, .ref gr, .int sp] (fun U => U.heap = H0 ∧ va_K (dC, dI) vwCl (tyl kA) U ∧ EVC adK adV (gA G H0.size) U U.heap)) (va_Qv (fun (u : Unit) => True) (fun (_ : Unit) (t : State) => gH (dC, dI) kA (SHc nC nS) G t.heap ∧ gF (dC, dI) SKc G ([(8, 14), (62, 0)] : List (Nat × Nat)) H0 t.heap) (gA G H0.size)) 0 0 (gA G H0.size) := by
  refine Met.ofW (cc := cX5_tryLevels) (maxL := 7) (ret := none) (by decide) rfl ?_
  intro p e s m args below meth c s₁ B hml hv
  obtain ⟨rfl, hH0, hK, hE⟩ := hv
  have hx := B.exec
  have hb := B.bytes
  have hr := B.returns
  have hts := atoms_spec (ws := w_c_tryLevels2) B.pre
  have hown : s.vm.findClass RX5 = some m.cls := findClass_of_methodNamed B.named
  have hlocks := B.notSynchronized
  subst hH0
  generalize hAe : gA G s.heap.size = A at hE ⊢
  have hA : ∀ q : Nat, s.heap.size ≤ q → A q := fun q h => by rw [← hAe]; exact Or.inr h
  have hG := gA_of hAe
  have hS : va_S A s.heap s.heap [] := va_S.rf
  have hF : gF (dC, dI) SKc G ([(8, 14), (62, 0)] : List (Nat × Nat)) s.heap s.heap := gF.rf
  have hl := lv_entry ([.ref o0, .int 2, .int su, .int cr, .ref gr, .int sp]) (n := 7) (Nat.le_of_ble_eq_true rfl)
  rw [lg_entry_eq]
  generalize (lg_sl ([.ref o0, .int 2, .int su, .int cr, .ref gr, .int sp]) ++ List.replicate (7 - (lg_sl ([.ref o0, .int 2, .int su, .int cr, .ref gr, .int sp])).length) Slot.unset).toArray = ls at hl ⊢
  have hl : lv_has ls 7 [(0, .ref o0), (1, .int 2), (2, .int su), (3, .int cr), (4, .ref gr), (5, .int sp)] := hl
  refine lv_iload_n hx hb dX5_tryLevels_0 rfl (lv_at hl 1 rfl) ?_
  refine lv_aload_n hx hb dX5_tryLevels_1 rfl (lv_at hl 0 rfl) ?_
  refine tw_getM (v := .int fc) hx hb hts bF2_X5 hown hK hT hr_o0 shc_8 rfl 13 (by decide) (ht_at2 hts 0 rfl) (fun _ h9 => h9) hm_fc dX5_tryLevels_2 ?_
  refine lv_icmp_lt (tgt := 21) hx hb dX5_tryLevels_5 (by decide) (fun c1 => ?_) (fun c1 => ?_)
  · have t2 : 2 < fc.toInt := ti_lt c1 (by decide) rfl
    refine lv_bipush (v := 40) hx hb dX5_tryLevels_21 (by decide) ?_
    refine lv_istore (lv' := [(6, .int 40), (0, .ref o0), (1, .int 2), (2, .int su), (3, .int cr), (4, .ref gr), (5, .int sp)]) hx hb dX5_tryLevels_23 hl (by decide) rfl (fun ls hl => ?_)
    have key62 : ∀ (n62 i3 : Nat), i3 + n62 = 4 → ∀ (H : Heap) (locs : List Loc), gH (dC, dI) kA (SHc nC nS) G H → gF (dC, dI) SKc G ([(8, 14), (62, 0)] : List (Nat × Nat)) s.heap H → va_S A s.heap H locs → el H o0 (dI 8 13) = some (.int fc) → ∀ ls : Array Slot, lv_has ls 7 [(6, .int (nI (40 + 40 * i3))), (0, .ref o0), (1, .int 2), (2, .int su), (3, .int cr), (4, .ref gr), (5, .int sp)] → W p l e (headSpec w_c_tryLevels2 ({ frames := 6, cells := 0, slots := 0, locals := 162 })).room s m #[.ref o0, .int 2, .int su, .int cr, .ref gr, .int sp] below meth c H locs 0 0 (MQ below (va_Qv (fun (u : Unit) => True) (fun (_ : Unit) (t : State) => gH (dC, dI) kA (SHc nC nS) G t.heap ∧ gF (dC, dI) SKc G ([(8, 14), (62, 0)] : List (Nat × Nat)) s.heap t.heap) A) #[.ref o0, .int 2, .int su, .int cr, .ref gr, .int sp] s 0 0 A) (F0 m 25 ls []) := by
      intro n62
      induction n62 with
      | zero =>
        intro i3 hn62  H locs hT hF hS m4 ls hl
        obtain rfl : 4 = i3 := by omega
        refine lv_iload hx hb dX5_tryLevels_25 (lv_at hl 0 rfl) ?_
        refine lv_sipush (v := 160) hx hb dX5_tryLevels_27 (by decide) ?_
        refine lv_icmp_gt (tgt := 90) hx hb dX5_tryLevels_30 (by decide) (fun c64 => ?_) (fun c64 => (by exfalso; have q9 : ((40 + 40 * 4 : Nat) : Int) ≤ 160 := ti_nlt c64 (by decide) (nI_toInt (by omega)); omega))
        have t65 : 160 < ((40 + 40 * 4 : Nat) : Int) := ti_lt c64 (by decide) (nI_toInt (by omega))
        exact W.vret hx hb hr (fun t ht hW => ⟨⟨(), rfl, (by exact trivial), by (try dsimp only); rw [ht]; exact ⟨hT, hF⟩⟩, hS.F ht⟩) hS.2.2 dX5_tryLevels_90
      | succ n62 ih62 =>
        intro i3 hn62  H locs hT hF hS m4 ls hl
        have hlt65 : i3 < 4 := by omega
        refine lv_iload hx hb dX5_tryLevels_25 (lv_at hl 0 rfl) ?_
        refine lv_sipush (v := 160) hx hb dX5_tryLevels_27 (by decide) ?_
        refine lv_icmp_gt (tgt := 90) hx hb dX5_tryLevels_30 (by decide) (fun c66 => (by exfalso; have q9 : 160 < ((40 + 40 * i3 : Nat) : Int) := ti_lt c66 (by decide) (nI_toInt (by omega)); omega)) (fun c66 => ?_)
        have t67 : ((40 + 40 * i3 : Nat) : Int) ≤ 160 := ti_nlt c66 (by decide) (nI_toInt (by omega))
        refine lv_aload_n hx hb dX5_tryLevels_33 rfl (lv_at hl 1 rfl) ?_
        refine tw_get hx hb hts bF2_X5 hown hK hT hr_o0 shc_8 rfl 4 (by decide) (ht_at2 hts 1 rfl) (fun _ h9 => h9) dX5_tryLevels_34 (fun v9 m68 h9 => ?_)
        obtain ⟨b69, rfl, hg70⟩ := h9 _ rfl
        refine lv_iload_n hx hb dX5_tryLevels_37 rfl (lv_at hl 2 rfl) ?_
        refine lv_aload hx hb dX5_tryLevels_38 (lv_at hl 5 rfl) ?_
        refine tw_getN hx hb hts bF2_X2 hown hK hT hr_gr shc_5 rfl 1 (by decide) (hE.nw 95 rfl) (fun _ h9 => h9) dX5_tryLevels_40 (fun v9 m71 h9 => ?_)
        obtain ⟨b72, rfl, hg73⟩ := h9 _ rfl
        refine lv_aload_n hx hb dX5_tryLevels_43 rfl (lv_at hl 1 rfl) ?_
        refine tw_get hx hb hts bF2_X5 hown hK hT hr_o0 shc_8 rfl 3 (by decide) (ht_at2 hts 2 rfl) (fun _ h9 => h9) dX5_tryLevels_44 (fun v9 m74 h9 => ?_)
        obtain ⟨b75, rfl, hg76⟩ := h9 _ rfl
        refine lv_iload_n hx hb dX5_tryLevels_47 rfl (lv_at hl 2 rfl) ?_
        refine tw_iald (i := 2) hx hb hK hT hg76 shc_61 rfl (by unfold vp_in; decide) dX5_tryLevels_48 (fun v9 m77 h9 => ?_)
        obtain ⟨x78, rfl, gx78, kx78⟩ := h9
        refine tw_iald (i := x78) hx hb hK hT hg73 shc_26 rfl (vin_t (a := x78.toInt) rfl (by omega) (by omega)) dX5_tryLevels_49 (fun v9 m79 h9 => ?_)
        obtain ⟨x80, rfl, gx80, kx80⟩ := h9
        refine lv_iload hx hb dX5_tryLevels_50 (lv_at hl 0 rfl) ?_
        refine lv_isub hx hb dX5_tryLevels_52 ?_
        refine lv_topi (fun x81 ex81 => ?_)
        refine tw_iast (i := 2) (x := x81) hx hb hK hT hG hS hg70 shc_62 rfl (by unfold vp_in; decide) (gi_all _) dX5_tryLevels_53 (fun H locs hT oq m82 oi hS => ?_)
        have hF := hF.ast hg70 skc_62 oq (by decide)
        have m83 := (el_kept (oq _ (gne hr_o0 hg70 (by decide)))).trans m4
        refine lv_aload_n hx hb dX5_tryLevels_54 rfl (lv_at hl 1 rfl) ?_
        refine lv_iload_n hx hb dX5_tryLevels_55 rfl (lv_at hl 2 rfl) ?_
        refine lv_iload hx hb dX5_tryLevels_56 (lv_at hl 6 rfl) ?_
        have hFc := gA_free hG hA hS
        refine va_calli (va_runV (As := [.int 2, .int sp]) (rest := []) ⟨hx, hb, hml, hown, hts⟩ (c_agreesWithEarlier l dC dI kA adK adV G H nC nS o0 2 sp hT hr_o0 (rg_t (a := 2) (by decide) (by first | decide | omega) (by first | decide | omega)) (by omega) (by omega)) (cwV 2 hts (goodIn_app (goodIn_r _ [13, 14, 15, 16] rfl (by decide +kernel)) (goodIn_ca (goodIn_r _ [4, 3, 5, 6, 7, 8, 9, 10, 11, 2, 12] rfl (by decide +kernel)) (bs2_in _ _))) rfl rfl rfl (by decide +kernel) ⟨(Nat.le_of_ble_eq_true rfl), (Nat.le_of_ble_eq_true rfl)⟩) ⟨fun a U g mk q => by obtain ⟨q0, q1, qK, qE⟩ := q; exact ⟨q0, q1, va_K.moved (u := U) (U := U.calling g mk a) (Vm.Alike.refl U.vm) qK, EVC.blind g mk a qE⟩, gH_rc hK hT hr_o0 shc_8 rfl, fun U hU hW => ⟨rfl, hU, va_K.moved hW.alike hK, hE.call hS hFc hU hW⟩⟩ rfl rfl hl.1 rfl (lv_room (Nat.le_of_ble_eq_true rfl)) dX5_tryLevels_58 ⟨(Nat.le_of_ble_eq_true rfl), (Nat.le_of_ble_eq_true rfl)⟩) hS (fun q _ h => hFc q h) hFc (fun r89 u t H locs ht hvm hw90 hB _ _ hS => ?_)
        obtain ⟨hT, hF1⟩ := hB
        rw [ht] at hT hF1
        have m91 := (hF1.fld hr_o0 skc_8 (k := 13) (by decide) (by decide)).trans m83
        have hF := hF.more hF1 (by decide)
        try dsimp only at hw90
        have h98 := hw90
        refine lv_if_eq (tgt := 84) hx hb dX5_tryLevels_61 (by decide) (fun c99 => ?_) (fun c99 => ?_)
        · have t100 : r89.toInt = 0 := ti_eq c99 rfl (by decide)
          refine lv_iinc (v := nI (40 + 40 * i3 + 40)) (lv' := [(6, .int (nI (40 + 40 * i3 + 40))), (0, .ref o0), (1, .int 2), (2, .int su), (3, .int cr), (4, .ref gr), (5, .int sp)]) hx hb dX5_tryLevels_84 hl (k := 0) rfl (nI_add (40 + 40 * i3) 40) (by decide) rfl (fun ls hl => ?_)
          refine lv_goto (tgt := 25) hx hb dX5_tryLevels_87 (by decide) ?_
          have hl : lv_has ls 7 [(6, .int (nI (40 + 40 * (i3 + 1)))), (0, .ref o0), (1, .int 2), (2, .int su), (3, .int cr), (4, .ref gr), (5, .int sp)] := by rw [show nI (40 + 40 * (i3 + 1)) = nI (40 + 40 * i3 + 40) from congrArg nI (by omega)]; exact hl
          exact ih62 (i3 + 1) (by omega) _ _ hT hF hS m91 ls (lv_sub hl [0, 1, 2, 3, 4, 5, 6] rfl)
        · have t101 : r89.toInt ≠ 0 := ti_ne c99 rfl (by decide)
          refine lv_aload_n hx hb dX5_tryLevels_64 rfl (lv_at hl 1 rfl) ?_
          refine lv_iload_n hx hb dX5_tryLevels_65 rfl (lv_at hl 2 rfl) ?_
          refine lv_iconst (v := 1) hx hb dX5_tryLevels_66 (by decide) ?_
          refine lv_iadd hx hb dX5_tryLevels_67 ?_
          refine lv_topi (fun x102 ex102 => ?_)
          obtain rfl : x102 = 3 := ex102.trans (by decide)
          refine lv_iload_n hx hb dX5_tryLevels_68 rfl (lv_at hl 3 rfl) ?_
          refine lv_iload_n hx hb dX5_tryLevels_69 rfl (lv_at hl 4 rfl) ?_
          refine lv_iload hx hb dX5_tryLevels_70 (lv_at hl 0 rfl) ?_
          have hFc := gA_free hG hA hS
          refine va_calli (va_runS (As := [.int cr, .int (nI (40 + 40 * i3))]) (rest := [.int su, .int 3, .ref o0]) ⟨hx, hb, hml, hown, hts⟩ (c_worthOfDepth l dC dI kA adK adV G H nC nS cr (nI (40 + 40 * i3)) hT (by omega) (by omega)) (va_cwS 2 hts (goodIn_app (goodIn_r _ [21, 22, 16] rfl (by decide +kernel)) (goodIn_ca (goodIn_r _ [17, 12, 7, 8, 9, 18, 19, 20] rfl (by decide +kernel)) (bs2_in _ _))) rfl rfl rfl (by decide +kernel) ⟨(Nat.le_of_ble_eq_true rfl), (Nat.le_of_ble_eq_true rfl)⟩) ⟨fun a U g mk q => by obtain ⟨q0, q1, qK, qE⟩ := q; exact ⟨q0, q1, va_K.moved (u := U) (U := U.calling g mk a) (Vm.Alike.refl U.vm) qK, EVC.blind g mk a qE⟩, fun U hU hW => ⟨rfl, hU, va_K.moved hW.alike hK, hE.call hS hFc hU hW⟩⟩ rfl rfl hl.1 rfl (lv_room (Nat.le_of_ble_eq_true rfl)) dX5_tryLevels_72 ⟨(Nat.le_of_ble_eq_true rfl), (Nat.le_of_ble_eq_true rfl)⟩) hS (fun q _ h => hFc q h) hFc (fun r103 u t H locs ht hvm hw104 hB _ _ hS => ?_)
          obtain ⟨hT, hF1⟩ := hB
          rw [ht] at hT hF1
          have m105 := (hF1.fld hr_o0 skc_8 (k := 13) (by decide) (by decide)).trans m91
          have hF := hF.more hF1 (by decide)
          try dsimp only at hw104
          have h112 := hw104
          refine lv_iadd hx hb dX5_tryLevels_75 ?_
          refine lv_topi (fun x113 ex113 => ?_)
          refine lv_iload_n hx hb dX5_tryLevels_76 rfl (lv_at hl 4 rfl) ?_
          refine lv_aload hx hb dX5_tryLevels_77 (lv_at hl 5 rfl) ?_
          refine lv_iload hx hb dX5_tryLevels_79 (lv_at hl 6 rfl) ?_
          have hFc := gA_free hG hA hS
          refine va_callv (va_runV (As := [.int 3, .int x113, .int cr, .ref gr, .int sp]) (rest := []) ⟨hx, hb, hml, hown, hts⟩ (c_tryLevels3 l dC dI kA adK adV G H nC nS o0 x113 cr gr sp fc hT hr_gr hr_o0 m105 (by have q8 := ti_all fc; omega) (by omega) (by omega)) (cwV 5 hts (goodIn_app (goodIn_r _ [25, 26, 27, 16] rfl (by decide +kernel)) (goodIn_ca (goodIn_r _ [23, 1, 2, 3, 4, 5, 6, 7, 8, 9, 10, 11, 12, 13, 14, 15, 16, 17, 18, 19, 20, 21, 22, 23, 24, 25, 26, 27] rfl (by decide +kernel)) (bs2_in _ _))) rfl rfl rfl (by decide +kernel) ⟨(Nat.le_of_ble_eq_true rfl), (Nat.le_of_ble_eq_true rfl)⟩) ⟨fun a U g mk q => by obtain ⟨q0, q1, qK, qE⟩ := q; exact ⟨q0, q1, va_K.moved (u := U) (U := U.calling g mk a) (Vm.Alike.refl U.vm) qK, EVC.blind g mk a qE⟩, gH_rc hK hT hr_o0 shc_8 rfl, fun U hU hW => ⟨rfl, hU, va_K.moved hW.alike hK, hE.call hS hFc hU hW⟩⟩ rfl rfl hl.1 rfl (lv_room (Nat.le_of_ble_eq_true rfl)) dX5_tryLevels_81 ⟨(Nat.le_of_ble_eq_true rfl), (Nat.le_of_ble_eq_true rfl)⟩) hS (fun q _ h => hFc q h) hFc (fun u t H locs ht hvm hw115 hB _ _ hS => ?_)
          obtain ⟨hT, hF1⟩ := hB
          rw [ht] at hT hF1
          have m116 := (hF1.fld hr_o0 skc_8 (k := 13) (by decide) (by decide)).trans m105
          have hF := hF.more hF1 (by decide)
          try dsimp only at hw115
          refine lv_iinc (v := nI (40 + 40 * i3 + 40)) (lv' := [(6, .int (nI (40 + 40 * i3 + 40))), (0, .ref o0), (1, .int 2), (2, .int su), (3, .int cr), (4, .ref gr), (5, .int sp)]) hx hb dX5_tryLevels_84 hl (k := 0) rfl (nI_add (40 + 40 * i3) 40) (by decide) rfl (fun ls hl => ?_)
          refine lv_goto (tgt := 25) hx hb dX5_tryLevels_87 (by decide) ?_
          have hl : lv_has ls 7 [(6, .int (nI (40 + 40 * (i3 + 1)))), (0, .ref o0), (1, .int 2), (2, .int su), (3, .int cr), (4, .ref gr), (5, .int sp)] := by rw [show nI (40 + 40 * (i3 + 1)) = nI (40 + 40 * i3 + 40) from congrArg nI (by omega)]; exact hl
          exact ih62 (i3 + 1) (by omega) _ _ hT hF hS m116 ls (lv_sub hl [0, 1, 2, 3, 4, 5, 6] rfl)
    have hl2 : lv_has ls 7 [(6, .int (nI (40 + 40 * 0))), (0, .ref o0), (1, .int 2), (2, .int su), (3, .int cr), (4, .ref gr), (5, .int sp)] := hl
    exact key62 (4 - 0) 0 (by omega) _ _ hT hF hS hm_fc ls (lv_sub hl2 [0, 1, 2, 3, 4, 5, 6] rfl)
  · have t123 : fc.toInt ≤ 2 := ti_nlt c1 (by decide) rfl
    refine lv_aload_n hx hb dX5_tryLevels_8 rfl (lv_at hl 0 rfl) ?_
    refine lv_aload_n hx hb dX5_tryLevels_9 rfl (lv_at hl 0 rfl) ?_
    refine tw_get hx hb hts bF2_X5 hown hK hT hr_o0 shc_8 rfl 14 (by decide) (ht_at2 hts 23 rfl) (fun _ h9 => h9) dX5_tryLevels_10 (fun v9 m124 h9 => ?_)
    obtain ⟨x125, rfl, gx125, kx125⟩ := h9 _ rfl
    refine lv_iload_n hx hb dX5_tryLevels_13 rfl (lv_at hl 2 rfl) ?_
    refine va_mmax hx hb (hml.trans hl.1.symm) hown (ht_at2 hts 17 rfl) (ht_at2 hts 18 rfl) (ht_at2 hts 7 rfl) (ht_at2 hts 19 rfl) (Nat.le_of_ble_eq_true rfl) (Nat.le_of_ble_eq_true rfl) (Nat.le_of_ble_eq_true rfl) (Nat.le_of_ble_eq_true rfl) dX5_tryLevels_14 ?_
    refine lv_topi (fun x126 ex126 => ?_)
    have t127 : x125.toInt ≤ x126.toInt ∧ su.toInt ≤ x126.toInt ∧ (x126.toInt = x125.toInt ∨ x126.toInt = su.toInt) := mx_f ex126 rfl rfl
    refine tw_put (v := .int x126) (ty := .int) hx hb hts bF2_X5 tyX5 tyX5_ok nmX5 hown hK hT hG hS hr_o0 shc_8 rfl 14 (by decide) (ht_at2 hts 23 rfl) (fun _ h9 => h9) rfl (by decide +kernel) rfl rfl (gl_at rfl (gi_all _)) dX5_tryLevels_17 (fun H locs hT oq m128 oj hS => ?_)
    have hF := hF.put hr_o0 skc_8 oq oj (by decide)
    exact W.vret hx hb hr (fun t ht hW => ⟨⟨(), rfl, (by exact trivial), by (try dsimp only); rw [ht]; exact ⟨hT, hF⟩⟩, hS.F ht⟩) hS.2.2 dX5_tryLevels_20
def w_c_tryLevels1 : List Cond := .code yX5_tryLevels cX5_tryLevels 7 none :: (HAppend.hAppend (α := List Cond) (β := List Cond) (γ := List Cond) [.fieldLink RX5 118 "SeaLand$Plans" "fieldCount" "I", .fieldLink RX5 26 "SeaLand$Plans" "fieldLevels" "[I", .fieldLink RX5 23 "SeaLand$Plans" "fields" "[I", .code yX5_agreesWithEarlier cX5_agreesWithEarlier 4 (some .boolean), .code yX11_stepsApart cX11_stepsApart 2 (some .int), .methodLink RX11 580 Lib.Math.abs.name, .static Lib.Math.abs.name, .initialized "java/lang/Math", .code Lib.Math.abs.name Lib.Math.abs.code 1 (some .int), .initialized RX11, .static yX11_stepsApart, .methodLink RX5 151 Lib.Math.abs.name, .methodLink RX5 141 yX5_agreesWithEarlier, .instanceMethod yX5_agreesWithEarlier, .selects RX5 yX5_agreesWithEarlier yX5_agreesWithEarlier, .initialized RX5, .code yX5_worthOfDepth cX5_worthOfDepth 2 (some .int), .methodLink RX5 94 Lib.Math.max.name, .static Lib.Math.max.name, .code Lib.Math.max.name Lib.Math.max.code 2 (some .int), .methodLink RX5 145 yX5_worthOfDepth, .static yX5_worthOfDepth, .code yX5_tryLevels cX5_tryLevels 7 none, .fieldLink RX5 126 "SeaLand$Plans" "bestSum" "I", .methodLink RX5 132 yX5_tryLevels, .instanceMethod yX5_tryLevels, .selects RX5 yX5_tryLevels yX5_tryLevels] bs2)
set_option maxHeartbeats 4000000 in
set_option maxRecDepth 100000 in
theorem c_tryLevels1 (l : Launch) (dC : Nat → ClassId) (dI : Nat → Nat → Nat) (kA : Nat → ClassId) (adK adV : Nat → Nat) (G : gT) (H0 : Heap) (nC nS : Int) (o0 : Nat) (su : Int32) (cr : Int32) (gr : Nat) (sp : Int32) (fc : Int32)  (hT : gH (dC, dI) kA (SHc nC nS) G H0) (hr_gr : G gr = some 5) (hr_o0 : G o0 = some 8) (hm_fc : el H0 o0 (dI 8 13) = some (.int fc)) (hq0 : 0 ≤ fc.toInt ∧ fc.toInt ≤ 6) (hgC : 0 ≤ nC ∧ nC ≤ 40) (hgS : 0 ≤ nS ∧ nS ≤ 60) : Met l yX5_tryLevels w_c_tryLevels1 ({ frames := 7, cells := 0, slots := 0, locals := 188 }) (va_Pc [.ref o0, .int 1, .int su, .int cr, .ref gr, .int sp] (fun U => U.heap = H0 ∧ va_K (dC, dI) vwCl (tyl kA) U ∧ EVC adK adV (gA G H0.size) U U.heap)) (va_Qv (fun (u : Unit) => True) (fun (_ : Unit) (t : State) => gH (dC, dI) kA (SHc nC nS) G t.heap ∧ gF (dC, dI) SKc G ([(8, 14), (62, 0)] : List (Nat × Nat)) H0 t.heap) (gA G H0.size)) 0 0 (gA G H0.size) := by
  refine Met.ofW (cc := cX5_tryLevels) (maxL := 7) (ret := none) (by decide) rfl ?_
  intro p e s m args below meth c s₁ B hml hv
  obtain ⟨rfl, hH0, hK, hE⟩ := hv
  have hx := B.exec
  have hb := B.bytes
  have hr := B.returns
  have hts := atoms_spec (ws := w_c_tryLevels1) B.pre
  have hown : s.vm.findClass RX5 = some m.cls := findClass_of_methodNamed B.named
  have hlocks := B.notSynchronized
  subst hH0
  generalize hAe : gA G s.heap.size = A at hE ⊢
  have hA : ∀ q : Nat, s.heap.size ≤ q → A q := fun q h => by rw [← hAe]; exact Or.inr h
  have hG := gA_of hAe
  have hS : va_S A s.heap s.heap [] := va_S.rf
  have hF : gF (dC, dI) SKc G ([(8, 14), (62, 0)] : List (Nat × Nat)) s.heap s.heap := gF.rf
  have hl := lv_entry ([.ref o0, .int 1, .int su, .int cr, .ref gr, .int sp]) (n := 7) (Nat.le_of_ble_eq_true rfl)
  rw [lg_entry_eq]
  generalize (lg_sl ([.ref o0, .int 1, .int su, .int cr, .ref gr, .int sp]) ++ List.replicate (7 - (lg_sl ([.ref o0, .int 1, .int su, .int cr, .ref gr, .int sp])).length) Slot.unset).toArray = ls at hl ⊢
  have hl : lv_has ls 7 [(0, .ref o0), (1, .int 1), (2, .int su), (3, .int cr), (4, .ref gr), (5, .int sp)] := hl
  refine lv_iload_n hx hb dX5_tryLevels_0 rfl (lv_at hl 1 rfl) ?_
  refine lv_aload_n hx hb dX5_tryLevels_1 rfl (lv_at hl 0 rfl) ?_
  refine tw_getM (v := .int fc) hx hb hts bF2_X5 hown hK hT hr_o0 shc_8 rfl 13 (by decide) (ht_at2 hts 0 rfl) (fun _ h9 => h9) hm_fc dX5_tryLevels_2 ?_
  refine lv_icmp_lt (tgt := 21) hx hb dX5_tryLevels_5 (by decide) (fun c1 => ?_) (fun c1 => ?_)
  · have t2 : 1 < fc.toInt := ti_lt c1 (by decide) rfl
    refine lv_bipush (v := 40) hx hb dX5_tryLevels_21 (by decide) ?_
    refine lv_istore (lv' := [(6, .int 40), (0, .ref o0), (1, .int 1), (2, .int su), (3, .int cr), (4, .ref gr), (5, .int sp)]) hx hb dX5_tryLevels_23 hl (by decide) rfl (fun ls hl => ?_)
    have key62 : ∀ (n62 i3 : Nat), i3 + n62 = 4 → ∀ (H : Heap) (locs : List Loc), gH (dC, dI) kA (SHc nC nS) G H → gF (dC, dI) SKc G ([(8, 14), (62, 0)] : List (Nat × Nat)) s.heap H → va_S A s.heap H locs → el H o0 (dI 8 13) = some (.int fc) → ∀ ls : Array Slot, lv_has ls 7 [(6, .int (nI (40 + 40 * i3))), (0, .ref o0), (1, .int 1), (2, .int su), (3, .int cr), (4, .ref gr), (5, .int sp)] → W p l e (headSpec w_c_tryLevels1 ({ frames := 7, cells := 0, slots := 0, locals := 188 })).room s m #[.ref o0, .int 1, .int su, .int cr, .ref gr, .int sp] below meth c H locs 0 0 (MQ below (va_Qv (fun (u : Unit) => True) (fun (_ : Unit) (t : State) => gH (dC, dI) kA (SHc nC nS) G t.heap ∧ gF (dC, dI) SKc G ([(8, 14), (62, 0)] : List (Nat × Nat)) s.heap t.heap) A) #[.ref o0, .int 1, .int su, .int cr, .ref gr, .int sp] s 0 0 A) (F0 m 25 ls []) := by
      intro n62
      induction n62 with
      | zero =>
        intro i3 hn62  H locs hT hF hS m4 ls hl
        obtain rfl : 4 = i3 := by omega
        refine lv_iload hx hb dX5_tryLevels_25 (lv_at hl 0 rfl) ?_
        refine lv_sipush (v := 160) hx hb dX5_tryLevels_27 (by decide) ?_
        refine lv_icmp_gt (tgt := 90) hx hb dX5_tryLevels_30 (by decide) (fun c64 => ?_) (fun c64 => (by exfalso; have q9 : ((40 + 40 * 4 : Nat) : Int) ≤ 160 := ti_nlt c64 (by decide) (nI_toInt (by omega)); omega))
        have t65 : 160 < ((40 + 40 * 4 : Nat) : Int) := ti_lt c64 (by decide) (nI_toInt (by omega))
        exact W.vret hx hb hr (fun t ht hW => ⟨⟨(), rfl, (by exact trivial), by (try dsimp only); rw [ht]; exact ⟨hT, hF⟩⟩, hS.F ht⟩) hS.2.2 dX5_tryLevels_90
      | succ n62 ih62 =>
        intro i3 hn62  H locs hT hF hS m4 ls hl
        have hlt65 : i3 < 4 := by omega
        refine lv_iload hx hb dX5_tryLevels_25 (lv_at hl 0 rfl) ?_
        refine lv_sipush (v := 160) hx hb dX5_tryLevels_27 (by decide) ?_
        refine lv_icmp_gt (tgt := 90) hx hb dX5_tryLevels_30 (by decide) (fun c66 => (by exfalso; have q9 : 160 < ((40 + 40 * i3 : Nat) : Int) := ti_lt c66 (by decide) (nI_toInt (by omega)); omega)) (fun c66 => ?_)
        have t67 : ((40 + 40 * i3 : Nat) : Int) ≤ 160 := ti_nlt c66 (by decide) (nI_toInt (by omega))
        refine lv_aload_n hx hb dX5_tryLevels_33 rfl (lv_at hl 1 rfl) ?_
        refine tw_get hx hb hts bF2_X5 hown hK hT hr_o0 shc_8 rfl 4 (by decide) (ht_at2 hts 1 rfl) (fun _ h9 => h9) dX5_tryLevels_34 (fun v9 m68 h9 => ?_)
        obtain ⟨b69, rfl, hg70⟩ := h9 _ rfl
        refine lv_iload_n hx hb dX5_tryLevels_37 rfl (lv_at hl 2 rfl) ?_
        refine lv_aload hx hb dX5_tryLevels_38 (lv_at hl 5 rfl) ?_
        refine tw_getN hx hb hts bF2_X2 hown hK hT hr_gr shc_5 rfl 1 (by decide) (hE.nw 95 rfl) (fun _ h9 => h9) dX5_tryLevels_40 (fun v9 m71 h9 => ?_)
        obtain ⟨b72, rfl, hg73⟩ := h9 _ rfl
        refine lv_aload_n hx hb dX5_tryLevels_43 rfl (lv_at hl 1 rfl) ?_
        refine tw_get hx hb hts bF2_X5 hown hK hT hr_o0 shc_8 rfl 3 (by decide) (ht_at2 hts 2 rfl) (fun _ h9 => h9) dX5_tryLevels_44 (fun v9 m74 h9 => ?_)
        obtain ⟨b75, rfl, hg76⟩ := h9 _ rfl
        refine lv_iload_n hx hb dX5_tryLevels_47 rfl (lv_at hl 2 rfl) ?_
        refine tw_iald (i := 1) hx hb hK hT hg76 shc_61 rfl (by unfold vp_in; decide) dX5_tryLevels_48 (fun v9 m77 h9 => ?_)
        obtain ⟨x78, rfl, gx78, kx78⟩ := h9
        refine tw_iald (i := x78) hx hb hK hT hg73 shc_26 rfl (vin_t (a := x78.toInt) rfl (by omega) (by omega)) dX5_tryLevels_49 (fun v9 m79 h9 => ?_)
        obtain ⟨x80, rfl, gx80, kx80⟩ := h9
        refine lv_iload hx hb dX5_tryLevels_50 (lv_at hl 0 rfl) ?_
        refine lv_isub hx hb dX5_tryLevels_52 ?_
        refine lv_topi (fun x81 ex81 => ?_)
        refine tw_iast (i := 1) (x := x81) hx hb hK hT hG hS hg70 shc_62 rfl (by unfold vp_in; decide) (gi_all _) dX5_tryLevels_53 (fun H locs hT oq m82 oi hS => ?_)
        have hF := hF.ast hg70 skc_62 oq (by decide)
        have m83 := (el_kept (oq _ (gne hr_o0 hg70 (by decide)))).trans m4
        refine lv_aload_n hx hb dX5_tryLevels_54 rfl (lv_at hl 1 rfl) ?_
        refine lv_iload_n hx hb dX5_tryLevels_55 rfl (lv_at hl 2 rfl) ?_
        refine lv_iload hx hb dX5_tryLevels_56 (lv_at hl 6 rfl) ?_
        have hFc := gA_free hG hA hS
        refine va_calli (va_runV (As := [.int 1, .int sp]) (rest := []) ⟨hx, hb, hml, hown, hts⟩ (c_agreesWithEarlier l dC dI kA adK adV G H nC nS o0 1 sp hT hr_o0 (rg_t (a := 1) (by decide) (by first | decide | omega) (by first | decide | omega)) (by omega) (by omega)) (cwV 2 hts (goodIn_app (goodIn_r _ [13, 14, 15, 16] rfl (by decide +kernel)) (goodIn_ca (goodIn_r _ [4, 3, 5, 6, 7, 8, 9, 10, 11, 2, 12] rfl (by decide +kernel)) (bs2_in _ _))) rfl rfl rfl (by decide +kernel) ⟨(Nat.le_of_ble_eq_true rfl), (Nat.le_of_ble_eq_true rfl)⟩) ⟨fun a U g mk q => by obtain ⟨q0, q1, qK, qE⟩ := q; exact ⟨q0, q1, va_K.moved (u := U) (U := U.calling g mk a) (Vm.Alike.refl U.vm) qK, EVC.blind g mk a qE⟩, gH_rc hK hT hr_o0 shc_8 rfl, fun U hU hW => ⟨rfl, hU, va_K.moved hW.alike hK, hE.call hS hFc hU hW⟩⟩ rfl rfl hl.1 rfl (lv_room (Nat.le_of_ble_eq_true rfl)) dX5_tryLevels_58 ⟨(Nat.le_of_ble_eq_true rfl), (Nat.le_of_ble_eq_true rfl)⟩) hS (fun q _ h => hFc q h) hFc (fun r89 u t H locs ht hvm hw90 hB _ _ hS => ?_)
        obtain ⟨hT, hF1⟩ := hB
        rw [ht] at hT hF1
        have m91 := (hF1.fld hr_o0 skc_8 (k := 13) (by decide) (by decide)).trans m83
        have hF := hF.more hF1 (by decide)
        try dsimp only at hw90
        have h98 := hw90
        refine lv_if_eq (tgt := 84) hx hb dX5_tryLevels_61 (by decide) (fun c99 => ?_) (fun c99 => ?_)
        · have t100 : r89.toInt = 0 := ti_eq c99 rfl (by decide)
          refine lv_iinc (v := nI (40 + 40 * i3 + 40)) (lv' := [(6, .int (nI (40 + 40 * i3 + 40))), (0, .ref o0), (1, .int 1), (2, .int su), (3, .int cr), (4, .ref gr), (5, .int sp)]) hx hb dX5_tryLevels_84 hl (k := 0) rfl (nI_add (40 + 40 * i3) 40) (by decide) rfl (fun ls hl => ?_)
          refine lv_goto (tgt := 25) hx hb dX5_tryLevels_87 (by decide) ?_
          have hl : lv_has ls 7 [(6, .int (nI (40 + 40 * (i3 + 1)))), (0, .ref o0), (1, .int 1), (2, .int su), (3, .int cr), (4, .ref gr), (5, .int sp)] := by rw [show nI (40 + 40 * (i3 + 1)) = nI (40 + 40 * i3 + 40) from congrArg nI (by omega)]; exact hl
          exact ih62 (i3 + 1) (by omega) _ _ hT hF hS m91 ls (lv_sub hl [0, 1, 2, 3, 4, 5, 6] rfl)
        · have t101 : r89.toInt ≠ 0 := ti_ne c99 rfl (by decide)
          refine lv_aload_n hx hb dX5_tryLevels_64 rfl (lv_at hl 1 rfl) ?_
          refine lv_iload_n hx hb dX5_tryLevels_65 rfl (lv_at hl 2 rfl) ?_
          refine lv_iconst (v := 1) hx hb dX5_tryLevels_66 (by decide) ?_
          refine lv_iadd hx hb dX5_tryLevels_67 ?_
          refine lv_topi (fun x102 ex102 => ?_)
          obtain rfl : x102 = 2 := ex102.trans (by decide)
          refine lv_iload_n hx hb dX5_tryLevels_68 rfl (lv_at hl 3 rfl) ?_
          refine lv_iload_n hx hb dX5_tryLevels_69 rfl (lv_at hl 4 rfl) ?_
          refine lv_iload hx hb dX5_tryLevels_70 (lv_at hl 0 rfl) ?_
          have hFc := gA_free hG hA hS
          refine va_calli (va_runS (As := [.int cr, .int (nI (40 + 40 * i3))]) (rest := [.int su, .int 2, .ref o0]) ⟨hx, hb, hml, hown, hts⟩ (c_worthOfDepth l dC dI kA adK adV G H nC nS cr (nI (40 + 40 * i3)) hT (by omega) (by omega)) (va_cwS 2 hts (goodIn_app (goodIn_r _ [21, 22, 16] rfl (by decide +kernel)) (goodIn_ca (goodIn_r _ [17, 12, 7, 8, 9, 18, 19, 20] rfl (by decide +kernel)) (bs2_in _ _))) rfl rfl rfl (by decide +kernel) ⟨(Nat.le_of_ble_eq_true rfl), (Nat.le_of_ble_eq_true rfl)⟩) ⟨fun a U g mk q => by obtain ⟨q0, q1, qK, qE⟩ := q; exact ⟨q0, q1, va_K.moved (u := U) (U := U.calling g mk a) (Vm.Alike.refl U.vm) qK, EVC.blind g mk a qE⟩, fun U hU hW => ⟨rfl, hU, va_K.moved hW.alike hK, hE.call hS hFc hU hW⟩⟩ rfl rfl hl.1 rfl (lv_room (Nat.le_of_ble_eq_true rfl)) dX5_tryLevels_72 ⟨(Nat.le_of_ble_eq_true rfl), (Nat.le_of_ble_eq_true rfl)⟩) hS (fun q _ h => hFc q h) hFc (fun r103 u t H locs ht hvm hw104 hB _ _ hS => ?_)
          obtain ⟨hT, hF1⟩ := hB
          rw [ht] at hT hF1
          have m105 := (hF1.fld hr_o0 skc_8 (k := 13) (by decide) (by decide)).trans m91
          have hF := hF.more hF1 (by decide)
          try dsimp only at hw104
          have h112 := hw104
          refine lv_iadd hx hb dX5_tryLevels_75 ?_
          refine lv_topi (fun x113 ex113 => ?_)
          refine lv_iload_n hx hb dX5_tryLevels_76 rfl (lv_at hl 4 rfl) ?_
          refine lv_aload hx hb dX5_tryLevels_77 (lv_at hl 5 rfl) ?_
          refine lv_iload hx hb dX5_tryLevels_79 (lv_at hl 6 rfl) ?_
          have hFc := gA_free hG hA hS
          refine va_callv (va_runV (As := [.int 2, .int x113, .int cr, .ref gr, .int sp]) (rest := []) ⟨hx, hb, hml, hown, hts⟩ (c_tryLevels2 l dC dI kA adK adV G H nC nS o0 x113 cr gr sp fc hT hr_gr hr_o0 m105 (by have q8 := ti_all fc; omega) (by omega) (by omega)) (cwV 5 hts (goodIn_app (goodIn_r _ [25, 26, 27, 16] rfl (by decide +kernel)) (goodIn_ca (goodIn_r _ [23, 1, 2, 3, 4, 5, 6, 7, 8, 9, 10, 11, 12, 13, 14, 15, 16, 17, 18, 19, 20, 21, 22, 23, 24, 25, 26, 27] rfl (by decide +kernel)) (bs2_in _ _))) rfl rfl rfl (by decide +kernel) ⟨(Nat.le_of_ble_eq_true rfl), (Nat.le_of_ble_eq_true rfl)⟩) ⟨fun a U g mk q => by obtain ⟨q0, q1, qK, qE⟩ := q; exact ⟨q0, q1, va_K.moved (u := U) (U := U.calling g mk a) (Vm.Alike.refl U.vm) qK, EVC.blind g mk a qE⟩, gH_rc hK hT hr_o0 shc_8 rfl, fun U hU hW => ⟨rfl, hU, va_K.moved hW.alike hK, hE.call hS hFc hU hW⟩⟩ rfl rfl hl.1 rfl (lv_room (Nat.le_of_ble_eq_true rfl)) dX5_tryLevels_81 ⟨(Nat.le_of_ble_eq_true rfl), (Nat.le_of_ble_eq_true rfl)⟩) hS (fun q _ h => hFc q h) hFc (fun u t H locs ht hvm hw115 hB _ _ hS => ?_)
          obtain ⟨hT, hF1⟩ := hB
          rw [ht] at hT hF1
          have m116 := (hF1.fld hr_o0 skc_8 (k := 13) (by decide) (by decide)).trans m105
          have hF := hF.more hF1 (by decide)
          try dsimp only at hw115
          refine lv_iinc (v := nI (40 + 40 * i3 + 40)) (lv' := [(6, .int (nI (40 + 40 * i3 + 40))), (0, .ref o0), (1, .int 1), (2, .int su), (3, .int cr), (4, .ref gr), (5, .int sp)]) hx hb dX5_tryLevels_84 hl (k := 0) rfl (nI_add (40 + 40 * i3) 40) (by decide) rfl (fun ls hl => ?_)
          refine lv_goto (tgt := 25) hx hb dX5_tryLevels_87 (by decide) ?_
          have hl : lv_has ls 7 [(6, .int (nI (40 + 40 * (i3 + 1)))), (0, .ref o0), (1, .int 1), (2, .int su), (3, .int cr), (4, .ref gr), (5, .int sp)] := by rw [show nI (40 + 40 * (i3 + 1)) = nI (40 + 40 * i3 + 40) from congrArg nI (by omega)]; exact hl
          exact ih62 (i3 + 1) (by omega) _ _ hT hF hS m116 ls (lv_sub hl [0, 1, 2, 3, 4, 5, 6] rfl)
    have hl2 : lv_has ls 7 [(6, .int (nI (40 + 40 * 0))), (0, .ref o0), (1, .int 1), (2, .int su), (3, .int cr), (4, .ref gr), (5, .int sp)] := hl
    exact key62 (4 - 0) 0 (by omega) _ _ hT hF hS hm_fc ls (lv_sub hl2 [0, 1, 2, 3, 4, 5, 6] rfl)
  · have t123 : fc.toInt ≤ 1 := ti_nlt c1 (by decide) rfl
    refine lv_aload_n hx hb dX5_tryLevels_8 rfl (lv_at hl 0 rfl) ?_
    refine lv_aload_n hx hb dX5_tryLevels_9 rfl (lv_at hl 0 rfl) ?_
    refine tw_get hx hb hts bF2_X5 hown hK hT hr_o0 shc_8 rfl 14 (by decide) (ht_at2 hts 23 rfl) (fun _ h9 => h9) dX5_tryLevels_10 (fun v9 m124 h9 => ?_)
    obtain ⟨x125, rfl, gx125, kx125⟩ := h9 _ rfl
    refine lv_iload_n hx hb dX5_tryLevels_13 rfl (lv_at hl 2 rfl) ?_
    refine va_mmax hx hb (hml.trans hl.1.symm) hown (ht_at2 hts 17 rfl) (ht_at2 hts 18 rfl) (ht_at2 hts 7 rfl) (ht_at2 hts 19 rfl) (Nat.le_of_ble_eq_true rfl) (Nat.le_of_ble_eq_true rfl) (Nat.le_of_ble_eq_true rfl) (Nat.le_of_ble_eq_true rfl) dX5_tryLevels_14 ?_
    refine lv_topi (fun x126 ex126 => ?_)
    have t127 : x125.toInt ≤ x126.toInt ∧ su.toInt ≤ x126.toInt ∧ (x126.toInt = x125.toInt ∨ x126.toInt = su.toInt) := mx_f ex126 rfl rfl
    refine tw_put (v := .int x126) (ty := .int) hx hb hts bF2_X5 tyX5 tyX5_ok nmX5 hown hK hT hG hS hr_o0 shc_8 rfl 14 (by decide) (ht_at2 hts 23 rfl) (fun _ h9 => h9) rfl (by decide +kernel) rfl rfl (gl_at rfl (gi_all _)) dX5_tryLevels_17 (fun H locs hT oq m128 oj hS => ?_)
    have hF := hF.put hr_o0 skc_8 oq oj (by decide)
    exact W.vret hx hb hr (fun t ht hW => ⟨⟨(), rfl, (by exact trivial), by (try dsimp only); rw [ht]; exact ⟨hT, hF⟩⟩, hS.F ht⟩) hS.2.2 dX5_tryLevels_20
def w_c_tryLevels0 : List Cond := .code yX5_tryLevels cX5_tryLevels 7 none :: (HAppend.hAppend (α := List Cond) (β := List Cond) (γ := List Cond) [.fieldLink RX5 118 "SeaLand$Plans" "fieldCount" "I", .fieldLink RX5 26 "SeaLand$Plans" "fieldLevels" "[I", .fieldLink RX5 23 "SeaLand$Plans" "fields" "[I", .code yX5_agreesWithEarlier cX5_agreesWithEarlier 4 (some .boolean), .code yX11_stepsApart cX11_stepsApart 2 (some .int), .methodLink RX11 580 Lib.Math.abs.name, .static Lib.Math.abs.name, .initialized "java/lang/Math", .code Lib.Math.abs.name Lib.Math.abs.code 1 (some .int), .initialized RX11, .static yX11_stepsApart, .methodLink RX5 151 Lib.Math.abs.name, .methodLink RX5 141 yX5_agreesWithEarlier, .instanceMethod yX5_agreesWithEarlier, .selects RX5 yX5_agreesWithEarlier yX5_agreesWithEarlier, .initialized RX5, .code yX5_worthOfDepth cX5_worthOfDepth 2 (some .int), .methodLink RX5 94 Lib.Math.max.name, .static Lib.Math.max.name, .code Lib.Math.max.name Lib.Math.max.code 2 (some .int), .methodLink RX5 145 yX5_worthOfDepth, .static yX5_worthOfDepth, .code yX5_tryLevels cX5_tryLevels 7 none, .fieldLink RX5 126 "SeaLand$Plans" "bestSum" "I", .methodLink RX5 132 yX5_tryLevels, .instanceMethod yX5_tryLevels, .selects RX5 yX5_tryLevels yX5_tryLevels] bs2)
set_option maxHeartbeats 4000000 in
set_option maxRecDepth 100000 in
theorem c_tryLevels0 (l : Launch) (dC : Nat → ClassId) (dI : Nat → Nat → Nat) (kA : Nat → ClassId) (adK adV : Nat → Nat) (G : gT) (H0 : Heap) (nC nS : Int) (o0 : Nat) (su : Int32) (cr : Int32) (gr : Nat) (sp : Int32) (fc : Int32)  (hT : gH (dC, dI) kA (SHc nC nS) G H0) (hr_gr : G gr = some 5) (hr_o0 : G o0 = some 8) (hm_fc : el H0 o0 (dI 8 13) = some (.int fc)) (hq0 : 0 ≤ fc.toInt ∧ fc.toInt ≤ 6) (hgC : 0 ≤ nC ∧ nC ≤ 40) (hgS : 0 ≤ nS ∧ nS ≤ 60) : Met l yX5_tryLevels w_c_tryLevels0 ({ frames := 8, cells := 0, slots := 0, locals := 214 }) (va_Pc [.ref o0, .int 0, .int su, .int cr, .ref gr, .int sp] (fun U => U.heap = H0 ∧ va_K (dC, dI) vwCl (tyl kA) U ∧ EVC adK adV (gA G H0.size) U U.heap)) (va_Qv (fun (u : Unit) => True) (fun (_ : Unit) (t : State) => gH (dC, dI) kA (SHc nC nS) G t.heap ∧ gF (dC, dI) SKc G ([(8, 14), (62, 0)] : List (Nat × Nat)) H0 t.heap) (gA G H0.size)) 0 0 (gA G H0.size) := by
  refine Met.ofW (cc := cX5_tryLevels) (maxL := 7) (ret := none) (by decide) rfl ?_
  intro p e s m args below meth c s₁ B hml hv
  obtain ⟨rfl, hH0, hK, hE⟩ := hv
  have hx := B.exec
  have hb := B.bytes
  have hr := B.returns
  have hts := atoms_spec (ws := w_c_tryLevels0) B.pre
  have hown : s.vm.findClass RX5 = some m.cls := findClass_of_methodNamed B.named
  have hlocks := B.notSynchronized
  subst hH0
  generalize hAe : gA G s.heap.size = A at hE ⊢
  have hA : ∀ q : Nat, s.heap.size ≤ q → A q := fun q h => by rw [← hAe]; exact Or.inr h
  have hG := gA_of hAe
  have hS : va_S A s.heap s.heap [] := va_S.rf
  have hF : gF (dC, dI) SKc G ([(8, 14), (62, 0)] : List (Nat × Nat)) s.heap s.heap := gF.rf
  have hl := lv_entry ([.ref o0, .int 0, .int su, .int cr, .ref gr, .int sp]) (n := 7) (Nat.le_of_ble_eq_true rfl)
  rw [lg_entry_eq]
  generalize (lg_sl ([.ref o0, .int 0, .int su, .int cr, .ref gr, .int sp]) ++ List.replicate (7 - (lg_sl ([.ref o0, .int 0, .int su, .int cr, .ref gr, .int sp])).length) Slot.unset).toArray = ls at hl ⊢
  have hl : lv_has ls 7 [(0, .ref o0), (1, .int 0), (2, .int su), (3, .int cr), (4, .ref gr), (5, .int sp)] := hl
  refine lv_iload_n hx hb dX5_tryLevels_0 rfl (lv_at hl 1 rfl) ?_
  refine lv_aload_n hx hb dX5_tryLevels_1 rfl (lv_at hl 0 rfl) ?_
  refine tw_getM (v := .int fc) hx hb hts bF2_X5 hown hK hT hr_o0 shc_8 rfl 13 (by decide) (ht_at2 hts 0 rfl) (fun _ h9 => h9) hm_fc dX5_tryLevels_2 ?_
  refine lv_icmp_lt (tgt := 21) hx hb dX5_tryLevels_5 (by decide) (fun c1 => ?_) (fun c1 => ?_)
  · have t2 : 0 < fc.toInt := ti_lt c1 (by decide) rfl
    refine lv_bipush (v := 40) hx hb dX5_tryLevels_21 (by decide) ?_
    refine lv_istore (lv' := [(6, .int 40), (0, .ref o0), (1, .int 0), (2, .int su), (3, .int cr), (4, .ref gr), (5, .int sp)]) hx hb dX5_tryLevels_23 hl (by decide) rfl (fun ls hl => ?_)
    have key62 : ∀ (n62 i3 : Nat), i3 + n62 = 4 → ∀ (H : Heap) (locs : List Loc), gH (dC, dI) kA (SHc nC nS) G H → gF (dC, dI) SKc G ([(8, 14), (62, 0)] : List (Nat × Nat)) s.heap H → va_S A s.heap H locs → el H o0 (dI 8 13) = some (.int fc) → ∀ ls : Array Slot, lv_has ls 7 [(6, .int (nI (40 + 40 * i3))), (0, .ref o0), (1, .int 0), (2, .int su), (3, .int cr), (4, .ref gr), (5, .int sp)] → W p l e (headSpec w_c_tryLevels0 ({ frames := 8, cells := 0, slots := 0, locals := 214 })).room s m #[.ref o0, .int 0, .int su, .int cr, .ref gr, .int sp] below meth c H locs 0 0 (MQ below (va_Qv (fun (u : Unit) => True) (fun (_ : Unit) (t : State) => gH (dC, dI) kA (SHc nC nS) G t.heap ∧ gF (dC, dI) SKc G ([(8, 14), (62, 0)] : List (Nat × Nat)) s.heap t.heap) A) #[.ref o0, .int 0, .int su, .int cr, .ref gr, .int sp] s 0 0 A) (F0 m 25 ls []) := by
      intro n62
      induction n62 with
      | zero =>
        intro i3 hn62  H locs hT hF hS m4 ls hl
        obtain rfl : 4 = i3 := by omega
        refine lv_iload hx hb dX5_tryLevels_25 (lv_at hl 0 rfl) ?_
        refine lv_sipush (v := 160) hx hb dX5_tryLevels_27 (by decide) ?_
        refine lv_icmp_gt (tgt := 90) hx hb dX5_tryLevels_30 (by decide) (fun c64 => ?_) (fun c64 => (by exfalso; have q9 : ((40 + 40 * 4 : Nat) : Int) ≤ 160 := ti_nlt c64 (by decide) (nI_toInt (by omega)); omega))
        have t65 : 160 < ((40 + 40 * 4 : Nat) : Int) := ti_lt c64 (by decide) (nI_toInt (by omega))
        exact W.vret hx hb hr (fun t ht hW => ⟨⟨(), rfl, (by exact trivial), by (try dsimp only); rw [ht]; exact ⟨hT, hF⟩⟩, hS.F ht⟩) hS.2.2 dX5_tryLevels_90
      | succ n62 ih62 =>
        intro i3 hn62  H locs hT hF hS m4 ls hl
        have hlt65 : i3 < 4 := by omega
        refine lv_iload hx hb dX5_tryLevels_25 (lv_at hl 0 rfl) ?_
        refine lv_sipush (v := 160) hx hb dX5_tryLevels_27 (by decide) ?_
        refine lv_icmp_gt (tgt := 90) hx hb dX5_tryLevels_30 (by decide) (fun c66 => (by exfalso; have q9 : 160 < ((40 + 40 * i3 : Nat) : Int) := ti_lt c66 (by decide) (nI_toInt (by omega)); omega)) (fun c66 => ?_)
        have t67 : ((40 + 40 * i3 : Nat) : Int) ≤ 160 := ti_nlt c66 (by decide) (nI_toInt (by omega))
        refine lv_aload_n hx hb dX5_tryLevels_33 rfl (lv_at hl 1 rfl) ?_
        refine tw_get hx hb hts bF2_X5 hown hK hT hr_o0 shc_8 rfl 4 (by decide) (ht_at2 hts 1 rfl) (fun _ h9 => h9) dX5_tryLevels_34 (fun v9 m68 h9 => ?_)
        obtain ⟨b69, rfl, hg70⟩ := h9 _ rfl
        refine lv_iload_n hx hb dX5_tryLevels_37 rfl (lv_at hl 2 rfl) ?_
        refine lv_aload hx hb dX5_tryLevels_38 (lv_at hl 5 rfl) ?_
        refine tw_getN hx hb hts bF2_X2 hown hK hT hr_gr shc_5 rfl 1 (by decide) (hE.nw 95 rfl) (fun _ h9 => h9) dX5_tryLevels_40 (fun v9 m71 h9 => ?_)
        obtain ⟨b72, rfl, hg73⟩ := h9 _ rfl
        refine lv_aload_n hx hb dX5_tryLevels_43 rfl (lv_at hl 1 rfl) ?_
        refine tw_get hx hb hts bF2_X5 hown hK hT hr_o0 shc_8 rfl 3 (by decide) (ht_at2 hts 2 rfl) (fun _ h9 => h9) dX5_tryLevels_44 (fun v9 m74 h9 => ?_)
        obtain ⟨b75, rfl, hg76⟩ := h9 _ rfl
        refine lv_iload_n hx hb dX5_tryLevels_47 rfl (lv_at hl 2 rfl) ?_
        refine tw_iald (i := 0) hx hb hK hT hg76 shc_61 rfl (by unfold vp_in; decide) dX5_tryLevels_48 (fun v9 m77 h9 => ?_)
        obtain ⟨x78, rfl, gx78, kx78⟩ := h9
        refine tw_iald (i := x78) hx hb hK hT hg73 shc_26 rfl (vin_t (a := x78.toInt) rfl (by omega) (by omega)) dX5_tryLevels_49 (fun v9 m79 h9 => ?_)
        obtain ⟨x80, rfl, gx80, kx80⟩ := h9
        refine lv_iload hx hb dX5_tryLevels_50 (lv_at hl 0 rfl) ?_
        refine lv_isub hx hb dX5_tryLevels_52 ?_
        refine lv_topi (fun x81 ex81 => ?_)
        refine tw_iast (i := 0) (x := x81) hx hb hK hT hG hS hg70 shc_62 rfl (by unfold vp_in; decide) (gi_all _) dX5_tryLevels_53 (fun H locs hT oq m82 oi hS => ?_)
        have hF := hF.ast hg70 skc_62 oq (by decide)
        have m83 := (el_kept (oq _ (gne hr_o0 hg70 (by decide)))).trans m4
        refine lv_aload_n hx hb dX5_tryLevels_54 rfl (lv_at hl 1 rfl) ?_
        refine lv_iload_n hx hb dX5_tryLevels_55 rfl (lv_at hl 2 rfl) ?_
        refine lv_iload hx hb dX5_tryLevels_56 (lv_at hl 6 rfl) ?_
        have hFc := gA_free hG hA hS
        refine va_calli (va_runV (As := [.int 0, .int sp]) (rest := []) ⟨hx, hb, hml, hown, hts⟩ (c_agreesWithEarlier l dC dI kA adK adV G H nC nS o0 0 sp hT hr_o0 (rg_t (a := 0) (by decide) (by first | decide | omega) (by first | decide | omega)) (by omega) (by omega)) (cwV 2 hts (goodIn_app (goodIn_r _ [13, 14, 15, 16] rfl (by decide +kernel)) (goodIn_ca (goodIn_r _ [4, 3, 5, 6, 7, 8, 9, 10, 11, 2, 12] rfl (by decide +kernel)) (bs2_in _ _))) rfl rfl rfl (by decide +kernel) ⟨(Nat.le_of_ble_eq_true rfl), (Nat.le_of_ble_eq_true rfl)⟩) ⟨fun a U g mk q => by obtain ⟨q0, q1, qK, qE⟩ := q; exact ⟨q0, q1, va_K.moved (u := U) (U := U.calling g mk a) (Vm.Alike.refl U.vm) qK, EVC.blind g mk a qE⟩, gH_rc hK hT hr_o0 shc_8 rfl, fun U hU hW => ⟨rfl, hU, va_K.moved hW.alike hK, hE.call hS hFc hU hW⟩⟩ rfl rfl hl.1 rfl (lv_room (Nat.le_of_ble_eq_true rfl)) dX5_tryLevels_58 ⟨(Nat.le_of_ble_eq_true rfl), (Nat.le_of_ble_eq_true rfl)⟩) hS (fun q _ h => hFc q h) hFc (fun r89 u t H locs ht hvm hw90 hB _ _ hS => ?_)
        obtain ⟨hT, hF1⟩ := hB
        rw [ht] at hT hF1
        have m91 := (hF1.fld hr_o0 skc_8 (k := 13) (by decide) (by decide)).trans m83
        have hF := hF.more hF1 (by decide)
        try dsimp only at hw90
        have h98 := hw90
        refine lv_if_eq (tgt := 84) hx hb dX5_tryLevels_61 (by decide) (fun c99 => ?_) (fun c99 => ?_)
        · have t100 : r89.toInt = 0 := ti_eq c99 rfl (by decide)
          refine lv_iinc (v := nI (40 + 40 * i3 + 40)) (lv' := [(6, .int (nI (40 + 40 * i3 + 40))), (0, .ref o0), (1, .int 0), (2, .int su), (3, .int cr), (4, .ref gr), (5, .int sp)]) hx hb dX5_tryLevels_84 hl (k := 0) rfl (nI_add (40 + 40 * i3) 40) (by decide) rfl (fun ls hl => ?_)
          refine lv_goto (tgt := 25) hx hb dX5_tryLevels_87 (by decide) ?_
          have hl : lv_has ls 7 [(6, .int (nI (40 + 40 * (i3 + 1)))), (0, .ref o0), (1, .int 0), (2, .int su), (3, .int cr), (4, .ref gr), (5, .int sp)] := by rw [show nI (40 + 40 * (i3 + 1)) = nI (40 + 40 * i3 + 40) from congrArg nI (by omega)]; exact hl
          exact ih62 (i3 + 1) (by omega) _ _ hT hF hS m91 ls (lv_sub hl [0, 1, 2, 3, 4, 5, 6] rfl)
        · have t101 : r89.toInt ≠ 0 := ti_ne c99 rfl (by decide)
          refine lv_aload_n hx hb dX5_tryLevels_64 rfl (lv_at hl 1 rfl) ?_
          refine lv_iload_n hx hb dX5_tryLevels_65 rfl (lv_at hl 2 rfl) ?_
          refine lv_iconst (v := 1) hx hb dX5_tryLevels_66 (by decide) ?_
          refine lv_iadd hx hb dX5_tryLevels_67 ?_
          refine lv_topi (fun x102 ex102 => ?_)
          obtain rfl : x102 = 1 := ex102.trans (by decide)
          refine lv_iload_n hx hb dX5_tryLevels_68 rfl (lv_at hl 3 rfl) ?_
          refine lv_iload_n hx hb dX5_tryLevels_69 rfl (lv_at hl 4 rfl) ?_
          refine lv_iload hx hb dX5_tryLevels_70 (lv_at hl 0 rfl) ?_
          have hFc := gA_free hG hA hS
          refine va_calli (va_runS (As := [.int cr, .int (nI (40 + 40 * i3))]) (rest := [.int su, .int 1, .ref o0]) ⟨hx, hb, hml, hown, hts⟩ (c_worthOfDepth l dC dI kA adK adV G H nC nS cr (nI (40 + 40 * i3)) hT (by omega) (by omega)) (va_cwS 2 hts (goodIn_app (goodIn_r _ [21, 22, 16] rfl (by decide +kernel)) (goodIn_ca (goodIn_r _ [17, 12, 7, 8, 9, 18, 19, 20] rfl (by decide +kernel)) (bs2_in _ _))) rfl rfl rfl (by decide +kernel) ⟨(Nat.le_of_ble_eq_true rfl), (Nat.le_of_ble_eq_true rfl)⟩) ⟨fun a U g mk q => by obtain ⟨q0, q1, qK, qE⟩ := q; exact ⟨q0, q1, va_K.moved (u := U) (U := U.calling g mk a) (Vm.Alike.refl U.vm) qK, EVC.blind g mk a qE⟩, fun U hU hW => ⟨rfl, hU, va_K.moved hW.alike hK, hE.call hS hFc hU hW⟩⟩ rfl rfl hl.1 rfl (lv_room (Nat.le_of_ble_eq_true rfl)) dX5_tryLevels_72 ⟨(Nat.le_of_ble_eq_true rfl), (Nat.le_of_ble_eq_true rfl)⟩) hS (fun q _ h => hFc q h) hFc (fun r103 u t H locs ht hvm hw104 hB _ _ hS => ?_)
          obtain ⟨hT, hF1⟩ := hB
          rw [ht] at hT hF1
          have m105 := (hF1.fld hr_o0 skc_8 (k := 13) (by decide) (by decide)).trans m91
          have hF := hF.more hF1 (by decide)
          try dsimp only at hw104
          have h112 := hw104
          refine lv_iadd hx hb dX5_tryLevels_75 ?_
          refine lv_topi (fun x113 ex113 => ?_)
          refine lv_iload_n hx hb dX5_tryLevels_76 rfl (lv_at hl 4 rfl) ?_
          refine lv_aload hx hb dX5_tryLevels_77 (lv_at hl 5 rfl) ?_
          refine lv_iload hx hb dX5_tryLevels_79 (lv_at hl 6 rfl) ?_
          have hFc := gA_free hG hA hS
          refine va_callv (va_runV (As := [.int 1, .int x113, .int cr, .ref gr, .int sp]) (rest := []) ⟨hx, hb, hml, hown, hts⟩ (c_tryLevels1 l dC dI kA adK adV G H nC nS o0 x113 cr gr sp fc hT hr_gr hr_o0 m105 (by have q8 := ti_all fc; omega) (by omega) (by omega)) (cwV 5 hts (goodIn_app (goodIn_r _ [25, 26, 27, 16] rfl (by decide +kernel)) (goodIn_ca (goodIn_r _ [23, 1, 2, 3, 4, 5, 6, 7, 8, 9, 10, 11, 12, 13, 14, 15, 16, 17, 18, 19, 20, 21, 22, 23, 24, 25, 26, 27] rfl (by decide +kernel)) (bs2_in _ _))) rfl rfl rfl (by decide +kernel) ⟨(Nat.le_of_ble_eq_true rfl), (Nat.le_of_ble_eq_true rfl)⟩) ⟨fun a U g mk q => by obtain ⟨q0, q1, qK, qE⟩ := q; exact ⟨q0, q1, va_K.moved (u := U) (U := U.calling g mk a) (Vm.Alike.refl U.vm) qK, EVC.blind g mk a qE⟩, gH_rc hK hT hr_o0 shc_8 rfl, fun U hU hW => ⟨rfl, hU, va_K.moved hW.alike hK, hE.call hS hFc hU hW⟩⟩ rfl rfl hl.1 rfl (lv_room (Nat.le_of_ble_eq_true rfl)) dX5_tryLevels_81 ⟨(Nat.le_of_ble_eq_true rfl), (Nat.le_of_ble_eq_true rfl)⟩) hS (fun q _ h => hFc q h) hFc (fun u t H locs ht hvm hw115 hB _ _ hS => ?_)
          obtain ⟨hT, hF1⟩ := hB
          rw [ht] at hT hF1
          have m116 := (hF1.fld hr_o0 skc_8 (k := 13) (by decide) (by decide)).trans m105
          have hF := hF.more hF1 (by decide)
          try dsimp only at hw115
          refine lv_iinc (v := nI (40 + 40 * i3 + 40)) (lv' := [(6, .int (nI (40 + 40 * i3 + 40))), (0, .ref o0), (1, .int 0), (2, .int su), (3, .int cr), (4, .ref gr), (5, .int sp)]) hx hb dX5_tryLevels_84 hl (k := 0) rfl (nI_add (40 + 40 * i3) 40) (by decide) rfl (fun ls hl => ?_)
          refine lv_goto (tgt := 25) hx hb dX5_tryLevels_87 (by decide) ?_
          have hl : lv_has ls 7 [(6, .int (nI (40 + 40 * (i3 + 1)))), (0, .ref o0), (1, .int 0), (2, .int su), (3, .int cr), (4, .ref gr), (5, .int sp)] := by rw [show nI (40 + 40 * (i3 + 1)) = nI (40 + 40 * i3 + 40) from congrArg nI (by omega)]; exact hl
          exact ih62 (i3 + 1) (by omega) _ _ hT hF hS m116 ls (lv_sub hl [0, 1, 2, 3, 4, 5, 6] rfl)
    have hl2 : lv_has ls 7 [(6, .int (nI (40 + 40 * 0))), (0, .ref o0), (1, .int 0), (2, .int su), (3, .int cr), (4, .ref gr), (5, .int sp)] := hl
    exact key62 (4 - 0) 0 (by omega) _ _ hT hF hS hm_fc ls (lv_sub hl2 [0, 1, 2, 3, 4, 5, 6] rfl)
  · have t123 : fc.toInt ≤ 0 := ti_nlt c1 (by decide) rfl
    refine lv_aload_n hx hb dX5_tryLevels_8 rfl (lv_at hl 0 rfl) ?_
    refine lv_aload_n hx hb dX5_tryLevels_9 rfl (lv_at hl 0 rfl) ?_
    refine tw_get hx hb hts bF2_X5 hown hK hT hr_o0 shc_8 rfl 14 (by decide) (ht_at2 hts 23 rfl) (fun _ h9 => h9) dX5_tryLevels_10 (fun v9 m124 h9 => ?_)
    obtain ⟨x125, rfl, gx125, kx125⟩ := h9 _ rfl
    refine lv_iload_n hx hb dX5_tryLevels_13 rfl (lv_at hl 2 rfl) ?_
    refine va_mmax hx hb (hml.trans hl.1.symm) hown (ht_at2 hts 17 rfl) (ht_at2 hts 18 rfl) (ht_at2 hts 7 rfl) (ht_at2 hts 19 rfl) (Nat.le_of_ble_eq_true rfl) (Nat.le_of_ble_eq_true rfl) (Nat.le_of_ble_eq_true rfl) (Nat.le_of_ble_eq_true rfl) dX5_tryLevels_14 ?_
    refine lv_topi (fun x126 ex126 => ?_)
    have t127 : x125.toInt ≤ x126.toInt ∧ su.toInt ≤ x126.toInt ∧ (x126.toInt = x125.toInt ∨ x126.toInt = su.toInt) := mx_f ex126 rfl rfl
    refine tw_put (v := .int x126) (ty := .int) hx hb hts bF2_X5 tyX5 tyX5_ok nmX5 hown hK hT hG hS hr_o0 shc_8 rfl 14 (by decide) (ht_at2 hts 23 rfl) (fun _ h9 => h9) rfl (by decide +kernel) rfl rfl (gl_at rfl (gi_all _)) dX5_tryLevels_17 (fun H locs hT oq m128 oj hS => ?_)
    have hF := hF.put hr_o0 skc_8 oq oj (by decide)
    exact W.vret hx hb hr (fun t ht hW => ⟨⟨(), rfl, (by exact trivial), by (try dsimp only); rw [ht]; exact ⟨hT, hF⟩⟩, hS.F ht⟩) hS.2.2 dX5_tryLevels_20
def w_c_bestLevels : List Cond := .code yX5_bestLevels cX5_bestLevels 6 (some .int) :: (HAppend.hAppend (α := List Cond) (β := List Cond) (γ := List Cond) [.fieldLink RX5 118 "SeaLand$Plans" "fieldCount" "I", .fieldLink RX5 23 "SeaLand$Plans" "fields" "[I", .fieldLink RX5 126 "SeaLand$Plans" "bestSum" "I", .code yX5_tryLevels cX5_tryLevels 7 none, .fieldLink RX5 26 "SeaLand$Plans" "fieldLevels" "[I", .code yX5_agreesWithEarlier cX5_agreesWithEarlier 4 (some .boolean), .code yX11_stepsApart cX11_stepsApart 2 (some .int), .methodLink RX11 580 Lib.Math.abs.name, .static Lib.Math.abs.name, .initialized "java/lang/Math", .code Lib.Math.abs.name Lib.Math.abs.code 1 (some .int), .initialized RX11, .static yX11_stepsApart, .methodLink RX5 151 Lib.Math.abs.name, .methodLink RX5 141 yX5_agreesWithEarlier, .instanceMethod yX5_agreesWithEarlier, .selects RX5 yX5_agreesWithEarlier yX5_agreesWithEarlier, .initialized RX5, .code yX5_worthOfDepth cX5_worthOfDepth 2 (some .int), .methodLink RX5 94 Lib.Math.max.name, .static Lib.Math.max.name, .code Lib.Math.max.name Lib.Math.max.code 2 (some .int), .methodLink RX5 145 yX5_worthOfDepth, .static yX5_worthOfDepth, .methodLink RX5 132 yX5_tryLevels, .instanceMethod yX5_tryLevels, .selects RX5 yX5_tryLevels yX5_tryLevels] bs2)
set_option maxHeartbeats 4000000 in
set_option maxRecDepth 100000 in
theorem c_bestLevels (l : Launch) (dC : Nat → ClassId) (dI : Nat → Nat → Nat) (kA : Nat → ClassId) (adK adV : Nat → Nat) (G : gT) (H0 : Heap) (nC nS : Int) (o0 : Nat) (p0 : Nat) (p1 : Int32) (p2 : Nat) (p3 : Int32)  (hT : gH (dC, dI) kA (SHc nC nS) G H0) (hr_p0 : G p0 = some 3) (hr_p2 : G p2 = some 5) (hr_o0 : G o0 = some 8) (hq0 : 0 ≤ p1.toInt ∧ p1.toInt ≤ 29) (hgC : 0 ≤ nC ∧ nC ≤ 40) (hgS : 0 ≤ nS ∧ nS ≤ 60) : Met l yX5_bestLevels w_c_bestLevels ({ frames := 9, cells := 0, slots := 0, locals := 240 }) (va_Pc [.ref o0, .ref p0, .int p1, .ref p2, .int p3] (fun U => U.heap = H0 ∧ va_K (dC, dI) vwCl (tyl kA) U ∧ EVC adK adV (gA G H0.size) U U.heap)) (va_Qi (fun (r : Int32) (u : Unit) => True) (fun (_ : Unit) (t : State) => gH (dC, dI) kA (SHc nC nS) G t.heap ∧ gF (dC, dI) SKc G ([(8, 13), (8, 14), (61, 0), (62, 0)] : List (Nat × Nat)) H0 t.heap) (gA G H0.size)) 0 0 (gA G H0.size) := by
  refine Met.ofW (cc := cX5_bestLevels) (maxL := 6) (ret := (some .int)) (by decide) rfl ?_
  intro p e s m args below meth c s₁ B hml hv
  obtain ⟨rfl, hH0, hK, hE⟩ := hv
  have hx := B.exec
  have hb := B.bytes
  have hr := B.returns
  have hts := atoms_spec (ws := w_c_bestLevels) B.pre
  have hown : s.vm.findClass RX5 = some m.cls := findClass_of_methodNamed B.named
  have hlocks := B.notSynchronized
  subst hH0
  generalize hAe : gA G s.heap.size = A at hE ⊢
  have hA : ∀ q : Nat, s.heap.size ≤ q → A q := fun q h => by rw [← hAe]; exact Or.inr h
  have hG := gA_of hAe
  have hS : va_S A s.heap s.heap [] := va_S.rf
  have hF : gF (dC, dI) SKc G ([(8, 13), (8, 14), (61, 0), (62, 0)] : List (Nat × Nat)) s.heap s.heap := gF.rf
  have hl := lv_entry ([.ref o0, .ref p0, .int p1, .ref p2, .int p3]) (n := 6) (Nat.le_of_ble_eq_true rfl)
  rw [lg_entry_eq]
  generalize (lg_sl ([.ref o0, .ref p0, .int p1, .ref p2, .int p3]) ++ List.replicate (6 - (lg_sl ([.ref o0, .ref p0, .int p1, .ref p2, .int p3])).length) Slot.unset).toArray = ls at hl ⊢
  have hl : lv_has ls 6 [(0, .ref o0), (1, .ref p0), (2, .int p1), (3, .ref p2), (4, .int p3)] := hl
  refine lv_aload_n hx hb dX5_bestLevels_0 rfl (lv_at hl 0 rfl) ?_
  refine lv_iconst (v := 0) hx hb dX5_bestLevels_1 (by decide) ?_
  refine tw_put (v := .int 0) (ty := .int) hx hb hts bF2_X5 tyX5 tyX5_ok nmX5 hown hK hT hG hS hr_o0 shc_8 rfl 13 (by decide) (ht_at2 hts 0 rfl) (fun _ h9 => h9) rfl (by decide +kernel) rfl rfl (gl_at rfl (gi_of (show (0 : Int32).toInt = 0 from (by decide)) (by first | decide | omega) (by first | decide | omega))) dX5_bestLevels_2 (fun H locs hT oq m1 oj hS => ?_)
  have hF := hF.put hr_o0 skc_8 oq oj (by decide)
  refine lv_iconst (v := 0) hx hb dX5_bestLevels_5 (by decide) ?_
  refine lv_istore (lv' := [(5, .int 0), (0, .ref o0), (1, .ref p0), (2, .int p1), (3, .ref p2), (4, .int p3)]) hx hb dX5_bestLevels_6 hl (by decide) rfl (fun ls hl => ?_)
  have jn110 : ∀ (z105 : Int32), ∀ (z107 : Int32), ((0 ≤ z105.toInt ∧ z105.toInt ≤ 96) ∧ (0 ≤ z107.toInt ∧ z107.toInt ≤ 6)) → ∀ (H : Heap) (locs : List Loc), gH (dC, dI) kA (SHc nC nS) G H → gF (dC, dI) SKc G ([(8, 13), (8, 14), (61, 0), (62, 0)] : List (Nat × Nat)) s.heap H → va_S A s.heap H locs → el H o0 (dI 8 13) = some (.int z107) → ∀ ls : Array Slot, lv_has ls 6 [(5, .int z105), (0, .ref o0), (1, .ref p0), (2, .int p1), (3, .ref p2), (4, .int p3)] → W p l e (headSpec w_c_bestLevels ({ frames := 9, cells := 0, slots := 0, locals := 240 })).room s m #[.ref o0, .ref p0, .int p1, .ref p2, .int p3] below meth c H locs 0 0 (MQ below (va_Qi (fun (r : Int32) (u : Unit) => True) (fun (_ : Unit) (t : State) => gH (dC, dI) kA (SHc nC nS) G t.heap ∧ gF (dC, dI) SKc G ([(8, 13), (8, 14), (61, 0), (62, 0)] : List (Nat × Nat)) s.heap t.heap) A) #[.ref o0, .ref p0, .int p1, .ref p2, .int p3] s 0 0 A) (F0 m 62 ls []) := by
    intro z105 z107 ⟨h106, h108⟩ H locs hT hF hS m109 ls hl
    refine lv_aload_n hx hb dX5_bestLevels_62 rfl (lv_at hl 1 rfl) ?_
    refine lv_iconst (v := (-1)) hx hb dX5_bestLevels_63 (by decide) ?_
    refine tw_put (v := .int (-1)) (ty := .int) hx hb hts bF2_X5 tyX5 tyX5_ok nmX5 hown hK hT hG hS hr_o0 shc_8 rfl 14 (by decide) (ht_at2 hts 2 rfl) (fun _ h9 => h9) rfl (by decide +kernel) rfl rfl (gl_at rfl (gi_all _)) dX5_bestLevels_64 (fun H locs hT oq m111 oj hS => ?_)
    have hF := hF.put hr_o0 skc_8 oq oj (by decide)
    have m112 := (oj 13 (by decide) (by decide)).trans m109
    refine lv_aload_n hx hb dX5_bestLevels_67 rfl (lv_at hl 1 rfl) ?_
    refine lv_iconst (v := 0) hx hb dX5_bestLevels_68 (by decide) ?_
    refine lv_iconst (v := 0) hx hb dX5_bestLevels_69 (by decide) ?_
    refine lv_aload_n hx hb dX5_bestLevels_70 rfl (lv_at hl 2 rfl) ?_
    refine tw_getN hx hb hts bF2_X0 hown hK hT hr_p0 shc_3 rfl 2 (by decide) (hE.nw 94 rfl) (fun _ h9 => h9) dX5_bestLevels_71 (fun v9 m113 h9 => ?_)
    obtain ⟨b114, rfl, hg115⟩ := h9 _ rfl
    refine lv_iload_n hx hb dX5_bestLevels_74 rfl (lv_at hl 3 rfl) ?_
    refine tw_iald (i := p1) hx hb hK hT hg115 shc_53 rfl (vin_t (a := p1.toInt) rfl (by omega) (by omega)) dX5_bestLevels_75 (fun v9 m116 h9 => ?_)
    obtain ⟨x117, rfl, gx117, kx117⟩ := h9
    refine lv_aload_n hx hb dX5_bestLevels_76 rfl (lv_at hl 4 rfl) ?_
    refine lv_iload hx hb dX5_bestLevels_77 (lv_at hl 5 rfl) ?_
    have hFc := gA_free hG hA hS
    refine va_callv (va_runV (As := [.int 0, .int 0, .int x117, .ref p2, .int p3]) (rest := []) ⟨hx, hb, hml, hown, hts⟩ (c_tryLevels0 l dC dI kA adK adV G H nC nS o0 0 x117 p2 p3 z107 hT hr_p2 hr_o0 m112 (by have q8 := ti_all z107; omega) (by omega) (by omega)) (cwV 5 hts (goodIn_app (goodIn_r _ [25, 26, 27, 18] rfl (by decide +kernel)) (goodIn_ca (goodIn_r _ [4, 1, 5, 2, 6, 7, 8, 9, 10, 11, 12, 13, 14, 15, 16, 17, 18, 19, 20, 21, 22, 23, 24, 4, 3, 25, 26, 27] rfl (by decide +kernel)) (bs2_in _ _))) rfl rfl rfl (by decide +kernel) ⟨(Nat.le_of_ble_eq_true rfl), (Nat.le_of_ble_eq_true rfl)⟩) ⟨fun a U g mk q => by obtain ⟨q0, q1, qK, qE⟩ := q; exact ⟨q0, q1, va_K.moved (u := U) (U := U.calling g mk a) (Vm.Alike.refl U.vm) qK, EVC.blind g mk a qE⟩, gH_rc hK hT hr_o0 shc_8 rfl, fun U hU hW => ⟨rfl, hU, va_K.moved hW.alike hK, hE.call hS hFc hU hW⟩⟩ rfl rfl hl.1 rfl (lv_room (Nat.le_of_ble_eq_true rfl)) dX5_bestLevels_79 ⟨(Nat.le_of_ble_eq_true rfl), (Nat.le_of_ble_eq_true rfl)⟩) hS (fun q _ h => hFc q h) hFc (fun u t H locs ht hvm hw119 hB _ _ hS => ?_)
    obtain ⟨hT, hF1⟩ := hB
    rw [ht] at hT hF1
    have hF := hF.more hF1 (by decide)
    try dsimp only at hw119
    refine lv_aload_n hx hb dX5_bestLevels_82 rfl (lv_at hl 1 rfl) ?_
    refine tw_get hx hb hts bF2_X5 hown hK hT hr_o0 shc_8 rfl 14 (by decide) (ht_at2 hts 2 rfl) (fun _ h9 => h9) dX5_bestLevels_83 (fun v9 m124 h9 => ?_)
    obtain ⟨x125, rfl, gx125, kx125⟩ := h9 _ rfl
    exact W.iret (v := x125) hx hb hr (fun t ht hW => ⟨⟨x125, (), rfl, (by exact trivial), by (try dsimp only); rw [ht]; exact ⟨hT, hF⟩⟩, hS.F ht⟩) hS.2.2 dX5_bestLevels_86
  have key126 : ∀ (n126 i2 : Nat), i2 + n126 = 96 → 0 ≤ i2 → ∀ (z3 : Int32), ((0 ≤ z3.toInt ∧ z3.toInt ≤ 6)) → ∀ (H : Heap) (locs : List Loc), gH (dC, dI) kA (SHc nC nS) G H → gF (dC, dI) SKc G ([(8, 13), (8, 14), (61, 0), (62, 0)] : List (Nat × Nat)) s.heap H → va_S A s.heap H locs → el H o0 (dI 8 13) = some (.int z3) → ∀ ls : Array Slot, lv_has ls 6 [(5, .int (nI i2)), (0, .ref o0), (1, .ref p0), (2, .int p1), (3, .ref p2), (4, .int p3)] → W p l e (headSpec w_c_bestLevels ({ frames := 9, cells := 0, slots := 0, locals := 240 })).room s m #[.ref o0, .ref p0, .int p1, .ref p2, .int p3] below meth c H locs 0 0 (MQ below (va_Qi (fun (r : Int32) (u : Unit) => True) (fun (_ : Unit) (t : State) => gH (dC, dI) kA (SHc nC nS) G t.heap ∧ gF (dC, dI) SKc G ([(8, 13), (8, 14), (61, 0), (62, 0)] : List (Nat × Nat)) s.heap t.heap) A) #[.ref o0, .ref p0, .int p1, .ref p2, .int p3] s 0 0 A) (F0 m 8 ls []) := by
    intro n126
    induction n126 with
    | zero =>
      intro i2 hn126 hlo127 z3 h4 H locs hT hF hS m5 ls hl
      obtain rfl : 96 = i2 := by omega
      refine lv_iload hx hb dX5_bestLevels_8 (lv_at hl 0 rfl) ?_
      refine lv_bipush (v := 96) hx hb dX5_bestLevels_10 (by decide) ?_
      refine lv_icmp_ge (tgt := 62) hx hb dX5_bestLevels_12 (by decide) (fun c128 => ?_) (fun c128 => (by exfalso; have q9 : ((96 : Nat) : Int) < 96 := ti_nle c128 (by decide) (nI_toInt (by omega)); omega))
      have t129 : 96 ≤ ((96 : Nat) : Int) := ti_le c128 (by decide) (nI_toInt (by omega))
      exact jn110 (nI 96) z3 ⟨(rg_t (a := ((96 : Nat) : Int)) (nI_toInt (by omega)) (by omega) (by omega)), (by have q8 := ti_all z3; omega)⟩ _ _ hT hF hS m5 ls (lv_sub hl [0, 1, 2, 3, 4, 5] rfl)
    | succ n126 ih126 =>
      intro i2 hn126 hlo127 z3 h4 H locs hT hF hS m5 ls hl
      have hlt129 : i2 < 96 := by omega
      refine lv_iload hx hb dX5_bestLevels_8 (lv_at hl 0 rfl) ?_
      refine lv_bipush (v := 96) hx hb dX5_bestLevels_10 (by decide) ?_
      refine lv_icmp_ge (tgt := 62) hx hb dX5_bestLevels_12 (by decide) (fun c130 => (by exfalso; have q9 : 96 ≤ ((i2 : Nat) : Int) := ti_le c130 (by decide) (nI_toInt (by omega)); omega)) (fun c130 => ?_)
      have t131 : ((i2 : Nat) : Int) < 96 := ti_nle c130 (by decide) (nI_toInt (by omega))
      refine lv_aload_n hx hb dX5_bestLevels_15 rfl (lv_at hl 1 rfl) ?_
      refine tw_getM (v := .int z3) hx hb hts bF2_X5 hown hK hT hr_o0 shc_8 rfl 13 (by decide) (ht_at2 hts 0 rfl) (fun _ h9 => h9) m5 dX5_bestLevels_16 ?_
      refine lv_bipush (v := 6) hx hb dX5_bestLevels_19 (by decide) ?_
      refine lv_icmp_ge (tgt := 62) hx hb dX5_bestLevels_21 (by decide) (fun c132 => ?_) (fun c132 => ?_)
      · have t133 : 6 ≤ z3.toInt := ti_le c132 (by decide) rfl
        exact jn110 (nI i2) z3 ⟨(rg_t (a := ((i2 : Nat) : Int)) (nI_toInt (by omega)) (by omega) (by omega)), (by have q8 := ti_all z3; omega)⟩ _ _ hT hF hS m5 ls (lv_sub hl [0, 1, 2, 3, 4, 5] rfl)
      · have t134 : z3.toInt < 6 := ti_nle c132 (by decide) rfl
        refine lv_aload_n hx hb dX5_bestLevels_24 rfl (lv_at hl 2 rfl) ?_
        refine tw_getN hx hb hts bF2_X0 hown hK hT hr_p0 shc_3 rfl 1 (by decide) (hE.nw 93 rfl) (fun _ h9 => h9) dX5_bestLevels_25 (fun v9 m135 h9 => ?_)
        obtain ⟨b136, rfl, hg137⟩ := h9 _ rfl
        refine lv_iload hx hb dX5_bestLevels_28 (lv_at hl 0 rfl) ?_
        refine tw_iald (i := (nI i2)) hx hb hK hT hg137 shc_52 rfl (vp_in_nI (by omega) (by decide)) dX5_bestLevels_30 (fun v9 m138 h9 => ?_)
        obtain ⟨x139, rfl, gx139, kx139⟩ := h9
        refine lv_iload_n hx hb dX5_bestLevels_31 rfl (lv_at hl 3 rfl) ?_
        have t140 : -2147483648 ≤ x139.toInt ∧ x139.toInt ≤ 2147483647 := ti_all x139
        refine lv_icmp_ne (tgt := 56) hx hb dX5_bestLevels_32 (by decide) (fun c141 => ?_) (fun c141 => ?_)
        · have t142 : x139.toInt ≠ p1.toInt := ti_ne c141 rfl rfl
          refine lv_iinc (v := nI (i2 + 1)) (lv' := [(5, .int (nI (i2 + 1))), (0, .ref o0), (1, .ref p0), (2, .int p1), (3, .ref p2), (4, .int p3)]) hx hb dX5_bestLevels_56 hl (k := 0) rfl (nI_add i2 1) (by decide) rfl (fun ls hl => ?_)
          refine lv_goto (tgt := 8) hx hb dX5_bestLevels_59 (by decide) ?_
          exact ih126 (i2 + 1) (by omega) (by omega) z3 (by have q8 := ti_all z3; omega) _ _ hT hF hS m5 ls (lv_sub hl [0, 1, 2, 3, 4, 5] rfl)
        · have t143 : x139.toInt = p1.toInt := ti_eq c141 rfl rfl
          refine lv_aload_n hx hb dX5_bestLevels_35 rfl (lv_at hl 1 rfl) ?_
          refine tw_get hx hb hts bF2_X5 hown hK hT hr_o0 shc_8 rfl 3 (by decide) (ht_at2 hts 1 rfl) (fun _ h9 => h9) dX5_bestLevels_36 (fun v9 m144 h9 => ?_)
          obtain ⟨b145, rfl, hg146⟩ := h9 _ rfl
          refine lv_aload_n hx hb dX5_bestLevels_39 rfl (lv_at hl 1 rfl) ?_
          refine tw_getM (v := .int z3) hx hb hts bF2_X5 hown hK hT hr_o0 shc_8 rfl 13 (by decide) (ht_at2 hts 0 rfl) (fun _ h9 => h9) m5 dX5_bestLevels_40 ?_
          refine lv_iload hx hb dX5_bestLevels_43 (lv_at hl 0 rfl) ?_
          refine tw_iast (i := z3) (x := (nI i2)) hx hb hK hT hG hS hg146 shc_61 rfl (vin_t (a := z3.toInt) rfl (by omega) (by omega)) (gi_of (show (nI i2).toInt = ((i2 : Nat) : Int) from (nI_toInt (by omega))) (by omega) (by omega)) dX5_bestLevels_45 (fun H locs hT oq m147 oi hS => ?_)
          have hF := hF.ast hg146 skc_61 oq (by decide)
          have m148 := (el_kept (oq _ (gne hr_o0 hg146 (by decide)))).trans m5
          refine lv_aload_n hx hb dX5_bestLevels_46 rfl (lv_at hl 1 rfl) ?_
          refine lv_dup hx hb dX5_bestLevels_47 rfl ?_
          refine tw_getM (v := .int z3) hx hb hts bF2_X5 hown hK hT hr_o0 shc_8 rfl 13 (by decide) (ht_at2 hts 0 rfl) (fun _ h9 => h9) m148 dX5_bestLevels_48 ?_
          refine lv_iconst (v := 1) hx hb dX5_bestLevels_51 (by decide) ?_
          refine lv_iadd hx hb dX5_bestLevels_52 ?_
          refine lv_topi (fun x152 ex152 => ?_)
          have t153 : x152.toInt = z3.toInt + 1 := ti_add ex152 rfl (by decide) (by omega) (by omega)
          refine tw_put (v := .int x152) (ty := .int) hx hb hts bF2_X5 tyX5 tyX5_ok nmX5 hown hK hT hG hS hr_o0 shc_8 rfl 13 (by decide) (ht_at2 hts 0 rfl) (fun _ h9 => h9) rfl (by decide +kernel) rfl rfl (gl_at rfl (gi_of (show x152.toInt = x152.toInt from rfl) (by omega) (by omega))) dX5_bestLevels_53 (fun H locs hT oq m154 oj hS => ?_)
          have hF := hF.put hr_o0 skc_8 oq oj (by decide)
          refine lv_iinc (v := nI (i2 + 1)) (lv' := [(5, .int (nI (i2 + 1))), (0, .ref o0), (1, .ref p0), (2, .int p1), (3, .ref p2), (4, .int p3)]) hx hb dX5_bestLevels_56 hl (k := 0) rfl (nI_add i2 1) (by decide) rfl (fun ls hl => ?_)
          refine lv_goto (tgt := 8) hx hb dX5_bestLevels_59 (by decide) ?_
          exact ih126 (i2 + 1) (by omega) (by omega) x152 (by have q8 := ti_all x152; omega) _ _ hT hF hS m154 ls (lv_sub hl [0, 1, 2, 3, 4, 5] rfl)
  exact key126 (96 - 0) 0 (by omega) (Nat.le_refl _) 0 (rg_t (a := 0) (by decide) (by first | decide | omega) (by first | decide | omega)) _ _ hT hF hS m1 ls (lv_sub hl [0, 1, 2, 3, 4, 5] rfl)
def w_c_addJob : List Cond := .code yX5_addJob cX5_addJob 5 (some .int) :: (HAppend.hAppend (α := List Cond) (β := List Cond) (γ := List Cond) [.fieldLink RX5 29 "SeaLand$Plans" "costs" "[I", .fieldLink RX5 154 "SeaLand$Plans" "jobs" "I", .fieldLink RX5 32 "SeaLand$Plans" "lasts" "[I", .fieldLink RX5 35 "SeaLand$Plans" "incomes" "[I", .fieldLink RX5 38 "SeaLand$Plans" "acres" "[I"] bs2)
set_option maxHeartbeats 4000000 in
set_option maxRecDepth 100000 in
theorem c_addJob (l : Launch) (dC : Nat → ClassId) (dI : Nat → Nat → Nat) (kA : Nat → ClassId) (adK adV : Nat → Nat) (G : gT) (H0 : Heap) (nC nS : Int) (o0 : Nat) (p0 : Int32) (p1 : Int32) (p2 : Int32) (p3 : Int32) (jb : Int32)  (hT : gH (dC, dI) kA (SHc nC nS) G H0) (hr_o0 : G o0 = some 8) (hm_jb : el H0 o0 (dI 8 15) = some (.int jb)) (hq0 : 0 ≤ jb.toInt ∧ jb.toInt ≤ 6) (hgC : 0 ≤ nC ∧ nC ≤ 40) (hgS : 0 ≤ nS ∧ nS ≤ 60) : Met l yX5_addJob w_c_addJob ({ frames := 0, cells := 0, slots := 0, locals := 0 }) (va_Pc [.ref o0, .int p0, .int p1, .int p2, .int p3] (fun U => U.heap = H0 ∧ va_K (dC, dI) vwCl (tyl kA) U ∧ EVC adK adV (gA G H0.size) U U.heap)) (va_Qi (fun (r : Int32) (u : Unit) => (1 ≤ r.toInt ∧ r.toInt ≤ 7)) (fun (_ : Unit) (t : State) => gH (dC, dI) kA (SHc nC nS) G t.heap ∧ gF (dC, dI) SKc G ([(8, 15), (63, 0), (64, 0), (65, 0), (66, 0)] : List (Nat × Nat)) H0 t.heap) (gA G H0.size)) 0 0 (gA G H0.size) := by
  refine Met.ofW (cc := cX5_addJob) (maxL := 5) (ret := (some .int)) (by decide) rfl ?_
  intro p e s m args below meth c s₁ B hml hv
  obtain ⟨rfl, hH0, hK, hE⟩ := hv
  have hx := B.exec
  have hb := B.bytes
  have hr := B.returns
  have hts := atoms_spec (ws := w_c_addJob) B.pre
  have hown : s.vm.findClass RX5 = some m.cls := findClass_of_methodNamed B.named
  have hlocks := B.notSynchronized
  subst hH0
  generalize hAe : gA G s.heap.size = A at hE ⊢
  have hA : ∀ q : Nat, s.heap.size ≤ q → A q := fun q h => by rw [← hAe]; exact Or.inr h
  have hG := gA_of hAe
  have hS : va_S A s.heap s.heap [] := va_S.rf
  have hF : gF (dC, dI) SKc G ([(8, 15), (63, 0), (64, 0), (65, 0), (66, 0)] : List (Nat × Nat)) s.heap s.heap := gF.rf
  have hl := lv_entry ([.ref o0, .int p0, .int p1, .int p2, .int p3]) (n := 5) (Nat.le_of_ble_eq_true rfl)
  rw [lg_entry_eq]
  generalize (lg_sl ([.ref o0, .int p0, .int p1, .int p2, .int p3]) ++ List.replicate (5 - (lg_sl ([.ref o0, .int p0, .int p1, .int p2, .int p3])).length) Slot.unset).toArray = ls at hl ⊢
  have hl : lv_has ls 5 [(0, .ref o0), (1, .int p0), (2, .int p1), (3, .int p2), (4, .int p3)] := hl
  refine lv_aload_n hx hb dX5_addJob_0 rfl (lv_at hl 0 rfl) ?_
  refine tw_get hx hb hts bF2_X5 hown hK hT hr_o0 shc_8 rfl 5 (by decide) (ht_at2 hts 0 rfl) (fun _ h9 => h9) dX5_addJob_1 (fun v9 m1 h9 => ?_)
  obtain ⟨b2, rfl, hg3⟩ := h9 _ rfl
  refine lv_aload_n hx hb dX5_addJob_4 rfl (lv_at hl 0 rfl) ?_
  refine tw_getM (v := .int jb) hx hb hts bF2_X5 hown hK hT hr_o0 shc_8 rfl 15 (by decide) (ht_at2 hts 1 rfl) (fun _ h9 => h9) hm_jb dX5_addJob_5 ?_
  refine lv_iload_n hx hb dX5_addJob_8 rfl (lv_at hl 1 rfl) ?_
  refine tw_iast (i := jb) (x := p0) hx hb hK hT hG hS hg3 shc_63 rfl (vin_t (a := jb.toInt) rfl (by omega) (by omega)) (gi_all _) dX5_addJob_9 (fun H locs hT oq m4 oi hS => ?_)
  have hF := hF.ast hg3 skc_63 oq (by decide)
  have m5 := (el_kept (oq _ (gne hr_o0 hg3 (by decide)))).trans hm_jb
  refine lv_aload_n hx hb dX5_addJob_10 rfl (lv_at hl 0 rfl) ?_
  refine tw_get hx hb hts bF2_X5 hown hK hT hr_o0 shc_8 rfl 6 (by decide) (ht_at2 hts 2 rfl) (fun _ h9 => h9) dX5_addJob_11 (fun v9 m7 h9 => ?_)
  obtain ⟨b8, rfl, hg9⟩ := h9 _ rfl
  refine lv_aload_n hx hb dX5_addJob_14 rfl (lv_at hl 0 rfl) ?_
  refine tw_getM (v := .int jb) hx hb hts bF2_X5 hown hK hT hr_o0 shc_8 rfl 15 (by decide) (ht_at2 hts 1 rfl) (fun _ h9 => h9) m5 dX5_addJob_15 ?_
  refine lv_iload_n hx hb dX5_addJob_18 rfl (lv_at hl 2 rfl) ?_
  refine tw_iast (i := jb) (x := p1) hx hb hK hT hG hS hg9 shc_64 rfl (vin_t (a := jb.toInt) rfl (by omega) (by omega)) (gi_all _) dX5_addJob_19 (fun H locs hT oq m10 oi hS => ?_)
  have hF := hF.ast hg9 skc_64 oq (by decide)
  have m11 := (el_kept (oq _ (gne hr_o0 hg9 (by decide)))).trans m5
  refine lv_aload_n hx hb dX5_addJob_20 rfl (lv_at hl 0 rfl) ?_
  refine tw_get hx hb hts bF2_X5 hown hK hT hr_o0 shc_8 rfl 7 (by decide) (ht_at2 hts 3 rfl) (fun _ h9 => h9) dX5_addJob_21 (fun v9 m15 h9 => ?_)
  obtain ⟨b16, rfl, hg17⟩ := h9 _ rfl
  refine lv_aload_n hx hb dX5_addJob_24 rfl (lv_at hl 0 rfl) ?_
  refine tw_getM (v := .int jb) hx hb hts bF2_X5 hown hK hT hr_o0 shc_8 rfl 15 (by decide) (ht_at2 hts 1 rfl) (fun _ h9 => h9) m11 dX5_addJob_25 ?_
  refine lv_iload_n hx hb dX5_addJob_28 rfl (lv_at hl 3 rfl) ?_
  refine tw_iast (i := jb) (x := p2) hx hb hK hT hG hS hg17 shc_65 rfl (vin_t (a := jb.toInt) rfl (by omega) (by omega)) (gi_all _) dX5_addJob_29 (fun H locs hT oq m18 oi hS => ?_)
  have hF := hF.ast hg17 skc_65 oq (by decide)
  have m19 := (el_kept (oq _ (gne hr_o0 hg17 (by decide)))).trans m11
  refine lv_aload_n hx hb dX5_addJob_30 rfl (lv_at hl 0 rfl) ?_
  refine tw_get hx hb hts bF2_X5 hown hK hT hr_o0 shc_8 rfl 8 (by decide) (ht_at2 hts 4 rfl) (fun _ h9 => h9) dX5_addJob_31 (fun v9 m25 h9 => ?_)
  obtain ⟨b26, rfl, hg27⟩ := h9 _ rfl
  refine lv_aload_n hx hb dX5_addJob_34 rfl (lv_at hl 0 rfl) ?_
  refine tw_getM (v := .int jb) hx hb hts bF2_X5 hown hK hT hr_o0 shc_8 rfl 15 (by decide) (ht_at2 hts 1 rfl) (fun _ h9 => h9) m19 dX5_addJob_35 ?_
  refine lv_iload hx hb dX5_addJob_38 (lv_at hl 4 rfl) ?_
  refine tw_iast (i := jb) (x := p3) hx hb hK hT hG hS hg27 shc_66 rfl (vin_t (a := jb.toInt) rfl (by omega) (by omega)) (gi_all _) dX5_addJob_40 (fun H locs hT oq m28 oi hS => ?_)
  have hF := hF.ast hg27 skc_66 oq (by decide)
  have m29 := (el_kept (oq _ (gne hr_o0 hg27 (by decide)))).trans m19
  refine lv_aload_n hx hb dX5_addJob_41 rfl (lv_at hl 0 rfl) ?_
  refine lv_dup hx hb dX5_addJob_42 rfl ?_
  refine tw_getM (v := .int jb) hx hb hts bF2_X5 hown hK hT hr_o0 shc_8 rfl 15 (by decide) (ht_at2 hts 1 rfl) (fun _ h9 => h9) m29 dX5_addJob_43 ?_
  refine lv_iconst (v := 1) hx hb dX5_addJob_46 (by decide) ?_
  refine lv_iadd hx hb dX5_addJob_47 ?_
  refine lv_topi (fun x37 ex37 => ?_)
  have t38 : x37.toInt = jb.toInt + 1 := ti_add ex37 rfl (by decide) (by omega) (by omega)
  refine tw_put (v := .int x37) (ty := .int) hx hb hts bF2_X5 tyX5 tyX5_ok nmX5 hown hK hT hG hS hr_o0 shc_8 rfl 15 (by decide) (ht_at2 hts 1 rfl) (fun _ h9 => h9) rfl (by decide +kernel) rfl rfl (gl_at rfl (gi_of (show x37.toInt = x37.toInt from rfl) (by omega) (by omega))) dX5_addJob_48 (fun H locs hT oq m39 oj hS => ?_)
  have hF := hF.put hr_o0 skc_8 oq oj (by decide)
  refine lv_aload_n hx hb dX5_addJob_51 rfl (lv_at hl 0 rfl) ?_
  refine tw_getM (v := .int x37) hx hb hts bF2_X5 hown hK hT hr_o0 shc_8 rfl 15 (by decide) (ht_at2 hts 1 rfl) (fun _ h9 => h9) m39 dX5_addJob_52 ?_
  exact W.iret (v := x37) hx hb hr (fun t ht hW => ⟨⟨x37, (), rfl, (by exact (by have q8 := ti_all x37; omega)), by (try dsimp only); rw [ht]; exact ⟨hT, hF⟩⟩, hS.F ht⟩) hS.2.2 dX5_addJob_55
def w_c_yearWithCost : List Cond := .code yX5_yearWithCost cX5_yearWithCost 5 (some .int) :: (HAppend.hAppend (α := List Cond) (β := List Cond) (γ := List Cond) [] bs2)
set_option maxHeartbeats 4000000 in
set_option maxRecDepth 100000 in
theorem c_yearWithCost (l : Launch) (dC : Nat → ClassId) (dI : Nat → Nat → Nat) (kA : Nat → ClassId) (adK adV : Nat → Nat) (G : gT) (H0 : Heap) (nC nS : Int) (p0 : Int32) (p1 : Int64) (p2 : Int32) (p3 : Int32)  (hT : gH (dC, dI) kA (SHc nC nS) G H0) (hgC : 0 ≤ nC ∧ nC ≤ 40) (hgS : 0 ≤ nS ∧ nS ≤ 60) : Met l yX5_yearWithCost w_c_yearWithCost ({ frames := 0, cells := 0, slots := 0, locals := 0 }) (va_Pc [.int p0, .long p1, .int p2, .int p3] (fun U => U.heap = H0 ∧ va_K (dC, dI) vwCl (tyl kA) U ∧ EVC adK adV (gA G H0.size) U U.heap)) (va_Qi (fun (r : Int32) (u : Unit) => True) (fun (_ : Unit) (t : State) => gH (dC, dI) kA (SHc nC nS) G t.heap ∧ gF (dC, dI) SKc G ([] : List (Nat × Nat)) H0 t.heap) (gA G H0.size)) 0 0 (gA G H0.size) := by
  refine Met.ofW (cc := cX5_yearWithCost) (maxL := 5) (ret := (some .int)) (by decide) rfl ?_
  intro p e s m args below meth c s₁ B hml hv
  obtain ⟨rfl, hH0, hK, hE⟩ := hv
  have hx := B.exec
  have hb := B.bytes
  have hr := B.returns
  have hts := atoms_spec (ws := w_c_yearWithCost) B.pre
  have hown : s.vm.findClass RX5 = some m.cls := findClass_of_methodNamed B.named
  have hlocks := B.notSynchronized
  subst hH0
  generalize hAe : gA G s.heap.size = A at hE ⊢
  have hA : ∀ q : Nat, s.heap.size ≤ q → A q := fun q h => by rw [← hAe]; exact Or.inr h
  have hG := gA_of hAe
  have hS : va_S A s.heap s.heap [] := va_S.rf
  have hF : gF (dC, dI) SKc G ([] : List (Nat × Nat)) s.heap s.heap := gF.rf
  have hl := lv_entry ([.int p0, .long p1, .int p2, .int p3]) (n := 5) (Nat.le_of_ble_eq_true rfl)
  rw [lg_entry_eq]
  generalize (lg_sl ([.int p0, .long p1, .int p2, .int p3]) ++ List.replicate (5 - (lg_sl ([.int p0, .long p1, .int p2, .int p3])).length) Slot.unset).toArray = ls at hl ⊢
  have hl : lv_has ls 5 [(0, .int p0), (1, .long p1), (3, .int p2), (4, .int p3)] := hl
  refine lv_lload_n hx hb dX5_yearWithCost_0 rfl (lv_at hl 1 rfl) ?_
  refine lv_iload hx hb dX5_yearWithCost_1 (lv_at hl 3 rfl) ?_
  refine lv_i2l (v := p3.toInt64) hx hb dX5_yearWithCost_3 rfl ?_
  refine W.lcmp hx hb dX5_yearWithCost_4 ?_
  refine lv_topi (fun x1 _ => ?_)
  have t2 : -2147483648 ≤ x1.toInt ∧ x1.toInt ≤ 2147483647 := ti_all x1
  refine lv_if_lt (tgt := 10) hx hb dX5_yearWithCost_5 (by decide) (fun c3 => ?_) (fun c3 => ?_)
  · have t4 : x1.toInt < 0 := ti_lt c3 rfl (by decide)
    refine lv_iload_n hx hb dX5_yearWithCost_10 rfl (lv_at hl 2 rfl) ?_
    have t5 : -2147483648 ≤ p2.toInt ∧ p2.toInt ≤ 2147483647 := ti_all p2
    refine lv_if_ne (tgt := 18) hx hb dX5_yearWithCost_11 (by decide) (fun c6 => ?_) (fun c6 => ?_)
    · have t7 : p2.toInt ≠ 0 := ti_ne c6 rfl (by decide)
      refine lv_iload_n hx hb dX5_yearWithCost_18 rfl (lv_at hl 0 rfl) ?_
      refine lv_iload hx hb dX5_yearWithCost_19 (lv_at hl 3 rfl) ?_
      refine lv_i2l (v := p3.toInt64) hx hb dX5_yearWithCost_21 rfl ?_
      refine lv_lload_n hx hb dX5_yearWithCost_22 rfl (lv_at hl 1 rfl) ?_
      refine lv_lsub hx hb dX5_yearWithCost_23 ?_
      refine lv_topl (fun y8 _ => ?_)
      refine lv_iload_n hx hb dX5_yearWithCost_24 rfl (lv_at hl 2 rfl) ?_
      refine lv_i2l (v := p2.toInt64) hx hb dX5_yearWithCost_25 rfl ?_
      refine lv_ladd hx hb dX5_yearWithCost_26 ?_
      refine lv_topl (fun y9 _ => ?_)
      refine lv_lconst (v := 1) hx hb dX5_yearWithCost_27 (by decide) ?_
      refine lv_lsub hx hb dX5_yearWithCost_28 ?_
      refine lv_topl (fun y10 _ => ?_)
      refine lv_iload_n hx hb dX5_yearWithCost_29 rfl (lv_at hl 2 rfl) ?_
      refine lv_i2l (v := p2.toInt64) hx hb dX5_yearWithCost_30 rfl ?_
      refine lv_ldiv hx hb dX5_yearWithCost_31 (i2l_ne rfl (by omega)) ?_
      refine lv_topl (fun y11 _ => ?_)
      refine lv_l2i (v := y11.toInt32) hx hb dX5_yearWithCost_32 rfl ?_
      refine lv_topi (fun x12 _ => ?_)
      refine lv_iadd hx hb dX5_yearWithCost_33 ?_
      refine lv_topi (fun x13 ex13 => ?_)
      exact W.iret (v := x13) hx hb hr (fun t ht hW => ⟨⟨x13, (), rfl, (by exact trivial), by (try dsimp only); rw [ht]; exact ⟨hT, hF⟩⟩, hS.F ht⟩) hS.2.2 dX5_yearWithCost_34
    · have t14 : p2.toInt = 0 := ti_eq c6 rfl (by decide)
      refine lv_sipush (v := 200) hx hb dX5_yearWithCost_14 (by decide) ?_
      exact W.iret (v := 200) hx hb hr (fun t ht hW => ⟨⟨200, (), rfl, (by exact trivial), by (try dsimp only); rw [ht]; exact ⟨hT, hF⟩⟩, hS.F ht⟩) hS.2.2 dX5_yearWithCost_17
  · have t15 : 0 ≤ x1.toInt := ti_nlt c3 rfl (by decide)
    refine lv_iload_n hx hb dX5_yearWithCost_8 rfl (lv_at hl 0 rfl) ?_
    exact W.iret (v := p0) hx hb hr (fun t ht hW => ⟨⟨p0, (), rfl, (by exact trivial), by (try dsimp only); rw [ht]; exact ⟨hT, hF⟩⟩, hS.F ht⟩) hS.2.2 dX5_yearWithCost_9
def w_c_tryOrders7 : List Cond := .code yX5_tryOrders cX5_tryOrders 11 none :: (HAppend.hAppend (α := List Cond) (β := List Cond) (γ := List Cond) [.fieldLink RX5 157 "SeaLand$Plans" "bestLate" "I", .fieldLink RX5 154 "SeaLand$Plans" "jobs" "I", .fieldLink RX5 45 "SeaLand$Plans" "trial" "[I", .fieldLink RX5 48 "SeaLand$Plans" "best" "[I", .methodLink RX5 100 arraycopyName, .native arraycopyName, .static arraycopyName, .initialized "java/lang/System"] bs2)
set_option maxHeartbeats 4000000 in
set_option maxRecDepth 100000 in
theorem c_tryOrders7 (l : Launch) (dC : Nat → ClassId) (dI : Nat → Nat → Nat) (kA : Nat → ClassId) (adK adV : Nat → Nat) (G : gT) (H0 : Heap) (nC nS : Int) (o0 : Nat) (yr : Int32) (co : Int64) (ic : Int32) (la : Int32) (jb : Int32)  (hT : gH (dC, dI) kA (SHc nC nS) G H0) (hr_o0 : G o0 = some 8) (hm_jb : el H0 o0 (dI 8 15) = some (.int jb)) (hq0 : 0 ≤ jb.toInt ∧ jb.toInt ≤ 7) (hgC : 0 ≤ nC ∧ nC ≤ 40) (hgS : 0 ≤ nS ∧ nS ≤ 60) : Met l yX5_tryOrders w_c_tryOrders7 ({ frames := 2, cells := 0, slots := 0, locals := 60 }) (va_Pc [.ref o0, .int 7, .int yr, .long co, .int ic, .int la] (fun U => U.heap = H0 ∧ va_K (dC, dI) vwCl (tyl kA) U ∧ EVC adK adV (gA G H0.size) U U.heap)) (va_Qv (fun (u : Unit) => True) (fun (_ : Unit) (t : State) => gH (dC, dI) kA (SHc nC nS) G t.heap ∧ gF (dC, dI) SKc G ([(8, 16), (69, 0)] : List (Nat × Nat)) H0 t.heap) (gA G H0.size)) 0 0 (gA G H0.size) := by
  refine Met.ofW (cc := cX5_tryOrders) (maxL := 11) (ret := none) (by decide) rfl ?_
  intro p e s m args below meth c s₁ B hml hv
  obtain ⟨rfl, hH0, hK, hE⟩ := hv
  have hx := B.exec
  have hb := B.bytes
  have hr := B.returns
  have hts := atoms_spec (ws := w_c_tryOrders7) B.pre
  have hown : s.vm.findClass RX5 = some m.cls := findClass_of_methodNamed B.named
  have hlocks := B.notSynchronized
  subst hH0
  generalize hAe : gA G s.heap.size = A at hE ⊢
  have hA : ∀ q : Nat, s.heap.size ≤ q → A q := fun q h => by rw [← hAe]; exact Or.inr h
  have hG := gA_of hAe
  have hS : va_S A s.heap s.heap [] := va_S.rf
  have hF : gF (dC, dI) SKc G ([(8, 16), (69, 0)] : List (Nat × Nat)) s.heap s.heap := gF.rf
  have hl := lv_entry ([.ref o0, .int 7, .int yr, .long co, .int ic, .int la]) (n := 11) (Nat.le_of_ble_eq_true rfl)
  rw [lg_entry_eq]
  generalize (lg_sl ([.ref o0, .int 7, .int yr, .long co, .int ic, .int la]) ++ List.replicate (11 - (lg_sl ([.ref o0, .int 7, .int yr, .long co, .int ic, .int la])).length) Slot.unset).toArray = ls at hl ⊢
  have hl : lv_has ls 11 [(0, .ref o0), (1, .int 7), (2, .int yr), (3, .long co), (5, .int ic), (6, .int la)] := hl
  refine lv_aload_n hx hb dX5_tryOrders_0 rfl (lv_at hl 0 rfl) ?_
  refine tw_get hx hb hts bF2_X5 hown hK hT hr_o0 shc_8 rfl 16 (by decide) (ht_at2 hts 0 rfl) (fun _ h9 => h9) dX5_tryOrders_1 (fun v9 m1 h9 => ?_)
  obtain ⟨x2, rfl, gx2, kx2⟩ := h9 _ rfl
  refine lv_iconst (v := (-1)) hx hb dX5_tryOrders_4 (by decide) ?_
  have t3 : -2147483648 ≤ x2.toInt ∧ x2.toInt ≤ 2147483647 := ti_all x2
  refine lv_icmp_eq (tgt := 18) hx hb dX5_tryOrders_5 (by decide) (fun c4 => ?_) (fun c4 => ?_)
  · have t5 : x2.toInt = (-1) := ti_eq c4 rfl (by decide)
    refine lv_iload_n hx hb dX5_tryOrders_18 rfl (lv_at hl 1 rfl) ?_
    refine lv_aload_n hx hb dX5_tryOrders_19 rfl (lv_at hl 0 rfl) ?_
    refine tw_getM (v := .int jb) hx hb hts bF2_X5 hown hK hT hr_o0 shc_8 rfl 15 (by decide) (ht_at2 hts 1 rfl) (fun _ h9 => h9) hm_jb dX5_tryOrders_20 ?_
    refine lv_icmp_lt (tgt := 50) hx hb dX5_tryOrders_23 (by decide) (fun c6 => (by exfalso; have q9 : 7 < jb.toInt := ti_lt c6 (by decide) rfl; omega)) (fun c6 => ?_)
    have t7 : jb.toInt ≤ 7 := ti_nlt c6 (by decide) rfl
    refine lv_aload_n hx hb dX5_tryOrders_26 rfl (lv_at hl 0 rfl) ?_
    refine lv_iload hx hb dX5_tryOrders_27 (lv_at hl 5 rfl) ?_
    refine tw_put (v := .int la) (ty := .int) hx hb hts bF2_X5 tyX5 tyX5_ok nmX5 hown hK hT hG hS hr_o0 shc_8 rfl 16 (by decide) (ht_at2 hts 0 rfl) (fun _ h9 => h9) rfl (by decide +kernel) rfl rfl (gl_at rfl (gi_all _)) dX5_tryOrders_29 (fun H locs hT oq m8 oj hS => ?_)
    have hF := hF.put hr_o0 skc_8 oq oj (by decide)
    have m9 := (oj 15 (by decide) (by decide)).trans hm_jb
    refine lv_aload_n hx hb dX5_tryOrders_32 rfl (lv_at hl 0 rfl) ?_
    refine tw_get hx hb hts bF2_X5 hown hK hT hr_o0 shc_8 rfl 10 (by decide) (ht_at2 hts 2 rfl) (fun _ h9 => h9) dX5_tryOrders_33 (fun v9 m10 h9 => ?_)
    obtain ⟨b11, rfl, hg12⟩ := h9 _ rfl
    refine lv_iconst (v := 0) hx hb dX5_tryOrders_36 (by decide) ?_
    refine lv_aload_n hx hb dX5_tryOrders_37 rfl (lv_at hl 0 rfl) ?_
    refine tw_get hx hb hts bF2_X5 hown hK hT hr_o0 shc_8 rfl 11 (by decide) (ht_at2 hts 3 rfl) (fun _ h9 => h9) dX5_tryOrders_38 (fun v9 m13 h9 => ?_)
    obtain ⟨b14, rfl, hg15⟩ := h9 _ rfl
    refine lv_iconst (v := 0) hx hb dX5_tryOrders_41 (by decide) ?_
    refine lv_aload_n hx hb dX5_tryOrders_42 rfl (lv_at hl 0 rfl) ?_
    refine tw_getM (v := .int jb) hx hb hts bF2_X5 hown hK hT hr_o0 shc_8 rfl 15 (by decide) (ht_at2 hts 1 rfl) (fun _ h9 => h9) m9 dX5_tryOrders_43 ?_
    refine tw_copy (ty := .int) hx hb (hml.trans hl.1.symm) hown (ht_at2 hts 4 rfl) (ht_at2 hts 5 rfl) (ht_at2 hts 6 rfl) (ht_at2 hts 7 rfl) hK hT hG hS hg12 hg15 shc_68 shc_69 rfl rfl (by decide) (by decide) (fun h9 => by have q9 := ti_lt h9 rfl (show (0 : Int32).toInt = 0 from by decide); omega) (by have q9 := tn_of (show jb.toInt = jb.toInt from rfl) (by omega); have q8 : (0 : Int32).toNatClampNeg = 0 := (by decide); omega) (by have q9 := tn_of (show jb.toInt = jb.toInt from rfl) (by omega); have q8 : (0 : Int32).toNatClampNeg = 0 := (by decide); omega) (fun _ _ h9 => by obtain ⟨x9, e9, _⟩ := h9; exact ⟨x9, e9, rfl⟩) (fun _ _ _ h9 => by obtain ⟨x9, e9, a9, b9⟩ := h9; exact ⟨x9, e9, by omega, by omega⟩) (Nat.le_of_ble_eq_true rfl) (Nat.le_of_ble_eq_true rfl) dX5_tryOrders_46 (fun H locs hT oq hS => ?_)
    have hF := hF.ast hg15 skc_69 oq (by decide)
    exact W.vret hx hb hr (fun t ht hW => ⟨⟨(), rfl, (by exact trivial), by (try dsimp only); rw [ht]; exact ⟨hT, hF⟩⟩, hS.F ht⟩) hS.2.2 dX5_tryOrders_49
  · have t20 : x2.toInt ≠ (-1) := ti_ne c4 rfl (by decide)
    refine lv_iload hx hb dX5_tryOrders_8 (lv_at hl 5 rfl) ?_
    refine lv_aload_n hx hb dX5_tryOrders_10 rfl (lv_at hl 0 rfl) ?_
    refine tw_getM (v := .int x2) hx hb hts bF2_X5 hown hK hT hr_o0 shc_8 rfl 16 (by decide) (ht_at2 hts 0 rfl) (fun _ h9 => h9) m1 dX5_tryOrders_11 ?_
    have t21 : -2147483648 ≤ la.toInt ∧ la.toInt ≤ 2147483647 := ti_all la
    refine lv_icmp_lt (tgt := 18) hx hb dX5_tryOrders_14 (by decide) (fun c22 => ?_) (fun c22 => ?_)
    · have t23 : la.toInt < x2.toInt := ti_lt c22 rfl rfl
      refine lv_iload_n hx hb dX5_tryOrders_18 rfl (lv_at hl 1 rfl) ?_
      refine lv_aload_n hx hb dX5_tryOrders_19 rfl (lv_at hl 0 rfl) ?_
      refine tw_getM (v := .int jb) hx hb hts bF2_X5 hown hK hT hr_o0 shc_8 rfl 15 (by decide) (ht_at2 hts 1 rfl) (fun _ h9 => h9) hm_jb dX5_tryOrders_20 ?_
      refine lv_icmp_lt (tgt := 50) hx hb dX5_tryOrders_23 (by decide) (fun c24 => (by exfalso; have q9 : 7 < jb.toInt := ti_lt c24 (by decide) rfl; omega)) (fun c24 => ?_)
      have t25 : jb.toInt ≤ 7 := ti_nlt c24 (by decide) rfl
      refine lv_aload_n hx hb dX5_tryOrders_26 rfl (lv_at hl 0 rfl) ?_
      refine lv_iload hx hb dX5_tryOrders_27 (lv_at hl 5 rfl) ?_
      refine tw_put (v := .int la) (ty := .int) hx hb hts bF2_X5 tyX5 tyX5_ok nmX5 hown hK hT hG hS hr_o0 shc_8 rfl 16 (by decide) (ht_at2 hts 0 rfl) (fun _ h9 => h9) rfl (by decide +kernel) rfl rfl (gl_at rfl (gi_all _)) dX5_tryOrders_29 (fun H locs hT oq m26 oj hS => ?_)
      have hF := hF.put hr_o0 skc_8 oq oj (by decide)
      have m27 := (oj 15 (by decide) (by decide)).trans hm_jb
      refine lv_aload_n hx hb dX5_tryOrders_32 rfl (lv_at hl 0 rfl) ?_
      refine tw_get hx hb hts bF2_X5 hown hK hT hr_o0 shc_8 rfl 10 (by decide) (ht_at2 hts 2 rfl) (fun _ h9 => h9) dX5_tryOrders_33 (fun v9 m28 h9 => ?_)
      obtain ⟨b29, rfl, hg30⟩ := h9 _ rfl
      refine lv_iconst (v := 0) hx hb dX5_tryOrders_36 (by decide) ?_
      refine lv_aload_n hx hb dX5_tryOrders_37 rfl (lv_at hl 0 rfl) ?_
      refine tw_get hx hb hts bF2_X5 hown hK hT hr_o0 shc_8 rfl 11 (by decide) (ht_at2 hts 3 rfl) (fun _ h9 => h9) dX5_tryOrders_38 (fun v9 m31 h9 => ?_)
      obtain ⟨b32, rfl, hg33⟩ := h9 _ rfl
      refine lv_iconst (v := 0) hx hb dX5_tryOrders_41 (by decide) ?_
      refine lv_aload_n hx hb dX5_tryOrders_42 rfl (lv_at hl 0 rfl) ?_
      refine tw_getM (v := .int jb) hx hb hts bF2_X5 hown hK hT hr_o0 shc_8 rfl 15 (by decide) (ht_at2 hts 1 rfl) (fun _ h9 => h9) m27 dX5_tryOrders_43 ?_
      refine tw_copy (ty := .int) hx hb (hml.trans hl.1.symm) hown (ht_at2 hts 4 rfl) (ht_at2 hts 5 rfl) (ht_at2 hts 6 rfl) (ht_at2 hts 7 rfl) hK hT hG hS hg30 hg33 shc_68 shc_69 rfl rfl (by decide) (by decide) (fun h9 => by have q9 := ti_lt h9 rfl (show (0 : Int32).toInt = 0 from by decide); omega) (by have q9 := tn_of (show jb.toInt = jb.toInt from rfl) (by omega); have q8 : (0 : Int32).toNatClampNeg = 0 := (by decide); omega) (by have q9 := tn_of (show jb.toInt = jb.toInt from rfl) (by omega); have q8 : (0 : Int32).toNatClampNeg = 0 := (by decide); omega) (fun _ _ h9 => by obtain ⟨x9, e9, _⟩ := h9; exact ⟨x9, e9, rfl⟩) (fun _ _ _ h9 => by obtain ⟨x9, e9, a9, b9⟩ := h9; exact ⟨x9, e9, by omega, by omega⟩) (Nat.le_of_ble_eq_true rfl) (Nat.le_of_ble_eq_true rfl) dX5_tryOrders_46 (fun H locs hT oq hS => ?_)
      have hF := hF.ast hg33 skc_69 oq (by decide)
      exact W.vret hx hb hr (fun t ht hW => ⟨⟨(), rfl, (by exact trivial), by (try dsimp only); rw [ht]; exact ⟨hT, hF⟩⟩, hS.F ht⟩) hS.2.2 dX5_tryOrders_49
    · have t38 : x2.toInt ≤ la.toInt := ti_nlt c22 rfl rfl
      exact W.vret hx hb hr (fun t ht hW => ⟨⟨(), rfl, (by exact trivial), by (try dsimp only); rw [ht]; exact ⟨hT, hF⟩⟩, hS.F ht⟩) hS.2.2 dX5_tryOrders_17
def w_c_tryOrders6 : List Cond := .code yX5_tryOrders cX5_tryOrders 11 none :: (HAppend.hAppend (α := List Cond) (β := List Cond) (γ := List Cond) [.fieldLink RX5 157 "SeaLand$Plans" "bestLate" "I", .fieldLink RX5 154 "SeaLand$Plans" "jobs" "I", .fieldLink RX5 41 "SeaLand$Plans" "placed" "[Z", .fieldLink RX5 29 "SeaLand$Plans" "costs" "[I", .code yX5_yearWithCost cX5_yearWithCost 5 (some .int), .methodLink RX5 164 yX5_yearWithCost, .static yX5_yearWithCost, .initialized RX5, .fieldLink RX5 32 "SeaLand$Plans" "lasts" "[I", .fieldLink RX5 45 "SeaLand$Plans" "trial" "[I", .fieldLink RX5 35 "SeaLand$Plans" "incomes" "[I", .fieldLink RX5 38 "SeaLand$Plans" "acres" "[I", .code yX5_tryOrders cX5_tryOrders 11 none, .fieldLink RX5 48 "SeaLand$Plans" "best" "[I", .methodLink RX5 100 arraycopyName, .native arraycopyName, .static arraycopyName, .initialized "java/lang/System", .methodLink RX5 160 yX5_tryOrders, .instanceMethod yX5_tryOrders, .selects RX5 yX5_tryOrders yX5_tryOrders] bs2)
set_option maxHeartbeats 4000000 in
set_option maxRecDepth 100000 in
theorem c_tryOrders6 (l : Launch) (dC : Nat → ClassId) (dI : Nat → Nat → Nat) (kA : Nat → ClassId) (adK adV : Nat → Nat) (G : gT) (H0 : Heap) (nC nS : Int) (o0 : Nat) (yr : Int32) (co : Int64) (ic : Int32) (la : Int32) (jb : Int32)  (hT : gH (dC, dI) kA (SHc nC nS) G H0) (hr_o0 : G o0 = some 8) (hm_jb : el H0 o0 (dI 8 15) = some (.int jb)) (hq0 : 0 ≤ jb.toInt ∧ jb.toInt ≤ 7) (hgC : 0 ≤ nC ∧ nC ≤ 40) (hgS : 0 ≤ nS ∧ nS ≤ 60) : Met l yX5_tryOrders w_c_tryOrders6 ({ frames := 3, cells := 0, slots := 0, locals := 90 }) (va_Pc [.ref o0, .int 6, .int yr, .long co, .int ic, .int la] (fun U => U.heap = H0 ∧ va_K (dC, dI) vwCl (tyl kA) U ∧ EVC adK adV (gA G H0.size) U U.heap)) (va_Qv (fun (u : Unit) => True) (fun (_ : Unit) (t : State) => gH (dC, dI) kA (SHc nC nS) G t.heap ∧ gF (dC, dI) SKc G ([(8, 16), (67, 0), (68, 0), (69, 0)] : List (Nat × Nat)) H0 t.heap) (gA G H0.size)) 0 0 (gA G H0.size) := by
  refine Met.ofW (cc := cX5_tryOrders) (maxL := 11) (ret := none) (by decide) rfl ?_
  intro p e s m args below meth c s₁ B hml hv
  obtain ⟨rfl, hH0, hK, hE⟩ := hv
  have hx := B.exec
  have hb := B.bytes
  have hr := B.returns
  have hts := atoms_spec (ws := w_c_tryOrders6) B.pre
  have hown : s.vm.findClass RX5 = some m.cls := findClass_of_methodNamed B.named
  have hlocks := B.notSynchronized
  subst hH0
  generalize hAe : gA G s.heap.size = A at hE ⊢
  have hA : ∀ q : Nat, s.heap.size ≤ q → A q := fun q h => by rw [← hAe]; exact Or.inr h
  have hG := gA_of hAe
  have hS : va_S A s.heap s.heap [] := va_S.rf
  have hF : gF (dC, dI) SKc G ([(8, 16), (67, 0), (68, 0), (69, 0)] : List (Nat × Nat)) s.heap s.heap := gF.rf
  have hl := lv_entry ([.ref o0, .int 6, .int yr, .long co, .int ic, .int la]) (n := 11) (Nat.le_of_ble_eq_true rfl)
  rw [lg_entry_eq]
  generalize (lg_sl ([.ref o0, .int 6, .int yr, .long co, .int ic, .int la]) ++ List.replicate (11 - (lg_sl ([.ref o0, .int 6, .int yr, .long co, .int ic, .int la])).length) Slot.unset).toArray = ls at hl ⊢
  have hl : lv_has ls 11 [(0, .ref o0), (1, .int 6), (2, .int yr), (3, .long co), (5, .int ic), (6, .int la)] := hl
  refine lv_aload_n hx hb dX5_tryOrders_0 rfl (lv_at hl 0 rfl) ?_
  refine tw_get hx hb hts bF2_X5 hown hK hT hr_o0 shc_8 rfl 16 (by decide) (ht_at2 hts 0 rfl) (fun _ h9 => h9) dX5_tryOrders_1 (fun v9 m1 h9 => ?_)
  obtain ⟨x2, rfl, gx2, kx2⟩ := h9 _ rfl
  refine lv_iconst (v := (-1)) hx hb dX5_tryOrders_4 (by decide) ?_
  have t3 : -2147483648 ≤ x2.toInt ∧ x2.toInt ≤ 2147483647 := ti_all x2
  refine lv_icmp_eq (tgt := 18) hx hb dX5_tryOrders_5 (by decide) (fun c4 => ?_) (fun c4 => ?_)
  · have t5 : x2.toInt = (-1) := ti_eq c4 rfl (by decide)
    refine lv_iload_n hx hb dX5_tryOrders_18 rfl (lv_at hl 1 rfl) ?_
    refine lv_aload_n hx hb dX5_tryOrders_19 rfl (lv_at hl 0 rfl) ?_
    refine tw_getM (v := .int jb) hx hb hts bF2_X5 hown hK hT hr_o0 shc_8 rfl 15 (by decide) (ht_at2 hts 1 rfl) (fun _ h9 => h9) hm_jb dX5_tryOrders_20 ?_
    refine lv_icmp_lt (tgt := 50) hx hb dX5_tryOrders_23 (by decide) (fun c6 => ?_) (fun c6 => ?_)
    · have t7 : 6 < jb.toInt := ti_lt c6 (by decide) rfl
      refine lv_iconst (v := 0) hx hb dX5_tryOrders_50 (by decide) ?_
      refine lv_istore (lv' := [(7, .int 0), (0, .ref o0), (1, .int 6), (2, .int yr), (3, .long co), (5, .int ic), (6, .int la)]) hx hb dX5_tryOrders_51 hl (by decide) rfl (fun ls hl => ?_)
      have key128 : ∀ (n128 i8 : Nat), i8 + n128 = 7 → 0 ≤ i8 → ∀ (H : Heap) (locs : List Loc), gH (dC, dI) kA (SHc nC nS) G H → gF (dC, dI) SKc G ([(8, 16), (67, 0), (68, 0), (69, 0)] : List (Nat × Nat)) s.heap H → va_S A s.heap H locs → el H o0 (dI 8 15) = some (.int jb) → ∀ ls : Array Slot, lv_has ls 11 [(7, .int (nI i8)), (0, .ref o0), (1, .int 6), (2, .int yr), (3, .long co), (5, .int ic), (6, .int la)] → W p l e (headSpec w_c_tryOrders6 ({ frames := 3, cells := 0, slots := 0, locals := 90 })).room s m #[.ref o0, .int 6, .int yr, .long co, .int ic, .int la] below meth c H locs 0 0 (MQ below (va_Qv (fun (u : Unit) => True) (fun (_ : Unit) (t : State) => gH (dC, dI) kA (SHc nC nS) G t.heap ∧ gF (dC, dI) SKc G ([(8, 16), (67, 0), (68, 0), (69, 0)] : List (Nat × Nat)) s.heap t.heap) A) #[.ref o0, .int 6, .int yr, .long co, .int ic, .int la] s 0 0 A) (F0 m 53 ls []) := by
        intro n128
        induction n128 with
        | zero =>
          intro i8 hn128 hlo129  H locs hT hF hS m9 ls hl
          obtain rfl : 7 = i8 := by omega
          refine lv_iload hx hb dX5_tryOrders_53 (lv_at hl 0 rfl) ?_
          refine lv_aload_n hx hb dX5_tryOrders_55 rfl (lv_at hl 1 rfl) ?_
          refine tw_getM (v := .int jb) hx hb hts bF2_X5 hown hK hT hr_o0 shc_8 rfl 15 (by decide) (ht_at2 hts 1 rfl) (fun _ h9 => h9) m9 dX5_tryOrders_56 ?_
          refine lv_icmp_ge (tgt := 200) hx hb dX5_tryOrders_59 (by decide) (fun c130 => ?_) (fun c130 => (by exfalso; have q9 : ((7 : Nat) : Int) < jb.toInt := ti_nle c130 rfl (nI_toInt (by omega)); omega))
          have t131 : jb.toInt ≤ ((7 : Nat) : Int) := ti_le c130 rfl (nI_toInt (by omega))
          exact W.vret hx hb hr (fun t ht hW => ⟨⟨(), rfl, (by exact trivial), by (try dsimp only); rw [ht]; exact ⟨hT, hF⟩⟩, hS.F ht⟩) hS.2.2 dX5_tryOrders_200
        | succ n128 ih128 =>
          intro i8 hn128 hlo129  H locs hT hF hS m9 ls hl
          have hlt131 : i8 < 7 := by omega
          refine lv_iload hx hb dX5_tryOrders_53 (lv_at hl 0 rfl) ?_
          refine lv_aload_n hx hb dX5_tryOrders_55 rfl (lv_at hl 1 rfl) ?_
          refine tw_getM (v := .int jb) hx hb hts bF2_X5 hown hK hT hr_o0 shc_8 rfl 15 (by decide) (ht_at2 hts 1 rfl) (fun _ h9 => h9) m9 dX5_tryOrders_56 ?_
          refine lv_icmp_ge (tgt := 200) hx hb dX5_tryOrders_59 (by decide) (fun c132 => (by exfalso; have q9 : jb.toInt ≤ ((i8 : Nat) : Int) := ti_le c132 rfl (nI_toInt (by omega)); omega)) (fun c132 => ?_)
          have t133 : ((i8 : Nat) : Int) < jb.toInt := ti_nle c132 rfl (nI_toInt (by omega))
          refine lv_aload_n hx hb dX5_tryOrders_62 rfl (lv_at hl 1 rfl) ?_
          refine tw_get hx hb hts bF2_X5 hown hK hT hr_o0 shc_8 rfl 9 (by decide) (ht_at2 hts 2 rfl) (fun _ h9 => h9) dX5_tryOrders_63 (fun v9 m134 h9 => ?_)
          obtain ⟨b135, rfl, hg136⟩ := h9 _ rfl
          refine lv_iload hx hb dX5_tryOrders_66 (lv_at hl 0 rfl) ?_
          refine tw_zald (i := (nI i8)) hx hb hK hT hg136 shc_67 rfl (vp_in_nI (by omega) (by decide)) dX5_tryOrders_68 (fun v9 m137 h9 => ?_)
          obtain ⟨x138, rfl, gx138, kx138⟩ := h9
          have jn161 : ∀ (z157 : Int32), ∀ (H : Heap) (locs : List Loc), gH (dC, dI) kA (SHc nC nS) G H → gF (dC, dI) SKc G ([(8, 16), (67, 0), (68, 0), (69, 0)] : List (Nat × Nat)) s.heap H → va_S A s.heap H locs → el H o0 (dI 8 15) = some (.int jb) → el H o0 (dI 8 9) = some (.ref b135) → el H b135 (nI i8).toNatClampNeg = some (.int x138) → ∀ ls : Array Slot, lv_has ls 11 [(7, .int (nI i8)), (0, .ref o0), (1, .int 6), (2, .int yr), (3, .long co), (5, .int ic), (6, .int la)] → W p l e (headSpec w_c_tryOrders6 ({ frames := 3, cells := 0, slots := 0, locals := 90 })).room s m #[.ref o0, .int 6, .int yr, .long co, .int ic, .int la] below meth c H locs 0 0 (MQ below (va_Qv (fun (u : Unit) => True) (fun (_ : Unit) (t : State) => gH (dC, dI) kA (SHc nC nS) G t.heap ∧ gF (dC, dI) SKc G ([(8, 16), (67, 0), (68, 0), (69, 0)] : List (Nat × Nat)) s.heap t.heap) A) #[.ref o0, .int 6, .int yr, .long co, .int ic, .int la] s 0 0 A) (F0 m 98 ls [.int z157]) := by
            intro z157 H locs hT hF hS m158 m159 m160 ls hl
            refine lv_istore (lv' := [(8, .int z157), (7, .int (nI i8)), (0, .ref o0), (1, .int 6), (2, .int yr), (3, .long co), (5, .int ic), (6, .int la)]) hx hb dX5_tryOrders_98 hl (by decide) rfl (fun ls hl => ?_)
            refine lv_iload hx hb dX5_tryOrders_100 (lv_at hl 0 rfl) ?_
            refine lv_iconst (v := (-1)) hx hb dX5_tryOrders_102 (by decide) ?_
            have t162 : -2147483648 ≤ z157.toInt ∧ z157.toInt ≤ 2147483647 := ti_all z157
            refine lv_icmp_eq (tgt := 194) hx hb dX5_tryOrders_103 (by decide) (fun c163 => ?_) (fun c163 => ?_)
            · have t164 : z157.toInt = (-1) := ti_eq c163 rfl (by decide)
              refine lv_iinc (v := nI (i8 + 1)) (lv' := [(7, .int (nI (i8 + 1))), (8, .int z157), (0, .ref o0), (1, .int 6), (2, .int yr), (3, .long co), (5, .int ic), (6, .int la)]) hx hb dX5_tryOrders_194 hl (k := 1) rfl (nI_add i8 1) (by decide) rfl (fun ls hl => ?_)
              refine lv_goto (tgt := 53) hx hb dX5_tryOrders_197 (by decide) ?_
              exact ih128 (i8 + 1) (by omega) (by omega) _ _ hT hF hS m158 ls (lv_sub hl [0, 2, 3, 4, 5, 6, 7] rfl)
            · have t165 : z157.toInt ≠ (-1) := ti_ne c163 rfl (by decide)
              refine lv_iload hx hb dX5_tryOrders_106 (lv_at hl 0 rfl) ?_
              refine lv_sipush (v := 200) hx hb dX5_tryOrders_108 (by decide) ?_
              refine lv_icmp_gt (tgt := 194) hx hb dX5_tryOrders_111 (by decide) (fun c166 => ?_) (fun c166 => ?_)
              · have t167 : 200 < z157.toInt := ti_lt c166 (by decide) rfl
                refine lv_iinc (v := nI (i8 + 1)) (lv' := [(7, .int (nI (i8 + 1))), (8, .int z157), (0, .ref o0), (1, .int 6), (2, .int yr), (3, .long co), (5, .int ic), (6, .int la)]) hx hb dX5_tryOrders_194 hl (k := 1) rfl (nI_add i8 1) (by decide) rfl (fun ls hl => ?_)
                refine lv_goto (tgt := 53) hx hb dX5_tryOrders_197 (by decide) ?_
                exact ih128 (i8 + 1) (by omega) (by omega) _ _ hT hF hS m158 ls (lv_sub hl [0, 2, 3, 4, 5, 6, 7] rfl)
              · have t168 : z157.toInt ≤ 200 := ti_nlt c166 (by decide) rfl
                refine lv_lload_n hx hb dX5_tryOrders_114 rfl (lv_at hl 5 rfl) ?_
                refine lv_iload hx hb dX5_tryOrders_115 (lv_at hl 6 rfl) ?_
                refine lv_i2l (v := ic.toInt64) hx hb dX5_tryOrders_117 rfl ?_
                refine lv_iload hx hb dX5_tryOrders_118 (lv_at hl 0 rfl) ?_
                refine lv_iload_n hx hb dX5_tryOrders_120 rfl (lv_at hl 4 rfl) ?_
                refine lv_isub hx hb dX5_tryOrders_121 ?_
                refine lv_topi (fun x169 ex169 => ?_)
                refine lv_i2l (v := x169.toInt64) hx hb dX5_tryOrders_122 rfl ?_
                refine lv_lmul hx hb dX5_tryOrders_123 ?_
                refine lv_topl (fun y170 _ => ?_)
                refine lv_ladd hx hb dX5_tryOrders_124 ?_
                refine lv_topl (fun y171 _ => ?_)
                refine lv_aload_n hx hb dX5_tryOrders_125 rfl (lv_at hl 2 rfl) ?_
                refine tw_get hx hb hts bF2_X5 hown hK hT hr_o0 shc_8 rfl 5 (by decide) (ht_at2 hts 3 rfl) (fun _ h9 => h9) dX5_tryOrders_126 (fun v9 m172 h9 => ?_)
                obtain ⟨b173, rfl, hg174⟩ := h9 _ rfl
                refine lv_iload hx hb dX5_tryOrders_129 (lv_at hl 1 rfl) ?_
                refine tw_iald (i := (nI i8)) hx hb hK hT hg174 shc_63 rfl (vp_in_nI (by omega) (by decide)) dX5_tryOrders_131 (fun v9 m175 h9 => ?_)
                obtain ⟨x176, rfl, gx176, kx176⟩ := h9
                refine lv_i2l (v := x176.toInt64) hx hb dX5_tryOrders_132 rfl ?_
                refine lv_lsub hx hb dX5_tryOrders_133 ?_
                refine lv_topl (fun y177 _ => ?_)
                refine lv_lstore (lv' := [(9, .long y177), (8, .int z157), (7, .int (nI i8)), (0, .ref o0), (1, .int 6), (2, .int yr), (3, .long co), (5, .int ic), (6, .int la)]) hx hb dX5_tryOrders_134 hl (by decide) rfl (fun ls hl => ?_)
                refine lv_aload_n hx hb dX5_tryOrders_136 rfl (lv_at hl 3 rfl) ?_
                refine tw_getM (v := .ref b135) hx hb hts bF2_X5 hown hK hT hr_o0 shc_8 rfl 9 (by decide) (ht_at2 hts 2 rfl) (fun _ h9 => h9) m159 dX5_tryOrders_137 ?_
                refine lv_iload hx hb dX5_tryOrders_140 (lv_at hl 2 rfl) ?_
                refine lv_iconst (v := 1) hx hb dX5_tryOrders_142 (by decide) ?_
                refine tw_zast (i := (nI i8)) (x := 1) hx hb hK hT hG hS hg136 shc_67 rfl (vp_in_nI (by omega) (by decide)) (gi_z (rg_t (a := 1) (by decide) (by first | decide | omega) (by first | decide | omega)) (by decide) (by decide)) dX5_tryOrders_143 (fun H locs hT oq m178 oi hS => ?_)
                have hF := hF.ast hg136 skc_67 oq (by decide)
                have m179 := (el_kept (oq _ (gne hr_o0 hg136 (by decide)))).trans m158
                have m180 := (el_kept (oq _ (gne hr_o0 hg136 (by decide)))).trans m159
                refine lv_aload_n hx hb dX5_tryOrders_144 rfl (lv_at hl 3 rfl) ?_
                refine tw_get hx hb hts bF2_X5 hown hK hT hr_o0 shc_8 rfl 10 (by decide) (ht_at2 hts 9 rfl) (fun _ h9 => h9) dX5_tryOrders_145 (fun v9 m183 h9 => ?_)
                obtain ⟨b184, rfl, hg185⟩ := h9 _ rfl
                refine lv_iload_n hx hb dX5_tryOrders_148 rfl (lv_at hl 4 rfl) ?_
                refine lv_iload hx hb dX5_tryOrders_149 (lv_at hl 2 rfl) ?_
                refine tw_iast (i := 6) (x := (nI i8)) hx hb hK hT hG hS hg185 shc_68 rfl (by unfold vp_in; decide) (gi_of (show (nI i8).toInt = ((i8 : Nat) : Int) from (nI_toInt (by omega))) (by omega) (by omega)) dX5_tryOrders_151 (fun H locs hT oq m186 oi hS => ?_)
                have hF := hF.ast hg185 skc_68 oq (by decide)
                have m187 := (el_kept (oq _ (gne hr_o0 hg185 (by decide)))).trans m179
                have m188 := (el_kept (oq _ (gne hr_o0 hg185 (by decide)))).trans m180
                refine lv_aload_n hx hb dX5_tryOrders_152 rfl (lv_at hl 3 rfl) ?_
                refine lv_iload_n hx hb dX5_tryOrders_153 rfl (lv_at hl 4 rfl) ?_
                refine lv_iconst (v := 1) hx hb dX5_tryOrders_154 (by decide) ?_
                refine lv_iadd hx hb dX5_tryOrders_155 ?_
                refine lv_topi (fun x192 ex192 => ?_)
                obtain rfl : x192 = 7 := ex192.trans (by decide)
                refine lv_iload hx hb dX5_tryOrders_156 (lv_at hl 1 rfl) ?_
                refine lv_lload hx hb dX5_tryOrders_158 (lv_at hl 0 rfl) ?_
                refine lv_iload hx hb dX5_tryOrders_160 (lv_at hl 7 rfl) ?_
                refine lv_aload_n hx hb dX5_tryOrders_162 rfl (lv_at hl 3 rfl) ?_
                refine tw_get hx hb hts bF2_X5 hown hK hT hr_o0 shc_8 rfl 7 (by decide) (ht_at2 hts 10 rfl) (fun _ h9 => h9) dX5_tryOrders_163 (fun v9 m193 h9 => ?_)
                obtain ⟨b194, rfl, hg195⟩ := h9 _ rfl
                refine lv_iload hx hb dX5_tryOrders_166 (lv_at hl 2 rfl) ?_
                refine tw_iald (i := (nI i8)) hx hb hK hT hg195 shc_65 rfl (vp_in_nI (by omega) (by decide)) dX5_tryOrders_168 (fun v9 m196 h9 => ?_)
                obtain ⟨x197, rfl, gx197, kx197⟩ := h9
                refine lv_iadd hx hb dX5_tryOrders_169 ?_
                refine lv_topi (fun x198 ex198 => ?_)
                refine lv_iload hx hb dX5_tryOrders_170 (lv_at hl 8 rfl) ?_
                refine lv_aload_n hx hb dX5_tryOrders_172 rfl (lv_at hl 3 rfl) ?_
                refine tw_get hx hb hts bF2_X5 hown hK hT hr_o0 shc_8 rfl 8 (by decide) (ht_at2 hts 11 rfl) (fun _ h9 => h9) dX5_tryOrders_173 (fun v9 m199 h9 => ?_)
                obtain ⟨b200, rfl, hg201⟩ := h9 _ rfl
                refine lv_iload hx hb dX5_tryOrders_176 (lv_at hl 2 rfl) ?_
                refine tw_iald (i := (nI i8)) hx hb hK hT hg201 shc_66 rfl (vp_in_nI (by omega) (by decide)) dX5_tryOrders_178 (fun v9 m202 h9 => ?_)
                obtain ⟨x203, rfl, gx203, kx203⟩ := h9
                refine lv_iload hx hb dX5_tryOrders_179 (lv_at hl 1 rfl) ?_
                refine lv_imul hx hb dX5_tryOrders_181 ?_
                refine lv_topi (fun x204 ex204 => ?_)
                refine lv_iadd hx hb dX5_tryOrders_182 ?_
                refine lv_topi (fun x205 ex205 => ?_)
                have hFc := gA_free hG hA hS
                refine va_callv (va_runV (As := [.int 7, .int z157, .long y177, .int x198, .int x205]) (rest := []) ⟨hx, hb, hml, hown, hts⟩ (c_tryOrders7 l dC dI kA adK adV G H nC nS o0 z157 y177 x198 x205 jb hT hr_o0 m187 (by have q8 := ti_all jb; omega) (by omega) (by omega)) (cwV 5 hts (goodIn_app (goodIn_r _ [19, 20, 21, 8] rfl (by decide +kernel)) (goodIn_ca (goodIn_r _ [13, 1, 2, 10, 14, 15, 16, 17, 18] rfl (by decide +kernel)) (bs2_in _ _))) rfl rfl rfl (by decide +kernel) ⟨(Nat.le_of_ble_eq_true rfl), (Nat.le_of_ble_eq_true rfl)⟩) ⟨fun a U g mk q => by obtain ⟨q0, q1, qK, qE⟩ := q; exact ⟨q0, q1, va_K.moved (u := U) (U := U.calling g mk a) (Vm.Alike.refl U.vm) qK, EVC.blind g mk a qE⟩, gH_rc hK hT hr_o0 shc_8 rfl, fun U hU hW => ⟨rfl, hU, va_K.moved hW.alike hK, hE.call hS hFc hU hW⟩⟩ rfl rfl hl.1 rfl (lv_room (Nat.le_of_ble_eq_true rfl)) dX5_tryOrders_183 ⟨(Nat.le_of_ble_eq_true rfl), (Nat.le_of_ble_eq_true rfl)⟩) hS (fun q _ h => hFc q h) hFc (fun u t H locs ht hvm hw207 hB _ _ hS => ?_)
                obtain ⟨hT, hF1⟩ := hB
                rw [ht] at hT hF1
                have m208 := (hF1.fld hr_o0 skc_8 (k := 15) (by decide) (by decide)).trans m187
                have m209 := (hF1.fld hr_o0 skc_8 (k := 9) (by decide) (by decide)).trans m188
                have hF := hF.more hF1 (by decide)
                try dsimp only at hw207
                refine lv_aload_n hx hb dX5_tryOrders_186 rfl (lv_at hl 3 rfl) ?_
                refine tw_getM (v := .ref b135) hx hb hts bF2_X5 hown hK hT hr_o0 shc_8 rfl 9 (by decide) (ht_at2 hts 2 rfl) (fun _ h9 => h9) m209 dX5_tryOrders_187 ?_
                refine lv_iload hx hb dX5_tryOrders_190 (lv_at hl 2 rfl) ?_
                refine lv_iconst (v := 0) hx hb dX5_tryOrders_192 (by decide) ?_
                refine tw_zast (i := (nI i8)) (x := 0) hx hb hK hT hG hS hg136 shc_67 rfl (vp_in_nI (by omega) (by decide)) (gi_z (rg_t (a := 0) (by decide) (by first | decide | omega) (by first | decide | omega)) (by decide) (by decide)) dX5_tryOrders_193 (fun H locs hT oq m218 oi hS => ?_)
                have hF := hF.ast hg136 skc_67 oq (by decide)
                have m219 := (el_kept (oq _ (gne hr_o0 hg136 (by decide)))).trans m208
                refine lv_iinc (v := nI (i8 + 1)) (lv' := [(7, .int (nI (i8 + 1))), (9, .long y177), (8, .int z157), (0, .ref o0), (1, .int 6), (2, .int yr), (3, .long co), (5, .int ic), (6, .int la)]) hx hb dX5_tryOrders_194 hl (k := 2) rfl (nI_add i8 1) (by decide) rfl (fun ls hl => ?_)
                refine lv_goto (tgt := 53) hx hb dX5_tryOrders_197 (by decide) ?_
                exact ih128 (i8 + 1) (by omega) (by omega) _ _ hT hF hS m219 ls (lv_sub hl [0, 3, 4, 5, 6, 7, 8] rfl)
          refine lv_if_eq (tgt := 76) hx hb dX5_tryOrders_69 (by decide) (fun c229 => ?_) (fun c229 => ?_)
          · have t230 : x138.toInt = 0 := ti_eq c229 rfl (by decide)
            refine lv_iload_n hx hb dX5_tryOrders_76 rfl (lv_at hl 3 rfl) ?_
            refine lv_lload_n hx hb dX5_tryOrders_77 rfl (lv_at hl 4 rfl) ?_
            refine lv_iload hx hb dX5_tryOrders_78 (lv_at hl 5 rfl) ?_
            refine lv_aload_n hx hb dX5_tryOrders_80 rfl (lv_at hl 1 rfl) ?_
            refine tw_get hx hb hts bF2_X5 hown hK hT hr_o0 shc_8 rfl 5 (by decide) (ht_at2 hts 3 rfl) (fun _ h9 => h9) dX5_tryOrders_81 (fun v9 m231 h9 => ?_)
            obtain ⟨b232, rfl, hg233⟩ := h9 _ rfl
            refine lv_iload hx hb dX5_tryOrders_84 (lv_at hl 0 rfl) ?_
            refine tw_iald (i := (nI i8)) hx hb hK hT hg233 shc_63 rfl (vp_in_nI (by omega) (by decide)) dX5_tryOrders_86 (fun v9 m234 h9 => ?_)
            obtain ⟨x235, rfl, gx235, kx235⟩ := h9
            have hFc := gA_free hG hA hS
            refine va_calli (va_runS (As := [.int yr, .long co, .int ic, .int x235]) (rest := []) ⟨hx, hb, hml, hown, hts⟩ (c_yearWithCost l dC dI kA adK adV G H nC nS yr co ic x235 hT (by omega) (by omega)) (va_cwS 4 hts (goodIn_app (goodIn_r _ [6, 7, 8] rfl (by decide +kernel)) (goodIn_ca (goodIn_r _ [5] rfl (by decide +kernel)) (bs2_in _ _))) rfl rfl rfl (by decide +kernel) ⟨(Nat.le_of_ble_eq_true rfl), (Nat.le_of_ble_eq_true rfl)⟩) ⟨fun a U g mk q => by obtain ⟨q0, q1, qK, qE⟩ := q; exact ⟨q0, q1, va_K.moved (u := U) (U := U.calling g mk a) (Vm.Alike.refl U.vm) qK, EVC.blind g mk a qE⟩, fun U hU hW => ⟨rfl, hU, va_K.moved hW.alike hK, hE.call hS hFc hU hW⟩⟩ rfl rfl hl.1 rfl (lv_room (Nat.le_of_ble_eq_true rfl)) dX5_tryOrders_87 ⟨(Nat.le_of_ble_eq_true rfl), (Nat.le_of_ble_eq_true rfl)⟩) hS (fun q _ h => hFc q h) hFc (fun r236 u t H locs ht hvm hw237 hB _ _ hS => ?_)
            obtain ⟨hT, hF1⟩ := hB
            rw [ht] at hT hF1
            have m238 := (hF1.fld hr_o0 skc_8 (k := 15) (by decide) (by decide)).trans m9
            have m239 := (hF1.fld hr_o0 skc_8 (k := 9) (by decide) (by decide)).trans m134
            have m240 := (el_kept (hF1.arr hg136 skc_67 (by decide))).trans m137
            have hF := hF.more hF1 (by decide)
            try dsimp only at hw237
            refine lv_aload_n hx hb dX5_tryOrders_90 rfl (lv_at hl 1 rfl) ?_
            refine tw_get hx hb hts bF2_X5 hown hK hT hr_o0 shc_8 rfl 6 (by decide) (ht_at2 hts 8 rfl) (fun _ h9 => h9) dX5_tryOrders_91 (fun v9 m243 h9 => ?_)
            obtain ⟨b244, rfl, hg245⟩ := h9 _ rfl
            refine lv_iload hx hb dX5_tryOrders_94 (lv_at hl 0 rfl) ?_
            refine tw_iald (i := (nI i8)) hx hb hK hT hg245 shc_64 rfl (vp_in_nI (by omega) (by decide)) dX5_tryOrders_96 (fun v9 m246 h9 => ?_)
            obtain ⟨x247, rfl, gx247, kx247⟩ := h9
            refine lv_iadd hx hb dX5_tryOrders_97 ?_
            refine lv_topi (fun x248 ex248 => ?_)
            exact jn161 x248 _ _ hT hF hS m238 m239 m240 ls (lv_sub hl [0, 1, 2, 3, 4, 5, 6] rfl)
          · have t249 : x138.toInt ≠ 0 := ti_ne c229 rfl (by decide)
            refine lv_iconst (v := (-1)) hx hb dX5_tryOrders_72 (by decide) ?_
            refine lv_goto (tgt := 98) hx hb dX5_tryOrders_73 (by decide) ?_
            exact jn161 (-1) _ _ hT hF hS m9 m134 m137 ls (lv_sub hl [0, 1, 2, 3, 4, 5, 6] rfl)
      exact key128 (7 - 0) 0 (by omega) (Nat.le_refl _) _ _ hT hF hS hm_jb ls (lv_sub hl [0, 1, 2, 3, 4, 5, 6] rfl)
    · have t250 : jb.toInt ≤ 6 := ti_nlt c6 (by decide) rfl
      refine lv_aload_n hx hb dX5_tryOrders_26 rfl (lv_at hl 0 rfl) ?_
      refine lv_iload hx hb dX5_tryOrders_27 (lv_at hl 5 rfl) ?_
      refine tw_put (v := .int la) (ty := .int) hx hb hts bF2_X5 tyX5 tyX5_ok nmX5 hown hK hT hG hS hr_o0 shc_8 rfl 16 (by decide) (ht_at2 hts 0 rfl) (fun _ h9 => h9) rfl (by decide +kernel) rfl rfl (gl_at rfl (gi_all _)) dX5_tryOrders_29 (fun H locs hT oq m251 oj hS => ?_)
      have hF := hF.put hr_o0 skc_8 oq oj (by decide)
      have m252 := (oj 15 (by decide) (by decide)).trans hm_jb
      refine lv_aload_n hx hb dX5_tryOrders_32 rfl (lv_at hl 0 rfl) ?_
      refine tw_get hx hb hts bF2_X5 hown hK hT hr_o0 shc_8 rfl 10 (by decide) (ht_at2 hts 9 rfl) (fun _ h9 => h9) dX5_tryOrders_33 (fun v9 m253 h9 => ?_)
      obtain ⟨b254, rfl, hg255⟩ := h9 _ rfl
      refine lv_iconst (v := 0) hx hb dX5_tryOrders_36 (by decide) ?_
      refine lv_aload_n hx hb dX5_tryOrders_37 rfl (lv_at hl 0 rfl) ?_
      refine tw_get hx hb hts bF2_X5 hown hK hT hr_o0 shc_8 rfl 11 (by decide) (ht_at2 hts 13 rfl) (fun _ h9 => h9) dX5_tryOrders_38 (fun v9 m256 h9 => ?_)
      obtain ⟨b257, rfl, hg258⟩ := h9 _ rfl
      refine lv_iconst (v := 0) hx hb dX5_tryOrders_41 (by decide) ?_
      refine lv_aload_n hx hb dX5_tryOrders_42 rfl (lv_at hl 0 rfl) ?_
      refine tw_getM (v := .int jb) hx hb hts bF2_X5 hown hK hT hr_o0 shc_8 rfl 15 (by decide) (ht_at2 hts 1 rfl) (fun _ h9 => h9) m252 dX5_tryOrders_43 ?_
      refine tw_copy (ty := .int) hx hb (hml.trans hl.1.symm) hown (ht_at2 hts 14 rfl) (ht_at2 hts 15 rfl) (ht_at2 hts 16 rfl) (ht_at2 hts 17 rfl) hK hT hG hS hg255 hg258 shc_68 shc_69 rfl rfl (by decide) (by decide) (fun h9 => by have q9 := ti_lt h9 rfl (show (0 : Int32).toInt = 0 from by decide); omega) (by have q9 := tn_of (show jb.toInt = jb.toInt from rfl) (by omega); have q8 : (0 : Int32).toNatClampNeg = 0 := (by decide); omega) (by have q9 := tn_of (show jb.toInt = jb.toInt from rfl) (by omega); have q8 : (0 : Int32).toNatClampNeg = 0 := (by decide); omega) (fun _ _ h9 => by obtain ⟨x9, e9, _⟩ := h9; exact ⟨x9, e9, rfl⟩) (fun _ _ _ h9 => by obtain ⟨x9, e9, a9, b9⟩ := h9; exact ⟨x9, e9, by omega, by omega⟩) (Nat.le_of_ble_eq_true rfl) (Nat.le_of_ble_eq_true rfl) dX5_tryOrders_46 (fun H locs hT oq hS => ?_)
      have hF := hF.ast hg258 skc_69 oq (by decide)
      exact W.vret hx hb hr (fun t ht hW => ⟨⟨(), rfl, (by exact trivial), by (try dsimp only); rw [ht]; exact ⟨hT, hF⟩⟩, hS.F ht⟩) hS.2.2 dX5_tryOrders_49
  · have t263 : x2.toInt ≠ (-1) := ti_ne c4 rfl (by decide)
    refine lv_iload hx hb dX5_tryOrders_8 (lv_at hl 5 rfl) ?_
    refine lv_aload_n hx hb dX5_tryOrders_10 rfl (lv_at hl 0 rfl) ?_
    refine tw_getM (v := .int x2) hx hb hts bF2_X5 hown hK hT hr_o0 shc_8 rfl 16 (by decide) (ht_at2 hts 0 rfl) (fun _ h9 => h9) m1 dX5_tryOrders_11 ?_
    have t264 : -2147483648 ≤ la.toInt ∧ la.toInt ≤ 2147483647 := ti_all la
    refine lv_icmp_lt (tgt := 18) hx hb dX5_tryOrders_14 (by decide) (fun c265 => ?_) (fun c265 => ?_)
    · have t266 : la.toInt < x2.toInt := ti_lt c265 rfl rfl
      refine lv_iload_n hx hb dX5_tryOrders_18 rfl (lv_at hl 1 rfl) ?_
      refine lv_aload_n hx hb dX5_tryOrders_19 rfl (lv_at hl 0 rfl) ?_
      refine tw_getM (v := .int jb) hx hb hts bF2_X5 hown hK hT hr_o0 shc_8 rfl 15 (by decide) (ht_at2 hts 1 rfl) (fun _ h9 => h9) hm_jb dX5_tryOrders_20 ?_
      refine lv_icmp_lt (tgt := 50) hx hb dX5_tryOrders_23 (by decide) (fun c267 => ?_) (fun c267 => ?_)
      · have t268 : 6 < jb.toInt := ti_lt c267 (by decide) rfl
        refine lv_iconst (v := 0) hx hb dX5_tryOrders_50 (by decide) ?_
        refine lv_istore (lv' := [(7, .int 0), (0, .ref o0), (1, .int 6), (2, .int yr), (3, .long co), (5, .int ic), (6, .int la)]) hx hb dX5_tryOrders_51 hl (by decide) rfl (fun ls hl => ?_)
        have key389 : ∀ (n389 i269 : Nat), i269 + n389 = 7 → 0 ≤ i269 → ∀ (H : Heap) (locs : List Loc), gH (dC, dI) kA (SHc nC nS) G H → gF (dC, dI) SKc G ([(8, 16), (67, 0), (68, 0), (69, 0)] : List (Nat × Nat)) s.heap H → va_S A s.heap H locs → el H o0 (dI 8 15) = some (.int jb) → ∀ ls : Array Slot, lv_has ls 11 [(7, .int (nI i269)), (0, .ref o0), (1, .int 6), (2, .int yr), (3, .long co), (5, .int ic), (6, .int la)] → W p l e (headSpec w_c_tryOrders6 ({ frames := 3, cells := 0, slots := 0, locals := 90 })).room s m #[.ref o0, .int 6, .int yr, .long co, .int ic, .int la] below meth c H locs 0 0 (MQ below (va_Qv (fun (u : Unit) => True) (fun (_ : Unit) (t : State) => gH (dC, dI) kA (SHc nC nS) G t.heap ∧ gF (dC, dI) SKc G ([(8, 16), (67, 0), (68, 0), (69, 0)] : List (Nat × Nat)) s.heap t.heap) A) #[.ref o0, .int 6, .int yr, .long co, .int ic, .int la] s 0 0 A) (F0 m 53 ls []) := by
          intro n389
          induction n389 with
          | zero =>
            intro i269 hn389 hlo390  H locs hT hF hS m270 ls hl
            obtain rfl : 7 = i269 := by omega
            refine lv_iload hx hb dX5_tryOrders_53 (lv_at hl 0 rfl) ?_
            refine lv_aload_n hx hb dX5_tryOrders_55 rfl (lv_at hl 1 rfl) ?_
            refine tw_getM (v := .int jb) hx hb hts bF2_X5 hown hK hT hr_o0 shc_8 rfl 15 (by decide) (ht_at2 hts 1 rfl) (fun _ h9 => h9) m270 dX5_tryOrders_56 ?_
            refine lv_icmp_ge (tgt := 200) hx hb dX5_tryOrders_59 (by decide) (fun c391 => ?_) (fun c391 => (by exfalso; have q9 : ((7 : Nat) : Int) < jb.toInt := ti_nle c391 rfl (nI_toInt (by omega)); omega))
            have t392 : jb.toInt ≤ ((7 : Nat) : Int) := ti_le c391 rfl (nI_toInt (by omega))
            exact W.vret hx hb hr (fun t ht hW => ⟨⟨(), rfl, (by exact trivial), by (try dsimp only); rw [ht]; exact ⟨hT, hF⟩⟩, hS.F ht⟩) hS.2.2 dX5_tryOrders_200
          | succ n389 ih389 =>
            intro i269 hn389 hlo390  H locs hT hF hS m270 ls hl
            have hlt392 : i269 < 7 := by omega
            refine lv_iload hx hb dX5_tryOrders_53 (lv_at hl 0 rfl) ?_
            refine lv_aload_n hx hb dX5_tryOrders_55 rfl (lv_at hl 1 rfl) ?_
            refine tw_getM (v := .int jb) hx hb hts bF2_X5 hown hK hT hr_o0 shc_8 rfl 15 (by decide) (ht_at2 hts 1 rfl) (fun _ h9 => h9) m270 dX5_tryOrders_56 ?_
            refine lv_icmp_ge (tgt := 200) hx hb dX5_tryOrders_59 (by decide) (fun c393 => (by exfalso; have q9 : jb.toInt ≤ ((i269 : Nat) : Int) := ti_le c393 rfl (nI_toInt (by omega)); omega)) (fun c393 => ?_)
            have t394 : ((i269 : Nat) : Int) < jb.toInt := ti_nle c393 rfl (nI_toInt (by omega))
            refine lv_aload_n hx hb dX5_tryOrders_62 rfl (lv_at hl 1 rfl) ?_
            refine tw_get hx hb hts bF2_X5 hown hK hT hr_o0 shc_8 rfl 9 (by decide) (ht_at2 hts 2 rfl) (fun _ h9 => h9) dX5_tryOrders_63 (fun v9 m395 h9 => ?_)
            obtain ⟨b396, rfl, hg397⟩ := h9 _ rfl
            refine lv_iload hx hb dX5_tryOrders_66 (lv_at hl 0 rfl) ?_
            refine tw_zald (i := (nI i269)) hx hb hK hT hg397 shc_67 rfl (vp_in_nI (by omega) (by decide)) dX5_tryOrders_68 (fun v9 m398 h9 => ?_)
            obtain ⟨x399, rfl, gx399, kx399⟩ := h9
            have jn422 : ∀ (z418 : Int32), ∀ (H : Heap) (locs : List Loc), gH (dC, dI) kA (SHc nC nS) G H → gF (dC, dI) SKc G ([(8, 16), (67, 0), (68, 0), (69, 0)] : List (Nat × Nat)) s.heap H → va_S A s.heap H locs → el H o0 (dI 8 15) = some (.int jb) → el H o0 (dI 8 9) = some (.ref b396) → el H b396 (nI i269).toNatClampNeg = some (.int x399) → ∀ ls : Array Slot, lv_has ls 11 [(7, .int (nI i269)), (0, .ref o0), (1, .int 6), (2, .int yr), (3, .long co), (5, .int ic), (6, .int la)] → W p l e (headSpec w_c_tryOrders6 ({ frames := 3, cells := 0, slots := 0, locals := 90 })).room s m #[.ref o0, .int 6, .int yr, .long co, .int ic, .int la] below meth c H locs 0 0 (MQ below (va_Qv (fun (u : Unit) => True) (fun (_ : Unit) (t : State) => gH (dC, dI) kA (SHc nC nS) G t.heap ∧ gF (dC, dI) SKc G ([(8, 16), (67, 0), (68, 0), (69, 0)] : List (Nat × Nat)) s.heap t.heap) A) #[.ref o0, .int 6, .int yr, .long co, .int ic, .int la] s 0 0 A) (F0 m 98 ls [.int z418]) := by
              intro z418 H locs hT hF hS m419 m420 m421 ls hl
              refine lv_istore (lv' := [(8, .int z418), (7, .int (nI i269)), (0, .ref o0), (1, .int 6), (2, .int yr), (3, .long co), (5, .int ic), (6, .int la)]) hx hb dX5_tryOrders_98 hl (by decide) rfl (fun ls hl => ?_)
              refine lv_iload hx hb dX5_tryOrders_100 (lv_at hl 0 rfl) ?_
              refine lv_iconst (v := (-1)) hx hb dX5_tryOrders_102 (by decide) ?_
              have t423 : -2147483648 ≤ z418.toInt ∧ z418.toInt ≤ 2147483647 := ti_all z418
              refine lv_icmp_eq (tgt := 194) hx hb dX5_tryOrders_103 (by decide) (fun c424 => ?_) (fun c424 => ?_)
              · have t425 : z418.toInt = (-1) := ti_eq c424 rfl (by decide)
                refine lv_iinc (v := nI (i269 + 1)) (lv' := [(7, .int (nI (i269 + 1))), (8, .int z418), (0, .ref o0), (1, .int 6), (2, .int yr), (3, .long co), (5, .int ic), (6, .int la)]) hx hb dX5_tryOrders_194 hl (k := 1) rfl (nI_add i269 1) (by decide) rfl (fun ls hl => ?_)
                refine lv_goto (tgt := 53) hx hb dX5_tryOrders_197 (by decide) ?_
                exact ih389 (i269 + 1) (by omega) (by omega) _ _ hT hF hS m419 ls (lv_sub hl [0, 2, 3, 4, 5, 6, 7] rfl)
              · have t426 : z418.toInt ≠ (-1) := ti_ne c424 rfl (by decide)
                refine lv_iload hx hb dX5_tryOrders_106 (lv_at hl 0 rfl) ?_
                refine lv_sipush (v := 200) hx hb dX5_tryOrders_108 (by decide) ?_
                refine lv_icmp_gt (tgt := 194) hx hb dX5_tryOrders_111 (by decide) (fun c427 => ?_) (fun c427 => ?_)
                · have t428 : 200 < z418.toInt := ti_lt c427 (by decide) rfl
                  refine lv_iinc (v := nI (i269 + 1)) (lv' := [(7, .int (nI (i269 + 1))), (8, .int z418), (0, .ref o0), (1, .int 6), (2, .int yr), (3, .long co), (5, .int ic), (6, .int la)]) hx hb dX5_tryOrders_194 hl (k := 1) rfl (nI_add i269 1) (by decide) rfl (fun ls hl => ?_)
                  refine lv_goto (tgt := 53) hx hb dX5_tryOrders_197 (by decide) ?_
                  exact ih389 (i269 + 1) (by omega) (by omega) _ _ hT hF hS m419 ls (lv_sub hl [0, 2, 3, 4, 5, 6, 7] rfl)
                · have t429 : z418.toInt ≤ 200 := ti_nlt c427 (by decide) rfl
                  refine lv_lload_n hx hb dX5_tryOrders_114 rfl (lv_at hl 5 rfl) ?_
                  refine lv_iload hx hb dX5_tryOrders_115 (lv_at hl 6 rfl) ?_
                  refine lv_i2l (v := ic.toInt64) hx hb dX5_tryOrders_117 rfl ?_
                  refine lv_iload hx hb dX5_tryOrders_118 (lv_at hl 0 rfl) ?_
                  refine lv_iload_n hx hb dX5_tryOrders_120 rfl (lv_at hl 4 rfl) ?_
                  refine lv_isub hx hb dX5_tryOrders_121 ?_
                  refine lv_topi (fun x430 ex430 => ?_)
                  refine lv_i2l (v := x430.toInt64) hx hb dX5_tryOrders_122 rfl ?_
                  refine lv_lmul hx hb dX5_tryOrders_123 ?_
                  refine lv_topl (fun y431 _ => ?_)
                  refine lv_ladd hx hb dX5_tryOrders_124 ?_
                  refine lv_topl (fun y432 _ => ?_)
                  refine lv_aload_n hx hb dX5_tryOrders_125 rfl (lv_at hl 2 rfl) ?_
                  refine tw_get hx hb hts bF2_X5 hown hK hT hr_o0 shc_8 rfl 5 (by decide) (ht_at2 hts 3 rfl) (fun _ h9 => h9) dX5_tryOrders_126 (fun v9 m433 h9 => ?_)
                  obtain ⟨b434, rfl, hg435⟩ := h9 _ rfl
                  refine lv_iload hx hb dX5_tryOrders_129 (lv_at hl 1 rfl) ?_
                  refine tw_iald (i := (nI i269)) hx hb hK hT hg435 shc_63 rfl (vp_in_nI (by omega) (by decide)) dX5_tryOrders_131 (fun v9 m436 h9 => ?_)
                  obtain ⟨x437, rfl, gx437, kx437⟩ := h9
                  refine lv_i2l (v := x437.toInt64) hx hb dX5_tryOrders_132 rfl ?_
                  refine lv_lsub hx hb dX5_tryOrders_133 ?_
                  refine lv_topl (fun y438 _ => ?_)
                  refine lv_lstore (lv' := [(9, .long y438), (8, .int z418), (7, .int (nI i269)), (0, .ref o0), (1, .int 6), (2, .int yr), (3, .long co), (5, .int ic), (6, .int la)]) hx hb dX5_tryOrders_134 hl (by decide) rfl (fun ls hl => ?_)
                  refine lv_aload_n hx hb dX5_tryOrders_136 rfl (lv_at hl 3 rfl) ?_
                  refine tw_getM (v := .ref b396) hx hb hts bF2_X5 hown hK hT hr_o0 shc_8 rfl 9 (by decide) (ht_at2 hts 2 rfl) (fun _ h9 => h9) m420 dX5_tryOrders_137 ?_
                  refine lv_iload hx hb dX5_tryOrders_140 (lv_at hl 2 rfl) ?_
                  refine lv_iconst (v := 1) hx hb dX5_tryOrders_142 (by decide) ?_
                  refine tw_zast (i := (nI i269)) (x := 1) hx hb hK hT hG hS hg397 shc_67 rfl (vp_in_nI (by omega) (by decide)) (gi_z (rg_t (a := 1) (by decide) (by first | decide | omega) (by first | decide | omega)) (by decide) (by decide)) dX5_tryOrders_143 (fun H locs hT oq m439 oi hS => ?_)
                  have hF := hF.ast hg397 skc_67 oq (by decide)
                  have m440 := (el_kept (oq _ (gne hr_o0 hg397 (by decide)))).trans m419
                  have m441 := (el_kept (oq _ (gne hr_o0 hg397 (by decide)))).trans m420
                  refine lv_aload_n hx hb dX5_tryOrders_144 rfl (lv_at hl 3 rfl) ?_
                  refine tw_get hx hb hts bF2_X5 hown hK hT hr_o0 shc_8 rfl 10 (by decide) (ht_at2 hts 9 rfl) (fun _ h9 => h9) dX5_tryOrders_145 (fun v9 m444 h9 => ?_)
                  obtain ⟨b445, rfl, hg446⟩ := h9 _ rfl
                  refine lv_iload_n hx hb dX5_tryOrders_148 rfl (lv_at hl 4 rfl) ?_
                  refine lv_iload hx hb dX5_tryOrders_149 (lv_at hl 2 rfl) ?_
                  refine tw_iast (i := 6) (x := (nI i269)) hx hb hK hT hG hS hg446 shc_68 rfl (by unfold vp_in; decide) (gi_of (show (nI i269).toInt = ((i269 : Nat) : Int) from (nI_toInt (by omega))) (by omega) (by omega)) dX5_tryOrders_151 (fun H locs hT oq m447 oi hS => ?_)
                  have hF := hF.ast hg446 skc_68 oq (by decide)
                  have m448 := (el_kept (oq _ (gne hr_o0 hg446 (by decide)))).trans m440
                  have m449 := (el_kept (oq _ (gne hr_o0 hg446 (by decide)))).trans m441
                  refine lv_aload_n hx hb dX5_tryOrders_152 rfl (lv_at hl 3 rfl) ?_
                  refine lv_iload_n hx hb dX5_tryOrders_153 rfl (lv_at hl 4 rfl) ?_
                  refine lv_iconst (v := 1) hx hb dX5_tryOrders_154 (by decide) ?_
                  refine lv_iadd hx hb dX5_tryOrders_155 ?_
                  refine lv_topi (fun x453 ex453 => ?_)
                  obtain rfl : x453 = 7 := ex453.trans (by decide)
                  refine lv_iload hx hb dX5_tryOrders_156 (lv_at hl 1 rfl) ?_
                  refine lv_lload hx hb dX5_tryOrders_158 (lv_at hl 0 rfl) ?_
                  refine lv_iload hx hb dX5_tryOrders_160 (lv_at hl 7 rfl) ?_
                  refine lv_aload_n hx hb dX5_tryOrders_162 rfl (lv_at hl 3 rfl) ?_
                  refine tw_get hx hb hts bF2_X5 hown hK hT hr_o0 shc_8 rfl 7 (by decide) (ht_at2 hts 10 rfl) (fun _ h9 => h9) dX5_tryOrders_163 (fun v9 m454 h9 => ?_)
                  obtain ⟨b455, rfl, hg456⟩ := h9 _ rfl
                  refine lv_iload hx hb dX5_tryOrders_166 (lv_at hl 2 rfl) ?_
                  refine tw_iald (i := (nI i269)) hx hb hK hT hg456 shc_65 rfl (vp_in_nI (by omega) (by decide)) dX5_tryOrders_168 (fun v9 m457 h9 => ?_)
                  obtain ⟨x458, rfl, gx458, kx458⟩ := h9
                  refine lv_iadd hx hb dX5_tryOrders_169 ?_
                  refine lv_topi (fun x459 ex459 => ?_)
                  refine lv_iload hx hb dX5_tryOrders_170 (lv_at hl 8 rfl) ?_
                  refine lv_aload_n hx hb dX5_tryOrders_172 rfl (lv_at hl 3 rfl) ?_
                  refine tw_get hx hb hts bF2_X5 hown hK hT hr_o0 shc_8 rfl 8 (by decide) (ht_at2 hts 11 rfl) (fun _ h9 => h9) dX5_tryOrders_173 (fun v9 m460 h9 => ?_)
                  obtain ⟨b461, rfl, hg462⟩ := h9 _ rfl
                  refine lv_iload hx hb dX5_tryOrders_176 (lv_at hl 2 rfl) ?_
                  refine tw_iald (i := (nI i269)) hx hb hK hT hg462 shc_66 rfl (vp_in_nI (by omega) (by decide)) dX5_tryOrders_178 (fun v9 m463 h9 => ?_)
                  obtain ⟨x464, rfl, gx464, kx464⟩ := h9
                  refine lv_iload hx hb dX5_tryOrders_179 (lv_at hl 1 rfl) ?_
                  refine lv_imul hx hb dX5_tryOrders_181 ?_
                  refine lv_topi (fun x465 ex465 => ?_)
                  refine lv_iadd hx hb dX5_tryOrders_182 ?_
                  refine lv_topi (fun x466 ex466 => ?_)
                  have hFc := gA_free hG hA hS
                  refine va_callv (va_runV (As := [.int 7, .int z418, .long y438, .int x459, .int x466]) (rest := []) ⟨hx, hb, hml, hown, hts⟩ (c_tryOrders7 l dC dI kA adK adV G H nC nS o0 z418 y438 x459 x466 jb hT hr_o0 m448 (by have q8 := ti_all jb; omega) (by omega) (by omega)) (cwV 5 hts (goodIn_app (goodIn_r _ [19, 20, 21, 8] rfl (by decide +kernel)) (goodIn_ca (goodIn_r _ [13, 1, 2, 10, 14, 15, 16, 17, 18] rfl (by decide +kernel)) (bs2_in _ _))) rfl rfl rfl (by decide +kernel) ⟨(Nat.le_of_ble_eq_true rfl), (Nat.le_of_ble_eq_true rfl)⟩) ⟨fun a U g mk q => by obtain ⟨q0, q1, qK, qE⟩ := q; exact ⟨q0, q1, va_K.moved (u := U) (U := U.calling g mk a) (Vm.Alike.refl U.vm) qK, EVC.blind g mk a qE⟩, gH_rc hK hT hr_o0 shc_8 rfl, fun U hU hW => ⟨rfl, hU, va_K.moved hW.alike hK, hE.call hS hFc hU hW⟩⟩ rfl rfl hl.1 rfl (lv_room (Nat.le_of_ble_eq_true rfl)) dX5_tryOrders_183 ⟨(Nat.le_of_ble_eq_true rfl), (Nat.le_of_ble_eq_true rfl)⟩) hS (fun q _ h => hFc q h) hFc (fun u t H locs ht hvm hw468 hB _ _ hS => ?_)
                  obtain ⟨hT, hF1⟩ := hB
                  rw [ht] at hT hF1
                  have m469 := (hF1.fld hr_o0 skc_8 (k := 15) (by decide) (by decide)).trans m448
                  have m470 := (hF1.fld hr_o0 skc_8 (k := 9) (by decide) (by decide)).trans m449
                  have hF := hF.more hF1 (by decide)
                  try dsimp only at hw468
                  refine lv_aload_n hx hb dX5_tryOrders_186 rfl (lv_at hl 3 rfl) ?_
                  refine tw_getM (v := .ref b396) hx hb hts bF2_X5 hown hK hT hr_o0 shc_8 rfl 9 (by decide) (ht_at2 hts 2 rfl) (fun _ h9 => h9) m470 dX5_tryOrders_187 ?_
                  refine lv_iload hx hb dX5_tryOrders_190 (lv_at hl 2 rfl) ?_
                  refine lv_iconst (v := 0) hx hb dX5_tryOrders_192 (by decide) ?_
                  refine tw_zast (i := (nI i269)) (x := 0) hx hb hK hT hG hS hg397 shc_67 rfl (vp_in_nI (by omega) (by decide)) (gi_z (rg_t (a := 0) (by decide) (by first | decide | omega) (by first | decide | omega)) (by decide) (by decide)) dX5_tryOrders_193 (fun H locs hT oq m479 oi hS => ?_)
                  have hF := hF.ast hg397 skc_67 oq (by decide)
                  have m480 := (el_kept (oq _ (gne hr_o0 hg397 (by decide)))).trans m469
                  refine lv_iinc (v := nI (i269 + 1)) (lv' := [(7, .int (nI (i269 + 1))), (9, .long y438), (8, .int z418), (0, .ref o0), (1, .int 6), (2, .int yr), (3, .long co), (5, .int ic), (6, .int la)]) hx hb dX5_tryOrders_194 hl (k := 2) rfl (nI_add i269 1) (by decide) rfl (fun ls hl => ?_)
                  refine lv_goto (tgt := 53) hx hb dX5_tryOrders_197 (by decide) ?_
                  exact ih389 (i269 + 1) (by omega) (by omega) _ _ hT hF hS m480 ls (lv_sub hl [0, 3, 4, 5, 6, 7, 8] rfl)
            refine lv_if_eq (tgt := 76) hx hb dX5_tryOrders_69 (by decide) (fun c490 => ?_) (fun c490 => ?_)
            · have t491 : x399.toInt = 0 := ti_eq c490 rfl (by decide)
              refine lv_iload_n hx hb dX5_tryOrders_76 rfl (lv_at hl 3 rfl) ?_
              refine lv_lload_n hx hb dX5_tryOrders_77 rfl (lv_at hl 4 rfl) ?_
              refine lv_iload hx hb dX5_tryOrders_78 (lv_at hl 5 rfl) ?_
              refine lv_aload_n hx hb dX5_tryOrders_80 rfl (lv_at hl 1 rfl) ?_
              refine tw_get hx hb hts bF2_X5 hown hK hT hr_o0 shc_8 rfl 5 (by decide) (ht_at2 hts 3 rfl) (fun _ h9 => h9) dX5_tryOrders_81 (fun v9 m492 h9 => ?_)
              obtain ⟨b493, rfl, hg494⟩ := h9 _ rfl
              refine lv_iload hx hb dX5_tryOrders_84 (lv_at hl 0 rfl) ?_
              refine tw_iald (i := (nI i269)) hx hb hK hT hg494 shc_63 rfl (vp_in_nI (by omega) (by decide)) dX5_tryOrders_86 (fun v9 m495 h9 => ?_)
              obtain ⟨x496, rfl, gx496, kx496⟩ := h9
              have hFc := gA_free hG hA hS
              refine va_calli (va_runS (As := [.int yr, .long co, .int ic, .int x496]) (rest := []) ⟨hx, hb, hml, hown, hts⟩ (c_yearWithCost l dC dI kA adK adV G H nC nS yr co ic x496 hT (by omega) (by omega)) (va_cwS 4 hts (goodIn_app (goodIn_r _ [6, 7, 8] rfl (by decide +kernel)) (goodIn_ca (goodIn_r _ [5] rfl (by decide +kernel)) (bs2_in _ _))) rfl rfl rfl (by decide +kernel) ⟨(Nat.le_of_ble_eq_true rfl), (Nat.le_of_ble_eq_true rfl)⟩) ⟨fun a U g mk q => by obtain ⟨q0, q1, qK, qE⟩ := q; exact ⟨q0, q1, va_K.moved (u := U) (U := U.calling g mk a) (Vm.Alike.refl U.vm) qK, EVC.blind g mk a qE⟩, fun U hU hW => ⟨rfl, hU, va_K.moved hW.alike hK, hE.call hS hFc hU hW⟩⟩ rfl rfl hl.1 rfl (lv_room (Nat.le_of_ble_eq_true rfl)) dX5_tryOrders_87 ⟨(Nat.le_of_ble_eq_true rfl), (Nat.le_of_ble_eq_true rfl)⟩) hS (fun q _ h => hFc q h) hFc (fun r497 u t H locs ht hvm hw498 hB _ _ hS => ?_)
              obtain ⟨hT, hF1⟩ := hB
              rw [ht] at hT hF1
              have m499 := (hF1.fld hr_o0 skc_8 (k := 15) (by decide) (by decide)).trans m270
              have m500 := (hF1.fld hr_o0 skc_8 (k := 9) (by decide) (by decide)).trans m395
              have m501 := (el_kept (hF1.arr hg397 skc_67 (by decide))).trans m398
              have hF := hF.more hF1 (by decide)
              try dsimp only at hw498
              refine lv_aload_n hx hb dX5_tryOrders_90 rfl (lv_at hl 1 rfl) ?_
              refine tw_get hx hb hts bF2_X5 hown hK hT hr_o0 shc_8 rfl 6 (by decide) (ht_at2 hts 8 rfl) (fun _ h9 => h9) dX5_tryOrders_91 (fun v9 m504 h9 => ?_)
              obtain ⟨b505, rfl, hg506⟩ := h9 _ rfl
              refine lv_iload hx hb dX5_tryOrders_94 (lv_at hl 0 rfl) ?_
              refine tw_iald (i := (nI i269)) hx hb hK hT hg506 shc_64 rfl (vp_in_nI (by omega) (by decide)) dX5_tryOrders_96 (fun v9 m507 h9 => ?_)
              obtain ⟨x508, rfl, gx508, kx508⟩ := h9
              refine lv_iadd hx hb dX5_tryOrders_97 ?_
              refine lv_topi (fun x509 ex509 => ?_)
              exact jn422 x509 _ _ hT hF hS m499 m500 m501 ls (lv_sub hl [0, 1, 2, 3, 4, 5, 6] rfl)
            · have t510 : x399.toInt ≠ 0 := ti_ne c490 rfl (by decide)
              refine lv_iconst (v := (-1)) hx hb dX5_tryOrders_72 (by decide) ?_
              refine lv_goto (tgt := 98) hx hb dX5_tryOrders_73 (by decide) ?_
              exact jn422 (-1) _ _ hT hF hS m270 m395 m398 ls (lv_sub hl [0, 1, 2, 3, 4, 5, 6] rfl)
        exact key389 (7 - 0) 0 (by omega) (Nat.le_refl _) _ _ hT hF hS hm_jb ls (lv_sub hl [0, 1, 2, 3, 4, 5, 6] rfl)
      · have t511 : jb.toInt ≤ 6 := ti_nlt c267 (by decide) rfl
        refine lv_aload_n hx hb dX5_tryOrders_26 rfl (lv_at hl 0 rfl) ?_
        refine lv_iload hx hb dX5_tryOrders_27 (lv_at hl 5 rfl) ?_
        refine tw_put (v := .int la) (ty := .int) hx hb hts bF2_X5 tyX5 tyX5_ok nmX5 hown hK hT hG hS hr_o0 shc_8 rfl 16 (by decide) (ht_at2 hts 0 rfl) (fun _ h9 => h9) rfl (by decide +kernel) rfl rfl (gl_at rfl (gi_all _)) dX5_tryOrders_29 (fun H locs hT oq m512 oj hS => ?_)
        have hF := hF.put hr_o0 skc_8 oq oj (by decide)
        have m513 := (oj 15 (by decide) (by decide)).trans hm_jb
        refine lv_aload_n hx hb dX5_tryOrders_32 rfl (lv_at hl 0 rfl) ?_
        refine tw_get hx hb hts bF2_X5 hown hK hT hr_o0 shc_8 rfl 10 (by decide) (ht_at2 hts 9 rfl) (fun _ h9 => h9) dX5_tryOrders_33 (fun v9 m514 h9 => ?_)
        obtain ⟨b515, rfl, hg516⟩ := h9 _ rfl
        refine lv_iconst (v := 0) hx hb dX5_tryOrders_36 (by decide) ?_
        refine lv_aload_n hx hb dX5_tryOrders_37 rfl (lv_at hl 0 rfl) ?_
        refine tw_get hx hb hts bF2_X5 hown hK hT hr_o0 shc_8 rfl 11 (by decide) (ht_at2 hts 13 rfl) (fun _ h9 => h9) dX5_tryOrders_38 (fun v9 m517 h9 => ?_)
        obtain ⟨b518, rfl, hg519⟩ := h9 _ rfl
        refine lv_iconst (v := 0) hx hb dX5_tryOrders_41 (by decide) ?_
        refine lv_aload_n hx hb dX5_tryOrders_42 rfl (lv_at hl 0 rfl) ?_
        refine tw_getM (v := .int jb) hx hb hts bF2_X5 hown hK hT hr_o0 shc_8 rfl 15 (by decide) (ht_at2 hts 1 rfl) (fun _ h9 => h9) m513 dX5_tryOrders_43 ?_
        refine tw_copy (ty := .int) hx hb (hml.trans hl.1.symm) hown (ht_at2 hts 14 rfl) (ht_at2 hts 15 rfl) (ht_at2 hts 16 rfl) (ht_at2 hts 17 rfl) hK hT hG hS hg516 hg519 shc_68 shc_69 rfl rfl (by decide) (by decide) (fun h9 => by have q9 := ti_lt h9 rfl (show (0 : Int32).toInt = 0 from by decide); omega) (by have q9 := tn_of (show jb.toInt = jb.toInt from rfl) (by omega); have q8 : (0 : Int32).toNatClampNeg = 0 := (by decide); omega) (by have q9 := tn_of (show jb.toInt = jb.toInt from rfl) (by omega); have q8 : (0 : Int32).toNatClampNeg = 0 := (by decide); omega) (fun _ _ h9 => by obtain ⟨x9, e9, _⟩ := h9; exact ⟨x9, e9, rfl⟩) (fun _ _ _ h9 => by obtain ⟨x9, e9, a9, b9⟩ := h9; exact ⟨x9, e9, by omega, by omega⟩) (Nat.le_of_ble_eq_true rfl) (Nat.le_of_ble_eq_true rfl) dX5_tryOrders_46 (fun H locs hT oq hS => ?_)
        have hF := hF.ast hg519 skc_69 oq (by decide)
        exact W.vret hx hb hr (fun t ht hW => ⟨⟨(), rfl, (by exact trivial), by (try dsimp only); rw [ht]; exact ⟨hT, hF⟩⟩, hS.F ht⟩) hS.2.2 dX5_tryOrders_49
    · have t524 : x2.toInt ≤ la.toInt := ti_nlt c265 rfl rfl
      exact W.vret hx hb hr (fun t ht hW => ⟨⟨(), rfl, (by exact trivial), by (try dsimp only); rw [ht]; exact ⟨hT, hF⟩⟩, hS.F ht⟩) hS.2.2 dX5_tryOrders_17
def w_c_tryOrders5 : List Cond := .code yX5_tryOrders cX5_tryOrders 11 none :: (HAppend.hAppend (α := List Cond) (β := List Cond) (γ := List Cond) [.fieldLink RX5 157 "SeaLand$Plans" "bestLate" "I", .fieldLink RX5 154 "SeaLand$Plans" "jobs" "I", .fieldLink RX5 41 "SeaLand$Plans" "placed" "[Z", .fieldLink RX5 29 "SeaLand$Plans" "costs" "[I", .code yX5_yearWithCost cX5_yearWithCost 5 (some .int), .methodLink RX5 164 yX5_yearWithCost, .static yX5_yearWithCost, .initialized RX5, .fieldLink RX5 32 "SeaLand$Plans" "lasts" "[I", .fieldLink RX5 45 "SeaLand$Plans" "trial" "[I", .fieldLink RX5 35 "SeaLand$Plans" "incomes" "[I", .fieldLink RX5 38 "SeaLand$Plans" "acres" "[I", .code yX5_tryOrders cX5_tryOrders 11 none, .fieldLink RX5 48 "SeaLand$Plans" "best" "[I", .methodLink RX5 100 arraycopyName, .native arraycopyName, .static arraycopyName, .initialized "java/lang/System", .methodLink RX5 160 yX5_tryOrders, .instanceMethod yX5_tryOrders, .selects RX5 yX5_tryOrders yX5_tryOrders] bs2)
set_option maxHeartbeats 4000000 in
set_option maxRecDepth 100000 in
theorem c_tryOrders5 (l : Launch) (dC : Nat → ClassId) (dI : Nat → Nat → Nat) (kA : Nat → ClassId) (adK adV : Nat → Nat) (G : gT) (H0 : Heap) (nC nS : Int) (o0 : Nat) (yr : Int32) (co : Int64) (ic : Int32) (la : Int32) (jb : Int32)  (hT : gH (dC, dI) kA (SHc nC nS) G H0) (hr_o0 : G o0 = some 8) (hm_jb : el H0 o0 (dI 8 15) = some (.int jb)) (hq0 : 0 ≤ jb.toInt ∧ jb.toInt ≤ 7) (hgC : 0 ≤ nC ∧ nC ≤ 40) (hgS : 0 ≤ nS ∧ nS ≤ 60) : Met l yX5_tryOrders w_c_tryOrders5 ({ frames := 4, cells := 0, slots := 0, locals := 120 }) (va_Pc [.ref o0, .int 5, .int yr, .long co, .int ic, .int la] (fun U => U.heap = H0 ∧ va_K (dC, dI) vwCl (tyl kA) U ∧ EVC adK adV (gA G H0.size) U U.heap)) (va_Qv (fun (u : Unit) => True) (fun (_ : Unit) (t : State) => gH (dC, dI) kA (SHc nC nS) G t.heap ∧ gF (dC, dI) SKc G ([(8, 16), (67, 0), (68, 0), (69, 0)] : List (Nat × Nat)) H0 t.heap) (gA G H0.size)) 0 0 (gA G H0.size) := by
  refine Met.ofW (cc := cX5_tryOrders) (maxL := 11) (ret := none) (by decide) rfl ?_
  intro p e s m args below meth c s₁ B hml hv
  obtain ⟨rfl, hH0, hK, hE⟩ := hv
  have hx := B.exec
  have hb := B.bytes
  have hr := B.returns
  have hts := atoms_spec (ws := w_c_tryOrders5) B.pre
  have hown : s.vm.findClass RX5 = some m.cls := findClass_of_methodNamed B.named
  have hlocks := B.notSynchronized
  subst hH0
  generalize hAe : gA G s.heap.size = A at hE ⊢
  have hA : ∀ q : Nat, s.heap.size ≤ q → A q := fun q h => by rw [← hAe]; exact Or.inr h
  have hG := gA_of hAe
  have hS : va_S A s.heap s.heap [] := va_S.rf
  have hF : gF (dC, dI) SKc G ([(8, 16), (67, 0), (68, 0), (69, 0)] : List (Nat × Nat)) s.heap s.heap := gF.rf
  have hl := lv_entry ([.ref o0, .int 5, .int yr, .long co, .int ic, .int la]) (n := 11) (Nat.le_of_ble_eq_true rfl)
  rw [lg_entry_eq]
  generalize (lg_sl ([.ref o0, .int 5, .int yr, .long co, .int ic, .int la]) ++ List.replicate (11 - (lg_sl ([.ref o0, .int 5, .int yr, .long co, .int ic, .int la])).length) Slot.unset).toArray = ls at hl ⊢
  have hl : lv_has ls 11 [(0, .ref o0), (1, .int 5), (2, .int yr), (3, .long co), (5, .int ic), (6, .int la)] := hl
  refine lv_aload_n hx hb dX5_tryOrders_0 rfl (lv_at hl 0 rfl) ?_
  refine tw_get hx hb hts bF2_X5 hown hK hT hr_o0 shc_8 rfl 16 (by decide) (ht_at2 hts 0 rfl) (fun _ h9 => h9) dX5_tryOrders_1 (fun v9 m1 h9 => ?_)
  obtain ⟨x2, rfl, gx2, kx2⟩ := h9 _ rfl
  refine lv_iconst (v := (-1)) hx hb dX5_tryOrders_4 (by decide) ?_
  have t3 : -2147483648 ≤ x2.toInt ∧ x2.toInt ≤ 2147483647 := ti_all x2
  refine lv_icmp_eq (tgt := 18) hx hb dX5_tryOrders_5 (by decide) (fun c4 => ?_) (fun c4 => ?_)
  · have t5 : x2.toInt = (-1) := ti_eq c4 rfl (by decide)
    refine lv_iload_n hx hb dX5_tryOrders_18 rfl (lv_at hl 1 rfl) ?_
    refine lv_aload_n hx hb dX5_tryOrders_19 rfl (lv_at hl 0 rfl) ?_
    refine tw_getM (v := .int jb) hx hb hts bF2_X5 hown hK hT hr_o0 shc_8 rfl 15 (by decide) (ht_at2 hts 1 rfl) (fun _ h9 => h9) hm_jb dX5_tryOrders_20 ?_
    refine lv_icmp_lt (tgt := 50) hx hb dX5_tryOrders_23 (by decide) (fun c6 => ?_) (fun c6 => ?_)
    · have t7 : 5 < jb.toInt := ti_lt c6 (by decide) rfl
      refine lv_iconst (v := 0) hx hb dX5_tryOrders_50 (by decide) ?_
      refine lv_istore (lv' := [(7, .int 0), (0, .ref o0), (1, .int 5), (2, .int yr), (3, .long co), (5, .int ic), (6, .int la)]) hx hb dX5_tryOrders_51 hl (by decide) rfl (fun ls hl => ?_)
      have key128 : ∀ (n128 i8 : Nat), i8 + n128 = 7 → 0 ≤ i8 → ∀ (H : Heap) (locs : List Loc), gH (dC, dI) kA (SHc nC nS) G H → gF (dC, dI) SKc G ([(8, 16), (67, 0), (68, 0), (69, 0)] : List (Nat × Nat)) s.heap H → va_S A s.heap H locs → el H o0 (dI 8 15) = some (.int jb) → ∀ ls : Array Slot, lv_has ls 11 [(7, .int (nI i8)), (0, .ref o0), (1, .int 5), (2, .int yr), (3, .long co), (5, .int ic), (6, .int la)] → W p l e (headSpec w_c_tryOrders5 ({ frames := 4, cells := 0, slots := 0, locals := 120 })).room s m #[.ref o0, .int 5, .int yr, .long co, .int ic, .int la] below meth c H locs 0 0 (MQ below (va_Qv (fun (u : Unit) => True) (fun (_ : Unit) (t : State) => gH (dC, dI) kA (SHc nC nS) G t.heap ∧ gF (dC, dI) SKc G ([(8, 16), (67, 0), (68, 0), (69, 0)] : List (Nat × Nat)) s.heap t.heap) A) #[.ref o0, .int 5, .int yr, .long co, .int ic, .int la] s 0 0 A) (F0 m 53 ls []) := by
        intro n128
        induction n128 with
        | zero =>
          intro i8 hn128 hlo129  H locs hT hF hS m9 ls hl
          obtain rfl : 7 = i8 := by omega
          refine lv_iload hx hb dX5_tryOrders_53 (lv_at hl 0 rfl) ?_
          refine lv_aload_n hx hb dX5_tryOrders_55 rfl (lv_at hl 1 rfl) ?_
          refine tw_getM (v := .int jb) hx hb hts bF2_X5 hown hK hT hr_o0 shc_8 rfl 15 (by decide) (ht_at2 hts 1 rfl) (fun _ h9 => h9) m9 dX5_tryOrders_56 ?_
          refine lv_icmp_ge (tgt := 200) hx hb dX5_tryOrders_59 (by decide) (fun c130 => ?_) (fun c130 => (by exfalso; have q9 : ((7 : Nat) : Int) < jb.toInt := ti_nle c130 rfl (nI_toInt (by omega)); omega))
          have t131 : jb.toInt ≤ ((7 : Nat) : Int) := ti_le c130 rfl (nI_toInt (by omega))
          exact W.vret hx hb hr (fun t ht hW => ⟨⟨(), rfl, (by exact trivial), by (try dsimp only); rw [ht]; exact ⟨hT, hF⟩⟩, hS.F ht⟩) hS.2.2 dX5_tryOrders_200
        | succ n128 ih128 =>
          intro i8 hn128 hlo129  H locs hT hF hS m9 ls hl
          have hlt131 : i8 < 7 := by omega
          refine lv_iload hx hb dX5_tryOrders_53 (lv_at hl 0 rfl) ?_
          refine lv_aload_n hx hb dX5_tryOrders_55 rfl (lv_at hl 1 rfl) ?_
          refine tw_getM (v := .int jb) hx hb hts bF2_X5 hown hK hT hr_o0 shc_8 rfl 15 (by decide) (ht_at2 hts 1 rfl) (fun _ h9 => h9) m9 dX5_tryOrders_56 ?_
          refine lv_icmp_ge (tgt := 200) hx hb dX5_tryOrders_59 (by decide) (fun c132 => ?_) (fun c132 => ?_)
          · have t133 : jb.toInt ≤ ((i8 : Nat) : Int) := ti_le c132 rfl (nI_toInt (by omega))
            exact W.vret hx hb hr (fun t ht hW => ⟨⟨(), rfl, (by exact trivial), by (try dsimp only); rw [ht]; exact ⟨hT, hF⟩⟩, hS.F ht⟩) hS.2.2 dX5_tryOrders_200
          · have t134 : ((i8 : Nat) : Int) < jb.toInt := ti_nle c132 rfl (nI_toInt (by omega))
            refine lv_aload_n hx hb dX5_tryOrders_62 rfl (lv_at hl 1 rfl) ?_
            refine tw_get hx hb hts bF2_X5 hown hK hT hr_o0 shc_8 rfl 9 (by decide) (ht_at2 hts 2 rfl) (fun _ h9 => h9) dX5_tryOrders_63 (fun v9 m135 h9 => ?_)
            obtain ⟨b136, rfl, hg137⟩ := h9 _ rfl
            refine lv_iload hx hb dX5_tryOrders_66 (lv_at hl 0 rfl) ?_
            refine tw_zald (i := (nI i8)) hx hb hK hT hg137 shc_67 rfl (vp_in_nI (by omega) (by decide)) dX5_tryOrders_68 (fun v9 m138 h9 => ?_)
            obtain ⟨x139, rfl, gx139, kx139⟩ := h9
            have jn162 : ∀ (z158 : Int32), ∀ (H : Heap) (locs : List Loc), gH (dC, dI) kA (SHc nC nS) G H → gF (dC, dI) SKc G ([(8, 16), (67, 0), (68, 0), (69, 0)] : List (Nat × Nat)) s.heap H → va_S A s.heap H locs → el H o0 (dI 8 15) = some (.int jb) → el H o0 (dI 8 9) = some (.ref b136) → el H b136 (nI i8).toNatClampNeg = some (.int x139) → ∀ ls : Array Slot, lv_has ls 11 [(7, .int (nI i8)), (0, .ref o0), (1, .int 5), (2, .int yr), (3, .long co), (5, .int ic), (6, .int la)] → W p l e (headSpec w_c_tryOrders5 ({ frames := 4, cells := 0, slots := 0, locals := 120 })).room s m #[.ref o0, .int 5, .int yr, .long co, .int ic, .int la] below meth c H locs 0 0 (MQ below (va_Qv (fun (u : Unit) => True) (fun (_ : Unit) (t : State) => gH (dC, dI) kA (SHc nC nS) G t.heap ∧ gF (dC, dI) SKc G ([(8, 16), (67, 0), (68, 0), (69, 0)] : List (Nat × Nat)) s.heap t.heap) A) #[.ref o0, .int 5, .int yr, .long co, .int ic, .int la] s 0 0 A) (F0 m 98 ls [.int z158]) := by
              intro z158 H locs hT hF hS m159 m160 m161 ls hl
              refine lv_istore (lv' := [(8, .int z158), (7, .int (nI i8)), (0, .ref o0), (1, .int 5), (2, .int yr), (3, .long co), (5, .int ic), (6, .int la)]) hx hb dX5_tryOrders_98 hl (by decide) rfl (fun ls hl => ?_)
              refine lv_iload hx hb dX5_tryOrders_100 (lv_at hl 0 rfl) ?_
              refine lv_iconst (v := (-1)) hx hb dX5_tryOrders_102 (by decide) ?_
              have t163 : -2147483648 ≤ z158.toInt ∧ z158.toInt ≤ 2147483647 := ti_all z158
              refine lv_icmp_eq (tgt := 194) hx hb dX5_tryOrders_103 (by decide) (fun c164 => ?_) (fun c164 => ?_)
              · have t165 : z158.toInt = (-1) := ti_eq c164 rfl (by decide)
                refine lv_iinc (v := nI (i8 + 1)) (lv' := [(7, .int (nI (i8 + 1))), (8, .int z158), (0, .ref o0), (1, .int 5), (2, .int yr), (3, .long co), (5, .int ic), (6, .int la)]) hx hb dX5_tryOrders_194 hl (k := 1) rfl (nI_add i8 1) (by decide) rfl (fun ls hl => ?_)
                refine lv_goto (tgt := 53) hx hb dX5_tryOrders_197 (by decide) ?_
                exact ih128 (i8 + 1) (by omega) (by omega) _ _ hT hF hS m159 ls (lv_sub hl [0, 2, 3, 4, 5, 6, 7] rfl)
              · have t166 : z158.toInt ≠ (-1) := ti_ne c164 rfl (by decide)
                refine lv_iload hx hb dX5_tryOrders_106 (lv_at hl 0 rfl) ?_
                refine lv_sipush (v := 200) hx hb dX5_tryOrders_108 (by decide) ?_
                refine lv_icmp_gt (tgt := 194) hx hb dX5_tryOrders_111 (by decide) (fun c167 => ?_) (fun c167 => ?_)
                · have t168 : 200 < z158.toInt := ti_lt c167 (by decide) rfl
                  refine lv_iinc (v := nI (i8 + 1)) (lv' := [(7, .int (nI (i8 + 1))), (8, .int z158), (0, .ref o0), (1, .int 5), (2, .int yr), (3, .long co), (5, .int ic), (6, .int la)]) hx hb dX5_tryOrders_194 hl (k := 1) rfl (nI_add i8 1) (by decide) rfl (fun ls hl => ?_)
                  refine lv_goto (tgt := 53) hx hb dX5_tryOrders_197 (by decide) ?_
                  exact ih128 (i8 + 1) (by omega) (by omega) _ _ hT hF hS m159 ls (lv_sub hl [0, 2, 3, 4, 5, 6, 7] rfl)
                · have t169 : z158.toInt ≤ 200 := ti_nlt c167 (by decide) rfl
                  refine lv_lload_n hx hb dX5_tryOrders_114 rfl (lv_at hl 5 rfl) ?_
                  refine lv_iload hx hb dX5_tryOrders_115 (lv_at hl 6 rfl) ?_
                  refine lv_i2l (v := ic.toInt64) hx hb dX5_tryOrders_117 rfl ?_
                  refine lv_iload hx hb dX5_tryOrders_118 (lv_at hl 0 rfl) ?_
                  refine lv_iload_n hx hb dX5_tryOrders_120 rfl (lv_at hl 4 rfl) ?_
                  refine lv_isub hx hb dX5_tryOrders_121 ?_
                  refine lv_topi (fun x170 ex170 => ?_)
                  refine lv_i2l (v := x170.toInt64) hx hb dX5_tryOrders_122 rfl ?_
                  refine lv_lmul hx hb dX5_tryOrders_123 ?_
                  refine lv_topl (fun y171 _ => ?_)
                  refine lv_ladd hx hb dX5_tryOrders_124 ?_
                  refine lv_topl (fun y172 _ => ?_)
                  refine lv_aload_n hx hb dX5_tryOrders_125 rfl (lv_at hl 2 rfl) ?_
                  refine tw_get hx hb hts bF2_X5 hown hK hT hr_o0 shc_8 rfl 5 (by decide) (ht_at2 hts 3 rfl) (fun _ h9 => h9) dX5_tryOrders_126 (fun v9 m173 h9 => ?_)
                  obtain ⟨b174, rfl, hg175⟩ := h9 _ rfl
                  refine lv_iload hx hb dX5_tryOrders_129 (lv_at hl 1 rfl) ?_
                  refine tw_iald (i := (nI i8)) hx hb hK hT hg175 shc_63 rfl (vp_in_nI (by omega) (by decide)) dX5_tryOrders_131 (fun v9 m176 h9 => ?_)
                  obtain ⟨x177, rfl, gx177, kx177⟩ := h9
                  refine lv_i2l (v := x177.toInt64) hx hb dX5_tryOrders_132 rfl ?_
                  refine lv_lsub hx hb dX5_tryOrders_133 ?_
                  refine lv_topl (fun y178 _ => ?_)
                  refine lv_lstore (lv' := [(9, .long y178), (8, .int z158), (7, .int (nI i8)), (0, .ref o0), (1, .int 5), (2, .int yr), (3, .long co), (5, .int ic), (6, .int la)]) hx hb dX5_tryOrders_134 hl (by decide) rfl (fun ls hl => ?_)
                  refine lv_aload_n hx hb dX5_tryOrders_136 rfl (lv_at hl 3 rfl) ?_
                  refine tw_getM (v := .ref b136) hx hb hts bF2_X5 hown hK hT hr_o0 shc_8 rfl 9 (by decide) (ht_at2 hts 2 rfl) (fun _ h9 => h9) m160 dX5_tryOrders_137 ?_
                  refine lv_iload hx hb dX5_tryOrders_140 (lv_at hl 2 rfl) ?_
                  refine lv_iconst (v := 1) hx hb dX5_tryOrders_142 (by decide) ?_
                  refine tw_zast (i := (nI i8)) (x := 1) hx hb hK hT hG hS hg137 shc_67 rfl (vp_in_nI (by omega) (by decide)) (gi_z (rg_t (a := 1) (by decide) (by first | decide | omega) (by first | decide | omega)) (by decide) (by decide)) dX5_tryOrders_143 (fun H locs hT oq m179 oi hS => ?_)
                  have hF := hF.ast hg137 skc_67 oq (by decide)
                  have m180 := (el_kept (oq _ (gne hr_o0 hg137 (by decide)))).trans m159
                  have m181 := (el_kept (oq _ (gne hr_o0 hg137 (by decide)))).trans m160
                  refine lv_aload_n hx hb dX5_tryOrders_144 rfl (lv_at hl 3 rfl) ?_
                  refine tw_get hx hb hts bF2_X5 hown hK hT hr_o0 shc_8 rfl 10 (by decide) (ht_at2 hts 9 rfl) (fun _ h9 => h9) dX5_tryOrders_145 (fun v9 m184 h9 => ?_)
                  obtain ⟨b185, rfl, hg186⟩ := h9 _ rfl
                  refine lv_iload_n hx hb dX5_tryOrders_148 rfl (lv_at hl 4 rfl) ?_
                  refine lv_iload hx hb dX5_tryOrders_149 (lv_at hl 2 rfl) ?_
                  refine tw_iast (i := 5) (x := (nI i8)) hx hb hK hT hG hS hg186 shc_68 rfl (by unfold vp_in; decide) (gi_of (show (nI i8).toInt = ((i8 : Nat) : Int) from (nI_toInt (by omega))) (by omega) (by omega)) dX5_tryOrders_151 (fun H locs hT oq m187 oi hS => ?_)
                  have hF := hF.ast hg186 skc_68 oq (by decide)
                  have m188 := (el_kept (oq _ (gne hr_o0 hg186 (by decide)))).trans m180
                  have m189 := (el_kept (oq _ (gne hr_o0 hg186 (by decide)))).trans m181
                  refine lv_aload_n hx hb dX5_tryOrders_152 rfl (lv_at hl 3 rfl) ?_
                  refine lv_iload_n hx hb dX5_tryOrders_153 rfl (lv_at hl 4 rfl) ?_
                  refine lv_iconst (v := 1) hx hb dX5_tryOrders_154 (by decide) ?_
                  refine lv_iadd hx hb dX5_tryOrders_155 ?_
                  refine lv_topi (fun x193 ex193 => ?_)
                  obtain rfl : x193 = 6 := ex193.trans (by decide)
                  refine lv_iload hx hb dX5_tryOrders_156 (lv_at hl 1 rfl) ?_
                  refine lv_lload hx hb dX5_tryOrders_158 (lv_at hl 0 rfl) ?_
                  refine lv_iload hx hb dX5_tryOrders_160 (lv_at hl 7 rfl) ?_
                  refine lv_aload_n hx hb dX5_tryOrders_162 rfl (lv_at hl 3 rfl) ?_
                  refine tw_get hx hb hts bF2_X5 hown hK hT hr_o0 shc_8 rfl 7 (by decide) (ht_at2 hts 10 rfl) (fun _ h9 => h9) dX5_tryOrders_163 (fun v9 m194 h9 => ?_)
                  obtain ⟨b195, rfl, hg196⟩ := h9 _ rfl
                  refine lv_iload hx hb dX5_tryOrders_166 (lv_at hl 2 rfl) ?_
                  refine tw_iald (i := (nI i8)) hx hb hK hT hg196 shc_65 rfl (vp_in_nI (by omega) (by decide)) dX5_tryOrders_168 (fun v9 m197 h9 => ?_)
                  obtain ⟨x198, rfl, gx198, kx198⟩ := h9
                  refine lv_iadd hx hb dX5_tryOrders_169 ?_
                  refine lv_topi (fun x199 ex199 => ?_)
                  refine lv_iload hx hb dX5_tryOrders_170 (lv_at hl 8 rfl) ?_
                  refine lv_aload_n hx hb dX5_tryOrders_172 rfl (lv_at hl 3 rfl) ?_
                  refine tw_get hx hb hts bF2_X5 hown hK hT hr_o0 shc_8 rfl 8 (by decide) (ht_at2 hts 11 rfl) (fun _ h9 => h9) dX5_tryOrders_173 (fun v9 m200 h9 => ?_)
                  obtain ⟨b201, rfl, hg202⟩ := h9 _ rfl
                  refine lv_iload hx hb dX5_tryOrders_176 (lv_at hl 2 rfl) ?_
                  refine tw_iald (i := (nI i8)) hx hb hK hT hg202 shc_66 rfl (vp_in_nI (by omega) (by decide)) dX5_tryOrders_178 (fun v9 m203 h9 => ?_)
                  obtain ⟨x204, rfl, gx204, kx204⟩ := h9
                  refine lv_iload hx hb dX5_tryOrders_179 (lv_at hl 1 rfl) ?_
                  refine lv_imul hx hb dX5_tryOrders_181 ?_
                  refine lv_topi (fun x205 ex205 => ?_)
                  refine lv_iadd hx hb dX5_tryOrders_182 ?_
                  refine lv_topi (fun x206 ex206 => ?_)
                  have hFc := gA_free hG hA hS
                  refine va_callv (va_runV (As := [.int 6, .int z158, .long y178, .int x199, .int x206]) (rest := []) ⟨hx, hb, hml, hown, hts⟩ (c_tryOrders6 l dC dI kA adK adV G H nC nS o0 z158 y178 x199 x206 jb hT hr_o0 m188 (by have q8 := ti_all jb; omega) (by omega) (by omega)) (cwV 5 hts (goodIn_app (goodIn_r _ [19, 20, 21, 8] rfl (by decide +kernel)) (goodIn_ca (goodIn_r _ [13, 1, 2, 3, 4, 5, 6, 7, 8, 9, 10, 11, 12, 13, 14, 15, 16, 17, 18, 19, 20, 21] rfl (by decide +kernel)) (bs2_in _ _))) rfl rfl rfl (by decide +kernel) ⟨(Nat.le_of_ble_eq_true rfl), (Nat.le_of_ble_eq_true rfl)⟩) ⟨fun a U g mk q => by obtain ⟨q0, q1, qK, qE⟩ := q; exact ⟨q0, q1, va_K.moved (u := U) (U := U.calling g mk a) (Vm.Alike.refl U.vm) qK, EVC.blind g mk a qE⟩, gH_rc hK hT hr_o0 shc_8 rfl, fun U hU hW => ⟨rfl, hU, va_K.moved hW.alike hK, hE.call hS hFc hU hW⟩⟩ rfl rfl hl.1 rfl (lv_room (Nat.le_of_ble_eq_true rfl)) dX5_tryOrders_183 ⟨(Nat.le_of_ble_eq_true rfl), (Nat.le_of_ble_eq_true rfl)⟩) hS (fun q _ h => hFc q h) hFc (fun u t H locs ht hvm hw208 hB _ _ hS => ?_)
                  obtain ⟨hT, hF1⟩ := hB
                  rw [ht] at hT hF1
                  have m209 := (hF1.fld hr_o0 skc_8 (k := 15) (by decide) (by decide)).trans m188
                  have m210 := (hF1.fld hr_o0 skc_8 (k := 9) (by decide) (by decide)).trans m189
                  have hF := hF.more hF1 (by decide)
                  try dsimp only at hw208
                  refine lv_aload_n hx hb dX5_tryOrders_186 rfl (lv_at hl 3 rfl) ?_
                  refine tw_getM (v := .ref b136) hx hb hts bF2_X5 hown hK hT hr_o0 shc_8 rfl 9 (by decide) (ht_at2 hts 2 rfl) (fun _ h9 => h9) m210 dX5_tryOrders_187 ?_
                  refine lv_iload hx hb dX5_tryOrders_190 (lv_at hl 2 rfl) ?_
                  refine lv_iconst (v := 0) hx hb dX5_tryOrders_192 (by decide) ?_
                  refine tw_zast (i := (nI i8)) (x := 0) hx hb hK hT hG hS hg137 shc_67 rfl (vp_in_nI (by omega) (by decide)) (gi_z (rg_t (a := 0) (by decide) (by first | decide | omega) (by first | decide | omega)) (by decide) (by decide)) dX5_tryOrders_193 (fun H locs hT oq m219 oi hS => ?_)
                  have hF := hF.ast hg137 skc_67 oq (by decide)
                  have m220 := (el_kept (oq _ (gne hr_o0 hg137 (by decide)))).trans m209
                  refine lv_iinc (v := nI (i8 + 1)) (lv' := [(7, .int (nI (i8 + 1))), (9, .long y178), (8, .int z158), (0, .ref o0), (1, .int 5), (2, .int yr), (3, .long co), (5, .int ic), (6, .int la)]) hx hb dX5_tryOrders_194 hl (k := 2) rfl (nI_add i8 1) (by decide) rfl (fun ls hl => ?_)
                  refine lv_goto (tgt := 53) hx hb dX5_tryOrders_197 (by decide) ?_
                  exact ih128 (i8 + 1) (by omega) (by omega) _ _ hT hF hS m220 ls (lv_sub hl [0, 3, 4, 5, 6, 7, 8] rfl)
            refine lv_if_eq (tgt := 76) hx hb dX5_tryOrders_69 (by decide) (fun c229 => ?_) (fun c229 => ?_)
            · have t230 : x139.toInt = 0 := ti_eq c229 rfl (by decide)
              refine lv_iload_n hx hb dX5_tryOrders_76 rfl (lv_at hl 3 rfl) ?_
              refine lv_lload_n hx hb dX5_tryOrders_77 rfl (lv_at hl 4 rfl) ?_
              refine lv_iload hx hb dX5_tryOrders_78 (lv_at hl 5 rfl) ?_
              refine lv_aload_n hx hb dX5_tryOrders_80 rfl (lv_at hl 1 rfl) ?_
              refine tw_get hx hb hts bF2_X5 hown hK hT hr_o0 shc_8 rfl 5 (by decide) (ht_at2 hts 3 rfl) (fun _ h9 => h9) dX5_tryOrders_81 (fun v9 m231 h9 => ?_)
              obtain ⟨b232, rfl, hg233⟩ := h9 _ rfl
              refine lv_iload hx hb dX5_tryOrders_84 (lv_at hl 0 rfl) ?_
              refine tw_iald (i := (nI i8)) hx hb hK hT hg233 shc_63 rfl (vp_in_nI (by omega) (by decide)) dX5_tryOrders_86 (fun v9 m234 h9 => ?_)
              obtain ⟨x235, rfl, gx235, kx235⟩ := h9
              have hFc := gA_free hG hA hS
              refine va_calli (va_runS (As := [.int yr, .long co, .int ic, .int x235]) (rest := []) ⟨hx, hb, hml, hown, hts⟩ (c_yearWithCost l dC dI kA adK adV G H nC nS yr co ic x235 hT (by omega) (by omega)) (va_cwS 4 hts (goodIn_app (goodIn_r _ [6, 7, 8] rfl (by decide +kernel)) (goodIn_ca (goodIn_r _ [5] rfl (by decide +kernel)) (bs2_in _ _))) rfl rfl rfl (by decide +kernel) ⟨(Nat.le_of_ble_eq_true rfl), (Nat.le_of_ble_eq_true rfl)⟩) ⟨fun a U g mk q => by obtain ⟨q0, q1, qK, qE⟩ := q; exact ⟨q0, q1, va_K.moved (u := U) (U := U.calling g mk a) (Vm.Alike.refl U.vm) qK, EVC.blind g mk a qE⟩, fun U hU hW => ⟨rfl, hU, va_K.moved hW.alike hK, hE.call hS hFc hU hW⟩⟩ rfl rfl hl.1 rfl (lv_room (Nat.le_of_ble_eq_true rfl)) dX5_tryOrders_87 ⟨(Nat.le_of_ble_eq_true rfl), (Nat.le_of_ble_eq_true rfl)⟩) hS (fun q _ h => hFc q h) hFc (fun r236 u t H locs ht hvm hw237 hB _ _ hS => ?_)
              obtain ⟨hT, hF1⟩ := hB
              rw [ht] at hT hF1
              have m238 := (hF1.fld hr_o0 skc_8 (k := 15) (by decide) (by decide)).trans m9
              have m239 := (hF1.fld hr_o0 skc_8 (k := 9) (by decide) (by decide)).trans m135
              have m240 := (el_kept (hF1.arr hg137 skc_67 (by decide))).trans m138
              have hF := hF.more hF1 (by decide)
              try dsimp only at hw237
              refine lv_aload_n hx hb dX5_tryOrders_90 rfl (lv_at hl 1 rfl) ?_
              refine tw_get hx hb hts bF2_X5 hown hK hT hr_o0 shc_8 rfl 6 (by decide) (ht_at2 hts 8 rfl) (fun _ h9 => h9) dX5_tryOrders_91 (fun v9 m243 h9 => ?_)
              obtain ⟨b244, rfl, hg245⟩ := h9 _ rfl
              refine lv_iload hx hb dX5_tryOrders_94 (lv_at hl 0 rfl) ?_
              refine tw_iald (i := (nI i8)) hx hb hK hT hg245 shc_64 rfl (vp_in_nI (by omega) (by decide)) dX5_tryOrders_96 (fun v9 m246 h9 => ?_)
              obtain ⟨x247, rfl, gx247, kx247⟩ := h9
              refine lv_iadd hx hb dX5_tryOrders_97 ?_
              refine lv_topi (fun x248 ex248 => ?_)
              exact jn162 x248 _ _ hT hF hS m238 m239 m240 ls (lv_sub hl [0, 1, 2, 3, 4, 5, 6] rfl)
            · have t249 : x139.toInt ≠ 0 := ti_ne c229 rfl (by decide)
              refine lv_iconst (v := (-1)) hx hb dX5_tryOrders_72 (by decide) ?_
              refine lv_goto (tgt := 98) hx hb dX5_tryOrders_73 (by decide) ?_
              exact jn162 (-1) _ _ hT hF hS m9 m135 m138 ls (lv_sub hl [0, 1, 2, 3, 4, 5, 6] rfl)
      exact key128 (7 - 0) 0 (by omega) (Nat.le_refl _) _ _ hT hF hS hm_jb ls (lv_sub hl [0, 1, 2, 3, 4, 5, 6] rfl)
    · have t250 : jb.toInt ≤ 5 := ti_nlt c6 (by decide) rfl
      refine lv_aload_n hx hb dX5_tryOrders_26 rfl (lv_at hl 0 rfl) ?_
      refine lv_iload hx hb dX5_tryOrders_27 (lv_at hl 5 rfl) ?_
      refine tw_put (v := .int la) (ty := .int) hx hb hts bF2_X5 tyX5 tyX5_ok nmX5 hown hK hT hG hS hr_o0 shc_8 rfl 16 (by decide) (ht_at2 hts 0 rfl) (fun _ h9 => h9) rfl (by decide +kernel) rfl rfl (gl_at rfl (gi_all _)) dX5_tryOrders_29 (fun H locs hT oq m251 oj hS => ?_)
      have hF := hF.put hr_o0 skc_8 oq oj (by decide)
      have m252 := (oj 15 (by decide) (by decide)).trans hm_jb
      refine lv_aload_n hx hb dX5_tryOrders_32 rfl (lv_at hl 0 rfl) ?_
      refine tw_get hx hb hts bF2_X5 hown hK hT hr_o0 shc_8 rfl 10 (by decide) (ht_at2 hts 9 rfl) (fun _ h9 => h9) dX5_tryOrders_33 (fun v9 m253 h9 => ?_)
      obtain ⟨b254, rfl, hg255⟩ := h9 _ rfl
      refine lv_iconst (v := 0) hx hb dX5_tryOrders_36 (by decide) ?_
      refine lv_aload_n hx hb dX5_tryOrders_37 rfl (lv_at hl 0 rfl) ?_
      refine tw_get hx hb hts bF2_X5 hown hK hT hr_o0 shc_8 rfl 11 (by decide) (ht_at2 hts 13 rfl) (fun _ h9 => h9) dX5_tryOrders_38 (fun v9 m256 h9 => ?_)
      obtain ⟨b257, rfl, hg258⟩ := h9 _ rfl
      refine lv_iconst (v := 0) hx hb dX5_tryOrders_41 (by decide) ?_
      refine lv_aload_n hx hb dX5_tryOrders_42 rfl (lv_at hl 0 rfl) ?_
      refine tw_getM (v := .int jb) hx hb hts bF2_X5 hown hK hT hr_o0 shc_8 rfl 15 (by decide) (ht_at2 hts 1 rfl) (fun _ h9 => h9) m252 dX5_tryOrders_43 ?_
      refine tw_copy (ty := .int) hx hb (hml.trans hl.1.symm) hown (ht_at2 hts 14 rfl) (ht_at2 hts 15 rfl) (ht_at2 hts 16 rfl) (ht_at2 hts 17 rfl) hK hT hG hS hg255 hg258 shc_68 shc_69 rfl rfl (by decide) (by decide) (fun h9 => by have q9 := ti_lt h9 rfl (show (0 : Int32).toInt = 0 from by decide); omega) (by have q9 := tn_of (show jb.toInt = jb.toInt from rfl) (by omega); have q8 : (0 : Int32).toNatClampNeg = 0 := (by decide); omega) (by have q9 := tn_of (show jb.toInt = jb.toInt from rfl) (by omega); have q8 : (0 : Int32).toNatClampNeg = 0 := (by decide); omega) (fun _ _ h9 => by obtain ⟨x9, e9, _⟩ := h9; exact ⟨x9, e9, rfl⟩) (fun _ _ _ h9 => by obtain ⟨x9, e9, a9, b9⟩ := h9; exact ⟨x9, e9, by omega, by omega⟩) (Nat.le_of_ble_eq_true rfl) (Nat.le_of_ble_eq_true rfl) dX5_tryOrders_46 (fun H locs hT oq hS => ?_)
      have hF := hF.ast hg258 skc_69 oq (by decide)
      exact W.vret hx hb hr (fun t ht hW => ⟨⟨(), rfl, (by exact trivial), by (try dsimp only); rw [ht]; exact ⟨hT, hF⟩⟩, hS.F ht⟩) hS.2.2 dX5_tryOrders_49
  · have t263 : x2.toInt ≠ (-1) := ti_ne c4 rfl (by decide)
    refine lv_iload hx hb dX5_tryOrders_8 (lv_at hl 5 rfl) ?_
    refine lv_aload_n hx hb dX5_tryOrders_10 rfl (lv_at hl 0 rfl) ?_
    refine tw_getM (v := .int x2) hx hb hts bF2_X5 hown hK hT hr_o0 shc_8 rfl 16 (by decide) (ht_at2 hts 0 rfl) (fun _ h9 => h9) m1 dX5_tryOrders_11 ?_
    have t264 : -2147483648 ≤ la.toInt ∧ la.toInt ≤ 2147483647 := ti_all la
    refine lv_icmp_lt (tgt := 18) hx hb dX5_tryOrders_14 (by decide) (fun c265 => ?_) (fun c265 => ?_)
    · have t266 : la.toInt < x2.toInt := ti_lt c265 rfl rfl
      refine lv_iload_n hx hb dX5_tryOrders_18 rfl (lv_at hl 1 rfl) ?_
      refine lv_aload_n hx hb dX5_tryOrders_19 rfl (lv_at hl 0 rfl) ?_
      refine tw_getM (v := .int jb) hx hb hts bF2_X5 hown hK hT hr_o0 shc_8 rfl 15 (by decide) (ht_at2 hts 1 rfl) (fun _ h9 => h9) hm_jb dX5_tryOrders_20 ?_
      refine lv_icmp_lt (tgt := 50) hx hb dX5_tryOrders_23 (by decide) (fun c267 => ?_) (fun c267 => ?_)
      · have t268 : 5 < jb.toInt := ti_lt c267 (by decide) rfl
        refine lv_iconst (v := 0) hx hb dX5_tryOrders_50 (by decide) ?_
        refine lv_istore (lv' := [(7, .int 0), (0, .ref o0), (1, .int 5), (2, .int yr), (3, .long co), (5, .int ic), (6, .int la)]) hx hb dX5_tryOrders_51 hl (by decide) rfl (fun ls hl => ?_)
        have key389 : ∀ (n389 i269 : Nat), i269 + n389 = 7 → 0 ≤ i269 → ∀ (H : Heap) (locs : List Loc), gH (dC, dI) kA (SHc nC nS) G H → gF (dC, dI) SKc G ([(8, 16), (67, 0), (68, 0), (69, 0)] : List (Nat × Nat)) s.heap H → va_S A s.heap H locs → el H o0 (dI 8 15) = some (.int jb) → ∀ ls : Array Slot, lv_has ls 11 [(7, .int (nI i269)), (0, .ref o0), (1, .int 5), (2, .int yr), (3, .long co), (5, .int ic), (6, .int la)] → W p l e (headSpec w_c_tryOrders5 ({ frames := 4, cells := 0, slots := 0, locals := 120 })).room s m #[.ref o0, .int 5, .int yr, .long co, .int ic, .int la] below meth c H locs 0 0 (MQ below (va_Qv (fun (u : Unit) => True) (fun (_ : Unit) (t : State) => gH (dC, dI) kA (SHc nC nS) G t.heap ∧ gF (dC, dI) SKc G ([(8, 16), (67, 0), (68, 0), (69, 0)] : List (Nat × Nat)) s.heap t.heap) A) #[.ref o0, .int 5, .int yr, .long co, .int ic, .int la] s 0 0 A) (F0 m 53 ls []) := by
          intro n389
          induction n389 with
          | zero =>
            intro i269 hn389 hlo390  H locs hT hF hS m270 ls hl
            obtain rfl : 7 = i269 := by omega
            refine lv_iload hx hb dX5_tryOrders_53 (lv_at hl 0 rfl) ?_
            refine lv_aload_n hx hb dX5_tryOrders_55 rfl (lv_at hl 1 rfl) ?_
            refine tw_getM (v := .int jb) hx hb hts bF2_X5 hown hK hT hr_o0 shc_8 rfl 15 (by decide) (ht_at2 hts 1 rfl) (fun _ h9 => h9) m270 dX5_tryOrders_56 ?_
            refine lv_icmp_ge (tgt := 200) hx hb dX5_tryOrders_59 (by decide) (fun c391 => ?_) (fun c391 => (by exfalso; have q9 : ((7 : Nat) : Int) < jb.toInt := ti_nle c391 rfl (nI_toInt (by omega)); omega))
            have t392 : jb.toInt ≤ ((7 : Nat) : Int) := ti_le c391 rfl (nI_toInt (by omega))
            exact W.vret hx hb hr (fun t ht hW => ⟨⟨(), rfl, (by exact trivial), by (try dsimp only); rw [ht]; exact ⟨hT, hF⟩⟩, hS.F ht⟩) hS.2.2 dX5_tryOrders_200
          | succ n389 ih389 =>
            intro i269 hn389 hlo390  H locs hT hF hS m270 ls hl
            have hlt392 : i269 < 7 := by omega
            refine lv_iload hx hb dX5_tryOrders_53 (lv_at hl 0 rfl) ?_
            refine lv_aload_n hx hb dX5_tryOrders_55 rfl (lv_at hl 1 rfl) ?_
            refine tw_getM (v := .int jb) hx hb hts bF2_X5 hown hK hT hr_o0 shc_8 rfl 15 (by decide) (ht_at2 hts 1 rfl) (fun _ h9 => h9) m270 dX5_tryOrders_56 ?_
            refine lv_icmp_ge (tgt := 200) hx hb dX5_tryOrders_59 (by decide) (fun c393 => ?_) (fun c393 => ?_)
            · have t394 : jb.toInt ≤ ((i269 : Nat) : Int) := ti_le c393 rfl (nI_toInt (by omega))
              exact W.vret hx hb hr (fun t ht hW => ⟨⟨(), rfl, (by exact trivial), by (try dsimp only); rw [ht]; exact ⟨hT, hF⟩⟩, hS.F ht⟩) hS.2.2 dX5_tryOrders_200
            · have t395 : ((i269 : Nat) : Int) < jb.toInt := ti_nle c393 rfl (nI_toInt (by omega))
              refine lv_aload_n hx hb dX5_tryOrders_62 rfl (lv_at hl 1 rfl) ?_
              refine tw_get hx hb hts bF2_X5 hown hK hT hr_o0 shc_8 rfl 9 (by decide) (ht_at2 hts 2 rfl) (fun _ h9 => h9) dX5_tryOrders_63 (fun v9 m396 h9 => ?_)
              obtain ⟨b397, rfl, hg398⟩ := h9 _ rfl
              refine lv_iload hx hb dX5_tryOrders_66 (lv_at hl 0 rfl) ?_
              refine tw_zald (i := (nI i269)) hx hb hK hT hg398 shc_67 rfl (vp_in_nI (by omega) (by decide)) dX5_tryOrders_68 (fun v9 m399 h9 => ?_)
              obtain ⟨x400, rfl, gx400, kx400⟩ := h9
              have jn423 : ∀ (z419 : Int32), ∀ (H : Heap) (locs : List Loc), gH (dC, dI) kA (SHc nC nS) G H → gF (dC, dI) SKc G ([(8, 16), (67, 0), (68, 0), (69, 0)] : List (Nat × Nat)) s.heap H → va_S A s.heap H locs → el H o0 (dI 8 15) = some (.int jb) → el H o0 (dI 8 9) = some (.ref b397) → el H b397 (nI i269).toNatClampNeg = some (.int x400) → ∀ ls : Array Slot, lv_has ls 11 [(7, .int (nI i269)), (0, .ref o0), (1, .int 5), (2, .int yr), (3, .long co), (5, .int ic), (6, .int la)] → W p l e (headSpec w_c_tryOrders5 ({ frames := 4, cells := 0, slots := 0, locals := 120 })).room s m #[.ref o0, .int 5, .int yr, .long co, .int ic, .int la] below meth c H locs 0 0 (MQ below (va_Qv (fun (u : Unit) => True) (fun (_ : Unit) (t : State) => gH (dC, dI) kA (SHc nC nS) G t.heap ∧ gF (dC, dI) SKc G ([(8, 16), (67, 0), (68, 0), (69, 0)] : List (Nat × Nat)) s.heap t.heap) A) #[.ref o0, .int 5, .int yr, .long co, .int ic, .int la] s 0 0 A) (F0 m 98 ls [.int z419]) := by
                intro z419 H locs hT hF hS m420 m421 m422 ls hl
                refine lv_istore (lv' := [(8, .int z419), (7, .int (nI i269)), (0, .ref o0), (1, .int 5), (2, .int yr), (3, .long co), (5, .int ic), (6, .int la)]) hx hb dX5_tryOrders_98 hl (by decide) rfl (fun ls hl => ?_)
                refine lv_iload hx hb dX5_tryOrders_100 (lv_at hl 0 rfl) ?_
                refine lv_iconst (v := (-1)) hx hb dX5_tryOrders_102 (by decide) ?_
                have t424 : -2147483648 ≤ z419.toInt ∧ z419.toInt ≤ 2147483647 := ti_all z419
                refine lv_icmp_eq (tgt := 194) hx hb dX5_tryOrders_103 (by decide) (fun c425 => ?_) (fun c425 => ?_)
                · have t426 : z419.toInt = (-1) := ti_eq c425 rfl (by decide)
                  refine lv_iinc (v := nI (i269 + 1)) (lv' := [(7, .int (nI (i269 + 1))), (8, .int z419), (0, .ref o0), (1, .int 5), (2, .int yr), (3, .long co), (5, .int ic), (6, .int la)]) hx hb dX5_tryOrders_194 hl (k := 1) rfl (nI_add i269 1) (by decide) rfl (fun ls hl => ?_)
                  refine lv_goto (tgt := 53) hx hb dX5_tryOrders_197 (by decide) ?_
                  exact ih389 (i269 + 1) (by omega) (by omega) _ _ hT hF hS m420 ls (lv_sub hl [0, 2, 3, 4, 5, 6, 7] rfl)
                · have t427 : z419.toInt ≠ (-1) := ti_ne c425 rfl (by decide)
                  refine lv_iload hx hb dX5_tryOrders_106 (lv_at hl 0 rfl) ?_
                  refine lv_sipush (v := 200) hx hb dX5_tryOrders_108 (by decide) ?_
                  refine lv_icmp_gt (tgt := 194) hx hb dX5_tryOrders_111 (by decide) (fun c428 => ?_) (fun c428 => ?_)
                  · have t429 : 200 < z419.toInt := ti_lt c428 (by decide) rfl
                    refine lv_iinc (v := nI (i269 + 1)) (lv' := [(7, .int (nI (i269 + 1))), (8, .int z419), (0, .ref o0), (1, .int 5), (2, .int yr), (3, .long co), (5, .int ic), (6, .int la)]) hx hb dX5_tryOrders_194 hl (k := 1) rfl (nI_add i269 1) (by decide) rfl (fun ls hl => ?_)
                    refine lv_goto (tgt := 53) hx hb dX5_tryOrders_197 (by decide) ?_
                    exact ih389 (i269 + 1) (by omega) (by omega) _ _ hT hF hS m420 ls (lv_sub hl [0, 2, 3, 4, 5, 6, 7] rfl)
                  · have t430 : z419.toInt ≤ 200 := ti_nlt c428 (by decide) rfl
                    refine lv_lload_n hx hb dX5_tryOrders_114 rfl (lv_at hl 5 rfl) ?_
                    refine lv_iload hx hb dX5_tryOrders_115 (lv_at hl 6 rfl) ?_
                    refine lv_i2l (v := ic.toInt64) hx hb dX5_tryOrders_117 rfl ?_
                    refine lv_iload hx hb dX5_tryOrders_118 (lv_at hl 0 rfl) ?_
                    refine lv_iload_n hx hb dX5_tryOrders_120 rfl (lv_at hl 4 rfl) ?_
                    refine lv_isub hx hb dX5_tryOrders_121 ?_
                    refine lv_topi (fun x431 ex431 => ?_)
                    refine lv_i2l (v := x431.toInt64) hx hb dX5_tryOrders_122 rfl ?_
                    refine lv_lmul hx hb dX5_tryOrders_123 ?_
                    refine lv_topl (fun y432 _ => ?_)
                    refine lv_ladd hx hb dX5_tryOrders_124 ?_
                    refine lv_topl (fun y433 _ => ?_)
                    refine lv_aload_n hx hb dX5_tryOrders_125 rfl (lv_at hl 2 rfl) ?_
                    refine tw_get hx hb hts bF2_X5 hown hK hT hr_o0 shc_8 rfl 5 (by decide) (ht_at2 hts 3 rfl) (fun _ h9 => h9) dX5_tryOrders_126 (fun v9 m434 h9 => ?_)
                    obtain ⟨b435, rfl, hg436⟩ := h9 _ rfl
                    refine lv_iload hx hb dX5_tryOrders_129 (lv_at hl 1 rfl) ?_
                    refine tw_iald (i := (nI i269)) hx hb hK hT hg436 shc_63 rfl (vp_in_nI (by omega) (by decide)) dX5_tryOrders_131 (fun v9 m437 h9 => ?_)
                    obtain ⟨x438, rfl, gx438, kx438⟩ := h9
                    refine lv_i2l (v := x438.toInt64) hx hb dX5_tryOrders_132 rfl ?_
                    refine lv_lsub hx hb dX5_tryOrders_133 ?_
                    refine lv_topl (fun y439 _ => ?_)
                    refine lv_lstore (lv' := [(9, .long y439), (8, .int z419), (7, .int (nI i269)), (0, .ref o0), (1, .int 5), (2, .int yr), (3, .long co), (5, .int ic), (6, .int la)]) hx hb dX5_tryOrders_134 hl (by decide) rfl (fun ls hl => ?_)
                    refine lv_aload_n hx hb dX5_tryOrders_136 rfl (lv_at hl 3 rfl) ?_
                    refine tw_getM (v := .ref b397) hx hb hts bF2_X5 hown hK hT hr_o0 shc_8 rfl 9 (by decide) (ht_at2 hts 2 rfl) (fun _ h9 => h9) m421 dX5_tryOrders_137 ?_
                    refine lv_iload hx hb dX5_tryOrders_140 (lv_at hl 2 rfl) ?_
                    refine lv_iconst (v := 1) hx hb dX5_tryOrders_142 (by decide) ?_
                    refine tw_zast (i := (nI i269)) (x := 1) hx hb hK hT hG hS hg398 shc_67 rfl (vp_in_nI (by omega) (by decide)) (gi_z (rg_t (a := 1) (by decide) (by first | decide | omega) (by first | decide | omega)) (by decide) (by decide)) dX5_tryOrders_143 (fun H locs hT oq m440 oi hS => ?_)
                    have hF := hF.ast hg398 skc_67 oq (by decide)
                    have m441 := (el_kept (oq _ (gne hr_o0 hg398 (by decide)))).trans m420
                    have m442 := (el_kept (oq _ (gne hr_o0 hg398 (by decide)))).trans m421
                    refine lv_aload_n hx hb dX5_tryOrders_144 rfl (lv_at hl 3 rfl) ?_
                    refine tw_get hx hb hts bF2_X5 hown hK hT hr_o0 shc_8 rfl 10 (by decide) (ht_at2 hts 9 rfl) (fun _ h9 => h9) dX5_tryOrders_145 (fun v9 m445 h9 => ?_)
                    obtain ⟨b446, rfl, hg447⟩ := h9 _ rfl
                    refine lv_iload_n hx hb dX5_tryOrders_148 rfl (lv_at hl 4 rfl) ?_
                    refine lv_iload hx hb dX5_tryOrders_149 (lv_at hl 2 rfl) ?_
                    refine tw_iast (i := 5) (x := (nI i269)) hx hb hK hT hG hS hg447 shc_68 rfl (by unfold vp_in; decide) (gi_of (show (nI i269).toInt = ((i269 : Nat) : Int) from (nI_toInt (by omega))) (by omega) (by omega)) dX5_tryOrders_151 (fun H locs hT oq m448 oi hS => ?_)
                    have hF := hF.ast hg447 skc_68 oq (by decide)
                    have m449 := (el_kept (oq _ (gne hr_o0 hg447 (by decide)))).trans m441
                    have m450 := (el_kept (oq _ (gne hr_o0 hg447 (by decide)))).trans m442
                    refine lv_aload_n hx hb dX5_tryOrders_152 rfl (lv_at hl 3 rfl) ?_
                    refine lv_iload_n hx hb dX5_tryOrders_153 rfl (lv_at hl 4 rfl) ?_
                    refine lv_iconst (v := 1) hx hb dX5_tryOrders_154 (by decide) ?_
                    refine lv_iadd hx hb dX5_tryOrders_155 ?_
                    refine lv_topi (fun x454 ex454 => ?_)
                    obtain rfl : x454 = 6 := ex454.trans (by decide)
                    refine lv_iload hx hb dX5_tryOrders_156 (lv_at hl 1 rfl) ?_
                    refine lv_lload hx hb dX5_tryOrders_158 (lv_at hl 0 rfl) ?_
                    refine lv_iload hx hb dX5_tryOrders_160 (lv_at hl 7 rfl) ?_
                    refine lv_aload_n hx hb dX5_tryOrders_162 rfl (lv_at hl 3 rfl) ?_
                    refine tw_get hx hb hts bF2_X5 hown hK hT hr_o0 shc_8 rfl 7 (by decide) (ht_at2 hts 10 rfl) (fun _ h9 => h9) dX5_tryOrders_163 (fun v9 m455 h9 => ?_)
                    obtain ⟨b456, rfl, hg457⟩ := h9 _ rfl
                    refine lv_iload hx hb dX5_tryOrders_166 (lv_at hl 2 rfl) ?_
                    refine tw_iald (i := (nI i269)) hx hb hK hT hg457 shc_65 rfl (vp_in_nI (by omega) (by decide)) dX5_tryOrders_168 (fun v9 m458 h9 => ?_)
                    obtain ⟨x459, rfl, gx459, kx459⟩ := h9
                    refine lv_iadd hx hb dX5_tryOrders_169 ?_
                    refine lv_topi (fun x460 ex460 => ?_)
                    refine lv_iload hx hb dX5_tryOrders_170 (lv_at hl 8 rfl) ?_
                    refine lv_aload_n hx hb dX5_tryOrders_172 rfl (lv_at hl 3 rfl) ?_
                    refine tw_get hx hb hts bF2_X5 hown hK hT hr_o0 shc_8 rfl 8 (by decide) (ht_at2 hts 11 rfl) (fun _ h9 => h9) dX5_tryOrders_173 (fun v9 m461 h9 => ?_)
                    obtain ⟨b462, rfl, hg463⟩ := h9 _ rfl
                    refine lv_iload hx hb dX5_tryOrders_176 (lv_at hl 2 rfl) ?_
                    refine tw_iald (i := (nI i269)) hx hb hK hT hg463 shc_66 rfl (vp_in_nI (by omega) (by decide)) dX5_tryOrders_178 (fun v9 m464 h9 => ?_)
                    obtain ⟨x465, rfl, gx465, kx465⟩ := h9
                    refine lv_iload hx hb dX5_tryOrders_179 (lv_at hl 1 rfl) ?_
                    refine lv_imul hx hb dX5_tryOrders_181 ?_
                    refine lv_topi (fun x466 ex466 => ?_)
                    refine lv_iadd hx hb dX5_tryOrders_182 ?_
                    refine lv_topi (fun x467 ex467 => ?_)
                    have hFc := gA_free hG hA hS
                    refine va_callv (va_runV (As := [.int 6, .int z419, .long y439, .int x460, .int x467]) (rest := []) ⟨hx, hb, hml, hown, hts⟩ (c_tryOrders6 l dC dI kA adK adV G H nC nS o0 z419 y439 x460 x467 jb hT hr_o0 m449 (by have q8 := ti_all jb; omega) (by omega) (by omega)) (cwV 5 hts (goodIn_app (goodIn_r _ [19, 20, 21, 8] rfl (by decide +kernel)) (goodIn_ca (goodIn_r _ [13, 1, 2, 3, 4, 5, 6, 7, 8, 9, 10, 11, 12, 13, 14, 15, 16, 17, 18, 19, 20, 21] rfl (by decide +kernel)) (bs2_in _ _))) rfl rfl rfl (by decide +kernel) ⟨(Nat.le_of_ble_eq_true rfl), (Nat.le_of_ble_eq_true rfl)⟩) ⟨fun a U g mk q => by obtain ⟨q0, q1, qK, qE⟩ := q; exact ⟨q0, q1, va_K.moved (u := U) (U := U.calling g mk a) (Vm.Alike.refl U.vm) qK, EVC.blind g mk a qE⟩, gH_rc hK hT hr_o0 shc_8 rfl, fun U hU hW => ⟨rfl, hU, va_K.moved hW.alike hK, hE.call hS hFc hU hW⟩⟩ rfl rfl hl.1 rfl (lv_room (Nat.le_of_ble_eq_true rfl)) dX5_tryOrders_183 ⟨(Nat.le_of_ble_eq_true rfl), (Nat.le_of_ble_eq_true rfl)⟩) hS (fun q _ h => hFc q h) hFc (fun u t H locs ht hvm hw469 hB _ _ hS => ?_)
                    obtain ⟨hT, hF1⟩ := hB
                    rw [ht] at hT hF1
                    have m470 := (hF1.fld hr_o0 skc_8 (k := 15) (by decide) (by decide)).trans m449
                    have m471 := (hF1.fld hr_o0 skc_8 (k := 9) (by decide) (by decide)).trans m450
                    have hF := hF.more hF1 (by decide)
                    try dsimp only at hw469
                    refine lv_aload_n hx hb dX5_tryOrders_186 rfl (lv_at hl 3 rfl) ?_
                    refine tw_getM (v := .ref b397) hx hb hts bF2_X5 hown hK hT hr_o0 shc_8 rfl 9 (by decide) (ht_at2 hts 2 rfl) (fun _ h9 => h9) m471 dX5_tryOrders_187 ?_
                    refine lv_iload hx hb dX5_tryOrders_190 (lv_at hl 2 rfl) ?_
                    refine lv_iconst (v := 0) hx hb dX5_tryOrders_192 (by decide) ?_
                    refine tw_zast (i := (nI i269)) (x := 0) hx hb hK hT hG hS hg398 shc_67 rfl (vp_in_nI (by omega) (by decide)) (gi_z (rg_t (a := 0) (by decide) (by first | decide | omega) (by first | decide | omega)) (by decide) (by decide)) dX5_tryOrders_193 (fun H locs hT oq m480 oi hS => ?_)
                    have hF := hF.ast hg398 skc_67 oq (by decide)
                    have m481 := (el_kept (oq _ (gne hr_o0 hg398 (by decide)))).trans m470
                    refine lv_iinc (v := nI (i269 + 1)) (lv' := [(7, .int (nI (i269 + 1))), (9, .long y439), (8, .int z419), (0, .ref o0), (1, .int 5), (2, .int yr), (3, .long co), (5, .int ic), (6, .int la)]) hx hb dX5_tryOrders_194 hl (k := 2) rfl (nI_add i269 1) (by decide) rfl (fun ls hl => ?_)
                    refine lv_goto (tgt := 53) hx hb dX5_tryOrders_197 (by decide) ?_
                    exact ih389 (i269 + 1) (by omega) (by omega) _ _ hT hF hS m481 ls (lv_sub hl [0, 3, 4, 5, 6, 7, 8] rfl)
              refine lv_if_eq (tgt := 76) hx hb dX5_tryOrders_69 (by decide) (fun c490 => ?_) (fun c490 => ?_)
              · have t491 : x400.toInt = 0 := ti_eq c490 rfl (by decide)
                refine lv_iload_n hx hb dX5_tryOrders_76 rfl (lv_at hl 3 rfl) ?_
                refine lv_lload_n hx hb dX5_tryOrders_77 rfl (lv_at hl 4 rfl) ?_
                refine lv_iload hx hb dX5_tryOrders_78 (lv_at hl 5 rfl) ?_
                refine lv_aload_n hx hb dX5_tryOrders_80 rfl (lv_at hl 1 rfl) ?_
                refine tw_get hx hb hts bF2_X5 hown hK hT hr_o0 shc_8 rfl 5 (by decide) (ht_at2 hts 3 rfl) (fun _ h9 => h9) dX5_tryOrders_81 (fun v9 m492 h9 => ?_)
                obtain ⟨b493, rfl, hg494⟩ := h9 _ rfl
                refine lv_iload hx hb dX5_tryOrders_84 (lv_at hl 0 rfl) ?_
                refine tw_iald (i := (nI i269)) hx hb hK hT hg494 shc_63 rfl (vp_in_nI (by omega) (by decide)) dX5_tryOrders_86 (fun v9 m495 h9 => ?_)
                obtain ⟨x496, rfl, gx496, kx496⟩ := h9
                have hFc := gA_free hG hA hS
                refine va_calli (va_runS (As := [.int yr, .long co, .int ic, .int x496]) (rest := []) ⟨hx, hb, hml, hown, hts⟩ (c_yearWithCost l dC dI kA adK adV G H nC nS yr co ic x496 hT (by omega) (by omega)) (va_cwS 4 hts (goodIn_app (goodIn_r _ [6, 7, 8] rfl (by decide +kernel)) (goodIn_ca (goodIn_r _ [5] rfl (by decide +kernel)) (bs2_in _ _))) rfl rfl rfl (by decide +kernel) ⟨(Nat.le_of_ble_eq_true rfl), (Nat.le_of_ble_eq_true rfl)⟩) ⟨fun a U g mk q => by obtain ⟨q0, q1, qK, qE⟩ := q; exact ⟨q0, q1, va_K.moved (u := U) (U := U.calling g mk a) (Vm.Alike.refl U.vm) qK, EVC.blind g mk a qE⟩, fun U hU hW => ⟨rfl, hU, va_K.moved hW.alike hK, hE.call hS hFc hU hW⟩⟩ rfl rfl hl.1 rfl (lv_room (Nat.le_of_ble_eq_true rfl)) dX5_tryOrders_87 ⟨(Nat.le_of_ble_eq_true rfl), (Nat.le_of_ble_eq_true rfl)⟩) hS (fun q _ h => hFc q h) hFc (fun r497 u t H locs ht hvm hw498 hB _ _ hS => ?_)
                obtain ⟨hT, hF1⟩ := hB
                rw [ht] at hT hF1
                have m499 := (hF1.fld hr_o0 skc_8 (k := 15) (by decide) (by decide)).trans m270
                have m500 := (hF1.fld hr_o0 skc_8 (k := 9) (by decide) (by decide)).trans m396
                have m501 := (el_kept (hF1.arr hg398 skc_67 (by decide))).trans m399
                have hF := hF.more hF1 (by decide)
                try dsimp only at hw498
                refine lv_aload_n hx hb dX5_tryOrders_90 rfl (lv_at hl 1 rfl) ?_
                refine tw_get hx hb hts bF2_X5 hown hK hT hr_o0 shc_8 rfl 6 (by decide) (ht_at2 hts 8 rfl) (fun _ h9 => h9) dX5_tryOrders_91 (fun v9 m504 h9 => ?_)
                obtain ⟨b505, rfl, hg506⟩ := h9 _ rfl
                refine lv_iload hx hb dX5_tryOrders_94 (lv_at hl 0 rfl) ?_
                refine tw_iald (i := (nI i269)) hx hb hK hT hg506 shc_64 rfl (vp_in_nI (by omega) (by decide)) dX5_tryOrders_96 (fun v9 m507 h9 => ?_)
                obtain ⟨x508, rfl, gx508, kx508⟩ := h9
                refine lv_iadd hx hb dX5_tryOrders_97 ?_
                refine lv_topi (fun x509 ex509 => ?_)
                exact jn423 x509 _ _ hT hF hS m499 m500 m501 ls (lv_sub hl [0, 1, 2, 3, 4, 5, 6] rfl)
              · have t510 : x400.toInt ≠ 0 := ti_ne c490 rfl (by decide)
                refine lv_iconst (v := (-1)) hx hb dX5_tryOrders_72 (by decide) ?_
                refine lv_goto (tgt := 98) hx hb dX5_tryOrders_73 (by decide) ?_
                exact jn423 (-1) _ _ hT hF hS m270 m396 m399 ls (lv_sub hl [0, 1, 2, 3, 4, 5, 6] rfl)
        exact key389 (7 - 0) 0 (by omega) (Nat.le_refl _) _ _ hT hF hS hm_jb ls (lv_sub hl [0, 1, 2, 3, 4, 5, 6] rfl)
      · have t511 : jb.toInt ≤ 5 := ti_nlt c267 (by decide) rfl
        refine lv_aload_n hx hb dX5_tryOrders_26 rfl (lv_at hl 0 rfl) ?_
        refine lv_iload hx hb dX5_tryOrders_27 (lv_at hl 5 rfl) ?_
        refine tw_put (v := .int la) (ty := .int) hx hb hts bF2_X5 tyX5 tyX5_ok nmX5 hown hK hT hG hS hr_o0 shc_8 rfl 16 (by decide) (ht_at2 hts 0 rfl) (fun _ h9 => h9) rfl (by decide +kernel) rfl rfl (gl_at rfl (gi_all _)) dX5_tryOrders_29 (fun H locs hT oq m512 oj hS => ?_)
        have hF := hF.put hr_o0 skc_8 oq oj (by decide)
        have m513 := (oj 15 (by decide) (by decide)).trans hm_jb
        refine lv_aload_n hx hb dX5_tryOrders_32 rfl (lv_at hl 0 rfl) ?_
        refine tw_get hx hb hts bF2_X5 hown hK hT hr_o0 shc_8 rfl 10 (by decide) (ht_at2 hts 9 rfl) (fun _ h9 => h9) dX5_tryOrders_33 (fun v9 m514 h9 => ?_)
        obtain ⟨b515, rfl, hg516⟩ := h9 _ rfl
        refine lv_iconst (v := 0) hx hb dX5_tryOrders_36 (by decide) ?_
        refine lv_aload_n hx hb dX5_tryOrders_37 rfl (lv_at hl 0 rfl) ?_
        refine tw_get hx hb hts bF2_X5 hown hK hT hr_o0 shc_8 rfl 11 (by decide) (ht_at2 hts 13 rfl) (fun _ h9 => h9) dX5_tryOrders_38 (fun v9 m517 h9 => ?_)
        obtain ⟨b518, rfl, hg519⟩ := h9 _ rfl
        refine lv_iconst (v := 0) hx hb dX5_tryOrders_41 (by decide) ?_
        refine lv_aload_n hx hb dX5_tryOrders_42 rfl (lv_at hl 0 rfl) ?_
        refine tw_getM (v := .int jb) hx hb hts bF2_X5 hown hK hT hr_o0 shc_8 rfl 15 (by decide) (ht_at2 hts 1 rfl) (fun _ h9 => h9) m513 dX5_tryOrders_43 ?_
        refine tw_copy (ty := .int) hx hb (hml.trans hl.1.symm) hown (ht_at2 hts 14 rfl) (ht_at2 hts 15 rfl) (ht_at2 hts 16 rfl) (ht_at2 hts 17 rfl) hK hT hG hS hg516 hg519 shc_68 shc_69 rfl rfl (by decide) (by decide) (fun h9 => by have q9 := ti_lt h9 rfl (show (0 : Int32).toInt = 0 from by decide); omega) (by have q9 := tn_of (show jb.toInt = jb.toInt from rfl) (by omega); have q8 : (0 : Int32).toNatClampNeg = 0 := (by decide); omega) (by have q9 := tn_of (show jb.toInt = jb.toInt from rfl) (by omega); have q8 : (0 : Int32).toNatClampNeg = 0 := (by decide); omega) (fun _ _ h9 => by obtain ⟨x9, e9, _⟩ := h9; exact ⟨x9, e9, rfl⟩) (fun _ _ _ h9 => by obtain ⟨x9, e9, a9, b9⟩ := h9; exact ⟨x9, e9, by omega, by omega⟩) (Nat.le_of_ble_eq_true rfl) (Nat.le_of_ble_eq_true rfl) dX5_tryOrders_46 (fun H locs hT oq hS => ?_)
        have hF := hF.ast hg519 skc_69 oq (by decide)
        exact W.vret hx hb hr (fun t ht hW => ⟨⟨(), rfl, (by exact trivial), by (try dsimp only); rw [ht]; exact ⟨hT, hF⟩⟩, hS.F ht⟩) hS.2.2 dX5_tryOrders_49
    · have t524 : x2.toInt ≤ la.toInt := ti_nlt c265 rfl rfl
      exact W.vret hx hb hr (fun t ht hW => ⟨⟨(), rfl, (by exact trivial), by (try dsimp only); rw [ht]; exact ⟨hT, hF⟩⟩, hS.F ht⟩) hS.2.2 dX5_tryOrders_17
def w_c_tryOrders4 : List Cond := .code yX5_tryOrders cX5_tryOrders 11 none :: (HAppend.hAppend (α := List Cond) (β := List Cond) (γ := List Cond) [.fieldLink RX5 157 "SeaLand$Plans" "bestLate" "I", .fieldLink RX5 154 "SeaLand$Plans" "jobs" "I", .fieldLink RX5 41 "SeaLand$Plans" "placed" "[Z", .fieldLink RX5 29 "SeaLand$Plans" "costs" "[I", .code yX5_yearWithCost cX5_yearWithCost 5 (some .int), .methodLink RX5 164 yX5_yearWithCost, .static yX5_yearWithCost, .initialized RX5, .fieldLink RX5 32 "SeaLand$Plans" "lasts" "[I", .fieldLink RX5 45 "SeaLand$Plans" "trial" "[I", .fieldLink RX5 35 "SeaLand$Plans" "incomes" "[I", .fieldLink RX5 38 "SeaLand$Plans" "acres" "[I", .code yX5_tryOrders cX5_tryOrders 11 none, .fieldLink RX5 48 "SeaLand$Plans" "best" "[I", .methodLink RX5 100 arraycopyName, .native arraycopyName, .static arraycopyName, .initialized "java/lang/System", .methodLink RX5 160 yX5_tryOrders, .instanceMethod yX5_tryOrders, .selects RX5 yX5_tryOrders yX5_tryOrders] bs2)
set_option maxHeartbeats 4000000 in
set_option maxRecDepth 100000 in
theorem c_tryOrders4 (l : Launch) (dC : Nat → ClassId) (dI : Nat → Nat → Nat) (kA : Nat → ClassId) (adK adV : Nat → Nat) (G : gT) (H0 : Heap) (nC nS : Int) (o0 : Nat) (yr : Int32) (co : Int64) (ic : Int32) (la : Int32) (jb : Int32)  (hT : gH (dC, dI) kA (SHc nC nS) G H0) (hr_o0 : G o0 = some 8) (hm_jb : el H0 o0 (dI 8 15) = some (.int jb)) (hq0 : 0 ≤ jb.toInt ∧ jb.toInt ≤ 7) (hgC : 0 ≤ nC ∧ nC ≤ 40) (hgS : 0 ≤ nS ∧ nS ≤ 60) : Met l yX5_tryOrders w_c_tryOrders4 ({ frames := 5, cells := 0, slots := 0, locals := 150 }) (va_Pc [.ref o0, .int 4, .int yr, .long co, .int ic, .int la] (fun U => U.heap = H0 ∧ va_K (dC, dI) vwCl (tyl kA) U ∧ EVC adK adV (gA G H0.size) U U.heap)) (va_Qv (fun (u : Unit) => True) (fun (_ : Unit) (t : State) => gH (dC, dI) kA (SHc nC nS) G t.heap ∧ gF (dC, dI) SKc G ([(8, 16), (67, 0), (68, 0), (69, 0)] : List (Nat × Nat)) H0 t.heap) (gA G H0.size)) 0 0 (gA G H0.size) := by
  refine Met.ofW (cc := cX5_tryOrders) (maxL := 11) (ret := none) (by decide) rfl ?_
  intro p e s m args below meth c s₁ B hml hv
  obtain ⟨rfl, hH0, hK, hE⟩ := hv
  have hx := B.exec
  have hb := B.bytes
  have hr := B.returns
  have hts := atoms_spec (ws := w_c_tryOrders4) B.pre
  have hown : s.vm.findClass RX5 = some m.cls := findClass_of_methodNamed B.named
  have hlocks := B.notSynchronized
  subst hH0
  generalize hAe : gA G s.heap.size = A at hE ⊢
  have hA : ∀ q : Nat, s.heap.size ≤ q → A q := fun q h => by rw [← hAe]; exact Or.inr h
  have hG := gA_of hAe
  have hS : va_S A s.heap s.heap [] := va_S.rf
  have hF : gF (dC, dI) SKc G ([(8, 16), (67, 0), (68, 0), (69, 0)] : List (Nat × Nat)) s.heap s.heap := gF.rf
  have hl := lv_entry ([.ref o0, .int 4, .int yr, .long co, .int ic, .int la]) (n := 11) (Nat.le_of_ble_eq_true rfl)
  rw [lg_entry_eq]
  generalize (lg_sl ([.ref o0, .int 4, .int yr, .long co, .int ic, .int la]) ++ List.replicate (11 - (lg_sl ([.ref o0, .int 4, .int yr, .long co, .int ic, .int la])).length) Slot.unset).toArray = ls at hl ⊢
  have hl : lv_has ls 11 [(0, .ref o0), (1, .int 4), (2, .int yr), (3, .long co), (5, .int ic), (6, .int la)] := hl
  refine lv_aload_n hx hb dX5_tryOrders_0 rfl (lv_at hl 0 rfl) ?_
  refine tw_get hx hb hts bF2_X5 hown hK hT hr_o0 shc_8 rfl 16 (by decide) (ht_at2 hts 0 rfl) (fun _ h9 => h9) dX5_tryOrders_1 (fun v9 m1 h9 => ?_)
  obtain ⟨x2, rfl, gx2, kx2⟩ := h9 _ rfl
  refine lv_iconst (v := (-1)) hx hb dX5_tryOrders_4 (by decide) ?_
  have t3 : -2147483648 ≤ x2.toInt ∧ x2.toInt ≤ 2147483647 := ti_all x2
  refine lv_icmp_eq (tgt := 18) hx hb dX5_tryOrders_5 (by decide) (fun c4 => ?_) (fun c4 => ?_)
  · have t5 : x2.toInt = (-1) := ti_eq c4 rfl (by decide)
    refine lv_iload_n hx hb dX5_tryOrders_18 rfl (lv_at hl 1 rfl) ?_
    refine lv_aload_n hx hb dX5_tryOrders_19 rfl (lv_at hl 0 rfl) ?_
    refine tw_getM (v := .int jb) hx hb hts bF2_X5 hown hK hT hr_o0 shc_8 rfl 15 (by decide) (ht_at2 hts 1 rfl) (fun _ h9 => h9) hm_jb dX5_tryOrders_20 ?_
    refine lv_icmp_lt (tgt := 50) hx hb dX5_tryOrders_23 (by decide) (fun c6 => ?_) (fun c6 => ?_)
    · have t7 : 4 < jb.toInt := ti_lt c6 (by decide) rfl
      refine lv_iconst (v := 0) hx hb dX5_tryOrders_50 (by decide) ?_
      refine lv_istore (lv' := [(7, .int 0), (0, .ref o0), (1, .int 4), (2, .int yr), (3, .long co), (5, .int ic), (6, .int la)]) hx hb dX5_tryOrders_51 hl (by decide) rfl (fun ls hl => ?_)
      have key128 : ∀ (n128 i8 : Nat), i8 + n128 = 7 → 0 ≤ i8 → ∀ (H : Heap) (locs : List Loc), gH (dC, dI) kA (SHc nC nS) G H → gF (dC, dI) SKc G ([(8, 16), (67, 0), (68, 0), (69, 0)] : List (Nat × Nat)) s.heap H → va_S A s.heap H locs → el H o0 (dI 8 15) = some (.int jb) → ∀ ls : Array Slot, lv_has ls 11 [(7, .int (nI i8)), (0, .ref o0), (1, .int 4), (2, .int yr), (3, .long co), (5, .int ic), (6, .int la)] → W p l e (headSpec w_c_tryOrders4 ({ frames := 5, cells := 0, slots := 0, locals := 150 })).room s m #[.ref o0, .int 4, .int yr, .long co, .int ic, .int la] below meth c H locs 0 0 (MQ below (va_Qv (fun (u : Unit) => True) (fun (_ : Unit) (t : State) => gH (dC, dI) kA (SHc nC nS) G t.heap ∧ gF (dC, dI) SKc G ([(8, 16), (67, 0), (68, 0), (69, 0)] : List (Nat × Nat)) s.heap t.heap) A) #[.ref o0, .int 4, .int yr, .long co, .int ic, .int la] s 0 0 A) (F0 m 53 ls []) := by
        intro n128
        induction n128 with
        | zero =>
          intro i8 hn128 hlo129  H locs hT hF hS m9 ls hl
          obtain rfl : 7 = i8 := by omega
          refine lv_iload hx hb dX5_tryOrders_53 (lv_at hl 0 rfl) ?_
          refine lv_aload_n hx hb dX5_tryOrders_55 rfl (lv_at hl 1 rfl) ?_
          refine tw_getM (v := .int jb) hx hb hts bF2_X5 hown hK hT hr_o0 shc_8 rfl 15 (by decide) (ht_at2 hts 1 rfl) (fun _ h9 => h9) m9 dX5_tryOrders_56 ?_
          refine lv_icmp_ge (tgt := 200) hx hb dX5_tryOrders_59 (by decide) (fun c130 => ?_) (fun c130 => (by exfalso; have q9 : ((7 : Nat) : Int) < jb.toInt := ti_nle c130 rfl (nI_toInt (by omega)); omega))
          have t131 : jb.toInt ≤ ((7 : Nat) : Int) := ti_le c130 rfl (nI_toInt (by omega))
          exact W.vret hx hb hr (fun t ht hW => ⟨⟨(), rfl, (by exact trivial), by (try dsimp only); rw [ht]; exact ⟨hT, hF⟩⟩, hS.F ht⟩) hS.2.2 dX5_tryOrders_200
        | succ n128 ih128 =>
          intro i8 hn128 hlo129  H locs hT hF hS m9 ls hl
          have hlt131 : i8 < 7 := by omega
          refine lv_iload hx hb dX5_tryOrders_53 (lv_at hl 0 rfl) ?_
          refine lv_aload_n hx hb dX5_tryOrders_55 rfl (lv_at hl 1 rfl) ?_
          refine tw_getM (v := .int jb) hx hb hts bF2_X5 hown hK hT hr_o0 shc_8 rfl 15 (by decide) (ht_at2 hts 1 rfl) (fun _ h9 => h9) m9 dX5_tryOrders_56 ?_
          refine lv_icmp_ge (tgt := 200) hx hb dX5_tryOrders_59 (by decide) (fun c132 => ?_) (fun c132 => ?_)
          · have t133 : jb.toInt ≤ ((i8 : Nat) : Int) := ti_le c132 rfl (nI_toInt (by omega))
            exact W.vret hx hb hr (fun t ht hW => ⟨⟨(), rfl, (by exact trivial), by (try dsimp only); rw [ht]; exact ⟨hT, hF⟩⟩, hS.F ht⟩) hS.2.2 dX5_tryOrders_200
          · have t134 : ((i8 : Nat) : Int) < jb.toInt := ti_nle c132 rfl (nI_toInt (by omega))
            refine lv_aload_n hx hb dX5_tryOrders_62 rfl (lv_at hl 1 rfl) ?_
            refine tw_get hx hb hts bF2_X5 hown hK hT hr_o0 shc_8 rfl 9 (by decide) (ht_at2 hts 2 rfl) (fun _ h9 => h9) dX5_tryOrders_63 (fun v9 m135 h9 => ?_)
            obtain ⟨b136, rfl, hg137⟩ := h9 _ rfl
            refine lv_iload hx hb dX5_tryOrders_66 (lv_at hl 0 rfl) ?_
            refine tw_zald (i := (nI i8)) hx hb hK hT hg137 shc_67 rfl (vp_in_nI (by omega) (by decide)) dX5_tryOrders_68 (fun v9 m138 h9 => ?_)
            obtain ⟨x139, rfl, gx139, kx139⟩ := h9
            have jn162 : ∀ (z158 : Int32), ∀ (H : Heap) (locs : List Loc), gH (dC, dI) kA (SHc nC nS) G H → gF (dC, dI) SKc G ([(8, 16), (67, 0), (68, 0), (69, 0)] : List (Nat × Nat)) s.heap H → va_S A s.heap H locs → el H o0 (dI 8 15) = some (.int jb) → el H o0 (dI 8 9) = some (.ref b136) → el H b136 (nI i8).toNatClampNeg = some (.int x139) → ∀ ls : Array Slot, lv_has ls 11 [(7, .int (nI i8)), (0, .ref o0), (1, .int 4), (2, .int yr), (3, .long co), (5, .int ic), (6, .int la)] → W p l e (headSpec w_c_tryOrders4 ({ frames := 5, cells := 0, slots := 0, locals := 150 })).room s m #[.ref o0, .int 4, .int yr, .long co, .int ic, .int la] below meth c H locs 0 0 (MQ below (va_Qv (fun (u : Unit) => True) (fun (_ : Unit) (t : State) => gH (dC, dI) kA (SHc nC nS) G t.heap ∧ gF (dC, dI) SKc G ([(8, 16), (67, 0), (68, 0), (69, 0)] : List (Nat × Nat)) s.heap t.heap) A) #[.ref o0, .int 4, .int yr, .long co, .int ic, .int la] s 0 0 A) (F0 m 98 ls [.int z158]) := by
              intro z158 H locs hT hF hS m159 m160 m161 ls hl
              refine lv_istore (lv' := [(8, .int z158), (7, .int (nI i8)), (0, .ref o0), (1, .int 4), (2, .int yr), (3, .long co), (5, .int ic), (6, .int la)]) hx hb dX5_tryOrders_98 hl (by decide) rfl (fun ls hl => ?_)
              refine lv_iload hx hb dX5_tryOrders_100 (lv_at hl 0 rfl) ?_
              refine lv_iconst (v := (-1)) hx hb dX5_tryOrders_102 (by decide) ?_
              have t163 : -2147483648 ≤ z158.toInt ∧ z158.toInt ≤ 2147483647 := ti_all z158
              refine lv_icmp_eq (tgt := 194) hx hb dX5_tryOrders_103 (by decide) (fun c164 => ?_) (fun c164 => ?_)
              · have t165 : z158.toInt = (-1) := ti_eq c164 rfl (by decide)
                refine lv_iinc (v := nI (i8 + 1)) (lv' := [(7, .int (nI (i8 + 1))), (8, .int z158), (0, .ref o0), (1, .int 4), (2, .int yr), (3, .long co), (5, .int ic), (6, .int la)]) hx hb dX5_tryOrders_194 hl (k := 1) rfl (nI_add i8 1) (by decide) rfl (fun ls hl => ?_)
                refine lv_goto (tgt := 53) hx hb dX5_tryOrders_197 (by decide) ?_
                exact ih128 (i8 + 1) (by omega) (by omega) _ _ hT hF hS m159 ls (lv_sub hl [0, 2, 3, 4, 5, 6, 7] rfl)
              · have t166 : z158.toInt ≠ (-1) := ti_ne c164 rfl (by decide)
                refine lv_iload hx hb dX5_tryOrders_106 (lv_at hl 0 rfl) ?_
                refine lv_sipush (v := 200) hx hb dX5_tryOrders_108 (by decide) ?_
                refine lv_icmp_gt (tgt := 194) hx hb dX5_tryOrders_111 (by decide) (fun c167 => ?_) (fun c167 => ?_)
                · have t168 : 200 < z158.toInt := ti_lt c167 (by decide) rfl
                  refine lv_iinc (v := nI (i8 + 1)) (lv' := [(7, .int (nI (i8 + 1))), (8, .int z158), (0, .ref o0), (1, .int 4), (2, .int yr), (3, .long co), (5, .int ic), (6, .int la)]) hx hb dX5_tryOrders_194 hl (k := 1) rfl (nI_add i8 1) (by decide) rfl (fun ls hl => ?_)
                  refine lv_goto (tgt := 53) hx hb dX5_tryOrders_197 (by decide) ?_
                  exact ih128 (i8 + 1) (by omega) (by omega) _ _ hT hF hS m159 ls (lv_sub hl [0, 2, 3, 4, 5, 6, 7] rfl)
                · have t169 : z158.toInt ≤ 200 := ti_nlt c167 (by decide) rfl
                  refine lv_lload_n hx hb dX5_tryOrders_114 rfl (lv_at hl 5 rfl) ?_
                  refine lv_iload hx hb dX5_tryOrders_115 (lv_at hl 6 rfl) ?_
                  refine lv_i2l (v := ic.toInt64) hx hb dX5_tryOrders_117 rfl ?_
                  refine lv_iload hx hb dX5_tryOrders_118 (lv_at hl 0 rfl) ?_
                  refine lv_iload_n hx hb dX5_tryOrders_120 rfl (lv_at hl 4 rfl) ?_
                  refine lv_isub hx hb dX5_tryOrders_121 ?_
                  refine lv_topi (fun x170 ex170 => ?_)
                  refine lv_i2l (v := x170.toInt64) hx hb dX5_tryOrders_122 rfl ?_
                  refine lv_lmul hx hb dX5_tryOrders_123 ?_
                  refine lv_topl (fun y171 _ => ?_)
                  refine lv_ladd hx hb dX5_tryOrders_124 ?_
                  refine lv_topl (fun y172 _ => ?_)
                  refine lv_aload_n hx hb dX5_tryOrders_125 rfl (lv_at hl 2 rfl) ?_
                  refine tw_get hx hb hts bF2_X5 hown hK hT hr_o0 shc_8 rfl 5 (by decide) (ht_at2 hts 3 rfl) (fun _ h9 => h9) dX5_tryOrders_126 (fun v9 m173 h9 => ?_)
                  obtain ⟨b174, rfl, hg175⟩ := h9 _ rfl
                  refine lv_iload hx hb dX5_tryOrders_129 (lv_at hl 1 rfl) ?_
                  refine tw_iald (i := (nI i8)) hx hb hK hT hg175 shc_63 rfl (vp_in_nI (by omega) (by decide)) dX5_tryOrders_131 (fun v9 m176 h9 => ?_)
                  obtain ⟨x177, rfl, gx177, kx177⟩ := h9
                  refine lv_i2l (v := x177.toInt64) hx hb dX5_tryOrders_132 rfl ?_
                  refine lv_lsub hx hb dX5_tryOrders_133 ?_
                  refine lv_topl (fun y178 _ => ?_)
                  refine lv_lstore (lv' := [(9, .long y178), (8, .int z158), (7, .int (nI i8)), (0, .ref o0), (1, .int 4), (2, .int yr), (3, .long co), (5, .int ic), (6, .int la)]) hx hb dX5_tryOrders_134 hl (by decide) rfl (fun ls hl => ?_)
                  refine lv_aload_n hx hb dX5_tryOrders_136 rfl (lv_at hl 3 rfl) ?_
                  refine tw_getM (v := .ref b136) hx hb hts bF2_X5 hown hK hT hr_o0 shc_8 rfl 9 (by decide) (ht_at2 hts 2 rfl) (fun _ h9 => h9) m160 dX5_tryOrders_137 ?_
                  refine lv_iload hx hb dX5_tryOrders_140 (lv_at hl 2 rfl) ?_
                  refine lv_iconst (v := 1) hx hb dX5_tryOrders_142 (by decide) ?_
                  refine tw_zast (i := (nI i8)) (x := 1) hx hb hK hT hG hS hg137 shc_67 rfl (vp_in_nI (by omega) (by decide)) (gi_z (rg_t (a := 1) (by decide) (by first | decide | omega) (by first | decide | omega)) (by decide) (by decide)) dX5_tryOrders_143 (fun H locs hT oq m179 oi hS => ?_)
                  have hF := hF.ast hg137 skc_67 oq (by decide)
                  have m180 := (el_kept (oq _ (gne hr_o0 hg137 (by decide)))).trans m159
                  have m181 := (el_kept (oq _ (gne hr_o0 hg137 (by decide)))).trans m160
                  refine lv_aload_n hx hb dX5_tryOrders_144 rfl (lv_at hl 3 rfl) ?_
                  refine tw_get hx hb hts bF2_X5 hown hK hT hr_o0 shc_8 rfl 10 (by decide) (ht_at2 hts 9 rfl) (fun _ h9 => h9) dX5_tryOrders_145 (fun v9 m184 h9 => ?_)
                  obtain ⟨b185, rfl, hg186⟩ := h9 _ rfl
                  refine lv_iload_n hx hb dX5_tryOrders_148 rfl (lv_at hl 4 rfl) ?_
                  refine lv_iload hx hb dX5_tryOrders_149 (lv_at hl 2 rfl) ?_
                  refine tw_iast (i := 4) (x := (nI i8)) hx hb hK hT hG hS hg186 shc_68 rfl (by unfold vp_in; decide) (gi_of (show (nI i8).toInt = ((i8 : Nat) : Int) from (nI_toInt (by omega))) (by omega) (by omega)) dX5_tryOrders_151 (fun H locs hT oq m187 oi hS => ?_)
                  have hF := hF.ast hg186 skc_68 oq (by decide)
                  have m188 := (el_kept (oq _ (gne hr_o0 hg186 (by decide)))).trans m180
                  have m189 := (el_kept (oq _ (gne hr_o0 hg186 (by decide)))).trans m181
                  refine lv_aload_n hx hb dX5_tryOrders_152 rfl (lv_at hl 3 rfl) ?_
                  refine lv_iload_n hx hb dX5_tryOrders_153 rfl (lv_at hl 4 rfl) ?_
                  refine lv_iconst (v := 1) hx hb dX5_tryOrders_154 (by decide) ?_
                  refine lv_iadd hx hb dX5_tryOrders_155 ?_
                  refine lv_topi (fun x193 ex193 => ?_)
                  obtain rfl : x193 = 5 := ex193.trans (by decide)
                  refine lv_iload hx hb dX5_tryOrders_156 (lv_at hl 1 rfl) ?_
                  refine lv_lload hx hb dX5_tryOrders_158 (lv_at hl 0 rfl) ?_
                  refine lv_iload hx hb dX5_tryOrders_160 (lv_at hl 7 rfl) ?_
                  refine lv_aload_n hx hb dX5_tryOrders_162 rfl (lv_at hl 3 rfl) ?_
                  refine tw_get hx hb hts bF2_X5 hown hK hT hr_o0 shc_8 rfl 7 (by decide) (ht_at2 hts 10 rfl) (fun _ h9 => h9) dX5_tryOrders_163 (fun v9 m194 h9 => ?_)
                  obtain ⟨b195, rfl, hg196⟩ := h9 _ rfl
                  refine lv_iload hx hb dX5_tryOrders_166 (lv_at hl 2 rfl) ?_
                  refine tw_iald (i := (nI i8)) hx hb hK hT hg196 shc_65 rfl (vp_in_nI (by omega) (by decide)) dX5_tryOrders_168 (fun v9 m197 h9 => ?_)
                  obtain ⟨x198, rfl, gx198, kx198⟩ := h9
                  refine lv_iadd hx hb dX5_tryOrders_169 ?_
                  refine lv_topi (fun x199 ex199 => ?_)
                  refine lv_iload hx hb dX5_tryOrders_170 (lv_at hl 8 rfl) ?_
                  refine lv_aload_n hx hb dX5_tryOrders_172 rfl (lv_at hl 3 rfl) ?_
                  refine tw_get hx hb hts bF2_X5 hown hK hT hr_o0 shc_8 rfl 8 (by decide) (ht_at2 hts 11 rfl) (fun _ h9 => h9) dX5_tryOrders_173 (fun v9 m200 h9 => ?_)
                  obtain ⟨b201, rfl, hg202⟩ := h9 _ rfl
                  refine lv_iload hx hb dX5_tryOrders_176 (lv_at hl 2 rfl) ?_
                  refine tw_iald (i := (nI i8)) hx hb hK hT hg202 shc_66 rfl (vp_in_nI (by omega) (by decide)) dX5_tryOrders_178 (fun v9 m203 h9 => ?_)
                  obtain ⟨x204, rfl, gx204, kx204⟩ := h9
                  refine lv_iload hx hb dX5_tryOrders_179 (lv_at hl 1 rfl) ?_
                  refine lv_imul hx hb dX5_tryOrders_181 ?_
                  refine lv_topi (fun x205 ex205 => ?_)
                  refine lv_iadd hx hb dX5_tryOrders_182 ?_
                  refine lv_topi (fun x206 ex206 => ?_)
                  have hFc := gA_free hG hA hS
                  refine va_callv (va_runV (As := [.int 5, .int z158, .long y178, .int x199, .int x206]) (rest := []) ⟨hx, hb, hml, hown, hts⟩ (c_tryOrders5 l dC dI kA adK adV G H nC nS o0 z158 y178 x199 x206 jb hT hr_o0 m188 (by have q8 := ti_all jb; omega) (by omega) (by omega)) (cwV 5 hts (goodIn_app (goodIn_r _ [19, 20, 21, 8] rfl (by decide +kernel)) (goodIn_ca (goodIn_r _ [13, 1, 2, 3, 4, 5, 6, 7, 8, 9, 10, 11, 12, 13, 14, 15, 16, 17, 18, 19, 20, 21] rfl (by decide +kernel)) (bs2_in _ _))) rfl rfl rfl (by decide +kernel) ⟨(Nat.le_of_ble_eq_true rfl), (Nat.le_of_ble_eq_true rfl)⟩) ⟨fun a U g mk q => by obtain ⟨q0, q1, qK, qE⟩ := q; exact ⟨q0, q1, va_K.moved (u := U) (U := U.calling g mk a) (Vm.Alike.refl U.vm) qK, EVC.blind g mk a qE⟩, gH_rc hK hT hr_o0 shc_8 rfl, fun U hU hW => ⟨rfl, hU, va_K.moved hW.alike hK, hE.call hS hFc hU hW⟩⟩ rfl rfl hl.1 rfl (lv_room (Nat.le_of_ble_eq_true rfl)) dX5_tryOrders_183 ⟨(Nat.le_of_ble_eq_true rfl), (Nat.le_of_ble_eq_true rfl)⟩) hS (fun q _ h => hFc q h) hFc (fun u t H locs ht hvm hw208 hB _ _ hS => ?_)
                  obtain ⟨hT, hF1⟩ := hB
                  rw [ht] at hT hF1
                  have m209 := (hF1.fld hr_o0 skc_8 (k := 15) (by decide) (by decide)).trans m188
                  have m210 := (hF1.fld hr_o0 skc_8 (k := 9) (by decide) (by decide)).trans m189
                  have hF := hF.more hF1 (by decide)
                  try dsimp only at hw208
                  refine lv_aload_n hx hb dX5_tryOrders_186 rfl (lv_at hl 3 rfl) ?_
                  refine tw_getM (v := .ref b136) hx hb hts bF2_X5 hown hK hT hr_o0 shc_8 rfl 9 (by decide) (ht_at2 hts 2 rfl) (fun _ h9 => h9) m210 dX5_tryOrders_187 ?_
                  refine lv_iload hx hb dX5_tryOrders_190 (lv_at hl 2 rfl) ?_
                  refine lv_iconst (v := 0) hx hb dX5_tryOrders_192 (by decide) ?_
                  refine tw_zast (i := (nI i8)) (x := 0) hx hb hK hT hG hS hg137 shc_67 rfl (vp_in_nI (by omega) (by decide)) (gi_z (rg_t (a := 0) (by decide) (by first | decide | omega) (by first | decide | omega)) (by decide) (by decide)) dX5_tryOrders_193 (fun H locs hT oq m219 oi hS => ?_)
                  have hF := hF.ast hg137 skc_67 oq (by decide)
                  have m220 := (el_kept (oq _ (gne hr_o0 hg137 (by decide)))).trans m209
                  refine lv_iinc (v := nI (i8 + 1)) (lv' := [(7, .int (nI (i8 + 1))), (9, .long y178), (8, .int z158), (0, .ref o0), (1, .int 4), (2, .int yr), (3, .long co), (5, .int ic), (6, .int la)]) hx hb dX5_tryOrders_194 hl (k := 2) rfl (nI_add i8 1) (by decide) rfl (fun ls hl => ?_)
                  refine lv_goto (tgt := 53) hx hb dX5_tryOrders_197 (by decide) ?_
                  exact ih128 (i8 + 1) (by omega) (by omega) _ _ hT hF hS m220 ls (lv_sub hl [0, 3, 4, 5, 6, 7, 8] rfl)
            refine lv_if_eq (tgt := 76) hx hb dX5_tryOrders_69 (by decide) (fun c229 => ?_) (fun c229 => ?_)
            · have t230 : x139.toInt = 0 := ti_eq c229 rfl (by decide)
              refine lv_iload_n hx hb dX5_tryOrders_76 rfl (lv_at hl 3 rfl) ?_
              refine lv_lload_n hx hb dX5_tryOrders_77 rfl (lv_at hl 4 rfl) ?_
              refine lv_iload hx hb dX5_tryOrders_78 (lv_at hl 5 rfl) ?_
              refine lv_aload_n hx hb dX5_tryOrders_80 rfl (lv_at hl 1 rfl) ?_
              refine tw_get hx hb hts bF2_X5 hown hK hT hr_o0 shc_8 rfl 5 (by decide) (ht_at2 hts 3 rfl) (fun _ h9 => h9) dX5_tryOrders_81 (fun v9 m231 h9 => ?_)
              obtain ⟨b232, rfl, hg233⟩ := h9 _ rfl
              refine lv_iload hx hb dX5_tryOrders_84 (lv_at hl 0 rfl) ?_
              refine tw_iald (i := (nI i8)) hx hb hK hT hg233 shc_63 rfl (vp_in_nI (by omega) (by decide)) dX5_tryOrders_86 (fun v9 m234 h9 => ?_)
              obtain ⟨x235, rfl, gx235, kx235⟩ := h9
              have hFc := gA_free hG hA hS
              refine va_calli (va_runS (As := [.int yr, .long co, .int ic, .int x235]) (rest := []) ⟨hx, hb, hml, hown, hts⟩ (c_yearWithCost l dC dI kA adK adV G H nC nS yr co ic x235 hT (by omega) (by omega)) (va_cwS 4 hts (goodIn_app (goodIn_r _ [6, 7, 8] rfl (by decide +kernel)) (goodIn_ca (goodIn_r _ [5] rfl (by decide +kernel)) (bs2_in _ _))) rfl rfl rfl (by decide +kernel) ⟨(Nat.le_of_ble_eq_true rfl), (Nat.le_of_ble_eq_true rfl)⟩) ⟨fun a U g mk q => by obtain ⟨q0, q1, qK, qE⟩ := q; exact ⟨q0, q1, va_K.moved (u := U) (U := U.calling g mk a) (Vm.Alike.refl U.vm) qK, EVC.blind g mk a qE⟩, fun U hU hW => ⟨rfl, hU, va_K.moved hW.alike hK, hE.call hS hFc hU hW⟩⟩ rfl rfl hl.1 rfl (lv_room (Nat.le_of_ble_eq_true rfl)) dX5_tryOrders_87 ⟨(Nat.le_of_ble_eq_true rfl), (Nat.le_of_ble_eq_true rfl)⟩) hS (fun q _ h => hFc q h) hFc (fun r236 u t H locs ht hvm hw237 hB _ _ hS => ?_)
              obtain ⟨hT, hF1⟩ := hB
              rw [ht] at hT hF1
              have m238 := (hF1.fld hr_o0 skc_8 (k := 15) (by decide) (by decide)).trans m9
              have m239 := (hF1.fld hr_o0 skc_8 (k := 9) (by decide) (by decide)).trans m135
              have m240 := (el_kept (hF1.arr hg137 skc_67 (by decide))).trans m138
              have hF := hF.more hF1 (by decide)
              try dsimp only at hw237
              refine lv_aload_n hx hb dX5_tryOrders_90 rfl (lv_at hl 1 rfl) ?_
              refine tw_get hx hb hts bF2_X5 hown hK hT hr_o0 shc_8 rfl 6 (by decide) (ht_at2 hts 8 rfl) (fun _ h9 => h9) dX5_tryOrders_91 (fun v9 m243 h9 => ?_)
              obtain ⟨b244, rfl, hg245⟩ := h9 _ rfl
              refine lv_iload hx hb dX5_tryOrders_94 (lv_at hl 0 rfl) ?_
              refine tw_iald (i := (nI i8)) hx hb hK hT hg245 shc_64 rfl (vp_in_nI (by omega) (by decide)) dX5_tryOrders_96 (fun v9 m246 h9 => ?_)
              obtain ⟨x247, rfl, gx247, kx247⟩ := h9
              refine lv_iadd hx hb dX5_tryOrders_97 ?_
              refine lv_topi (fun x248 ex248 => ?_)
              exact jn162 x248 _ _ hT hF hS m238 m239 m240 ls (lv_sub hl [0, 1, 2, 3, 4, 5, 6] rfl)
            · have t249 : x139.toInt ≠ 0 := ti_ne c229 rfl (by decide)
              refine lv_iconst (v := (-1)) hx hb dX5_tryOrders_72 (by decide) ?_
              refine lv_goto (tgt := 98) hx hb dX5_tryOrders_73 (by decide) ?_
              exact jn162 (-1) _ _ hT hF hS m9 m135 m138 ls (lv_sub hl [0, 1, 2, 3, 4, 5, 6] rfl)
      exact key128 (7 - 0) 0 (by omega) (Nat.le_refl _) _ _ hT hF hS hm_jb ls (lv_sub hl [0, 1, 2, 3, 4, 5, 6] rfl)
    · have t250 : jb.toInt ≤ 4 := ti_nlt c6 (by decide) rfl
      refine lv_aload_n hx hb dX5_tryOrders_26 rfl (lv_at hl 0 rfl) ?_
      refine lv_iload hx hb dX5_tryOrders_27 (lv_at hl 5 rfl) ?_
      refine tw_put (v := .int la) (ty := .int) hx hb hts bF2_X5 tyX5 tyX5_ok nmX5 hown hK hT hG hS hr_o0 shc_8 rfl 16 (by decide) (ht_at2 hts 0 rfl) (fun _ h9 => h9) rfl (by decide +kernel) rfl rfl (gl_at rfl (gi_all _)) dX5_tryOrders_29 (fun H locs hT oq m251 oj hS => ?_)
      have hF := hF.put hr_o0 skc_8 oq oj (by decide)
      have m252 := (oj 15 (by decide) (by decide)).trans hm_jb
      refine lv_aload_n hx hb dX5_tryOrders_32 rfl (lv_at hl 0 rfl) ?_
      refine tw_get hx hb hts bF2_X5 hown hK hT hr_o0 shc_8 rfl 10 (by decide) (ht_at2 hts 9 rfl) (fun _ h9 => h9) dX5_tryOrders_33 (fun v9 m253 h9 => ?_)
      obtain ⟨b254, rfl, hg255⟩ := h9 _ rfl
      refine lv_iconst (v := 0) hx hb dX5_tryOrders_36 (by decide) ?_
      refine lv_aload_n hx hb dX5_tryOrders_37 rfl (lv_at hl 0 rfl) ?_
      refine tw_get hx hb hts bF2_X5 hown hK hT hr_o0 shc_8 rfl 11 (by decide) (ht_at2 hts 13 rfl) (fun _ h9 => h9) dX5_tryOrders_38 (fun v9 m256 h9 => ?_)
      obtain ⟨b257, rfl, hg258⟩ := h9 _ rfl
      refine lv_iconst (v := 0) hx hb dX5_tryOrders_41 (by decide) ?_
      refine lv_aload_n hx hb dX5_tryOrders_42 rfl (lv_at hl 0 rfl) ?_
      refine tw_getM (v := .int jb) hx hb hts bF2_X5 hown hK hT hr_o0 shc_8 rfl 15 (by decide) (ht_at2 hts 1 rfl) (fun _ h9 => h9) m252 dX5_tryOrders_43 ?_
      refine tw_copy (ty := .int) hx hb (hml.trans hl.1.symm) hown (ht_at2 hts 14 rfl) (ht_at2 hts 15 rfl) (ht_at2 hts 16 rfl) (ht_at2 hts 17 rfl) hK hT hG hS hg255 hg258 shc_68 shc_69 rfl rfl (by decide) (by decide) (fun h9 => by have q9 := ti_lt h9 rfl (show (0 : Int32).toInt = 0 from by decide); omega) (by have q9 := tn_of (show jb.toInt = jb.toInt from rfl) (by omega); have q8 : (0 : Int32).toNatClampNeg = 0 := (by decide); omega) (by have q9 := tn_of (show jb.toInt = jb.toInt from rfl) (by omega); have q8 : (0 : Int32).toNatClampNeg = 0 := (by decide); omega) (fun _ _ h9 => by obtain ⟨x9, e9, _⟩ := h9; exact ⟨x9, e9, rfl⟩) (fun _ _ _ h9 => by obtain ⟨x9, e9, a9, b9⟩ := h9; exact ⟨x9, e9, by omega, by omega⟩) (Nat.le_of_ble_eq_true rfl) (Nat.le_of_ble_eq_true rfl) dX5_tryOrders_46 (fun H locs hT oq hS => ?_)
      have hF := hF.ast hg258 skc_69 oq (by decide)
      exact W.vret hx hb hr (fun t ht hW => ⟨⟨(), rfl, (by exact trivial), by (try dsimp only); rw [ht]; exact ⟨hT, hF⟩⟩, hS.F ht⟩) hS.2.2 dX5_tryOrders_49
  · have t263 : x2.toInt ≠ (-1) := ti_ne c4 rfl (by decide)
    refine lv_iload hx hb dX5_tryOrders_8 (lv_at hl 5 rfl) ?_
    refine lv_aload_n hx hb dX5_tryOrders_10 rfl (lv_at hl 0 rfl) ?_
    refine tw_getM (v := .int x2) hx hb hts bF2_X5 hown hK hT hr_o0 shc_8 rfl 16 (by decide) (ht_at2 hts 0 rfl) (fun _ h9 => h9) m1 dX5_tryOrders_11 ?_
    have t264 : -2147483648 ≤ la.toInt ∧ la.toInt ≤ 2147483647 := ti_all la
    refine lv_icmp_lt (tgt := 18) hx hb dX5_tryOrders_14 (by decide) (fun c265 => ?_) (fun c265 => ?_)
    · have t266 : la.toInt < x2.toInt := ti_lt c265 rfl rfl
      refine lv_iload_n hx hb dX5_tryOrders_18 rfl (lv_at hl 1 rfl) ?_
      refine lv_aload_n hx hb dX5_tryOrders_19 rfl (lv_at hl 0 rfl) ?_
      refine tw_getM (v := .int jb) hx hb hts bF2_X5 hown hK hT hr_o0 shc_8 rfl 15 (by decide) (ht_at2 hts 1 rfl) (fun _ h9 => h9) hm_jb dX5_tryOrders_20 ?_
      refine lv_icmp_lt (tgt := 50) hx hb dX5_tryOrders_23 (by decide) (fun c267 => ?_) (fun c267 => ?_)
      · have t268 : 4 < jb.toInt := ti_lt c267 (by decide) rfl
        refine lv_iconst (v := 0) hx hb dX5_tryOrders_50 (by decide) ?_
        refine lv_istore (lv' := [(7, .int 0), (0, .ref o0), (1, .int 4), (2, .int yr), (3, .long co), (5, .int ic), (6, .int la)]) hx hb dX5_tryOrders_51 hl (by decide) rfl (fun ls hl => ?_)
        have key389 : ∀ (n389 i269 : Nat), i269 + n389 = 7 → 0 ≤ i269 → ∀ (H : Heap) (locs : List Loc), gH (dC, dI) kA (SHc nC nS) G H → gF (dC, dI) SKc G ([(8, 16), (67, 0), (68, 0), (69, 0)] : List (Nat × Nat)) s.heap H → va_S A s.heap H locs → el H o0 (dI 8 15) = some (.int jb) → ∀ ls : Array Slot, lv_has ls 11 [(7, .int (nI i269)), (0, .ref o0), (1, .int 4), (2, .int yr), (3, .long co), (5, .int ic), (6, .int la)] → W p l e (headSpec w_c_tryOrders4 ({ frames := 5, cells := 0, slots := 0, locals := 150 })).room s m #[.ref o0, .int 4, .int yr, .long co, .int ic, .int la] below meth c H locs 0 0 (MQ below (va_Qv (fun (u : Unit) => True) (fun (_ : Unit) (t : State) => gH (dC, dI) kA (SHc nC nS) G t.heap ∧ gF (dC, dI) SKc G ([(8, 16), (67, 0), (68, 0), (69, 0)] : List (Nat × Nat)) s.heap t.heap) A) #[.ref o0, .int 4, .int yr, .long co, .int ic, .int la] s 0 0 A) (F0 m 53 ls []) := by
          intro n389
          induction n389 with
          | zero =>
            intro i269 hn389 hlo390  H locs hT hF hS m270 ls hl
            obtain rfl : 7 = i269 := by omega
            refine lv_iload hx hb dX5_tryOrders_53 (lv_at hl 0 rfl) ?_
            refine lv_aload_n hx hb dX5_tryOrders_55 rfl (lv_at hl 1 rfl) ?_
            refine tw_getM (v := .int jb) hx hb hts bF2_X5 hown hK hT hr_o0 shc_8 rfl 15 (by decide) (ht_at2 hts 1 rfl) (fun _ h9 => h9) m270 dX5_tryOrders_56 ?_
            refine lv_icmp_ge (tgt := 200) hx hb dX5_tryOrders_59 (by decide) (fun c391 => ?_) (fun c391 => (by exfalso; have q9 : ((7 : Nat) : Int) < jb.toInt := ti_nle c391 rfl (nI_toInt (by omega)); omega))
            have t392 : jb.toInt ≤ ((7 : Nat) : Int) := ti_le c391 rfl (nI_toInt (by omega))
            exact W.vret hx hb hr (fun t ht hW => ⟨⟨(), rfl, (by exact trivial), by (try dsimp only); rw [ht]; exact ⟨hT, hF⟩⟩, hS.F ht⟩) hS.2.2 dX5_tryOrders_200
          | succ n389 ih389 =>
            intro i269 hn389 hlo390  H locs hT hF hS m270 ls hl
            have hlt392 : i269 < 7 := by omega
            refine lv_iload hx hb dX5_tryOrders_53 (lv_at hl 0 rfl) ?_
            refine lv_aload_n hx hb dX5_tryOrders_55 rfl (lv_at hl 1 rfl) ?_
            refine tw_getM (v := .int jb) hx hb hts bF2_X5 hown hK hT hr_o0 shc_8 rfl 15 (by decide) (ht_at2 hts 1 rfl) (fun _ h9 => h9) m270 dX5_tryOrders_56 ?_
            refine lv_icmp_ge (tgt := 200) hx hb dX5_tryOrders_59 (by decide) (fun c393 => ?_) (fun c393 => ?_)
            · have t394 : jb.toInt ≤ ((i269 : Nat) : Int) := ti_le c393 rfl (nI_toInt (by omega))
              exact W.vret hx hb hr (fun t ht hW => ⟨⟨(), rfl, (by exact trivial), by (try dsimp only); rw [ht]; exact ⟨hT, hF⟩⟩, hS.F ht⟩) hS.2.2 dX5_tryOrders_200
            · have t395 : ((i269 : Nat) : Int) < jb.toInt := ti_nle c393 rfl (nI_toInt (by omega))
              refine lv_aload_n hx hb dX5_tryOrders_62 rfl (lv_at hl 1 rfl) ?_
              refine tw_get hx hb hts bF2_X5 hown hK hT hr_o0 shc_8 rfl 9 (by decide) (ht_at2 hts 2 rfl) (fun _ h9 => h9) dX5_tryOrders_63 (fun v9 m396 h9 => ?_)
              obtain ⟨b397, rfl, hg398⟩ := h9 _ rfl
              refine lv_iload hx hb dX5_tryOrders_66 (lv_at hl 0 rfl) ?_
              refine tw_zald (i := (nI i269)) hx hb hK hT hg398 shc_67 rfl (vp_in_nI (by omega) (by decide)) dX5_tryOrders_68 (fun v9 m399 h9 => ?_)
              obtain ⟨x400, rfl, gx400, kx400⟩ := h9
              have jn423 : ∀ (z419 : Int32), ∀ (H : Heap) (locs : List Loc), gH (dC, dI) kA (SHc nC nS) G H → gF (dC, dI) SKc G ([(8, 16), (67, 0), (68, 0), (69, 0)] : List (Nat × Nat)) s.heap H → va_S A s.heap H locs → el H o0 (dI 8 15) = some (.int jb) → el H o0 (dI 8 9) = some (.ref b397) → el H b397 (nI i269).toNatClampNeg = some (.int x400) → ∀ ls : Array Slot, lv_has ls 11 [(7, .int (nI i269)), (0, .ref o0), (1, .int 4), (2, .int yr), (3, .long co), (5, .int ic), (6, .int la)] → W p l e (headSpec w_c_tryOrders4 ({ frames := 5, cells := 0, slots := 0, locals := 150 })).room s m #[.ref o0, .int 4, .int yr, .long co, .int ic, .int la] below meth c H locs 0 0 (MQ below (va_Qv (fun (u : Unit) => True) (fun (_ : Unit) (t : State) => gH (dC, dI) kA (SHc nC nS) G t.heap ∧ gF (dC, dI) SKc G ([(8, 16), (67, 0), (68, 0), (69, 0)] : List (Nat × Nat)) s.heap t.heap) A) #[.ref o0, .int 4, .int yr, .long co, .int ic, .int la] s 0 0 A) (F0 m 98 ls [.int z419]) := by
                intro z419 H locs hT hF hS m420 m421 m422 ls hl
                refine lv_istore (lv' := [(8, .int z419), (7, .int (nI i269)), (0, .ref o0), (1, .int 4), (2, .int yr), (3, .long co), (5, .int ic), (6, .int la)]) hx hb dX5_tryOrders_98 hl (by decide) rfl (fun ls hl => ?_)
                refine lv_iload hx hb dX5_tryOrders_100 (lv_at hl 0 rfl) ?_
                refine lv_iconst (v := (-1)) hx hb dX5_tryOrders_102 (by decide) ?_
                have t424 : -2147483648 ≤ z419.toInt ∧ z419.toInt ≤ 2147483647 := ti_all z419
                refine lv_icmp_eq (tgt := 194) hx hb dX5_tryOrders_103 (by decide) (fun c425 => ?_) (fun c425 => ?_)
                · have t426 : z419.toInt = (-1) := ti_eq c425 rfl (by decide)
                  refine lv_iinc (v := nI (i269 + 1)) (lv' := [(7, .int (nI (i269 + 1))), (8, .int z419), (0, .ref o0), (1, .int 4), (2, .int yr), (3, .long co), (5, .int ic), (6, .int la)]) hx hb dX5_tryOrders_194 hl (k := 1) rfl (nI_add i269 1) (by decide) rfl (fun ls hl => ?_)
                  refine lv_goto (tgt := 53) hx hb dX5_tryOrders_197 (by decide) ?_
                  exact ih389 (i269 + 1) (by omega) (by omega) _ _ hT hF hS m420 ls (lv_sub hl [0, 2, 3, 4, 5, 6, 7] rfl)
                · have t427 : z419.toInt ≠ (-1) := ti_ne c425 rfl (by decide)
                  refine lv_iload hx hb dX5_tryOrders_106 (lv_at hl 0 rfl) ?_
                  refine lv_sipush (v := 200) hx hb dX5_tryOrders_108 (by decide) ?_
                  refine lv_icmp_gt (tgt := 194) hx hb dX5_tryOrders_111 (by decide) (fun c428 => ?_) (fun c428 => ?_)
                  · have t429 : 200 < z419.toInt := ti_lt c428 (by decide) rfl
                    refine lv_iinc (v := nI (i269 + 1)) (lv' := [(7, .int (nI (i269 + 1))), (8, .int z419), (0, .ref o0), (1, .int 4), (2, .int yr), (3, .long co), (5, .int ic), (6, .int la)]) hx hb dX5_tryOrders_194 hl (k := 1) rfl (nI_add i269 1) (by decide) rfl (fun ls hl => ?_)
                    refine lv_goto (tgt := 53) hx hb dX5_tryOrders_197 (by decide) ?_
                    exact ih389 (i269 + 1) (by omega) (by omega) _ _ hT hF hS m420 ls (lv_sub hl [0, 2, 3, 4, 5, 6, 7] rfl)
                  · have t430 : z419.toInt ≤ 200 := ti_nlt c428 (by decide) rfl
                    refine lv_lload_n hx hb dX5_tryOrders_114 rfl (lv_at hl 5 rfl) ?_
                    refine lv_iload hx hb dX5_tryOrders_115 (lv_at hl 6 rfl) ?_
                    refine lv_i2l (v := ic.toInt64) hx hb dX5_tryOrders_117 rfl ?_
                    refine lv_iload hx hb dX5_tryOrders_118 (lv_at hl 0 rfl) ?_
                    refine lv_iload_n hx hb dX5_tryOrders_120 rfl (lv_at hl 4 rfl) ?_
                    refine lv_isub hx hb dX5_tryOrders_121 ?_
                    refine lv_topi (fun x431 ex431 => ?_)
                    refine lv_i2l (v := x431.toInt64) hx hb dX5_tryOrders_122 rfl ?_
                    refine lv_lmul hx hb dX5_tryOrders_123 ?_
                    refine lv_topl (fun y432 _ => ?_)
                    refine lv_ladd hx hb dX5_tryOrders_124 ?_
                    refine lv_topl (fun y433 _ => ?_)
                    refine lv_aload_n hx hb dX5_tryOrders_125 rfl (lv_at hl 2 rfl) ?_
                    refine tw_get hx hb hts bF2_X5 hown hK hT hr_o0 shc_8 rfl 5 (by decide) (ht_at2 hts 3 rfl) (fun _ h9 => h9) dX5_tryOrders_126 (fun v9 m434 h9 => ?_)
                    obtain ⟨b435, rfl, hg436⟩ := h9 _ rfl
                    refine lv_iload hx hb dX5_tryOrders_129 (lv_at hl 1 rfl) ?_
                    refine tw_iald (i := (nI i269)) hx hb hK hT hg436 shc_63 rfl (vp_in_nI (by omega) (by decide)) dX5_tryOrders_131 (fun v9 m437 h9 => ?_)
                    obtain ⟨x438, rfl, gx438, kx438⟩ := h9
                    refine lv_i2l (v := x438.toInt64) hx hb dX5_tryOrders_132 rfl ?_
                    refine lv_lsub hx hb dX5_tryOrders_133 ?_
                    refine lv_topl (fun y439 _ => ?_)
                    refine lv_lstore (lv' := [(9, .long y439), (8, .int z419), (7, .int (nI i269)), (0, .ref o0), (1, .int 4), (2, .int yr), (3, .long co), (5, .int ic), (6, .int la)]) hx hb dX5_tryOrders_134 hl (by decide) rfl (fun ls hl => ?_)
                    refine lv_aload_n hx hb dX5_tryOrders_136 rfl (lv_at hl 3 rfl) ?_
                    refine tw_getM (v := .ref b397) hx hb hts bF2_X5 hown hK hT hr_o0 shc_8 rfl 9 (by decide) (ht_at2 hts 2 rfl) (fun _ h9 => h9) m421 dX5_tryOrders_137 ?_
                    refine lv_iload hx hb dX5_tryOrders_140 (lv_at hl 2 rfl) ?_
                    refine lv_iconst (v := 1) hx hb dX5_tryOrders_142 (by decide) ?_
                    refine tw_zast (i := (nI i269)) (x := 1) hx hb hK hT hG hS hg398 shc_67 rfl (vp_in_nI (by omega) (by decide)) (gi_z (rg_t (a := 1) (by decide) (by first | decide | omega) (by first | decide | omega)) (by decide) (by decide)) dX5_tryOrders_143 (fun H locs hT oq m440 oi hS => ?_)
                    have hF := hF.ast hg398 skc_67 oq (by decide)
                    have m441 := (el_kept (oq _ (gne hr_o0 hg398 (by decide)))).trans m420
                    have m442 := (el_kept (oq _ (gne hr_o0 hg398 (by decide)))).trans m421
                    refine lv_aload_n hx hb dX5_tryOrders_144 rfl (lv_at hl 3 rfl) ?_
                    refine tw_get hx hb hts bF2_X5 hown hK hT hr_o0 shc_8 rfl 10 (by decide) (ht_at2 hts 9 rfl) (fun _ h9 => h9) dX5_tryOrders_145 (fun v9 m445 h9 => ?_)
                    obtain ⟨b446, rfl, hg447⟩ := h9 _ rfl
                    refine lv_iload_n hx hb dX5_tryOrders_148 rfl (lv_at hl 4 rfl) ?_
                    refine lv_iload hx hb dX5_tryOrders_149 (lv_at hl 2 rfl) ?_
                    refine tw_iast (i := 4) (x := (nI i269)) hx hb hK hT hG hS hg447 shc_68 rfl (by unfold vp_in; decide) (gi_of (show (nI i269).toInt = ((i269 : Nat) : Int) from (nI_toInt (by omega))) (by omega) (by omega)) dX5_tryOrders_151 (fun H locs hT oq m448 oi hS => ?_)
                    have hF := hF.ast hg447 skc_68 oq (by decide)
                    have m449 := (el_kept (oq _ (gne hr_o0 hg447 (by decide)))).trans m441
                    have m450 := (el_kept (oq _ (gne hr_o0 hg447 (by decide)))).trans m442
                    refine lv_aload_n hx hb dX5_tryOrders_152 rfl (lv_at hl 3 rfl) ?_
                    refine lv_iload_n hx hb dX5_tryOrders_153 rfl (lv_at hl 4 rfl) ?_
                    refine lv_iconst (v := 1) hx hb dX5_tryOrders_154 (by decide) ?_
                    refine lv_iadd hx hb dX5_tryOrders_155 ?_
                    refine lv_topi (fun x454 ex454 => ?_)
                    obtain rfl : x454 = 5 := ex454.trans (by decide)
                    refine lv_iload hx hb dX5_tryOrders_156 (lv_at hl 1 rfl) ?_
                    refine lv_lload hx hb dX5_tryOrders_158 (lv_at hl 0 rfl) ?_
                    refine lv_iload hx hb dX5_tryOrders_160 (lv_at hl 7 rfl) ?_
                    refine lv_aload_n hx hb dX5_tryOrders_162 rfl (lv_at hl 3 rfl) ?_
                    refine tw_get hx hb hts bF2_X5 hown hK hT hr_o0 shc_8 rfl 7 (by decide) (ht_at2 hts 10 rfl) (fun _ h9 => h9) dX5_tryOrders_163 (fun v9 m455 h9 => ?_)
                    obtain ⟨b456, rfl, hg457⟩ := h9 _ rfl
                    refine lv_iload hx hb dX5_tryOrders_166 (lv_at hl 2 rfl) ?_
                    refine tw_iald (i := (nI i269)) hx hb hK hT hg457 shc_65 rfl (vp_in_nI (by omega) (by decide)) dX5_tryOrders_168 (fun v9 m458 h9 => ?_)
                    obtain ⟨x459, rfl, gx459, kx459⟩ := h9
                    refine lv_iadd hx hb dX5_tryOrders_169 ?_
                    refine lv_topi (fun x460 ex460 => ?_)
                    refine lv_iload hx hb dX5_tryOrders_170 (lv_at hl 8 rfl) ?_
                    refine lv_aload_n hx hb dX5_tryOrders_172 rfl (lv_at hl 3 rfl) ?_
                    refine tw_get hx hb hts bF2_X5 hown hK hT hr_o0 shc_8 rfl 8 (by decide) (ht_at2 hts 11 rfl) (fun _ h9 => h9) dX5_tryOrders_173 (fun v9 m461 h9 => ?_)
                    obtain ⟨b462, rfl, hg463⟩ := h9 _ rfl
                    refine lv_iload hx hb dX5_tryOrders_176 (lv_at hl 2 rfl) ?_
                    refine tw_iald (i := (nI i269)) hx hb hK hT hg463 shc_66 rfl (vp_in_nI (by omega) (by decide)) dX5_tryOrders_178 (fun v9 m464 h9 => ?_)
                    obtain ⟨x465, rfl, gx465, kx465⟩ := h9
                    refine lv_iload hx hb dX5_tryOrders_179 (lv_at hl 1 rfl) ?_
                    refine lv_imul hx hb dX5_tryOrders_181 ?_
                    refine lv_topi (fun x466 ex466 => ?_)
                    refine lv_iadd hx hb dX5_tryOrders_182 ?_
                    refine lv_topi (fun x467 ex467 => ?_)
                    have hFc := gA_free hG hA hS
                    refine va_callv (va_runV (As := [.int 5, .int z419, .long y439, .int x460, .int x467]) (rest := []) ⟨hx, hb, hml, hown, hts⟩ (c_tryOrders5 l dC dI kA adK adV G H nC nS o0 z419 y439 x460 x467 jb hT hr_o0 m449 (by have q8 := ti_all jb; omega) (by omega) (by omega)) (cwV 5 hts (goodIn_app (goodIn_r _ [19, 20, 21, 8] rfl (by decide +kernel)) (goodIn_ca (goodIn_r _ [13, 1, 2, 3, 4, 5, 6, 7, 8, 9, 10, 11, 12, 13, 14, 15, 16, 17, 18, 19, 20, 21] rfl (by decide +kernel)) (bs2_in _ _))) rfl rfl rfl (by decide +kernel) ⟨(Nat.le_of_ble_eq_true rfl), (Nat.le_of_ble_eq_true rfl)⟩) ⟨fun a U g mk q => by obtain ⟨q0, q1, qK, qE⟩ := q; exact ⟨q0, q1, va_K.moved (u := U) (U := U.calling g mk a) (Vm.Alike.refl U.vm) qK, EVC.blind g mk a qE⟩, gH_rc hK hT hr_o0 shc_8 rfl, fun U hU hW => ⟨rfl, hU, va_K.moved hW.alike hK, hE.call hS hFc hU hW⟩⟩ rfl rfl hl.1 rfl (lv_room (Nat.le_of_ble_eq_true rfl)) dX5_tryOrders_183 ⟨(Nat.le_of_ble_eq_true rfl), (Nat.le_of_ble_eq_true rfl)⟩) hS (fun q _ h => hFc q h) hFc (fun u t H locs ht hvm hw469 hB _ _ hS => ?_)
                    obtain ⟨hT, hF1⟩ := hB
                    rw [ht] at hT hF1
                    have m470 := (hF1.fld hr_o0 skc_8 (k := 15) (by decide) (by decide)).trans m449
                    have m471 := (hF1.fld hr_o0 skc_8 (k := 9) (by decide) (by decide)).trans m450
                    have hF := hF.more hF1 (by decide)
                    try dsimp only at hw469
                    refine lv_aload_n hx hb dX5_tryOrders_186 rfl (lv_at hl 3 rfl) ?_
                    refine tw_getM (v := .ref b397) hx hb hts bF2_X5 hown hK hT hr_o0 shc_8 rfl 9 (by decide) (ht_at2 hts 2 rfl) (fun _ h9 => h9) m471 dX5_tryOrders_187 ?_
                    refine lv_iload hx hb dX5_tryOrders_190 (lv_at hl 2 rfl) ?_
                    refine lv_iconst (v := 0) hx hb dX5_tryOrders_192 (by decide) ?_
                    refine tw_zast (i := (nI i269)) (x := 0) hx hb hK hT hG hS hg398 shc_67 rfl (vp_in_nI (by omega) (by decide)) (gi_z (rg_t (a := 0) (by decide) (by first | decide | omega) (by first | decide | omega)) (by decide) (by decide)) dX5_tryOrders_193 (fun H locs hT oq m480 oi hS => ?_)
                    have hF := hF.ast hg398 skc_67 oq (by decide)
                    have m481 := (el_kept (oq _ (gne hr_o0 hg398 (by decide)))).trans m470
                    refine lv_iinc (v := nI (i269 + 1)) (lv' := [(7, .int (nI (i269 + 1))), (9, .long y439), (8, .int z419), (0, .ref o0), (1, .int 4), (2, .int yr), (3, .long co), (5, .int ic), (6, .int la)]) hx hb dX5_tryOrders_194 hl (k := 2) rfl (nI_add i269 1) (by decide) rfl (fun ls hl => ?_)
                    refine lv_goto (tgt := 53) hx hb dX5_tryOrders_197 (by decide) ?_
                    exact ih389 (i269 + 1) (by omega) (by omega) _ _ hT hF hS m481 ls (lv_sub hl [0, 3, 4, 5, 6, 7, 8] rfl)
              refine lv_if_eq (tgt := 76) hx hb dX5_tryOrders_69 (by decide) (fun c490 => ?_) (fun c490 => ?_)
              · have t491 : x400.toInt = 0 := ti_eq c490 rfl (by decide)
                refine lv_iload_n hx hb dX5_tryOrders_76 rfl (lv_at hl 3 rfl) ?_
                refine lv_lload_n hx hb dX5_tryOrders_77 rfl (lv_at hl 4 rfl) ?_
                refine lv_iload hx hb dX5_tryOrders_78 (lv_at hl 5 rfl) ?_
                refine lv_aload_n hx hb dX5_tryOrders_80 rfl (lv_at hl 1 rfl) ?_
                refine tw_get hx hb hts bF2_X5 hown hK hT hr_o0 shc_8 rfl 5 (by decide) (ht_at2 hts 3 rfl) (fun _ h9 => h9) dX5_tryOrders_81 (fun v9 m492 h9 => ?_)
                obtain ⟨b493, rfl, hg494⟩ := h9 _ rfl
                refine lv_iload hx hb dX5_tryOrders_84 (lv_at hl 0 rfl) ?_
                refine tw_iald (i := (nI i269)) hx hb hK hT hg494 shc_63 rfl (vp_in_nI (by omega) (by decide)) dX5_tryOrders_86 (fun v9 m495 h9 => ?_)
                obtain ⟨x496, rfl, gx496, kx496⟩ := h9
                have hFc := gA_free hG hA hS
                refine va_calli (va_runS (As := [.int yr, .long co, .int ic, .int x496]) (rest := []) ⟨hx, hb, hml, hown, hts⟩ (c_yearWithCost l dC dI kA adK adV G H nC nS yr co ic x496 hT (by omega) (by omega)) (va_cwS 4 hts (goodIn_app (goodIn_r _ [6, 7, 8] rfl (by decide +kernel)) (goodIn_ca (goodIn_r _ [5] rfl (by decide +kernel)) (bs2_in _ _))) rfl rfl rfl (by decide +kernel) ⟨(Nat.le_of_ble_eq_true rfl), (Nat.le_of_ble_eq_true rfl)⟩) ⟨fun a U g mk q => by obtain ⟨q0, q1, qK, qE⟩ := q; exact ⟨q0, q1, va_K.moved (u := U) (U := U.calling g mk a) (Vm.Alike.refl U.vm) qK, EVC.blind g mk a qE⟩, fun U hU hW => ⟨rfl, hU, va_K.moved hW.alike hK, hE.call hS hFc hU hW⟩⟩ rfl rfl hl.1 rfl (lv_room (Nat.le_of_ble_eq_true rfl)) dX5_tryOrders_87 ⟨(Nat.le_of_ble_eq_true rfl), (Nat.le_of_ble_eq_true rfl)⟩) hS (fun q _ h => hFc q h) hFc (fun r497 u t H locs ht hvm hw498 hB _ _ hS => ?_)
                obtain ⟨hT, hF1⟩ := hB
                rw [ht] at hT hF1
                have m499 := (hF1.fld hr_o0 skc_8 (k := 15) (by decide) (by decide)).trans m270
                have m500 := (hF1.fld hr_o0 skc_8 (k := 9) (by decide) (by decide)).trans m396
                have m501 := (el_kept (hF1.arr hg398 skc_67 (by decide))).trans m399
                have hF := hF.more hF1 (by decide)
                try dsimp only at hw498
                refine lv_aload_n hx hb dX5_tryOrders_90 rfl (lv_at hl 1 rfl) ?_
                refine tw_get hx hb hts bF2_X5 hown hK hT hr_o0 shc_8 rfl 6 (by decide) (ht_at2 hts 8 rfl) (fun _ h9 => h9) dX5_tryOrders_91 (fun v9 m504 h9 => ?_)
                obtain ⟨b505, rfl, hg506⟩ := h9 _ rfl
                refine lv_iload hx hb dX5_tryOrders_94 (lv_at hl 0 rfl) ?_
                refine tw_iald (i := (nI i269)) hx hb hK hT hg506 shc_64 rfl (vp_in_nI (by omega) (by decide)) dX5_tryOrders_96 (fun v9 m507 h9 => ?_)
                obtain ⟨x508, rfl, gx508, kx508⟩ := h9
                refine lv_iadd hx hb dX5_tryOrders_97 ?_
                refine lv_topi (fun x509 ex509 => ?_)
                exact jn423 x509 _ _ hT hF hS m499 m500 m501 ls (lv_sub hl [0, 1, 2, 3, 4, 5, 6] rfl)
              · have t510 : x400.toInt ≠ 0 := ti_ne c490 rfl (by decide)
                refine lv_iconst (v := (-1)) hx hb dX5_tryOrders_72 (by decide) ?_
                refine lv_goto (tgt := 98) hx hb dX5_tryOrders_73 (by decide) ?_
                exact jn423 (-1) _ _ hT hF hS m270 m396 m399 ls (lv_sub hl [0, 1, 2, 3, 4, 5, 6] rfl)
        exact key389 (7 - 0) 0 (by omega) (Nat.le_refl _) _ _ hT hF hS hm_jb ls (lv_sub hl [0, 1, 2, 3, 4, 5, 6] rfl)
      · have t511 : jb.toInt ≤ 4 := ti_nlt c267 (by decide) rfl
        refine lv_aload_n hx hb dX5_tryOrders_26 rfl (lv_at hl 0 rfl) ?_
        refine lv_iload hx hb dX5_tryOrders_27 (lv_at hl 5 rfl) ?_
        refine tw_put (v := .int la) (ty := .int) hx hb hts bF2_X5 tyX5 tyX5_ok nmX5 hown hK hT hG hS hr_o0 shc_8 rfl 16 (by decide) (ht_at2 hts 0 rfl) (fun _ h9 => h9) rfl (by decide +kernel) rfl rfl (gl_at rfl (gi_all _)) dX5_tryOrders_29 (fun H locs hT oq m512 oj hS => ?_)
        have hF := hF.put hr_o0 skc_8 oq oj (by decide)
        have m513 := (oj 15 (by decide) (by decide)).trans hm_jb
        refine lv_aload_n hx hb dX5_tryOrders_32 rfl (lv_at hl 0 rfl) ?_
        refine tw_get hx hb hts bF2_X5 hown hK hT hr_o0 shc_8 rfl 10 (by decide) (ht_at2 hts 9 rfl) (fun _ h9 => h9) dX5_tryOrders_33 (fun v9 m514 h9 => ?_)
        obtain ⟨b515, rfl, hg516⟩ := h9 _ rfl
        refine lv_iconst (v := 0) hx hb dX5_tryOrders_36 (by decide) ?_
        refine lv_aload_n hx hb dX5_tryOrders_37 rfl (lv_at hl 0 rfl) ?_
        refine tw_get hx hb hts bF2_X5 hown hK hT hr_o0 shc_8 rfl 11 (by decide) (ht_at2 hts 13 rfl) (fun _ h9 => h9) dX5_tryOrders_38 (fun v9 m517 h9 => ?_)
        obtain ⟨b518, rfl, hg519⟩ := h9 _ rfl
        refine lv_iconst (v := 0) hx hb dX5_tryOrders_41 (by decide) ?_
        refine lv_aload_n hx hb dX5_tryOrders_42 rfl (lv_at hl 0 rfl) ?_
        refine tw_getM (v := .int jb) hx hb hts bF2_X5 hown hK hT hr_o0 shc_8 rfl 15 (by decide) (ht_at2 hts 1 rfl) (fun _ h9 => h9) m513 dX5_tryOrders_43 ?_
        refine tw_copy (ty := .int) hx hb (hml.trans hl.1.symm) hown (ht_at2 hts 14 rfl) (ht_at2 hts 15 rfl) (ht_at2 hts 16 rfl) (ht_at2 hts 17 rfl) hK hT hG hS hg516 hg519 shc_68 shc_69 rfl rfl (by decide) (by decide) (fun h9 => by have q9 := ti_lt h9 rfl (show (0 : Int32).toInt = 0 from by decide); omega) (by have q9 := tn_of (show jb.toInt = jb.toInt from rfl) (by omega); have q8 : (0 : Int32).toNatClampNeg = 0 := (by decide); omega) (by have q9 := tn_of (show jb.toInt = jb.toInt from rfl) (by omega); have q8 : (0 : Int32).toNatClampNeg = 0 := (by decide); omega) (fun _ _ h9 => by obtain ⟨x9, e9, _⟩ := h9; exact ⟨x9, e9, rfl⟩) (fun _ _ _ h9 => by obtain ⟨x9, e9, a9, b9⟩ := h9; exact ⟨x9, e9, by omega, by omega⟩) (Nat.le_of_ble_eq_true rfl) (Nat.le_of_ble_eq_true rfl) dX5_tryOrders_46 (fun H locs hT oq hS => ?_)
        have hF := hF.ast hg519 skc_69 oq (by decide)
        exact W.vret hx hb hr (fun t ht hW => ⟨⟨(), rfl, (by exact trivial), by (try dsimp only); rw [ht]; exact ⟨hT, hF⟩⟩, hS.F ht⟩) hS.2.2 dX5_tryOrders_49
    · have t524 : x2.toInt ≤ la.toInt := ti_nlt c265 rfl rfl
      exact W.vret hx hb hr (fun t ht hW => ⟨⟨(), rfl, (by exact trivial), by (try dsimp only); rw [ht]; exact ⟨hT, hF⟩⟩, hS.F ht⟩) hS.2.2 dX5_tryOrders_17
def w_c_tryOrders3 : List Cond := .code yX5_tryOrders cX5_tryOrders 11 none :: (HAppend.hAppend (α := List Cond) (β := List Cond) (γ := List Cond) [.fieldLink RX5 157 "SeaLand$Plans" "bestLate" "I", .fieldLink RX5 154 "SeaLand$Plans" "jobs" "I", .fieldLink RX5 41 "SeaLand$Plans" "placed" "[Z", .fieldLink RX5 29 "SeaLand$Plans" "costs" "[I", .code yX5_yearWithCost cX5_yearWithCost 5 (some .int), .methodLink RX5 164 yX5_yearWithCost, .static yX5_yearWithCost, .initialized RX5, .fieldLink RX5 32 "SeaLand$Plans" "lasts" "[I", .fieldLink RX5 45 "SeaLand$Plans" "trial" "[I", .fieldLink RX5 35 "SeaLand$Plans" "incomes" "[I", .fieldLink RX5 38 "SeaLand$Plans" "acres" "[I", .code yX5_tryOrders cX5_tryOrders 11 none, .fieldLink RX5 48 "SeaLand$Plans" "best" "[I", .methodLink RX5 100 arraycopyName, .native arraycopyName, .static arraycopyName, .initialized "java/lang/System", .methodLink RX5 160 yX5_tryOrders, .instanceMethod yX5_tryOrders, .selects RX5 yX5_tryOrders yX5_tryOrders] bs2)
set_option maxHeartbeats 4000000 in
set_option maxRecDepth 100000 in
theorem c_tryOrders3 (l : Launch) (dC : Nat → ClassId) (dI : Nat → Nat → Nat) (kA : Nat → ClassId) (adK adV : Nat → Nat) (G : gT) (H0 : Heap) (nC nS : Int) (o0 : Nat) (yr : Int32) (co : Int64) (ic : Int32) (la : Int32) (jb : Int32)  (hT : gH (dC, dI) kA (SHc nC nS) G H0) (hr_o0 : G o0 = some 8) (hm_jb : el H0 o0 (dI 8 15) = some (.int jb)) (hq0 : 0 ≤ jb.toInt ∧ jb.toInt ≤ 7) (hgC : 0 ≤ nC ∧ nC ≤ 40) (hgS : 0 ≤ nS ∧ nS ≤ 60) : Met l yX5_tryOrders w_c_tryOrders3 ({ frames := 6, cells := 0, slots := 0, locals := 180 }) (va_Pc [.ref o0, .int 3, .int yr, .long co, .int ic, .int la] (fun U => U.heap = H0 ∧ va_K (dC, dI) vwCl (tyl kA) U ∧ EVC adK adV (gA G H0.size) U U.heap)) (va_Qv (fun (u : Unit) => True) (fun (_ : Unit) (t : State) => gH (dC, dI) kA (SHc nC nS) G t.heap ∧ gF (dC, dI) SKc G ([(8, 16), (67, 0), (68, 0), (69, 0)] : List (Nat × Nat)) H0 t.heap) (gA G H0.size)) 0 0 (gA G H0.size) := by
  refine Met.ofW (cc := cX5_tryOrders) (maxL := 11) (ret := none) (by decide) rfl ?_
  intro p e s m args below meth c s₁ B hml hv
  obtain ⟨rfl, hH0, hK, hE⟩ := hv
  have hx := B.exec
  have hb := B.bytes
  have hr := B.returns
  have hts := atoms_spec (ws := w_c_tryOrders3) B.pre
  have hown : s.vm.findClass RX5 = some m.cls := findClass_of_methodNamed B.named
  have hlocks := B.notSynchronized
  subst hH0
  generalize hAe : gA G s.heap.size = A at hE ⊢
  have hA : ∀ q : Nat, s.heap.size ≤ q → A q := fun q h => by rw [← hAe]; exact Or.inr h
  have hG := gA_of hAe
  have hS : va_S A s.heap s.heap [] := va_S.rf
  have hF : gF (dC, dI) SKc G ([(8, 16), (67, 0), (68, 0), (69, 0)] : List (Nat × Nat)) s.heap s.heap := gF.rf
  have hl := lv_entry ([.ref o0, .int 3, .int yr, .long co, .int ic, .int la]) (n := 11) (Nat.le_of_ble_eq_true rfl)
  rw [lg_entry_eq]
  generalize (lg_sl ([.ref o0, .int 3, .int yr, .long co, .int ic, .int la]) ++ List.replicate (11 - (lg_sl ([.ref o0, .int 3, .int yr, .long co, .int ic, .int la])).length) Slot.unset).toArray = ls at hl ⊢
  have hl : lv_has ls 11 [(0, .ref o0), (1, .int 3), (2, .int yr), (3, .long co), (5, .int ic), (6, .int la)] := hl
  refine lv_aload_n hx hb dX5_tryOrders_0 rfl (lv_at hl 0 rfl) ?_
  refine tw_get hx hb hts bF2_X5 hown hK hT hr_o0 shc_8 rfl 16 (by decide) (ht_at2 hts 0 rfl) (fun _ h9 => h9) dX5_tryOrders_1 (fun v9 m1 h9 => ?_)
  obtain ⟨x2, rfl, gx2, kx2⟩ := h9 _ rfl
  refine lv_iconst (v := (-1)) hx hb dX5_tryOrders_4 (by decide) ?_
  have t3 : -2147483648 ≤ x2.toInt ∧ x2.toInt ≤ 2147483647 := ti_all x2
  refine lv_icmp_eq (tgt := 18) hx hb dX5_tryOrders_5 (by decide) (fun c4 => ?_) (fun c4 => ?_)
  · have t5 : x2.toInt = (-1) := ti_eq c4 rfl (by decide)
    refine lv_iload_n hx hb dX5_tryOrders_18 rfl (lv_at hl 1 rfl) ?_
    refine lv_aload_n hx hb dX5_tryOrders_19 rfl (lv_at hl 0 rfl) ?_
    refine tw_getM (v := .int jb) hx hb hts bF2_X5 hown hK hT hr_o0 shc_8 rfl 15 (by decide) (ht_at2 hts 1 rfl) (fun _ h9 => h9) hm_jb dX5_tryOrders_20 ?_
    refine lv_icmp_lt (tgt := 50) hx hb dX5_tryOrders_23 (by decide) (fun c6 => ?_) (fun c6 => ?_)
    · have t7 : 3 < jb.toInt := ti_lt c6 (by decide) rfl
      refine lv_iconst (v := 0) hx hb dX5_tryOrders_50 (by decide) ?_
      refine lv_istore (lv' := [(7, .int 0), (0, .ref o0), (1, .int 3), (2, .int yr), (3, .long co), (5, .int ic), (6, .int la)]) hx hb dX5_tryOrders_51 hl (by decide) rfl (fun ls hl => ?_)
      have key128 : ∀ (n128 i8 : Nat), i8 + n128 = 7 → 0 ≤ i8 → ∀ (H : Heap) (locs : List Loc), gH (dC, dI) kA (SHc nC nS) G H → gF (dC, dI) SKc G ([(8, 16), (67, 0), (68, 0), (69, 0)] : List (Nat × Nat)) s.heap H → va_S A s.heap H locs → el H o0 (dI 8 15) = some (.int jb) → ∀ ls : Array Slot, lv_has ls 11 [(7, .int (nI i8)), (0, .ref o0), (1, .int 3), (2, .int yr), (3, .long co), (5, .int ic), (6, .int la)] → W p l e (headSpec w_c_tryOrders3 ({ frames := 6, cells := 0, slots := 0, locals := 180 })).room s m #[.ref o0, .int 3, .int yr, .long co, .int ic, .int la] below meth c H locs 0 0 (MQ below (va_Qv (fun (u : Unit) => True) (fun (_ : Unit) (t : State) => gH (dC, dI) kA (SHc nC nS) G t.heap ∧ gF (dC, dI) SKc G ([(8, 16), (67, 0), (68, 0), (69, 0)] : List (Nat × Nat)) s.heap t.heap) A) #[.ref o0, .int 3, .int yr, .long co, .int ic, .int la] s 0 0 A) (F0 m 53 ls []) := by
        intro n128
        induction n128 with
        | zero =>
          intro i8 hn128 hlo129  H locs hT hF hS m9 ls hl
          obtain rfl : 7 = i8 := by omega
          refine lv_iload hx hb dX5_tryOrders_53 (lv_at hl 0 rfl) ?_
          refine lv_aload_n hx hb dX5_tryOrders_55 rfl (lv_at hl 1 rfl) ?_
          refine tw_getM (v := .int jb) hx hb hts bF2_X5 hown hK hT hr_o0 shc_8 rfl 15 (by decide) (ht_at2 hts 1 rfl) (fun _ h9 => h9) m9 dX5_tryOrders_56 ?_
          refine lv_icmp_ge (tgt := 200) hx hb dX5_tryOrders_59 (by decide) (fun c130 => ?_) (fun c130 => (by exfalso; have q9 : ((7 : Nat) : Int) < jb.toInt := ti_nle c130 rfl (nI_toInt (by omega)); omega))
          have t131 : jb.toInt ≤ ((7 : Nat) : Int) := ti_le c130 rfl (nI_toInt (by omega))
          exact W.vret hx hb hr (fun t ht hW => ⟨⟨(), rfl, (by exact trivial), by (try dsimp only); rw [ht]; exact ⟨hT, hF⟩⟩, hS.F ht⟩) hS.2.2 dX5_tryOrders_200
        | succ n128 ih128 =>
          intro i8 hn128 hlo129  H locs hT hF hS m9 ls hl
          have hlt131 : i8 < 7 := by omega
          refine lv_iload hx hb dX5_tryOrders_53 (lv_at hl 0 rfl) ?_
          refine lv_aload_n hx hb dX5_tryOrders_55 rfl (lv_at hl 1 rfl) ?_
          refine tw_getM (v := .int jb) hx hb hts bF2_X5 hown hK hT hr_o0 shc_8 rfl 15 (by decide) (ht_at2 hts 1 rfl) (fun _ h9 => h9) m9 dX5_tryOrders_56 ?_
          refine lv_icmp_ge (tgt := 200) hx hb dX5_tryOrders_59 (by decide) (fun c132 => ?_) (fun c132 => ?_)
          · have t133 : jb.toInt ≤ ((i8 : Nat) : Int) := ti_le c132 rfl (nI_toInt (by omega))
            exact W.vret hx hb hr (fun t ht hW => ⟨⟨(), rfl, (by exact trivial), by (try dsimp only); rw [ht]; exact ⟨hT, hF⟩⟩, hS.F ht⟩) hS.2.2 dX5_tryOrders_200
          · have t134 : ((i8 : Nat) : Int) < jb.toInt := ti_nle c132 rfl (nI_toInt (by omega))
            refine lv_aload_n hx hb dX5_tryOrders_62 rfl (lv_at hl 1 rfl) ?_
            refine tw_get hx hb hts bF2_X5 hown hK hT hr_o0 shc_8 rfl 9 (by decide) (ht_at2 hts 2 rfl) (fun _ h9 => h9) dX5_tryOrders_63 (fun v9 m135 h9 => ?_)
            obtain ⟨b136, rfl, hg137⟩ := h9 _ rfl
            refine lv_iload hx hb dX5_tryOrders_66 (lv_at hl 0 rfl) ?_
            refine tw_zald (i := (nI i8)) hx hb hK hT hg137 shc_67 rfl (vp_in_nI (by omega) (by decide)) dX5_tryOrders_68 (fun v9 m138 h9 => ?_)
            obtain ⟨x139, rfl, gx139, kx139⟩ := h9
            have jn162 : ∀ (z158 : Int32), ∀ (H : Heap) (locs : List Loc), gH (dC, dI) kA (SHc nC nS) G H → gF (dC, dI) SKc G ([(8, 16), (67, 0), (68, 0), (69, 0)] : List (Nat × Nat)) s.heap H → va_S A s.heap H locs → el H o0 (dI 8 15) = some (.int jb) → el H o0 (dI 8 9) = some (.ref b136) → el H b136 (nI i8).toNatClampNeg = some (.int x139) → ∀ ls : Array Slot, lv_has ls 11 [(7, .int (nI i8)), (0, .ref o0), (1, .int 3), (2, .int yr), (3, .long co), (5, .int ic), (6, .int la)] → W p l e (headSpec w_c_tryOrders3 ({ frames := 6, cells := 0, slots := 0, locals := 180 })).room s m #[.ref o0, .int 3, .int yr, .long co, .int ic, .int la] below meth c H locs 0 0 (MQ below (va_Qv (fun (u : Unit) => True) (fun (_ : Unit) (t : State) => gH (dC, dI) kA (SHc nC nS) G t.heap ∧ gF (dC, dI) SKc G ([(8, 16), (67, 0), (68, 0), (69, 0)] : List (Nat × Nat)) s.heap t.heap) A) #[.ref o0, .int 3, .int yr, .long co, .int ic, .int la] s 0 0 A) (F0 m 98 ls [.int z158]) := by
              intro z158 H locs hT hF hS m159 m160 m161 ls hl
              refine lv_istore (lv' := [(8, .int z158), (7, .int (nI i8)), (0, .ref o0), (1, .int 3), (2, .int yr), (3, .long co), (5, .int ic), (6, .int la)]) hx hb dX5_tryOrders_98 hl (by decide) rfl (fun ls hl => ?_)
              refine lv_iload hx hb dX5_tryOrders_100 (lv_at hl 0 rfl) ?_
              refine lv_iconst (v := (-1)) hx hb dX5_tryOrders_102 (by decide) ?_
              have t163 : -2147483648 ≤ z158.toInt ∧ z158.toInt ≤ 2147483647 := ti_all z158
              refine lv_icmp_eq (tgt := 194) hx hb dX5_tryOrders_103 (by decide) (fun c164 => ?_) (fun c164 => ?_)
              · have t165 : z158.toInt = (-1) := ti_eq c164 rfl (by decide)
                refine lv_iinc (v := nI (i8 + 1)) (lv' := [(7, .int (nI (i8 + 1))), (8, .int z158), (0, .ref o0), (1, .int 3), (2, .int yr), (3, .long co), (5, .int ic), (6, .int la)]) hx hb dX5_tryOrders_194 hl (k := 1) rfl (nI_add i8 1) (by decide) rfl (fun ls hl => ?_)
                refine lv_goto (tgt := 53) hx hb dX5_tryOrders_197 (by decide) ?_
                exact ih128 (i8 + 1) (by omega) (by omega) _ _ hT hF hS m159 ls (lv_sub hl [0, 2, 3, 4, 5, 6, 7] rfl)
              · have t166 : z158.toInt ≠ (-1) := ti_ne c164 rfl (by decide)
                refine lv_iload hx hb dX5_tryOrders_106 (lv_at hl 0 rfl) ?_
                refine lv_sipush (v := 200) hx hb dX5_tryOrders_108 (by decide) ?_
                refine lv_icmp_gt (tgt := 194) hx hb dX5_tryOrders_111 (by decide) (fun c167 => ?_) (fun c167 => ?_)
                · have t168 : 200 < z158.toInt := ti_lt c167 (by decide) rfl
                  refine lv_iinc (v := nI (i8 + 1)) (lv' := [(7, .int (nI (i8 + 1))), (8, .int z158), (0, .ref o0), (1, .int 3), (2, .int yr), (3, .long co), (5, .int ic), (6, .int la)]) hx hb dX5_tryOrders_194 hl (k := 1) rfl (nI_add i8 1) (by decide) rfl (fun ls hl => ?_)
                  refine lv_goto (tgt := 53) hx hb dX5_tryOrders_197 (by decide) ?_
                  exact ih128 (i8 + 1) (by omega) (by omega) _ _ hT hF hS m159 ls (lv_sub hl [0, 2, 3, 4, 5, 6, 7] rfl)
                · have t169 : z158.toInt ≤ 200 := ti_nlt c167 (by decide) rfl
                  refine lv_lload_n hx hb dX5_tryOrders_114 rfl (lv_at hl 5 rfl) ?_
                  refine lv_iload hx hb dX5_tryOrders_115 (lv_at hl 6 rfl) ?_
                  refine lv_i2l (v := ic.toInt64) hx hb dX5_tryOrders_117 rfl ?_
                  refine lv_iload hx hb dX5_tryOrders_118 (lv_at hl 0 rfl) ?_
                  refine lv_iload_n hx hb dX5_tryOrders_120 rfl (lv_at hl 4 rfl) ?_
                  refine lv_isub hx hb dX5_tryOrders_121 ?_
                  refine lv_topi (fun x170 ex170 => ?_)
                  refine lv_i2l (v := x170.toInt64) hx hb dX5_tryOrders_122 rfl ?_
                  refine lv_lmul hx hb dX5_tryOrders_123 ?_
                  refine lv_topl (fun y171 _ => ?_)
                  refine lv_ladd hx hb dX5_tryOrders_124 ?_
                  refine lv_topl (fun y172 _ => ?_)
                  refine lv_aload_n hx hb dX5_tryOrders_125 rfl (lv_at hl 2 rfl) ?_
                  refine tw_get hx hb hts bF2_X5 hown hK hT hr_o0 shc_8 rfl 5 (by decide) (ht_at2 hts 3 rfl) (fun _ h9 => h9) dX5_tryOrders_126 (fun v9 m173 h9 => ?_)
                  obtain ⟨b174, rfl, hg175⟩ := h9 _ rfl
                  refine lv_iload hx hb dX5_tryOrders_129 (lv_at hl 1 rfl) ?_
                  refine tw_iald (i := (nI i8)) hx hb hK hT hg175 shc_63 rfl (vp_in_nI (by omega) (by decide)) dX5_tryOrders_131 (fun v9 m176 h9 => ?_)
                  obtain ⟨x177, rfl, gx177, kx177⟩ := h9
                  refine lv_i2l (v := x177.toInt64) hx hb dX5_tryOrders_132 rfl ?_
                  refine lv_lsub hx hb dX5_tryOrders_133 ?_
                  refine lv_topl (fun y178 _ => ?_)
                  refine lv_lstore (lv' := [(9, .long y178), (8, .int z158), (7, .int (nI i8)), (0, .ref o0), (1, .int 3), (2, .int yr), (3, .long co), (5, .int ic), (6, .int la)]) hx hb dX5_tryOrders_134 hl (by decide) rfl (fun ls hl => ?_)
                  refine lv_aload_n hx hb dX5_tryOrders_136 rfl (lv_at hl 3 rfl) ?_
                  refine tw_getM (v := .ref b136) hx hb hts bF2_X5 hown hK hT hr_o0 shc_8 rfl 9 (by decide) (ht_at2 hts 2 rfl) (fun _ h9 => h9) m160 dX5_tryOrders_137 ?_
                  refine lv_iload hx hb dX5_tryOrders_140 (lv_at hl 2 rfl) ?_
                  refine lv_iconst (v := 1) hx hb dX5_tryOrders_142 (by decide) ?_
                  refine tw_zast (i := (nI i8)) (x := 1) hx hb hK hT hG hS hg137 shc_67 rfl (vp_in_nI (by omega) (by decide)) (gi_z (rg_t (a := 1) (by decide) (by first | decide | omega) (by first | decide | omega)) (by decide) (by decide)) dX5_tryOrders_143 (fun H locs hT oq m179 oi hS => ?_)
                  have hF := hF.ast hg137 skc_67 oq (by decide)
                  have m180 := (el_kept (oq _ (gne hr_o0 hg137 (by decide)))).trans m159
                  have m181 := (el_kept (oq _ (gne hr_o0 hg137 (by decide)))).trans m160
                  refine lv_aload_n hx hb dX5_tryOrders_144 rfl (lv_at hl 3 rfl) ?_
                  refine tw_get hx hb hts bF2_X5 hown hK hT hr_o0 shc_8 rfl 10 (by decide) (ht_at2 hts 9 rfl) (fun _ h9 => h9) dX5_tryOrders_145 (fun v9 m184 h9 => ?_)
                  obtain ⟨b185, rfl, hg186⟩ := h9 _ rfl
                  refine lv_iload_n hx hb dX5_tryOrders_148 rfl (lv_at hl 4 rfl) ?_
                  refine lv_iload hx hb dX5_tryOrders_149 (lv_at hl 2 rfl) ?_
                  refine tw_iast (i := 3) (x := (nI i8)) hx hb hK hT hG hS hg186 shc_68 rfl (by unfold vp_in; decide) (gi_of (show (nI i8).toInt = ((i8 : Nat) : Int) from (nI_toInt (by omega))) (by omega) (by omega)) dX5_tryOrders_151 (fun H locs hT oq m187 oi hS => ?_)
                  have hF := hF.ast hg186 skc_68 oq (by decide)
                  have m188 := (el_kept (oq _ (gne hr_o0 hg186 (by decide)))).trans m180
                  have m189 := (el_kept (oq _ (gne hr_o0 hg186 (by decide)))).trans m181
                  refine lv_aload_n hx hb dX5_tryOrders_152 rfl (lv_at hl 3 rfl) ?_
                  refine lv_iload_n hx hb dX5_tryOrders_153 rfl (lv_at hl 4 rfl) ?_
                  refine lv_iconst (v := 1) hx hb dX5_tryOrders_154 (by decide) ?_
                  refine lv_iadd hx hb dX5_tryOrders_155 ?_
                  refine lv_topi (fun x193 ex193 => ?_)
                  obtain rfl : x193 = 4 := ex193.trans (by decide)
                  refine lv_iload hx hb dX5_tryOrders_156 (lv_at hl 1 rfl) ?_
                  refine lv_lload hx hb dX5_tryOrders_158 (lv_at hl 0 rfl) ?_
                  refine lv_iload hx hb dX5_tryOrders_160 (lv_at hl 7 rfl) ?_
                  refine lv_aload_n hx hb dX5_tryOrders_162 rfl (lv_at hl 3 rfl) ?_
                  refine tw_get hx hb hts bF2_X5 hown hK hT hr_o0 shc_8 rfl 7 (by decide) (ht_at2 hts 10 rfl) (fun _ h9 => h9) dX5_tryOrders_163 (fun v9 m194 h9 => ?_)
                  obtain ⟨b195, rfl, hg196⟩ := h9 _ rfl
                  refine lv_iload hx hb dX5_tryOrders_166 (lv_at hl 2 rfl) ?_
                  refine tw_iald (i := (nI i8)) hx hb hK hT hg196 shc_65 rfl (vp_in_nI (by omega) (by decide)) dX5_tryOrders_168 (fun v9 m197 h9 => ?_)
                  obtain ⟨x198, rfl, gx198, kx198⟩ := h9
                  refine lv_iadd hx hb dX5_tryOrders_169 ?_
                  refine lv_topi (fun x199 ex199 => ?_)
                  refine lv_iload hx hb dX5_tryOrders_170 (lv_at hl 8 rfl) ?_
                  refine lv_aload_n hx hb dX5_tryOrders_172 rfl (lv_at hl 3 rfl) ?_
                  refine tw_get hx hb hts bF2_X5 hown hK hT hr_o0 shc_8 rfl 8 (by decide) (ht_at2 hts 11 rfl) (fun _ h9 => h9) dX5_tryOrders_173 (fun v9 m200 h9 => ?_)
                  obtain ⟨b201, rfl, hg202⟩ := h9 _ rfl
                  refine lv_iload hx hb dX5_tryOrders_176 (lv_at hl 2 rfl) ?_
                  refine tw_iald (i := (nI i8)) hx hb hK hT hg202 shc_66 rfl (vp_in_nI (by omega) (by decide)) dX5_tryOrders_178 (fun v9 m203 h9 => ?_)
                  obtain ⟨x204, rfl, gx204, kx204⟩ := h9
                  refine lv_iload hx hb dX5_tryOrders_179 (lv_at hl 1 rfl) ?_
                  refine lv_imul hx hb dX5_tryOrders_181 ?_
                  refine lv_topi (fun x205 ex205 => ?_)
                  refine lv_iadd hx hb dX5_tryOrders_182 ?_
                  refine lv_topi (fun x206 ex206 => ?_)
                  have hFc := gA_free hG hA hS
                  refine va_callv (va_runV (As := [.int 4, .int z158, .long y178, .int x199, .int x206]) (rest := []) ⟨hx, hb, hml, hown, hts⟩ (c_tryOrders4 l dC dI kA adK adV G H nC nS o0 z158 y178 x199 x206 jb hT hr_o0 m188 (by have q8 := ti_all jb; omega) (by omega) (by omega)) (cwV 5 hts (goodIn_app (goodIn_r _ [19, 20, 21, 8] rfl (by decide +kernel)) (goodIn_ca (goodIn_r _ [13, 1, 2, 3, 4, 5, 6, 7, 8, 9, 10, 11, 12, 13, 14, 15, 16, 17, 18, 19, 20, 21] rfl (by decide +kernel)) (bs2_in _ _))) rfl rfl rfl (by decide +kernel) ⟨(Nat.le_of_ble_eq_true rfl), (Nat.le_of_ble_eq_true rfl)⟩) ⟨fun a U g mk q => by obtain ⟨q0, q1, qK, qE⟩ := q; exact ⟨q0, q1, va_K.moved (u := U) (U := U.calling g mk a) (Vm.Alike.refl U.vm) qK, EVC.blind g mk a qE⟩, gH_rc hK hT hr_o0 shc_8 rfl, fun U hU hW => ⟨rfl, hU, va_K.moved hW.alike hK, hE.call hS hFc hU hW⟩⟩ rfl rfl hl.1 rfl (lv_room (Nat.le_of_ble_eq_true rfl)) dX5_tryOrders_183 ⟨(Nat.le_of_ble_eq_true rfl), (Nat.le_of_ble_eq_true rfl)⟩) hS (fun q _ h => hFc q h) hFc (fun u t H locs ht hvm hw208 hB _ _ hS => ?_)
                  obtain ⟨hT, hF1⟩ := hB
                  rw [ht] at hT hF1
                  have m209 := (hF1.fld hr_o0 skc_8 (k := 15) (by decide) (by decide)).trans m188
                  have m210 := (hF1.fld hr_o0 skc_8 (k := 9) (by decide) (by decide)).trans m189
                  have hF := hF.more hF1 (by decide)
                  try dsimp only at hw208
                  refine lv_aload_n hx hb dX5_tryOrders_186 rfl (lv_at hl 3 rfl) ?_
                  refine tw_getM (v := .ref b136) hx hb hts bF2_X5 hown hK hT hr_o0 shc_8 rfl 9 (by decide) (ht_at2 hts 2 rfl) (fun _ h9 => h9) m210 dX5_tryOrders_187 ?_
                  refine lv_iload hx hb dX5_tryOrders_190 (lv_at hl 2 rfl) ?_
                  refine lv_iconst (v := 0) hx hb dX5_tryOrders_192 (by decide) ?_
                  refine tw_zast (i := (nI i8)) (x := 0) hx hb hK hT hG hS hg137 shc_67 rfl (vp_in_nI (by omega) (by decide)) (gi_z (rg_t (a := 0) (by decide) (by first | decide | omega) (by first | decide | omega)) (by decide) (by decide)) dX5_tryOrders_193 (fun H locs hT oq m219 oi hS => ?_)
                  have hF := hF.ast hg137 skc_67 oq (by decide)
                  have m220 := (el_kept (oq _ (gne hr_o0 hg137 (by decide)))).trans m209
                  refine lv_iinc (v := nI (i8 + 1)) (lv' := [(7, .int (nI (i8 + 1))), (9, .long y178), (8, .int z158), (0, .ref o0), (1, .int 3), (2, .int yr), (3, .long co), (5, .int ic), (6, .int la)]) hx hb dX5_tryOrders_194 hl (k := 2) rfl (nI_add i8 1) (by decide) rfl (fun ls hl => ?_)
                  refine lv_goto (tgt := 53) hx hb dX5_tryOrders_197 (by decide) ?_
                  exact ih128 (i8 + 1) (by omega) (by omega) _ _ hT hF hS m220 ls (lv_sub hl [0, 3, 4, 5, 6, 7, 8] rfl)
            refine lv_if_eq (tgt := 76) hx hb dX5_tryOrders_69 (by decide) (fun c229 => ?_) (fun c229 => ?_)
            · have t230 : x139.toInt = 0 := ti_eq c229 rfl (by decide)
              refine lv_iload_n hx hb dX5_tryOrders_76 rfl (lv_at hl 3 rfl) ?_
              refine lv_lload_n hx hb dX5_tryOrders_77 rfl (lv_at hl 4 rfl) ?_
              refine lv_iload hx hb dX5_tryOrders_78 (lv_at hl 5 rfl) ?_
              refine lv_aload_n hx hb dX5_tryOrders_80 rfl (lv_at hl 1 rfl) ?_
              refine tw_get hx hb hts bF2_X5 hown hK hT hr_o0 shc_8 rfl 5 (by decide) (ht_at2 hts 3 rfl) (fun _ h9 => h9) dX5_tryOrders_81 (fun v9 m231 h9 => ?_)
              obtain ⟨b232, rfl, hg233⟩ := h9 _ rfl
              refine lv_iload hx hb dX5_tryOrders_84 (lv_at hl 0 rfl) ?_
              refine tw_iald (i := (nI i8)) hx hb hK hT hg233 shc_63 rfl (vp_in_nI (by omega) (by decide)) dX5_tryOrders_86 (fun v9 m234 h9 => ?_)
              obtain ⟨x235, rfl, gx235, kx235⟩ := h9
              have hFc := gA_free hG hA hS
              refine va_calli (va_runS (As := [.int yr, .long co, .int ic, .int x235]) (rest := []) ⟨hx, hb, hml, hown, hts⟩ (c_yearWithCost l dC dI kA adK adV G H nC nS yr co ic x235 hT (by omega) (by omega)) (va_cwS 4 hts (goodIn_app (goodIn_r _ [6, 7, 8] rfl (by decide +kernel)) (goodIn_ca (goodIn_r _ [5] rfl (by decide +kernel)) (bs2_in _ _))) rfl rfl rfl (by decide +kernel) ⟨(Nat.le_of_ble_eq_true rfl), (Nat.le_of_ble_eq_true rfl)⟩) ⟨fun a U g mk q => by obtain ⟨q0, q1, qK, qE⟩ := q; exact ⟨q0, q1, va_K.moved (u := U) (U := U.calling g mk a) (Vm.Alike.refl U.vm) qK, EVC.blind g mk a qE⟩, fun U hU hW => ⟨rfl, hU, va_K.moved hW.alike hK, hE.call hS hFc hU hW⟩⟩ rfl rfl hl.1 rfl (lv_room (Nat.le_of_ble_eq_true rfl)) dX5_tryOrders_87 ⟨(Nat.le_of_ble_eq_true rfl), (Nat.le_of_ble_eq_true rfl)⟩) hS (fun q _ h => hFc q h) hFc (fun r236 u t H locs ht hvm hw237 hB _ _ hS => ?_)
              obtain ⟨hT, hF1⟩ := hB
              rw [ht] at hT hF1
              have m238 := (hF1.fld hr_o0 skc_8 (k := 15) (by decide) (by decide)).trans m9
              have m239 := (hF1.fld hr_o0 skc_8 (k := 9) (by decide) (by decide)).trans m135
              have m240 := (el_kept (hF1.arr hg137 skc_67 (by decide))).trans m138
              have hF := hF.more hF1 (by decide)
              try dsimp only at hw237
              refine lv_aload_n hx hb dX5_tryOrders_90 rfl (lv_at hl 1 rfl) ?_
              refine tw_get hx hb hts bF2_X5 hown hK hT hr_o0 shc_8 rfl 6 (by decide) (ht_at2 hts 8 rfl) (fun _ h9 => h9) dX5_tryOrders_91 (fun v9 m243 h9 => ?_)
              obtain ⟨b244, rfl, hg245⟩ := h9 _ rfl
              refine lv_iload hx hb dX5_tryOrders_94 (lv_at hl 0 rfl) ?_
              refine tw_iald (i := (nI i8)) hx hb hK hT hg245 shc_64 rfl (vp_in_nI (by omega) (by decide)) dX5_tryOrders_96 (fun v9 m246 h9 => ?_)
              obtain ⟨x247, rfl, gx247, kx247⟩ := h9
              refine lv_iadd hx hb dX5_tryOrders_97 ?_
              refine lv_topi (fun x248 ex248 => ?_)
              exact jn162 x248 _ _ hT hF hS m238 m239 m240 ls (lv_sub hl [0, 1, 2, 3, 4, 5, 6] rfl)
            · have t249 : x139.toInt ≠ 0 := ti_ne c229 rfl (by decide)
              refine lv_iconst (v := (-1)) hx hb dX5_tryOrders_72 (by decide) ?_
              refine lv_goto (tgt := 98) hx hb dX5_tryOrders_73 (by decide) ?_
              exact jn162 (-1) _ _ hT hF hS m9 m135 m138 ls (lv_sub hl [0, 1, 2, 3, 4, 5, 6] rfl)
      exact key128 (7 - 0) 0 (by omega) (Nat.le_refl _) _ _ hT hF hS hm_jb ls (lv_sub hl [0, 1, 2, 3, 4, 5, 6] rfl)
    · have t250 : jb.toInt ≤ 3 := ti_nlt c6 (by decide) rfl
      refine lv_aload_n hx hb dX5_tryOrders_26 rfl (lv_at hl 0 rfl) ?_
      refine lv_iload hx hb dX5_tryOrders_27 (lv_at hl 5 rfl) ?_
      refine tw_put (v := .int la) (ty := .int) hx hb hts bF2_X5 tyX5 tyX5_ok nmX5 hown hK hT hG hS hr_o0 shc_8 rfl 16 (by decide) (ht_at2 hts 0 rfl) (fun _ h9 => h9) rfl (by decide +kernel) rfl rfl (gl_at rfl (gi_all _)) dX5_tryOrders_29 (fun H locs hT oq m251 oj hS => ?_)
      have hF := hF.put hr_o0 skc_8 oq oj (by decide)
      have m252 := (oj 15 (by decide) (by decide)).trans hm_jb
      refine lv_aload_n hx hb dX5_tryOrders_32 rfl (lv_at hl 0 rfl) ?_
      refine tw_get hx hb hts bF2_X5 hown hK hT hr_o0 shc_8 rfl 10 (by decide) (ht_at2 hts 9 rfl) (fun _ h9 => h9) dX5_tryOrders_33 (fun v9 m253 h9 => ?_)
      obtain ⟨b254, rfl, hg255⟩ := h9 _ rfl
      refine lv_iconst (v := 0) hx hb dX5_tryOrders_36 (by decide) ?_
      refine lv_aload_n hx hb dX5_tryOrders_37 rfl (lv_at hl 0 rfl) ?_
      refine tw_get hx hb hts bF2_X5 hown hK hT hr_o0 shc_8 rfl 11 (by decide) (ht_at2 hts 13 rfl) (fun _ h9 => h9) dX5_tryOrders_38 (fun v9 m256 h9 => ?_)
      obtain ⟨b257, rfl, hg258⟩ := h9 _ rfl
      refine lv_iconst (v := 0) hx hb dX5_tryOrders_41 (by decide) ?_
      refine lv_aload_n hx hb dX5_tryOrders_42 rfl (lv_at hl 0 rfl) ?_
      refine tw_getM (v := .int jb) hx hb hts bF2_X5 hown hK hT hr_o0 shc_8 rfl 15 (by decide) (ht_at2 hts 1 rfl) (fun _ h9 => h9) m252 dX5_tryOrders_43 ?_
      refine tw_copy (ty := .int) hx hb (hml.trans hl.1.symm) hown (ht_at2 hts 14 rfl) (ht_at2 hts 15 rfl) (ht_at2 hts 16 rfl) (ht_at2 hts 17 rfl) hK hT hG hS hg255 hg258 shc_68 shc_69 rfl rfl (by decide) (by decide) (fun h9 => by have q9 := ti_lt h9 rfl (show (0 : Int32).toInt = 0 from by decide); omega) (by have q9 := tn_of (show jb.toInt = jb.toInt from rfl) (by omega); have q8 : (0 : Int32).toNatClampNeg = 0 := (by decide); omega) (by have q9 := tn_of (show jb.toInt = jb.toInt from rfl) (by omega); have q8 : (0 : Int32).toNatClampNeg = 0 := (by decide); omega) (fun _ _ h9 => by obtain ⟨x9, e9, _⟩ := h9; exact ⟨x9, e9, rfl⟩) (fun _ _ _ h9 => by obtain ⟨x9, e9, a9, b9⟩ := h9; exact ⟨x9, e9, by omega, by omega⟩) (Nat.le_of_ble_eq_true rfl) (Nat.le_of_ble_eq_true rfl) dX5_tryOrders_46 (fun H locs hT oq hS => ?_)
      have hF := hF.ast hg258 skc_69 oq (by decide)
      exact W.vret hx hb hr (fun t ht hW => ⟨⟨(), rfl, (by exact trivial), by (try dsimp only); rw [ht]; exact ⟨hT, hF⟩⟩, hS.F ht⟩) hS.2.2 dX5_tryOrders_49
  · have t263 : x2.toInt ≠ (-1) := ti_ne c4 rfl (by decide)
    refine lv_iload hx hb dX5_tryOrders_8 (lv_at hl 5 rfl) ?_
    refine lv_aload_n hx hb dX5_tryOrders_10 rfl (lv_at hl 0 rfl) ?_
    refine tw_getM (v := .int x2) hx hb hts bF2_X5 hown hK hT hr_o0 shc_8 rfl 16 (by decide) (ht_at2 hts 0 rfl) (fun _ h9 => h9) m1 dX5_tryOrders_11 ?_
    have t264 : -2147483648 ≤ la.toInt ∧ la.toInt ≤ 2147483647 := ti_all la
    refine lv_icmp_lt (tgt := 18) hx hb dX5_tryOrders_14 (by decide) (fun c265 => ?_) (fun c265 => ?_)
    · have t266 : la.toInt < x2.toInt := ti_lt c265 rfl rfl
      refine lv_iload_n hx hb dX5_tryOrders_18 rfl (lv_at hl 1 rfl) ?_
      refine lv_aload_n hx hb dX5_tryOrders_19 rfl (lv_at hl 0 rfl) ?_
      refine tw_getM (v := .int jb) hx hb hts bF2_X5 hown hK hT hr_o0 shc_8 rfl 15 (by decide) (ht_at2 hts 1 rfl) (fun _ h9 => h9) hm_jb dX5_tryOrders_20 ?_
      refine lv_icmp_lt (tgt := 50) hx hb dX5_tryOrders_23 (by decide) (fun c267 => ?_) (fun c267 => ?_)
      · have t268 : 3 < jb.toInt := ti_lt c267 (by decide) rfl
        refine lv_iconst (v := 0) hx hb dX5_tryOrders_50 (by decide) ?_
        refine lv_istore (lv' := [(7, .int 0), (0, .ref o0), (1, .int 3), (2, .int yr), (3, .long co), (5, .int ic), (6, .int la)]) hx hb dX5_tryOrders_51 hl (by decide) rfl (fun ls hl => ?_)
        have key389 : ∀ (n389 i269 : Nat), i269 + n389 = 7 → 0 ≤ i269 → ∀ (H : Heap) (locs : List Loc), gH (dC, dI) kA (SHc nC nS) G H → gF (dC, dI) SKc G ([(8, 16), (67, 0), (68, 0), (69, 0)] : List (Nat × Nat)) s.heap H → va_S A s.heap H locs → el H o0 (dI 8 15) = some (.int jb) → ∀ ls : Array Slot, lv_has ls 11 [(7, .int (nI i269)), (0, .ref o0), (1, .int 3), (2, .int yr), (3, .long co), (5, .int ic), (6, .int la)] → W p l e (headSpec w_c_tryOrders3 ({ frames := 6, cells := 0, slots := 0, locals := 180 })).room s m #[.ref o0, .int 3, .int yr, .long co, .int ic, .int la] below meth c H locs 0 0 (MQ below (va_Qv (fun (u : Unit) => True) (fun (_ : Unit) (t : State) => gH (dC, dI) kA (SHc nC nS) G t.heap ∧ gF (dC, dI) SKc G ([(8, 16), (67, 0), (68, 0), (69, 0)] : List (Nat × Nat)) s.heap t.heap) A) #[.ref o0, .int 3, .int yr, .long co, .int ic, .int la] s 0 0 A) (F0 m 53 ls []) := by
          intro n389
          induction n389 with
          | zero =>
            intro i269 hn389 hlo390  H locs hT hF hS m270 ls hl
            obtain rfl : 7 = i269 := by omega
            refine lv_iload hx hb dX5_tryOrders_53 (lv_at hl 0 rfl) ?_
            refine lv_aload_n hx hb dX5_tryOrders_55 rfl (lv_at hl 1 rfl) ?_
            refine tw_getM (v := .int jb) hx hb hts bF2_X5 hown hK hT hr_o0 shc_8 rfl 15 (by decide) (ht_at2 hts 1 rfl) (fun _ h9 => h9) m270 dX5_tryOrders_56 ?_
            refine lv_icmp_ge (tgt := 200) hx hb dX5_tryOrders_59 (by decide) (fun c391 => ?_) (fun c391 => (by exfalso; have q9 : ((7 : Nat) : Int) < jb.toInt := ti_nle c391 rfl (nI_toInt (by omega)); omega))
            have t392 : jb.toInt ≤ ((7 : Nat) : Int) := ti_le c391 rfl (nI_toInt (by omega))
            exact W.vret hx hb hr (fun t ht hW => ⟨⟨(), rfl, (by exact trivial), by (try dsimp only); rw [ht]; exact ⟨hT, hF⟩⟩, hS.F ht⟩) hS.2.2 dX5_tryOrders_200
          | succ n389 ih389 =>
            intro i269 hn389 hlo390  H locs hT hF hS m270 ls hl
            have hlt392 : i269 < 7 := by omega
            refine lv_iload hx hb dX5_tryOrders_53 (lv_at hl 0 rfl) ?_
            refine lv_aload_n hx hb dX5_tryOrders_55 rfl (lv_at hl 1 rfl) ?_
            refine tw_getM (v := .int jb) hx hb hts bF2_X5 hown hK hT hr_o0 shc_8 rfl 15 (by decide) (ht_at2 hts 1 rfl) (fun _ h9 => h9) m270 dX5_tryOrders_56 ?_
            refine lv_icmp_ge (tgt := 200) hx hb dX5_tryOrders_59 (by decide) (fun c393 => ?_) (fun c393 => ?_)
            · have t394 : jb.toInt ≤ ((i269 : Nat) : Int) := ti_le c393 rfl (nI_toInt (by omega))
              exact W.vret hx hb hr (fun t ht hW => ⟨⟨(), rfl, (by exact trivial), by (try dsimp only); rw [ht]; exact ⟨hT, hF⟩⟩, hS.F ht⟩) hS.2.2 dX5_tryOrders_200
            · have t395 : ((i269 : Nat) : Int) < jb.toInt := ti_nle c393 rfl (nI_toInt (by omega))
              refine lv_aload_n hx hb dX5_tryOrders_62 rfl (lv_at hl 1 rfl) ?_
              refine tw_get hx hb hts bF2_X5 hown hK hT hr_o0 shc_8 rfl 9 (by decide) (ht_at2 hts 2 rfl) (fun _ h9 => h9) dX5_tryOrders_63 (fun v9 m396 h9 => ?_)
              obtain ⟨b397, rfl, hg398⟩ := h9 _ rfl
              refine lv_iload hx hb dX5_tryOrders_66 (lv_at hl 0 rfl) ?_
              refine tw_zald (i := (nI i269)) hx hb hK hT hg398 shc_67 rfl (vp_in_nI (by omega) (by decide)) dX5_tryOrders_68 (fun v9 m399 h9 => ?_)
              obtain ⟨x400, rfl, gx400, kx400⟩ := h9
              have jn423 : ∀ (z419 : Int32), ∀ (H : Heap) (locs : List Loc), gH (dC, dI) kA (SHc nC nS) G H → gF (dC, dI) SKc G ([(8, 16), (67, 0), (68, 0), (69, 0)] : List (Nat × Nat)) s.heap H → va_S A s.heap H locs → el H o0 (dI 8 15) = some (.int jb) → el H o0 (dI 8 9) = some (.ref b397) → el H b397 (nI i269).toNatClampNeg = some (.int x400) → ∀ ls : Array Slot, lv_has ls 11 [(7, .int (nI i269)), (0, .ref o0), (1, .int 3), (2, .int yr), (3, .long co), (5, .int ic), (6, .int la)] → W p l e (headSpec w_c_tryOrders3 ({ frames := 6, cells := 0, slots := 0, locals := 180 })).room s m #[.ref o0, .int 3, .int yr, .long co, .int ic, .int la] below meth c H locs 0 0 (MQ below (va_Qv (fun (u : Unit) => True) (fun (_ : Unit) (t : State) => gH (dC, dI) kA (SHc nC nS) G t.heap ∧ gF (dC, dI) SKc G ([(8, 16), (67, 0), (68, 0), (69, 0)] : List (Nat × Nat)) s.heap t.heap) A) #[.ref o0, .int 3, .int yr, .long co, .int ic, .int la] s 0 0 A) (F0 m 98 ls [.int z419]) := by
                intro z419 H locs hT hF hS m420 m421 m422 ls hl
                refine lv_istore (lv' := [(8, .int z419), (7, .int (nI i269)), (0, .ref o0), (1, .int 3), (2, .int yr), (3, .long co), (5, .int ic), (6, .int la)]) hx hb dX5_tryOrders_98 hl (by decide) rfl (fun ls hl => ?_)
                refine lv_iload hx hb dX5_tryOrders_100 (lv_at hl 0 rfl) ?_
                refine lv_iconst (v := (-1)) hx hb dX5_tryOrders_102 (by decide) ?_
                have t424 : -2147483648 ≤ z419.toInt ∧ z419.toInt ≤ 2147483647 := ti_all z419
                refine lv_icmp_eq (tgt := 194) hx hb dX5_tryOrders_103 (by decide) (fun c425 => ?_) (fun c425 => ?_)
                · have t426 : z419.toInt = (-1) := ti_eq c425 rfl (by decide)
                  refine lv_iinc (v := nI (i269 + 1)) (lv' := [(7, .int (nI (i269 + 1))), (8, .int z419), (0, .ref o0), (1, .int 3), (2, .int yr), (3, .long co), (5, .int ic), (6, .int la)]) hx hb dX5_tryOrders_194 hl (k := 1) rfl (nI_add i269 1) (by decide) rfl (fun ls hl => ?_)
                  refine lv_goto (tgt := 53) hx hb dX5_tryOrders_197 (by decide) ?_
                  exact ih389 (i269 + 1) (by omega) (by omega) _ _ hT hF hS m420 ls (lv_sub hl [0, 2, 3, 4, 5, 6, 7] rfl)
                · have t427 : z419.toInt ≠ (-1) := ti_ne c425 rfl (by decide)
                  refine lv_iload hx hb dX5_tryOrders_106 (lv_at hl 0 rfl) ?_
                  refine lv_sipush (v := 200) hx hb dX5_tryOrders_108 (by decide) ?_
                  refine lv_icmp_gt (tgt := 194) hx hb dX5_tryOrders_111 (by decide) (fun c428 => ?_) (fun c428 => ?_)
                  · have t429 : 200 < z419.toInt := ti_lt c428 (by decide) rfl
                    refine lv_iinc (v := nI (i269 + 1)) (lv' := [(7, .int (nI (i269 + 1))), (8, .int z419), (0, .ref o0), (1, .int 3), (2, .int yr), (3, .long co), (5, .int ic), (6, .int la)]) hx hb dX5_tryOrders_194 hl (k := 1) rfl (nI_add i269 1) (by decide) rfl (fun ls hl => ?_)
                    refine lv_goto (tgt := 53) hx hb dX5_tryOrders_197 (by decide) ?_
                    exact ih389 (i269 + 1) (by omega) (by omega) _ _ hT hF hS m420 ls (lv_sub hl [0, 2, 3, 4, 5, 6, 7] rfl)
                  · have t430 : z419.toInt ≤ 200 := ti_nlt c428 (by decide) rfl
                    refine lv_lload_n hx hb dX5_tryOrders_114 rfl (lv_at hl 5 rfl) ?_
                    refine lv_iload hx hb dX5_tryOrders_115 (lv_at hl 6 rfl) ?_
                    refine lv_i2l (v := ic.toInt64) hx hb dX5_tryOrders_117 rfl ?_
                    refine lv_iload hx hb dX5_tryOrders_118 (lv_at hl 0 rfl) ?_
                    refine lv_iload_n hx hb dX5_tryOrders_120 rfl (lv_at hl 4 rfl) ?_
                    refine lv_isub hx hb dX5_tryOrders_121 ?_
                    refine lv_topi (fun x431 ex431 => ?_)
                    refine lv_i2l (v := x431.toInt64) hx hb dX5_tryOrders_122 rfl ?_
                    refine lv_lmul hx hb dX5_tryOrders_123 ?_
                    refine lv_topl (fun y432 _ => ?_)
                    refine lv_ladd hx hb dX5_tryOrders_124 ?_
                    refine lv_topl (fun y433 _ => ?_)
                    refine lv_aload_n hx hb dX5_tryOrders_125 rfl (lv_at hl 2 rfl) ?_
                    refine tw_get hx hb hts bF2_X5 hown hK hT hr_o0 shc_8 rfl 5 (by decide) (ht_at2 hts 3 rfl) (fun _ h9 => h9) dX5_tryOrders_126 (fun v9 m434 h9 => ?_)
                    obtain ⟨b435, rfl, hg436⟩ := h9 _ rfl
                    refine lv_iload hx hb dX5_tryOrders_129 (lv_at hl 1 rfl) ?_
                    refine tw_iald (i := (nI i269)) hx hb hK hT hg436 shc_63 rfl (vp_in_nI (by omega) (by decide)) dX5_tryOrders_131 (fun v9 m437 h9 => ?_)
                    obtain ⟨x438, rfl, gx438, kx438⟩ := h9
                    refine lv_i2l (v := x438.toInt64) hx hb dX5_tryOrders_132 rfl ?_
                    refine lv_lsub hx hb dX5_tryOrders_133 ?_
                    refine lv_topl (fun y439 _ => ?_)
                    refine lv_lstore (lv' := [(9, .long y439), (8, .int z419), (7, .int (nI i269)), (0, .ref o0), (1, .int 3), (2, .int yr), (3, .long co), (5, .int ic), (6, .int la)]) hx hb dX5_tryOrders_134 hl (by decide) rfl (fun ls hl => ?_)
                    refine lv_aload_n hx hb dX5_tryOrders_136 rfl (lv_at hl 3 rfl) ?_
                    refine tw_getM (v := .ref b397) hx hb hts bF2_X5 hown hK hT hr_o0 shc_8 rfl 9 (by decide) (ht_at2 hts 2 rfl) (fun _ h9 => h9) m421 dX5_tryOrders_137 ?_
                    refine lv_iload hx hb dX5_tryOrders_140 (lv_at hl 2 rfl) ?_
                    refine lv_iconst (v := 1) hx hb dX5_tryOrders_142 (by decide) ?_
                    refine tw_zast (i := (nI i269)) (x := 1) hx hb hK hT hG hS hg398 shc_67 rfl (vp_in_nI (by omega) (by decide)) (gi_z (rg_t (a := 1) (by decide) (by first | decide | omega) (by first | decide | omega)) (by decide) (by decide)) dX5_tryOrders_143 (fun H locs hT oq m440 oi hS => ?_)
                    have hF := hF.ast hg398 skc_67 oq (by decide)
                    have m441 := (el_kept (oq _ (gne hr_o0 hg398 (by decide)))).trans m420
                    have m442 := (el_kept (oq _ (gne hr_o0 hg398 (by decide)))).trans m421
                    refine lv_aload_n hx hb dX5_tryOrders_144 rfl (lv_at hl 3 rfl) ?_
                    refine tw_get hx hb hts bF2_X5 hown hK hT hr_o0 shc_8 rfl 10 (by decide) (ht_at2 hts 9 rfl) (fun _ h9 => h9) dX5_tryOrders_145 (fun v9 m445 h9 => ?_)
                    obtain ⟨b446, rfl, hg447⟩ := h9 _ rfl
                    refine lv_iload_n hx hb dX5_tryOrders_148 rfl (lv_at hl 4 rfl) ?_
                    refine lv_iload hx hb dX5_tryOrders_149 (lv_at hl 2 rfl) ?_
                    refine tw_iast (i := 3) (x := (nI i269)) hx hb hK hT hG hS hg447 shc_68 rfl (by unfold vp_in; decide) (gi_of (show (nI i269).toInt = ((i269 : Nat) : Int) from (nI_toInt (by omega))) (by omega) (by omega)) dX5_tryOrders_151 (fun H locs hT oq m448 oi hS => ?_)
                    have hF := hF.ast hg447 skc_68 oq (by decide)
                    have m449 := (el_kept (oq _ (gne hr_o0 hg447 (by decide)))).trans m441
                    have m450 := (el_kept (oq _ (gne hr_o0 hg447 (by decide)))).trans m442
                    refine lv_aload_n hx hb dX5_tryOrders_152 rfl (lv_at hl 3 rfl) ?_
                    refine lv_iload_n hx hb dX5_tryOrders_153 rfl (lv_at hl 4 rfl) ?_
                    refine lv_iconst (v := 1) hx hb dX5_tryOrders_154 (by decide) ?_
                    refine lv_iadd hx hb dX5_tryOrders_155 ?_
                    refine lv_topi (fun x454 ex454 => ?_)
                    obtain rfl : x454 = 4 := ex454.trans (by decide)
                    refine lv_iload hx hb dX5_tryOrders_156 (lv_at hl 1 rfl) ?_
                    refine lv_lload hx hb dX5_tryOrders_158 (lv_at hl 0 rfl) ?_
                    refine lv_iload hx hb dX5_tryOrders_160 (lv_at hl 7 rfl) ?_
                    refine lv_aload_n hx hb dX5_tryOrders_162 rfl (lv_at hl 3 rfl) ?_
                    refine tw_get hx hb hts bF2_X5 hown hK hT hr_o0 shc_8 rfl 7 (by decide) (ht_at2 hts 10 rfl) (fun _ h9 => h9) dX5_tryOrders_163 (fun v9 m455 h9 => ?_)
                    obtain ⟨b456, rfl, hg457⟩ := h9 _ rfl
                    refine lv_iload hx hb dX5_tryOrders_166 (lv_at hl 2 rfl) ?_
                    refine tw_iald (i := (nI i269)) hx hb hK hT hg457 shc_65 rfl (vp_in_nI (by omega) (by decide)) dX5_tryOrders_168 (fun v9 m458 h9 => ?_)
                    obtain ⟨x459, rfl, gx459, kx459⟩ := h9
                    refine lv_iadd hx hb dX5_tryOrders_169 ?_
                    refine lv_topi (fun x460 ex460 => ?_)
                    refine lv_iload hx hb dX5_tryOrders_170 (lv_at hl 8 rfl) ?_
                    refine lv_aload_n hx hb dX5_tryOrders_172 rfl (lv_at hl 3 rfl) ?_
                    refine tw_get hx hb hts bF2_X5 hown hK hT hr_o0 shc_8 rfl 8 (by decide) (ht_at2 hts 11 rfl) (fun _ h9 => h9) dX5_tryOrders_173 (fun v9 m461 h9 => ?_)
                    obtain ⟨b462, rfl, hg463⟩ := h9 _ rfl
                    refine lv_iload hx hb dX5_tryOrders_176 (lv_at hl 2 rfl) ?_
                    refine tw_iald (i := (nI i269)) hx hb hK hT hg463 shc_66 rfl (vp_in_nI (by omega) (by decide)) dX5_tryOrders_178 (fun v9 m464 h9 => ?_)
                    obtain ⟨x465, rfl, gx465, kx465⟩ := h9
                    refine lv_iload hx hb dX5_tryOrders_179 (lv_at hl 1 rfl) ?_
                    refine lv_imul hx hb dX5_tryOrders_181 ?_
                    refine lv_topi (fun x466 ex466 => ?_)
                    refine lv_iadd hx hb dX5_tryOrders_182 ?_
                    refine lv_topi (fun x467 ex467 => ?_)
                    have hFc := gA_free hG hA hS
                    refine va_callv (va_runV (As := [.int 4, .int z419, .long y439, .int x460, .int x467]) (rest := []) ⟨hx, hb, hml, hown, hts⟩ (c_tryOrders4 l dC dI kA adK adV G H nC nS o0 z419 y439 x460 x467 jb hT hr_o0 m449 (by have q8 := ti_all jb; omega) (by omega) (by omega)) (cwV 5 hts (goodIn_app (goodIn_r _ [19, 20, 21, 8] rfl (by decide +kernel)) (goodIn_ca (goodIn_r _ [13, 1, 2, 3, 4, 5, 6, 7, 8, 9, 10, 11, 12, 13, 14, 15, 16, 17, 18, 19, 20, 21] rfl (by decide +kernel)) (bs2_in _ _))) rfl rfl rfl (by decide +kernel) ⟨(Nat.le_of_ble_eq_true rfl), (Nat.le_of_ble_eq_true rfl)⟩) ⟨fun a U g mk q => by obtain ⟨q0, q1, qK, qE⟩ := q; exact ⟨q0, q1, va_K.moved (u := U) (U := U.calling g mk a) (Vm.Alike.refl U.vm) qK, EVC.blind g mk a qE⟩, gH_rc hK hT hr_o0 shc_8 rfl, fun U hU hW => ⟨rfl, hU, va_K.moved hW.alike hK, hE.call hS hFc hU hW⟩⟩ rfl rfl hl.1 rfl (lv_room (Nat.le_of_ble_eq_true rfl)) dX5_tryOrders_183 ⟨(Nat.le_of_ble_eq_true rfl), (Nat.le_of_ble_eq_true rfl)⟩) hS (fun q _ h => hFc q h) hFc (fun u t H locs ht hvm hw469 hB _ _ hS => ?_)
                    obtain ⟨hT, hF1⟩ := hB
                    rw [ht] at hT hF1
                    have m470 := (hF1.fld hr_o0 skc_8 (k := 15) (by decide) (by decide)).trans m449
                    have m471 := (hF1.fld hr_o0 skc_8 (k := 9) (by decide) (by decide)).trans m450
                    have hF := hF.more hF1 (by decide)
                    try dsimp only at hw469
                    refine lv_aload_n hx hb dX5_tryOrders_186 rfl (lv_at hl 3 rfl) ?_
                    refine tw_getM (v := .ref b397) hx hb hts bF2_X5 hown hK hT hr_o0 shc_8 rfl 9 (by decide) (ht_at2 hts 2 rfl) (fun _ h9 => h9) m471 dX5_tryOrders_187 ?_
                    refine lv_iload hx hb dX5_tryOrders_190 (lv_at hl 2 rfl) ?_
                    refine lv_iconst (v := 0) hx hb dX5_tryOrders_192 (by decide) ?_
                    refine tw_zast (i := (nI i269)) (x := 0) hx hb hK hT hG hS hg398 shc_67 rfl (vp_in_nI (by omega) (by decide)) (gi_z (rg_t (a := 0) (by decide) (by first | decide | omega) (by first | decide | omega)) (by decide) (by decide)) dX5_tryOrders_193 (fun H locs hT oq m480 oi hS => ?_)
                    have hF := hF.ast hg398 skc_67 oq (by decide)
                    have m481 := (el_kept (oq _ (gne hr_o0 hg398 (by decide)))).trans m470
                    refine lv_iinc (v := nI (i269 + 1)) (lv' := [(7, .int (nI (i269 + 1))), (9, .long y439), (8, .int z419), (0, .ref o0), (1, .int 3), (2, .int yr), (3, .long co), (5, .int ic), (6, .int la)]) hx hb dX5_tryOrders_194 hl (k := 2) rfl (nI_add i269 1) (by decide) rfl (fun ls hl => ?_)
                    refine lv_goto (tgt := 53) hx hb dX5_tryOrders_197 (by decide) ?_
                    exact ih389 (i269 + 1) (by omega) (by omega) _ _ hT hF hS m481 ls (lv_sub hl [0, 3, 4, 5, 6, 7, 8] rfl)
              refine lv_if_eq (tgt := 76) hx hb dX5_tryOrders_69 (by decide) (fun c490 => ?_) (fun c490 => ?_)
              · have t491 : x400.toInt = 0 := ti_eq c490 rfl (by decide)
                refine lv_iload_n hx hb dX5_tryOrders_76 rfl (lv_at hl 3 rfl) ?_
                refine lv_lload_n hx hb dX5_tryOrders_77 rfl (lv_at hl 4 rfl) ?_
                refine lv_iload hx hb dX5_tryOrders_78 (lv_at hl 5 rfl) ?_
                refine lv_aload_n hx hb dX5_tryOrders_80 rfl (lv_at hl 1 rfl) ?_
                refine tw_get hx hb hts bF2_X5 hown hK hT hr_o0 shc_8 rfl 5 (by decide) (ht_at2 hts 3 rfl) (fun _ h9 => h9) dX5_tryOrders_81 (fun v9 m492 h9 => ?_)
                obtain ⟨b493, rfl, hg494⟩ := h9 _ rfl
                refine lv_iload hx hb dX5_tryOrders_84 (lv_at hl 0 rfl) ?_
                refine tw_iald (i := (nI i269)) hx hb hK hT hg494 shc_63 rfl (vp_in_nI (by omega) (by decide)) dX5_tryOrders_86 (fun v9 m495 h9 => ?_)
                obtain ⟨x496, rfl, gx496, kx496⟩ := h9
                have hFc := gA_free hG hA hS
                refine va_calli (va_runS (As := [.int yr, .long co, .int ic, .int x496]) (rest := []) ⟨hx, hb, hml, hown, hts⟩ (c_yearWithCost l dC dI kA adK adV G H nC nS yr co ic x496 hT (by omega) (by omega)) (va_cwS 4 hts (goodIn_app (goodIn_r _ [6, 7, 8] rfl (by decide +kernel)) (goodIn_ca (goodIn_r _ [5] rfl (by decide +kernel)) (bs2_in _ _))) rfl rfl rfl (by decide +kernel) ⟨(Nat.le_of_ble_eq_true rfl), (Nat.le_of_ble_eq_true rfl)⟩) ⟨fun a U g mk q => by obtain ⟨q0, q1, qK, qE⟩ := q; exact ⟨q0, q1, va_K.moved (u := U) (U := U.calling g mk a) (Vm.Alike.refl U.vm) qK, EVC.blind g mk a qE⟩, fun U hU hW => ⟨rfl, hU, va_K.moved hW.alike hK, hE.call hS hFc hU hW⟩⟩ rfl rfl hl.1 rfl (lv_room (Nat.le_of_ble_eq_true rfl)) dX5_tryOrders_87 ⟨(Nat.le_of_ble_eq_true rfl), (Nat.le_of_ble_eq_true rfl)⟩) hS (fun q _ h => hFc q h) hFc (fun r497 u t H locs ht hvm hw498 hB _ _ hS => ?_)
                obtain ⟨hT, hF1⟩ := hB
                rw [ht] at hT hF1
                have m499 := (hF1.fld hr_o0 skc_8 (k := 15) (by decide) (by decide)).trans m270
                have m500 := (hF1.fld hr_o0 skc_8 (k := 9) (by decide) (by decide)).trans m396
                have m501 := (el_kept (hF1.arr hg398 skc_67 (by decide))).trans m399
                have hF := hF.more hF1 (by decide)
                try dsimp only at hw498
                refine lv_aload_n hx hb dX5_tryOrders_90 rfl (lv_at hl 1 rfl) ?_
                refine tw_get hx hb hts bF2_X5 hown hK hT hr_o0 shc_8 rfl 6 (by decide) (ht_at2 hts 8 rfl) (fun _ h9 => h9) dX5_tryOrders_91 (fun v9 m504 h9 => ?_)
                obtain ⟨b505, rfl, hg506⟩ := h9 _ rfl
                refine lv_iload hx hb dX5_tryOrders_94 (lv_at hl 0 rfl) ?_
                refine tw_iald (i := (nI i269)) hx hb hK hT hg506 shc_64 rfl (vp_in_nI (by omega) (by decide)) dX5_tryOrders_96 (fun v9 m507 h9 => ?_)
                obtain ⟨x508, rfl, gx508, kx508⟩ := h9
                refine lv_iadd hx hb dX5_tryOrders_97 ?_
                refine lv_topi (fun x509 ex509 => ?_)
                exact jn423 x509 _ _ hT hF hS m499 m500 m501 ls (lv_sub hl [0, 1, 2, 3, 4, 5, 6] rfl)
              · have t510 : x400.toInt ≠ 0 := ti_ne c490 rfl (by decide)
                refine lv_iconst (v := (-1)) hx hb dX5_tryOrders_72 (by decide) ?_
                refine lv_goto (tgt := 98) hx hb dX5_tryOrders_73 (by decide) ?_
                exact jn423 (-1) _ _ hT hF hS m270 m396 m399 ls (lv_sub hl [0, 1, 2, 3, 4, 5, 6] rfl)
        exact key389 (7 - 0) 0 (by omega) (Nat.le_refl _) _ _ hT hF hS hm_jb ls (lv_sub hl [0, 1, 2, 3, 4, 5, 6] rfl)
      · have t511 : jb.toInt ≤ 3 := ti_nlt c267 (by decide) rfl
        refine lv_aload_n hx hb dX5_tryOrders_26 rfl (lv_at hl 0 rfl) ?_
        refine lv_iload hx hb dX5_tryOrders_27 (lv_at hl 5 rfl) ?_
        refine tw_put (v := .int la) (ty := .int) hx hb hts bF2_X5 tyX5 tyX5_ok nmX5 hown hK hT hG hS hr_o0 shc_8 rfl 16 (by decide) (ht_at2 hts 0 rfl) (fun _ h9 => h9) rfl (by decide +kernel) rfl rfl (gl_at rfl (gi_all _)) dX5_tryOrders_29 (fun H locs hT oq m512 oj hS => ?_)
        have hF := hF.put hr_o0 skc_8 oq oj (by decide)
        have m513 := (oj 15 (by decide) (by decide)).trans hm_jb
        refine lv_aload_n hx hb dX5_tryOrders_32 rfl (lv_at hl 0 rfl) ?_
        refine tw_get hx hb hts bF2_X5 hown hK hT hr_o0 shc_8 rfl 10 (by decide) (ht_at2 hts 9 rfl) (fun _ h9 => h9) dX5_tryOrders_33 (fun v9 m514 h9 => ?_)
        obtain ⟨b515, rfl, hg516⟩ := h9 _ rfl
        refine lv_iconst (v := 0) hx hb dX5_tryOrders_36 (by decide) ?_
        refine lv_aload_n hx hb dX5_tryOrders_37 rfl (lv_at hl 0 rfl) ?_
        refine tw_get hx hb hts bF2_X5 hown hK hT hr_o0 shc_8 rfl 11 (by decide) (ht_at2 hts 13 rfl) (fun _ h9 => h9) dX5_tryOrders_38 (fun v9 m517 h9 => ?_)
        obtain ⟨b518, rfl, hg519⟩ := h9 _ rfl
        refine lv_iconst (v := 0) hx hb dX5_tryOrders_41 (by decide) ?_
        refine lv_aload_n hx hb dX5_tryOrders_42 rfl (lv_at hl 0 rfl) ?_
        refine tw_getM (v := .int jb) hx hb hts bF2_X5 hown hK hT hr_o0 shc_8 rfl 15 (by decide) (ht_at2 hts 1 rfl) (fun _ h9 => h9) m513 dX5_tryOrders_43 ?_
        refine tw_copy (ty := .int) hx hb (hml.trans hl.1.symm) hown (ht_at2 hts 14 rfl) (ht_at2 hts 15 rfl) (ht_at2 hts 16 rfl) (ht_at2 hts 17 rfl) hK hT hG hS hg516 hg519 shc_68 shc_69 rfl rfl (by decide) (by decide) (fun h9 => by have q9 := ti_lt h9 rfl (show (0 : Int32).toInt = 0 from by decide); omega) (by have q9 := tn_of (show jb.toInt = jb.toInt from rfl) (by omega); have q8 : (0 : Int32).toNatClampNeg = 0 := (by decide); omega) (by have q9 := tn_of (show jb.toInt = jb.toInt from rfl) (by omega); have q8 : (0 : Int32).toNatClampNeg = 0 := (by decide); omega) (fun _ _ h9 => by obtain ⟨x9, e9, _⟩ := h9; exact ⟨x9, e9, rfl⟩) (fun _ _ _ h9 => by obtain ⟨x9, e9, a9, b9⟩ := h9; exact ⟨x9, e9, by omega, by omega⟩) (Nat.le_of_ble_eq_true rfl) (Nat.le_of_ble_eq_true rfl) dX5_tryOrders_46 (fun H locs hT oq hS => ?_)
        have hF := hF.ast hg519 skc_69 oq (by decide)
        exact W.vret hx hb hr (fun t ht hW => ⟨⟨(), rfl, (by exact trivial), by (try dsimp only); rw [ht]; exact ⟨hT, hF⟩⟩, hS.F ht⟩) hS.2.2 dX5_tryOrders_49
    · have t524 : x2.toInt ≤ la.toInt := ti_nlt c265 rfl rfl
      exact W.vret hx hb hr (fun t ht hW => ⟨⟨(), rfl, (by exact trivial), by (try dsimp only); rw [ht]; exact ⟨hT, hF⟩⟩, hS.F ht⟩) hS.2.2 dX5_tryOrders_17
def w_c_tryOrders2 : List Cond := .code yX5_tryOrders cX5_tryOrders 11 none :: (HAppend.hAppend (α := List Cond) (β := List Cond) (γ := List Cond) [.fieldLink RX5 157 "SeaLand$Plans" "bestLate" "I", .fieldLink RX5 154 "SeaLand$Plans" "jobs" "I", .fieldLink RX5 41 "SeaLand$Plans" "placed" "[Z", .fieldLink RX5 29 "SeaLand$Plans" "costs" "[I", .code yX5_yearWithCost cX5_yearWithCost 5 (some .int), .methodLink RX5 164 yX5_yearWithCost, .static yX5_yearWithCost, .initialized RX5, .fieldLink RX5 32 "SeaLand$Plans" "lasts" "[I", .fieldLink RX5 45 "SeaLand$Plans" "trial" "[I", .fieldLink RX5 35 "SeaLand$Plans" "incomes" "[I", .fieldLink RX5 38 "SeaLand$Plans" "acres" "[I", .code yX5_tryOrders cX5_tryOrders 11 none, .fieldLink RX5 48 "SeaLand$Plans" "best" "[I", .methodLink RX5 100 arraycopyName, .native arraycopyName, .static arraycopyName, .initialized "java/lang/System", .methodLink RX5 160 yX5_tryOrders, .instanceMethod yX5_tryOrders, .selects RX5 yX5_tryOrders yX5_tryOrders] bs2)
set_option maxHeartbeats 4000000 in
set_option maxRecDepth 100000 in
theorem c_tryOrders2 (l : Launch) (dC : Nat → ClassId) (dI : Nat → Nat → Nat) (kA : Nat → ClassId) (adK adV : Nat → Nat) (G : gT) (H0 : Heap) (nC nS : Int) (o0 : Nat) (yr : Int32) (co : Int64) (ic : Int32) (la : Int32) (jb : Int32)  (hT : gH (dC, dI) kA (SHc nC nS) G H0) (hr_o0 : G o0 = some 8) (hm_jb : el H0 o0 (dI 8 15) = some (.int jb)) (hq0 : 0 ≤ jb.toInt ∧ jb.toInt ≤ 7) (hgC : 0 ≤ nC ∧ nC ≤ 40) (hgS : 0 ≤ nS ∧ nS ≤ 60) : Met l yX5_tryOrders w_c_tryOrders2 ({ frames := 7, cells := 0, slots := 0, locals := 210 }) (va_Pc [.ref o0, .int 2, .int yr, .long co, .int ic, .int la] (fun U => U.heap = H0 ∧ va_K (dC, dI) vwCl (tyl kA) U ∧ EVC adK adV (gA G H0.size) U U.heap)) (va_Qv (fun (u : Unit) => True) (fun (_ : Unit) (t : State) => gH (dC, dI) kA (SHc nC nS) G t.heap ∧ gF (dC, dI) SKc G ([(8, 16), (67, 0), (68, 0), (69, 0)] : List (Nat × Nat)) H0 t.heap) (gA G H0.size)) 0 0 (gA G H0.size) := by
  refine Met.ofW (cc := cX5_tryOrders) (maxL := 11) (ret := none) (by decide) rfl ?_
  intro p e s m args below meth c s₁ B hml hv
  obtain ⟨rfl, hH0, hK, hE⟩ := hv
  have hx := B.exec
  have hb := B.bytes
  have hr := B.returns
  have hts := atoms_spec (ws := w_c_tryOrders2) B.pre
  have hown : s.vm.findClass RX5 = some m.cls := findClass_of_methodNamed B.named
  have hlocks := B.notSynchronized
  subst hH0
  generalize hAe : gA G s.heap.size = A at hE ⊢
  have hA : ∀ q : Nat, s.heap.size ≤ q → A q := fun q h => by rw [← hAe]; exact Or.inr h
  have hG := gA_of hAe
  have hS : va_S A s.heap s.heap [] := va_S.rf
  have hF : gF (dC, dI) SKc G ([(8, 16), (67, 0), (68, 0), (69, 0)] : List (Nat × Nat)) s.heap s.heap := gF.rf
  have hl := lv_entry ([.ref o0, .int 2, .int yr, .long co, .int ic, .int la]) (n := 11) (Nat.le_of_ble_eq_true rfl)
  rw [lg_entry_eq]
  generalize (lg_sl ([.ref o0, .int 2, .int yr, .long co, .int ic, .int la]) ++ List.replicate (11 - (lg_sl ([.ref o0, .int 2, .int yr, .long co, .int ic, .int la])).length) Slot.unset).toArray = ls at hl ⊢
  have hl : lv_has ls 11 [(0, .ref o0), (1, .int 2), (2, .int yr), (3, .long co), (5, .int ic), (6, .int la)] := hl
  refine lv_aload_n hx hb dX5_tryOrders_0 rfl (lv_at hl 0 rfl) ?_
  refine tw_get hx hb hts bF2_X5 hown hK hT hr_o0 shc_8 rfl 16 (by decide) (ht_at2 hts 0 rfl) (fun _ h9 => h9) dX5_tryOrders_1 (fun v9 m1 h9 => ?_)
  obtain ⟨x2, rfl, gx2, kx2⟩ := h9 _ rfl
  refine lv_iconst (v := (-1)) hx hb dX5_tryOrders_4 (by decide) ?_
  have t3 : -2147483648 ≤ x2.toInt ∧ x2.toInt ≤ 2147483647 := ti_all x2
  refine lv_icmp_eq (tgt := 18) hx hb dX5_tryOrders_5 (by decide) (fun c4 => ?_) (fun c4 => ?_)
  · have t5 : x2.toInt = (-1) := ti_eq c4 rfl (by decide)
    refine lv_iload_n hx hb dX5_tryOrders_18 rfl (lv_at hl 1 rfl) ?_
    refine lv_aload_n hx hb dX5_tryOrders_19 rfl (lv_at hl 0 rfl) ?_
    refine tw_getM (v := .int jb) hx hb hts bF2_X5 hown hK hT hr_o0 shc_8 rfl 15 (by decide) (ht_at2 hts 1 rfl) (fun _ h9 => h9) hm_jb dX5_tryOrders_20 ?_
    refine lv_icmp_lt (tgt := 50) hx hb dX5_tryOrders_23 (by decide) (fun c6 => ?_) (fun c6 => ?_)
    · have t7 : 2 < jb.toInt := ti_lt c6 (by decide) rfl
      refine lv_iconst (v := 0) hx hb dX5_tryOrders_50 (by decide) ?_
      refine lv_istore (lv' := [(7, .int 0), (0, .ref o0), (1, .int 2), (2, .int yr), (3, .long co), (5, .int ic), (6, .int la)]) hx hb dX5_tryOrders_51 hl (by decide) rfl (fun ls hl => ?_)
      have key128 : ∀ (n128 i8 : Nat), i8 + n128 = 7 → 0 ≤ i8 → ∀ (H : Heap) (locs : List Loc), gH (dC, dI) kA (SHc nC nS) G H → gF (dC, dI) SKc G ([(8, 16), (67, 0), (68, 0), (69, 0)] : List (Nat × Nat)) s.heap H → va_S A s.heap H locs → el H o0 (dI 8 15) = some (.int jb) → ∀ ls : Array Slot, lv_has ls 11 [(7, .int (nI i8)), (0, .ref o0), (1, .int 2), (2, .int yr), (3, .long co), (5, .int ic), (6, .int la)] → W p l e (headSpec w_c_tryOrders2 ({ frames := 7, cells := 0, slots := 0, locals := 210 })).room s m #[.ref o0, .int 2, .int yr, .long co, .int ic, .int la] below meth c H locs 0 0 (MQ below (va_Qv (fun (u : Unit) => True) (fun (_ : Unit) (t : State) => gH (dC, dI) kA (SHc nC nS) G t.heap ∧ gF (dC, dI) SKc G ([(8, 16), (67, 0), (68, 0), (69, 0)] : List (Nat × Nat)) s.heap t.heap) A) #[.ref o0, .int 2, .int yr, .long co, .int ic, .int la] s 0 0 A) (F0 m 53 ls []) := by
        intro n128
        induction n128 with
        | zero =>
          intro i8 hn128 hlo129  H locs hT hF hS m9 ls hl
          obtain rfl : 7 = i8 := by omega
          refine lv_iload hx hb dX5_tryOrders_53 (lv_at hl 0 rfl) ?_
          refine lv_aload_n hx hb dX5_tryOrders_55 rfl (lv_at hl 1 rfl) ?_
          refine tw_getM (v := .int jb) hx hb hts bF2_X5 hown hK hT hr_o0 shc_8 rfl 15 (by decide) (ht_at2 hts 1 rfl) (fun _ h9 => h9) m9 dX5_tryOrders_56 ?_
          refine lv_icmp_ge (tgt := 200) hx hb dX5_tryOrders_59 (by decide) (fun c130 => ?_) (fun c130 => (by exfalso; have q9 : ((7 : Nat) : Int) < jb.toInt := ti_nle c130 rfl (nI_toInt (by omega)); omega))
          have t131 : jb.toInt ≤ ((7 : Nat) : Int) := ti_le c130 rfl (nI_toInt (by omega))
          exact W.vret hx hb hr (fun t ht hW => ⟨⟨(), rfl, (by exact trivial), by (try dsimp only); rw [ht]; exact ⟨hT, hF⟩⟩, hS.F ht⟩) hS.2.2 dX5_tryOrders_200
        | succ n128 ih128 =>
          intro i8 hn128 hlo129  H locs hT hF hS m9 ls hl
          have hlt131 : i8 < 7 := by omega
          refine lv_iload hx hb dX5_tryOrders_53 (lv_at hl 0 rfl) ?_
          refine lv_aload_n hx hb dX5_tryOrders_55 rfl (lv_at hl 1 rfl) ?_
          refine tw_getM (v := .int jb) hx hb hts bF2_X5 hown hK hT hr_o0 shc_8 rfl 15 (by decide) (ht_at2 hts 1 rfl) (fun _ h9 => h9) m9 dX5_tryOrders_56 ?_
          refine lv_icmp_ge (tgt := 200) hx hb dX5_tryOrders_59 (by decide) (fun c132 => ?_) (fun c132 => ?_)
          · have t133 : jb.toInt ≤ ((i8 : Nat) : Int) := ti_le c132 rfl (nI_toInt (by omega))
            exact W.vret hx hb hr (fun t ht hW => ⟨⟨(), rfl, (by exact trivial), by (try dsimp only); rw [ht]; exact ⟨hT, hF⟩⟩, hS.F ht⟩) hS.2.2 dX5_tryOrders_200
          · have t134 : ((i8 : Nat) : Int) < jb.toInt := ti_nle c132 rfl (nI_toInt (by omega))
            refine lv_aload_n hx hb dX5_tryOrders_62 rfl (lv_at hl 1 rfl) ?_
            refine tw_get hx hb hts bF2_X5 hown hK hT hr_o0 shc_8 rfl 9 (by decide) (ht_at2 hts 2 rfl) (fun _ h9 => h9) dX5_tryOrders_63 (fun v9 m135 h9 => ?_)
            obtain ⟨b136, rfl, hg137⟩ := h9 _ rfl
            refine lv_iload hx hb dX5_tryOrders_66 (lv_at hl 0 rfl) ?_
            refine tw_zald (i := (nI i8)) hx hb hK hT hg137 shc_67 rfl (vp_in_nI (by omega) (by decide)) dX5_tryOrders_68 (fun v9 m138 h9 => ?_)
            obtain ⟨x139, rfl, gx139, kx139⟩ := h9
            have jn162 : ∀ (z158 : Int32), ∀ (H : Heap) (locs : List Loc), gH (dC, dI) kA (SHc nC nS) G H → gF (dC, dI) SKc G ([(8, 16), (67, 0), (68, 0), (69, 0)] : List (Nat × Nat)) s.heap H → va_S A s.heap H locs → el H o0 (dI 8 15) = some (.int jb) → el H o0 (dI 8 9) = some (.ref b136) → el H b136 (nI i8).toNatClampNeg = some (.int x139) → ∀ ls : Array Slot, lv_has ls 11 [(7, .int (nI i8)), (0, .ref o0), (1, .int 2), (2, .int yr), (3, .long co), (5, .int ic), (6, .int la)] → W p l e (headSpec w_c_tryOrders2 ({ frames := 7, cells := 0, slots := 0, locals := 210 })).room s m #[.ref o0, .int 2, .int yr, .long co, .int ic, .int la] below meth c H locs 0 0 (MQ below (va_Qv (fun (u : Unit) => True) (fun (_ : Unit) (t : State) => gH (dC, dI) kA (SHc nC nS) G t.heap ∧ gF (dC, dI) SKc G ([(8, 16), (67, 0), (68, 0), (69, 0)] : List (Nat × Nat)) s.heap t.heap) A) #[.ref o0, .int 2, .int yr, .long co, .int ic, .int la] s 0 0 A) (F0 m 98 ls [.int z158]) := by
              intro z158 H locs hT hF hS m159 m160 m161 ls hl
              refine lv_istore (lv' := [(8, .int z158), (7, .int (nI i8)), (0, .ref o0), (1, .int 2), (2, .int yr), (3, .long co), (5, .int ic), (6, .int la)]) hx hb dX5_tryOrders_98 hl (by decide) rfl (fun ls hl => ?_)
              refine lv_iload hx hb dX5_tryOrders_100 (lv_at hl 0 rfl) ?_
              refine lv_iconst (v := (-1)) hx hb dX5_tryOrders_102 (by decide) ?_
              have t163 : -2147483648 ≤ z158.toInt ∧ z158.toInt ≤ 2147483647 := ti_all z158
              refine lv_icmp_eq (tgt := 194) hx hb dX5_tryOrders_103 (by decide) (fun c164 => ?_) (fun c164 => ?_)
              · have t165 : z158.toInt = (-1) := ti_eq c164 rfl (by decide)
                refine lv_iinc (v := nI (i8 + 1)) (lv' := [(7, .int (nI (i8 + 1))), (8, .int z158), (0, .ref o0), (1, .int 2), (2, .int yr), (3, .long co), (5, .int ic), (6, .int la)]) hx hb dX5_tryOrders_194 hl (k := 1) rfl (nI_add i8 1) (by decide) rfl (fun ls hl => ?_)
                refine lv_goto (tgt := 53) hx hb dX5_tryOrders_197 (by decide) ?_
                exact ih128 (i8 + 1) (by omega) (by omega) _ _ hT hF hS m159 ls (lv_sub hl [0, 2, 3, 4, 5, 6, 7] rfl)
              · have t166 : z158.toInt ≠ (-1) := ti_ne c164 rfl (by decide)
                refine lv_iload hx hb dX5_tryOrders_106 (lv_at hl 0 rfl) ?_
                refine lv_sipush (v := 200) hx hb dX5_tryOrders_108 (by decide) ?_
                refine lv_icmp_gt (tgt := 194) hx hb dX5_tryOrders_111 (by decide) (fun c167 => ?_) (fun c167 => ?_)
                · have t168 : 200 < z158.toInt := ti_lt c167 (by decide) rfl
                  refine lv_iinc (v := nI (i8 + 1)) (lv' := [(7, .int (nI (i8 + 1))), (8, .int z158), (0, .ref o0), (1, .int 2), (2, .int yr), (3, .long co), (5, .int ic), (6, .int la)]) hx hb dX5_tryOrders_194 hl (k := 1) rfl (nI_add i8 1) (by decide) rfl (fun ls hl => ?_)
                  refine lv_goto (tgt := 53) hx hb dX5_tryOrders_197 (by decide) ?_
                  exact ih128 (i8 + 1) (by omega) (by omega) _ _ hT hF hS m159 ls (lv_sub hl [0, 2, 3, 4, 5, 6, 7] rfl)
                · have t169 : z158.toInt ≤ 200 := ti_nlt c167 (by decide) rfl
                  refine lv_lload_n hx hb dX5_tryOrders_114 rfl (lv_at hl 5 rfl) ?_
                  refine lv_iload hx hb dX5_tryOrders_115 (lv_at hl 6 rfl) ?_
                  refine lv_i2l (v := ic.toInt64) hx hb dX5_tryOrders_117 rfl ?_
                  refine lv_iload hx hb dX5_tryOrders_118 (lv_at hl 0 rfl) ?_
                  refine lv_iload_n hx hb dX5_tryOrders_120 rfl (lv_at hl 4 rfl) ?_
                  refine lv_isub hx hb dX5_tryOrders_121 ?_
                  refine lv_topi (fun x170 ex170 => ?_)
                  refine lv_i2l (v := x170.toInt64) hx hb dX5_tryOrders_122 rfl ?_
                  refine lv_lmul hx hb dX5_tryOrders_123 ?_
                  refine lv_topl (fun y171 _ => ?_)
                  refine lv_ladd hx hb dX5_tryOrders_124 ?_
                  refine lv_topl (fun y172 _ => ?_)
                  refine lv_aload_n hx hb dX5_tryOrders_125 rfl (lv_at hl 2 rfl) ?_
                  refine tw_get hx hb hts bF2_X5 hown hK hT hr_o0 shc_8 rfl 5 (by decide) (ht_at2 hts 3 rfl) (fun _ h9 => h9) dX5_tryOrders_126 (fun v9 m173 h9 => ?_)
                  obtain ⟨b174, rfl, hg175⟩ := h9 _ rfl
                  refine lv_iload hx hb dX5_tryOrders_129 (lv_at hl 1 rfl) ?_
                  refine tw_iald (i := (nI i8)) hx hb hK hT hg175 shc_63 rfl (vp_in_nI (by omega) (by decide)) dX5_tryOrders_131 (fun v9 m176 h9 => ?_)
                  obtain ⟨x177, rfl, gx177, kx177⟩ := h9
                  refine lv_i2l (v := x177.toInt64) hx hb dX5_tryOrders_132 rfl ?_
                  refine lv_lsub hx hb dX5_tryOrders_133 ?_
                  refine lv_topl (fun y178 _ => ?_)
                  refine lv_lstore (lv' := [(9, .long y178), (8, .int z158), (7, .int (nI i8)), (0, .ref o0), (1, .int 2), (2, .int yr), (3, .long co), (5, .int ic), (6, .int la)]) hx hb dX5_tryOrders_134 hl (by decide) rfl (fun ls hl => ?_)
                  refine lv_aload_n hx hb dX5_tryOrders_136 rfl (lv_at hl 3 rfl) ?_
                  refine tw_getM (v := .ref b136) hx hb hts bF2_X5 hown hK hT hr_o0 shc_8 rfl 9 (by decide) (ht_at2 hts 2 rfl) (fun _ h9 => h9) m160 dX5_tryOrders_137 ?_
                  refine lv_iload hx hb dX5_tryOrders_140 (lv_at hl 2 rfl) ?_
                  refine lv_iconst (v := 1) hx hb dX5_tryOrders_142 (by decide) ?_
                  refine tw_zast (i := (nI i8)) (x := 1) hx hb hK hT hG hS hg137 shc_67 rfl (vp_in_nI (by omega) (by decide)) (gi_z (rg_t (a := 1) (by decide) (by first | decide | omega) (by first | decide | omega)) (by decide) (by decide)) dX5_tryOrders_143 (fun H locs hT oq m179 oi hS => ?_)
                  have hF := hF.ast hg137 skc_67 oq (by decide)
                  have m180 := (el_kept (oq _ (gne hr_o0 hg137 (by decide)))).trans m159
                  have m181 := (el_kept (oq _ (gne hr_o0 hg137 (by decide)))).trans m160
                  refine lv_aload_n hx hb dX5_tryOrders_144 rfl (lv_at hl 3 rfl) ?_
                  refine tw_get hx hb hts bF2_X5 hown hK hT hr_o0 shc_8 rfl 10 (by decide) (ht_at2 hts 9 rfl) (fun _ h9 => h9) dX5_tryOrders_145 (fun v9 m184 h9 => ?_)
                  obtain ⟨b185, rfl, hg186⟩ := h9 _ rfl
                  refine lv_iload_n hx hb dX5_tryOrders_148 rfl (lv_at hl 4 rfl) ?_
                  refine lv_iload hx hb dX5_tryOrders_149 (lv_at hl 2 rfl) ?_
                  refine tw_iast (i := 2) (x := (nI i8)) hx hb hK hT hG hS hg186 shc_68 rfl (by unfold vp_in; decide) (gi_of (show (nI i8).toInt = ((i8 : Nat) : Int) from (nI_toInt (by omega))) (by omega) (by omega)) dX5_tryOrders_151 (fun H locs hT oq m187 oi hS => ?_)
                  have hF := hF.ast hg186 skc_68 oq (by decide)
                  have m188 := (el_kept (oq _ (gne hr_o0 hg186 (by decide)))).trans m180
                  have m189 := (el_kept (oq _ (gne hr_o0 hg186 (by decide)))).trans m181
                  refine lv_aload_n hx hb dX5_tryOrders_152 rfl (lv_at hl 3 rfl) ?_
                  refine lv_iload_n hx hb dX5_tryOrders_153 rfl (lv_at hl 4 rfl) ?_
                  refine lv_iconst (v := 1) hx hb dX5_tryOrders_154 (by decide) ?_
                  refine lv_iadd hx hb dX5_tryOrders_155 ?_
                  refine lv_topi (fun x193 ex193 => ?_)
                  obtain rfl : x193 = 3 := ex193.trans (by decide)
                  refine lv_iload hx hb dX5_tryOrders_156 (lv_at hl 1 rfl) ?_
                  refine lv_lload hx hb dX5_tryOrders_158 (lv_at hl 0 rfl) ?_
                  refine lv_iload hx hb dX5_tryOrders_160 (lv_at hl 7 rfl) ?_
                  refine lv_aload_n hx hb dX5_tryOrders_162 rfl (lv_at hl 3 rfl) ?_
                  refine tw_get hx hb hts bF2_X5 hown hK hT hr_o0 shc_8 rfl 7 (by decide) (ht_at2 hts 10 rfl) (fun _ h9 => h9) dX5_tryOrders_163 (fun v9 m194 h9 => ?_)
                  obtain ⟨b195, rfl, hg196⟩ := h9 _ rfl
                  refine lv_iload hx hb dX5_tryOrders_166 (lv_at hl 2 rfl) ?_
                  refine tw_iald (i := (nI i8)) hx hb hK hT hg196 shc_65 rfl (vp_in_nI (by omega) (by decide)) dX5_tryOrders_168 (fun v9 m197 h9 => ?_)
                  obtain ⟨x198, rfl, gx198, kx198⟩ := h9
                  refine lv_iadd hx hb dX5_tryOrders_169 ?_
                  refine lv_topi (fun x199 ex199 => ?_)
                  refine lv_iload hx hb dX5_tryOrders_170 (lv_at hl 8 rfl) ?_
                  refine lv_aload_n hx hb dX5_tryOrders_172 rfl (lv_at hl 3 rfl) ?_
                  refine tw_get hx hb hts bF2_X5 hown hK hT hr_o0 shc_8 rfl 8 (by decide) (ht_at2 hts 11 rfl) (fun _ h9 => h9) dX5_tryOrders_173 (fun v9 m200 h9 => ?_)
                  obtain ⟨b201, rfl, hg202⟩ := h9 _ rfl
                  refine lv_iload hx hb dX5_tryOrders_176 (lv_at hl 2 rfl) ?_
                  refine tw_iald (i := (nI i8)) hx hb hK hT hg202 shc_66 rfl (vp_in_nI (by omega) (by decide)) dX5_tryOrders_178 (fun v9 m203 h9 => ?_)
                  obtain ⟨x204, rfl, gx204, kx204⟩ := h9
                  refine lv_iload hx hb dX5_tryOrders_179 (lv_at hl 1 rfl) ?_
                  refine lv_imul hx hb dX5_tryOrders_181 ?_
                  refine lv_topi (fun x205 ex205 => ?_)
                  refine lv_iadd hx hb dX5_tryOrders_182 ?_
                  refine lv_topi (fun x206 ex206 => ?_)
                  have hFc := gA_free hG hA hS
                  refine va_callv (va_runV (As := [.int 3, .int z158, .long y178, .int x199, .int x206]) (rest := []) ⟨hx, hb, hml, hown, hts⟩ (c_tryOrders3 l dC dI kA adK adV G H nC nS o0 z158 y178 x199 x206 jb hT hr_o0 m188 (by have q8 := ti_all jb; omega) (by omega) (by omega)) (cwV 5 hts (goodIn_app (goodIn_r _ [19, 20, 21, 8] rfl (by decide +kernel)) (goodIn_ca (goodIn_r _ [13, 1, 2, 3, 4, 5, 6, 7, 8, 9, 10, 11, 12, 13, 14, 15, 16, 17, 18, 19, 20, 21] rfl (by decide +kernel)) (bs2_in _ _))) rfl rfl rfl (by decide +kernel) ⟨(Nat.le_of_ble_eq_true rfl), (Nat.le_of_ble_eq_true rfl)⟩) ⟨fun a U g mk q => by obtain ⟨q0, q1, qK, qE⟩ := q; exact ⟨q0, q1, va_K.moved (u := U) (U := U.calling g mk a) (Vm.Alike.refl U.vm) qK, EVC.blind g mk a qE⟩, gH_rc hK hT hr_o0 shc_8 rfl, fun U hU hW => ⟨rfl, hU, va_K.moved hW.alike hK, hE.call hS hFc hU hW⟩⟩ rfl rfl hl.1 rfl (lv_room (Nat.le_of_ble_eq_true rfl)) dX5_tryOrders_183 ⟨(Nat.le_of_ble_eq_true rfl), (Nat.le_of_ble_eq_true rfl)⟩) hS (fun q _ h => hFc q h) hFc (fun u t H locs ht hvm hw208 hB _ _ hS => ?_)
                  obtain ⟨hT, hF1⟩ := hB
                  rw [ht] at hT hF1
                  have m209 := (hF1.fld hr_o0 skc_8 (k := 15) (by decide) (by decide)).trans m188
                  have m210 := (hF1.fld hr_o0 skc_8 (k := 9) (by decide) (by decide)).trans m189
                  have hF := hF.more hF1 (by decide)
                  try dsimp only at hw208
                  refine lv_aload_n hx hb dX5_tryOrders_186 rfl (lv_at hl 3 rfl) ?_
                  refine tw_getM (v := .ref b136) hx hb hts bF2_X5 hown hK hT hr_o0 shc_8 rfl 9 (by decide) (ht_at2 hts 2 rfl) (fun _ h9 => h9) m210 dX5_tryOrders_187 ?_
                  refine lv_iload hx hb dX5_tryOrders_190 (lv_at hl 2 rfl) ?_
                  refine lv_iconst (v := 0) hx hb dX5_tryOrders_192 (by decide) ?_
                  refine tw_zast (i := (nI i8)) (x := 0) hx hb hK hT hG hS hg137 shc_67 rfl (vp_in_nI (by omega) (by decide)) (gi_z (rg_t (a := 0) (by decide) (by first | decide | omega) (by first | decide | omega)) (by decide) (by decide)) dX5_tryOrders_193 (fun H locs hT oq m219 oi hS => ?_)
                  have hF := hF.ast hg137 skc_67 oq (by decide)
                  have m220 := (el_kept (oq _ (gne hr_o0 hg137 (by decide)))).trans m209
                  refine lv_iinc (v := nI (i8 + 1)) (lv' := [(7, .int (nI (i8 + 1))), (9, .long y178), (8, .int z158), (0, .ref o0), (1, .int 2), (2, .int yr), (3, .long co), (5, .int ic), (6, .int la)]) hx hb dX5_tryOrders_194 hl (k := 2) rfl (nI_add i8 1) (by decide) rfl (fun ls hl => ?_)
                  refine lv_goto (tgt := 53) hx hb dX5_tryOrders_197 (by decide) ?_
                  exact ih128 (i8 + 1) (by omega) (by omega) _ _ hT hF hS m220 ls (lv_sub hl [0, 3, 4, 5, 6, 7, 8] rfl)
            refine lv_if_eq (tgt := 76) hx hb dX5_tryOrders_69 (by decide) (fun c229 => ?_) (fun c229 => ?_)
            · have t230 : x139.toInt = 0 := ti_eq c229 rfl (by decide)
              refine lv_iload_n hx hb dX5_tryOrders_76 rfl (lv_at hl 3 rfl) ?_
              refine lv_lload_n hx hb dX5_tryOrders_77 rfl (lv_at hl 4 rfl) ?_
              refine lv_iload hx hb dX5_tryOrders_78 (lv_at hl 5 rfl) ?_
              refine lv_aload_n hx hb dX5_tryOrders_80 rfl (lv_at hl 1 rfl) ?_
              refine tw_get hx hb hts bF2_X5 hown hK hT hr_o0 shc_8 rfl 5 (by decide) (ht_at2 hts 3 rfl) (fun _ h9 => h9) dX5_tryOrders_81 (fun v9 m231 h9 => ?_)
              obtain ⟨b232, rfl, hg233⟩ := h9 _ rfl
              refine lv_iload hx hb dX5_tryOrders_84 (lv_at hl 0 rfl) ?_
              refine tw_iald (i := (nI i8)) hx hb hK hT hg233 shc_63 rfl (vp_in_nI (by omega) (by decide)) dX5_tryOrders_86 (fun v9 m234 h9 => ?_)
              obtain ⟨x235, rfl, gx235, kx235⟩ := h9
              have hFc := gA_free hG hA hS
              refine va_calli (va_runS (As := [.int yr, .long co, .int ic, .int x235]) (rest := []) ⟨hx, hb, hml, hown, hts⟩ (c_yearWithCost l dC dI kA adK adV G H nC nS yr co ic x235 hT (by omega) (by omega)) (va_cwS 4 hts (goodIn_app (goodIn_r _ [6, 7, 8] rfl (by decide +kernel)) (goodIn_ca (goodIn_r _ [5] rfl (by decide +kernel)) (bs2_in _ _))) rfl rfl rfl (by decide +kernel) ⟨(Nat.le_of_ble_eq_true rfl), (Nat.le_of_ble_eq_true rfl)⟩) ⟨fun a U g mk q => by obtain ⟨q0, q1, qK, qE⟩ := q; exact ⟨q0, q1, va_K.moved (u := U) (U := U.calling g mk a) (Vm.Alike.refl U.vm) qK, EVC.blind g mk a qE⟩, fun U hU hW => ⟨rfl, hU, va_K.moved hW.alike hK, hE.call hS hFc hU hW⟩⟩ rfl rfl hl.1 rfl (lv_room (Nat.le_of_ble_eq_true rfl)) dX5_tryOrders_87 ⟨(Nat.le_of_ble_eq_true rfl), (Nat.le_of_ble_eq_true rfl)⟩) hS (fun q _ h => hFc q h) hFc (fun r236 u t H locs ht hvm hw237 hB _ _ hS => ?_)
              obtain ⟨hT, hF1⟩ := hB
              rw [ht] at hT hF1
              have m238 := (hF1.fld hr_o0 skc_8 (k := 15) (by decide) (by decide)).trans m9
              have m239 := (hF1.fld hr_o0 skc_8 (k := 9) (by decide) (by decide)).trans m135
              have m240 := (el_kept (hF1.arr hg137 skc_67 (by decide))).trans m138
              have hF := hF.more hF1 (by decide)
              try dsimp only at hw237
              refine lv_aload_n hx hb dX5_tryOrders_90 rfl (lv_at hl 1 rfl) ?_
              refine tw_get hx hb hts bF2_X5 hown hK hT hr_o0 shc_8 rfl 6 (by decide) (ht_at2 hts 8 rfl) (fun _ h9 => h9) dX5_tryOrders_91 (fun v9 m243 h9 => ?_)
              obtain ⟨b244, rfl, hg245⟩ := h9 _ rfl
              refine lv_iload hx hb dX5_tryOrders_94 (lv_at hl 0 rfl) ?_
              refine tw_iald (i := (nI i8)) hx hb hK hT hg245 shc_64 rfl (vp_in_nI (by omega) (by decide)) dX5_tryOrders_96 (fun v9 m246 h9 => ?_)
              obtain ⟨x247, rfl, gx247, kx247⟩ := h9
              refine lv_iadd hx hb dX5_tryOrders_97 ?_
              refine lv_topi (fun x248 ex248 => ?_)
              exact jn162 x248 _ _ hT hF hS m238 m239 m240 ls (lv_sub hl [0, 1, 2, 3, 4, 5, 6] rfl)
            · have t249 : x139.toInt ≠ 0 := ti_ne c229 rfl (by decide)
              refine lv_iconst (v := (-1)) hx hb dX5_tryOrders_72 (by decide) ?_
              refine lv_goto (tgt := 98) hx hb dX5_tryOrders_73 (by decide) ?_
              exact jn162 (-1) _ _ hT hF hS m9 m135 m138 ls (lv_sub hl [0, 1, 2, 3, 4, 5, 6] rfl)
      exact key128 (7 - 0) 0 (by omega) (Nat.le_refl _) _ _ hT hF hS hm_jb ls (lv_sub hl [0, 1, 2, 3, 4, 5, 6] rfl)
    · have t250 : jb.toInt ≤ 2 := ti_nlt c6 (by decide) rfl
      refine lv_aload_n hx hb dX5_tryOrders_26 rfl (lv_at hl 0 rfl) ?_
      refine lv_iload hx hb dX5_tryOrders_27 (lv_at hl 5 rfl) ?_
      refine tw_put (v := .int la) (ty := .int) hx hb hts bF2_X5 tyX5 tyX5_ok nmX5 hown hK hT hG hS hr_o0 shc_8 rfl 16 (by decide) (ht_at2 hts 0 rfl) (fun _ h9 => h9) rfl (by decide +kernel) rfl rfl (gl_at rfl (gi_all _)) dX5_tryOrders_29 (fun H locs hT oq m251 oj hS => ?_)
      have hF := hF.put hr_o0 skc_8 oq oj (by decide)
      have m252 := (oj 15 (by decide) (by decide)).trans hm_jb
      refine lv_aload_n hx hb dX5_tryOrders_32 rfl (lv_at hl 0 rfl) ?_
      refine tw_get hx hb hts bF2_X5 hown hK hT hr_o0 shc_8 rfl 10 (by decide) (ht_at2 hts 9 rfl) (fun _ h9 => h9) dX5_tryOrders_33 (fun v9 m253 h9 => ?_)
      obtain ⟨b254, rfl, hg255⟩ := h9 _ rfl
      refine lv_iconst (v := 0) hx hb dX5_tryOrders_36 (by decide) ?_
      refine lv_aload_n hx hb dX5_tryOrders_37 rfl (lv_at hl 0 rfl) ?_
      refine tw_get hx hb hts bF2_X5 hown hK hT hr_o0 shc_8 rfl 11 (by decide) (ht_at2 hts 13 rfl) (fun _ h9 => h9) dX5_tryOrders_38 (fun v9 m256 h9 => ?_)
      obtain ⟨b257, rfl, hg258⟩ := h9 _ rfl
      refine lv_iconst (v := 0) hx hb dX5_tryOrders_41 (by decide) ?_
      refine lv_aload_n hx hb dX5_tryOrders_42 rfl (lv_at hl 0 rfl) ?_
      refine tw_getM (v := .int jb) hx hb hts bF2_X5 hown hK hT hr_o0 shc_8 rfl 15 (by decide) (ht_at2 hts 1 rfl) (fun _ h9 => h9) m252 dX5_tryOrders_43 ?_
      refine tw_copy (ty := .int) hx hb (hml.trans hl.1.symm) hown (ht_at2 hts 14 rfl) (ht_at2 hts 15 rfl) (ht_at2 hts 16 rfl) (ht_at2 hts 17 rfl) hK hT hG hS hg255 hg258 shc_68 shc_69 rfl rfl (by decide) (by decide) (fun h9 => by have q9 := ti_lt h9 rfl (show (0 : Int32).toInt = 0 from by decide); omega) (by have q9 := tn_of (show jb.toInt = jb.toInt from rfl) (by omega); have q8 : (0 : Int32).toNatClampNeg = 0 := (by decide); omega) (by have q9 := tn_of (show jb.toInt = jb.toInt from rfl) (by omega); have q8 : (0 : Int32).toNatClampNeg = 0 := (by decide); omega) (fun _ _ h9 => by obtain ⟨x9, e9, _⟩ := h9; exact ⟨x9, e9, rfl⟩) (fun _ _ _ h9 => by obtain ⟨x9, e9, a9, b9⟩ := h9; exact ⟨x9, e9, by omega, by omega⟩) (Nat.le_of_ble_eq_true rfl) (Nat.le_of_ble_eq_true rfl) dX5_tryOrders_46 (fun H locs hT oq hS => ?_)
      have hF := hF.ast hg258 skc_69 oq (by decide)
      exact W.vret hx hb hr (fun t ht hW => ⟨⟨(), rfl, (by exact trivial), by (try dsimp only); rw [ht]; exact ⟨hT, hF⟩⟩, hS.F ht⟩) hS.2.2 dX5_tryOrders_49
  · have t263 : x2.toInt ≠ (-1) := ti_ne c4 rfl (by decide)
    refine lv_iload hx hb dX5_tryOrders_8 (lv_at hl 5 rfl) ?_
    refine lv_aload_n hx hb dX5_tryOrders_10 rfl (lv_at hl 0 rfl) ?_
    refine tw_getM (v := .int x2) hx hb hts bF2_X5 hown hK hT hr_o0 shc_8 rfl 16 (by decide) (ht_at2 hts 0 rfl) (fun _ h9 => h9) m1 dX5_tryOrders_11 ?_
    have t264 : -2147483648 ≤ la.toInt ∧ la.toInt ≤ 2147483647 := ti_all la
    refine lv_icmp_lt (tgt := 18) hx hb dX5_tryOrders_14 (by decide) (fun c265 => ?_) (fun c265 => ?_)
    · have t266 : la.toInt < x2.toInt := ti_lt c265 rfl rfl
      refine lv_iload_n hx hb dX5_tryOrders_18 rfl (lv_at hl 1 rfl) ?_
      refine lv_aload_n hx hb dX5_tryOrders_19 rfl (lv_at hl 0 rfl) ?_
      refine tw_getM (v := .int jb) hx hb hts bF2_X5 hown hK hT hr_o0 shc_8 rfl 15 (by decide) (ht_at2 hts 1 rfl) (fun _ h9 => h9) hm_jb dX5_tryOrders_20 ?_
      refine lv_icmp_lt (tgt := 50) hx hb dX5_tryOrders_23 (by decide) (fun c267 => ?_) (fun c267 => ?_)
      · have t268 : 2 < jb.toInt := ti_lt c267 (by decide) rfl
        refine lv_iconst (v := 0) hx hb dX5_tryOrders_50 (by decide) ?_
        refine lv_istore (lv' := [(7, .int 0), (0, .ref o0), (1, .int 2), (2, .int yr), (3, .long co), (5, .int ic), (6, .int la)]) hx hb dX5_tryOrders_51 hl (by decide) rfl (fun ls hl => ?_)
        have key389 : ∀ (n389 i269 : Nat), i269 + n389 = 7 → 0 ≤ i269 → ∀ (H : Heap) (locs : List Loc), gH (dC, dI) kA (SHc nC nS) G H → gF (dC, dI) SKc G ([(8, 16), (67, 0), (68, 0), (69, 0)] : List (Nat × Nat)) s.heap H → va_S A s.heap H locs → el H o0 (dI 8 15) = some (.int jb) → ∀ ls : Array Slot, lv_has ls 11 [(7, .int (nI i269)), (0, .ref o0), (1, .int 2), (2, .int yr), (3, .long co), (5, .int ic), (6, .int la)] → W p l e (headSpec w_c_tryOrders2 ({ frames := 7, cells := 0, slots := 0, locals := 210 })).room s m #[.ref o0, .int 2, .int yr, .long co, .int ic, .int la] below meth c H locs 0 0 (MQ below (va_Qv (fun (u : Unit) => True) (fun (_ : Unit) (t : State) => gH (dC, dI) kA (SHc nC nS) G t.heap ∧ gF (dC, dI) SKc G ([(8, 16), (67, 0), (68, 0), (69, 0)] : List (Nat × Nat)) s.heap t.heap) A) #[.ref o0, .int 2, .int yr, .long co, .int ic, .int la] s 0 0 A) (F0 m 53 ls []) := by
          intro n389
          induction n389 with
          | zero =>
            intro i269 hn389 hlo390  H locs hT hF hS m270 ls hl
            obtain rfl : 7 = i269 := by omega
            refine lv_iload hx hb dX5_tryOrders_53 (lv_at hl 0 rfl) ?_
            refine lv_aload_n hx hb dX5_tryOrders_55 rfl (lv_at hl 1 rfl) ?_
            refine tw_getM (v := .int jb) hx hb hts bF2_X5 hown hK hT hr_o0 shc_8 rfl 15 (by decide) (ht_at2 hts 1 rfl) (fun _ h9 => h9) m270 dX5_tryOrders_56 ?_
            refine lv_icmp_ge (tgt := 200) hx hb dX5_tryOrders_59 (by decide) (fun c391 => ?_) (fun c391 => (by exfalso; have q9 : ((7 : Nat) : Int) < jb.toInt := ti_nle c391 rfl (nI_toInt (by omega)); omega))
            have t392 : jb.toInt ≤ ((7 : Nat) : Int) := ti_le c391 rfl (nI_toInt (by omega))
            exact W.vret hx hb hr (fun t ht hW => ⟨⟨(), rfl, (by exact trivial), by (try dsimp only); rw [ht]; exact ⟨hT, hF⟩⟩, hS.F ht⟩) hS.2.2 dX5_tryOrders_200
          | succ n389 ih389 =>
            intro i269 hn389 hlo390  H locs hT hF hS m270 ls hl
            have hlt392 : i269 < 7 := by omega
            refine lv_iload hx hb dX5_tryOrders_53 (lv_at hl 0 rfl) ?_
            refine lv_aload_n hx hb dX5_tryOrders_55 rfl (lv_at hl 1 rfl) ?_
            refine tw_getM (v := .int jb) hx hb hts bF2_X5 hown hK hT hr_o0 shc_8 rfl 15 (by decide) (ht_at2 hts 1 rfl) (fun _ h9 => h9) m270 dX5_tryOrders_56 ?_
            refine lv_icmp_ge (tgt := 200) hx hb dX5_tryOrders_59 (by decide) (fun c393 => ?_) (fun c393 => ?_)
            · have t394 : jb.toInt ≤ ((i269 : Nat) : Int) := ti_le c393 rfl (nI_toInt (by omega))
              exact W.vret hx hb hr (fun t ht hW => ⟨⟨(), rfl, (by exact trivial), by (try dsimp only); rw [ht]; exact ⟨hT, hF⟩⟩, hS.F ht⟩) hS.2.2 dX5_tryOrders_200
            · have t395 : ((i269 : Nat) : Int) < jb.toInt := ti_nle c393 rfl (nI_toInt (by omega))
              refine lv_aload_n hx hb dX5_tryOrders_62 rfl (lv_at hl 1 rfl) ?_
              refine tw_get hx hb hts bF2_X5 hown hK hT hr_o0 shc_8 rfl 9 (by decide) (ht_at2 hts 2 rfl) (fun _ h9 => h9) dX5_tryOrders_63 (fun v9 m396 h9 => ?_)
              obtain ⟨b397, rfl, hg398⟩ := h9 _ rfl
              refine lv_iload hx hb dX5_tryOrders_66 (lv_at hl 0 rfl) ?_
              refine tw_zald (i := (nI i269)) hx hb hK hT hg398 shc_67 rfl (vp_in_nI (by omega) (by decide)) dX5_tryOrders_68 (fun v9 m399 h9 => ?_)
              obtain ⟨x400, rfl, gx400, kx400⟩ := h9
              have jn423 : ∀ (z419 : Int32), ∀ (H : Heap) (locs : List Loc), gH (dC, dI) kA (SHc nC nS) G H → gF (dC, dI) SKc G ([(8, 16), (67, 0), (68, 0), (69, 0)] : List (Nat × Nat)) s.heap H → va_S A s.heap H locs → el H o0 (dI 8 15) = some (.int jb) → el H o0 (dI 8 9) = some (.ref b397) → el H b397 (nI i269).toNatClampNeg = some (.int x400) → ∀ ls : Array Slot, lv_has ls 11 [(7, .int (nI i269)), (0, .ref o0), (1, .int 2), (2, .int yr), (3, .long co), (5, .int ic), (6, .int la)] → W p l e (headSpec w_c_tryOrders2 ({ frames := 7, cells := 0, slots := 0, locals := 210 })).room s m #[.ref o0, .int 2, .int yr, .long co, .int ic, .int la] below meth c H locs 0 0 (MQ below (va_Qv (fun (u : Unit) => True) (fun (_ : Unit) (t : State) => gH (dC, dI) kA (SHc nC nS) G t.heap ∧ gF (dC, dI) SKc G ([(8, 16), (67, 0), (68, 0), (69, 0)] : List (Nat × Nat)) s.heap t.heap) A) #[.ref o0, .int 2, .int yr, .long co, .int ic, .int la] s 0 0 A) (F0 m 98 ls [.int z419]) := by
                intro z419 H locs hT hF hS m420 m421 m422 ls hl
                refine lv_istore (lv' := [(8, .int z419), (7, .int (nI i269)), (0, .ref o0), (1, .int 2), (2, .int yr), (3, .long co), (5, .int ic), (6, .int la)]) hx hb dX5_tryOrders_98 hl (by decide) rfl (fun ls hl => ?_)
                refine lv_iload hx hb dX5_tryOrders_100 (lv_at hl 0 rfl) ?_
                refine lv_iconst (v := (-1)) hx hb dX5_tryOrders_102 (by decide) ?_
                have t424 : -2147483648 ≤ z419.toInt ∧ z419.toInt ≤ 2147483647 := ti_all z419
                refine lv_icmp_eq (tgt := 194) hx hb dX5_tryOrders_103 (by decide) (fun c425 => ?_) (fun c425 => ?_)
                · have t426 : z419.toInt = (-1) := ti_eq c425 rfl (by decide)
                  refine lv_iinc (v := nI (i269 + 1)) (lv' := [(7, .int (nI (i269 + 1))), (8, .int z419), (0, .ref o0), (1, .int 2), (2, .int yr), (3, .long co), (5, .int ic), (6, .int la)]) hx hb dX5_tryOrders_194 hl (k := 1) rfl (nI_add i269 1) (by decide) rfl (fun ls hl => ?_)
                  refine lv_goto (tgt := 53) hx hb dX5_tryOrders_197 (by decide) ?_
                  exact ih389 (i269 + 1) (by omega) (by omega) _ _ hT hF hS m420 ls (lv_sub hl [0, 2, 3, 4, 5, 6, 7] rfl)
                · have t427 : z419.toInt ≠ (-1) := ti_ne c425 rfl (by decide)
                  refine lv_iload hx hb dX5_tryOrders_106 (lv_at hl 0 rfl) ?_
                  refine lv_sipush (v := 200) hx hb dX5_tryOrders_108 (by decide) ?_
                  refine lv_icmp_gt (tgt := 194) hx hb dX5_tryOrders_111 (by decide) (fun c428 => ?_) (fun c428 => ?_)
                  · have t429 : 200 < z419.toInt := ti_lt c428 (by decide) rfl
                    refine lv_iinc (v := nI (i269 + 1)) (lv' := [(7, .int (nI (i269 + 1))), (8, .int z419), (0, .ref o0), (1, .int 2), (2, .int yr), (3, .long co), (5, .int ic), (6, .int la)]) hx hb dX5_tryOrders_194 hl (k := 1) rfl (nI_add i269 1) (by decide) rfl (fun ls hl => ?_)
                    refine lv_goto (tgt := 53) hx hb dX5_tryOrders_197 (by decide) ?_
                    exact ih389 (i269 + 1) (by omega) (by omega) _ _ hT hF hS m420 ls (lv_sub hl [0, 2, 3, 4, 5, 6, 7] rfl)
                  · have t430 : z419.toInt ≤ 200 := ti_nlt c428 (by decide) rfl
                    refine lv_lload_n hx hb dX5_tryOrders_114 rfl (lv_at hl 5 rfl) ?_
                    refine lv_iload hx hb dX5_tryOrders_115 (lv_at hl 6 rfl) ?_
                    refine lv_i2l (v := ic.toInt64) hx hb dX5_tryOrders_117 rfl ?_
                    refine lv_iload hx hb dX5_tryOrders_118 (lv_at hl 0 rfl) ?_
                    refine lv_iload_n hx hb dX5_tryOrders_120 rfl (lv_at hl 4 rfl) ?_
                    refine lv_isub hx hb dX5_tryOrders_121 ?_
                    refine lv_topi (fun x431 ex431 => ?_)
                    refine lv_i2l (v := x431.toInt64) hx hb dX5_tryOrders_122 rfl ?_
                    refine lv_lmul hx hb dX5_tryOrders_123 ?_
                    refine lv_topl (fun y432 _ => ?_)
                    refine lv_ladd hx hb dX5_tryOrders_124 ?_
                    refine lv_topl (fun y433 _ => ?_)
                    refine lv_aload_n hx hb dX5_tryOrders_125 rfl (lv_at hl 2 rfl) ?_
                    refine tw_get hx hb hts bF2_X5 hown hK hT hr_o0 shc_8 rfl 5 (by decide) (ht_at2 hts 3 rfl) (fun _ h9 => h9) dX5_tryOrders_126 (fun v9 m434 h9 => ?_)
                    obtain ⟨b435, rfl, hg436⟩ := h9 _ rfl
                    refine lv_iload hx hb dX5_tryOrders_129 (lv_at hl 1 rfl) ?_
                    refine tw_iald (i := (nI i269)) hx hb hK hT hg436 shc_63 rfl (vp_in_nI (by omega) (by decide)) dX5_tryOrders_131 (fun v9 m437 h9 => ?_)
                    obtain ⟨x438, rfl, gx438, kx438⟩ := h9
                    refine lv_i2l (v := x438.toInt64) hx hb dX5_tryOrders_132 rfl ?_
                    refine lv_lsub hx hb dX5_tryOrders_133 ?_
                    refine lv_topl (fun y439 _ => ?_)
                    refine lv_lstore (lv' := [(9, .long y439), (8, .int z419), (7, .int (nI i269)), (0, .ref o0), (1, .int 2), (2, .int yr), (3, .long co), (5, .int ic), (6, .int la)]) hx hb dX5_tryOrders_134 hl (by decide) rfl (fun ls hl => ?_)
                    refine lv_aload_n hx hb dX5_tryOrders_136 rfl (lv_at hl 3 rfl) ?_
                    refine tw_getM (v := .ref b397) hx hb hts bF2_X5 hown hK hT hr_o0 shc_8 rfl 9 (by decide) (ht_at2 hts 2 rfl) (fun _ h9 => h9) m421 dX5_tryOrders_137 ?_
                    refine lv_iload hx hb dX5_tryOrders_140 (lv_at hl 2 rfl) ?_
                    refine lv_iconst (v := 1) hx hb dX5_tryOrders_142 (by decide) ?_
                    refine tw_zast (i := (nI i269)) (x := 1) hx hb hK hT hG hS hg398 shc_67 rfl (vp_in_nI (by omega) (by decide)) (gi_z (rg_t (a := 1) (by decide) (by first | decide | omega) (by first | decide | omega)) (by decide) (by decide)) dX5_tryOrders_143 (fun H locs hT oq m440 oi hS => ?_)
                    have hF := hF.ast hg398 skc_67 oq (by decide)
                    have m441 := (el_kept (oq _ (gne hr_o0 hg398 (by decide)))).trans m420
                    have m442 := (el_kept (oq _ (gne hr_o0 hg398 (by decide)))).trans m421
                    refine lv_aload_n hx hb dX5_tryOrders_144 rfl (lv_at hl 3 rfl) ?_
                    refine tw_get hx hb hts bF2_X5 hown hK hT hr_o0 shc_8 rfl 10 (by decide) (ht_at2 hts 9 rfl) (fun _ h9 => h9) dX5_tryOrders_145 (fun v9 m445 h9 => ?_)
                    obtain ⟨b446, rfl, hg447⟩ := h9 _ rfl
                    refine lv_iload_n hx hb dX5_tryOrders_148 rfl (lv_at hl 4 rfl) ?_
                    refine lv_iload hx hb dX5_tryOrders_149 (lv_at hl 2 rfl) ?_
                    refine tw_iast (i := 2) (x := (nI i269)) hx hb hK hT hG hS hg447 shc_68 rfl (by unfold vp_in; decide) (gi_of (show (nI i269).toInt = ((i269 : Nat) : Int) from (nI_toInt (by omega))) (by omega) (by omega)) dX5_tryOrders_151 (fun H locs hT oq m448 oi hS => ?_)
                    have hF := hF.ast hg447 skc_68 oq (by decide)
                    have m449 := (el_kept (oq _ (gne hr_o0 hg447 (by decide)))).trans m441
                    have m450 := (el_kept (oq _ (gne hr_o0 hg447 (by decide)))).trans m442
                    refine lv_aload_n hx hb dX5_tryOrders_152 rfl (lv_at hl 3 rfl) ?_
                    refine lv_iload_n hx hb dX5_tryOrders_153 rfl (lv_at hl 4 rfl) ?_
                    refine lv_iconst (v := 1) hx hb dX5_tryOrders_154 (by decide) ?_
                    refine lv_iadd hx hb dX5_tryOrders_155 ?_
                    refine lv_topi (fun x454 ex454 => ?_)
                    obtain rfl : x454 = 3 := ex454.trans (by decide)
                    refine lv_iload hx hb dX5_tryOrders_156 (lv_at hl 1 rfl) ?_
                    refine lv_lload hx hb dX5_tryOrders_158 (lv_at hl 0 rfl) ?_
                    refine lv_iload hx hb dX5_tryOrders_160 (lv_at hl 7 rfl) ?_
                    refine lv_aload_n hx hb dX5_tryOrders_162 rfl (lv_at hl 3 rfl) ?_
                    refine tw_get hx hb hts bF2_X5 hown hK hT hr_o0 shc_8 rfl 7 (by decide) (ht_at2 hts 10 rfl) (fun _ h9 => h9) dX5_tryOrders_163 (fun v9 m455 h9 => ?_)
                    obtain ⟨b456, rfl, hg457⟩ := h9 _ rfl
                    refine lv_iload hx hb dX5_tryOrders_166 (lv_at hl 2 rfl) ?_
                    refine tw_iald (i := (nI i269)) hx hb hK hT hg457 shc_65 rfl (vp_in_nI (by omega) (by decide)) dX5_tryOrders_168 (fun v9 m458 h9 => ?_)
                    obtain ⟨x459, rfl, gx459, kx459⟩ := h9
                    refine lv_iadd hx hb dX5_tryOrders_169 ?_
                    refine lv_topi (fun x460 ex460 => ?_)
                    refine lv_iload hx hb dX5_tryOrders_170 (lv_at hl 8 rfl) ?_
                    refine lv_aload_n hx hb dX5_tryOrders_172 rfl (lv_at hl 3 rfl) ?_
                    refine tw_get hx hb hts bF2_X5 hown hK hT hr_o0 shc_8 rfl 8 (by decide) (ht_at2 hts 11 rfl) (fun _ h9 => h9) dX5_tryOrders_173 (fun v9 m461 h9 => ?_)
                    obtain ⟨b462, rfl, hg463⟩ := h9 _ rfl
                    refine lv_iload hx hb dX5_tryOrders_176 (lv_at hl 2 rfl) ?_
                    refine tw_iald (i := (nI i269)) hx hb hK hT hg463 shc_66 rfl (vp_in_nI (by omega) (by decide)) dX5_tryOrders_178 (fun v9 m464 h9 => ?_)
                    obtain ⟨x465, rfl, gx465, kx465⟩ := h9
                    refine lv_iload hx hb dX5_tryOrders_179 (lv_at hl 1 rfl) ?_
                    refine lv_imul hx hb dX5_tryOrders_181 ?_
                    refine lv_topi (fun x466 ex466 => ?_)
                    refine lv_iadd hx hb dX5_tryOrders_182 ?_
                    refine lv_topi (fun x467 ex467 => ?_)
                    have hFc := gA_free hG hA hS
                    refine va_callv (va_runV (As := [.int 3, .int z419, .long y439, .int x460, .int x467]) (rest := []) ⟨hx, hb, hml, hown, hts⟩ (c_tryOrders3 l dC dI kA adK adV G H nC nS o0 z419 y439 x460 x467 jb hT hr_o0 m449 (by have q8 := ti_all jb; omega) (by omega) (by omega)) (cwV 5 hts (goodIn_app (goodIn_r _ [19, 20, 21, 8] rfl (by decide +kernel)) (goodIn_ca (goodIn_r _ [13, 1, 2, 3, 4, 5, 6, 7, 8, 9, 10, 11, 12, 13, 14, 15, 16, 17, 18, 19, 20, 21] rfl (by decide +kernel)) (bs2_in _ _))) rfl rfl rfl (by decide +kernel) ⟨(Nat.le_of_ble_eq_true rfl), (Nat.le_of_ble_eq_true rfl)⟩) ⟨fun a U g mk q => by obtain ⟨q0, q1, qK, qE⟩ := q; exact ⟨q0, q1, va_K.moved (u := U) (U := U.calling g mk a) (Vm.Alike.refl U.vm) qK, EVC.blind g mk a qE⟩, gH_rc hK hT hr_o0 shc_8 rfl, fun U hU hW => ⟨rfl, hU, va_K.moved hW.alike hK, hE.call hS hFc hU hW⟩⟩ rfl rfl hl.1 rfl (lv_room (Nat.le_of_ble_eq_true rfl)) dX5_tryOrders_183 ⟨(Nat.le_of_ble_eq_true rfl), (Nat.le_of_ble_eq_true rfl)⟩) hS (fun q _ h => hFc q h) hFc (fun u t H locs ht hvm hw469 hB _ _ hS => ?_)
                    obtain ⟨hT, hF1⟩ := hB
                    rw [ht] at hT hF1
                    have m470 := (hF1.fld hr_o0 skc_8 (k := 15) (by decide) (by decide)).trans m449
                    have m471 := (hF1.fld hr_o0 skc_8 (k := 9) (by decide) (by decide)).trans m450
                    have hF := hF.more hF1 (by decide)
                    try dsimp only at hw469
                    refine lv_aload_n hx hb dX5_tryOrders_186 rfl (lv_at hl 3 rfl) ?_
                    refine tw_getM (v := .ref b397) hx hb hts bF2_X5 hown hK hT hr_o0 shc_8 rfl 9 (by decide) (ht_at2 hts 2 rfl) (fun _ h9 => h9) m471 dX5_tryOrders_187 ?_
                    refine lv_iload hx hb dX5_tryOrders_190 (lv_at hl 2 rfl) ?_
                    refine lv_iconst (v := 0) hx hb dX5_tryOrders_192 (by decide) ?_
                    refine tw_zast (i := (nI i269)) (x := 0) hx hb hK hT hG hS hg398 shc_67 rfl (vp_in_nI (by omega) (by decide)) (gi_z (rg_t (a := 0) (by decide) (by first | decide | omega) (by first | decide | omega)) (by decide) (by decide)) dX5_tryOrders_193 (fun H locs hT oq m480 oi hS => ?_)
                    have hF := hF.ast hg398 skc_67 oq (by decide)
                    have m481 := (el_kept (oq _ (gne hr_o0 hg398 (by decide)))).trans m470
                    refine lv_iinc (v := nI (i269 + 1)) (lv' := [(7, .int (nI (i269 + 1))), (9, .long y439), (8, .int z419), (0, .ref o0), (1, .int 2), (2, .int yr), (3, .long co), (5, .int ic), (6, .int la)]) hx hb dX5_tryOrders_194 hl (k := 2) rfl (nI_add i269 1) (by decide) rfl (fun ls hl => ?_)
                    refine lv_goto (tgt := 53) hx hb dX5_tryOrders_197 (by decide) ?_
                    exact ih389 (i269 + 1) (by omega) (by omega) _ _ hT hF hS m481 ls (lv_sub hl [0, 3, 4, 5, 6, 7, 8] rfl)
              refine lv_if_eq (tgt := 76) hx hb dX5_tryOrders_69 (by decide) (fun c490 => ?_) (fun c490 => ?_)
              · have t491 : x400.toInt = 0 := ti_eq c490 rfl (by decide)
                refine lv_iload_n hx hb dX5_tryOrders_76 rfl (lv_at hl 3 rfl) ?_
                refine lv_lload_n hx hb dX5_tryOrders_77 rfl (lv_at hl 4 rfl) ?_
                refine lv_iload hx hb dX5_tryOrders_78 (lv_at hl 5 rfl) ?_
                refine lv_aload_n hx hb dX5_tryOrders_80 rfl (lv_at hl 1 rfl) ?_
                refine tw_get hx hb hts bF2_X5 hown hK hT hr_o0 shc_8 rfl 5 (by decide) (ht_at2 hts 3 rfl) (fun _ h9 => h9) dX5_tryOrders_81 (fun v9 m492 h9 => ?_)
                obtain ⟨b493, rfl, hg494⟩ := h9 _ rfl
                refine lv_iload hx hb dX5_tryOrders_84 (lv_at hl 0 rfl) ?_
                refine tw_iald (i := (nI i269)) hx hb hK hT hg494 shc_63 rfl (vp_in_nI (by omega) (by decide)) dX5_tryOrders_86 (fun v9 m495 h9 => ?_)
                obtain ⟨x496, rfl, gx496, kx496⟩ := h9
                have hFc := gA_free hG hA hS
                refine va_calli (va_runS (As := [.int yr, .long co, .int ic, .int x496]) (rest := []) ⟨hx, hb, hml, hown, hts⟩ (c_yearWithCost l dC dI kA adK adV G H nC nS yr co ic x496 hT (by omega) (by omega)) (va_cwS 4 hts (goodIn_app (goodIn_r _ [6, 7, 8] rfl (by decide +kernel)) (goodIn_ca (goodIn_r _ [5] rfl (by decide +kernel)) (bs2_in _ _))) rfl rfl rfl (by decide +kernel) ⟨(Nat.le_of_ble_eq_true rfl), (Nat.le_of_ble_eq_true rfl)⟩) ⟨fun a U g mk q => by obtain ⟨q0, q1, qK, qE⟩ := q; exact ⟨q0, q1, va_K.moved (u := U) (U := U.calling g mk a) (Vm.Alike.refl U.vm) qK, EVC.blind g mk a qE⟩, fun U hU hW => ⟨rfl, hU, va_K.moved hW.alike hK, hE.call hS hFc hU hW⟩⟩ rfl rfl hl.1 rfl (lv_room (Nat.le_of_ble_eq_true rfl)) dX5_tryOrders_87 ⟨(Nat.le_of_ble_eq_true rfl), (Nat.le_of_ble_eq_true rfl)⟩) hS (fun q _ h => hFc q h) hFc (fun r497 u t H locs ht hvm hw498 hB _ _ hS => ?_)
                obtain ⟨hT, hF1⟩ := hB
                rw [ht] at hT hF1
                have m499 := (hF1.fld hr_o0 skc_8 (k := 15) (by decide) (by decide)).trans m270
                have m500 := (hF1.fld hr_o0 skc_8 (k := 9) (by decide) (by decide)).trans m396
                have m501 := (el_kept (hF1.arr hg398 skc_67 (by decide))).trans m399
                have hF := hF.more hF1 (by decide)
                try dsimp only at hw498
                refine lv_aload_n hx hb dX5_tryOrders_90 rfl (lv_at hl 1 rfl) ?_
                refine tw_get hx hb hts bF2_X5 hown hK hT hr_o0 shc_8 rfl 6 (by decide) (ht_at2 hts 8 rfl) (fun _ h9 => h9) dX5_tryOrders_91 (fun v9 m504 h9 => ?_)
                obtain ⟨b505, rfl, hg506⟩ := h9 _ rfl
                refine lv_iload hx hb dX5_tryOrders_94 (lv_at hl 0 rfl) ?_
                refine tw_iald (i := (nI i269)) hx hb hK hT hg506 shc_64 rfl (vp_in_nI (by omega) (by decide)) dX5_tryOrders_96 (fun v9 m507 h9 => ?_)
                obtain ⟨x508, rfl, gx508, kx508⟩ := h9
                refine lv_iadd hx hb dX5_tryOrders_97 ?_
                refine lv_topi (fun x509 ex509 => ?_)
                exact jn423 x509 _ _ hT hF hS m499 m500 m501 ls (lv_sub hl [0, 1, 2, 3, 4, 5, 6] rfl)
              · have t510 : x400.toInt ≠ 0 := ti_ne c490 rfl (by decide)
                refine lv_iconst (v := (-1)) hx hb dX5_tryOrders_72 (by decide) ?_
                refine lv_goto (tgt := 98) hx hb dX5_tryOrders_73 (by decide) ?_
                exact jn423 (-1) _ _ hT hF hS m270 m396 m399 ls (lv_sub hl [0, 1, 2, 3, 4, 5, 6] rfl)
        exact key389 (7 - 0) 0 (by omega) (Nat.le_refl _) _ _ hT hF hS hm_jb ls (lv_sub hl [0, 1, 2, 3, 4, 5, 6] rfl)
      · have t511 : jb.toInt ≤ 2 := ti_nlt c267 (by decide) rfl
        refine lv_aload_n hx hb dX5_tryOrders_26 rfl (lv_at hl 0 rfl) ?_
        refine lv_iload hx hb dX5_tryOrders_27 (lv_at hl 5 rfl) ?_
        refine tw_put (v := .int la) (ty := .int) hx hb hts bF2_X5 tyX5 tyX5_ok nmX5 hown hK hT hG hS hr_o0 shc_8 rfl 16 (by decide) (ht_at2 hts 0 rfl) (fun _ h9 => h9) rfl (by decide +kernel) rfl rfl (gl_at rfl (gi_all _)) dX5_tryOrders_29 (fun H locs hT oq m512 oj hS => ?_)
        have hF := hF.put hr_o0 skc_8 oq oj (by decide)
        have m513 := (oj 15 (by decide) (by decide)).trans hm_jb
        refine lv_aload_n hx hb dX5_tryOrders_32 rfl (lv_at hl 0 rfl) ?_
        refine tw_get hx hb hts bF2_X5 hown hK hT hr_o0 shc_8 rfl 10 (by decide) (ht_at2 hts 9 rfl) (fun _ h9 => h9) dX5_tryOrders_33 (fun v9 m514 h9 => ?_)
        obtain ⟨b515, rfl, hg516⟩ := h9 _ rfl
        refine lv_iconst (v := 0) hx hb dX5_tryOrders_36 (by decide) ?_
        refine lv_aload_n hx hb dX5_tryOrders_37 rfl (lv_at hl 0 rfl) ?_
        refine tw_get hx hb hts bF2_X5 hown hK hT hr_o0 shc_8 rfl 11 (by decide) (ht_at2 hts 13 rfl) (fun _ h9 => h9) dX5_tryOrders_38 (fun v9 m517 h9 => ?_)
        obtain ⟨b518, rfl, hg519⟩ := h9 _ rfl
        refine lv_iconst (v := 0) hx hb dX5_tryOrders_41 (by decide) ?_
        refine lv_aload_n hx hb dX5_tryOrders_42 rfl (lv_at hl 0 rfl) ?_
        refine tw_getM (v := .int jb) hx hb hts bF2_X5 hown hK hT hr_o0 shc_8 rfl 15 (by decide) (ht_at2 hts 1 rfl) (fun _ h9 => h9) m513 dX5_tryOrders_43 ?_
        refine tw_copy (ty := .int) hx hb (hml.trans hl.1.symm) hown (ht_at2 hts 14 rfl) (ht_at2 hts 15 rfl) (ht_at2 hts 16 rfl) (ht_at2 hts 17 rfl) hK hT hG hS hg516 hg519 shc_68 shc_69 rfl rfl (by decide) (by decide) (fun h9 => by have q9 := ti_lt h9 rfl (show (0 : Int32).toInt = 0 from by decide); omega) (by have q9 := tn_of (show jb.toInt = jb.toInt from rfl) (by omega); have q8 : (0 : Int32).toNatClampNeg = 0 := (by decide); omega) (by have q9 := tn_of (show jb.toInt = jb.toInt from rfl) (by omega); have q8 : (0 : Int32).toNatClampNeg = 0 := (by decide); omega) (fun _ _ h9 => by obtain ⟨x9, e9, _⟩ := h9; exact ⟨x9, e9, rfl⟩) (fun _ _ _ h9 => by obtain ⟨x9, e9, a9, b9⟩ := h9; exact ⟨x9, e9, by omega, by omega⟩) (Nat.le_of_ble_eq_true rfl) (Nat.le_of_ble_eq_true rfl) dX5_tryOrders_46 (fun H locs hT oq hS => ?_)
        have hF := hF.ast hg519 skc_69 oq (by decide)
        exact W.vret hx hb hr (fun t ht hW => ⟨⟨(), rfl, (by exact trivial), by (try dsimp only); rw [ht]; exact ⟨hT, hF⟩⟩, hS.F ht⟩) hS.2.2 dX5_tryOrders_49
    · have t524 : x2.toInt ≤ la.toInt := ti_nlt c265 rfl rfl
      exact W.vret hx hb hr (fun t ht hW => ⟨⟨(), rfl, (by exact trivial), by (try dsimp only); rw [ht]; exact ⟨hT, hF⟩⟩, hS.F ht⟩) hS.2.2 dX5_tryOrders_17
def w_c_tryOrders1 : List Cond := .code yX5_tryOrders cX5_tryOrders 11 none :: (HAppend.hAppend (α := List Cond) (β := List Cond) (γ := List Cond) [.fieldLink RX5 157 "SeaLand$Plans" "bestLate" "I", .fieldLink RX5 154 "SeaLand$Plans" "jobs" "I", .fieldLink RX5 41 "SeaLand$Plans" "placed" "[Z", .fieldLink RX5 29 "SeaLand$Plans" "costs" "[I", .code yX5_yearWithCost cX5_yearWithCost 5 (some .int), .methodLink RX5 164 yX5_yearWithCost, .static yX5_yearWithCost, .initialized RX5, .fieldLink RX5 32 "SeaLand$Plans" "lasts" "[I", .fieldLink RX5 45 "SeaLand$Plans" "trial" "[I", .fieldLink RX5 35 "SeaLand$Plans" "incomes" "[I", .fieldLink RX5 38 "SeaLand$Plans" "acres" "[I", .code yX5_tryOrders cX5_tryOrders 11 none, .fieldLink RX5 48 "SeaLand$Plans" "best" "[I", .methodLink RX5 100 arraycopyName, .native arraycopyName, .static arraycopyName, .initialized "java/lang/System", .methodLink RX5 160 yX5_tryOrders, .instanceMethod yX5_tryOrders, .selects RX5 yX5_tryOrders yX5_tryOrders] bs2)
set_option maxHeartbeats 4000000 in
set_option maxRecDepth 100000 in
theorem c_tryOrders1 (l : Launch) (dC : Nat → ClassId) (dI : Nat → Nat → Nat) (kA : Nat → ClassId) (adK adV : Nat → Nat) (G : gT) (H0 : Heap) (nC nS : Int) (o0 : Nat) (yr : Int32) (co : Int64) (ic : Int32) (la : Int32) (jb : Int32)  (hT : gH (dC, dI) kA (SHc nC nS) G H0) (hr_o0 : G o0 = some 8) (hm_jb : el H0 o0 (dI 8 15) = some (.int jb)) (hq0 : 0 ≤ jb.toInt ∧ jb.toInt ≤ 7) (hgC : 0 ≤ nC ∧ nC ≤ 40) (hgS : 0 ≤ nS ∧ nS ≤ 60) : Met l yX5_tryOrders w_c_tryOrders1 ({ frames := 8, cells := 0, slots := 0, locals := 240 }) (va_Pc [.ref o0, .int 1, .int yr, .long co, .int ic, .int la] (fun U => U.heap = H0 ∧ va_K (dC, dI) vwCl (tyl kA) U ∧ EVC adK adV (gA G H0.size) U U.heap)) (va_Qv (fun (u : Unit) => True) (fun (_ : Unit) (t : State) => gH (dC, dI) kA (SHc nC nS) G t.heap ∧ gF (dC, dI) SKc G ([(8, 16), (67, 0), (68, 0), (69, 0)] : List (Nat × Nat)) H0 t.heap) (gA G H0.size)) 0 0 (gA G H0.size) := by
  refine Met.ofW (cc := cX5_tryOrders) (maxL := 11) (ret := none) (by decide) rfl ?_
  intro p e s m args below meth c s₁ B hml hv
  obtain ⟨rfl, hH0, hK, hE⟩ := hv
  have hx := B.exec
  have hb := B.bytes
  have hr := B.returns
  have hts := atoms_spec (ws := w_c_tryOrders1) B.pre
  have hown : s.vm.findClass RX5 = some m.cls := findClass_of_methodNamed B.named
  have hlocks := B.notSynchronized
  subst hH0
  generalize hAe : gA G s.heap.size = A at hE ⊢
  have hA : ∀ q : Nat, s.heap.size ≤ q → A q := fun q h => by rw [← hAe]; exact Or.inr h
  have hG := gA_of hAe
  have hS : va_S A s.heap s.heap [] := va_S.rf
  have hF : gF (dC, dI) SKc G ([(8, 16), (67, 0), (68, 0), (69, 0)] : List (Nat × Nat)) s.heap s.heap := gF.rf
  have hl := lv_entry ([.ref o0, .int 1, .int yr, .long co, .int ic, .int la]) (n := 11) (Nat.le_of_ble_eq_true rfl)
  rw [lg_entry_eq]
  generalize (lg_sl ([.ref o0, .int 1, .int yr, .long co, .int ic, .int la]) ++ List.replicate (11 - (lg_sl ([.ref o0, .int 1, .int yr, .long co, .int ic, .int la])).length) Slot.unset).toArray = ls at hl ⊢
  have hl : lv_has ls 11 [(0, .ref o0), (1, .int 1), (2, .int yr), (3, .long co), (5, .int ic), (6, .int la)] := hl
  refine lv_aload_n hx hb dX5_tryOrders_0 rfl (lv_at hl 0 rfl) ?_
  refine tw_get hx hb hts bF2_X5 hown hK hT hr_o0 shc_8 rfl 16 (by decide) (ht_at2 hts 0 rfl) (fun _ h9 => h9) dX5_tryOrders_1 (fun v9 m1 h9 => ?_)
  obtain ⟨x2, rfl, gx2, kx2⟩ := h9 _ rfl
  refine lv_iconst (v := (-1)) hx hb dX5_tryOrders_4 (by decide) ?_
  have t3 : -2147483648 ≤ x2.toInt ∧ x2.toInt ≤ 2147483647 := ti_all x2
  refine lv_icmp_eq (tgt := 18) hx hb dX5_tryOrders_5 (by decide) (fun c4 => ?_) (fun c4 => ?_)
  · have t5 : x2.toInt = (-1) := ti_eq c4 rfl (by decide)
    refine lv_iload_n hx hb dX5_tryOrders_18 rfl (lv_at hl 1 rfl) ?_
    refine lv_aload_n hx hb dX5_tryOrders_19 rfl (lv_at hl 0 rfl) ?_
    refine tw_getM (v := .int jb) hx hb hts bF2_X5 hown hK hT hr_o0 shc_8 rfl 15 (by decide) (ht_at2 hts 1 rfl) (fun _ h9 => h9) hm_jb dX5_tryOrders_20 ?_
    refine lv_icmp_lt (tgt := 50) hx hb dX5_tryOrders_23 (by decide) (fun c6 => ?_) (fun c6 => ?_)
    · have t7 : 1 < jb.toInt := ti_lt c6 (by decide) rfl
      refine lv_iconst (v := 0) hx hb dX5_tryOrders_50 (by decide) ?_
      refine lv_istore (lv' := [(7, .int 0), (0, .ref o0), (1, .int 1), (2, .int yr), (3, .long co), (5, .int ic), (6, .int la)]) hx hb dX5_tryOrders_51 hl (by decide) rfl (fun ls hl => ?_)
      have key128 : ∀ (n128 i8 : Nat), i8 + n128 = 7 → 0 ≤ i8 → ∀ (H : Heap) (locs : List Loc), gH (dC, dI) kA (SHc nC nS) G H → gF (dC, dI) SKc G ([(8, 16), (67, 0), (68, 0), (69, 0)] : List (Nat × Nat)) s.heap H → va_S A s.heap H locs → el H o0 (dI 8 15) = some (.int jb) → ∀ ls : Array Slot, lv_has ls 11 [(7, .int (nI i8)), (0, .ref o0), (1, .int 1), (2, .int yr), (3, .long co), (5, .int ic), (6, .int la)] → W p l e (headSpec w_c_tryOrders1 ({ frames := 8, cells := 0, slots := 0, locals := 240 })).room s m #[.ref o0, .int 1, .int yr, .long co, .int ic, .int la] below meth c H locs 0 0 (MQ below (va_Qv (fun (u : Unit) => True) (fun (_ : Unit) (t : State) => gH (dC, dI) kA (SHc nC nS) G t.heap ∧ gF (dC, dI) SKc G ([(8, 16), (67, 0), (68, 0), (69, 0)] : List (Nat × Nat)) s.heap t.heap) A) #[.ref o0, .int 1, .int yr, .long co, .int ic, .int la] s 0 0 A) (F0 m 53 ls []) := by
        intro n128
        induction n128 with
        | zero =>
          intro i8 hn128 hlo129  H locs hT hF hS m9 ls hl
          obtain rfl : 7 = i8 := by omega
          refine lv_iload hx hb dX5_tryOrders_53 (lv_at hl 0 rfl) ?_
          refine lv_aload_n hx hb dX5_tryOrders_55 rfl (lv_at hl 1 rfl) ?_
          refine tw_getM (v := .int jb) hx hb hts bF2_X5 hown hK hT hr_o0 shc_8 rfl 15 (by decide) (ht_at2 hts 1 rfl) (fun _ h9 => h9) m9 dX5_tryOrders_56 ?_
          refine lv_icmp_ge (tgt := 200) hx hb dX5_tryOrders_59 (by decide) (fun c130 => ?_) (fun c130 => (by exfalso; have q9 : ((7 : Nat) : Int) < jb.toInt := ti_nle c130 rfl (nI_toInt (by omega)); omega))
          have t131 : jb.toInt ≤ ((7 : Nat) : Int) := ti_le c130 rfl (nI_toInt (by omega))
          exact W.vret hx hb hr (fun t ht hW => ⟨⟨(), rfl, (by exact trivial), by (try dsimp only); rw [ht]; exact ⟨hT, hF⟩⟩, hS.F ht⟩) hS.2.2 dX5_tryOrders_200
        | succ n128 ih128 =>
          intro i8 hn128 hlo129  H locs hT hF hS m9 ls hl
          have hlt131 : i8 < 7 := by omega
          refine lv_iload hx hb dX5_tryOrders_53 (lv_at hl 0 rfl) ?_
          refine lv_aload_n hx hb dX5_tryOrders_55 rfl (lv_at hl 1 rfl) ?_
          refine tw_getM (v := .int jb) hx hb hts bF2_X5 hown hK hT hr_o0 shc_8 rfl 15 (by decide) (ht_at2 hts 1 rfl) (fun _ h9 => h9) m9 dX5_tryOrders_56 ?_
          refine lv_icmp_ge (tgt := 200) hx hb dX5_tryOrders_59 (by decide) (fun c132 => ?_) (fun c132 => ?_)
          · have t133 : jb.toInt ≤ ((i8 : Nat) : Int) := ti_le c132 rfl (nI_toInt (by omega))
            exact W.vret hx hb hr (fun t ht hW => ⟨⟨(), rfl, (by exact trivial), by (try dsimp only); rw [ht]; exact ⟨hT, hF⟩⟩, hS.F ht⟩) hS.2.2 dX5_tryOrders_200
          · have t134 : ((i8 : Nat) : Int) < jb.toInt := ti_nle c132 rfl (nI_toInt (by omega))
            refine lv_aload_n hx hb dX5_tryOrders_62 rfl (lv_at hl 1 rfl) ?_
            refine tw_get hx hb hts bF2_X5 hown hK hT hr_o0 shc_8 rfl 9 (by decide) (ht_at2 hts 2 rfl) (fun _ h9 => h9) dX5_tryOrders_63 (fun v9 m135 h9 => ?_)
            obtain ⟨b136, rfl, hg137⟩ := h9 _ rfl
            refine lv_iload hx hb dX5_tryOrders_66 (lv_at hl 0 rfl) ?_
            refine tw_zald (i := (nI i8)) hx hb hK hT hg137 shc_67 rfl (vp_in_nI (by omega) (by decide)) dX5_tryOrders_68 (fun v9 m138 h9 => ?_)
            obtain ⟨x139, rfl, gx139, kx139⟩ := h9
            have jn162 : ∀ (z158 : Int32), ∀ (H : Heap) (locs : List Loc), gH (dC, dI) kA (SHc nC nS) G H → gF (dC, dI) SKc G ([(8, 16), (67, 0), (68, 0), (69, 0)] : List (Nat × Nat)) s.heap H → va_S A s.heap H locs → el H o0 (dI 8 15) = some (.int jb) → el H o0 (dI 8 9) = some (.ref b136) → el H b136 (nI i8).toNatClampNeg = some (.int x139) → ∀ ls : Array Slot, lv_has ls 11 [(7, .int (nI i8)), (0, .ref o0), (1, .int 1), (2, .int yr), (3, .long co), (5, .int ic), (6, .int la)] → W p l e (headSpec w_c_tryOrders1 ({ frames := 8, cells := 0, slots := 0, locals := 240 })).room s m #[.ref o0, .int 1, .int yr, .long co, .int ic, .int la] below meth c H locs 0 0 (MQ below (va_Qv (fun (u : Unit) => True) (fun (_ : Unit) (t : State) => gH (dC, dI) kA (SHc nC nS) G t.heap ∧ gF (dC, dI) SKc G ([(8, 16), (67, 0), (68, 0), (69, 0)] : List (Nat × Nat)) s.heap t.heap) A) #[.ref o0, .int 1, .int yr, .long co, .int ic, .int la] s 0 0 A) (F0 m 98 ls [.int z158]) := by
              intro z158 H locs hT hF hS m159 m160 m161 ls hl
              refine lv_istore (lv' := [(8, .int z158), (7, .int (nI i8)), (0, .ref o0), (1, .int 1), (2, .int yr), (3, .long co), (5, .int ic), (6, .int la)]) hx hb dX5_tryOrders_98 hl (by decide) rfl (fun ls hl => ?_)
              refine lv_iload hx hb dX5_tryOrders_100 (lv_at hl 0 rfl) ?_
              refine lv_iconst (v := (-1)) hx hb dX5_tryOrders_102 (by decide) ?_
              have t163 : -2147483648 ≤ z158.toInt ∧ z158.toInt ≤ 2147483647 := ti_all z158
              refine lv_icmp_eq (tgt := 194) hx hb dX5_tryOrders_103 (by decide) (fun c164 => ?_) (fun c164 => ?_)
              · have t165 : z158.toInt = (-1) := ti_eq c164 rfl (by decide)
                refine lv_iinc (v := nI (i8 + 1)) (lv' := [(7, .int (nI (i8 + 1))), (8, .int z158), (0, .ref o0), (1, .int 1), (2, .int yr), (3, .long co), (5, .int ic), (6, .int la)]) hx hb dX5_tryOrders_194 hl (k := 1) rfl (nI_add i8 1) (by decide) rfl (fun ls hl => ?_)
                refine lv_goto (tgt := 53) hx hb dX5_tryOrders_197 (by decide) ?_
                exact ih128 (i8 + 1) (by omega) (by omega) _ _ hT hF hS m159 ls (lv_sub hl [0, 2, 3, 4, 5, 6, 7] rfl)
              · have t166 : z158.toInt ≠ (-1) := ti_ne c164 rfl (by decide)
                refine lv_iload hx hb dX5_tryOrders_106 (lv_at hl 0 rfl) ?_
                refine lv_sipush (v := 200) hx hb dX5_tryOrders_108 (by decide) ?_
                refine lv_icmp_gt (tgt := 194) hx hb dX5_tryOrders_111 (by decide) (fun c167 => ?_) (fun c167 => ?_)
                · have t168 : 200 < z158.toInt := ti_lt c167 (by decide) rfl
                  refine lv_iinc (v := nI (i8 + 1)) (lv' := [(7, .int (nI (i8 + 1))), (8, .int z158), (0, .ref o0), (1, .int 1), (2, .int yr), (3, .long co), (5, .int ic), (6, .int la)]) hx hb dX5_tryOrders_194 hl (k := 1) rfl (nI_add i8 1) (by decide) rfl (fun ls hl => ?_)
                  refine lv_goto (tgt := 53) hx hb dX5_tryOrders_197 (by decide) ?_
                  exact ih128 (i8 + 1) (by omega) (by omega) _ _ hT hF hS m159 ls (lv_sub hl [0, 2, 3, 4, 5, 6, 7] rfl)
                · have t169 : z158.toInt ≤ 200 := ti_nlt c167 (by decide) rfl
                  refine lv_lload_n hx hb dX5_tryOrders_114 rfl (lv_at hl 5 rfl) ?_
                  refine lv_iload hx hb dX5_tryOrders_115 (lv_at hl 6 rfl) ?_
                  refine lv_i2l (v := ic.toInt64) hx hb dX5_tryOrders_117 rfl ?_
                  refine lv_iload hx hb dX5_tryOrders_118 (lv_at hl 0 rfl) ?_
                  refine lv_iload_n hx hb dX5_tryOrders_120 rfl (lv_at hl 4 rfl) ?_
                  refine lv_isub hx hb dX5_tryOrders_121 ?_
                  refine lv_topi (fun x170 ex170 => ?_)
                  refine lv_i2l (v := x170.toInt64) hx hb dX5_tryOrders_122 rfl ?_
                  refine lv_lmul hx hb dX5_tryOrders_123 ?_
                  refine lv_topl (fun y171 _ => ?_)
                  refine lv_ladd hx hb dX5_tryOrders_124 ?_
                  refine lv_topl (fun y172 _ => ?_)
                  refine lv_aload_n hx hb dX5_tryOrders_125 rfl (lv_at hl 2 rfl) ?_
                  refine tw_get hx hb hts bF2_X5 hown hK hT hr_o0 shc_8 rfl 5 (by decide) (ht_at2 hts 3 rfl) (fun _ h9 => h9) dX5_tryOrders_126 (fun v9 m173 h9 => ?_)
                  obtain ⟨b174, rfl, hg175⟩ := h9 _ rfl
                  refine lv_iload hx hb dX5_tryOrders_129 (lv_at hl 1 rfl) ?_
                  refine tw_iald (i := (nI i8)) hx hb hK hT hg175 shc_63 rfl (vp_in_nI (by omega) (by decide)) dX5_tryOrders_131 (fun v9 m176 h9 => ?_)
                  obtain ⟨x177, rfl, gx177, kx177⟩ := h9
                  refine lv_i2l (v := x177.toInt64) hx hb dX5_tryOrders_132 rfl ?_
                  refine lv_lsub hx hb dX5_tryOrders_133 ?_
                  refine lv_topl (fun y178 _ => ?_)
                  refine lv_lstore (lv' := [(9, .long y178), (8, .int z158), (7, .int (nI i8)), (0, .ref o0), (1, .int 1), (2, .int yr), (3, .long co), (5, .int ic), (6, .int la)]) hx hb dX5_tryOrders_134 hl (by decide) rfl (fun ls hl => ?_)
                  refine lv_aload_n hx hb dX5_tryOrders_136 rfl (lv_at hl 3 rfl) ?_
                  refine tw_getM (v := .ref b136) hx hb hts bF2_X5 hown hK hT hr_o0 shc_8 rfl 9 (by decide) (ht_at2 hts 2 rfl) (fun _ h9 => h9) m160 dX5_tryOrders_137 ?_
                  refine lv_iload hx hb dX5_tryOrders_140 (lv_at hl 2 rfl) ?_
                  refine lv_iconst (v := 1) hx hb dX5_tryOrders_142 (by decide) ?_
                  refine tw_zast (i := (nI i8)) (x := 1) hx hb hK hT hG hS hg137 shc_67 rfl (vp_in_nI (by omega) (by decide)) (gi_z (rg_t (a := 1) (by decide) (by first | decide | omega) (by first | decide | omega)) (by decide) (by decide)) dX5_tryOrders_143 (fun H locs hT oq m179 oi hS => ?_)
                  have hF := hF.ast hg137 skc_67 oq (by decide)
                  have m180 := (el_kept (oq _ (gne hr_o0 hg137 (by decide)))).trans m159
                  have m181 := (el_kept (oq _ (gne hr_o0 hg137 (by decide)))).trans m160
                  refine lv_aload_n hx hb dX5_tryOrders_144 rfl (lv_at hl 3 rfl) ?_
                  refine tw_get hx hb hts bF2_X5 hown hK hT hr_o0 shc_8 rfl 10 (by decide) (ht_at2 hts 9 rfl) (fun _ h9 => h9) dX5_tryOrders_145 (fun v9 m184 h9 => ?_)
                  obtain ⟨b185, rfl, hg186⟩ := h9 _ rfl
                  refine lv_iload_n hx hb dX5_tryOrders_148 rfl (lv_at hl 4 rfl) ?_
                  refine lv_iload hx hb dX5_tryOrders_149 (lv_at hl 2 rfl) ?_
                  refine tw_iast (i := 1) (x := (nI i8)) hx hb hK hT hG hS hg186 shc_68 rfl (by unfold vp_in; decide) (gi_of (show (nI i8).toInt = ((i8 : Nat) : Int) from (nI_toInt (by omega))) (by omega) (by omega)) dX5_tryOrders_151 (fun H locs hT oq m187 oi hS => ?_)
                  have hF := hF.ast hg186 skc_68 oq (by decide)
                  have m188 := (el_kept (oq _ (gne hr_o0 hg186 (by decide)))).trans m180
                  have m189 := (el_kept (oq _ (gne hr_o0 hg186 (by decide)))).trans m181
                  refine lv_aload_n hx hb dX5_tryOrders_152 rfl (lv_at hl 3 rfl) ?_
                  refine lv_iload_n hx hb dX5_tryOrders_153 rfl (lv_at hl 4 rfl) ?_
                  refine lv_iconst (v := 1) hx hb dX5_tryOrders_154 (by decide) ?_
                  refine lv_iadd hx hb dX5_tryOrders_155 ?_
                  refine lv_topi (fun x193 ex193 => ?_)
                  obtain rfl : x193 = 2 := ex193.trans (by decide)
                  refine lv_iload hx hb dX5_tryOrders_156 (lv_at hl 1 rfl) ?_
                  refine lv_lload hx hb dX5_tryOrders_158 (lv_at hl 0 rfl) ?_
                  refine lv_iload hx hb dX5_tryOrders_160 (lv_at hl 7 rfl) ?_
                  refine lv_aload_n hx hb dX5_tryOrders_162 rfl (lv_at hl 3 rfl) ?_
                  refine tw_get hx hb hts bF2_X5 hown hK hT hr_o0 shc_8 rfl 7 (by decide) (ht_at2 hts 10 rfl) (fun _ h9 => h9) dX5_tryOrders_163 (fun v9 m194 h9 => ?_)
                  obtain ⟨b195, rfl, hg196⟩ := h9 _ rfl
                  refine lv_iload hx hb dX5_tryOrders_166 (lv_at hl 2 rfl) ?_
                  refine tw_iald (i := (nI i8)) hx hb hK hT hg196 shc_65 rfl (vp_in_nI (by omega) (by decide)) dX5_tryOrders_168 (fun v9 m197 h9 => ?_)
                  obtain ⟨x198, rfl, gx198, kx198⟩ := h9
                  refine lv_iadd hx hb dX5_tryOrders_169 ?_
                  refine lv_topi (fun x199 ex199 => ?_)
                  refine lv_iload hx hb dX5_tryOrders_170 (lv_at hl 8 rfl) ?_
                  refine lv_aload_n hx hb dX5_tryOrders_172 rfl (lv_at hl 3 rfl) ?_
                  refine tw_get hx hb hts bF2_X5 hown hK hT hr_o0 shc_8 rfl 8 (by decide) (ht_at2 hts 11 rfl) (fun _ h9 => h9) dX5_tryOrders_173 (fun v9 m200 h9 => ?_)
                  obtain ⟨b201, rfl, hg202⟩ := h9 _ rfl
                  refine lv_iload hx hb dX5_tryOrders_176 (lv_at hl 2 rfl) ?_
                  refine tw_iald (i := (nI i8)) hx hb hK hT hg202 shc_66 rfl (vp_in_nI (by omega) (by decide)) dX5_tryOrders_178 (fun v9 m203 h9 => ?_)
                  obtain ⟨x204, rfl, gx204, kx204⟩ := h9
                  refine lv_iload hx hb dX5_tryOrders_179 (lv_at hl 1 rfl) ?_
                  refine lv_imul hx hb dX5_tryOrders_181 ?_
                  refine lv_topi (fun x205 ex205 => ?_)
                  refine lv_iadd hx hb dX5_tryOrders_182 ?_
                  refine lv_topi (fun x206 ex206 => ?_)
                  have hFc := gA_free hG hA hS
                  refine va_callv (va_runV (As := [.int 2, .int z158, .long y178, .int x199, .int x206]) (rest := []) ⟨hx, hb, hml, hown, hts⟩ (c_tryOrders2 l dC dI kA adK adV G H nC nS o0 z158 y178 x199 x206 jb hT hr_o0 m188 (by have q8 := ti_all jb; omega) (by omega) (by omega)) (cwV 5 hts (goodIn_app (goodIn_r _ [19, 20, 21, 8] rfl (by decide +kernel)) (goodIn_ca (goodIn_r _ [13, 1, 2, 3, 4, 5, 6, 7, 8, 9, 10, 11, 12, 13, 14, 15, 16, 17, 18, 19, 20, 21] rfl (by decide +kernel)) (bs2_in _ _))) rfl rfl rfl (by decide +kernel) ⟨(Nat.le_of_ble_eq_true rfl), (Nat.le_of_ble_eq_true rfl)⟩) ⟨fun a U g mk q => by obtain ⟨q0, q1, qK, qE⟩ := q; exact ⟨q0, q1, va_K.moved (u := U) (U := U.calling g mk a) (Vm.Alike.refl U.vm) qK, EVC.blind g mk a qE⟩, gH_rc hK hT hr_o0 shc_8 rfl, fun U hU hW => ⟨rfl, hU, va_K.moved hW.alike hK, hE.call hS hFc hU hW⟩⟩ rfl rfl hl.1 rfl (lv_room (Nat.le_of_ble_eq_true rfl)) dX5_tryOrders_183 ⟨(Nat.le_of_ble_eq_true rfl), (Nat.le_of_ble_eq_true rfl)⟩) hS (fun q _ h => hFc q h) hFc (fun u t H locs ht hvm hw208 hB _ _ hS => ?_)
                  obtain ⟨hT, hF1⟩ := hB
                  rw [ht] at hT hF1
                  have m209 := (hF1.fld hr_o0 skc_8 (k := 15) (by decide) (by decide)).trans m188
                  have m210 := (hF1.fld hr_o0 skc_8 (k := 9) (by decide) (by decide)).trans m189
                  have hF := hF.more hF1 (by decide)
                  try dsimp only at hw208
                  refine lv_aload_n hx hb dX5_tryOrders_186 rfl (lv_at hl 3 rfl) ?_
                  refine tw_getM (v := .ref b136) hx hb hts bF2_X5 hown hK hT hr_o0 shc_8 rfl 9 (by decide) (ht_at2 hts 2 rfl) (fun _ h9 => h9) m210 dX5_tryOrders_187 ?_
                  refine lv_iload hx hb dX5_tryOrders_190 (lv_at hl 2 rfl) ?_
                  refine lv_iconst (v := 0) hx hb dX5_tryOrders_192 (by decide) ?_
                  refine tw_zast (i := (nI i8)) (x := 0) hx hb hK hT hG hS hg137 shc_67 rfl (vp_in_nI (by omega) (by decide)) (gi_z (rg_t (a := 0) (by decide) (by first | decide | omega) (by first | decide | omega)) (by decide) (by decide)) dX5_tryOrders_193 (fun H locs hT oq m219 oi hS => ?_)
                  have hF := hF.ast hg137 skc_67 oq (by decide)
                  have m220 := (el_kept (oq _ (gne hr_o0 hg137 (by decide)))).trans m209
                  refine lv_iinc (v := nI (i8 + 1)) (lv' := [(7, .int (nI (i8 + 1))), (9, .long y178), (8, .int z158), (0, .ref o0), (1, .int 1), (2, .int yr), (3, .long co), (5, .int ic), (6, .int la)]) hx hb dX5_tryOrders_194 hl (k := 2) rfl (nI_add i8 1) (by decide) rfl (fun ls hl => ?_)
                  refine lv_goto (tgt := 53) hx hb dX5_tryOrders_197 (by decide) ?_
                  exact ih128 (i8 + 1) (by omega) (by omega) _ _ hT hF hS m220 ls (lv_sub hl [0, 3, 4, 5, 6, 7, 8] rfl)
            refine lv_if_eq (tgt := 76) hx hb dX5_tryOrders_69 (by decide) (fun c229 => ?_) (fun c229 => ?_)
            · have t230 : x139.toInt = 0 := ti_eq c229 rfl (by decide)
              refine lv_iload_n hx hb dX5_tryOrders_76 rfl (lv_at hl 3 rfl) ?_
              refine lv_lload_n hx hb dX5_tryOrders_77 rfl (lv_at hl 4 rfl) ?_
              refine lv_iload hx hb dX5_tryOrders_78 (lv_at hl 5 rfl) ?_
              refine lv_aload_n hx hb dX5_tryOrders_80 rfl (lv_at hl 1 rfl) ?_
              refine tw_get hx hb hts bF2_X5 hown hK hT hr_o0 shc_8 rfl 5 (by decide) (ht_at2 hts 3 rfl) (fun _ h9 => h9) dX5_tryOrders_81 (fun v9 m231 h9 => ?_)
              obtain ⟨b232, rfl, hg233⟩ := h9 _ rfl
              refine lv_iload hx hb dX5_tryOrders_84 (lv_at hl 0 rfl) ?_
              refine tw_iald (i := (nI i8)) hx hb hK hT hg233 shc_63 rfl (vp_in_nI (by omega) (by decide)) dX5_tryOrders_86 (fun v9 m234 h9 => ?_)
              obtain ⟨x235, rfl, gx235, kx235⟩ := h9
              have hFc := gA_free hG hA hS
              refine va_calli (va_runS (As := [.int yr, .long co, .int ic, .int x235]) (rest := []) ⟨hx, hb, hml, hown, hts⟩ (c_yearWithCost l dC dI kA adK adV G H nC nS yr co ic x235 hT (by omega) (by omega)) (va_cwS 4 hts (goodIn_app (goodIn_r _ [6, 7, 8] rfl (by decide +kernel)) (goodIn_ca (goodIn_r _ [5] rfl (by decide +kernel)) (bs2_in _ _))) rfl rfl rfl (by decide +kernel) ⟨(Nat.le_of_ble_eq_true rfl), (Nat.le_of_ble_eq_true rfl)⟩) ⟨fun a U g mk q => by obtain ⟨q0, q1, qK, qE⟩ := q; exact ⟨q0, q1, va_K.moved (u := U) (U := U.calling g mk a) (Vm.Alike.refl U.vm) qK, EVC.blind g mk a qE⟩, fun U hU hW => ⟨rfl, hU, va_K.moved hW.alike hK, hE.call hS hFc hU hW⟩⟩ rfl rfl hl.1 rfl (lv_room (Nat.le_of_ble_eq_true rfl)) dX5_tryOrders_87 ⟨(Nat.le_of_ble_eq_true rfl), (Nat.le_of_ble_eq_true rfl)⟩) hS (fun q _ h => hFc q h) hFc (fun r236 u t H locs ht hvm hw237 hB _ _ hS => ?_)
              obtain ⟨hT, hF1⟩ := hB
              rw [ht] at hT hF1
              have m238 := (hF1.fld hr_o0 skc_8 (k := 15) (by decide) (by decide)).trans m9
              have m239 := (hF1.fld hr_o0 skc_8 (k := 9) (by decide) (by decide)).trans m135
              have m240 := (el_kept (hF1.arr hg137 skc_67 (by decide))).trans m138
              have hF := hF.more hF1 (by decide)
              try dsimp only at hw237
              refine lv_aload_n hx hb dX5_tryOrders_90 rfl (lv_at hl 1 rfl) ?_
              refine tw_get hx hb hts bF2_X5 hown hK hT hr_o0 shc_8 rfl 6 (by decide) (ht_at2 hts 8 rfl) (fun _ h9 => h9) dX5_tryOrders_91 (fun v9 m243 h9 => ?_)
              obtain ⟨b244, rfl, hg245⟩ := h9 _ rfl
              refine lv_iload hx hb dX5_tryOrders_94 (lv_at hl 0 rfl) ?_
              refine tw_iald (i := (nI i8)) hx hb hK hT hg245 shc_64 rfl (vp_in_nI (by omega) (by decide)) dX5_tryOrders_96 (fun v9 m246 h9 => ?_)
              obtain ⟨x247, rfl, gx247, kx247⟩ := h9
              refine lv_iadd hx hb dX5_tryOrders_97 ?_
              refine lv_topi (fun x248 ex248 => ?_)
              exact jn162 x248 _ _ hT hF hS m238 m239 m240 ls (lv_sub hl [0, 1, 2, 3, 4, 5, 6] rfl)
            · have t249 : x139.toInt ≠ 0 := ti_ne c229 rfl (by decide)
              refine lv_iconst (v := (-1)) hx hb dX5_tryOrders_72 (by decide) ?_
              refine lv_goto (tgt := 98) hx hb dX5_tryOrders_73 (by decide) ?_
              exact jn162 (-1) _ _ hT hF hS m9 m135 m138 ls (lv_sub hl [0, 1, 2, 3, 4, 5, 6] rfl)
      exact key128 (7 - 0) 0 (by omega) (Nat.le_refl _) _ _ hT hF hS hm_jb ls (lv_sub hl [0, 1, 2, 3, 4, 5, 6] rfl)
    · have t250 : jb.toInt ≤ 1 := ti_nlt c6 (by decide) rfl
      refine lv_aload_n hx hb dX5_tryOrders_26 rfl (lv_at hl 0 rfl) ?_
      refine lv_iload hx hb dX5_tryOrders_27 (lv_at hl 5 rfl) ?_
      refine tw_put (v := .int la) (ty := .int) hx hb hts bF2_X5 tyX5 tyX5_ok nmX5 hown hK hT hG hS hr_o0 shc_8 rfl 16 (by decide) (ht_at2 hts 0 rfl) (fun _ h9 => h9) rfl (by decide +kernel) rfl rfl (gl_at rfl (gi_all _)) dX5_tryOrders_29 (fun H locs hT oq m251 oj hS => ?_)
      have hF := hF.put hr_o0 skc_8 oq oj (by decide)
      have m252 := (oj 15 (by decide) (by decide)).trans hm_jb
      refine lv_aload_n hx hb dX5_tryOrders_32 rfl (lv_at hl 0 rfl) ?_
      refine tw_get hx hb hts bF2_X5 hown hK hT hr_o0 shc_8 rfl 10 (by decide) (ht_at2 hts 9 rfl) (fun _ h9 => h9) dX5_tryOrders_33 (fun v9 m253 h9 => ?_)
      obtain ⟨b254, rfl, hg255⟩ := h9 _ rfl
      refine lv_iconst (v := 0) hx hb dX5_tryOrders_36 (by decide) ?_
      refine lv_aload_n hx hb dX5_tryOrders_37 rfl (lv_at hl 0 rfl) ?_
      refine tw_get hx hb hts bF2_X5 hown hK hT hr_o0 shc_8 rfl 11 (by decide) (ht_at2 hts 13 rfl) (fun _ h9 => h9) dX5_tryOrders_38 (fun v9 m256 h9 => ?_)
      obtain ⟨b257, rfl, hg258⟩ := h9 _ rfl
      refine lv_iconst (v := 0) hx hb dX5_tryOrders_41 (by decide) ?_
      refine lv_aload_n hx hb dX5_tryOrders_42 rfl (lv_at hl 0 rfl) ?_
      refine tw_getM (v := .int jb) hx hb hts bF2_X5 hown hK hT hr_o0 shc_8 rfl 15 (by decide) (ht_at2 hts 1 rfl) (fun _ h9 => h9) m252 dX5_tryOrders_43 ?_
      refine tw_copy (ty := .int) hx hb (hml.trans hl.1.symm) hown (ht_at2 hts 14 rfl) (ht_at2 hts 15 rfl) (ht_at2 hts 16 rfl) (ht_at2 hts 17 rfl) hK hT hG hS hg255 hg258 shc_68 shc_69 rfl rfl (by decide) (by decide) (fun h9 => by have q9 := ti_lt h9 rfl (show (0 : Int32).toInt = 0 from by decide); omega) (by have q9 := tn_of (show jb.toInt = jb.toInt from rfl) (by omega); have q8 : (0 : Int32).toNatClampNeg = 0 := (by decide); omega) (by have q9 := tn_of (show jb.toInt = jb.toInt from rfl) (by omega); have q8 : (0 : Int32).toNatClampNeg = 0 := (by decide); omega) (fun _ _ h9 => by obtain ⟨x9, e9, _⟩ := h9; exact ⟨x9, e9, rfl⟩) (fun _ _ _ h9 => by obtain ⟨x9, e9, a9, b9⟩ := h9; exact ⟨x9, e9, by omega, by omega⟩) (Nat.le_of_ble_eq_true rfl) (Nat.le_of_ble_eq_true rfl) dX5_tryOrders_46 (fun H locs hT oq hS => ?_)
      have hF := hF.ast hg258 skc_69 oq (by decide)
      exact W.vret hx hb hr (fun t ht hW => ⟨⟨(), rfl, (by exact trivial), by (try dsimp only); rw [ht]; exact ⟨hT, hF⟩⟩, hS.F ht⟩) hS.2.2 dX5_tryOrders_49
  · have t263 : x2.toInt ≠ (-1) := ti_ne c4 rfl (by decide)
    refine lv_iload hx hb dX5_tryOrders_8 (lv_at hl 5 rfl) ?_
    refine lv_aload_n hx hb dX5_tryOrders_10 rfl (lv_at hl 0 rfl) ?_
    refine tw_getM (v := .int x2) hx hb hts bF2_X5 hown hK hT hr_o0 shc_8 rfl 16 (by decide) (ht_at2 hts 0 rfl) (fun _ h9 => h9) m1 dX5_tryOrders_11 ?_
    have t264 : -2147483648 ≤ la.toInt ∧ la.toInt ≤ 2147483647 := ti_all la
    refine lv_icmp_lt (tgt := 18) hx hb dX5_tryOrders_14 (by decide) (fun c265 => ?_) (fun c265 => ?_)
    · have t266 : la.toInt < x2.toInt := ti_lt c265 rfl rfl
      refine lv_iload_n hx hb dX5_tryOrders_18 rfl (lv_at hl 1 rfl) ?_
      refine lv_aload_n hx hb dX5_tryOrders_19 rfl (lv_at hl 0 rfl) ?_
      refine tw_getM (v := .int jb) hx hb hts bF2_X5 hown hK hT hr_o0 shc_8 rfl 15 (by decide) (ht_at2 hts 1 rfl) (fun _ h9 => h9) hm_jb dX5_tryOrders_20 ?_
      refine lv_icmp_lt (tgt := 50) hx hb dX5_tryOrders_23 (by decide) (fun c267 => ?_) (fun c267 => ?_)
      · have t268 : 1 < jb.toInt := ti_lt c267 (by decide) rfl
        refine lv_iconst (v := 0) hx hb dX5_tryOrders_50 (by decide) ?_
        refine lv_istore (lv' := [(7, .int 0), (0, .ref o0), (1, .int 1), (2, .int yr), (3, .long co), (5, .int ic), (6, .int la)]) hx hb dX5_tryOrders_51 hl (by decide) rfl (fun ls hl => ?_)
        have key389 : ∀ (n389 i269 : Nat), i269 + n389 = 7 → 0 ≤ i269 → ∀ (H : Heap) (locs : List Loc), gH (dC, dI) kA (SHc nC nS) G H → gF (dC, dI) SKc G ([(8, 16), (67, 0), (68, 0), (69, 0)] : List (Nat × Nat)) s.heap H → va_S A s.heap H locs → el H o0 (dI 8 15) = some (.int jb) → ∀ ls : Array Slot, lv_has ls 11 [(7, .int (nI i269)), (0, .ref o0), (1, .int 1), (2, .int yr), (3, .long co), (5, .int ic), (6, .int la)] → W p l e (headSpec w_c_tryOrders1 ({ frames := 8, cells := 0, slots := 0, locals := 240 })).room s m #[.ref o0, .int 1, .int yr, .long co, .int ic, .int la] below meth c H locs 0 0 (MQ below (va_Qv (fun (u : Unit) => True) (fun (_ : Unit) (t : State) => gH (dC, dI) kA (SHc nC nS) G t.heap ∧ gF (dC, dI) SKc G ([(8, 16), (67, 0), (68, 0), (69, 0)] : List (Nat × Nat)) s.heap t.heap) A) #[.ref o0, .int 1, .int yr, .long co, .int ic, .int la] s 0 0 A) (F0 m 53 ls []) := by
          intro n389
          induction n389 with
          | zero =>
            intro i269 hn389 hlo390  H locs hT hF hS m270 ls hl
            obtain rfl : 7 = i269 := by omega
            refine lv_iload hx hb dX5_tryOrders_53 (lv_at hl 0 rfl) ?_
            refine lv_aload_n hx hb dX5_tryOrders_55 rfl (lv_at hl 1 rfl) ?_
            refine tw_getM (v := .int jb) hx hb hts bF2_X5 hown hK hT hr_o0 shc_8 rfl 15 (by decide) (ht_at2 hts 1 rfl) (fun _ h9 => h9) m270 dX5_tryOrders_56 ?_
            refine lv_icmp_ge (tgt := 200) hx hb dX5_tryOrders_59 (by decide) (fun c391 => ?_) (fun c391 => (by exfalso; have q9 : ((7 : Nat) : Int) < jb.toInt := ti_nle c391 rfl (nI_toInt (by omega)); omega))
            have t392 : jb.toInt ≤ ((7 : Nat) : Int) := ti_le c391 rfl (nI_toInt (by omega))
            exact W.vret hx hb hr (fun t ht hW => ⟨⟨(), rfl, (by exact trivial), by (try dsimp only); rw [ht]; exact ⟨hT, hF⟩⟩, hS.F ht⟩) hS.2.2 dX5_tryOrders_200
          | succ n389 ih389 =>
            intro i269 hn389 hlo390  H locs hT hF hS m270 ls hl
            have hlt392 : i269 < 7 := by omega
            refine lv_iload hx hb dX5_tryOrders_53 (lv_at hl 0 rfl) ?_
            refine lv_aload_n hx hb dX5_tryOrders_55 rfl (lv_at hl 1 rfl) ?_
            refine tw_getM (v := .int jb) hx hb hts bF2_X5 hown hK hT hr_o0 shc_8 rfl 15 (by decide) (ht_at2 hts 1 rfl) (fun _ h9 => h9) m270 dX5_tryOrders_56 ?_
            refine lv_icmp_ge (tgt := 200) hx hb dX5_tryOrders_59 (by decide) (fun c393 => ?_) (fun c393 => ?_)
            · have t394 : jb.toInt ≤ ((i269 : Nat) : Int) := ti_le c393 rfl (nI_toInt (by omega))
              exact W.vret hx hb hr (fun t ht hW => ⟨⟨(), rfl, (by exact trivial), by (try dsimp only); rw [ht]; exact ⟨hT, hF⟩⟩, hS.F ht⟩) hS.2.2 dX5_tryOrders_200
            · have t395 : ((i269 : Nat) : Int) < jb.toInt := ti_nle c393 rfl (nI_toInt (by omega))
              refine lv_aload_n hx hb dX5_tryOrders_62 rfl (lv_at hl 1 rfl) ?_
              refine tw_get hx hb hts bF2_X5 hown hK hT hr_o0 shc_8 rfl 9 (by decide) (ht_at2 hts 2 rfl) (fun _ h9 => h9) dX5_tryOrders_63 (fun v9 m396 h9 => ?_)
              obtain ⟨b397, rfl, hg398⟩ := h9 _ rfl
              refine lv_iload hx hb dX5_tryOrders_66 (lv_at hl 0 rfl) ?_
              refine tw_zald (i := (nI i269)) hx hb hK hT hg398 shc_67 rfl (vp_in_nI (by omega) (by decide)) dX5_tryOrders_68 (fun v9 m399 h9 => ?_)
              obtain ⟨x400, rfl, gx400, kx400⟩ := h9
              have jn423 : ∀ (z419 : Int32), ∀ (H : Heap) (locs : List Loc), gH (dC, dI) kA (SHc nC nS) G H → gF (dC, dI) SKc G ([(8, 16), (67, 0), (68, 0), (69, 0)] : List (Nat × Nat)) s.heap H → va_S A s.heap H locs → el H o0 (dI 8 15) = some (.int jb) → el H o0 (dI 8 9) = some (.ref b397) → el H b397 (nI i269).toNatClampNeg = some (.int x400) → ∀ ls : Array Slot, lv_has ls 11 [(7, .int (nI i269)), (0, .ref o0), (1, .int 1), (2, .int yr), (3, .long co), (5, .int ic), (6, .int la)] → W p l e (headSpec w_c_tryOrders1 ({ frames := 8, cells := 0, slots := 0, locals := 240 })).room s m #[.ref o0, .int 1, .int yr, .long co, .int ic, .int la] below meth c H locs 0 0 (MQ below (va_Qv (fun (u : Unit) => True) (fun (_ : Unit) (t : State) => gH (dC, dI) kA (SHc nC nS) G t.heap ∧ gF (dC, dI) SKc G ([(8, 16), (67, 0), (68, 0), (69, 0)] : List (Nat × Nat)) s.heap t.heap) A) #[.ref o0, .int 1, .int yr, .long co, .int ic, .int la] s 0 0 A) (F0 m 98 ls [.int z419]) := by
                intro z419 H locs hT hF hS m420 m421 m422 ls hl
                refine lv_istore (lv' := [(8, .int z419), (7, .int (nI i269)), (0, .ref o0), (1, .int 1), (2, .int yr), (3, .long co), (5, .int ic), (6, .int la)]) hx hb dX5_tryOrders_98 hl (by decide) rfl (fun ls hl => ?_)
                refine lv_iload hx hb dX5_tryOrders_100 (lv_at hl 0 rfl) ?_
                refine lv_iconst (v := (-1)) hx hb dX5_tryOrders_102 (by decide) ?_
                have t424 : -2147483648 ≤ z419.toInt ∧ z419.toInt ≤ 2147483647 := ti_all z419
                refine lv_icmp_eq (tgt := 194) hx hb dX5_tryOrders_103 (by decide) (fun c425 => ?_) (fun c425 => ?_)
                · have t426 : z419.toInt = (-1) := ti_eq c425 rfl (by decide)
                  refine lv_iinc (v := nI (i269 + 1)) (lv' := [(7, .int (nI (i269 + 1))), (8, .int z419), (0, .ref o0), (1, .int 1), (2, .int yr), (3, .long co), (5, .int ic), (6, .int la)]) hx hb dX5_tryOrders_194 hl (k := 1) rfl (nI_add i269 1) (by decide) rfl (fun ls hl => ?_)
                  refine lv_goto (tgt := 53) hx hb dX5_tryOrders_197 (by decide) ?_
                  exact ih389 (i269 + 1) (by omega) (by omega) _ _ hT hF hS m420 ls (lv_sub hl [0, 2, 3, 4, 5, 6, 7] rfl)
                · have t427 : z419.toInt ≠ (-1) := ti_ne c425 rfl (by decide)
                  refine lv_iload hx hb dX5_tryOrders_106 (lv_at hl 0 rfl) ?_
                  refine lv_sipush (v := 200) hx hb dX5_tryOrders_108 (by decide) ?_
                  refine lv_icmp_gt (tgt := 194) hx hb dX5_tryOrders_111 (by decide) (fun c428 => ?_) (fun c428 => ?_)
                  · have t429 : 200 < z419.toInt := ti_lt c428 (by decide) rfl
                    refine lv_iinc (v := nI (i269 + 1)) (lv' := [(7, .int (nI (i269 + 1))), (8, .int z419), (0, .ref o0), (1, .int 1), (2, .int yr), (3, .long co), (5, .int ic), (6, .int la)]) hx hb dX5_tryOrders_194 hl (k := 1) rfl (nI_add i269 1) (by decide) rfl (fun ls hl => ?_)
                    refine lv_goto (tgt := 53) hx hb dX5_tryOrders_197 (by decide) ?_
                    exact ih389 (i269 + 1) (by omega) (by omega) _ _ hT hF hS m420 ls (lv_sub hl [0, 2, 3, 4, 5, 6, 7] rfl)
                  · have t430 : z419.toInt ≤ 200 := ti_nlt c428 (by decide) rfl
                    refine lv_lload_n hx hb dX5_tryOrders_114 rfl (lv_at hl 5 rfl) ?_
                    refine lv_iload hx hb dX5_tryOrders_115 (lv_at hl 6 rfl) ?_
                    refine lv_i2l (v := ic.toInt64) hx hb dX5_tryOrders_117 rfl ?_
                    refine lv_iload hx hb dX5_tryOrders_118 (lv_at hl 0 rfl) ?_
                    refine lv_iload_n hx hb dX5_tryOrders_120 rfl (lv_at hl 4 rfl) ?_
                    refine lv_isub hx hb dX5_tryOrders_121 ?_
                    refine lv_topi (fun x431 ex431 => ?_)
                    refine lv_i2l (v := x431.toInt64) hx hb dX5_tryOrders_122 rfl ?_
                    refine lv_lmul hx hb dX5_tryOrders_123 ?_
                    refine lv_topl (fun y432 _ => ?_)
                    refine lv_ladd hx hb dX5_tryOrders_124 ?_
                    refine lv_topl (fun y433 _ => ?_)
                    refine lv_aload_n hx hb dX5_tryOrders_125 rfl (lv_at hl 2 rfl) ?_
                    refine tw_get hx hb hts bF2_X5 hown hK hT hr_o0 shc_8 rfl 5 (by decide) (ht_at2 hts 3 rfl) (fun _ h9 => h9) dX5_tryOrders_126 (fun v9 m434 h9 => ?_)
                    obtain ⟨b435, rfl, hg436⟩ := h9 _ rfl
                    refine lv_iload hx hb dX5_tryOrders_129 (lv_at hl 1 rfl) ?_
                    refine tw_iald (i := (nI i269)) hx hb hK hT hg436 shc_63 rfl (vp_in_nI (by omega) (by decide)) dX5_tryOrders_131 (fun v9 m437 h9 => ?_)
                    obtain ⟨x438, rfl, gx438, kx438⟩ := h9
                    refine lv_i2l (v := x438.toInt64) hx hb dX5_tryOrders_132 rfl ?_
                    refine lv_lsub hx hb dX5_tryOrders_133 ?_
                    refine lv_topl (fun y439 _ => ?_)
                    refine lv_lstore (lv' := [(9, .long y439), (8, .int z419), (7, .int (nI i269)), (0, .ref o0), (1, .int 1), (2, .int yr), (3, .long co), (5, .int ic), (6, .int la)]) hx hb dX5_tryOrders_134 hl (by decide) rfl (fun ls hl => ?_)
                    refine lv_aload_n hx hb dX5_tryOrders_136 rfl (lv_at hl 3 rfl) ?_
                    refine tw_getM (v := .ref b397) hx hb hts bF2_X5 hown hK hT hr_o0 shc_8 rfl 9 (by decide) (ht_at2 hts 2 rfl) (fun _ h9 => h9) m421 dX5_tryOrders_137 ?_
                    refine lv_iload hx hb dX5_tryOrders_140 (lv_at hl 2 rfl) ?_
                    refine lv_iconst (v := 1) hx hb dX5_tryOrders_142 (by decide) ?_
                    refine tw_zast (i := (nI i269)) (x := 1) hx hb hK hT hG hS hg398 shc_67 rfl (vp_in_nI (by omega) (by decide)) (gi_z (rg_t (a := 1) (by decide) (by first | decide | omega) (by first | decide | omega)) (by decide) (by decide)) dX5_tryOrders_143 (fun H locs hT oq m440 oi hS => ?_)
                    have hF := hF.ast hg398 skc_67 oq (by decide)
                    have m441 := (el_kept (oq _ (gne hr_o0 hg398 (by decide)))).trans m420
                    have m442 := (el_kept (oq _ (gne hr_o0 hg398 (by decide)))).trans m421
                    refine lv_aload_n hx hb dX5_tryOrders_144 rfl (lv_at hl 3 rfl) ?_
                    refine tw_get hx hb hts bF2_X5 hown hK hT hr_o0 shc_8 rfl 10 (by decide) (ht_at2 hts 9 rfl) (fun _ h9 => h9) dX5_tryOrders_145 (fun v9 m445 h9 => ?_)
                    obtain ⟨b446, rfl, hg447⟩ := h9 _ rfl
                    refine lv_iload_n hx hb dX5_tryOrders_148 rfl (lv_at hl 4 rfl) ?_
                    refine lv_iload hx hb dX5_tryOrders_149 (lv_at hl 2 rfl) ?_
                    refine tw_iast (i := 1) (x := (nI i269)) hx hb hK hT hG hS hg447 shc_68 rfl (by unfold vp_in; decide) (gi_of (show (nI i269).toInt = ((i269 : Nat) : Int) from (nI_toInt (by omega))) (by omega) (by omega)) dX5_tryOrders_151 (fun H locs hT oq m448 oi hS => ?_)
                    have hF := hF.ast hg447 skc_68 oq (by decide)
                    have m449 := (el_kept (oq _ (gne hr_o0 hg447 (by decide)))).trans m441
                    have m450 := (el_kept (oq _ (gne hr_o0 hg447 (by decide)))).trans m442
                    refine lv_aload_n hx hb dX5_tryOrders_152 rfl (lv_at hl 3 rfl) ?_
                    refine lv_iload_n hx hb dX5_tryOrders_153 rfl (lv_at hl 4 rfl) ?_
                    refine lv_iconst (v := 1) hx hb dX5_tryOrders_154 (by decide) ?_
                    refine lv_iadd hx hb dX5_tryOrders_155 ?_
                    refine lv_topi (fun x454 ex454 => ?_)
                    obtain rfl : x454 = 2 := ex454.trans (by decide)
                    refine lv_iload hx hb dX5_tryOrders_156 (lv_at hl 1 rfl) ?_
                    refine lv_lload hx hb dX5_tryOrders_158 (lv_at hl 0 rfl) ?_
                    refine lv_iload hx hb dX5_tryOrders_160 (lv_at hl 7 rfl) ?_
                    refine lv_aload_n hx hb dX5_tryOrders_162 rfl (lv_at hl 3 rfl) ?_
                    refine tw_get hx hb hts bF2_X5 hown hK hT hr_o0 shc_8 rfl 7 (by decide) (ht_at2 hts 10 rfl) (fun _ h9 => h9) dX5_tryOrders_163 (fun v9 m455 h9 => ?_)
                    obtain ⟨b456, rfl, hg457⟩ := h9 _ rfl
                    refine lv_iload hx hb dX5_tryOrders_166 (lv_at hl 2 rfl) ?_
                    refine tw_iald (i := (nI i269)) hx hb hK hT hg457 shc_65 rfl (vp_in_nI (by omega) (by decide)) dX5_tryOrders_168 (fun v9 m458 h9 => ?_)
                    obtain ⟨x459, rfl, gx459, kx459⟩ := h9
                    refine lv_iadd hx hb dX5_tryOrders_169 ?_
                    refine lv_topi (fun x460 ex460 => ?_)
                    refine lv_iload hx hb dX5_tryOrders_170 (lv_at hl 8 rfl) ?_
                    refine lv_aload_n hx hb dX5_tryOrders_172 rfl (lv_at hl 3 rfl) ?_
                    refine tw_get hx hb hts bF2_X5 hown hK hT hr_o0 shc_8 rfl 8 (by decide) (ht_at2 hts 11 rfl) (fun _ h9 => h9) dX5_tryOrders_173 (fun v9 m461 h9 => ?_)
                    obtain ⟨b462, rfl, hg463⟩ := h9 _ rfl
                    refine lv_iload hx hb dX5_tryOrders_176 (lv_at hl 2 rfl) ?_
                    refine tw_iald (i := (nI i269)) hx hb hK hT hg463 shc_66 rfl (vp_in_nI (by omega) (by decide)) dX5_tryOrders_178 (fun v9 m464 h9 => ?_)
                    obtain ⟨x465, rfl, gx465, kx465⟩ := h9
                    refine lv_iload hx hb dX5_tryOrders_179 (lv_at hl 1 rfl) ?_
                    refine lv_imul hx hb dX5_tryOrders_181 ?_
                    refine lv_topi (fun x466 ex466 => ?_)
                    refine lv_iadd hx hb dX5_tryOrders_182 ?_
                    refine lv_topi (fun x467 ex467 => ?_)
                    have hFc := gA_free hG hA hS
                    refine va_callv (va_runV (As := [.int 2, .int z419, .long y439, .int x460, .int x467]) (rest := []) ⟨hx, hb, hml, hown, hts⟩ (c_tryOrders2 l dC dI kA adK adV G H nC nS o0 z419 y439 x460 x467 jb hT hr_o0 m449 (by have q8 := ti_all jb; omega) (by omega) (by omega)) (cwV 5 hts (goodIn_app (goodIn_r _ [19, 20, 21, 8] rfl (by decide +kernel)) (goodIn_ca (goodIn_r _ [13, 1, 2, 3, 4, 5, 6, 7, 8, 9, 10, 11, 12, 13, 14, 15, 16, 17, 18, 19, 20, 21] rfl (by decide +kernel)) (bs2_in _ _))) rfl rfl rfl (by decide +kernel) ⟨(Nat.le_of_ble_eq_true rfl), (Nat.le_of_ble_eq_true rfl)⟩) ⟨fun a U g mk q => by obtain ⟨q0, q1, qK, qE⟩ := q; exact ⟨q0, q1, va_K.moved (u := U) (U := U.calling g mk a) (Vm.Alike.refl U.vm) qK, EVC.blind g mk a qE⟩, gH_rc hK hT hr_o0 shc_8 rfl, fun U hU hW => ⟨rfl, hU, va_K.moved hW.alike hK, hE.call hS hFc hU hW⟩⟩ rfl rfl hl.1 rfl (lv_room (Nat.le_of_ble_eq_true rfl)) dX5_tryOrders_183 ⟨(Nat.le_of_ble_eq_true rfl), (Nat.le_of_ble_eq_true rfl)⟩) hS (fun q _ h => hFc q h) hFc (fun u t H locs ht hvm hw469 hB _ _ hS => ?_)
                    obtain ⟨hT, hF1⟩ := hB
                    rw [ht] at hT hF1
                    have m470 := (hF1.fld hr_o0 skc_8 (k := 15) (by decide) (by decide)).trans m449
                    have m471 := (hF1.fld hr_o0 skc_8 (k := 9) (by decide) (by decide)).trans m450
                    have hF := hF.more hF1 (by decide)
                    try dsimp only at hw469
                    refine lv_aload_n hx hb dX5_tryOrders_186 rfl (lv_at hl 3 rfl) ?_
                    refine tw_getM (v := .ref b397) hx hb hts bF2_X5 hown hK hT hr_o0 shc_8 rfl 9 (by decide) (ht_at2 hts 2 rfl) (fun _ h9 => h9) m471 dX5_tryOrders_187 ?_
                    refine lv_iload hx hb dX5_tryOrders_190 (lv_at hl 2 rfl) ?_
                    refine lv_iconst (v := 0) hx hb dX5_tryOrders_192 (by decide) ?_
                    refine tw_zast (i := (nI i269)) (x := 0) hx hb hK hT hG hS hg398 shc_67 rfl (vp_in_nI (by omega) (by decide)) (gi_z (rg_t (a := 0) (by decide) (by first | decide | omega) (by first | decide | omega)) (by decide) (by decide)) dX5_tryOrders_193 (fun H locs hT oq m480 oi hS => ?_)
                    have hF := hF.ast hg398 skc_67 oq (by decide)
                    have m481 := (el_kept (oq _ (gne hr_o0 hg398 (by decide)))).trans m470
                    refine lv_iinc (v := nI (i269 + 1)) (lv' := [(7, .int (nI (i269 + 1))), (9, .long y439), (8, .int z419), (0, .ref o0), (1, .int 1), (2, .int yr), (3, .long co), (5, .int ic), (6, .int la)]) hx hb dX5_tryOrders_194 hl (k := 2) rfl (nI_add i269 1) (by decide) rfl (fun ls hl => ?_)
                    refine lv_goto (tgt := 53) hx hb dX5_tryOrders_197 (by decide) ?_
                    exact ih389 (i269 + 1) (by omega) (by omega) _ _ hT hF hS m481 ls (lv_sub hl [0, 3, 4, 5, 6, 7, 8] rfl)
              refine lv_if_eq (tgt := 76) hx hb dX5_tryOrders_69 (by decide) (fun c490 => ?_) (fun c490 => ?_)
              · have t491 : x400.toInt = 0 := ti_eq c490 rfl (by decide)
                refine lv_iload_n hx hb dX5_tryOrders_76 rfl (lv_at hl 3 rfl) ?_
                refine lv_lload_n hx hb dX5_tryOrders_77 rfl (lv_at hl 4 rfl) ?_
                refine lv_iload hx hb dX5_tryOrders_78 (lv_at hl 5 rfl) ?_
                refine lv_aload_n hx hb dX5_tryOrders_80 rfl (lv_at hl 1 rfl) ?_
                refine tw_get hx hb hts bF2_X5 hown hK hT hr_o0 shc_8 rfl 5 (by decide) (ht_at2 hts 3 rfl) (fun _ h9 => h9) dX5_tryOrders_81 (fun v9 m492 h9 => ?_)
                obtain ⟨b493, rfl, hg494⟩ := h9 _ rfl
                refine lv_iload hx hb dX5_tryOrders_84 (lv_at hl 0 rfl) ?_
                refine tw_iald (i := (nI i269)) hx hb hK hT hg494 shc_63 rfl (vp_in_nI (by omega) (by decide)) dX5_tryOrders_86 (fun v9 m495 h9 => ?_)
                obtain ⟨x496, rfl, gx496, kx496⟩ := h9
                have hFc := gA_free hG hA hS
                refine va_calli (va_runS (As := [.int yr, .long co, .int ic, .int x496]) (rest := []) ⟨hx, hb, hml, hown, hts⟩ (c_yearWithCost l dC dI kA adK adV G H nC nS yr co ic x496 hT (by omega) (by omega)) (va_cwS 4 hts (goodIn_app (goodIn_r _ [6, 7, 8] rfl (by decide +kernel)) (goodIn_ca (goodIn_r _ [5] rfl (by decide +kernel)) (bs2_in _ _))) rfl rfl rfl (by decide +kernel) ⟨(Nat.le_of_ble_eq_true rfl), (Nat.le_of_ble_eq_true rfl)⟩) ⟨fun a U g mk q => by obtain ⟨q0, q1, qK, qE⟩ := q; exact ⟨q0, q1, va_K.moved (u := U) (U := U.calling g mk a) (Vm.Alike.refl U.vm) qK, EVC.blind g mk a qE⟩, fun U hU hW => ⟨rfl, hU, va_K.moved hW.alike hK, hE.call hS hFc hU hW⟩⟩ rfl rfl hl.1 rfl (lv_room (Nat.le_of_ble_eq_true rfl)) dX5_tryOrders_87 ⟨(Nat.le_of_ble_eq_true rfl), (Nat.le_of_ble_eq_true rfl)⟩) hS (fun q _ h => hFc q h) hFc (fun r497 u t H locs ht hvm hw498 hB _ _ hS => ?_)
                obtain ⟨hT, hF1⟩ := hB
                rw [ht] at hT hF1
                have m499 := (hF1.fld hr_o0 skc_8 (k := 15) (by decide) (by decide)).trans m270
                have m500 := (hF1.fld hr_o0 skc_8 (k := 9) (by decide) (by decide)).trans m396
                have m501 := (el_kept (hF1.arr hg398 skc_67 (by decide))).trans m399
                have hF := hF.more hF1 (by decide)
                try dsimp only at hw498
                refine lv_aload_n hx hb dX5_tryOrders_90 rfl (lv_at hl 1 rfl) ?_
                refine tw_get hx hb hts bF2_X5 hown hK hT hr_o0 shc_8 rfl 6 (by decide) (ht_at2 hts 8 rfl) (fun _ h9 => h9) dX5_tryOrders_91 (fun v9 m504 h9 => ?_)
                obtain ⟨b505, rfl, hg506⟩ := h9 _ rfl
                refine lv_iload hx hb dX5_tryOrders_94 (lv_at hl 0 rfl) ?_
                refine tw_iald (i := (nI i269)) hx hb hK hT hg506 shc_64 rfl (vp_in_nI (by omega) (by decide)) dX5_tryOrders_96 (fun v9 m507 h9 => ?_)
                obtain ⟨x508, rfl, gx508, kx508⟩ := h9
                refine lv_iadd hx hb dX5_tryOrders_97 ?_
                refine lv_topi (fun x509 ex509 => ?_)
                exact jn423 x509 _ _ hT hF hS m499 m500 m501 ls (lv_sub hl [0, 1, 2, 3, 4, 5, 6] rfl)
              · have t510 : x400.toInt ≠ 0 := ti_ne c490 rfl (by decide)
                refine lv_iconst (v := (-1)) hx hb dX5_tryOrders_72 (by decide) ?_
                refine lv_goto (tgt := 98) hx hb dX5_tryOrders_73 (by decide) ?_
                exact jn423 (-1) _ _ hT hF hS m270 m396 m399 ls (lv_sub hl [0, 1, 2, 3, 4, 5, 6] rfl)
        exact key389 (7 - 0) 0 (by omega) (Nat.le_refl _) _ _ hT hF hS hm_jb ls (lv_sub hl [0, 1, 2, 3, 4, 5, 6] rfl)
      · have t511 : jb.toInt ≤ 1 := ti_nlt c267 (by decide) rfl
        refine lv_aload_n hx hb dX5_tryOrders_26 rfl (lv_at hl 0 rfl) ?_
        refine lv_iload hx hb dX5_tryOrders_27 (lv_at hl 5 rfl) ?_
        refine tw_put (v := .int la) (ty := .int) hx hb hts bF2_X5 tyX5 tyX5_ok nmX5 hown hK hT hG hS hr_o0 shc_8 rfl 16 (by decide) (ht_at2 hts 0 rfl) (fun _ h9 => h9) rfl (by decide +kernel) rfl rfl (gl_at rfl (gi_all _)) dX5_tryOrders_29 (fun H locs hT oq m512 oj hS => ?_)
        have hF := hF.put hr_o0 skc_8 oq oj (by decide)
        have m513 := (oj 15 (by decide) (by decide)).trans hm_jb
        refine lv_aload_n hx hb dX5_tryOrders_32 rfl (lv_at hl 0 rfl) ?_
        refine tw_get hx hb hts bF2_X5 hown hK hT hr_o0 shc_8 rfl 10 (by decide) (ht_at2 hts 9 rfl) (fun _ h9 => h9) dX5_tryOrders_33 (fun v9 m514 h9 => ?_)
        obtain ⟨b515, rfl, hg516⟩ := h9 _ rfl
        refine lv_iconst (v := 0) hx hb dX5_tryOrders_36 (by decide) ?_
        refine lv_aload_n hx hb dX5_tryOrders_37 rfl (lv_at hl 0 rfl) ?_
        refine tw_get hx hb hts bF2_X5 hown hK hT hr_o0 shc_8 rfl 11 (by decide) (ht_at2 hts 13 rfl) (fun _ h9 => h9) dX5_tryOrders_38 (fun v9 m517 h9 => ?_)
        obtain ⟨b518, rfl, hg519⟩ := h9 _ rfl
        refine lv_iconst (v := 0) hx hb dX5_tryOrders_41 (by decide) ?_
        refine lv_aload_n hx hb dX5_tryOrders_42 rfl (lv_at hl 0 rfl) ?_
        refine tw_getM (v := .int jb) hx hb hts bF2_X5 hown hK hT hr_o0 shc_8 rfl 15 (by decide) (ht_at2 hts 1 rfl) (fun _ h9 => h9) m513 dX5_tryOrders_43 ?_
        refine tw_copy (ty := .int) hx hb (hml.trans hl.1.symm) hown (ht_at2 hts 14 rfl) (ht_at2 hts 15 rfl) (ht_at2 hts 16 rfl) (ht_at2 hts 17 rfl) hK hT hG hS hg516 hg519 shc_68 shc_69 rfl rfl (by decide) (by decide) (fun h9 => by have q9 := ti_lt h9 rfl (show (0 : Int32).toInt = 0 from by decide); omega) (by have q9 := tn_of (show jb.toInt = jb.toInt from rfl) (by omega); have q8 : (0 : Int32).toNatClampNeg = 0 := (by decide); omega) (by have q9 := tn_of (show jb.toInt = jb.toInt from rfl) (by omega); have q8 : (0 : Int32).toNatClampNeg = 0 := (by decide); omega) (fun _ _ h9 => by obtain ⟨x9, e9, _⟩ := h9; exact ⟨x9, e9, rfl⟩) (fun _ _ _ h9 => by obtain ⟨x9, e9, a9, b9⟩ := h9; exact ⟨x9, e9, by omega, by omega⟩) (Nat.le_of_ble_eq_true rfl) (Nat.le_of_ble_eq_true rfl) dX5_tryOrders_46 (fun H locs hT oq hS => ?_)
        have hF := hF.ast hg519 skc_69 oq (by decide)
        exact W.vret hx hb hr (fun t ht hW => ⟨⟨(), rfl, (by exact trivial), by (try dsimp only); rw [ht]; exact ⟨hT, hF⟩⟩, hS.F ht⟩) hS.2.2 dX5_tryOrders_49
    · have t524 : x2.toInt ≤ la.toInt := ti_nlt c265 rfl rfl
      exact W.vret hx hb hr (fun t ht hW => ⟨⟨(), rfl, (by exact trivial), by (try dsimp only); rw [ht]; exact ⟨hT, hF⟩⟩, hS.F ht⟩) hS.2.2 dX5_tryOrders_17
def w_c_tryOrders0 : List Cond := .code yX5_tryOrders cX5_tryOrders 11 none :: (HAppend.hAppend (α := List Cond) (β := List Cond) (γ := List Cond) [.fieldLink RX5 157 "SeaLand$Plans" "bestLate" "I", .fieldLink RX5 154 "SeaLand$Plans" "jobs" "I", .fieldLink RX5 41 "SeaLand$Plans" "placed" "[Z", .fieldLink RX5 29 "SeaLand$Plans" "costs" "[I", .code yX5_yearWithCost cX5_yearWithCost 5 (some .int), .methodLink RX5 164 yX5_yearWithCost, .static yX5_yearWithCost, .initialized RX5, .fieldLink RX5 32 "SeaLand$Plans" "lasts" "[I", .fieldLink RX5 45 "SeaLand$Plans" "trial" "[I", .fieldLink RX5 35 "SeaLand$Plans" "incomes" "[I", .fieldLink RX5 38 "SeaLand$Plans" "acres" "[I", .code yX5_tryOrders cX5_tryOrders 11 none, .fieldLink RX5 48 "SeaLand$Plans" "best" "[I", .methodLink RX5 100 arraycopyName, .native arraycopyName, .static arraycopyName, .initialized "java/lang/System", .methodLink RX5 160 yX5_tryOrders, .instanceMethod yX5_tryOrders, .selects RX5 yX5_tryOrders yX5_tryOrders] bs2)
set_option maxHeartbeats 4000000 in
set_option maxRecDepth 100000 in
theorem c_tryOrders0 (l : Launch) (dC : Nat → ClassId) (dI : Nat → Nat → Nat) (kA : Nat → ClassId) (adK adV : Nat → Nat) (G : gT) (H0 : Heap) (nC nS : Int) (o0 : Nat) (yr : Int32) (co : Int64) (ic : Int32) (la : Int32) (jb : Int32)  (hT : gH (dC, dI) kA (SHc nC nS) G H0) (hr_o0 : G o0 = some 8) (hm_jb : el H0 o0 (dI 8 15) = some (.int jb)) (hq0 : 0 ≤ jb.toInt ∧ jb.toInt ≤ 7) (hgC : 0 ≤ nC ∧ nC ≤ 40) (hgS : 0 ≤ nS ∧ nS ≤ 60) : Met l yX5_tryOrders w_c_tryOrders0 ({ frames := 9, cells := 0, slots := 0, locals := 270 }) (va_Pc [.ref o0, .int 0, .int yr, .long co, .int ic, .int la] (fun U => U.heap = H0 ∧ va_K (dC, dI) vwCl (tyl kA) U ∧ EVC adK adV (gA G H0.size) U U.heap)) (va_Qv (fun (u : Unit) => True) (fun (_ : Unit) (t : State) => gH (dC, dI) kA (SHc nC nS) G t.heap ∧ gF (dC, dI) SKc G ([(8, 16), (67, 0), (68, 0), (69, 0)] : List (Nat × Nat)) H0 t.heap) (gA G H0.size)) 0 0 (gA G H0.size) := by
  refine Met.ofW (cc := cX5_tryOrders) (maxL := 11) (ret := none) (by decide) rfl ?_
  intro p e s m args below meth c s₁ B hml hv
  obtain ⟨rfl, hH0, hK, hE⟩ := hv
  have hx := B.exec
  have hb := B.bytes
  have hr := B.returns
  have hts := atoms_spec (ws := w_c_tryOrders0) B.pre
  have hown : s.vm.findClass RX5 = some m.cls := findClass_of_methodNamed B.named
  have hlocks := B.notSynchronized
  subst hH0
  generalize hAe : gA G s.heap.size = A at hE ⊢
  have hA : ∀ q : Nat, s.heap.size ≤ q → A q := fun q h => by rw [← hAe]; exact Or.inr h
  have hG := gA_of hAe
  have hS : va_S A s.heap s.heap [] := va_S.rf
  have hF : gF (dC, dI) SKc G ([(8, 16), (67, 0), (68, 0), (69, 0)] : List (Nat × Nat)) s.heap s.heap := gF.rf
  have hl := lv_entry ([.ref o0, .int 0, .int yr, .long co, .int ic, .int la]) (n := 11) (Nat.le_of_ble_eq_true rfl)
  rw [lg_entry_eq]
  generalize (lg_sl ([.ref o0, .int 0, .int yr, .long co, .int ic, .int la]) ++ List.replicate (11 - (lg_sl ([.ref o0, .int 0, .int yr, .long co, .int ic, .int la])).length) Slot.unset).toArray = ls at hl ⊢
  have hl : lv_has ls 11 [(0, .ref o0), (1, .int 0), (2, .int yr), (3, .long co), (5, .int ic), (6, .int la)] := hl
  refine lv_aload_n hx hb dX5_tryOrders_0 rfl (lv_at hl 0 rfl) ?_
  refine tw_get hx hb hts bF2_X5 hown hK hT hr_o0 shc_8 rfl 16 (by decide) (ht_at2 hts 0 rfl) (fun _ h9 => h9) dX5_tryOrders_1 (fun v9 m1 h9 => ?_)
  obtain ⟨x2, rfl, gx2, kx2⟩ := h9 _ rfl
  refine lv_iconst (v := (-1)) hx hb dX5_tryOrders_4 (by decide) ?_
  have t3 : -2147483648 ≤ x2.toInt ∧ x2.toInt ≤ 2147483647 := ti_all x2
  refine lv_icmp_eq (tgt := 18) hx hb dX5_tryOrders_5 (by decide) (fun c4 => ?_) (fun c4 => ?_)
  · have t5 : x2.toInt = (-1) := ti_eq c4 rfl (by decide)
    refine lv_iload_n hx hb dX5_tryOrders_18 rfl (lv_at hl 1 rfl) ?_
    refine lv_aload_n hx hb dX5_tryOrders_19 rfl (lv_at hl 0 rfl) ?_
    refine tw_getM (v := .int jb) hx hb hts bF2_X5 hown hK hT hr_o0 shc_8 rfl 15 (by decide) (ht_at2 hts 1 rfl) (fun _ h9 => h9) hm_jb dX5_tryOrders_20 ?_
    refine lv_icmp_lt (tgt := 50) hx hb dX5_tryOrders_23 (by decide) (fun c6 => ?_) (fun c6 => ?_)
    · have t7 : 0 < jb.toInt := ti_lt c6 (by decide) rfl
      refine lv_iconst (v := 0) hx hb dX5_tryOrders_50 (by decide) ?_
      refine lv_istore (lv' := [(7, .int 0), (0, .ref o0), (1, .int 0), (2, .int yr), (3, .long co), (5, .int ic), (6, .int la)]) hx hb dX5_tryOrders_51 hl (by decide) rfl (fun ls hl => ?_)
      have key128 : ∀ (n128 i8 : Nat), i8 + n128 = 7 → 0 ≤ i8 → ∀ (H : Heap) (locs : List Loc), gH (dC, dI) kA (SHc nC nS) G H → gF (dC, dI) SKc G ([(8, 16), (67, 0), (68, 0), (69, 0)] : List (Nat × Nat)) s.heap H → va_S A s.heap H locs → el H o0 (dI 8 15) = some (.int jb) → ∀ ls : Array Slot, lv_has ls 11 [(7, .int (nI i8)), (0, .ref o0), (1, .int 0), (2, .int yr), (3, .long co), (5, .int ic), (6, .int la)] → W p l e (headSpec w_c_tryOrders0 ({ frames := 9, cells := 0, slots := 0, locals := 270 })).room s m #[.ref o0, .int 0, .int yr, .long co, .int ic, .int la] below meth c H locs 0 0 (MQ below (va_Qv (fun (u : Unit) => True) (fun (_ : Unit) (t : State) => gH (dC, dI) kA (SHc nC nS) G t.heap ∧ gF (dC, dI) SKc G ([(8, 16), (67, 0), (68, 0), (69, 0)] : List (Nat × Nat)) s.heap t.heap) A) #[.ref o0, .int 0, .int yr, .long co, .int ic, .int la] s 0 0 A) (F0 m 53 ls []) := by
        intro n128
        induction n128 with
        | zero =>
          intro i8 hn128 hlo129  H locs hT hF hS m9 ls hl
          obtain rfl : 7 = i8 := by omega
          refine lv_iload hx hb dX5_tryOrders_53 (lv_at hl 0 rfl) ?_
          refine lv_aload_n hx hb dX5_tryOrders_55 rfl (lv_at hl 1 rfl) ?_
          refine tw_getM (v := .int jb) hx hb hts bF2_X5 hown hK hT hr_o0 shc_8 rfl 15 (by decide) (ht_at2 hts 1 rfl) (fun _ h9 => h9) m9 dX5_tryOrders_56 ?_
          refine lv_icmp_ge (tgt := 200) hx hb dX5_tryOrders_59 (by decide) (fun c130 => ?_) (fun c130 => (by exfalso; have q9 : ((7 : Nat) : Int) < jb.toInt := ti_nle c130 rfl (nI_toInt (by omega)); omega))
          have t131 : jb.toInt ≤ ((7 : Nat) : Int) := ti_le c130 rfl (nI_toInt (by omega))
          exact W.vret hx hb hr (fun t ht hW => ⟨⟨(), rfl, (by exact trivial), by (try dsimp only); rw [ht]; exact ⟨hT, hF⟩⟩, hS.F ht⟩) hS.2.2 dX5_tryOrders_200
        | succ n128 ih128 =>
          intro i8 hn128 hlo129  H locs hT hF hS m9 ls hl
          have hlt131 : i8 < 7 := by omega
          refine lv_iload hx hb dX5_tryOrders_53 (lv_at hl 0 rfl) ?_
          refine lv_aload_n hx hb dX5_tryOrders_55 rfl (lv_at hl 1 rfl) ?_
          refine tw_getM (v := .int jb) hx hb hts bF2_X5 hown hK hT hr_o0 shc_8 rfl 15 (by decide) (ht_at2 hts 1 rfl) (fun _ h9 => h9) m9 dX5_tryOrders_56 ?_
          refine lv_icmp_ge (tgt := 200) hx hb dX5_tryOrders_59 (by decide) (fun c132 => ?_) (fun c132 => ?_)
          · have t133 : jb.toInt ≤ ((i8 : Nat) : Int) := ti_le c132 rfl (nI_toInt (by omega))
            exact W.vret hx hb hr (fun t ht hW => ⟨⟨(), rfl, (by exact trivial), by (try dsimp only); rw [ht]; exact ⟨hT, hF⟩⟩, hS.F ht⟩) hS.2.2 dX5_tryOrders_200
          · have t134 : ((i8 : Nat) : Int) < jb.toInt := ti_nle c132 rfl (nI_toInt (by omega))
            refine lv_aload_n hx hb dX5_tryOrders_62 rfl (lv_at hl 1 rfl) ?_
            refine tw_get hx hb hts bF2_X5 hown hK hT hr_o0 shc_8 rfl 9 (by decide) (ht_at2 hts 2 rfl) (fun _ h9 => h9) dX5_tryOrders_63 (fun v9 m135 h9 => ?_)
            obtain ⟨b136, rfl, hg137⟩ := h9 _ rfl
            refine lv_iload hx hb dX5_tryOrders_66 (lv_at hl 0 rfl) ?_
            refine tw_zald (i := (nI i8)) hx hb hK hT hg137 shc_67 rfl (vp_in_nI (by omega) (by decide)) dX5_tryOrders_68 (fun v9 m138 h9 => ?_)
            obtain ⟨x139, rfl, gx139, kx139⟩ := h9
            have jn162 : ∀ (z158 : Int32), ∀ (H : Heap) (locs : List Loc), gH (dC, dI) kA (SHc nC nS) G H → gF (dC, dI) SKc G ([(8, 16), (67, 0), (68, 0), (69, 0)] : List (Nat × Nat)) s.heap H → va_S A s.heap H locs → el H o0 (dI 8 15) = some (.int jb) → el H o0 (dI 8 9) = some (.ref b136) → el H b136 (nI i8).toNatClampNeg = some (.int x139) → ∀ ls : Array Slot, lv_has ls 11 [(7, .int (nI i8)), (0, .ref o0), (1, .int 0), (2, .int yr), (3, .long co), (5, .int ic), (6, .int la)] → W p l e (headSpec w_c_tryOrders0 ({ frames := 9, cells := 0, slots := 0, locals := 270 })).room s m #[.ref o0, .int 0, .int yr, .long co, .int ic, .int la] below meth c H locs 0 0 (MQ below (va_Qv (fun (u : Unit) => True) (fun (_ : Unit) (t : State) => gH (dC, dI) kA (SHc nC nS) G t.heap ∧ gF (dC, dI) SKc G ([(8, 16), (67, 0), (68, 0), (69, 0)] : List (Nat × Nat)) s.heap t.heap) A) #[.ref o0, .int 0, .int yr, .long co, .int ic, .int la] s 0 0 A) (F0 m 98 ls [.int z158]) := by
              intro z158 H locs hT hF hS m159 m160 m161 ls hl
              refine lv_istore (lv' := [(8, .int z158), (7, .int (nI i8)), (0, .ref o0), (1, .int 0), (2, .int yr), (3, .long co), (5, .int ic), (6, .int la)]) hx hb dX5_tryOrders_98 hl (by decide) rfl (fun ls hl => ?_)
              refine lv_iload hx hb dX5_tryOrders_100 (lv_at hl 0 rfl) ?_
              refine lv_iconst (v := (-1)) hx hb dX5_tryOrders_102 (by decide) ?_
              have t163 : -2147483648 ≤ z158.toInt ∧ z158.toInt ≤ 2147483647 := ti_all z158
              refine lv_icmp_eq (tgt := 194) hx hb dX5_tryOrders_103 (by decide) (fun c164 => ?_) (fun c164 => ?_)
              · have t165 : z158.toInt = (-1) := ti_eq c164 rfl (by decide)
                refine lv_iinc (v := nI (i8 + 1)) (lv' := [(7, .int (nI (i8 + 1))), (8, .int z158), (0, .ref o0), (1, .int 0), (2, .int yr), (3, .long co), (5, .int ic), (6, .int la)]) hx hb dX5_tryOrders_194 hl (k := 1) rfl (nI_add i8 1) (by decide) rfl (fun ls hl => ?_)
                refine lv_goto (tgt := 53) hx hb dX5_tryOrders_197 (by decide) ?_
                exact ih128 (i8 + 1) (by omega) (by omega) _ _ hT hF hS m159 ls (lv_sub hl [0, 2, 3, 4, 5, 6, 7] rfl)
              · have t166 : z158.toInt ≠ (-1) := ti_ne c164 rfl (by decide)
                refine lv_iload hx hb dX5_tryOrders_106 (lv_at hl 0 rfl) ?_
                refine lv_sipush (v := 200) hx hb dX5_tryOrders_108 (by decide) ?_
                refine lv_icmp_gt (tgt := 194) hx hb dX5_tryOrders_111 (by decide) (fun c167 => ?_) (fun c167 => ?_)
                · have t168 : 200 < z158.toInt := ti_lt c167 (by decide) rfl
                  refine lv_iinc (v := nI (i8 + 1)) (lv' := [(7, .int (nI (i8 + 1))), (8, .int z158), (0, .ref o0), (1, .int 0), (2, .int yr), (3, .long co), (5, .int ic), (6, .int la)]) hx hb dX5_tryOrders_194 hl (k := 1) rfl (nI_add i8 1) (by decide) rfl (fun ls hl => ?_)
                  refine lv_goto (tgt := 53) hx hb dX5_tryOrders_197 (by decide) ?_
                  exact ih128 (i8 + 1) (by omega) (by omega) _ _ hT hF hS m159 ls (lv_sub hl [0, 2, 3, 4, 5, 6, 7] rfl)
                · have t169 : z158.toInt ≤ 200 := ti_nlt c167 (by decide) rfl
                  refine lv_lload_n hx hb dX5_tryOrders_114 rfl (lv_at hl 5 rfl) ?_
                  refine lv_iload hx hb dX5_tryOrders_115 (lv_at hl 6 rfl) ?_
                  refine lv_i2l (v := ic.toInt64) hx hb dX5_tryOrders_117 rfl ?_
                  refine lv_iload hx hb dX5_tryOrders_118 (lv_at hl 0 rfl) ?_
                  refine lv_iload_n hx hb dX5_tryOrders_120 rfl (lv_at hl 4 rfl) ?_
                  refine lv_isub hx hb dX5_tryOrders_121 ?_
                  refine lv_topi (fun x170 ex170 => ?_)
                  refine lv_i2l (v := x170.toInt64) hx hb dX5_tryOrders_122 rfl ?_
                  refine lv_lmul hx hb dX5_tryOrders_123 ?_
                  refine lv_topl (fun y171 _ => ?_)
                  refine lv_ladd hx hb dX5_tryOrders_124 ?_
                  refine lv_topl (fun y172 _ => ?_)
                  refine lv_aload_n hx hb dX5_tryOrders_125 rfl (lv_at hl 2 rfl) ?_
                  refine tw_get hx hb hts bF2_X5 hown hK hT hr_o0 shc_8 rfl 5 (by decide) (ht_at2 hts 3 rfl) (fun _ h9 => h9) dX5_tryOrders_126 (fun v9 m173 h9 => ?_)
                  obtain ⟨b174, rfl, hg175⟩ := h9 _ rfl
                  refine lv_iload hx hb dX5_tryOrders_129 (lv_at hl 1 rfl) ?_
                  refine tw_iald (i := (nI i8)) hx hb hK hT hg175 shc_63 rfl (vp_in_nI (by omega) (by decide)) dX5_tryOrders_131 (fun v9 m176 h9 => ?_)
                  obtain ⟨x177, rfl, gx177, kx177⟩ := h9
                  refine lv_i2l (v := x177.toInt64) hx hb dX5_tryOrders_132 rfl ?_
                  refine lv_lsub hx hb dX5_tryOrders_133 ?_
                  refine lv_topl (fun y178 _ => ?_)
                  refine lv_lstore (lv' := [(9, .long y178), (8, .int z158), (7, .int (nI i8)), (0, .ref o0), (1, .int 0), (2, .int yr), (3, .long co), (5, .int ic), (6, .int la)]) hx hb dX5_tryOrders_134 hl (by decide) rfl (fun ls hl => ?_)
                  refine lv_aload_n hx hb dX5_tryOrders_136 rfl (lv_at hl 3 rfl) ?_
                  refine tw_getM (v := .ref b136) hx hb hts bF2_X5 hown hK hT hr_o0 shc_8 rfl 9 (by decide) (ht_at2 hts 2 rfl) (fun _ h9 => h9) m160 dX5_tryOrders_137 ?_
                  refine lv_iload hx hb dX5_tryOrders_140 (lv_at hl 2 rfl) ?_
                  refine lv_iconst (v := 1) hx hb dX5_tryOrders_142 (by decide) ?_
                  refine tw_zast (i := (nI i8)) (x := 1) hx hb hK hT hG hS hg137 shc_67 rfl (vp_in_nI (by omega) (by decide)) (gi_z (rg_t (a := 1) (by decide) (by first | decide | omega) (by first | decide | omega)) (by decide) (by decide)) dX5_tryOrders_143 (fun H locs hT oq m179 oi hS => ?_)
                  have hF := hF.ast hg137 skc_67 oq (by decide)
                  have m180 := (el_kept (oq _ (gne hr_o0 hg137 (by decide)))).trans m159
                  have m181 := (el_kept (oq _ (gne hr_o0 hg137 (by decide)))).trans m160
                  refine lv_aload_n hx hb dX5_tryOrders_144 rfl (lv_at hl 3 rfl) ?_
                  refine tw_get hx hb hts bF2_X5 hown hK hT hr_o0 shc_8 rfl 10 (by decide) (ht_at2 hts 9 rfl) (fun _ h9 => h9) dX5_tryOrders_145 (fun v9 m184 h9 => ?_)
                  obtain ⟨b185, rfl, hg186⟩ := h9 _ rfl
                  refine lv_iload_n hx hb dX5_tryOrders_148 rfl (lv_at hl 4 rfl) ?_
                  refine lv_iload hx hb dX5_tryOrders_149 (lv_at hl 2 rfl) ?_
                  refine tw_iast (i := 0) (x := (nI i8)) hx hb hK hT hG hS hg186 shc_68 rfl (by unfold vp_in; decide) (gi_of (show (nI i8).toInt = ((i8 : Nat) : Int) from (nI_toInt (by omega))) (by omega) (by omega)) dX5_tryOrders_151 (fun H locs hT oq m187 oi hS => ?_)
                  have hF := hF.ast hg186 skc_68 oq (by decide)
                  have m188 := (el_kept (oq _ (gne hr_o0 hg186 (by decide)))).trans m180
                  have m189 := (el_kept (oq _ (gne hr_o0 hg186 (by decide)))).trans m181
                  refine lv_aload_n hx hb dX5_tryOrders_152 rfl (lv_at hl 3 rfl) ?_
                  refine lv_iload_n hx hb dX5_tryOrders_153 rfl (lv_at hl 4 rfl) ?_
                  refine lv_iconst (v := 1) hx hb dX5_tryOrders_154 (by decide) ?_
                  refine lv_iadd hx hb dX5_tryOrders_155 ?_
                  refine lv_topi (fun x193 ex193 => ?_)
                  obtain rfl : x193 = 1 := ex193.trans (by decide)
                  refine lv_iload hx hb dX5_tryOrders_156 (lv_at hl 1 rfl) ?_
                  refine lv_lload hx hb dX5_tryOrders_158 (lv_at hl 0 rfl) ?_
                  refine lv_iload hx hb dX5_tryOrders_160 (lv_at hl 7 rfl) ?_
                  refine lv_aload_n hx hb dX5_tryOrders_162 rfl (lv_at hl 3 rfl) ?_
                  refine tw_get hx hb hts bF2_X5 hown hK hT hr_o0 shc_8 rfl 7 (by decide) (ht_at2 hts 10 rfl) (fun _ h9 => h9) dX5_tryOrders_163 (fun v9 m194 h9 => ?_)
                  obtain ⟨b195, rfl, hg196⟩ := h9 _ rfl
                  refine lv_iload hx hb dX5_tryOrders_166 (lv_at hl 2 rfl) ?_
                  refine tw_iald (i := (nI i8)) hx hb hK hT hg196 shc_65 rfl (vp_in_nI (by omega) (by decide)) dX5_tryOrders_168 (fun v9 m197 h9 => ?_)
                  obtain ⟨x198, rfl, gx198, kx198⟩ := h9
                  refine lv_iadd hx hb dX5_tryOrders_169 ?_
                  refine lv_topi (fun x199 ex199 => ?_)
                  refine lv_iload hx hb dX5_tryOrders_170 (lv_at hl 8 rfl) ?_
                  refine lv_aload_n hx hb dX5_tryOrders_172 rfl (lv_at hl 3 rfl) ?_
                  refine tw_get hx hb hts bF2_X5 hown hK hT hr_o0 shc_8 rfl 8 (by decide) (ht_at2 hts 11 rfl) (fun _ h9 => h9) dX5_tryOrders_173 (fun v9 m200 h9 => ?_)
                  obtain ⟨b201, rfl, hg202⟩ := h9 _ rfl
                  refine lv_iload hx hb dX5_tryOrders_176 (lv_at hl 2 rfl) ?_
                  refine tw_iald (i := (nI i8)) hx hb hK hT hg202 shc_66 rfl (vp_in_nI (by omega) (by decide)) dX5_tryOrders_178 (fun v9 m203 h9 => ?_)
                  obtain ⟨x204, rfl, gx204, kx204⟩ := h9
                  refine lv_iload hx hb dX5_tryOrders_179 (lv_at hl 1 rfl) ?_
                  refine lv_imul hx hb dX5_tryOrders_181 ?_
                  refine lv_topi (fun x205 ex205 => ?_)
                  refine lv_iadd hx hb dX5_tryOrders_182 ?_
                  refine lv_topi (fun x206 ex206 => ?_)
                  have hFc := gA_free hG hA hS
                  refine va_callv (va_runV (As := [.int 1, .int z158, .long y178, .int x199, .int x206]) (rest := []) ⟨hx, hb, hml, hown, hts⟩ (c_tryOrders1 l dC dI kA adK adV G H nC nS o0 z158 y178 x199 x206 jb hT hr_o0 m188 (by have q8 := ti_all jb; omega) (by omega) (by omega)) (cwV 5 hts (goodIn_app (goodIn_r _ [19, 20, 21, 8] rfl (by decide +kernel)) (goodIn_ca (goodIn_r _ [13, 1, 2, 3, 4, 5, 6, 7, 8, 9, 10, 11, 12, 13, 14, 15, 16, 17, 18, 19, 20, 21] rfl (by decide +kernel)) (bs2_in _ _))) rfl rfl rfl (by decide +kernel) ⟨(Nat.le_of_ble_eq_true rfl), (Nat.le_of_ble_eq_true rfl)⟩) ⟨fun a U g mk q => by obtain ⟨q0, q1, qK, qE⟩ := q; exact ⟨q0, q1, va_K.moved (u := U) (U := U.calling g mk a) (Vm.Alike.refl U.vm) qK, EVC.blind g mk a qE⟩, gH_rc hK hT hr_o0 shc_8 rfl, fun U hU hW => ⟨rfl, hU, va_K.moved hW.alike hK, hE.call hS hFc hU hW⟩⟩ rfl rfl hl.1 rfl (lv_room (Nat.le_of_ble_eq_true rfl)) dX5_tryOrders_183 ⟨(Nat.le_of_ble_eq_true rfl), (Nat.le_of_ble_eq_true rfl)⟩) hS (fun q _ h => hFc q h) hFc (fun u t H locs ht hvm hw208 hB _ _ hS => ?_)
                  obtain ⟨hT, hF1⟩ := hB
                  rw [ht] at hT hF1
                  have m209 := (hF1.fld hr_o0 skc_8 (k := 15) (by decide) (by decide)).trans m188
                  have m210 := (hF1.fld hr_o0 skc_8 (k := 9) (by decide) (by decide)).trans m189
                  have hF := hF.more hF1 (by decide)
                  try dsimp only at hw208
                  refine lv_aload_n hx hb dX5_tryOrders_186 rfl (lv_at hl 3 rfl) ?_
                  refine tw_getM (v := .ref b136) hx hb hts bF2_X5 hown hK hT hr_o0 shc_8 rfl 9 (by decide) (ht_at2 hts 2 rfl) (fun _ h9 => h9) m210 dX5_tryOrders_187 ?_
                  refine lv_iload hx hb dX5_tryOrders_190 (lv_at hl 2 rfl) ?_
                  refine lv_iconst (v := 0) hx hb dX5_tryOrders_192 (by decide) ?_
                  refine tw_zast (i := (nI i8)) (x := 0) hx hb hK hT hG hS hg137 shc_67 rfl (vp_in_nI (by omega) (by decide)) (gi_z (rg_t (a := 0) (by decide) (by first | decide | omega) (by first | decide | omega)) (by decide) (by decide)) dX5_tryOrders_193 (fun H locs hT oq m219 oi hS => ?_)
                  have hF := hF.ast hg137 skc_67 oq (by decide)
                  have m220 := (el_kept (oq _ (gne hr_o0 hg137 (by decide)))).trans m209
                  refine lv_iinc (v := nI (i8 + 1)) (lv' := [(7, .int (nI (i8 + 1))), (9, .long y178), (8, .int z158), (0, .ref o0), (1, .int 0), (2, .int yr), (3, .long co), (5, .int ic), (6, .int la)]) hx hb dX5_tryOrders_194 hl (k := 2) rfl (nI_add i8 1) (by decide) rfl (fun ls hl => ?_)
                  refine lv_goto (tgt := 53) hx hb dX5_tryOrders_197 (by decide) ?_
                  exact ih128 (i8 + 1) (by omega) (by omega) _ _ hT hF hS m220 ls (lv_sub hl [0, 3, 4, 5, 6, 7, 8] rfl)
            refine lv_if_eq (tgt := 76) hx hb dX5_tryOrders_69 (by decide) (fun c229 => ?_) (fun c229 => ?_)
            · have t230 : x139.toInt = 0 := ti_eq c229 rfl (by decide)
              refine lv_iload_n hx hb dX5_tryOrders_76 rfl (lv_at hl 3 rfl) ?_
              refine lv_lload_n hx hb dX5_tryOrders_77 rfl (lv_at hl 4 rfl) ?_
              refine lv_iload hx hb dX5_tryOrders_78 (lv_at hl 5 rfl) ?_
              refine lv_aload_n hx hb dX5_tryOrders_80 rfl (lv_at hl 1 rfl) ?_
              refine tw_get hx hb hts bF2_X5 hown hK hT hr_o0 shc_8 rfl 5 (by decide) (ht_at2 hts 3 rfl) (fun _ h9 => h9) dX5_tryOrders_81 (fun v9 m231 h9 => ?_)
              obtain ⟨b232, rfl, hg233⟩ := h9 _ rfl
              refine lv_iload hx hb dX5_tryOrders_84 (lv_at hl 0 rfl) ?_
              refine tw_iald (i := (nI i8)) hx hb hK hT hg233 shc_63 rfl (vp_in_nI (by omega) (by decide)) dX5_tryOrders_86 (fun v9 m234 h9 => ?_)
              obtain ⟨x235, rfl, gx235, kx235⟩ := h9
              have hFc := gA_free hG hA hS
              refine va_calli (va_runS (As := [.int yr, .long co, .int ic, .int x235]) (rest := []) ⟨hx, hb, hml, hown, hts⟩ (c_yearWithCost l dC dI kA adK adV G H nC nS yr co ic x235 hT (by omega) (by omega)) (va_cwS 4 hts (goodIn_app (goodIn_r _ [6, 7, 8] rfl (by decide +kernel)) (goodIn_ca (goodIn_r _ [5] rfl (by decide +kernel)) (bs2_in _ _))) rfl rfl rfl (by decide +kernel) ⟨(Nat.le_of_ble_eq_true rfl), (Nat.le_of_ble_eq_true rfl)⟩) ⟨fun a U g mk q => by obtain ⟨q0, q1, qK, qE⟩ := q; exact ⟨q0, q1, va_K.moved (u := U) (U := U.calling g mk a) (Vm.Alike.refl U.vm) qK, EVC.blind g mk a qE⟩, fun U hU hW => ⟨rfl, hU, va_K.moved hW.alike hK, hE.call hS hFc hU hW⟩⟩ rfl rfl hl.1 rfl (lv_room (Nat.le_of_ble_eq_true rfl)) dX5_tryOrders_87 ⟨(Nat.le_of_ble_eq_true rfl), (Nat.le_of_ble_eq_true rfl)⟩) hS (fun q _ h => hFc q h) hFc (fun r236 u t H locs ht hvm hw237 hB _ _ hS => ?_)
              obtain ⟨hT, hF1⟩ := hB
              rw [ht] at hT hF1
              have m238 := (hF1.fld hr_o0 skc_8 (k := 15) (by decide) (by decide)).trans m9
              have m239 := (hF1.fld hr_o0 skc_8 (k := 9) (by decide) (by decide)).trans m135
              have m240 := (el_kept (hF1.arr hg137 skc_67 (by decide))).trans m138
              have hF := hF.more hF1 (by decide)
              try dsimp only at hw237
              refine lv_aload_n hx hb dX5_tryOrders_90 rfl (lv_at hl 1 rfl) ?_
              refine tw_get hx hb hts bF2_X5 hown hK hT hr_o0 shc_8 rfl 6 (by decide) (ht_at2 hts 8 rfl) (fun _ h9 => h9) dX5_tryOrders_91 (fun v9 m243 h9 => ?_)
              obtain ⟨b244, rfl, hg245⟩ := h9 _ rfl
              refine lv_iload hx hb dX5_tryOrders_94 (lv_at hl 0 rfl) ?_
              refine tw_iald (i := (nI i8)) hx hb hK hT hg245 shc_64 rfl (vp_in_nI (by omega) (by decide)) dX5_tryOrders_96 (fun v9 m246 h9 => ?_)
              obtain ⟨x247, rfl, gx247, kx247⟩ := h9
              refine lv_iadd hx hb dX5_tryOrders_97 ?_
              refine lv_topi (fun x248 ex248 => ?_)
              exact jn162 x248 _ _ hT hF hS m238 m239 m240 ls (lv_sub hl [0, 1, 2, 3, 4, 5, 6] rfl)
            · have t249 : x139.toInt ≠ 0 := ti_ne c229 rfl (by decide)
              refine lv_iconst (v := (-1)) hx hb dX5_tryOrders_72 (by decide) ?_
              refine lv_goto (tgt := 98) hx hb dX5_tryOrders_73 (by decide) ?_
              exact jn162 (-1) _ _ hT hF hS m9 m135 m138 ls (lv_sub hl [0, 1, 2, 3, 4, 5, 6] rfl)
      exact key128 (7 - 0) 0 (by omega) (Nat.le_refl _) _ _ hT hF hS hm_jb ls (lv_sub hl [0, 1, 2, 3, 4, 5, 6] rfl)
    · have t250 : jb.toInt ≤ 0 := ti_nlt c6 (by decide) rfl
      refine lv_aload_n hx hb dX5_tryOrders_26 rfl (lv_at hl 0 rfl) ?_
      refine lv_iload hx hb dX5_tryOrders_27 (lv_at hl 5 rfl) ?_
      refine tw_put (v := .int la) (ty := .int) hx hb hts bF2_X5 tyX5 tyX5_ok nmX5 hown hK hT hG hS hr_o0 shc_8 rfl 16 (by decide) (ht_at2 hts 0 rfl) (fun _ h9 => h9) rfl (by decide +kernel) rfl rfl (gl_at rfl (gi_all _)) dX5_tryOrders_29 (fun H locs hT oq m251 oj hS => ?_)
      have hF := hF.put hr_o0 skc_8 oq oj (by decide)
      have m252 := (oj 15 (by decide) (by decide)).trans hm_jb
      refine lv_aload_n hx hb dX5_tryOrders_32 rfl (lv_at hl 0 rfl) ?_
      refine tw_get hx hb hts bF2_X5 hown hK hT hr_o0 shc_8 rfl 10 (by decide) (ht_at2 hts 9 rfl) (fun _ h9 => h9) dX5_tryOrders_33 (fun v9 m253 h9 => ?_)
      obtain ⟨b254, rfl, hg255⟩ := h9 _ rfl
      refine lv_iconst (v := 0) hx hb dX5_tryOrders_36 (by decide) ?_
      refine lv_aload_n hx hb dX5_tryOrders_37 rfl (lv_at hl 0 rfl) ?_
      refine tw_get hx hb hts bF2_X5 hown hK hT hr_o0 shc_8 rfl 11 (by decide) (ht_at2 hts 13 rfl) (fun _ h9 => h9) dX5_tryOrders_38 (fun v9 m256 h9 => ?_)
      obtain ⟨b257, rfl, hg258⟩ := h9 _ rfl
      refine lv_iconst (v := 0) hx hb dX5_tryOrders_41 (by decide) ?_
      refine lv_aload_n hx hb dX5_tryOrders_42 rfl (lv_at hl 0 rfl) ?_
      refine tw_getM (v := .int jb) hx hb hts bF2_X5 hown hK hT hr_o0 shc_8 rfl 15 (by decide) (ht_at2 hts 1 rfl) (fun _ h9 => h9) m252 dX5_tryOrders_43 ?_
      refine tw_copy (ty := .int) hx hb (hml.trans hl.1.symm) hown (ht_at2 hts 14 rfl) (ht_at2 hts 15 rfl) (ht_at2 hts 16 rfl) (ht_at2 hts 17 rfl) hK hT hG hS hg255 hg258 shc_68 shc_69 rfl rfl (by decide) (by decide) (fun h9 => by have q9 := ti_lt h9 rfl (show (0 : Int32).toInt = 0 from by decide); omega) (by have q9 := tn_of (show jb.toInt = jb.toInt from rfl) (by omega); have q8 : (0 : Int32).toNatClampNeg = 0 := (by decide); omega) (by have q9 := tn_of (show jb.toInt = jb.toInt from rfl) (by omega); have q8 : (0 : Int32).toNatClampNeg = 0 := (by decide); omega) (fun _ _ h9 => by obtain ⟨x9, e9, _⟩ := h9; exact ⟨x9, e9, rfl⟩) (fun _ _ _ h9 => by obtain ⟨x9, e9, a9, b9⟩ := h9; exact ⟨x9, e9, by omega, by omega⟩) (Nat.le_of_ble_eq_true rfl) (Nat.le_of_ble_eq_true rfl) dX5_tryOrders_46 (fun H locs hT oq hS => ?_)
      have hF := hF.ast hg258 skc_69 oq (by decide)
      exact W.vret hx hb hr (fun t ht hW => ⟨⟨(), rfl, (by exact trivial), by (try dsimp only); rw [ht]; exact ⟨hT, hF⟩⟩, hS.F ht⟩) hS.2.2 dX5_tryOrders_49
  · have t263 : x2.toInt ≠ (-1) := ti_ne c4 rfl (by decide)
    refine lv_iload hx hb dX5_tryOrders_8 (lv_at hl 5 rfl) ?_
    refine lv_aload_n hx hb dX5_tryOrders_10 rfl (lv_at hl 0 rfl) ?_
    refine tw_getM (v := .int x2) hx hb hts bF2_X5 hown hK hT hr_o0 shc_8 rfl 16 (by decide) (ht_at2 hts 0 rfl) (fun _ h9 => h9) m1 dX5_tryOrders_11 ?_
    have t264 : -2147483648 ≤ la.toInt ∧ la.toInt ≤ 2147483647 := ti_all la
    refine lv_icmp_lt (tgt := 18) hx hb dX5_tryOrders_14 (by decide) (fun c265 => ?_) (fun c265 => ?_)
    · have t266 : la.toInt < x2.toInt := ti_lt c265 rfl rfl
      refine lv_iload_n hx hb dX5_tryOrders_18 rfl (lv_at hl 1 rfl) ?_
      refine lv_aload_n hx hb dX5_tryOrders_19 rfl (lv_at hl 0 rfl) ?_
      refine tw_getM (v := .int jb) hx hb hts bF2_X5 hown hK hT hr_o0 shc_8 rfl 15 (by decide) (ht_at2 hts 1 rfl) (fun _ h9 => h9) hm_jb dX5_tryOrders_20 ?_
      refine lv_icmp_lt (tgt := 50) hx hb dX5_tryOrders_23 (by decide) (fun c267 => ?_) (fun c267 => ?_)
      · have t268 : 0 < jb.toInt := ti_lt c267 (by decide) rfl
        refine lv_iconst (v := 0) hx hb dX5_tryOrders_50 (by decide) ?_
        refine lv_istore (lv' := [(7, .int 0), (0, .ref o0), (1, .int 0), (2, .int yr), (3, .long co), (5, .int ic), (6, .int la)]) hx hb dX5_tryOrders_51 hl (by decide) rfl (fun ls hl => ?_)
        have key389 : ∀ (n389 i269 : Nat), i269 + n389 = 7 → 0 ≤ i269 → ∀ (H : Heap) (locs : List Loc), gH (dC, dI) kA (SHc nC nS) G H → gF (dC, dI) SKc G ([(8, 16), (67, 0), (68, 0), (69, 0)] : List (Nat × Nat)) s.heap H → va_S A s.heap H locs → el H o0 (dI 8 15) = some (.int jb) → ∀ ls : Array Slot, lv_has ls 11 [(7, .int (nI i269)), (0, .ref o0), (1, .int 0), (2, .int yr), (3, .long co), (5, .int ic), (6, .int la)] → W p l e (headSpec w_c_tryOrders0 ({ frames := 9, cells := 0, slots := 0, locals := 270 })).room s m #[.ref o0, .int 0, .int yr, .long co, .int ic, .int la] below meth c H locs 0 0 (MQ below (va_Qv (fun (u : Unit) => True) (fun (_ : Unit) (t : State) => gH (dC, dI) kA (SHc nC nS) G t.heap ∧ gF (dC, dI) SKc G ([(8, 16), (67, 0), (68, 0), (69, 0)] : List (Nat × Nat)) s.heap t.heap) A) #[.ref o0, .int 0, .int yr, .long co, .int ic, .int la] s 0 0 A) (F0 m 53 ls []) := by
          intro n389
          induction n389 with
          | zero =>
            intro i269 hn389 hlo390  H locs hT hF hS m270 ls hl
            obtain rfl : 7 = i269 := by omega
            refine lv_iload hx hb dX5_tryOrders_53 (lv_at hl 0 rfl) ?_
            refine lv_aload_n hx hb dX5_tryOrders_55 rfl (lv_at hl 1 rfl) ?_
            refine tw_getM (v := .int jb) hx hb hts bF2_X5 hown hK hT hr_o0 shc_8 rfl 15 (by decide) (ht_at2 hts 1 rfl) (fun _ h9 => h9) m270 dX5_tryOrders_56 ?_
            refine lv_icmp_ge (tgt := 200) hx hb dX5_tryOrders_59 (by decide) (fun c391 => ?_) (fun c391 => (by exfalso; have q9 : ((7 : Nat) : Int) < jb.toInt := ti_nle c391 rfl (nI_toInt (by omega)); omega))
            have t392 : jb.toInt ≤ ((7 : Nat) : Int) := ti_le c391 rfl (nI_toInt (by omega))
            exact W.vret hx hb hr (fun t ht hW => ⟨⟨(), rfl, (by exact trivial), by (try dsimp only); rw [ht]; exact ⟨hT, hF⟩⟩, hS.F ht⟩) hS.2.2 dX5_tryOrders_200
          | succ n389 ih389 =>
            intro i269 hn389 hlo390  H locs hT hF hS m270 ls hl
            have hlt392 : i269 < 7 := by omega
            refine lv_iload hx hb dX5_tryOrders_53 (lv_at hl 0 rfl) ?_
            refine lv_aload_n hx hb dX5_tryOrders_55 rfl (lv_at hl 1 rfl) ?_
            refine tw_getM (v := .int jb) hx hb hts bF2_X5 hown hK hT hr_o0 shc_8 rfl 15 (by decide) (ht_at2 hts 1 rfl) (fun _ h9 => h9) m270 dX5_tryOrders_56 ?_
            refine lv_icmp_ge (tgt := 200) hx hb dX5_tryOrders_59 (by decide) (fun c393 => ?_) (fun c393 => ?_)
            · have t394 : jb.toInt ≤ ((i269 : Nat) : Int) := ti_le c393 rfl (nI_toInt (by omega))
              exact W.vret hx hb hr (fun t ht hW => ⟨⟨(), rfl, (by exact trivial), by (try dsimp only); rw [ht]; exact ⟨hT, hF⟩⟩, hS.F ht⟩) hS.2.2 dX5_tryOrders_200
            · have t395 : ((i269 : Nat) : Int) < jb.toInt := ti_nle c393 rfl (nI_toInt (by omega))
              refine lv_aload_n hx hb dX5_tryOrders_62 rfl (lv_at hl 1 rfl) ?_
              refine tw_get hx hb hts bF2_X5 hown hK hT hr_o0 shc_8 rfl 9 (by decide) (ht_at2 hts 2 rfl) (fun _ h9 => h9) dX5_tryOrders_63 (fun v9 m396 h9 => ?_)
              obtain ⟨b397, rfl, hg398⟩ := h9 _ rfl
              refine lv_iload hx hb dX5_tryOrders_66 (lv_at hl 0 rfl) ?_
              refine tw_zald (i := (nI i269)) hx hb hK hT hg398 shc_67 rfl (vp_in_nI (by omega) (by decide)) dX5_tryOrders_68 (fun v9 m399 h9 => ?_)
              obtain ⟨x400, rfl, gx400, kx400⟩ := h9
              have jn423 : ∀ (z419 : Int32), ∀ (H : Heap) (locs : List Loc), gH (dC, dI) kA (SHc nC nS) G H → gF (dC, dI) SKc G ([(8, 16), (67, 0), (68, 0), (69, 0)] : List (Nat × Nat)) s.heap H → va_S A s.heap H locs → el H o0 (dI 8 15) = some (.int jb) → el H o0 (dI 8 9) = some (.ref b397) → el H b397 (nI i269).toNatClampNeg = some (.int x400) → ∀ ls : Array Slot, lv_has ls 11 [(7, .int (nI i269)), (0, .ref o0), (1, .int 0), (2, .int yr), (3, .long co), (5, .int ic), (6, .int la)] → W p l e (headSpec w_c_tryOrders0 ({ frames := 9, cells := 0, slots := 0, locals := 270 })).room s m #[.ref o0, .int 0, .int yr, .long co, .int ic, .int la] below meth c H locs 0 0 (MQ below (va_Qv (fun (u : Unit) => True) (fun (_ : Unit) (t : State) => gH (dC, dI) kA (SHc nC nS) G t.heap ∧ gF (dC, dI) SKc G ([(8, 16), (67, 0), (68, 0), (69, 0)] : List (Nat × Nat)) s.heap t.heap) A) #[.ref o0, .int 0, .int yr, .long co, .int ic, .int la] s 0 0 A) (F0 m 98 ls [.int z419]) := by
                intro z419 H locs hT hF hS m420 m421 m422 ls hl
                refine lv_istore (lv' := [(8, .int z419), (7, .int (nI i269)), (0, .ref o0), (1, .int 0), (2, .int yr), (3, .long co), (5, .int ic), (6, .int la)]) hx hb dX5_tryOrders_98 hl (by decide) rfl (fun ls hl => ?_)
                refine lv_iload hx hb dX5_tryOrders_100 (lv_at hl 0 rfl) ?_
                refine lv_iconst (v := (-1)) hx hb dX5_tryOrders_102 (by decide) ?_
                have t424 : -2147483648 ≤ z419.toInt ∧ z419.toInt ≤ 2147483647 := ti_all z419
                refine lv_icmp_eq (tgt := 194) hx hb dX5_tryOrders_103 (by decide) (fun c425 => ?_) (fun c425 => ?_)
                · have t426 : z419.toInt = (-1) := ti_eq c425 rfl (by decide)
                  refine lv_iinc (v := nI (i269 + 1)) (lv' := [(7, .int (nI (i269 + 1))), (8, .int z419), (0, .ref o0), (1, .int 0), (2, .int yr), (3, .long co), (5, .int ic), (6, .int la)]) hx hb dX5_tryOrders_194 hl (k := 1) rfl (nI_add i269 1) (by decide) rfl (fun ls hl => ?_)
                  refine lv_goto (tgt := 53) hx hb dX5_tryOrders_197 (by decide) ?_
                  exact ih389 (i269 + 1) (by omega) (by omega) _ _ hT hF hS m420 ls (lv_sub hl [0, 2, 3, 4, 5, 6, 7] rfl)
                · have t427 : z419.toInt ≠ (-1) := ti_ne c425 rfl (by decide)
                  refine lv_iload hx hb dX5_tryOrders_106 (lv_at hl 0 rfl) ?_
                  refine lv_sipush (v := 200) hx hb dX5_tryOrders_108 (by decide) ?_
                  refine lv_icmp_gt (tgt := 194) hx hb dX5_tryOrders_111 (by decide) (fun c428 => ?_) (fun c428 => ?_)
                  · have t429 : 200 < z419.toInt := ti_lt c428 (by decide) rfl
                    refine lv_iinc (v := nI (i269 + 1)) (lv' := [(7, .int (nI (i269 + 1))), (8, .int z419), (0, .ref o0), (1, .int 0), (2, .int yr), (3, .long co), (5, .int ic), (6, .int la)]) hx hb dX5_tryOrders_194 hl (k := 1) rfl (nI_add i269 1) (by decide) rfl (fun ls hl => ?_)
                    refine lv_goto (tgt := 53) hx hb dX5_tryOrders_197 (by decide) ?_
                    exact ih389 (i269 + 1) (by omega) (by omega) _ _ hT hF hS m420 ls (lv_sub hl [0, 2, 3, 4, 5, 6, 7] rfl)
                  · have t430 : z419.toInt ≤ 200 := ti_nlt c428 (by decide) rfl
                    refine lv_lload_n hx hb dX5_tryOrders_114 rfl (lv_at hl 5 rfl) ?_
                    refine lv_iload hx hb dX5_tryOrders_115 (lv_at hl 6 rfl) ?_
                    refine lv_i2l (v := ic.toInt64) hx hb dX5_tryOrders_117 rfl ?_
                    refine lv_iload hx hb dX5_tryOrders_118 (lv_at hl 0 rfl) ?_
                    refine lv_iload_n hx hb dX5_tryOrders_120 rfl (lv_at hl 4 rfl) ?_
                    refine lv_isub hx hb dX5_tryOrders_121 ?_
                    refine lv_topi (fun x431 ex431 => ?_)
                    refine lv_i2l (v := x431.toInt64) hx hb dX5_tryOrders_122 rfl ?_
                    refine lv_lmul hx hb dX5_tryOrders_123 ?_
                    refine lv_topl (fun y432 _ => ?_)
                    refine lv_ladd hx hb dX5_tryOrders_124 ?_
                    refine lv_topl (fun y433 _ => ?_)
                    refine lv_aload_n hx hb dX5_tryOrders_125 rfl (lv_at hl 2 rfl) ?_
                    refine tw_get hx hb hts bF2_X5 hown hK hT hr_o0 shc_8 rfl 5 (by decide) (ht_at2 hts 3 rfl) (fun _ h9 => h9) dX5_tryOrders_126 (fun v9 m434 h9 => ?_)
                    obtain ⟨b435, rfl, hg436⟩ := h9 _ rfl
                    refine lv_iload hx hb dX5_tryOrders_129 (lv_at hl 1 rfl) ?_
                    refine tw_iald (i := (nI i269)) hx hb hK hT hg436 shc_63 rfl (vp_in_nI (by omega) (by decide)) dX5_tryOrders_131 (fun v9 m437 h9 => ?_)
                    obtain ⟨x438, rfl, gx438, kx438⟩ := h9
                    refine lv_i2l (v := x438.toInt64) hx hb dX5_tryOrders_132 rfl ?_
                    refine lv_lsub hx hb dX5_tryOrders_133 ?_
                    refine lv_topl (fun y439 _ => ?_)
                    refine lv_lstore (lv' := [(9, .long y439), (8, .int z419), (7, .int (nI i269)), (0, .ref o0), (1, .int 0), (2, .int yr), (3, .long co), (5, .int ic), (6, .int la)]) hx hb dX5_tryOrders_134 hl (by decide) rfl (fun ls hl => ?_)
                    refine lv_aload_n hx hb dX5_tryOrders_136 rfl (lv_at hl 3 rfl) ?_
                    refine tw_getM (v := .ref b397) hx hb hts bF2_X5 hown hK hT hr_o0 shc_8 rfl 9 (by decide) (ht_at2 hts 2 rfl) (fun _ h9 => h9) m421 dX5_tryOrders_137 ?_
                    refine lv_iload hx hb dX5_tryOrders_140 (lv_at hl 2 rfl) ?_
                    refine lv_iconst (v := 1) hx hb dX5_tryOrders_142 (by decide) ?_
                    refine tw_zast (i := (nI i269)) (x := 1) hx hb hK hT hG hS hg398 shc_67 rfl (vp_in_nI (by omega) (by decide)) (gi_z (rg_t (a := 1) (by decide) (by first | decide | omega) (by first | decide | omega)) (by decide) (by decide)) dX5_tryOrders_143 (fun H locs hT oq m440 oi hS => ?_)
                    have hF := hF.ast hg398 skc_67 oq (by decide)
                    have m441 := (el_kept (oq _ (gne hr_o0 hg398 (by decide)))).trans m420
                    have m442 := (el_kept (oq _ (gne hr_o0 hg398 (by decide)))).trans m421
                    refine lv_aload_n hx hb dX5_tryOrders_144 rfl (lv_at hl 3 rfl) ?_
                    refine tw_get hx hb hts bF2_X5 hown hK hT hr_o0 shc_8 rfl 10 (by decide) (ht_at2 hts 9 rfl) (fun _ h9 => h9) dX5_tryOrders_145 (fun v9 m445 h9 => ?_)
                    obtain ⟨b446, rfl, hg447⟩ := h9 _ rfl
                    refine lv_iload_n hx hb dX5_tryOrders_148 rfl (lv_at hl 4 rfl) ?_
                    refine lv_iload hx hb dX5_tryOrders_149 (lv_at hl 2 rfl) ?_
                    refine tw_iast (i := 0) (x := (nI i269)) hx hb hK hT hG hS hg447 shc_68 rfl (by unfold vp_in; decide) (gi_of (show (nI i269).toInt = ((i269 : Nat) : Int) from (nI_toInt (by omega))) (by omega) (by omega)) dX5_tryOrders_151 (fun H locs hT oq m448 oi hS => ?_)
                    have hF := hF.ast hg447 skc_68 oq (by decide)
                    have m449 := (el_kept (oq _ (gne hr_o0 hg447 (by decide)))).trans m441
                    have m450 := (el_kept (oq _ (gne hr_o0 hg447 (by decide)))).trans m442
                    refine lv_aload_n hx hb dX5_tryOrders_152 rfl (lv_at hl 3 rfl) ?_
                    refine lv_iload_n hx hb dX5_tryOrders_153 rfl (lv_at hl 4 rfl) ?_
                    refine lv_iconst (v := 1) hx hb dX5_tryOrders_154 (by decide) ?_
                    refine lv_iadd hx hb dX5_tryOrders_155 ?_
                    refine lv_topi (fun x454 ex454 => ?_)
                    obtain rfl : x454 = 1 := ex454.trans (by decide)
                    refine lv_iload hx hb dX5_tryOrders_156 (lv_at hl 1 rfl) ?_
                    refine lv_lload hx hb dX5_tryOrders_158 (lv_at hl 0 rfl) ?_
                    refine lv_iload hx hb dX5_tryOrders_160 (lv_at hl 7 rfl) ?_
                    refine lv_aload_n hx hb dX5_tryOrders_162 rfl (lv_at hl 3 rfl) ?_
                    refine tw_get hx hb hts bF2_X5 hown hK hT hr_o0 shc_8 rfl 7 (by decide) (ht_at2 hts 10 rfl) (fun _ h9 => h9) dX5_tryOrders_163 (fun v9 m455 h9 => ?_)
                    obtain ⟨b456, rfl, hg457⟩ := h9 _ rfl
                    refine lv_iload hx hb dX5_tryOrders_166 (lv_at hl 2 rfl) ?_
                    refine tw_iald (i := (nI i269)) hx hb hK hT hg457 shc_65 rfl (vp_in_nI (by omega) (by decide)) dX5_tryOrders_168 (fun v9 m458 h9 => ?_)
                    obtain ⟨x459, rfl, gx459, kx459⟩ := h9
                    refine lv_iadd hx hb dX5_tryOrders_169 ?_
                    refine lv_topi (fun x460 ex460 => ?_)
                    refine lv_iload hx hb dX5_tryOrders_170 (lv_at hl 8 rfl) ?_
                    refine lv_aload_n hx hb dX5_tryOrders_172 rfl (lv_at hl 3 rfl) ?_
                    refine tw_get hx hb hts bF2_X5 hown hK hT hr_o0 shc_8 rfl 8 (by decide) (ht_at2 hts 11 rfl) (fun _ h9 => h9) dX5_tryOrders_173 (fun v9 m461 h9 => ?_)
                    obtain ⟨b462, rfl, hg463⟩ := h9 _ rfl
                    refine lv_iload hx hb dX5_tryOrders_176 (lv_at hl 2 rfl) ?_
                    refine tw_iald (i := (nI i269)) hx hb hK hT hg463 shc_66 rfl (vp_in_nI (by omega) (by decide)) dX5_tryOrders_178 (fun v9 m464 h9 => ?_)
                    obtain ⟨x465, rfl, gx465, kx465⟩ := h9
                    refine lv_iload hx hb dX5_tryOrders_179 (lv_at hl 1 rfl) ?_
                    refine lv_imul hx hb dX5_tryOrders_181 ?_
                    refine lv_topi (fun x466 ex466 => ?_)
                    refine lv_iadd hx hb dX5_tryOrders_182 ?_
                    refine lv_topi (fun x467 ex467 => ?_)
                    have hFc := gA_free hG hA hS
                    refine va_callv (va_runV (As := [.int 1, .int z419, .long y439, .int x460, .int x467]) (rest := []) ⟨hx, hb, hml, hown, hts⟩ (c_tryOrders1 l dC dI kA adK adV G H nC nS o0 z419 y439 x460 x467 jb hT hr_o0 m449 (by have q8 := ti_all jb; omega) (by omega) (by omega)) (cwV 5 hts (goodIn_app (goodIn_r _ [19, 20, 21, 8] rfl (by decide +kernel)) (goodIn_ca (goodIn_r _ [13, 1, 2, 3, 4, 5, 6, 7, 8, 9, 10, 11, 12, 13, 14, 15, 16, 17, 18, 19, 20, 21] rfl (by decide +kernel)) (bs2_in _ _))) rfl rfl rfl (by decide +kernel) ⟨(Nat.le_of_ble_eq_true rfl), (Nat.le_of_ble_eq_true rfl)⟩) ⟨fun a U g mk q => by obtain ⟨q0, q1, qK, qE⟩ := q; exact ⟨q0, q1, va_K.moved (u := U) (U := U.calling g mk a) (Vm.Alike.refl U.vm) qK, EVC.blind g mk a qE⟩, gH_rc hK hT hr_o0 shc_8 rfl, fun U hU hW => ⟨rfl, hU, va_K.moved hW.alike hK, hE.call hS hFc hU hW⟩⟩ rfl rfl hl.1 rfl (lv_room (Nat.le_of_ble_eq_true rfl)) dX5_tryOrders_183 ⟨(Nat.le_of_ble_eq_true rfl), (Nat.le_of_ble_eq_true rfl)⟩) hS (fun q _ h => hFc q h) hFc (fun u t H locs ht hvm hw469 hB _ _ hS => ?_)
                    obtain ⟨hT, hF1⟩ := hB
                    rw [ht] at hT hF1
                    have m470 := (hF1.fld hr_o0 skc_8 (k := 15) (by decide) (by decide)).trans m449
                    have m471 := (hF1.fld hr_o0 skc_8 (k := 9) (by decide) (by decide)).trans m450
                    have hF := hF.more hF1 (by decide)
                    try dsimp only at hw469
                    refine lv_aload_n hx hb dX5_tryOrders_186 rfl (lv_at hl 3 rfl) ?_
                    refine tw_getM (v := .ref b397) hx hb hts bF2_X5 hown hK hT hr_o0 shc_8 rfl 9 (by decide) (ht_at2 hts 2 rfl) (fun _ h9 => h9) m471 dX5_tryOrders_187 ?_
                    refine lv_iload hx hb dX5_tryOrders_190 (lv_at hl 2 rfl) ?_
                    refine lv_iconst (v := 0) hx hb dX5_tryOrders_192 (by decide) ?_
                    refine tw_zast (i := (nI i269)) (x := 0) hx hb hK hT hG hS hg398 shc_67 rfl (vp_in_nI (by omega) (by decide)) (gi_z (rg_t (a := 0) (by decide) (by first | decide | omega) (by first | decide | omega)) (by decide) (by decide)) dX5_tryOrders_193 (fun H locs hT oq m480 oi hS => ?_)
                    have hF := hF.ast hg398 skc_67 oq (by decide)
                    have m481 := (el_kept (oq _ (gne hr_o0 hg398 (by decide)))).trans m470
                    refine lv_iinc (v := nI (i269 + 1)) (lv' := [(7, .int (nI (i269 + 1))), (9, .long y439), (8, .int z419), (0, .ref o0), (1, .int 0), (2, .int yr), (3, .long co), (5, .int ic), (6, .int la)]) hx hb dX5_tryOrders_194 hl (k := 2) rfl (nI_add i269 1) (by decide) rfl (fun ls hl => ?_)
                    refine lv_goto (tgt := 53) hx hb dX5_tryOrders_197 (by decide) ?_
                    exact ih389 (i269 + 1) (by omega) (by omega) _ _ hT hF hS m481 ls (lv_sub hl [0, 3, 4, 5, 6, 7, 8] rfl)
              refine lv_if_eq (tgt := 76) hx hb dX5_tryOrders_69 (by decide) (fun c490 => ?_) (fun c490 => ?_)
              · have t491 : x400.toInt = 0 := ti_eq c490 rfl (by decide)
                refine lv_iload_n hx hb dX5_tryOrders_76 rfl (lv_at hl 3 rfl) ?_
                refine lv_lload_n hx hb dX5_tryOrders_77 rfl (lv_at hl 4 rfl) ?_
                refine lv_iload hx hb dX5_tryOrders_78 (lv_at hl 5 rfl) ?_
                refine lv_aload_n hx hb dX5_tryOrders_80 rfl (lv_at hl 1 rfl) ?_
                refine tw_get hx hb hts bF2_X5 hown hK hT hr_o0 shc_8 rfl 5 (by decide) (ht_at2 hts 3 rfl) (fun _ h9 => h9) dX5_tryOrders_81 (fun v9 m492 h9 => ?_)
                obtain ⟨b493, rfl, hg494⟩ := h9 _ rfl
                refine lv_iload hx hb dX5_tryOrders_84 (lv_at hl 0 rfl) ?_
                refine tw_iald (i := (nI i269)) hx hb hK hT hg494 shc_63 rfl (vp_in_nI (by omega) (by decide)) dX5_tryOrders_86 (fun v9 m495 h9 => ?_)
                obtain ⟨x496, rfl, gx496, kx496⟩ := h9
                have hFc := gA_free hG hA hS
                refine va_calli (va_runS (As := [.int yr, .long co, .int ic, .int x496]) (rest := []) ⟨hx, hb, hml, hown, hts⟩ (c_yearWithCost l dC dI kA adK adV G H nC nS yr co ic x496 hT (by omega) (by omega)) (va_cwS 4 hts (goodIn_app (goodIn_r _ [6, 7, 8] rfl (by decide +kernel)) (goodIn_ca (goodIn_r _ [5] rfl (by decide +kernel)) (bs2_in _ _))) rfl rfl rfl (by decide +kernel) ⟨(Nat.le_of_ble_eq_true rfl), (Nat.le_of_ble_eq_true rfl)⟩) ⟨fun a U g mk q => by obtain ⟨q0, q1, qK, qE⟩ := q; exact ⟨q0, q1, va_K.moved (u := U) (U := U.calling g mk a) (Vm.Alike.refl U.vm) qK, EVC.blind g mk a qE⟩, fun U hU hW => ⟨rfl, hU, va_K.moved hW.alike hK, hE.call hS hFc hU hW⟩⟩ rfl rfl hl.1 rfl (lv_room (Nat.le_of_ble_eq_true rfl)) dX5_tryOrders_87 ⟨(Nat.le_of_ble_eq_true rfl), (Nat.le_of_ble_eq_true rfl)⟩) hS (fun q _ h => hFc q h) hFc (fun r497 u t H locs ht hvm hw498 hB _ _ hS => ?_)
                obtain ⟨hT, hF1⟩ := hB
                rw [ht] at hT hF1
                have m499 := (hF1.fld hr_o0 skc_8 (k := 15) (by decide) (by decide)).trans m270
                have m500 := (hF1.fld hr_o0 skc_8 (k := 9) (by decide) (by decide)).trans m396
                have m501 := (el_kept (hF1.arr hg398 skc_67 (by decide))).trans m399
                have hF := hF.more hF1 (by decide)
                try dsimp only at hw498
                refine lv_aload_n hx hb dX5_tryOrders_90 rfl (lv_at hl 1 rfl) ?_
                refine tw_get hx hb hts bF2_X5 hown hK hT hr_o0 shc_8 rfl 6 (by decide) (ht_at2 hts 8 rfl) (fun _ h9 => h9) dX5_tryOrders_91 (fun v9 m504 h9 => ?_)
                obtain ⟨b505, rfl, hg506⟩ := h9 _ rfl
                refine lv_iload hx hb dX5_tryOrders_94 (lv_at hl 0 rfl) ?_
                refine tw_iald (i := (nI i269)) hx hb hK hT hg506 shc_64 rfl (vp_in_nI (by omega) (by decide)) dX5_tryOrders_96 (fun v9 m507 h9 => ?_)
                obtain ⟨x508, rfl, gx508, kx508⟩ := h9
                refine lv_iadd hx hb dX5_tryOrders_97 ?_
                refine lv_topi (fun x509 ex509 => ?_)
                exact jn423 x509 _ _ hT hF hS m499 m500 m501 ls (lv_sub hl [0, 1, 2, 3, 4, 5, 6] rfl)
              · have t510 : x400.toInt ≠ 0 := ti_ne c490 rfl (by decide)
                refine lv_iconst (v := (-1)) hx hb dX5_tryOrders_72 (by decide) ?_
                refine lv_goto (tgt := 98) hx hb dX5_tryOrders_73 (by decide) ?_
                exact jn423 (-1) _ _ hT hF hS m270 m396 m399 ls (lv_sub hl [0, 1, 2, 3, 4, 5, 6] rfl)
        exact key389 (7 - 0) 0 (by omega) (Nat.le_refl _) _ _ hT hF hS hm_jb ls (lv_sub hl [0, 1, 2, 3, 4, 5, 6] rfl)
      · have t511 : jb.toInt ≤ 0 := ti_nlt c267 (by decide) rfl
        refine lv_aload_n hx hb dX5_tryOrders_26 rfl (lv_at hl 0 rfl) ?_
        refine lv_iload hx hb dX5_tryOrders_27 (lv_at hl 5 rfl) ?_
        refine tw_put (v := .int la) (ty := .int) hx hb hts bF2_X5 tyX5 tyX5_ok nmX5 hown hK hT hG hS hr_o0 shc_8 rfl 16 (by decide) (ht_at2 hts 0 rfl) (fun _ h9 => h9) rfl (by decide +kernel) rfl rfl (gl_at rfl (gi_all _)) dX5_tryOrders_29 (fun H locs hT oq m512 oj hS => ?_)
        have hF := hF.put hr_o0 skc_8 oq oj (by decide)
        have m513 := (oj 15 (by decide) (by decide)).trans hm_jb
        refine lv_aload_n hx hb dX5_tryOrders_32 rfl (lv_at hl 0 rfl) ?_
        refine tw_get hx hb hts bF2_X5 hown hK hT hr_o0 shc_8 rfl 10 (by decide) (ht_at2 hts 9 rfl) (fun _ h9 => h9) dX5_tryOrders_33 (fun v9 m514 h9 => ?_)
        obtain ⟨b515, rfl, hg516⟩ := h9 _ rfl
        refine lv_iconst (v := 0) hx hb dX5_tryOrders_36 (by decide) ?_
        refine lv_aload_n hx hb dX5_tryOrders_37 rfl (lv_at hl 0 rfl) ?_
        refine tw_get hx hb hts bF2_X5 hown hK hT hr_o0 shc_8 rfl 11 (by decide) (ht_at2 hts 13 rfl) (fun _ h9 => h9) dX5_tryOrders_38 (fun v9 m517 h9 => ?_)
        obtain ⟨b518, rfl, hg519⟩ := h9 _ rfl
        refine lv_iconst (v := 0) hx hb dX5_tryOrders_41 (by decide) ?_
        refine lv_aload_n hx hb dX5_tryOrders_42 rfl (lv_at hl 0 rfl) ?_
        refine tw_getM (v := .int jb) hx hb hts bF2_X5 hown hK hT hr_o0 shc_8 rfl 15 (by decide) (ht_at2 hts 1 rfl) (fun _ h9 => h9) m513 dX5_tryOrders_43 ?_
        refine tw_copy (ty := .int) hx hb (hml.trans hl.1.symm) hown (ht_at2 hts 14 rfl) (ht_at2 hts 15 rfl) (ht_at2 hts 16 rfl) (ht_at2 hts 17 rfl) hK hT hG hS hg516 hg519 shc_68 shc_69 rfl rfl (by decide) (by decide) (fun h9 => by have q9 := ti_lt h9 rfl (show (0 : Int32).toInt = 0 from by decide); omega) (by have q9 := tn_of (show jb.toInt = jb.toInt from rfl) (by omega); have q8 : (0 : Int32).toNatClampNeg = 0 := (by decide); omega) (by have q9 := tn_of (show jb.toInt = jb.toInt from rfl) (by omega); have q8 : (0 : Int32).toNatClampNeg = 0 := (by decide); omega) (fun _ _ h9 => by obtain ⟨x9, e9, _⟩ := h9; exact ⟨x9, e9, rfl⟩) (fun _ _ _ h9 => by obtain ⟨x9, e9, a9, b9⟩ := h9; exact ⟨x9, e9, by omega, by omega⟩) (Nat.le_of_ble_eq_true rfl) (Nat.le_of_ble_eq_true rfl) dX5_tryOrders_46 (fun H locs hT oq hS => ?_)
        have hF := hF.ast hg519 skc_69 oq (by decide)
        exact W.vret hx hb hr (fun t ht hW => ⟨⟨(), rfl, (by exact trivial), by (try dsimp only); rw [ht]; exact ⟨hT, hF⟩⟩, hS.F ht⟩) hS.2.2 dX5_tryOrders_49
    · have t524 : x2.toInt ≤ la.toInt := ti_nlt c265 rfl rfl
      exact W.vret hx hb hr (fun t ht hW => ⟨⟨(), rfl, (by exact trivial), by (try dsimp only); rw [ht]; exact ⟨hT, hF⟩⟩, hS.F ht⟩) hS.2.2 dX5_tryOrders_17
def w_c_findOrder : List Cond := .code yX5_findOrder cX5_findOrder 2 none :: (HAppend.hAppend (α := List Cond) (β := List Cond) (γ := List Cond) [.fieldLink RX5 157 "SeaLand$Plans" "bestLate" "I", .code yX5_tryOrders cX5_tryOrders 11 none, .fieldLink RX5 154 "SeaLand$Plans" "jobs" "I", .fieldLink RX5 41 "SeaLand$Plans" "placed" "[Z", .fieldLink RX5 29 "SeaLand$Plans" "costs" "[I", .code yX5_yearWithCost cX5_yearWithCost 5 (some .int), .methodLink RX5 164 yX5_yearWithCost, .static yX5_yearWithCost, .initialized RX5, .fieldLink RX5 32 "SeaLand$Plans" "lasts" "[I", .fieldLink RX5 45 "SeaLand$Plans" "trial" "[I", .fieldLink RX5 35 "SeaLand$Plans" "incomes" "[I", .fieldLink RX5 38 "SeaLand$Plans" "acres" "[I", .fieldLink RX5 48 "SeaLand$Plans" "best" "[I", .methodLink RX5 100 arraycopyName, .native arraycopyName, .static arraycopyName, .initialized "java/lang/System", .methodLink RX5 160 yX5_tryOrders, .instanceMethod yX5_tryOrders, .selects RX5 yX5_tryOrders yX5_tryOrders] bs2)
set_option maxHeartbeats 4000000 in
set_option maxRecDepth 100000 in
theorem c_findOrder (l : Launch) (dC : Nat → ClassId) (dI : Nat → Nat → Nat) (kA : Nat → ClassId) (adK adV : Nat → Nat) (G : gT) (H0 : Heap) (nC nS : Int) (o0 : Nat) (p0 : Int32)  (hT : gH (dC, dI) kA (SHc nC nS) G H0) (hr_o0 : G o0 = some 8) (hgC : 0 ≤ nC ∧ nC ≤ 40) (hgS : 0 ≤ nS ∧ nS ≤ 60) : Met l yX5_findOrder w_c_findOrder ({ frames := 10, cells := 0, slots := 0, locals := 300 }) (va_Pc [.ref o0, .int p0] (fun U => U.heap = H0 ∧ va_K (dC, dI) vwCl (tyl kA) U ∧ EVC adK adV (gA G H0.size) U U.heap)) (va_Qv (fun (u : Unit) => True) (fun (_ : Unit) (t : State) => gH (dC, dI) kA (SHc nC nS) G t.heap ∧ gF (dC, dI) SKc G ([(8, 16), (67, 0), (68, 0), (69, 0)] : List (Nat × Nat)) H0 t.heap) (gA G H0.size)) 0 0 (gA G H0.size) := by
  refine Met.ofW (cc := cX5_findOrder) (maxL := 2) (ret := none) (by decide) rfl ?_
  intro p e s m args below meth c s₁ B hml hv
  obtain ⟨rfl, hH0, hK, hE⟩ := hv
  have hx := B.exec
  have hb := B.bytes
  have hr := B.returns
  have hts := atoms_spec (ws := w_c_findOrder) B.pre
  have hown : s.vm.findClass RX5 = some m.cls := findClass_of_methodNamed B.named
  have hlocks := B.notSynchronized
  subst hH0
  generalize hAe : gA G s.heap.size = A at hE ⊢
  have hA : ∀ q : Nat, s.heap.size ≤ q → A q := fun q h => by rw [← hAe]; exact Or.inr h
  have hG := gA_of hAe
  have hS : va_S A s.heap s.heap [] := va_S.rf
  have hF : gF (dC, dI) SKc G ([(8, 16), (67, 0), (68, 0), (69, 0)] : List (Nat × Nat)) s.heap s.heap := gF.rf
  have hl := lv_entry ([.ref o0, .int p0]) (n := 2) (Nat.le_of_ble_eq_true rfl)
  rw [lg_entry_eq]
  generalize (lg_sl ([.ref o0, .int p0]) ++ List.replicate (2 - (lg_sl ([.ref o0, .int p0])).length) Slot.unset).toArray = ls at hl ⊢
  have hl : lv_has ls 2 [(0, .ref o0), (1, .int p0)] := hl
  refine lv_aload_n hx hb dX5_findOrder_0 rfl (lv_at hl 0 rfl) ?_
  refine lv_iconst (v := (-1)) hx hb dX5_findOrder_1 (by decide) ?_
  refine tw_put (v := .int (-1)) (ty := .int) hx hb hts bF2_X5 tyX5 tyX5_ok nmX5 hown hK hT hG hS hr_o0 shc_8 rfl 16 (by decide) (ht_at2 hts 0 rfl) (fun _ h9 => h9) rfl (by decide +kernel) rfl rfl (gl_at rfl (gi_all _)) dX5_findOrder_2 (fun H locs hT oq m1 oj hS => ?_)
  have hF := hF.put hr_o0 skc_8 oq oj (by decide)
  refine lv_aload_n hx hb dX5_findOrder_5 rfl (lv_at hl 0 rfl) ?_
  refine lv_iconst (v := 0) hx hb dX5_findOrder_6 (by decide) ?_
  refine lv_iconst (v := 0) hx hb dX5_findOrder_7 (by decide) ?_
  refine lv_iload_n hx hb dX5_findOrder_8 rfl (lv_at hl 1 rfl) ?_
  refine lv_i2l (v := p0.toInt64) hx hb dX5_findOrder_9 rfl ?_
  refine lv_iconst (v := 0) hx hb dX5_findOrder_10 (by decide) ?_
  refine lv_iconst (v := 0) hx hb dX5_findOrder_11 (by decide) ?_
  obtain ⟨v9, m2, h9⟩ := gH_fld hT hr_o0 shc_8 (k := 15) (by decide)
  obtain ⟨x3, rfl, gx3, kx3⟩ := h9 _ rfl
  have hFc := gA_free hG hA hS
  refine va_callv (va_runV (As := [.int 0, .int 0, .long p0.toInt64, .int 0, .int 0]) (rest := []) ⟨hx, hb, hml, hown, hts⟩ (c_tryOrders0 l dC dI kA adK adV G H nC nS o0 0 p0.toInt64 0 0 x3 hT hr_o0 m2 (by have q8 := ti_all x3; omega) (by omega) (by omega)) (cwV 5 hts (goodIn_app (goodIn_r _ [19, 20, 21, 9] rfl (by decide +kernel)) (goodIn_ca (goodIn_r _ [2, 1, 3, 4, 5, 6, 7, 8, 9, 10, 11, 12, 13, 2, 14, 15, 16, 17, 18, 19, 20, 21] rfl (by decide +kernel)) (bs2_in _ _))) rfl rfl rfl (by decide +kernel) ⟨(Nat.le_of_ble_eq_true rfl), (Nat.le_of_ble_eq_true rfl)⟩) ⟨fun a U g mk q => by obtain ⟨q0, q1, qK, qE⟩ := q; exact ⟨q0, q1, va_K.moved (u := U) (U := U.calling g mk a) (Vm.Alike.refl U.vm) qK, EVC.blind g mk a qE⟩, gH_rc hK hT hr_o0 shc_8 rfl, fun U hU hW => ⟨rfl, hU, va_K.moved hW.alike hK, hE.call hS hFc hU hW⟩⟩ rfl rfl hl.1 rfl (lv_room (Nat.le_of_ble_eq_true rfl)) dX5_findOrder_12 ⟨(Nat.le_of_ble_eq_true rfl), (Nat.le_of_ble_eq_true rfl)⟩) hS (fun q _ h => hFc q h) hFc (fun u t H locs ht hvm hw5 hB _ _ hS => ?_)
  obtain ⟨hT, hF1⟩ := hB
  rw [ht] at hT hF1
  have hF := hF.more hF1 (by decide)
  try dsimp only at hw5
  exact W.vret hx hb hr (fun t ht hW => ⟨⟨(), rfl, (by exact trivial), by (try dsimp only); rw [ht]; exact ⟨hT, hF⟩⟩, hS.F ht⟩) hS.2.2 dX5_findOrder_15
