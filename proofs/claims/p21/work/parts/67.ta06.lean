set_option maxHeartbeats 4000000 in
set_option maxRecDepth 100000 in
theorem c_firstByMarkZ (l : Launch) (dC : Nat → ClassId) (dI : Nat → Nat → Nat) (kA : Nat → ClassId) (adK adV : Nat → Nat) (G : gT) (H0 : Heap) (nC nS : Int) (o0 : Nat) (mk9 : Nat) (vM : Nat → Int32)  (hT : gH (dC, dI) kA (SHc nC nS) G H0) (hr_o0 : G o0 = some 3) (hm_mk9 : el H0 o0 (dI 3 6) = some (.ref mk9)) (hr_mk9 : G mk9 = some 57) (hc_vM : ct H0 mk9 60 vM) (hgC : 0 ≤ nC ∧ nC ≤ 40) (hgS : 0 ≤ nS ∧ nS ≤ 60) : Met l yX0_firstByMark w_c_firstByMarkZ ({ frames := 0, cells := 0, slots := 0, locals := 0 }) (va_Pc [.ref o0] (fun U => U.heap = H0 ∧ va_K (dC, dI) vwCl (tyl kA) U ∧ EVC adK adV (gA G H0.size) U U.heap)) (va_Qi (fun (r : Int32) (u : Unit) => (-1 ≤ r.toInt ∧ r.toInt ≤ 59) ∧ ((r.toInt = -1 ∧ ¬ zMk vM nS) ∨ (0 ≤ r.toInt ∧ r.toInt < nS ∧ zMk vM nS))) (fun (_ : Unit) (t : State) => gH (dC, dI) kA (SHc nC nS) G t.heap ∧ gF (dC, dI) SKc G ([] : List (Nat × Nat)) H0 t.heap) (gA G H0.size)) 0 0 (gA G H0.size) := by
  refine Met.ofW (cc := cX0_firstByMark) (maxL := 3) (ret := (some .int)) (by decide) rfl ?_
  intro p e s m args below meth c s₁ B hml hv
  obtain ⟨rfl, hH0, hK, hE⟩ := hv
  have hx := B.exec
  have hb := B.bytes
  have hr := B.returns
  have hts := atoms_spec (ws := w_c_firstByMarkZ) B.pre
  have hown : s.vm.findClass RX0 = some m.cls := findClass_of_methodNamed B.named
  have hlocks := B.notSynchronized
  subst hH0
  generalize hAe : gA G s.heap.size = A at hE ⊢
  have hA : ∀ q : Nat, s.heap.size ≤ q → A q := fun q h => by rw [← hAe]; exact Or.inr h
  have hG := gA_of hAe
  have hS : va_S A s.heap s.heap [] := va_S.rf
  have hF : gF (dC, dI) SKc G ([] : List (Nat × Nat)) s.heap s.heap := gF.rf
  have hl := lv_entry ([.ref o0]) (n := 3) (Nat.le_of_ble_eq_true rfl)
  rw [lg_entry_eq]
  generalize (lg_sl ([.ref o0]) ++ List.replicate (3 - (lg_sl ([.ref o0])).length) Slot.unset).toArray = ls at hl ⊢
  have hl : lv_has ls 3 [(0, .ref o0)] := hl
  refine lv_iconst (v := (-1)) hx hb dX0_firstByMark_0 (by decide) ?_
  refine lv_istore_n (lv' := [(1, .int (-1)), (0, .ref o0)]) hx hb dX0_firstByMark_1 rfl hl (by decide) rfl (fun ls hl => ?_)
  refine lv_iconst (v := 0) hx hb dX0_firstByMark_2 (by decide) ?_
  refine lv_istore_n (lv' := [(2, .int 0), (1, .int (-1)), (0, .ref o0)]) hx hb dX0_firstByMark_3 rfl hl (by decide) rfl (fun ls hl => ?_)
  have key55 : ∀ (n55 i1 : Nat), i1 + n55 = 60 → 0 ≤ i1 → ∀ (z2 : Int32), ((-1 ≤ z2.toInt ∧ z2.toInt ≤ 59) ∧ ((z2.toInt = -1 ∧ ∀ p : Nat, p < i1 → (vM p).toInt = -1) ∨ (0 ≤ z2.toInt ∧ z2.toInt < ((i1 : Nat) : Int) ∧ zMk vM ((i1 : Nat) : Int))) ∧ (((i1 : Nat) : Int) ≤ nS)) → ∀ (H : Heap) (locs : List Loc), gH (dC, dI) kA (SHc nC nS) G H → gF (dC, dI) SKc G ([] : List (Nat × Nat)) s.heap H → va_S A s.heap H locs → ct H mk9 60 vM → el H o0 (dI 3 6) = some (.ref mk9) → ∀ ls : Array Slot, lv_has ls 3 [(2, .int (nI i1)), (1, .int z2), (0, .ref o0)] → W p l e (headSpec w_c_firstByMarkZ ({ frames := 0, cells := 0, slots := 0, locals := 0 })).room s m #[.ref o0] below meth c H locs 0 0 (MQ below (va_Qi (fun (r : Int32) (u : Unit) => (-1 ≤ r.toInt ∧ r.toInt ≤ 59) ∧ ((r.toInt = -1 ∧ ¬ zMk vM nS) ∨ (0 ≤ r.toInt ∧ r.toInt < nS ∧ zMk vM nS))) (fun (_ : Unit) (t : State) => gH (dC, dI) kA (SHc nC nS) G t.heap ∧ gF (dC, dI) SKc G ([] : List (Nat × Nat)) s.heap t.heap) A) #[.ref o0] s 0 0 A) (F0 m 4 ls []) := by
    intro n55
    induction n55 with
    | zero =>
      intro i1 hn55 hlo56 z2 ⟨h3, hj6, hj7⟩ H locs hT hF hS m4 m5 ls hl
      obtain rfl : 60 = i1 := by omega
      refine lv_iload_n hx hb dX0_firstByMark_4 rfl (lv_at hl 0 rfl) ?_
      refine lv_aload_n hx hb dX0_firstByMark_5 rfl (lv_at hl 2 rfl) ?_
      refine tw_get hx hb hts bF2_X0 hown hK hT hr_o0 shc_3 rfl 14 (by decide) (ht_at2 hts 0 rfl) (fun _ h9 => h9) dX0_firstByMark_6 (fun v9 m57 h9 => ?_)
      obtain ⟨x58, rfl, gx58, kx58⟩ := h9 _ rfl
      refine lv_icmp_ge (tgt := 86) hx hb dX0_firstByMark_9 (by decide) (fun c59 => ?_) (fun c59 => (by exfalso; have q9 : ((60 : Nat) : Int) < x58.toInt := ti_nle c59 rfl (nI_toInt (by omega)); omega))
      have t60 : x58.toInt ≤ ((60 : Nat) : Int) := ti_le c59 rfl (nI_toInt (by omega))
      refine lv_iload_n hx hb dX0_firstByMark_86 rfl (lv_at hl 1 rfl) ?_
      exact W.iret (v := z2) hx hb hr (fun t ht hW => ⟨⟨z2, (), rfl, (by exact ⟨(by have q8 := ti_all z2; omega), (by have b9 := (show z2.toInt = z2.toInt from rfl); rcases hj6 with ⟨h8, h7⟩ | ⟨h8, h6, h7⟩; (exact Or.inl ⟨by omega, fun h5 => h5.elim (fun p hp => by have := h7 p (by have := hp.1; omega); have := hp.2; omega)⟩); exact Or.inr ⟨by omega, by omega, h7.elim (fun p hp => ⟨p, by have := hp.1; omega, hp.2⟩)⟩)⟩), by (try dsimp only); rw [ht]; exact ⟨hT, hF⟩⟩, hS.F ht⟩) hS.2.2 dX0_firstByMark_87
    | succ n55 ih55 =>
      intro i1 hn55 hlo56 z2 ⟨h3, hj6, hj7⟩ H locs hT hF hS m4 m5 ls hl
      have hlt60 : i1 < 60 := by omega
      refine lv_iload_n hx hb dX0_firstByMark_4 rfl (lv_at hl 0 rfl) ?_
      refine lv_aload_n hx hb dX0_firstByMark_5 rfl (lv_at hl 2 rfl) ?_
      refine tw_get hx hb hts bF2_X0 hown hK hT hr_o0 shc_3 rfl 14 (by decide) (ht_at2 hts 0 rfl) (fun _ h9 => h9) dX0_firstByMark_6 (fun v9 m61 h9 => ?_)
      obtain ⟨x62, rfl, gx62, kx62⟩ := h9 _ rfl
      refine lv_icmp_ge (tgt := 86) hx hb dX0_firstByMark_9 (by decide) (fun c63 => ?_) (fun c63 => ?_)
      · have t64 : x62.toInt ≤ ((i1 : Nat) : Int) := ti_le c63 rfl (nI_toInt (by omega))
        refine lv_iload_n hx hb dX0_firstByMark_86 rfl (lv_at hl 1 rfl) ?_
        exact W.iret (v := z2) hx hb hr (fun t ht hW => ⟨⟨z2, (), rfl, (by exact ⟨(by have q8 := ti_all z2; omega), (by have b9 := (show z2.toInt = z2.toInt from rfl); rcases hj6 with ⟨h8, h7⟩ | ⟨h8, h6, h7⟩; (exact Or.inl ⟨by omega, fun h5 => h5.elim (fun p hp => by have := h7 p (by have := hp.1; omega); have := hp.2; omega)⟩); exact Or.inr ⟨by omega, by omega, h7.elim (fun p hp => ⟨p, by have := hp.1; omega, hp.2⟩)⟩)⟩), by (try dsimp only); rw [ht]; exact ⟨hT, hF⟩⟩, hS.F ht⟩) hS.2.2 dX0_firstByMark_87
      · have t65 : ((i1 : Nat) : Int) < x62.toInt := ti_nle c63 rfl (nI_toInt (by omega))
        refine lv_aload_n hx hb dX0_firstByMark_12 rfl (lv_at hl 2 rfl) ?_
        refine tw_getM (v := .ref mk9) hx hb hts bF2_X0 hown hK hT hr_o0 shc_3 rfl 6 (by decide) (ht_at2 hts 1 rfl) (fun _ h9 => h9) m5 dX0_firstByMark_13 ?_
        refine lv_iload_n hx hb dX0_firstByMark_16 rfl (lv_at hl 0 rfl) ?_
        refine tw_iald (i := (nI i1)) hx hb hK hT hr_mk9 shc_57 rfl (vp_in_nI (by omega) (by decide)) dX0_firstByMark_17 (fun v9 m66 h9 => ?_)
        obtain ⟨x67, rfl, gx67, kx67⟩ := h9
        have cx67 := m4.at m66 (by have q9 := tn_of (show (nI i1).toInt = ((i1 : Nat) : Int) from (nI_toInt (by omega))) (by omega); omega)
        refine lv_iconst (v := (-1)) hx hb dX0_firstByMark_18 (by decide) ?_
        have t68 : -2147483648 ≤ x67.toInt ∧ x67.toInt ≤ 2147483647 := ti_all x67
        refine lv_icmp_eq (tgt := 80) hx hb dX0_firstByMark_19 (by decide) (fun c69 => ?_) (fun c69 => ?_)
        · have t70 : x67.toInt = (-1) := ti_eq c69 rfl (by decide)
          refine lv_iinc (v := nI (i1 + 1)) (lv' := [(2, .int (nI (i1 + 1))), (1, .int z2), (0, .ref o0)]) hx hb dX0_firstByMark_80 hl (k := 0) rfl (nI_add i1 1) (by decide) rfl (fun ls hl => ?_)
          refine lv_goto (tgt := 4) hx hb dX0_firstByMark_83 (by decide) ?_
          exact ih55 (i1 + 1) (by omega) (by omega) z2 ⟨(by have q9 := (show z2.toInt = z2.toInt from rfl); (try have q8 := ti_all z2); omega), (by have v9 : (vM i1).toInt = x67.toInt := (by rw [cx67, tn_nI (by omega)]); have b9 := (show z2.toInt = z2.toInt from rfl); rcases hj6 with ⟨h8, h7⟩ | ⟨h8, h6, h7⟩; (by_cases z9 : x67.toInt = -1; (exact Or.inl ⟨by omega, fun p hp => by by_cases e9 : p = i1; (rw [e9]; omega); exact h7 p (by omega)⟩); exact Or.inr ⟨by omega, by omega, i1, by omega, by omega⟩); exact Or.inr ⟨by omega, by omega, h7.elim (fun p hp => ⟨p, by have := hp.1; omega, hp.2⟩)⟩), (by omega)⟩ _ _ hT hF hS m4 m5 ls (lv_sub hl [0, 1, 2] rfl)
        · have t71 : x67.toInt ≠ (-1) := ti_ne c69 rfl (by decide)
          refine lv_iload_n hx hb dX0_firstByMark_22 rfl (lv_at hl 1 rfl) ?_
          refine lv_iconst (v := (-1)) hx hb dX0_firstByMark_23 (by decide) ?_
          refine lv_icmp_eq (tgt := 78) hx hb dX0_firstByMark_24 (by decide) (fun c72 => ?_) (fun c72 => ?_)
          · have t73 : z2.toInt = (-1) := ti_eq c72 rfl (by decide)
            refine lv_iload_n hx hb dX0_firstByMark_78 rfl (lv_at hl 0 rfl) ?_
            refine lv_istore_n (lv' := [(1, .int (nI i1)), (2, .int (nI i1)), (0, .ref o0)]) hx hb dX0_firstByMark_79 rfl hl (by decide) rfl (fun ls hl => ?_)
            refine lv_iinc (v := nI (i1 + 1)) (lv' := [(2, .int (nI (i1 + 1))), (1, .int (nI i1)), (0, .ref o0)]) hx hb dX0_firstByMark_80 hl (k := 1) rfl (nI_add i1 1) (by decide) rfl (fun ls hl => ?_)
            refine lv_goto (tgt := 4) hx hb dX0_firstByMark_83 (by decide) ?_
            exact ih55 (i1 + 1) (by omega) (by omega) (nI i1) ⟨(by have q9 := (show (nI i1).toInt = ((i1 : Nat) : Int) from (nI_toInt (by omega))); (try have q8 := ti_all (nI i1)); omega), (by have v9 : (vM i1).toInt = x67.toInt := (by rw [cx67, tn_nI (by omega)]); have b9 := (show (nI i1).toInt = ((i1 : Nat) : Int) from (nI_toInt (by omega))); rcases hj6 with ⟨h8, h7⟩ | ⟨h8, h6, h7⟩; (by_cases z9 : x67.toInt = -1; (exact Or.inl ⟨by omega, fun p hp => by by_cases e9 : p = i1; (rw [e9]; omega); exact h7 p (by omega)⟩); exact Or.inr ⟨by omega, by omega, i1, by omega, by omega⟩); exact Or.inr ⟨by omega, by omega, h7.elim (fun p hp => ⟨p, by have := hp.1; omega, hp.2⟩)⟩), (by omega)⟩ _ _ hT hF hS m4 m5 ls (lv_sub hl [0, 1, 2] rfl)
          · have t74 : z2.toInt ≠ (-1) := ti_ne c72 rfl (by decide)
            refine lv_aload_n hx hb dX0_firstByMark_27 rfl (lv_at hl 2 rfl) ?_
            refine tw_getM (v := .ref mk9) hx hb hts bF2_X0 hown hK hT hr_o0 shc_3 rfl 6 (by decide) (ht_at2 hts 1 rfl) (fun _ h9 => h9) m5 dX0_firstByMark_28 ?_
            refine lv_iload_n hx hb dX0_firstByMark_31 rfl (lv_at hl 0 rfl) ?_
            refine tw_iald (i := (nI i1)) hx hb hK hT hr_mk9 shc_57 rfl (vp_in_nI (by omega) (by decide)) dX0_firstByMark_32 (fun v9 m75 h9 => ?_)
            obtain ⟨x76, rfl, gx76, kx76⟩ := h9
            have cx76 := m4.at m75 (by have q9 := tn_of (show (nI i1).toInt = ((i1 : Nat) : Int) from (nI_toInt (by omega))) (by omega); omega)
            obtain rfl : x67 = x76 := (el_same m75 m66 rfl).symm
            refine lv_aload_n hx hb dX0_firstByMark_33 rfl (lv_at hl 2 rfl) ?_
            refine tw_getM (v := .ref mk9) hx hb hts bF2_X0 hown hK hT hr_o0 shc_3 rfl 6 (by decide) (ht_at2 hts 1 rfl) (fun _ h9 => h9) m5 dX0_firstByMark_34 ?_
            refine lv_iload_n hx hb dX0_firstByMark_37 rfl (lv_at hl 1 rfl) ?_
            refine tw_iald (i := z2) hx hb hK hT hr_mk9 shc_57 rfl (vin_t (a := z2.toInt) rfl (by omega) (by omega)) dX0_firstByMark_38 (fun v9 m77 h9 => ?_)
            obtain ⟨x78, rfl, gx78, kx78⟩ := h9
            have cx78 := m4.at m77 (by have q9 := tn_of (show z2.toInt = z2.toInt from rfl) (by omega); omega)
            have t79 : -2147483648 ≤ x78.toInt ∧ x78.toInt ≤ 2147483647 := ti_all x78
            refine lv_icmp_gt (tgt := 78) hx hb dX0_firstByMark_39 (by decide) (fun c80 => ?_) (fun c80 => ?_)
            · have t81 : x78.toInt < x67.toInt := ti_lt c80 rfl rfl
              refine lv_iload_n hx hb dX0_firstByMark_78 rfl (lv_at hl 0 rfl) ?_
              refine lv_istore_n (lv' := [(1, .int (nI i1)), (2, .int (nI i1)), (0, .ref o0)]) hx hb dX0_firstByMark_79 rfl hl (by decide) rfl (fun ls hl => ?_)
              refine lv_iinc (v := nI (i1 + 1)) (lv' := [(2, .int (nI (i1 + 1))), (1, .int (nI i1)), (0, .ref o0)]) hx hb dX0_firstByMark_80 hl (k := 1) rfl (nI_add i1 1) (by decide) rfl (fun ls hl => ?_)
              refine lv_goto (tgt := 4) hx hb dX0_firstByMark_83 (by decide) ?_
              exact ih55 (i1 + 1) (by omega) (by omega) (nI i1) ⟨(by have q9 := (show (nI i1).toInt = ((i1 : Nat) : Int) from (nI_toInt (by omega))); (try have q8 := ti_all (nI i1)); omega), (by have v9 : (vM i1).toInt = x67.toInt := (by rw [cx67, tn_nI (by omega)]); have b9 := (show (nI i1).toInt = ((i1 : Nat) : Int) from (nI_toInt (by omega))); rcases hj6 with ⟨h8, h7⟩ | ⟨h8, h6, h7⟩; (by_cases z9 : x67.toInt = -1; (exact Or.inl ⟨by omega, fun p hp => by by_cases e9 : p = i1; (rw [e9]; omega); exact h7 p (by omega)⟩); exact Or.inr ⟨by omega, by omega, i1, by omega, by omega⟩); exact Or.inr ⟨by omega, by omega, h7.elim (fun p hp => ⟨p, by have := hp.1; omega, hp.2⟩)⟩), (by omega)⟩ _ _ hT hF hS m4 m5 ls (lv_sub hl [0, 1, 2] rfl)
            · have t82 : x67.toInt ≤ x78.toInt := ti_nlt c80 rfl rfl
              refine lv_aload_n hx hb dX0_firstByMark_42 rfl (lv_at hl 2 rfl) ?_
              refine tw_getM (v := .ref mk9) hx hb hts bF2_X0 hown hK hT hr_o0 shc_3 rfl 6 (by decide) (ht_at2 hts 1 rfl) (fun _ h9 => h9) m5 dX0_firstByMark_43 ?_
              refine lv_iload_n hx hb dX0_firstByMark_46 rfl (lv_at hl 0 rfl) ?_
              refine tw_iald (i := (nI i1)) hx hb hK hT hr_mk9 shc_57 rfl (vp_in_nI (by omega) (by decide)) dX0_firstByMark_47 (fun v9 m83 h9 => ?_)
              obtain ⟨x84, rfl, gx84, kx84⟩ := h9
              have cx84 := m4.at m83 (by have q9 := tn_of (show (nI i1).toInt = ((i1 : Nat) : Int) from (nI_toInt (by omega))) (by omega); omega)
              obtain rfl : x67 = x84 := (el_same m83 m66 rfl).symm
              refine lv_aload_n hx hb dX0_firstByMark_48 rfl (lv_at hl 2 rfl) ?_
              refine tw_getM (v := .ref mk9) hx hb hts bF2_X0 hown hK hT hr_o0 shc_3 rfl 6 (by decide) (ht_at2 hts 1 rfl) (fun _ h9 => h9) m5 dX0_firstByMark_49 ?_
              refine lv_iload_n hx hb dX0_firstByMark_52 rfl (lv_at hl 1 rfl) ?_
              refine tw_iald (i := z2) hx hb hK hT hr_mk9 shc_57 rfl (vin_t (a := z2.toInt) rfl (by omega) (by omega)) dX0_firstByMark_53 (fun v9 m85 h9 => ?_)
              obtain ⟨x86, rfl, gx86, kx86⟩ := h9
              have cx86 := m4.at m85 (by have q9 := tn_of (show z2.toInt = z2.toInt from rfl) (by omega); omega)
              obtain rfl : x78 = x86 := (el_same m85 m77 rfl).symm
              refine lv_icmp_ne (tgt := 80) hx hb dX0_firstByMark_54 (by decide) (fun c87 => ?_) (fun c87 => ?_)
              · have t88 : x67.toInt ≠ x78.toInt := ti_ne c87 rfl rfl
                refine lv_iinc (v := nI (i1 + 1)) (lv' := [(2, .int (nI (i1 + 1))), (1, .int z2), (0, .ref o0)]) hx hb dX0_firstByMark_80 hl (k := 0) rfl (nI_add i1 1) (by decide) rfl (fun ls hl => ?_)
                refine lv_goto (tgt := 4) hx hb dX0_firstByMark_83 (by decide) ?_
                exact ih55 (i1 + 1) (by omega) (by omega) z2 ⟨(by have q9 := (show z2.toInt = z2.toInt from rfl); (try have q8 := ti_all z2); omega), (by have v9 : (vM i1).toInt = x67.toInt := (by rw [cx67, tn_nI (by omega)]); have b9 := (show z2.toInt = z2.toInt from rfl); rcases hj6 with ⟨h8, h7⟩ | ⟨h8, h6, h7⟩; (by_cases z9 : x67.toInt = -1; (exact Or.inl ⟨by omega, fun p hp => by by_cases e9 : p = i1; (rw [e9]; omega); exact h7 p (by omega)⟩); exact Or.inr ⟨by omega, by omega, i1, by omega, by omega⟩); exact Or.inr ⟨by omega, by omega, h7.elim (fun p hp => ⟨p, by have := hp.1; omega, hp.2⟩)⟩), (by omega)⟩ _ _ hT hF hS m4 m5 ls (lv_sub hl [0, 1, 2] rfl)
              · have t89 : x67.toInt = x78.toInt := ti_eq c87 rfl rfl
                refine lv_aload_n hx hb dX0_firstByMark_57 rfl (lv_at hl 2 rfl) ?_
                refine tw_get hx hb hts bF2_X0 hown hK hT hr_o0 shc_3 rfl 0 (by decide) (ht_at2 hts 2 rfl) (fun _ h9 => h9) dX0_firstByMark_58 (fun v9 m90 h9 => ?_)
                obtain ⟨b91, rfl, hg92⟩ := h9 _ rfl
                refine lv_iload_n hx hb dX0_firstByMark_61 rfl (lv_at hl 0 rfl) ?_
                refine tw_aald (i := (nI i1)) hx hb hK hT hg92 shc_51 rfl (vp_in_nI (by omega) (by decide)) dX0_firstByMark_62 (fun v9 m93 h9 => ?_)
                obtain ⟨b94, rfl, hg95⟩ := (h9.1 (by have q9 := tn_of (show (nI i1).toInt = ((i1 : Nat) : Int) from (nI_toInt (by omega))) (by omega); omega))
                refine tw_getN hx hb hts bF2_X7 hown hK hT hg95 shc_10 rfl 5 (by decide) (hE.nw 74 rfl) (fun _ h9 => h9) dX0_firstByMark_63 (fun v9 m96 h9 => ?_)
                obtain ⟨x97, rfl, gx97, kx97⟩ := h9 _ rfl
                refine lv_aload_n hx hb dX0_firstByMark_66 rfl (lv_at hl 2 rfl) ?_
                refine tw_getM (v := .ref b91) hx hb hts bF2_X0 hown hK hT hr_o0 shc_3 rfl 0 (by decide) (ht_at2 hts 2 rfl) (fun _ h9 => h9) m90 dX0_firstByMark_67 ?_
                refine lv_iload_n hx hb dX0_firstByMark_70 rfl (lv_at hl 1 rfl) ?_
                refine tw_aald (i := z2) hx hb hK hT hg92 shc_51 rfl (vin_t (a := z2.toInt) rfl (by omega) (by omega)) dX0_firstByMark_71 (fun v9 m98 h9 => ?_)
                obtain ⟨b99, rfl, hg100⟩ := (h9.1 (by have q9 := tn_of (show z2.toInt = z2.toInt from rfl) (by omega); omega))
                refine tw_getN hx hb hts bF2_X7 hown hK hT hg100 shc_10 rfl 5 (by decide) (hE.nw 74 rfl) (fun _ h9 => h9) dX0_firstByMark_72 (fun v9 m101 h9 => ?_)
                obtain ⟨x102, rfl, gx102, kx102⟩ := h9 _ rfl
                have t103 : -2147483648 ≤ x97.toInt ∧ x97.toInt ≤ 2147483647 := ti_all x97
                have t104 : -2147483648 ≤ x102.toInt ∧ x102.toInt ≤ 2147483647 := ti_all x102
                refine lv_icmp_ge (tgt := 80) hx hb dX0_firstByMark_75 (by decide) (fun c105 => ?_) (fun c105 => ?_)
                · have t106 : x102.toInt ≤ x97.toInt := ti_le c105 rfl rfl
                  refine lv_iinc (v := nI (i1 + 1)) (lv' := [(2, .int (nI (i1 + 1))), (1, .int z2), (0, .ref o0)]) hx hb dX0_firstByMark_80 hl (k := 0) rfl (nI_add i1 1) (by decide) rfl (fun ls hl => ?_)
                  refine lv_goto (tgt := 4) hx hb dX0_firstByMark_83 (by decide) ?_
                  exact ih55 (i1 + 1) (by omega) (by omega) z2 ⟨(by have q9 := (show z2.toInt = z2.toInt from rfl); (try have q8 := ti_all z2); omega), (by have v9 : (vM i1).toInt = x67.toInt := (by rw [cx67, tn_nI (by omega)]); have b9 := (show z2.toInt = z2.toInt from rfl); rcases hj6 with ⟨h8, h7⟩ | ⟨h8, h6, h7⟩; (by_cases z9 : x67.toInt = -1; (exact Or.inl ⟨by omega, fun p hp => by by_cases e9 : p = i1; (rw [e9]; omega); exact h7 p (by omega)⟩); exact Or.inr ⟨by omega, by omega, i1, by omega, by omega⟩); exact Or.inr ⟨by omega, by omega, h7.elim (fun p hp => ⟨p, by have := hp.1; omega, hp.2⟩)⟩), (by omega)⟩ _ _ hT hF hS m4 m5 ls (lv_sub hl [0, 1, 2] rfl)
                · have t107 : x97.toInt < x102.toInt := ti_nle c105 rfl rfl
                  refine lv_iload_n hx hb dX0_firstByMark_78 rfl (lv_at hl 0 rfl) ?_
                  refine lv_istore_n (lv' := [(1, .int (nI i1)), (2, .int (nI i1)), (0, .ref o0)]) hx hb dX0_firstByMark_79 rfl hl (by decide) rfl (fun ls hl => ?_)
                  refine lv_iinc (v := nI (i1 + 1)) (lv' := [(2, .int (nI (i1 + 1))), (1, .int (nI i1)), (0, .ref o0)]) hx hb dX0_firstByMark_80 hl (k := 1) rfl (nI_add i1 1) (by decide) rfl (fun ls hl => ?_)
                  refine lv_goto (tgt := 4) hx hb dX0_firstByMark_83 (by decide) ?_
                  exact ih55 (i1 + 1) (by omega) (by omega) (nI i1) ⟨(by have q9 := (show (nI i1).toInt = ((i1 : Nat) : Int) from (nI_toInt (by omega))); (try have q8 := ti_all (nI i1)); omega), (by have v9 : (vM i1).toInt = x67.toInt := (by rw [cx67, tn_nI (by omega)]); have b9 := (show (nI i1).toInt = ((i1 : Nat) : Int) from (nI_toInt (by omega))); rcases hj6 with ⟨h8, h7⟩ | ⟨h8, h6, h7⟩; (by_cases z9 : x67.toInt = -1; (exact Or.inl ⟨by omega, fun p hp => by by_cases e9 : p = i1; (rw [e9]; omega); exact h7 p (by omega)⟩); exact Or.inr ⟨by omega, by omega, i1, by omega, by omega⟩); exact Or.inr ⟨by omega, by omega, h7.elim (fun p hp => ⟨p, by have := hp.1; omega, hp.2⟩)⟩), (by omega)⟩ _ _ hT hF hS m4 m5 ls (lv_sub hl [0, 1, 2] rfl)
  exact key55 (60 - 0) 0 (by omega) (Nat.le_refl _) (-1) ⟨(by have q9 := (show (-1 : Int32).toInt = (-1) from (by decide)); (try have q8 := ti_all (-1 : Int32)); omega), (Or.inl ⟨by decide, fun p h => absurd h (Nat.not_lt_zero p)⟩), (by omega)⟩ _ _ hT hF hS hc_vM hm_mk9 ls (lv_sub hl [0, 1, 2] rfl)
def w_c_worthOfN : List Cond := .code yX0_worthOf cX0_worthOf 7 (some .int) :: (HAppend.hAppend (α := List Cond) (β := List Cond) (γ := List Cond) [.fieldLink RX0 17 "SeaLand$Board" "farmOf" "[I", .methodLink RX0 161 Lib.Math.max.name, .static Lib.Math.max.name, .initialized "java/lang/Math", .code Lib.Math.max.name Lib.Math.max.code 2 (some .int)] bs2)
set_option maxHeartbeats 4000000 in
set_option maxRecDepth 100000 in
theorem c_worthOfN (l : Launch) (dC : Nat → ClassId) (dI : Nat → Nat → Nat) (kA : Nat → ClassId) (adK adV : Nat → Nat) (G : gT) (H0 : Heap) (nC nS : Int) (o0 : Nat) (p0 : Int32) (p1 : Nat)  (hT : gH (dC, dI) kA (SHc nC nS) G H0) (hr_p1 : G p1 = some 5) (hr_o0 : G o0 = some 3) (hgC : 0 ≤ nC ∧ nC ≤ 40) (hgS : 0 ≤ nS ∧ nS ≤ 60) : Met l yX0_worthOf w_c_worthOfN ({ frames := 1, cells := 0, slots := 0, locals := 40 }) (va_Pc [.ref o0, .int p0, .ref p1] (fun U => U.heap = H0 ∧ va_K (dC, dI) vwCl (tyl kA) U ∧ EVC adK adV (gA G H0.size) U U.heap)) (va_Qi (fun (r : Int32) (u : Unit) => (0 ≤ r.toInt ∧ r.toInt ≤ 2061598656)) (fun (_ : Unit) (t : State) => gH (dC, dI) kA (SHc nC nS) G t.heap ∧ gF (dC, dI) SKc G ([] : List (Nat × Nat)) H0 t.heap) (gA G H0.size)) 0 0 (gA G H0.size) := by
  refine Met.ofW (cc := cX0_worthOf) (maxL := 7) (ret := (some .int)) (by decide) rfl ?_
  intro p e s m args below meth c s₁ B hml hv
  obtain ⟨rfl, hH0, hK, hE⟩ := hv
  have hx := B.exec
  have hb := B.bytes
  have hr := B.returns
  have hts := atoms_spec (ws := w_c_worthOfN) B.pre
  have hown : s.vm.findClass RX0 = some m.cls := findClass_of_methodNamed B.named
  have hlocks := B.notSynchronized
  subst hH0
  generalize hAe : gA G s.heap.size = A at hE ⊢
  have hA : ∀ q : Nat, s.heap.size ≤ q → A q := fun q h => by rw [← hAe]; exact Or.inr h
  have hG := gA_of hAe
  have hS : va_S A s.heap s.heap [] := va_S.rf
  have hF : gF (dC, dI) SKc G ([] : List (Nat × Nat)) s.heap s.heap := gF.rf
  have hl := lv_entry ([.ref o0, .int p0, .ref p1]) (n := 7) (Nat.le_of_ble_eq_true rfl)
  rw [lg_entry_eq]
  generalize (lg_sl ([.ref o0, .int p0, .ref p1]) ++ List.replicate (7 - (lg_sl ([.ref o0, .int p0, .ref p1])).length) Slot.unset).toArray = ls at hl ⊢
  have hl : lv_has ls 7 [(0, .ref o0), (1, .int p0), (2, .ref p1)] := hl
  refine lv_iconst (v := 0) hx hb dX0_worthOf_0 (by decide) ?_
  refine lv_istore_n (lv' := [(3, .int 0), (0, .ref o0), (1, .int p0), (2, .ref p1)]) hx hb dX0_worthOf_1 rfl hl (by decide) rfl (fun ls hl => ?_)
  refine lv_iconst (v := 0) hx hb dX0_worthOf_2 (by decide) ?_
  refine lv_istore (lv' := [(4, .int 0), (3, .int 0), (0, .ref o0), (1, .int p0), (2, .ref p1)]) hx hb dX0_worthOf_3 hl (by decide) rfl (fun ls hl => ?_)
  have key54 : ∀ (n54 i1 : Nat), i1 + n54 = 96 → 0 ≤ i1 → ∀ (z2 : Int32), ((0 ≤ z2.toInt ∧ z2.toInt ≤ 2061598656) ∧ (z2.toInt ≤ 21474986 * ((i1 : Nat) : Int))) → ∀ (H : Heap) (locs : List Loc), gH (dC, dI) kA (SHc nC nS) G H → gF (dC, dI) SKc G ([] : List (Nat × Nat)) s.heap H → va_S A s.heap H locs → ∀ ls : Array Slot, lv_has ls 7 [(4, .int (nI i1)), (3, .int z2), (0, .ref o0), (1, .int p0), (2, .ref p1)] → W p l e (headSpec w_c_worthOfN ({ frames := 1, cells := 0, slots := 0, locals := 40 })).room s m #[.ref o0, .int p0, .ref p1] below meth c H locs 0 0 (MQ below (va_Qi (fun (r : Int32) (u : Unit) => (0 ≤ r.toInt ∧ r.toInt ≤ 2061598656)) (fun (_ : Unit) (t : State) => gH (dC, dI) kA (SHc nC nS) G t.heap ∧ gF (dC, dI) SKc G ([] : List (Nat × Nat)) s.heap t.heap) A) #[.ref o0, .int p0, .ref p1] s 0 0 A) (F0 m 5 ls []) := by
    intro n54
    induction n54 with
    | zero =>
      intro i1 hn54 hlo55 z2 ⟨h3, hj4⟩ H locs hT hF hS  ls hl
      obtain rfl : 96 = i1 := by omega
      refine lv_iload hx hb dX0_worthOf_5 (lv_at hl 0 rfl) ?_
      refine lv_bipush (v := 96) hx hb dX0_worthOf_7 (by decide) ?_
      refine lv_icmp_ge (tgt := 84) hx hb dX0_worthOf_9 (by decide) (fun c56 => ?_) (fun c56 => (by exfalso; have q9 : ((96 : Nat) : Int) < 96 := ti_nle c56 (by decide) (nI_toInt (by omega)); omega))
      have t57 : 96 ≤ ((96 : Nat) : Int) := ti_le c56 (by decide) (nI_toInt (by omega))
      refine lv_iload_n hx hb dX0_worthOf_84 rfl (lv_at hl 1 rfl) ?_
      exact W.iret (v := z2) hx hb hr (fun t ht hW => ⟨⟨z2, (), rfl, (by exact (by have q8 := ti_all z2; omega)), by (try dsimp only); rw [ht]; exact ⟨hT, hF⟩⟩, hS.F ht⟩) hS.2.2 dX0_worthOf_85
    | succ n54 ih54 =>
      intro i1 hn54 hlo55 z2 ⟨h3, hj4⟩ H locs hT hF hS  ls hl
      have hlt57 : i1 < 96 := by omega
      refine lv_iload hx hb dX0_worthOf_5 (lv_at hl 0 rfl) ?_
      refine lv_bipush (v := 96) hx hb dX0_worthOf_7 (by decide) ?_
      refine lv_icmp_ge (tgt := 84) hx hb dX0_worthOf_9 (by decide) (fun c58 => (by exfalso; have q9 : 96 ≤ ((i1 : Nat) : Int) := ti_le c58 (by decide) (nI_toInt (by omega)); omega)) (fun c58 => ?_)
      have t59 : ((i1 : Nat) : Int) < 96 := ti_nle c58 (by decide) (nI_toInt (by omega))
      refine lv_aload_n hx hb dX0_worthOf_12 rfl (lv_at hl 2 rfl) ?_
      refine tw_get hx hb hts bF2_X0 hown hK hT hr_o0 shc_3 rfl 1 (by decide) (ht_at2 hts 0 rfl) (fun _ h9 => h9) dX0_worthOf_13 (fun v9 m60 h9 => ?_)
      obtain ⟨b61, rfl, hg62⟩ := h9 _ rfl
      refine lv_iload hx hb dX0_worthOf_16 (lv_at hl 0 rfl) ?_
      refine tw_iald (i := (nI i1)) hx hb hK hT hg62 shc_52 rfl (vp_in_nI (by omega) (by decide)) dX0_worthOf_18 (fun v9 m63 h9 => ?_)
      obtain ⟨x64, rfl, gx64, kx64⟩ := h9
      refine lv_iload_n hx hb dX0_worthOf_19 rfl (lv_at hl 3 rfl) ?_
      have t65 : -2147483648 ≤ x64.toInt ∧ x64.toInt ≤ 2147483647 := ti_all x64
      have t66 : -2147483648 ≤ p0.toInt ∧ p0.toInt ≤ 2147483647 := ti_all p0
      refine lv_icmp_ne (tgt := 78) hx hb dX0_worthOf_20 (by decide) (fun c67 => ?_) (fun c67 => ?_)
      · have t68 : x64.toInt ≠ p0.toInt := ti_ne c67 rfl rfl
        refine lv_iinc (v := nI (i1 + 1)) (lv' := [(4, .int (nI (i1 + 1))), (3, .int z2), (0, .ref o0), (1, .int p0), (2, .ref p1)]) hx hb dX0_worthOf_78 hl (k := 0) rfl (nI_add i1 1) (by decide) rfl (fun ls hl => ?_)
        refine lv_goto (tgt := 5) hx hb dX0_worthOf_81 (by decide) ?_
        exact ih54 (i1 + 1) (by omega) (by omega) z2 ⟨(by have q9 := (show z2.toInt = z2.toInt from rfl); (try have q8 := ti_all z2); omega), (by have := (show z2.toInt = z2.toInt from rfl); omega)⟩ _ _ hT hF hS ls (lv_sub hl [0, 1, 2, 3, 4] rfl)
      · have t69 : x64.toInt = p0.toInt := ti_eq c67 rfl rfl
        refine lv_aload_n hx hb dX0_worthOf_23 rfl (lv_at hl 4 rfl) ?_
        refine tw_getN hx hb hts bF2_X2 hown hK hT hr_p1 shc_5 rfl 2 (by decide) (hE.nw 71 rfl) (fun _ h9 => h9) dX0_worthOf_24 (fun v9 m70 h9 => ?_)
        obtain ⟨b71, rfl, hg72⟩ := h9 _ rfl
        refine lv_iload hx hb dX0_worthOf_27 (lv_at hl 0 rfl) ?_
        refine tw_iald (i := (nI i1)) hx hb hK hT hg72 shc_27 rfl (vp_in_nI (by omega) (by decide)) dX0_worthOf_29 (fun v9 m73 h9 => ?_)
        obtain ⟨x74, rfl, gx74, kx74⟩ := h9
        refine lv_istore (lv' := [(5, .int x74), (4, .int (nI i1)), (3, .int z2), (0, .ref o0), (1, .int p0), (2, .ref p1)]) hx hb dX0_worthOf_30 hl (by decide) rfl (fun ls hl => ?_)
        refine lv_iload hx hb dX0_worthOf_32 (lv_at hl 0 rfl) ?_
        have jn85 : ∀ (z79 : Int32), ((60 ≤ z79.toInt ∧ z79.toInt ≤ 150)) → ∀ (H : Heap) (locs : List Loc), gH (dC, dI) kA (SHc nC nS) G H → gF (dC, dI) SKc G ([] : List (Nat × Nat)) s.heap H → va_S A s.heap H locs → el H o0 (dI 3 1) = some (.ref b61) → el H b61 (nI i1).toNatClampNeg = some (.int x64) → el H p1 (dI 5 2) = some (.ref b71) → el H b71 (nI i1).toNatClampNeg = some (.int x74) → ∀ ls : Array Slot, lv_has ls 7 [(5, .int x74), (4, .int (nI i1)), (3, .int z2), (0, .ref o0), (1, .int p0), (2, .ref p1)] → W p l e (headSpec w_c_worthOfN ({ frames := 1, cells := 0, slots := 0, locals := 40 })).room s m #[.ref o0, .int p0, .ref p1] below meth c H locs 0 0 (MQ below (va_Qi (fun (r : Int32) (u : Unit) => (0 ≤ r.toInt ∧ r.toInt ≤ 2061598656)) (fun (_ : Unit) (t : State) => gH (dC, dI) kA (SHc nC nS) G t.heap ∧ gF (dC, dI) SKc G ([] : List (Nat × Nat)) s.heap t.heap) A) #[.ref o0, .int p0, .ref p1] s 0 0 A) (F0 m 56 ls [.int z79]) := by
          intro z79 h80 H locs hT hF hS m81 m82 m83 m84 ls hl
          refine lv_istore (lv' := [(6, .int z79), (5, .int x74), (4, .int (nI i1)), (3, .int z2), (0, .ref o0), (1, .int p0), (2, .ref p1)]) hx hb dX0_worthOf_56 hl (by decide) rfl (fun ls hl => ?_)
          refine lv_iload_n hx hb dX0_worthOf_58 rfl (lv_at hl 3 rfl) ?_
          refine lv_iconst (v := 0) hx hb dX0_worthOf_59 (by decide) ?_
          refine lv_iload hx hb dX0_worthOf_60 (lv_at hl 0 rfl) ?_
          refine lv_aload_n hx hb dX0_worthOf_62 rfl (lv_at hl 6 rfl) ?_
          refine tw_getN hx hb hts bF2_X2 hown hK hT hr_p1 shc_5 rfl 5 (by decide) (hE.nw 72 rfl) (fun _ h9 => h9) dX0_worthOf_63 (fun v9 m86 h9 => ?_)
          obtain ⟨b87, rfl, hg88⟩ := h9 _ rfl
          refine lv_iload hx hb dX0_worthOf_66 (lv_at hl 2 rfl) ?_
          refine tw_iald (i := (nI i1)) hx hb hK hT hg88 shc_30 rfl (vp_in_nI (by omega) (by decide)) dX0_worthOf_68 (fun v9 m89 h9 => ?_)
          obtain ⟨x90, rfl, gx90, kx90⟩ := h9
          refine lv_bipush (v := 100) hx hb dX0_worthOf_69 (by decide) ?_
          have t91 : -2147483648 ≤ x90.toInt ∧ x90.toInt ≤ 2147483647 := ti_all x90
          refine lv_idiv hx hb dX0_worthOf_71 (by decide) ?_
          refine lv_topi (fun x92 ex92 => ?_)
          have t93 : (0 ≤ x90.toInt ∧ x92.toInt = x90.toInt / 100) ∨ (x90.toInt < 0 ∧ x92.toInt = -((-x90.toInt) / 100)) := ti_divs ex92 rfl (by decide) (by decide)
          refine lv_isub hx hb dX0_worthOf_72 ?_
          refine lv_topi (fun x94 ex94 => ?_)
          have t95 : x94.toInt = z79.toInt - x92.toInt := ti_sub ex94 rfl rfl (by omega) (by omega)
          refine va_mmax hx hb (hml.trans hl.1.symm) hown (ht_at2 hts 1 rfl) (ht_at2 hts 2 rfl) (ht_at2 hts 3 rfl) (ht_at2 hts 4 rfl) (Nat.le_of_ble_eq_true rfl) (Nat.le_of_ble_eq_true rfl) (Nat.le_of_ble_eq_true rfl) (Nat.le_of_ble_eq_true rfl) dX0_worthOf_73 ?_
          refine lv_topi (fun x96 ex96 => ?_)
          have t97 : 0 ≤ x96.toInt ∧ x94.toInt ≤ x96.toInt ∧ (x96.toInt = 0 ∨ x96.toInt = x94.toInt) := mx_f ex96 (by decide) rfl
          refine lv_iadd hx hb dX0_worthOf_76 ?_
          refine lv_topi (fun x98 ex98 => ?_)
          have t99 : x98.toInt = z2.toInt + x96.toInt := ti_add ex98 rfl rfl (by omega) (by omega)
          refine lv_istore_n (lv' := [(3, .int x98), (6, .int z79), (5, .int x74), (4, .int (nI i1)), (0, .ref o0), (1, .int p0), (2, .ref p1)]) hx hb dX0_worthOf_77 rfl hl (by decide) rfl (fun ls hl => ?_)
          refine lv_iinc (v := nI (i1 + 1)) (lv' := [(4, .int (nI (i1 + 1))), (3, .int x98), (6, .int z79), (5, .int x74), (0, .ref o0), (1, .int p0), (2, .ref p1)]) hx hb dX0_worthOf_78 hl (k := 3) rfl (nI_add i1 1) (by decide) rfl (fun ls hl => ?_)
          refine lv_goto (tgt := 5) hx hb dX0_worthOf_81 (by decide) ?_
          exact ih54 (i1 + 1) (by omega) (by omega) x98 ⟨(by have q9 := (show x98.toInt = x98.toInt from rfl); (try have q8 := ti_all x98); omega), (by have := (show x98.toInt = x98.toInt from rfl); omega)⟩ _ _ hT hF hS ls (lv_sub hl [0, 1, 4, 5, 6] rfl)
        have t100 : -2147483648 ≤ x74.toInt ∧ x74.toInt ≤ 2147483647 := ti_all x74
        refine lv_if_ne (tgt := 42) hx hb dX0_worthOf_34 (by decide) (fun c101 => ?_) (fun c101 => ?_)
        · have t102 : x74.toInt ≠ 0 := ti_ne c101 rfl (by decide)
          refine lv_iload hx hb dX0_worthOf_42 (lv_at hl 0 rfl) ?_
          refine lv_iconst (v := 1) hx hb dX0_worthOf_44 (by decide) ?_
          refine lv_icmp_ne (tgt := 54) hx hb dX0_worthOf_45 (by decide) (fun c103 => ?_) (fun c103 => ?_)
          · have t104 : x74.toInt ≠ 1 := ti_ne c103 rfl (by decide)
            refine lv_bipush (v := 60) hx hb dX0_worthOf_54 (by decide) ?_
            exact jn85 60 (rg_t (a := 60) (by decide) (by first | decide | omega) (by first | decide | omega)) _ _ hT hF hS m60 m63 m70 m73 ls (lv_sub hl [0, 1, 2, 3, 4, 5] rfl)
          · have t105 : x74.toInt = 1 := ti_eq c103 rfl (by decide)
            refine lv_sipush (v := 150) hx hb dX0_worthOf_48 (by decide) ?_
            refine lv_goto (tgt := 56) hx hb dX0_worthOf_51 (by decide) ?_
            exact jn85 150 (rg_t (a := 150) (by decide) (by first | decide | omega) (by first | decide | omega)) _ _ hT hF hS m60 m63 m70 m73 ls (lv_sub hl [0, 1, 2, 3, 4, 5] rfl)
        · have t106 : x74.toInt = 0 := ti_eq c101 rfl (by decide)
          refine lv_bipush (v := 100) hx hb dX0_worthOf_37 (by decide) ?_
          refine lv_goto (tgt := 56) hx hb dX0_worthOf_39 (by decide) ?_
          exact jn85 100 (rg_t (a := 100) (by decide) (by first | decide | omega) (by first | decide | omega)) _ _ hT hF hS m60 m63 m70 m73 ls (lv_sub hl [0, 1, 2, 3, 4, 5] rfl)
  exact key54 (96 - 0) 0 (by omega) (Nat.le_refl _) 0 ⟨(by have q9 := (show (0 : Int32).toInt = 0 from (by decide)); (try have q8 := ti_all (0 : Int32)); omega), (by have := (show (0 : Int32).toInt = 0 from (by decide)); omega)⟩ _ _ hT hF hS ls (lv_sub hl [0, 1, 2, 3, 4] rfl)
def w_c_bestFreeFarmZ : List Cond := .code yX0_bestFreeFarm cX0_bestFreeFarm 6 (some .int) :: (HAppend.hAppend (α := List Cond) (β := List Cond) (γ := List Cond) [.fieldLink RX0 143 "SeaLand$Board" "farms" "I", .fieldLink RX0 24 "SeaLand$Board" "held" "[Z", .code yX0_worthOf cX0_worthOf 7 (some .int), .fieldLink RX0 17 "SeaLand$Board" "farmOf" "[I", .methodLink RX0 161 Lib.Math.max.name, .static Lib.Math.max.name, .initialized "java/lang/Math", .code Lib.Math.max.name Lib.Math.max.code 2 (some .int), .methodLink RX0 191 yX0_worthOf, .instanceMethod yX0_worthOf, .selects RX0 yX0_worthOf yX0_worthOf, .initialized RX0] bs2)
set_option maxHeartbeats 4000000 in
set_option maxRecDepth 100000 in
theorem c_bestFreeFarmZ (l : Launch) (dC : Nat → ClassId) (dI : Nat → Nat → Nat) (kA : Nat → ClassId) (adK adV : Nat → Nat) (G : gT) (H0 : Heap) (nC nS : Int) (o0 : Nat) (p0 : Nat) (hd9 : Nat) (fm : Int32) (vh : Nat → Int32)  (hT : gH (dC, dI) kA (SHc nC nS) G H0) (hr_p0 : G p0 = some 5) (hr_o0 : G o0 = some 3) (hm_hd9 : el H0 o0 (dI 3 3) = some (.ref hd9)) (hr_hd9 : G hd9 = some 54) (hm_fm : el H0 o0 (dI 3 16) = some (.int fm)) (hq0 : 0 ≤ fm.toInt ∧ fm.toInt ≤ 30) (hnh : ∀ f : Nat, f < 30 → (vh f).toInt = 0) (hc_vh : ct H0 hd9 30 vh) (hgC : 0 ≤ nC ∧ nC ≤ 40) (hgS : 0 ≤ nS ∧ nS ≤ 60) : Met l yX0_bestFreeFarm w_c_bestFreeFarmZ ({ frames := 2, cells := 0, slots := 0, locals := 66 }) (va_Pc [.ref o0, .ref p0] (fun U => U.heap = H0 ∧ va_K (dC, dI) vwCl (tyl kA) U ∧ EVC adK adV (gA G H0.size) U U.heap)) (va_Qi (fun (r : Int32) (u : Unit) => (-1 ≤ r.toInt ∧ r.toInt ≤ 29) ∧ ((fm.toInt = 0 ∧ r.toInt = -1) ∨ (0 < fm.toInt ∧ 0 ≤ r.toInt))) (fun (_ : Unit) (t : State) => gH (dC, dI) kA (SHc nC nS) G t.heap ∧ gF (dC, dI) SKc G ([] : List (Nat × Nat)) H0 t.heap) (gA G H0.size)) 0 0 (gA G H0.size) := by
  refine Met.ofW (cc := cX0_bestFreeFarm) (maxL := 6) (ret := (some .int)) (by decide) rfl ?_
  intro p e s m args below meth c s₁ B hml hv
  obtain ⟨rfl, hH0, hK, hE⟩ := hv
  have hx := B.exec
  have hb := B.bytes
  have hr := B.returns
  have hts := atoms_spec (ws := w_c_bestFreeFarmZ) B.pre
  have hown : s.vm.findClass RX0 = some m.cls := findClass_of_methodNamed B.named
  have hlocks := B.notSynchronized
  subst hH0
  generalize hAe : gA G s.heap.size = A at hE ⊢
  have hA : ∀ q : Nat, s.heap.size ≤ q → A q := fun q h => by rw [← hAe]; exact Or.inr h
  have hG := gA_of hAe
  have hS : va_S A s.heap s.heap [] := va_S.rf
  have hF : gF (dC, dI) SKc G ([] : List (Nat × Nat)) s.heap s.heap := gF.rf
  have hl := lv_entry ([.ref o0, .ref p0]) (n := 6) (Nat.le_of_ble_eq_true rfl)
  rw [lg_entry_eq]
  generalize (lg_sl ([.ref o0, .ref p0]) ++ List.replicate (6 - (lg_sl ([.ref o0, .ref p0])).length) Slot.unset).toArray = ls at hl ⊢
  have hl : lv_has ls 6 [(0, .ref o0), (1, .ref p0)] := hl
  refine lv_iconst (v := (-1)) hx hb dX0_bestFreeFarm_0 (by decide) ?_
  refine lv_istore_n (lv' := [(2, .int (-1)), (0, .ref o0), (1, .ref p0)]) hx hb dX0_bestFreeFarm_1 rfl hl (by decide) rfl (fun ls hl => ?_)
  refine lv_iconst (v := (-1)) hx hb dX0_bestFreeFarm_2 (by decide) ?_
  refine lv_istore_n (lv' := [(3, .int (-1)), (2, .int (-1)), (0, .ref o0), (1, .ref p0)]) hx hb dX0_bestFreeFarm_3 rfl hl (by decide) rfl (fun ls hl => ?_)
  refine lv_iconst (v := 0) hx hb dX0_bestFreeFarm_4 (by decide) ?_
  refine lv_istore (lv' := [(4, .int 0), (3, .int (-1)), (2, .int (-1)), (0, .ref o0), (1, .ref p0)]) hx hb dX0_bestFreeFarm_5 hl (by decide) rfl (fun ls hl => ?_)
  have key29 : ∀ (n29 i1 : Nat), i1 + n29 = 30 → 0 ≤ i1 → ∀ (z2 : Int32), ∀ (z4 : Int32), ((-1 ≤ z2.toInt ∧ z2.toInt ≤ 2061598656) ∧ (-1 ≤ z4.toInt ∧ z4.toInt ≤ 29) ∧ ((((i1 : Nat) : Int) = 0 ∧ z4.toInt = -1 ∧ z2.toInt = -1) ∨ (1 ≤ ((i1 : Nat) : Int) ∧ 0 ≤ z4.toInt ∧ 0 ≤ z2.toInt)) ∧ (((i1 : Nat) : Int) ≤ fm.toInt)) → ∀ (H : Heap) (locs : List Loc), gH (dC, dI) kA (SHc nC nS) G H → gF (dC, dI) SKc G ([] : List (Nat × Nat)) s.heap H → va_S A s.heap H locs → ct H hd9 30 vh → el H o0 (dI 3 3) = some (.ref hd9) → el H o0 (dI 3 16) = some (.int fm) → ∀ ls : Array Slot, lv_has ls 6 [(4, .int (nI i1)), (3, .int z2), (2, .int z4), (0, .ref o0), (1, .ref p0)] → W p l e (headSpec w_c_bestFreeFarmZ ({ frames := 2, cells := 0, slots := 0, locals := 66 })).room s m #[.ref o0, .ref p0] below meth c H locs 0 0 (MQ below (va_Qi (fun (r : Int32) (u : Unit) => (-1 ≤ r.toInt ∧ r.toInt ≤ 29) ∧ ((fm.toInt = 0 ∧ r.toInt = -1) ∨ (0 < fm.toInt ∧ 0 ≤ r.toInt))) (fun (_ : Unit) (t : State) => gH (dC, dI) kA (SHc nC nS) G t.heap ∧ gF (dC, dI) SKc G ([] : List (Nat × Nat)) s.heap t.heap) A) #[.ref o0, .ref p0] s 0 0 A) (F0 m 7 ls []) := by
    intro n29
    induction n29 with
    | zero =>
      intro i1 hn29 hlo30 z2 z4 ⟨h3, h5, hj9, hj10⟩ H locs hT hF hS m6 m7 m8 ls hl
      obtain rfl : 30 = i1 := by omega
      refine lv_iload hx hb dX0_bestFreeFarm_7 (lv_at hl 0 rfl) ?_
      refine lv_aload_n hx hb dX0_bestFreeFarm_9 rfl (lv_at hl 3 rfl) ?_
      refine tw_getM (v := .int fm) hx hb hts bF2_X0 hown hK hT hr_o0 shc_3 rfl 16 (by decide) (ht_at2 hts 0 rfl) (fun _ h9 => h9) m8 dX0_bestFreeFarm_10 ?_
      refine lv_icmp_ge (tgt := 57) hx hb dX0_bestFreeFarm_13 (by decide) (fun c31 => ?_) (fun c31 => (by exfalso; have q9 : ((30 : Nat) : Int) < fm.toInt := ti_nle c31 rfl (nI_toInt (by omega)); omega))
      have t32 : fm.toInt ≤ ((30 : Nat) : Int) := ti_le c31 rfl (nI_toInt (by omega))
      refine lv_iload_n hx hb dX0_bestFreeFarm_57 rfl (lv_at hl 2 rfl) ?_
      exact W.iret (v := z4) hx hb hr (fun t ht hW => ⟨⟨z4, (), rfl, (by exact ⟨(by have q8 := ti_all z4; omega), (by omega)⟩), by (try dsimp only); rw [ht]; exact ⟨hT, hF⟩⟩, hS.F ht⟩) hS.2.2 dX0_bestFreeFarm_58
    | succ n29 ih29 =>
      intro i1 hn29 hlo30 z2 z4 ⟨h3, h5, hj9, hj10⟩ H locs hT hF hS m6 m7 m8 ls hl
      have hlt32 : i1 < 30 := by omega
      refine lv_iload hx hb dX0_bestFreeFarm_7 (lv_at hl 0 rfl) ?_
      refine lv_aload_n hx hb dX0_bestFreeFarm_9 rfl (lv_at hl 3 rfl) ?_
      refine tw_getM (v := .int fm) hx hb hts bF2_X0 hown hK hT hr_o0 shc_3 rfl 16 (by decide) (ht_at2 hts 0 rfl) (fun _ h9 => h9) m8 dX0_bestFreeFarm_10 ?_
      refine lv_icmp_ge (tgt := 57) hx hb dX0_bestFreeFarm_13 (by decide) (fun c33 => ?_) (fun c33 => ?_)
      · have t34 : fm.toInt ≤ ((i1 : Nat) : Int) := ti_le c33 rfl (nI_toInt (by omega))
        refine lv_iload_n hx hb dX0_bestFreeFarm_57 rfl (lv_at hl 2 rfl) ?_
        exact W.iret (v := z4) hx hb hr (fun t ht hW => ⟨⟨z4, (), rfl, (by exact ⟨(by have q8 := ti_all z4; omega), (by omega)⟩), by (try dsimp only); rw [ht]; exact ⟨hT, hF⟩⟩, hS.F ht⟩) hS.2.2 dX0_bestFreeFarm_58
      · have t35 : ((i1 : Nat) : Int) < fm.toInt := ti_nle c33 rfl (nI_toInt (by omega))
        refine lv_aload_n hx hb dX0_bestFreeFarm_16 rfl (lv_at hl 3 rfl) ?_
        refine tw_getM (v := .ref hd9) hx hb hts bF2_X0 hown hK hT hr_o0 shc_3 rfl 3 (by decide) (ht_at2 hts 1 rfl) (fun _ h9 => h9) m7 dX0_bestFreeFarm_17 ?_
        refine lv_iload hx hb dX0_bestFreeFarm_20 (lv_at hl 0 rfl) ?_
        refine tw_zald (i := (nI i1)) hx hb hK hT hr_hd9 shc_54 rfl (vp_in_nI (by omega) (by decide)) dX0_bestFreeFarm_22 (fun v9 m36 h9 => ?_)
        obtain ⟨x37, rfl, gx37, kx37⟩ := h9
        have cx37 := m6.at m36 (by have q9 := tn_of (show (nI i1).toInt = ((i1 : Nat) : Int) from (nI_toInt (by omega))) (by omega); omega)
        have t38 : x37.toInt = 0 := (by rw [cx37, tn_nI (by omega)]; exact hnh i1 (by omega))
        refine lv_if_eq (tgt := 30) hx hb dX0_bestFreeFarm_23 (by decide) (fun c39 => ?_) (fun c39 => (by exfalso; have q9 : x37.toInt ≠ 0 := ti_ne c39 rfl (by decide); omega))
        have t40 : x37.toInt = 0 := ti_eq c39 rfl (by decide)
        refine lv_aload_n hx hb dX0_bestFreeFarm_30 rfl (lv_at hl 3 rfl) ?_
        refine lv_iload hx hb dX0_bestFreeFarm_31 (lv_at hl 0 rfl) ?_
        refine lv_aload_n hx hb dX0_bestFreeFarm_33 rfl (lv_at hl 4 rfl) ?_
        have hFc := gA_free hG hA hS
        refine va_calli (va_runV (As := [.int (nI i1), .ref p0]) (rest := []) ⟨hx, hb, hml, hown, hts⟩ (c_worthOfN l dC dI kA adK adV G H nC nS o0 (nI i1) p0 hT hr_p0 hr_o0 (by omega) (by omega)) (cwV 2 hts (goodIn_app (goodIn_r _ [9, 10, 11, 12] rfl (by decide +kernel)) (goodIn_ca (goodIn_r _ [3, 4, 5, 6, 7, 8] rfl (by decide +kernel)) (bs2_in _ _))) rfl rfl rfl (by decide +kernel) ⟨(Nat.le_of_ble_eq_true rfl), (Nat.le_of_ble_eq_true rfl)⟩) ⟨fun a U g mk q => by obtain ⟨q0, q1, qK, qE⟩ := q; exact ⟨q0, q1, va_K.moved (u := U) (U := U.calling g mk a) (Vm.Alike.refl U.vm) qK, EVC.blind g mk a qE⟩, gH_rc hK hT hr_o0 shc_3 rfl, fun U hU hW => ⟨rfl, hU, va_K.moved hW.alike hK, hE.call hS hFc hU hW⟩⟩ rfl rfl hl.1 rfl (lv_room (Nat.le_of_ble_eq_true rfl)) dX0_bestFreeFarm_34 ⟨(Nat.le_of_ble_eq_true rfl), (Nat.le_of_ble_eq_true rfl)⟩) hS (fun q _ h => hFc q h) hFc (fun r41 u t H locs ht hvm hw42 hB _ _ hS => ?_)
        obtain ⟨hT, hF1⟩ := hB
        rw [ht] at hT hF1
        have m43 := m6.kept (hF1.arr hr_hd9 skc_54 (by decide))
        have m44 := (hF1.fld hr_o0 skc_3 (k := 3) (by decide) (by decide)).trans m7
        have m45 := (hF1.fld hr_o0 skc_3 (k := 16) (by decide) (by decide)).trans m8
        have hF := hF.more hF1 (by decide)
        try dsimp only at hw42
        have h47 := hw42
        refine lv_istore (lv' := [(5, .int r41), (4, .int (nI i1)), (3, .int z2), (2, .int z4), (0, .ref o0), (1, .ref p0)]) hx hb dX0_bestFreeFarm_37 hl (by decide) rfl (fun ls hl => ?_)
        refine lv_iload hx hb dX0_bestFreeFarm_39 (lv_at hl 0 rfl) ?_
        refine lv_iload_n hx hb dX0_bestFreeFarm_41 rfl (lv_at hl 2 rfl) ?_
        refine lv_icmp_le (tgt := 51) hx hb dX0_bestFreeFarm_42 (by decide) (fun c48 => ?_) (fun c48 => ?_)
        · have t49 : r41.toInt ≤ z2.toInt := ti_le c48 rfl rfl
          refine lv_iinc (v := nI (i1 + 1)) (lv' := [(4, .int (nI (i1 + 1))), (5, .int r41), (3, .int z2), (2, .int z4), (0, .ref o0), (1, .ref p0)]) hx hb dX0_bestFreeFarm_51 hl (k := 1) rfl (nI_add i1 1) (by decide) rfl (fun ls hl => ?_)
          refine lv_goto (tgt := 7) hx hb dX0_bestFreeFarm_54 (by decide) ?_
          exact ih29 (i1 + 1) (by omega) (by omega) z2 z4 ⟨(by have q9 := (show z2.toInt = z2.toInt from rfl); (try have q8 := ti_all z2); omega), (by have q9 := (show z4.toInt = z4.toInt from rfl); (try have q8 := ti_all z4); omega), (by have b9 := (show z4.toInt = z4.toInt from rfl); have mzq := (show z2.toInt = z2.toInt from rfl); omega), (by omega)⟩ _ _ hT hF hS m43 m44 m45 ls (lv_sub hl [0, 2, 3, 4, 5] rfl)
        · have t50 : z2.toInt < r41.toInt := ti_nle c48 rfl rfl
          refine lv_iload hx hb dX0_bestFreeFarm_45 (lv_at hl 0 rfl) ?_
          refine lv_istore_n (lv' := [(3, .int r41), (5, .int r41), (4, .int (nI i1)), (2, .int z4), (0, .ref o0), (1, .ref p0)]) hx hb dX0_bestFreeFarm_47 rfl hl (by decide) rfl (fun ls hl => ?_)
          refine lv_iload hx hb dX0_bestFreeFarm_48 (lv_at hl 2 rfl) ?_
          refine lv_istore_n (lv' := [(2, .int (nI i1)), (3, .int r41), (5, .int r41), (4, .int (nI i1)), (0, .ref o0), (1, .ref p0)]) hx hb dX0_bestFreeFarm_50 rfl hl (by decide) rfl (fun ls hl => ?_)
          refine lv_iinc (v := nI (i1 + 1)) (lv' := [(4, .int (nI (i1 + 1))), (2, .int (nI i1)), (3, .int r41), (5, .int r41), (0, .ref o0), (1, .ref p0)]) hx hb dX0_bestFreeFarm_51 hl (k := 3) rfl (nI_add i1 1) (by decide) rfl (fun ls hl => ?_)
          refine lv_goto (tgt := 7) hx hb dX0_bestFreeFarm_54 (by decide) ?_
          exact ih29 (i1 + 1) (by omega) (by omega) r41 (nI i1) ⟨(by have q9 := (show r41.toInt = r41.toInt from rfl); (try have q8 := ti_all r41); omega), (by have q9 := (show (nI i1).toInt = ((i1 : Nat) : Int) from (nI_toInt (by omega))); (try have q8 := ti_all (nI i1)); omega), (by have b9 := (show (nI i1).toInt = ((i1 : Nat) : Int) from (nI_toInt (by omega))); have mzq := (show r41.toInt = r41.toInt from rfl); omega), (by omega)⟩ _ _ hT hF hS m43 m44 m45 ls (lv_sub hl [0, 2, 1, 4, 5] rfl)
  exact key29 (30 - 0) 0 (by omega) (Nat.le_refl _) (-1) (-1) ⟨(by have q9 := (show (-1 : Int32).toInt = (-1) from (by decide)); (try have q8 := ti_all (-1 : Int32)); omega), (by have q9 := (show (-1 : Int32).toInt = (-1) from (by decide)); (try have q8 := ti_all (-1 : Int32)); omega), (by have b9 := (show (-1 : Int32).toInt = (-1) from (by decide)); have mzq := (show (-1 : Int32).toInt = (-1) from (by decide)); omega), (by omega)⟩ _ _ hT hF hS hc_vh hm_hd9 hm_fm ls (lv_sub hl [0, 1, 2, 3, 4] rfl)
def w_c_bestFreeFarmH : List Cond := .code yX0_bestFreeFarm cX0_bestFreeFarm 6 (some .int) :: (HAppend.hAppend (α := List Cond) (β := List Cond) (γ := List Cond) [.fieldLink RX0 143 "SeaLand$Board" "farms" "I", .fieldLink RX0 24 "SeaLand$Board" "held" "[Z", .code yX0_worthOf cX0_worthOf 7 (some .int), .fieldLink RX0 17 "SeaLand$Board" "farmOf" "[I", .methodLink RX0 161 Lib.Math.max.name, .static Lib.Math.max.name, .initialized "java/lang/Math", .code Lib.Math.max.name Lib.Math.max.code 2 (some .int), .methodLink RX0 191 yX0_worthOf, .instanceMethod yX0_worthOf, .selects RX0 yX0_worthOf yX0_worthOf, .initialized RX0] bs2)
set_option maxHeartbeats 4000000 in
set_option maxRecDepth 100000 in
theorem c_bestFreeFarmH (l : Launch) (dC : Nat → ClassId) (dI : Nat → Nat → Nat) (kA : Nat → ClassId) (adK adV : Nat → Nat) (G : gT) (H0 : Heap) (nC nS : Int) (o0 : Nat) (p0 : Nat) (hd9 : Nat) (vh : Nat → Int32)  (hT : gH (dC, dI) kA (SHc nC nS) G H0) (hr_p0 : G p0 = some 5) (hr_o0 : G o0 = some 3) (hm_hd9 : el H0 o0 (dI 3 3) = some (.ref hd9)) (hr_hd9 : G hd9 = some 54) (hc_vh : ct H0 hd9 30 vh) (hgC : 0 ≤ nC ∧ nC ≤ 40) (hgS : 0 ≤ nS ∧ nS ≤ 60) : Met l yX0_bestFreeFarm w_c_bestFreeFarmH ({ frames := 2, cells := 0, slots := 0, locals := 66 }) (va_Pc [.ref o0, .ref p0] (fun U => U.heap = H0 ∧ va_K (dC, dI) vwCl (tyl kA) U ∧ EVC adK adV (gA G H0.size) U U.heap)) (va_Qi (fun (r : Int32) (u : Unit) => (-1 ≤ r.toInt ∧ r.toInt ≤ 29) ∧ (r.toInt = -1 ∨ (0 ≤ r.toInt ∧ r.toInt < 30 ∧ (vh r.toNatClampNeg).toInt = 0))) (fun (_ : Unit) (t : State) => gH (dC, dI) kA (SHc nC nS) G t.heap ∧ gF (dC, dI) SKc G ([] : List (Nat × Nat)) H0 t.heap) (gA G H0.size)) 0 0 (gA G H0.size) := by
  refine Met.ofW (cc := cX0_bestFreeFarm) (maxL := 6) (ret := (some .int)) (by decide) rfl ?_
  intro p e s m args below meth c s₁ B hml hv
  obtain ⟨rfl, hH0, hK, hE⟩ := hv
  have hx := B.exec
  have hb := B.bytes
  have hr := B.returns
  have hts := atoms_spec (ws := w_c_bestFreeFarmH) B.pre
  have hown : s.vm.findClass RX0 = some m.cls := findClass_of_methodNamed B.named
  have hlocks := B.notSynchronized
  subst hH0
  generalize hAe : gA G s.heap.size = A at hE ⊢
  have hA : ∀ q : Nat, s.heap.size ≤ q → A q := fun q h => by rw [← hAe]; exact Or.inr h
  have hG := gA_of hAe
  have hS : va_S A s.heap s.heap [] := va_S.rf
  have hF : gF (dC, dI) SKc G ([] : List (Nat × Nat)) s.heap s.heap := gF.rf
  have hl := lv_entry ([.ref o0, .ref p0]) (n := 6) (Nat.le_of_ble_eq_true rfl)
  rw [lg_entry_eq]
  generalize (lg_sl ([.ref o0, .ref p0]) ++ List.replicate (6 - (lg_sl ([.ref o0, .ref p0])).length) Slot.unset).toArray = ls at hl ⊢
  have hl : lv_has ls 6 [(0, .ref o0), (1, .ref p0)] := hl
  refine lv_iconst (v := (-1)) hx hb dX0_bestFreeFarm_0 (by decide) ?_
  refine lv_istore_n (lv' := [(2, .int (-1)), (0, .ref o0), (1, .ref p0)]) hx hb dX0_bestFreeFarm_1 rfl hl (by decide) rfl (fun ls hl => ?_)
  refine lv_iconst (v := (-1)) hx hb dX0_bestFreeFarm_2 (by decide) ?_
  refine lv_istore_n (lv' := [(3, .int (-1)), (2, .int (-1)), (0, .ref o0), (1, .ref p0)]) hx hb dX0_bestFreeFarm_3 rfl hl (by decide) rfl (fun ls hl => ?_)
  refine lv_iconst (v := 0) hx hb dX0_bestFreeFarm_4 (by decide) ?_
  refine lv_istore (lv' := [(4, .int 0), (3, .int (-1)), (2, .int (-1)), (0, .ref o0), (1, .ref p0)]) hx hb dX0_bestFreeFarm_5 hl (by decide) rfl (fun ls hl => ?_)
  have key32 : ∀ (n32 i1 : Nat), i1 + n32 = 30 → 0 ≤ i1 → ∀ (z2 : Int32), ∀ (z4 : Int32), ((-1 ≤ z2.toInt ∧ z2.toInt ≤ 2061598656) ∧ (-1 ≤ z4.toInt ∧ z4.toInt ≤ 29) ∧ (z4.toInt = -1 ∨ (0 ≤ z4.toInt ∧ z4.toInt < 30 ∧ (vh z4.toNatClampNeg).toInt = 0)) ∧ (-1 ≤ z2.toInt)) → ∀ (H : Heap) (locs : List Loc), gH (dC, dI) kA (SHc nC nS) G H → gF (dC, dI) SKc G ([] : List (Nat × Nat)) s.heap H → va_S A s.heap H locs → ct H hd9 30 vh → el H o0 (dI 3 3) = some (.ref hd9) → ∀ ls : Array Slot, lv_has ls 6 [(4, .int (nI i1)), (3, .int z2), (2, .int z4), (0, .ref o0), (1, .ref p0)] → W p l e (headSpec w_c_bestFreeFarmH ({ frames := 2, cells := 0, slots := 0, locals := 66 })).room s m #[.ref o0, .ref p0] below meth c H locs 0 0 (MQ below (va_Qi (fun (r : Int32) (u : Unit) => (-1 ≤ r.toInt ∧ r.toInt ≤ 29) ∧ (r.toInt = -1 ∨ (0 ≤ r.toInt ∧ r.toInt < 30 ∧ (vh r.toNatClampNeg).toInt = 0))) (fun (_ : Unit) (t : State) => gH (dC, dI) kA (SHc nC nS) G t.heap ∧ gF (dC, dI) SKc G ([] : List (Nat × Nat)) s.heap t.heap) A) #[.ref o0, .ref p0] s 0 0 A) (F0 m 7 ls []) := by
    intro n32
    induction n32 with
    | zero =>
      intro i1 hn32 hlo33 z2 z4 ⟨h3, h5, hj8, hj9⟩ H locs hT hF hS m6 m7 ls hl
      obtain rfl : 30 = i1 := by omega
      refine lv_iload hx hb dX0_bestFreeFarm_7 (lv_at hl 0 rfl) ?_
      refine lv_aload_n hx hb dX0_bestFreeFarm_9 rfl (lv_at hl 3 rfl) ?_
      refine tw_get hx hb hts bF2_X0 hown hK hT hr_o0 shc_3 rfl 16 (by decide) (ht_at2 hts 0 rfl) (fun _ h9 => h9) dX0_bestFreeFarm_10 (fun v9 m34 h9 => ?_)
      obtain ⟨x35, rfl, gx35, kx35⟩ := h9 _ rfl
      refine lv_icmp_ge (tgt := 57) hx hb dX0_bestFreeFarm_13 (by decide) (fun c36 => ?_) (fun c36 => (by exfalso; have q9 : ((30 : Nat) : Int) < x35.toInt := ti_nle c36 rfl (nI_toInt (by omega)); omega))
      have t37 : x35.toInt ≤ ((30 : Nat) : Int) := ti_le c36 rfl (nI_toInt (by omega))
      refine lv_iload_n hx hb dX0_bestFreeFarm_57 rfl (lv_at hl 2 rfl) ?_
      exact W.iret (v := z4) hx hb hr (fun t ht hW => ⟨⟨z4, (), rfl, (by exact ⟨(by have q8 := ti_all z4; omega), hj8⟩), by (try dsimp only); rw [ht]; exact ⟨hT, hF⟩⟩, hS.F ht⟩) hS.2.2 dX0_bestFreeFarm_58
    | succ n32 ih32 =>
      intro i1 hn32 hlo33 z2 z4 ⟨h3, h5, hj8, hj9⟩ H locs hT hF hS m6 m7 ls hl
      have hlt37 : i1 < 30 := by omega
      refine lv_iload hx hb dX0_bestFreeFarm_7 (lv_at hl 0 rfl) ?_
      refine lv_aload_n hx hb dX0_bestFreeFarm_9 rfl (lv_at hl 3 rfl) ?_
      refine tw_get hx hb hts bF2_X0 hown hK hT hr_o0 shc_3 rfl 16 (by decide) (ht_at2 hts 0 rfl) (fun _ h9 => h9) dX0_bestFreeFarm_10 (fun v9 m38 h9 => ?_)
      obtain ⟨x39, rfl, gx39, kx39⟩ := h9 _ rfl
      refine lv_icmp_ge (tgt := 57) hx hb dX0_bestFreeFarm_13 (by decide) (fun c40 => ?_) (fun c40 => ?_)
      · have t41 : x39.toInt ≤ ((i1 : Nat) : Int) := ti_le c40 rfl (nI_toInt (by omega))
        refine lv_iload_n hx hb dX0_bestFreeFarm_57 rfl (lv_at hl 2 rfl) ?_
        exact W.iret (v := z4) hx hb hr (fun t ht hW => ⟨⟨z4, (), rfl, (by exact ⟨(by have q8 := ti_all z4; omega), hj8⟩), by (try dsimp only); rw [ht]; exact ⟨hT, hF⟩⟩, hS.F ht⟩) hS.2.2 dX0_bestFreeFarm_58
      · have t42 : ((i1 : Nat) : Int) < x39.toInt := ti_nle c40 rfl (nI_toInt (by omega))
        refine lv_aload_n hx hb dX0_bestFreeFarm_16 rfl (lv_at hl 3 rfl) ?_
        refine tw_getM (v := .ref hd9) hx hb hts bF2_X0 hown hK hT hr_o0 shc_3 rfl 3 (by decide) (ht_at2 hts 1 rfl) (fun _ h9 => h9) m7 dX0_bestFreeFarm_17 ?_
        refine lv_iload hx hb dX0_bestFreeFarm_20 (lv_at hl 0 rfl) ?_
        refine tw_zald (i := (nI i1)) hx hb hK hT hr_hd9 shc_54 rfl (vp_in_nI (by omega) (by decide)) dX0_bestFreeFarm_22 (fun v9 m43 h9 => ?_)
        obtain ⟨x44, rfl, gx44, kx44⟩ := h9
        have cx44 := m6.at m43 (by have q9 := tn_of (show (nI i1).toInt = ((i1 : Nat) : Int) from (nI_toInt (by omega))) (by omega); omega)
        refine lv_if_eq (tgt := 30) hx hb dX0_bestFreeFarm_23 (by decide) (fun c45 => ?_) (fun c45 => ?_)
        · have t46 : x44.toInt = 0 := ti_eq c45 rfl (by decide)
          refine lv_aload_n hx hb dX0_bestFreeFarm_30 rfl (lv_at hl 3 rfl) ?_
          refine lv_iload hx hb dX0_bestFreeFarm_31 (lv_at hl 0 rfl) ?_
          refine lv_aload_n hx hb dX0_bestFreeFarm_33 rfl (lv_at hl 4 rfl) ?_
          have hFc := gA_free hG hA hS
          refine va_calli (va_runV (As := [.int (nI i1), .ref p0]) (rest := []) ⟨hx, hb, hml, hown, hts⟩ (c_worthOfN l dC dI kA adK adV G H nC nS o0 (nI i1) p0 hT hr_p0 hr_o0 (by omega) (by omega)) (cwV 2 hts (goodIn_app (goodIn_r _ [9, 10, 11, 12] rfl (by decide +kernel)) (goodIn_ca (goodIn_r _ [3, 4, 5, 6, 7, 8] rfl (by decide +kernel)) (bs2_in _ _))) rfl rfl rfl (by decide +kernel) ⟨(Nat.le_of_ble_eq_true rfl), (Nat.le_of_ble_eq_true rfl)⟩) ⟨fun a U g mk q => by obtain ⟨q0, q1, qK, qE⟩ := q; exact ⟨q0, q1, va_K.moved (u := U) (U := U.calling g mk a) (Vm.Alike.refl U.vm) qK, EVC.blind g mk a qE⟩, gH_rc hK hT hr_o0 shc_3 rfl, fun U hU hW => ⟨rfl, hU, va_K.moved hW.alike hK, hE.call hS hFc hU hW⟩⟩ rfl rfl hl.1 rfl (lv_room (Nat.le_of_ble_eq_true rfl)) dX0_bestFreeFarm_34 ⟨(Nat.le_of_ble_eq_true rfl), (Nat.le_of_ble_eq_true rfl)⟩) hS (fun q _ h => hFc q h) hFc (fun r47 u t H locs ht hvm hw48 hB _ _ hS => ?_)
          obtain ⟨hT, hF1⟩ := hB
          rw [ht] at hT hF1
          have m49 := m6.kept (hF1.arr hr_hd9 skc_54 (by decide))
          have m50 := (hF1.fld hr_o0 skc_3 (k := 3) (by decide) (by decide)).trans m7
          have hF := hF.more hF1 (by decide)
          try dsimp only at hw48
          have h53 := hw48
          refine lv_istore (lv' := [(5, .int r47), (4, .int (nI i1)), (3, .int z2), (2, .int z4), (0, .ref o0), (1, .ref p0)]) hx hb dX0_bestFreeFarm_37 hl (by decide) rfl (fun ls hl => ?_)
          refine lv_iload hx hb dX0_bestFreeFarm_39 (lv_at hl 0 rfl) ?_
          refine lv_iload_n hx hb dX0_bestFreeFarm_41 rfl (lv_at hl 2 rfl) ?_
          refine lv_icmp_le (tgt := 51) hx hb dX0_bestFreeFarm_42 (by decide) (fun c54 => ?_) (fun c54 => ?_)
          · have t55 : r47.toInt ≤ z2.toInt := ti_le c54 rfl rfl
            refine lv_iinc (v := nI (i1 + 1)) (lv' := [(4, .int (nI (i1 + 1))), (5, .int r47), (3, .int z2), (2, .int z4), (0, .ref o0), (1, .ref p0)]) hx hb dX0_bestFreeFarm_51 hl (k := 1) rfl (nI_add i1 1) (by decide) rfl (fun ls hl => ?_)
            refine lv_goto (tgt := 7) hx hb dX0_bestFreeFarm_54 (by decide) ?_
            exact ih32 (i1 + 1) (by omega) (by omega) z2 z4 ⟨(by have q9 := (show z2.toInt = z2.toInt from rfl); (try have q8 := ti_all z2); omega), (by have q9 := (show z4.toInt = z4.toInt from rfl); (try have q8 := ti_all z4); omega), hj8, (by have mzq := (show z2.toInt = z2.toInt from rfl); omega)⟩ _ _ hT hF hS m49 m50 ls (lv_sub hl [0, 2, 3, 4, 5] rfl)
          · have t56 : z2.toInt < r47.toInt := ti_nle c54 rfl rfl
            refine lv_iload hx hb dX0_bestFreeFarm_45 (lv_at hl 0 rfl) ?_
            refine lv_istore_n (lv' := [(3, .int r47), (5, .int r47), (4, .int (nI i1)), (2, .int z4), (0, .ref o0), (1, .ref p0)]) hx hb dX0_bestFreeFarm_47 rfl hl (by decide) rfl (fun ls hl => ?_)
            refine lv_iload hx hb dX0_bestFreeFarm_48 (lv_at hl 2 rfl) ?_
            refine lv_istore_n (lv' := [(2, .int (nI i1)), (3, .int r47), (5, .int r47), (4, .int (nI i1)), (0, .ref o0), (1, .ref p0)]) hx hb dX0_bestFreeFarm_50 rfl hl (by decide) rfl (fun ls hl => ?_)
            refine lv_iinc (v := nI (i1 + 1)) (lv' := [(4, .int (nI (i1 + 1))), (2, .int (nI i1)), (3, .int r47), (5, .int r47), (0, .ref o0), (1, .ref p0)]) hx hb dX0_bestFreeFarm_51 hl (k := 3) rfl (nI_add i1 1) (by decide) rfl (fun ls hl => ?_)
            refine lv_goto (tgt := 7) hx hb dX0_bestFreeFarm_54 (by decide) ?_
            exact ih32 (i1 + 1) (by omega) (by omega) r47 (nI i1) ⟨(by have q9 := (show r47.toInt = r47.toInt from rfl); (try have q8 := ti_all r47); omega), (by have q9 := (show (nI i1).toInt = ((i1 : Nat) : Int) from (nI_toInt (by omega))); (try have q8 := ti_all (nI i1)); omega), (Or.inr ⟨by have := (show (nI i1).toInt = ((i1 : Nat) : Int) from (nI_toInt (by omega))); omega, by have := (show (nI i1).toInt = ((i1 : Nat) : Int) from (nI_toInt (by omega))); omega, by rw [tn_nI (by omega)]; have v9 : (vh i1).toInt = x44.toInt := (by rw [cx44, tn_nI (by omega)]); omega⟩), (by have mzq := (show r47.toInt = r47.toInt from rfl); omega)⟩ _ _ hT hF hS m49 m50 ls (lv_sub hl [0, 2, 1, 4, 5] rfl)
        · have t57 : x44.toInt ≠ 0 := ti_ne c45 rfl (by decide)
          refine lv_iconst (v := (-1)) hx hb dX0_bestFreeFarm_26 (by decide) ?_
          refine lv_goto (tgt := 37) hx hb dX0_bestFreeFarm_27 (by decide) ?_
          refine lv_istore (lv' := [(5, .int (-1)), (4, .int (nI i1)), (3, .int z2), (2, .int z4), (0, .ref o0), (1, .ref p0)]) hx hb dX0_bestFreeFarm_37 hl (by decide) rfl (fun ls hl => ?_)
          refine lv_iload hx hb dX0_bestFreeFarm_39 (lv_at hl 0 rfl) ?_
          refine lv_iload_n hx hb dX0_bestFreeFarm_41 rfl (lv_at hl 2 rfl) ?_
          refine lv_icmp_le (tgt := 51) hx hb dX0_bestFreeFarm_42 (by decide) (fun c58 => ?_) (fun c58 => (by exfalso; have q9 : z2.toInt < (-1) := ti_nle c58 (by decide) rfl; omega))
          have t59 : (-1) ≤ z2.toInt := ti_le c58 (by decide) rfl
          refine lv_iinc (v := nI (i1 + 1)) (lv' := [(4, .int (nI (i1 + 1))), (5, .int (-1)), (3, .int z2), (2, .int z4), (0, .ref o0), (1, .ref p0)]) hx hb dX0_bestFreeFarm_51 hl (k := 1) rfl (nI_add i1 1) (by decide) rfl (fun ls hl => ?_)
          refine lv_goto (tgt := 7) hx hb dX0_bestFreeFarm_54 (by decide) ?_
          exact ih32 (i1 + 1) (by omega) (by omega) z2 z4 ⟨(by have q9 := (show z2.toInt = z2.toInt from rfl); (try have q8 := ti_all z2); omega), (by have q9 := (show z4.toInt = z4.toInt from rfl); (try have q8 := ti_all z4); omega), hj8, (by have mzq := (show z2.toInt = z2.toInt from rfl); omega)⟩ _ _ hT hF hS m6 m7 ls (lv_sub hl [0, 2, 3, 4, 5] rfl)
  exact key32 (30 - 0) 0 (by omega) (Nat.le_refl _) (-1) (-1) ⟨(by have q9 := (show (-1 : Int32).toInt = (-1) from (by decide)); (try have q8 := ti_all (-1 : Int32)); omega), (by have q9 := (show (-1 : Int32).toInt = (-1) from (by decide)); (try have q8 := ti_all (-1 : Int32)); omega), (Or.inl (by decide)), (by have mzq := (show (-1 : Int32).toInt = (-1) from (by decide)); omega)⟩ _ _ hT hF hS hc_vh hm_hd9 ls (lv_sub hl [0, 1, 2, 3, 4] rfl)
def w_c_giveFarmsZ : List Cond := .code yX0_giveFarms cX0_giveFarms 7 (some .int) :: (HAppend.hAppend (α := List Cond) (β := List Cond) (γ := List Cond) [.fieldLink RX0 75 "SeaLand$Board" "settled" "I", .fieldLink RX0 185 "SeaLand$Board" "holding" "I", .code yX0_firstByMark cX0_firstByMark 3 (some .int), .fieldLink RX0 37 "SeaLand$Board" "marks" "[I", .fieldLink RX0 11 "SeaLand$Board" "settlers" "[LSeaLand$Settler;", .methodLink RX0 173 yX0_firstByMark, .instanceMethod yX0_firstByMark, .selects RX0 yX0_firstByMark yX0_firstByMark, .initialized RX0, .code yX0_bestFreeFarm cX0_bestFreeFarm 6 (some .int), .fieldLink RX0 143 "SeaLand$Board" "farms" "I", .fieldLink RX0 24 "SeaLand$Board" "held" "[Z", .code yX0_worthOf cX0_worthOf 7 (some .int), .fieldLink RX0 17 "SeaLand$Board" "farmOf" "[I", .methodLink RX0 161 Lib.Math.max.name, .static Lib.Math.max.name, .initialized "java/lang/Math", .code Lib.Math.max.name Lib.Math.max.code 2 (some .int), .methodLink RX0 191 yX0_worthOf, .instanceMethod yX0_worthOf, .selects RX0 yX0_worthOf yX0_worthOf, .methodLink RX0 181 yX0_bestFreeFarm, .instanceMethod yX0_bestFreeFarm, .selects RX0 yX0_bestFreeFarm yX0_bestFreeFarm, .code yX0_gatherFacts cX0_gatherFacts 3 none, .fieldLink RX0 33 "SeaLand$Board" "facts" "[J", .code yX0_acresOf cX0_acresOf 4 (some .int), .methodLink RX0 98 yX0_acresOf, .instanceMethod yX0_acresOf, .selects RX0 yX0_acresOf yX0_acresOf, .code yX0_nearOf cX0_nearOf 5 (some .int), .methodLink RX0 123 yX0_nearOf, .instanceMethod yX0_nearOf, .selects RX0 yX0_nearOf yX0_nearOf, .methodLink RX0 84 yX0_gatherFacts, .instanceMethod yX0_gatherFacts, .selects RX0 yX0_gatherFacts yX0_gatherFacts, .code yX0_isRuled cX0_isRuled 2 (some .boolean), .fieldLink RX0 41 "SeaLand$Board" "force" "LSeaLand$Law;", .code yX4_firstThatHolds cX4_firstThatHolds 4 (some .int), .fieldLink RX4 60 "SeaLand$Law" "lines" "I", .fieldLink RX4 18 "SeaLand$Law" "kinds" "[I", .code yX4_lineHolds cX4_lineHolds 6 (some .boolean), .fieldLink RX4 33 "SeaLand$Law" "stepFrom" "[I", .fieldLink RX4 36 "SeaLand$Law" "stepTo" "[I", .fieldLink RX4 39 "SeaLand$Law" "steps" "[I", .fieldLink RX4 42 "SeaLand$Law" "stack" "[J", .code yX4_joined cX4_joined 5 (some .long), .methodLink RX4 199 Lib.MathLoose.max_long.x, .static Lib.MathLoose.max_long.x, .code Lib.MathLoose.max_long.x Lib.MathLoose.max_long.code 4 (some .long), .methodLink RX4 195 yX4_joined, .static yX4_joined, .initialized RX4, .methodLink RX4 203 yX4_lineHolds, .instanceMethod yX4_lineHolds, .selects RX4 yX4_lineHolds yX4_lineHolds, .methodLink RX0 134 yX4_firstThatHolds, .instanceMethod yX4_firstThatHolds, .selects RX4 yX4_firstThatHolds yX4_firstThatHolds, .methodLink RX0 169 yX0_isRuled, .instanceMethod yX0_isRuled, .selects RX0 yX0_isRuled yX0_isRuled, .code yX0_ruled cX0_ruled 2 (some .int), .code yX4_sumThatHolds cX4_sumThatHolds 6 (some .long), .fieldLink RX4 21 "SeaLand$Law" "firsts" "[I", .methodLink RX0 130 yX4_sumThatHolds, .instanceMethod yX4_sumThatHolds, .selects RX4 yX4_sumThatHolds yX4_sumThatHolds, .methodLink RX0 88 yX0_ruled, .instanceMethod yX0_ruled, .selects RX0 yX0_ruled yX0_ruled] bs2)
