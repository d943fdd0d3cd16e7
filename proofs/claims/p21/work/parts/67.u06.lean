set_option maxHeartbeats 4000000 in
set_option maxRecDepth 100000 in
theorem c_farmMayBeC (l : Launch) (dC : Nat → ClassId) (dI : Nat → Nat → Nat) (kA : Nat → ClassId) (adK adV : Nat → Nat) (G : gT) (H0 : Heap) (nC nS : Int) (o0 : Nat) (p0 : Int32) (p1 : Int32) (p2 : Nat) (nf : Int32) (fo : Nat) (la : Nat) (VL : Nat → Int32) (VF : Nat → Int32)  (hT : gH (dC, dI) kA (SHc nC nS) G H0) (hr_p2 : G p2 = some 5) (hr_o0 : G o0 = some 3) (hm_nf : el H0 o0 (dI 3 16) = some (.int nf)) (hm_fo : el H0 o0 (dI 3 1) = some (.ref fo)) (hr_fo : G fo = some 52) (hm_la : el H0 p2 (dI 5 0) = some (.ref la)) (hr_la : G la = some 25) (hq0 : 0 ≤ nf.toInt ∧ nf.toInt ≤ 30) (hq1 : 0 ≤ p0.toInt ∧ p0.toInt ≤ 95) (hq2 : 0 ≤ p1.toInt ∧ p1.toInt ≤ 95) (hc_VL : ct H0 la 96 VL) (hc_VF : ct H0 fo 96 VF) (hgC : 0 ≤ nC ∧ nC ≤ 40) (hgS : 0 ≤ nS ∧ nS ≤ 60) : Met l yX0_farmMayBe w_c_farmMayBeC ({ frames := 3, cells := 0, slots := 0, locals := 84 }) (va_Pc [.ref o0, .int p0, .int p1, .ref p2] (fun U => U.heap = H0 ∧ va_K (dC, dI) vwCl (tyl kA) U ∧ EVC adK adV (gA G H0.size) U U.heap)) (va_Qi (fun (r : Int32) (u : Unit) => (0 ≤ r.toInt ∧ r.toInt ≤ 1) ∧ ((r.toInt = 1 ∧ (decide (nf.toInt < 30) && fmK (fun j => (VL j).toInt) (fun j => (VF j).toInt + 1) p0.toInt p1.toInt 96) = true) ∨ (r.toInt = 0 ∧ (decide (nf.toInt < 30) && fmK (fun j => (VL j).toInt) (fun j => (VF j).toInt + 1) p0.toInt p1.toInt 96) = false))) (fun (_ : Unit) (t : State) => gH (dC, dI) kA (SHc nC nS) G t.heap ∧ gF (dC, dI) SKc G ([] : List (Nat × Nat)) H0 t.heap) (gA G H0.size)) 0 0 (gA G H0.size) := by
  refine Met.ofW (cc := cX0_farmMayBe) (maxL := 6) (ret := (some .boolean)) (by decide) rfl ?_
  intro p e s m args below meth c s₁ B hml hv
  obtain ⟨rfl, hH0, hK, hE⟩ := hv
  have hx := B.exec
  have hb := B.bytes
  have hr := B.returns
  have hts := atoms_spec (ws := w_c_farmMayBeC) B.pre
  have hown : s.vm.findClass RX0 = some m.cls := findClass_of_methodNamed B.named
  have hlocks := B.notSynchronized
  subst hH0
  generalize hAe : gA G s.heap.size = A at hE ⊢
  have hA : ∀ q : Nat, s.heap.size ≤ q → A q := fun q h => by rw [← hAe]; exact Or.inr h
  have hG := gA_of hAe
  have hS : va_S A s.heap s.heap [] := va_S.rf
  have hF : gF (dC, dI) SKc G ([] : List (Nat × Nat)) s.heap s.heap := gF.rf
  have hl := lv_entry ([.ref o0, .int p0, .int p1, .ref p2]) (n := 6) (Nat.le_of_ble_eq_true rfl)
  rw [lg_entry_eq]
  generalize (lg_sl ([.ref o0, .int p0, .int p1, .ref p2]) ++ List.replicate (6 - (lg_sl ([.ref o0, .int p0, .int p1, .ref p2])).length) Slot.unset).toArray = ls at hl ⊢
  have hl : lv_has ls 6 [(0, .ref o0), (1, .int p0), (2, .int p1), (3, .ref p2)] := hl
  refine lv_aload_n hx hb dX0_farmMayBe_0 rfl (lv_at hl 0 rfl) ?_
  refine tw_getM (v := .int nf) hx hb hts bF2_X0 hown hK hT hr_o0 shc_3 rfl 16 (by decide) (ht_at2 hts 0 rfl) (fun _ h9 => h9) hm_nf dX0_farmMayBe_1 ?_
  refine lv_bipush (v := 30) hx hb dX0_farmMayBe_4 (by decide) ?_
  refine lv_icmp_ge (tgt := 13) hx hb dX0_farmMayBe_6 (by decide) (fun c1 => ?_) (fun c1 => ?_)
  · have t2 : 30 ≤ nf.toInt := ti_le c1 (by decide) rfl
    refine lv_iconst (v := 0) hx hb dX0_farmMayBe_13 (by decide) ?_
    refine lv_istore (lv' := [(4, .int 0), (0, .ref o0), (1, .int p0), (2, .int p1), (3, .ref p2)]) hx hb dX0_farmMayBe_14 hl (by decide) rfl (fun ls hl => ?_)
    refine lv_iconst (v := 0) hx hb dX0_farmMayBe_16 (by decide) ?_
    refine lv_istore (lv' := [(5, .int 0), (4, .int 0), (0, .ref o0), (1, .int p0), (2, .int p1), (3, .ref p2)]) hx hb dX0_farmMayBe_17 hl (by decide) rfl (fun ls hl => ?_)
    have key13 : ∀ (n13 i3 : Nat), i3 + n13 = 96 → 0 ≤ i3 → ((((0 : Int32).toInt = 1 ∧ (decide (nf.toInt < 30) && fmK (fun j => (VL j).toInt) (fun j => (VF j).toInt + 1) p0.toInt p1.toInt i3) = true) ∨ ((0 : Int32).toInt = 0 ∧ (decide (nf.toInt < 30) && fmK (fun j => (VL j).toInt) (fun j => (VF j).toInt + 1) p0.toInt p1.toInt i3) = false))) → ∀ (H : Heap) (locs : List Loc), gH (dC, dI) kA (SHc nC nS) G H → gF (dC, dI) SKc G ([] : List (Nat × Nat)) s.heap H → va_S A s.heap H locs → ct H la 96 VL → ct H fo 96 VF → el H o0 (dI 3 16) = some (.int nf) → el H o0 (dI 3 1) = some (.ref fo) → el H p2 (dI 5 0) = some (.ref la) → ∀ ls : Array Slot, lv_has ls 6 [(5, .int (nI i3)), (4, .int 0), (0, .ref o0), (1, .int p0), (2, .int p1), (3, .ref p2)] → W p l e (headSpec w_c_farmMayBeC ({ frames := 3, cells := 0, slots := 0, locals := 84 })).room s m #[.ref o0, .int p0, .int p1, .ref p2] below meth c H locs 0 0 (MQ below (va_Qi (fun (r : Int32) (u : Unit) => (0 ≤ r.toInt ∧ r.toInt ≤ 1) ∧ ((r.toInt = 1 ∧ (decide (nf.toInt < 30) && fmK (fun j => (VL j).toInt) (fun j => (VF j).toInt + 1) p0.toInt p1.toInt 96) = true) ∨ (r.toInt = 0 ∧ (decide (nf.toInt < 30) && fmK (fun j => (VL j).toInt) (fun j => (VF j).toInt + 1) p0.toInt p1.toInt 96) = false))) (fun (_ : Unit) (t : State) => gH (dC, dI) kA (SHc nC nS) G t.heap ∧ gF (dC, dI) SKc G ([] : List (Nat × Nat)) s.heap t.heap) A) #[.ref o0, .int p0, .int p1, .ref p2] s 0 0 A) (F0 m 19 ls []) := by
      intro n13
      induction n13 with
      | zero =>
        intro i3 hn13 hlo14 hj9 H locs hT hF hS m4 m5 m6 m7 m8 ls hl
        obtain rfl : 96 = i3 := by omega
        refine lv_iload hx hb dX0_farmMayBe_19 (lv_at hl 0 rfl) ?_
        refine lv_bipush (v := 96) hx hb dX0_farmMayBe_21 (by decide) ?_
        refine lv_icmp_ge (tgt := 75) hx hb dX0_farmMayBe_23 (by decide) (fun c15 => ?_) (fun c15 => (by exfalso; have q9 : ((96 : Nat) : Int) < 96 := ti_nle c15 (by decide) (nI_toInt (by omega)); omega))
        have t16 : 96 ≤ ((96 : Nat) : Int) := ti_le c15 (by decide) (nI_toInt (by omega))
        refine lv_iload hx hb dX0_farmMayBe_75 (lv_at hl 1 rfl) ?_
        exact W.zret (v := 0) hx hb hr (by decide) (fun t ht hW => ⟨⟨0, (), rfl, (by exact ⟨(rg_t (a := 0) (by decide) (by first | decide | omega) (by first | decide | omega)), (by have q0 : (0 : Int32).toInt = 0 := (by decide); have q1 : (1 : Int32).toInt = 1 := (by decide); rcases hj9 with h9 | h9; exact Or.inl ⟨h9.1, fm_f (by omega) h9.2⟩; exact Or.inr ⟨h9.1, fm_g h9.2 (by omega)⟩)⟩), by (try dsimp only); rw [ht]; exact ⟨hT, hF⟩⟩, hS.F ht⟩) hS.2.2 dX0_farmMayBe_77
      | succ n13 ih13 =>
        intro i3 hn13 hlo14 hj9 H locs hT hF hS m4 m5 m6 m7 m8 ls hl
        have hlt16 : i3 < 96 := by omega
        refine lv_iload hx hb dX0_farmMayBe_19 (lv_at hl 0 rfl) ?_
        refine lv_bipush (v := 96) hx hb dX0_farmMayBe_21 (by decide) ?_
        refine lv_icmp_ge (tgt := 75) hx hb dX0_farmMayBe_23 (by decide) (fun c17 => (by exfalso; have q9 : 96 ≤ ((i3 : Nat) : Int) := ti_le c17 (by decide) (nI_toInt (by omega)); omega)) (fun c17 => ?_)
        have t18 : ((i3 : Nat) : Int) < 96 := ti_nle c17 (by decide) (nI_toInt (by omega))
        refine lv_iload hx hb dX0_farmMayBe_26 (lv_at hl 1 rfl) ?_
        refine lv_if_eq (tgt := 75) hx hb dX0_farmMayBe_28 (by decide) (fun c19 => ?_) (fun c19 => absurd c19 (by decide))
        refine lv_iload hx hb dX0_farmMayBe_75 (lv_at hl 1 rfl) ?_
        exact W.zret (v := 0) hx hb hr (by decide) (fun t ht hW => ⟨⟨0, (), rfl, (by exact ⟨(rg_t (a := 0) (by decide) (by first | decide | omega) (by first | decide | omega)), (by have q0 : (0 : Int32).toInt = 0 := (by decide); have q1 : (1 : Int32).toInt = 1 := (by decide); rcases hj9 with h9 | h9; exact Or.inl ⟨h9.1, fm_f (by omega) h9.2⟩; exact Or.inr ⟨h9.1, fm_g h9.2 (by omega)⟩)⟩), by (try dsimp only); rw [ht]; exact ⟨hT, hF⟩⟩, hS.F ht⟩) hS.2.2 dX0_farmMayBe_77
    exact key13 (96 - 0) 0 (by omega) (Nat.le_refl _) (by have q0 : (0 : Int32).toInt = 0 := (by decide); have q1 : (1 : Int32).toInt = 1 := (by decide); first | exact Or.inl ⟨by omega, fm_a (by omega) rfl⟩ | exact Or.inr ⟨by omega, fm_b (by omega)⟩) _ _ hT hF hS hc_VL hc_VF hm_nf hm_fo hm_la ls (lv_sub hl [0, 1, 2, 3, 4, 5] rfl)
  · have t20 : nf.toInt < 30 := ti_nle c1 (by decide) rfl
    refine lv_iconst (v := 1) hx hb dX0_farmMayBe_9 (by decide) ?_
    refine lv_goto (tgt := 14) hx hb dX0_farmMayBe_10 (by decide) ?_
    refine lv_istore (lv' := [(4, .int 1), (0, .ref o0), (1, .int p0), (2, .int p1), (3, .ref p2)]) hx hb dX0_farmMayBe_14 hl (by decide) rfl (fun ls hl => ?_)
    refine lv_iconst (v := 0) hx hb dX0_farmMayBe_16 (by decide) ?_
    refine lv_istore (lv' := [(5, .int 0), (4, .int 1), (0, .ref o0), (1, .int p0), (2, .int p1), (3, .ref p2)]) hx hb dX0_farmMayBe_17 hl (by decide) rfl (fun ls hl => ?_)
    have key59 : ∀ (n59 i21 : Nat), i21 + n59 = 96 → 0 ≤ i21 → ∀ (z22 : Int32), ((0 ≤ z22.toInt ∧ z22.toInt ≤ 1) ∧ ((z22.toInt = 1 ∧ (decide (nf.toInt < 30) && fmK (fun j => (VL j).toInt) (fun j => (VF j).toInt + 1) p0.toInt p1.toInt i21) = true) ∨ (z22.toInt = 0 ∧ (decide (nf.toInt < 30) && fmK (fun j => (VL j).toInt) (fun j => (VF j).toInt + 1) p0.toInt p1.toInt i21) = false))) → ∀ (H : Heap) (locs : List Loc), gH (dC, dI) kA (SHc nC nS) G H → gF (dC, dI) SKc G ([] : List (Nat × Nat)) s.heap H → va_S A s.heap H locs → ct H la 96 VL → ct H fo 96 VF → el H o0 (dI 3 16) = some (.int nf) → el H o0 (dI 3 1) = some (.ref fo) → el H p2 (dI 5 0) = some (.ref la) → ∀ ls : Array Slot, lv_has ls 6 [(5, .int (nI i21)), (4, .int z22), (0, .ref o0), (1, .int p0), (2, .int p1), (3, .ref p2)] → W p l e (headSpec w_c_farmMayBeC ({ frames := 3, cells := 0, slots := 0, locals := 84 })).room s m #[.ref o0, .int p0, .int p1, .ref p2] below meth c H locs 0 0 (MQ below (va_Qi (fun (r : Int32) (u : Unit) => (0 ≤ r.toInt ∧ r.toInt ≤ 1) ∧ ((r.toInt = 1 ∧ (decide (nf.toInt < 30) && fmK (fun j => (VL j).toInt) (fun j => (VF j).toInt + 1) p0.toInt p1.toInt 96) = true) ∨ (r.toInt = 0 ∧ (decide (nf.toInt < 30) && fmK (fun j => (VL j).toInt) (fun j => (VF j).toInt + 1) p0.toInt p1.toInt 96) = false))) (fun (_ : Unit) (t : State) => gH (dC, dI) kA (SHc nC nS) G t.heap ∧ gF (dC, dI) SKc G ([] : List (Nat × Nat)) s.heap t.heap) A) #[.ref o0, .int p0, .int p1, .ref p2] s 0 0 A) (F0 m 19 ls []) := by
      intro n59
      induction n59 with
      | zero =>
        intro i21 hn59 hlo60 z22 ⟨h23, hj29⟩ H locs hT hF hS m24 m25 m26 m27 m28 ls hl
        obtain rfl : 96 = i21 := by omega
        refine lv_iload hx hb dX0_farmMayBe_19 (lv_at hl 0 rfl) ?_
        refine lv_bipush (v := 96) hx hb dX0_farmMayBe_21 (by decide) ?_
        refine lv_icmp_ge (tgt := 75) hx hb dX0_farmMayBe_23 (by decide) (fun c61 => ?_) (fun c61 => (by exfalso; have q9 : ((96 : Nat) : Int) < 96 := ti_nle c61 (by decide) (nI_toInt (by omega)); omega))
        have t62 : 96 ≤ ((96 : Nat) : Int) := ti_le c61 (by decide) (nI_toInt (by omega))
        refine lv_iload hx hb dX0_farmMayBe_75 (lv_at hl 1 rfl) ?_
        exact W.zret (v := z22) hx hb hr (nar_b (by have q8 := ti_all z22; omega)) (fun t ht hW => ⟨⟨z22, (), rfl, (by exact ⟨(by have q8 := ti_all z22; omega), (by have q0 : (0 : Int32).toInt = 0 := (by decide); have q1 : (1 : Int32).toInt = 1 := (by decide); rcases hj29 with h9 | h9; exact Or.inl ⟨h9.1, fm_f (by omega) h9.2⟩; exact Or.inr ⟨h9.1, fm_g h9.2 (by omega)⟩)⟩), by (try dsimp only); rw [ht]; exact ⟨hT, hF⟩⟩, hS.F ht⟩) hS.2.2 dX0_farmMayBe_77
      | succ n59 ih59 =>
        intro i21 hn59 hlo60 z22 ⟨h23, hj29⟩ H locs hT hF hS m24 m25 m26 m27 m28 ls hl
        have hlt62 : i21 < 96 := by omega
        refine lv_iload hx hb dX0_farmMayBe_19 (lv_at hl 0 rfl) ?_
        refine lv_bipush (v := 96) hx hb dX0_farmMayBe_21 (by decide) ?_
        refine lv_icmp_ge (tgt := 75) hx hb dX0_farmMayBe_23 (by decide) (fun c63 => (by exfalso; have q9 : 96 ≤ ((i21 : Nat) : Int) := ti_le c63 (by decide) (nI_toInt (by omega)); omega)) (fun c63 => ?_)
        have t64 : ((i21 : Nat) : Int) < 96 := ti_nle c63 (by decide) (nI_toInt (by omega))
        refine lv_iload hx hb dX0_farmMayBe_26 (lv_at hl 1 rfl) ?_
        refine lv_if_eq (tgt := 75) hx hb dX0_farmMayBe_28 (by decide) (fun c65 => ?_) (fun c65 => ?_)
        · have t66 : z22.toInt = 0 := ti_eq c65 rfl (by decide)
          refine lv_iload hx hb dX0_farmMayBe_75 (lv_at hl 1 rfl) ?_
          exact W.zret (v := z22) hx hb hr (nar_b (by have q8 := ti_all z22; omega)) (fun t ht hW => ⟨⟨z22, (), rfl, (by exact ⟨(by have q8 := ti_all z22; omega), (by have q0 : (0 : Int32).toInt = 0 := (by decide); have q1 : (1 : Int32).toInt = 1 := (by decide); rcases hj29 with h9 | h9; exact Or.inl ⟨h9.1, fm_f (by omega) h9.2⟩; exact Or.inr ⟨h9.1, fm_g h9.2 (by omega)⟩)⟩), by (try dsimp only); rw [ht]; exact ⟨hT, hF⟩⟩, hS.F ht⟩) hS.2.2 dX0_farmMayBe_77
        · have t67 : z22.toInt ≠ 0 := ti_ne c65 rfl (by decide)
          refine lv_iload hx hb dX0_farmMayBe_31 (lv_at hl 0 rfl) ?_
          refine lv_iload_n hx hb dX0_farmMayBe_33 rfl (lv_at hl 3 rfl) ?_
          refine lv_iload_n hx hb dX0_farmMayBe_34 rfl (lv_at hl 4 rfl) ?_
          have hFc := gA_free hG hA hS
          refine va_calli (va_runSN (As := [.int (nI i21), .int p0, .int p1]) (rest := []) ⟨hx, hb, hml, hown, hts⟩ (c_inRectangleE l dC dI kA adK adV G H nC nS (nI i21) p0 p1 hT (rg_t (a := ((i21 : Nat) : Int)) (nI_toInt (by omega)) (by omega) (by omega)) (by have q8 := ti_all p0; omega) (by have q8 := ti_all p1; omega) (by omega) (by omega)) ⟨va_cnB 3 hts (goodIn_ca (goodIn_r _ [2, 3, 4, 5, 6, 7, 8, 9, 10, 11, 12, 13] rfl (by decide +kernel)) (bs2_in _ _)) rfl rfl rfl (hE.nm 105 rfl) (ht_at2 hts 12 rfl) (by decide +kernel) ⟨(Nat.le_of_ble_eq_true rfl), (Nat.le_of_ble_eq_true rfl)⟩, (ht_at2 hts 13 rfl), trivial⟩ ⟨fun a U g mk q => by obtain ⟨q0, q1, qK, qE⟩ := q; exact ⟨q0, q1, va_K.moved (u := U) (U := U.calling g mk a) (Vm.Alike.refl U.vm) qK, EVC.blind g mk a qE⟩, fun U hU hW => ⟨rfl, hU, va_K.moved hW.alike hK, hE.call hS hFc hU hW⟩⟩ rfl rfl hl.1 rfl (lv_room (Nat.le_of_ble_eq_true rfl)) dX0_farmMayBe_35 ⟨(Nat.le_of_ble_eq_true rfl), (Nat.le_of_ble_eq_true rfl)⟩) hS (fun q _ h => hFc q h) hFc (fun r68 u t H locs ht hvm hw69 hB _ _ hS => ?_)
          obtain ⟨hT, hF1⟩ := hB
          rw [ht] at hT hF1
          have m70 := m24.kept (hF1.arr hr_la skc_25 (by decide))
          have m71 := m25.kept (hF1.arr hr_fo skc_52 (by decide))
          have m72 := (hF1.fld hr_o0 skc_3 (k := 16) (by decide) (by decide)).trans m26
          have m73 := (hF1.fld hr_o0 skc_3 (k := 1) (by decide) (by decide)).trans m27
          have m74 := (hF1.fld hr_p2 skc_5 (k := 0) (by decide) (by decide)).trans m28
          have hF := hF.more hF1 (by decide)
          try dsimp only at hw69
          obtain ⟨h75, hf76⟩ := hw69
          have t77 : (nI i21).toInt = ((i21 : Nat) : Int) := nI_toInt (by omega)
          refine lv_if_eq (tgt := 69) hx hb dX0_farmMayBe_38 (by decide) (fun c78 => ?_) (fun c78 => ?_)
          · have t79 : r68.toInt = 0 := ti_eq c78 rfl (by decide)
            refine lv_iinc (v := nI (i21 + 1)) (lv' := [(5, .int (nI (i21 + 1))), (4, .int z22), (0, .ref o0), (1, .int p0), (2, .int p1), (3, .ref p2)]) hx hb dX0_farmMayBe_69 hl (k := 0) rfl (nI_add i21 1) (by decide) rfl (fun ls hl => ?_)
            refine lv_goto (tgt := 19) hx hb dX0_farmMayBe_72 (by decide) ?_
            exact ih59 (i21 + 1) (by omega) (by omega) z22 ⟨(by have q8 := ti_all z22; omega), (by have := (show z22.toInt = z22.toInt from rfl); have h9 := (hj29.resolve_right (fun h8 => by have := h8.1; omega)).2; first | exact Or.inl ⟨by omega, fm_c (by omega) (fmK_out (inR_0 (s := ((i21 : Nat) : Int)) (a := p0.toInt) (b := p1.toInt) (by have q9 : (nI i21).toInt = ((i21 : Nat) : Int) := nI_toInt (by omega); omega)) (fm_d h9))⟩ | exact Or.inl ⟨by omega, fm_c (by omega) (fmK_ok (by show (VL i21).toInt = 1; rw [ela]; omega) (by show (VF i21).toInt + 1 = 0; rw [efo]; omega) (fm_d h9))⟩ | exact Or.inr ⟨by omega, fm_e (fmK_no (inR_1 (s := ((i21 : Nat) : Int)) (a := p0.toInt) (b := p1.toInt) (by have q9 : (nI i21).toInt = ((i21 : Nat) : Int) := nI_toInt (by omega); omega)) (Or.inl (by show (VL i21).toInt ≠ 1; rw [ela]; omega)))⟩ | exact Or.inr ⟨by omega, fm_e (fmK_no (inR_1 (s := ((i21 : Nat) : Int)) (a := p0.toInt) (b := p1.toInt) (by have q9 : (nI i21).toInt = ((i21 : Nat) : Int) := nI_toInt (by omega); omega)) (Or.inr (by show (VF i21).toInt + 1 ≠ 0; rw [efo]; omega)))⟩)⟩ _ _ hT hF hS m70 m71 m72 m73 m74 ls (lv_sub hl [0, 1, 2, 3, 4, 5] rfl)
          · have t80 : r68.toInt ≠ 0 := ti_ne c78 rfl (by decide)
            refine lv_aload_n hx hb dX0_farmMayBe_41 rfl (lv_at hl 5 rfl) ?_
            refine tw_getNM (v := .ref la) hx hb hts bF2_X2 hown hK hT hr_p2 shc_5 rfl 0 (by decide) (hE.nw 70 rfl) (fun _ h9 => h9) m74 dX0_farmMayBe_42 ?_
            refine lv_iload hx hb dX0_farmMayBe_45 (lv_at hl 0 rfl) ?_
            refine tw_zald (i := (nI i21)) hx hb hK hT hr_la shc_25 rfl (vp_in_nI (by omega) (by decide)) dX0_farmMayBe_47 (fun v9 m81 h9 => ?_)
            obtain ⟨x82, rfl, gx82, kx82⟩ := h9
            have cx82 := m70.at m81 (by have q9 := tn_of (show (nI i21).toInt = ((i21 : Nat) : Int) from (nI_toInt (by omega))) (by omega); omega)
            refine lv_if_eq (tgt := 66) hx hb dX0_farmMayBe_48 (by decide) (fun c83 => ?_) (fun c83 => ?_)
            · have t84 : x82.toInt = 0 := ti_eq c83 rfl (by decide)
              refine lv_iconst (v := 0) hx hb dX0_farmMayBe_66 (by decide) ?_
              refine lv_istore (lv' := [(4, .int 0), (5, .int (nI i21)), (0, .ref o0), (1, .int p0), (2, .int p1), (3, .ref p2)]) hx hb dX0_farmMayBe_67 hl (by decide) rfl (fun ls hl => ?_)
              refine lv_iinc (v := nI (i21 + 1)) (lv' := [(5, .int (nI (i21 + 1))), (4, .int 0), (0, .ref o0), (1, .int p0), (2, .int p1), (3, .ref p2)]) hx hb dX0_farmMayBe_69 hl (k := 1) rfl (nI_add i21 1) (by decide) rfl (fun ls hl => ?_)
              refine lv_goto (tgt := 19) hx hb dX0_farmMayBe_72 (by decide) ?_
              exact ih59 (i21 + 1) (by omega) (by omega) 0 ⟨(rg_t (a := 0) (by decide) (by first | decide | omega) (by first | decide | omega)), (by have := (show (0 : Int32).toInt = 0 from (by decide)); have ela : (VL i21) = x82 := (cx82.trans (by rw [tn_nI (by omega)])).symm; have h9 := (hj29.resolve_right (fun h8 => by have := h8.1; omega)).2; first | exact Or.inl ⟨by omega, fm_c (by omega) (fmK_out (inR_0 (s := ((i21 : Nat) : Int)) (a := p0.toInt) (b := p1.toInt) (by have q9 : (nI i21).toInt = ((i21 : Nat) : Int) := nI_toInt (by omega); omega)) (fm_d h9))⟩ | exact Or.inl ⟨by omega, fm_c (by omega) (fmK_ok (by show (VL i21).toInt = 1; rw [ela]; omega) (by show (VF i21).toInt + 1 = 0; rw [efo]; omega) (fm_d h9))⟩ | exact Or.inr ⟨by omega, fm_e (fmK_no (inR_1 (s := ((i21 : Nat) : Int)) (a := p0.toInt) (b := p1.toInt) (by have q9 : (nI i21).toInt = ((i21 : Nat) : Int) := nI_toInt (by omega); omega)) (Or.inl (by show (VL i21).toInt ≠ 1; rw [ela]; omega)))⟩ | exact Or.inr ⟨by omega, fm_e (fmK_no (inR_1 (s := ((i21 : Nat) : Int)) (a := p0.toInt) (b := p1.toInt) (by have q9 : (nI i21).toInt = ((i21 : Nat) : Int) := nI_toInt (by omega); omega)) (Or.inr (by show (VF i21).toInt + 1 ≠ 0; rw [efo]; omega)))⟩)⟩ _ _ hT hF hS m70 m71 m72 m73 m74 ls (lv_sub hl [0, 1, 2, 3, 4, 5] rfl)
            · have t85 : x82.toInt ≠ 0 := ti_ne c83 rfl (by decide)
              refine lv_aload_n hx hb dX0_farmMayBe_51 rfl (lv_at hl 2 rfl) ?_
              refine tw_getM (v := .ref fo) hx hb hts bF2_X0 hown hK hT hr_o0 shc_3 rfl 1 (by decide) (ht_at2 hts 14 rfl) (fun _ h9 => h9) m73 dX0_farmMayBe_52 ?_
              refine lv_iload hx hb dX0_farmMayBe_55 (lv_at hl 0 rfl) ?_
              refine tw_iald (i := (nI i21)) hx hb hK hT hr_fo shc_52 rfl (vp_in_nI (by omega) (by decide)) dX0_farmMayBe_57 (fun v9 m86 h9 => ?_)
              obtain ⟨x87, rfl, gx87, kx87⟩ := h9
              have cx87 := m71.at m86 (by have q9 := tn_of (show (nI i21).toInt = ((i21 : Nat) : Int) from (nI_toInt (by omega))) (by omega); omega)
              refine lv_iconst (v := (-1)) hx hb dX0_farmMayBe_58 (by decide) ?_
              have t88 : -2147483648 ≤ x87.toInt ∧ x87.toInt ≤ 2147483647 := ti_all x87
              refine lv_icmp_ne (tgt := 66) hx hb dX0_farmMayBe_59 (by decide) (fun c89 => ?_) (fun c89 => ?_)
              · have t90 : x87.toInt ≠ (-1) := ti_ne c89 rfl (by decide)
                refine lv_iconst (v := 0) hx hb dX0_farmMayBe_66 (by decide) ?_
                refine lv_istore (lv' := [(4, .int 0), (5, .int (nI i21)), (0, .ref o0), (1, .int p0), (2, .int p1), (3, .ref p2)]) hx hb dX0_farmMayBe_67 hl (by decide) rfl (fun ls hl => ?_)
                refine lv_iinc (v := nI (i21 + 1)) (lv' := [(5, .int (nI (i21 + 1))), (4, .int 0), (0, .ref o0), (1, .int p0), (2, .int p1), (3, .ref p2)]) hx hb dX0_farmMayBe_69 hl (k := 1) rfl (nI_add i21 1) (by decide) rfl (fun ls hl => ?_)
                refine lv_goto (tgt := 19) hx hb dX0_farmMayBe_72 (by decide) ?_
                exact ih59 (i21 + 1) (by omega) (by omega) 0 ⟨(rg_t (a := 0) (by decide) (by first | decide | omega) (by first | decide | omega)), (by have := (show (0 : Int32).toInt = 0 from (by decide)); have ela : (VL i21) = x82 := (cx82.trans (by rw [tn_nI (by omega)])).symm; have efo : (VF i21) = x87 := (cx87.trans (by rw [tn_nI (by omega)])).symm; have h9 := (hj29.resolve_right (fun h8 => by have := h8.1; omega)).2; first | exact Or.inl ⟨by omega, fm_c (by omega) (fmK_out (inR_0 (s := ((i21 : Nat) : Int)) (a := p0.toInt) (b := p1.toInt) (by have q9 : (nI i21).toInt = ((i21 : Nat) : Int) := nI_toInt (by omega); omega)) (fm_d h9))⟩ | exact Or.inl ⟨by omega, fm_c (by omega) (fmK_ok (by show (VL i21).toInt = 1; rw [ela]; omega) (by show (VF i21).toInt + 1 = 0; rw [efo]; omega) (fm_d h9))⟩ | exact Or.inr ⟨by omega, fm_e (fmK_no (inR_1 (s := ((i21 : Nat) : Int)) (a := p0.toInt) (b := p1.toInt) (by have q9 : (nI i21).toInt = ((i21 : Nat) : Int) := nI_toInt (by omega); omega)) (Or.inl (by show (VL i21).toInt ≠ 1; rw [ela]; omega)))⟩ | exact Or.inr ⟨by omega, fm_e (fmK_no (inR_1 (s := ((i21 : Nat) : Int)) (a := p0.toInt) (b := p1.toInt) (by have q9 : (nI i21).toInt = ((i21 : Nat) : Int) := nI_toInt (by omega); omega)) (Or.inr (by show (VF i21).toInt + 1 ≠ 0; rw [efo]; omega)))⟩)⟩ _ _ hT hF hS m70 m71 m72 m73 m74 ls (lv_sub hl [0, 1, 2, 3, 4, 5] rfl)
              · have t91 : x87.toInt = (-1) := ti_eq c89 rfl (by decide)
                refine lv_iconst (v := 1) hx hb dX0_farmMayBe_62 (by decide) ?_
                refine lv_goto (tgt := 67) hx hb dX0_farmMayBe_63 (by decide) ?_
                refine lv_istore (lv' := [(4, .int 1), (5, .int (nI i21)), (0, .ref o0), (1, .int p0), (2, .int p1), (3, .ref p2)]) hx hb dX0_farmMayBe_67 hl (by decide) rfl (fun ls hl => ?_)
                refine lv_iinc (v := nI (i21 + 1)) (lv' := [(5, .int (nI (i21 + 1))), (4, .int 1), (0, .ref o0), (1, .int p0), (2, .int p1), (3, .ref p2)]) hx hb dX0_farmMayBe_69 hl (k := 1) rfl (nI_add i21 1) (by decide) rfl (fun ls hl => ?_)
                refine lv_goto (tgt := 19) hx hb dX0_farmMayBe_72 (by decide) ?_
                exact ih59 (i21 + 1) (by omega) (by omega) 1 ⟨(rg_t (a := 1) (by decide) (by first | decide | omega) (by first | decide | omega)), (by have := (show (1 : Int32).toInt = 1 from (by decide)); have ela : (VL i21) = x82 := (cx82.trans (by rw [tn_nI (by omega)])).symm; have efo : (VF i21) = x87 := (cx87.trans (by rw [tn_nI (by omega)])).symm; have h9 := (hj29.resolve_right (fun h8 => by have := h8.1; omega)).2; first | exact Or.inl ⟨by omega, fm_c (by omega) (fmK_out (inR_0 (s := ((i21 : Nat) : Int)) (a := p0.toInt) (b := p1.toInt) (by have q9 : (nI i21).toInt = ((i21 : Nat) : Int) := nI_toInt (by omega); omega)) (fm_d h9))⟩ | exact Or.inl ⟨by omega, fm_c (by omega) (fmK_ok (by show (VL i21).toInt = 1; rw [ela]; omega) (by show (VF i21).toInt + 1 = 0; rw [efo]; omega) (fm_d h9))⟩ | exact Or.inr ⟨by omega, fm_e (fmK_no (inR_1 (s := ((i21 : Nat) : Int)) (a := p0.toInt) (b := p1.toInt) (by have q9 : (nI i21).toInt = ((i21 : Nat) : Int) := nI_toInt (by omega); omega)) (Or.inl (by show (VL i21).toInt ≠ 1; rw [ela]; omega)))⟩ | exact Or.inr ⟨by omega, fm_e (fmK_no (inR_1 (s := ((i21 : Nat) : Int)) (a := p0.toInt) (b := p1.toInt) (by have q9 : (nI i21).toInt = ((i21 : Nat) : Int) := nI_toInt (by omega); omega)) (Or.inr (by show (VF i21).toInt + 1 ≠ 0; rw [efo]; omega)))⟩)⟩ _ _ hT hF hS m70 m71 m72 m73 m74 ls (lv_sub hl [0, 1, 2, 3, 4, 5] rfl)
    exact key59 (96 - 0) 0 (by omega) (Nat.le_refl _) 1 ⟨(rg_t (a := 1) (by decide) (by first | decide | omega) (by first | decide | omega)), (by have q0 : (0 : Int32).toInt = 0 := (by decide); have q1 : (1 : Int32).toInt = 1 := (by decide); first | exact Or.inl ⟨by omega, fm_a (by omega) rfl⟩ | exact Or.inr ⟨by omega, fm_b (by omega)⟩)⟩ _ _ hT hF hS hc_VL hc_VF hm_nf hm_fo hm_la ls (lv_sub hl [0, 1, 2, 3, 4, 5] rfl)
def w_c_layOutC : List Cond := .code yX0_layOut cX0_layOut 4 (some .int) :: (HAppend.hAppend (α := List Cond) (β := List Cond) (γ := List Cond) [.fieldLink RX0 143 "SeaLand$Board" "farms" "I", .code yX11_inRectangle cX11_inRectangle 3 (some .boolean), .code yX11_isBetween cX11_isBetween 3 (some .boolean), .methodLink RX11 588 Lib.Math.min.name, .static Lib.Math.min.name, .initialized "java/lang/Math", .code Lib.Math.min.name Lib.Math.min.code 2 (some .int), .methodLink RX11 591 Lib.Math.max.name, .static Lib.Math.max.name, .code Lib.Math.max.name Lib.Math.max.code 2 (some .int), .methodLink RX11 585 yX11_isBetween, .static yX11_isBetween, .initialized RX11, .static yX11_inRectangle, .fieldLink RX0 17 "SeaLand$Board" "farmOf" "[I"] bs2)
set_option maxHeartbeats 4000000 in
set_option maxRecDepth 100000 in
theorem c_layOutC (l : Launch) (dC : Nat → ClassId) (dI : Nat → Nat → Nat) (kA : Nat → ClassId) (adK adV : Nat → Nat) (G : gT) (H0 : Heap) (nC nS : Int) (o0 : Nat) (p0 : Int32) (p1 : Int32) (nf : Int32) (fo : Nat) (VF : Nat → Int32)  (hT : gH (dC, dI) kA (SHc nC nS) G H0) (hr_o0 : G o0 = some 3) (hm_nf : el H0 o0 (dI 3 16) = some (.int nf)) (hm_fo : el H0 o0 (dI 3 1) = some (.ref fo)) (hr_fo : G fo = some 52) (hq0 : 0 ≤ nf.toInt ∧ nf.toInt ≤ 29) (hq1 : 0 ≤ p0.toInt ∧ p0.toInt ≤ 95) (hq2 : 0 ≤ p1.toInt ∧ p1.toInt ≤ 95) (hc_VF : ct H0 fo 96 VF) (hgC : 0 ≤ nC ∧ nC ≤ 40) (hgS : 0 ≤ nS ∧ nS ≤ 60) : Met l yX0_layOut w_c_layOutC ({ frames := 3, cells := 0, slots := 0, locals := 84 }) (va_Pc [.ref o0, .int p0, .int p1] (fun U => U.heap = H0 ∧ va_K (dC, dI) vwCl (tyl kA) U ∧ EVC adK adV (gA G H0.size) U U.heap)) (va_Qi (fun (r : Int32) (u : Int32) => (0 ≤ r.toInt ∧ r.toInt ≤ 29) ∧ (r.toInt = nf.toInt ∧ u.toInt = nf.toInt + 1)) (fun (f1 : Int32) (t : State) => gH (dC, dI) kA (SHc nC nS) G t.heap ∧ gF (dC, dI) SKc G ([(3, 16), (52, 0)] : List (Nat × Nat)) H0 t.heap ∧ el t.heap o0 (dI 3 16) = some (.int f1) ∧ ct t.heap fo 96 (lyV VF nf p0.toInt p1.toInt 96)) (gA G H0.size)) 0 0 (gA G H0.size) := by
  refine Met.ofW (cc := cX0_layOut) (maxL := 4) (ret := (some .int)) (by decide) rfl ?_
  intro p e s m args below meth c s₁ B hml hv
  obtain ⟨rfl, hH0, hK, hE⟩ := hv
  have hx := B.exec
  have hb := B.bytes
  have hr := B.returns
  have hts := atoms_spec (ws := w_c_layOutC) B.pre
  have hown : s.vm.findClass RX0 = some m.cls := findClass_of_methodNamed B.named
  have hlocks := B.notSynchronized
  subst hH0
  generalize hAe : gA G s.heap.size = A at hE ⊢
  have hA : ∀ q : Nat, s.heap.size ≤ q → A q := fun q h => by rw [← hAe]; exact Or.inr h
  have hG := gA_of hAe
  have hS : va_S A s.heap s.heap [] := va_S.rf
  have hF : gF (dC, dI) SKc G ([(3, 16), (52, 0)] : List (Nat × Nat)) s.heap s.heap := gF.rf
  have hl := lv_entry ([.ref o0, .int p0, .int p1]) (n := 4) (Nat.le_of_ble_eq_true rfl)
  rw [lg_entry_eq]
  generalize (lg_sl ([.ref o0, .int p0, .int p1]) ++ List.replicate (4 - (lg_sl ([.ref o0, .int p0, .int p1])).length) Slot.unset).toArray = ls at hl ⊢
  have hl : lv_has ls 4 [(0, .ref o0), (1, .int p0), (2, .int p1)] := hl
  refine lv_iconst (v := 0) hx hb dX0_layOut_0 (by decide) ?_
  refine lv_istore_n (lv' := [(3, .int 0), (0, .ref o0), (1, .int p0), (2, .int p1)]) hx hb dX0_layOut_1 rfl hl (by decide) rfl (fun ls hl => ?_)
  have key22 : ∀ (n22 i1 : Nat), i1 + n22 = 96 → 0 ≤ i1 → ∀ (H : Heap) (locs : List Loc), gH (dC, dI) kA (SHc nC nS) G H → gF (dC, dI) SKc G ([(3, 16), (52, 0)] : List (Nat × Nat)) s.heap H → va_S A s.heap H locs → ct H fo 96 (lyV VF nf p0.toInt p1.toInt i1) → el H o0 (dI 3 16) = some (.int nf) → el H o0 (dI 3 1) = some (.ref fo) → ∀ ls : Array Slot, lv_has ls 4 [(3, .int (nI i1)), (0, .ref o0), (1, .int p0), (2, .int p1)] → W p l e (headSpec w_c_layOutC ({ frames := 3, cells := 0, slots := 0, locals := 84 })).room s m #[.ref o0, .int p0, .int p1] below meth c H locs 0 0 (MQ below (va_Qi (fun (r : Int32) (u : Int32) => (0 ≤ r.toInt ∧ r.toInt ≤ 29) ∧ (r.toInt = nf.toInt ∧ u.toInt = nf.toInt + 1)) (fun (f1 : Int32) (t : State) => gH (dC, dI) kA (SHc nC nS) G t.heap ∧ gF (dC, dI) SKc G ([(3, 16), (52, 0)] : List (Nat × Nat)) s.heap t.heap ∧ el t.heap o0 (dI 3 16) = some (.int f1) ∧ ct t.heap fo 96 (lyV VF nf p0.toInt p1.toInt 96)) A) #[.ref o0, .int p0, .int p1] s 0 0 A) (F0 m 2 ls []) := by
    intro n22
    induction n22 with
    | zero =>
      intro i1 hn22 hlo23  H locs hT hF hS m2 m3 m4 ls hl
      obtain rfl : 96 = i1 := by omega
      refine lv_iload_n hx hb dX0_layOut_2 rfl (lv_at hl 0 rfl) ?_
      refine lv_bipush (v := 96) hx hb dX0_layOut_3 (by decide) ?_
      refine lv_icmp_ge (tgt := 33) hx hb dX0_layOut_5 (by decide) (fun c24 => ?_) (fun c24 => (by exfalso; have q9 : ((96 : Nat) : Int) < 96 := ti_nle c24 (by decide) (nI_toInt (by omega)); omega))
      have t25 : 96 ≤ ((96 : Nat) : Int) := ti_le c24 (by decide) (nI_toInt (by omega))
      refine lv_aload_n hx hb dX0_layOut_33 rfl (lv_at hl 1 rfl) ?_
      refine lv_dup hx hb dX0_layOut_34 rfl ?_
      refine tw_getM (v := .int nf) hx hb hts bF2_X0 hown hK hT hr_o0 shc_3 rfl 16 (by decide) (ht_at2 hts 0 rfl) (fun _ h9 => h9) m3 dX0_layOut_35 ?_
      refine lv_iconst (v := 1) hx hb dX0_layOut_38 (by decide) ?_
      refine lv_iadd hx hb dX0_layOut_39 ?_
      refine lv_topi (fun x26 ex26 => ?_)
      have t27 : x26.toInt = nf.toInt + 1 := ti_add ex26 rfl (by decide) (by omega) (by omega)
      refine tw_put (v := .int x26) (ty := .int) hx hb hts bF2_X0 tyX0 tyX0_ok nmX0 hown hK hT hG hS hr_o0 shc_3 rfl 16 (by decide) (ht_at2 hts 0 rfl) (fun _ h9 => h9) rfl (by decide +kernel) rfl rfl (gl_at rfl (gi_of (show x26.toInt = x26.toInt from rfl) (by omega) (by omega))) dX0_layOut_40 (fun H locs hT oq m28 oj hS => ?_)
      have hF := hF.put hr_o0 skc_3 oq oj (by decide)
      have m29 := m2.kept (oq _ (gne hr_fo hr_o0 (by decide)))
      refine lv_aload_n hx hb dX0_layOut_43 rfl (lv_at hl 1 rfl) ?_
      refine tw_getM (v := .int x26) hx hb hts bF2_X0 hown hK hT hr_o0 shc_3 rfl 16 (by decide) (ht_at2 hts 0 rfl) (fun _ h9 => h9) m28 dX0_layOut_44 ?_
      refine lv_iconst (v := 1) hx hb dX0_layOut_47 (by decide) ?_
      refine lv_isub hx hb dX0_layOut_48 ?_
      refine lv_topi (fun x31 ex31 => ?_)
      have t32 : x31.toInt = x26.toInt - 1 := ti_sub ex31 rfl (by decide) (by omega) (by omega)
      exact W.iret (v := x31) hx hb hr (fun t ht hW => ⟨⟨x31, x26, rfl, (by exact ⟨(by have q8 := ti_all x31; omega), (by omega)⟩), by (try dsimp only); rw [ht]; exact ⟨hT, hF, m28, m29⟩⟩, hS.F ht⟩) hS.2.2 dX0_layOut_49
    | succ n22 ih22 =>
      intro i1 hn22 hlo23  H locs hT hF hS m2 m3 m4 ls hl
      have hlt32 : i1 < 96 := by omega
      refine lv_iload_n hx hb dX0_layOut_2 rfl (lv_at hl 0 rfl) ?_
      refine lv_bipush (v := 96) hx hb dX0_layOut_3 (by decide) ?_
      refine lv_icmp_ge (tgt := 33) hx hb dX0_layOut_5 (by decide) (fun c33 => (by exfalso; have q9 : 96 ≤ ((i1 : Nat) : Int) := ti_le c33 (by decide) (nI_toInt (by omega)); omega)) (fun c33 => ?_)
      have t34 : ((i1 : Nat) : Int) < 96 := ti_nle c33 (by decide) (nI_toInt (by omega))
      refine lv_iload_n hx hb dX0_layOut_8 rfl (lv_at hl 0 rfl) ?_
      refine lv_iload_n hx hb dX0_layOut_9 rfl (lv_at hl 2 rfl) ?_
      refine lv_iload_n hx hb dX0_layOut_10 rfl (lv_at hl 3 rfl) ?_
      have hFc := gA_free hG hA hS
      refine va_calli (va_runSN (As := [.int (nI i1), .int p0, .int p1]) (rest := []) ⟨hx, hb, hml, hown, hts⟩ (c_inRectangleE l dC dI kA adK adV G H nC nS (nI i1) p0 p1 hT (rg_t (a := ((i1 : Nat) : Int)) (nI_toInt (by omega)) (by omega) (by omega)) (by have q8 := ti_all p0; omega) (by have q8 := ti_all p1; omega) (by omega) (by omega)) ⟨va_cnB 3 hts (goodIn_ca (goodIn_r _ [2, 3, 4, 5, 6, 7, 8, 9, 10, 11, 12, 13] rfl (by decide +kernel)) (bs2_in _ _)) rfl rfl rfl (hE.nm 105 rfl) (ht_at2 hts 12 rfl) (by decide +kernel) ⟨(Nat.le_of_ble_eq_true rfl), (Nat.le_of_ble_eq_true rfl)⟩, (ht_at2 hts 13 rfl), trivial⟩ ⟨fun a U g mk q => by obtain ⟨q0, q1, qK, qE⟩ := q; exact ⟨q0, q1, va_K.moved (u := U) (U := U.calling g mk a) (Vm.Alike.refl U.vm) qK, EVC.blind g mk a qE⟩, fun U hU hW => ⟨rfl, hU, va_K.moved hW.alike hK, hE.call hS hFc hU hW⟩⟩ rfl rfl hl.1 rfl (lv_room (Nat.le_of_ble_eq_true rfl)) dX0_layOut_11 ⟨(Nat.le_of_ble_eq_true rfl), (Nat.le_of_ble_eq_true rfl)⟩) hS (fun q _ h => hFc q h) hFc (fun r35 u t H locs ht hvm hw36 hB _ _ hS => ?_)
      obtain ⟨hT, hF1⟩ := hB
      rw [ht] at hT hF1
      have m37 := m2.kept (hF1.arr hr_fo skc_52 (by decide))
      have m38 := (hF1.fld hr_o0 skc_3 (k := 16) (by decide) (by decide)).trans m3
      have m39 := (hF1.fld hr_o0 skc_3 (k := 1) (by decide) (by decide)).trans m4
      have hF := hF.more hF1 (by decide)
      try dsimp only at hw36
      obtain ⟨h40, hf41⟩ := hw36
      have t42 : (nI i1).toInt = ((i1 : Nat) : Int) := nI_toInt (by omega)
      refine lv_if_eq (tgt := 27) hx hb dX0_layOut_14 (by decide) (fun c43 => ?_) (fun c43 => ?_)
      · have t44 : r35.toInt = 0 := ti_eq c43 rfl (by decide)
        refine lv_iinc (v := nI (i1 + 1)) (lv' := [(3, .int (nI (i1 + 1))), (0, .ref o0), (1, .int p0), (2, .int p1)]) hx hb dX0_layOut_27 hl (k := 0) rfl (nI_add i1 1) (by decide) rfl (fun ls hl => ?_)
        refine lv_goto (tgt := 2) hx hb dX0_layOut_30 (by decide) ?_
        exact ih22 (i1 + 1) (by omega) (by omega) _ _ hT hF hS (m37.ext (fun _ _ => ly_out (inR_0 (s := ((i1 : Nat) : Int)) (a := p0.toInt) (b := p1.toInt) (by have q9 : (nI i1).toInt = ((i1 : Nat) : Int) := nI_toInt (by omega); omega)))) m38 m39 ls (lv_sub hl [0, 1, 2, 3] rfl)
      · have t45 : r35.toInt ≠ 0 := ti_ne c43 rfl (by decide)
        refine lv_aload_n hx hb dX0_layOut_17 rfl (lv_at hl 1 rfl) ?_
        refine tw_getM (v := .ref fo) hx hb hts bF2_X0 hown hK hT hr_o0 shc_3 rfl 1 (by decide) (ht_at2 hts 14 rfl) (fun _ h9 => h9) m39 dX0_layOut_18 ?_
        refine lv_iload_n hx hb dX0_layOut_21 rfl (lv_at hl 0 rfl) ?_
        refine lv_aload_n hx hb dX0_layOut_22 rfl (lv_at hl 1 rfl) ?_
        refine tw_getM (v := .int nf) hx hb hts bF2_X0 hown hK hT hr_o0 shc_3 rfl 16 (by decide) (ht_at2 hts 0 rfl) (fun _ h9 => h9) m38 dX0_layOut_23 ?_
        refine tw_iast (i := (nI i1)) (x := nf) hx hb hK hT hG hS hr_fo shc_52 rfl (vp_in_nI (by omega) (by decide)) (gi_all _) dX0_layOut_26 (fun H locs hT oq m46 oi hS => ?_)
        have hF := hF.ast hr_fo skc_52 oq (by decide)
        have m47 := m37.put m46 oi
        have m48 := (el_kept (oq _ (gne hr_o0 hr_fo (by decide)))).trans m38
        have m49 := (el_kept (oq _ (gne hr_o0 hr_fo (by decide)))).trans m39
        refine lv_iinc (v := nI (i1 + 1)) (lv' := [(3, .int (nI (i1 + 1))), (0, .ref o0), (1, .int p0), (2, .int p1)]) hx hb dX0_layOut_27 hl (k := 0) rfl (nI_add i1 1) (by decide) rfl (fun ls hl => ?_)
        refine lv_goto (tgt := 2) hx hb dX0_layOut_30 (by decide) ?_
        exact ih22 (i1 + 1) (by omega) (by omega) _ _ hT hF hS (m47.ext (fun _ _ => by rw [tn_nI (by omega)]; exact ly_in (inR_1 (s := ((i1 : Nat) : Int)) (a := p0.toInt) (b := p1.toInt) (by have q9 : (nI i1).toInt = ((i1 : Nat) : Int) := nI_toInt (by omega); omega)))) m48 m49 ls (lv_sub hl [0, 1, 2, 3] rfl)
  exact key22 (96 - 0) 0 (by omega) (Nat.le_refl _) _ _ hT hF hS (hc_VF.ext (fun _ _ => ly_0)) hm_nf hm_fo ls (lv_sub hl [0, 1, 2, 3] rfl)
def w_c_farmC : List Cond := .code yX11_farm cX11_farm 3 (some .int) :: (HAppend.hAppend (α := List Cond) (β := List Cond) (γ := List Cond) [.code yX11_needSquare cX11_needSquare 1 none, .code yX11_within cX11_within 3 (some .boolean), .methodLink RX11 58 yX11_within, .static yX11_within, .initialized RX11, .classLink RX11 557 "java/lang/IndexOutOfBoundsException", .initialized "java/lang/IndexOutOfBoundsException", .methodLink RX11 55 yX11_needSquare, .static yX11_needSquare, .fieldLink RX11 30 "SeaLand" "board" "LSeaLand$Board;", .fieldLink RX11 16 "SeaLand" "lake" "LSeaLand$Lake;", .code yX0_farmMayBe cX0_farmMayBe 6 (some .boolean), .fieldLink RX0 143 "SeaLand$Board" "farms" "I", .code yX11_inRectangle cX11_inRectangle 3 (some .boolean), .code yX11_isBetween cX11_isBetween 3 (some .boolean), .methodLink RX11 588 Lib.Math.min.name, .static Lib.Math.min.name, .initialized "java/lang/Math", .code Lib.Math.min.name Lib.Math.min.code 2 (some .int), .methodLink RX11 591 Lib.Math.max.name, .static Lib.Math.max.name, .code Lib.Math.max.name Lib.Math.max.code 2 (some .int), .methodLink RX11 585 yX11_isBetween, .static yX11_isBetween, .static yX11_inRectangle, .fieldLink RX0 17 "SeaLand$Board" "farmOf" "[I", .methodLink RX11 359 yX0_farmMayBe, .instanceMethod yX0_farmMayBe, .selects RX0 yX0_farmMayBe yX0_farmMayBe, .initialized RX0, .code yX0_layOut cX0_layOut 4 (some .int), .methodLink RX11 363 yX0_layOut, .instanceMethod yX0_layOut, .selects RX0 yX0_layOut yX0_layOut] bs2)
set_option maxHeartbeats 4000000 in
set_option maxRecDepth 100000 in
theorem c_farmC (l : Launch) (hlt : l.stackTraces = false) (dC : Nat → ClassId) (dI : Nat → Nat → Nat) (kA : Nat → ClassId) (adK adV : Nat → Nat) (G : gT) (H0 : Heap) (nC nS : Int) (o0 : Nat) (p0 : Int32) (p1 : Int32) (lk : Nat) (gr : Nat) (la : Nat) (bd : Nat) (nf : Int32) (fo : Nat) (VL : Nat → Int32) (VF : Nat → Int32)  (hT : gH (dC, dI) kA (SHc nC nS) G H0) (hr_o0 : G o0 = some 14) (hm_lk : el H0 o0 (dI 14 1) = some (.ref lk)) (hr_lk : G lk = some 6) (hm_gr : el H0 lk (dI 6 1) = some (.ref gr)) (hr_gr : G gr = some 5) (hm_la : el H0 gr (dI 5 0) = some (.ref la)) (hr_la : G la = some 25) (hm_bd : el H0 o0 (dI 14 3) = some (.ref bd)) (hr_bd : G bd = some 3) (hm_nf : el H0 bd (dI 3 16) = some (.int nf)) (hm_fo : el H0 bd (dI 3 1) = some (.ref fo)) (hr_fo : G fo = some 52) (hq0 : 0 ≤ nf.toInt ∧ nf.toInt ≤ 30) (hc_VL : ct H0 la 96 VL) (hc_VF : ct H0 fo 96 VF) (hgC : 0 ≤ nC ∧ nC ≤ 40) (hgS : 0 ≤ nS ∧ nS ≤ 60) : vx_Met l yX11_farm w_c_farmC ({ frames := 7, cells := 2, slots := 12, locals := 120 }) (va_Pc [.ref o0, .int p0, .int p1] (fun U => U.heap = H0 ∧ va_K (dC, dI) vwCl (tyl kA) U ∧ EVC adK adV (gA G H0.size) U U.heap)) (va_Qi (fun (r : Int32) (u : Int32 × (Nat → Int32)) => match u with | (f1, V1) => (-1 ≤ r.toInt ∧ r.toInt ≤ 29) ∧ (faC p0.toInt p1.toInt = 0) ∧ (((decide (nf.toInt < 30) && fmK (fun j => (VL j).toInt) (fun j => (VF j).toInt + 1) p0.toInt p1.toInt 96) = true ∧ r.toInt = nf.toInt ∧ f1.toInt = nf.toInt + 1 ∧ V1 = lyV VF nf p0.toInt p1.toInt 96) ∨ ((decide (nf.toInt < 30) && fmK (fun j => (VL j).toInt) (fun j => (VF j).toInt + 1) p0.toInt p1.toInt 96) = false ∧ r.toInt = -1 ∧ f1.toInt = nf.toInt ∧ V1 = VF))) (fun (u : Int32 × (Nat → Int32)) (t : State) => match u with | (f1, V1) => gH (dC, dI) kA (SHc nC nS) G t.heap ∧ gF (dC, dI) SKc G ([(3, 16), (52, 0)] : List (Nat × Nat)) H0 t.heap ∧ el t.heap bd (dI 3 16) = some (.int f1) ∧ ct t.heap fo 96 V1) (gA G H0.size)) (vx_X (fun _ : Unit => True) (fun E _ t => (E = "java/lang/IndexOutOfBoundsException") ∧ ((E = "java/lang/IndexOutOfBoundsException" ∧ faC p0.toInt p1.toInt = 1)) ∧ gH (dC, dI) kA (SHc nC nS) G t.heap ∧ gF (dC, dI) SKc G ([(3, 16), (52, 0)] : List (Nat × Nat)) H0 t.heap ∧ el t.heap bd (dI 3 16) = some (.int nf) ∧ ct t.heap fo 96 VF) (gA G H0.size)) 2 12 (gA G H0.size) := by
  refine vx_ofW (cc := cX11_farm) (maxL := 3) (ret := (some .int)) (by decide) rfl ?_
  intro p e s m args below meth c s₁ B hml hnt hv
  obtain ⟨rfl, hH0, hK, hE⟩ := hv
  have hx := B.exec
  have hb := B.bytes
  have hr := B.returns
  have hts := atoms_spec (ws := w_c_farmC) B.pre
  have hown : s.vm.findClass RX11 = some m.cls := findClass_of_methodNamed B.named
  have hlocks := B.notSynchronized
  subst hH0
  generalize hAe : gA G s.heap.size = A at hE ⊢
  have hA : ∀ q : Nat, s.heap.size ≤ q → A q := fun q h => by rw [← hAe]; exact Or.inr h
  have hG := gA_of hAe
  have hS : va_S A s.heap s.heap [] := va_S.rf
  have hF : gF (dC, dI) SKc G ([(3, 16), (52, 0)] : List (Nat × Nat)) s.heap s.heap := gF.rf
  have hl := lv_entry ([.ref o0, .int p0, .int p1]) (n := 3) (Nat.le_of_ble_eq_true rfl)
  rw [lg_entry_eq]
  generalize (lg_sl ([.ref o0, .int p0, .int p1]) ++ List.replicate (3 - (lg_sl ([.ref o0, .int p0, .int p1])).length) Slot.unset).toArray = ls at hl ⊢
  have hl : lv_has ls 3 [(0, .ref o0), (1, .int p0), (2, .int p1)] := hl
  refine lv_iload_n hx hb dX11_farm_0 rfl (lv_at hl 1 rfl) ?_
  have hFc := gA_free hG hA hS
  refine vx_callv (vx_runS (As := [.int p0]) (rest := []) ⟨hx, hb, hml, hown, hts⟩ (c_needSquareE l hlt dC dI kA adK adV G s.heap nC nS p0 hT (by omega) (by omega)) (va_cwS 1 hts (goodIn_app (goodIn_r _ [8, 9, 5] rfl (by decide +kernel)) (goodIn_ca (goodIn_r _ [1, 2, 3, 4, 5, 6, 7] rfl (by decide +kernel)) (bs2_in _ _))) rfl rfl rfl (by decide +kernel) ⟨(Nat.le_of_ble_eq_true rfl), (Nat.le_of_ble_eq_true rfl)⟩) ⟨fun a U g mk q => by obtain ⟨q0, q1, qK, qE⟩ := q; exact ⟨q0, q1, va_K.moved (u := U) (U := U.calling g mk a) (Vm.Alike.refl U.vm) qK, EVC.blind g mk a qE⟩, fun U hU hW => ⟨rfl, hU, va_K.moved hW.alike hK, hE.call hS hFc hU hW⟩⟩ rfl rfl hl.1 rfl (lv_room (Nat.le_of_ble_eq_true rfl)) dX11_farm_1 ⟨(Nat.le_of_ble_eq_true rfl), (Nat.le_of_ble_eq_true rfl)⟩) hS (fun q _ h => hFc q h) hFc (fun q _ h => hFc q h) (fun E ce q9 u t H locs ht hvm _ hw2 _ _ hS hce hcv hcl => ?_) (fun u t H locs ht hvm hw2 hB _ _ hS => ?_)
  · obtain ⟨hw2, hxf, hTx, hFx⟩ := hw2; rw [ht] at hTx hFx
    exact vx_out (fun x h => (hnt x h).elim) hlocks hce hcv hcl (fun t2 h2 hW => ⟨(), trivial, ⟨((fun h9 => h9) hw2), (⟨hw2, (by have := faC_s p0.toInt p1.toInt; first | omega | exact hxf.elim)⟩), by rw [h2]; exact hTx, by rw [h2]; exact hF.more hFx (by decide), by rw [h2]; exact (hFx.fld hr_bd skc_3 (k := 16) (by decide) (by decide)).trans hm_nf, by rw [h2]; exact hc_VF.kept (hFx.arr hr_fo skc_52 (by decide))⟩, hS.F h2⟩) hS.2.2 (by decide) (by decide)
  · obtain ⟨hT, hF1⟩ := hB
    rw [ht] at hT hF1
    have m3 := (hF1.fld hr_o0 skc_14 (k := 1) (by decide) (by decide)).trans hm_lk
    have m4 := (hF1.fld hr_lk skc_6 (k := 1) (by decide) (by decide)).trans hm_gr
    have m5 := (hF1.fld hr_gr skc_5 (k := 0) (by decide) (by decide)).trans hm_la
    have m6 := (hF1.fld hr_o0 skc_14 (k := 3) (by decide) (by decide)).trans hm_bd
    have m7 := (hF1.fld hr_bd skc_3 (k := 16) (by decide) (by decide)).trans hm_nf
    have m8 := (hF1.fld hr_bd skc_3 (k := 1) (by decide) (by decide)).trans hm_fo
    have m9 := hc_VL.kept (hF1.arr hr_la skc_25 (by decide))
    have m10 := hc_VF.kept (hF1.arr hr_fo skc_52 (by decide))
    have hF := hF.more hF1 (by decide)
    try dsimp only at hw2
    have hf11 := hw2
    refine lv_iload_n hx hb dX11_farm_4 rfl (lv_at hl 2 rfl) ?_
    have hFc := gA_free hG hA hS
    refine vx_callv (vx_runS (As := [.int p1]) (rest := []) ⟨hx, hb, hml, hown, hts⟩ (c_needSquareE l hlt dC dI kA adK adV G H nC nS p1 hT (by omega) (by omega)) (va_cwS 1 hts (goodIn_app (goodIn_r _ [8, 9, 5] rfl (by decide +kernel)) (goodIn_ca (goodIn_r _ [1, 2, 3, 4, 5, 6, 7] rfl (by decide +kernel)) (bs2_in _ _))) rfl rfl rfl (by decide +kernel) ⟨(Nat.le_of_ble_eq_true rfl), (Nat.le_of_ble_eq_true rfl)⟩) ⟨fun a U g mk q => by obtain ⟨q0, q1, qK, qE⟩ := q; exact ⟨q0, q1, va_K.moved (u := U) (U := U.calling g mk a) (Vm.Alike.refl U.vm) qK, EVC.blind g mk a qE⟩, fun U hU hW => ⟨rfl, hU, va_K.moved hW.alike hK, hE.call hS hFc hU hW⟩⟩ rfl rfl hl.1 rfl (lv_room (Nat.le_of_ble_eq_true rfl)) dX11_farm_5 ⟨(Nat.le_of_ble_eq_true rfl), (Nat.le_of_ble_eq_true rfl)⟩) hS (fun q _ h => hFc q h) hFc (fun q _ h => hFc q h) (fun E ce q9 u t H locs ht hvm _ hw13 _ _ hS hce hcv hcl => ?_) (fun u t H locs ht hvm hw13 hB _ _ hS => ?_)
    · obtain ⟨hw13, hxf, hTx, hFx⟩ := hw13; rw [ht] at hTx hFx
      exact vx_out (fun x h => (hnt x h).elim) hlocks hce hcv hcl (fun t2 h2 hW => ⟨(), trivial, ⟨((fun h9 => h9) hw13), (⟨hw13, (by have := faC_s p0.toInt p1.toInt; first | omega | exact hxf.elim)⟩), by rw [h2]; exact hTx, by rw [h2]; exact hF.more hFx (by decide), by rw [h2]; exact (hFx.fld hr_bd skc_3 (k := 16) (by decide) (by decide)).trans m7, by rw [h2]; exact m10.kept (hFx.arr hr_fo skc_52 (by decide))⟩, hS.F h2⟩) hS.2.2 (by decide) (by decide)
    · obtain ⟨hT, hF1⟩ := hB
      rw [ht] at hT hF1
      have m14 := (hF1.fld hr_o0 skc_14 (k := 1) (by decide) (by decide)).trans m3
      have m15 := (hF1.fld hr_lk skc_6 (k := 1) (by decide) (by decide)).trans m4
      have m16 := (hF1.fld hr_gr skc_5 (k := 0) (by decide) (by decide)).trans m5
      have m17 := (hF1.fld hr_o0 skc_14 (k := 3) (by decide) (by decide)).trans m6
      have m18 := (hF1.fld hr_bd skc_3 (k := 16) (by decide) (by decide)).trans m7
      have m19 := (hF1.fld hr_bd skc_3 (k := 1) (by decide) (by decide)).trans m8
      have m20 := m9.kept (hF1.arr hr_la skc_25 (by decide))
      have m21 := m10.kept (hF1.arr hr_fo skc_52 (by decide))
      have hF := hF.more hF1 (by decide)
      try dsimp only at hw13
      have hf22 := hw13
      refine lv_aload_n hx hb dX11_farm_8 rfl (lv_at hl 0 rfl) ?_
      refine tw_getM (v := .ref bd) hx hb hts bF2_X11 hown hK hT hr_o0 shc_14 rfl 3 (by decide) (ht_at2 hts 9 rfl) (fun _ h9 => h9) m17 dX11_farm_9 ?_
      refine lv_iload_n hx hb dX11_farm_12 rfl (lv_at hl 1 rfl) ?_
      refine lv_iload_n hx hb dX11_farm_13 rfl (lv_at hl 2 rfl) ?_
      refine lv_aload_n hx hb dX11_farm_14 rfl (lv_at hl 0 rfl) ?_
      refine tw_getM (v := .ref lk) hx hb hts bF2_X11 hown hK hT hr_o0 shc_14 rfl 1 (by decide) (ht_at2 hts 10 rfl) (fun _ h9 => h9) m14 dX11_farm_15 ?_
      refine tw_getNM (v := .ref gr) hx hb hts bF2_X3 hown hK hT hr_lk shc_6 rfl 1 (by decide) (hE.nw 1 rfl) (fun _ h9 => h9) m15 dX11_farm_18 ?_
      have hFc := gA_free hG hA hS
      refine va_calli (va_runV (As := [.int p0, .int p1, .ref gr]) (rest := []) ⟨hx, hb, hml, hown, hts⟩ (c_farmMayBeC l dC dI kA adK adV G H nC nS bd p0 p1 gr nf fo la VL VF hT hr_gr hr_bd m18 m19 hr_fo m16 hr_la (by have q8 := ti_all nf; omega) (by have q8 := ti_all p0; omega) (by have q8 := ti_all p1; omega) m20 m21 (by omega) (by omega)) (cwV 3 hts (goodIn_app (goodIn_r _ [27, 28, 29, 30] rfl (by decide +kernel)) (goodIn_ca (goodIn_r _ [12, 13, 14, 15, 16, 17, 18, 19, 20, 21, 22, 23, 24, 5, 25, 26] rfl (by decide +kernel)) (bs2_in _ _))) rfl rfl rfl (by decide +kernel) ⟨(Nat.le_of_ble_eq_true rfl), (Nat.le_of_ble_eq_true rfl)⟩) ⟨fun a U g mk q => by obtain ⟨q0, q1, qK, qE⟩ := q; exact ⟨q0, q1, va_K.moved (u := U) (U := U.calling g mk a) (Vm.Alike.refl U.vm) qK, EVC.blind g mk a qE⟩, gH_rc hK hT hr_bd shc_3 rfl, fun U hU hW => ⟨rfl, hU, va_K.moved hW.alike hK, hE.call hS hFc hU hW⟩⟩ rfl rfl hl.1 rfl (lv_room (Nat.le_of_ble_eq_true rfl)) dX11_farm_21 ⟨(Nat.le_of_ble_eq_true rfl), (Nat.le_of_ble_eq_true rfl)⟩) hS (fun q _ h => hFc q h) hFc (fun r23 u t H locs ht hvm hw24 hB _ _ hS => ?_)
      obtain ⟨hT, hF1⟩ := hB
      rw [ht] at hT hF1
      have m28 := (hF1.fld hr_o0 skc_14 (k := 3) (by decide) (by decide)).trans m17
      have m29 := (hF1.fld hr_bd skc_3 (k := 16) (by decide) (by decide)).trans m18
      have m30 := (hF1.fld hr_bd skc_3 (k := 1) (by decide) (by decide)).trans m19
      have m32 := m21.kept (hF1.arr hr_fo skc_52 (by decide))
      have hF := hF.more hF1 (by decide)
      try dsimp only at hw24
      obtain ⟨h33, hf34⟩ := hw24
      have fmb := hf34
      refine lv_if_eq (tgt := 39) hx hb dX11_farm_24 (by decide) (fun c35 => ?_) (fun c35 => ?_)
      · have t36 : r23.toInt = 0 := ti_eq c35 rfl (by decide)
        refine lv_iconst (v := (-1)) hx hb dX11_farm_39 (by decide) ?_
        exact vx_ret (W.iret (v := (-1)) hx hb hr (fun t ht hW => ⟨⟨(-1), (nf, VF), rfl, (by exact ⟨(rg_t (a := (-1)) (by decide) (by first | decide | omega) (by first | decide | omega)), (by have := faC_s p0.toInt p1.toInt; omega), (Or.inr ⟨(fmb.resolve_left (fun h8 => by have := h8.1; omega)).2, by decide, by omega, rfl⟩)⟩), by (try dsimp only); rw [ht]; exact ⟨hT, hF, m29, m32⟩⟩, hS.F ht⟩) hS.2.2 dX11_farm_40)
      · have t37 : r23.toInt ≠ 0 := ti_ne c35 rfl (by decide)
        have fmc := (fmb.resolve_right (fun h8 => by have := h8.1; omega)).2
        have t38 : nf.toInt ≤ 29 := fm_h fmc
        refine lv_aload_n hx hb dX11_farm_27 rfl (lv_at hl 0 rfl) ?_
        refine tw_getM (v := .ref bd) hx hb hts bF2_X11 hown hK hT hr_o0 shc_14 rfl 3 (by decide) (ht_at2 hts 9 rfl) (fun _ h9 => h9) m28 dX11_farm_28 ?_
        refine lv_iload_n hx hb dX11_farm_31 rfl (lv_at hl 1 rfl) ?_
        refine lv_iload_n hx hb dX11_farm_32 rfl (lv_at hl 2 rfl) ?_
        have hFc := gA_free hG hA hS
        refine va_calli (va_runV (As := [.int p0, .int p1]) (rest := []) ⟨hx, hb, hml, hown, hts⟩ (c_layOutC l dC dI kA adK adV G H nC nS bd p0 p1 nf fo VF hT hr_bd m29 m30 hr_fo (by have q8 := ti_all nf; omega) (by have q8 := ti_all p0; omega) (by have q8 := ti_all p1; omega) m32 (by omega) (by omega)) (cwV 2 hts (goodIn_app (goodIn_r _ [32, 33, 34, 30] rfl (by decide +kernel)) (goodIn_ca (goodIn_r _ [31, 13, 14, 15, 16, 17, 18, 19, 20, 21, 22, 23, 24, 5, 25, 26] rfl (by decide +kernel)) (bs2_in _ _))) rfl rfl rfl (by decide +kernel) ⟨(Nat.le_of_ble_eq_true rfl), (Nat.le_of_ble_eq_true rfl)⟩) ⟨fun a U g mk q => by obtain ⟨q0, q1, qK, qE⟩ := q; exact ⟨q0, q1, va_K.moved (u := U) (U := U.calling g mk a) (Vm.Alike.refl U.vm) qK, EVC.blind g mk a qE⟩, gH_rc hK hT hr_bd shc_3 rfl, fun U hU hW => ⟨rfl, hU, va_K.moved hW.alike hK, hE.call hS hFc hU hW⟩⟩ rfl rfl hl.1 rfl (lv_room (Nat.le_of_ble_eq_true rfl)) dX11_farm_33 ⟨(Nat.le_of_ble_eq_true rfl), (Nat.le_of_ble_eq_true rfl)⟩) hS (fun q _ h => hFc q h) hFc (fun r39 u t H locs ht hvm hw40 hB _ _ hS => ?_)
        obtain ⟨u41, rfl⟩ : ∃ z, z = u := ⟨_, rfl⟩
        obtain ⟨hT, hF1, m42, m43⟩ := hB
        rw [ht] at hT hF1 m42 m43
        have hF := hF.more hF1 (by decide)
        try dsimp only at hw40
        obtain ⟨h52, hf53⟩ := hw40
        refine lv_goto (tgt := 40) hx hb dX11_farm_36 (by decide) ?_
        exact vx_ret (W.iret (v := r39) hx hb hr (fun t ht hW => ⟨⟨r39, (u41, (lyV VF nf p0.toInt p1.toInt 96)), rfl, (by exact ⟨(by have q8 := ti_all r39; omega), (by have := faC_s p0.toInt p1.toInt; omega), (Or.inl ⟨(fmb.resolve_right (fun h8 => by have := h8.1; omega)).2, by omega, by omega, rfl⟩)⟩), by (try dsimp only); rw [ht]; exact ⟨hT, hF, m42, m43⟩⟩, hS.F ht⟩) hS.2.2 dX11_farm_40)
def w_c_needFarmE : List Cond := .code yX11_needFarm cX11_needFarm 2 none :: (HAppend.hAppend (α := List Cond) (β := List Cond) (γ := List Cond) [.fieldLink RX11 30 "SeaLand" "board" "LSeaLand$Board;", .code yX11_within cX11_within 3 (some .boolean), .methodLink RX11 58 yX11_within, .static yX11_within, .initialized RX11, .classLink RX11 557 "java/lang/IndexOutOfBoundsException", .initialized "java/lang/IndexOutOfBoundsException"] bs2)
set_option maxHeartbeats 4000000 in
set_option maxRecDepth 100000 in
theorem c_needFarmE (l : Launch) (hlt : l.stackTraces = false) (dC : Nat → ClassId) (dI : Nat → Nat → Nat) (kA : Nat → ClassId) (adK adV : Nat → Nat) (G : gT) (H0 : Heap) (nC nS : Int) (o0 : Nat) (p0 : Int32) (bd : Nat) (nf : Int32)  (hT : gH (dC, dI) kA (SHc nC nS) G H0) (hr_o0 : G o0 = some 14) (hm_bd : el H0 o0 (dI 14 3) = some (.ref bd)) (hr_bd : G bd = some 3) (hm_nf : el H0 bd (dI 3 16) = some (.int nf)) (hq0 : 0 ≤ nf.toInt ∧ nf.toInt ≤ 30) (hgC : 0 ≤ nC ∧ nC ≤ 40) (hgS : 0 ≤ nS ∧ nS ≤ 60) : vx_Met l yX11_needFarm w_c_needFarmE ({ frames := 6, cells := 1, slots := 6, locals := 100 }) (va_Pc [.ref o0, .int p0] (fun U => U.heap = H0 ∧ va_K (dC, dI) vwCl (tyl kA) U ∧ EVC adK adV (gA G H0.size) U U.heap)) (va_Qv (fun (u : Unit) => (0 ≤ p0.toInt ∧ p0.toInt < nf.toInt)) (fun (_ : Unit) (t : State) => gH (dC, dI) kA (SHc nC nS) G t.heap ∧ gF (dC, dI) SKc G ([] : List (Nat × Nat)) H0 t.heap) (gA G H0.size)) (vx_X (fun _ : Unit => True) (fun E _ t => (E = "java/lang/IndexOutOfBoundsException") ∧ (¬ (0 ≤ p0.toInt ∧ p0.toInt < nf.toInt)) ∧ gH (dC, dI) kA (SHc nC nS) G t.heap ∧ gF (dC, dI) SKc G ([] : List (Nat × Nat)) H0 t.heap) (gA G H0.size)) 1 6 (gA G H0.size) := by
  refine vx_ofW (cc := cX11_needFarm) (maxL := 2) (ret := none) (by decide) rfl ?_
  intro p e s m args below meth c s₁ B hml hnt hv
  obtain ⟨rfl, hH0, hK, hE⟩ := hv
  have hx := B.exec
  have hb := B.bytes
  have hr := B.returns
  have hts := atoms_spec (ws := w_c_needFarmE) B.pre
  have hown : s.vm.findClass RX11 = some m.cls := findClass_of_methodNamed B.named
  have hlocks := B.notSynchronized
  subst hH0
  generalize hAe : gA G s.heap.size = A at hE ⊢
  have hA : ∀ q : Nat, s.heap.size ≤ q → A q := fun q h => by rw [← hAe]; exact Or.inr h
  have hG := gA_of hAe
  have hS : va_S A s.heap s.heap [] := va_S.rf
  have hF : gF (dC, dI) SKc G ([] : List (Nat × Nat)) s.heap s.heap := gF.rf
  have hl := lv_entry ([.ref o0, .int p0]) (n := 2) (Nat.le_of_ble_eq_true rfl)
  rw [lg_entry_eq]
  generalize (lg_sl ([.ref o0, .int p0]) ++ List.replicate (2 - (lg_sl ([.ref o0, .int p0])).length) Slot.unset).toArray = ls at hl ⊢
  have hl : lv_has ls 2 [(0, .ref o0), (1, .int p0)] := hl
  refine lv_iload_n hx hb dX11_needFarm_0 rfl (lv_at hl 1 rfl) ?_
  refine lv_iconst (v := 0) hx hb dX11_needFarm_1 (by decide) ?_
  refine lv_aload_n hx hb dX11_needFarm_2 rfl (lv_at hl 0 rfl) ?_
  refine tw_getM (v := .ref bd) hx hb hts bF2_X11 hown hK hT hr_o0 shc_14 rfl 3 (by decide) (ht_at2 hts 0 rfl) (fun _ h9 => h9) hm_bd dX11_needFarm_3 ?_
  refine tw_getNM (v := .int nf) hx hb hts bF2_X0 hown hK hT hr_bd shc_3 rfl 16 (by decide) (hE.nw 57 rfl) (fun _ h9 => h9) hm_nf dX11_needFarm_6 ?_
  refine lv_iconst (v := 1) hx hb dX11_needFarm_9 (by decide) ?_
  refine lv_isub hx hb dX11_needFarm_10 ?_
  refine lv_topi (fun x1 ex1 => ?_)
  have t2 : x1.toInt = nf.toInt - 1 := ti_sub ex1 rfl (by decide) (by omega) (by omega)
  have hFc := gA_free hG hA hS
  refine va_calli (va_runS (As := [.int p0, .int 0, .int x1]) (rest := []) ⟨hx, hb, hml, hown, hts⟩ (c_within l dC dI kA adK adV G s.heap nC nS p0 0 x1 hT (by omega) (by omega)) (va_cwS 3 hts (goodIn_app (goodIn_r _ [3, 4, 5] rfl (by decide +kernel)) (goodIn_ca (goodIn_r _ [2] rfl (by decide +kernel)) (bs2_in _ _))) rfl rfl rfl (by decide +kernel) ⟨(Nat.le_of_ble_eq_true rfl), (Nat.le_of_ble_eq_true rfl)⟩) ⟨fun a U g mk q => by obtain ⟨q0, q1, qK, qE⟩ := q; exact ⟨q0, q1, va_K.moved (u := U) (U := U.calling g mk a) (Vm.Alike.refl U.vm) qK, EVC.blind g mk a qE⟩, fun U hU hW => ⟨rfl, hU, va_K.moved hW.alike hK, hE.call hS hFc hU hW⟩⟩ rfl rfl hl.1 rfl (lv_room (Nat.le_of_ble_eq_true rfl)) dX11_needFarm_11 ⟨(Nat.le_of_ble_eq_true rfl), (Nat.le_of_ble_eq_true rfl)⟩) hS (fun q _ h => hFc q h) hFc (fun r3 u t H locs ht hvm hw4 hB _ _ hS => ?_)
  obtain ⟨hT, hF1⟩ := hB
  rw [ht] at hT hF1
  have hF := hF.more hF1 (by decide)
  try dsimp only at hw4
  obtain ⟨h7, hi8, hi9⟩ := hw4
  refine lv_if_ne (tgt := 28) hx hb dX11_needFarm_14 (by decide) (fun c10 => ?_) (fun c10 => ?_)
  · have t11 : r3.toInt ≠ 0 := ti_ne c10 rfl (by decide)
    have t12 : (0 : Int32).toInt = 0 := by decide
    have t13 : (0 : Int32).toInt ≤ p0.toInt ∧ p0.toInt ≤ x1.toInt := hi8 ((bit_of ⟨by omega, by omega⟩).resolve_left c10)
    refine W.widen (k := 1) (n := 6) (by decide) (by decide) ?_
    exact vx_ret (W.vret hx hb hr (fun t ht hW => ⟨⟨(), rfl, (by exact (by omega)), by (try dsimp only); rw [ht]; exact ⟨hT, hF⟩⟩, hS.F ht⟩) hS.2.2 dX11_needFarm_28)
  · have t14 : r3.toInt = 0 := ti_eq c10 rfl (by decide)
    have t15 : (0 : Int32).toInt = 0 := by decide
    have t16 : p0.toInt < (0 : Int32).toInt ∨ x1.toInt < p0.toInt := hi9 c10
    obtain ⟨sa17, hsa17⟩ := hE.str 14 rfl
    exact vx_throwSW (names := ["java/lang/RuntimeException", "java/lang/Exception"]) hx hb hlt hown (by decide +kernel) (by decide +kernel) (ht_at2 hts 5 rfl) (ht_at2 hts 6 rfl) hsa17 (bX2_at0 hts hE) bX_ok0_557 hE.1.1.2.2.1 hE.1.1.2.2.2 hS (by rw [hml]; exact hl.1) dX11_needFarm_17 dX11_needFarm_20 dX11_needFarm_21 dX11_needFarm_24 dX11_needFarm_27 (fun x h => (hnt x h).elim) (by decide) (Nat.le_of_ble_eq_true rfl) (Nat.le_of_ble_eq_true rfl) (Nat.le_of_ble_eq_true rfl) hlocks (fun t hW hz hq => ⟨(), trivial, ⟨rfl, (by omega), hT.ext hq, hF.ext hT hq⟩, Nat.le_trans hS.1 hz, fun q h1 h2 => (hq q (Nat.lt_of_lt_of_le h1 hS.1)).trans (hS.2.1 q h1 h2)⟩) hS.2.2 (by decide) (by decide)
def w_c_sowC : List Cond := .code yX11_sow cX11_sow 4 (some .boolean) :: (HAppend.hAppend (α := List Cond) (β := List Cond) (γ := List Cond) [.code yX11_needFarm cX11_needFarm 2 none, .fieldLink RX11 30 "SeaLand" "board" "LSeaLand$Board;", .code yX11_within cX11_within 3 (some .boolean), .methodLink RX11 58 yX11_within, .static yX11_within, .initialized RX11, .classLink RX11 557 "java/lang/IndexOutOfBoundsException", .initialized "java/lang/IndexOutOfBoundsException", .methodLink RX11 366 yX11_needFarm, .instanceMethod yX11_needFarm, .selects RX11 yX11_needFarm yX11_needFarm, .code yX11_needNumbers cX11_needNumbers 1 none, .classLink RX11 547 "java/lang/IllegalArgumentException", .initialized "java/lang/IllegalArgumentException", .methodLink RX11 62 yX11_needNumbers, .static yX11_needNumbers] bs2)
