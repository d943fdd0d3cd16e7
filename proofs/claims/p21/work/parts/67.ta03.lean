set_option maxHeartbeats 4000000 in
set_option maxRecDepth 100000 in
theorem c_lineHoldsZ (l : Launch) (dC : Nat → ClassId) (dI : Nat → Nat → Nat) (kA : Nat → ClassId) (adK adV : Nat → Nat) (G : gT) (H0 : Heap) (nC nS : Int) (o0 : Nat) (p0 : Int32) (p1 : Nat) (sf : Nat) (sto : Nat) (stp9 : Nat) (stk : Nat) (vF : Nat → Int32) (vT : Nat → Int32) (vS : Nat → Int32) (vQ : Nat → Int64) (fL : Nat → Int64)  (hT : gH (dC, dI) kA (SHc nC nS) G H0) (hr_p1 : G p1 = some 56) (hr_o0 : G o0 = some 7) (hm_sf : el H0 o0 (dI 7 7) = some (.ref sf)) (hr_sf : G sf = some 47) (hm_sto : el H0 o0 (dI 7 8) = some (.ref sto)) (hr_sto : G sto = some 48) (hm_stp9 : el H0 o0 (dI 7 9) = some (.ref stp9)) (hr_stp9 : G stp9 = some 49) (hm_stk : el H0 o0 (dI 7 10) = some (.ref stk)) (hr_stk : G stk = some 50) (hq0 : 0 ≤ p0.toInt ∧ p0.toInt ≤ 19) (hok : zok (zC (tz vS) (vF p0.toNatClampNeg).toNatClampNeg (vT p0.toNatClampNeg).toNatClampNeg)) (hc_vF : ct H0 sf 20 vF) (hc_vT : ct H0 sto 20 vT) (hc_vS : ct H0 stp9 400 vS) (hc_vQ : ctl H0 stk 20 vQ) (hc_fL : ctl H0 p1 10 fL) (hgC : 0 ≤ nC ∧ nC ≤ 40) (hgS : 0 ≤ nS ∧ nS ≤ 60) : Met l yX4_lineHolds w_c_lineHoldsZ ({ frames := 2, cells := 0, slots := 0, locals := 64 }) (va_Pc [.ref o0, .int p0, .ref p1] (fun U => U.heap = H0 ∧ va_K (dC, dI) vwCl (tyl kA) U ∧ EVC adK adV (gA G H0.size) U U.heap)) (va_Qi (fun (r : Int32) (u : Unit) => (0 ≤ r.toInt ∧ r.toInt ≤ 1) ∧ ((r.toInt = 1 ∧ zhd fL (zC (tz vS) (vF p0.toNatClampNeg).toNatClampNeg (vT p0.toNatClampNeg).toNatClampNeg)) ∨ (r.toInt = 0 ∧ ¬ zhd fL (zC (tz vS) (vF p0.toNatClampNeg).toNatClampNeg (vT p0.toNatClampNeg).toNatClampNeg)))) (fun (_ : Unit) (t : State) => gH (dC, dI) kA (SHc nC nS) G t.heap ∧ gF (dC, dI) SKc G ([(50, 0)] : List (Nat × Nat)) H0 t.heap) (gA G H0.size)) 0 0 (gA G H0.size) := by
  refine Met.ofW (cc := cX4_lineHolds) (maxL := 6) (ret := (some .boolean)) (by decide) rfl ?_
  intro p e s m args below meth c s₁ B hml hv
  obtain ⟨rfl, hH0, hK, hE⟩ := hv
  have hx := B.exec
  have hb := B.bytes
  have hr := B.returns
  have hts := atoms_spec (ws := w_c_lineHoldsZ) B.pre
  have hown : s.vm.findClass RX4 = some m.cls := findClass_of_methodNamed B.named
  have hlocks := B.notSynchronized
  subst hH0
  generalize hAe : gA G s.heap.size = A at hE ⊢
  have hA : ∀ q : Nat, s.heap.size ≤ q → A q := fun q h => by rw [← hAe]; exact Or.inr h
  have hG := gA_of hAe
  have hS : va_S A s.heap s.heap [] := va_S.rf
  have hF : gF (dC, dI) SKc G ([(50, 0)] : List (Nat × Nat)) s.heap s.heap := gF.rf
  have hl := lv_entry ([.ref o0, .int p0, .ref p1]) (n := 6) (Nat.le_of_ble_eq_true rfl)
  rw [lg_entry_eq]
  generalize (lg_sl ([.ref o0, .int p0, .ref p1]) ++ List.replicate (6 - (lg_sl ([.ref o0, .int p0, .ref p1])).length) Slot.unset).toArray = ls at hl ⊢
  have hl : lv_has ls 6 [(0, .ref o0), (1, .int p0), (2, .ref p1)] := hl
  obtain ⟨⟨mzq, hmzq⟩, -⟩ := id hok
  refine lv_iconst (v := 0) hx hb dX4_lineHolds_0 (by decide) ?_
  refine lv_istore_n (lv' := [(3, .int 0), (0, .ref o0), (1, .int p0), (2, .ref p1)]) hx hb dX4_lineHolds_1 rfl hl (by decide) rfl (fun ls hl => ?_)
  refine lv_aload_n hx hb dX4_lineHolds_2 rfl (lv_at hl 1 rfl) ?_
  refine tw_getM (v := .ref sf) hx hb hts bF2_X4 hown hK hT hr_o0 shc_7 rfl 7 (by decide) (ht_at2 hts 0 rfl) (fun _ h9 => h9) hm_sf dX4_lineHolds_3 ?_
  refine lv_iload_n hx hb dX4_lineHolds_6 rfl (lv_at hl 2 rfl) ?_
  refine tw_iald (i := p0) hx hb hK hT hr_sf shc_47 rfl (vin_t (a := p0.toInt) rfl (by omega) (by omega)) dX4_lineHolds_7 (fun v9 m1 h9 => ?_)
  obtain ⟨x2, rfl, gx2, kx2⟩ := h9
  have cx2 := hc_vF.at m1 (by have q9 := tn_of (show p0.toInt = p0.toInt from rfl) (by omega); omega)
  refine lv_istore (lv' := [(4, .int x2), (3, .int 0), (0, .ref o0), (1, .int p0), (2, .ref p1)]) hx hb dX4_lineHolds_8 hl (by decide) rfl (fun ls hl => ?_)
  obtain ⟨k3, hk3, lk3, ek3⟩ := ti_nat x2 (by omega)
  subst ek3
  have key184 : ∀ (n184 i4 : Nat), i4 + n184 = 400 → k3 ≤ i4 → ∀ (z5 : Int32), ∀ (V10 : Nat → Int64), ((0 ≤ z5.toInt ∧ z5.toInt ≤ 20) ∧ (zLp fL (tz vS) (vT p0.toNatClampNeg).toNatClampNeg mzq (zrn fL (zC (tz vS) (vF p0.toNatClampNeg).toNatClampNeg (vT p0.toNatClampNeg).toNatClampNeg) []) i4 z5.toNatClampNeg V10)) → ∀ (H : Heap) (locs : List Loc), gH (dC, dI) kA (SHc nC nS) G H → gF (dC, dI) SKc G ([(50, 0)] : List (Nat × Nat)) s.heap H → va_S A s.heap H locs → ct H sf 20 vF → ct H sto 20 vT → ct H stp9 400 vS → ctl H stk 20 V10 → ctl H p1 10 fL → el H o0 (dI 7 7) = some (.ref sf) → el H o0 (dI 7 8) = some (.ref sto) → el H o0 (dI 7 9) = some (.ref stp9) → el H o0 (dI 7 10) = some (.ref stk) → el H sf p0.toNatClampNeg = some (.int (nI k3)) → ∀ ls : Array Slot, lv_has ls 6 [(4, .int (nI i4)), (3, .int z5), (0, .ref o0), (1, .int p0), (2, .ref p1)] → W p l e (headSpec w_c_lineHoldsZ ({ frames := 2, cells := 0, slots := 0, locals := 64 })).room s m #[.ref o0, .int p0, .ref p1] below meth c H locs 0 0 (MQ below (va_Qi (fun (r : Int32) (u : Unit) => (0 ≤ r.toInt ∧ r.toInt ≤ 1) ∧ ((r.toInt = 1 ∧ zhd fL (zC (tz vS) (vF p0.toNatClampNeg).toNatClampNeg (vT p0.toNatClampNeg).toNatClampNeg)) ∨ (r.toInt = 0 ∧ ¬ zhd fL (zC (tz vS) (vF p0.toNatClampNeg).toNatClampNeg (vT p0.toNatClampNeg).toNatClampNeg)))) (fun (_ : Unit) (t : State) => gH (dC, dI) kA (SHc nC nS) G t.heap ∧ gF (dC, dI) SKc G ([(50, 0)] : List (Nat × Nat)) s.heap t.heap) A) #[.ref o0, .int p0, .ref p1] s 0 0 A) (F0 m 10 ls []) := by
    intro n184
    induction n184 with
    | zero =>
      intro i4 hn184 hlo185 z5 V10 ⟨h6, hj18⟩ H locs hT hF hS m7 m8 m9 m11 m12 m13 m14 m15 m16 m17 ls hl
      obtain rfl : 400 = i4 := by omega
      refine lv_iload hx hb dX4_lineHolds_10 (lv_at hl 0 rfl) ?_
      refine lv_aload_n hx hb dX4_lineHolds_12 rfl (lv_at hl 2 rfl) ?_
      refine tw_getM (v := .ref sto) hx hb hts bF2_X4 hown hK hT hr_o0 shc_7 rfl 8 (by decide) (ht_at2 hts 1 rfl) (fun _ h9 => h9) m14 dX4_lineHolds_13 ?_
      refine lv_iload_n hx hb dX4_lineHolds_16 rfl (lv_at hl 3 rfl) ?_
      refine tw_iald (i := p0) hx hb hK hT hr_sto shc_48 rfl (vin_t (a := p0.toInt) rfl (by omega) (by omega)) dX4_lineHolds_17 (fun v9 m186 h9 => ?_)
      obtain ⟨x187, rfl, gx187, kx187⟩ := h9
      have cx187 := m8.at m186 (by have q9 := tn_of (show p0.toInt = p0.toInt from rfl) (by omega); omega)
      refine lv_icmp_ge (tgt := 169) hx hb dX4_lineHolds_18 (by decide) (fun c188 => ?_) (fun c188 => (by exfalso; have q9 : ((400 : Nat) : Int) < x187.toInt := ti_nle c188 rfl (nI_toInt (by omega)); omega))
      have t189 : x187.toInt ≤ ((400 : Nat) : Int) := ti_le c188 rfl (nI_toInt (by omega))
      refine lv_iload_n hx hb dX4_lineHolds_169 rfl (lv_at hl 1 rfl) ?_
      refine lv_if_eq (tgt := 184) hx hb dX4_lineHolds_170 (by decide) (fun c190 => ?_) (fun c190 => ?_)
      · have t191 : z5.toInt = 0 := ti_eq c190 rfl (by decide)
        refine lv_iconst (v := 1) hx hb dX4_lineHolds_184 (by decide) ?_
        refine lv_goto (tgt := 189) hx hb dX4_lineHolds_185 (by decide) ?_
        exact W.zret (v := 1) hx hb hr (by decide) (fun t ht hW => ⟨⟨1, (), rfl, (by exact ⟨(rg_t (a := 1) (by decide) (by first | decide | omega) (by first | decide | omega)), (Or.inl ⟨by decide, zend_1 hj18 (by have := tn_of (show x187.toInt = x187.toInt from rfl) (by omega); rw [← cx187]; omega) hok (Or.inl (by have := tn_of (show z5.toInt = z5.toInt from rfl) (by omega); omega))⟩)⟩), by (try dsimp only); rw [ht]; exact ⟨hT, hF⟩⟩, hS.F ht⟩) hS.2.2 dX4_lineHolds_189
      · have t192 : z5.toInt ≠ 0 := ti_ne c190 rfl (by decide)
        refine lv_aload_n hx hb dX4_lineHolds_173 rfl (lv_at hl 2 rfl) ?_
        refine tw_getM (v := .ref stk) hx hb hts bF2_X4 hown hK hT hr_o0 shc_7 rfl 10 (by decide) (ht_at2 hts 3 rfl) (fun _ h9 => h9) m16 dX4_lineHolds_174 ?_
        refine lv_iconst (v := 0) hx hb dX4_lineHolds_177 (by decide) ?_
        refine tw_lald (i := 0) hx hb hK hT hr_stk shc_50 rfl (by unfold vp_in; decide) dX4_lineHolds_178 (fun v9 m193 h9 => ?_)
        obtain ⟨y194, rfl⟩ := h9
        have cy194 := m11.at m193 (by have q9 := tn_of (show (0 : Int32).toInt = 0 from (by decide)) (by omega); omega)
        refine lv_lconst (v := 0) hx hb dX4_lineHolds_179 (by decide) ?_
        refine W.lcmp hx hb dX4_lineHolds_180 ?_
        refine lv_topi (fun x195 ex195 => ?_)
        have t196 : (y194.toInt < 0 ∧ x195.toInt = -1) ∨ (y194.toInt = 0 ∧ x195.toInt = 0) ∨ (0 < y194.toInt ∧ x195.toInt = 1) := tl_c ex195 rfl (by decide)
        refine lv_if_eq (tgt := 188) hx hb dX4_lineHolds_181 (by decide) (fun c197 => ?_) (fun c197 => ?_)
        · have t198 : x195.toInt = 0 := ti_eq c197 rfl (by decide)
          refine lv_iconst (v := 0) hx hb dX4_lineHolds_188 (by decide) ?_
          exact W.zret (v := 0) hx hb hr (by decide) (fun t ht hW => ⟨⟨0, (), rfl, (by exact ⟨(rg_t (a := 0) (by decide) (by first | decide | omega) (by first | decide | omega)), (Or.inr ⟨by decide, zend_0 hj18 (by have := tn_of (show x187.toInt = x187.toInt from rfl) (by omega); rw [← cx187]; omega) hok (by have := tn_of (show z5.toInt = z5.toInt from rfl) (by omega); omega) (Or.inl (by rw [show (0 : Nat) = (0 : Int32).toNatClampNeg from by decide, ← cy194]; exact tl_eq (a := 0) (by omega)))⟩)⟩), by (try dsimp only); rw [ht]; exact ⟨hT, hF⟩⟩, hS.F ht⟩) hS.2.2 dX4_lineHolds_189
        · have t199 : x195.toInt ≠ 0 := ti_ne c197 rfl (by decide)
          refine lv_iconst (v := 1) hx hb dX4_lineHolds_184 (by decide) ?_
          refine lv_goto (tgt := 189) hx hb dX4_lineHolds_185 (by decide) ?_
          exact W.zret (v := 1) hx hb hr (by decide) (fun t ht hW => ⟨⟨1, (), rfl, (by exact ⟨(rg_t (a := 1) (by decide) (by first | decide | omega) (by first | decide | omega)), (Or.inl ⟨by decide, zend_1 hj18 (by have := tn_of (show x187.toInt = x187.toInt from rfl) (by omega); rw [← cx187]; omega) hok (Or.inr (fun h8 => by have h7 : y194.toInt = 0 := (by rw [cy194]; exact congrArg Int64.toInt h8); omega))⟩)⟩), by (try dsimp only); rw [ht]; exact ⟨hT, hF⟩⟩, hS.F ht⟩) hS.2.2 dX4_lineHolds_189
    | succ n184 ih184 =>
      intro i4 hn184 hlo185 z5 V10 ⟨h6, hj18⟩ H locs hT hF hS m7 m8 m9 m11 m12 m13 m14 m15 m16 m17 ls hl
      have hlt199 : i4 < 400 := by omega
      refine lv_iload hx hb dX4_lineHolds_10 (lv_at hl 0 rfl) ?_
      refine lv_aload_n hx hb dX4_lineHolds_12 rfl (lv_at hl 2 rfl) ?_
      refine tw_getM (v := .ref sto) hx hb hts bF2_X4 hown hK hT hr_o0 shc_7 rfl 8 (by decide) (ht_at2 hts 1 rfl) (fun _ h9 => h9) m14 dX4_lineHolds_13 ?_
      refine lv_iload_n hx hb dX4_lineHolds_16 rfl (lv_at hl 3 rfl) ?_
      refine tw_iald (i := p0) hx hb hK hT hr_sto shc_48 rfl (vin_t (a := p0.toInt) rfl (by omega) (by omega)) dX4_lineHolds_17 (fun v9 m200 h9 => ?_)
      obtain ⟨x201, rfl, gx201, kx201⟩ := h9
      have cx201 := m8.at m200 (by have q9 := tn_of (show p0.toInt = p0.toInt from rfl) (by omega); omega)
      refine lv_icmp_ge (tgt := 169) hx hb dX4_lineHolds_18 (by decide) (fun c202 => ?_) (fun c202 => ?_)
      · have t203 : x201.toInt ≤ ((i4 : Nat) : Int) := ti_le c202 rfl (nI_toInt (by omega))
        refine lv_iload_n hx hb dX4_lineHolds_169 rfl (lv_at hl 1 rfl) ?_
        refine lv_if_eq (tgt := 184) hx hb dX4_lineHolds_170 (by decide) (fun c204 => ?_) (fun c204 => ?_)
        · have t205 : z5.toInt = 0 := ti_eq c204 rfl (by decide)
          refine lv_iconst (v := 1) hx hb dX4_lineHolds_184 (by decide) ?_
          refine lv_goto (tgt := 189) hx hb dX4_lineHolds_185 (by decide) ?_
          exact W.zret (v := 1) hx hb hr (by decide) (fun t ht hW => ⟨⟨1, (), rfl, (by exact ⟨(rg_t (a := 1) (by decide) (by first | decide | omega) (by first | decide | omega)), (Or.inl ⟨by decide, zend_1 hj18 (by have := tn_of (show x201.toInt = x201.toInt from rfl) (by omega); rw [← cx201]; omega) hok (Or.inl (by have := tn_of (show z5.toInt = z5.toInt from rfl) (by omega); omega))⟩)⟩), by (try dsimp only); rw [ht]; exact ⟨hT, hF⟩⟩, hS.F ht⟩) hS.2.2 dX4_lineHolds_189
        · have t206 : z5.toInt ≠ 0 := ti_ne c204 rfl (by decide)
          refine lv_aload_n hx hb dX4_lineHolds_173 rfl (lv_at hl 2 rfl) ?_
          refine tw_getM (v := .ref stk) hx hb hts bF2_X4 hown hK hT hr_o0 shc_7 rfl 10 (by decide) (ht_at2 hts 3 rfl) (fun _ h9 => h9) m16 dX4_lineHolds_174 ?_
          refine lv_iconst (v := 0) hx hb dX4_lineHolds_177 (by decide) ?_
          refine tw_lald (i := 0) hx hb hK hT hr_stk shc_50 rfl (by unfold vp_in; decide) dX4_lineHolds_178 (fun v9 m207 h9 => ?_)
          obtain ⟨y208, rfl⟩ := h9
          have cy208 := m11.at m207 (by have q9 := tn_of (show (0 : Int32).toInt = 0 from (by decide)) (by omega); omega)
          refine lv_lconst (v := 0) hx hb dX4_lineHolds_179 (by decide) ?_
          refine W.lcmp hx hb dX4_lineHolds_180 ?_
          refine lv_topi (fun x209 ex209 => ?_)
          have t210 : (y208.toInt < 0 ∧ x209.toInt = -1) ∨ (y208.toInt = 0 ∧ x209.toInt = 0) ∨ (0 < y208.toInt ∧ x209.toInt = 1) := tl_c ex209 rfl (by decide)
          refine lv_if_eq (tgt := 188) hx hb dX4_lineHolds_181 (by decide) (fun c211 => ?_) (fun c211 => ?_)
          · have t212 : x209.toInt = 0 := ti_eq c211 rfl (by decide)
            refine lv_iconst (v := 0) hx hb dX4_lineHolds_188 (by decide) ?_
            exact W.zret (v := 0) hx hb hr (by decide) (fun t ht hW => ⟨⟨0, (), rfl, (by exact ⟨(rg_t (a := 0) (by decide) (by first | decide | omega) (by first | decide | omega)), (Or.inr ⟨by decide, zend_0 hj18 (by have := tn_of (show x201.toInt = x201.toInt from rfl) (by omega); rw [← cx201]; omega) hok (by have := tn_of (show z5.toInt = z5.toInt from rfl) (by omega); omega) (Or.inl (by rw [show (0 : Nat) = (0 : Int32).toNatClampNeg from by decide, ← cy208]; exact tl_eq (a := 0) (by omega)))⟩)⟩), by (try dsimp only); rw [ht]; exact ⟨hT, hF⟩⟩, hS.F ht⟩) hS.2.2 dX4_lineHolds_189
          · have t213 : x209.toInt ≠ 0 := ti_ne c211 rfl (by decide)
            refine lv_iconst (v := 1) hx hb dX4_lineHolds_184 (by decide) ?_
            refine lv_goto (tgt := 189) hx hb dX4_lineHolds_185 (by decide) ?_
            exact W.zret (v := 1) hx hb hr (by decide) (fun t ht hW => ⟨⟨1, (), rfl, (by exact ⟨(rg_t (a := 1) (by decide) (by first | decide | omega) (by first | decide | omega)), (Or.inl ⟨by decide, zend_1 hj18 (by have := tn_of (show x201.toInt = x201.toInt from rfl) (by omega); rw [← cx201]; omega) hok (Or.inr (fun h8 => by have h7 : y208.toInt = 0 := (by rw [cy208]; exact congrArg Int64.toInt h8); omega))⟩)⟩), by (try dsimp only); rw [ht]; exact ⟨hT, hF⟩⟩, hS.F ht⟩) hS.2.2 dX4_lineHolds_189
      · have t214 : ((i4 : Nat) : Int) < x201.toInt := ti_nle c202 rfl (nI_toInt (by omega))
        refine lv_aload_n hx hb dX4_lineHolds_21 rfl (lv_at hl 2 rfl) ?_
        refine tw_getM (v := .ref stp9) hx hb hts bF2_X4 hown hK hT hr_o0 shc_7 rfl 9 (by decide) (ht_at2 hts 2 rfl) (fun _ h9 => h9) m15 dX4_lineHolds_22 ?_
        refine lv_iload hx hb dX4_lineHolds_25 (lv_at hl 0 rfl) ?_
        refine tw_iald (i := (nI i4)) hx hb hK hT hr_stp9 shc_49 rfl (vp_in_nI (by omega) (by decide)) dX4_lineHolds_27 (fun v9 m215 h9 => ?_)
        obtain ⟨x216, rfl, gx216, kx216⟩ := h9
        have cx216 := m9.at m215 (by have q9 := tn_of (show (nI i4).toInt = ((i4 : Nat) : Int) from (nI_toInt (by omega))) (by omega); omega)
        have t217 : x201.toInt = (vT p0.toNatClampNeg).toInt := congrArg Int32.toInt cx201
        have t218 : (((vT p0.toNatClampNeg).toNatClampNeg : Nat) : Int) = x201.toInt := (by rw [← cx201]; exact tn_of (show x201.toInt = x201.toInt from rfl) (by omega))
        have t219 : tz vS i4 = x216.toInt := (by rw [cx216, tn_nI (by omega)]; rfl)
        have t220 : ((z5.toNatClampNeg : Nat) : Int) = z5.toInt := tn_of (show z5.toInt = z5.toInt from rfl) (by omega)
        have t221 : ((tz vS i4 < 10 ∨ 40 ≤ tz vS i4) ∧ z5.toNatClampNeg < 20) ∨ (tz vS i4 = 13 ∧ 1 ≤ z5.toNatClampNeg) ∨ ((10 ≤ tz vS i4 ∧ tz vS i4 ≤ 15) ∧ tz vS i4 ≠ 13 ∧ 2 ≤ z5.toNatClampNeg) := zLp_g hj18 (by omega)
        refine lv_istore (lv' := [(5, .int x216), (4, .int (nI i4)), (3, .int z5), (0, .ref o0), (1, .int p0), (2, .ref p1)]) hx hb dX4_lineHolds_28 hl (by decide) rfl (fun ls hl => ?_)
        refine lv_iload hx hb dX4_lineHolds_30 (lv_at hl 0 rfl) ?_
        refine lv_bipush (v := 13) hx hb dX4_lineHolds_32 (by decide) ?_
        have t222 : -2147483648 ≤ x216.toInt ∧ x216.toInt ≤ 2147483647 := ti_all x216
        refine lv_icmp_ne (tgt := 62) hx hb dX4_lineHolds_34 (by decide) (fun c223 => ?_) (fun c223 => ?_)
        · have t224 : x216.toInt ≠ 13 := ti_ne c223 rfl (by decide)
          refine lv_iload hx hb dX4_lineHolds_62 (lv_at hl 0 rfl) ?_
          refine lv_bipush (v := 10) hx hb dX4_lineHolds_64 (by decide) ?_
          refine lv_icmp_lt (tgt := 114) hx hb dX4_lineHolds_66 (by decide) (fun c225 => ?_) (fun c225 => ?_)
          · have t226 : x216.toInt < 10 := ti_lt c225 rfl (by decide)
            refine lv_iload_n hx hb dX4_lineHolds_114 rfl (lv_at hl 2 rfl) ?_
            refine lv_bipush (v := 20) hx hb dX4_lineHolds_115 (by decide) ?_
            refine lv_icmp_ge (tgt := 163) hx hb dX4_lineHolds_117 (by decide) (fun c227 => ?_) (fun c227 => ?_)
            · have t228 : 20 ≤ z5.toInt := ti_le c227 (by decide) rfl
              refine lv_iinc (v := nI (i4 + 1)) (lv' := [(4, .int (nI (i4 + 1))), (5, .int x216), (3, .int z5), (0, .ref o0), (1, .int p0), (2, .ref p1)]) hx hb dX4_lineHolds_163 hl (k := 1) rfl (nI_add i4 1) (by decide) rfl (fun ls hl => ?_)
              refine lv_goto (tgt := 10) hx hb dX4_lineHolds_166 (by decide) ?_
              exact ih184 (i4 + 1) (by omega) (by omega) z5 V10 ⟨(by have q9 := (show z5.toInt = z5.toInt from rfl); (try have q8 := ti_all z5); omega), (by exfalso; omega)⟩ _ _ hT hF hS m7 m8 m9 m11 m12 m13 m14 m15 m16 m17 ls (lv_sub hl [0, 2, 3, 4, 5] rfl)
            · have t229 : z5.toInt < 20 := ti_nle c227 (by decide) rfl
              refine lv_iload hx hb dX4_lineHolds_120 (lv_at hl 0 rfl) ?_
              refine lv_bipush (v := 10) hx hb dX4_lineHolds_122 (by decide) ?_
              refine lv_icmp_lt (tgt := 134) hx hb dX4_lineHolds_124 (by decide) (fun c230 => ?_) (fun c230 => (by exfalso; have q9 : 10 ≤ x216.toInt := ti_nlt c230 rfl (by decide); omega))
              have t231 : x216.toInt < 10 := ti_lt c230 rfl (by decide)
              refine lv_aload_n hx hb dX4_lineHolds_134 rfl (lv_at hl 3 rfl) ?_
              refine tw_getM (v := .ref stk) hx hb hts bF2_X4 hown hK hT hr_o0 shc_7 rfl 10 (by decide) (ht_at2 hts 3 rfl) (fun _ h9 => h9) m16 dX4_lineHolds_135 ?_
              refine lv_iload_n hx hb dX4_lineHolds_138 rfl (lv_at hl 2 rfl) ?_
              refine lv_iload hx hb dX4_lineHolds_139 (lv_at hl 0 rfl) ?_
              refine lv_bipush (v := 40) hx hb dX4_lineHolds_141 (by decide) ?_
              refine lv_icmp_lt (tgt := 155) hx hb dX4_lineHolds_143 (by decide) (fun c232 => ?_) (fun c232 => (by exfalso; have q9 : 40 ≤ x216.toInt := ti_nlt c232 rfl (by decide); omega))
              have t233 : x216.toInt < 40 := ti_lt c232 rfl (by decide)
              refine lv_aload_n hx hb dX4_lineHolds_155 rfl (lv_at hl 5 rfl) ?_
              refine lv_iload hx hb dX4_lineHolds_156 (lv_at hl 0 rfl) ?_
              refine tw_lald (i := x216) hx hb hK hT hr_p1 shc_56 rfl (vin_t (a := x216.toInt) rfl (by omega) (by omega)) dX4_lineHolds_158 (fun v9 m234 h9 => ?_)
              obtain ⟨y235, rfl⟩ := h9
              have cy235 := m12.at m234 (by have q9 := tn_of (show x216.toInt = x216.toInt from rfl) (by omega); omega)
              refine tw_last (i := z5)  hx hb hK hT hG hS hr_stk shc_50 rfl (vin_t (a := z5.toInt) rfl (by omega) (by omega)) ⟨_, rfl⟩ dX4_lineHolds_159 (fun H locs hT oq m236 oi hS => ?_)
              have hF := hF.ast hr_stk skc_50 oq (by decide)
              have m237 := m7.kept (oq _ (gne hr_sf hr_stk (by decide)))
              have m238 := m8.kept (oq _ (gne hr_sto hr_stk (by decide)))
              have m239 := m9.kept (oq _ (gne hr_stp9 hr_stk (by decide)))
              have m240 := m11.put m236 oi
              have m241 := m12.kept (oq _ (gne hr_p1 hr_stk (by decide)))
              have m242 := (el_kept (oq _ (gne hr_o0 hr_stk (by decide)))).trans m13
              have m243 := (el_kept (oq _ (gne hr_o0 hr_stk (by decide)))).trans m14
              have m244 := (el_kept (oq _ (gne hr_o0 hr_stk (by decide)))).trans m15
              have m245 := (el_kept (oq _ (gne hr_o0 hr_stk (by decide)))).trans m16
              have m246 := (el_kept (oq _ (gne hr_sf hr_stk (by decide)))).trans m17
              obtain ⟨x249, ex249⟩ : ∃ y : Int32, y = z5 + 1 := ⟨_, rfl⟩
              have t250 : x249.toInt = z5.toInt + 1 := ti_add ex249 rfl (by decide) (by omega) (by omega)
              refine lv_iinc (v := x249) (lv' := [(3, .int x249), (5, .int x216), (4, .int (nI i4)), (0, .ref o0), (1, .int p0), (2, .ref p1)]) hx hb dX4_lineHolds_160 hl (k := 2) rfl (by first | (rw [ex249]; done) | (rw [ex249]; rfl)) (by decide) rfl (fun ls hl => ?_)
              refine lv_iinc (v := nI (i4 + 1)) (lv' := [(4, .int (nI (i4 + 1))), (3, .int x249), (5, .int x216), (0, .ref o0), (1, .int p0), (2, .ref p1)]) hx hb dX4_lineHolds_163 hl (k := 2) rfl (nI_add i4 1) (by decide) rfl (fun ls hl => ?_)
              refine lv_goto (tgt := 10) hx hb dX4_lineHolds_166 (by decide) ?_
              exact ih184 (i4 + 1) (by omega) (by omega) x249 (cul V10 z5.toNatClampNeg y235) ⟨(by have q9 := (show x249.toInt = x249.toInt from rfl); (try have q8 := ti_all x249); omega), (by have := tn_of (show z5.toInt = z5.toInt from rfl) (by omega); have := tn_of (show x249.toInt = x249.toInt from rfl) (by omega); exact zLp_p hj18 (by omega) (y := y235) (Or.inl ⟨by rw [(show tz vS i4 = x216.toInt from by rw [cx216, tn_nI (by omega)]; rfl)]; omega, by rw [cy235, (show tz vS i4 = x216.toInt from by rw [cx216, tn_nI (by omega)]; rfl)]; exact congrArg fL (by have := tn_of (show x216.toInt = x216.toInt from rfl) (by omega); omega)⟩) (by omega) (by rw [show z5.toNatClampNeg = z5.toNatClampNeg from by omega]))⟩ _ _ hT hF hS m237 m238 m239 m240 m241 m242 m243 m244 m245 m246 ls (lv_sub hl [0, 1, 3, 4, 5] rfl)
          · have t251 : 10 ≤ x216.toInt := ti_nlt c225 rfl (by decide)
            refine lv_iload hx hb dX4_lineHolds_69 (lv_at hl 0 rfl) ?_
            refine lv_bipush (v := 15) hx hb dX4_lineHolds_71 (by decide) ?_
            refine lv_icmp_gt (tgt := 114) hx hb dX4_lineHolds_73 (by decide) (fun c252 => ?_) (fun c252 => ?_)
            · have t253 : 15 < x216.toInt := ti_lt c252 (by decide) rfl
              refine lv_iload_n hx hb dX4_lineHolds_114 rfl (lv_at hl 2 rfl) ?_
              refine lv_bipush (v := 20) hx hb dX4_lineHolds_115 (by decide) ?_
              refine lv_icmp_ge (tgt := 163) hx hb dX4_lineHolds_117 (by decide) (fun c254 => ?_) (fun c254 => ?_)
              · have t255 : 20 ≤ z5.toInt := ti_le c254 (by decide) rfl
                refine lv_iinc (v := nI (i4 + 1)) (lv' := [(4, .int (nI (i4 + 1))), (5, .int x216), (3, .int z5), (0, .ref o0), (1, .int p0), (2, .ref p1)]) hx hb dX4_lineHolds_163 hl (k := 1) rfl (nI_add i4 1) (by decide) rfl (fun ls hl => ?_)
                refine lv_goto (tgt := 10) hx hb dX4_lineHolds_166 (by decide) ?_
                exact ih184 (i4 + 1) (by omega) (by omega) z5 V10 ⟨(by have q9 := (show z5.toInt = z5.toInt from rfl); (try have q8 := ti_all z5); omega), (by exfalso; omega)⟩ _ _ hT hF hS m7 m8 m9 m11 m12 m13 m14 m15 m16 m17 ls (lv_sub hl [0, 2, 3, 4, 5] rfl)
              · have t256 : z5.toInt < 20 := ti_nle c254 (by decide) rfl
                refine lv_iload hx hb dX4_lineHolds_120 (lv_at hl 0 rfl) ?_
                refine lv_bipush (v := 10) hx hb dX4_lineHolds_122 (by decide) ?_
                refine lv_icmp_lt (tgt := 134) hx hb dX4_lineHolds_124 (by decide) (fun c257 => (by exfalso; have q9 : x216.toInt < 10 := ti_lt c257 rfl (by decide); have := ti_all x216; omega)) (fun c257 => ?_)
                have t258 : 10 ≤ x216.toInt := ti_nlt c257 rfl (by decide)
                refine lv_iload hx hb dX4_lineHolds_127 (lv_at hl 0 rfl) ?_
                refine lv_bipush (v := 40) hx hb dX4_lineHolds_129 (by decide) ?_
                refine lv_icmp_lt (tgt := 163) hx hb dX4_lineHolds_131 (by decide) (fun c259 => ?_) (fun c259 => ?_)
                · have t260 : x216.toInt < 40 := ti_lt c259 rfl (by decide)
                  refine lv_iinc (v := nI (i4 + 1)) (lv' := [(4, .int (nI (i4 + 1))), (5, .int x216), (3, .int z5), (0, .ref o0), (1, .int p0), (2, .ref p1)]) hx hb dX4_lineHolds_163 hl (k := 1) rfl (nI_add i4 1) (by decide) rfl (fun ls hl => ?_)
                  refine lv_goto (tgt := 10) hx hb dX4_lineHolds_166 (by decide) ?_
                  exact ih184 (i4 + 1) (by omega) (by omega) z5 V10 ⟨(by have q9 := (show z5.toInt = z5.toInt from rfl); (try have q8 := ti_all z5); omega), (by exfalso; omega)⟩ _ _ hT hF hS m7 m8 m9 m11 m12 m13 m14 m15 m16 m17 ls (lv_sub hl [0, 2, 3, 4, 5] rfl)
                · have t261 : 40 ≤ x216.toInt := ti_nlt c259 rfl (by decide)
                  refine lv_aload_n hx hb dX4_lineHolds_134 rfl (lv_at hl 3 rfl) ?_
                  refine tw_getM (v := .ref stk) hx hb hts bF2_X4 hown hK hT hr_o0 shc_7 rfl 10 (by decide) (ht_at2 hts 3 rfl) (fun _ h9 => h9) m16 dX4_lineHolds_135 ?_
                  refine lv_iload_n hx hb dX4_lineHolds_138 rfl (lv_at hl 2 rfl) ?_
                  refine lv_iload hx hb dX4_lineHolds_139 (lv_at hl 0 rfl) ?_
                  refine lv_bipush (v := 40) hx hb dX4_lineHolds_141 (by decide) ?_
                  refine lv_icmp_lt (tgt := 155) hx hb dX4_lineHolds_143 (by decide) (fun c262 => (by exfalso; have q9 : x216.toInt < 40 := ti_lt c262 rfl (by decide); have := ti_all x216; omega)) (fun c262 => ?_)
                  have t263 : 40 ≤ x216.toInt := ti_nlt c262 rfl (by decide)
                  refine lv_iload hx hb dX4_lineHolds_146 (lv_at hl 0 rfl) ?_
                  refine lv_bipush (v := 40) hx hb dX4_lineHolds_148 (by decide) ?_
                  refine lv_isub hx hb dX4_lineHolds_150 ?_
                  refine lv_topi (fun x264 ex264 => ?_)
                  have t265 : x264.toInt = x216.toInt - 40 := ti_sub ex264 rfl (by decide) (by omega) (by omega)
                  refine lv_i2l (v := x264.toInt64) hx hb dX4_lineHolds_151 rfl ?_
                  refine lv_goto (tgt := 159) hx hb dX4_lineHolds_152 (by decide) ?_
                  refine tw_last (i := z5)  hx hb hK hT hG hS hr_stk shc_50 rfl (vin_t (a := z5.toInt) rfl (by omega) (by omega)) ⟨_, rfl⟩ dX4_lineHolds_159 (fun H locs hT oq m266 oi hS => ?_)
                  have hF := hF.ast hr_stk skc_50 oq (by decide)
                  have m267 := m7.kept (oq _ (gne hr_sf hr_stk (by decide)))
                  have m268 := m8.kept (oq _ (gne hr_sto hr_stk (by decide)))
                  have m269 := m9.kept (oq _ (gne hr_stp9 hr_stk (by decide)))
                  have m270 := m11.put m266 oi
                  have m271 := m12.kept (oq _ (gne hr_p1 hr_stk (by decide)))
                  have m272 := (el_kept (oq _ (gne hr_o0 hr_stk (by decide)))).trans m13
                  have m273 := (el_kept (oq _ (gne hr_o0 hr_stk (by decide)))).trans m14
                  have m274 := (el_kept (oq _ (gne hr_o0 hr_stk (by decide)))).trans m15
                  have m275 := (el_kept (oq _ (gne hr_o0 hr_stk (by decide)))).trans m16
                  have m276 := (el_kept (oq _ (gne hr_sf hr_stk (by decide)))).trans m17
                  obtain ⟨x279, ex279⟩ : ∃ y : Int32, y = z5 + 1 := ⟨_, rfl⟩
                  have t280 : x279.toInt = z5.toInt + 1 := ti_add ex279 rfl (by decide) (by omega) (by omega)
                  refine lv_iinc (v := x279) (lv' := [(3, .int x279), (5, .int x216), (4, .int (nI i4)), (0, .ref o0), (1, .int p0), (2, .ref p1)]) hx hb dX4_lineHolds_160 hl (k := 2) rfl (by first | (rw [ex279]; done) | (rw [ex279]; rfl)) (by decide) rfl (fun ls hl => ?_)
                  refine lv_iinc (v := nI (i4 + 1)) (lv' := [(4, .int (nI (i4 + 1))), (3, .int x279), (5, .int x216), (0, .ref o0), (1, .int p0), (2, .ref p1)]) hx hb dX4_lineHolds_163 hl (k := 2) rfl (nI_add i4 1) (by decide) rfl (fun ls hl => ?_)
                  refine lv_goto (tgt := 10) hx hb dX4_lineHolds_166 (by decide) ?_
                  exact ih184 (i4 + 1) (by omega) (by omega) x279 (cul V10 z5.toNatClampNeg x264.toInt64) ⟨(by have q9 := (show x279.toInt = x279.toInt from rfl); (try have q8 := ti_all x279); omega), (by have := tn_of (show z5.toInt = z5.toInt from rfl) (by omega); have := tn_of (show x279.toInt = x279.toInt from rfl) (by omega); exact zLp_p hj18 (by omega) (y := x264.toInt64) (Or.inr ⟨by rw [(show tz vS i4 = x216.toInt from by rw [cx216, tn_nI (by omega)]; rfl)]; omega, by rw [(show tz vS i4 = x216.toInt from by rw [cx216, tn_nI (by omega)]; rfl), i2l_of]; exact congrArg Int64.ofInt (by omega)⟩) (by omega) (by rw [show z5.toNatClampNeg = z5.toNatClampNeg from by omega]))⟩ _ _ hT hF hS m267 m268 m269 m270 m271 m272 m273 m274 m275 m276 ls (lv_sub hl [0, 1, 3, 4, 5] rfl)
            · have t281 : x216.toInt ≤ 15 := ti_nlt c252 (by decide) rfl
              refine lv_iload_n hx hb dX4_lineHolds_76 rfl (lv_at hl 2 rfl) ?_
              refine lv_iconst (v := 1) hx hb dX4_lineHolds_77 (by decide) ?_
              refine lv_icmp_le (tgt := 114) hx hb dX4_lineHolds_78 (by decide) (fun c282 => ?_) (fun c282 => ?_)
              · have t283 : z5.toInt ≤ 1 := ti_le c282 rfl (by decide)
                refine lv_iload_n hx hb dX4_lineHolds_114 rfl (lv_at hl 2 rfl) ?_
                refine lv_bipush (v := 20) hx hb dX4_lineHolds_115 (by decide) ?_
                refine lv_icmp_ge (tgt := 163) hx hb dX4_lineHolds_117 (by decide) (fun c284 => (by exfalso; have q9 : 20 ≤ z5.toInt := ti_le c284 (by decide) rfl; omega)) (fun c284 => ?_)
                have t285 : z5.toInt < 20 := ti_nle c284 (by decide) rfl
                refine lv_iload hx hb dX4_lineHolds_120 (lv_at hl 0 rfl) ?_
                refine lv_bipush (v := 10) hx hb dX4_lineHolds_122 (by decide) ?_
                refine lv_icmp_lt (tgt := 134) hx hb dX4_lineHolds_124 (by decide) (fun c286 => (by exfalso; have q9 : x216.toInt < 10 := ti_lt c286 rfl (by decide); omega)) (fun c286 => ?_)
                have t287 : 10 ≤ x216.toInt := ti_nlt c286 rfl (by decide)
                refine lv_iload hx hb dX4_lineHolds_127 (lv_at hl 0 rfl) ?_
                refine lv_bipush (v := 40) hx hb dX4_lineHolds_129 (by decide) ?_
                refine lv_icmp_lt (tgt := 163) hx hb dX4_lineHolds_131 (by decide) (fun c288 => ?_) (fun c288 => (by exfalso; have q9 : 40 ≤ x216.toInt := ti_nlt c288 rfl (by decide); omega))
                have t289 : x216.toInt < 40 := ti_lt c288 rfl (by decide)
                refine lv_iinc (v := nI (i4 + 1)) (lv' := [(4, .int (nI (i4 + 1))), (5, .int x216), (3, .int z5), (0, .ref o0), (1, .int p0), (2, .ref p1)]) hx hb dX4_lineHolds_163 hl (k := 1) rfl (nI_add i4 1) (by decide) rfl (fun ls hl => ?_)
                refine lv_goto (tgt := 10) hx hb dX4_lineHolds_166 (by decide) ?_
                exact ih184 (i4 + 1) (by omega) (by omega) z5 V10 ⟨(by have q9 := (show z5.toInt = z5.toInt from rfl); (try have q8 := ti_all z5); omega), (by exfalso; omega)⟩ _ _ hT hF hS m7 m8 m9 m11 m12 m13 m14 m15 m16 m17 ls (lv_sub hl [0, 2, 3, 4, 5] rfl)
              · have t290 : 1 < z5.toInt := ti_nle c282 rfl (by decide)
                obtain ⟨x291, ex291⟩ : ∃ y : Int32, y = z5 + (-1) := ⟨_, rfl⟩
                have t292 : x291.toInt = z5.toInt + (-1) := ti_add ex291 rfl (by decide) (by omega) (by omega)
                refine lv_iinc (v := x291) (lv' := [(3, .int x291), (5, .int x216), (4, .int (nI i4)), (0, .ref o0), (1, .int p0), (2, .ref p1)]) hx hb dX4_lineHolds_81 hl (k := 2) rfl (by first | (rw [ex291]; done) | (rw [ex291]; rfl)) (by decide) rfl (fun ls hl => ?_)
                refine lv_aload_n hx hb dX4_lineHolds_84 rfl (lv_at hl 3 rfl) ?_
                refine tw_getM (v := .ref stk) hx hb hts bF2_X4 hown hK hT hr_o0 shc_7 rfl 10 (by decide) (ht_at2 hts 3 rfl) (fun _ h9 => h9) m16 dX4_lineHolds_85 ?_
                refine lv_iload_n hx hb dX4_lineHolds_88 rfl (lv_at hl 0 rfl) ?_
                refine lv_iconst (v := 1) hx hb dX4_lineHolds_89 (by decide) ?_
                refine lv_isub hx hb dX4_lineHolds_90 ?_
                refine lv_topi (fun x293 ex293 => ?_)
                have t294 : x293.toInt = x291.toInt - 1 := ti_sub ex293 rfl (by decide) (by omega) (by omega)
                refine lv_iload hx hb dX4_lineHolds_91 (lv_at hl 1 rfl) ?_
                refine lv_aload_n hx hb dX4_lineHolds_93 rfl (lv_at hl 3 rfl) ?_
                refine tw_getM (v := .ref stk) hx hb hts bF2_X4 hown hK hT hr_o0 shc_7 rfl 10 (by decide) (ht_at2 hts 3 rfl) (fun _ h9 => h9) m16 dX4_lineHolds_94 ?_
                refine lv_iload_n hx hb dX4_lineHolds_97 rfl (lv_at hl 0 rfl) ?_
                refine lv_iconst (v := 1) hx hb dX4_lineHolds_98 (by decide) ?_
                refine lv_isub hx hb dX4_lineHolds_99 ?_
                refine lv_topi (fun x295 ex295 => ?_)
                have t296 : x295.toInt = x291.toInt - 1 := ti_sub ex295 rfl (by decide) (by omega) (by omega)
                refine tw_lald (i := x295) hx hb hK hT hr_stk shc_50 rfl (vin_t (a := x295.toInt) rfl (by omega) (by omega)) dX4_lineHolds_100 (fun v9 m297 h9 => ?_)
                obtain ⟨y298, rfl⟩ := h9
                have cy298 := m11.at m297 (by have q9 := tn_of (show x295.toInt = x295.toInt from rfl) (by omega); omega)
                refine lv_aload_n hx hb dX4_lineHolds_101 rfl (lv_at hl 3 rfl) ?_
                refine tw_getM (v := .ref stk) hx hb hts bF2_X4 hown hK hT hr_o0 shc_7 rfl 10 (by decide) (ht_at2 hts 3 rfl) (fun _ h9 => h9) m16 dX4_lineHolds_102 ?_
                refine lv_iload_n hx hb dX4_lineHolds_105 rfl (lv_at hl 0 rfl) ?_
                refine tw_lald (i := x291) hx hb hK hT hr_stk shc_50 rfl (vin_t (a := x291.toInt) rfl (by omega) (by omega)) dX4_lineHolds_106 (fun v9 m299 h9 => ?_)
                obtain ⟨y300, rfl⟩ := h9
                have cy300 := m11.at m299 (by have q9 := tn_of (show x291.toInt = x291.toInt from rfl) (by omega); omega)
                have hFc := gA_free hG hA hS
                refine va_calll (va_runS (As := [.int x216, .long y298, .long y300]) (rest := [.int x293, .ref stk]) ⟨hx, hb, hml, hown, hts⟩ (c_joinedZ l dC dI kA adK adV G H nC nS x216 y298 y300 hT (by omega) (by omega)) (va_cwS 3 hts (goodIn_app (goodIn_r _ [10, 11, 12] rfl (by decide +kernel)) (goodIn_ca (goodIn_r _ [5, 6, 7, 8, 9] rfl (by decide +kernel)) (bs2_in _ _))) rfl rfl rfl (by decide +kernel) ⟨(Nat.le_of_ble_eq_true rfl), (Nat.le_of_ble_eq_true rfl)⟩) ⟨fun a U g mk q => by obtain ⟨q0, q1, qK, qE⟩ := q; exact ⟨q0, q1, va_K.moved (u := U) (U := U.calling g mk a) (Vm.Alike.refl U.vm) qK, EVC.blind g mk a qE⟩, fun U hU hW => ⟨rfl, hU, va_K.moved hW.alike hK, hE.call hS hFc hU hW⟩⟩ rfl rfl hl.1 rfl (lv_room (Nat.le_of_ble_eq_true rfl)) dX4_lineHolds_107 ⟨(Nat.le_of_ble_eq_true rfl), (Nat.le_of_ble_eq_true rfl)⟩) hS (fun q _ h => hFc q h) hFc (fun r301 u t H locs ht hvm hw302 hB _ _ hS => ?_)
                obtain ⟨hT, hF1⟩ := hB
                rw [ht] at hT hF1
                have m303 := m7.kept (hF1.arr hr_sf skc_47 (by decide))
                have m304 := m8.kept (hF1.arr hr_sto skc_48 (by decide))
                have m305 := m9.kept (hF1.arr hr_stp9 skc_49 (by decide))
                have m306 := m11.kept (hF1.arr hr_stk skc_50 (by decide))
                have m307 := m12.kept (hF1.arr hr_p1 skc_56 (by decide))
                have m308 := (hF1.fld hr_o0 skc_7 (k := 7) (by decide) (by decide)).trans m13
                have m309 := (hF1.fld hr_o0 skc_7 (k := 8) (by decide) (by decide)).trans m14
                have m310 := (hF1.fld hr_o0 skc_7 (k := 9) (by decide) (by decide)).trans m15
                have m311 := (hF1.fld hr_o0 skc_7 (k := 10) (by decide) (by decide)).trans m16
                have m312 := (el_kept (hF1.arr hr_sf skc_47 (by decide))).trans m17
                have hF := hF.more hF1 (by decide)
                try dsimp only at hw302
                have hf315 := hw302
                refine tw_last (i := x293)  hx hb hK hT hG hS hr_stk shc_50 rfl (vin_t (a := x293.toInt) rfl (by omega) (by omega)) ⟨_, rfl⟩ dX4_lineHolds_110 (fun H locs hT oq m316 oi hS => ?_)
                have hF := hF.ast hr_stk skc_50 oq (by decide)
                have m317 := m303.kept (oq _ (gne hr_sf hr_stk (by decide)))
                have m318 := m304.kept (oq _ (gne hr_sto hr_stk (by decide)))
                have m319 := m305.kept (oq _ (gne hr_stp9 hr_stk (by decide)))
                have m320 := m306.put m316 oi
                have m321 := m307.kept (oq _ (gne hr_p1 hr_stk (by decide)))
                have m322 := (el_kept (oq _ (gne hr_o0 hr_stk (by decide)))).trans m308
                have m323 := (el_kept (oq _ (gne hr_o0 hr_stk (by decide)))).trans m309
                have m324 := (el_kept (oq _ (gne hr_o0 hr_stk (by decide)))).trans m310
                have m325 := (el_kept (oq _ (gne hr_o0 hr_stk (by decide)))).trans m311
                have m326 := (el_kept (oq _ (gne hr_sf hr_stk (by decide)))).trans m312
                refine lv_goto (tgt := 163) hx hb dX4_lineHolds_111 (by decide) ?_
                refine lv_iinc (v := nI (i4 + 1)) (lv' := [(4, .int (nI (i4 + 1))), (3, .int x291), (5, .int x216), (0, .ref o0), (1, .int p0), (2, .ref p1)]) hx hb dX4_lineHolds_163 hl (k := 2) rfl (nI_add i4 1) (by decide) rfl (fun ls hl => ?_)
                refine lv_goto (tgt := 10) hx hb dX4_lineHolds_166 (by decide) ?_
                exact ih184 (i4 + 1) (by omega) (by omega) x291 (cul V10 x293.toNatClampNeg r301) ⟨(by have q9 := (show x291.toInt = x291.toInt from rfl); (try have q8 := ti_all x291); omega), (by have := tn_of (show z5.toInt = z5.toInt from rfl) (by omega); have := tn_of (show x291.toInt = x291.toInt from rfl) (by omega); have := tn_of (show x293.toInt = x293.toInt from rfl) (by omega); have := tn_of (show x295.toInt = x295.toInt from rfl) (by omega); exact zLp_j hj18 (by omega) (by rw [(show tz vS i4 = x216.toInt from by rw [cx216, tn_nI (by omega)]; rfl)]; omega) (by rw [(show tz vS i4 = x216.toInt from by rw [cx216, tn_nI (by omega)]; rfl)]; omega) (by omega) (y := r301) (by rw [hf315, (show tz vS i4 = x216.toInt from by rw [cx216, tn_nI (by omega)]; rfl), cy298, cy300, show x295.toNatClampNeg = z5.toNatClampNeg - 2 from by omega, show x291.toNatClampNeg = z5.toNatClampNeg - 1 from by omega]) (by rw [show x293.toNatClampNeg = z5.toNatClampNeg - 2 from by omega]))⟩ _ _ hT hF hS m317 m318 m319 m320 m321 m322 m323 m324 m325 m326 ls (lv_sub hl [0, 1, 3, 4, 5] rfl)
        · have t329 : x216.toInt = 13 := ti_eq c223 rfl (by decide)
          refine lv_iload_n hx hb dX4_lineHolds_37 rfl (lv_at hl 2 rfl) ?_
          refine lv_if_le (tgt := 62) hx hb dX4_lineHolds_38 (by decide) (fun c330 => ?_) (fun c330 => ?_)
          · have t331 : z5.toInt ≤ 0 := ti_le c330 rfl (by decide)
            refine lv_iload hx hb dX4_lineHolds_62 (lv_at hl 0 rfl) ?_
            refine lv_bipush (v := 10) hx hb dX4_lineHolds_64 (by decide) ?_
            refine lv_icmp_lt (tgt := 114) hx hb dX4_lineHolds_66 (by decide) (fun c332 => (by exfalso; have q9 : x216.toInt < 10 := ti_lt c332 rfl (by decide); omega)) (fun c332 => ?_)
            have t333 : 10 ≤ x216.toInt := ti_nlt c332 rfl (by decide)
            refine lv_iload hx hb dX4_lineHolds_69 (lv_at hl 0 rfl) ?_
            refine lv_bipush (v := 15) hx hb dX4_lineHolds_71 (by decide) ?_
            refine lv_icmp_gt (tgt := 114) hx hb dX4_lineHolds_73 (by decide) (fun c334 => (by exfalso; have q9 : 15 < x216.toInt := ti_lt c334 (by decide) rfl; omega)) (fun c334 => ?_)
            have t335 : x216.toInt ≤ 15 := ti_nlt c334 (by decide) rfl
            refine lv_iload_n hx hb dX4_lineHolds_76 rfl (lv_at hl 2 rfl) ?_
            refine lv_iconst (v := 1) hx hb dX4_lineHolds_77 (by decide) ?_
            refine lv_icmp_le (tgt := 114) hx hb dX4_lineHolds_78 (by decide) (fun c336 => ?_) (fun c336 => (by exfalso; have q9 : 1 < z5.toInt := ti_nle c336 rfl (by decide); omega))
            have t337 : z5.toInt ≤ 1 := ti_le c336 rfl (by decide)
            refine lv_iload_n hx hb dX4_lineHolds_114 rfl (lv_at hl 2 rfl) ?_
            refine lv_bipush (v := 20) hx hb dX4_lineHolds_115 (by decide) ?_
            refine lv_icmp_ge (tgt := 163) hx hb dX4_lineHolds_117 (by decide) (fun c338 => (by exfalso; have q9 : 20 ≤ z5.toInt := ti_le c338 (by decide) rfl; omega)) (fun c338 => ?_)
            have t339 : z5.toInt < 20 := ti_nle c338 (by decide) rfl
            refine lv_iload hx hb dX4_lineHolds_120 (lv_at hl 0 rfl) ?_
            refine lv_bipush (v := 10) hx hb dX4_lineHolds_122 (by decide) ?_
            refine lv_icmp_lt (tgt := 134) hx hb dX4_lineHolds_124 (by decide) (fun c340 => (by exfalso; have q9 : x216.toInt < 10 := ti_lt c340 rfl (by decide); omega)) (fun c340 => ?_)
            have t341 : 10 ≤ x216.toInt := ti_nlt c340 rfl (by decide)
            refine lv_iload hx hb dX4_lineHolds_127 (lv_at hl 0 rfl) ?_
            refine lv_bipush (v := 40) hx hb dX4_lineHolds_129 (by decide) ?_
            refine lv_icmp_lt (tgt := 163) hx hb dX4_lineHolds_131 (by decide) (fun c342 => ?_) (fun c342 => (by exfalso; have q9 : 40 ≤ x216.toInt := ti_nlt c342 rfl (by decide); omega))
            have t343 : x216.toInt < 40 := ti_lt c342 rfl (by decide)
            refine lv_iinc (v := nI (i4 + 1)) (lv' := [(4, .int (nI (i4 + 1))), (5, .int x216), (3, .int z5), (0, .ref o0), (1, .int p0), (2, .ref p1)]) hx hb dX4_lineHolds_163 hl (k := 1) rfl (nI_add i4 1) (by decide) rfl (fun ls hl => ?_)
            refine lv_goto (tgt := 10) hx hb dX4_lineHolds_166 (by decide) ?_
            exact ih184 (i4 + 1) (by omega) (by omega) z5 V10 ⟨(by have q9 := (show z5.toInt = z5.toInt from rfl); (try have q8 := ti_all z5); omega), (by exfalso; omega)⟩ _ _ hT hF hS m7 m8 m9 m11 m12 m13 m14 m15 m16 m17 ls (lv_sub hl [0, 2, 3, 4, 5] rfl)
          · have t344 : 0 < z5.toInt := ti_nle c330 rfl (by decide)
            refine lv_aload_n hx hb dX4_lineHolds_41 rfl (lv_at hl 3 rfl) ?_
            refine tw_getM (v := .ref stk) hx hb hts bF2_X4 hown hK hT hr_o0 shc_7 rfl 10 (by decide) (ht_at2 hts 3 rfl) (fun _ h9 => h9) m16 dX4_lineHolds_42 ?_
            refine lv_iload_n hx hb dX4_lineHolds_45 rfl (lv_at hl 2 rfl) ?_
            refine lv_iconst (v := 1) hx hb dX4_lineHolds_46 (by decide) ?_
            refine lv_isub hx hb dX4_lineHolds_47 ?_
            refine lv_topi (fun x345 ex345 => ?_)
            have t346 : x345.toInt = z5.toInt - 1 := ti_sub ex345 rfl (by decide) (by omega) (by omega)
            refine lv_lconst (v := 1) hx hb dX4_lineHolds_48 (by decide) ?_
            refine lv_aload_n hx hb dX4_lineHolds_49 rfl (lv_at hl 3 rfl) ?_
            refine tw_getM (v := .ref stk) hx hb hts bF2_X4 hown hK hT hr_o0 shc_7 rfl 10 (by decide) (ht_at2 hts 3 rfl) (fun _ h9 => h9) m16 dX4_lineHolds_50 ?_
            refine lv_iload_n hx hb dX4_lineHolds_53 rfl (lv_at hl 2 rfl) ?_
            refine lv_iconst (v := 1) hx hb dX4_lineHolds_54 (by decide) ?_
            refine lv_isub hx hb dX4_lineHolds_55 ?_
            refine lv_topi (fun x347 ex347 => ?_)
            have t348 : x347.toInt = z5.toInt - 1 := ti_sub ex347 rfl (by decide) (by omega) (by omega)
            refine tw_lald (i := x347) hx hb hK hT hr_stk shc_50 rfl (vin_t (a := x347.toInt) rfl (by omega) (by omega)) dX4_lineHolds_56 (fun v9 m349 h9 => ?_)
            obtain ⟨y350, rfl⟩ := h9
            have cy350 := m11.at m349 (by have q9 := tn_of (show x347.toInt = x347.toInt from rfl) (by omega); omega)
            refine lv_lsub hx hb dX4_lineHolds_57 ?_
            refine lv_topl (fun y351 ey351 => ?_)
            refine tw_last (i := x345)  hx hb hK hT hG hS hr_stk shc_50 rfl (vin_t (a := x345.toInt) rfl (by omega) (by omega)) ⟨_, rfl⟩ dX4_lineHolds_58 (fun H locs hT oq m352 oi hS => ?_)
            have hF := hF.ast hr_stk skc_50 oq (by decide)
            have m353 := m7.kept (oq _ (gne hr_sf hr_stk (by decide)))
            have m354 := m8.kept (oq _ (gne hr_sto hr_stk (by decide)))
            have m355 := m9.kept (oq _ (gne hr_stp9 hr_stk (by decide)))
            have m356 := m11.put m352 oi
            have m357 := m12.kept (oq _ (gne hr_p1 hr_stk (by decide)))
            have m358 := (el_kept (oq _ (gne hr_o0 hr_stk (by decide)))).trans m13
            have m359 := (el_kept (oq _ (gne hr_o0 hr_stk (by decide)))).trans m14
            have m360 := (el_kept (oq _ (gne hr_o0 hr_stk (by decide)))).trans m15
            have m361 := (el_kept (oq _ (gne hr_o0 hr_stk (by decide)))).trans m16
            have m362 := (el_kept (oq _ (gne hr_sf hr_stk (by decide)))).trans m17
            refine lv_goto (tgt := 163) hx hb dX4_lineHolds_59 (by decide) ?_
            refine lv_iinc (v := nI (i4 + 1)) (lv' := [(4, .int (nI (i4 + 1))), (5, .int x216), (3, .int z5), (0, .ref o0), (1, .int p0), (2, .ref p1)]) hx hb dX4_lineHolds_163 hl (k := 1) rfl (nI_add i4 1) (by decide) rfl (fun ls hl => ?_)
            refine lv_goto (tgt := 10) hx hb dX4_lineHolds_166 (by decide) ?_
            exact ih184 (i4 + 1) (by omega) (by omega) z5 (cul V10 x345.toNatClampNeg y351) ⟨(by have q9 := (show z5.toInt = z5.toInt from rfl); (try have q8 := ti_all z5); omega), (by have := tn_of (show z5.toInt = z5.toInt from rfl) (by omega); have := tn_of (show x345.toInt = x345.toInt from rfl) (by omega); have := tn_of (show x347.toInt = x347.toInt from rfl) (by omega); exact zLp_t hj18 (by omega) (by rw [(show tz vS i4 = x216.toInt from by rw [cx216, tn_nI (by omega)]; rfl)]; omega) (y := y351) (by rw [ey351, cy350, show x347.toNatClampNeg = z5.toNatClampNeg - 1 from by omega]) (by rw [show x345.toNatClampNeg = z5.toNatClampNeg - 1 from by omega]))⟩ _ _ hT hF hS m353 m354 m355 m356 m357 m358 m359 m360 m361 m362 ls (lv_sub hl [0, 2, 3, 4, 5] rfl)
  exact key184 (400 - k3) k3 (by omega) (Nat.le_refl _) 0 vQ ⟨(by have q9 := (show (0 : Int32).toInt = 0 from (by decide)); (try have q8 := ti_all (0 : Int32)); omega), (zLp_0 hmzq (by rw [← cx2]; exact (tn_nI (by omega)).symm) (by decide))⟩ _ _ hT hF hS hc_vF hc_vT hc_vS hc_vQ hc_fL hm_sf hm_sto hm_stp9 hm_stk m1 ls (lv_sub hl [0, 1, 2, 3, 4] rfl)
def w_c_firstThatHoldsZ : List Cond := .code yX4_firstThatHolds cX4_firstThatHolds 4 (some .int) :: (HAppend.hAppend (α := List Cond) (β := List Cond) (γ := List Cond) [.fieldLink RX4 60 "SeaLand$Law" "lines" "I", .fieldLink RX4 18 "SeaLand$Law" "kinds" "[I", .code yX4_lineHolds cX4_lineHolds 6 (some .boolean), .fieldLink RX4 33 "SeaLand$Law" "stepFrom" "[I", .fieldLink RX4 36 "SeaLand$Law" "stepTo" "[I", .fieldLink RX4 39 "SeaLand$Law" "steps" "[I", .fieldLink RX4 42 "SeaLand$Law" "stack" "[J", .code yX4_joined cX4_joined 5 (some .long), .methodLink RX4 199 Lib.MathLoose.max_long.x, .static Lib.MathLoose.max_long.x, .initialized "java/lang/Math", .code Lib.MathLoose.max_long.x Lib.MathLoose.max_long.code 4 (some .long), .methodLink RX4 195 yX4_joined, .static yX4_joined, .initialized RX4, .methodLink RX4 203 yX4_lineHolds, .instanceMethod yX4_lineHolds, .selects RX4 yX4_lineHolds yX4_lineHolds] bs2)
set_option maxHeartbeats 4000000 in
set_option maxRecDepth 100000 in
theorem c_firstThatHoldsZ (l : Launch) (dC : Nat → ClassId) (dI : Nat → Nat → Nat) (kA : Nat → ClassId) (adK adV : Nat → Nat) (G : gT) (H0 : Heap) (nC nS : Int) (o0 : Nat) (p1 : Nat) (kn : Nat) (ln : Int32) (sf : Nat) (sto : Nat) (stp9 : Nat) (stk : Nat) (vK : Nat → Int32) (vF : Nat → Int32) (vT : Nat → Int32) (vS : Nat → Int32) (vQ : Nat → Int64) (fL : Nat → Int64) (A9 : zAl) (L9 : List Int) (hT : gH (dC, dI) kA (SHc nC nS) G H0) (hr_p1 : G p1 = some 56) (hr_o0 : G o0 = some 7) (hm_kn : el H0 o0 (dI 7 2) = some (.ref kn)) (hr_kn : G kn = some 42) (hm_ln : el H0 o0 (dI 7 11) = some (.int ln)) (hm_sf : el H0 o0 (dI 7 7) = some (.ref sf)) (hr_sf : G sf = some 47) (hm_sto : el H0 o0 (dI 7 8) = some (.ref sto)) (hr_sto : G sto = some 48) (hm_stp9 : el H0 o0 (dI 7 9) = some (.ref stp9)) (hr_stp9 : G stp9 = some 49) (hm_stk : el H0 o0 (dI 7 10) = some (.ref stk)) (hr_stk : G stk = some 50) (hq0 : 0 ≤ ln.toInt ∧ ln.toInt ≤ 20) (hrp : zRp A9 vK vF vT (tz vS) 400) (hzk : ∀ e ∈ A9, zok e.2) (hln : ((A9.length : Nat) : Int) = ln.toInt) (hfe : zfE L9 fL) (hc_vK : ct H0 kn 20 vK) (hc_vF : ct H0 sf 20 vF) (hc_vT : ct H0 sto 20 vT) (hc_vS : ct H0 stp9 400 vS) (hc_vQ : ctl H0 stk 20 vQ) (hc_fL : ctl H0 p1 10 fL) (hgC : 0 ≤ nC ∧ nC ≤ 40) (hgS : 0 ≤ nS ∧ nS ≤ 60) : Met l yX4_firstThatHolds w_c_firstThatHoldsZ ({ frames := 3, cells := 0, slots := 0, locals := 89 }) (va_Pc [.ref o0, .int 6, .ref p1] (fun U => U.heap = H0 ∧ va_K (dC, dI) vwCl (tyl kA) U ∧ EVC adK adV (gA G H0.size) U U.heap)) (va_Qi (fun (r : Int32) (u : Unit) => (-1 ≤ r.toInt ∧ r.toInt ≤ 19) ∧ ((0 ≤ r.toInt ∧ zOut L9 A9) ∨ (r.toInt = -1 ∧ ¬ zOut L9 A9))) (fun (_ : Unit) (t : State) => gH (dC, dI) kA (SHc nC nS) G t.heap ∧ gF (dC, dI) SKc G ([(50, 0)] : List (Nat × Nat)) H0 t.heap) (gA G H0.size)) 0 0 (gA G H0.size) := by
  refine Met.ofW (cc := cX4_firstThatHolds) (maxL := 4) (ret := (some .int)) (by decide) rfl ?_
  intro p e s m args below meth c s₁ B hml hv
  obtain ⟨rfl, hH0, hK, hE⟩ := hv
  have hx := B.exec
  have hb := B.bytes
  have hr := B.returns
  have hts := atoms_spec (ws := w_c_firstThatHoldsZ) B.pre
  have hown : s.vm.findClass RX4 = some m.cls := findClass_of_methodNamed B.named
  have hlocks := B.notSynchronized
  subst hH0
  generalize hAe : gA G s.heap.size = A at hE ⊢
  have hA : ∀ q : Nat, s.heap.size ≤ q → A q := fun q h => by rw [← hAe]; exact Or.inr h
  have hG := gA_of hAe
  have hS : va_S A s.heap s.heap [] := va_S.rf
  have hF : gF (dC, dI) SKc G ([(50, 0)] : List (Nat × Nat)) s.heap s.heap := gF.rf
  have hl := lv_entry ([.ref o0, .int 6, .ref p1]) (n := 4) (Nat.le_of_ble_eq_true rfl)
  rw [lg_entry_eq]
  generalize (lg_sl ([.ref o0, .int 6, .ref p1]) ++ List.replicate (4 - (lg_sl ([.ref o0, .int 6, .ref p1])).length) Slot.unset).toArray = ls at hl ⊢
  have hl : lv_has ls 4 [(0, .ref o0), (1, .int 6), (2, .ref p1)] := hl
  refine lv_iconst (v := 0) hx hb dX4_firstThatHolds_0 (by decide) ?_
  refine lv_istore_n (lv' := [(3, .int 0), (0, .ref o0), (1, .int 6), (2, .ref p1)]) hx hb dX4_firstThatHolds_1 rfl hl (by decide) rfl (fun ls hl => ?_)
  have key89 : ∀ (n89 i1 : Nat), i1 + n89 = 20 → 0 ≤ i1 → ((¬ zOl L9 A9 i1) ∧ (((i1 : Nat) : Int) ≤ ln.toInt)) → ∀ (H : Heap) (locs : List Loc), gH (dC, dI) kA (SHc nC nS) G H → gF (dC, dI) SKc G ([(50, 0)] : List (Nat × Nat)) s.heap H → va_S A s.heap H locs → ct H kn 20 vK → ct H sf 20 vF → ct H sto 20 vT → ct H stp9 400 vS → ctl H p1 10 fL → el H o0 (dI 7 2) = some (.ref kn) → el H o0 (dI 7 11) = some (.int ln) → el H o0 (dI 7 7) = some (.ref sf) → el H o0 (dI 7 8) = some (.ref sto) → el H o0 (dI 7 9) = some (.ref stp9) → el H o0 (dI 7 10) = some (.ref stk) → ∀ ls : Array Slot, lv_has ls 4 [(3, .int (nI i1)), (0, .ref o0), (1, .int 6), (2, .ref p1)] → W p l e (headSpec w_c_firstThatHoldsZ ({ frames := 3, cells := 0, slots := 0, locals := 89 })).room s m #[.ref o0, .int 6, .ref p1] below meth c H locs 0 0 (MQ below (va_Qi (fun (r : Int32) (u : Unit) => (-1 ≤ r.toInt ∧ r.toInt ≤ 19) ∧ ((0 ≤ r.toInt ∧ zOut L9 A9) ∨ (r.toInt = -1 ∧ ¬ zOut L9 A9))) (fun (_ : Unit) (t : State) => gH (dC, dI) kA (SHc nC nS) G t.heap ∧ gF (dC, dI) SKc G ([(50, 0)] : List (Nat × Nat)) s.heap t.heap) A) #[.ref o0, .int 6, .ref p1] s 0 0 A) (F0 m 2 ls []) := by
    intro n89
    induction n89 with
    | zero =>
      intro i1 hn89 hlo90 ⟨hj56, hj57⟩ H locs hT hF hS m45 m46 m47 m48 m49 m50 m51 m52 m53 m54 m55 ls hl
      obtain rfl : 20 = i1 := by omega
      refine lv_iload_n hx hb dX4_firstThatHolds_2 rfl (lv_at hl 0 rfl) ?_
      refine lv_aload_n hx hb dX4_firstThatHolds_3 rfl (lv_at hl 1 rfl) ?_
      refine tw_getM (v := .int ln) hx hb hts bF2_X4 hown hK hT hr_o0 shc_7 rfl 11 (by decide) (ht_at2 hts 0 rfl) (fun _ h9 => h9) m51 dX4_firstThatHolds_4 ?_
      refine lv_icmp_ge (tgt := 37) hx hb dX4_firstThatHolds_7 (by decide) (fun c91 => ?_) (fun c91 => (by exfalso; have q9 : ((20 : Nat) : Int) < ln.toInt := ti_nle c91 rfl (nI_toInt (by omega)); omega))
      have t92 : ln.toInt ≤ ((20 : Nat) : Int) := ti_le c91 rfl (nI_toInt (by omega))
      refine lv_iconst (v := (-1)) hx hb dX4_firstThatHolds_37 (by decide) ?_
      exact W.iret (v := (-1)) hx hb hr (fun t ht hW => ⟨⟨(-1), (), rfl, (by exact ⟨(rg_t (a := (-1)) (by decide) (by first | decide | omega) (by first | decide | omega)), (Or.inr ⟨by decide, by have e9 : 20 = A9.length := (by omega); have f9 := hj56; rw [e9] at f9; exact f9⟩)⟩), by (try dsimp only); rw [ht]; exact ⟨hT, hF⟩⟩, hS.F ht⟩) hS.2.2 dX4_firstThatHolds_38
    | succ n89 ih89 =>
      intro i1 hn89 hlo90 ⟨hj56, hj57⟩ H locs hT hF hS m45 m46 m47 m48 m49 m50 m51 m52 m53 m54 m55 ls hl
      have hlt92 : i1 < 20 := by omega
      refine lv_iload_n hx hb dX4_firstThatHolds_2 rfl (lv_at hl 0 rfl) ?_
      refine lv_aload_n hx hb dX4_firstThatHolds_3 rfl (lv_at hl 1 rfl) ?_
      refine tw_getM (v := .int ln) hx hb hts bF2_X4 hown hK hT hr_o0 shc_7 rfl 11 (by decide) (ht_at2 hts 0 rfl) (fun _ h9 => h9) m51 dX4_firstThatHolds_4 ?_
      refine lv_icmp_ge (tgt := 37) hx hb dX4_firstThatHolds_7 (by decide) (fun c93 => ?_) (fun c93 => ?_)
      · have t94 : ln.toInt ≤ ((i1 : Nat) : Int) := ti_le c93 rfl (nI_toInt (by omega))
        refine lv_iconst (v := (-1)) hx hb dX4_firstThatHolds_37 (by decide) ?_
        exact W.iret (v := (-1)) hx hb hr (fun t ht hW => ⟨⟨(-1), (), rfl, (by exact ⟨(rg_t (a := (-1)) (by decide) (by first | decide | omega) (by first | decide | omega)), (Or.inr ⟨by decide, by have e9 : i1 = A9.length := (by omega); have f9 := hj56; rw [e9] at f9; exact f9⟩)⟩), by (try dsimp only); rw [ht]; exact ⟨hT, hF⟩⟩, hS.F ht⟩) hS.2.2 dX4_firstThatHolds_38
      · have t95 : ((i1 : Nat) : Int) < ln.toInt := ti_nle c93 rfl (nI_toInt (by omega))
        refine lv_aload_n hx hb dX4_firstThatHolds_10 rfl (lv_at hl 1 rfl) ?_
        refine tw_getM (v := .ref kn) hx hb hts bF2_X4 hown hK hT hr_o0 shc_7 rfl 2 (by decide) (ht_at2 hts 1 rfl) (fun _ h9 => h9) m50 dX4_firstThatHolds_11 ?_
        refine lv_iload_n hx hb dX4_firstThatHolds_14 rfl (lv_at hl 0 rfl) ?_
        refine tw_iald (i := (nI i1)) hx hb hK hT hr_kn shc_42 rfl (vp_in_nI (by omega) (by decide)) dX4_firstThatHolds_15 (fun v9 m96 h9 => ?_)
        obtain ⟨x97, rfl, gx97, kx97⟩ := h9
        have cx97 := m45.at m96 (by have q9 := tn_of (show (nI i1).toInt = ((i1 : Nat) : Int) from (nI_toInt (by omega))) (by omega); omega)
        refine lv_iload_n hx hb dX4_firstThatHolds_16 rfl (lv_at hl 2 rfl) ?_
        have t98 : -2147483648 ≤ x97.toInt ∧ x97.toInt ≤ 2147483647 := ti_all x97
        refine lv_icmp_ne (tgt := 31) hx hb dX4_firstThatHolds_17 (by decide) (fun c99 => ?_) (fun c99 => ?_)
        · have t100 : x97.toInt ≠ 6 := ti_ne c99 rfl (by decide)
          refine lv_iinc (v := nI (i1 + 1)) (lv' := [(3, .int (nI (i1 + 1))), (0, .ref o0), (1, .int 6), (2, .ref p1)]) hx hb dX4_firstThatHolds_31 hl (k := 0) rfl (nI_add i1 1) (by decide) rfl (fun ls hl => ?_)
          refine lv_goto (tgt := 2) hx hb dX4_firstThatHolds_34 (by decide) ?_
          exact ih89 (i1 + 1) (by omega) (by omega) ⟨(by have q6 : (6 : Int32).toInt = 6 := (by decide); have v9 : (vK i1).toInt = x97.toInt := (by rw [cx97, tn_nI (by omega)]); exact zOl_k hrp hfe hj56 (Or.inl (by omega))), (by omega)⟩ _ _ hT hF hS m45 m46 m47 m48 m49 m50 m51 m52 m53 m54 m55 ls (lv_sub hl [0, 1, 2, 3] rfl)
        · have t101 : x97.toInt = 6 := ti_eq c99 rfl (by decide)
          refine lv_aload_n hx hb dX4_firstThatHolds_20 rfl (lv_at hl 1 rfl) ?_
          refine lv_iload_n hx hb dX4_firstThatHolds_21 rfl (lv_at hl 0 rfl) ?_
          refine lv_aload_n hx hb dX4_firstThatHolds_22 rfl (lv_at hl 3 rfl) ?_
          obtain ⟨V102, m103⟩ := ctl_of hT hr_stk shc_50
          have hFc := gA_free hG hA hS
          refine va_calli (va_runV (As := [.int (nI i1), .ref p1]) (rest := []) ⟨hx, hb, hml, hown, hts⟩ (c_lineHoldsZ l dC dI kA adK adV G H nC nS o0 (nI i1) p1 sf sto stp9 stk vF vT vS V102 fL hT hr_p1 hr_o0 m52 hr_sf m53 hr_sto m54 hr_stp9 m55 hr_stk (rg_t (a := ((i1 : Nat) : Int)) (nI_toInt (by omega)) (by omega) (by omega)) (zok_at hrp hzk (n := (nI i1).toNatClampNeg) (by have := tn_of (show (nI i1).toInt = ((i1 : Nat) : Int) from (nI_toInt (by omega))) (by omega); omega) (by rw [← cx97]; have q6 : (6 : Int32).toInt = 6 := (by decide); omega)) m46 m47 m48 m103 m49 (by omega) (by omega)) (cwV 2 hts (goodIn_app (goodIn_r _ [16, 17, 18, 15] rfl (by decide +kernel)) (goodIn_ca (goodIn_r _ [3, 4, 5, 6, 7, 8, 9, 10, 11, 12, 13, 14, 15] rfl (by decide +kernel)) (bs2_in _ _))) rfl rfl rfl (by decide +kernel) ⟨(Nat.le_of_ble_eq_true rfl), (Nat.le_of_ble_eq_true rfl)⟩) ⟨fun a U g mk q => by obtain ⟨q0, q1, qK, qE⟩ := q; exact ⟨q0, q1, va_K.moved (u := U) (U := U.calling g mk a) (Vm.Alike.refl U.vm) qK, EVC.blind g mk a qE⟩, gH_rc hK hT hr_o0 shc_7 rfl, fun U hU hW => ⟨rfl, hU, va_K.moved hW.alike hK, hE.call hS hFc hU hW⟩⟩ rfl rfl hl.1 rfl (lv_room (Nat.le_of_ble_eq_true rfl)) dX4_firstThatHolds_23 ⟨(Nat.le_of_ble_eq_true rfl), (Nat.le_of_ble_eq_true rfl)⟩) hS (fun q _ h => hFc q h) hFc (fun r104 u t H locs ht hvm hw105 hB _ _ hS => ?_)
          obtain ⟨hT, hF1⟩ := hB
          rw [ht] at hT hF1
          have m106 := m45.kept (hF1.arr hr_kn skc_42 (by decide))
          have m107 := m46.kept (hF1.arr hr_sf skc_47 (by decide))
          have m108 := m47.kept (hF1.arr hr_sto skc_48 (by decide))
          have m109 := m48.kept (hF1.arr hr_stp9 skc_49 (by decide))
          have m110 := m49.kept (hF1.arr hr_p1 skc_56 (by decide))
          have m111 := (hF1.fld hr_o0 skc_7 (k := 2) (by decide) (by decide)).trans m50
          have m112 := (hF1.fld hr_o0 skc_7 (k := 11) (by decide) (by decide)).trans m51
          have m113 := (hF1.fld hr_o0 skc_7 (k := 7) (by decide) (by decide)).trans m52
          have m114 := (hF1.fld hr_o0 skc_7 (k := 8) (by decide) (by decide)).trans m53
          have m115 := (hF1.fld hr_o0 skc_7 (k := 9) (by decide) (by decide)).trans m54
          have m116 := (hF1.fld hr_o0 skc_7 (k := 10) (by decide) (by decide)).trans m55
          have hF := hF.more hF1 (by decide)
          try dsimp only at hw105
          obtain ⟨h119, hf120⟩ := hw105
          refine lv_if_eq (tgt := 31) hx hb dX4_firstThatHolds_26 (by decide) (fun c121 => ?_) (fun c121 => ?_)
          · have t122 : r104.toInt = 0 := ti_eq c121 rfl (by decide)
            refine lv_iinc (v := nI (i1 + 1)) (lv' := [(3, .int (nI (i1 + 1))), (0, .ref o0), (1, .int 6), (2, .ref p1)]) hx hb dX4_firstThatHolds_31 hl (k := 0) rfl (nI_add i1 1) (by decide) rfl (fun ls hl => ?_)
            refine lv_goto (tgt := 2) hx hb dX4_firstThatHolds_34 (by decide) ?_
            exact ih89 (i1 + 1) (by omega) (by omega) ⟨(by have h9 := (hf120.resolve_left (fun h8 => by have := h8.1; omega)).2; rw [tn_nI (by omega)] at h9; exact zOl_k hrp hfe hj56 (Or.inr h9)), (by omega)⟩ _ _ hT hF hS m106 m107 m108 m109 m110 m111 m112 m113 m114 m115 m116 ls (lv_sub hl [0, 1, 2, 3] rfl)
          · have t123 : r104.toInt ≠ 0 := ti_ne c121 rfl (by decide)
            refine lv_iload_n hx hb dX4_firstThatHolds_29 rfl (lv_at hl 0 rfl) ?_
            exact W.iret (v := nI i1) hx hb hr (fun t ht hW => ⟨⟨nI i1, (), rfl, (by exact ⟨(rg_t (a := ((i1 : Nat) : Int)) (nI_toInt (by omega)) (by omega) (by omega)), (Or.inl ⟨by have r9 := (show (nI i1).toInt = ((i1 : Nat) : Int) from (nI_toInt (by omega))); omega, by have q6 : (6 : Int32).toInt = 6 := (by decide); have v9 : (vK i1).toInt = x97.toInt := (by rw [cx97, tn_nI (by omega)]); have h9 := (hf120.resolve_right (fun h8 => by have := h8.1; omega)).2; rw [tn_nI (by omega)] at h9; obtain ⟨l9, l1, l2⟩ := zOl_y hrp hfe (n := i1) (by omega) (by omega) h9; exact ⟨l9, by omega, l2⟩⟩)⟩), by (try dsimp only); rw [ht]; exact ⟨hT, hF⟩⟩, hS.F ht⟩) hS.2.2 dX4_firstThatHolds_30
  exact key89 (20 - 0) 0 (by omega) (Nat.le_refl _) ⟨zOl_0, (by omega)⟩ _ _ hT hF hS hc_vK hc_vF hc_vT hc_vS hc_fL hm_kn hm_ln hm_sf hm_sto hm_stp9 hm_stk ls (lv_sub hl [0, 1, 2, 3] rfl)
def w_c_isRuledZ : List Cond := .code yX0_isRuled cX0_isRuled 2 (some .boolean) :: (HAppend.hAppend (α := List Cond) (β := List Cond) (γ := List Cond) [.fieldLink RX0 41 "SeaLand$Board" "force" "LSeaLand$Law;", .fieldLink RX0 33 "SeaLand$Board" "facts" "[J", .code yX4_firstThatHolds cX4_firstThatHolds 4 (some .int), .fieldLink RX4 60 "SeaLand$Law" "lines" "I", .fieldLink RX4 18 "SeaLand$Law" "kinds" "[I", .code yX4_lineHolds cX4_lineHolds 6 (some .boolean), .fieldLink RX4 33 "SeaLand$Law" "stepFrom" "[I", .fieldLink RX4 36 "SeaLand$Law" "stepTo" "[I", .fieldLink RX4 39 "SeaLand$Law" "steps" "[I", .fieldLink RX4 42 "SeaLand$Law" "stack" "[J", .code yX4_joined cX4_joined 5 (some .long), .methodLink RX4 199 Lib.MathLoose.max_long.x, .static Lib.MathLoose.max_long.x, .initialized "java/lang/Math", .code Lib.MathLoose.max_long.x Lib.MathLoose.max_long.code 4 (some .long), .methodLink RX4 195 yX4_joined, .static yX4_joined, .initialized RX4, .methodLink RX4 203 yX4_lineHolds, .instanceMethod yX4_lineHolds, .selects RX4 yX4_lineHolds yX4_lineHolds, .methodLink RX0 134 yX4_firstThatHolds, .instanceMethod yX4_firstThatHolds, .selects RX4 yX4_firstThatHolds yX4_firstThatHolds] bs2)
set_option maxHeartbeats 4000000 in
set_option maxRecDepth 100000 in
theorem c_isRuledZ (l : Launch) (dC : Nat → ClassId) (dI : Nat → Nat → Nat) (kA : Nat → ClassId) (adK adV : Nat → Nat) (G : gT) (H0 : Heap) (nC nS : Int) (o0 : Nat) (lw : Nat) (kn : Nat) (ln : Int32) (sf : Nat) (sto : Nat) (stp9 : Nat) (stk : Nat) (fa9 : Nat) (vK : Nat → Int32) (vF : Nat → Int32) (vT : Nat → Int32) (vS : Nat → Int32) (vQ : Nat → Int64) (fL : Nat → Int64) (A9 : zAl) (L9 : List Int) (hT : gH (dC, dI) kA (SHc nC nS) G H0) (hr_o0 : G o0 = some 3) (hm_lw : el H0 o0 (dI 3 7) = some (.ref lw)) (hr_lw : G lw = some 7) (hm_kn : el H0 lw (dI 7 2) = some (.ref kn)) (hr_kn : G kn = some 42) (hm_ln : el H0 lw (dI 7 11) = some (.int ln)) (hm_sf : el H0 lw (dI 7 7) = some (.ref sf)) (hr_sf : G sf = some 47) (hm_sto : el H0 lw (dI 7 8) = some (.ref sto)) (hr_sto : G sto = some 48) (hm_stp9 : el H0 lw (dI 7 9) = some (.ref stp9)) (hr_stp9 : G stp9 = some 49) (hm_stk : el H0 lw (dI 7 10) = some (.ref stk)) (hr_stk : G stk = some 50) (hm_fa9 : el H0 o0 (dI 3 5) = some (.ref fa9)) (hr_fa9 : G fa9 = some 56) (hq0 : 0 ≤ ln.toInt ∧ ln.toInt ≤ 20) (hrp : zRp A9 vK vF vT (tz vS) 400) (hzk : ∀ e ∈ A9, zok e.2) (hln : ((A9.length : Nat) : Int) = ln.toInt) (hfe : zfE L9 fL) (hc_vK : ct H0 kn 20 vK) (hc_vF : ct H0 sf 20 vF) (hc_vT : ct H0 sto 20 vT) (hc_vS : ct H0 stp9 400 vS) (hc_vQ : ctl H0 stk 20 vQ) (hc_fL : ctl H0 fa9 10 fL) (hgC : 0 ≤ nC ∧ nC ≤ 40) (hgS : 0 ≤ nS ∧ nS ≤ 60) : Met l yX0_isRuled w_c_isRuledZ ({ frames := 4, cells := 0, slots := 0, locals := 112 }) (va_Pc [.ref o0, .int 6] (fun U => U.heap = H0 ∧ va_K (dC, dI) vwCl (tyl kA) U ∧ EVC adK adV (gA G H0.size) U U.heap)) (va_Qi (fun (r : Int32) (u : Unit) => (0 ≤ r.toInt ∧ r.toInt ≤ 1) ∧ ((r.toInt = 1 ∧ zOut L9 A9) ∨ (r.toInt = 0 ∧ ¬ zOut L9 A9))) (fun (_ : Unit) (t : State) => gH (dC, dI) kA (SHc nC nS) G t.heap ∧ gF (dC, dI) SKc G ([(50, 0)] : List (Nat × Nat)) H0 t.heap) (gA G H0.size)) 0 0 (gA G H0.size) := by
  refine Met.ofW (cc := cX0_isRuled) (maxL := 2) (ret := (some .boolean)) (by decide) rfl ?_
  intro p e s m args below meth c s₁ B hml hv
  obtain ⟨rfl, hH0, hK, hE⟩ := hv
  have hx := B.exec
  have hb := B.bytes
  have hr := B.returns
  have hts := atoms_spec (ws := w_c_isRuledZ) B.pre
  have hown : s.vm.findClass RX0 = some m.cls := findClass_of_methodNamed B.named
  have hlocks := B.notSynchronized
  subst hH0
  generalize hAe : gA G s.heap.size = A at hE ⊢
  have hA : ∀ q : Nat, s.heap.size ≤ q → A q := fun q h => by rw [← hAe]; exact Or.inr h
  have hG := gA_of hAe
  have hS : va_S A s.heap s.heap [] := va_S.rf
  have hF : gF (dC, dI) SKc G ([(50, 0)] : List (Nat × Nat)) s.heap s.heap := gF.rf
  have hl := lv_entry ([.ref o0, .int 6]) (n := 2) (Nat.le_of_ble_eq_true rfl)
  rw [lg_entry_eq]
  generalize (lg_sl ([.ref o0, .int 6]) ++ List.replicate (2 - (lg_sl ([.ref o0, .int 6])).length) Slot.unset).toArray = ls at hl ⊢
  have hl : lv_has ls 2 [(0, .ref o0), (1, .int 6)] := hl
  refine lv_aload_n hx hb dX0_isRuled_0 rfl (lv_at hl 0 rfl) ?_
  refine tw_getM (v := .ref lw) hx hb hts bF2_X0 hown hK hT hr_o0 shc_3 rfl 7 (by decide) (ht_at2 hts 0 rfl) (fun _ h9 => h9) hm_lw dX0_isRuled_1 ?_
  refine lv_iload_n hx hb dX0_isRuled_4 rfl (lv_at hl 1 rfl) ?_
  refine lv_aload_n hx hb dX0_isRuled_5 rfl (lv_at hl 0 rfl) ?_
  refine tw_getM (v := .ref fa9) hx hb hts bF2_X0 hown hK hT hr_o0 shc_3 rfl 5 (by decide) (ht_at2 hts 1 rfl) (fun _ h9 => h9) hm_fa9 dX0_isRuled_6 ?_
  have hFc := gA_free hG hA hS
  refine va_calli (va_runV (As := [.int 6, .ref fa9]) (rest := []) ⟨hx, hb, hml, hown, hts⟩ (c_firstThatHoldsZ l dC dI kA adK adV G s.heap nC nS lw fa9 kn ln sf sto stp9 stk vK vF vT vS vQ fL A9 L9 hT hr_fa9 hr_lw hm_kn hr_kn hm_ln hm_sf hr_sf hm_sto hr_sto hm_stp9 hr_stp9 hm_stk hr_stk (by have q8 := ti_all ln; omega) hrp hzk hln hfe hc_vK hc_vF hc_vT hc_vS hc_vQ hc_fL (by omega) (by omega)) (cwV 2 hts (goodIn_app (goodIn_r _ [22, 23, 24, 18] rfl (by decide +kernel)) (goodIn_ca (goodIn_r _ [3, 4, 5, 6, 7, 8, 9, 10, 11, 12, 13, 14, 15, 16, 17, 18, 19, 20, 21] rfl (by decide +kernel)) (bs2_in _ _))) rfl rfl rfl (by decide +kernel) ⟨(Nat.le_of_ble_eq_true rfl), (Nat.le_of_ble_eq_true rfl)⟩) ⟨fun a U g mk q => by obtain ⟨q0, q1, qK, qE⟩ := q; exact ⟨q0, q1, va_K.moved (u := U) (U := U.calling g mk a) (Vm.Alike.refl U.vm) qK, EVC.blind g mk a qE⟩, gH_rc hK hT hr_lw shc_7 rfl, fun U hU hW => ⟨rfl, hU, va_K.moved hW.alike hK, hE.call hS hFc hU hW⟩⟩ rfl rfl hl.1 rfl (lv_room (Nat.le_of_ble_eq_true rfl)) dX0_isRuled_9 ⟨(Nat.le_of_ble_eq_true rfl), (Nat.le_of_ble_eq_true rfl)⟩) hS (fun q _ h => hFc q h) hFc (fun r1 u t H locs ht hvm hw2 hB _ _ hS => ?_)
  obtain ⟨hT, hF1⟩ := hB
  rw [ht] at hT hF1
  have hF := hF.more hF1 (by decide)
  try dsimp only at hw2
  obtain ⟨h17, hf18⟩ := hw2
  refine lv_iconst (v := (-1)) hx hb dX0_isRuled_12 (by decide) ?_
  refine lv_icmp_eq (tgt := 20) hx hb dX0_isRuled_13 (by decide) (fun c19 => ?_) (fun c19 => ?_)
  · have t20 : r1.toInt = (-1) := ti_eq c19 rfl (by decide)
    refine lv_iconst (v := 0) hx hb dX0_isRuled_20 (by decide) ?_
    exact W.zret (v := 0) hx hb hr (by decide) (fun t ht hW => ⟨⟨0, (), rfl, (by exact ⟨(rg_t (a := 0) (by decide) (by first | decide | omega) (by first | decide | omega)), (Or.inr ⟨by decide, (hf18.resolve_left (fun h8 => by have := h8.1; omega)).2⟩)⟩), by (try dsimp only); rw [ht]; exact ⟨hT, hF⟩⟩, hS.F ht⟩) hS.2.2 dX0_isRuled_21
  · have t21 : r1.toInt ≠ (-1) := ti_ne c19 rfl (by decide)
    refine lv_iconst (v := 1) hx hb dX0_isRuled_16 (by decide) ?_
    refine lv_goto (tgt := 21) hx hb dX0_isRuled_17 (by decide) ?_
    exact W.zret (v := 1) hx hb hr (by decide) (fun t ht hW => ⟨⟨1, (), rfl, (by exact ⟨(rg_t (a := 1) (by decide) (by first | decide | omega) (by first | decide | omega)), (Or.inl ⟨by decide, (hf18.resolve_right (fun h8 => by have := h8.1; omega)).2⟩)⟩), by (try dsimp only); rw [ht]; exact ⟨hT, hF⟩⟩, hS.F ht⟩) hS.2.2 dX0_isRuled_21
def w_c_sumThatHoldsN : List Cond := .code yX4_sumThatHolds cX4_sumThatHolds 6 (some .long) :: (HAppend.hAppend (α := List Cond) (β := List Cond) (γ := List Cond) [.fieldLink RX4 60 "SeaLand$Law" "lines" "I", .fieldLink RX4 18 "SeaLand$Law" "kinds" "[I", .code yX4_lineHolds cX4_lineHolds 6 (some .boolean), .fieldLink RX4 33 "SeaLand$Law" "stepFrom" "[I", .fieldLink RX4 36 "SeaLand$Law" "stepTo" "[I", .fieldLink RX4 39 "SeaLand$Law" "steps" "[I", .fieldLink RX4 42 "SeaLand$Law" "stack" "[J", .code yX4_joined cX4_joined 5 (some .long), .methodLink RX4 199 Lib.MathLoose.max_long.x, .static Lib.MathLoose.max_long.x, .initialized "java/lang/Math", .code Lib.MathLoose.max_long.x Lib.MathLoose.max_long.code 4 (some .long), .methodLink RX4 195 yX4_joined, .static yX4_joined, .initialized RX4, .methodLink RX4 203 yX4_lineHolds, .instanceMethod yX4_lineHolds, .selects RX4 yX4_lineHolds yX4_lineHolds, .fieldLink RX4 21 "SeaLand$Law" "firsts" "[I"] bs2)
