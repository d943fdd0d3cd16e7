def w_c_yearC : List Cond := .code yX5_yearWithCost cX5_yearWithCost 5 (some .int) :: (HAppend.hAppend (α := List Cond) (β := List Cond) (γ := List Cond) [] bs2)
set_option maxHeartbeats 4000000 in
set_option maxRecDepth 100000 in
theorem c_yearC (l : Launch) (dC : Nat → ClassId) (dI : Nat → Nat → Nat) (kA : Nat → ClassId) (adK adV : Nat → Nat) (G : gT) (H0 : Heap) (nC nS : Int) (p0 : Int32) (p1 : Int64) (p2 : Int32) (p3 : Int32)  (hT : gH (dC, dI) kA (SHc nC nS) G H0) (hq0 : 0 ≤ p0.toInt ∧ p0.toInt ≤ 200) (hq1 : 0 ≤ p2.toInt ∧ p2.toInt ≤ 600000) (hq2 : 0 ≤ p3.toInt ∧ p3.toInt ≤ 1000000) (hco : 0 ≤ p1.toInt ∧ p1.toInt ≤ 1000000000) (hgC : 0 ≤ nC ∧ nC ≤ 40) (hgS : 0 ≤ nS ∧ nS ≤ 60) : Met l yX5_yearWithCost w_c_yearC ({ frames := 0, cells := 0, slots := 0, locals := 0 }) (va_Pc [.int p0, .long p1, .int p2, .int p3] (fun U => U.heap = H0 ∧ va_K (dC, dI) vwCl (tyl kA) U ∧ EVC adK adV (gA G H0.size) U U.heap)) (va_Qi (fun (r : Int32) (u : Unit) => (0 ≤ r.toInt ∧ r.toInt ≤ 1600199) ∧ (yw p0.toInt p1.toInt p2.toInt p3.toInt r.toInt)) (fun (_ : Unit) (t : State) => gH (dC, dI) kA (SHc nC nS) G t.heap ∧ gF (dC, dI) SKc G ([] : List (Nat × Nat)) H0 t.heap) (gA G H0.size)) 0 0 (gA G H0.size) := by
  refine Met.ofW (cc := cX5_yearWithCost) (maxL := 5) (ret := (some .int)) (by decide) rfl ?_
  intro p e s m args below meth c s₁ B hml hv
  obtain ⟨rfl, hH0, hK, hE⟩ := hv
  have hx := B.exec
  have hb := B.bytes
  have hr := B.returns
  have hts := atoms_spec (ws := w_c_yearC) B.pre
  have hown : s.vm.findClass RX5 = some m.cls := findClass_of_methodNamed B.named
  have hlocks := B.notSynchronized
  subst hH0
  generalize hAe : gA G s.heap.size = A at hE ⊢
  have hA : ∀ q : Nat, s.heap.size ≤ q → A q := fun q h => by rw [← hAe]; exact Or.inr h
  have hG := gA_of hAe
  have hS : va_S A s.heap s.heap [] := va_S.rf
  have hF : gF (dC, dI) SKc G ([] : List (Nat × Nat)) s.heap s.heap := gF.rf
  have hl := lv_entry ([.int p0, .long p1, .int p2, .int p3]) (n := 5) (Nat.le_of_ble_eq_true rfl)
  rw [lg_entry_eq]
  generalize (lg_sl ([.int p0, .long p1, .int p2, .int p3]) ++ List.replicate (5 - (lg_sl ([.int p0, .long p1, .int p2, .int p3])).length) Slot.unset).toArray = ls at hl ⊢
  have hl : lv_has ls 5 [(0, .int p0), (1, .long p1), (3, .int p2), (4, .int p3)] := hl
  refine lv_lload_n hx hb dX5_yearWithCost_0 rfl (lv_at hl 1 rfl) ?_
  refine lv_iload hx hb dX5_yearWithCost_1 (lv_at hl 3 rfl) ?_
  refine lv_i2l (v := p3.toInt64) hx hb dX5_yearWithCost_3 rfl ?_
  refine W.lcmp hx hb dX5_yearWithCost_4 ?_
  refine lv_topi (fun x1 ex1 => ?_)
  have t2 : (p1.toInt < p3.toInt ∧ x1.toInt = -1) ∨ (p1.toInt = p3.toInt ∧ x1.toInt = 0) ∨ (p3.toInt < p1.toInt ∧ x1.toInt = 1) := tl_c ex1 rfl ((Int32.toInt_toInt64 _).trans rfl)
  refine lv_if_lt (tgt := 10) hx hb dX5_yearWithCost_5 (by decide) (fun c3 => ?_) (fun c3 => ?_)
  · have t4 : x1.toInt < 0 := ti_lt c3 rfl (by decide)
    refine lv_iload_n hx hb dX5_yearWithCost_10 rfl (lv_at hl 2 rfl) ?_
    refine lv_if_ne (tgt := 18) hx hb dX5_yearWithCost_11 (by decide) (fun c5 => ?_) (fun c5 => ?_)
    · have t6 : p2.toInt ≠ 0 := ti_ne c5 rfl (by decide)
      refine lv_iload_n hx hb dX5_yearWithCost_18 rfl (lv_at hl 0 rfl) ?_
      refine lv_iload hx hb dX5_yearWithCost_19 (lv_at hl 3 rfl) ?_
      refine lv_i2l (v := p3.toInt64) hx hb dX5_yearWithCost_21 rfl ?_
      refine lv_lload_n hx hb dX5_yearWithCost_22 rfl (lv_at hl 1 rfl) ?_
      refine lv_lsub hx hb dX5_yearWithCost_23 ?_
      refine lv_topl (fun y7 ey7 => ?_)
      have t8 : y7.toInt = p3.toInt - p1.toInt := tl_s ey7 ((Int32.toInt_toInt64 _).trans rfl) rfl (by omega) (by omega)
      refine lv_iload_n hx hb dX5_yearWithCost_24 rfl (lv_at hl 2 rfl) ?_
      refine lv_i2l (v := p2.toInt64) hx hb dX5_yearWithCost_25 rfl ?_
      refine lv_ladd hx hb dX5_yearWithCost_26 ?_
      refine lv_topl (fun y9 ey9 => ?_)
      have t10 : y9.toInt = y7.toInt + p2.toInt := tl_a ey9 rfl ((Int32.toInt_toInt64 _).trans rfl) (by omega) (by omega)
      refine lv_lconst (v := 1) hx hb dX5_yearWithCost_27 (by decide) ?_
      refine lv_lsub hx hb dX5_yearWithCost_28 ?_
      refine lv_topl (fun y11 ey11 => ?_)
      have t12 : y11.toInt = y9.toInt - 1 := tl_s ey11 rfl (by decide) (by omega) (by omega)
      refine lv_iload_n hx hb dX5_yearWithCost_29 rfl (lv_at hl 2 rfl) ?_
      refine lv_i2l (v := p2.toInt64) hx hb dX5_yearWithCost_30 rfl ?_
      have t13 : 0 ≤ y11.toInt := (by omega)
      refine lv_ldiv hx hb dX5_yearWithCost_31 (tl_ne ((Int32.toInt_toInt64 _).trans rfl) (by omega)) ?_
      refine lv_topl (fun y14 ey14 => ?_)
      have t15 : y14.toInt = y11.toInt / p2.toInt := tl_d ey14 rfl ((Int32.toInt_toInt64 _).trans rfl) (by omega) (by omega)
      have t16 : 0 ≤ y14.toInt ∧ y14.toInt ≤ y11.toInt := tl_db ey14 rfl ((Int32.toInt_toInt64 _).trans rfl) (by omega) (by omega)
      have t17 : y14.toInt = (p3.toInt - p1.toInt + p2.toInt - 1) / p2.toInt := (by rw [show p3.toInt - p1.toInt + p2.toInt - 1 = y11.toInt from by omega]; omega)
      refine lv_l2i (v := y14.toInt32) hx hb dX5_yearWithCost_32 rfl ?_
      refine lv_topi (fun x18 ex18 => ?_)
      have t19 : x18.toInt = y14.toInt := tl_i ex18 rfl (by omega) (by omega)
      refine lv_iadd hx hb dX5_yearWithCost_33 ?_
      refine lv_topi (fun x20 ex20 => ?_)
      have t21 : x20.toInt = p0.toInt + x18.toInt := ti_add ex20 rfl rfl (by omega) (by omega)
      exact W.iret (v := x20) hx hb hr (fun t ht hW => ⟨⟨x20, (), rfl, (by exact ⟨(by have q8 := ti_all x20; omega), (Or.inr (Or.inr ⟨by omega, by omega, by omega⟩))⟩), by (try dsimp only); rw [ht]; exact ⟨hT, hF⟩⟩, hS.F ht⟩) hS.2.2 dX5_yearWithCost_34
    · have t22 : p2.toInt = 0 := ti_eq c5 rfl (by decide)
      refine lv_sipush (v := 200) hx hb dX5_yearWithCost_14 (by decide) ?_
      exact W.iret (v := 200) hx hb hr (fun t ht hW => ⟨⟨200, (), rfl, (by exact ⟨(rg_t (a := 200) (by decide) (by omega) (by omega)), (Or.inr (Or.inl ⟨by omega, by omega, by decide⟩))⟩), by (try dsimp only); rw [ht]; exact ⟨hT, hF⟩⟩, hS.F ht⟩) hS.2.2 dX5_yearWithCost_17
  · have t23 : 0 ≤ x1.toInt := ti_nlt c3 rfl (by decide)
    refine lv_iload_n hx hb dX5_yearWithCost_8 rfl (lv_at hl 0 rfl) ?_
    exact W.iret (v := p0) hx hb hr (fun t ht hW => ⟨⟨p0, (), rfl, (by exact ⟨(by have q8 := ti_all p0; omega), (Or.inl ⟨by omega, rfl⟩)⟩), by (try dsimp only); rw [ht]; exact ⟨hT, hF⟩⟩, hS.F ht⟩) hS.2.2 dX5_yearWithCost_9
def w_c_tryOrdersC7 : List Cond := .code yX5_tryOrders cX5_tryOrders 11 none :: (HAppend.hAppend (α := List Cond) (β := List Cond) (γ := List Cond) [.fieldLink RX5 157 "SeaLand$Plans" "bestLate" "I", .fieldLink RX5 154 "SeaLand$Plans" "jobs" "I", .fieldLink RX5 45 "SeaLand$Plans" "trial" "[I", .fieldLink RX5 48 "SeaLand$Plans" "best" "[I", .methodLink RX5 100 arraycopyName, .native arraycopyName, .static arraycopyName, .initialized "java/lang/System"] bs2)
set_option maxHeartbeats 4000000 in
set_option maxRecDepth 100000 in
theorem c_tryOrdersC7 (l : Launch) (dC : Nat → ClassId) (dI : Nat → Nat → Nat) (kA : Nat → ClassId) (adK adV : Nat → Nat) (G : gT) (H0 : Heap) (nC nS : Int) (o0 : Nat) (yr : Int32) (co : Int64) (ic : Int32) (lt : Int32) (jb : Int32) (la : Int32) (xcs : Nat) (xls : Nat) (xin : Nat) (xac : Nat) (xpd : Nat) (xtr : Nat) (xbe : Nat) (aC : Nat → Int32) (aY : Nat → Int32) (aB : Nat → Int32) (aA : Nat → Int32) (vP : Nat → Int32) (vR : Nat → Int32) (vZ : Nat → Int32) (N : Nat) (R : Nat → Int) (a0 : oA) (hT : gH (dC, dI) kA (SHc nC nS) G H0) (hr_o0 : G o0 = some 8) (hm_jb : el H0 o0 (dI 8 15) = some (.int jb)) (hm_la : el H0 o0 (dI 8 16) = some (.int la)) (hm_xcs : el H0 o0 (dI 8 5) = some (.ref xcs)) (hr_xcs : G xcs = some 63) (hm_xls : el H0 o0 (dI 8 6) = some (.ref xls)) (hr_xls : G xls = some 64) (hm_xin : el H0 o0 (dI 8 7) = some (.ref xin)) (hr_xin : G xin = some 65) (hm_xac : el H0 o0 (dI 8 8) = some (.ref xac)) (hr_xac : G xac = some 66) (hm_xpd : el H0 o0 (dI 8 9) = some (.ref xpd)) (hr_xpd : G xpd = some 67) (hm_xtr : el H0 o0 (dI 8 10) = some (.ref xtr)) (hr_xtr : G xtr = some 68) (hm_xbe : el H0 o0 (dI 8 11) = some (.ref xbe)) (hr_xbe : G xbe = some 69) (hq0 : 0 ≤ yr.toInt ∧ yr.toInt ≤ 200) (hq1 : 0 ≤ ic.toInt ∧ ic.toInt ≤ 700000) (hq2 : 0 ≤ lt.toInt ∧ lt.toInt ≤ 1400000) (hq3 : 7 ≤ jb.toInt ∧ jb.toInt ≤ 7) (hco : 0 ≤ co.toInt ∧ co.toInt ≤ 421000000) (hN : jb.toInt = ((N : Nat) : Int)) (hrg : joR jb.toInt aC aY aB aA) (hba : a0.1 = -1 ∨ 0 ≤ a0.1) (hla : la.toInt = a0.1) (hZ0 : 0 ≤ a0.1 → ∀ k : Nat, k < N → (vZ k).toInt = a0.2 k) (hR : ∀ k : Nat, k < 7 → (vR k).toInt = R k) (hc_aC : ct H0 xcs 7 aC) (hc_aY : ct H0 xls 7 aY) (hc_aB : ct H0 xin 7 aB) (hc_aA : ct H0 xac 7 aA) (hc_vP : ct H0 xpd 7 vP) (hc_vR : ct H0 xtr 7 vR) (hc_vZ : ct H0 xbe 7 vZ) (hgC : 0 ≤ nC ∧ nC ≤ 40) (hgS : 0 ≤ nS ∧ nS ≤ 60) : Met l yX5_tryOrders w_c_tryOrdersC7 ({ frames := 2, cells := 0, slots := 0, locals := 60 }) (va_Pc [.ref o0, .int 7, .int yr, .long co, .int ic, .int lt] (fun U => U.heap = H0 ∧ va_K (dC, dI) vwCl (tyl kA) U ∧ EVC adK adV (gA G H0.size) U U.heap)) (va_Qv (fun (u : Int32 × (Nat → Int32) × (Nat → Int32)) => match u with | (la1, vR1, vZ1) => (la1.toInt = (sx N 7 aC aY aB aA (pb vP) yr.toInt co.toInt ic.toInt lt.toInt R a0).1 ∧ (0 ≤ (sx N 7 aC aY aB aA (pb vP) yr.toInt co.toInt ic.toInt lt.toInt R a0).1 → ∀ k : Nat, k < N → (vZ1 k).toInt = (sx N 7 aC aY aB aA (pb vP) yr.toInt co.toInt ic.toInt lt.toInt R a0).2 k) ∧ ∀ k : Nat, k < 7 → (vR1 k).toInt = R k)) (fun (u : Int32 × (Nat → Int32) × (Nat → Int32)) (t : State) => match u with | (la1, vR1, vZ1) => gH (dC, dI) kA (SHc nC nS) G t.heap ∧ gF (dC, dI) SKc G ([(8, 16), (69, 0)] : List (Nat × Nat)) H0 t.heap ∧ el t.heap o0 (dI 8 16) = some (.int la1) ∧ ct t.heap xpd 7 vP ∧ ct t.heap xtr 7 vR1 ∧ ct t.heap xbe 7 vZ1) (gA G H0.size)) 0 0 (gA G H0.size) := by
  refine Met.ofW (cc := cX5_tryOrders) (maxL := 11) (ret := none) (by decide) rfl ?_
  intro p e s m args below meth c s₁ B hml hv
  obtain ⟨rfl, hH0, hK, hE⟩ := hv
  have hx := B.exec
  have hb := B.bytes
  have hr := B.returns
  have hts := atoms_spec (ws := w_c_tryOrdersC7) B.pre
  have hown : s.vm.findClass RX5 = some m.cls := findClass_of_methodNamed B.named
  have hlocks := B.notSynchronized
  subst hH0
  generalize hAe : gA G s.heap.size = A at hE ⊢
  have hA : ∀ q : Nat, s.heap.size ≤ q → A q := fun q h => by rw [← hAe]; exact Or.inr h
  have hG := gA_of hAe
  have hS : va_S A s.heap s.heap [] := va_S.rf
  have hF : gF (dC, dI) SKc G ([(8, 16), (69, 0)] : List (Nat × Nat)) s.heap s.heap := gF.rf
  have hl := lv_entry ([.ref o0, .int 7, .int yr, .long co, .int ic, .int lt]) (n := 11) (Nat.le_of_ble_eq_true rfl)
  rw [lg_entry_eq]
  generalize (lg_sl ([.ref o0, .int 7, .int yr, .long co, .int ic, .int lt]) ++ List.replicate (11 - (lg_sl ([.ref o0, .int 7, .int yr, .long co, .int ic, .int lt])).length) Slot.unset).toArray = ls at hl ⊢
  have hl : lv_has ls 11 [(0, .ref o0), (1, .int 7), (2, .int yr), (3, .long co), (5, .int ic), (6, .int lt)] := hl
  refine lv_aload_n hx hb dX5_tryOrders_0 rfl (lv_at hl 0 rfl) ?_
  refine tw_getM (v := .int la) hx hb hts bF2_X5 hown hK hT hr_o0 shc_8 rfl 16 (by decide) (ht_at2 hts 0 rfl) (fun _ h9 => h9) hm_la dX5_tryOrders_1 ?_
  refine lv_iconst (v := (-1)) hx hb dX5_tryOrders_4 (by decide) ?_
  have t1 : -2147483648 ≤ la.toInt ∧ la.toInt ≤ 2147483647 := ti_all la
  refine lv_icmp_eq (tgt := 18) hx hb dX5_tryOrders_5 (by decide) (fun c2 => ?_) (fun c2 => ?_)
  · have t3 : la.toInt = (-1) := ti_eq c2 rfl (by decide)
    refine lv_iload_n hx hb dX5_tryOrders_18 rfl (lv_at hl 1 rfl) ?_
    refine lv_aload_n hx hb dX5_tryOrders_19 rfl (lv_at hl 0 rfl) ?_
    refine tw_getM (v := .int jb) hx hb hts bF2_X5 hown hK hT hr_o0 shc_8 rfl 15 (by decide) (ht_at2 hts 1 rfl) (fun _ h9 => h9) hm_jb dX5_tryOrders_20 ?_
    refine lv_icmp_lt (tgt := 50) hx hb dX5_tryOrders_23 (by decide) (fun c4 => (by exfalso; have q9 : 7 < jb.toInt := ti_lt c4 (by decide) rfl; omega)) (fun c4 => ?_)
    have t5 : jb.toInt ≤ 7 := ti_nlt c4 (by decide) rfl
    refine lv_aload_n hx hb dX5_tryOrders_26 rfl (lv_at hl 0 rfl) ?_
    refine lv_iload hx hb dX5_tryOrders_27 (lv_at hl 5 rfl) ?_
    refine tw_put (v := .int lt) (ty := .int) hx hb hts bF2_X5 tyX5 tyX5_ok nmX5 hown hK hT hG hS hr_o0 shc_8 rfl 16 (by decide) (ht_at2 hts 0 rfl) (fun _ h9 => h9) rfl (by decide +kernel) rfl rfl (gl_at rfl (gi_all _)) dX5_tryOrders_29 (fun H locs hT oq m6 oj hS => ?_)
    have hF := hF.put hr_o0 skc_8 oq oj (by decide)
    have m7 := (oj 15 (by decide) (by decide)).trans hm_jb
    have m8 := (oj 5 (by decide) (by decide)).trans hm_xcs
    have m9 := (oj 6 (by decide) (by decide)).trans hm_xls
    have m10 := (oj 7 (by decide) (by decide)).trans hm_xin
    have m11 := (oj 8 (by decide) (by decide)).trans hm_xac
    have m12 := (oj 9 (by decide) (by decide)).trans hm_xpd
    have m13 := (oj 10 (by decide) (by decide)).trans hm_xtr
    have m14 := (oj 11 (by decide) (by decide)).trans hm_xbe
    have m15 := hc_aC.kept (oq _ (gne hr_xcs hr_o0 (by decide)))
    have m16 := hc_aY.kept (oq _ (gne hr_xls hr_o0 (by decide)))
    have m17 := hc_aB.kept (oq _ (gne hr_xin hr_o0 (by decide)))
    have m18 := hc_aA.kept (oq _ (gne hr_xac hr_o0 (by decide)))
    have m19 := hc_vP.kept (oq _ (gne hr_xpd hr_o0 (by decide)))
    have m20 := hc_vR.kept (oq _ (gne hr_xtr hr_o0 (by decide)))
    have m21 := hc_vZ.kept (oq _ (gne hr_xbe hr_o0 (by decide)))
    refine lv_aload_n hx hb dX5_tryOrders_32 rfl (lv_at hl 0 rfl) ?_
    refine tw_getM (v := .ref xtr) hx hb hts bF2_X5 hown hK hT hr_o0 shc_8 rfl 10 (by decide) (ht_at2 hts 2 rfl) (fun _ h9 => h9) m13 dX5_tryOrders_33 ?_
    refine lv_iconst (v := 0) hx hb dX5_tryOrders_36 (by decide) ?_
    refine lv_aload_n hx hb dX5_tryOrders_37 rfl (lv_at hl 0 rfl) ?_
    refine tw_getM (v := .ref xbe) hx hb hts bF2_X5 hown hK hT hr_o0 shc_8 rfl 11 (by decide) (ht_at2 hts 3 rfl) (fun _ h9 => h9) m14 dX5_tryOrders_38 ?_
    refine lv_iconst (v := 0) hx hb dX5_tryOrders_41 (by decide) ?_
    refine lv_aload_n hx hb dX5_tryOrders_42 rfl (lv_at hl 0 rfl) ?_
    refine tw_getM (v := .int jb) hx hb hts bF2_X5 hown hK hT hr_o0 shc_8 rfl 15 (by decide) (ht_at2 hts 1 rfl) (fun _ h9 => h9) m7 dX5_tryOrders_43 ?_
    refine tw_copyE (ty := .int) hx hb (hml.trans hl.1.symm) hown (ht_at2 hts 4 rfl) (ht_at2 hts 5 rfl) (ht_at2 hts 6 rfl) (ht_at2 hts 7 rfl) hK hT hG hS hr_xtr hr_xbe shc_68 shc_69 rfl rfl (by decide) (by decide) (fun h9 => by have q9 := ti_lt h9 rfl (show (0 : Int32).toInt = 0 from by decide); omega) (by have q9 := tn_of (show jb.toInt = jb.toInt from rfl) (by omega); have q8 : (0 : Int32).toNatClampNeg = 0 := (by decide); omega) (by have q9 := tn_of (show jb.toInt = jb.toInt from rfl) (by omega); have q8 : (0 : Int32).toNatClampNeg = 0 := (by decide); omega) (by decide) (by decide) (fun _ _ h9 => by obtain ⟨x9, e9, _⟩ := h9; exact ⟨x9, e9, rfl⟩) (fun _ _ _ h9 => by obtain ⟨x9, e9, a9, b9⟩ := h9; exact ⟨x9, e9, by omega, by omega⟩) (Nat.le_of_ble_eq_true rfl) (Nat.le_of_ble_eq_true rfl) dX5_tryOrders_46 (fun H locs hT oq ce22 hS => ?_)
    have hF := hF.ast hr_xbe skc_69 oq (by decide)
    have m23 := (el_kept (oq _ (gne hr_o0 hr_xbe (by decide)))).trans m7
    have m24 := (el_kept (oq _ (gne hr_o0 hr_xbe (by decide)))).trans m8
    have m25 := (el_kept (oq _ (gne hr_o0 hr_xbe (by decide)))).trans m9
    have m26 := (el_kept (oq _ (gne hr_o0 hr_xbe (by decide)))).trans m10
    have m27 := (el_kept (oq _ (gne hr_o0 hr_xbe (by decide)))).trans m11
    have m28 := (el_kept (oq _ (gne hr_o0 hr_xbe (by decide)))).trans m12
    have m29 := (el_kept (oq _ (gne hr_o0 hr_xbe (by decide)))).trans m13
    have m30 := (el_kept (oq _ (gne hr_o0 hr_xbe (by decide)))).trans m14
    have m31 := m15.kept (oq _ (gne hr_xcs hr_xbe (by decide)))
    have m32 := m16.kept (oq _ (gne hr_xls hr_xbe (by decide)))
    have m33 := m17.kept (oq _ (gne hr_xin hr_xbe (by decide)))
    have m34 := m18.kept (oq _ (gne hr_xac hr_xbe (by decide)))
    have m35 := m19.kept (oq _ (gne hr_xpd hr_xbe (by decide)))
    have m36 := m20.kept (oq _ (gne hr_xtr hr_xbe (by decide)))
    have m37 := (el_kept (oq _ (gne hr_o0 hr_xbe (by decide)))).trans m6
    obtain ⟨V38, m39, kV38⟩ := ct_of hT hr_xbe shc_69
    have cq40 : ∀ k : Nat, ((k : Nat) : Int) < jb.toInt → V38 k = vR k := fun k hk => Value.int.inj (Option.some.inj ((m39 k (by omega)).symm.trans ((ce22 k (by have q9 := tn_of (show jb.toInt = jb.toInt from rfl) (by omega); omega)).trans (m20 k (by omega)))))
    exact W.vret hx hb hr (fun t ht hW => ⟨⟨(lt, vR, V38), rfl, (by exact (by (try dsimp only); have e9 : N = 7 := (by omega); rw [sx_0 e9, if_neg (by omega)]; exact ⟨rfl, fun _ k hk => (congrArg Int32.toInt (cq40 k (by omega))).trans (hR k (by omega)), hR⟩)), by (try dsimp only); rw [ht]; exact ⟨hT, hF, m37, m35, m36, m39⟩⟩, hS.F ht⟩) hS.2.2 dX5_tryOrders_49
  · have t41 : la.toInt ≠ (-1) := ti_ne c2 rfl (by decide)
    refine lv_iload hx hb dX5_tryOrders_8 (lv_at hl 5 rfl) ?_
    refine lv_aload_n hx hb dX5_tryOrders_10 rfl (lv_at hl 0 rfl) ?_
    refine tw_getM (v := .int la) hx hb hts bF2_X5 hown hK hT hr_o0 shc_8 rfl 16 (by decide) (ht_at2 hts 0 rfl) (fun _ h9 => h9) hm_la dX5_tryOrders_11 ?_
    refine lv_icmp_lt (tgt := 18) hx hb dX5_tryOrders_14 (by decide) (fun c42 => ?_) (fun c42 => ?_)
    · have t43 : lt.toInt < la.toInt := ti_lt c42 rfl rfl
      refine lv_iload_n hx hb dX5_tryOrders_18 rfl (lv_at hl 1 rfl) ?_
      refine lv_aload_n hx hb dX5_tryOrders_19 rfl (lv_at hl 0 rfl) ?_
      refine tw_getM (v := .int jb) hx hb hts bF2_X5 hown hK hT hr_o0 shc_8 rfl 15 (by decide) (ht_at2 hts 1 rfl) (fun _ h9 => h9) hm_jb dX5_tryOrders_20 ?_
      refine lv_icmp_lt (tgt := 50) hx hb dX5_tryOrders_23 (by decide) (fun c44 => (by exfalso; have q9 : 7 < jb.toInt := ti_lt c44 (by decide) rfl; omega)) (fun c44 => ?_)
      have t45 : jb.toInt ≤ 7 := ti_nlt c44 (by decide) rfl
      refine lv_aload_n hx hb dX5_tryOrders_26 rfl (lv_at hl 0 rfl) ?_
      refine lv_iload hx hb dX5_tryOrders_27 (lv_at hl 5 rfl) ?_
      refine tw_put (v := .int lt) (ty := .int) hx hb hts bF2_X5 tyX5 tyX5_ok nmX5 hown hK hT hG hS hr_o0 shc_8 rfl 16 (by decide) (ht_at2 hts 0 rfl) (fun _ h9 => h9) rfl (by decide +kernel) rfl rfl (gl_at rfl (gi_all _)) dX5_tryOrders_29 (fun H locs hT oq m46 oj hS => ?_)
      have hF := hF.put hr_o0 skc_8 oq oj (by decide)
      have m47 := (oj 15 (by decide) (by decide)).trans hm_jb
      have m48 := (oj 5 (by decide) (by decide)).trans hm_xcs
      have m49 := (oj 6 (by decide) (by decide)).trans hm_xls
      have m50 := (oj 7 (by decide) (by decide)).trans hm_xin
      have m51 := (oj 8 (by decide) (by decide)).trans hm_xac
      have m52 := (oj 9 (by decide) (by decide)).trans hm_xpd
      have m53 := (oj 10 (by decide) (by decide)).trans hm_xtr
      have m54 := (oj 11 (by decide) (by decide)).trans hm_xbe
      have m55 := hc_aC.kept (oq _ (gne hr_xcs hr_o0 (by decide)))
      have m56 := hc_aY.kept (oq _ (gne hr_xls hr_o0 (by decide)))
      have m57 := hc_aB.kept (oq _ (gne hr_xin hr_o0 (by decide)))
      have m58 := hc_aA.kept (oq _ (gne hr_xac hr_o0 (by decide)))
      have m59 := hc_vP.kept (oq _ (gne hr_xpd hr_o0 (by decide)))
      have m60 := hc_vR.kept (oq _ (gne hr_xtr hr_o0 (by decide)))
      have m61 := hc_vZ.kept (oq _ (gne hr_xbe hr_o0 (by decide)))
      refine lv_aload_n hx hb dX5_tryOrders_32 rfl (lv_at hl 0 rfl) ?_
      refine tw_getM (v := .ref xtr) hx hb hts bF2_X5 hown hK hT hr_o0 shc_8 rfl 10 (by decide) (ht_at2 hts 2 rfl) (fun _ h9 => h9) m53 dX5_tryOrders_33 ?_
      refine lv_iconst (v := 0) hx hb dX5_tryOrders_36 (by decide) ?_
      refine lv_aload_n hx hb dX5_tryOrders_37 rfl (lv_at hl 0 rfl) ?_
      refine tw_getM (v := .ref xbe) hx hb hts bF2_X5 hown hK hT hr_o0 shc_8 rfl 11 (by decide) (ht_at2 hts 3 rfl) (fun _ h9 => h9) m54 dX5_tryOrders_38 ?_
      refine lv_iconst (v := 0) hx hb dX5_tryOrders_41 (by decide) ?_
      refine lv_aload_n hx hb dX5_tryOrders_42 rfl (lv_at hl 0 rfl) ?_
      refine tw_getM (v := .int jb) hx hb hts bF2_X5 hown hK hT hr_o0 shc_8 rfl 15 (by decide) (ht_at2 hts 1 rfl) (fun _ h9 => h9) m47 dX5_tryOrders_43 ?_
      refine tw_copyE (ty := .int) hx hb (hml.trans hl.1.symm) hown (ht_at2 hts 4 rfl) (ht_at2 hts 5 rfl) (ht_at2 hts 6 rfl) (ht_at2 hts 7 rfl) hK hT hG hS hr_xtr hr_xbe shc_68 shc_69 rfl rfl (by decide) (by decide) (fun h9 => by have q9 := ti_lt h9 rfl (show (0 : Int32).toInt = 0 from by decide); omega) (by have q9 := tn_of (show jb.toInt = jb.toInt from rfl) (by omega); have q8 : (0 : Int32).toNatClampNeg = 0 := (by decide); omega) (by have q9 := tn_of (show jb.toInt = jb.toInt from rfl) (by omega); have q8 : (0 : Int32).toNatClampNeg = 0 := (by decide); omega) (by decide) (by decide) (fun _ _ h9 => by obtain ⟨x9, e9, _⟩ := h9; exact ⟨x9, e9, rfl⟩) (fun _ _ _ h9 => by obtain ⟨x9, e9, a9, b9⟩ := h9; exact ⟨x9, e9, by omega, by omega⟩) (Nat.le_of_ble_eq_true rfl) (Nat.le_of_ble_eq_true rfl) dX5_tryOrders_46 (fun H locs hT oq ce62 hS => ?_)
      have hF := hF.ast hr_xbe skc_69 oq (by decide)
      have m63 := (el_kept (oq _ (gne hr_o0 hr_xbe (by decide)))).trans m47
      have m64 := (el_kept (oq _ (gne hr_o0 hr_xbe (by decide)))).trans m48
      have m65 := (el_kept (oq _ (gne hr_o0 hr_xbe (by decide)))).trans m49
      have m66 := (el_kept (oq _ (gne hr_o0 hr_xbe (by decide)))).trans m50
      have m67 := (el_kept (oq _ (gne hr_o0 hr_xbe (by decide)))).trans m51
      have m68 := (el_kept (oq _ (gne hr_o0 hr_xbe (by decide)))).trans m52
      have m69 := (el_kept (oq _ (gne hr_o0 hr_xbe (by decide)))).trans m53
      have m70 := (el_kept (oq _ (gne hr_o0 hr_xbe (by decide)))).trans m54
      have m71 := m55.kept (oq _ (gne hr_xcs hr_xbe (by decide)))
      have m72 := m56.kept (oq _ (gne hr_xls hr_xbe (by decide)))
      have m73 := m57.kept (oq _ (gne hr_xin hr_xbe (by decide)))
      have m74 := m58.kept (oq _ (gne hr_xac hr_xbe (by decide)))
      have m75 := m59.kept (oq _ (gne hr_xpd hr_xbe (by decide)))
      have m76 := m60.kept (oq _ (gne hr_xtr hr_xbe (by decide)))
      have m77 := (el_kept (oq _ (gne hr_o0 hr_xbe (by decide)))).trans m46
      obtain ⟨V78, m79, kV78⟩ := ct_of hT hr_xbe shc_69
      have cq80 : ∀ k : Nat, ((k : Nat) : Int) < jb.toInt → V78 k = vR k := fun k hk => Value.int.inj (Option.some.inj ((m79 k (by omega)).symm.trans ((ce62 k (by have q9 := tn_of (show jb.toInt = jb.toInt from rfl) (by omega); omega)).trans (m60 k (by omega)))))
      exact W.vret hx hb hr (fun t ht hW => ⟨⟨(lt, vR, V78), rfl, (by exact (by (try dsimp only); have e9 : N = 7 := (by omega); rw [sx_0 e9, if_neg (by omega)]; exact ⟨rfl, fun _ k hk => (congrArg Int32.toInt (cq80 k (by omega))).trans (hR k (by omega)), hR⟩)), by (try dsimp only); rw [ht]; exact ⟨hT, hF, m77, m75, m76, m79⟩⟩, hS.F ht⟩) hS.2.2 dX5_tryOrders_49
    · have t81 : la.toInt ≤ lt.toInt := ti_nlt c42 rfl rfl
      exact W.vret hx hb hr (fun t ht hW => ⟨⟨(la, vR, vZ), rfl, (by exact (by (try dsimp only); rw [sx_cut (fun j hj => by have := (hrg j (by omega)).2.1.1; omega) (fun j hj => (hrg j (by omega)).2.2.2.1) (by omega) ⟨by omega, by omega⟩]; exact ⟨by omega, hZ0, hR⟩)), by (try dsimp only); rw [ht]; exact ⟨hT, hF, hm_la, hc_vP, hc_vR, hc_vZ⟩⟩, hS.F ht⟩) hS.2.2 dX5_tryOrders_17
def w_c_tryOrdersC6 : List Cond := .code yX5_tryOrders cX5_tryOrders 11 none :: (HAppend.hAppend (α := List Cond) (β := List Cond) (γ := List Cond) [.fieldLink RX5 157 "SeaLand$Plans" "bestLate" "I", .fieldLink RX5 154 "SeaLand$Plans" "jobs" "I", .fieldLink RX5 41 "SeaLand$Plans" "placed" "[Z", .fieldLink RX5 29 "SeaLand$Plans" "costs" "[I", .code yX5_yearWithCost cX5_yearWithCost 5 (some .int), .methodLink RX5 164 yX5_yearWithCost, .static yX5_yearWithCost, .initialized RX5, .fieldLink RX5 32 "SeaLand$Plans" "lasts" "[I", .fieldLink RX5 45 "SeaLand$Plans" "trial" "[I", .fieldLink RX5 35 "SeaLand$Plans" "incomes" "[I", .fieldLink RX5 38 "SeaLand$Plans" "acres" "[I", .code yX5_tryOrders cX5_tryOrders 11 none, .fieldLink RX5 48 "SeaLand$Plans" "best" "[I", .methodLink RX5 100 arraycopyName, .native arraycopyName, .static arraycopyName, .initialized "java/lang/System", .methodLink RX5 160 yX5_tryOrders, .instanceMethod yX5_tryOrders, .selects RX5 yX5_tryOrders yX5_tryOrders] bs2)
set_option maxHeartbeats 4000000 in
set_option maxRecDepth 100000 in
theorem c_tryOrdersC6 (l : Launch) (dC : Nat → ClassId) (dI : Nat → Nat → Nat) (kA : Nat → ClassId) (adK adV : Nat → Nat) (G : gT) (H0 : Heap) (nC nS : Int) (o0 : Nat) (yr : Int32) (co : Int64) (ic : Int32) (lt : Int32) (jb : Int32) (la : Int32) (xcs : Nat) (xls : Nat) (xin : Nat) (xac : Nat) (xpd : Nat) (xtr : Nat) (xbe : Nat) (aC : Nat → Int32) (aY : Nat → Int32) (aB : Nat → Int32) (aA : Nat → Int32) (vP : Nat → Int32) (vR : Nat → Int32) (vZ : Nat → Int32) (N : Nat) (R : Nat → Int) (a0 : oA) (hT : gH (dC, dI) kA (SHc nC nS) G H0) (hr_o0 : G o0 = some 8) (hm_jb : el H0 o0 (dI 8 15) = some (.int jb)) (hm_la : el H0 o0 (dI 8 16) = some (.int la)) (hm_xcs : el H0 o0 (dI 8 5) = some (.ref xcs)) (hr_xcs : G xcs = some 63) (hm_xls : el H0 o0 (dI 8 6) = some (.ref xls)) (hr_xls : G xls = some 64) (hm_xin : el H0 o0 (dI 8 7) = some (.ref xin)) (hr_xin : G xin = some 65) (hm_xac : el H0 o0 (dI 8 8) = some (.ref xac)) (hr_xac : G xac = some 66) (hm_xpd : el H0 o0 (dI 8 9) = some (.ref xpd)) (hr_xpd : G xpd = some 67) (hm_xtr : el H0 o0 (dI 8 10) = some (.ref xtr)) (hr_xtr : G xtr = some 68) (hm_xbe : el H0 o0 (dI 8 11) = some (.ref xbe)) (hr_xbe : G xbe = some 69) (hq0 : 0 ≤ yr.toInt ∧ yr.toInt ≤ 200) (hq1 : 0 ≤ ic.toInt ∧ ic.toInt ≤ 600000) (hq2 : 0 ≤ lt.toInt ∧ lt.toInt ≤ 1200000) (hq3 : 6 ≤ jb.toInt ∧ jb.toInt ≤ 7) (hco : 0 ≤ co.toInt ∧ co.toInt ≤ 301000000) (hN : jb.toInt = ((N : Nat) : Int)) (hrg : joR jb.toInt aC aY aB aA) (hba : a0.1 = -1 ∨ 0 ≤ a0.1) (hla : la.toInt = a0.1) (hZ0 : 0 ≤ a0.1 → ∀ k : Nat, k < N → (vZ k).toInt = a0.2 k) (hR : ∀ k : Nat, k < 6 → (vR k).toInt = R k) (hc_aC : ct H0 xcs 7 aC) (hc_aY : ct H0 xls 7 aY) (hc_aB : ct H0 xin 7 aB) (hc_aA : ct H0 xac 7 aA) (hc_vP : ct H0 xpd 7 vP) (hc_vR : ct H0 xtr 7 vR) (hc_vZ : ct H0 xbe 7 vZ) (hgC : 0 ≤ nC ∧ nC ≤ 40) (hgS : 0 ≤ nS ∧ nS ≤ 60) : Met l yX5_tryOrders w_c_tryOrdersC6 ({ frames := 3, cells := 0, slots := 0, locals := 90 }) (va_Pc [.ref o0, .int 6, .int yr, .long co, .int ic, .int lt] (fun U => U.heap = H0 ∧ va_K (dC, dI) vwCl (tyl kA) U ∧ EVC adK adV (gA G H0.size) U U.heap)) (va_Qv (fun (u : Int32 × (Nat → Int32) × (Nat → Int32)) => match u with | (la1, vR1, vZ1) => (la1.toInt = (sx N 6 aC aY aB aA (pb vP) yr.toInt co.toInt ic.toInt lt.toInt R a0).1 ∧ (0 ≤ (sx N 6 aC aY aB aA (pb vP) yr.toInt co.toInt ic.toInt lt.toInt R a0).1 → ∀ k : Nat, k < N → (vZ1 k).toInt = (sx N 6 aC aY aB aA (pb vP) yr.toInt co.toInt ic.toInt lt.toInt R a0).2 k) ∧ ∀ k : Nat, k < 6 → (vR1 k).toInt = R k)) (fun (u : Int32 × (Nat → Int32) × (Nat → Int32)) (t : State) => match u with | (la1, vR1, vZ1) => gH (dC, dI) kA (SHc nC nS) G t.heap ∧ gF (dC, dI) SKc G ([(8, 16), (67, 0), (68, 0), (69, 0)] : List (Nat × Nat)) H0 t.heap ∧ el t.heap o0 (dI 8 16) = some (.int la1) ∧ ct t.heap xpd 7 vP ∧ ct t.heap xtr 7 vR1 ∧ ct t.heap xbe 7 vZ1) (gA G H0.size)) 0 0 (gA G H0.size) := by
  refine Met.ofW (cc := cX5_tryOrders) (maxL := 11) (ret := none) (by decide) rfl ?_
  intro p e s m args below meth c s₁ B hml hv
  obtain ⟨rfl, hH0, hK, hE⟩ := hv
  have hx := B.exec
  have hb := B.bytes
  have hr := B.returns
  have hts := atoms_spec (ws := w_c_tryOrdersC6) B.pre
  have hown : s.vm.findClass RX5 = some m.cls := findClass_of_methodNamed B.named
  have hlocks := B.notSynchronized
  subst hH0
  generalize hAe : gA G s.heap.size = A at hE ⊢
  have hA : ∀ q : Nat, s.heap.size ≤ q → A q := fun q h => by rw [← hAe]; exact Or.inr h
  have hG := gA_of hAe
  have hS : va_S A s.heap s.heap [] := va_S.rf
  have hF : gF (dC, dI) SKc G ([(8, 16), (67, 0), (68, 0), (69, 0)] : List (Nat × Nat)) s.heap s.heap := gF.rf
  have hl := lv_entry ([.ref o0, .int 6, .int yr, .long co, .int ic, .int lt]) (n := 11) (Nat.le_of_ble_eq_true rfl)
  rw [lg_entry_eq]
  generalize (lg_sl ([.ref o0, .int 6, .int yr, .long co, .int ic, .int lt]) ++ List.replicate (11 - (lg_sl ([.ref o0, .int 6, .int yr, .long co, .int ic, .int lt])).length) Slot.unset).toArray = ls at hl ⊢
  have hl : lv_has ls 11 [(0, .ref o0), (1, .int 6), (2, .int yr), (3, .long co), (5, .int ic), (6, .int lt)] := hl
  refine lv_aload_n hx hb dX5_tryOrders_0 rfl (lv_at hl 0 rfl) ?_
  refine tw_getM (v := .int la) hx hb hts bF2_X5 hown hK hT hr_o0 shc_8 rfl 16 (by decide) (ht_at2 hts 0 rfl) (fun _ h9 => h9) hm_la dX5_tryOrders_1 ?_
  refine lv_iconst (v := (-1)) hx hb dX5_tryOrders_4 (by decide) ?_
  have t1 : -2147483648 ≤ la.toInt ∧ la.toInt ≤ 2147483647 := ti_all la
  refine lv_icmp_eq (tgt := 18) hx hb dX5_tryOrders_5 (by decide) (fun c2 => ?_) (fun c2 => ?_)
  · have t3 : la.toInt = (-1) := ti_eq c2 rfl (by decide)
    refine lv_iload_n hx hb dX5_tryOrders_18 rfl (lv_at hl 1 rfl) ?_
    refine lv_aload_n hx hb dX5_tryOrders_19 rfl (lv_at hl 0 rfl) ?_
    refine tw_getM (v := .int jb) hx hb hts bF2_X5 hown hK hT hr_o0 shc_8 rfl 15 (by decide) (ht_at2 hts 1 rfl) (fun _ h9 => h9) hm_jb dX5_tryOrders_20 ?_
    refine lv_icmp_lt (tgt := 50) hx hb dX5_tryOrders_23 (by decide) (fun c4 => ?_) (fun c4 => ?_)
    · have t5 : 6 < jb.toInt := ti_lt c4 (by decide) rfl
      refine lv_iconst (v := 0) hx hb dX5_tryOrders_50 (by decide) ?_
      refine lv_istore (lv' := [(7, .int 0), (0, .ref o0), (1, .int 6), (2, .int yr), (3, .long co), (5, .int ic), (6, .int lt)]) hx hb dX5_tryOrders_51 hl (by decide) rfl (fun ls hl => ?_)
      have key193 : ∀ (n193 i6 : Nat), i6 + n193 = 7 → 0 ≤ i6 → ∀ (V12 : Nat → Int32), ∀ (V14 : Nat → Int32), ∀ (z17 : Int32), ((z17.toInt = (slO N 6 aC aY aB aA (pb vP) yr.toInt co.toInt ic.toInt lt.toInt R a0 i6).1) ∧ (0 ≤ (slO N 6 aC aY aB aA (pb vP) yr.toInt co.toInt ic.toInt lt.toInt R a0 i6).1 → ∀ k : Nat, k < N → (V14 k).toInt = (slO N 6 aC aY aB aA (pb vP) yr.toInt co.toInt ic.toInt lt.toInt R a0 i6).2 k) ∧ (∀ k : Nat, k < 6 → (V12 k).toInt = R k) ∧ (((i6 : Nat) : Int) ≤ jb.toInt)) → ∀ (H : Heap) (locs : List Loc), gH (dC, dI) kA (SHc nC nS) G H → gF (dC, dI) SKc G ([(8, 16), (67, 0), (68, 0), (69, 0)] : List (Nat × Nat)) s.heap H → va_S A s.heap H locs → ct H xcs 7 aC → ct H xls 7 aY → ct H xin 7 aB → ct H xac 7 aA → ct H xpd 7 vP → ct H xtr 7 V12 → ct H xbe 7 V14 → el H o0 (dI 8 15) = some (.int jb) → el H o0 (dI 8 16) = some (.int z17) → el H o0 (dI 8 5) = some (.ref xcs) → el H o0 (dI 8 6) = some (.ref xls) → el H o0 (dI 8 7) = some (.ref xin) → el H o0 (dI 8 8) = some (.ref xac) → el H o0 (dI 8 9) = some (.ref xpd) → el H o0 (dI 8 10) = some (.ref xtr) → el H o0 (dI 8 11) = some (.ref xbe) → ∀ ls : Array Slot, lv_has ls 11 [(7, .int (nI i6)), (0, .ref o0), (1, .int 6), (2, .int yr), (3, .long co), (5, .int ic), (6, .int lt)] → W p l e (headSpec w_c_tryOrdersC6 ({ frames := 3, cells := 0, slots := 0, locals := 90 })).room s m #[.ref o0, .int 6, .int yr, .long co, .int ic, .int lt] below meth c H locs 0 0 (MQ below (va_Qv (fun (u : Int32 × (Nat → Int32) × (Nat → Int32)) => match u with | (la1, vR1, vZ1) => (la1.toInt = (sx N 6 aC aY aB aA (pb vP) yr.toInt co.toInt ic.toInt lt.toInt R a0).1 ∧ (0 ≤ (sx N 6 aC aY aB aA (pb vP) yr.toInt co.toInt ic.toInt lt.toInt R a0).1 → ∀ k : Nat, k < N → (vZ1 k).toInt = (sx N 6 aC aY aB aA (pb vP) yr.toInt co.toInt ic.toInt lt.toInt R a0).2 k) ∧ ∀ k : Nat, k < 6 → (vR1 k).toInt = R k)) (fun (u : Int32 × (Nat → Int32) × (Nat → Int32)) (t : State) => match u with | (la1, vR1, vZ1) => gH (dC, dI) kA (SHc nC nS) G t.heap ∧ gF (dC, dI) SKc G ([(8, 16), (67, 0), (68, 0), (69, 0)] : List (Nat × Nat)) s.heap t.heap ∧ el t.heap o0 (dI 8 16) = some (.int la1) ∧ ct t.heap xpd 7 vP ∧ ct t.heap xtr 7 vR1 ∧ ct t.heap xbe 7 vZ1) A) #[.ref o0, .int 6, .int yr, .long co, .int ic, .int lt] s 0 0 A) (F0 m 53 ls []) := by
        intro n193
        induction n193 with
        | zero =>
          intro i6 hn193 hlo194 V12 V14 z17 ⟨hj26, hj27, hj28, hj29⟩ H locs hT hF hS m7 m8 m9 m10 m11 m13 m15 m16 m18 m19 m20 m21 m22 m23 m24 m25 ls hl
          obtain rfl : 7 = i6 := by omega
          refine lv_iload hx hb dX5_tryOrders_53 (lv_at hl 0 rfl) ?_
          refine lv_aload_n hx hb dX5_tryOrders_55 rfl (lv_at hl 1 rfl) ?_
          refine tw_getM (v := .int jb) hx hb hts bF2_X5 hown hK hT hr_o0 shc_8 rfl 15 (by decide) (ht_at2 hts 1 rfl) (fun _ h9 => h9) m16 dX5_tryOrders_56 ?_
          refine lv_icmp_ge (tgt := 200) hx hb dX5_tryOrders_59 (by decide) (fun c195 => ?_) (fun c195 => (by exfalso; have q9 : ((7 : Nat) : Int) < jb.toInt := ti_nle c195 rfl (nI_toInt (by omega)); omega))
          have t196 : jb.toInt ≤ ((7 : Nat) : Int) := ti_le c195 rfl (nI_toInt (by omega))
          exact W.vret hx hb hr (fun t ht hW => ⟨⟨(z17, V12, V14), rfl, (by exact (by (try dsimp only); have e9 : N = 7 := (by omega); rw [sx_s (by omega)]; subst e9; exact ⟨hj26, hj27, hj28⟩)), by (try dsimp only); rw [ht]; exact ⟨hT, hF, m18, m11, m13, m15⟩⟩, hS.F ht⟩) hS.2.2 dX5_tryOrders_200
        | succ n193 ih193 =>
          intro i6 hn193 hlo194 V12 V14 z17 ⟨hj26, hj27, hj28, hj29⟩ H locs hT hF hS m7 m8 m9 m10 m11 m13 m15 m16 m18 m19 m20 m21 m22 m23 m24 m25 ls hl
          have hlt196 : i6 < 7 := by omega
          refine lv_iload hx hb dX5_tryOrders_53 (lv_at hl 0 rfl) ?_
          refine lv_aload_n hx hb dX5_tryOrders_55 rfl (lv_at hl 1 rfl) ?_
          refine tw_getM (v := .int jb) hx hb hts bF2_X5 hown hK hT hr_o0 shc_8 rfl 15 (by decide) (ht_at2 hts 1 rfl) (fun _ h9 => h9) m16 dX5_tryOrders_56 ?_
          refine lv_icmp_ge (tgt := 200) hx hb dX5_tryOrders_59 (by decide) (fun c197 => (by exfalso; have q9 : jb.toInt ≤ ((i6 : Nat) : Int) := ti_le c197 rfl (nI_toInt (by omega)); omega)) (fun c197 => ?_)
          have t198 : ((i6 : Nat) : Int) < jb.toInt := ti_nle c197 rfl (nI_toInt (by omega))
          refine lv_aload_n hx hb dX5_tryOrders_62 rfl (lv_at hl 1 rfl) ?_
          refine tw_getM (v := .ref xpd) hx hb hts bF2_X5 hown hK hT hr_o0 shc_8 rfl 9 (by decide) (ht_at2 hts 2 rfl) (fun _ h9 => h9) m23 dX5_tryOrders_63 ?_
          refine lv_iload hx hb dX5_tryOrders_66 (lv_at hl 0 rfl) ?_
          refine tw_zald (i := (nI i6)) hx hb hK hT hr_xpd shc_67 rfl (vp_in_nI (by omega) (by decide)) dX5_tryOrders_68 (fun v9 m199 h9 => ?_)
          obtain ⟨x200, rfl, gx200, kx200⟩ := h9
          have cx200 := m11.at m199 (by have q9 := tn_of (show (nI i6).toInt = ((i6 : Nat) : Int) from (nI_toInt (by omega))) (by omega); omega)
          refine lv_if_eq (tgt := 76) hx hb dX5_tryOrders_69 (by decide) (fun c201 => ?_) (fun c201 => ?_)
          · have t202 : x200.toInt = 0 := ti_eq c201 rfl (by decide)
            refine lv_iload_n hx hb dX5_tryOrders_76 rfl (lv_at hl 3 rfl) ?_
            refine lv_lload_n hx hb dX5_tryOrders_77 rfl (lv_at hl 4 rfl) ?_
            refine lv_iload hx hb dX5_tryOrders_78 (lv_at hl 5 rfl) ?_
            refine lv_aload_n hx hb dX5_tryOrders_80 rfl (lv_at hl 1 rfl) ?_
            refine tw_getM (v := .ref xcs) hx hb hts bF2_X5 hown hK hT hr_o0 shc_8 rfl 5 (by decide) (ht_at2 hts 3 rfl) (fun _ h9 => h9) m19 dX5_tryOrders_81 ?_
            refine lv_iload hx hb dX5_tryOrders_84 (lv_at hl 0 rfl) ?_
            refine tw_iald (i := (nI i6)) hx hb hK hT hr_xcs shc_63 rfl (vp_in_nI (by omega) (by decide)) dX5_tryOrders_86 (fun v9 m203 h9 => ?_)
            obtain ⟨x204, rfl, gx204, kx204⟩ := h9
            have cx204 := m7.at m203 (by have q9 := tn_of (show (nI i6).toInt = ((i6 : Nat) : Int) from (nI_toInt (by omega))) (by omega); omega)
            have t205 : x204.toInt = (aC i6).toInt := congrArg Int32.toInt (cx204.trans (by rw [tn_nI (by omega)]))
            have t206 : 0 ≤ (aC i6).toInt ∧ (aC i6).toInt ≤ 1000000 := (hrg i6 (by omega)).1
            have hFc := gA_free hG hA hS
            refine va_calli (va_runS (As := [.int yr, .long co, .int ic, .int x204]) (rest := []) ⟨hx, hb, hml, hown, hts⟩ (c_yearC l dC dI kA adK adV G H nC nS yr co ic x204 hT (by have q8 := ti_all yr; omega) (by have q8 := ti_all ic; omega) (by have q8 := ti_all x204; omega) (by omega) (by omega) (by omega)) (va_cwS 4 hts (goodIn_app (goodIn_r _ [6, 7, 8] rfl (by decide +kernel)) (goodIn_ca (goodIn_r _ [5] rfl (by decide +kernel)) (bs2_in _ _))) rfl rfl rfl (by decide +kernel) ⟨(Nat.le_of_ble_eq_true rfl), (Nat.le_of_ble_eq_true rfl)⟩) ⟨fun a U g mk q => by obtain ⟨q0, q1, qK, qE⟩ := q; exact ⟨q0, q1, va_K.moved (u := U) (U := U.calling g mk a) (Vm.Alike.refl U.vm) qK, EVC.blind g mk a qE⟩, fun U hU hW => ⟨rfl, hU, va_K.moved hW.alike hK, hE.call hS hFc hU hW⟩⟩ rfl rfl hl.1 rfl (lv_room (Nat.le_of_ble_eq_true rfl)) dX5_tryOrders_87 ⟨(Nat.le_of_ble_eq_true rfl), (Nat.le_of_ble_eq_true rfl)⟩) hS (fun q _ h => hFc q h) hFc (fun r207 u t H locs ht hvm hw208 hB _ _ hS => ?_)
            obtain ⟨hT, hF1⟩ := hB
            rw [ht] at hT hF1
            have m209 := m7.kept (hF1.arr hr_xcs skc_63 (by decide))
            have m210 := m8.kept (hF1.arr hr_xls skc_64 (by decide))
            have m211 := m9.kept (hF1.arr hr_xin skc_65 (by decide))
            have m212 := m10.kept (hF1.arr hr_xac skc_66 (by decide))
            have m213 := m11.kept (hF1.arr hr_xpd skc_67 (by decide))
            have m214 := m13.kept (hF1.arr hr_xtr skc_68 (by decide))
            have m215 := m15.kept (hF1.arr hr_xbe skc_69 (by decide))
            have m216 := (hF1.fld hr_o0 skc_8 (k := 15) (by decide) (by decide)).trans m16
            have m217 := (hF1.fld hr_o0 skc_8 (k := 16) (by decide) (by decide)).trans m18
            have m218 := (hF1.fld hr_o0 skc_8 (k := 5) (by decide) (by decide)).trans m19
            have m219 := (hF1.fld hr_o0 skc_8 (k := 6) (by decide) (by decide)).trans m20
            have m220 := (hF1.fld hr_o0 skc_8 (k := 7) (by decide) (by decide)).trans m21
            have m221 := (hF1.fld hr_o0 skc_8 (k := 8) (by decide) (by decide)).trans m22
            have m222 := (hF1.fld hr_o0 skc_8 (k := 9) (by decide) (by decide)).trans m23
            have m223 := (hF1.fld hr_o0 skc_8 (k := 10) (by decide) (by decide)).trans m24
            have m224 := (hF1.fld hr_o0 skc_8 (k := 11) (by decide) (by decide)).trans m25
            have m225 := (el_kept (hF1.arr hr_xpd skc_67 (by decide))).trans m199
            have m226 := (el_kept (hF1.arr hr_xcs skc_63 (by decide))).trans m203
            have hF := hF.more hF1 (by decide)
            try dsimp only at hw208
            obtain ⟨h227, hf228⟩ := hw208
            have yw9 : yw yr.toInt co.toInt ic.toInt (aC i6).toInt r207.toInt := by rw [show (aC i6).toInt = x204.toInt from by omega]; exact hf228
            refine lv_aload_n hx hb dX5_tryOrders_90 rfl (lv_at hl 1 rfl) ?_
            refine tw_getM (v := .ref xls) hx hb hts bF2_X5 hown hK hT hr_o0 shc_8 rfl 6 (by decide) (ht_at2 hts 8 rfl) (fun _ h9 => h9) m219 dX5_tryOrders_91 ?_
            refine lv_iload hx hb dX5_tryOrders_94 (lv_at hl 0 rfl) ?_
            refine tw_iald (i := (nI i6)) hx hb hK hT hr_xls shc_64 rfl (vp_in_nI (by omega) (by decide)) dX5_tryOrders_96 (fun v9 m229 h9 => ?_)
            obtain ⟨x230, rfl, gx230, kx230⟩ := h9
            have cx230 := m210.at m229 (by have q9 := tn_of (show (nI i6).toInt = ((i6 : Nat) : Int) from (nI_toInt (by omega))) (by omega); omega)
            have t231 : x230.toInt = (aY i6).toInt := congrArg Int32.toInt (cx230.trans (by rw [tn_nI (by omega)]))
            have t232 : 1 ≤ (aY i6).toInt ∧ (aY i6).toInt ≤ 20 := (hrg i6 (by omega)).2.1
            refine lv_iadd hx hb dX5_tryOrders_97 ?_
            refine lv_topi (fun x233 ex233 => ?_)
            have t234 : x233.toInt = r207.toInt + x230.toInt := ti_add ex233 rfl rfl (by omega) (by omega)
            refine lv_istore (lv' := [(8, .int x233), (7, .int (nI i6)), (0, .ref o0), (1, .int 6), (2, .int yr), (3, .long co), (5, .int ic), (6, .int lt)]) hx hb dX5_tryOrders_98 hl (by decide) rfl (fun ls hl => ?_)
            refine lv_iload hx hb dX5_tryOrders_100 (lv_at hl 0 rfl) ?_
            refine lv_iconst (v := (-1)) hx hb dX5_tryOrders_102 (by decide) ?_
            refine lv_icmp_eq (tgt := 194) hx hb dX5_tryOrders_103 (by decide) (fun c235 => (by exfalso; have q9 : x233.toInt = (-1) := ti_eq c235 rfl (by decide); omega)) (fun c235 => ?_)
            have t236 : x233.toInt ≠ (-1) := ti_ne c235 rfl (by decide)
            refine lv_iload hx hb dX5_tryOrders_106 (lv_at hl 0 rfl) ?_
            refine lv_sipush (v := 200) hx hb dX5_tryOrders_108 (by decide) ?_
            refine lv_icmp_gt (tgt := 194) hx hb dX5_tryOrders_111 (by decide) (fun c237 => ?_) (fun c237 => ?_)
            · have t238 : 200 < x233.toInt := ti_lt c237 (by decide) rfl
              refine lv_iinc (v := nI (i6 + 1)) (lv' := [(7, .int (nI (i6 + 1))), (8, .int x233), (0, .ref o0), (1, .int 6), (2, .int yr), (3, .long co), (5, .int ic), (6, .int lt)]) hx hb dX5_tryOrders_194 hl (k := 1) rfl (nI_add i6 1) (by decide) rfl (fun ls hl => ?_)
              refine lv_goto (tgt := 53) hx hb dX5_tryOrders_197 (by decide) ?_
              have bk9 : z17.toInt = (slO N 6 aC aY aB aA (pb vP) yr.toInt co.toInt ic.toInt lt.toInt R a0 (i6 + 1)).1 ∧ (0 ≤ (slO N 6 aC aY aB aA (pb vP) yr.toInt co.toInt ic.toInt lt.toInt R a0 (i6 + 1)).1 → ∀ k : Nat, k < N → (V14 k).toInt = (slO N 6 aC aY aB aA (pb vP) yr.toInt co.toInt ic.toInt lt.toInt R a0 (i6 + 1)).2 k) ∧ ∀ k : Nat, k < 6 → (V12 k).toInt = R k := by rw [sl_n (yw_none yw9 (by omega) (by omega))]; exact ⟨hj26, hj27, hj28⟩
              exact ih193 (i6 + 1) (by omega) (by omega) V12 V14 z17 ⟨bk9.1, bk9.2.1, bk9.2.2, (by omega)⟩ _ _ hT hF hS m209 m210 m211 m212 (m213.ext (fun _ _ => rfl)) m214 m215 m216 m217 m218 m219 m220 m221 m222 m223 m224 ls (lv_sub hl [0, 2, 3, 4, 5, 6, 7] rfl)
            · have t239 : x233.toInt ≤ 200 := ti_nlt c237 (by decide) rfl
              refine lv_lload_n hx hb dX5_tryOrders_114 rfl (lv_at hl 5 rfl) ?_
              refine lv_iload hx hb dX5_tryOrders_115 (lv_at hl 6 rfl) ?_
              refine lv_i2l (v := ic.toInt64) hx hb dX5_tryOrders_117 rfl ?_
              refine lv_iload hx hb dX5_tryOrders_118 (lv_at hl 0 rfl) ?_
              refine lv_iload_n hx hb dX5_tryOrders_120 rfl (lv_at hl 4 rfl) ?_
              refine lv_isub hx hb dX5_tryOrders_121 ?_
              refine lv_topi (fun x240 ex240 => ?_)
              have t241 : x240.toInt = x233.toInt - yr.toInt := ti_sub ex240 rfl rfl (by omega) (by omega)
              refine lv_i2l (v := x240.toInt64) hx hb dX5_tryOrders_122 rfl ?_
              refine lv_lmul hx hb dX5_tryOrders_123 ?_
              refine lv_topl (fun y242 ey242 => ?_)
              have t243 : y242.toInt = ic.toInt * x240.toInt ∧ -(600000 * 200) ≤ y242.toInt ∧ y242.toInt ≤ 600000 * 200 := tl_m ey242 ((Int32.toInt_toInt64 _).trans rfl) ((Int32.toInt_toInt64 _).trans rfl) (A := 600000) (B := 200) (by omega) (by omega) (by omega) (by omega) (by decide)
              have t244 : y242.toInt = ic.toInt * (x233.toInt - yr.toInt) := (by rw [show x233.toInt - yr.toInt = x240.toInt from by omega]; omega)
              refine lv_ladd hx hb dX5_tryOrders_124 ?_
              refine lv_topl (fun y245 ey245 => ?_)
              have t246 : y245.toInt = co.toInt + y242.toInt := tl_a ey245 rfl rfl (by omega) (by omega)
              refine lv_aload_n hx hb dX5_tryOrders_125 rfl (lv_at hl 2 rfl) ?_
              refine tw_getM (v := .ref xcs) hx hb hts bF2_X5 hown hK hT hr_o0 shc_8 rfl 5 (by decide) (ht_at2 hts 3 rfl) (fun _ h9 => h9) m218 dX5_tryOrders_126 ?_
              refine lv_iload hx hb dX5_tryOrders_129 (lv_at hl 1 rfl) ?_
              refine tw_iald (i := (nI i6)) hx hb hK hT hr_xcs shc_63 rfl (vp_in_nI (by omega) (by decide)) dX5_tryOrders_131 (fun v9 m247 h9 => ?_)
              obtain ⟨x248, rfl, gx248, kx248⟩ := h9
              have cx248 := m209.at m247 (by have q9 := tn_of (show (nI i6).toInt = ((i6 : Nat) : Int) from (nI_toInt (by omega))) (by omega); omega)
              obtain rfl : x204 = x248 := (el_same m247 m226 rfl).symm
              refine lv_i2l (v := x204.toInt64) hx hb dX5_tryOrders_132 rfl ?_
              refine lv_lsub hx hb dX5_tryOrders_133 ?_
              refine lv_topl (fun y249 ey249 => ?_)
              have t250 : y249.toInt = y245.toInt - x204.toInt := tl_s ey249 rfl ((Int32.toInt_toInt64 _).trans rfl) (by omega) (by omega)
              have dn9 := (yw_some (last := (aY i6).toInt) (d := x233.toInt) yw9 (by omega) (by omega) (by omega))
              have dc9 := dn_cash dn9 (by omega) (by omega)
              refine lv_lstore (lv' := [(9, .long y249), (8, .int x233), (7, .int (nI i6)), (0, .ref o0), (1, .int 6), (2, .int yr), (3, .long co), (5, .int ic), (6, .int lt)]) hx hb dX5_tryOrders_134 hl (by decide) rfl (fun ls hl => ?_)
              refine lv_aload_n hx hb dX5_tryOrders_136 rfl (lv_at hl 3 rfl) ?_
              refine tw_getM (v := .ref xpd) hx hb hts bF2_X5 hown hK hT hr_o0 shc_8 rfl 9 (by decide) (ht_at2 hts 2 rfl) (fun _ h9 => h9) m222 dX5_tryOrders_137 ?_
              refine lv_iload hx hb dX5_tryOrders_140 (lv_at hl 2 rfl) ?_
              refine lv_iconst (v := 1) hx hb dX5_tryOrders_142 (by decide) ?_
              refine tw_zast (i := (nI i6)) (x := 1) hx hb hK hT hG hS hr_xpd shc_67 rfl (vp_in_nI (by omega) (by decide)) (gi_z (rg_t (a := 1) (by decide) (by omega) (by omega)) (by decide) (by decide)) dX5_tryOrders_143 (fun H locs hT oq m251 oi hS => ?_)
              have hF := hF.ast hr_xpd skc_67 oq (by decide)
              have m252 := m209.kept (oq _ (gne hr_xcs hr_xpd (by decide)))
              have m253 := m210.kept (oq _ (gne hr_xls hr_xpd (by decide)))
              have m254 := m211.kept (oq _ (gne hr_xin hr_xpd (by decide)))
              have m255 := m212.kept (oq _ (gne hr_xac hr_xpd (by decide)))
              have m256 := m213.put (show el H xpd _ = some (.int 1) from m251) oi
              have m257 := m214.kept (oq _ (gne hr_xtr hr_xpd (by decide)))
              have m258 := m215.kept (oq _ (gne hr_xbe hr_xpd (by decide)))
              have m259 := (el_kept (oq _ (gne hr_o0 hr_xpd (by decide)))).trans m216
              have m260 := (el_kept (oq _ (gne hr_o0 hr_xpd (by decide)))).trans m217
              have m261 := (el_kept (oq _ (gne hr_o0 hr_xpd (by decide)))).trans m218
              have m262 := (el_kept (oq _ (gne hr_o0 hr_xpd (by decide)))).trans m219
              have m263 := (el_kept (oq _ (gne hr_o0 hr_xpd (by decide)))).trans m220
              have m264 := (el_kept (oq _ (gne hr_o0 hr_xpd (by decide)))).trans m221
              have m265 := (el_kept (oq _ (gne hr_o0 hr_xpd (by decide)))).trans m222
              have m266 := (el_kept (oq _ (gne hr_o0 hr_xpd (by decide)))).trans m223
              have m267 := (el_kept (oq _ (gne hr_o0 hr_xpd (by decide)))).trans m224
              have m268 := (el_kept (oq _ (gne hr_xcs hr_xpd (by decide)))).trans m226
              have m269 := (el_kept (oq _ (gne hr_xls hr_xpd (by decide)))).trans m229
              refine lv_aload_n hx hb dX5_tryOrders_144 rfl (lv_at hl 3 rfl) ?_
              refine tw_getM (v := .ref xtr) hx hb hts bF2_X5 hown hK hT hr_o0 shc_8 rfl 10 (by decide) (ht_at2 hts 9 rfl) (fun _ h9 => h9) m266 dX5_tryOrders_145 ?_
              refine lv_iload_n hx hb dX5_tryOrders_148 rfl (lv_at hl 4 rfl) ?_
              refine lv_iload hx hb dX5_tryOrders_149 (lv_at hl 2 rfl) ?_
              refine tw_iast (i := 6) (x := (nI i6)) hx hb hK hT hG hS hr_xtr shc_68 rfl (by unfold vp_in; decide) (gi_of (show (nI i6).toInt = ((i6 : Nat) : Int) from (nI_toInt (by omega))) (by omega) (by omega)) dX5_tryOrders_151 (fun H locs hT oq m270 oi hS => ?_)
              have hF := hF.ast hr_xtr skc_68 oq (by decide)
              have m271 := m252.kept (oq _ (gne hr_xcs hr_xtr (by decide)))
              have m272 := m253.kept (oq _ (gne hr_xls hr_xtr (by decide)))
              have m273 := m254.kept (oq _ (gne hr_xin hr_xtr (by decide)))
              have m274 := m255.kept (oq _ (gne hr_xac hr_xtr (by decide)))
              have m275 := m256.kept (oq _ (gne hr_xpd hr_xtr (by decide)))
              have m276 := m257.put m270 oi
              have m277 := m258.kept (oq _ (gne hr_xbe hr_xtr (by decide)))
              have m278 := (el_kept (oq _ (gne hr_o0 hr_xtr (by decide)))).trans m259
              have m279 := (el_kept (oq _ (gne hr_o0 hr_xtr (by decide)))).trans m260
              have m280 := (el_kept (oq _ (gne hr_o0 hr_xtr (by decide)))).trans m261
              have m281 := (el_kept (oq _ (gne hr_o0 hr_xtr (by decide)))).trans m262
              have m282 := (el_kept (oq _ (gne hr_o0 hr_xtr (by decide)))).trans m263
              have m283 := (el_kept (oq _ (gne hr_o0 hr_xtr (by decide)))).trans m264
              have m284 := (el_kept (oq _ (gne hr_o0 hr_xtr (by decide)))).trans m265
              have m285 := (el_kept (oq _ (gne hr_o0 hr_xtr (by decide)))).trans m266
              have m286 := (el_kept (oq _ (gne hr_o0 hr_xtr (by decide)))).trans m267
              have m287 := (el_kept (oq _ (gne hr_xcs hr_xtr (by decide)))).trans m268
              have m288 := (el_kept (oq _ (gne hr_xls hr_xtr (by decide)))).trans m269
              refine lv_aload_n hx hb dX5_tryOrders_152 rfl (lv_at hl 3 rfl) ?_
              refine lv_iload_n hx hb dX5_tryOrders_153 rfl (lv_at hl 4 rfl) ?_
              refine lv_iconst (v := 1) hx hb dX5_tryOrders_154 (by decide) ?_
              refine lv_iadd hx hb dX5_tryOrders_155 ?_
              refine lv_topi (fun x289 ex289 => ?_)
              obtain rfl : x289 = 7 := ex289.trans (by decide)
              refine lv_iload hx hb dX5_tryOrders_156 (lv_at hl 1 rfl) ?_
              refine lv_lload hx hb dX5_tryOrders_158 (lv_at hl 0 rfl) ?_
              refine lv_iload hx hb dX5_tryOrders_160 (lv_at hl 7 rfl) ?_
              refine lv_aload_n hx hb dX5_tryOrders_162 rfl (lv_at hl 3 rfl) ?_
              refine tw_getM (v := .ref xin) hx hb hts bF2_X5 hown hK hT hr_o0 shc_8 rfl 7 (by decide) (ht_at2 hts 10 rfl) (fun _ h9 => h9) m282 dX5_tryOrders_163 ?_
              refine lv_iload hx hb dX5_tryOrders_166 (lv_at hl 2 rfl) ?_
              refine tw_iald (i := (nI i6)) hx hb hK hT hr_xin shc_65 rfl (vp_in_nI (by omega) (by decide)) dX5_tryOrders_168 (fun v9 m290 h9 => ?_)
              obtain ⟨x291, rfl, gx291, kx291⟩ := h9
              have cx291 := m273.at m290 (by have q9 := tn_of (show (nI i6).toInt = ((i6 : Nat) : Int) from (nI_toInt (by omega))) (by omega); omega)
              have t292 : x291.toInt = (aB i6).toInt := congrArg Int32.toInt (cx291.trans (by rw [tn_nI (by omega)]))
              have t293 : 0 ≤ (aB i6).toInt ∧ (aB i6).toInt ≤ 100000 := (hrg i6 (by omega)).2.2.1
              refine lv_iadd hx hb dX5_tryOrders_169 ?_
              refine lv_topi (fun x294 ex294 => ?_)
              have t295 : x294.toInt = ic.toInt + x291.toInt := ti_add ex294 rfl rfl (by omega) (by omega)
              refine lv_iload hx hb dX5_tryOrders_170 (lv_at hl 8 rfl) ?_
              refine lv_aload_n hx hb dX5_tryOrders_172 rfl (lv_at hl 3 rfl) ?_
              refine tw_getM (v := .ref xac) hx hb hts bF2_X5 hown hK hT hr_o0 shc_8 rfl 8 (by decide) (ht_at2 hts 11 rfl) (fun _ h9 => h9) m283 dX5_tryOrders_173 ?_
              refine lv_iload hx hb dX5_tryOrders_176 (lv_at hl 2 rfl) ?_
              refine tw_iald (i := (nI i6)) hx hb hK hT hr_xac shc_66 rfl (vp_in_nI (by omega) (by decide)) dX5_tryOrders_178 (fun v9 m296 h9 => ?_)
              obtain ⟨x297, rfl, gx297, kx297⟩ := h9
              have cx297 := m274.at m296 (by have q9 := tn_of (show (nI i6).toInt = ((i6 : Nat) : Int) from (nI_toInt (by omega))) (by omega); omega)
              have t298 : x297.toInt = (aA i6).toInt := congrArg Int32.toInt (cx297.trans (by rw [tn_nI (by omega)]))
              have t299 : 0 ≤ (aA i6).toInt ∧ (aA i6).toInt ≤ 1000 := (hrg i6 (by omega)).2.2.2
              refine lv_iload hx hb dX5_tryOrders_179 (lv_at hl 1 rfl) ?_
              refine lv_imul hx hb dX5_tryOrders_181 ?_
              refine lv_topi (fun x300 ex300 => ?_)
              have t301 : x300.toInt = x297.toInt * x233.toInt := ti_mulx ex300 rfl rfl (A := 1000) (B := 200) (by omega) (by omega) (by omega) (by omega) (by decide)
              have t302 : 0 ≤ x300.toInt ∧ x300.toInt ≤ 1000 * 200 ∧ (x297.toInt = 0 → x300.toInt = 0) ∧ (x233.toInt = 0 → x300.toInt = 0) ∧ x300.toInt ≤ x297.toInt * 200 ∧ x300.toInt ≤ 1000 * x233.toInt := ti_mulnn ex300 rfl rfl (by omega) (by omega) (by omega) (by omega) (by decide)
              refine lv_iadd hx hb dX5_tryOrders_182 ?_
              refine lv_topi (fun x303 ex303 => ?_)
              have t304 : x303.toInt = lt.toInt + x300.toInt := ti_add ex303 rfl rfl (by omega) (by omega)
              have hFc := gA_free hG hA hS
              refine va_callv (va_runV (As := [.int 7, .int x233, .long y249, .int x294, .int x303]) (rest := []) ⟨hx, hb, hml, hown, hts⟩ (c_tryOrdersC7 l dC dI kA adK adV G H nC nS o0 x233 y249 x294 x303 jb z17 xcs xls xin xac xpd xtr xbe aC aY aB aA (cu vP (nI i6).toNatClampNeg (1 : Int32)) (cu V12 (6 : Int32).toNatClampNeg (nI i6)) V14 N (fun k => if k = 6 then ((i6 : Nat) : Int) else R k) (slO N 6 aC aY aB aA (pb vP) yr.toInt co.toInt ic.toInt lt.toInt R a0 i6) hT hr_o0 m278 m279 m280 hr_xcs m281 hr_xls m282 hr_xin m283 hr_xac m284 hr_xpd m285 hr_xtr m286 hr_xbe (by have q8 := ti_all x233; omega) (by have q8 := ti_all x294; omega) (by have q8 := ti_all x303; omega) (by have q8 := ti_all jb; omega) (by omega) hN hrg (sl_ok (by omega) (fun j hj => by have := (hrg j (by omega)).2.1.1; omega) (fun j hj => (hrg j (by omega)).2.2.2.1) (by omega) (by omega) hba) hj26 hj27 (rr_s (K := 6) rfl (by decide) (nI_toInt (by omega)) hj28) m271 m272 m273 m274 m275 m276 m277 (by omega) (by omega)) (cwV 5 hts (goodIn_app (goodIn_r _ [19, 20, 21, 8] rfl (by decide +kernel)) (goodIn_ca (goodIn_r _ [13, 1, 2, 10, 14, 15, 16, 17, 18] rfl (by decide +kernel)) (bs2_in _ _))) rfl rfl rfl (by decide +kernel) ⟨(Nat.le_of_ble_eq_true rfl), (Nat.le_of_ble_eq_true rfl)⟩) ⟨fun a U g mk q => by obtain ⟨q0, q1, qK, qE⟩ := q; exact ⟨q0, q1, va_K.moved (u := U) (U := U.calling g mk a) (Vm.Alike.refl U.vm) qK, EVC.blind g mk a qE⟩, gH_recv hK hT hr_o0 shc_8 rfl, fun U hU hW => ⟨rfl, hU, va_K.moved hW.alike hK, hE.call hS hFc hU hW⟩⟩ rfl rfl hl.1 rfl (lv_room (Nat.le_of_ble_eq_true rfl)) dX5_tryOrders_183 ⟨(Nat.le_of_ble_eq_true rfl), (Nat.le_of_ble_eq_true rfl)⟩) hS (fun q _ h => hFc q h) hFc (fun u t H locs ht hvm hw306 hB _ _ hS => ?_)
              obtain ⟨u307, u308, u309⟩ := u
              obtain ⟨hT, hF1, m310, m311, m312, m313⟩ := hB
              rw [ht] at hT hF1 m310 m311 m312 m313
              have m314 := m271.kept (hF1.arr hr_xcs skc_63 (by decide))
              have m315 := m272.kept (hF1.arr hr_xls skc_64 (by decide))
              have m316 := m273.kept (hF1.arr hr_xin skc_65 (by decide))
              have m317 := m274.kept (hF1.arr hr_xac skc_66 (by decide))
              have m318 := m275.kept (hF1.arr hr_xpd skc_67 (by decide))
              have m319 := m276.kept (hF1.arr hr_xtr skc_68 (by decide))
              have m321 := (hF1.fld hr_o0 skc_8 (k := 15) (by decide) (by decide)).trans m278
              have m323 := (hF1.fld hr_o0 skc_8 (k := 5) (by decide) (by decide)).trans m280
              have m324 := (hF1.fld hr_o0 skc_8 (k := 6) (by decide) (by decide)).trans m281
              have m325 := (hF1.fld hr_o0 skc_8 (k := 7) (by decide) (by decide)).trans m282
              have m326 := (hF1.fld hr_o0 skc_8 (k := 8) (by decide) (by decide)).trans m283
              have m327 := (hF1.fld hr_o0 skc_8 (k := 9) (by decide) (by decide)).trans m284
              have m328 := (hF1.fld hr_o0 skc_8 (k := 10) (by decide) (by decide)).trans m285
              have m329 := (hF1.fld hr_o0 skc_8 (k := 11) (by decide) (by decide)).trans m286
              have m330 := (el_kept (hF1.arr hr_xcs skc_63 (by decide))).trans m287
              have m331 := (el_kept (hF1.arr hr_xls skc_64 (by decide))).trans m288
              have m332 := (el_kept (hF1.arr hr_xtr skc_68 (by decide))).trans m270
              have m333 := (el_kept (hF1.arr hr_xin skc_65 (by decide))).trans m290
              have m334 := (el_kept (hF1.arr hr_xac skc_66 (by decide))).trans m296
              have hF := hF.more hF1 (by decide)
              try dsimp only at hw306
              have hf335 := hw306
              refine lv_aload_n hx hb dX5_tryOrders_186 rfl (lv_at hl 3 rfl) ?_
              refine tw_getM (v := .ref xpd) hx hb hts bF2_X5 hown hK hT hr_o0 shc_8 rfl 9 (by decide) (ht_at2 hts 2 rfl) (fun _ h9 => h9) m327 dX5_tryOrders_187 ?_
              refine lv_iload hx hb dX5_tryOrders_190 (lv_at hl 2 rfl) ?_
              refine lv_iconst (v := 0) hx hb dX5_tryOrders_192 (by decide) ?_
              refine tw_zast (i := (nI i6)) (x := 0) hx hb hK hT hG hS hr_xpd shc_67 rfl (vp_in_nI (by omega) (by decide)) (gi_z (rg_t (a := 0) (by decide) (by omega) (by omega)) (by decide) (by decide)) dX5_tryOrders_193 (fun H locs hT oq m336 oi hS => ?_)
              have hF := hF.ast hr_xpd skc_67 oq (by decide)
              have m337 := m314.kept (oq _ (gne hr_xcs hr_xpd (by decide)))
              have m338 := m315.kept (oq _ (gne hr_xls hr_xpd (by decide)))
              have m339 := m316.kept (oq _ (gne hr_xin hr_xpd (by decide)))
              have m340 := m317.kept (oq _ (gne hr_xac hr_xpd (by decide)))
              have m341 := m311.put (show el H xpd _ = some (.int 0) from m336) oi
              have m342 := m312.kept (oq _ (gne hr_xtr hr_xpd (by decide)))
              have m343 := (el_kept (oq _ (gne hr_o0 hr_xpd (by decide)))).trans m321
              have m344 := (el_kept (oq _ (gne hr_o0 hr_xpd (by decide)))).trans m323
              have m345 := (el_kept (oq _ (gne hr_o0 hr_xpd (by decide)))).trans m324
              have m346 := (el_kept (oq _ (gne hr_o0 hr_xpd (by decide)))).trans m325
              have m347 := (el_kept (oq _ (gne hr_o0 hr_xpd (by decide)))).trans m326
              have m348 := (el_kept (oq _ (gne hr_o0 hr_xpd (by decide)))).trans m327
              have m349 := (el_kept (oq _ (gne hr_o0 hr_xpd (by decide)))).trans m328
              have m350 := (el_kept (oq _ (gne hr_o0 hr_xpd (by decide)))).trans m329
              have m351 := (el_kept (oq _ (gne hr_xcs hr_xpd (by decide)))).trans m330
              have m352 := (el_kept (oq _ (gne hr_xls hr_xpd (by decide)))).trans m331
              have m353 := (el_kept (oq _ (gne hr_xtr hr_xpd (by decide)))).trans m332
              have m354 := (el_kept (oq _ (gne hr_xin hr_xpd (by decide)))).trans m333
              have m355 := (el_kept (oq _ (gne hr_xac hr_xpd (by decide)))).trans m334
              have m356 := (el_kept (oq _ (gne hr_o0 hr_xpd (by decide)))).trans m310
              have m357 := m313.kept (oq _ (gne hr_xbe hr_xpd (by decide)))
              refine lv_iinc (v := nI (i6 + 1)) (lv' := [(7, .int (nI (i6 + 1))), (9, .long y249), (8, .int x233), (0, .ref o0), (1, .int 6), (2, .int yr), (3, .long co), (5, .int ic), (6, .int lt)]) hx hb dX5_tryOrders_194 hl (k := 2) rfl (nI_add i6 1) (by decide) rfl (fun ls hl => ?_)
              refine lv_goto (tgt := 53) hx hb dX5_tryOrders_197 (by decide) ?_
              have bk9 : u307.toInt = (slO N 6 aC aY aB aA (pb vP) yr.toInt co.toInt ic.toInt lt.toInt R a0 (i6 + 1)).1 ∧ (0 ≤ (slO N 6 aC aY aB aA (pb vP) yr.toInt co.toInt ic.toInt lt.toInt R a0 (i6 + 1)).1 → ∀ k : Nat, k < N → (u309 k).toInt = (slO N 6 aC aY aB aA (pb vP) yr.toInt co.toInt ic.toInt lt.toInt R a0 (i6 + 1)).2 k) ∧ ∀ k : Nat, k < 6 → (u308 k).toInt = R k := by have q9 := hf335; rw [sl_call (N := N) (K := 6) (K1 := 7) (aC := aC) (aY := aY) (aB := aB) (aA := aA) (U := pb vP) (yr := yr.toInt) (ca := co.toInt) (ic := ic.toInt) (su := lt.toInt) (R := R) (a := a0) (i := i6) (d := x233.toInt) (c1 := y249.toInt) (i1 := x294.toInt) (s1 := x303.toInt) (U1 := pb (cu vP (nI i6).toNatClampNeg (1 : Int32))) rfl (pb_0 (tn_nI (by omega)) cx200 (by omega)) dn9 (pb_cu (tn_nI (by omega))) (by omega) (by omega) (by rw [show (aA i6).toInt = x297.toInt from by omega]; omega)] at q9; exact ⟨q9.1, q9.2.1, fun k hk => (q9.2.2 k (by omega)).trans (if_neg (by omega))⟩
              exact ih193 (i6 + 1) (by omega) (by omega) u308 u309 u307 ⟨bk9.1, bk9.2.1, bk9.2.2, (by omega)⟩ _ _ hT hF hS m337 m338 m339 m340 (m341.ext (fun _ _ => pb_r cx200 (by omega))) m342 m357 m343 m356 m344 m345 m346 m347 m348 m349 m350 ls (lv_sub hl [0, 3, 4, 5, 6, 7, 8] rfl)
          · have t358 : x200.toInt ≠ 0 := ti_ne c201 rfl (by decide)
            refine lv_iconst (v := (-1)) hx hb dX5_tryOrders_72 (by decide) ?_
            refine lv_goto (tgt := 98) hx hb dX5_tryOrders_73 (by decide) ?_
            refine lv_istore (lv' := [(8, .int (-1)), (7, .int (nI i6)), (0, .ref o0), (1, .int 6), (2, .int yr), (3, .long co), (5, .int ic), (6, .int lt)]) hx hb dX5_tryOrders_98 hl (by decide) rfl (fun ls hl => ?_)
            refine lv_iload hx hb dX5_tryOrders_100 (lv_at hl 0 rfl) ?_
            refine lv_iconst (v := (-1)) hx hb dX5_tryOrders_102 (by decide) ?_
            refine lv_icmp_eq (tgt := 194) hx hb dX5_tryOrders_103 (by decide) (fun c359 => ?_) (fun c359 => absurd c359 (by decide))
            refine lv_iinc (v := nI (i6 + 1)) (lv' := [(7, .int (nI (i6 + 1))), (8, .int (-1)), (0, .ref o0), (1, .int 6), (2, .int yr), (3, .long co), (5, .int ic), (6, .int lt)]) hx hb dX5_tryOrders_194 hl (k := 1) rfl (nI_add i6 1) (by decide) rfl (fun ls hl => ?_)
            refine lv_goto (tgt := 53) hx hb dX5_tryOrders_197 (by decide) ?_
            have bk9 : z17.toInt = (slO N 6 aC aY aB aA (pb vP) yr.toInt co.toInt ic.toInt lt.toInt R a0 (i6 + 1)).1 ∧ (0 ≤ (slO N 6 aC aY aB aA (pb vP) yr.toInt co.toInt ic.toInt lt.toInt R a0 (i6 + 1)).1 → ∀ k : Nat, k < N → (V14 k).toInt = (slO N 6 aC aY aB aA (pb vP) yr.toInt co.toInt ic.toInt lt.toInt R a0 (i6 + 1)).2 k) ∧ ∀ k : Nat, k < 6 → (V12 k).toInt = R k := by rw [sl_u (pb_1 (tn_nI (by omega)) cx200 (by omega))]; exact ⟨hj26, hj27, hj28⟩
            exact ih193 (i6 + 1) (by omega) (by omega) V12 V14 z17 ⟨bk9.1, bk9.2.1, bk9.2.2, (by omega)⟩ _ _ hT hF hS m7 m8 m9 m10 (m11.ext (fun _ _ => rfl)) m13 m15 m16 m18 m19 m20 m21 m22 m23 m24 m25 ls (lv_sub hl [0, 2, 3, 4, 5, 6, 7] rfl)
      exact key193 (7 - 0) 0 (by omega) (Nat.le_refl _) vR vZ la ⟨hla, hZ0, hR, (by omega)⟩ _ _ hT hF hS hc_aC hc_aY hc_aB hc_aA (hc_vP.ext (fun _ _ => rfl)) hc_vR hc_vZ hm_jb hm_la hm_xcs hm_xls hm_xin hm_xac hm_xpd hm_xtr hm_xbe ls (lv_sub hl [0, 1, 2, 3, 4, 5, 6] rfl)
    · have t360 : jb.toInt ≤ 6 := ti_nlt c4 (by decide) rfl
      refine lv_aload_n hx hb dX5_tryOrders_26 rfl (lv_at hl 0 rfl) ?_
      refine lv_iload hx hb dX5_tryOrders_27 (lv_at hl 5 rfl) ?_
      refine tw_put (v := .int lt) (ty := .int) hx hb hts bF2_X5 tyX5 tyX5_ok nmX5 hown hK hT hG hS hr_o0 shc_8 rfl 16 (by decide) (ht_at2 hts 0 rfl) (fun _ h9 => h9) rfl (by decide +kernel) rfl rfl (gl_at rfl (gi_all _)) dX5_tryOrders_29 (fun H locs hT oq m361 oj hS => ?_)
      have hF := hF.put hr_o0 skc_8 oq oj (by decide)
      have m362 := (oj 15 (by decide) (by decide)).trans hm_jb
      have m363 := (oj 5 (by decide) (by decide)).trans hm_xcs
      have m364 := (oj 6 (by decide) (by decide)).trans hm_xls
      have m365 := (oj 7 (by decide) (by decide)).trans hm_xin
      have m366 := (oj 8 (by decide) (by decide)).trans hm_xac
      have m367 := (oj 9 (by decide) (by decide)).trans hm_xpd
      have m368 := (oj 10 (by decide) (by decide)).trans hm_xtr
      have m369 := (oj 11 (by decide) (by decide)).trans hm_xbe
      have m370 := hc_aC.kept (oq _ (gne hr_xcs hr_o0 (by decide)))
      have m371 := hc_aY.kept (oq _ (gne hr_xls hr_o0 (by decide)))
      have m372 := hc_aB.kept (oq _ (gne hr_xin hr_o0 (by decide)))
      have m373 := hc_aA.kept (oq _ (gne hr_xac hr_o0 (by decide)))
      have m374 := hc_vP.kept (oq _ (gne hr_xpd hr_o0 (by decide)))
      have m375 := hc_vR.kept (oq _ (gne hr_xtr hr_o0 (by decide)))
      have m376 := hc_vZ.kept (oq _ (gne hr_xbe hr_o0 (by decide)))
      refine lv_aload_n hx hb dX5_tryOrders_32 rfl (lv_at hl 0 rfl) ?_
      refine tw_getM (v := .ref xtr) hx hb hts bF2_X5 hown hK hT hr_o0 shc_8 rfl 10 (by decide) (ht_at2 hts 9 rfl) (fun _ h9 => h9) m368 dX5_tryOrders_33 ?_
      refine lv_iconst (v := 0) hx hb dX5_tryOrders_36 (by decide) ?_
      refine lv_aload_n hx hb dX5_tryOrders_37 rfl (lv_at hl 0 rfl) ?_
      refine tw_getM (v := .ref xbe) hx hb hts bF2_X5 hown hK hT hr_o0 shc_8 rfl 11 (by decide) (ht_at2 hts 13 rfl) (fun _ h9 => h9) m369 dX5_tryOrders_38 ?_
      refine lv_iconst (v := 0) hx hb dX5_tryOrders_41 (by decide) ?_
      refine lv_aload_n hx hb dX5_tryOrders_42 rfl (lv_at hl 0 rfl) ?_
      refine tw_getM (v := .int jb) hx hb hts bF2_X5 hown hK hT hr_o0 shc_8 rfl 15 (by decide) (ht_at2 hts 1 rfl) (fun _ h9 => h9) m362 dX5_tryOrders_43 ?_
      refine tw_copyE (ty := .int) hx hb (hml.trans hl.1.symm) hown (ht_at2 hts 14 rfl) (ht_at2 hts 15 rfl) (ht_at2 hts 16 rfl) (ht_at2 hts 17 rfl) hK hT hG hS hr_xtr hr_xbe shc_68 shc_69 rfl rfl (by decide) (by decide) (fun h9 => by have q9 := ti_lt h9 rfl (show (0 : Int32).toInt = 0 from by decide); omega) (by have q9 := tn_of (show jb.toInt = jb.toInt from rfl) (by omega); have q8 : (0 : Int32).toNatClampNeg = 0 := (by decide); omega) (by have q9 := tn_of (show jb.toInt = jb.toInt from rfl) (by omega); have q8 : (0 : Int32).toNatClampNeg = 0 := (by decide); omega) (by decide) (by decide) (fun _ _ h9 => by obtain ⟨x9, e9, _⟩ := h9; exact ⟨x9, e9, rfl⟩) (fun _ _ _ h9 => by obtain ⟨x9, e9, a9, b9⟩ := h9; exact ⟨x9, e9, by omega, by omega⟩) (Nat.le_of_ble_eq_true rfl) (Nat.le_of_ble_eq_true rfl) dX5_tryOrders_46 (fun H locs hT oq ce377 hS => ?_)
      have hF := hF.ast hr_xbe skc_69 oq (by decide)
      have m378 := (el_kept (oq _ (gne hr_o0 hr_xbe (by decide)))).trans m362
      have m379 := (el_kept (oq _ (gne hr_o0 hr_xbe (by decide)))).trans m363
      have m380 := (el_kept (oq _ (gne hr_o0 hr_xbe (by decide)))).trans m364
      have m381 := (el_kept (oq _ (gne hr_o0 hr_xbe (by decide)))).trans m365
      have m382 := (el_kept (oq _ (gne hr_o0 hr_xbe (by decide)))).trans m366
      have m383 := (el_kept (oq _ (gne hr_o0 hr_xbe (by decide)))).trans m367
      have m384 := (el_kept (oq _ (gne hr_o0 hr_xbe (by decide)))).trans m368
      have m385 := (el_kept (oq _ (gne hr_o0 hr_xbe (by decide)))).trans m369
      have m386 := m370.kept (oq _ (gne hr_xcs hr_xbe (by decide)))
      have m387 := m371.kept (oq _ (gne hr_xls hr_xbe (by decide)))
      have m388 := m372.kept (oq _ (gne hr_xin hr_xbe (by decide)))
      have m389 := m373.kept (oq _ (gne hr_xac hr_xbe (by decide)))
      have m390 := m374.kept (oq _ (gne hr_xpd hr_xbe (by decide)))
      have m391 := m375.kept (oq _ (gne hr_xtr hr_xbe (by decide)))
      have m392 := (el_kept (oq _ (gne hr_o0 hr_xbe (by decide)))).trans m361
      obtain ⟨V393, m394, kV393⟩ := ct_of hT hr_xbe shc_69
      have cq395 : ∀ k : Nat, ((k : Nat) : Int) < jb.toInt → V393 k = vR k := fun k hk => Value.int.inj (Option.some.inj ((m394 k (by omega)).symm.trans ((ce377 k (by have q9 := tn_of (show jb.toInt = jb.toInt from rfl) (by omega); omega)).trans (m375 k (by omega)))))
      exact W.vret hx hb hr (fun t ht hW => ⟨⟨(lt, vR, V393), rfl, (by exact (by (try dsimp only); have e9 : N = 6 := (by omega); rw [sx_0 e9, if_neg (by omega)]; exact ⟨rfl, fun _ k hk => (congrArg Int32.toInt (cq395 k (by omega))).trans (hR k (by omega)), hR⟩)), by (try dsimp only); rw [ht]; exact ⟨hT, hF, m392, m390, m391, m394⟩⟩, hS.F ht⟩) hS.2.2 dX5_tryOrders_49
  · have t396 : la.toInt ≠ (-1) := ti_ne c2 rfl (by decide)
    refine lv_iload hx hb dX5_tryOrders_8 (lv_at hl 5 rfl) ?_
    refine lv_aload_n hx hb dX5_tryOrders_10 rfl (lv_at hl 0 rfl) ?_
    refine tw_getM (v := .int la) hx hb hts bF2_X5 hown hK hT hr_o0 shc_8 rfl 16 (by decide) (ht_at2 hts 0 rfl) (fun _ h9 => h9) hm_la dX5_tryOrders_11 ?_
    refine lv_icmp_lt (tgt := 18) hx hb dX5_tryOrders_14 (by decide) (fun c397 => ?_) (fun c397 => ?_)
    · have t398 : lt.toInt < la.toInt := ti_lt c397 rfl rfl
      refine lv_iload_n hx hb dX5_tryOrders_18 rfl (lv_at hl 1 rfl) ?_
      refine lv_aload_n hx hb dX5_tryOrders_19 rfl (lv_at hl 0 rfl) ?_
      refine tw_getM (v := .int jb) hx hb hts bF2_X5 hown hK hT hr_o0 shc_8 rfl 15 (by decide) (ht_at2 hts 1 rfl) (fun _ h9 => h9) hm_jb dX5_tryOrders_20 ?_
      refine lv_icmp_lt (tgt := 50) hx hb dX5_tryOrders_23 (by decide) (fun c399 => ?_) (fun c399 => ?_)
      · have t400 : 6 < jb.toInt := ti_lt c399 (by decide) rfl
        refine lv_iconst (v := 0) hx hb dX5_tryOrders_50 (by decide) ?_
        refine lv_istore (lv' := [(7, .int 0), (0, .ref o0), (1, .int 6), (2, .int yr), (3, .long co), (5, .int ic), (6, .int lt)]) hx hb dX5_tryOrders_51 hl (by decide) rfl (fun ls hl => ?_)
        have key588 : ∀ (n588 i401 : Nat), i401 + n588 = 7 → 0 ≤ i401 → ∀ (V407 : Nat → Int32), ∀ (V409 : Nat → Int32), ∀ (z412 : Int32), ((z412.toInt = (slO N 6 aC aY aB aA (pb vP) yr.toInt co.toInt ic.toInt lt.toInt R a0 i401).1) ∧ (0 ≤ (slO N 6 aC aY aB aA (pb vP) yr.toInt co.toInt ic.toInt lt.toInt R a0 i401).1 → ∀ k : Nat, k < N → (V409 k).toInt = (slO N 6 aC aY aB aA (pb vP) yr.toInt co.toInt ic.toInt lt.toInt R a0 i401).2 k) ∧ (∀ k : Nat, k < 6 → (V407 k).toInt = R k) ∧ (((i401 : Nat) : Int) ≤ jb.toInt)) → ∀ (H : Heap) (locs : List Loc), gH (dC, dI) kA (SHc nC nS) G H → gF (dC, dI) SKc G ([(8, 16), (67, 0), (68, 0), (69, 0)] : List (Nat × Nat)) s.heap H → va_S A s.heap H locs → ct H xcs 7 aC → ct H xls 7 aY → ct H xin 7 aB → ct H xac 7 aA → ct H xpd 7 vP → ct H xtr 7 V407 → ct H xbe 7 V409 → el H o0 (dI 8 15) = some (.int jb) → el H o0 (dI 8 16) = some (.int z412) → el H o0 (dI 8 5) = some (.ref xcs) → el H o0 (dI 8 6) = some (.ref xls) → el H o0 (dI 8 7) = some (.ref xin) → el H o0 (dI 8 8) = some (.ref xac) → el H o0 (dI 8 9) = some (.ref xpd) → el H o0 (dI 8 10) = some (.ref xtr) → el H o0 (dI 8 11) = some (.ref xbe) → ∀ ls : Array Slot, lv_has ls 11 [(7, .int (nI i401)), (0, .ref o0), (1, .int 6), (2, .int yr), (3, .long co), (5, .int ic), (6, .int lt)] → W p l e (headSpec w_c_tryOrdersC6 ({ frames := 3, cells := 0, slots := 0, locals := 90 })).room s m #[.ref o0, .int 6, .int yr, .long co, .int ic, .int lt] below meth c H locs 0 0 (MQ below (va_Qv (fun (u : Int32 × (Nat → Int32) × (Nat → Int32)) => match u with | (la1, vR1, vZ1) => (la1.toInt = (sx N 6 aC aY aB aA (pb vP) yr.toInt co.toInt ic.toInt lt.toInt R a0).1 ∧ (0 ≤ (sx N 6 aC aY aB aA (pb vP) yr.toInt co.toInt ic.toInt lt.toInt R a0).1 → ∀ k : Nat, k < N → (vZ1 k).toInt = (sx N 6 aC aY aB aA (pb vP) yr.toInt co.toInt ic.toInt lt.toInt R a0).2 k) ∧ ∀ k : Nat, k < 6 → (vR1 k).toInt = R k)) (fun (u : Int32 × (Nat → Int32) × (Nat → Int32)) (t : State) => match u with | (la1, vR1, vZ1) => gH (dC, dI) kA (SHc nC nS) G t.heap ∧ gF (dC, dI) SKc G ([(8, 16), (67, 0), (68, 0), (69, 0)] : List (Nat × Nat)) s.heap t.heap ∧ el t.heap o0 (dI 8 16) = some (.int la1) ∧ ct t.heap xpd 7 vP ∧ ct t.heap xtr 7 vR1 ∧ ct t.heap xbe 7 vZ1) A) #[.ref o0, .int 6, .int yr, .long co, .int ic, .int lt] s 0 0 A) (F0 m 53 ls []) := by
          intro n588
          induction n588 with
          | zero =>
            intro i401 hn588 hlo589 V407 V409 z412 ⟨hj421, hj422, hj423, hj424⟩ H locs hT hF hS m402 m403 m404 m405 m406 m408 m410 m411 m413 m414 m415 m416 m417 m418 m419 m420 ls hl
            obtain rfl : 7 = i401 := by omega
            refine lv_iload hx hb dX5_tryOrders_53 (lv_at hl 0 rfl) ?_
            refine lv_aload_n hx hb dX5_tryOrders_55 rfl (lv_at hl 1 rfl) ?_
            refine tw_getM (v := .int jb) hx hb hts bF2_X5 hown hK hT hr_o0 shc_8 rfl 15 (by decide) (ht_at2 hts 1 rfl) (fun _ h9 => h9) m411 dX5_tryOrders_56 ?_
            refine lv_icmp_ge (tgt := 200) hx hb dX5_tryOrders_59 (by decide) (fun c590 => ?_) (fun c590 => (by exfalso; have q9 : ((7 : Nat) : Int) < jb.toInt := ti_nle c590 rfl (nI_toInt (by omega)); omega))
            have t591 : jb.toInt ≤ ((7 : Nat) : Int) := ti_le c590 rfl (nI_toInt (by omega))
            exact W.vret hx hb hr (fun t ht hW => ⟨⟨(z412, V407, V409), rfl, (by exact (by (try dsimp only); have e9 : N = 7 := (by omega); rw [sx_s (by omega)]; subst e9; exact ⟨hj421, hj422, hj423⟩)), by (try dsimp only); rw [ht]; exact ⟨hT, hF, m413, m406, m408, m410⟩⟩, hS.F ht⟩) hS.2.2 dX5_tryOrders_200
          | succ n588 ih588 =>
            intro i401 hn588 hlo589 V407 V409 z412 ⟨hj421, hj422, hj423, hj424⟩ H locs hT hF hS m402 m403 m404 m405 m406 m408 m410 m411 m413 m414 m415 m416 m417 m418 m419 m420 ls hl
            have hlt591 : i401 < 7 := by omega
            refine lv_iload hx hb dX5_tryOrders_53 (lv_at hl 0 rfl) ?_
            refine lv_aload_n hx hb dX5_tryOrders_55 rfl (lv_at hl 1 rfl) ?_
            refine tw_getM (v := .int jb) hx hb hts bF2_X5 hown hK hT hr_o0 shc_8 rfl 15 (by decide) (ht_at2 hts 1 rfl) (fun _ h9 => h9) m411 dX5_tryOrders_56 ?_
            refine lv_icmp_ge (tgt := 200) hx hb dX5_tryOrders_59 (by decide) (fun c592 => (by exfalso; have q9 : jb.toInt ≤ ((i401 : Nat) : Int) := ti_le c592 rfl (nI_toInt (by omega)); omega)) (fun c592 => ?_)
            have t593 : ((i401 : Nat) : Int) < jb.toInt := ti_nle c592 rfl (nI_toInt (by omega))
            refine lv_aload_n hx hb dX5_tryOrders_62 rfl (lv_at hl 1 rfl) ?_
            refine tw_getM (v := .ref xpd) hx hb hts bF2_X5 hown hK hT hr_o0 shc_8 rfl 9 (by decide) (ht_at2 hts 2 rfl) (fun _ h9 => h9) m418 dX5_tryOrders_63 ?_
            refine lv_iload hx hb dX5_tryOrders_66 (lv_at hl 0 rfl) ?_
            refine tw_zald (i := (nI i401)) hx hb hK hT hr_xpd shc_67 rfl (vp_in_nI (by omega) (by decide)) dX5_tryOrders_68 (fun v9 m594 h9 => ?_)
            obtain ⟨x595, rfl, gx595, kx595⟩ := h9
            have cx595 := m406.at m594 (by have q9 := tn_of (show (nI i401).toInt = ((i401 : Nat) : Int) from (nI_toInt (by omega))) (by omega); omega)
            refine lv_if_eq (tgt := 76) hx hb dX5_tryOrders_69 (by decide) (fun c596 => ?_) (fun c596 => ?_)
            · have t597 : x595.toInt = 0 := ti_eq c596 rfl (by decide)
              refine lv_iload_n hx hb dX5_tryOrders_76 rfl (lv_at hl 3 rfl) ?_
              refine lv_lload_n hx hb dX5_tryOrders_77 rfl (lv_at hl 4 rfl) ?_
              refine lv_iload hx hb dX5_tryOrders_78 (lv_at hl 5 rfl) ?_
              refine lv_aload_n hx hb dX5_tryOrders_80 rfl (lv_at hl 1 rfl) ?_
              refine tw_getM (v := .ref xcs) hx hb hts bF2_X5 hown hK hT hr_o0 shc_8 rfl 5 (by decide) (ht_at2 hts 3 rfl) (fun _ h9 => h9) m414 dX5_tryOrders_81 ?_
              refine lv_iload hx hb dX5_tryOrders_84 (lv_at hl 0 rfl) ?_
              refine tw_iald (i := (nI i401)) hx hb hK hT hr_xcs shc_63 rfl (vp_in_nI (by omega) (by decide)) dX5_tryOrders_86 (fun v9 m598 h9 => ?_)
              obtain ⟨x599, rfl, gx599, kx599⟩ := h9
              have cx599 := m402.at m598 (by have q9 := tn_of (show (nI i401).toInt = ((i401 : Nat) : Int) from (nI_toInt (by omega))) (by omega); omega)
              have t600 : x599.toInt = (aC i401).toInt := congrArg Int32.toInt (cx599.trans (by rw [tn_nI (by omega)]))
              have t601 : 0 ≤ (aC i401).toInt ∧ (aC i401).toInt ≤ 1000000 := (hrg i401 (by omega)).1
              have hFc := gA_free hG hA hS
              refine va_calli (va_runS (As := [.int yr, .long co, .int ic, .int x599]) (rest := []) ⟨hx, hb, hml, hown, hts⟩ (c_yearC l dC dI kA adK adV G H nC nS yr co ic x599 hT (by have q8 := ti_all yr; omega) (by have q8 := ti_all ic; omega) (by have q8 := ti_all x599; omega) (by omega) (by omega) (by omega)) (va_cwS 4 hts (goodIn_app (goodIn_r _ [6, 7, 8] rfl (by decide +kernel)) (goodIn_ca (goodIn_r _ [5] rfl (by decide +kernel)) (bs2_in _ _))) rfl rfl rfl (by decide +kernel) ⟨(Nat.le_of_ble_eq_true rfl), (Nat.le_of_ble_eq_true rfl)⟩) ⟨fun a U g mk q => by obtain ⟨q0, q1, qK, qE⟩ := q; exact ⟨q0, q1, va_K.moved (u := U) (U := U.calling g mk a) (Vm.Alike.refl U.vm) qK, EVC.blind g mk a qE⟩, fun U hU hW => ⟨rfl, hU, va_K.moved hW.alike hK, hE.call hS hFc hU hW⟩⟩ rfl rfl hl.1 rfl (lv_room (Nat.le_of_ble_eq_true rfl)) dX5_tryOrders_87 ⟨(Nat.le_of_ble_eq_true rfl), (Nat.le_of_ble_eq_true rfl)⟩) hS (fun q _ h => hFc q h) hFc (fun r602 u t H locs ht hvm hw603 hB _ _ hS => ?_)
              obtain ⟨hT, hF1⟩ := hB
              rw [ht] at hT hF1
              have m604 := m402.kept (hF1.arr hr_xcs skc_63 (by decide))
              have m605 := m403.kept (hF1.arr hr_xls skc_64 (by decide))
              have m606 := m404.kept (hF1.arr hr_xin skc_65 (by decide))
              have m607 := m405.kept (hF1.arr hr_xac skc_66 (by decide))
              have m608 := m406.kept (hF1.arr hr_xpd skc_67 (by decide))
              have m609 := m408.kept (hF1.arr hr_xtr skc_68 (by decide))
              have m610 := m410.kept (hF1.arr hr_xbe skc_69 (by decide))
              have m611 := (hF1.fld hr_o0 skc_8 (k := 15) (by decide) (by decide)).trans m411
              have m612 := (hF1.fld hr_o0 skc_8 (k := 16) (by decide) (by decide)).trans m413
              have m613 := (hF1.fld hr_o0 skc_8 (k := 5) (by decide) (by decide)).trans m414
              have m614 := (hF1.fld hr_o0 skc_8 (k := 6) (by decide) (by decide)).trans m415
              have m615 := (hF1.fld hr_o0 skc_8 (k := 7) (by decide) (by decide)).trans m416
              have m616 := (hF1.fld hr_o0 skc_8 (k := 8) (by decide) (by decide)).trans m417
              have m617 := (hF1.fld hr_o0 skc_8 (k := 9) (by decide) (by decide)).trans m418
              have m618 := (hF1.fld hr_o0 skc_8 (k := 10) (by decide) (by decide)).trans m419
              have m619 := (hF1.fld hr_o0 skc_8 (k := 11) (by decide) (by decide)).trans m420
              have m620 := (el_kept (hF1.arr hr_xpd skc_67 (by decide))).trans m594
              have m621 := (el_kept (hF1.arr hr_xcs skc_63 (by decide))).trans m598
              have hF := hF.more hF1 (by decide)
              try dsimp only at hw603
              obtain ⟨h622, hf623⟩ := hw603
              have yw9 : yw yr.toInt co.toInt ic.toInt (aC i401).toInt r602.toInt := by rw [show (aC i401).toInt = x599.toInt from by omega]; exact hf623
              refine lv_aload_n hx hb dX5_tryOrders_90 rfl (lv_at hl 1 rfl) ?_
              refine tw_getM (v := .ref xls) hx hb hts bF2_X5 hown hK hT hr_o0 shc_8 rfl 6 (by decide) (ht_at2 hts 8 rfl) (fun _ h9 => h9) m614 dX5_tryOrders_91 ?_
              refine lv_iload hx hb dX5_tryOrders_94 (lv_at hl 0 rfl) ?_
              refine tw_iald (i := (nI i401)) hx hb hK hT hr_xls shc_64 rfl (vp_in_nI (by omega) (by decide)) dX5_tryOrders_96 (fun v9 m624 h9 => ?_)
              obtain ⟨x625, rfl, gx625, kx625⟩ := h9
              have cx625 := m605.at m624 (by have q9 := tn_of (show (nI i401).toInt = ((i401 : Nat) : Int) from (nI_toInt (by omega))) (by omega); omega)
              have t626 : x625.toInt = (aY i401).toInt := congrArg Int32.toInt (cx625.trans (by rw [tn_nI (by omega)]))
              have t627 : 1 ≤ (aY i401).toInt ∧ (aY i401).toInt ≤ 20 := (hrg i401 (by omega)).2.1
              refine lv_iadd hx hb dX5_tryOrders_97 ?_
              refine lv_topi (fun x628 ex628 => ?_)
              have t629 : x628.toInt = r602.toInt + x625.toInt := ti_add ex628 rfl rfl (by omega) (by omega)
              refine lv_istore (lv' := [(8, .int x628), (7, .int (nI i401)), (0, .ref o0), (1, .int 6), (2, .int yr), (3, .long co), (5, .int ic), (6, .int lt)]) hx hb dX5_tryOrders_98 hl (by decide) rfl (fun ls hl => ?_)
              refine lv_iload hx hb dX5_tryOrders_100 (lv_at hl 0 rfl) ?_
              refine lv_iconst (v := (-1)) hx hb dX5_tryOrders_102 (by decide) ?_
              refine lv_icmp_eq (tgt := 194) hx hb dX5_tryOrders_103 (by decide) (fun c630 => (by exfalso; have q9 : x628.toInt = (-1) := ti_eq c630 rfl (by decide); omega)) (fun c630 => ?_)
              have t631 : x628.toInt ≠ (-1) := ti_ne c630 rfl (by decide)
              refine lv_iload hx hb dX5_tryOrders_106 (lv_at hl 0 rfl) ?_
              refine lv_sipush (v := 200) hx hb dX5_tryOrders_108 (by decide) ?_
              refine lv_icmp_gt (tgt := 194) hx hb dX5_tryOrders_111 (by decide) (fun c632 => ?_) (fun c632 => ?_)
              · have t633 : 200 < x628.toInt := ti_lt c632 (by decide) rfl
                refine lv_iinc (v := nI (i401 + 1)) (lv' := [(7, .int (nI (i401 + 1))), (8, .int x628), (0, .ref o0), (1, .int 6), (2, .int yr), (3, .long co), (5, .int ic), (6, .int lt)]) hx hb dX5_tryOrders_194 hl (k := 1) rfl (nI_add i401 1) (by decide) rfl (fun ls hl => ?_)
                refine lv_goto (tgt := 53) hx hb dX5_tryOrders_197 (by decide) ?_
                have bk9 : z412.toInt = (slO N 6 aC aY aB aA (pb vP) yr.toInt co.toInt ic.toInt lt.toInt R a0 (i401 + 1)).1 ∧ (0 ≤ (slO N 6 aC aY aB aA (pb vP) yr.toInt co.toInt ic.toInt lt.toInt R a0 (i401 + 1)).1 → ∀ k : Nat, k < N → (V409 k).toInt = (slO N 6 aC aY aB aA (pb vP) yr.toInt co.toInt ic.toInt lt.toInt R a0 (i401 + 1)).2 k) ∧ ∀ k : Nat, k < 6 → (V407 k).toInt = R k := by rw [sl_n (yw_none yw9 (by omega) (by omega))]; exact ⟨hj421, hj422, hj423⟩
                exact ih588 (i401 + 1) (by omega) (by omega) V407 V409 z412 ⟨bk9.1, bk9.2.1, bk9.2.2, (by omega)⟩ _ _ hT hF hS m604 m605 m606 m607 (m608.ext (fun _ _ => rfl)) m609 m610 m611 m612 m613 m614 m615 m616 m617 m618 m619 ls (lv_sub hl [0, 2, 3, 4, 5, 6, 7] rfl)
              · have t634 : x628.toInt ≤ 200 := ti_nlt c632 (by decide) rfl
                refine lv_lload_n hx hb dX5_tryOrders_114 rfl (lv_at hl 5 rfl) ?_
                refine lv_iload hx hb dX5_tryOrders_115 (lv_at hl 6 rfl) ?_
                refine lv_i2l (v := ic.toInt64) hx hb dX5_tryOrders_117 rfl ?_
                refine lv_iload hx hb dX5_tryOrders_118 (lv_at hl 0 rfl) ?_
                refine lv_iload_n hx hb dX5_tryOrders_120 rfl (lv_at hl 4 rfl) ?_
                refine lv_isub hx hb dX5_tryOrders_121 ?_
                refine lv_topi (fun x635 ex635 => ?_)
                have t636 : x635.toInt = x628.toInt - yr.toInt := ti_sub ex635 rfl rfl (by omega) (by omega)
                refine lv_i2l (v := x635.toInt64) hx hb dX5_tryOrders_122 rfl ?_
                refine lv_lmul hx hb dX5_tryOrders_123 ?_
                refine lv_topl (fun y637 ey637 => ?_)
                have t638 : y637.toInt = ic.toInt * x635.toInt ∧ -(600000 * 200) ≤ y637.toInt ∧ y637.toInt ≤ 600000 * 200 := tl_m ey637 ((Int32.toInt_toInt64 _).trans rfl) ((Int32.toInt_toInt64 _).trans rfl) (A := 600000) (B := 200) (by omega) (by omega) (by omega) (by omega) (by decide)
                have t639 : y637.toInt = ic.toInt * (x628.toInt - yr.toInt) := (by rw [show x628.toInt - yr.toInt = x635.toInt from by omega]; omega)
                refine lv_ladd hx hb dX5_tryOrders_124 ?_
                refine lv_topl (fun y640 ey640 => ?_)
                have t641 : y640.toInt = co.toInt + y637.toInt := tl_a ey640 rfl rfl (by omega) (by omega)
                refine lv_aload_n hx hb dX5_tryOrders_125 rfl (lv_at hl 2 rfl) ?_
                refine tw_getM (v := .ref xcs) hx hb hts bF2_X5 hown hK hT hr_o0 shc_8 rfl 5 (by decide) (ht_at2 hts 3 rfl) (fun _ h9 => h9) m613 dX5_tryOrders_126 ?_
                refine lv_iload hx hb dX5_tryOrders_129 (lv_at hl 1 rfl) ?_
                refine tw_iald (i := (nI i401)) hx hb hK hT hr_xcs shc_63 rfl (vp_in_nI (by omega) (by decide)) dX5_tryOrders_131 (fun v9 m642 h9 => ?_)
                obtain ⟨x643, rfl, gx643, kx643⟩ := h9
                have cx643 := m604.at m642 (by have q9 := tn_of (show (nI i401).toInt = ((i401 : Nat) : Int) from (nI_toInt (by omega))) (by omega); omega)
                obtain rfl : x599 = x643 := (el_same m642 m621 rfl).symm
                refine lv_i2l (v := x599.toInt64) hx hb dX5_tryOrders_132 rfl ?_
                refine lv_lsub hx hb dX5_tryOrders_133 ?_
                refine lv_topl (fun y644 ey644 => ?_)
                have t645 : y644.toInt = y640.toInt - x599.toInt := tl_s ey644 rfl ((Int32.toInt_toInt64 _).trans rfl) (by omega) (by omega)
                have dn9 := (yw_some (last := (aY i401).toInt) (d := x628.toInt) yw9 (by omega) (by omega) (by omega))
                have dc9 := dn_cash dn9 (by omega) (by omega)
                refine lv_lstore (lv' := [(9, .long y644), (8, .int x628), (7, .int (nI i401)), (0, .ref o0), (1, .int 6), (2, .int yr), (3, .long co), (5, .int ic), (6, .int lt)]) hx hb dX5_tryOrders_134 hl (by decide) rfl (fun ls hl => ?_)
                refine lv_aload_n hx hb dX5_tryOrders_136 rfl (lv_at hl 3 rfl) ?_
                refine tw_getM (v := .ref xpd) hx hb hts bF2_X5 hown hK hT hr_o0 shc_8 rfl 9 (by decide) (ht_at2 hts 2 rfl) (fun _ h9 => h9) m617 dX5_tryOrders_137 ?_
                refine lv_iload hx hb dX5_tryOrders_140 (lv_at hl 2 rfl) ?_
                refine lv_iconst (v := 1) hx hb dX5_tryOrders_142 (by decide) ?_
                refine tw_zast (i := (nI i401)) (x := 1) hx hb hK hT hG hS hr_xpd shc_67 rfl (vp_in_nI (by omega) (by decide)) (gi_z (rg_t (a := 1) (by decide) (by omega) (by omega)) (by decide) (by decide)) dX5_tryOrders_143 (fun H locs hT oq m646 oi hS => ?_)
                have hF := hF.ast hr_xpd skc_67 oq (by decide)
                have m647 := m604.kept (oq _ (gne hr_xcs hr_xpd (by decide)))
                have m648 := m605.kept (oq _ (gne hr_xls hr_xpd (by decide)))
                have m649 := m606.kept (oq _ (gne hr_xin hr_xpd (by decide)))
                have m650 := m607.kept (oq _ (gne hr_xac hr_xpd (by decide)))
                have m651 := m608.put (show el H xpd _ = some (.int 1) from m646) oi
                have m652 := m609.kept (oq _ (gne hr_xtr hr_xpd (by decide)))
                have m653 := m610.kept (oq _ (gne hr_xbe hr_xpd (by decide)))
                have m654 := (el_kept (oq _ (gne hr_o0 hr_xpd (by decide)))).trans m611
                have m655 := (el_kept (oq _ (gne hr_o0 hr_xpd (by decide)))).trans m612
                have m656 := (el_kept (oq _ (gne hr_o0 hr_xpd (by decide)))).trans m613
                have m657 := (el_kept (oq _ (gne hr_o0 hr_xpd (by decide)))).trans m614
                have m658 := (el_kept (oq _ (gne hr_o0 hr_xpd (by decide)))).trans m615
                have m659 := (el_kept (oq _ (gne hr_o0 hr_xpd (by decide)))).trans m616
                have m660 := (el_kept (oq _ (gne hr_o0 hr_xpd (by decide)))).trans m617
                have m661 := (el_kept (oq _ (gne hr_o0 hr_xpd (by decide)))).trans m618
                have m662 := (el_kept (oq _ (gne hr_o0 hr_xpd (by decide)))).trans m619
                have m663 := (el_kept (oq _ (gne hr_xcs hr_xpd (by decide)))).trans m621
                have m664 := (el_kept (oq _ (gne hr_xls hr_xpd (by decide)))).trans m624
                refine lv_aload_n hx hb dX5_tryOrders_144 rfl (lv_at hl 3 rfl) ?_
                refine tw_getM (v := .ref xtr) hx hb hts bF2_X5 hown hK hT hr_o0 shc_8 rfl 10 (by decide) (ht_at2 hts 9 rfl) (fun _ h9 => h9) m661 dX5_tryOrders_145 ?_
                refine lv_iload_n hx hb dX5_tryOrders_148 rfl (lv_at hl 4 rfl) ?_
                refine lv_iload hx hb dX5_tryOrders_149 (lv_at hl 2 rfl) ?_
                refine tw_iast (i := 6) (x := (nI i401)) hx hb hK hT hG hS hr_xtr shc_68 rfl (by unfold vp_in; decide) (gi_of (show (nI i401).toInt = ((i401 : Nat) : Int) from (nI_toInt (by omega))) (by omega) (by omega)) dX5_tryOrders_151 (fun H locs hT oq m665 oi hS => ?_)
                have hF := hF.ast hr_xtr skc_68 oq (by decide)
                have m666 := m647.kept (oq _ (gne hr_xcs hr_xtr (by decide)))
                have m667 := m648.kept (oq _ (gne hr_xls hr_xtr (by decide)))
                have m668 := m649.kept (oq _ (gne hr_xin hr_xtr (by decide)))
                have m669 := m650.kept (oq _ (gne hr_xac hr_xtr (by decide)))
                have m670 := m651.kept (oq _ (gne hr_xpd hr_xtr (by decide)))
                have m671 := m652.put m665 oi
                have m672 := m653.kept (oq _ (gne hr_xbe hr_xtr (by decide)))
                have m673 := (el_kept (oq _ (gne hr_o0 hr_xtr (by decide)))).trans m654
                have m674 := (el_kept (oq _ (gne hr_o0 hr_xtr (by decide)))).trans m655
                have m675 := (el_kept (oq _ (gne hr_o0 hr_xtr (by decide)))).trans m656
                have m676 := (el_kept (oq _ (gne hr_o0 hr_xtr (by decide)))).trans m657
                have m677 := (el_kept (oq _ (gne hr_o0 hr_xtr (by decide)))).trans m658
                have m678 := (el_kept (oq _ (gne hr_o0 hr_xtr (by decide)))).trans m659
                have m679 := (el_kept (oq _ (gne hr_o0 hr_xtr (by decide)))).trans m660
                have m680 := (el_kept (oq _ (gne hr_o0 hr_xtr (by decide)))).trans m661
                have m681 := (el_kept (oq _ (gne hr_o0 hr_xtr (by decide)))).trans m662
                have m682 := (el_kept (oq _ (gne hr_xcs hr_xtr (by decide)))).trans m663
                have m683 := (el_kept (oq _ (gne hr_xls hr_xtr (by decide)))).trans m664
                refine lv_aload_n hx hb dX5_tryOrders_152 rfl (lv_at hl 3 rfl) ?_
                refine lv_iload_n hx hb dX5_tryOrders_153 rfl (lv_at hl 4 rfl) ?_
                refine lv_iconst (v := 1) hx hb dX5_tryOrders_154 (by decide) ?_
                refine lv_iadd hx hb dX5_tryOrders_155 ?_
                refine lv_topi (fun x684 ex684 => ?_)
                obtain rfl : x684 = 7 := ex684.trans (by decide)
                refine lv_iload hx hb dX5_tryOrders_156 (lv_at hl 1 rfl) ?_
                refine lv_lload hx hb dX5_tryOrders_158 (lv_at hl 0 rfl) ?_
                refine lv_iload hx hb dX5_tryOrders_160 (lv_at hl 7 rfl) ?_
                refine lv_aload_n hx hb dX5_tryOrders_162 rfl (lv_at hl 3 rfl) ?_
                refine tw_getM (v := .ref xin) hx hb hts bF2_X5 hown hK hT hr_o0 shc_8 rfl 7 (by decide) (ht_at2 hts 10 rfl) (fun _ h9 => h9) m677 dX5_tryOrders_163 ?_
                refine lv_iload hx hb dX5_tryOrders_166 (lv_at hl 2 rfl) ?_
                refine tw_iald (i := (nI i401)) hx hb hK hT hr_xin shc_65 rfl (vp_in_nI (by omega) (by decide)) dX5_tryOrders_168 (fun v9 m685 h9 => ?_)
                obtain ⟨x686, rfl, gx686, kx686⟩ := h9
                have cx686 := m668.at m685 (by have q9 := tn_of (show (nI i401).toInt = ((i401 : Nat) : Int) from (nI_toInt (by omega))) (by omega); omega)
                have t687 : x686.toInt = (aB i401).toInt := congrArg Int32.toInt (cx686.trans (by rw [tn_nI (by omega)]))
                have t688 : 0 ≤ (aB i401).toInt ∧ (aB i401).toInt ≤ 100000 := (hrg i401 (by omega)).2.2.1
                refine lv_iadd hx hb dX5_tryOrders_169 ?_
                refine lv_topi (fun x689 ex689 => ?_)
                have t690 : x689.toInt = ic.toInt + x686.toInt := ti_add ex689 rfl rfl (by omega) (by omega)
                refine lv_iload hx hb dX5_tryOrders_170 (lv_at hl 8 rfl) ?_
                refine lv_aload_n hx hb dX5_tryOrders_172 rfl (lv_at hl 3 rfl) ?_
                refine tw_getM (v := .ref xac) hx hb hts bF2_X5 hown hK hT hr_o0 shc_8 rfl 8 (by decide) (ht_at2 hts 11 rfl) (fun _ h9 => h9) m678 dX5_tryOrders_173 ?_
                refine lv_iload hx hb dX5_tryOrders_176 (lv_at hl 2 rfl) ?_
                refine tw_iald (i := (nI i401)) hx hb hK hT hr_xac shc_66 rfl (vp_in_nI (by omega) (by decide)) dX5_tryOrders_178 (fun v9 m691 h9 => ?_)
                obtain ⟨x692, rfl, gx692, kx692⟩ := h9
                have cx692 := m669.at m691 (by have q9 := tn_of (show (nI i401).toInt = ((i401 : Nat) : Int) from (nI_toInt (by omega))) (by omega); omega)
                have t693 : x692.toInt = (aA i401).toInt := congrArg Int32.toInt (cx692.trans (by rw [tn_nI (by omega)]))
                have t694 : 0 ≤ (aA i401).toInt ∧ (aA i401).toInt ≤ 1000 := (hrg i401 (by omega)).2.2.2
                refine lv_iload hx hb dX5_tryOrders_179 (lv_at hl 1 rfl) ?_
                refine lv_imul hx hb dX5_tryOrders_181 ?_
                refine lv_topi (fun x695 ex695 => ?_)
                have t696 : x695.toInt = x692.toInt * x628.toInt := ti_mulx ex695 rfl rfl (A := 1000) (B := 200) (by omega) (by omega) (by omega) (by omega) (by decide)
                have t697 : 0 ≤ x695.toInt ∧ x695.toInt ≤ 1000 * 200 ∧ (x692.toInt = 0 → x695.toInt = 0) ∧ (x628.toInt = 0 → x695.toInt = 0) ∧ x695.toInt ≤ x692.toInt * 200 ∧ x695.toInt ≤ 1000 * x628.toInt := ti_mulnn ex695 rfl rfl (by omega) (by omega) (by omega) (by omega) (by decide)
                refine lv_iadd hx hb dX5_tryOrders_182 ?_
                refine lv_topi (fun x698 ex698 => ?_)
                have t699 : x698.toInt = lt.toInt + x695.toInt := ti_add ex698 rfl rfl (by omega) (by omega)
                have hFc := gA_free hG hA hS
                refine va_callv (va_runV (As := [.int 7, .int x628, .long y644, .int x689, .int x698]) (rest := []) ⟨hx, hb, hml, hown, hts⟩ (c_tryOrdersC7 l dC dI kA adK adV G H nC nS o0 x628 y644 x689 x698 jb z412 xcs xls xin xac xpd xtr xbe aC aY aB aA (cu vP (nI i401).toNatClampNeg (1 : Int32)) (cu V407 (6 : Int32).toNatClampNeg (nI i401)) V409 N (fun k => if k = 6 then ((i401 : Nat) : Int) else R k) (slO N 6 aC aY aB aA (pb vP) yr.toInt co.toInt ic.toInt lt.toInt R a0 i401) hT hr_o0 m673 m674 m675 hr_xcs m676 hr_xls m677 hr_xin m678 hr_xac m679 hr_xpd m680 hr_xtr m681 hr_xbe (by have q8 := ti_all x628; omega) (by have q8 := ti_all x689; omega) (by have q8 := ti_all x698; omega) (by have q8 := ti_all jb; omega) (by omega) hN hrg (sl_ok (by omega) (fun j hj => by have := (hrg j (by omega)).2.1.1; omega) (fun j hj => (hrg j (by omega)).2.2.2.1) (by omega) (by omega) hba) hj421 hj422 (rr_s (K := 6) rfl (by decide) (nI_toInt (by omega)) hj423) m666 m667 m668 m669 m670 m671 m672 (by omega) (by omega)) (cwV 5 hts (goodIn_app (goodIn_r _ [19, 20, 21, 8] rfl (by decide +kernel)) (goodIn_ca (goodIn_r _ [13, 1, 2, 10, 14, 15, 16, 17, 18] rfl (by decide +kernel)) (bs2_in _ _))) rfl rfl rfl (by decide +kernel) ⟨(Nat.le_of_ble_eq_true rfl), (Nat.le_of_ble_eq_true rfl)⟩) ⟨fun a U g mk q => by obtain ⟨q0, q1, qK, qE⟩ := q; exact ⟨q0, q1, va_K.moved (u := U) (U := U.calling g mk a) (Vm.Alike.refl U.vm) qK, EVC.blind g mk a qE⟩, gH_recv hK hT hr_o0 shc_8 rfl, fun U hU hW => ⟨rfl, hU, va_K.moved hW.alike hK, hE.call hS hFc hU hW⟩⟩ rfl rfl hl.1 rfl (lv_room (Nat.le_of_ble_eq_true rfl)) dX5_tryOrders_183 ⟨(Nat.le_of_ble_eq_true rfl), (Nat.le_of_ble_eq_true rfl)⟩) hS (fun q _ h => hFc q h) hFc (fun u t H locs ht hvm hw701 hB _ _ hS => ?_)
                obtain ⟨u702, u703, u704⟩ := u
                obtain ⟨hT, hF1, m705, m706, m707, m708⟩ := hB
                rw [ht] at hT hF1 m705 m706 m707 m708
                have m709 := m666.kept (hF1.arr hr_xcs skc_63 (by decide))
                have m710 := m667.kept (hF1.arr hr_xls skc_64 (by decide))
                have m711 := m668.kept (hF1.arr hr_xin skc_65 (by decide))
                have m712 := m669.kept (hF1.arr hr_xac skc_66 (by decide))
                have m713 := m670.kept (hF1.arr hr_xpd skc_67 (by decide))
                have m714 := m671.kept (hF1.arr hr_xtr skc_68 (by decide))
                have m716 := (hF1.fld hr_o0 skc_8 (k := 15) (by decide) (by decide)).trans m673
                have m718 := (hF1.fld hr_o0 skc_8 (k := 5) (by decide) (by decide)).trans m675
                have m719 := (hF1.fld hr_o0 skc_8 (k := 6) (by decide) (by decide)).trans m676
                have m720 := (hF1.fld hr_o0 skc_8 (k := 7) (by decide) (by decide)).trans m677
                have m721 := (hF1.fld hr_o0 skc_8 (k := 8) (by decide) (by decide)).trans m678
                have m722 := (hF1.fld hr_o0 skc_8 (k := 9) (by decide) (by decide)).trans m679
                have m723 := (hF1.fld hr_o0 skc_8 (k := 10) (by decide) (by decide)).trans m680
                have m724 := (hF1.fld hr_o0 skc_8 (k := 11) (by decide) (by decide)).trans m681
                have m725 := (el_kept (hF1.arr hr_xcs skc_63 (by decide))).trans m682
                have m726 := (el_kept (hF1.arr hr_xls skc_64 (by decide))).trans m683
                have m727 := (el_kept (hF1.arr hr_xtr skc_68 (by decide))).trans m665
                have m728 := (el_kept (hF1.arr hr_xin skc_65 (by decide))).trans m685
                have m729 := (el_kept (hF1.arr hr_xac skc_66 (by decide))).trans m691
                have hF := hF.more hF1 (by decide)
                try dsimp only at hw701
                have hf730 := hw701
                refine lv_aload_n hx hb dX5_tryOrders_186 rfl (lv_at hl 3 rfl) ?_
                refine tw_getM (v := .ref xpd) hx hb hts bF2_X5 hown hK hT hr_o0 shc_8 rfl 9 (by decide) (ht_at2 hts 2 rfl) (fun _ h9 => h9) m722 dX5_tryOrders_187 ?_
                refine lv_iload hx hb dX5_tryOrders_190 (lv_at hl 2 rfl) ?_
                refine lv_iconst (v := 0) hx hb dX5_tryOrders_192 (by decide) ?_
                refine tw_zast (i := (nI i401)) (x := 0) hx hb hK hT hG hS hr_xpd shc_67 rfl (vp_in_nI (by omega) (by decide)) (gi_z (rg_t (a := 0) (by decide) (by omega) (by omega)) (by decide) (by decide)) dX5_tryOrders_193 (fun H locs hT oq m731 oi hS => ?_)
                have hF := hF.ast hr_xpd skc_67 oq (by decide)
                have m732 := m709.kept (oq _ (gne hr_xcs hr_xpd (by decide)))
                have m733 := m710.kept (oq _ (gne hr_xls hr_xpd (by decide)))
                have m734 := m711.kept (oq _ (gne hr_xin hr_xpd (by decide)))
                have m735 := m712.kept (oq _ (gne hr_xac hr_xpd (by decide)))
                have m736 := m706.put (show el H xpd _ = some (.int 0) from m731) oi
                have m737 := m707.kept (oq _ (gne hr_xtr hr_xpd (by decide)))
                have m738 := (el_kept (oq _ (gne hr_o0 hr_xpd (by decide)))).trans m716
                have m739 := (el_kept (oq _ (gne hr_o0 hr_xpd (by decide)))).trans m718
                have m740 := (el_kept (oq _ (gne hr_o0 hr_xpd (by decide)))).trans m719
                have m741 := (el_kept (oq _ (gne hr_o0 hr_xpd (by decide)))).trans m720
                have m742 := (el_kept (oq _ (gne hr_o0 hr_xpd (by decide)))).trans m721
                have m743 := (el_kept (oq _ (gne hr_o0 hr_xpd (by decide)))).trans m722
                have m744 := (el_kept (oq _ (gne hr_o0 hr_xpd (by decide)))).trans m723
                have m745 := (el_kept (oq _ (gne hr_o0 hr_xpd (by decide)))).trans m724
                have m746 := (el_kept (oq _ (gne hr_xcs hr_xpd (by decide)))).trans m725
                have m747 := (el_kept (oq _ (gne hr_xls hr_xpd (by decide)))).trans m726
                have m748 := (el_kept (oq _ (gne hr_xtr hr_xpd (by decide)))).trans m727
                have m749 := (el_kept (oq _ (gne hr_xin hr_xpd (by decide)))).trans m728
                have m750 := (el_kept (oq _ (gne hr_xac hr_xpd (by decide)))).trans m729
                have m751 := (el_kept (oq _ (gne hr_o0 hr_xpd (by decide)))).trans m705
                have m752 := m708.kept (oq _ (gne hr_xbe hr_xpd (by decide)))
                refine lv_iinc (v := nI (i401 + 1)) (lv' := [(7, .int (nI (i401 + 1))), (9, .long y644), (8, .int x628), (0, .ref o0), (1, .int 6), (2, .int yr), (3, .long co), (5, .int ic), (6, .int lt)]) hx hb dX5_tryOrders_194 hl (k := 2) rfl (nI_add i401 1) (by decide) rfl (fun ls hl => ?_)
                refine lv_goto (tgt := 53) hx hb dX5_tryOrders_197 (by decide) ?_
                have bk9 : u702.toInt = (slO N 6 aC aY aB aA (pb vP) yr.toInt co.toInt ic.toInt lt.toInt R a0 (i401 + 1)).1 ∧ (0 ≤ (slO N 6 aC aY aB aA (pb vP) yr.toInt co.toInt ic.toInt lt.toInt R a0 (i401 + 1)).1 → ∀ k : Nat, k < N → (u704 k).toInt = (slO N 6 aC aY aB aA (pb vP) yr.toInt co.toInt ic.toInt lt.toInt R a0 (i401 + 1)).2 k) ∧ ∀ k : Nat, k < 6 → (u703 k).toInt = R k := by have q9 := hf730; rw [sl_call (N := N) (K := 6) (K1 := 7) (aC := aC) (aY := aY) (aB := aB) (aA := aA) (U := pb vP) (yr := yr.toInt) (ca := co.toInt) (ic := ic.toInt) (su := lt.toInt) (R := R) (a := a0) (i := i401) (d := x628.toInt) (c1 := y644.toInt) (i1 := x689.toInt) (s1 := x698.toInt) (U1 := pb (cu vP (nI i401).toNatClampNeg (1 : Int32))) rfl (pb_0 (tn_nI (by omega)) cx595 (by omega)) dn9 (pb_cu (tn_nI (by omega))) (by omega) (by omega) (by rw [show (aA i401).toInt = x692.toInt from by omega]; omega)] at q9; exact ⟨q9.1, q9.2.1, fun k hk => (q9.2.2 k (by omega)).trans (if_neg (by omega))⟩
                exact ih588 (i401 + 1) (by omega) (by omega) u703 u704 u702 ⟨bk9.1, bk9.2.1, bk9.2.2, (by omega)⟩ _ _ hT hF hS m732 m733 m734 m735 (m736.ext (fun _ _ => pb_r cx595 (by omega))) m737 m752 m738 m751 m739 m740 m741 m742 m743 m744 m745 ls (lv_sub hl [0, 3, 4, 5, 6, 7, 8] rfl)
            · have t753 : x595.toInt ≠ 0 := ti_ne c596 rfl (by decide)
              refine lv_iconst (v := (-1)) hx hb dX5_tryOrders_72 (by decide) ?_
              refine lv_goto (tgt := 98) hx hb dX5_tryOrders_73 (by decide) ?_
              refine lv_istore (lv' := [(8, .int (-1)), (7, .int (nI i401)), (0, .ref o0), (1, .int 6), (2, .int yr), (3, .long co), (5, .int ic), (6, .int lt)]) hx hb dX5_tryOrders_98 hl (by decide) rfl (fun ls hl => ?_)
              refine lv_iload hx hb dX5_tryOrders_100 (lv_at hl 0 rfl) ?_
              refine lv_iconst (v := (-1)) hx hb dX5_tryOrders_102 (by decide) ?_
              refine lv_icmp_eq (tgt := 194) hx hb dX5_tryOrders_103 (by decide) (fun c754 => ?_) (fun c754 => absurd c754 (by decide))
              refine lv_iinc (v := nI (i401 + 1)) (lv' := [(7, .int (nI (i401 + 1))), (8, .int (-1)), (0, .ref o0), (1, .int 6), (2, .int yr), (3, .long co), (5, .int ic), (6, .int lt)]) hx hb dX5_tryOrders_194 hl (k := 1) rfl (nI_add i401 1) (by decide) rfl (fun ls hl => ?_)
              refine lv_goto (tgt := 53) hx hb dX5_tryOrders_197 (by decide) ?_
              have bk9 : z412.toInt = (slO N 6 aC aY aB aA (pb vP) yr.toInt co.toInt ic.toInt lt.toInt R a0 (i401 + 1)).1 ∧ (0 ≤ (slO N 6 aC aY aB aA (pb vP) yr.toInt co.toInt ic.toInt lt.toInt R a0 (i401 + 1)).1 → ∀ k : Nat, k < N → (V409 k).toInt = (slO N 6 aC aY aB aA (pb vP) yr.toInt co.toInt ic.toInt lt.toInt R a0 (i401 + 1)).2 k) ∧ ∀ k : Nat, k < 6 → (V407 k).toInt = R k := by rw [sl_u (pb_1 (tn_nI (by omega)) cx595 (by omega))]; exact ⟨hj421, hj422, hj423⟩
              exact ih588 (i401 + 1) (by omega) (by omega) V407 V409 z412 ⟨bk9.1, bk9.2.1, bk9.2.2, (by omega)⟩ _ _ hT hF hS m402 m403 m404 m405 (m406.ext (fun _ _ => rfl)) m408 m410 m411 m413 m414 m415 m416 m417 m418 m419 m420 ls (lv_sub hl [0, 2, 3, 4, 5, 6, 7] rfl)
        exact key588 (7 - 0) 0 (by omega) (Nat.le_refl _) vR vZ la ⟨hla, hZ0, hR, (by omega)⟩ _ _ hT hF hS hc_aC hc_aY hc_aB hc_aA (hc_vP.ext (fun _ _ => rfl)) hc_vR hc_vZ hm_jb hm_la hm_xcs hm_xls hm_xin hm_xac hm_xpd hm_xtr hm_xbe ls (lv_sub hl [0, 1, 2, 3, 4, 5, 6] rfl)
      · have t755 : jb.toInt ≤ 6 := ti_nlt c399 (by decide) rfl
        refine lv_aload_n hx hb dX5_tryOrders_26 rfl (lv_at hl 0 rfl) ?_
        refine lv_iload hx hb dX5_tryOrders_27 (lv_at hl 5 rfl) ?_
        refine tw_put (v := .int lt) (ty := .int) hx hb hts bF2_X5 tyX5 tyX5_ok nmX5 hown hK hT hG hS hr_o0 shc_8 rfl 16 (by decide) (ht_at2 hts 0 rfl) (fun _ h9 => h9) rfl (by decide +kernel) rfl rfl (gl_at rfl (gi_all _)) dX5_tryOrders_29 (fun H locs hT oq m756 oj hS => ?_)
        have hF := hF.put hr_o0 skc_8 oq oj (by decide)
        have m757 := (oj 15 (by decide) (by decide)).trans hm_jb
        have m758 := (oj 5 (by decide) (by decide)).trans hm_xcs
        have m759 := (oj 6 (by decide) (by decide)).trans hm_xls
        have m760 := (oj 7 (by decide) (by decide)).trans hm_xin
        have m761 := (oj 8 (by decide) (by decide)).trans hm_xac
        have m762 := (oj 9 (by decide) (by decide)).trans hm_xpd
        have m763 := (oj 10 (by decide) (by decide)).trans hm_xtr
        have m764 := (oj 11 (by decide) (by decide)).trans hm_xbe
        have m765 := hc_aC.kept (oq _ (gne hr_xcs hr_o0 (by decide)))
        have m766 := hc_aY.kept (oq _ (gne hr_xls hr_o0 (by decide)))
        have m767 := hc_aB.kept (oq _ (gne hr_xin hr_o0 (by decide)))
        have m768 := hc_aA.kept (oq _ (gne hr_xac hr_o0 (by decide)))
        have m769 := hc_vP.kept (oq _ (gne hr_xpd hr_o0 (by decide)))
        have m770 := hc_vR.kept (oq _ (gne hr_xtr hr_o0 (by decide)))
        have m771 := hc_vZ.kept (oq _ (gne hr_xbe hr_o0 (by decide)))
        refine lv_aload_n hx hb dX5_tryOrders_32 rfl (lv_at hl 0 rfl) ?_
        refine tw_getM (v := .ref xtr) hx hb hts bF2_X5 hown hK hT hr_o0 shc_8 rfl 10 (by decide) (ht_at2 hts 9 rfl) (fun _ h9 => h9) m763 dX5_tryOrders_33 ?_
        refine lv_iconst (v := 0) hx hb dX5_tryOrders_36 (by decide) ?_
        refine lv_aload_n hx hb dX5_tryOrders_37 rfl (lv_at hl 0 rfl) ?_
        refine tw_getM (v := .ref xbe) hx hb hts bF2_X5 hown hK hT hr_o0 shc_8 rfl 11 (by decide) (ht_at2 hts 13 rfl) (fun _ h9 => h9) m764 dX5_tryOrders_38 ?_
        refine lv_iconst (v := 0) hx hb dX5_tryOrders_41 (by decide) ?_
        refine lv_aload_n hx hb dX5_tryOrders_42 rfl (lv_at hl 0 rfl) ?_
        refine tw_getM (v := .int jb) hx hb hts bF2_X5 hown hK hT hr_o0 shc_8 rfl 15 (by decide) (ht_at2 hts 1 rfl) (fun _ h9 => h9) m757 dX5_tryOrders_43 ?_
        refine tw_copyE (ty := .int) hx hb (hml.trans hl.1.symm) hown (ht_at2 hts 14 rfl) (ht_at2 hts 15 rfl) (ht_at2 hts 16 rfl) (ht_at2 hts 17 rfl) hK hT hG hS hr_xtr hr_xbe shc_68 shc_69 rfl rfl (by decide) (by decide) (fun h9 => by have q9 := ti_lt h9 rfl (show (0 : Int32).toInt = 0 from by decide); omega) (by have q9 := tn_of (show jb.toInt = jb.toInt from rfl) (by omega); have q8 : (0 : Int32).toNatClampNeg = 0 := (by decide); omega) (by have q9 := tn_of (show jb.toInt = jb.toInt from rfl) (by omega); have q8 : (0 : Int32).toNatClampNeg = 0 := (by decide); omega) (by decide) (by decide) (fun _ _ h9 => by obtain ⟨x9, e9, _⟩ := h9; exact ⟨x9, e9, rfl⟩) (fun _ _ _ h9 => by obtain ⟨x9, e9, a9, b9⟩ := h9; exact ⟨x9, e9, by omega, by omega⟩) (Nat.le_of_ble_eq_true rfl) (Nat.le_of_ble_eq_true rfl) dX5_tryOrders_46 (fun H locs hT oq ce772 hS => ?_)
        have hF := hF.ast hr_xbe skc_69 oq (by decide)
        have m773 := (el_kept (oq _ (gne hr_o0 hr_xbe (by decide)))).trans m757
        have m774 := (el_kept (oq _ (gne hr_o0 hr_xbe (by decide)))).trans m758
        have m775 := (el_kept (oq _ (gne hr_o0 hr_xbe (by decide)))).trans m759
        have m776 := (el_kept (oq _ (gne hr_o0 hr_xbe (by decide)))).trans m760
        have m777 := (el_kept (oq _ (gne hr_o0 hr_xbe (by decide)))).trans m761
        have m778 := (el_kept (oq _ (gne hr_o0 hr_xbe (by decide)))).trans m762
        have m779 := (el_kept (oq _ (gne hr_o0 hr_xbe (by decide)))).trans m763
        have m780 := (el_kept (oq _ (gne hr_o0 hr_xbe (by decide)))).trans m764
        have m781 := m765.kept (oq _ (gne hr_xcs hr_xbe (by decide)))
        have m782 := m766.kept (oq _ (gne hr_xls hr_xbe (by decide)))
        have m783 := m767.kept (oq _ (gne hr_xin hr_xbe (by decide)))
        have m784 := m768.kept (oq _ (gne hr_xac hr_xbe (by decide)))
        have m785 := m769.kept (oq _ (gne hr_xpd hr_xbe (by decide)))
        have m786 := m770.kept (oq _ (gne hr_xtr hr_xbe (by decide)))
        have m787 := (el_kept (oq _ (gne hr_o0 hr_xbe (by decide)))).trans m756
        obtain ⟨V788, m789, kV788⟩ := ct_of hT hr_xbe shc_69
        have cq790 : ∀ k : Nat, ((k : Nat) : Int) < jb.toInt → V788 k = vR k := fun k hk => Value.int.inj (Option.some.inj ((m789 k (by omega)).symm.trans ((ce772 k (by have q9 := tn_of (show jb.toInt = jb.toInt from rfl) (by omega); omega)).trans (m770 k (by omega)))))
        exact W.vret hx hb hr (fun t ht hW => ⟨⟨(lt, vR, V788), rfl, (by exact (by (try dsimp only); have e9 : N = 6 := (by omega); rw [sx_0 e9, if_neg (by omega)]; exact ⟨rfl, fun _ k hk => (congrArg Int32.toInt (cq790 k (by omega))).trans (hR k (by omega)), hR⟩)), by (try dsimp only); rw [ht]; exact ⟨hT, hF, m787, m785, m786, m789⟩⟩, hS.F ht⟩) hS.2.2 dX5_tryOrders_49
    · have t791 : la.toInt ≤ lt.toInt := ti_nlt c397 rfl rfl
      exact W.vret hx hb hr (fun t ht hW => ⟨⟨(la, vR, vZ), rfl, (by exact (by (try dsimp only); rw [sx_cut (fun j hj => by have := (hrg j (by omega)).2.1.1; omega) (fun j hj => (hrg j (by omega)).2.2.2.1) (by omega) ⟨by omega, by omega⟩]; exact ⟨by omega, hZ0, hR⟩)), by (try dsimp only); rw [ht]; exact ⟨hT, hF, hm_la, hc_vP, hc_vR, hc_vZ⟩⟩, hS.F ht⟩) hS.2.2 dX5_tryOrders_17
def w_c_tryOrdersC5 : List Cond := .code yX5_tryOrders cX5_tryOrders 11 none :: (HAppend.hAppend (α := List Cond) (β := List Cond) (γ := List Cond) [.fieldLink RX5 157 "SeaLand$Plans" "bestLate" "I", .fieldLink RX5 154 "SeaLand$Plans" "jobs" "I", .fieldLink RX5 41 "SeaLand$Plans" "placed" "[Z", .fieldLink RX5 29 "SeaLand$Plans" "costs" "[I", .code yX5_yearWithCost cX5_yearWithCost 5 (some .int), .methodLink RX5 164 yX5_yearWithCost, .static yX5_yearWithCost, .initialized RX5, .fieldLink RX5 32 "SeaLand$Plans" "lasts" "[I", .fieldLink RX5 45 "SeaLand$Plans" "trial" "[I", .fieldLink RX5 35 "SeaLand$Plans" "incomes" "[I", .fieldLink RX5 38 "SeaLand$Plans" "acres" "[I", .code yX5_tryOrders cX5_tryOrders 11 none, .fieldLink RX5 48 "SeaLand$Plans" "best" "[I", .methodLink RX5 100 arraycopyName, .native arraycopyName, .static arraycopyName, .initialized "java/lang/System", .methodLink RX5 160 yX5_tryOrders, .instanceMethod yX5_tryOrders, .selects RX5 yX5_tryOrders yX5_tryOrders] bs2)
set_option maxHeartbeats 4000000 in
set_option maxRecDepth 100000 in
theorem c_tryOrdersC5 (l : Launch) (dC : Nat → ClassId) (dI : Nat → Nat → Nat) (kA : Nat → ClassId) (adK adV : Nat → Nat) (G : gT) (H0 : Heap) (nC nS : Int) (o0 : Nat) (yr : Int32) (co : Int64) (ic : Int32) (lt : Int32) (jb : Int32) (la : Int32) (xcs : Nat) (xls : Nat) (xin : Nat) (xac : Nat) (xpd : Nat) (xtr : Nat) (xbe : Nat) (aC : Nat → Int32) (aY : Nat → Int32) (aB : Nat → Int32) (aA : Nat → Int32) (vP : Nat → Int32) (vR : Nat → Int32) (vZ : Nat → Int32) (N : Nat) (R : Nat → Int) (a0 : oA) (hT : gH (dC, dI) kA (SHc nC nS) G H0) (hr_o0 : G o0 = some 8) (hm_jb : el H0 o0 (dI 8 15) = some (.int jb)) (hm_la : el H0 o0 (dI 8 16) = some (.int la)) (hm_xcs : el H0 o0 (dI 8 5) = some (.ref xcs)) (hr_xcs : G xcs = some 63) (hm_xls : el H0 o0 (dI 8 6) = some (.ref xls)) (hr_xls : G xls = some 64) (hm_xin : el H0 o0 (dI 8 7) = some (.ref xin)) (hr_xin : G xin = some 65) (hm_xac : el H0 o0 (dI 8 8) = some (.ref xac)) (hr_xac : G xac = some 66) (hm_xpd : el H0 o0 (dI 8 9) = some (.ref xpd)) (hr_xpd : G xpd = some 67) (hm_xtr : el H0 o0 (dI 8 10) = some (.ref xtr)) (hr_xtr : G xtr = some 68) (hm_xbe : el H0 o0 (dI 8 11) = some (.ref xbe)) (hr_xbe : G xbe = some 69) (hq0 : 0 ≤ yr.toInt ∧ yr.toInt ≤ 200) (hq1 : 0 ≤ ic.toInt ∧ ic.toInt ≤ 500000) (hq2 : 0 ≤ lt.toInt ∧ lt.toInt ≤ 1000000) (hq3 : 5 ≤ jb.toInt ∧ jb.toInt ≤ 7) (hco : 0 ≤ co.toInt ∧ co.toInt ≤ 201000000) (hN : jb.toInt = ((N : Nat) : Int)) (hrg : joR jb.toInt aC aY aB aA) (hba : a0.1 = -1 ∨ 0 ≤ a0.1) (hla : la.toInt = a0.1) (hZ0 : 0 ≤ a0.1 → ∀ k : Nat, k < N → (vZ k).toInt = a0.2 k) (hR : ∀ k : Nat, k < 5 → (vR k).toInt = R k) (hc_aC : ct H0 xcs 7 aC) (hc_aY : ct H0 xls 7 aY) (hc_aB : ct H0 xin 7 aB) (hc_aA : ct H0 xac 7 aA) (hc_vP : ct H0 xpd 7 vP) (hc_vR : ct H0 xtr 7 vR) (hc_vZ : ct H0 xbe 7 vZ) (hgC : 0 ≤ nC ∧ nC ≤ 40) (hgS : 0 ≤ nS ∧ nS ≤ 60) : Met l yX5_tryOrders w_c_tryOrdersC5 ({ frames := 4, cells := 0, slots := 0, locals := 120 }) (va_Pc [.ref o0, .int 5, .int yr, .long co, .int ic, .int lt] (fun U => U.heap = H0 ∧ va_K (dC, dI) vwCl (tyl kA) U ∧ EVC adK adV (gA G H0.size) U U.heap)) (va_Qv (fun (u : Int32 × (Nat → Int32) × (Nat → Int32)) => match u with | (la1, vR1, vZ1) => (la1.toInt = (sx N 5 aC aY aB aA (pb vP) yr.toInt co.toInt ic.toInt lt.toInt R a0).1 ∧ (0 ≤ (sx N 5 aC aY aB aA (pb vP) yr.toInt co.toInt ic.toInt lt.toInt R a0).1 → ∀ k : Nat, k < N → (vZ1 k).toInt = (sx N 5 aC aY aB aA (pb vP) yr.toInt co.toInt ic.toInt lt.toInt R a0).2 k) ∧ ∀ k : Nat, k < 5 → (vR1 k).toInt = R k)) (fun (u : Int32 × (Nat → Int32) × (Nat → Int32)) (t : State) => match u with | (la1, vR1, vZ1) => gH (dC, dI) kA (SHc nC nS) G t.heap ∧ gF (dC, dI) SKc G ([(8, 16), (67, 0), (68, 0), (69, 0)] : List (Nat × Nat)) H0 t.heap ∧ el t.heap o0 (dI 8 16) = some (.int la1) ∧ ct t.heap xpd 7 vP ∧ ct t.heap xtr 7 vR1 ∧ ct t.heap xbe 7 vZ1) (gA G H0.size)) 0 0 (gA G H0.size) := by
  refine Met.ofW (cc := cX5_tryOrders) (maxL := 11) (ret := none) (by decide) rfl ?_
  intro p e s m args below meth c s₁ B hml hv
  obtain ⟨rfl, hH0, hK, hE⟩ := hv
  have hx := B.exec
  have hb := B.bytes
  have hr := B.returns
  have hts := atoms_spec (ws := w_c_tryOrdersC5) B.pre
  have hown : s.vm.findClass RX5 = some m.cls := findClass_of_methodNamed B.named
  have hlocks := B.notSynchronized
  subst hH0
  generalize hAe : gA G s.heap.size = A at hE ⊢
  have hA : ∀ q : Nat, s.heap.size ≤ q → A q := fun q h => by rw [← hAe]; exact Or.inr h
  have hG := gA_of hAe
  have hS : va_S A s.heap s.heap [] := va_S.rf
  have hF : gF (dC, dI) SKc G ([(8, 16), (67, 0), (68, 0), (69, 0)] : List (Nat × Nat)) s.heap s.heap := gF.rf
  have hl := lv_entry ([.ref o0, .int 5, .int yr, .long co, .int ic, .int lt]) (n := 11) (Nat.le_of_ble_eq_true rfl)
  rw [lg_entry_eq]
  generalize (lg_sl ([.ref o0, .int 5, .int yr, .long co, .int ic, .int lt]) ++ List.replicate (11 - (lg_sl ([.ref o0, .int 5, .int yr, .long co, .int ic, .int lt])).length) Slot.unset).toArray = ls at hl ⊢
  have hl : lv_has ls 11 [(0, .ref o0), (1, .int 5), (2, .int yr), (3, .long co), (5, .int ic), (6, .int lt)] := hl
  refine lv_aload_n hx hb dX5_tryOrders_0 rfl (lv_at hl 0 rfl) ?_
  refine tw_getM (v := .int la) hx hb hts bF2_X5 hown hK hT hr_o0 shc_8 rfl 16 (by decide) (ht_at2 hts 0 rfl) (fun _ h9 => h9) hm_la dX5_tryOrders_1 ?_
  refine lv_iconst (v := (-1)) hx hb dX5_tryOrders_4 (by decide) ?_
  have t1 : -2147483648 ≤ la.toInt ∧ la.toInt ≤ 2147483647 := ti_all la
  refine lv_icmp_eq (tgt := 18) hx hb dX5_tryOrders_5 (by decide) (fun c2 => ?_) (fun c2 => ?_)
  · have t3 : la.toInt = (-1) := ti_eq c2 rfl (by decide)
    refine lv_iload_n hx hb dX5_tryOrders_18 rfl (lv_at hl 1 rfl) ?_
    refine lv_aload_n hx hb dX5_tryOrders_19 rfl (lv_at hl 0 rfl) ?_
    refine tw_getM (v := .int jb) hx hb hts bF2_X5 hown hK hT hr_o0 shc_8 rfl 15 (by decide) (ht_at2 hts 1 rfl) (fun _ h9 => h9) hm_jb dX5_tryOrders_20 ?_
    refine lv_icmp_lt (tgt := 50) hx hb dX5_tryOrders_23 (by decide) (fun c4 => ?_) (fun c4 => ?_)
    · have t5 : 5 < jb.toInt := ti_lt c4 (by decide) rfl
      refine lv_iconst (v := 0) hx hb dX5_tryOrders_50 (by decide) ?_
      refine lv_istore (lv' := [(7, .int 0), (0, .ref o0), (1, .int 5), (2, .int yr), (3, .long co), (5, .int ic), (6, .int lt)]) hx hb dX5_tryOrders_51 hl (by decide) rfl (fun ls hl => ?_)
      have key193 : ∀ (n193 i6 : Nat), i6 + n193 = 7 → 0 ≤ i6 → ∀ (V12 : Nat → Int32), ∀ (V14 : Nat → Int32), ∀ (z17 : Int32), ((z17.toInt = (slO N 5 aC aY aB aA (pb vP) yr.toInt co.toInt ic.toInt lt.toInt R a0 i6).1) ∧ (0 ≤ (slO N 5 aC aY aB aA (pb vP) yr.toInt co.toInt ic.toInt lt.toInt R a0 i6).1 → ∀ k : Nat, k < N → (V14 k).toInt = (slO N 5 aC aY aB aA (pb vP) yr.toInt co.toInt ic.toInt lt.toInt R a0 i6).2 k) ∧ (∀ k : Nat, k < 5 → (V12 k).toInt = R k) ∧ (((i6 : Nat) : Int) ≤ jb.toInt)) → ∀ (H : Heap) (locs : List Loc), gH (dC, dI) kA (SHc nC nS) G H → gF (dC, dI) SKc G ([(8, 16), (67, 0), (68, 0), (69, 0)] : List (Nat × Nat)) s.heap H → va_S A s.heap H locs → ct H xcs 7 aC → ct H xls 7 aY → ct H xin 7 aB → ct H xac 7 aA → ct H xpd 7 vP → ct H xtr 7 V12 → ct H xbe 7 V14 → el H o0 (dI 8 15) = some (.int jb) → el H o0 (dI 8 16) = some (.int z17) → el H o0 (dI 8 5) = some (.ref xcs) → el H o0 (dI 8 6) = some (.ref xls) → el H o0 (dI 8 7) = some (.ref xin) → el H o0 (dI 8 8) = some (.ref xac) → el H o0 (dI 8 9) = some (.ref xpd) → el H o0 (dI 8 10) = some (.ref xtr) → el H o0 (dI 8 11) = some (.ref xbe) → ∀ ls : Array Slot, lv_has ls 11 [(7, .int (nI i6)), (0, .ref o0), (1, .int 5), (2, .int yr), (3, .long co), (5, .int ic), (6, .int lt)] → W p l e (headSpec w_c_tryOrdersC5 ({ frames := 4, cells := 0, slots := 0, locals := 120 })).room s m #[.ref o0, .int 5, .int yr, .long co, .int ic, .int lt] below meth c H locs 0 0 (MQ below (va_Qv (fun (u : Int32 × (Nat → Int32) × (Nat → Int32)) => match u with | (la1, vR1, vZ1) => (la1.toInt = (sx N 5 aC aY aB aA (pb vP) yr.toInt co.toInt ic.toInt lt.toInt R a0).1 ∧ (0 ≤ (sx N 5 aC aY aB aA (pb vP) yr.toInt co.toInt ic.toInt lt.toInt R a0).1 → ∀ k : Nat, k < N → (vZ1 k).toInt = (sx N 5 aC aY aB aA (pb vP) yr.toInt co.toInt ic.toInt lt.toInt R a0).2 k) ∧ ∀ k : Nat, k < 5 → (vR1 k).toInt = R k)) (fun (u : Int32 × (Nat → Int32) × (Nat → Int32)) (t : State) => match u with | (la1, vR1, vZ1) => gH (dC, dI) kA (SHc nC nS) G t.heap ∧ gF (dC, dI) SKc G ([(8, 16), (67, 0), (68, 0), (69, 0)] : List (Nat × Nat)) s.heap t.heap ∧ el t.heap o0 (dI 8 16) = some (.int la1) ∧ ct t.heap xpd 7 vP ∧ ct t.heap xtr 7 vR1 ∧ ct t.heap xbe 7 vZ1) A) #[.ref o0, .int 5, .int yr, .long co, .int ic, .int lt] s 0 0 A) (F0 m 53 ls []) := by
        intro n193
        induction n193 with
        | zero =>
          intro i6 hn193 hlo194 V12 V14 z17 ⟨hj26, hj27, hj28, hj29⟩ H locs hT hF hS m7 m8 m9 m10 m11 m13 m15 m16 m18 m19 m20 m21 m22 m23 m24 m25 ls hl
          obtain rfl : 7 = i6 := by omega
          refine lv_iload hx hb dX5_tryOrders_53 (lv_at hl 0 rfl) ?_
          refine lv_aload_n hx hb dX5_tryOrders_55 rfl (lv_at hl 1 rfl) ?_
          refine tw_getM (v := .int jb) hx hb hts bF2_X5 hown hK hT hr_o0 shc_8 rfl 15 (by decide) (ht_at2 hts 1 rfl) (fun _ h9 => h9) m16 dX5_tryOrders_56 ?_
          refine lv_icmp_ge (tgt := 200) hx hb dX5_tryOrders_59 (by decide) (fun c195 => ?_) (fun c195 => (by exfalso; have q9 : ((7 : Nat) : Int) < jb.toInt := ti_nle c195 rfl (nI_toInt (by omega)); omega))
          have t196 : jb.toInt ≤ ((7 : Nat) : Int) := ti_le c195 rfl (nI_toInt (by omega))
          exact W.vret hx hb hr (fun t ht hW => ⟨⟨(z17, V12, V14), rfl, (by exact (by (try dsimp only); have e9 : N = 7 := (by omega); rw [sx_s (by omega)]; subst e9; exact ⟨hj26, hj27, hj28⟩)), by (try dsimp only); rw [ht]; exact ⟨hT, hF, m18, m11, m13, m15⟩⟩, hS.F ht⟩) hS.2.2 dX5_tryOrders_200
        | succ n193 ih193 =>
          intro i6 hn193 hlo194 V12 V14 z17 ⟨hj26, hj27, hj28, hj29⟩ H locs hT hF hS m7 m8 m9 m10 m11 m13 m15 m16 m18 m19 m20 m21 m22 m23 m24 m25 ls hl
          have hlt196 : i6 < 7 := by omega
          refine lv_iload hx hb dX5_tryOrders_53 (lv_at hl 0 rfl) ?_
          refine lv_aload_n hx hb dX5_tryOrders_55 rfl (lv_at hl 1 rfl) ?_
          refine tw_getM (v := .int jb) hx hb hts bF2_X5 hown hK hT hr_o0 shc_8 rfl 15 (by decide) (ht_at2 hts 1 rfl) (fun _ h9 => h9) m16 dX5_tryOrders_56 ?_
          refine lv_icmp_ge (tgt := 200) hx hb dX5_tryOrders_59 (by decide) (fun c197 => ?_) (fun c197 => ?_)
          · have t198 : jb.toInt ≤ ((i6 : Nat) : Int) := ti_le c197 rfl (nI_toInt (by omega))
            exact W.vret hx hb hr (fun t ht hW => ⟨⟨(z17, V12, V14), rfl, (by exact (by (try dsimp only); have e9 : N = i6 := (by omega); rw [sx_s (by omega)]; subst e9; exact ⟨hj26, hj27, hj28⟩)), by (try dsimp only); rw [ht]; exact ⟨hT, hF, m18, m11, m13, m15⟩⟩, hS.F ht⟩) hS.2.2 dX5_tryOrders_200
          · have t199 : ((i6 : Nat) : Int) < jb.toInt := ti_nle c197 rfl (nI_toInt (by omega))
            refine lv_aload_n hx hb dX5_tryOrders_62 rfl (lv_at hl 1 rfl) ?_
            refine tw_getM (v := .ref xpd) hx hb hts bF2_X5 hown hK hT hr_o0 shc_8 rfl 9 (by decide) (ht_at2 hts 2 rfl) (fun _ h9 => h9) m23 dX5_tryOrders_63 ?_
            refine lv_iload hx hb dX5_tryOrders_66 (lv_at hl 0 rfl) ?_
            refine tw_zald (i := (nI i6)) hx hb hK hT hr_xpd shc_67 rfl (vp_in_nI (by omega) (by decide)) dX5_tryOrders_68 (fun v9 m200 h9 => ?_)
            obtain ⟨x201, rfl, gx201, kx201⟩ := h9
            have cx201 := m11.at m200 (by have q9 := tn_of (show (nI i6).toInt = ((i6 : Nat) : Int) from (nI_toInt (by omega))) (by omega); omega)
            refine lv_if_eq (tgt := 76) hx hb dX5_tryOrders_69 (by decide) (fun c202 => ?_) (fun c202 => ?_)
            · have t203 : x201.toInt = 0 := ti_eq c202 rfl (by decide)
              refine lv_iload_n hx hb dX5_tryOrders_76 rfl (lv_at hl 3 rfl) ?_
              refine lv_lload_n hx hb dX5_tryOrders_77 rfl (lv_at hl 4 rfl) ?_
              refine lv_iload hx hb dX5_tryOrders_78 (lv_at hl 5 rfl) ?_
              refine lv_aload_n hx hb dX5_tryOrders_80 rfl (lv_at hl 1 rfl) ?_
              refine tw_getM (v := .ref xcs) hx hb hts bF2_X5 hown hK hT hr_o0 shc_8 rfl 5 (by decide) (ht_at2 hts 3 rfl) (fun _ h9 => h9) m19 dX5_tryOrders_81 ?_
              refine lv_iload hx hb dX5_tryOrders_84 (lv_at hl 0 rfl) ?_
              refine tw_iald (i := (nI i6)) hx hb hK hT hr_xcs shc_63 rfl (vp_in_nI (by omega) (by decide)) dX5_tryOrders_86 (fun v9 m204 h9 => ?_)
              obtain ⟨x205, rfl, gx205, kx205⟩ := h9
              have cx205 := m7.at m204 (by have q9 := tn_of (show (nI i6).toInt = ((i6 : Nat) : Int) from (nI_toInt (by omega))) (by omega); omega)
              have t206 : x205.toInt = (aC i6).toInt := congrArg Int32.toInt (cx205.trans (by rw [tn_nI (by omega)]))
              have t207 : 0 ≤ (aC i6).toInt ∧ (aC i6).toInt ≤ 1000000 := (hrg i6 (by omega)).1
              have hFc := gA_free hG hA hS
              refine va_calli (va_runS (As := [.int yr, .long co, .int ic, .int x205]) (rest := []) ⟨hx, hb, hml, hown, hts⟩ (c_yearC l dC dI kA adK adV G H nC nS yr co ic x205 hT (by have q8 := ti_all yr; omega) (by have q8 := ti_all ic; omega) (by have q8 := ti_all x205; omega) (by omega) (by omega) (by omega)) (va_cwS 4 hts (goodIn_app (goodIn_r _ [6, 7, 8] rfl (by decide +kernel)) (goodIn_ca (goodIn_r _ [5] rfl (by decide +kernel)) (bs2_in _ _))) rfl rfl rfl (by decide +kernel) ⟨(Nat.le_of_ble_eq_true rfl), (Nat.le_of_ble_eq_true rfl)⟩) ⟨fun a U g mk q => by obtain ⟨q0, q1, qK, qE⟩ := q; exact ⟨q0, q1, va_K.moved (u := U) (U := U.calling g mk a) (Vm.Alike.refl U.vm) qK, EVC.blind g mk a qE⟩, fun U hU hW => ⟨rfl, hU, va_K.moved hW.alike hK, hE.call hS hFc hU hW⟩⟩ rfl rfl hl.1 rfl (lv_room (Nat.le_of_ble_eq_true rfl)) dX5_tryOrders_87 ⟨(Nat.le_of_ble_eq_true rfl), (Nat.le_of_ble_eq_true rfl)⟩) hS (fun q _ h => hFc q h) hFc (fun r208 u t H locs ht hvm hw209 hB _ _ hS => ?_)
              obtain ⟨hT, hF1⟩ := hB
              rw [ht] at hT hF1
              have m210 := m7.kept (hF1.arr hr_xcs skc_63 (by decide))
              have m211 := m8.kept (hF1.arr hr_xls skc_64 (by decide))
              have m212 := m9.kept (hF1.arr hr_xin skc_65 (by decide))
              have m213 := m10.kept (hF1.arr hr_xac skc_66 (by decide))
              have m214 := m11.kept (hF1.arr hr_xpd skc_67 (by decide))
              have m215 := m13.kept (hF1.arr hr_xtr skc_68 (by decide))
              have m216 := m15.kept (hF1.arr hr_xbe skc_69 (by decide))
              have m217 := (hF1.fld hr_o0 skc_8 (k := 15) (by decide) (by decide)).trans m16
              have m218 := (hF1.fld hr_o0 skc_8 (k := 16) (by decide) (by decide)).trans m18
              have m219 := (hF1.fld hr_o0 skc_8 (k := 5) (by decide) (by decide)).trans m19
              have m220 := (hF1.fld hr_o0 skc_8 (k := 6) (by decide) (by decide)).trans m20
              have m221 := (hF1.fld hr_o0 skc_8 (k := 7) (by decide) (by decide)).trans m21
              have m222 := (hF1.fld hr_o0 skc_8 (k := 8) (by decide) (by decide)).trans m22
              have m223 := (hF1.fld hr_o0 skc_8 (k := 9) (by decide) (by decide)).trans m23
              have m224 := (hF1.fld hr_o0 skc_8 (k := 10) (by decide) (by decide)).trans m24
              have m225 := (hF1.fld hr_o0 skc_8 (k := 11) (by decide) (by decide)).trans m25
              have m226 := (el_kept (hF1.arr hr_xpd skc_67 (by decide))).trans m200
              have m227 := (el_kept (hF1.arr hr_xcs skc_63 (by decide))).trans m204
              have hF := hF.more hF1 (by decide)
              try dsimp only at hw209
              obtain ⟨h228, hf229⟩ := hw209
              have yw9 : yw yr.toInt co.toInt ic.toInt (aC i6).toInt r208.toInt := by rw [show (aC i6).toInt = x205.toInt from by omega]; exact hf229
              refine lv_aload_n hx hb dX5_tryOrders_90 rfl (lv_at hl 1 rfl) ?_
              refine tw_getM (v := .ref xls) hx hb hts bF2_X5 hown hK hT hr_o0 shc_8 rfl 6 (by decide) (ht_at2 hts 8 rfl) (fun _ h9 => h9) m220 dX5_tryOrders_91 ?_
              refine lv_iload hx hb dX5_tryOrders_94 (lv_at hl 0 rfl) ?_
              refine tw_iald (i := (nI i6)) hx hb hK hT hr_xls shc_64 rfl (vp_in_nI (by omega) (by decide)) dX5_tryOrders_96 (fun v9 m230 h9 => ?_)
              obtain ⟨x231, rfl, gx231, kx231⟩ := h9
              have cx231 := m211.at m230 (by have q9 := tn_of (show (nI i6).toInt = ((i6 : Nat) : Int) from (nI_toInt (by omega))) (by omega); omega)
              have t232 : x231.toInt = (aY i6).toInt := congrArg Int32.toInt (cx231.trans (by rw [tn_nI (by omega)]))
              have t233 : 1 ≤ (aY i6).toInt ∧ (aY i6).toInt ≤ 20 := (hrg i6 (by omega)).2.1
              refine lv_iadd hx hb dX5_tryOrders_97 ?_
              refine lv_topi (fun x234 ex234 => ?_)
              have t235 : x234.toInt = r208.toInt + x231.toInt := ti_add ex234 rfl rfl (by omega) (by omega)
              refine lv_istore (lv' := [(8, .int x234), (7, .int (nI i6)), (0, .ref o0), (1, .int 5), (2, .int yr), (3, .long co), (5, .int ic), (6, .int lt)]) hx hb dX5_tryOrders_98 hl (by decide) rfl (fun ls hl => ?_)
              refine lv_iload hx hb dX5_tryOrders_100 (lv_at hl 0 rfl) ?_
              refine lv_iconst (v := (-1)) hx hb dX5_tryOrders_102 (by decide) ?_
              refine lv_icmp_eq (tgt := 194) hx hb dX5_tryOrders_103 (by decide) (fun c236 => (by exfalso; have q9 : x234.toInt = (-1) := ti_eq c236 rfl (by decide); omega)) (fun c236 => ?_)
              have t237 : x234.toInt ≠ (-1) := ti_ne c236 rfl (by decide)
              refine lv_iload hx hb dX5_tryOrders_106 (lv_at hl 0 rfl) ?_
              refine lv_sipush (v := 200) hx hb dX5_tryOrders_108 (by decide) ?_
              refine lv_icmp_gt (tgt := 194) hx hb dX5_tryOrders_111 (by decide) (fun c238 => ?_) (fun c238 => ?_)
              · have t239 : 200 < x234.toInt := ti_lt c238 (by decide) rfl
                refine lv_iinc (v := nI (i6 + 1)) (lv' := [(7, .int (nI (i6 + 1))), (8, .int x234), (0, .ref o0), (1, .int 5), (2, .int yr), (3, .long co), (5, .int ic), (6, .int lt)]) hx hb dX5_tryOrders_194 hl (k := 1) rfl (nI_add i6 1) (by decide) rfl (fun ls hl => ?_)
                refine lv_goto (tgt := 53) hx hb dX5_tryOrders_197 (by decide) ?_
                have bk9 : z17.toInt = (slO N 5 aC aY aB aA (pb vP) yr.toInt co.toInt ic.toInt lt.toInt R a0 (i6 + 1)).1 ∧ (0 ≤ (slO N 5 aC aY aB aA (pb vP) yr.toInt co.toInt ic.toInt lt.toInt R a0 (i6 + 1)).1 → ∀ k : Nat, k < N → (V14 k).toInt = (slO N 5 aC aY aB aA (pb vP) yr.toInt co.toInt ic.toInt lt.toInt R a0 (i6 + 1)).2 k) ∧ ∀ k : Nat, k < 5 → (V12 k).toInt = R k := by rw [sl_n (yw_none yw9 (by omega) (by omega))]; exact ⟨hj26, hj27, hj28⟩
                exact ih193 (i6 + 1) (by omega) (by omega) V12 V14 z17 ⟨bk9.1, bk9.2.1, bk9.2.2, (by omega)⟩ _ _ hT hF hS m210 m211 m212 m213 (m214.ext (fun _ _ => rfl)) m215 m216 m217 m218 m219 m220 m221 m222 m223 m224 m225 ls (lv_sub hl [0, 2, 3, 4, 5, 6, 7] rfl)
              · have t240 : x234.toInt ≤ 200 := ti_nlt c238 (by decide) rfl
                refine lv_lload_n hx hb dX5_tryOrders_114 rfl (lv_at hl 5 rfl) ?_
                refine lv_iload hx hb dX5_tryOrders_115 (lv_at hl 6 rfl) ?_
                refine lv_i2l (v := ic.toInt64) hx hb dX5_tryOrders_117 rfl ?_
                refine lv_iload hx hb dX5_tryOrders_118 (lv_at hl 0 rfl) ?_
                refine lv_iload_n hx hb dX5_tryOrders_120 rfl (lv_at hl 4 rfl) ?_
                refine lv_isub hx hb dX5_tryOrders_121 ?_
                refine lv_topi (fun x241 ex241 => ?_)
                have t242 : x241.toInt = x234.toInt - yr.toInt := ti_sub ex241 rfl rfl (by omega) (by omega)
                refine lv_i2l (v := x241.toInt64) hx hb dX5_tryOrders_122 rfl ?_
                refine lv_lmul hx hb dX5_tryOrders_123 ?_
                refine lv_topl (fun y243 ey243 => ?_)
                have t244 : y243.toInt = ic.toInt * x241.toInt ∧ -(500000 * 200) ≤ y243.toInt ∧ y243.toInt ≤ 500000 * 200 := tl_m ey243 ((Int32.toInt_toInt64 _).trans rfl) ((Int32.toInt_toInt64 _).trans rfl) (A := 500000) (B := 200) (by omega) (by omega) (by omega) (by omega) (by decide)
                have t245 : y243.toInt = ic.toInt * (x234.toInt - yr.toInt) := (by rw [show x234.toInt - yr.toInt = x241.toInt from by omega]; omega)
                refine lv_ladd hx hb dX5_tryOrders_124 ?_
                refine lv_topl (fun y246 ey246 => ?_)
                have t247 : y246.toInt = co.toInt + y243.toInt := tl_a ey246 rfl rfl (by omega) (by omega)
                refine lv_aload_n hx hb dX5_tryOrders_125 rfl (lv_at hl 2 rfl) ?_
                refine tw_getM (v := .ref xcs) hx hb hts bF2_X5 hown hK hT hr_o0 shc_8 rfl 5 (by decide) (ht_at2 hts 3 rfl) (fun _ h9 => h9) m219 dX5_tryOrders_126 ?_
                refine lv_iload hx hb dX5_tryOrders_129 (lv_at hl 1 rfl) ?_
                refine tw_iald (i := (nI i6)) hx hb hK hT hr_xcs shc_63 rfl (vp_in_nI (by omega) (by decide)) dX5_tryOrders_131 (fun v9 m248 h9 => ?_)
                obtain ⟨x249, rfl, gx249, kx249⟩ := h9
                have cx249 := m210.at m248 (by have q9 := tn_of (show (nI i6).toInt = ((i6 : Nat) : Int) from (nI_toInt (by omega))) (by omega); omega)
                obtain rfl : x205 = x249 := (el_same m248 m227 rfl).symm
                refine lv_i2l (v := x205.toInt64) hx hb dX5_tryOrders_132 rfl ?_
                refine lv_lsub hx hb dX5_tryOrders_133 ?_
                refine lv_topl (fun y250 ey250 => ?_)
                have t251 : y250.toInt = y246.toInt - x205.toInt := tl_s ey250 rfl ((Int32.toInt_toInt64 _).trans rfl) (by omega) (by omega)
                have dn9 := (yw_some (last := (aY i6).toInt) (d := x234.toInt) yw9 (by omega) (by omega) (by omega))
                have dc9 := dn_cash dn9 (by omega) (by omega)
                refine lv_lstore (lv' := [(9, .long y250), (8, .int x234), (7, .int (nI i6)), (0, .ref o0), (1, .int 5), (2, .int yr), (3, .long co), (5, .int ic), (6, .int lt)]) hx hb dX5_tryOrders_134 hl (by decide) rfl (fun ls hl => ?_)
                refine lv_aload_n hx hb dX5_tryOrders_136 rfl (lv_at hl 3 rfl) ?_
                refine tw_getM (v := .ref xpd) hx hb hts bF2_X5 hown hK hT hr_o0 shc_8 rfl 9 (by decide) (ht_at2 hts 2 rfl) (fun _ h9 => h9) m223 dX5_tryOrders_137 ?_
                refine lv_iload hx hb dX5_tryOrders_140 (lv_at hl 2 rfl) ?_
                refine lv_iconst (v := 1) hx hb dX5_tryOrders_142 (by decide) ?_
                refine tw_zast (i := (nI i6)) (x := 1) hx hb hK hT hG hS hr_xpd shc_67 rfl (vp_in_nI (by omega) (by decide)) (gi_z (rg_t (a := 1) (by decide) (by omega) (by omega)) (by decide) (by decide)) dX5_tryOrders_143 (fun H locs hT oq m252 oi hS => ?_)
                have hF := hF.ast hr_xpd skc_67 oq (by decide)
                have m253 := m210.kept (oq _ (gne hr_xcs hr_xpd (by decide)))
                have m254 := m211.kept (oq _ (gne hr_xls hr_xpd (by decide)))
                have m255 := m212.kept (oq _ (gne hr_xin hr_xpd (by decide)))
                have m256 := m213.kept (oq _ (gne hr_xac hr_xpd (by decide)))
                have m257 := m214.put (show el H xpd _ = some (.int 1) from m252) oi
                have m258 := m215.kept (oq _ (gne hr_xtr hr_xpd (by decide)))
                have m259 := m216.kept (oq _ (gne hr_xbe hr_xpd (by decide)))
                have m260 := (el_kept (oq _ (gne hr_o0 hr_xpd (by decide)))).trans m217
                have m261 := (el_kept (oq _ (gne hr_o0 hr_xpd (by decide)))).trans m218
                have m262 := (el_kept (oq _ (gne hr_o0 hr_xpd (by decide)))).trans m219
                have m263 := (el_kept (oq _ (gne hr_o0 hr_xpd (by decide)))).trans m220
                have m264 := (el_kept (oq _ (gne hr_o0 hr_xpd (by decide)))).trans m221
                have m265 := (el_kept (oq _ (gne hr_o0 hr_xpd (by decide)))).trans m222
                have m266 := (el_kept (oq _ (gne hr_o0 hr_xpd (by decide)))).trans m223
                have m267 := (el_kept (oq _ (gne hr_o0 hr_xpd (by decide)))).trans m224
                have m268 := (el_kept (oq _ (gne hr_o0 hr_xpd (by decide)))).trans m225
                have m269 := (el_kept (oq _ (gne hr_xcs hr_xpd (by decide)))).trans m227
                have m270 := (el_kept (oq _ (gne hr_xls hr_xpd (by decide)))).trans m230
                refine lv_aload_n hx hb dX5_tryOrders_144 rfl (lv_at hl 3 rfl) ?_
                refine tw_getM (v := .ref xtr) hx hb hts bF2_X5 hown hK hT hr_o0 shc_8 rfl 10 (by decide) (ht_at2 hts 9 rfl) (fun _ h9 => h9) m267 dX5_tryOrders_145 ?_
                refine lv_iload_n hx hb dX5_tryOrders_148 rfl (lv_at hl 4 rfl) ?_
                refine lv_iload hx hb dX5_tryOrders_149 (lv_at hl 2 rfl) ?_
                refine tw_iast (i := 5) (x := (nI i6)) hx hb hK hT hG hS hr_xtr shc_68 rfl (by unfold vp_in; decide) (gi_of (show (nI i6).toInt = ((i6 : Nat) : Int) from (nI_toInt (by omega))) (by omega) (by omega)) dX5_tryOrders_151 (fun H locs hT oq m271 oi hS => ?_)
                have hF := hF.ast hr_xtr skc_68 oq (by decide)
                have m272 := m253.kept (oq _ (gne hr_xcs hr_xtr (by decide)))
                have m273 := m254.kept (oq _ (gne hr_xls hr_xtr (by decide)))
                have m274 := m255.kept (oq _ (gne hr_xin hr_xtr (by decide)))
                have m275 := m256.kept (oq _ (gne hr_xac hr_xtr (by decide)))
                have m276 := m257.kept (oq _ (gne hr_xpd hr_xtr (by decide)))
                have m277 := m258.put m271 oi
                have m278 := m259.kept (oq _ (gne hr_xbe hr_xtr (by decide)))
                have m279 := (el_kept (oq _ (gne hr_o0 hr_xtr (by decide)))).trans m260
                have m280 := (el_kept (oq _ (gne hr_o0 hr_xtr (by decide)))).trans m261
                have m281 := (el_kept (oq _ (gne hr_o0 hr_xtr (by decide)))).trans m262
                have m282 := (el_kept (oq _ (gne hr_o0 hr_xtr (by decide)))).trans m263
                have m283 := (el_kept (oq _ (gne hr_o0 hr_xtr (by decide)))).trans m264
                have m284 := (el_kept (oq _ (gne hr_o0 hr_xtr (by decide)))).trans m265
                have m285 := (el_kept (oq _ (gne hr_o0 hr_xtr (by decide)))).trans m266
                have m286 := (el_kept (oq _ (gne hr_o0 hr_xtr (by decide)))).trans m267
                have m287 := (el_kept (oq _ (gne hr_o0 hr_xtr (by decide)))).trans m268
                have m288 := (el_kept (oq _ (gne hr_xcs hr_xtr (by decide)))).trans m269
                have m289 := (el_kept (oq _ (gne hr_xls hr_xtr (by decide)))).trans m270
                refine lv_aload_n hx hb dX5_tryOrders_152 rfl (lv_at hl 3 rfl) ?_
                refine lv_iload_n hx hb dX5_tryOrders_153 rfl (lv_at hl 4 rfl) ?_
                refine lv_iconst (v := 1) hx hb dX5_tryOrders_154 (by decide) ?_
                refine lv_iadd hx hb dX5_tryOrders_155 ?_
                refine lv_topi (fun x290 ex290 => ?_)
                obtain rfl : x290 = 6 := ex290.trans (by decide)
                refine lv_iload hx hb dX5_tryOrders_156 (lv_at hl 1 rfl) ?_
                refine lv_lload hx hb dX5_tryOrders_158 (lv_at hl 0 rfl) ?_
                refine lv_iload hx hb dX5_tryOrders_160 (lv_at hl 7 rfl) ?_
                refine lv_aload_n hx hb dX5_tryOrders_162 rfl (lv_at hl 3 rfl) ?_
                refine tw_getM (v := .ref xin) hx hb hts bF2_X5 hown hK hT hr_o0 shc_8 rfl 7 (by decide) (ht_at2 hts 10 rfl) (fun _ h9 => h9) m283 dX5_tryOrders_163 ?_
                refine lv_iload hx hb dX5_tryOrders_166 (lv_at hl 2 rfl) ?_
                refine tw_iald (i := (nI i6)) hx hb hK hT hr_xin shc_65 rfl (vp_in_nI (by omega) (by decide)) dX5_tryOrders_168 (fun v9 m291 h9 => ?_)
                obtain ⟨x292, rfl, gx292, kx292⟩ := h9
                have cx292 := m274.at m291 (by have q9 := tn_of (show (nI i6).toInt = ((i6 : Nat) : Int) from (nI_toInt (by omega))) (by omega); omega)
                have t293 : x292.toInt = (aB i6).toInt := congrArg Int32.toInt (cx292.trans (by rw [tn_nI (by omega)]))
                have t294 : 0 ≤ (aB i6).toInt ∧ (aB i6).toInt ≤ 100000 := (hrg i6 (by omega)).2.2.1
                refine lv_iadd hx hb dX5_tryOrders_169 ?_
                refine lv_topi (fun x295 ex295 => ?_)
                have t296 : x295.toInt = ic.toInt + x292.toInt := ti_add ex295 rfl rfl (by omega) (by omega)
                refine lv_iload hx hb dX5_tryOrders_170 (lv_at hl 8 rfl) ?_
                refine lv_aload_n hx hb dX5_tryOrders_172 rfl (lv_at hl 3 rfl) ?_
                refine tw_getM (v := .ref xac) hx hb hts bF2_X5 hown hK hT hr_o0 shc_8 rfl 8 (by decide) (ht_at2 hts 11 rfl) (fun _ h9 => h9) m284 dX5_tryOrders_173 ?_
                refine lv_iload hx hb dX5_tryOrders_176 (lv_at hl 2 rfl) ?_
                refine tw_iald (i := (nI i6)) hx hb hK hT hr_xac shc_66 rfl (vp_in_nI (by omega) (by decide)) dX5_tryOrders_178 (fun v9 m297 h9 => ?_)
                obtain ⟨x298, rfl, gx298, kx298⟩ := h9
                have cx298 := m275.at m297 (by have q9 := tn_of (show (nI i6).toInt = ((i6 : Nat) : Int) from (nI_toInt (by omega))) (by omega); omega)
                have t299 : x298.toInt = (aA i6).toInt := congrArg Int32.toInt (cx298.trans (by rw [tn_nI (by omega)]))
                have t300 : 0 ≤ (aA i6).toInt ∧ (aA i6).toInt ≤ 1000 := (hrg i6 (by omega)).2.2.2
                refine lv_iload hx hb dX5_tryOrders_179 (lv_at hl 1 rfl) ?_
                refine lv_imul hx hb dX5_tryOrders_181 ?_
                refine lv_topi (fun x301 ex301 => ?_)
                have t302 : x301.toInt = x298.toInt * x234.toInt := ti_mulx ex301 rfl rfl (A := 1000) (B := 200) (by omega) (by omega) (by omega) (by omega) (by decide)
                have t303 : 0 ≤ x301.toInt ∧ x301.toInt ≤ 1000 * 200 ∧ (x298.toInt = 0 → x301.toInt = 0) ∧ (x234.toInt = 0 → x301.toInt = 0) ∧ x301.toInt ≤ x298.toInt * 200 ∧ x301.toInt ≤ 1000 * x234.toInt := ti_mulnn ex301 rfl rfl (by omega) (by omega) (by omega) (by omega) (by decide)
                refine lv_iadd hx hb dX5_tryOrders_182 ?_
                refine lv_topi (fun x304 ex304 => ?_)
                have t305 : x304.toInt = lt.toInt + x301.toInt := ti_add ex304 rfl rfl (by omega) (by omega)
                have hFc := gA_free hG hA hS
                refine va_callv (va_runV (As := [.int 6, .int x234, .long y250, .int x295, .int x304]) (rest := []) ⟨hx, hb, hml, hown, hts⟩ (c_tryOrdersC6 l dC dI kA adK adV G H nC nS o0 x234 y250 x295 x304 jb z17 xcs xls xin xac xpd xtr xbe aC aY aB aA (cu vP (nI i6).toNatClampNeg (1 : Int32)) (cu V12 (5 : Int32).toNatClampNeg (nI i6)) V14 N (fun k => if k = 5 then ((i6 : Nat) : Int) else R k) (slO N 5 aC aY aB aA (pb vP) yr.toInt co.toInt ic.toInt lt.toInt R a0 i6) hT hr_o0 m279 m280 m281 hr_xcs m282 hr_xls m283 hr_xin m284 hr_xac m285 hr_xpd m286 hr_xtr m287 hr_xbe (by have q8 := ti_all x234; omega) (by have q8 := ti_all x295; omega) (by have q8 := ti_all x304; omega) (by have q8 := ti_all jb; omega) (by omega) hN hrg (sl_ok (by omega) (fun j hj => by have := (hrg j (by omega)).2.1.1; omega) (fun j hj => (hrg j (by omega)).2.2.2.1) (by omega) (by omega) hba) hj26 hj27 (rr_s (K := 5) rfl (by decide) (nI_toInt (by omega)) hj28) m272 m273 m274 m275 m276 m277 m278 (by omega) (by omega)) (cwV 5 hts (goodIn_app (goodIn_r _ [19, 20, 21, 8] rfl (by decide +kernel)) (goodIn_ca (goodIn_r _ [13, 1, 2, 3, 4, 5, 6, 7, 8, 9, 10, 11, 12, 13, 14, 15, 16, 17, 18, 19, 20, 21] rfl (by decide +kernel)) (bs2_in _ _))) rfl rfl rfl (by decide +kernel) ⟨(Nat.le_of_ble_eq_true rfl), (Nat.le_of_ble_eq_true rfl)⟩) ⟨fun a U g mk q => by obtain ⟨q0, q1, qK, qE⟩ := q; exact ⟨q0, q1, va_K.moved (u := U) (U := U.calling g mk a) (Vm.Alike.refl U.vm) qK, EVC.blind g mk a qE⟩, gH_recv hK hT hr_o0 shc_8 rfl, fun U hU hW => ⟨rfl, hU, va_K.moved hW.alike hK, hE.call hS hFc hU hW⟩⟩ rfl rfl hl.1 rfl (lv_room (Nat.le_of_ble_eq_true rfl)) dX5_tryOrders_183 ⟨(Nat.le_of_ble_eq_true rfl), (Nat.le_of_ble_eq_true rfl)⟩) hS (fun q _ h => hFc q h) hFc (fun u t H locs ht hvm hw307 hB _ _ hS => ?_)
                obtain ⟨u308, u309, u310⟩ := u
                obtain ⟨hT, hF1, m311, m312, m313, m314⟩ := hB
                rw [ht] at hT hF1 m311 m312 m313 m314
                have m315 := m272.kept (hF1.arr hr_xcs skc_63 (by decide))
                have m316 := m273.kept (hF1.arr hr_xls skc_64 (by decide))
                have m317 := m274.kept (hF1.arr hr_xin skc_65 (by decide))
                have m318 := m275.kept (hF1.arr hr_xac skc_66 (by decide))
                have m322 := (hF1.fld hr_o0 skc_8 (k := 15) (by decide) (by decide)).trans m279
                have m324 := (hF1.fld hr_o0 skc_8 (k := 5) (by decide) (by decide)).trans m281
                have m325 := (hF1.fld hr_o0 skc_8 (k := 6) (by decide) (by decide)).trans m282
                have m326 := (hF1.fld hr_o0 skc_8 (k := 7) (by decide) (by decide)).trans m283
                have m327 := (hF1.fld hr_o0 skc_8 (k := 8) (by decide) (by decide)).trans m284
                have m328 := (hF1.fld hr_o0 skc_8 (k := 9) (by decide) (by decide)).trans m285
                have m329 := (hF1.fld hr_o0 skc_8 (k := 10) (by decide) (by decide)).trans m286
                have m330 := (hF1.fld hr_o0 skc_8 (k := 11) (by decide) (by decide)).trans m287
                have m331 := (el_kept (hF1.arr hr_xcs skc_63 (by decide))).trans m288
                have m332 := (el_kept (hF1.arr hr_xls skc_64 (by decide))).trans m289
                have m334 := (el_kept (hF1.arr hr_xin skc_65 (by decide))).trans m291
                have m335 := (el_kept (hF1.arr hr_xac skc_66 (by decide))).trans m297
                have hF := hF.more hF1 (by decide)
                try dsimp only at hw307
                have hf336 := hw307
                refine lv_aload_n hx hb dX5_tryOrders_186 rfl (lv_at hl 3 rfl) ?_
                refine tw_getM (v := .ref xpd) hx hb hts bF2_X5 hown hK hT hr_o0 shc_8 rfl 9 (by decide) (ht_at2 hts 2 rfl) (fun _ h9 => h9) m328 dX5_tryOrders_187 ?_
                refine lv_iload hx hb dX5_tryOrders_190 (lv_at hl 2 rfl) ?_
                refine lv_iconst (v := 0) hx hb dX5_tryOrders_192 (by decide) ?_
                refine tw_zast (i := (nI i6)) (x := 0) hx hb hK hT hG hS hr_xpd shc_67 rfl (vp_in_nI (by omega) (by decide)) (gi_z (rg_t (a := 0) (by decide) (by omega) (by omega)) (by decide) (by decide)) dX5_tryOrders_193 (fun H locs hT oq m337 oi hS => ?_)
                have hF := hF.ast hr_xpd skc_67 oq (by decide)
                have m338 := m315.kept (oq _ (gne hr_xcs hr_xpd (by decide)))
                have m339 := m316.kept (oq _ (gne hr_xls hr_xpd (by decide)))
                have m340 := m317.kept (oq _ (gne hr_xin hr_xpd (by decide)))
                have m341 := m318.kept (oq _ (gne hr_xac hr_xpd (by decide)))
                have m342 := (el_kept (oq _ (gne hr_o0 hr_xpd (by decide)))).trans m322
                have m343 := (el_kept (oq _ (gne hr_o0 hr_xpd (by decide)))).trans m324
                have m344 := (el_kept (oq _ (gne hr_o0 hr_xpd (by decide)))).trans m325
                have m345 := (el_kept (oq _ (gne hr_o0 hr_xpd (by decide)))).trans m326
                have m346 := (el_kept (oq _ (gne hr_o0 hr_xpd (by decide)))).trans m327
                have m347 := (el_kept (oq _ (gne hr_o0 hr_xpd (by decide)))).trans m328
                have m348 := (el_kept (oq _ (gne hr_o0 hr_xpd (by decide)))).trans m329
                have m349 := (el_kept (oq _ (gne hr_o0 hr_xpd (by decide)))).trans m330
                have m350 := (el_kept (oq _ (gne hr_xcs hr_xpd (by decide)))).trans m331
                have m351 := (el_kept (oq _ (gne hr_xls hr_xpd (by decide)))).trans m332
                have m352 := (el_kept (oq _ (gne hr_xin hr_xpd (by decide)))).trans m334
                have m353 := (el_kept (oq _ (gne hr_xac hr_xpd (by decide)))).trans m335
                have m354 := (el_kept (oq _ (gne hr_o0 hr_xpd (by decide)))).trans m311
                have m355 := m312.put (show el H xpd _ = some (.int 0) from m337) oi
                have m356 := m313.kept (oq _ (gne hr_xtr hr_xpd (by decide)))
                have m357 := m314.kept (oq _ (gne hr_xbe hr_xpd (by decide)))
                refine lv_iinc (v := nI (i6 + 1)) (lv' := [(7, .int (nI (i6 + 1))), (9, .long y250), (8, .int x234), (0, .ref o0), (1, .int 5), (2, .int yr), (3, .long co), (5, .int ic), (6, .int lt)]) hx hb dX5_tryOrders_194 hl (k := 2) rfl (nI_add i6 1) (by decide) rfl (fun ls hl => ?_)
                refine lv_goto (tgt := 53) hx hb dX5_tryOrders_197 (by decide) ?_
                have bk9 : u308.toInt = (slO N 5 aC aY aB aA (pb vP) yr.toInt co.toInt ic.toInt lt.toInt R a0 (i6 + 1)).1 ∧ (0 ≤ (slO N 5 aC aY aB aA (pb vP) yr.toInt co.toInt ic.toInt lt.toInt R a0 (i6 + 1)).1 → ∀ k : Nat, k < N → (u310 k).toInt = (slO N 5 aC aY aB aA (pb vP) yr.toInt co.toInt ic.toInt lt.toInt R a0 (i6 + 1)).2 k) ∧ ∀ k : Nat, k < 5 → (u309 k).toInt = R k := by have q9 := hf336; rw [sl_call (N := N) (K := 5) (K1 := 6) (aC := aC) (aY := aY) (aB := aB) (aA := aA) (U := pb vP) (yr := yr.toInt) (ca := co.toInt) (ic := ic.toInt) (su := lt.toInt) (R := R) (a := a0) (i := i6) (d := x234.toInt) (c1 := y250.toInt) (i1 := x295.toInt) (s1 := x304.toInt) (U1 := pb (cu vP (nI i6).toNatClampNeg (1 : Int32))) rfl (pb_0 (tn_nI (by omega)) cx201 (by omega)) dn9 (pb_cu (tn_nI (by omega))) (by omega) (by omega) (by rw [show (aA i6).toInt = x298.toInt from by omega]; omega)] at q9; exact ⟨q9.1, q9.2.1, fun k hk => (q9.2.2 k (by omega)).trans (if_neg (by omega))⟩
                exact ih193 (i6 + 1) (by omega) (by omega) u309 u310 u308 ⟨bk9.1, bk9.2.1, bk9.2.2, (by omega)⟩ _ _ hT hF hS m338 m339 m340 m341 (m355.ext (fun _ _ => pb_r cx201 (by omega))) m356 m357 m342 m354 m343 m344 m345 m346 m347 m348 m349 ls (lv_sub hl [0, 3, 4, 5, 6, 7, 8] rfl)
            · have t358 : x201.toInt ≠ 0 := ti_ne c202 rfl (by decide)
              refine lv_iconst (v := (-1)) hx hb dX5_tryOrders_72 (by decide) ?_
              refine lv_goto (tgt := 98) hx hb dX5_tryOrders_73 (by decide) ?_
              refine lv_istore (lv' := [(8, .int (-1)), (7, .int (nI i6)), (0, .ref o0), (1, .int 5), (2, .int yr), (3, .long co), (5, .int ic), (6, .int lt)]) hx hb dX5_tryOrders_98 hl (by decide) rfl (fun ls hl => ?_)
              refine lv_iload hx hb dX5_tryOrders_100 (lv_at hl 0 rfl) ?_
              refine lv_iconst (v := (-1)) hx hb dX5_tryOrders_102 (by decide) ?_
              refine lv_icmp_eq (tgt := 194) hx hb dX5_tryOrders_103 (by decide) (fun c359 => ?_) (fun c359 => absurd c359 (by decide))
              refine lv_iinc (v := nI (i6 + 1)) (lv' := [(7, .int (nI (i6 + 1))), (8, .int (-1)), (0, .ref o0), (1, .int 5), (2, .int yr), (3, .long co), (5, .int ic), (6, .int lt)]) hx hb dX5_tryOrders_194 hl (k := 1) rfl (nI_add i6 1) (by decide) rfl (fun ls hl => ?_)
              refine lv_goto (tgt := 53) hx hb dX5_tryOrders_197 (by decide) ?_
              have bk9 : z17.toInt = (slO N 5 aC aY aB aA (pb vP) yr.toInt co.toInt ic.toInt lt.toInt R a0 (i6 + 1)).1 ∧ (0 ≤ (slO N 5 aC aY aB aA (pb vP) yr.toInt co.toInt ic.toInt lt.toInt R a0 (i6 + 1)).1 → ∀ k : Nat, k < N → (V14 k).toInt = (slO N 5 aC aY aB aA (pb vP) yr.toInt co.toInt ic.toInt lt.toInt R a0 (i6 + 1)).2 k) ∧ ∀ k : Nat, k < 5 → (V12 k).toInt = R k := by rw [sl_u (pb_1 (tn_nI (by omega)) cx201 (by omega))]; exact ⟨hj26, hj27, hj28⟩
              exact ih193 (i6 + 1) (by omega) (by omega) V12 V14 z17 ⟨bk9.1, bk9.2.1, bk9.2.2, (by omega)⟩ _ _ hT hF hS m7 m8 m9 m10 (m11.ext (fun _ _ => rfl)) m13 m15 m16 m18 m19 m20 m21 m22 m23 m24 m25 ls (lv_sub hl [0, 2, 3, 4, 5, 6, 7] rfl)
      exact key193 (7 - 0) 0 (by omega) (Nat.le_refl _) vR vZ la ⟨hla, hZ0, hR, (by omega)⟩ _ _ hT hF hS hc_aC hc_aY hc_aB hc_aA (hc_vP.ext (fun _ _ => rfl)) hc_vR hc_vZ hm_jb hm_la hm_xcs hm_xls hm_xin hm_xac hm_xpd hm_xtr hm_xbe ls (lv_sub hl [0, 1, 2, 3, 4, 5, 6] rfl)
    · have t360 : jb.toInt ≤ 5 := ti_nlt c4 (by decide) rfl
      refine lv_aload_n hx hb dX5_tryOrders_26 rfl (lv_at hl 0 rfl) ?_
      refine lv_iload hx hb dX5_tryOrders_27 (lv_at hl 5 rfl) ?_
      refine tw_put (v := .int lt) (ty := .int) hx hb hts bF2_X5 tyX5 tyX5_ok nmX5 hown hK hT hG hS hr_o0 shc_8 rfl 16 (by decide) (ht_at2 hts 0 rfl) (fun _ h9 => h9) rfl (by decide +kernel) rfl rfl (gl_at rfl (gi_all _)) dX5_tryOrders_29 (fun H locs hT oq m361 oj hS => ?_)
      have hF := hF.put hr_o0 skc_8 oq oj (by decide)
      have m362 := (oj 15 (by decide) (by decide)).trans hm_jb
      have m363 := (oj 5 (by decide) (by decide)).trans hm_xcs
      have m364 := (oj 6 (by decide) (by decide)).trans hm_xls
      have m365 := (oj 7 (by decide) (by decide)).trans hm_xin
      have m366 := (oj 8 (by decide) (by decide)).trans hm_xac
      have m367 := (oj 9 (by decide) (by decide)).trans hm_xpd
      have m368 := (oj 10 (by decide) (by decide)).trans hm_xtr
      have m369 := (oj 11 (by decide) (by decide)).trans hm_xbe
      have m370 := hc_aC.kept (oq _ (gne hr_xcs hr_o0 (by decide)))
      have m371 := hc_aY.kept (oq _ (gne hr_xls hr_o0 (by decide)))
      have m372 := hc_aB.kept (oq _ (gne hr_xin hr_o0 (by decide)))
      have m373 := hc_aA.kept (oq _ (gne hr_xac hr_o0 (by decide)))
      have m374 := hc_vP.kept (oq _ (gne hr_xpd hr_o0 (by decide)))
      have m375 := hc_vR.kept (oq _ (gne hr_xtr hr_o0 (by decide)))
      have m376 := hc_vZ.kept (oq _ (gne hr_xbe hr_o0 (by decide)))
      refine lv_aload_n hx hb dX5_tryOrders_32 rfl (lv_at hl 0 rfl) ?_
      refine tw_getM (v := .ref xtr) hx hb hts bF2_X5 hown hK hT hr_o0 shc_8 rfl 10 (by decide) (ht_at2 hts 9 rfl) (fun _ h9 => h9) m368 dX5_tryOrders_33 ?_
      refine lv_iconst (v := 0) hx hb dX5_tryOrders_36 (by decide) ?_
      refine lv_aload_n hx hb dX5_tryOrders_37 rfl (lv_at hl 0 rfl) ?_
      refine tw_getM (v := .ref xbe) hx hb hts bF2_X5 hown hK hT hr_o0 shc_8 rfl 11 (by decide) (ht_at2 hts 13 rfl) (fun _ h9 => h9) m369 dX5_tryOrders_38 ?_
      refine lv_iconst (v := 0) hx hb dX5_tryOrders_41 (by decide) ?_
      refine lv_aload_n hx hb dX5_tryOrders_42 rfl (lv_at hl 0 rfl) ?_
      refine tw_getM (v := .int jb) hx hb hts bF2_X5 hown hK hT hr_o0 shc_8 rfl 15 (by decide) (ht_at2 hts 1 rfl) (fun _ h9 => h9) m362 dX5_tryOrders_43 ?_
      refine tw_copyE (ty := .int) hx hb (hml.trans hl.1.symm) hown (ht_at2 hts 14 rfl) (ht_at2 hts 15 rfl) (ht_at2 hts 16 rfl) (ht_at2 hts 17 rfl) hK hT hG hS hr_xtr hr_xbe shc_68 shc_69 rfl rfl (by decide) (by decide) (fun h9 => by have q9 := ti_lt h9 rfl (show (0 : Int32).toInt = 0 from by decide); omega) (by have q9 := tn_of (show jb.toInt = jb.toInt from rfl) (by omega); have q8 : (0 : Int32).toNatClampNeg = 0 := (by decide); omega) (by have q9 := tn_of (show jb.toInt = jb.toInt from rfl) (by omega); have q8 : (0 : Int32).toNatClampNeg = 0 := (by decide); omega) (by decide) (by decide) (fun _ _ h9 => by obtain ⟨x9, e9, _⟩ := h9; exact ⟨x9, e9, rfl⟩) (fun _ _ _ h9 => by obtain ⟨x9, e9, a9, b9⟩ := h9; exact ⟨x9, e9, by omega, by omega⟩) (Nat.le_of_ble_eq_true rfl) (Nat.le_of_ble_eq_true rfl) dX5_tryOrders_46 (fun H locs hT oq ce377 hS => ?_)
      have hF := hF.ast hr_xbe skc_69 oq (by decide)
      have m378 := (el_kept (oq _ (gne hr_o0 hr_xbe (by decide)))).trans m362
      have m379 := (el_kept (oq _ (gne hr_o0 hr_xbe (by decide)))).trans m363
      have m380 := (el_kept (oq _ (gne hr_o0 hr_xbe (by decide)))).trans m364
      have m381 := (el_kept (oq _ (gne hr_o0 hr_xbe (by decide)))).trans m365
      have m382 := (el_kept (oq _ (gne hr_o0 hr_xbe (by decide)))).trans m366
      have m383 := (el_kept (oq _ (gne hr_o0 hr_xbe (by decide)))).trans m367
      have m384 := (el_kept (oq _ (gne hr_o0 hr_xbe (by decide)))).trans m368
      have m385 := (el_kept (oq _ (gne hr_o0 hr_xbe (by decide)))).trans m369
      have m386 := m370.kept (oq _ (gne hr_xcs hr_xbe (by decide)))
      have m387 := m371.kept (oq _ (gne hr_xls hr_xbe (by decide)))
      have m388 := m372.kept (oq _ (gne hr_xin hr_xbe (by decide)))
      have m389 := m373.kept (oq _ (gne hr_xac hr_xbe (by decide)))
      have m390 := m374.kept (oq _ (gne hr_xpd hr_xbe (by decide)))
      have m391 := m375.kept (oq _ (gne hr_xtr hr_xbe (by decide)))
      have m392 := (el_kept (oq _ (gne hr_o0 hr_xbe (by decide)))).trans m361
      obtain ⟨V393, m394, kV393⟩ := ct_of hT hr_xbe shc_69
      have cq395 : ∀ k : Nat, ((k : Nat) : Int) < jb.toInt → V393 k = vR k := fun k hk => Value.int.inj (Option.some.inj ((m394 k (by omega)).symm.trans ((ce377 k (by have q9 := tn_of (show jb.toInt = jb.toInt from rfl) (by omega); omega)).trans (m375 k (by omega)))))
      exact W.vret hx hb hr (fun t ht hW => ⟨⟨(lt, vR, V393), rfl, (by exact (by (try dsimp only); have e9 : N = 5 := (by omega); rw [sx_0 e9, if_neg (by omega)]; exact ⟨rfl, fun _ k hk => (congrArg Int32.toInt (cq395 k (by omega))).trans (hR k (by omega)), hR⟩)), by (try dsimp only); rw [ht]; exact ⟨hT, hF, m392, m390, m391, m394⟩⟩, hS.F ht⟩) hS.2.2 dX5_tryOrders_49
  · have t396 : la.toInt ≠ (-1) := ti_ne c2 rfl (by decide)
    refine lv_iload hx hb dX5_tryOrders_8 (lv_at hl 5 rfl) ?_
    refine lv_aload_n hx hb dX5_tryOrders_10 rfl (lv_at hl 0 rfl) ?_
    refine tw_getM (v := .int la) hx hb hts bF2_X5 hown hK hT hr_o0 shc_8 rfl 16 (by decide) (ht_at2 hts 0 rfl) (fun _ h9 => h9) hm_la dX5_tryOrders_11 ?_
    refine lv_icmp_lt (tgt := 18) hx hb dX5_tryOrders_14 (by decide) (fun c397 => ?_) (fun c397 => ?_)
    · have t398 : lt.toInt < la.toInt := ti_lt c397 rfl rfl
      refine lv_iload_n hx hb dX5_tryOrders_18 rfl (lv_at hl 1 rfl) ?_
      refine lv_aload_n hx hb dX5_tryOrders_19 rfl (lv_at hl 0 rfl) ?_
      refine tw_getM (v := .int jb) hx hb hts bF2_X5 hown hK hT hr_o0 shc_8 rfl 15 (by decide) (ht_at2 hts 1 rfl) (fun _ h9 => h9) hm_jb dX5_tryOrders_20 ?_
      refine lv_icmp_lt (tgt := 50) hx hb dX5_tryOrders_23 (by decide) (fun c399 => ?_) (fun c399 => ?_)
      · have t400 : 5 < jb.toInt := ti_lt c399 (by decide) rfl
        refine lv_iconst (v := 0) hx hb dX5_tryOrders_50 (by decide) ?_
        refine lv_istore (lv' := [(7, .int 0), (0, .ref o0), (1, .int 5), (2, .int yr), (3, .long co), (5, .int ic), (6, .int lt)]) hx hb dX5_tryOrders_51 hl (by decide) rfl (fun ls hl => ?_)
        have key588 : ∀ (n588 i401 : Nat), i401 + n588 = 7 → 0 ≤ i401 → ∀ (V407 : Nat → Int32), ∀ (V409 : Nat → Int32), ∀ (z412 : Int32), ((z412.toInt = (slO N 5 aC aY aB aA (pb vP) yr.toInt co.toInt ic.toInt lt.toInt R a0 i401).1) ∧ (0 ≤ (slO N 5 aC aY aB aA (pb vP) yr.toInt co.toInt ic.toInt lt.toInt R a0 i401).1 → ∀ k : Nat, k < N → (V409 k).toInt = (slO N 5 aC aY aB aA (pb vP) yr.toInt co.toInt ic.toInt lt.toInt R a0 i401).2 k) ∧ (∀ k : Nat, k < 5 → (V407 k).toInt = R k) ∧ (((i401 : Nat) : Int) ≤ jb.toInt)) → ∀ (H : Heap) (locs : List Loc), gH (dC, dI) kA (SHc nC nS) G H → gF (dC, dI) SKc G ([(8, 16), (67, 0), (68, 0), (69, 0)] : List (Nat × Nat)) s.heap H → va_S A s.heap H locs → ct H xcs 7 aC → ct H xls 7 aY → ct H xin 7 aB → ct H xac 7 aA → ct H xpd 7 vP → ct H xtr 7 V407 → ct H xbe 7 V409 → el H o0 (dI 8 15) = some (.int jb) → el H o0 (dI 8 16) = some (.int z412) → el H o0 (dI 8 5) = some (.ref xcs) → el H o0 (dI 8 6) = some (.ref xls) → el H o0 (dI 8 7) = some (.ref xin) → el H o0 (dI 8 8) = some (.ref xac) → el H o0 (dI 8 9) = some (.ref xpd) → el H o0 (dI 8 10) = some (.ref xtr) → el H o0 (dI 8 11) = some (.ref xbe) → ∀ ls : Array Slot, lv_has ls 11 [(7, .int (nI i401)), (0, .ref o0), (1, .int 5), (2, .int yr), (3, .long co), (5, .int ic), (6, .int lt)] → W p l e (headSpec w_c_tryOrdersC5 ({ frames := 4, cells := 0, slots := 0, locals := 120 })).room s m #[.ref o0, .int 5, .int yr, .long co, .int ic, .int lt] below meth c H locs 0 0 (MQ below (va_Qv (fun (u : Int32 × (Nat → Int32) × (Nat → Int32)) => match u with | (la1, vR1, vZ1) => (la1.toInt = (sx N 5 aC aY aB aA (pb vP) yr.toInt co.toInt ic.toInt lt.toInt R a0).1 ∧ (0 ≤ (sx N 5 aC aY aB aA (pb vP) yr.toInt co.toInt ic.toInt lt.toInt R a0).1 → ∀ k : Nat, k < N → (vZ1 k).toInt = (sx N 5 aC aY aB aA (pb vP) yr.toInt co.toInt ic.toInt lt.toInt R a0).2 k) ∧ ∀ k : Nat, k < 5 → (vR1 k).toInt = R k)) (fun (u : Int32 × (Nat → Int32) × (Nat → Int32)) (t : State) => match u with | (la1, vR1, vZ1) => gH (dC, dI) kA (SHc nC nS) G t.heap ∧ gF (dC, dI) SKc G ([(8, 16), (67, 0), (68, 0), (69, 0)] : List (Nat × Nat)) s.heap t.heap ∧ el t.heap o0 (dI 8 16) = some (.int la1) ∧ ct t.heap xpd 7 vP ∧ ct t.heap xtr 7 vR1 ∧ ct t.heap xbe 7 vZ1) A) #[.ref o0, .int 5, .int yr, .long co, .int ic, .int lt] s 0 0 A) (F0 m 53 ls []) := by
          intro n588
          induction n588 with
          | zero =>
            intro i401 hn588 hlo589 V407 V409 z412 ⟨hj421, hj422, hj423, hj424⟩ H locs hT hF hS m402 m403 m404 m405 m406 m408 m410 m411 m413 m414 m415 m416 m417 m418 m419 m420 ls hl
            obtain rfl : 7 = i401 := by omega
            refine lv_iload hx hb dX5_tryOrders_53 (lv_at hl 0 rfl) ?_
            refine lv_aload_n hx hb dX5_tryOrders_55 rfl (lv_at hl 1 rfl) ?_
            refine tw_getM (v := .int jb) hx hb hts bF2_X5 hown hK hT hr_o0 shc_8 rfl 15 (by decide) (ht_at2 hts 1 rfl) (fun _ h9 => h9) m411 dX5_tryOrders_56 ?_
            refine lv_icmp_ge (tgt := 200) hx hb dX5_tryOrders_59 (by decide) (fun c590 => ?_) (fun c590 => (by exfalso; have q9 : ((7 : Nat) : Int) < jb.toInt := ti_nle c590 rfl (nI_toInt (by omega)); omega))
            have t591 : jb.toInt ≤ ((7 : Nat) : Int) := ti_le c590 rfl (nI_toInt (by omega))
            exact W.vret hx hb hr (fun t ht hW => ⟨⟨(z412, V407, V409), rfl, (by exact (by (try dsimp only); have e9 : N = 7 := (by omega); rw [sx_s (by omega)]; subst e9; exact ⟨hj421, hj422, hj423⟩)), by (try dsimp only); rw [ht]; exact ⟨hT, hF, m413, m406, m408, m410⟩⟩, hS.F ht⟩) hS.2.2 dX5_tryOrders_200
          | succ n588 ih588 =>
            intro i401 hn588 hlo589 V407 V409 z412 ⟨hj421, hj422, hj423, hj424⟩ H locs hT hF hS m402 m403 m404 m405 m406 m408 m410 m411 m413 m414 m415 m416 m417 m418 m419 m420 ls hl
            have hlt591 : i401 < 7 := by omega
            refine lv_iload hx hb dX5_tryOrders_53 (lv_at hl 0 rfl) ?_
            refine lv_aload_n hx hb dX5_tryOrders_55 rfl (lv_at hl 1 rfl) ?_
            refine tw_getM (v := .int jb) hx hb hts bF2_X5 hown hK hT hr_o0 shc_8 rfl 15 (by decide) (ht_at2 hts 1 rfl) (fun _ h9 => h9) m411 dX5_tryOrders_56 ?_
            refine lv_icmp_ge (tgt := 200) hx hb dX5_tryOrders_59 (by decide) (fun c592 => ?_) (fun c592 => ?_)
            · have t593 : jb.toInt ≤ ((i401 : Nat) : Int) := ti_le c592 rfl (nI_toInt (by omega))
              exact W.vret hx hb hr (fun t ht hW => ⟨⟨(z412, V407, V409), rfl, (by exact (by (try dsimp only); have e9 : N = i401 := (by omega); rw [sx_s (by omega)]; subst e9; exact ⟨hj421, hj422, hj423⟩)), by (try dsimp only); rw [ht]; exact ⟨hT, hF, m413, m406, m408, m410⟩⟩, hS.F ht⟩) hS.2.2 dX5_tryOrders_200
            · have t594 : ((i401 : Nat) : Int) < jb.toInt := ti_nle c592 rfl (nI_toInt (by omega))
              refine lv_aload_n hx hb dX5_tryOrders_62 rfl (lv_at hl 1 rfl) ?_
              refine tw_getM (v := .ref xpd) hx hb hts bF2_X5 hown hK hT hr_o0 shc_8 rfl 9 (by decide) (ht_at2 hts 2 rfl) (fun _ h9 => h9) m418 dX5_tryOrders_63 ?_
              refine lv_iload hx hb dX5_tryOrders_66 (lv_at hl 0 rfl) ?_
              refine tw_zald (i := (nI i401)) hx hb hK hT hr_xpd shc_67 rfl (vp_in_nI (by omega) (by decide)) dX5_tryOrders_68 (fun v9 m595 h9 => ?_)
              obtain ⟨x596, rfl, gx596, kx596⟩ := h9
              have cx596 := m406.at m595 (by have q9 := tn_of (show (nI i401).toInt = ((i401 : Nat) : Int) from (nI_toInt (by omega))) (by omega); omega)
              refine lv_if_eq (tgt := 76) hx hb dX5_tryOrders_69 (by decide) (fun c597 => ?_) (fun c597 => ?_)
              · have t598 : x596.toInt = 0 := ti_eq c597 rfl (by decide)
                refine lv_iload_n hx hb dX5_tryOrders_76 rfl (lv_at hl 3 rfl) ?_
                refine lv_lload_n hx hb dX5_tryOrders_77 rfl (lv_at hl 4 rfl) ?_
                refine lv_iload hx hb dX5_tryOrders_78 (lv_at hl 5 rfl) ?_
                refine lv_aload_n hx hb dX5_tryOrders_80 rfl (lv_at hl 1 rfl) ?_
                refine tw_getM (v := .ref xcs) hx hb hts bF2_X5 hown hK hT hr_o0 shc_8 rfl 5 (by decide) (ht_at2 hts 3 rfl) (fun _ h9 => h9) m414 dX5_tryOrders_81 ?_
                refine lv_iload hx hb dX5_tryOrders_84 (lv_at hl 0 rfl) ?_
                refine tw_iald (i := (nI i401)) hx hb hK hT hr_xcs shc_63 rfl (vp_in_nI (by omega) (by decide)) dX5_tryOrders_86 (fun v9 m599 h9 => ?_)
                obtain ⟨x600, rfl, gx600, kx600⟩ := h9
                have cx600 := m402.at m599 (by have q9 := tn_of (show (nI i401).toInt = ((i401 : Nat) : Int) from (nI_toInt (by omega))) (by omega); omega)
                have t601 : x600.toInt = (aC i401).toInt := congrArg Int32.toInt (cx600.trans (by rw [tn_nI (by omega)]))
                have t602 : 0 ≤ (aC i401).toInt ∧ (aC i401).toInt ≤ 1000000 := (hrg i401 (by omega)).1
                have hFc := gA_free hG hA hS
                refine va_calli (va_runS (As := [.int yr, .long co, .int ic, .int x600]) (rest := []) ⟨hx, hb, hml, hown, hts⟩ (c_yearC l dC dI kA adK adV G H nC nS yr co ic x600 hT (by have q8 := ti_all yr; omega) (by have q8 := ti_all ic; omega) (by have q8 := ti_all x600; omega) (by omega) (by omega) (by omega)) (va_cwS 4 hts (goodIn_app (goodIn_r _ [6, 7, 8] rfl (by decide +kernel)) (goodIn_ca (goodIn_r _ [5] rfl (by decide +kernel)) (bs2_in _ _))) rfl rfl rfl (by decide +kernel) ⟨(Nat.le_of_ble_eq_true rfl), (Nat.le_of_ble_eq_true rfl)⟩) ⟨fun a U g mk q => by obtain ⟨q0, q1, qK, qE⟩ := q; exact ⟨q0, q1, va_K.moved (u := U) (U := U.calling g mk a) (Vm.Alike.refl U.vm) qK, EVC.blind g mk a qE⟩, fun U hU hW => ⟨rfl, hU, va_K.moved hW.alike hK, hE.call hS hFc hU hW⟩⟩ rfl rfl hl.1 rfl (lv_room (Nat.le_of_ble_eq_true rfl)) dX5_tryOrders_87 ⟨(Nat.le_of_ble_eq_true rfl), (Nat.le_of_ble_eq_true rfl)⟩) hS (fun q _ h => hFc q h) hFc (fun r603 u t H locs ht hvm hw604 hB _ _ hS => ?_)
                obtain ⟨hT, hF1⟩ := hB
                rw [ht] at hT hF1
                have m605 := m402.kept (hF1.arr hr_xcs skc_63 (by decide))
                have m606 := m403.kept (hF1.arr hr_xls skc_64 (by decide))
                have m607 := m404.kept (hF1.arr hr_xin skc_65 (by decide))
                have m608 := m405.kept (hF1.arr hr_xac skc_66 (by decide))
                have m609 := m406.kept (hF1.arr hr_xpd skc_67 (by decide))
                have m610 := m408.kept (hF1.arr hr_xtr skc_68 (by decide))
                have m611 := m410.kept (hF1.arr hr_xbe skc_69 (by decide))
                have m612 := (hF1.fld hr_o0 skc_8 (k := 15) (by decide) (by decide)).trans m411
                have m613 := (hF1.fld hr_o0 skc_8 (k := 16) (by decide) (by decide)).trans m413
                have m614 := (hF1.fld hr_o0 skc_8 (k := 5) (by decide) (by decide)).trans m414
                have m615 := (hF1.fld hr_o0 skc_8 (k := 6) (by decide) (by decide)).trans m415
                have m616 := (hF1.fld hr_o0 skc_8 (k := 7) (by decide) (by decide)).trans m416
                have m617 := (hF1.fld hr_o0 skc_8 (k := 8) (by decide) (by decide)).trans m417
                have m618 := (hF1.fld hr_o0 skc_8 (k := 9) (by decide) (by decide)).trans m418
                have m619 := (hF1.fld hr_o0 skc_8 (k := 10) (by decide) (by decide)).trans m419
                have m620 := (hF1.fld hr_o0 skc_8 (k := 11) (by decide) (by decide)).trans m420
                have m621 := (el_kept (hF1.arr hr_xpd skc_67 (by decide))).trans m595
                have m622 := (el_kept (hF1.arr hr_xcs skc_63 (by decide))).trans m599
                have hF := hF.more hF1 (by decide)
                try dsimp only at hw604
                obtain ⟨h623, hf624⟩ := hw604
                have yw9 : yw yr.toInt co.toInt ic.toInt (aC i401).toInt r603.toInt := by rw [show (aC i401).toInt = x600.toInt from by omega]; exact hf624
                refine lv_aload_n hx hb dX5_tryOrders_90 rfl (lv_at hl 1 rfl) ?_
                refine tw_getM (v := .ref xls) hx hb hts bF2_X5 hown hK hT hr_o0 shc_8 rfl 6 (by decide) (ht_at2 hts 8 rfl) (fun _ h9 => h9) m615 dX5_tryOrders_91 ?_
                refine lv_iload hx hb dX5_tryOrders_94 (lv_at hl 0 rfl) ?_
                refine tw_iald (i := (nI i401)) hx hb hK hT hr_xls shc_64 rfl (vp_in_nI (by omega) (by decide)) dX5_tryOrders_96 (fun v9 m625 h9 => ?_)
                obtain ⟨x626, rfl, gx626, kx626⟩ := h9
                have cx626 := m606.at m625 (by have q9 := tn_of (show (nI i401).toInt = ((i401 : Nat) : Int) from (nI_toInt (by omega))) (by omega); omega)
                have t627 : x626.toInt = (aY i401).toInt := congrArg Int32.toInt (cx626.trans (by rw [tn_nI (by omega)]))
                have t628 : 1 ≤ (aY i401).toInt ∧ (aY i401).toInt ≤ 20 := (hrg i401 (by omega)).2.1
                refine lv_iadd hx hb dX5_tryOrders_97 ?_
                refine lv_topi (fun x629 ex629 => ?_)
                have t630 : x629.toInt = r603.toInt + x626.toInt := ti_add ex629 rfl rfl (by omega) (by omega)
                refine lv_istore (lv' := [(8, .int x629), (7, .int (nI i401)), (0, .ref o0), (1, .int 5), (2, .int yr), (3, .long co), (5, .int ic), (6, .int lt)]) hx hb dX5_tryOrders_98 hl (by decide) rfl (fun ls hl => ?_)
                refine lv_iload hx hb dX5_tryOrders_100 (lv_at hl 0 rfl) ?_
                refine lv_iconst (v := (-1)) hx hb dX5_tryOrders_102 (by decide) ?_
                refine lv_icmp_eq (tgt := 194) hx hb dX5_tryOrders_103 (by decide) (fun c631 => (by exfalso; have q9 : x629.toInt = (-1) := ti_eq c631 rfl (by decide); omega)) (fun c631 => ?_)
                have t632 : x629.toInt ≠ (-1) := ti_ne c631 rfl (by decide)
                refine lv_iload hx hb dX5_tryOrders_106 (lv_at hl 0 rfl) ?_
                refine lv_sipush (v := 200) hx hb dX5_tryOrders_108 (by decide) ?_
                refine lv_icmp_gt (tgt := 194) hx hb dX5_tryOrders_111 (by decide) (fun c633 => ?_) (fun c633 => ?_)
                · have t634 : 200 < x629.toInt := ti_lt c633 (by decide) rfl
                  refine lv_iinc (v := nI (i401 + 1)) (lv' := [(7, .int (nI (i401 + 1))), (8, .int x629), (0, .ref o0), (1, .int 5), (2, .int yr), (3, .long co), (5, .int ic), (6, .int lt)]) hx hb dX5_tryOrders_194 hl (k := 1) rfl (nI_add i401 1) (by decide) rfl (fun ls hl => ?_)
                  refine lv_goto (tgt := 53) hx hb dX5_tryOrders_197 (by decide) ?_
                  have bk9 : z412.toInt = (slO N 5 aC aY aB aA (pb vP) yr.toInt co.toInt ic.toInt lt.toInt R a0 (i401 + 1)).1 ∧ (0 ≤ (slO N 5 aC aY aB aA (pb vP) yr.toInt co.toInt ic.toInt lt.toInt R a0 (i401 + 1)).1 → ∀ k : Nat, k < N → (V409 k).toInt = (slO N 5 aC aY aB aA (pb vP) yr.toInt co.toInt ic.toInt lt.toInt R a0 (i401 + 1)).2 k) ∧ ∀ k : Nat, k < 5 → (V407 k).toInt = R k := by rw [sl_n (yw_none yw9 (by omega) (by omega))]; exact ⟨hj421, hj422, hj423⟩
                  exact ih588 (i401 + 1) (by omega) (by omega) V407 V409 z412 ⟨bk9.1, bk9.2.1, bk9.2.2, (by omega)⟩ _ _ hT hF hS m605 m606 m607 m608 (m609.ext (fun _ _ => rfl)) m610 m611 m612 m613 m614 m615 m616 m617 m618 m619 m620 ls (lv_sub hl [0, 2, 3, 4, 5, 6, 7] rfl)
                · have t635 : x629.toInt ≤ 200 := ti_nlt c633 (by decide) rfl
                  refine lv_lload_n hx hb dX5_tryOrders_114 rfl (lv_at hl 5 rfl) ?_
                  refine lv_iload hx hb dX5_tryOrders_115 (lv_at hl 6 rfl) ?_
                  refine lv_i2l (v := ic.toInt64) hx hb dX5_tryOrders_117 rfl ?_
                  refine lv_iload hx hb dX5_tryOrders_118 (lv_at hl 0 rfl) ?_
                  refine lv_iload_n hx hb dX5_tryOrders_120 rfl (lv_at hl 4 rfl) ?_
                  refine lv_isub hx hb dX5_tryOrders_121 ?_
                  refine lv_topi (fun x636 ex636 => ?_)
                  have t637 : x636.toInt = x629.toInt - yr.toInt := ti_sub ex636 rfl rfl (by omega) (by omega)
                  refine lv_i2l (v := x636.toInt64) hx hb dX5_tryOrders_122 rfl ?_
                  refine lv_lmul hx hb dX5_tryOrders_123 ?_
                  refine lv_topl (fun y638 ey638 => ?_)
                  have t639 : y638.toInt = ic.toInt * x636.toInt ∧ -(500000 * 200) ≤ y638.toInt ∧ y638.toInt ≤ 500000 * 200 := tl_m ey638 ((Int32.toInt_toInt64 _).trans rfl) ((Int32.toInt_toInt64 _).trans rfl) (A := 500000) (B := 200) (by omega) (by omega) (by omega) (by omega) (by decide)
                  have t640 : y638.toInt = ic.toInt * (x629.toInt - yr.toInt) := (by rw [show x629.toInt - yr.toInt = x636.toInt from by omega]; omega)
                  refine lv_ladd hx hb dX5_tryOrders_124 ?_
                  refine lv_topl (fun y641 ey641 => ?_)
                  have t642 : y641.toInt = co.toInt + y638.toInt := tl_a ey641 rfl rfl (by omega) (by omega)
                  refine lv_aload_n hx hb dX5_tryOrders_125 rfl (lv_at hl 2 rfl) ?_
                  refine tw_getM (v := .ref xcs) hx hb hts bF2_X5 hown hK hT hr_o0 shc_8 rfl 5 (by decide) (ht_at2 hts 3 rfl) (fun _ h9 => h9) m614 dX5_tryOrders_126 ?_
                  refine lv_iload hx hb dX5_tryOrders_129 (lv_at hl 1 rfl) ?_
                  refine tw_iald (i := (nI i401)) hx hb hK hT hr_xcs shc_63 rfl (vp_in_nI (by omega) (by decide)) dX5_tryOrders_131 (fun v9 m643 h9 => ?_)
                  obtain ⟨x644, rfl, gx644, kx644⟩ := h9
                  have cx644 := m605.at m643 (by have q9 := tn_of (show (nI i401).toInt = ((i401 : Nat) : Int) from (nI_toInt (by omega))) (by omega); omega)
                  obtain rfl : x600 = x644 := (el_same m643 m622 rfl).symm
                  refine lv_i2l (v := x600.toInt64) hx hb dX5_tryOrders_132 rfl ?_
                  refine lv_lsub hx hb dX5_tryOrders_133 ?_
                  refine lv_topl (fun y645 ey645 => ?_)
                  have t646 : y645.toInt = y641.toInt - x600.toInt := tl_s ey645 rfl ((Int32.toInt_toInt64 _).trans rfl) (by omega) (by omega)
                  have dn9 := (yw_some (last := (aY i401).toInt) (d := x629.toInt) yw9 (by omega) (by omega) (by omega))
                  have dc9 := dn_cash dn9 (by omega) (by omega)
                  refine lv_lstore (lv' := [(9, .long y645), (8, .int x629), (7, .int (nI i401)), (0, .ref o0), (1, .int 5), (2, .int yr), (3, .long co), (5, .int ic), (6, .int lt)]) hx hb dX5_tryOrders_134 hl (by decide) rfl (fun ls hl => ?_)
                  refine lv_aload_n hx hb dX5_tryOrders_136 rfl (lv_at hl 3 rfl) ?_
                  refine tw_getM (v := .ref xpd) hx hb hts bF2_X5 hown hK hT hr_o0 shc_8 rfl 9 (by decide) (ht_at2 hts 2 rfl) (fun _ h9 => h9) m618 dX5_tryOrders_137 ?_
                  refine lv_iload hx hb dX5_tryOrders_140 (lv_at hl 2 rfl) ?_
                  refine lv_iconst (v := 1) hx hb dX5_tryOrders_142 (by decide) ?_
                  refine tw_zast (i := (nI i401)) (x := 1) hx hb hK hT hG hS hr_xpd shc_67 rfl (vp_in_nI (by omega) (by decide)) (gi_z (rg_t (a := 1) (by decide) (by omega) (by omega)) (by decide) (by decide)) dX5_tryOrders_143 (fun H locs hT oq m647 oi hS => ?_)
                  have hF := hF.ast hr_xpd skc_67 oq (by decide)
                  have m648 := m605.kept (oq _ (gne hr_xcs hr_xpd (by decide)))
                  have m649 := m606.kept (oq _ (gne hr_xls hr_xpd (by decide)))
                  have m650 := m607.kept (oq _ (gne hr_xin hr_xpd (by decide)))
                  have m651 := m608.kept (oq _ (gne hr_xac hr_xpd (by decide)))
                  have m652 := m609.put (show el H xpd _ = some (.int 1) from m647) oi
                  have m653 := m610.kept (oq _ (gne hr_xtr hr_xpd (by decide)))
                  have m654 := m611.kept (oq _ (gne hr_xbe hr_xpd (by decide)))
                  have m655 := (el_kept (oq _ (gne hr_o0 hr_xpd (by decide)))).trans m612
                  have m656 := (el_kept (oq _ (gne hr_o0 hr_xpd (by decide)))).trans m613
                  have m657 := (el_kept (oq _ (gne hr_o0 hr_xpd (by decide)))).trans m614
                  have m658 := (el_kept (oq _ (gne hr_o0 hr_xpd (by decide)))).trans m615
                  have m659 := (el_kept (oq _ (gne hr_o0 hr_xpd (by decide)))).trans m616
                  have m660 := (el_kept (oq _ (gne hr_o0 hr_xpd (by decide)))).trans m617
                  have m661 := (el_kept (oq _ (gne hr_o0 hr_xpd (by decide)))).trans m618
                  have m662 := (el_kept (oq _ (gne hr_o0 hr_xpd (by decide)))).trans m619
                  have m663 := (el_kept (oq _ (gne hr_o0 hr_xpd (by decide)))).trans m620
                  have m664 := (el_kept (oq _ (gne hr_xcs hr_xpd (by decide)))).trans m622
                  have m665 := (el_kept (oq _ (gne hr_xls hr_xpd (by decide)))).trans m625
                  refine lv_aload_n hx hb dX5_tryOrders_144 rfl (lv_at hl 3 rfl) ?_
                  refine tw_getM (v := .ref xtr) hx hb hts bF2_X5 hown hK hT hr_o0 shc_8 rfl 10 (by decide) (ht_at2 hts 9 rfl) (fun _ h9 => h9) m662 dX5_tryOrders_145 ?_
                  refine lv_iload_n hx hb dX5_tryOrders_148 rfl (lv_at hl 4 rfl) ?_
                  refine lv_iload hx hb dX5_tryOrders_149 (lv_at hl 2 rfl) ?_
                  refine tw_iast (i := 5) (x := (nI i401)) hx hb hK hT hG hS hr_xtr shc_68 rfl (by unfold vp_in; decide) (gi_of (show (nI i401).toInt = ((i401 : Nat) : Int) from (nI_toInt (by omega))) (by omega) (by omega)) dX5_tryOrders_151 (fun H locs hT oq m666 oi hS => ?_)
                  have hF := hF.ast hr_xtr skc_68 oq (by decide)
                  have m667 := m648.kept (oq _ (gne hr_xcs hr_xtr (by decide)))
                  have m668 := m649.kept (oq _ (gne hr_xls hr_xtr (by decide)))
                  have m669 := m650.kept (oq _ (gne hr_xin hr_xtr (by decide)))
                  have m670 := m651.kept (oq _ (gne hr_xac hr_xtr (by decide)))
                  have m671 := m652.kept (oq _ (gne hr_xpd hr_xtr (by decide)))
                  have m672 := m653.put m666 oi
                  have m673 := m654.kept (oq _ (gne hr_xbe hr_xtr (by decide)))
                  have m674 := (el_kept (oq _ (gne hr_o0 hr_xtr (by decide)))).trans m655
                  have m675 := (el_kept (oq _ (gne hr_o0 hr_xtr (by decide)))).trans m656
                  have m676 := (el_kept (oq _ (gne hr_o0 hr_xtr (by decide)))).trans m657
                  have m677 := (el_kept (oq _ (gne hr_o0 hr_xtr (by decide)))).trans m658
                  have m678 := (el_kept (oq _ (gne hr_o0 hr_xtr (by decide)))).trans m659
                  have m679 := (el_kept (oq _ (gne hr_o0 hr_xtr (by decide)))).trans m660
                  have m680 := (el_kept (oq _ (gne hr_o0 hr_xtr (by decide)))).trans m661
                  have m681 := (el_kept (oq _ (gne hr_o0 hr_xtr (by decide)))).trans m662
                  have m682 := (el_kept (oq _ (gne hr_o0 hr_xtr (by decide)))).trans m663
                  have m683 := (el_kept (oq _ (gne hr_xcs hr_xtr (by decide)))).trans m664
                  have m684 := (el_kept (oq _ (gne hr_xls hr_xtr (by decide)))).trans m665
                  refine lv_aload_n hx hb dX5_tryOrders_152 rfl (lv_at hl 3 rfl) ?_
                  refine lv_iload_n hx hb dX5_tryOrders_153 rfl (lv_at hl 4 rfl) ?_
                  refine lv_iconst (v := 1) hx hb dX5_tryOrders_154 (by decide) ?_
                  refine lv_iadd hx hb dX5_tryOrders_155 ?_
                  refine lv_topi (fun x685 ex685 => ?_)
                  obtain rfl : x685 = 6 := ex685.trans (by decide)
                  refine lv_iload hx hb dX5_tryOrders_156 (lv_at hl 1 rfl) ?_
                  refine lv_lload hx hb dX5_tryOrders_158 (lv_at hl 0 rfl) ?_
                  refine lv_iload hx hb dX5_tryOrders_160 (lv_at hl 7 rfl) ?_
                  refine lv_aload_n hx hb dX5_tryOrders_162 rfl (lv_at hl 3 rfl) ?_
                  refine tw_getM (v := .ref xin) hx hb hts bF2_X5 hown hK hT hr_o0 shc_8 rfl 7 (by decide) (ht_at2 hts 10 rfl) (fun _ h9 => h9) m678 dX5_tryOrders_163 ?_
                  refine lv_iload hx hb dX5_tryOrders_166 (lv_at hl 2 rfl) ?_
                  refine tw_iald (i := (nI i401)) hx hb hK hT hr_xin shc_65 rfl (vp_in_nI (by omega) (by decide)) dX5_tryOrders_168 (fun v9 m686 h9 => ?_)
                  obtain ⟨x687, rfl, gx687, kx687⟩ := h9
                  have cx687 := m669.at m686 (by have q9 := tn_of (show (nI i401).toInt = ((i401 : Nat) : Int) from (nI_toInt (by omega))) (by omega); omega)
                  have t688 : x687.toInt = (aB i401).toInt := congrArg Int32.toInt (cx687.trans (by rw [tn_nI (by omega)]))
                  have t689 : 0 ≤ (aB i401).toInt ∧ (aB i401).toInt ≤ 100000 := (hrg i401 (by omega)).2.2.1
                  refine lv_iadd hx hb dX5_tryOrders_169 ?_
                  refine lv_topi (fun x690 ex690 => ?_)
                  have t691 : x690.toInt = ic.toInt + x687.toInt := ti_add ex690 rfl rfl (by omega) (by omega)
                  refine lv_iload hx hb dX5_tryOrders_170 (lv_at hl 8 rfl) ?_
                  refine lv_aload_n hx hb dX5_tryOrders_172 rfl (lv_at hl 3 rfl) ?_
                  refine tw_getM (v := .ref xac) hx hb hts bF2_X5 hown hK hT hr_o0 shc_8 rfl 8 (by decide) (ht_at2 hts 11 rfl) (fun _ h9 => h9) m679 dX5_tryOrders_173 ?_
                  refine lv_iload hx hb dX5_tryOrders_176 (lv_at hl 2 rfl) ?_
                  refine tw_iald (i := (nI i401)) hx hb hK hT hr_xac shc_66 rfl (vp_in_nI (by omega) (by decide)) dX5_tryOrders_178 (fun v9 m692 h9 => ?_)
                  obtain ⟨x693, rfl, gx693, kx693⟩ := h9
                  have cx693 := m670.at m692 (by have q9 := tn_of (show (nI i401).toInt = ((i401 : Nat) : Int) from (nI_toInt (by omega))) (by omega); omega)
                  have t694 : x693.toInt = (aA i401).toInt := congrArg Int32.toInt (cx693.trans (by rw [tn_nI (by omega)]))
                  have t695 : 0 ≤ (aA i401).toInt ∧ (aA i401).toInt ≤ 1000 := (hrg i401 (by omega)).2.2.2
                  refine lv_iload hx hb dX5_tryOrders_179 (lv_at hl 1 rfl) ?_
                  refine lv_imul hx hb dX5_tryOrders_181 ?_
                  refine lv_topi (fun x696 ex696 => ?_)
                  have t697 : x696.toInt = x693.toInt * x629.toInt := ti_mulx ex696 rfl rfl (A := 1000) (B := 200) (by omega) (by omega) (by omega) (by omega) (by decide)
                  have t698 : 0 ≤ x696.toInt ∧ x696.toInt ≤ 1000 * 200 ∧ (x693.toInt = 0 → x696.toInt = 0) ∧ (x629.toInt = 0 → x696.toInt = 0) ∧ x696.toInt ≤ x693.toInt * 200 ∧ x696.toInt ≤ 1000 * x629.toInt := ti_mulnn ex696 rfl rfl (by omega) (by omega) (by omega) (by omega) (by decide)
                  refine lv_iadd hx hb dX5_tryOrders_182 ?_
                  refine lv_topi (fun x699 ex699 => ?_)
                  have t700 : x699.toInt = lt.toInt + x696.toInt := ti_add ex699 rfl rfl (by omega) (by omega)
                  have hFc := gA_free hG hA hS
                  refine va_callv (va_runV (As := [.int 6, .int x629, .long y645, .int x690, .int x699]) (rest := []) ⟨hx, hb, hml, hown, hts⟩ (c_tryOrdersC6 l dC dI kA adK adV G H nC nS o0 x629 y645 x690 x699 jb z412 xcs xls xin xac xpd xtr xbe aC aY aB aA (cu vP (nI i401).toNatClampNeg (1 : Int32)) (cu V407 (5 : Int32).toNatClampNeg (nI i401)) V409 N (fun k => if k = 5 then ((i401 : Nat) : Int) else R k) (slO N 5 aC aY aB aA (pb vP) yr.toInt co.toInt ic.toInt lt.toInt R a0 i401) hT hr_o0 m674 m675 m676 hr_xcs m677 hr_xls m678 hr_xin m679 hr_xac m680 hr_xpd m681 hr_xtr m682 hr_xbe (by have q8 := ti_all x629; omega) (by have q8 := ti_all x690; omega) (by have q8 := ti_all x699; omega) (by have q8 := ti_all jb; omega) (by omega) hN hrg (sl_ok (by omega) (fun j hj => by have := (hrg j (by omega)).2.1.1; omega) (fun j hj => (hrg j (by omega)).2.2.2.1) (by omega) (by omega) hba) hj421 hj422 (rr_s (K := 5) rfl (by decide) (nI_toInt (by omega)) hj423) m667 m668 m669 m670 m671 m672 m673 (by omega) (by omega)) (cwV 5 hts (goodIn_app (goodIn_r _ [19, 20, 21, 8] rfl (by decide +kernel)) (goodIn_ca (goodIn_r _ [13, 1, 2, 3, 4, 5, 6, 7, 8, 9, 10, 11, 12, 13, 14, 15, 16, 17, 18, 19, 20, 21] rfl (by decide +kernel)) (bs2_in _ _))) rfl rfl rfl (by decide +kernel) ⟨(Nat.le_of_ble_eq_true rfl), (Nat.le_of_ble_eq_true rfl)⟩) ⟨fun a U g mk q => by obtain ⟨q0, q1, qK, qE⟩ := q; exact ⟨q0, q1, va_K.moved (u := U) (U := U.calling g mk a) (Vm.Alike.refl U.vm) qK, EVC.blind g mk a qE⟩, gH_recv hK hT hr_o0 shc_8 rfl, fun U hU hW => ⟨rfl, hU, va_K.moved hW.alike hK, hE.call hS hFc hU hW⟩⟩ rfl rfl hl.1 rfl (lv_room (Nat.le_of_ble_eq_true rfl)) dX5_tryOrders_183 ⟨(Nat.le_of_ble_eq_true rfl), (Nat.le_of_ble_eq_true rfl)⟩) hS (fun q _ h => hFc q h) hFc (fun u t H locs ht hvm hw702 hB _ _ hS => ?_)
                  obtain ⟨u703, u704, u705⟩ := u
                  obtain ⟨hT, hF1, m706, m707, m708, m709⟩ := hB
                  rw [ht] at hT hF1 m706 m707 m708 m709
                  have m710 := m667.kept (hF1.arr hr_xcs skc_63 (by decide))
                  have m711 := m668.kept (hF1.arr hr_xls skc_64 (by decide))
                  have m712 := m669.kept (hF1.arr hr_xin skc_65 (by decide))
                  have m713 := m670.kept (hF1.arr hr_xac skc_66 (by decide))
                  have m717 := (hF1.fld hr_o0 skc_8 (k := 15) (by decide) (by decide)).trans m674
                  have m719 := (hF1.fld hr_o0 skc_8 (k := 5) (by decide) (by decide)).trans m676
                  have m720 := (hF1.fld hr_o0 skc_8 (k := 6) (by decide) (by decide)).trans m677
                  have m721 := (hF1.fld hr_o0 skc_8 (k := 7) (by decide) (by decide)).trans m678
                  have m722 := (hF1.fld hr_o0 skc_8 (k := 8) (by decide) (by decide)).trans m679
                  have m723 := (hF1.fld hr_o0 skc_8 (k := 9) (by decide) (by decide)).trans m680
                  have m724 := (hF1.fld hr_o0 skc_8 (k := 10) (by decide) (by decide)).trans m681
                  have m725 := (hF1.fld hr_o0 skc_8 (k := 11) (by decide) (by decide)).trans m682
                  have m726 := (el_kept (hF1.arr hr_xcs skc_63 (by decide))).trans m683
                  have m727 := (el_kept (hF1.arr hr_xls skc_64 (by decide))).trans m684
                  have m729 := (el_kept (hF1.arr hr_xin skc_65 (by decide))).trans m686
                  have m730 := (el_kept (hF1.arr hr_xac skc_66 (by decide))).trans m692
                  have hF := hF.more hF1 (by decide)
                  try dsimp only at hw702
                  have hf731 := hw702
                  refine lv_aload_n hx hb dX5_tryOrders_186 rfl (lv_at hl 3 rfl) ?_
                  refine tw_getM (v := .ref xpd) hx hb hts bF2_X5 hown hK hT hr_o0 shc_8 rfl 9 (by decide) (ht_at2 hts 2 rfl) (fun _ h9 => h9) m723 dX5_tryOrders_187 ?_
                  refine lv_iload hx hb dX5_tryOrders_190 (lv_at hl 2 rfl) ?_
                  refine lv_iconst (v := 0) hx hb dX5_tryOrders_192 (by decide) ?_
                  refine tw_zast (i := (nI i401)) (x := 0) hx hb hK hT hG hS hr_xpd shc_67 rfl (vp_in_nI (by omega) (by decide)) (gi_z (rg_t (a := 0) (by decide) (by omega) (by omega)) (by decide) (by decide)) dX5_tryOrders_193 (fun H locs hT oq m732 oi hS => ?_)
                  have hF := hF.ast hr_xpd skc_67 oq (by decide)
                  have m733 := m710.kept (oq _ (gne hr_xcs hr_xpd (by decide)))
                  have m734 := m711.kept (oq _ (gne hr_xls hr_xpd (by decide)))
                  have m735 := m712.kept (oq _ (gne hr_xin hr_xpd (by decide)))
                  have m736 := m713.kept (oq _ (gne hr_xac hr_xpd (by decide)))
                  have m737 := (el_kept (oq _ (gne hr_o0 hr_xpd (by decide)))).trans m717
                  have m738 := (el_kept (oq _ (gne hr_o0 hr_xpd (by decide)))).trans m719
                  have m739 := (el_kept (oq _ (gne hr_o0 hr_xpd (by decide)))).trans m720
                  have m740 := (el_kept (oq _ (gne hr_o0 hr_xpd (by decide)))).trans m721
                  have m741 := (el_kept (oq _ (gne hr_o0 hr_xpd (by decide)))).trans m722
                  have m742 := (el_kept (oq _ (gne hr_o0 hr_xpd (by decide)))).trans m723
                  have m743 := (el_kept (oq _ (gne hr_o0 hr_xpd (by decide)))).trans m724
                  have m744 := (el_kept (oq _ (gne hr_o0 hr_xpd (by decide)))).trans m725
                  have m745 := (el_kept (oq _ (gne hr_xcs hr_xpd (by decide)))).trans m726
                  have m746 := (el_kept (oq _ (gne hr_xls hr_xpd (by decide)))).trans m727
                  have m747 := (el_kept (oq _ (gne hr_xin hr_xpd (by decide)))).trans m729
                  have m748 := (el_kept (oq _ (gne hr_xac hr_xpd (by decide)))).trans m730
                  have m749 := (el_kept (oq _ (gne hr_o0 hr_xpd (by decide)))).trans m706
                  have m750 := m707.put (show el H xpd _ = some (.int 0) from m732) oi
                  have m751 := m708.kept (oq _ (gne hr_xtr hr_xpd (by decide)))
                  have m752 := m709.kept (oq _ (gne hr_xbe hr_xpd (by decide)))
                  refine lv_iinc (v := nI (i401 + 1)) (lv' := [(7, .int (nI (i401 + 1))), (9, .long y645), (8, .int x629), (0, .ref o0), (1, .int 5), (2, .int yr), (3, .long co), (5, .int ic), (6, .int lt)]) hx hb dX5_tryOrders_194 hl (k := 2) rfl (nI_add i401 1) (by decide) rfl (fun ls hl => ?_)
                  refine lv_goto (tgt := 53) hx hb dX5_tryOrders_197 (by decide) ?_
                  have bk9 : u703.toInt = (slO N 5 aC aY aB aA (pb vP) yr.toInt co.toInt ic.toInt lt.toInt R a0 (i401 + 1)).1 ∧ (0 ≤ (slO N 5 aC aY aB aA (pb vP) yr.toInt co.toInt ic.toInt lt.toInt R a0 (i401 + 1)).1 → ∀ k : Nat, k < N → (u705 k).toInt = (slO N 5 aC aY aB aA (pb vP) yr.toInt co.toInt ic.toInt lt.toInt R a0 (i401 + 1)).2 k) ∧ ∀ k : Nat, k < 5 → (u704 k).toInt = R k := by have q9 := hf731; rw [sl_call (N := N) (K := 5) (K1 := 6) (aC := aC) (aY := aY) (aB := aB) (aA := aA) (U := pb vP) (yr := yr.toInt) (ca := co.toInt) (ic := ic.toInt) (su := lt.toInt) (R := R) (a := a0) (i := i401) (d := x629.toInt) (c1 := y645.toInt) (i1 := x690.toInt) (s1 := x699.toInt) (U1 := pb (cu vP (nI i401).toNatClampNeg (1 : Int32))) rfl (pb_0 (tn_nI (by omega)) cx596 (by omega)) dn9 (pb_cu (tn_nI (by omega))) (by omega) (by omega) (by rw [show (aA i401).toInt = x693.toInt from by omega]; omega)] at q9; exact ⟨q9.1, q9.2.1, fun k hk => (q9.2.2 k (by omega)).trans (if_neg (by omega))⟩
                  exact ih588 (i401 + 1) (by omega) (by omega) u704 u705 u703 ⟨bk9.1, bk9.2.1, bk9.2.2, (by omega)⟩ _ _ hT hF hS m733 m734 m735 m736 (m750.ext (fun _ _ => pb_r cx596 (by omega))) m751 m752 m737 m749 m738 m739 m740 m741 m742 m743 m744 ls (lv_sub hl [0, 3, 4, 5, 6, 7, 8] rfl)
              · have t753 : x596.toInt ≠ 0 := ti_ne c597 rfl (by decide)
                refine lv_iconst (v := (-1)) hx hb dX5_tryOrders_72 (by decide) ?_
                refine lv_goto (tgt := 98) hx hb dX5_tryOrders_73 (by decide) ?_
                refine lv_istore (lv' := [(8, .int (-1)), (7, .int (nI i401)), (0, .ref o0), (1, .int 5), (2, .int yr), (3, .long co), (5, .int ic), (6, .int lt)]) hx hb dX5_tryOrders_98 hl (by decide) rfl (fun ls hl => ?_)
                refine lv_iload hx hb dX5_tryOrders_100 (lv_at hl 0 rfl) ?_
                refine lv_iconst (v := (-1)) hx hb dX5_tryOrders_102 (by decide) ?_
                refine lv_icmp_eq (tgt := 194) hx hb dX5_tryOrders_103 (by decide) (fun c754 => ?_) (fun c754 => absurd c754 (by decide))
                refine lv_iinc (v := nI (i401 + 1)) (lv' := [(7, .int (nI (i401 + 1))), (8, .int (-1)), (0, .ref o0), (1, .int 5), (2, .int yr), (3, .long co), (5, .int ic), (6, .int lt)]) hx hb dX5_tryOrders_194 hl (k := 1) rfl (nI_add i401 1) (by decide) rfl (fun ls hl => ?_)
                refine lv_goto (tgt := 53) hx hb dX5_tryOrders_197 (by decide) ?_
                have bk9 : z412.toInt = (slO N 5 aC aY aB aA (pb vP) yr.toInt co.toInt ic.toInt lt.toInt R a0 (i401 + 1)).1 ∧ (0 ≤ (slO N 5 aC aY aB aA (pb vP) yr.toInt co.toInt ic.toInt lt.toInt R a0 (i401 + 1)).1 → ∀ k : Nat, k < N → (V409 k).toInt = (slO N 5 aC aY aB aA (pb vP) yr.toInt co.toInt ic.toInt lt.toInt R a0 (i401 + 1)).2 k) ∧ ∀ k : Nat, k < 5 → (V407 k).toInt = R k := by rw [sl_u (pb_1 (tn_nI (by omega)) cx596 (by omega))]; exact ⟨hj421, hj422, hj423⟩
                exact ih588 (i401 + 1) (by omega) (by omega) V407 V409 z412 ⟨bk9.1, bk9.2.1, bk9.2.2, (by omega)⟩ _ _ hT hF hS m402 m403 m404 m405 (m406.ext (fun _ _ => rfl)) m408 m410 m411 m413 m414 m415 m416 m417 m418 m419 m420 ls (lv_sub hl [0, 2, 3, 4, 5, 6, 7] rfl)
        exact key588 (7 - 0) 0 (by omega) (Nat.le_refl _) vR vZ la ⟨hla, hZ0, hR, (by omega)⟩ _ _ hT hF hS hc_aC hc_aY hc_aB hc_aA (hc_vP.ext (fun _ _ => rfl)) hc_vR hc_vZ hm_jb hm_la hm_xcs hm_xls hm_xin hm_xac hm_xpd hm_xtr hm_xbe ls (lv_sub hl [0, 1, 2, 3, 4, 5, 6] rfl)
      · have t755 : jb.toInt ≤ 5 := ti_nlt c399 (by decide) rfl
        refine lv_aload_n hx hb dX5_tryOrders_26 rfl (lv_at hl 0 rfl) ?_
        refine lv_iload hx hb dX5_tryOrders_27 (lv_at hl 5 rfl) ?_
        refine tw_put (v := .int lt) (ty := .int) hx hb hts bF2_X5 tyX5 tyX5_ok nmX5 hown hK hT hG hS hr_o0 shc_8 rfl 16 (by decide) (ht_at2 hts 0 rfl) (fun _ h9 => h9) rfl (by decide +kernel) rfl rfl (gl_at rfl (gi_all _)) dX5_tryOrders_29 (fun H locs hT oq m756 oj hS => ?_)
        have hF := hF.put hr_o0 skc_8 oq oj (by decide)
        have m757 := (oj 15 (by decide) (by decide)).trans hm_jb
        have m758 := (oj 5 (by decide) (by decide)).trans hm_xcs
        have m759 := (oj 6 (by decide) (by decide)).trans hm_xls
        have m760 := (oj 7 (by decide) (by decide)).trans hm_xin
        have m761 := (oj 8 (by decide) (by decide)).trans hm_xac
        have m762 := (oj 9 (by decide) (by decide)).trans hm_xpd
        have m763 := (oj 10 (by decide) (by decide)).trans hm_xtr
        have m764 := (oj 11 (by decide) (by decide)).trans hm_xbe
        have m765 := hc_aC.kept (oq _ (gne hr_xcs hr_o0 (by decide)))
        have m766 := hc_aY.kept (oq _ (gne hr_xls hr_o0 (by decide)))
        have m767 := hc_aB.kept (oq _ (gne hr_xin hr_o0 (by decide)))
        have m768 := hc_aA.kept (oq _ (gne hr_xac hr_o0 (by decide)))
        have m769 := hc_vP.kept (oq _ (gne hr_xpd hr_o0 (by decide)))
        have m770 := hc_vR.kept (oq _ (gne hr_xtr hr_o0 (by decide)))
        have m771 := hc_vZ.kept (oq _ (gne hr_xbe hr_o0 (by decide)))
        refine lv_aload_n hx hb dX5_tryOrders_32 rfl (lv_at hl 0 rfl) ?_
        refine tw_getM (v := .ref xtr) hx hb hts bF2_X5 hown hK hT hr_o0 shc_8 rfl 10 (by decide) (ht_at2 hts 9 rfl) (fun _ h9 => h9) m763 dX5_tryOrders_33 ?_
        refine lv_iconst (v := 0) hx hb dX5_tryOrders_36 (by decide) ?_
        refine lv_aload_n hx hb dX5_tryOrders_37 rfl (lv_at hl 0 rfl) ?_
        refine tw_getM (v := .ref xbe) hx hb hts bF2_X5 hown hK hT hr_o0 shc_8 rfl 11 (by decide) (ht_at2 hts 13 rfl) (fun _ h9 => h9) m764 dX5_tryOrders_38 ?_
        refine lv_iconst (v := 0) hx hb dX5_tryOrders_41 (by decide) ?_
        refine lv_aload_n hx hb dX5_tryOrders_42 rfl (lv_at hl 0 rfl) ?_
        refine tw_getM (v := .int jb) hx hb hts bF2_X5 hown hK hT hr_o0 shc_8 rfl 15 (by decide) (ht_at2 hts 1 rfl) (fun _ h9 => h9) m757 dX5_tryOrders_43 ?_
        refine tw_copyE (ty := .int) hx hb (hml.trans hl.1.symm) hown (ht_at2 hts 14 rfl) (ht_at2 hts 15 rfl) (ht_at2 hts 16 rfl) (ht_at2 hts 17 rfl) hK hT hG hS hr_xtr hr_xbe shc_68 shc_69 rfl rfl (by decide) (by decide) (fun h9 => by have q9 := ti_lt h9 rfl (show (0 : Int32).toInt = 0 from by decide); omega) (by have q9 := tn_of (show jb.toInt = jb.toInt from rfl) (by omega); have q8 : (0 : Int32).toNatClampNeg = 0 := (by decide); omega) (by have q9 := tn_of (show jb.toInt = jb.toInt from rfl) (by omega); have q8 : (0 : Int32).toNatClampNeg = 0 := (by decide); omega) (by decide) (by decide) (fun _ _ h9 => by obtain ⟨x9, e9, _⟩ := h9; exact ⟨x9, e9, rfl⟩) (fun _ _ _ h9 => by obtain ⟨x9, e9, a9, b9⟩ := h9; exact ⟨x9, e9, by omega, by omega⟩) (Nat.le_of_ble_eq_true rfl) (Nat.le_of_ble_eq_true rfl) dX5_tryOrders_46 (fun H locs hT oq ce772 hS => ?_)
        have hF := hF.ast hr_xbe skc_69 oq (by decide)
        have m773 := (el_kept (oq _ (gne hr_o0 hr_xbe (by decide)))).trans m757
        have m774 := (el_kept (oq _ (gne hr_o0 hr_xbe (by decide)))).trans m758
        have m775 := (el_kept (oq _ (gne hr_o0 hr_xbe (by decide)))).trans m759
        have m776 := (el_kept (oq _ (gne hr_o0 hr_xbe (by decide)))).trans m760
        have m777 := (el_kept (oq _ (gne hr_o0 hr_xbe (by decide)))).trans m761
        have m778 := (el_kept (oq _ (gne hr_o0 hr_xbe (by decide)))).trans m762
        have m779 := (el_kept (oq _ (gne hr_o0 hr_xbe (by decide)))).trans m763
        have m780 := (el_kept (oq _ (gne hr_o0 hr_xbe (by decide)))).trans m764
        have m781 := m765.kept (oq _ (gne hr_xcs hr_xbe (by decide)))
        have m782 := m766.kept (oq _ (gne hr_xls hr_xbe (by decide)))
        have m783 := m767.kept (oq _ (gne hr_xin hr_xbe (by decide)))
        have m784 := m768.kept (oq _ (gne hr_xac hr_xbe (by decide)))
        have m785 := m769.kept (oq _ (gne hr_xpd hr_xbe (by decide)))
        have m786 := m770.kept (oq _ (gne hr_xtr hr_xbe (by decide)))
        have m787 := (el_kept (oq _ (gne hr_o0 hr_xbe (by decide)))).trans m756
        obtain ⟨V788, m789, kV788⟩ := ct_of hT hr_xbe shc_69
        have cq790 : ∀ k : Nat, ((k : Nat) : Int) < jb.toInt → V788 k = vR k := fun k hk => Value.int.inj (Option.some.inj ((m789 k (by omega)).symm.trans ((ce772 k (by have q9 := tn_of (show jb.toInt = jb.toInt from rfl) (by omega); omega)).trans (m770 k (by omega)))))
        exact W.vret hx hb hr (fun t ht hW => ⟨⟨(lt, vR, V788), rfl, (by exact (by (try dsimp only); have e9 : N = 5 := (by omega); rw [sx_0 e9, if_neg (by omega)]; exact ⟨rfl, fun _ k hk => (congrArg Int32.toInt (cq790 k (by omega))).trans (hR k (by omega)), hR⟩)), by (try dsimp only); rw [ht]; exact ⟨hT, hF, m787, m785, m786, m789⟩⟩, hS.F ht⟩) hS.2.2 dX5_tryOrders_49
    · have t791 : la.toInt ≤ lt.toInt := ti_nlt c397 rfl rfl
      exact W.vret hx hb hr (fun t ht hW => ⟨⟨(la, vR, vZ), rfl, (by exact (by (try dsimp only); rw [sx_cut (fun j hj => by have := (hrg j (by omega)).2.1.1; omega) (fun j hj => (hrg j (by omega)).2.2.2.1) (by omega) ⟨by omega, by omega⟩]; exact ⟨by omega, hZ0, hR⟩)), by (try dsimp only); rw [ht]; exact ⟨hT, hF, hm_la, hc_vP, hc_vR, hc_vZ⟩⟩, hS.F ht⟩) hS.2.2 dX5_tryOrders_17
def w_c_tryOrdersC4 : List Cond := .code yX5_tryOrders cX5_tryOrders 11 none :: (HAppend.hAppend (α := List Cond) (β := List Cond) (γ := List Cond) [.fieldLink RX5 157 "SeaLand$Plans" "bestLate" "I", .fieldLink RX5 154 "SeaLand$Plans" "jobs" "I", .fieldLink RX5 41 "SeaLand$Plans" "placed" "[Z", .fieldLink RX5 29 "SeaLand$Plans" "costs" "[I", .code yX5_yearWithCost cX5_yearWithCost 5 (some .int), .methodLink RX5 164 yX5_yearWithCost, .static yX5_yearWithCost, .initialized RX5, .fieldLink RX5 32 "SeaLand$Plans" "lasts" "[I", .fieldLink RX5 45 "SeaLand$Plans" "trial" "[I", .fieldLink RX5 35 "SeaLand$Plans" "incomes" "[I", .fieldLink RX5 38 "SeaLand$Plans" "acres" "[I", .code yX5_tryOrders cX5_tryOrders 11 none, .fieldLink RX5 48 "SeaLand$Plans" "best" "[I", .methodLink RX5 100 arraycopyName, .native arraycopyName, .static arraycopyName, .initialized "java/lang/System", .methodLink RX5 160 yX5_tryOrders, .instanceMethod yX5_tryOrders, .selects RX5 yX5_tryOrders yX5_tryOrders] bs2)
set_option maxHeartbeats 4000000 in
set_option maxRecDepth 100000 in
theorem c_tryOrdersC4 (l : Launch) (dC : Nat → ClassId) (dI : Nat → Nat → Nat) (kA : Nat → ClassId) (adK adV : Nat → Nat) (G : gT) (H0 : Heap) (nC nS : Int) (o0 : Nat) (yr : Int32) (co : Int64) (ic : Int32) (lt : Int32) (jb : Int32) (la : Int32) (xcs : Nat) (xls : Nat) (xin : Nat) (xac : Nat) (xpd : Nat) (xtr : Nat) (xbe : Nat) (aC : Nat → Int32) (aY : Nat → Int32) (aB : Nat → Int32) (aA : Nat → Int32) (vP : Nat → Int32) (vR : Nat → Int32) (vZ : Nat → Int32) (N : Nat) (R : Nat → Int) (a0 : oA) (hT : gH (dC, dI) kA (SHc nC nS) G H0) (hr_o0 : G o0 = some 8) (hm_jb : el H0 o0 (dI 8 15) = some (.int jb)) (hm_la : el H0 o0 (dI 8 16) = some (.int la)) (hm_xcs : el H0 o0 (dI 8 5) = some (.ref xcs)) (hr_xcs : G xcs = some 63) (hm_xls : el H0 o0 (dI 8 6) = some (.ref xls)) (hr_xls : G xls = some 64) (hm_xin : el H0 o0 (dI 8 7) = some (.ref xin)) (hr_xin : G xin = some 65) (hm_xac : el H0 o0 (dI 8 8) = some (.ref xac)) (hr_xac : G xac = some 66) (hm_xpd : el H0 o0 (dI 8 9) = some (.ref xpd)) (hr_xpd : G xpd = some 67) (hm_xtr : el H0 o0 (dI 8 10) = some (.ref xtr)) (hr_xtr : G xtr = some 68) (hm_xbe : el H0 o0 (dI 8 11) = some (.ref xbe)) (hr_xbe : G xbe = some 69) (hq0 : 0 ≤ yr.toInt ∧ yr.toInt ≤ 200) (hq1 : 0 ≤ ic.toInt ∧ ic.toInt ≤ 400000) (hq2 : 0 ≤ lt.toInt ∧ lt.toInt ≤ 800000) (hq3 : 4 ≤ jb.toInt ∧ jb.toInt ≤ 7) (hco : 0 ≤ co.toInt ∧ co.toInt ≤ 121000000) (hN : jb.toInt = ((N : Nat) : Int)) (hrg : joR jb.toInt aC aY aB aA) (hba : a0.1 = -1 ∨ 0 ≤ a0.1) (hla : la.toInt = a0.1) (hZ0 : 0 ≤ a0.1 → ∀ k : Nat, k < N → (vZ k).toInt = a0.2 k) (hR : ∀ k : Nat, k < 4 → (vR k).toInt = R k) (hc_aC : ct H0 xcs 7 aC) (hc_aY : ct H0 xls 7 aY) (hc_aB : ct H0 xin 7 aB) (hc_aA : ct H0 xac 7 aA) (hc_vP : ct H0 xpd 7 vP) (hc_vR : ct H0 xtr 7 vR) (hc_vZ : ct H0 xbe 7 vZ) (hgC : 0 ≤ nC ∧ nC ≤ 40) (hgS : 0 ≤ nS ∧ nS ≤ 60) : Met l yX5_tryOrders w_c_tryOrdersC4 ({ frames := 5, cells := 0, slots := 0, locals := 150 }) (va_Pc [.ref o0, .int 4, .int yr, .long co, .int ic, .int lt] (fun U => U.heap = H0 ∧ va_K (dC, dI) vwCl (tyl kA) U ∧ EVC adK adV (gA G H0.size) U U.heap)) (va_Qv (fun (u : Int32 × (Nat → Int32) × (Nat → Int32)) => match u with | (la1, vR1, vZ1) => (la1.toInt = (sx N 4 aC aY aB aA (pb vP) yr.toInt co.toInt ic.toInt lt.toInt R a0).1 ∧ (0 ≤ (sx N 4 aC aY aB aA (pb vP) yr.toInt co.toInt ic.toInt lt.toInt R a0).1 → ∀ k : Nat, k < N → (vZ1 k).toInt = (sx N 4 aC aY aB aA (pb vP) yr.toInt co.toInt ic.toInt lt.toInt R a0).2 k) ∧ ∀ k : Nat, k < 4 → (vR1 k).toInt = R k)) (fun (u : Int32 × (Nat → Int32) × (Nat → Int32)) (t : State) => match u with | (la1, vR1, vZ1) => gH (dC, dI) kA (SHc nC nS) G t.heap ∧ gF (dC, dI) SKc G ([(8, 16), (67, 0), (68, 0), (69, 0)] : List (Nat × Nat)) H0 t.heap ∧ el t.heap o0 (dI 8 16) = some (.int la1) ∧ ct t.heap xpd 7 vP ∧ ct t.heap xtr 7 vR1 ∧ ct t.heap xbe 7 vZ1) (gA G H0.size)) 0 0 (gA G H0.size) := by
  refine Met.ofW (cc := cX5_tryOrders) (maxL := 11) (ret := none) (by decide) rfl ?_
  intro p e s m args below meth c s₁ B hml hv
  obtain ⟨rfl, hH0, hK, hE⟩ := hv
  have hx := B.exec
  have hb := B.bytes
  have hr := B.returns
  have hts := atoms_spec (ws := w_c_tryOrdersC4) B.pre
  have hown : s.vm.findClass RX5 = some m.cls := findClass_of_methodNamed B.named
  have hlocks := B.notSynchronized
  subst hH0
  generalize hAe : gA G s.heap.size = A at hE ⊢
  have hA : ∀ q : Nat, s.heap.size ≤ q → A q := fun q h => by rw [← hAe]; exact Or.inr h
  have hG := gA_of hAe
  have hS : va_S A s.heap s.heap [] := va_S.rf
  have hF : gF (dC, dI) SKc G ([(8, 16), (67, 0), (68, 0), (69, 0)] : List (Nat × Nat)) s.heap s.heap := gF.rf
  have hl := lv_entry ([.ref o0, .int 4, .int yr, .long co, .int ic, .int lt]) (n := 11) (Nat.le_of_ble_eq_true rfl)
  rw [lg_entry_eq]
  generalize (lg_sl ([.ref o0, .int 4, .int yr, .long co, .int ic, .int lt]) ++ List.replicate (11 - (lg_sl ([.ref o0, .int 4, .int yr, .long co, .int ic, .int lt])).length) Slot.unset).toArray = ls at hl ⊢
  have hl : lv_has ls 11 [(0, .ref o0), (1, .int 4), (2, .int yr), (3, .long co), (5, .int ic), (6, .int lt)] := hl
  refine lv_aload_n hx hb dX5_tryOrders_0 rfl (lv_at hl 0 rfl) ?_
  refine tw_getM (v := .int la) hx hb hts bF2_X5 hown hK hT hr_o0 shc_8 rfl 16 (by decide) (ht_at2 hts 0 rfl) (fun _ h9 => h9) hm_la dX5_tryOrders_1 ?_
  refine lv_iconst (v := (-1)) hx hb dX5_tryOrders_4 (by decide) ?_
  have t1 : -2147483648 ≤ la.toInt ∧ la.toInt ≤ 2147483647 := ti_all la
  refine lv_icmp_eq (tgt := 18) hx hb dX5_tryOrders_5 (by decide) (fun c2 => ?_) (fun c2 => ?_)
  · have t3 : la.toInt = (-1) := ti_eq c2 rfl (by decide)
    refine lv_iload_n hx hb dX5_tryOrders_18 rfl (lv_at hl 1 rfl) ?_
    refine lv_aload_n hx hb dX5_tryOrders_19 rfl (lv_at hl 0 rfl) ?_
    refine tw_getM (v := .int jb) hx hb hts bF2_X5 hown hK hT hr_o0 shc_8 rfl 15 (by decide) (ht_at2 hts 1 rfl) (fun _ h9 => h9) hm_jb dX5_tryOrders_20 ?_
    refine lv_icmp_lt (tgt := 50) hx hb dX5_tryOrders_23 (by decide) (fun c4 => ?_) (fun c4 => ?_)
    · have t5 : 4 < jb.toInt := ti_lt c4 (by decide) rfl
      refine lv_iconst (v := 0) hx hb dX5_tryOrders_50 (by decide) ?_
      refine lv_istore (lv' := [(7, .int 0), (0, .ref o0), (1, .int 4), (2, .int yr), (3, .long co), (5, .int ic), (6, .int lt)]) hx hb dX5_tryOrders_51 hl (by decide) rfl (fun ls hl => ?_)
      have key193 : ∀ (n193 i6 : Nat), i6 + n193 = 7 → 0 ≤ i6 → ∀ (V12 : Nat → Int32), ∀ (V14 : Nat → Int32), ∀ (z17 : Int32), ((z17.toInt = (slO N 4 aC aY aB aA (pb vP) yr.toInt co.toInt ic.toInt lt.toInt R a0 i6).1) ∧ (0 ≤ (slO N 4 aC aY aB aA (pb vP) yr.toInt co.toInt ic.toInt lt.toInt R a0 i6).1 → ∀ k : Nat, k < N → (V14 k).toInt = (slO N 4 aC aY aB aA (pb vP) yr.toInt co.toInt ic.toInt lt.toInt R a0 i6).2 k) ∧ (∀ k : Nat, k < 4 → (V12 k).toInt = R k) ∧ (((i6 : Nat) : Int) ≤ jb.toInt)) → ∀ (H : Heap) (locs : List Loc), gH (dC, dI) kA (SHc nC nS) G H → gF (dC, dI) SKc G ([(8, 16), (67, 0), (68, 0), (69, 0)] : List (Nat × Nat)) s.heap H → va_S A s.heap H locs → ct H xcs 7 aC → ct H xls 7 aY → ct H xin 7 aB → ct H xac 7 aA → ct H xpd 7 vP → ct H xtr 7 V12 → ct H xbe 7 V14 → el H o0 (dI 8 15) = some (.int jb) → el H o0 (dI 8 16) = some (.int z17) → el H o0 (dI 8 5) = some (.ref xcs) → el H o0 (dI 8 6) = some (.ref xls) → el H o0 (dI 8 7) = some (.ref xin) → el H o0 (dI 8 8) = some (.ref xac) → el H o0 (dI 8 9) = some (.ref xpd) → el H o0 (dI 8 10) = some (.ref xtr) → el H o0 (dI 8 11) = some (.ref xbe) → ∀ ls : Array Slot, lv_has ls 11 [(7, .int (nI i6)), (0, .ref o0), (1, .int 4), (2, .int yr), (3, .long co), (5, .int ic), (6, .int lt)] → W p l e (headSpec w_c_tryOrdersC4 ({ frames := 5, cells := 0, slots := 0, locals := 150 })).room s m #[.ref o0, .int 4, .int yr, .long co, .int ic, .int lt] below meth c H locs 0 0 (MQ below (va_Qv (fun (u : Int32 × (Nat → Int32) × (Nat → Int32)) => match u with | (la1, vR1, vZ1) => (la1.toInt = (sx N 4 aC aY aB aA (pb vP) yr.toInt co.toInt ic.toInt lt.toInt R a0).1 ∧ (0 ≤ (sx N 4 aC aY aB aA (pb vP) yr.toInt co.toInt ic.toInt lt.toInt R a0).1 → ∀ k : Nat, k < N → (vZ1 k).toInt = (sx N 4 aC aY aB aA (pb vP) yr.toInt co.toInt ic.toInt lt.toInt R a0).2 k) ∧ ∀ k : Nat, k < 4 → (vR1 k).toInt = R k)) (fun (u : Int32 × (Nat → Int32) × (Nat → Int32)) (t : State) => match u with | (la1, vR1, vZ1) => gH (dC, dI) kA (SHc nC nS) G t.heap ∧ gF (dC, dI) SKc G ([(8, 16), (67, 0), (68, 0), (69, 0)] : List (Nat × Nat)) s.heap t.heap ∧ el t.heap o0 (dI 8 16) = some (.int la1) ∧ ct t.heap xpd 7 vP ∧ ct t.heap xtr 7 vR1 ∧ ct t.heap xbe 7 vZ1) A) #[.ref o0, .int 4, .int yr, .long co, .int ic, .int lt] s 0 0 A) (F0 m 53 ls []) := by
        intro n193
        induction n193 with
        | zero =>
          intro i6 hn193 hlo194 V12 V14 z17 ⟨hj26, hj27, hj28, hj29⟩ H locs hT hF hS m7 m8 m9 m10 m11 m13 m15 m16 m18 m19 m20 m21 m22 m23 m24 m25 ls hl
          obtain rfl : 7 = i6 := by omega
          refine lv_iload hx hb dX5_tryOrders_53 (lv_at hl 0 rfl) ?_
          refine lv_aload_n hx hb dX5_tryOrders_55 rfl (lv_at hl 1 rfl) ?_
          refine tw_getM (v := .int jb) hx hb hts bF2_X5 hown hK hT hr_o0 shc_8 rfl 15 (by decide) (ht_at2 hts 1 rfl) (fun _ h9 => h9) m16 dX5_tryOrders_56 ?_
          refine lv_icmp_ge (tgt := 200) hx hb dX5_tryOrders_59 (by decide) (fun c195 => ?_) (fun c195 => (by exfalso; have q9 : ((7 : Nat) : Int) < jb.toInt := ti_nle c195 rfl (nI_toInt (by omega)); omega))
          have t196 : jb.toInt ≤ ((7 : Nat) : Int) := ti_le c195 rfl (nI_toInt (by omega))
          exact W.vret hx hb hr (fun t ht hW => ⟨⟨(z17, V12, V14), rfl, (by exact (by (try dsimp only); have e9 : N = 7 := (by omega); rw [sx_s (by omega)]; subst e9; exact ⟨hj26, hj27, hj28⟩)), by (try dsimp only); rw [ht]; exact ⟨hT, hF, m18, m11, m13, m15⟩⟩, hS.F ht⟩) hS.2.2 dX5_tryOrders_200
        | succ n193 ih193 =>
          intro i6 hn193 hlo194 V12 V14 z17 ⟨hj26, hj27, hj28, hj29⟩ H locs hT hF hS m7 m8 m9 m10 m11 m13 m15 m16 m18 m19 m20 m21 m22 m23 m24 m25 ls hl
          have hlt196 : i6 < 7 := by omega
          refine lv_iload hx hb dX5_tryOrders_53 (lv_at hl 0 rfl) ?_
          refine lv_aload_n hx hb dX5_tryOrders_55 rfl (lv_at hl 1 rfl) ?_
          refine tw_getM (v := .int jb) hx hb hts bF2_X5 hown hK hT hr_o0 shc_8 rfl 15 (by decide) (ht_at2 hts 1 rfl) (fun _ h9 => h9) m16 dX5_tryOrders_56 ?_
          refine lv_icmp_ge (tgt := 200) hx hb dX5_tryOrders_59 (by decide) (fun c197 => ?_) (fun c197 => ?_)
          · have t198 : jb.toInt ≤ ((i6 : Nat) : Int) := ti_le c197 rfl (nI_toInt (by omega))
            exact W.vret hx hb hr (fun t ht hW => ⟨⟨(z17, V12, V14), rfl, (by exact (by (try dsimp only); have e9 : N = i6 := (by omega); rw [sx_s (by omega)]; subst e9; exact ⟨hj26, hj27, hj28⟩)), by (try dsimp only); rw [ht]; exact ⟨hT, hF, m18, m11, m13, m15⟩⟩, hS.F ht⟩) hS.2.2 dX5_tryOrders_200
          · have t199 : ((i6 : Nat) : Int) < jb.toInt := ti_nle c197 rfl (nI_toInt (by omega))
            refine lv_aload_n hx hb dX5_tryOrders_62 rfl (lv_at hl 1 rfl) ?_
            refine tw_getM (v := .ref xpd) hx hb hts bF2_X5 hown hK hT hr_o0 shc_8 rfl 9 (by decide) (ht_at2 hts 2 rfl) (fun _ h9 => h9) m23 dX5_tryOrders_63 ?_
            refine lv_iload hx hb dX5_tryOrders_66 (lv_at hl 0 rfl) ?_
            refine tw_zald (i := (nI i6)) hx hb hK hT hr_xpd shc_67 rfl (vp_in_nI (by omega) (by decide)) dX5_tryOrders_68 (fun v9 m200 h9 => ?_)
            obtain ⟨x201, rfl, gx201, kx201⟩ := h9
            have cx201 := m11.at m200 (by have q9 := tn_of (show (nI i6).toInt = ((i6 : Nat) : Int) from (nI_toInt (by omega))) (by omega); omega)
            refine lv_if_eq (tgt := 76) hx hb dX5_tryOrders_69 (by decide) (fun c202 => ?_) (fun c202 => ?_)
            · have t203 : x201.toInt = 0 := ti_eq c202 rfl (by decide)
              refine lv_iload_n hx hb dX5_tryOrders_76 rfl (lv_at hl 3 rfl) ?_
              refine lv_lload_n hx hb dX5_tryOrders_77 rfl (lv_at hl 4 rfl) ?_
              refine lv_iload hx hb dX5_tryOrders_78 (lv_at hl 5 rfl) ?_
              refine lv_aload_n hx hb dX5_tryOrders_80 rfl (lv_at hl 1 rfl) ?_
              refine tw_getM (v := .ref xcs) hx hb hts bF2_X5 hown hK hT hr_o0 shc_8 rfl 5 (by decide) (ht_at2 hts 3 rfl) (fun _ h9 => h9) m19 dX5_tryOrders_81 ?_
              refine lv_iload hx hb dX5_tryOrders_84 (lv_at hl 0 rfl) ?_
              refine tw_iald (i := (nI i6)) hx hb hK hT hr_xcs shc_63 rfl (vp_in_nI (by omega) (by decide)) dX5_tryOrders_86 (fun v9 m204 h9 => ?_)
              obtain ⟨x205, rfl, gx205, kx205⟩ := h9
              have cx205 := m7.at m204 (by have q9 := tn_of (show (nI i6).toInt = ((i6 : Nat) : Int) from (nI_toInt (by omega))) (by omega); omega)
              have t206 : x205.toInt = (aC i6).toInt := congrArg Int32.toInt (cx205.trans (by rw [tn_nI (by omega)]))
              have t207 : 0 ≤ (aC i6).toInt ∧ (aC i6).toInt ≤ 1000000 := (hrg i6 (by omega)).1
              have hFc := gA_free hG hA hS
              refine va_calli (va_runS (As := [.int yr, .long co, .int ic, .int x205]) (rest := []) ⟨hx, hb, hml, hown, hts⟩ (c_yearC l dC dI kA adK adV G H nC nS yr co ic x205 hT (by have q8 := ti_all yr; omega) (by have q8 := ti_all ic; omega) (by have q8 := ti_all x205; omega) (by omega) (by omega) (by omega)) (va_cwS 4 hts (goodIn_app (goodIn_r _ [6, 7, 8] rfl (by decide +kernel)) (goodIn_ca (goodIn_r _ [5] rfl (by decide +kernel)) (bs2_in _ _))) rfl rfl rfl (by decide +kernel) ⟨(Nat.le_of_ble_eq_true rfl), (Nat.le_of_ble_eq_true rfl)⟩) ⟨fun a U g mk q => by obtain ⟨q0, q1, qK, qE⟩ := q; exact ⟨q0, q1, va_K.moved (u := U) (U := U.calling g mk a) (Vm.Alike.refl U.vm) qK, EVC.blind g mk a qE⟩, fun U hU hW => ⟨rfl, hU, va_K.moved hW.alike hK, hE.call hS hFc hU hW⟩⟩ rfl rfl hl.1 rfl (lv_room (Nat.le_of_ble_eq_true rfl)) dX5_tryOrders_87 ⟨(Nat.le_of_ble_eq_true rfl), (Nat.le_of_ble_eq_true rfl)⟩) hS (fun q _ h => hFc q h) hFc (fun r208 u t H locs ht hvm hw209 hB _ _ hS => ?_)
              obtain ⟨hT, hF1⟩ := hB
              rw [ht] at hT hF1
              have m210 := m7.kept (hF1.arr hr_xcs skc_63 (by decide))
              have m211 := m8.kept (hF1.arr hr_xls skc_64 (by decide))
              have m212 := m9.kept (hF1.arr hr_xin skc_65 (by decide))
              have m213 := m10.kept (hF1.arr hr_xac skc_66 (by decide))
              have m214 := m11.kept (hF1.arr hr_xpd skc_67 (by decide))
              have m215 := m13.kept (hF1.arr hr_xtr skc_68 (by decide))
              have m216 := m15.kept (hF1.arr hr_xbe skc_69 (by decide))
              have m217 := (hF1.fld hr_o0 skc_8 (k := 15) (by decide) (by decide)).trans m16
              have m218 := (hF1.fld hr_o0 skc_8 (k := 16) (by decide) (by decide)).trans m18
              have m219 := (hF1.fld hr_o0 skc_8 (k := 5) (by decide) (by decide)).trans m19
              have m220 := (hF1.fld hr_o0 skc_8 (k := 6) (by decide) (by decide)).trans m20
              have m221 := (hF1.fld hr_o0 skc_8 (k := 7) (by decide) (by decide)).trans m21
              have m222 := (hF1.fld hr_o0 skc_8 (k := 8) (by decide) (by decide)).trans m22
              have m223 := (hF1.fld hr_o0 skc_8 (k := 9) (by decide) (by decide)).trans m23
              have m224 := (hF1.fld hr_o0 skc_8 (k := 10) (by decide) (by decide)).trans m24
              have m225 := (hF1.fld hr_o0 skc_8 (k := 11) (by decide) (by decide)).trans m25
              have m226 := (el_kept (hF1.arr hr_xpd skc_67 (by decide))).trans m200
              have m227 := (el_kept (hF1.arr hr_xcs skc_63 (by decide))).trans m204
              have hF := hF.more hF1 (by decide)
              try dsimp only at hw209
              obtain ⟨h228, hf229⟩ := hw209
              have yw9 : yw yr.toInt co.toInt ic.toInt (aC i6).toInt r208.toInt := by rw [show (aC i6).toInt = x205.toInt from by omega]; exact hf229
              refine lv_aload_n hx hb dX5_tryOrders_90 rfl (lv_at hl 1 rfl) ?_
              refine tw_getM (v := .ref xls) hx hb hts bF2_X5 hown hK hT hr_o0 shc_8 rfl 6 (by decide) (ht_at2 hts 8 rfl) (fun _ h9 => h9) m220 dX5_tryOrders_91 ?_
              refine lv_iload hx hb dX5_tryOrders_94 (lv_at hl 0 rfl) ?_
              refine tw_iald (i := (nI i6)) hx hb hK hT hr_xls shc_64 rfl (vp_in_nI (by omega) (by decide)) dX5_tryOrders_96 (fun v9 m230 h9 => ?_)
              obtain ⟨x231, rfl, gx231, kx231⟩ := h9
              have cx231 := m211.at m230 (by have q9 := tn_of (show (nI i6).toInt = ((i6 : Nat) : Int) from (nI_toInt (by omega))) (by omega); omega)
              have t232 : x231.toInt = (aY i6).toInt := congrArg Int32.toInt (cx231.trans (by rw [tn_nI (by omega)]))
              have t233 : 1 ≤ (aY i6).toInt ∧ (aY i6).toInt ≤ 20 := (hrg i6 (by omega)).2.1
              refine lv_iadd hx hb dX5_tryOrders_97 ?_
              refine lv_topi (fun x234 ex234 => ?_)
              have t235 : x234.toInt = r208.toInt + x231.toInt := ti_add ex234 rfl rfl (by omega) (by omega)
              refine lv_istore (lv' := [(8, .int x234), (7, .int (nI i6)), (0, .ref o0), (1, .int 4), (2, .int yr), (3, .long co), (5, .int ic), (6, .int lt)]) hx hb dX5_tryOrders_98 hl (by decide) rfl (fun ls hl => ?_)
              refine lv_iload hx hb dX5_tryOrders_100 (lv_at hl 0 rfl) ?_
              refine lv_iconst (v := (-1)) hx hb dX5_tryOrders_102 (by decide) ?_
              refine lv_icmp_eq (tgt := 194) hx hb dX5_tryOrders_103 (by decide) (fun c236 => (by exfalso; have q9 : x234.toInt = (-1) := ti_eq c236 rfl (by decide); omega)) (fun c236 => ?_)
              have t237 : x234.toInt ≠ (-1) := ti_ne c236 rfl (by decide)
              refine lv_iload hx hb dX5_tryOrders_106 (lv_at hl 0 rfl) ?_
              refine lv_sipush (v := 200) hx hb dX5_tryOrders_108 (by decide) ?_
              refine lv_icmp_gt (tgt := 194) hx hb dX5_tryOrders_111 (by decide) (fun c238 => ?_) (fun c238 => ?_)
              · have t239 : 200 < x234.toInt := ti_lt c238 (by decide) rfl
                refine lv_iinc (v := nI (i6 + 1)) (lv' := [(7, .int (nI (i6 + 1))), (8, .int x234), (0, .ref o0), (1, .int 4), (2, .int yr), (3, .long co), (5, .int ic), (6, .int lt)]) hx hb dX5_tryOrders_194 hl (k := 1) rfl (nI_add i6 1) (by decide) rfl (fun ls hl => ?_)
                refine lv_goto (tgt := 53) hx hb dX5_tryOrders_197 (by decide) ?_
                have bk9 : z17.toInt = (slO N 4 aC aY aB aA (pb vP) yr.toInt co.toInt ic.toInt lt.toInt R a0 (i6 + 1)).1 ∧ (0 ≤ (slO N 4 aC aY aB aA (pb vP) yr.toInt co.toInt ic.toInt lt.toInt R a0 (i6 + 1)).1 → ∀ k : Nat, k < N → (V14 k).toInt = (slO N 4 aC aY aB aA (pb vP) yr.toInt co.toInt ic.toInt lt.toInt R a0 (i6 + 1)).2 k) ∧ ∀ k : Nat, k < 4 → (V12 k).toInt = R k := by rw [sl_n (yw_none yw9 (by omega) (by omega))]; exact ⟨hj26, hj27, hj28⟩
                exact ih193 (i6 + 1) (by omega) (by omega) V12 V14 z17 ⟨bk9.1, bk9.2.1, bk9.2.2, (by omega)⟩ _ _ hT hF hS m210 m211 m212 m213 (m214.ext (fun _ _ => rfl)) m215 m216 m217 m218 m219 m220 m221 m222 m223 m224 m225 ls (lv_sub hl [0, 2, 3, 4, 5, 6, 7] rfl)
              · have t240 : x234.toInt ≤ 200 := ti_nlt c238 (by decide) rfl
                refine lv_lload_n hx hb dX5_tryOrders_114 rfl (lv_at hl 5 rfl) ?_
                refine lv_iload hx hb dX5_tryOrders_115 (lv_at hl 6 rfl) ?_
                refine lv_i2l (v := ic.toInt64) hx hb dX5_tryOrders_117 rfl ?_
                refine lv_iload hx hb dX5_tryOrders_118 (lv_at hl 0 rfl) ?_
                refine lv_iload_n hx hb dX5_tryOrders_120 rfl (lv_at hl 4 rfl) ?_
                refine lv_isub hx hb dX5_tryOrders_121 ?_
                refine lv_topi (fun x241 ex241 => ?_)
                have t242 : x241.toInt = x234.toInt - yr.toInt := ti_sub ex241 rfl rfl (by omega) (by omega)
                refine lv_i2l (v := x241.toInt64) hx hb dX5_tryOrders_122 rfl ?_
                refine lv_lmul hx hb dX5_tryOrders_123 ?_
                refine lv_topl (fun y243 ey243 => ?_)
                have t244 : y243.toInt = ic.toInt * x241.toInt ∧ -(400000 * 200) ≤ y243.toInt ∧ y243.toInt ≤ 400000 * 200 := tl_m ey243 ((Int32.toInt_toInt64 _).trans rfl) ((Int32.toInt_toInt64 _).trans rfl) (A := 400000) (B := 200) (by omega) (by omega) (by omega) (by omega) (by decide)
                have t245 : y243.toInt = ic.toInt * (x234.toInt - yr.toInt) := (by rw [show x234.toInt - yr.toInt = x241.toInt from by omega]; omega)
                refine lv_ladd hx hb dX5_tryOrders_124 ?_
                refine lv_topl (fun y246 ey246 => ?_)
                have t247 : y246.toInt = co.toInt + y243.toInt := tl_a ey246 rfl rfl (by omega) (by omega)
                refine lv_aload_n hx hb dX5_tryOrders_125 rfl (lv_at hl 2 rfl) ?_
                refine tw_getM (v := .ref xcs) hx hb hts bF2_X5 hown hK hT hr_o0 shc_8 rfl 5 (by decide) (ht_at2 hts 3 rfl) (fun _ h9 => h9) m219 dX5_tryOrders_126 ?_
                refine lv_iload hx hb dX5_tryOrders_129 (lv_at hl 1 rfl) ?_
                refine tw_iald (i := (nI i6)) hx hb hK hT hr_xcs shc_63 rfl (vp_in_nI (by omega) (by decide)) dX5_tryOrders_131 (fun v9 m248 h9 => ?_)
                obtain ⟨x249, rfl, gx249, kx249⟩ := h9
                have cx249 := m210.at m248 (by have q9 := tn_of (show (nI i6).toInt = ((i6 : Nat) : Int) from (nI_toInt (by omega))) (by omega); omega)
                obtain rfl : x205 = x249 := (el_same m248 m227 rfl).symm
                refine lv_i2l (v := x205.toInt64) hx hb dX5_tryOrders_132 rfl ?_
                refine lv_lsub hx hb dX5_tryOrders_133 ?_
                refine lv_topl (fun y250 ey250 => ?_)
                have t251 : y250.toInt = y246.toInt - x205.toInt := tl_s ey250 rfl ((Int32.toInt_toInt64 _).trans rfl) (by omega) (by omega)
                have dn9 := (yw_some (last := (aY i6).toInt) (d := x234.toInt) yw9 (by omega) (by omega) (by omega))
                have dc9 := dn_cash dn9 (by omega) (by omega)
                refine lv_lstore (lv' := [(9, .long y250), (8, .int x234), (7, .int (nI i6)), (0, .ref o0), (1, .int 4), (2, .int yr), (3, .long co), (5, .int ic), (6, .int lt)]) hx hb dX5_tryOrders_134 hl (by decide) rfl (fun ls hl => ?_)
                refine lv_aload_n hx hb dX5_tryOrders_136 rfl (lv_at hl 3 rfl) ?_
                refine tw_getM (v := .ref xpd) hx hb hts bF2_X5 hown hK hT hr_o0 shc_8 rfl 9 (by decide) (ht_at2 hts 2 rfl) (fun _ h9 => h9) m223 dX5_tryOrders_137 ?_
                refine lv_iload hx hb dX5_tryOrders_140 (lv_at hl 2 rfl) ?_
                refine lv_iconst (v := 1) hx hb dX5_tryOrders_142 (by decide) ?_
                refine tw_zast (i := (nI i6)) (x := 1) hx hb hK hT hG hS hr_xpd shc_67 rfl (vp_in_nI (by omega) (by decide)) (gi_z (rg_t (a := 1) (by decide) (by omega) (by omega)) (by decide) (by decide)) dX5_tryOrders_143 (fun H locs hT oq m252 oi hS => ?_)
                have hF := hF.ast hr_xpd skc_67 oq (by decide)
                have m253 := m210.kept (oq _ (gne hr_xcs hr_xpd (by decide)))
                have m254 := m211.kept (oq _ (gne hr_xls hr_xpd (by decide)))
                have m255 := m212.kept (oq _ (gne hr_xin hr_xpd (by decide)))
                have m256 := m213.kept (oq _ (gne hr_xac hr_xpd (by decide)))
                have m257 := m214.put (show el H xpd _ = some (.int 1) from m252) oi
                have m258 := m215.kept (oq _ (gne hr_xtr hr_xpd (by decide)))
                have m259 := m216.kept (oq _ (gne hr_xbe hr_xpd (by decide)))
                have m260 := (el_kept (oq _ (gne hr_o0 hr_xpd (by decide)))).trans m217
                have m261 := (el_kept (oq _ (gne hr_o0 hr_xpd (by decide)))).trans m218
                have m262 := (el_kept (oq _ (gne hr_o0 hr_xpd (by decide)))).trans m219
                have m263 := (el_kept (oq _ (gne hr_o0 hr_xpd (by decide)))).trans m220
                have m264 := (el_kept (oq _ (gne hr_o0 hr_xpd (by decide)))).trans m221
                have m265 := (el_kept (oq _ (gne hr_o0 hr_xpd (by decide)))).trans m222
                have m266 := (el_kept (oq _ (gne hr_o0 hr_xpd (by decide)))).trans m223
                have m267 := (el_kept (oq _ (gne hr_o0 hr_xpd (by decide)))).trans m224
                have m268 := (el_kept (oq _ (gne hr_o0 hr_xpd (by decide)))).trans m225
                have m269 := (el_kept (oq _ (gne hr_xcs hr_xpd (by decide)))).trans m227
                have m270 := (el_kept (oq _ (gne hr_xls hr_xpd (by decide)))).trans m230
                refine lv_aload_n hx hb dX5_tryOrders_144 rfl (lv_at hl 3 rfl) ?_
                refine tw_getM (v := .ref xtr) hx hb hts bF2_X5 hown hK hT hr_o0 shc_8 rfl 10 (by decide) (ht_at2 hts 9 rfl) (fun _ h9 => h9) m267 dX5_tryOrders_145 ?_
                refine lv_iload_n hx hb dX5_tryOrders_148 rfl (lv_at hl 4 rfl) ?_
                refine lv_iload hx hb dX5_tryOrders_149 (lv_at hl 2 rfl) ?_
                refine tw_iast (i := 4) (x := (nI i6)) hx hb hK hT hG hS hr_xtr shc_68 rfl (by unfold vp_in; decide) (gi_of (show (nI i6).toInt = ((i6 : Nat) : Int) from (nI_toInt (by omega))) (by omega) (by omega)) dX5_tryOrders_151 (fun H locs hT oq m271 oi hS => ?_)
                have hF := hF.ast hr_xtr skc_68 oq (by decide)
                have m272 := m253.kept (oq _ (gne hr_xcs hr_xtr (by decide)))
                have m273 := m254.kept (oq _ (gne hr_xls hr_xtr (by decide)))
                have m274 := m255.kept (oq _ (gne hr_xin hr_xtr (by decide)))
                have m275 := m256.kept (oq _ (gne hr_xac hr_xtr (by decide)))
                have m276 := m257.kept (oq _ (gne hr_xpd hr_xtr (by decide)))
                have m277 := m258.put m271 oi
                have m278 := m259.kept (oq _ (gne hr_xbe hr_xtr (by decide)))
                have m279 := (el_kept (oq _ (gne hr_o0 hr_xtr (by decide)))).trans m260
                have m280 := (el_kept (oq _ (gne hr_o0 hr_xtr (by decide)))).trans m261
                have m281 := (el_kept (oq _ (gne hr_o0 hr_xtr (by decide)))).trans m262
                have m282 := (el_kept (oq _ (gne hr_o0 hr_xtr (by decide)))).trans m263
                have m283 := (el_kept (oq _ (gne hr_o0 hr_xtr (by decide)))).trans m264
                have m284 := (el_kept (oq _ (gne hr_o0 hr_xtr (by decide)))).trans m265
                have m285 := (el_kept (oq _ (gne hr_o0 hr_xtr (by decide)))).trans m266
                have m286 := (el_kept (oq _ (gne hr_o0 hr_xtr (by decide)))).trans m267
                have m287 := (el_kept (oq _ (gne hr_o0 hr_xtr (by decide)))).trans m268
                have m288 := (el_kept (oq _ (gne hr_xcs hr_xtr (by decide)))).trans m269
                have m289 := (el_kept (oq _ (gne hr_xls hr_xtr (by decide)))).trans m270
                refine lv_aload_n hx hb dX5_tryOrders_152 rfl (lv_at hl 3 rfl) ?_
                refine lv_iload_n hx hb dX5_tryOrders_153 rfl (lv_at hl 4 rfl) ?_
                refine lv_iconst (v := 1) hx hb dX5_tryOrders_154 (by decide) ?_
                refine lv_iadd hx hb dX5_tryOrders_155 ?_
                refine lv_topi (fun x290 ex290 => ?_)
                obtain rfl : x290 = 5 := ex290.trans (by decide)
                refine lv_iload hx hb dX5_tryOrders_156 (lv_at hl 1 rfl) ?_
                refine lv_lload hx hb dX5_tryOrders_158 (lv_at hl 0 rfl) ?_
                refine lv_iload hx hb dX5_tryOrders_160 (lv_at hl 7 rfl) ?_
                refine lv_aload_n hx hb dX5_tryOrders_162 rfl (lv_at hl 3 rfl) ?_
                refine tw_getM (v := .ref xin) hx hb hts bF2_X5 hown hK hT hr_o0 shc_8 rfl 7 (by decide) (ht_at2 hts 10 rfl) (fun _ h9 => h9) m283 dX5_tryOrders_163 ?_
                refine lv_iload hx hb dX5_tryOrders_166 (lv_at hl 2 rfl) ?_
                refine tw_iald (i := (nI i6)) hx hb hK hT hr_xin shc_65 rfl (vp_in_nI (by omega) (by decide)) dX5_tryOrders_168 (fun v9 m291 h9 => ?_)
                obtain ⟨x292, rfl, gx292, kx292⟩ := h9
                have cx292 := m274.at m291 (by have q9 := tn_of (show (nI i6).toInt = ((i6 : Nat) : Int) from (nI_toInt (by omega))) (by omega); omega)
                have t293 : x292.toInt = (aB i6).toInt := congrArg Int32.toInt (cx292.trans (by rw [tn_nI (by omega)]))
                have t294 : 0 ≤ (aB i6).toInt ∧ (aB i6).toInt ≤ 100000 := (hrg i6 (by omega)).2.2.1
                refine lv_iadd hx hb dX5_tryOrders_169 ?_
                refine lv_topi (fun x295 ex295 => ?_)
                have t296 : x295.toInt = ic.toInt + x292.toInt := ti_add ex295 rfl rfl (by omega) (by omega)
                refine lv_iload hx hb dX5_tryOrders_170 (lv_at hl 8 rfl) ?_
                refine lv_aload_n hx hb dX5_tryOrders_172 rfl (lv_at hl 3 rfl) ?_
                refine tw_getM (v := .ref xac) hx hb hts bF2_X5 hown hK hT hr_o0 shc_8 rfl 8 (by decide) (ht_at2 hts 11 rfl) (fun _ h9 => h9) m284 dX5_tryOrders_173 ?_
                refine lv_iload hx hb dX5_tryOrders_176 (lv_at hl 2 rfl) ?_
                refine tw_iald (i := (nI i6)) hx hb hK hT hr_xac shc_66 rfl (vp_in_nI (by omega) (by decide)) dX5_tryOrders_178 (fun v9 m297 h9 => ?_)
                obtain ⟨x298, rfl, gx298, kx298⟩ := h9
                have cx298 := m275.at m297 (by have q9 := tn_of (show (nI i6).toInt = ((i6 : Nat) : Int) from (nI_toInt (by omega))) (by omega); omega)
                have t299 : x298.toInt = (aA i6).toInt := congrArg Int32.toInt (cx298.trans (by rw [tn_nI (by omega)]))
                have t300 : 0 ≤ (aA i6).toInt ∧ (aA i6).toInt ≤ 1000 := (hrg i6 (by omega)).2.2.2
                refine lv_iload hx hb dX5_tryOrders_179 (lv_at hl 1 rfl) ?_
                refine lv_imul hx hb dX5_tryOrders_181 ?_
                refine lv_topi (fun x301 ex301 => ?_)
                have t302 : x301.toInt = x298.toInt * x234.toInt := ti_mulx ex301 rfl rfl (A := 1000) (B := 200) (by omega) (by omega) (by omega) (by omega) (by decide)
                have t303 : 0 ≤ x301.toInt ∧ x301.toInt ≤ 1000 * 200 ∧ (x298.toInt = 0 → x301.toInt = 0) ∧ (x234.toInt = 0 → x301.toInt = 0) ∧ x301.toInt ≤ x298.toInt * 200 ∧ x301.toInt ≤ 1000 * x234.toInt := ti_mulnn ex301 rfl rfl (by omega) (by omega) (by omega) (by omega) (by decide)
                refine lv_iadd hx hb dX5_tryOrders_182 ?_
                refine lv_topi (fun x304 ex304 => ?_)
                have t305 : x304.toInt = lt.toInt + x301.toInt := ti_add ex304 rfl rfl (by omega) (by omega)
                have hFc := gA_free hG hA hS
                refine va_callv (va_runV (As := [.int 5, .int x234, .long y250, .int x295, .int x304]) (rest := []) ⟨hx, hb, hml, hown, hts⟩ (c_tryOrdersC5 l dC dI kA adK adV G H nC nS o0 x234 y250 x295 x304 jb z17 xcs xls xin xac xpd xtr xbe aC aY aB aA (cu vP (nI i6).toNatClampNeg (1 : Int32)) (cu V12 (4 : Int32).toNatClampNeg (nI i6)) V14 N (fun k => if k = 4 then ((i6 : Nat) : Int) else R k) (slO N 4 aC aY aB aA (pb vP) yr.toInt co.toInt ic.toInt lt.toInt R a0 i6) hT hr_o0 m279 m280 m281 hr_xcs m282 hr_xls m283 hr_xin m284 hr_xac m285 hr_xpd m286 hr_xtr m287 hr_xbe (by have q8 := ti_all x234; omega) (by have q8 := ti_all x295; omega) (by have q8 := ti_all x304; omega) (by have q8 := ti_all jb; omega) (by omega) hN hrg (sl_ok (by omega) (fun j hj => by have := (hrg j (by omega)).2.1.1; omega) (fun j hj => (hrg j (by omega)).2.2.2.1) (by omega) (by omega) hba) hj26 hj27 (rr_s (K := 4) rfl (by decide) (nI_toInt (by omega)) hj28) m272 m273 m274 m275 m276 m277 m278 (by omega) (by omega)) (cwV 5 hts (goodIn_app (goodIn_r _ [19, 20, 21, 8] rfl (by decide +kernel)) (goodIn_ca (goodIn_r _ [13, 1, 2, 3, 4, 5, 6, 7, 8, 9, 10, 11, 12, 13, 14, 15, 16, 17, 18, 19, 20, 21] rfl (by decide +kernel)) (bs2_in _ _))) rfl rfl rfl (by decide +kernel) ⟨(Nat.le_of_ble_eq_true rfl), (Nat.le_of_ble_eq_true rfl)⟩) ⟨fun a U g mk q => by obtain ⟨q0, q1, qK, qE⟩ := q; exact ⟨q0, q1, va_K.moved (u := U) (U := U.calling g mk a) (Vm.Alike.refl U.vm) qK, EVC.blind g mk a qE⟩, gH_recv hK hT hr_o0 shc_8 rfl, fun U hU hW => ⟨rfl, hU, va_K.moved hW.alike hK, hE.call hS hFc hU hW⟩⟩ rfl rfl hl.1 rfl (lv_room (Nat.le_of_ble_eq_true rfl)) dX5_tryOrders_183 ⟨(Nat.le_of_ble_eq_true rfl), (Nat.le_of_ble_eq_true rfl)⟩) hS (fun q _ h => hFc q h) hFc (fun u t H locs ht hvm hw307 hB _ _ hS => ?_)
                obtain ⟨u308, u309, u310⟩ := u
                obtain ⟨hT, hF1, m311, m312, m313, m314⟩ := hB
                rw [ht] at hT hF1 m311 m312 m313 m314
                have m315 := m272.kept (hF1.arr hr_xcs skc_63 (by decide))
                have m316 := m273.kept (hF1.arr hr_xls skc_64 (by decide))
                have m317 := m274.kept (hF1.arr hr_xin skc_65 (by decide))
                have m318 := m275.kept (hF1.arr hr_xac skc_66 (by decide))
                have m322 := (hF1.fld hr_o0 skc_8 (k := 15) (by decide) (by decide)).trans m279
                have m324 := (hF1.fld hr_o0 skc_8 (k := 5) (by decide) (by decide)).trans m281
                have m325 := (hF1.fld hr_o0 skc_8 (k := 6) (by decide) (by decide)).trans m282
                have m326 := (hF1.fld hr_o0 skc_8 (k := 7) (by decide) (by decide)).trans m283
                have m327 := (hF1.fld hr_o0 skc_8 (k := 8) (by decide) (by decide)).trans m284
                have m328 := (hF1.fld hr_o0 skc_8 (k := 9) (by decide) (by decide)).trans m285
                have m329 := (hF1.fld hr_o0 skc_8 (k := 10) (by decide) (by decide)).trans m286
                have m330 := (hF1.fld hr_o0 skc_8 (k := 11) (by decide) (by decide)).trans m287
                have m331 := (el_kept (hF1.arr hr_xcs skc_63 (by decide))).trans m288
                have m332 := (el_kept (hF1.arr hr_xls skc_64 (by decide))).trans m289
                have m334 := (el_kept (hF1.arr hr_xin skc_65 (by decide))).trans m291
                have m335 := (el_kept (hF1.arr hr_xac skc_66 (by decide))).trans m297
                have hF := hF.more hF1 (by decide)
                try dsimp only at hw307
                have hf336 := hw307
                refine lv_aload_n hx hb dX5_tryOrders_186 rfl (lv_at hl 3 rfl) ?_
                refine tw_getM (v := .ref xpd) hx hb hts bF2_X5 hown hK hT hr_o0 shc_8 rfl 9 (by decide) (ht_at2 hts 2 rfl) (fun _ h9 => h9) m328 dX5_tryOrders_187 ?_
                refine lv_iload hx hb dX5_tryOrders_190 (lv_at hl 2 rfl) ?_
                refine lv_iconst (v := 0) hx hb dX5_tryOrders_192 (by decide) ?_
                refine tw_zast (i := (nI i6)) (x := 0) hx hb hK hT hG hS hr_xpd shc_67 rfl (vp_in_nI (by omega) (by decide)) (gi_z (rg_t (a := 0) (by decide) (by omega) (by omega)) (by decide) (by decide)) dX5_tryOrders_193 (fun H locs hT oq m337 oi hS => ?_)
                have hF := hF.ast hr_xpd skc_67 oq (by decide)
                have m338 := m315.kept (oq _ (gne hr_xcs hr_xpd (by decide)))
                have m339 := m316.kept (oq _ (gne hr_xls hr_xpd (by decide)))
                have m340 := m317.kept (oq _ (gne hr_xin hr_xpd (by decide)))
                have m341 := m318.kept (oq _ (gne hr_xac hr_xpd (by decide)))
                have m342 := (el_kept (oq _ (gne hr_o0 hr_xpd (by decide)))).trans m322
                have m343 := (el_kept (oq _ (gne hr_o0 hr_xpd (by decide)))).trans m324
                have m344 := (el_kept (oq _ (gne hr_o0 hr_xpd (by decide)))).trans m325
                have m345 := (el_kept (oq _ (gne hr_o0 hr_xpd (by decide)))).trans m326
                have m346 := (el_kept (oq _ (gne hr_o0 hr_xpd (by decide)))).trans m327
                have m347 := (el_kept (oq _ (gne hr_o0 hr_xpd (by decide)))).trans m328
                have m348 := (el_kept (oq _ (gne hr_o0 hr_xpd (by decide)))).trans m329
                have m349 := (el_kept (oq _ (gne hr_o0 hr_xpd (by decide)))).trans m330
                have m350 := (el_kept (oq _ (gne hr_xcs hr_xpd (by decide)))).trans m331
                have m351 := (el_kept (oq _ (gne hr_xls hr_xpd (by decide)))).trans m332
                have m352 := (el_kept (oq _ (gne hr_xin hr_xpd (by decide)))).trans m334
                have m353 := (el_kept (oq _ (gne hr_xac hr_xpd (by decide)))).trans m335
                have m354 := (el_kept (oq _ (gne hr_o0 hr_xpd (by decide)))).trans m311
                have m355 := m312.put (show el H xpd _ = some (.int 0) from m337) oi
                have m356 := m313.kept (oq _ (gne hr_xtr hr_xpd (by decide)))
                have m357 := m314.kept (oq _ (gne hr_xbe hr_xpd (by decide)))
                refine lv_iinc (v := nI (i6 + 1)) (lv' := [(7, .int (nI (i6 + 1))), (9, .long y250), (8, .int x234), (0, .ref o0), (1, .int 4), (2, .int yr), (3, .long co), (5, .int ic), (6, .int lt)]) hx hb dX5_tryOrders_194 hl (k := 2) rfl (nI_add i6 1) (by decide) rfl (fun ls hl => ?_)
                refine lv_goto (tgt := 53) hx hb dX5_tryOrders_197 (by decide) ?_
                have bk9 : u308.toInt = (slO N 4 aC aY aB aA (pb vP) yr.toInt co.toInt ic.toInt lt.toInt R a0 (i6 + 1)).1 ∧ (0 ≤ (slO N 4 aC aY aB aA (pb vP) yr.toInt co.toInt ic.toInt lt.toInt R a0 (i6 + 1)).1 → ∀ k : Nat, k < N → (u310 k).toInt = (slO N 4 aC aY aB aA (pb vP) yr.toInt co.toInt ic.toInt lt.toInt R a0 (i6 + 1)).2 k) ∧ ∀ k : Nat, k < 4 → (u309 k).toInt = R k := by have q9 := hf336; rw [sl_call (N := N) (K := 4) (K1 := 5) (aC := aC) (aY := aY) (aB := aB) (aA := aA) (U := pb vP) (yr := yr.toInt) (ca := co.toInt) (ic := ic.toInt) (su := lt.toInt) (R := R) (a := a0) (i := i6) (d := x234.toInt) (c1 := y250.toInt) (i1 := x295.toInt) (s1 := x304.toInt) (U1 := pb (cu vP (nI i6).toNatClampNeg (1 : Int32))) rfl (pb_0 (tn_nI (by omega)) cx201 (by omega)) dn9 (pb_cu (tn_nI (by omega))) (by omega) (by omega) (by rw [show (aA i6).toInt = x298.toInt from by omega]; omega)] at q9; exact ⟨q9.1, q9.2.1, fun k hk => (q9.2.2 k (by omega)).trans (if_neg (by omega))⟩
                exact ih193 (i6 + 1) (by omega) (by omega) u309 u310 u308 ⟨bk9.1, bk9.2.1, bk9.2.2, (by omega)⟩ _ _ hT hF hS m338 m339 m340 m341 (m355.ext (fun _ _ => pb_r cx201 (by omega))) m356 m357 m342 m354 m343 m344 m345 m346 m347 m348 m349 ls (lv_sub hl [0, 3, 4, 5, 6, 7, 8] rfl)
            · have t358 : x201.toInt ≠ 0 := ti_ne c202 rfl (by decide)
              refine lv_iconst (v := (-1)) hx hb dX5_tryOrders_72 (by decide) ?_
              refine lv_goto (tgt := 98) hx hb dX5_tryOrders_73 (by decide) ?_
              refine lv_istore (lv' := [(8, .int (-1)), (7, .int (nI i6)), (0, .ref o0), (1, .int 4), (2, .int yr), (3, .long co), (5, .int ic), (6, .int lt)]) hx hb dX5_tryOrders_98 hl (by decide) rfl (fun ls hl => ?_)
              refine lv_iload hx hb dX5_tryOrders_100 (lv_at hl 0 rfl) ?_
              refine lv_iconst (v := (-1)) hx hb dX5_tryOrders_102 (by decide) ?_
              refine lv_icmp_eq (tgt := 194) hx hb dX5_tryOrders_103 (by decide) (fun c359 => ?_) (fun c359 => absurd c359 (by decide))
              refine lv_iinc (v := nI (i6 + 1)) (lv' := [(7, .int (nI (i6 + 1))), (8, .int (-1)), (0, .ref o0), (1, .int 4), (2, .int yr), (3, .long co), (5, .int ic), (6, .int lt)]) hx hb dX5_tryOrders_194 hl (k := 1) rfl (nI_add i6 1) (by decide) rfl (fun ls hl => ?_)
              refine lv_goto (tgt := 53) hx hb dX5_tryOrders_197 (by decide) ?_
              have bk9 : z17.toInt = (slO N 4 aC aY aB aA (pb vP) yr.toInt co.toInt ic.toInt lt.toInt R a0 (i6 + 1)).1 ∧ (0 ≤ (slO N 4 aC aY aB aA (pb vP) yr.toInt co.toInt ic.toInt lt.toInt R a0 (i6 + 1)).1 → ∀ k : Nat, k < N → (V14 k).toInt = (slO N 4 aC aY aB aA (pb vP) yr.toInt co.toInt ic.toInt lt.toInt R a0 (i6 + 1)).2 k) ∧ ∀ k : Nat, k < 4 → (V12 k).toInt = R k := by rw [sl_u (pb_1 (tn_nI (by omega)) cx201 (by omega))]; exact ⟨hj26, hj27, hj28⟩
              exact ih193 (i6 + 1) (by omega) (by omega) V12 V14 z17 ⟨bk9.1, bk9.2.1, bk9.2.2, (by omega)⟩ _ _ hT hF hS m7 m8 m9 m10 (m11.ext (fun _ _ => rfl)) m13 m15 m16 m18 m19 m20 m21 m22 m23 m24 m25 ls (lv_sub hl [0, 2, 3, 4, 5, 6, 7] rfl)
      exact key193 (7 - 0) 0 (by omega) (Nat.le_refl _) vR vZ la ⟨hla, hZ0, hR, (by omega)⟩ _ _ hT hF hS hc_aC hc_aY hc_aB hc_aA (hc_vP.ext (fun _ _ => rfl)) hc_vR hc_vZ hm_jb hm_la hm_xcs hm_xls hm_xin hm_xac hm_xpd hm_xtr hm_xbe ls (lv_sub hl [0, 1, 2, 3, 4, 5, 6] rfl)
    · have t360 : jb.toInt ≤ 4 := ti_nlt c4 (by decide) rfl
      refine lv_aload_n hx hb dX5_tryOrders_26 rfl (lv_at hl 0 rfl) ?_
      refine lv_iload hx hb dX5_tryOrders_27 (lv_at hl 5 rfl) ?_
      refine tw_put (v := .int lt) (ty := .int) hx hb hts bF2_X5 tyX5 tyX5_ok nmX5 hown hK hT hG hS hr_o0 shc_8 rfl 16 (by decide) (ht_at2 hts 0 rfl) (fun _ h9 => h9) rfl (by decide +kernel) rfl rfl (gl_at rfl (gi_all _)) dX5_tryOrders_29 (fun H locs hT oq m361 oj hS => ?_)
      have hF := hF.put hr_o0 skc_8 oq oj (by decide)
      have m362 := (oj 15 (by decide) (by decide)).trans hm_jb
      have m363 := (oj 5 (by decide) (by decide)).trans hm_xcs
      have m364 := (oj 6 (by decide) (by decide)).trans hm_xls
      have m365 := (oj 7 (by decide) (by decide)).trans hm_xin
      have m366 := (oj 8 (by decide) (by decide)).trans hm_xac
      have m367 := (oj 9 (by decide) (by decide)).trans hm_xpd
      have m368 := (oj 10 (by decide) (by decide)).trans hm_xtr
      have m369 := (oj 11 (by decide) (by decide)).trans hm_xbe
      have m370 := hc_aC.kept (oq _ (gne hr_xcs hr_o0 (by decide)))
      have m371 := hc_aY.kept (oq _ (gne hr_xls hr_o0 (by decide)))
      have m372 := hc_aB.kept (oq _ (gne hr_xin hr_o0 (by decide)))
      have m373 := hc_aA.kept (oq _ (gne hr_xac hr_o0 (by decide)))
      have m374 := hc_vP.kept (oq _ (gne hr_xpd hr_o0 (by decide)))
      have m375 := hc_vR.kept (oq _ (gne hr_xtr hr_o0 (by decide)))
      have m376 := hc_vZ.kept (oq _ (gne hr_xbe hr_o0 (by decide)))
      refine lv_aload_n hx hb dX5_tryOrders_32 rfl (lv_at hl 0 rfl) ?_
      refine tw_getM (v := .ref xtr) hx hb hts bF2_X5 hown hK hT hr_o0 shc_8 rfl 10 (by decide) (ht_at2 hts 9 rfl) (fun _ h9 => h9) m368 dX5_tryOrders_33 ?_
      refine lv_iconst (v := 0) hx hb dX5_tryOrders_36 (by decide) ?_
      refine lv_aload_n hx hb dX5_tryOrders_37 rfl (lv_at hl 0 rfl) ?_
      refine tw_getM (v := .ref xbe) hx hb hts bF2_X5 hown hK hT hr_o0 shc_8 rfl 11 (by decide) (ht_at2 hts 13 rfl) (fun _ h9 => h9) m369 dX5_tryOrders_38 ?_
      refine lv_iconst (v := 0) hx hb dX5_tryOrders_41 (by decide) ?_
      refine lv_aload_n hx hb dX5_tryOrders_42 rfl (lv_at hl 0 rfl) ?_
      refine tw_getM (v := .int jb) hx hb hts bF2_X5 hown hK hT hr_o0 shc_8 rfl 15 (by decide) (ht_at2 hts 1 rfl) (fun _ h9 => h9) m362 dX5_tryOrders_43 ?_
      refine tw_copyE (ty := .int) hx hb (hml.trans hl.1.symm) hown (ht_at2 hts 14 rfl) (ht_at2 hts 15 rfl) (ht_at2 hts 16 rfl) (ht_at2 hts 17 rfl) hK hT hG hS hr_xtr hr_xbe shc_68 shc_69 rfl rfl (by decide) (by decide) (fun h9 => by have q9 := ti_lt h9 rfl (show (0 : Int32).toInt = 0 from by decide); omega) (by have q9 := tn_of (show jb.toInt = jb.toInt from rfl) (by omega); have q8 : (0 : Int32).toNatClampNeg = 0 := (by decide); omega) (by have q9 := tn_of (show jb.toInt = jb.toInt from rfl) (by omega); have q8 : (0 : Int32).toNatClampNeg = 0 := (by decide); omega) (by decide) (by decide) (fun _ _ h9 => by obtain ⟨x9, e9, _⟩ := h9; exact ⟨x9, e9, rfl⟩) (fun _ _ _ h9 => by obtain ⟨x9, e9, a9, b9⟩ := h9; exact ⟨x9, e9, by omega, by omega⟩) (Nat.le_of_ble_eq_true rfl) (Nat.le_of_ble_eq_true rfl) dX5_tryOrders_46 (fun H locs hT oq ce377 hS => ?_)
      have hF := hF.ast hr_xbe skc_69 oq (by decide)
      have m378 := (el_kept (oq _ (gne hr_o0 hr_xbe (by decide)))).trans m362
      have m379 := (el_kept (oq _ (gne hr_o0 hr_xbe (by decide)))).trans m363
      have m380 := (el_kept (oq _ (gne hr_o0 hr_xbe (by decide)))).trans m364
      have m381 := (el_kept (oq _ (gne hr_o0 hr_xbe (by decide)))).trans m365
      have m382 := (el_kept (oq _ (gne hr_o0 hr_xbe (by decide)))).trans m366
      have m383 := (el_kept (oq _ (gne hr_o0 hr_xbe (by decide)))).trans m367
      have m384 := (el_kept (oq _ (gne hr_o0 hr_xbe (by decide)))).trans m368
      have m385 := (el_kept (oq _ (gne hr_o0 hr_xbe (by decide)))).trans m369
      have m386 := m370.kept (oq _ (gne hr_xcs hr_xbe (by decide)))
      have m387 := m371.kept (oq _ (gne hr_xls hr_xbe (by decide)))
      have m388 := m372.kept (oq _ (gne hr_xin hr_xbe (by decide)))
      have m389 := m373.kept (oq _ (gne hr_xac hr_xbe (by decide)))
      have m390 := m374.kept (oq _ (gne hr_xpd hr_xbe (by decide)))
      have m391 := m375.kept (oq _ (gne hr_xtr hr_xbe (by decide)))
      have m392 := (el_kept (oq _ (gne hr_o0 hr_xbe (by decide)))).trans m361
      obtain ⟨V393, m394, kV393⟩ := ct_of hT hr_xbe shc_69
      have cq395 : ∀ k : Nat, ((k : Nat) : Int) < jb.toInt → V393 k = vR k := fun k hk => Value.int.inj (Option.some.inj ((m394 k (by omega)).symm.trans ((ce377 k (by have q9 := tn_of (show jb.toInt = jb.toInt from rfl) (by omega); omega)).trans (m375 k (by omega)))))
      exact W.vret hx hb hr (fun t ht hW => ⟨⟨(lt, vR, V393), rfl, (by exact (by (try dsimp only); have e9 : N = 4 := (by omega); rw [sx_0 e9, if_neg (by omega)]; exact ⟨rfl, fun _ k hk => (congrArg Int32.toInt (cq395 k (by omega))).trans (hR k (by omega)), hR⟩)), by (try dsimp only); rw [ht]; exact ⟨hT, hF, m392, m390, m391, m394⟩⟩, hS.F ht⟩) hS.2.2 dX5_tryOrders_49
  · have t396 : la.toInt ≠ (-1) := ti_ne c2 rfl (by decide)
    refine lv_iload hx hb dX5_tryOrders_8 (lv_at hl 5 rfl) ?_
    refine lv_aload_n hx hb dX5_tryOrders_10 rfl (lv_at hl 0 rfl) ?_
    refine tw_getM (v := .int la) hx hb hts bF2_X5 hown hK hT hr_o0 shc_8 rfl 16 (by decide) (ht_at2 hts 0 rfl) (fun _ h9 => h9) hm_la dX5_tryOrders_11 ?_
    refine lv_icmp_lt (tgt := 18) hx hb dX5_tryOrders_14 (by decide) (fun c397 => ?_) (fun c397 => ?_)
    · have t398 : lt.toInt < la.toInt := ti_lt c397 rfl rfl
      refine lv_iload_n hx hb dX5_tryOrders_18 rfl (lv_at hl 1 rfl) ?_
      refine lv_aload_n hx hb dX5_tryOrders_19 rfl (lv_at hl 0 rfl) ?_
      refine tw_getM (v := .int jb) hx hb hts bF2_X5 hown hK hT hr_o0 shc_8 rfl 15 (by decide) (ht_at2 hts 1 rfl) (fun _ h9 => h9) hm_jb dX5_tryOrders_20 ?_
      refine lv_icmp_lt (tgt := 50) hx hb dX5_tryOrders_23 (by decide) (fun c399 => ?_) (fun c399 => ?_)
      · have t400 : 4 < jb.toInt := ti_lt c399 (by decide) rfl
        refine lv_iconst (v := 0) hx hb dX5_tryOrders_50 (by decide) ?_
        refine lv_istore (lv' := [(7, .int 0), (0, .ref o0), (1, .int 4), (2, .int yr), (3, .long co), (5, .int ic), (6, .int lt)]) hx hb dX5_tryOrders_51 hl (by decide) rfl (fun ls hl => ?_)
        have key588 : ∀ (n588 i401 : Nat), i401 + n588 = 7 → 0 ≤ i401 → ∀ (V407 : Nat → Int32), ∀ (V409 : Nat → Int32), ∀ (z412 : Int32), ((z412.toInt = (slO N 4 aC aY aB aA (pb vP) yr.toInt co.toInt ic.toInt lt.toInt R a0 i401).1) ∧ (0 ≤ (slO N 4 aC aY aB aA (pb vP) yr.toInt co.toInt ic.toInt lt.toInt R a0 i401).1 → ∀ k : Nat, k < N → (V409 k).toInt = (slO N 4 aC aY aB aA (pb vP) yr.toInt co.toInt ic.toInt lt.toInt R a0 i401).2 k) ∧ (∀ k : Nat, k < 4 → (V407 k).toInt = R k) ∧ (((i401 : Nat) : Int) ≤ jb.toInt)) → ∀ (H : Heap) (locs : List Loc), gH (dC, dI) kA (SHc nC nS) G H → gF (dC, dI) SKc G ([(8, 16), (67, 0), (68, 0), (69, 0)] : List (Nat × Nat)) s.heap H → va_S A s.heap H locs → ct H xcs 7 aC → ct H xls 7 aY → ct H xin 7 aB → ct H xac 7 aA → ct H xpd 7 vP → ct H xtr 7 V407 → ct H xbe 7 V409 → el H o0 (dI 8 15) = some (.int jb) → el H o0 (dI 8 16) = some (.int z412) → el H o0 (dI 8 5) = some (.ref xcs) → el H o0 (dI 8 6) = some (.ref xls) → el H o0 (dI 8 7) = some (.ref xin) → el H o0 (dI 8 8) = some (.ref xac) → el H o0 (dI 8 9) = some (.ref xpd) → el H o0 (dI 8 10) = some (.ref xtr) → el H o0 (dI 8 11) = some (.ref xbe) → ∀ ls : Array Slot, lv_has ls 11 [(7, .int (nI i401)), (0, .ref o0), (1, .int 4), (2, .int yr), (3, .long co), (5, .int ic), (6, .int lt)] → W p l e (headSpec w_c_tryOrdersC4 ({ frames := 5, cells := 0, slots := 0, locals := 150 })).room s m #[.ref o0, .int 4, .int yr, .long co, .int ic, .int lt] below meth c H locs 0 0 (MQ below (va_Qv (fun (u : Int32 × (Nat → Int32) × (Nat → Int32)) => match u with | (la1, vR1, vZ1) => (la1.toInt = (sx N 4 aC aY aB aA (pb vP) yr.toInt co.toInt ic.toInt lt.toInt R a0).1 ∧ (0 ≤ (sx N 4 aC aY aB aA (pb vP) yr.toInt co.toInt ic.toInt lt.toInt R a0).1 → ∀ k : Nat, k < N → (vZ1 k).toInt = (sx N 4 aC aY aB aA (pb vP) yr.toInt co.toInt ic.toInt lt.toInt R a0).2 k) ∧ ∀ k : Nat, k < 4 → (vR1 k).toInt = R k)) (fun (u : Int32 × (Nat → Int32) × (Nat → Int32)) (t : State) => match u with | (la1, vR1, vZ1) => gH (dC, dI) kA (SHc nC nS) G t.heap ∧ gF (dC, dI) SKc G ([(8, 16), (67, 0), (68, 0), (69, 0)] : List (Nat × Nat)) s.heap t.heap ∧ el t.heap o0 (dI 8 16) = some (.int la1) ∧ ct t.heap xpd 7 vP ∧ ct t.heap xtr 7 vR1 ∧ ct t.heap xbe 7 vZ1) A) #[.ref o0, .int 4, .int yr, .long co, .int ic, .int lt] s 0 0 A) (F0 m 53 ls []) := by
          intro n588
          induction n588 with
          | zero =>
            intro i401 hn588 hlo589 V407 V409 z412 ⟨hj421, hj422, hj423, hj424⟩ H locs hT hF hS m402 m403 m404 m405 m406 m408 m410 m411 m413 m414 m415 m416 m417 m418 m419 m420 ls hl
            obtain rfl : 7 = i401 := by omega
            refine lv_iload hx hb dX5_tryOrders_53 (lv_at hl 0 rfl) ?_
            refine lv_aload_n hx hb dX5_tryOrders_55 rfl (lv_at hl 1 rfl) ?_
            refine tw_getM (v := .int jb) hx hb hts bF2_X5 hown hK hT hr_o0 shc_8 rfl 15 (by decide) (ht_at2 hts 1 rfl) (fun _ h9 => h9) m411 dX5_tryOrders_56 ?_
            refine lv_icmp_ge (tgt := 200) hx hb dX5_tryOrders_59 (by decide) (fun c590 => ?_) (fun c590 => (by exfalso; have q9 : ((7 : Nat) : Int) < jb.toInt := ti_nle c590 rfl (nI_toInt (by omega)); omega))
            have t591 : jb.toInt ≤ ((7 : Nat) : Int) := ti_le c590 rfl (nI_toInt (by omega))
            exact W.vret hx hb hr (fun t ht hW => ⟨⟨(z412, V407, V409), rfl, (by exact (by (try dsimp only); have e9 : N = 7 := (by omega); rw [sx_s (by omega)]; subst e9; exact ⟨hj421, hj422, hj423⟩)), by (try dsimp only); rw [ht]; exact ⟨hT, hF, m413, m406, m408, m410⟩⟩, hS.F ht⟩) hS.2.2 dX5_tryOrders_200
          | succ n588 ih588 =>
            intro i401 hn588 hlo589 V407 V409 z412 ⟨hj421, hj422, hj423, hj424⟩ H locs hT hF hS m402 m403 m404 m405 m406 m408 m410 m411 m413 m414 m415 m416 m417 m418 m419 m420 ls hl
            have hlt591 : i401 < 7 := by omega
            refine lv_iload hx hb dX5_tryOrders_53 (lv_at hl 0 rfl) ?_
            refine lv_aload_n hx hb dX5_tryOrders_55 rfl (lv_at hl 1 rfl) ?_
            refine tw_getM (v := .int jb) hx hb hts bF2_X5 hown hK hT hr_o0 shc_8 rfl 15 (by decide) (ht_at2 hts 1 rfl) (fun _ h9 => h9) m411 dX5_tryOrders_56 ?_
            refine lv_icmp_ge (tgt := 200) hx hb dX5_tryOrders_59 (by decide) (fun c592 => ?_) (fun c592 => ?_)
            · have t593 : jb.toInt ≤ ((i401 : Nat) : Int) := ti_le c592 rfl (nI_toInt (by omega))
              exact W.vret hx hb hr (fun t ht hW => ⟨⟨(z412, V407, V409), rfl, (by exact (by (try dsimp only); have e9 : N = i401 := (by omega); rw [sx_s (by omega)]; subst e9; exact ⟨hj421, hj422, hj423⟩)), by (try dsimp only); rw [ht]; exact ⟨hT, hF, m413, m406, m408, m410⟩⟩, hS.F ht⟩) hS.2.2 dX5_tryOrders_200
            · have t594 : ((i401 : Nat) : Int) < jb.toInt := ti_nle c592 rfl (nI_toInt (by omega))
              refine lv_aload_n hx hb dX5_tryOrders_62 rfl (lv_at hl 1 rfl) ?_
              refine tw_getM (v := .ref xpd) hx hb hts bF2_X5 hown hK hT hr_o0 shc_8 rfl 9 (by decide) (ht_at2 hts 2 rfl) (fun _ h9 => h9) m418 dX5_tryOrders_63 ?_
              refine lv_iload hx hb dX5_tryOrders_66 (lv_at hl 0 rfl) ?_
              refine tw_zald (i := (nI i401)) hx hb hK hT hr_xpd shc_67 rfl (vp_in_nI (by omega) (by decide)) dX5_tryOrders_68 (fun v9 m595 h9 => ?_)
              obtain ⟨x596, rfl, gx596, kx596⟩ := h9
              have cx596 := m406.at m595 (by have q9 := tn_of (show (nI i401).toInt = ((i401 : Nat) : Int) from (nI_toInt (by omega))) (by omega); omega)
              refine lv_if_eq (tgt := 76) hx hb dX5_tryOrders_69 (by decide) (fun c597 => ?_) (fun c597 => ?_)
              · have t598 : x596.toInt = 0 := ti_eq c597 rfl (by decide)
                refine lv_iload_n hx hb dX5_tryOrders_76 rfl (lv_at hl 3 rfl) ?_
                refine lv_lload_n hx hb dX5_tryOrders_77 rfl (lv_at hl 4 rfl) ?_
                refine lv_iload hx hb dX5_tryOrders_78 (lv_at hl 5 rfl) ?_
                refine lv_aload_n hx hb dX5_tryOrders_80 rfl (lv_at hl 1 rfl) ?_
                refine tw_getM (v := .ref xcs) hx hb hts bF2_X5 hown hK hT hr_o0 shc_8 rfl 5 (by decide) (ht_at2 hts 3 rfl) (fun _ h9 => h9) m414 dX5_tryOrders_81 ?_
                refine lv_iload hx hb dX5_tryOrders_84 (lv_at hl 0 rfl) ?_
                refine tw_iald (i := (nI i401)) hx hb hK hT hr_xcs shc_63 rfl (vp_in_nI (by omega) (by decide)) dX5_tryOrders_86 (fun v9 m599 h9 => ?_)
                obtain ⟨x600, rfl, gx600, kx600⟩ := h9
                have cx600 := m402.at m599 (by have q9 := tn_of (show (nI i401).toInt = ((i401 : Nat) : Int) from (nI_toInt (by omega))) (by omega); omega)
                have t601 : x600.toInt = (aC i401).toInt := congrArg Int32.toInt (cx600.trans (by rw [tn_nI (by omega)]))
                have t602 : 0 ≤ (aC i401).toInt ∧ (aC i401).toInt ≤ 1000000 := (hrg i401 (by omega)).1
                have hFc := gA_free hG hA hS
                refine va_calli (va_runS (As := [.int yr, .long co, .int ic, .int x600]) (rest := []) ⟨hx, hb, hml, hown, hts⟩ (c_yearC l dC dI kA adK adV G H nC nS yr co ic x600 hT (by have q8 := ti_all yr; omega) (by have q8 := ti_all ic; omega) (by have q8 := ti_all x600; omega) (by omega) (by omega) (by omega)) (va_cwS 4 hts (goodIn_app (goodIn_r _ [6, 7, 8] rfl (by decide +kernel)) (goodIn_ca (goodIn_r _ [5] rfl (by decide +kernel)) (bs2_in _ _))) rfl rfl rfl (by decide +kernel) ⟨(Nat.le_of_ble_eq_true rfl), (Nat.le_of_ble_eq_true rfl)⟩) ⟨fun a U g mk q => by obtain ⟨q0, q1, qK, qE⟩ := q; exact ⟨q0, q1, va_K.moved (u := U) (U := U.calling g mk a) (Vm.Alike.refl U.vm) qK, EVC.blind g mk a qE⟩, fun U hU hW => ⟨rfl, hU, va_K.moved hW.alike hK, hE.call hS hFc hU hW⟩⟩ rfl rfl hl.1 rfl (lv_room (Nat.le_of_ble_eq_true rfl)) dX5_tryOrders_87 ⟨(Nat.le_of_ble_eq_true rfl), (Nat.le_of_ble_eq_true rfl)⟩) hS (fun q _ h => hFc q h) hFc (fun r603 u t H locs ht hvm hw604 hB _ _ hS => ?_)
                obtain ⟨hT, hF1⟩ := hB
                rw [ht] at hT hF1
                have m605 := m402.kept (hF1.arr hr_xcs skc_63 (by decide))
                have m606 := m403.kept (hF1.arr hr_xls skc_64 (by decide))
                have m607 := m404.kept (hF1.arr hr_xin skc_65 (by decide))
                have m608 := m405.kept (hF1.arr hr_xac skc_66 (by decide))
                have m609 := m406.kept (hF1.arr hr_xpd skc_67 (by decide))
                have m610 := m408.kept (hF1.arr hr_xtr skc_68 (by decide))
                have m611 := m410.kept (hF1.arr hr_xbe skc_69 (by decide))
                have m612 := (hF1.fld hr_o0 skc_8 (k := 15) (by decide) (by decide)).trans m411
                have m613 := (hF1.fld hr_o0 skc_8 (k := 16) (by decide) (by decide)).trans m413
                have m614 := (hF1.fld hr_o0 skc_8 (k := 5) (by decide) (by decide)).trans m414
                have m615 := (hF1.fld hr_o0 skc_8 (k := 6) (by decide) (by decide)).trans m415
                have m616 := (hF1.fld hr_o0 skc_8 (k := 7) (by decide) (by decide)).trans m416
                have m617 := (hF1.fld hr_o0 skc_8 (k := 8) (by decide) (by decide)).trans m417
                have m618 := (hF1.fld hr_o0 skc_8 (k := 9) (by decide) (by decide)).trans m418
                have m619 := (hF1.fld hr_o0 skc_8 (k := 10) (by decide) (by decide)).trans m419
                have m620 := (hF1.fld hr_o0 skc_8 (k := 11) (by decide) (by decide)).trans m420
                have m621 := (el_kept (hF1.arr hr_xpd skc_67 (by decide))).trans m595
                have m622 := (el_kept (hF1.arr hr_xcs skc_63 (by decide))).trans m599
                have hF := hF.more hF1 (by decide)
                try dsimp only at hw604
                obtain ⟨h623, hf624⟩ := hw604
                have yw9 : yw yr.toInt co.toInt ic.toInt (aC i401).toInt r603.toInt := by rw [show (aC i401).toInt = x600.toInt from by omega]; exact hf624
                refine lv_aload_n hx hb dX5_tryOrders_90 rfl (lv_at hl 1 rfl) ?_
                refine tw_getM (v := .ref xls) hx hb hts bF2_X5 hown hK hT hr_o0 shc_8 rfl 6 (by decide) (ht_at2 hts 8 rfl) (fun _ h9 => h9) m615 dX5_tryOrders_91 ?_
                refine lv_iload hx hb dX5_tryOrders_94 (lv_at hl 0 rfl) ?_
                refine tw_iald (i := (nI i401)) hx hb hK hT hr_xls shc_64 rfl (vp_in_nI (by omega) (by decide)) dX5_tryOrders_96 (fun v9 m625 h9 => ?_)
                obtain ⟨x626, rfl, gx626, kx626⟩ := h9
                have cx626 := m606.at m625 (by have q9 := tn_of (show (nI i401).toInt = ((i401 : Nat) : Int) from (nI_toInt (by omega))) (by omega); omega)
                have t627 : x626.toInt = (aY i401).toInt := congrArg Int32.toInt (cx626.trans (by rw [tn_nI (by omega)]))
                have t628 : 1 ≤ (aY i401).toInt ∧ (aY i401).toInt ≤ 20 := (hrg i401 (by omega)).2.1
                refine lv_iadd hx hb dX5_tryOrders_97 ?_
                refine lv_topi (fun x629 ex629 => ?_)
                have t630 : x629.toInt = r603.toInt + x626.toInt := ti_add ex629 rfl rfl (by omega) (by omega)
                refine lv_istore (lv' := [(8, .int x629), (7, .int (nI i401)), (0, .ref o0), (1, .int 4), (2, .int yr), (3, .long co), (5, .int ic), (6, .int lt)]) hx hb dX5_tryOrders_98 hl (by decide) rfl (fun ls hl => ?_)
                refine lv_iload hx hb dX5_tryOrders_100 (lv_at hl 0 rfl) ?_
                refine lv_iconst (v := (-1)) hx hb dX5_tryOrders_102 (by decide) ?_
                refine lv_icmp_eq (tgt := 194) hx hb dX5_tryOrders_103 (by decide) (fun c631 => (by exfalso; have q9 : x629.toInt = (-1) := ti_eq c631 rfl (by decide); omega)) (fun c631 => ?_)
                have t632 : x629.toInt ≠ (-1) := ti_ne c631 rfl (by decide)
                refine lv_iload hx hb dX5_tryOrders_106 (lv_at hl 0 rfl) ?_
                refine lv_sipush (v := 200) hx hb dX5_tryOrders_108 (by decide) ?_
                refine lv_icmp_gt (tgt := 194) hx hb dX5_tryOrders_111 (by decide) (fun c633 => ?_) (fun c633 => ?_)
                · have t634 : 200 < x629.toInt := ti_lt c633 (by decide) rfl
                  refine lv_iinc (v := nI (i401 + 1)) (lv' := [(7, .int (nI (i401 + 1))), (8, .int x629), (0, .ref o0), (1, .int 4), (2, .int yr), (3, .long co), (5, .int ic), (6, .int lt)]) hx hb dX5_tryOrders_194 hl (k := 1) rfl (nI_add i401 1) (by decide) rfl (fun ls hl => ?_)
                  refine lv_goto (tgt := 53) hx hb dX5_tryOrders_197 (by decide) ?_
                  have bk9 : z412.toInt = (slO N 4 aC aY aB aA (pb vP) yr.toInt co.toInt ic.toInt lt.toInt R a0 (i401 + 1)).1 ∧ (0 ≤ (slO N 4 aC aY aB aA (pb vP) yr.toInt co.toInt ic.toInt lt.toInt R a0 (i401 + 1)).1 → ∀ k : Nat, k < N → (V409 k).toInt = (slO N 4 aC aY aB aA (pb vP) yr.toInt co.toInt ic.toInt lt.toInt R a0 (i401 + 1)).2 k) ∧ ∀ k : Nat, k < 4 → (V407 k).toInt = R k := by rw [sl_n (yw_none yw9 (by omega) (by omega))]; exact ⟨hj421, hj422, hj423⟩
                  exact ih588 (i401 + 1) (by omega) (by omega) V407 V409 z412 ⟨bk9.1, bk9.2.1, bk9.2.2, (by omega)⟩ _ _ hT hF hS m605 m606 m607 m608 (m609.ext (fun _ _ => rfl)) m610 m611 m612 m613 m614 m615 m616 m617 m618 m619 m620 ls (lv_sub hl [0, 2, 3, 4, 5, 6, 7] rfl)
                · have t635 : x629.toInt ≤ 200 := ti_nlt c633 (by decide) rfl
                  refine lv_lload_n hx hb dX5_tryOrders_114 rfl (lv_at hl 5 rfl) ?_
                  refine lv_iload hx hb dX5_tryOrders_115 (lv_at hl 6 rfl) ?_
                  refine lv_i2l (v := ic.toInt64) hx hb dX5_tryOrders_117 rfl ?_
                  refine lv_iload hx hb dX5_tryOrders_118 (lv_at hl 0 rfl) ?_
                  refine lv_iload_n hx hb dX5_tryOrders_120 rfl (lv_at hl 4 rfl) ?_
                  refine lv_isub hx hb dX5_tryOrders_121 ?_
                  refine lv_topi (fun x636 ex636 => ?_)
                  have t637 : x636.toInt = x629.toInt - yr.toInt := ti_sub ex636 rfl rfl (by omega) (by omega)
                  refine lv_i2l (v := x636.toInt64) hx hb dX5_tryOrders_122 rfl ?_
                  refine lv_lmul hx hb dX5_tryOrders_123 ?_
                  refine lv_topl (fun y638 ey638 => ?_)
                  have t639 : y638.toInt = ic.toInt * x636.toInt ∧ -(400000 * 200) ≤ y638.toInt ∧ y638.toInt ≤ 400000 * 200 := tl_m ey638 ((Int32.toInt_toInt64 _).trans rfl) ((Int32.toInt_toInt64 _).trans rfl) (A := 400000) (B := 200) (by omega) (by omega) (by omega) (by omega) (by decide)
                  have t640 : y638.toInt = ic.toInt * (x629.toInt - yr.toInt) := (by rw [show x629.toInt - yr.toInt = x636.toInt from by omega]; omega)
                  refine lv_ladd hx hb dX5_tryOrders_124 ?_
                  refine lv_topl (fun y641 ey641 => ?_)
                  have t642 : y641.toInt = co.toInt + y638.toInt := tl_a ey641 rfl rfl (by omega) (by omega)
                  refine lv_aload_n hx hb dX5_tryOrders_125 rfl (lv_at hl 2 rfl) ?_
                  refine tw_getM (v := .ref xcs) hx hb hts bF2_X5 hown hK hT hr_o0 shc_8 rfl 5 (by decide) (ht_at2 hts 3 rfl) (fun _ h9 => h9) m614 dX5_tryOrders_126 ?_
                  refine lv_iload hx hb dX5_tryOrders_129 (lv_at hl 1 rfl) ?_
                  refine tw_iald (i := (nI i401)) hx hb hK hT hr_xcs shc_63 rfl (vp_in_nI (by omega) (by decide)) dX5_tryOrders_131 (fun v9 m643 h9 => ?_)
                  obtain ⟨x644, rfl, gx644, kx644⟩ := h9
                  have cx644 := m605.at m643 (by have q9 := tn_of (show (nI i401).toInt = ((i401 : Nat) : Int) from (nI_toInt (by omega))) (by omega); omega)
                  obtain rfl : x600 = x644 := (el_same m643 m622 rfl).symm
                  refine lv_i2l (v := x600.toInt64) hx hb dX5_tryOrders_132 rfl ?_
                  refine lv_lsub hx hb dX5_tryOrders_133 ?_
                  refine lv_topl (fun y645 ey645 => ?_)
                  have t646 : y645.toInt = y641.toInt - x600.toInt := tl_s ey645 rfl ((Int32.toInt_toInt64 _).trans rfl) (by omega) (by omega)
                  have dn9 := (yw_some (last := (aY i401).toInt) (d := x629.toInt) yw9 (by omega) (by omega) (by omega))
                  have dc9 := dn_cash dn9 (by omega) (by omega)
                  refine lv_lstore (lv' := [(9, .long y645), (8, .int x629), (7, .int (nI i401)), (0, .ref o0), (1, .int 4), (2, .int yr), (3, .long co), (5, .int ic), (6, .int lt)]) hx hb dX5_tryOrders_134 hl (by decide) rfl (fun ls hl => ?_)
                  refine lv_aload_n hx hb dX5_tryOrders_136 rfl (lv_at hl 3 rfl) ?_
                  refine tw_getM (v := .ref xpd) hx hb hts bF2_X5 hown hK hT hr_o0 shc_8 rfl 9 (by decide) (ht_at2 hts 2 rfl) (fun _ h9 => h9) m618 dX5_tryOrders_137 ?_
                  refine lv_iload hx hb dX5_tryOrders_140 (lv_at hl 2 rfl) ?_
                  refine lv_iconst (v := 1) hx hb dX5_tryOrders_142 (by decide) ?_
                  refine tw_zast (i := (nI i401)) (x := 1) hx hb hK hT hG hS hr_xpd shc_67 rfl (vp_in_nI (by omega) (by decide)) (gi_z (rg_t (a := 1) (by decide) (by omega) (by omega)) (by decide) (by decide)) dX5_tryOrders_143 (fun H locs hT oq m647 oi hS => ?_)
                  have hF := hF.ast hr_xpd skc_67 oq (by decide)
                  have m648 := m605.kept (oq _ (gne hr_xcs hr_xpd (by decide)))
                  have m649 := m606.kept (oq _ (gne hr_xls hr_xpd (by decide)))
                  have m650 := m607.kept (oq _ (gne hr_xin hr_xpd (by decide)))
                  have m651 := m608.kept (oq _ (gne hr_xac hr_xpd (by decide)))
                  have m652 := m609.put (show el H xpd _ = some (.int 1) from m647) oi
                  have m653 := m610.kept (oq _ (gne hr_xtr hr_xpd (by decide)))
                  have m654 := m611.kept (oq _ (gne hr_xbe hr_xpd (by decide)))
                  have m655 := (el_kept (oq _ (gne hr_o0 hr_xpd (by decide)))).trans m612
                  have m656 := (el_kept (oq _ (gne hr_o0 hr_xpd (by decide)))).trans m613
                  have m657 := (el_kept (oq _ (gne hr_o0 hr_xpd (by decide)))).trans m614
                  have m658 := (el_kept (oq _ (gne hr_o0 hr_xpd (by decide)))).trans m615
                  have m659 := (el_kept (oq _ (gne hr_o0 hr_xpd (by decide)))).trans m616
                  have m660 := (el_kept (oq _ (gne hr_o0 hr_xpd (by decide)))).trans m617
                  have m661 := (el_kept (oq _ (gne hr_o0 hr_xpd (by decide)))).trans m618
                  have m662 := (el_kept (oq _ (gne hr_o0 hr_xpd (by decide)))).trans m619
                  have m663 := (el_kept (oq _ (gne hr_o0 hr_xpd (by decide)))).trans m620
                  have m664 := (el_kept (oq _ (gne hr_xcs hr_xpd (by decide)))).trans m622
                  have m665 := (el_kept (oq _ (gne hr_xls hr_xpd (by decide)))).trans m625
                  refine lv_aload_n hx hb dX5_tryOrders_144 rfl (lv_at hl 3 rfl) ?_
                  refine tw_getM (v := .ref xtr) hx hb hts bF2_X5 hown hK hT hr_o0 shc_8 rfl 10 (by decide) (ht_at2 hts 9 rfl) (fun _ h9 => h9) m662 dX5_tryOrders_145 ?_
                  refine lv_iload_n hx hb dX5_tryOrders_148 rfl (lv_at hl 4 rfl) ?_
                  refine lv_iload hx hb dX5_tryOrders_149 (lv_at hl 2 rfl) ?_
                  refine tw_iast (i := 4) (x := (nI i401)) hx hb hK hT hG hS hr_xtr shc_68 rfl (by unfold vp_in; decide) (gi_of (show (nI i401).toInt = ((i401 : Nat) : Int) from (nI_toInt (by omega))) (by omega) (by omega)) dX5_tryOrders_151 (fun H locs hT oq m666 oi hS => ?_)
                  have hF := hF.ast hr_xtr skc_68 oq (by decide)
                  have m667 := m648.kept (oq _ (gne hr_xcs hr_xtr (by decide)))
                  have m668 := m649.kept (oq _ (gne hr_xls hr_xtr (by decide)))
                  have m669 := m650.kept (oq _ (gne hr_xin hr_xtr (by decide)))
                  have m670 := m651.kept (oq _ (gne hr_xac hr_xtr (by decide)))
                  have m671 := m652.kept (oq _ (gne hr_xpd hr_xtr (by decide)))
                  have m672 := m653.put m666 oi
                  have m673 := m654.kept (oq _ (gne hr_xbe hr_xtr (by decide)))
                  have m674 := (el_kept (oq _ (gne hr_o0 hr_xtr (by decide)))).trans m655
                  have m675 := (el_kept (oq _ (gne hr_o0 hr_xtr (by decide)))).trans m656
                  have m676 := (el_kept (oq _ (gne hr_o0 hr_xtr (by decide)))).trans m657
                  have m677 := (el_kept (oq _ (gne hr_o0 hr_xtr (by decide)))).trans m658
                  have m678 := (el_kept (oq _ (gne hr_o0 hr_xtr (by decide)))).trans m659
                  have m679 := (el_kept (oq _ (gne hr_o0 hr_xtr (by decide)))).trans m660
                  have m680 := (el_kept (oq _ (gne hr_o0 hr_xtr (by decide)))).trans m661
                  have m681 := (el_kept (oq _ (gne hr_o0 hr_xtr (by decide)))).trans m662
                  have m682 := (el_kept (oq _ (gne hr_o0 hr_xtr (by decide)))).trans m663
                  have m683 := (el_kept (oq _ (gne hr_xcs hr_xtr (by decide)))).trans m664
                  have m684 := (el_kept (oq _ (gne hr_xls hr_xtr (by decide)))).trans m665
                  refine lv_aload_n hx hb dX5_tryOrders_152 rfl (lv_at hl 3 rfl) ?_
                  refine lv_iload_n hx hb dX5_tryOrders_153 rfl (lv_at hl 4 rfl) ?_
                  refine lv_iconst (v := 1) hx hb dX5_tryOrders_154 (by decide) ?_
                  refine lv_iadd hx hb dX5_tryOrders_155 ?_
                  refine lv_topi (fun x685 ex685 => ?_)
                  obtain rfl : x685 = 5 := ex685.trans (by decide)
                  refine lv_iload hx hb dX5_tryOrders_156 (lv_at hl 1 rfl) ?_
                  refine lv_lload hx hb dX5_tryOrders_158 (lv_at hl 0 rfl) ?_
                  refine lv_iload hx hb dX5_tryOrders_160 (lv_at hl 7 rfl) ?_
                  refine lv_aload_n hx hb dX5_tryOrders_162 rfl (lv_at hl 3 rfl) ?_
                  refine tw_getM (v := .ref xin) hx hb hts bF2_X5 hown hK hT hr_o0 shc_8 rfl 7 (by decide) (ht_at2 hts 10 rfl) (fun _ h9 => h9) m678 dX5_tryOrders_163 ?_
                  refine lv_iload hx hb dX5_tryOrders_166 (lv_at hl 2 rfl) ?_
                  refine tw_iald (i := (nI i401)) hx hb hK hT hr_xin shc_65 rfl (vp_in_nI (by omega) (by decide)) dX5_tryOrders_168 (fun v9 m686 h9 => ?_)
                  obtain ⟨x687, rfl, gx687, kx687⟩ := h9
                  have cx687 := m669.at m686 (by have q9 := tn_of (show (nI i401).toInt = ((i401 : Nat) : Int) from (nI_toInt (by omega))) (by omega); omega)
                  have t688 : x687.toInt = (aB i401).toInt := congrArg Int32.toInt (cx687.trans (by rw [tn_nI (by omega)]))
                  have t689 : 0 ≤ (aB i401).toInt ∧ (aB i401).toInt ≤ 100000 := (hrg i401 (by omega)).2.2.1
                  refine lv_iadd hx hb dX5_tryOrders_169 ?_
                  refine lv_topi (fun x690 ex690 => ?_)
                  have t691 : x690.toInt = ic.toInt + x687.toInt := ti_add ex690 rfl rfl (by omega) (by omega)
                  refine lv_iload hx hb dX5_tryOrders_170 (lv_at hl 8 rfl) ?_
                  refine lv_aload_n hx hb dX5_tryOrders_172 rfl (lv_at hl 3 rfl) ?_
                  refine tw_getM (v := .ref xac) hx hb hts bF2_X5 hown hK hT hr_o0 shc_8 rfl 8 (by decide) (ht_at2 hts 11 rfl) (fun _ h9 => h9) m679 dX5_tryOrders_173 ?_
                  refine lv_iload hx hb dX5_tryOrders_176 (lv_at hl 2 rfl) ?_
                  refine tw_iald (i := (nI i401)) hx hb hK hT hr_xac shc_66 rfl (vp_in_nI (by omega) (by decide)) dX5_tryOrders_178 (fun v9 m692 h9 => ?_)
                  obtain ⟨x693, rfl, gx693, kx693⟩ := h9
                  have cx693 := m670.at m692 (by have q9 := tn_of (show (nI i401).toInt = ((i401 : Nat) : Int) from (nI_toInt (by omega))) (by omega); omega)
                  have t694 : x693.toInt = (aA i401).toInt := congrArg Int32.toInt (cx693.trans (by rw [tn_nI (by omega)]))
                  have t695 : 0 ≤ (aA i401).toInt ∧ (aA i401).toInt ≤ 1000 := (hrg i401 (by omega)).2.2.2
                  refine lv_iload hx hb dX5_tryOrders_179 (lv_at hl 1 rfl) ?_
                  refine lv_imul hx hb dX5_tryOrders_181 ?_
                  refine lv_topi (fun x696 ex696 => ?_)
                  have t697 : x696.toInt = x693.toInt * x629.toInt := ti_mulx ex696 rfl rfl (A := 1000) (B := 200) (by omega) (by omega) (by omega) (by omega) (by decide)
                  have t698 : 0 ≤ x696.toInt ∧ x696.toInt ≤ 1000 * 200 ∧ (x693.toInt = 0 → x696.toInt = 0) ∧ (x629.toInt = 0 → x696.toInt = 0) ∧ x696.toInt ≤ x693.toInt * 200 ∧ x696.toInt ≤ 1000 * x629.toInt := ti_mulnn ex696 rfl rfl (by omega) (by omega) (by omega) (by omega) (by decide)
                  refine lv_iadd hx hb dX5_tryOrders_182 ?_
                  refine lv_topi (fun x699 ex699 => ?_)
                  have t700 : x699.toInt = lt.toInt + x696.toInt := ti_add ex699 rfl rfl (by omega) (by omega)
                  have hFc := gA_free hG hA hS
                  refine va_callv (va_runV (As := [.int 5, .int x629, .long y645, .int x690, .int x699]) (rest := []) ⟨hx, hb, hml, hown, hts⟩ (c_tryOrdersC5 l dC dI kA adK adV G H nC nS o0 x629 y645 x690 x699 jb z412 xcs xls xin xac xpd xtr xbe aC aY aB aA (cu vP (nI i401).toNatClampNeg (1 : Int32)) (cu V407 (4 : Int32).toNatClampNeg (nI i401)) V409 N (fun k => if k = 4 then ((i401 : Nat) : Int) else R k) (slO N 4 aC aY aB aA (pb vP) yr.toInt co.toInt ic.toInt lt.toInt R a0 i401) hT hr_o0 m674 m675 m676 hr_xcs m677 hr_xls m678 hr_xin m679 hr_xac m680 hr_xpd m681 hr_xtr m682 hr_xbe (by have q8 := ti_all x629; omega) (by have q8 := ti_all x690; omega) (by have q8 := ti_all x699; omega) (by have q8 := ti_all jb; omega) (by omega) hN hrg (sl_ok (by omega) (fun j hj => by have := (hrg j (by omega)).2.1.1; omega) (fun j hj => (hrg j (by omega)).2.2.2.1) (by omega) (by omega) hba) hj421 hj422 (rr_s (K := 4) rfl (by decide) (nI_toInt (by omega)) hj423) m667 m668 m669 m670 m671 m672 m673 (by omega) (by omega)) (cwV 5 hts (goodIn_app (goodIn_r _ [19, 20, 21, 8] rfl (by decide +kernel)) (goodIn_ca (goodIn_r _ [13, 1, 2, 3, 4, 5, 6, 7, 8, 9, 10, 11, 12, 13, 14, 15, 16, 17, 18, 19, 20, 21] rfl (by decide +kernel)) (bs2_in _ _))) rfl rfl rfl (by decide +kernel) ⟨(Nat.le_of_ble_eq_true rfl), (Nat.le_of_ble_eq_true rfl)⟩) ⟨fun a U g mk q => by obtain ⟨q0, q1, qK, qE⟩ := q; exact ⟨q0, q1, va_K.moved (u := U) (U := U.calling g mk a) (Vm.Alike.refl U.vm) qK, EVC.blind g mk a qE⟩, gH_recv hK hT hr_o0 shc_8 rfl, fun U hU hW => ⟨rfl, hU, va_K.moved hW.alike hK, hE.call hS hFc hU hW⟩⟩ rfl rfl hl.1 rfl (lv_room (Nat.le_of_ble_eq_true rfl)) dX5_tryOrders_183 ⟨(Nat.le_of_ble_eq_true rfl), (Nat.le_of_ble_eq_true rfl)⟩) hS (fun q _ h => hFc q h) hFc (fun u t H locs ht hvm hw702 hB _ _ hS => ?_)
                  obtain ⟨u703, u704, u705⟩ := u
                  obtain ⟨hT, hF1, m706, m707, m708, m709⟩ := hB
                  rw [ht] at hT hF1 m706 m707 m708 m709
                  have m710 := m667.kept (hF1.arr hr_xcs skc_63 (by decide))
                  have m711 := m668.kept (hF1.arr hr_xls skc_64 (by decide))
                  have m712 := m669.kept (hF1.arr hr_xin skc_65 (by decide))
                  have m713 := m670.kept (hF1.arr hr_xac skc_66 (by decide))
                  have m717 := (hF1.fld hr_o0 skc_8 (k := 15) (by decide) (by decide)).trans m674
                  have m719 := (hF1.fld hr_o0 skc_8 (k := 5) (by decide) (by decide)).trans m676
                  have m720 := (hF1.fld hr_o0 skc_8 (k := 6) (by decide) (by decide)).trans m677
                  have m721 := (hF1.fld hr_o0 skc_8 (k := 7) (by decide) (by decide)).trans m678
                  have m722 := (hF1.fld hr_o0 skc_8 (k := 8) (by decide) (by decide)).trans m679
                  have m723 := (hF1.fld hr_o0 skc_8 (k := 9) (by decide) (by decide)).trans m680
                  have m724 := (hF1.fld hr_o0 skc_8 (k := 10) (by decide) (by decide)).trans m681
                  have m725 := (hF1.fld hr_o0 skc_8 (k := 11) (by decide) (by decide)).trans m682
                  have m726 := (el_kept (hF1.arr hr_xcs skc_63 (by decide))).trans m683
                  have m727 := (el_kept (hF1.arr hr_xls skc_64 (by decide))).trans m684
                  have m729 := (el_kept (hF1.arr hr_xin skc_65 (by decide))).trans m686
                  have m730 := (el_kept (hF1.arr hr_xac skc_66 (by decide))).trans m692
                  have hF := hF.more hF1 (by decide)
                  try dsimp only at hw702
                  have hf731 := hw702
                  refine lv_aload_n hx hb dX5_tryOrders_186 rfl (lv_at hl 3 rfl) ?_
                  refine tw_getM (v := .ref xpd) hx hb hts bF2_X5 hown hK hT hr_o0 shc_8 rfl 9 (by decide) (ht_at2 hts 2 rfl) (fun _ h9 => h9) m723 dX5_tryOrders_187 ?_
                  refine lv_iload hx hb dX5_tryOrders_190 (lv_at hl 2 rfl) ?_
                  refine lv_iconst (v := 0) hx hb dX5_tryOrders_192 (by decide) ?_
                  refine tw_zast (i := (nI i401)) (x := 0) hx hb hK hT hG hS hr_xpd shc_67 rfl (vp_in_nI (by omega) (by decide)) (gi_z (rg_t (a := 0) (by decide) (by omega) (by omega)) (by decide) (by decide)) dX5_tryOrders_193 (fun H locs hT oq m732 oi hS => ?_)
                  have hF := hF.ast hr_xpd skc_67 oq (by decide)
                  have m733 := m710.kept (oq _ (gne hr_xcs hr_xpd (by decide)))
                  have m734 := m711.kept (oq _ (gne hr_xls hr_xpd (by decide)))
                  have m735 := m712.kept (oq _ (gne hr_xin hr_xpd (by decide)))
                  have m736 := m713.kept (oq _ (gne hr_xac hr_xpd (by decide)))
                  have m737 := (el_kept (oq _ (gne hr_o0 hr_xpd (by decide)))).trans m717
                  have m738 := (el_kept (oq _ (gne hr_o0 hr_xpd (by decide)))).trans m719
                  have m739 := (el_kept (oq _ (gne hr_o0 hr_xpd (by decide)))).trans m720
                  have m740 := (el_kept (oq _ (gne hr_o0 hr_xpd (by decide)))).trans m721
                  have m741 := (el_kept (oq _ (gne hr_o0 hr_xpd (by decide)))).trans m722
                  have m742 := (el_kept (oq _ (gne hr_o0 hr_xpd (by decide)))).trans m723
                  have m743 := (el_kept (oq _ (gne hr_o0 hr_xpd (by decide)))).trans m724
                  have m744 := (el_kept (oq _ (gne hr_o0 hr_xpd (by decide)))).trans m725
                  have m745 := (el_kept (oq _ (gne hr_xcs hr_xpd (by decide)))).trans m726
                  have m746 := (el_kept (oq _ (gne hr_xls hr_xpd (by decide)))).trans m727
                  have m747 := (el_kept (oq _ (gne hr_xin hr_xpd (by decide)))).trans m729
                  have m748 := (el_kept (oq _ (gne hr_xac hr_xpd (by decide)))).trans m730
                  have m749 := (el_kept (oq _ (gne hr_o0 hr_xpd (by decide)))).trans m706
                  have m750 := m707.put (show el H xpd _ = some (.int 0) from m732) oi
                  have m751 := m708.kept (oq _ (gne hr_xtr hr_xpd (by decide)))
                  have m752 := m709.kept (oq _ (gne hr_xbe hr_xpd (by decide)))
                  refine lv_iinc (v := nI (i401 + 1)) (lv' := [(7, .int (nI (i401 + 1))), (9, .long y645), (8, .int x629), (0, .ref o0), (1, .int 4), (2, .int yr), (3, .long co), (5, .int ic), (6, .int lt)]) hx hb dX5_tryOrders_194 hl (k := 2) rfl (nI_add i401 1) (by decide) rfl (fun ls hl => ?_)
                  refine lv_goto (tgt := 53) hx hb dX5_tryOrders_197 (by decide) ?_
                  have bk9 : u703.toInt = (slO N 4 aC aY aB aA (pb vP) yr.toInt co.toInt ic.toInt lt.toInt R a0 (i401 + 1)).1 ∧ (0 ≤ (slO N 4 aC aY aB aA (pb vP) yr.toInt co.toInt ic.toInt lt.toInt R a0 (i401 + 1)).1 → ∀ k : Nat, k < N → (u705 k).toInt = (slO N 4 aC aY aB aA (pb vP) yr.toInt co.toInt ic.toInt lt.toInt R a0 (i401 + 1)).2 k) ∧ ∀ k : Nat, k < 4 → (u704 k).toInt = R k := by have q9 := hf731; rw [sl_call (N := N) (K := 4) (K1 := 5) (aC := aC) (aY := aY) (aB := aB) (aA := aA) (U := pb vP) (yr := yr.toInt) (ca := co.toInt) (ic := ic.toInt) (su := lt.toInt) (R := R) (a := a0) (i := i401) (d := x629.toInt) (c1 := y645.toInt) (i1 := x690.toInt) (s1 := x699.toInt) (U1 := pb (cu vP (nI i401).toNatClampNeg (1 : Int32))) rfl (pb_0 (tn_nI (by omega)) cx596 (by omega)) dn9 (pb_cu (tn_nI (by omega))) (by omega) (by omega) (by rw [show (aA i401).toInt = x693.toInt from by omega]; omega)] at q9; exact ⟨q9.1, q9.2.1, fun k hk => (q9.2.2 k (by omega)).trans (if_neg (by omega))⟩
                  exact ih588 (i401 + 1) (by omega) (by omega) u704 u705 u703 ⟨bk9.1, bk9.2.1, bk9.2.2, (by omega)⟩ _ _ hT hF hS m733 m734 m735 m736 (m750.ext (fun _ _ => pb_r cx596 (by omega))) m751 m752 m737 m749 m738 m739 m740 m741 m742 m743 m744 ls (lv_sub hl [0, 3, 4, 5, 6, 7, 8] rfl)
              · have t753 : x596.toInt ≠ 0 := ti_ne c597 rfl (by decide)
                refine lv_iconst (v := (-1)) hx hb dX5_tryOrders_72 (by decide) ?_
                refine lv_goto (tgt := 98) hx hb dX5_tryOrders_73 (by decide) ?_
                refine lv_istore (lv' := [(8, .int (-1)), (7, .int (nI i401)), (0, .ref o0), (1, .int 4), (2, .int yr), (3, .long co), (5, .int ic), (6, .int lt)]) hx hb dX5_tryOrders_98 hl (by decide) rfl (fun ls hl => ?_)
                refine lv_iload hx hb dX5_tryOrders_100 (lv_at hl 0 rfl) ?_
                refine lv_iconst (v := (-1)) hx hb dX5_tryOrders_102 (by decide) ?_
                refine lv_icmp_eq (tgt := 194) hx hb dX5_tryOrders_103 (by decide) (fun c754 => ?_) (fun c754 => absurd c754 (by decide))
                refine lv_iinc (v := nI (i401 + 1)) (lv' := [(7, .int (nI (i401 + 1))), (8, .int (-1)), (0, .ref o0), (1, .int 4), (2, .int yr), (3, .long co), (5, .int ic), (6, .int lt)]) hx hb dX5_tryOrders_194 hl (k := 1) rfl (nI_add i401 1) (by decide) rfl (fun ls hl => ?_)
                refine lv_goto (tgt := 53) hx hb dX5_tryOrders_197 (by decide) ?_
                have bk9 : z412.toInt = (slO N 4 aC aY aB aA (pb vP) yr.toInt co.toInt ic.toInt lt.toInt R a0 (i401 + 1)).1 ∧ (0 ≤ (slO N 4 aC aY aB aA (pb vP) yr.toInt co.toInt ic.toInt lt.toInt R a0 (i401 + 1)).1 → ∀ k : Nat, k < N → (V409 k).toInt = (slO N 4 aC aY aB aA (pb vP) yr.toInt co.toInt ic.toInt lt.toInt R a0 (i401 + 1)).2 k) ∧ ∀ k : Nat, k < 4 → (V407 k).toInt = R k := by rw [sl_u (pb_1 (tn_nI (by omega)) cx596 (by omega))]; exact ⟨hj421, hj422, hj423⟩
                exact ih588 (i401 + 1) (by omega) (by omega) V407 V409 z412 ⟨bk9.1, bk9.2.1, bk9.2.2, (by omega)⟩ _ _ hT hF hS m402 m403 m404 m405 (m406.ext (fun _ _ => rfl)) m408 m410 m411 m413 m414 m415 m416 m417 m418 m419 m420 ls (lv_sub hl [0, 2, 3, 4, 5, 6, 7] rfl)
        exact key588 (7 - 0) 0 (by omega) (Nat.le_refl _) vR vZ la ⟨hla, hZ0, hR, (by omega)⟩ _ _ hT hF hS hc_aC hc_aY hc_aB hc_aA (hc_vP.ext (fun _ _ => rfl)) hc_vR hc_vZ hm_jb hm_la hm_xcs hm_xls hm_xin hm_xac hm_xpd hm_xtr hm_xbe ls (lv_sub hl [0, 1, 2, 3, 4, 5, 6] rfl)
      · have t755 : jb.toInt ≤ 4 := ti_nlt c399 (by decide) rfl
        refine lv_aload_n hx hb dX5_tryOrders_26 rfl (lv_at hl 0 rfl) ?_
        refine lv_iload hx hb dX5_tryOrders_27 (lv_at hl 5 rfl) ?_
        refine tw_put (v := .int lt) (ty := .int) hx hb hts bF2_X5 tyX5 tyX5_ok nmX5 hown hK hT hG hS hr_o0 shc_8 rfl 16 (by decide) (ht_at2 hts 0 rfl) (fun _ h9 => h9) rfl (by decide +kernel) rfl rfl (gl_at rfl (gi_all _)) dX5_tryOrders_29 (fun H locs hT oq m756 oj hS => ?_)
        have hF := hF.put hr_o0 skc_8 oq oj (by decide)
        have m757 := (oj 15 (by decide) (by decide)).trans hm_jb
        have m758 := (oj 5 (by decide) (by decide)).trans hm_xcs
        have m759 := (oj 6 (by decide) (by decide)).trans hm_xls
        have m760 := (oj 7 (by decide) (by decide)).trans hm_xin
        have m761 := (oj 8 (by decide) (by decide)).trans hm_xac
        have m762 := (oj 9 (by decide) (by decide)).trans hm_xpd
        have m763 := (oj 10 (by decide) (by decide)).trans hm_xtr
        have m764 := (oj 11 (by decide) (by decide)).trans hm_xbe
        have m765 := hc_aC.kept (oq _ (gne hr_xcs hr_o0 (by decide)))
        have m766 := hc_aY.kept (oq _ (gne hr_xls hr_o0 (by decide)))
        have m767 := hc_aB.kept (oq _ (gne hr_xin hr_o0 (by decide)))
        have m768 := hc_aA.kept (oq _ (gne hr_xac hr_o0 (by decide)))
        have m769 := hc_vP.kept (oq _ (gne hr_xpd hr_o0 (by decide)))
        have m770 := hc_vR.kept (oq _ (gne hr_xtr hr_o0 (by decide)))
        have m771 := hc_vZ.kept (oq _ (gne hr_xbe hr_o0 (by decide)))
        refine lv_aload_n hx hb dX5_tryOrders_32 rfl (lv_at hl 0 rfl) ?_
        refine tw_getM (v := .ref xtr) hx hb hts bF2_X5 hown hK hT hr_o0 shc_8 rfl 10 (by decide) (ht_at2 hts 9 rfl) (fun _ h9 => h9) m763 dX5_tryOrders_33 ?_
        refine lv_iconst (v := 0) hx hb dX5_tryOrders_36 (by decide) ?_
        refine lv_aload_n hx hb dX5_tryOrders_37 rfl (lv_at hl 0 rfl) ?_
        refine tw_getM (v := .ref xbe) hx hb hts bF2_X5 hown hK hT hr_o0 shc_8 rfl 11 (by decide) (ht_at2 hts 13 rfl) (fun _ h9 => h9) m764 dX5_tryOrders_38 ?_
        refine lv_iconst (v := 0) hx hb dX5_tryOrders_41 (by decide) ?_
        refine lv_aload_n hx hb dX5_tryOrders_42 rfl (lv_at hl 0 rfl) ?_
        refine tw_getM (v := .int jb) hx hb hts bF2_X5 hown hK hT hr_o0 shc_8 rfl 15 (by decide) (ht_at2 hts 1 rfl) (fun _ h9 => h9) m757 dX5_tryOrders_43 ?_
        refine tw_copyE (ty := .int) hx hb (hml.trans hl.1.symm) hown (ht_at2 hts 14 rfl) (ht_at2 hts 15 rfl) (ht_at2 hts 16 rfl) (ht_at2 hts 17 rfl) hK hT hG hS hr_xtr hr_xbe shc_68 shc_69 rfl rfl (by decide) (by decide) (fun h9 => by have q9 := ti_lt h9 rfl (show (0 : Int32).toInt = 0 from by decide); omega) (by have q9 := tn_of (show jb.toInt = jb.toInt from rfl) (by omega); have q8 : (0 : Int32).toNatClampNeg = 0 := (by decide); omega) (by have q9 := tn_of (show jb.toInt = jb.toInt from rfl) (by omega); have q8 : (0 : Int32).toNatClampNeg = 0 := (by decide); omega) (by decide) (by decide) (fun _ _ h9 => by obtain ⟨x9, e9, _⟩ := h9; exact ⟨x9, e9, rfl⟩) (fun _ _ _ h9 => by obtain ⟨x9, e9, a9, b9⟩ := h9; exact ⟨x9, e9, by omega, by omega⟩) (Nat.le_of_ble_eq_true rfl) (Nat.le_of_ble_eq_true rfl) dX5_tryOrders_46 (fun H locs hT oq ce772 hS => ?_)
        have hF := hF.ast hr_xbe skc_69 oq (by decide)
        have m773 := (el_kept (oq _ (gne hr_o0 hr_xbe (by decide)))).trans m757
        have m774 := (el_kept (oq _ (gne hr_o0 hr_xbe (by decide)))).trans m758
        have m775 := (el_kept (oq _ (gne hr_o0 hr_xbe (by decide)))).trans m759
        have m776 := (el_kept (oq _ (gne hr_o0 hr_xbe (by decide)))).trans m760
        have m777 := (el_kept (oq _ (gne hr_o0 hr_xbe (by decide)))).trans m761
        have m778 := (el_kept (oq _ (gne hr_o0 hr_xbe (by decide)))).trans m762
        have m779 := (el_kept (oq _ (gne hr_o0 hr_xbe (by decide)))).trans m763
        have m780 := (el_kept (oq _ (gne hr_o0 hr_xbe (by decide)))).trans m764
        have m781 := m765.kept (oq _ (gne hr_xcs hr_xbe (by decide)))
        have m782 := m766.kept (oq _ (gne hr_xls hr_xbe (by decide)))
        have m783 := m767.kept (oq _ (gne hr_xin hr_xbe (by decide)))
        have m784 := m768.kept (oq _ (gne hr_xac hr_xbe (by decide)))
        have m785 := m769.kept (oq _ (gne hr_xpd hr_xbe (by decide)))
        have m786 := m770.kept (oq _ (gne hr_xtr hr_xbe (by decide)))
        have m787 := (el_kept (oq _ (gne hr_o0 hr_xbe (by decide)))).trans m756
        obtain ⟨V788, m789, kV788⟩ := ct_of hT hr_xbe shc_69
        have cq790 : ∀ k : Nat, ((k : Nat) : Int) < jb.toInt → V788 k = vR k := fun k hk => Value.int.inj (Option.some.inj ((m789 k (by omega)).symm.trans ((ce772 k (by have q9 := tn_of (show jb.toInt = jb.toInt from rfl) (by omega); omega)).trans (m770 k (by omega)))))
        exact W.vret hx hb hr (fun t ht hW => ⟨⟨(lt, vR, V788), rfl, (by exact (by (try dsimp only); have e9 : N = 4 := (by omega); rw [sx_0 e9, if_neg (by omega)]; exact ⟨rfl, fun _ k hk => (congrArg Int32.toInt (cq790 k (by omega))).trans (hR k (by omega)), hR⟩)), by (try dsimp only); rw [ht]; exact ⟨hT, hF, m787, m785, m786, m789⟩⟩, hS.F ht⟩) hS.2.2 dX5_tryOrders_49
    · have t791 : la.toInt ≤ lt.toInt := ti_nlt c397 rfl rfl
      exact W.vret hx hb hr (fun t ht hW => ⟨⟨(la, vR, vZ), rfl, (by exact (by (try dsimp only); rw [sx_cut (fun j hj => by have := (hrg j (by omega)).2.1.1; omega) (fun j hj => (hrg j (by omega)).2.2.2.1) (by omega) ⟨by omega, by omega⟩]; exact ⟨by omega, hZ0, hR⟩)), by (try dsimp only); rw [ht]; exact ⟨hT, hF, hm_la, hc_vP, hc_vR, hc_vZ⟩⟩, hS.F ht⟩) hS.2.2 dX5_tryOrders_17
def w_c_tryOrdersC3 : List Cond := .code yX5_tryOrders cX5_tryOrders 11 none :: (HAppend.hAppend (α := List Cond) (β := List Cond) (γ := List Cond) [.fieldLink RX5 157 "SeaLand$Plans" "bestLate" "I", .fieldLink RX5 154 "SeaLand$Plans" "jobs" "I", .fieldLink RX5 41 "SeaLand$Plans" "placed" "[Z", .fieldLink RX5 29 "SeaLand$Plans" "costs" "[I", .code yX5_yearWithCost cX5_yearWithCost 5 (some .int), .methodLink RX5 164 yX5_yearWithCost, .static yX5_yearWithCost, .initialized RX5, .fieldLink RX5 32 "SeaLand$Plans" "lasts" "[I", .fieldLink RX5 45 "SeaLand$Plans" "trial" "[I", .fieldLink RX5 35 "SeaLand$Plans" "incomes" "[I", .fieldLink RX5 38 "SeaLand$Plans" "acres" "[I", .code yX5_tryOrders cX5_tryOrders 11 none, .fieldLink RX5 48 "SeaLand$Plans" "best" "[I", .methodLink RX5 100 arraycopyName, .native arraycopyName, .static arraycopyName, .initialized "java/lang/System", .methodLink RX5 160 yX5_tryOrders, .instanceMethod yX5_tryOrders, .selects RX5 yX5_tryOrders yX5_tryOrders] bs2)
set_option maxHeartbeats 4000000 in
set_option maxRecDepth 100000 in
theorem c_tryOrdersC3 (l : Launch) (dC : Nat → ClassId) (dI : Nat → Nat → Nat) (kA : Nat → ClassId) (adK adV : Nat → Nat) (G : gT) (H0 : Heap) (nC nS : Int) (o0 : Nat) (yr : Int32) (co : Int64) (ic : Int32) (lt : Int32) (jb : Int32) (la : Int32) (xcs : Nat) (xls : Nat) (xin : Nat) (xac : Nat) (xpd : Nat) (xtr : Nat) (xbe : Nat) (aC : Nat → Int32) (aY : Nat → Int32) (aB : Nat → Int32) (aA : Nat → Int32) (vP : Nat → Int32) (vR : Nat → Int32) (vZ : Nat → Int32) (N : Nat) (R : Nat → Int) (a0 : oA) (hT : gH (dC, dI) kA (SHc nC nS) G H0) (hr_o0 : G o0 = some 8) (hm_jb : el H0 o0 (dI 8 15) = some (.int jb)) (hm_la : el H0 o0 (dI 8 16) = some (.int la)) (hm_xcs : el H0 o0 (dI 8 5) = some (.ref xcs)) (hr_xcs : G xcs = some 63) (hm_xls : el H0 o0 (dI 8 6) = some (.ref xls)) (hr_xls : G xls = some 64) (hm_xin : el H0 o0 (dI 8 7) = some (.ref xin)) (hr_xin : G xin = some 65) (hm_xac : el H0 o0 (dI 8 8) = some (.ref xac)) (hr_xac : G xac = some 66) (hm_xpd : el H0 o0 (dI 8 9) = some (.ref xpd)) (hr_xpd : G xpd = some 67) (hm_xtr : el H0 o0 (dI 8 10) = some (.ref xtr)) (hr_xtr : G xtr = some 68) (hm_xbe : el H0 o0 (dI 8 11) = some (.ref xbe)) (hr_xbe : G xbe = some 69) (hq0 : 0 ≤ yr.toInt ∧ yr.toInt ≤ 200) (hq1 : 0 ≤ ic.toInt ∧ ic.toInt ≤ 300000) (hq2 : 0 ≤ lt.toInt ∧ lt.toInt ≤ 600000) (hq3 : 3 ≤ jb.toInt ∧ jb.toInt ≤ 7) (hco : 0 ≤ co.toInt ∧ co.toInt ≤ 61000000) (hN : jb.toInt = ((N : Nat) : Int)) (hrg : joR jb.toInt aC aY aB aA) (hba : a0.1 = -1 ∨ 0 ≤ a0.1) (hla : la.toInt = a0.1) (hZ0 : 0 ≤ a0.1 → ∀ k : Nat, k < N → (vZ k).toInt = a0.2 k) (hR : ∀ k : Nat, k < 3 → (vR k).toInt = R k) (hc_aC : ct H0 xcs 7 aC) (hc_aY : ct H0 xls 7 aY) (hc_aB : ct H0 xin 7 aB) (hc_aA : ct H0 xac 7 aA) (hc_vP : ct H0 xpd 7 vP) (hc_vR : ct H0 xtr 7 vR) (hc_vZ : ct H0 xbe 7 vZ) (hgC : 0 ≤ nC ∧ nC ≤ 40) (hgS : 0 ≤ nS ∧ nS ≤ 60) : Met l yX5_tryOrders w_c_tryOrdersC3 ({ frames := 6, cells := 0, slots := 0, locals := 180 }) (va_Pc [.ref o0, .int 3, .int yr, .long co, .int ic, .int lt] (fun U => U.heap = H0 ∧ va_K (dC, dI) vwCl (tyl kA) U ∧ EVC adK adV (gA G H0.size) U U.heap)) (va_Qv (fun (u : Int32 × (Nat → Int32) × (Nat → Int32)) => match u with | (la1, vR1, vZ1) => (la1.toInt = (sx N 3 aC aY aB aA (pb vP) yr.toInt co.toInt ic.toInt lt.toInt R a0).1 ∧ (0 ≤ (sx N 3 aC aY aB aA (pb vP) yr.toInt co.toInt ic.toInt lt.toInt R a0).1 → ∀ k : Nat, k < N → (vZ1 k).toInt = (sx N 3 aC aY aB aA (pb vP) yr.toInt co.toInt ic.toInt lt.toInt R a0).2 k) ∧ ∀ k : Nat, k < 3 → (vR1 k).toInt = R k)) (fun (u : Int32 × (Nat → Int32) × (Nat → Int32)) (t : State) => match u with | (la1, vR1, vZ1) => gH (dC, dI) kA (SHc nC nS) G t.heap ∧ gF (dC, dI) SKc G ([(8, 16), (67, 0), (68, 0), (69, 0)] : List (Nat × Nat)) H0 t.heap ∧ el t.heap o0 (dI 8 16) = some (.int la1) ∧ ct t.heap xpd 7 vP ∧ ct t.heap xtr 7 vR1 ∧ ct t.heap xbe 7 vZ1) (gA G H0.size)) 0 0 (gA G H0.size) := by
  refine Met.ofW (cc := cX5_tryOrders) (maxL := 11) (ret := none) (by decide) rfl ?_
  intro p e s m args below meth c s₁ B hml hv
  obtain ⟨rfl, hH0, hK, hE⟩ := hv
  have hx := B.exec
  have hb := B.bytes
  have hr := B.returns
  have hts := atoms_spec (ws := w_c_tryOrdersC3) B.pre
  have hown : s.vm.findClass RX5 = some m.cls := findClass_of_methodNamed B.named
  have hlocks := B.notSynchronized
  subst hH0
  generalize hAe : gA G s.heap.size = A at hE ⊢
  have hA : ∀ q : Nat, s.heap.size ≤ q → A q := fun q h => by rw [← hAe]; exact Or.inr h
  have hG := gA_of hAe
  have hS : va_S A s.heap s.heap [] := va_S.rf
  have hF : gF (dC, dI) SKc G ([(8, 16), (67, 0), (68, 0), (69, 0)] : List (Nat × Nat)) s.heap s.heap := gF.rf
  have hl := lv_entry ([.ref o0, .int 3, .int yr, .long co, .int ic, .int lt]) (n := 11) (Nat.le_of_ble_eq_true rfl)
  rw [lg_entry_eq]
  generalize (lg_sl ([.ref o0, .int 3, .int yr, .long co, .int ic, .int lt]) ++ List.replicate (11 - (lg_sl ([.ref o0, .int 3, .int yr, .long co, .int ic, .int lt])).length) Slot.unset).toArray = ls at hl ⊢
  have hl : lv_has ls 11 [(0, .ref o0), (1, .int 3), (2, .int yr), (3, .long co), (5, .int ic), (6, .int lt)] := hl
  refine lv_aload_n hx hb dX5_tryOrders_0 rfl (lv_at hl 0 rfl) ?_
  refine tw_getM (v := .int la) hx hb hts bF2_X5 hown hK hT hr_o0 shc_8 rfl 16 (by decide) (ht_at2 hts 0 rfl) (fun _ h9 => h9) hm_la dX5_tryOrders_1 ?_
  refine lv_iconst (v := (-1)) hx hb dX5_tryOrders_4 (by decide) ?_
  have t1 : -2147483648 ≤ la.toInt ∧ la.toInt ≤ 2147483647 := ti_all la
  refine lv_icmp_eq (tgt := 18) hx hb dX5_tryOrders_5 (by decide) (fun c2 => ?_) (fun c2 => ?_)
  · have t3 : la.toInt = (-1) := ti_eq c2 rfl (by decide)
    refine lv_iload_n hx hb dX5_tryOrders_18 rfl (lv_at hl 1 rfl) ?_
    refine lv_aload_n hx hb dX5_tryOrders_19 rfl (lv_at hl 0 rfl) ?_
    refine tw_getM (v := .int jb) hx hb hts bF2_X5 hown hK hT hr_o0 shc_8 rfl 15 (by decide) (ht_at2 hts 1 rfl) (fun _ h9 => h9) hm_jb dX5_tryOrders_20 ?_
    refine lv_icmp_lt (tgt := 50) hx hb dX5_tryOrders_23 (by decide) (fun c4 => ?_) (fun c4 => ?_)
    · have t5 : 3 < jb.toInt := ti_lt c4 (by decide) rfl
      refine lv_iconst (v := 0) hx hb dX5_tryOrders_50 (by decide) ?_
      refine lv_istore (lv' := [(7, .int 0), (0, .ref o0), (1, .int 3), (2, .int yr), (3, .long co), (5, .int ic), (6, .int lt)]) hx hb dX5_tryOrders_51 hl (by decide) rfl (fun ls hl => ?_)
      have key193 : ∀ (n193 i6 : Nat), i6 + n193 = 7 → 0 ≤ i6 → ∀ (V12 : Nat → Int32), ∀ (V14 : Nat → Int32), ∀ (z17 : Int32), ((z17.toInt = (slO N 3 aC aY aB aA (pb vP) yr.toInt co.toInt ic.toInt lt.toInt R a0 i6).1) ∧ (0 ≤ (slO N 3 aC aY aB aA (pb vP) yr.toInt co.toInt ic.toInt lt.toInt R a0 i6).1 → ∀ k : Nat, k < N → (V14 k).toInt = (slO N 3 aC aY aB aA (pb vP) yr.toInt co.toInt ic.toInt lt.toInt R a0 i6).2 k) ∧ (∀ k : Nat, k < 3 → (V12 k).toInt = R k) ∧ (((i6 : Nat) : Int) ≤ jb.toInt)) → ∀ (H : Heap) (locs : List Loc), gH (dC, dI) kA (SHc nC nS) G H → gF (dC, dI) SKc G ([(8, 16), (67, 0), (68, 0), (69, 0)] : List (Nat × Nat)) s.heap H → va_S A s.heap H locs → ct H xcs 7 aC → ct H xls 7 aY → ct H xin 7 aB → ct H xac 7 aA → ct H xpd 7 vP → ct H xtr 7 V12 → ct H xbe 7 V14 → el H o0 (dI 8 15) = some (.int jb) → el H o0 (dI 8 16) = some (.int z17) → el H o0 (dI 8 5) = some (.ref xcs) → el H o0 (dI 8 6) = some (.ref xls) → el H o0 (dI 8 7) = some (.ref xin) → el H o0 (dI 8 8) = some (.ref xac) → el H o0 (dI 8 9) = some (.ref xpd) → el H o0 (dI 8 10) = some (.ref xtr) → el H o0 (dI 8 11) = some (.ref xbe) → ∀ ls : Array Slot, lv_has ls 11 [(7, .int (nI i6)), (0, .ref o0), (1, .int 3), (2, .int yr), (3, .long co), (5, .int ic), (6, .int lt)] → W p l e (headSpec w_c_tryOrdersC3 ({ frames := 6, cells := 0, slots := 0, locals := 180 })).room s m #[.ref o0, .int 3, .int yr, .long co, .int ic, .int lt] below meth c H locs 0 0 (MQ below (va_Qv (fun (u : Int32 × (Nat → Int32) × (Nat → Int32)) => match u with | (la1, vR1, vZ1) => (la1.toInt = (sx N 3 aC aY aB aA (pb vP) yr.toInt co.toInt ic.toInt lt.toInt R a0).1 ∧ (0 ≤ (sx N 3 aC aY aB aA (pb vP) yr.toInt co.toInt ic.toInt lt.toInt R a0).1 → ∀ k : Nat, k < N → (vZ1 k).toInt = (sx N 3 aC aY aB aA (pb vP) yr.toInt co.toInt ic.toInt lt.toInt R a0).2 k) ∧ ∀ k : Nat, k < 3 → (vR1 k).toInt = R k)) (fun (u : Int32 × (Nat → Int32) × (Nat → Int32)) (t : State) => match u with | (la1, vR1, vZ1) => gH (dC, dI) kA (SHc nC nS) G t.heap ∧ gF (dC, dI) SKc G ([(8, 16), (67, 0), (68, 0), (69, 0)] : List (Nat × Nat)) s.heap t.heap ∧ el t.heap o0 (dI 8 16) = some (.int la1) ∧ ct t.heap xpd 7 vP ∧ ct t.heap xtr 7 vR1 ∧ ct t.heap xbe 7 vZ1) A) #[.ref o0, .int 3, .int yr, .long co, .int ic, .int lt] s 0 0 A) (F0 m 53 ls []) := by
        intro n193
        induction n193 with
        | zero =>
          intro i6 hn193 hlo194 V12 V14 z17 ⟨hj26, hj27, hj28, hj29⟩ H locs hT hF hS m7 m8 m9 m10 m11 m13 m15 m16 m18 m19 m20 m21 m22 m23 m24 m25 ls hl
          obtain rfl : 7 = i6 := by omega
          refine lv_iload hx hb dX5_tryOrders_53 (lv_at hl 0 rfl) ?_
          refine lv_aload_n hx hb dX5_tryOrders_55 rfl (lv_at hl 1 rfl) ?_
          refine tw_getM (v := .int jb) hx hb hts bF2_X5 hown hK hT hr_o0 shc_8 rfl 15 (by decide) (ht_at2 hts 1 rfl) (fun _ h9 => h9) m16 dX5_tryOrders_56 ?_
          refine lv_icmp_ge (tgt := 200) hx hb dX5_tryOrders_59 (by decide) (fun c195 => ?_) (fun c195 => (by exfalso; have q9 : ((7 : Nat) : Int) < jb.toInt := ti_nle c195 rfl (nI_toInt (by omega)); omega))
          have t196 : jb.toInt ≤ ((7 : Nat) : Int) := ti_le c195 rfl (nI_toInt (by omega))
          exact W.vret hx hb hr (fun t ht hW => ⟨⟨(z17, V12, V14), rfl, (by exact (by (try dsimp only); have e9 : N = 7 := (by omega); rw [sx_s (by omega)]; subst e9; exact ⟨hj26, hj27, hj28⟩)), by (try dsimp only); rw [ht]; exact ⟨hT, hF, m18, m11, m13, m15⟩⟩, hS.F ht⟩) hS.2.2 dX5_tryOrders_200
        | succ n193 ih193 =>
          intro i6 hn193 hlo194 V12 V14 z17 ⟨hj26, hj27, hj28, hj29⟩ H locs hT hF hS m7 m8 m9 m10 m11 m13 m15 m16 m18 m19 m20 m21 m22 m23 m24 m25 ls hl
          have hlt196 : i6 < 7 := by omega
          refine lv_iload hx hb dX5_tryOrders_53 (lv_at hl 0 rfl) ?_
          refine lv_aload_n hx hb dX5_tryOrders_55 rfl (lv_at hl 1 rfl) ?_
          refine tw_getM (v := .int jb) hx hb hts bF2_X5 hown hK hT hr_o0 shc_8 rfl 15 (by decide) (ht_at2 hts 1 rfl) (fun _ h9 => h9) m16 dX5_tryOrders_56 ?_
          refine lv_icmp_ge (tgt := 200) hx hb dX5_tryOrders_59 (by decide) (fun c197 => ?_) (fun c197 => ?_)
          · have t198 : jb.toInt ≤ ((i6 : Nat) : Int) := ti_le c197 rfl (nI_toInt (by omega))
            exact W.vret hx hb hr (fun t ht hW => ⟨⟨(z17, V12, V14), rfl, (by exact (by (try dsimp only); have e9 : N = i6 := (by omega); rw [sx_s (by omega)]; subst e9; exact ⟨hj26, hj27, hj28⟩)), by (try dsimp only); rw [ht]; exact ⟨hT, hF, m18, m11, m13, m15⟩⟩, hS.F ht⟩) hS.2.2 dX5_tryOrders_200
          · have t199 : ((i6 : Nat) : Int) < jb.toInt := ti_nle c197 rfl (nI_toInt (by omega))
            refine lv_aload_n hx hb dX5_tryOrders_62 rfl (lv_at hl 1 rfl) ?_
            refine tw_getM (v := .ref xpd) hx hb hts bF2_X5 hown hK hT hr_o0 shc_8 rfl 9 (by decide) (ht_at2 hts 2 rfl) (fun _ h9 => h9) m23 dX5_tryOrders_63 ?_
            refine lv_iload hx hb dX5_tryOrders_66 (lv_at hl 0 rfl) ?_
            refine tw_zald (i := (nI i6)) hx hb hK hT hr_xpd shc_67 rfl (vp_in_nI (by omega) (by decide)) dX5_tryOrders_68 (fun v9 m200 h9 => ?_)
            obtain ⟨x201, rfl, gx201, kx201⟩ := h9
            have cx201 := m11.at m200 (by have q9 := tn_of (show (nI i6).toInt = ((i6 : Nat) : Int) from (nI_toInt (by omega))) (by omega); omega)
            refine lv_if_eq (tgt := 76) hx hb dX5_tryOrders_69 (by decide) (fun c202 => ?_) (fun c202 => ?_)
            · have t203 : x201.toInt = 0 := ti_eq c202 rfl (by decide)
              refine lv_iload_n hx hb dX5_tryOrders_76 rfl (lv_at hl 3 rfl) ?_
              refine lv_lload_n hx hb dX5_tryOrders_77 rfl (lv_at hl 4 rfl) ?_
              refine lv_iload hx hb dX5_tryOrders_78 (lv_at hl 5 rfl) ?_
              refine lv_aload_n hx hb dX5_tryOrders_80 rfl (lv_at hl 1 rfl) ?_
              refine tw_getM (v := .ref xcs) hx hb hts bF2_X5 hown hK hT hr_o0 shc_8 rfl 5 (by decide) (ht_at2 hts 3 rfl) (fun _ h9 => h9) m19 dX5_tryOrders_81 ?_
              refine lv_iload hx hb dX5_tryOrders_84 (lv_at hl 0 rfl) ?_
              refine tw_iald (i := (nI i6)) hx hb hK hT hr_xcs shc_63 rfl (vp_in_nI (by omega) (by decide)) dX5_tryOrders_86 (fun v9 m204 h9 => ?_)
              obtain ⟨x205, rfl, gx205, kx205⟩ := h9
              have cx205 := m7.at m204 (by have q9 := tn_of (show (nI i6).toInt = ((i6 : Nat) : Int) from (nI_toInt (by omega))) (by omega); omega)
              have t206 : x205.toInt = (aC i6).toInt := congrArg Int32.toInt (cx205.trans (by rw [tn_nI (by omega)]))
              have t207 : 0 ≤ (aC i6).toInt ∧ (aC i6).toInt ≤ 1000000 := (hrg i6 (by omega)).1
              have hFc := gA_free hG hA hS
              refine va_calli (va_runS (As := [.int yr, .long co, .int ic, .int x205]) (rest := []) ⟨hx, hb, hml, hown, hts⟩ (c_yearC l dC dI kA adK adV G H nC nS yr co ic x205 hT (by have q8 := ti_all yr; omega) (by have q8 := ti_all ic; omega) (by have q8 := ti_all x205; omega) (by omega) (by omega) (by omega)) (va_cwS 4 hts (goodIn_app (goodIn_r _ [6, 7, 8] rfl (by decide +kernel)) (goodIn_ca (goodIn_r _ [5] rfl (by decide +kernel)) (bs2_in _ _))) rfl rfl rfl (by decide +kernel) ⟨(Nat.le_of_ble_eq_true rfl), (Nat.le_of_ble_eq_true rfl)⟩) ⟨fun a U g mk q => by obtain ⟨q0, q1, qK, qE⟩ := q; exact ⟨q0, q1, va_K.moved (u := U) (U := U.calling g mk a) (Vm.Alike.refl U.vm) qK, EVC.blind g mk a qE⟩, fun U hU hW => ⟨rfl, hU, va_K.moved hW.alike hK, hE.call hS hFc hU hW⟩⟩ rfl rfl hl.1 rfl (lv_room (Nat.le_of_ble_eq_true rfl)) dX5_tryOrders_87 ⟨(Nat.le_of_ble_eq_true rfl), (Nat.le_of_ble_eq_true rfl)⟩) hS (fun q _ h => hFc q h) hFc (fun r208 u t H locs ht hvm hw209 hB _ _ hS => ?_)
              obtain ⟨hT, hF1⟩ := hB
              rw [ht] at hT hF1
              have m210 := m7.kept (hF1.arr hr_xcs skc_63 (by decide))
              have m211 := m8.kept (hF1.arr hr_xls skc_64 (by decide))
              have m212 := m9.kept (hF1.arr hr_xin skc_65 (by decide))
              have m213 := m10.kept (hF1.arr hr_xac skc_66 (by decide))
              have m214 := m11.kept (hF1.arr hr_xpd skc_67 (by decide))
              have m215 := m13.kept (hF1.arr hr_xtr skc_68 (by decide))
              have m216 := m15.kept (hF1.arr hr_xbe skc_69 (by decide))
              have m217 := (hF1.fld hr_o0 skc_8 (k := 15) (by decide) (by decide)).trans m16
              have m218 := (hF1.fld hr_o0 skc_8 (k := 16) (by decide) (by decide)).trans m18
              have m219 := (hF1.fld hr_o0 skc_8 (k := 5) (by decide) (by decide)).trans m19
              have m220 := (hF1.fld hr_o0 skc_8 (k := 6) (by decide) (by decide)).trans m20
              have m221 := (hF1.fld hr_o0 skc_8 (k := 7) (by decide) (by decide)).trans m21
              have m222 := (hF1.fld hr_o0 skc_8 (k := 8) (by decide) (by decide)).trans m22
              have m223 := (hF1.fld hr_o0 skc_8 (k := 9) (by decide) (by decide)).trans m23
              have m224 := (hF1.fld hr_o0 skc_8 (k := 10) (by decide) (by decide)).trans m24
              have m225 := (hF1.fld hr_o0 skc_8 (k := 11) (by decide) (by decide)).trans m25
              have m226 := (el_kept (hF1.arr hr_xpd skc_67 (by decide))).trans m200
              have m227 := (el_kept (hF1.arr hr_xcs skc_63 (by decide))).trans m204
              have hF := hF.more hF1 (by decide)
              try dsimp only at hw209
              obtain ⟨h228, hf229⟩ := hw209
              have yw9 : yw yr.toInt co.toInt ic.toInt (aC i6).toInt r208.toInt := by rw [show (aC i6).toInt = x205.toInt from by omega]; exact hf229
              refine lv_aload_n hx hb dX5_tryOrders_90 rfl (lv_at hl 1 rfl) ?_
              refine tw_getM (v := .ref xls) hx hb hts bF2_X5 hown hK hT hr_o0 shc_8 rfl 6 (by decide) (ht_at2 hts 8 rfl) (fun _ h9 => h9) m220 dX5_tryOrders_91 ?_
              refine lv_iload hx hb dX5_tryOrders_94 (lv_at hl 0 rfl) ?_
              refine tw_iald (i := (nI i6)) hx hb hK hT hr_xls shc_64 rfl (vp_in_nI (by omega) (by decide)) dX5_tryOrders_96 (fun v9 m230 h9 => ?_)
              obtain ⟨x231, rfl, gx231, kx231⟩ := h9
              have cx231 := m211.at m230 (by have q9 := tn_of (show (nI i6).toInt = ((i6 : Nat) : Int) from (nI_toInt (by omega))) (by omega); omega)
              have t232 : x231.toInt = (aY i6).toInt := congrArg Int32.toInt (cx231.trans (by rw [tn_nI (by omega)]))
              have t233 : 1 ≤ (aY i6).toInt ∧ (aY i6).toInt ≤ 20 := (hrg i6 (by omega)).2.1
              refine lv_iadd hx hb dX5_tryOrders_97 ?_
              refine lv_topi (fun x234 ex234 => ?_)
              have t235 : x234.toInt = r208.toInt + x231.toInt := ti_add ex234 rfl rfl (by omega) (by omega)
              refine lv_istore (lv' := [(8, .int x234), (7, .int (nI i6)), (0, .ref o0), (1, .int 3), (2, .int yr), (3, .long co), (5, .int ic), (6, .int lt)]) hx hb dX5_tryOrders_98 hl (by decide) rfl (fun ls hl => ?_)
              refine lv_iload hx hb dX5_tryOrders_100 (lv_at hl 0 rfl) ?_
              refine lv_iconst (v := (-1)) hx hb dX5_tryOrders_102 (by decide) ?_
              refine lv_icmp_eq (tgt := 194) hx hb dX5_tryOrders_103 (by decide) (fun c236 => (by exfalso; have q9 : x234.toInt = (-1) := ti_eq c236 rfl (by decide); omega)) (fun c236 => ?_)
              have t237 : x234.toInt ≠ (-1) := ti_ne c236 rfl (by decide)
              refine lv_iload hx hb dX5_tryOrders_106 (lv_at hl 0 rfl) ?_
              refine lv_sipush (v := 200) hx hb dX5_tryOrders_108 (by decide) ?_
              refine lv_icmp_gt (tgt := 194) hx hb dX5_tryOrders_111 (by decide) (fun c238 => ?_) (fun c238 => ?_)
              · have t239 : 200 < x234.toInt := ti_lt c238 (by decide) rfl
                refine lv_iinc (v := nI (i6 + 1)) (lv' := [(7, .int (nI (i6 + 1))), (8, .int x234), (0, .ref o0), (1, .int 3), (2, .int yr), (3, .long co), (5, .int ic), (6, .int lt)]) hx hb dX5_tryOrders_194 hl (k := 1) rfl (nI_add i6 1) (by decide) rfl (fun ls hl => ?_)
                refine lv_goto (tgt := 53) hx hb dX5_tryOrders_197 (by decide) ?_
                have bk9 : z17.toInt = (slO N 3 aC aY aB aA (pb vP) yr.toInt co.toInt ic.toInt lt.toInt R a0 (i6 + 1)).1 ∧ (0 ≤ (slO N 3 aC aY aB aA (pb vP) yr.toInt co.toInt ic.toInt lt.toInt R a0 (i6 + 1)).1 → ∀ k : Nat, k < N → (V14 k).toInt = (slO N 3 aC aY aB aA (pb vP) yr.toInt co.toInt ic.toInt lt.toInt R a0 (i6 + 1)).2 k) ∧ ∀ k : Nat, k < 3 → (V12 k).toInt = R k := by rw [sl_n (yw_none yw9 (by omega) (by omega))]; exact ⟨hj26, hj27, hj28⟩
                exact ih193 (i6 + 1) (by omega) (by omega) V12 V14 z17 ⟨bk9.1, bk9.2.1, bk9.2.2, (by omega)⟩ _ _ hT hF hS m210 m211 m212 m213 (m214.ext (fun _ _ => rfl)) m215 m216 m217 m218 m219 m220 m221 m222 m223 m224 m225 ls (lv_sub hl [0, 2, 3, 4, 5, 6, 7] rfl)
              · have t240 : x234.toInt ≤ 200 := ti_nlt c238 (by decide) rfl
                refine lv_lload_n hx hb dX5_tryOrders_114 rfl (lv_at hl 5 rfl) ?_
                refine lv_iload hx hb dX5_tryOrders_115 (lv_at hl 6 rfl) ?_
                refine lv_i2l (v := ic.toInt64) hx hb dX5_tryOrders_117 rfl ?_
                refine lv_iload hx hb dX5_tryOrders_118 (lv_at hl 0 rfl) ?_
                refine lv_iload_n hx hb dX5_tryOrders_120 rfl (lv_at hl 4 rfl) ?_
                refine lv_isub hx hb dX5_tryOrders_121 ?_
                refine lv_topi (fun x241 ex241 => ?_)
                have t242 : x241.toInt = x234.toInt - yr.toInt := ti_sub ex241 rfl rfl (by omega) (by omega)
                refine lv_i2l (v := x241.toInt64) hx hb dX5_tryOrders_122 rfl ?_
                refine lv_lmul hx hb dX5_tryOrders_123 ?_
                refine lv_topl (fun y243 ey243 => ?_)
                have t244 : y243.toInt = ic.toInt * x241.toInt ∧ -(300000 * 200) ≤ y243.toInt ∧ y243.toInt ≤ 300000 * 200 := tl_m ey243 ((Int32.toInt_toInt64 _).trans rfl) ((Int32.toInt_toInt64 _).trans rfl) (A := 300000) (B := 200) (by omega) (by omega) (by omega) (by omega) (by decide)
                have t245 : y243.toInt = ic.toInt * (x234.toInt - yr.toInt) := (by rw [show x234.toInt - yr.toInt = x241.toInt from by omega]; omega)
                refine lv_ladd hx hb dX5_tryOrders_124 ?_
                refine lv_topl (fun y246 ey246 => ?_)
                have t247 : y246.toInt = co.toInt + y243.toInt := tl_a ey246 rfl rfl (by omega) (by omega)
                refine lv_aload_n hx hb dX5_tryOrders_125 rfl (lv_at hl 2 rfl) ?_
                refine tw_getM (v := .ref xcs) hx hb hts bF2_X5 hown hK hT hr_o0 shc_8 rfl 5 (by decide) (ht_at2 hts 3 rfl) (fun _ h9 => h9) m219 dX5_tryOrders_126 ?_
                refine lv_iload hx hb dX5_tryOrders_129 (lv_at hl 1 rfl) ?_
                refine tw_iald (i := (nI i6)) hx hb hK hT hr_xcs shc_63 rfl (vp_in_nI (by omega) (by decide)) dX5_tryOrders_131 (fun v9 m248 h9 => ?_)
                obtain ⟨x249, rfl, gx249, kx249⟩ := h9
                have cx249 := m210.at m248 (by have q9 := tn_of (show (nI i6).toInt = ((i6 : Nat) : Int) from (nI_toInt (by omega))) (by omega); omega)
                obtain rfl : x205 = x249 := (el_same m248 m227 rfl).symm
                refine lv_i2l (v := x205.toInt64) hx hb dX5_tryOrders_132 rfl ?_
                refine lv_lsub hx hb dX5_tryOrders_133 ?_
                refine lv_topl (fun y250 ey250 => ?_)
                have t251 : y250.toInt = y246.toInt - x205.toInt := tl_s ey250 rfl ((Int32.toInt_toInt64 _).trans rfl) (by omega) (by omega)
                have dn9 := (yw_some (last := (aY i6).toInt) (d := x234.toInt) yw9 (by omega) (by omega) (by omega))
                have dc9 := dn_cash dn9 (by omega) (by omega)
                refine lv_lstore (lv' := [(9, .long y250), (8, .int x234), (7, .int (nI i6)), (0, .ref o0), (1, .int 3), (2, .int yr), (3, .long co), (5, .int ic), (6, .int lt)]) hx hb dX5_tryOrders_134 hl (by decide) rfl (fun ls hl => ?_)
                refine lv_aload_n hx hb dX5_tryOrders_136 rfl (lv_at hl 3 rfl) ?_
                refine tw_getM (v := .ref xpd) hx hb hts bF2_X5 hown hK hT hr_o0 shc_8 rfl 9 (by decide) (ht_at2 hts 2 rfl) (fun _ h9 => h9) m223 dX5_tryOrders_137 ?_
                refine lv_iload hx hb dX5_tryOrders_140 (lv_at hl 2 rfl) ?_
                refine lv_iconst (v := 1) hx hb dX5_tryOrders_142 (by decide) ?_
                refine tw_zast (i := (nI i6)) (x := 1) hx hb hK hT hG hS hr_xpd shc_67 rfl (vp_in_nI (by omega) (by decide)) (gi_z (rg_t (a := 1) (by decide) (by omega) (by omega)) (by decide) (by decide)) dX5_tryOrders_143 (fun H locs hT oq m252 oi hS => ?_)
                have hF := hF.ast hr_xpd skc_67 oq (by decide)
                have m253 := m210.kept (oq _ (gne hr_xcs hr_xpd (by decide)))
                have m254 := m211.kept (oq _ (gne hr_xls hr_xpd (by decide)))
                have m255 := m212.kept (oq _ (gne hr_xin hr_xpd (by decide)))
                have m256 := m213.kept (oq _ (gne hr_xac hr_xpd (by decide)))
                have m257 := m214.put (show el H xpd _ = some (.int 1) from m252) oi
                have m258 := m215.kept (oq _ (gne hr_xtr hr_xpd (by decide)))
                have m259 := m216.kept (oq _ (gne hr_xbe hr_xpd (by decide)))
                have m260 := (el_kept (oq _ (gne hr_o0 hr_xpd (by decide)))).trans m217
                have m261 := (el_kept (oq _ (gne hr_o0 hr_xpd (by decide)))).trans m218
                have m262 := (el_kept (oq _ (gne hr_o0 hr_xpd (by decide)))).trans m219
                have m263 := (el_kept (oq _ (gne hr_o0 hr_xpd (by decide)))).trans m220
                have m264 := (el_kept (oq _ (gne hr_o0 hr_xpd (by decide)))).trans m221
                have m265 := (el_kept (oq _ (gne hr_o0 hr_xpd (by decide)))).trans m222
                have m266 := (el_kept (oq _ (gne hr_o0 hr_xpd (by decide)))).trans m223
                have m267 := (el_kept (oq _ (gne hr_o0 hr_xpd (by decide)))).trans m224
                have m268 := (el_kept (oq _ (gne hr_o0 hr_xpd (by decide)))).trans m225
                have m269 := (el_kept (oq _ (gne hr_xcs hr_xpd (by decide)))).trans m227
                have m270 := (el_kept (oq _ (gne hr_xls hr_xpd (by decide)))).trans m230
                refine lv_aload_n hx hb dX5_tryOrders_144 rfl (lv_at hl 3 rfl) ?_
                refine tw_getM (v := .ref xtr) hx hb hts bF2_X5 hown hK hT hr_o0 shc_8 rfl 10 (by decide) (ht_at2 hts 9 rfl) (fun _ h9 => h9) m267 dX5_tryOrders_145 ?_
                refine lv_iload_n hx hb dX5_tryOrders_148 rfl (lv_at hl 4 rfl) ?_
                refine lv_iload hx hb dX5_tryOrders_149 (lv_at hl 2 rfl) ?_
                refine tw_iast (i := 3) (x := (nI i6)) hx hb hK hT hG hS hr_xtr shc_68 rfl (by unfold vp_in; decide) (gi_of (show (nI i6).toInt = ((i6 : Nat) : Int) from (nI_toInt (by omega))) (by omega) (by omega)) dX5_tryOrders_151 (fun H locs hT oq m271 oi hS => ?_)
                have hF := hF.ast hr_xtr skc_68 oq (by decide)
                have m272 := m253.kept (oq _ (gne hr_xcs hr_xtr (by decide)))
                have m273 := m254.kept (oq _ (gne hr_xls hr_xtr (by decide)))
                have m274 := m255.kept (oq _ (gne hr_xin hr_xtr (by decide)))
                have m275 := m256.kept (oq _ (gne hr_xac hr_xtr (by decide)))
                have m276 := m257.kept (oq _ (gne hr_xpd hr_xtr (by decide)))
                have m277 := m258.put m271 oi
                have m278 := m259.kept (oq _ (gne hr_xbe hr_xtr (by decide)))
                have m279 := (el_kept (oq _ (gne hr_o0 hr_xtr (by decide)))).trans m260
                have m280 := (el_kept (oq _ (gne hr_o0 hr_xtr (by decide)))).trans m261
                have m281 := (el_kept (oq _ (gne hr_o0 hr_xtr (by decide)))).trans m262
                have m282 := (el_kept (oq _ (gne hr_o0 hr_xtr (by decide)))).trans m263
                have m283 := (el_kept (oq _ (gne hr_o0 hr_xtr (by decide)))).trans m264
                have m284 := (el_kept (oq _ (gne hr_o0 hr_xtr (by decide)))).trans m265
                have m285 := (el_kept (oq _ (gne hr_o0 hr_xtr (by decide)))).trans m266
                have m286 := (el_kept (oq _ (gne hr_o0 hr_xtr (by decide)))).trans m267
                have m287 := (el_kept (oq _ (gne hr_o0 hr_xtr (by decide)))).trans m268
                have m288 := (el_kept (oq _ (gne hr_xcs hr_xtr (by decide)))).trans m269
                have m289 := (el_kept (oq _ (gne hr_xls hr_xtr (by decide)))).trans m270
                refine lv_aload_n hx hb dX5_tryOrders_152 rfl (lv_at hl 3 rfl) ?_
                refine lv_iload_n hx hb dX5_tryOrders_153 rfl (lv_at hl 4 rfl) ?_
                refine lv_iconst (v := 1) hx hb dX5_tryOrders_154 (by decide) ?_
                refine lv_iadd hx hb dX5_tryOrders_155 ?_
                refine lv_topi (fun x290 ex290 => ?_)
                obtain rfl : x290 = 4 := ex290.trans (by decide)
                refine lv_iload hx hb dX5_tryOrders_156 (lv_at hl 1 rfl) ?_
                refine lv_lload hx hb dX5_tryOrders_158 (lv_at hl 0 rfl) ?_
                refine lv_iload hx hb dX5_tryOrders_160 (lv_at hl 7 rfl) ?_
                refine lv_aload_n hx hb dX5_tryOrders_162 rfl (lv_at hl 3 rfl) ?_
                refine tw_getM (v := .ref xin) hx hb hts bF2_X5 hown hK hT hr_o0 shc_8 rfl 7 (by decide) (ht_at2 hts 10 rfl) (fun _ h9 => h9) m283 dX5_tryOrders_163 ?_
                refine lv_iload hx hb dX5_tryOrders_166 (lv_at hl 2 rfl) ?_
                refine tw_iald (i := (nI i6)) hx hb hK hT hr_xin shc_65 rfl (vp_in_nI (by omega) (by decide)) dX5_tryOrders_168 (fun v9 m291 h9 => ?_)
                obtain ⟨x292, rfl, gx292, kx292⟩ := h9
                have cx292 := m274.at m291 (by have q9 := tn_of (show (nI i6).toInt = ((i6 : Nat) : Int) from (nI_toInt (by omega))) (by omega); omega)
                have t293 : x292.toInt = (aB i6).toInt := congrArg Int32.toInt (cx292.trans (by rw [tn_nI (by omega)]))
                have t294 : 0 ≤ (aB i6).toInt ∧ (aB i6).toInt ≤ 100000 := (hrg i6 (by omega)).2.2.1
                refine lv_iadd hx hb dX5_tryOrders_169 ?_
                refine lv_topi (fun x295 ex295 => ?_)
                have t296 : x295.toInt = ic.toInt + x292.toInt := ti_add ex295 rfl rfl (by omega) (by omega)
                refine lv_iload hx hb dX5_tryOrders_170 (lv_at hl 8 rfl) ?_
                refine lv_aload_n hx hb dX5_tryOrders_172 rfl (lv_at hl 3 rfl) ?_
                refine tw_getM (v := .ref xac) hx hb hts bF2_X5 hown hK hT hr_o0 shc_8 rfl 8 (by decide) (ht_at2 hts 11 rfl) (fun _ h9 => h9) m284 dX5_tryOrders_173 ?_
                refine lv_iload hx hb dX5_tryOrders_176 (lv_at hl 2 rfl) ?_
                refine tw_iald (i := (nI i6)) hx hb hK hT hr_xac shc_66 rfl (vp_in_nI (by omega) (by decide)) dX5_tryOrders_178 (fun v9 m297 h9 => ?_)
                obtain ⟨x298, rfl, gx298, kx298⟩ := h9
                have cx298 := m275.at m297 (by have q9 := tn_of (show (nI i6).toInt = ((i6 : Nat) : Int) from (nI_toInt (by omega))) (by omega); omega)
                have t299 : x298.toInt = (aA i6).toInt := congrArg Int32.toInt (cx298.trans (by rw [tn_nI (by omega)]))
                have t300 : 0 ≤ (aA i6).toInt ∧ (aA i6).toInt ≤ 1000 := (hrg i6 (by omega)).2.2.2
                refine lv_iload hx hb dX5_tryOrders_179 (lv_at hl 1 rfl) ?_
                refine lv_imul hx hb dX5_tryOrders_181 ?_
                refine lv_topi (fun x301 ex301 => ?_)
                have t302 : x301.toInt = x298.toInt * x234.toInt := ti_mulx ex301 rfl rfl (A := 1000) (B := 200) (by omega) (by omega) (by omega) (by omega) (by decide)
                have t303 : 0 ≤ x301.toInt ∧ x301.toInt ≤ 1000 * 200 ∧ (x298.toInt = 0 → x301.toInt = 0) ∧ (x234.toInt = 0 → x301.toInt = 0) ∧ x301.toInt ≤ x298.toInt * 200 ∧ x301.toInt ≤ 1000 * x234.toInt := ti_mulnn ex301 rfl rfl (by omega) (by omega) (by omega) (by omega) (by decide)
                refine lv_iadd hx hb dX5_tryOrders_182 ?_
                refine lv_topi (fun x304 ex304 => ?_)
                have t305 : x304.toInt = lt.toInt + x301.toInt := ti_add ex304 rfl rfl (by omega) (by omega)
                have hFc := gA_free hG hA hS
                refine va_callv (va_runV (As := [.int 4, .int x234, .long y250, .int x295, .int x304]) (rest := []) ⟨hx, hb, hml, hown, hts⟩ (c_tryOrdersC4 l dC dI kA adK adV G H nC nS o0 x234 y250 x295 x304 jb z17 xcs xls xin xac xpd xtr xbe aC aY aB aA (cu vP (nI i6).toNatClampNeg (1 : Int32)) (cu V12 (3 : Int32).toNatClampNeg (nI i6)) V14 N (fun k => if k = 3 then ((i6 : Nat) : Int) else R k) (slO N 3 aC aY aB aA (pb vP) yr.toInt co.toInt ic.toInt lt.toInt R a0 i6) hT hr_o0 m279 m280 m281 hr_xcs m282 hr_xls m283 hr_xin m284 hr_xac m285 hr_xpd m286 hr_xtr m287 hr_xbe (by have q8 := ti_all x234; omega) (by have q8 := ti_all x295; omega) (by have q8 := ti_all x304; omega) (by have q8 := ti_all jb; omega) (by omega) hN hrg (sl_ok (by omega) (fun j hj => by have := (hrg j (by omega)).2.1.1; omega) (fun j hj => (hrg j (by omega)).2.2.2.1) (by omega) (by omega) hba) hj26 hj27 (rr_s (K := 3) rfl (by decide) (nI_toInt (by omega)) hj28) m272 m273 m274 m275 m276 m277 m278 (by omega) (by omega)) (cwV 5 hts (goodIn_app (goodIn_r _ [19, 20, 21, 8] rfl (by decide +kernel)) (goodIn_ca (goodIn_r _ [13, 1, 2, 3, 4, 5, 6, 7, 8, 9, 10, 11, 12, 13, 14, 15, 16, 17, 18, 19, 20, 21] rfl (by decide +kernel)) (bs2_in _ _))) rfl rfl rfl (by decide +kernel) ⟨(Nat.le_of_ble_eq_true rfl), (Nat.le_of_ble_eq_true rfl)⟩) ⟨fun a U g mk q => by obtain ⟨q0, q1, qK, qE⟩ := q; exact ⟨q0, q1, va_K.moved (u := U) (U := U.calling g mk a) (Vm.Alike.refl U.vm) qK, EVC.blind g mk a qE⟩, gH_recv hK hT hr_o0 shc_8 rfl, fun U hU hW => ⟨rfl, hU, va_K.moved hW.alike hK, hE.call hS hFc hU hW⟩⟩ rfl rfl hl.1 rfl (lv_room (Nat.le_of_ble_eq_true rfl)) dX5_tryOrders_183 ⟨(Nat.le_of_ble_eq_true rfl), (Nat.le_of_ble_eq_true rfl)⟩) hS (fun q _ h => hFc q h) hFc (fun u t H locs ht hvm hw307 hB _ _ hS => ?_)
                obtain ⟨u308, u309, u310⟩ := u
                obtain ⟨hT, hF1, m311, m312, m313, m314⟩ := hB
                rw [ht] at hT hF1 m311 m312 m313 m314
                have m315 := m272.kept (hF1.arr hr_xcs skc_63 (by decide))
                have m316 := m273.kept (hF1.arr hr_xls skc_64 (by decide))
                have m317 := m274.kept (hF1.arr hr_xin skc_65 (by decide))
                have m318 := m275.kept (hF1.arr hr_xac skc_66 (by decide))
                have m322 := (hF1.fld hr_o0 skc_8 (k := 15) (by decide) (by decide)).trans m279
                have m324 := (hF1.fld hr_o0 skc_8 (k := 5) (by decide) (by decide)).trans m281
                have m325 := (hF1.fld hr_o0 skc_8 (k := 6) (by decide) (by decide)).trans m282
                have m326 := (hF1.fld hr_o0 skc_8 (k := 7) (by decide) (by decide)).trans m283
                have m327 := (hF1.fld hr_o0 skc_8 (k := 8) (by decide) (by decide)).trans m284
                have m328 := (hF1.fld hr_o0 skc_8 (k := 9) (by decide) (by decide)).trans m285
                have m329 := (hF1.fld hr_o0 skc_8 (k := 10) (by decide) (by decide)).trans m286
                have m330 := (hF1.fld hr_o0 skc_8 (k := 11) (by decide) (by decide)).trans m287
                have m331 := (el_kept (hF1.arr hr_xcs skc_63 (by decide))).trans m288
                have m332 := (el_kept (hF1.arr hr_xls skc_64 (by decide))).trans m289
                have m334 := (el_kept (hF1.arr hr_xin skc_65 (by decide))).trans m291
                have m335 := (el_kept (hF1.arr hr_xac skc_66 (by decide))).trans m297
                have hF := hF.more hF1 (by decide)
                try dsimp only at hw307
                have hf336 := hw307
                refine lv_aload_n hx hb dX5_tryOrders_186 rfl (lv_at hl 3 rfl) ?_
                refine tw_getM (v := .ref xpd) hx hb hts bF2_X5 hown hK hT hr_o0 shc_8 rfl 9 (by decide) (ht_at2 hts 2 rfl) (fun _ h9 => h9) m328 dX5_tryOrders_187 ?_
                refine lv_iload hx hb dX5_tryOrders_190 (lv_at hl 2 rfl) ?_
                refine lv_iconst (v := 0) hx hb dX5_tryOrders_192 (by decide) ?_
                refine tw_zast (i := (nI i6)) (x := 0) hx hb hK hT hG hS hr_xpd shc_67 rfl (vp_in_nI (by omega) (by decide)) (gi_z (rg_t (a := 0) (by decide) (by omega) (by omega)) (by decide) (by decide)) dX5_tryOrders_193 (fun H locs hT oq m337 oi hS => ?_)
                have hF := hF.ast hr_xpd skc_67 oq (by decide)
                have m338 := m315.kept (oq _ (gne hr_xcs hr_xpd (by decide)))
                have m339 := m316.kept (oq _ (gne hr_xls hr_xpd (by decide)))
                have m340 := m317.kept (oq _ (gne hr_xin hr_xpd (by decide)))
                have m341 := m318.kept (oq _ (gne hr_xac hr_xpd (by decide)))
                have m342 := (el_kept (oq _ (gne hr_o0 hr_xpd (by decide)))).trans m322
                have m343 := (el_kept (oq _ (gne hr_o0 hr_xpd (by decide)))).trans m324
                have m344 := (el_kept (oq _ (gne hr_o0 hr_xpd (by decide)))).trans m325
                have m345 := (el_kept (oq _ (gne hr_o0 hr_xpd (by decide)))).trans m326
                have m346 := (el_kept (oq _ (gne hr_o0 hr_xpd (by decide)))).trans m327
                have m347 := (el_kept (oq _ (gne hr_o0 hr_xpd (by decide)))).trans m328
                have m348 := (el_kept (oq _ (gne hr_o0 hr_xpd (by decide)))).trans m329
                have m349 := (el_kept (oq _ (gne hr_o0 hr_xpd (by decide)))).trans m330
                have m350 := (el_kept (oq _ (gne hr_xcs hr_xpd (by decide)))).trans m331
                have m351 := (el_kept (oq _ (gne hr_xls hr_xpd (by decide)))).trans m332
                have m352 := (el_kept (oq _ (gne hr_xin hr_xpd (by decide)))).trans m334
                have m353 := (el_kept (oq _ (gne hr_xac hr_xpd (by decide)))).trans m335
                have m354 := (el_kept (oq _ (gne hr_o0 hr_xpd (by decide)))).trans m311
                have m355 := m312.put (show el H xpd _ = some (.int 0) from m337) oi
                have m356 := m313.kept (oq _ (gne hr_xtr hr_xpd (by decide)))
                have m357 := m314.kept (oq _ (gne hr_xbe hr_xpd (by decide)))
                refine lv_iinc (v := nI (i6 + 1)) (lv' := [(7, .int (nI (i6 + 1))), (9, .long y250), (8, .int x234), (0, .ref o0), (1, .int 3), (2, .int yr), (3, .long co), (5, .int ic), (6, .int lt)]) hx hb dX5_tryOrders_194 hl (k := 2) rfl (nI_add i6 1) (by decide) rfl (fun ls hl => ?_)
                refine lv_goto (tgt := 53) hx hb dX5_tryOrders_197 (by decide) ?_
                have bk9 : u308.toInt = (slO N 3 aC aY aB aA (pb vP) yr.toInt co.toInt ic.toInt lt.toInt R a0 (i6 + 1)).1 ∧ (0 ≤ (slO N 3 aC aY aB aA (pb vP) yr.toInt co.toInt ic.toInt lt.toInt R a0 (i6 + 1)).1 → ∀ k : Nat, k < N → (u310 k).toInt = (slO N 3 aC aY aB aA (pb vP) yr.toInt co.toInt ic.toInt lt.toInt R a0 (i6 + 1)).2 k) ∧ ∀ k : Nat, k < 3 → (u309 k).toInt = R k := by have q9 := hf336; rw [sl_call (N := N) (K := 3) (K1 := 4) (aC := aC) (aY := aY) (aB := aB) (aA := aA) (U := pb vP) (yr := yr.toInt) (ca := co.toInt) (ic := ic.toInt) (su := lt.toInt) (R := R) (a := a0) (i := i6) (d := x234.toInt) (c1 := y250.toInt) (i1 := x295.toInt) (s1 := x304.toInt) (U1 := pb (cu vP (nI i6).toNatClampNeg (1 : Int32))) rfl (pb_0 (tn_nI (by omega)) cx201 (by omega)) dn9 (pb_cu (tn_nI (by omega))) (by omega) (by omega) (by rw [show (aA i6).toInt = x298.toInt from by omega]; omega)] at q9; exact ⟨q9.1, q9.2.1, fun k hk => (q9.2.2 k (by omega)).trans (if_neg (by omega))⟩
                exact ih193 (i6 + 1) (by omega) (by omega) u309 u310 u308 ⟨bk9.1, bk9.2.1, bk9.2.2, (by omega)⟩ _ _ hT hF hS m338 m339 m340 m341 (m355.ext (fun _ _ => pb_r cx201 (by omega))) m356 m357 m342 m354 m343 m344 m345 m346 m347 m348 m349 ls (lv_sub hl [0, 3, 4, 5, 6, 7, 8] rfl)
            · have t358 : x201.toInt ≠ 0 := ti_ne c202 rfl (by decide)
              refine lv_iconst (v := (-1)) hx hb dX5_tryOrders_72 (by decide) ?_
              refine lv_goto (tgt := 98) hx hb dX5_tryOrders_73 (by decide) ?_
              refine lv_istore (lv' := [(8, .int (-1)), (7, .int (nI i6)), (0, .ref o0), (1, .int 3), (2, .int yr), (3, .long co), (5, .int ic), (6, .int lt)]) hx hb dX5_tryOrders_98 hl (by decide) rfl (fun ls hl => ?_)
              refine lv_iload hx hb dX5_tryOrders_100 (lv_at hl 0 rfl) ?_
              refine lv_iconst (v := (-1)) hx hb dX5_tryOrders_102 (by decide) ?_
              refine lv_icmp_eq (tgt := 194) hx hb dX5_tryOrders_103 (by decide) (fun c359 => ?_) (fun c359 => absurd c359 (by decide))
              refine lv_iinc (v := nI (i6 + 1)) (lv' := [(7, .int (nI (i6 + 1))), (8, .int (-1)), (0, .ref o0), (1, .int 3), (2, .int yr), (3, .long co), (5, .int ic), (6, .int lt)]) hx hb dX5_tryOrders_194 hl (k := 1) rfl (nI_add i6 1) (by decide) rfl (fun ls hl => ?_)
              refine lv_goto (tgt := 53) hx hb dX5_tryOrders_197 (by decide) ?_
              have bk9 : z17.toInt = (slO N 3 aC aY aB aA (pb vP) yr.toInt co.toInt ic.toInt lt.toInt R a0 (i6 + 1)).1 ∧ (0 ≤ (slO N 3 aC aY aB aA (pb vP) yr.toInt co.toInt ic.toInt lt.toInt R a0 (i6 + 1)).1 → ∀ k : Nat, k < N → (V14 k).toInt = (slO N 3 aC aY aB aA (pb vP) yr.toInt co.toInt ic.toInt lt.toInt R a0 (i6 + 1)).2 k) ∧ ∀ k : Nat, k < 3 → (V12 k).toInt = R k := by rw [sl_u (pb_1 (tn_nI (by omega)) cx201 (by omega))]; exact ⟨hj26, hj27, hj28⟩
              exact ih193 (i6 + 1) (by omega) (by omega) V12 V14 z17 ⟨bk9.1, bk9.2.1, bk9.2.2, (by omega)⟩ _ _ hT hF hS m7 m8 m9 m10 (m11.ext (fun _ _ => rfl)) m13 m15 m16 m18 m19 m20 m21 m22 m23 m24 m25 ls (lv_sub hl [0, 2, 3, 4, 5, 6, 7] rfl)
      exact key193 (7 - 0) 0 (by omega) (Nat.le_refl _) vR vZ la ⟨hla, hZ0, hR, (by omega)⟩ _ _ hT hF hS hc_aC hc_aY hc_aB hc_aA (hc_vP.ext (fun _ _ => rfl)) hc_vR hc_vZ hm_jb hm_la hm_xcs hm_xls hm_xin hm_xac hm_xpd hm_xtr hm_xbe ls (lv_sub hl [0, 1, 2, 3, 4, 5, 6] rfl)
    · have t360 : jb.toInt ≤ 3 := ti_nlt c4 (by decide) rfl
      refine lv_aload_n hx hb dX5_tryOrders_26 rfl (lv_at hl 0 rfl) ?_
      refine lv_iload hx hb dX5_tryOrders_27 (lv_at hl 5 rfl) ?_
      refine tw_put (v := .int lt) (ty := .int) hx hb hts bF2_X5 tyX5 tyX5_ok nmX5 hown hK hT hG hS hr_o0 shc_8 rfl 16 (by decide) (ht_at2 hts 0 rfl) (fun _ h9 => h9) rfl (by decide +kernel) rfl rfl (gl_at rfl (gi_all _)) dX5_tryOrders_29 (fun H locs hT oq m361 oj hS => ?_)
      have hF := hF.put hr_o0 skc_8 oq oj (by decide)
      have m362 := (oj 15 (by decide) (by decide)).trans hm_jb
      have m363 := (oj 5 (by decide) (by decide)).trans hm_xcs
      have m364 := (oj 6 (by decide) (by decide)).trans hm_xls
      have m365 := (oj 7 (by decide) (by decide)).trans hm_xin
      have m366 := (oj 8 (by decide) (by decide)).trans hm_xac
      have m367 := (oj 9 (by decide) (by decide)).trans hm_xpd
      have m368 := (oj 10 (by decide) (by decide)).trans hm_xtr
      have m369 := (oj 11 (by decide) (by decide)).trans hm_xbe
      have m370 := hc_aC.kept (oq _ (gne hr_xcs hr_o0 (by decide)))
      have m371 := hc_aY.kept (oq _ (gne hr_xls hr_o0 (by decide)))
      have m372 := hc_aB.kept (oq _ (gne hr_xin hr_o0 (by decide)))
      have m373 := hc_aA.kept (oq _ (gne hr_xac hr_o0 (by decide)))
      have m374 := hc_vP.kept (oq _ (gne hr_xpd hr_o0 (by decide)))
      have m375 := hc_vR.kept (oq _ (gne hr_xtr hr_o0 (by decide)))
      have m376 := hc_vZ.kept (oq _ (gne hr_xbe hr_o0 (by decide)))
      refine lv_aload_n hx hb dX5_tryOrders_32 rfl (lv_at hl 0 rfl) ?_
      refine tw_getM (v := .ref xtr) hx hb hts bF2_X5 hown hK hT hr_o0 shc_8 rfl 10 (by decide) (ht_at2 hts 9 rfl) (fun _ h9 => h9) m368 dX5_tryOrders_33 ?_
      refine lv_iconst (v := 0) hx hb dX5_tryOrders_36 (by decide) ?_
      refine lv_aload_n hx hb dX5_tryOrders_37 rfl (lv_at hl 0 rfl) ?_
      refine tw_getM (v := .ref xbe) hx hb hts bF2_X5 hown hK hT hr_o0 shc_8 rfl 11 (by decide) (ht_at2 hts 13 rfl) (fun _ h9 => h9) m369 dX5_tryOrders_38 ?_
      refine lv_iconst (v := 0) hx hb dX5_tryOrders_41 (by decide) ?_
      refine lv_aload_n hx hb dX5_tryOrders_42 rfl (lv_at hl 0 rfl) ?_
      refine tw_getM (v := .int jb) hx hb hts bF2_X5 hown hK hT hr_o0 shc_8 rfl 15 (by decide) (ht_at2 hts 1 rfl) (fun _ h9 => h9) m362 dX5_tryOrders_43 ?_
      refine tw_copyE (ty := .int) hx hb (hml.trans hl.1.symm) hown (ht_at2 hts 14 rfl) (ht_at2 hts 15 rfl) (ht_at2 hts 16 rfl) (ht_at2 hts 17 rfl) hK hT hG hS hr_xtr hr_xbe shc_68 shc_69 rfl rfl (by decide) (by decide) (fun h9 => by have q9 := ti_lt h9 rfl (show (0 : Int32).toInt = 0 from by decide); omega) (by have q9 := tn_of (show jb.toInt = jb.toInt from rfl) (by omega); have q8 : (0 : Int32).toNatClampNeg = 0 := (by decide); omega) (by have q9 := tn_of (show jb.toInt = jb.toInt from rfl) (by omega); have q8 : (0 : Int32).toNatClampNeg = 0 := (by decide); omega) (by decide) (by decide) (fun _ _ h9 => by obtain ⟨x9, e9, _⟩ := h9; exact ⟨x9, e9, rfl⟩) (fun _ _ _ h9 => by obtain ⟨x9, e9, a9, b9⟩ := h9; exact ⟨x9, e9, by omega, by omega⟩) (Nat.le_of_ble_eq_true rfl) (Nat.le_of_ble_eq_true rfl) dX5_tryOrders_46 (fun H locs hT oq ce377 hS => ?_)
      have hF := hF.ast hr_xbe skc_69 oq (by decide)
      have m378 := (el_kept (oq _ (gne hr_o0 hr_xbe (by decide)))).trans m362
      have m379 := (el_kept (oq _ (gne hr_o0 hr_xbe (by decide)))).trans m363
      have m380 := (el_kept (oq _ (gne hr_o0 hr_xbe (by decide)))).trans m364
      have m381 := (el_kept (oq _ (gne hr_o0 hr_xbe (by decide)))).trans m365
      have m382 := (el_kept (oq _ (gne hr_o0 hr_xbe (by decide)))).trans m366
      have m383 := (el_kept (oq _ (gne hr_o0 hr_xbe (by decide)))).trans m367
      have m384 := (el_kept (oq _ (gne hr_o0 hr_xbe (by decide)))).trans m368
      have m385 := (el_kept (oq _ (gne hr_o0 hr_xbe (by decide)))).trans m369
      have m386 := m370.kept (oq _ (gne hr_xcs hr_xbe (by decide)))
      have m387 := m371.kept (oq _ (gne hr_xls hr_xbe (by decide)))
      have m388 := m372.kept (oq _ (gne hr_xin hr_xbe (by decide)))
      have m389 := m373.kept (oq _ (gne hr_xac hr_xbe (by decide)))
      have m390 := m374.kept (oq _ (gne hr_xpd hr_xbe (by decide)))
      have m391 := m375.kept (oq _ (gne hr_xtr hr_xbe (by decide)))
      have m392 := (el_kept (oq _ (gne hr_o0 hr_xbe (by decide)))).trans m361
      obtain ⟨V393, m394, kV393⟩ := ct_of hT hr_xbe shc_69
      have cq395 : ∀ k : Nat, ((k : Nat) : Int) < jb.toInt → V393 k = vR k := fun k hk => Value.int.inj (Option.some.inj ((m394 k (by omega)).symm.trans ((ce377 k (by have q9 := tn_of (show jb.toInt = jb.toInt from rfl) (by omega); omega)).trans (m375 k (by omega)))))
      exact W.vret hx hb hr (fun t ht hW => ⟨⟨(lt, vR, V393), rfl, (by exact (by (try dsimp only); have e9 : N = 3 := (by omega); rw [sx_0 e9, if_neg (by omega)]; exact ⟨rfl, fun _ k hk => (congrArg Int32.toInt (cq395 k (by omega))).trans (hR k (by omega)), hR⟩)), by (try dsimp only); rw [ht]; exact ⟨hT, hF, m392, m390, m391, m394⟩⟩, hS.F ht⟩) hS.2.2 dX5_tryOrders_49
  · have t396 : la.toInt ≠ (-1) := ti_ne c2 rfl (by decide)
    refine lv_iload hx hb dX5_tryOrders_8 (lv_at hl 5 rfl) ?_
    refine lv_aload_n hx hb dX5_tryOrders_10 rfl (lv_at hl 0 rfl) ?_
    refine tw_getM (v := .int la) hx hb hts bF2_X5 hown hK hT hr_o0 shc_8 rfl 16 (by decide) (ht_at2 hts 0 rfl) (fun _ h9 => h9) hm_la dX5_tryOrders_11 ?_
    refine lv_icmp_lt (tgt := 18) hx hb dX5_tryOrders_14 (by decide) (fun c397 => ?_) (fun c397 => ?_)
    · have t398 : lt.toInt < la.toInt := ti_lt c397 rfl rfl
      refine lv_iload_n hx hb dX5_tryOrders_18 rfl (lv_at hl 1 rfl) ?_
      refine lv_aload_n hx hb dX5_tryOrders_19 rfl (lv_at hl 0 rfl) ?_
      refine tw_getM (v := .int jb) hx hb hts bF2_X5 hown hK hT hr_o0 shc_8 rfl 15 (by decide) (ht_at2 hts 1 rfl) (fun _ h9 => h9) hm_jb dX5_tryOrders_20 ?_
      refine lv_icmp_lt (tgt := 50) hx hb dX5_tryOrders_23 (by decide) (fun c399 => ?_) (fun c399 => ?_)
      · have t400 : 3 < jb.toInt := ti_lt c399 (by decide) rfl
        refine lv_iconst (v := 0) hx hb dX5_tryOrders_50 (by decide) ?_
        refine lv_istore (lv' := [(7, .int 0), (0, .ref o0), (1, .int 3), (2, .int yr), (3, .long co), (5, .int ic), (6, .int lt)]) hx hb dX5_tryOrders_51 hl (by decide) rfl (fun ls hl => ?_)
        have key588 : ∀ (n588 i401 : Nat), i401 + n588 = 7 → 0 ≤ i401 → ∀ (V407 : Nat → Int32), ∀ (V409 : Nat → Int32), ∀ (z412 : Int32), ((z412.toInt = (slO N 3 aC aY aB aA (pb vP) yr.toInt co.toInt ic.toInt lt.toInt R a0 i401).1) ∧ (0 ≤ (slO N 3 aC aY aB aA (pb vP) yr.toInt co.toInt ic.toInt lt.toInt R a0 i401).1 → ∀ k : Nat, k < N → (V409 k).toInt = (slO N 3 aC aY aB aA (pb vP) yr.toInt co.toInt ic.toInt lt.toInt R a0 i401).2 k) ∧ (∀ k : Nat, k < 3 → (V407 k).toInt = R k) ∧ (((i401 : Nat) : Int) ≤ jb.toInt)) → ∀ (H : Heap) (locs : List Loc), gH (dC, dI) kA (SHc nC nS) G H → gF (dC, dI) SKc G ([(8, 16), (67, 0), (68, 0), (69, 0)] : List (Nat × Nat)) s.heap H → va_S A s.heap H locs → ct H xcs 7 aC → ct H xls 7 aY → ct H xin 7 aB → ct H xac 7 aA → ct H xpd 7 vP → ct H xtr 7 V407 → ct H xbe 7 V409 → el H o0 (dI 8 15) = some (.int jb) → el H o0 (dI 8 16) = some (.int z412) → el H o0 (dI 8 5) = some (.ref xcs) → el H o0 (dI 8 6) = some (.ref xls) → el H o0 (dI 8 7) = some (.ref xin) → el H o0 (dI 8 8) = some (.ref xac) → el H o0 (dI 8 9) = some (.ref xpd) → el H o0 (dI 8 10) = some (.ref xtr) → el H o0 (dI 8 11) = some (.ref xbe) → ∀ ls : Array Slot, lv_has ls 11 [(7, .int (nI i401)), (0, .ref o0), (1, .int 3), (2, .int yr), (3, .long co), (5, .int ic), (6, .int lt)] → W p l e (headSpec w_c_tryOrdersC3 ({ frames := 6, cells := 0, slots := 0, locals := 180 })).room s m #[.ref o0, .int 3, .int yr, .long co, .int ic, .int lt] below meth c H locs 0 0 (MQ below (va_Qv (fun (u : Int32 × (Nat → Int32) × (Nat → Int32)) => match u with | (la1, vR1, vZ1) => (la1.toInt = (sx N 3 aC aY aB aA (pb vP) yr.toInt co.toInt ic.toInt lt.toInt R a0).1 ∧ (0 ≤ (sx N 3 aC aY aB aA (pb vP) yr.toInt co.toInt ic.toInt lt.toInt R a0).1 → ∀ k : Nat, k < N → (vZ1 k).toInt = (sx N 3 aC aY aB aA (pb vP) yr.toInt co.toInt ic.toInt lt.toInt R a0).2 k) ∧ ∀ k : Nat, k < 3 → (vR1 k).toInt = R k)) (fun (u : Int32 × (Nat → Int32) × (Nat → Int32)) (t : State) => match u with | (la1, vR1, vZ1) => gH (dC, dI) kA (SHc nC nS) G t.heap ∧ gF (dC, dI) SKc G ([(8, 16), (67, 0), (68, 0), (69, 0)] : List (Nat × Nat)) s.heap t.heap ∧ el t.heap o0 (dI 8 16) = some (.int la1) ∧ ct t.heap xpd 7 vP ∧ ct t.heap xtr 7 vR1 ∧ ct t.heap xbe 7 vZ1) A) #[.ref o0, .int 3, .int yr, .long co, .int ic, .int lt] s 0 0 A) (F0 m 53 ls []) := by
          intro n588
          induction n588 with
          | zero =>
            intro i401 hn588 hlo589 V407 V409 z412 ⟨hj421, hj422, hj423, hj424⟩ H locs hT hF hS m402 m403 m404 m405 m406 m408 m410 m411 m413 m414 m415 m416 m417 m418 m419 m420 ls hl
            obtain rfl : 7 = i401 := by omega
            refine lv_iload hx hb dX5_tryOrders_53 (lv_at hl 0 rfl) ?_
            refine lv_aload_n hx hb dX5_tryOrders_55 rfl (lv_at hl 1 rfl) ?_
            refine tw_getM (v := .int jb) hx hb hts bF2_X5 hown hK hT hr_o0 shc_8 rfl 15 (by decide) (ht_at2 hts 1 rfl) (fun _ h9 => h9) m411 dX5_tryOrders_56 ?_
            refine lv_icmp_ge (tgt := 200) hx hb dX5_tryOrders_59 (by decide) (fun c590 => ?_) (fun c590 => (by exfalso; have q9 : ((7 : Nat) : Int) < jb.toInt := ti_nle c590 rfl (nI_toInt (by omega)); omega))
            have t591 : jb.toInt ≤ ((7 : Nat) : Int) := ti_le c590 rfl (nI_toInt (by omega))
            exact W.vret hx hb hr (fun t ht hW => ⟨⟨(z412, V407, V409), rfl, (by exact (by (try dsimp only); have e9 : N = 7 := (by omega); rw [sx_s (by omega)]; subst e9; exact ⟨hj421, hj422, hj423⟩)), by (try dsimp only); rw [ht]; exact ⟨hT, hF, m413, m406, m408, m410⟩⟩, hS.F ht⟩) hS.2.2 dX5_tryOrders_200
          | succ n588 ih588 =>
            intro i401 hn588 hlo589 V407 V409 z412 ⟨hj421, hj422, hj423, hj424⟩ H locs hT hF hS m402 m403 m404 m405 m406 m408 m410 m411 m413 m414 m415 m416 m417 m418 m419 m420 ls hl
            have hlt591 : i401 < 7 := by omega
            refine lv_iload hx hb dX5_tryOrders_53 (lv_at hl 0 rfl) ?_
            refine lv_aload_n hx hb dX5_tryOrders_55 rfl (lv_at hl 1 rfl) ?_
            refine tw_getM (v := .int jb) hx hb hts bF2_X5 hown hK hT hr_o0 shc_8 rfl 15 (by decide) (ht_at2 hts 1 rfl) (fun _ h9 => h9) m411 dX5_tryOrders_56 ?_
            refine lv_icmp_ge (tgt := 200) hx hb dX5_tryOrders_59 (by decide) (fun c592 => ?_) (fun c592 => ?_)
            · have t593 : jb.toInt ≤ ((i401 : Nat) : Int) := ti_le c592 rfl (nI_toInt (by omega))
              exact W.vret hx hb hr (fun t ht hW => ⟨⟨(z412, V407, V409), rfl, (by exact (by (try dsimp only); have e9 : N = i401 := (by omega); rw [sx_s (by omega)]; subst e9; exact ⟨hj421, hj422, hj423⟩)), by (try dsimp only); rw [ht]; exact ⟨hT, hF, m413, m406, m408, m410⟩⟩, hS.F ht⟩) hS.2.2 dX5_tryOrders_200
            · have t594 : ((i401 : Nat) : Int) < jb.toInt := ti_nle c592 rfl (nI_toInt (by omega))
              refine lv_aload_n hx hb dX5_tryOrders_62 rfl (lv_at hl 1 rfl) ?_
              refine tw_getM (v := .ref xpd) hx hb hts bF2_X5 hown hK hT hr_o0 shc_8 rfl 9 (by decide) (ht_at2 hts 2 rfl) (fun _ h9 => h9) m418 dX5_tryOrders_63 ?_
              refine lv_iload hx hb dX5_tryOrders_66 (lv_at hl 0 rfl) ?_
              refine tw_zald (i := (nI i401)) hx hb hK hT hr_xpd shc_67 rfl (vp_in_nI (by omega) (by decide)) dX5_tryOrders_68 (fun v9 m595 h9 => ?_)
              obtain ⟨x596, rfl, gx596, kx596⟩ := h9
              have cx596 := m406.at m595 (by have q9 := tn_of (show (nI i401).toInt = ((i401 : Nat) : Int) from (nI_toInt (by omega))) (by omega); omega)
              refine lv_if_eq (tgt := 76) hx hb dX5_tryOrders_69 (by decide) (fun c597 => ?_) (fun c597 => ?_)
              · have t598 : x596.toInt = 0 := ti_eq c597 rfl (by decide)
                refine lv_iload_n hx hb dX5_tryOrders_76 rfl (lv_at hl 3 rfl) ?_
                refine lv_lload_n hx hb dX5_tryOrders_77 rfl (lv_at hl 4 rfl) ?_
                refine lv_iload hx hb dX5_tryOrders_78 (lv_at hl 5 rfl) ?_
                refine lv_aload_n hx hb dX5_tryOrders_80 rfl (lv_at hl 1 rfl) ?_
                refine tw_getM (v := .ref xcs) hx hb hts bF2_X5 hown hK hT hr_o0 shc_8 rfl 5 (by decide) (ht_at2 hts 3 rfl) (fun _ h9 => h9) m414 dX5_tryOrders_81 ?_
                refine lv_iload hx hb dX5_tryOrders_84 (lv_at hl 0 rfl) ?_
                refine tw_iald (i := (nI i401)) hx hb hK hT hr_xcs shc_63 rfl (vp_in_nI (by omega) (by decide)) dX5_tryOrders_86 (fun v9 m599 h9 => ?_)
                obtain ⟨x600, rfl, gx600, kx600⟩ := h9
                have cx600 := m402.at m599 (by have q9 := tn_of (show (nI i401).toInt = ((i401 : Nat) : Int) from (nI_toInt (by omega))) (by omega); omega)
                have t601 : x600.toInt = (aC i401).toInt := congrArg Int32.toInt (cx600.trans (by rw [tn_nI (by omega)]))
                have t602 : 0 ≤ (aC i401).toInt ∧ (aC i401).toInt ≤ 1000000 := (hrg i401 (by omega)).1
                have hFc := gA_free hG hA hS
                refine va_calli (va_runS (As := [.int yr, .long co, .int ic, .int x600]) (rest := []) ⟨hx, hb, hml, hown, hts⟩ (c_yearC l dC dI kA adK adV G H nC nS yr co ic x600 hT (by have q8 := ti_all yr; omega) (by have q8 := ti_all ic; omega) (by have q8 := ti_all x600; omega) (by omega) (by omega) (by omega)) (va_cwS 4 hts (goodIn_app (goodIn_r _ [6, 7, 8] rfl (by decide +kernel)) (goodIn_ca (goodIn_r _ [5] rfl (by decide +kernel)) (bs2_in _ _))) rfl rfl rfl (by decide +kernel) ⟨(Nat.le_of_ble_eq_true rfl), (Nat.le_of_ble_eq_true rfl)⟩) ⟨fun a U g mk q => by obtain ⟨q0, q1, qK, qE⟩ := q; exact ⟨q0, q1, va_K.moved (u := U) (U := U.calling g mk a) (Vm.Alike.refl U.vm) qK, EVC.blind g mk a qE⟩, fun U hU hW => ⟨rfl, hU, va_K.moved hW.alike hK, hE.call hS hFc hU hW⟩⟩ rfl rfl hl.1 rfl (lv_room (Nat.le_of_ble_eq_true rfl)) dX5_tryOrders_87 ⟨(Nat.le_of_ble_eq_true rfl), (Nat.le_of_ble_eq_true rfl)⟩) hS (fun q _ h => hFc q h) hFc (fun r603 u t H locs ht hvm hw604 hB _ _ hS => ?_)
                obtain ⟨hT, hF1⟩ := hB
                rw [ht] at hT hF1
                have m605 := m402.kept (hF1.arr hr_xcs skc_63 (by decide))
                have m606 := m403.kept (hF1.arr hr_xls skc_64 (by decide))
                have m607 := m404.kept (hF1.arr hr_xin skc_65 (by decide))
                have m608 := m405.kept (hF1.arr hr_xac skc_66 (by decide))
                have m609 := m406.kept (hF1.arr hr_xpd skc_67 (by decide))
                have m610 := m408.kept (hF1.arr hr_xtr skc_68 (by decide))
                have m611 := m410.kept (hF1.arr hr_xbe skc_69 (by decide))
                have m612 := (hF1.fld hr_o0 skc_8 (k := 15) (by decide) (by decide)).trans m411
                have m613 := (hF1.fld hr_o0 skc_8 (k := 16) (by decide) (by decide)).trans m413
                have m614 := (hF1.fld hr_o0 skc_8 (k := 5) (by decide) (by decide)).trans m414
                have m615 := (hF1.fld hr_o0 skc_8 (k := 6) (by decide) (by decide)).trans m415
                have m616 := (hF1.fld hr_o0 skc_8 (k := 7) (by decide) (by decide)).trans m416
                have m617 := (hF1.fld hr_o0 skc_8 (k := 8) (by decide) (by decide)).trans m417
                have m618 := (hF1.fld hr_o0 skc_8 (k := 9) (by decide) (by decide)).trans m418
                have m619 := (hF1.fld hr_o0 skc_8 (k := 10) (by decide) (by decide)).trans m419
                have m620 := (hF1.fld hr_o0 skc_8 (k := 11) (by decide) (by decide)).trans m420
                have m621 := (el_kept (hF1.arr hr_xpd skc_67 (by decide))).trans m595
                have m622 := (el_kept (hF1.arr hr_xcs skc_63 (by decide))).trans m599
                have hF := hF.more hF1 (by decide)
                try dsimp only at hw604
                obtain ⟨h623, hf624⟩ := hw604
                have yw9 : yw yr.toInt co.toInt ic.toInt (aC i401).toInt r603.toInt := by rw [show (aC i401).toInt = x600.toInt from by omega]; exact hf624
                refine lv_aload_n hx hb dX5_tryOrders_90 rfl (lv_at hl 1 rfl) ?_
                refine tw_getM (v := .ref xls) hx hb hts bF2_X5 hown hK hT hr_o0 shc_8 rfl 6 (by decide) (ht_at2 hts 8 rfl) (fun _ h9 => h9) m615 dX5_tryOrders_91 ?_
                refine lv_iload hx hb dX5_tryOrders_94 (lv_at hl 0 rfl) ?_
                refine tw_iald (i := (nI i401)) hx hb hK hT hr_xls shc_64 rfl (vp_in_nI (by omega) (by decide)) dX5_tryOrders_96 (fun v9 m625 h9 => ?_)
                obtain ⟨x626, rfl, gx626, kx626⟩ := h9
                have cx626 := m606.at m625 (by have q9 := tn_of (show (nI i401).toInt = ((i401 : Nat) : Int) from (nI_toInt (by omega))) (by omega); omega)
                have t627 : x626.toInt = (aY i401).toInt := congrArg Int32.toInt (cx626.trans (by rw [tn_nI (by omega)]))
                have t628 : 1 ≤ (aY i401).toInt ∧ (aY i401).toInt ≤ 20 := (hrg i401 (by omega)).2.1
                refine lv_iadd hx hb dX5_tryOrders_97 ?_
                refine lv_topi (fun x629 ex629 => ?_)
                have t630 : x629.toInt = r603.toInt + x626.toInt := ti_add ex629 rfl rfl (by omega) (by omega)
                refine lv_istore (lv' := [(8, .int x629), (7, .int (nI i401)), (0, .ref o0), (1, .int 3), (2, .int yr), (3, .long co), (5, .int ic), (6, .int lt)]) hx hb dX5_tryOrders_98 hl (by decide) rfl (fun ls hl => ?_)
                refine lv_iload hx hb dX5_tryOrders_100 (lv_at hl 0 rfl) ?_
                refine lv_iconst (v := (-1)) hx hb dX5_tryOrders_102 (by decide) ?_
                refine lv_icmp_eq (tgt := 194) hx hb dX5_tryOrders_103 (by decide) (fun c631 => (by exfalso; have q9 : x629.toInt = (-1) := ti_eq c631 rfl (by decide); omega)) (fun c631 => ?_)
                have t632 : x629.toInt ≠ (-1) := ti_ne c631 rfl (by decide)
                refine lv_iload hx hb dX5_tryOrders_106 (lv_at hl 0 rfl) ?_
                refine lv_sipush (v := 200) hx hb dX5_tryOrders_108 (by decide) ?_
                refine lv_icmp_gt (tgt := 194) hx hb dX5_tryOrders_111 (by decide) (fun c633 => ?_) (fun c633 => ?_)
                · have t634 : 200 < x629.toInt := ti_lt c633 (by decide) rfl
                  refine lv_iinc (v := nI (i401 + 1)) (lv' := [(7, .int (nI (i401 + 1))), (8, .int x629), (0, .ref o0), (1, .int 3), (2, .int yr), (3, .long co), (5, .int ic), (6, .int lt)]) hx hb dX5_tryOrders_194 hl (k := 1) rfl (nI_add i401 1) (by decide) rfl (fun ls hl => ?_)
                  refine lv_goto (tgt := 53) hx hb dX5_tryOrders_197 (by decide) ?_
                  have bk9 : z412.toInt = (slO N 3 aC aY aB aA (pb vP) yr.toInt co.toInt ic.toInt lt.toInt R a0 (i401 + 1)).1 ∧ (0 ≤ (slO N 3 aC aY aB aA (pb vP) yr.toInt co.toInt ic.toInt lt.toInt R a0 (i401 + 1)).1 → ∀ k : Nat, k < N → (V409 k).toInt = (slO N 3 aC aY aB aA (pb vP) yr.toInt co.toInt ic.toInt lt.toInt R a0 (i401 + 1)).2 k) ∧ ∀ k : Nat, k < 3 → (V407 k).toInt = R k := by rw [sl_n (yw_none yw9 (by omega) (by omega))]; exact ⟨hj421, hj422, hj423⟩
                  exact ih588 (i401 + 1) (by omega) (by omega) V407 V409 z412 ⟨bk9.1, bk9.2.1, bk9.2.2, (by omega)⟩ _ _ hT hF hS m605 m606 m607 m608 (m609.ext (fun _ _ => rfl)) m610 m611 m612 m613 m614 m615 m616 m617 m618 m619 m620 ls (lv_sub hl [0, 2, 3, 4, 5, 6, 7] rfl)
                · have t635 : x629.toInt ≤ 200 := ti_nlt c633 (by decide) rfl
                  refine lv_lload_n hx hb dX5_tryOrders_114 rfl (lv_at hl 5 rfl) ?_
                  refine lv_iload hx hb dX5_tryOrders_115 (lv_at hl 6 rfl) ?_
                  refine lv_i2l (v := ic.toInt64) hx hb dX5_tryOrders_117 rfl ?_
                  refine lv_iload hx hb dX5_tryOrders_118 (lv_at hl 0 rfl) ?_
                  refine lv_iload_n hx hb dX5_tryOrders_120 rfl (lv_at hl 4 rfl) ?_
                  refine lv_isub hx hb dX5_tryOrders_121 ?_
                  refine lv_topi (fun x636 ex636 => ?_)
                  have t637 : x636.toInt = x629.toInt - yr.toInt := ti_sub ex636 rfl rfl (by omega) (by omega)
                  refine lv_i2l (v := x636.toInt64) hx hb dX5_tryOrders_122 rfl ?_
                  refine lv_lmul hx hb dX5_tryOrders_123 ?_
                  refine lv_topl (fun y638 ey638 => ?_)
                  have t639 : y638.toInt = ic.toInt * x636.toInt ∧ -(300000 * 200) ≤ y638.toInt ∧ y638.toInt ≤ 300000 * 200 := tl_m ey638 ((Int32.toInt_toInt64 _).trans rfl) ((Int32.toInt_toInt64 _).trans rfl) (A := 300000) (B := 200) (by omega) (by omega) (by omega) (by omega) (by decide)
                  have t640 : y638.toInt = ic.toInt * (x629.toInt - yr.toInt) := (by rw [show x629.toInt - yr.toInt = x636.toInt from by omega]; omega)
                  refine lv_ladd hx hb dX5_tryOrders_124 ?_
                  refine lv_topl (fun y641 ey641 => ?_)
                  have t642 : y641.toInt = co.toInt + y638.toInt := tl_a ey641 rfl rfl (by omega) (by omega)
                  refine lv_aload_n hx hb dX5_tryOrders_125 rfl (lv_at hl 2 rfl) ?_
                  refine tw_getM (v := .ref xcs) hx hb hts bF2_X5 hown hK hT hr_o0 shc_8 rfl 5 (by decide) (ht_at2 hts 3 rfl) (fun _ h9 => h9) m614 dX5_tryOrders_126 ?_
                  refine lv_iload hx hb dX5_tryOrders_129 (lv_at hl 1 rfl) ?_
                  refine tw_iald (i := (nI i401)) hx hb hK hT hr_xcs shc_63 rfl (vp_in_nI (by omega) (by decide)) dX5_tryOrders_131 (fun v9 m643 h9 => ?_)
                  obtain ⟨x644, rfl, gx644, kx644⟩ := h9
                  have cx644 := m605.at m643 (by have q9 := tn_of (show (nI i401).toInt = ((i401 : Nat) : Int) from (nI_toInt (by omega))) (by omega); omega)
                  obtain rfl : x600 = x644 := (el_same m643 m622 rfl).symm
                  refine lv_i2l (v := x600.toInt64) hx hb dX5_tryOrders_132 rfl ?_
                  refine lv_lsub hx hb dX5_tryOrders_133 ?_
                  refine lv_topl (fun y645 ey645 => ?_)
                  have t646 : y645.toInt = y641.toInt - x600.toInt := tl_s ey645 rfl ((Int32.toInt_toInt64 _).trans rfl) (by omega) (by omega)
                  have dn9 := (yw_some (last := (aY i401).toInt) (d := x629.toInt) yw9 (by omega) (by omega) (by omega))
                  have dc9 := dn_cash dn9 (by omega) (by omega)
                  refine lv_lstore (lv' := [(9, .long y645), (8, .int x629), (7, .int (nI i401)), (0, .ref o0), (1, .int 3), (2, .int yr), (3, .long co), (5, .int ic), (6, .int lt)]) hx hb dX5_tryOrders_134 hl (by decide) rfl (fun ls hl => ?_)
                  refine lv_aload_n hx hb dX5_tryOrders_136 rfl (lv_at hl 3 rfl) ?_
                  refine tw_getM (v := .ref xpd) hx hb hts bF2_X5 hown hK hT hr_o0 shc_8 rfl 9 (by decide) (ht_at2 hts 2 rfl) (fun _ h9 => h9) m618 dX5_tryOrders_137 ?_
                  refine lv_iload hx hb dX5_tryOrders_140 (lv_at hl 2 rfl) ?_
                  refine lv_iconst (v := 1) hx hb dX5_tryOrders_142 (by decide) ?_
                  refine tw_zast (i := (nI i401)) (x := 1) hx hb hK hT hG hS hr_xpd shc_67 rfl (vp_in_nI (by omega) (by decide)) (gi_z (rg_t (a := 1) (by decide) (by omega) (by omega)) (by decide) (by decide)) dX5_tryOrders_143 (fun H locs hT oq m647 oi hS => ?_)
                  have hF := hF.ast hr_xpd skc_67 oq (by decide)
                  have m648 := m605.kept (oq _ (gne hr_xcs hr_xpd (by decide)))
                  have m649 := m606.kept (oq _ (gne hr_xls hr_xpd (by decide)))
                  have m650 := m607.kept (oq _ (gne hr_xin hr_xpd (by decide)))
                  have m651 := m608.kept (oq _ (gne hr_xac hr_xpd (by decide)))
                  have m652 := m609.put (show el H xpd _ = some (.int 1) from m647) oi
                  have m653 := m610.kept (oq _ (gne hr_xtr hr_xpd (by decide)))
                  have m654 := m611.kept (oq _ (gne hr_xbe hr_xpd (by decide)))
                  have m655 := (el_kept (oq _ (gne hr_o0 hr_xpd (by decide)))).trans m612
                  have m656 := (el_kept (oq _ (gne hr_o0 hr_xpd (by decide)))).trans m613
                  have m657 := (el_kept (oq _ (gne hr_o0 hr_xpd (by decide)))).trans m614
                  have m658 := (el_kept (oq _ (gne hr_o0 hr_xpd (by decide)))).trans m615
                  have m659 := (el_kept (oq _ (gne hr_o0 hr_xpd (by decide)))).trans m616
                  have m660 := (el_kept (oq _ (gne hr_o0 hr_xpd (by decide)))).trans m617
                  have m661 := (el_kept (oq _ (gne hr_o0 hr_xpd (by decide)))).trans m618
                  have m662 := (el_kept (oq _ (gne hr_o0 hr_xpd (by decide)))).trans m619
                  have m663 := (el_kept (oq _ (gne hr_o0 hr_xpd (by decide)))).trans m620
                  have m664 := (el_kept (oq _ (gne hr_xcs hr_xpd (by decide)))).trans m622
                  have m665 := (el_kept (oq _ (gne hr_xls hr_xpd (by decide)))).trans m625
                  refine lv_aload_n hx hb dX5_tryOrders_144 rfl (lv_at hl 3 rfl) ?_
                  refine tw_getM (v := .ref xtr) hx hb hts bF2_X5 hown hK hT hr_o0 shc_8 rfl 10 (by decide) (ht_at2 hts 9 rfl) (fun _ h9 => h9) m662 dX5_tryOrders_145 ?_
                  refine lv_iload_n hx hb dX5_tryOrders_148 rfl (lv_at hl 4 rfl) ?_
                  refine lv_iload hx hb dX5_tryOrders_149 (lv_at hl 2 rfl) ?_
                  refine tw_iast (i := 3) (x := (nI i401)) hx hb hK hT hG hS hr_xtr shc_68 rfl (by unfold vp_in; decide) (gi_of (show (nI i401).toInt = ((i401 : Nat) : Int) from (nI_toInt (by omega))) (by omega) (by omega)) dX5_tryOrders_151 (fun H locs hT oq m666 oi hS => ?_)
                  have hF := hF.ast hr_xtr skc_68 oq (by decide)
                  have m667 := m648.kept (oq _ (gne hr_xcs hr_xtr (by decide)))
                  have m668 := m649.kept (oq _ (gne hr_xls hr_xtr (by decide)))
                  have m669 := m650.kept (oq _ (gne hr_xin hr_xtr (by decide)))
                  have m670 := m651.kept (oq _ (gne hr_xac hr_xtr (by decide)))
                  have m671 := m652.kept (oq _ (gne hr_xpd hr_xtr (by decide)))
                  have m672 := m653.put m666 oi
                  have m673 := m654.kept (oq _ (gne hr_xbe hr_xtr (by decide)))
                  have m674 := (el_kept (oq _ (gne hr_o0 hr_xtr (by decide)))).trans m655
                  have m675 := (el_kept (oq _ (gne hr_o0 hr_xtr (by decide)))).trans m656
                  have m676 := (el_kept (oq _ (gne hr_o0 hr_xtr (by decide)))).trans m657
                  have m677 := (el_kept (oq _ (gne hr_o0 hr_xtr (by decide)))).trans m658
                  have m678 := (el_kept (oq _ (gne hr_o0 hr_xtr (by decide)))).trans m659
                  have m679 := (el_kept (oq _ (gne hr_o0 hr_xtr (by decide)))).trans m660
                  have m680 := (el_kept (oq _ (gne hr_o0 hr_xtr (by decide)))).trans m661
                  have m681 := (el_kept (oq _ (gne hr_o0 hr_xtr (by decide)))).trans m662
                  have m682 := (el_kept (oq _ (gne hr_o0 hr_xtr (by decide)))).trans m663
                  have m683 := (el_kept (oq _ (gne hr_xcs hr_xtr (by decide)))).trans m664
                  have m684 := (el_kept (oq _ (gne hr_xls hr_xtr (by decide)))).trans m665
                  refine lv_aload_n hx hb dX5_tryOrders_152 rfl (lv_at hl 3 rfl) ?_
                  refine lv_iload_n hx hb dX5_tryOrders_153 rfl (lv_at hl 4 rfl) ?_
                  refine lv_iconst (v := 1) hx hb dX5_tryOrders_154 (by decide) ?_
                  refine lv_iadd hx hb dX5_tryOrders_155 ?_
                  refine lv_topi (fun x685 ex685 => ?_)
                  obtain rfl : x685 = 4 := ex685.trans (by decide)
                  refine lv_iload hx hb dX5_tryOrders_156 (lv_at hl 1 rfl) ?_
                  refine lv_lload hx hb dX5_tryOrders_158 (lv_at hl 0 rfl) ?_
                  refine lv_iload hx hb dX5_tryOrders_160 (lv_at hl 7 rfl) ?_
                  refine lv_aload_n hx hb dX5_tryOrders_162 rfl (lv_at hl 3 rfl) ?_
                  refine tw_getM (v := .ref xin) hx hb hts bF2_X5 hown hK hT hr_o0 shc_8 rfl 7 (by decide) (ht_at2 hts 10 rfl) (fun _ h9 => h9) m678 dX5_tryOrders_163 ?_
                  refine lv_iload hx hb dX5_tryOrders_166 (lv_at hl 2 rfl) ?_
                  refine tw_iald (i := (nI i401)) hx hb hK hT hr_xin shc_65 rfl (vp_in_nI (by omega) (by decide)) dX5_tryOrders_168 (fun v9 m686 h9 => ?_)
                  obtain ⟨x687, rfl, gx687, kx687⟩ := h9
                  have cx687 := m669.at m686 (by have q9 := tn_of (show (nI i401).toInt = ((i401 : Nat) : Int) from (nI_toInt (by omega))) (by omega); omega)
                  have t688 : x687.toInt = (aB i401).toInt := congrArg Int32.toInt (cx687.trans (by rw [tn_nI (by omega)]))
                  have t689 : 0 ≤ (aB i401).toInt ∧ (aB i401).toInt ≤ 100000 := (hrg i401 (by omega)).2.2.1
                  refine lv_iadd hx hb dX5_tryOrders_169 ?_
                  refine lv_topi (fun x690 ex690 => ?_)
                  have t691 : x690.toInt = ic.toInt + x687.toInt := ti_add ex690 rfl rfl (by omega) (by omega)
                  refine lv_iload hx hb dX5_tryOrders_170 (lv_at hl 8 rfl) ?_
                  refine lv_aload_n hx hb dX5_tryOrders_172 rfl (lv_at hl 3 rfl) ?_
                  refine tw_getM (v := .ref xac) hx hb hts bF2_X5 hown hK hT hr_o0 shc_8 rfl 8 (by decide) (ht_at2 hts 11 rfl) (fun _ h9 => h9) m679 dX5_tryOrders_173 ?_
                  refine lv_iload hx hb dX5_tryOrders_176 (lv_at hl 2 rfl) ?_
                  refine tw_iald (i := (nI i401)) hx hb hK hT hr_xac shc_66 rfl (vp_in_nI (by omega) (by decide)) dX5_tryOrders_178 (fun v9 m692 h9 => ?_)
                  obtain ⟨x693, rfl, gx693, kx693⟩ := h9
                  have cx693 := m670.at m692 (by have q9 := tn_of (show (nI i401).toInt = ((i401 : Nat) : Int) from (nI_toInt (by omega))) (by omega); omega)
                  have t694 : x693.toInt = (aA i401).toInt := congrArg Int32.toInt (cx693.trans (by rw [tn_nI (by omega)]))
                  have t695 : 0 ≤ (aA i401).toInt ∧ (aA i401).toInt ≤ 1000 := (hrg i401 (by omega)).2.2.2
                  refine lv_iload hx hb dX5_tryOrders_179 (lv_at hl 1 rfl) ?_
                  refine lv_imul hx hb dX5_tryOrders_181 ?_
                  refine lv_topi (fun x696 ex696 => ?_)
                  have t697 : x696.toInt = x693.toInt * x629.toInt := ti_mulx ex696 rfl rfl (A := 1000) (B := 200) (by omega) (by omega) (by omega) (by omega) (by decide)
                  have t698 : 0 ≤ x696.toInt ∧ x696.toInt ≤ 1000 * 200 ∧ (x693.toInt = 0 → x696.toInt = 0) ∧ (x629.toInt = 0 → x696.toInt = 0) ∧ x696.toInt ≤ x693.toInt * 200 ∧ x696.toInt ≤ 1000 * x629.toInt := ti_mulnn ex696 rfl rfl (by omega) (by omega) (by omega) (by omega) (by decide)
                  refine lv_iadd hx hb dX5_tryOrders_182 ?_
                  refine lv_topi (fun x699 ex699 => ?_)
                  have t700 : x699.toInt = lt.toInt + x696.toInt := ti_add ex699 rfl rfl (by omega) (by omega)
                  have hFc := gA_free hG hA hS
                  refine va_callv (va_runV (As := [.int 4, .int x629, .long y645, .int x690, .int x699]) (rest := []) ⟨hx, hb, hml, hown, hts⟩ (c_tryOrdersC4 l dC dI kA adK adV G H nC nS o0 x629 y645 x690 x699 jb z412 xcs xls xin xac xpd xtr xbe aC aY aB aA (cu vP (nI i401).toNatClampNeg (1 : Int32)) (cu V407 (3 : Int32).toNatClampNeg (nI i401)) V409 N (fun k => if k = 3 then ((i401 : Nat) : Int) else R k) (slO N 3 aC aY aB aA (pb vP) yr.toInt co.toInt ic.toInt lt.toInt R a0 i401) hT hr_o0 m674 m675 m676 hr_xcs m677 hr_xls m678 hr_xin m679 hr_xac m680 hr_xpd m681 hr_xtr m682 hr_xbe (by have q8 := ti_all x629; omega) (by have q8 := ti_all x690; omega) (by have q8 := ti_all x699; omega) (by have q8 := ti_all jb; omega) (by omega) hN hrg (sl_ok (by omega) (fun j hj => by have := (hrg j (by omega)).2.1.1; omega) (fun j hj => (hrg j (by omega)).2.2.2.1) (by omega) (by omega) hba) hj421 hj422 (rr_s (K := 3) rfl (by decide) (nI_toInt (by omega)) hj423) m667 m668 m669 m670 m671 m672 m673 (by omega) (by omega)) (cwV 5 hts (goodIn_app (goodIn_r _ [19, 20, 21, 8] rfl (by decide +kernel)) (goodIn_ca (goodIn_r _ [13, 1, 2, 3, 4, 5, 6, 7, 8, 9, 10, 11, 12, 13, 14, 15, 16, 17, 18, 19, 20, 21] rfl (by decide +kernel)) (bs2_in _ _))) rfl rfl rfl (by decide +kernel) ⟨(Nat.le_of_ble_eq_true rfl), (Nat.le_of_ble_eq_true rfl)⟩) ⟨fun a U g mk q => by obtain ⟨q0, q1, qK, qE⟩ := q; exact ⟨q0, q1, va_K.moved (u := U) (U := U.calling g mk a) (Vm.Alike.refl U.vm) qK, EVC.blind g mk a qE⟩, gH_recv hK hT hr_o0 shc_8 rfl, fun U hU hW => ⟨rfl, hU, va_K.moved hW.alike hK, hE.call hS hFc hU hW⟩⟩ rfl rfl hl.1 rfl (lv_room (Nat.le_of_ble_eq_true rfl)) dX5_tryOrders_183 ⟨(Nat.le_of_ble_eq_true rfl), (Nat.le_of_ble_eq_true rfl)⟩) hS (fun q _ h => hFc q h) hFc (fun u t H locs ht hvm hw702 hB _ _ hS => ?_)
                  obtain ⟨u703, u704, u705⟩ := u
                  obtain ⟨hT, hF1, m706, m707, m708, m709⟩ := hB
                  rw [ht] at hT hF1 m706 m707 m708 m709
                  have m710 := m667.kept (hF1.arr hr_xcs skc_63 (by decide))
                  have m711 := m668.kept (hF1.arr hr_xls skc_64 (by decide))
                  have m712 := m669.kept (hF1.arr hr_xin skc_65 (by decide))
                  have m713 := m670.kept (hF1.arr hr_xac skc_66 (by decide))
                  have m717 := (hF1.fld hr_o0 skc_8 (k := 15) (by decide) (by decide)).trans m674
                  have m719 := (hF1.fld hr_o0 skc_8 (k := 5) (by decide) (by decide)).trans m676
                  have m720 := (hF1.fld hr_o0 skc_8 (k := 6) (by decide) (by decide)).trans m677
                  have m721 := (hF1.fld hr_o0 skc_8 (k := 7) (by decide) (by decide)).trans m678
                  have m722 := (hF1.fld hr_o0 skc_8 (k := 8) (by decide) (by decide)).trans m679
                  have m723 := (hF1.fld hr_o0 skc_8 (k := 9) (by decide) (by decide)).trans m680
                  have m724 := (hF1.fld hr_o0 skc_8 (k := 10) (by decide) (by decide)).trans m681
                  have m725 := (hF1.fld hr_o0 skc_8 (k := 11) (by decide) (by decide)).trans m682
                  have m726 := (el_kept (hF1.arr hr_xcs skc_63 (by decide))).trans m683
                  have m727 := (el_kept (hF1.arr hr_xls skc_64 (by decide))).trans m684
                  have m729 := (el_kept (hF1.arr hr_xin skc_65 (by decide))).trans m686
                  have m730 := (el_kept (hF1.arr hr_xac skc_66 (by decide))).trans m692
                  have hF := hF.more hF1 (by decide)
                  try dsimp only at hw702
                  have hf731 := hw702
                  refine lv_aload_n hx hb dX5_tryOrders_186 rfl (lv_at hl 3 rfl) ?_
                  refine tw_getM (v := .ref xpd) hx hb hts bF2_X5 hown hK hT hr_o0 shc_8 rfl 9 (by decide) (ht_at2 hts 2 rfl) (fun _ h9 => h9) m723 dX5_tryOrders_187 ?_
                  refine lv_iload hx hb dX5_tryOrders_190 (lv_at hl 2 rfl) ?_
                  refine lv_iconst (v := 0) hx hb dX5_tryOrders_192 (by decide) ?_
                  refine tw_zast (i := (nI i401)) (x := 0) hx hb hK hT hG hS hr_xpd shc_67 rfl (vp_in_nI (by omega) (by decide)) (gi_z (rg_t (a := 0) (by decide) (by omega) (by omega)) (by decide) (by decide)) dX5_tryOrders_193 (fun H locs hT oq m732 oi hS => ?_)
                  have hF := hF.ast hr_xpd skc_67 oq (by decide)
                  have m733 := m710.kept (oq _ (gne hr_xcs hr_xpd (by decide)))
                  have m734 := m711.kept (oq _ (gne hr_xls hr_xpd (by decide)))
                  have m735 := m712.kept (oq _ (gne hr_xin hr_xpd (by decide)))
                  have m736 := m713.kept (oq _ (gne hr_xac hr_xpd (by decide)))
                  have m737 := (el_kept (oq _ (gne hr_o0 hr_xpd (by decide)))).trans m717
                  have m738 := (el_kept (oq _ (gne hr_o0 hr_xpd (by decide)))).trans m719
                  have m739 := (el_kept (oq _ (gne hr_o0 hr_xpd (by decide)))).trans m720
                  have m740 := (el_kept (oq _ (gne hr_o0 hr_xpd (by decide)))).trans m721
                  have m741 := (el_kept (oq _ (gne hr_o0 hr_xpd (by decide)))).trans m722
                  have m742 := (el_kept (oq _ (gne hr_o0 hr_xpd (by decide)))).trans m723
                  have m743 := (el_kept (oq _ (gne hr_o0 hr_xpd (by decide)))).trans m724
                  have m744 := (el_kept (oq _ (gne hr_o0 hr_xpd (by decide)))).trans m725
                  have m745 := (el_kept (oq _ (gne hr_xcs hr_xpd (by decide)))).trans m726
                  have m746 := (el_kept (oq _ (gne hr_xls hr_xpd (by decide)))).trans m727
                  have m747 := (el_kept (oq _ (gne hr_xin hr_xpd (by decide)))).trans m729
                  have m748 := (el_kept (oq _ (gne hr_xac hr_xpd (by decide)))).trans m730
                  have m749 := (el_kept (oq _ (gne hr_o0 hr_xpd (by decide)))).trans m706
                  have m750 := m707.put (show el H xpd _ = some (.int 0) from m732) oi
                  have m751 := m708.kept (oq _ (gne hr_xtr hr_xpd (by decide)))
                  have m752 := m709.kept (oq _ (gne hr_xbe hr_xpd (by decide)))
                  refine lv_iinc (v := nI (i401 + 1)) (lv' := [(7, .int (nI (i401 + 1))), (9, .long y645), (8, .int x629), (0, .ref o0), (1, .int 3), (2, .int yr), (3, .long co), (5, .int ic), (6, .int lt)]) hx hb dX5_tryOrders_194 hl (k := 2) rfl (nI_add i401 1) (by decide) rfl (fun ls hl => ?_)
                  refine lv_goto (tgt := 53) hx hb dX5_tryOrders_197 (by decide) ?_
                  have bk9 : u703.toInt = (slO N 3 aC aY aB aA (pb vP) yr.toInt co.toInt ic.toInt lt.toInt R a0 (i401 + 1)).1 ∧ (0 ≤ (slO N 3 aC aY aB aA (pb vP) yr.toInt co.toInt ic.toInt lt.toInt R a0 (i401 + 1)).1 → ∀ k : Nat, k < N → (u705 k).toInt = (slO N 3 aC aY aB aA (pb vP) yr.toInt co.toInt ic.toInt lt.toInt R a0 (i401 + 1)).2 k) ∧ ∀ k : Nat, k < 3 → (u704 k).toInt = R k := by have q9 := hf731; rw [sl_call (N := N) (K := 3) (K1 := 4) (aC := aC) (aY := aY) (aB := aB) (aA := aA) (U := pb vP) (yr := yr.toInt) (ca := co.toInt) (ic := ic.toInt) (su := lt.toInt) (R := R) (a := a0) (i := i401) (d := x629.toInt) (c1 := y645.toInt) (i1 := x690.toInt) (s1 := x699.toInt) (U1 := pb (cu vP (nI i401).toNatClampNeg (1 : Int32))) rfl (pb_0 (tn_nI (by omega)) cx596 (by omega)) dn9 (pb_cu (tn_nI (by omega))) (by omega) (by omega) (by rw [show (aA i401).toInt = x693.toInt from by omega]; omega)] at q9; exact ⟨q9.1, q9.2.1, fun k hk => (q9.2.2 k (by omega)).trans (if_neg (by omega))⟩
                  exact ih588 (i401 + 1) (by omega) (by omega) u704 u705 u703 ⟨bk9.1, bk9.2.1, bk9.2.2, (by omega)⟩ _ _ hT hF hS m733 m734 m735 m736 (m750.ext (fun _ _ => pb_r cx596 (by omega))) m751 m752 m737 m749 m738 m739 m740 m741 m742 m743 m744 ls (lv_sub hl [0, 3, 4, 5, 6, 7, 8] rfl)
              · have t753 : x596.toInt ≠ 0 := ti_ne c597 rfl (by decide)
                refine lv_iconst (v := (-1)) hx hb dX5_tryOrders_72 (by decide) ?_
                refine lv_goto (tgt := 98) hx hb dX5_tryOrders_73 (by decide) ?_
                refine lv_istore (lv' := [(8, .int (-1)), (7, .int (nI i401)), (0, .ref o0), (1, .int 3), (2, .int yr), (3, .long co), (5, .int ic), (6, .int lt)]) hx hb dX5_tryOrders_98 hl (by decide) rfl (fun ls hl => ?_)
                refine lv_iload hx hb dX5_tryOrders_100 (lv_at hl 0 rfl) ?_
                refine lv_iconst (v := (-1)) hx hb dX5_tryOrders_102 (by decide) ?_
                refine lv_icmp_eq (tgt := 194) hx hb dX5_tryOrders_103 (by decide) (fun c754 => ?_) (fun c754 => absurd c754 (by decide))
                refine lv_iinc (v := nI (i401 + 1)) (lv' := [(7, .int (nI (i401 + 1))), (8, .int (-1)), (0, .ref o0), (1, .int 3), (2, .int yr), (3, .long co), (5, .int ic), (6, .int lt)]) hx hb dX5_tryOrders_194 hl (k := 1) rfl (nI_add i401 1) (by decide) rfl (fun ls hl => ?_)
                refine lv_goto (tgt := 53) hx hb dX5_tryOrders_197 (by decide) ?_
                have bk9 : z412.toInt = (slO N 3 aC aY aB aA (pb vP) yr.toInt co.toInt ic.toInt lt.toInt R a0 (i401 + 1)).1 ∧ (0 ≤ (slO N 3 aC aY aB aA (pb vP) yr.toInt co.toInt ic.toInt lt.toInt R a0 (i401 + 1)).1 → ∀ k : Nat, k < N → (V409 k).toInt = (slO N 3 aC aY aB aA (pb vP) yr.toInt co.toInt ic.toInt lt.toInt R a0 (i401 + 1)).2 k) ∧ ∀ k : Nat, k < 3 → (V407 k).toInt = R k := by rw [sl_u (pb_1 (tn_nI (by omega)) cx596 (by omega))]; exact ⟨hj421, hj422, hj423⟩
                exact ih588 (i401 + 1) (by omega) (by omega) V407 V409 z412 ⟨bk9.1, bk9.2.1, bk9.2.2, (by omega)⟩ _ _ hT hF hS m402 m403 m404 m405 (m406.ext (fun _ _ => rfl)) m408 m410 m411 m413 m414 m415 m416 m417 m418 m419 m420 ls (lv_sub hl [0, 2, 3, 4, 5, 6, 7] rfl)
        exact key588 (7 - 0) 0 (by omega) (Nat.le_refl _) vR vZ la ⟨hla, hZ0, hR, (by omega)⟩ _ _ hT hF hS hc_aC hc_aY hc_aB hc_aA (hc_vP.ext (fun _ _ => rfl)) hc_vR hc_vZ hm_jb hm_la hm_xcs hm_xls hm_xin hm_xac hm_xpd hm_xtr hm_xbe ls (lv_sub hl [0, 1, 2, 3, 4, 5, 6] rfl)
      · have t755 : jb.toInt ≤ 3 := ti_nlt c399 (by decide) rfl
        refine lv_aload_n hx hb dX5_tryOrders_26 rfl (lv_at hl 0 rfl) ?_
        refine lv_iload hx hb dX5_tryOrders_27 (lv_at hl 5 rfl) ?_
        refine tw_put (v := .int lt) (ty := .int) hx hb hts bF2_X5 tyX5 tyX5_ok nmX5 hown hK hT hG hS hr_o0 shc_8 rfl 16 (by decide) (ht_at2 hts 0 rfl) (fun _ h9 => h9) rfl (by decide +kernel) rfl rfl (gl_at rfl (gi_all _)) dX5_tryOrders_29 (fun H locs hT oq m756 oj hS => ?_)
        have hF := hF.put hr_o0 skc_8 oq oj (by decide)
        have m757 := (oj 15 (by decide) (by decide)).trans hm_jb
        have m758 := (oj 5 (by decide) (by decide)).trans hm_xcs
        have m759 := (oj 6 (by decide) (by decide)).trans hm_xls
        have m760 := (oj 7 (by decide) (by decide)).trans hm_xin
        have m761 := (oj 8 (by decide) (by decide)).trans hm_xac
        have m762 := (oj 9 (by decide) (by decide)).trans hm_xpd
        have m763 := (oj 10 (by decide) (by decide)).trans hm_xtr
        have m764 := (oj 11 (by decide) (by decide)).trans hm_xbe
        have m765 := hc_aC.kept (oq _ (gne hr_xcs hr_o0 (by decide)))
        have m766 := hc_aY.kept (oq _ (gne hr_xls hr_o0 (by decide)))
        have m767 := hc_aB.kept (oq _ (gne hr_xin hr_o0 (by decide)))
        have m768 := hc_aA.kept (oq _ (gne hr_xac hr_o0 (by decide)))
        have m769 := hc_vP.kept (oq _ (gne hr_xpd hr_o0 (by decide)))
        have m770 := hc_vR.kept (oq _ (gne hr_xtr hr_o0 (by decide)))
        have m771 := hc_vZ.kept (oq _ (gne hr_xbe hr_o0 (by decide)))
        refine lv_aload_n hx hb dX5_tryOrders_32 rfl (lv_at hl 0 rfl) ?_
        refine tw_getM (v := .ref xtr) hx hb hts bF2_X5 hown hK hT hr_o0 shc_8 rfl 10 (by decide) (ht_at2 hts 9 rfl) (fun _ h9 => h9) m763 dX5_tryOrders_33 ?_
        refine lv_iconst (v := 0) hx hb dX5_tryOrders_36 (by decide) ?_
        refine lv_aload_n hx hb dX5_tryOrders_37 rfl (lv_at hl 0 rfl) ?_
        refine tw_getM (v := .ref xbe) hx hb hts bF2_X5 hown hK hT hr_o0 shc_8 rfl 11 (by decide) (ht_at2 hts 13 rfl) (fun _ h9 => h9) m764 dX5_tryOrders_38 ?_
        refine lv_iconst (v := 0) hx hb dX5_tryOrders_41 (by decide) ?_
        refine lv_aload_n hx hb dX5_tryOrders_42 rfl (lv_at hl 0 rfl) ?_
        refine tw_getM (v := .int jb) hx hb hts bF2_X5 hown hK hT hr_o0 shc_8 rfl 15 (by decide) (ht_at2 hts 1 rfl) (fun _ h9 => h9) m757 dX5_tryOrders_43 ?_
        refine tw_copyE (ty := .int) hx hb (hml.trans hl.1.symm) hown (ht_at2 hts 14 rfl) (ht_at2 hts 15 rfl) (ht_at2 hts 16 rfl) (ht_at2 hts 17 rfl) hK hT hG hS hr_xtr hr_xbe shc_68 shc_69 rfl rfl (by decide) (by decide) (fun h9 => by have q9 := ti_lt h9 rfl (show (0 : Int32).toInt = 0 from by decide); omega) (by have q9 := tn_of (show jb.toInt = jb.toInt from rfl) (by omega); have q8 : (0 : Int32).toNatClampNeg = 0 := (by decide); omega) (by have q9 := tn_of (show jb.toInt = jb.toInt from rfl) (by omega); have q8 : (0 : Int32).toNatClampNeg = 0 := (by decide); omega) (by decide) (by decide) (fun _ _ h9 => by obtain ⟨x9, e9, _⟩ := h9; exact ⟨x9, e9, rfl⟩) (fun _ _ _ h9 => by obtain ⟨x9, e9, a9, b9⟩ := h9; exact ⟨x9, e9, by omega, by omega⟩) (Nat.le_of_ble_eq_true rfl) (Nat.le_of_ble_eq_true rfl) dX5_tryOrders_46 (fun H locs hT oq ce772 hS => ?_)
        have hF := hF.ast hr_xbe skc_69 oq (by decide)
        have m773 := (el_kept (oq _ (gne hr_o0 hr_xbe (by decide)))).trans m757
        have m774 := (el_kept (oq _ (gne hr_o0 hr_xbe (by decide)))).trans m758
        have m775 := (el_kept (oq _ (gne hr_o0 hr_xbe (by decide)))).trans m759
        have m776 := (el_kept (oq _ (gne hr_o0 hr_xbe (by decide)))).trans m760
        have m777 := (el_kept (oq _ (gne hr_o0 hr_xbe (by decide)))).trans m761
        have m778 := (el_kept (oq _ (gne hr_o0 hr_xbe (by decide)))).trans m762
        have m779 := (el_kept (oq _ (gne hr_o0 hr_xbe (by decide)))).trans m763
        have m780 := (el_kept (oq _ (gne hr_o0 hr_xbe (by decide)))).trans m764
        have m781 := m765.kept (oq _ (gne hr_xcs hr_xbe (by decide)))
        have m782 := m766.kept (oq _ (gne hr_xls hr_xbe (by decide)))
        have m783 := m767.kept (oq _ (gne hr_xin hr_xbe (by decide)))
        have m784 := m768.kept (oq _ (gne hr_xac hr_xbe (by decide)))
        have m785 := m769.kept (oq _ (gne hr_xpd hr_xbe (by decide)))
        have m786 := m770.kept (oq _ (gne hr_xtr hr_xbe (by decide)))
        have m787 := (el_kept (oq _ (gne hr_o0 hr_xbe (by decide)))).trans m756
        obtain ⟨V788, m789, kV788⟩ := ct_of hT hr_xbe shc_69
        have cq790 : ∀ k : Nat, ((k : Nat) : Int) < jb.toInt → V788 k = vR k := fun k hk => Value.int.inj (Option.some.inj ((m789 k (by omega)).symm.trans ((ce772 k (by have q9 := tn_of (show jb.toInt = jb.toInt from rfl) (by omega); omega)).trans (m770 k (by omega)))))
        exact W.vret hx hb hr (fun t ht hW => ⟨⟨(lt, vR, V788), rfl, (by exact (by (try dsimp only); have e9 : N = 3 := (by omega); rw [sx_0 e9, if_neg (by omega)]; exact ⟨rfl, fun _ k hk => (congrArg Int32.toInt (cq790 k (by omega))).trans (hR k (by omega)), hR⟩)), by (try dsimp only); rw [ht]; exact ⟨hT, hF, m787, m785, m786, m789⟩⟩, hS.F ht⟩) hS.2.2 dX5_tryOrders_49
    · have t791 : la.toInt ≤ lt.toInt := ti_nlt c397 rfl rfl
      exact W.vret hx hb hr (fun t ht hW => ⟨⟨(la, vR, vZ), rfl, (by exact (by (try dsimp only); rw [sx_cut (fun j hj => by have := (hrg j (by omega)).2.1.1; omega) (fun j hj => (hrg j (by omega)).2.2.2.1) (by omega) ⟨by omega, by omega⟩]; exact ⟨by omega, hZ0, hR⟩)), by (try dsimp only); rw [ht]; exact ⟨hT, hF, hm_la, hc_vP, hc_vR, hc_vZ⟩⟩, hS.F ht⟩) hS.2.2 dX5_tryOrders_17
def w_c_tryOrdersC2 : List Cond := .code yX5_tryOrders cX5_tryOrders 11 none :: (HAppend.hAppend (α := List Cond) (β := List Cond) (γ := List Cond) [.fieldLink RX5 157 "SeaLand$Plans" "bestLate" "I", .fieldLink RX5 154 "SeaLand$Plans" "jobs" "I", .fieldLink RX5 41 "SeaLand$Plans" "placed" "[Z", .fieldLink RX5 29 "SeaLand$Plans" "costs" "[I", .code yX5_yearWithCost cX5_yearWithCost 5 (some .int), .methodLink RX5 164 yX5_yearWithCost, .static yX5_yearWithCost, .initialized RX5, .fieldLink RX5 32 "SeaLand$Plans" "lasts" "[I", .fieldLink RX5 45 "SeaLand$Plans" "trial" "[I", .fieldLink RX5 35 "SeaLand$Plans" "incomes" "[I", .fieldLink RX5 38 "SeaLand$Plans" "acres" "[I", .code yX5_tryOrders cX5_tryOrders 11 none, .fieldLink RX5 48 "SeaLand$Plans" "best" "[I", .methodLink RX5 100 arraycopyName, .native arraycopyName, .static arraycopyName, .initialized "java/lang/System", .methodLink RX5 160 yX5_tryOrders, .instanceMethod yX5_tryOrders, .selects RX5 yX5_tryOrders yX5_tryOrders] bs2)
set_option maxHeartbeats 4000000 in
set_option maxRecDepth 100000 in
theorem c_tryOrdersC2 (l : Launch) (dC : Nat → ClassId) (dI : Nat → Nat → Nat) (kA : Nat → ClassId) (adK adV : Nat → Nat) (G : gT) (H0 : Heap) (nC nS : Int) (o0 : Nat) (yr : Int32) (co : Int64) (ic : Int32) (lt : Int32) (jb : Int32) (la : Int32) (xcs : Nat) (xls : Nat) (xin : Nat) (xac : Nat) (xpd : Nat) (xtr : Nat) (xbe : Nat) (aC : Nat → Int32) (aY : Nat → Int32) (aB : Nat → Int32) (aA : Nat → Int32) (vP : Nat → Int32) (vR : Nat → Int32) (vZ : Nat → Int32) (N : Nat) (R : Nat → Int) (a0 : oA) (hT : gH (dC, dI) kA (SHc nC nS) G H0) (hr_o0 : G o0 = some 8) (hm_jb : el H0 o0 (dI 8 15) = some (.int jb)) (hm_la : el H0 o0 (dI 8 16) = some (.int la)) (hm_xcs : el H0 o0 (dI 8 5) = some (.ref xcs)) (hr_xcs : G xcs = some 63) (hm_xls : el H0 o0 (dI 8 6) = some (.ref xls)) (hr_xls : G xls = some 64) (hm_xin : el H0 o0 (dI 8 7) = some (.ref xin)) (hr_xin : G xin = some 65) (hm_xac : el H0 o0 (dI 8 8) = some (.ref xac)) (hr_xac : G xac = some 66) (hm_xpd : el H0 o0 (dI 8 9) = some (.ref xpd)) (hr_xpd : G xpd = some 67) (hm_xtr : el H0 o0 (dI 8 10) = some (.ref xtr)) (hr_xtr : G xtr = some 68) (hm_xbe : el H0 o0 (dI 8 11) = some (.ref xbe)) (hr_xbe : G xbe = some 69) (hq0 : 0 ≤ yr.toInt ∧ yr.toInt ≤ 200) (hq1 : 0 ≤ ic.toInt ∧ ic.toInt ≤ 200000) (hq2 : 0 ≤ lt.toInt ∧ lt.toInt ≤ 400000) (hq3 : 2 ≤ jb.toInt ∧ jb.toInt ≤ 7) (hco : 0 ≤ co.toInt ∧ co.toInt ≤ 21000000) (hN : jb.toInt = ((N : Nat) : Int)) (hrg : joR jb.toInt aC aY aB aA) (hba : a0.1 = -1 ∨ 0 ≤ a0.1) (hla : la.toInt = a0.1) (hZ0 : 0 ≤ a0.1 → ∀ k : Nat, k < N → (vZ k).toInt = a0.2 k) (hR : ∀ k : Nat, k < 2 → (vR k).toInt = R k) (hc_aC : ct H0 xcs 7 aC) (hc_aY : ct H0 xls 7 aY) (hc_aB : ct H0 xin 7 aB) (hc_aA : ct H0 xac 7 aA) (hc_vP : ct H0 xpd 7 vP) (hc_vR : ct H0 xtr 7 vR) (hc_vZ : ct H0 xbe 7 vZ) (hgC : 0 ≤ nC ∧ nC ≤ 40) (hgS : 0 ≤ nS ∧ nS ≤ 60) : Met l yX5_tryOrders w_c_tryOrdersC2 ({ frames := 7, cells := 0, slots := 0, locals := 210 }) (va_Pc [.ref o0, .int 2, .int yr, .long co, .int ic, .int lt] (fun U => U.heap = H0 ∧ va_K (dC, dI) vwCl (tyl kA) U ∧ EVC adK adV (gA G H0.size) U U.heap)) (va_Qv (fun (u : Int32 × (Nat → Int32) × (Nat → Int32)) => match u with | (la1, vR1, vZ1) => (la1.toInt = (sx N 2 aC aY aB aA (pb vP) yr.toInt co.toInt ic.toInt lt.toInt R a0).1 ∧ (0 ≤ (sx N 2 aC aY aB aA (pb vP) yr.toInt co.toInt ic.toInt lt.toInt R a0).1 → ∀ k : Nat, k < N → (vZ1 k).toInt = (sx N 2 aC aY aB aA (pb vP) yr.toInt co.toInt ic.toInt lt.toInt R a0).2 k) ∧ ∀ k : Nat, k < 2 → (vR1 k).toInt = R k)) (fun (u : Int32 × (Nat → Int32) × (Nat → Int32)) (t : State) => match u with | (la1, vR1, vZ1) => gH (dC, dI) kA (SHc nC nS) G t.heap ∧ gF (dC, dI) SKc G ([(8, 16), (67, 0), (68, 0), (69, 0)] : List (Nat × Nat)) H0 t.heap ∧ el t.heap o0 (dI 8 16) = some (.int la1) ∧ ct t.heap xpd 7 vP ∧ ct t.heap xtr 7 vR1 ∧ ct t.heap xbe 7 vZ1) (gA G H0.size)) 0 0 (gA G H0.size) := by
  refine Met.ofW (cc := cX5_tryOrders) (maxL := 11) (ret := none) (by decide) rfl ?_
  intro p e s m args below meth c s₁ B hml hv
  obtain ⟨rfl, hH0, hK, hE⟩ := hv
  have hx := B.exec
  have hb := B.bytes
  have hr := B.returns
  have hts := atoms_spec (ws := w_c_tryOrdersC2) B.pre
  have hown : s.vm.findClass RX5 = some m.cls := findClass_of_methodNamed B.named
  have hlocks := B.notSynchronized
  subst hH0
  generalize hAe : gA G s.heap.size = A at hE ⊢
  have hA : ∀ q : Nat, s.heap.size ≤ q → A q := fun q h => by rw [← hAe]; exact Or.inr h
  have hG := gA_of hAe
  have hS : va_S A s.heap s.heap [] := va_S.rf
  have hF : gF (dC, dI) SKc G ([(8, 16), (67, 0), (68, 0), (69, 0)] : List (Nat × Nat)) s.heap s.heap := gF.rf
  have hl := lv_entry ([.ref o0, .int 2, .int yr, .long co, .int ic, .int lt]) (n := 11) (Nat.le_of_ble_eq_true rfl)
  rw [lg_entry_eq]
  generalize (lg_sl ([.ref o0, .int 2, .int yr, .long co, .int ic, .int lt]) ++ List.replicate (11 - (lg_sl ([.ref o0, .int 2, .int yr, .long co, .int ic, .int lt])).length) Slot.unset).toArray = ls at hl ⊢
  have hl : lv_has ls 11 [(0, .ref o0), (1, .int 2), (2, .int yr), (3, .long co), (5, .int ic), (6, .int lt)] := hl
  refine lv_aload_n hx hb dX5_tryOrders_0 rfl (lv_at hl 0 rfl) ?_
  refine tw_getM (v := .int la) hx hb hts bF2_X5 hown hK hT hr_o0 shc_8 rfl 16 (by decide) (ht_at2 hts 0 rfl) (fun _ h9 => h9) hm_la dX5_tryOrders_1 ?_
  refine lv_iconst (v := (-1)) hx hb dX5_tryOrders_4 (by decide) ?_
  have t1 : -2147483648 ≤ la.toInt ∧ la.toInt ≤ 2147483647 := ti_all la
  refine lv_icmp_eq (tgt := 18) hx hb dX5_tryOrders_5 (by decide) (fun c2 => ?_) (fun c2 => ?_)
  · have t3 : la.toInt = (-1) := ti_eq c2 rfl (by decide)
    refine lv_iload_n hx hb dX5_tryOrders_18 rfl (lv_at hl 1 rfl) ?_
    refine lv_aload_n hx hb dX5_tryOrders_19 rfl (lv_at hl 0 rfl) ?_
    refine tw_getM (v := .int jb) hx hb hts bF2_X5 hown hK hT hr_o0 shc_8 rfl 15 (by decide) (ht_at2 hts 1 rfl) (fun _ h9 => h9) hm_jb dX5_tryOrders_20 ?_
    refine lv_icmp_lt (tgt := 50) hx hb dX5_tryOrders_23 (by decide) (fun c4 => ?_) (fun c4 => ?_)
    · have t5 : 2 < jb.toInt := ti_lt c4 (by decide) rfl
      refine lv_iconst (v := 0) hx hb dX5_tryOrders_50 (by decide) ?_
      refine lv_istore (lv' := [(7, .int 0), (0, .ref o0), (1, .int 2), (2, .int yr), (3, .long co), (5, .int ic), (6, .int lt)]) hx hb dX5_tryOrders_51 hl (by decide) rfl (fun ls hl => ?_)
      have key193 : ∀ (n193 i6 : Nat), i6 + n193 = 7 → 0 ≤ i6 → ∀ (V12 : Nat → Int32), ∀ (V14 : Nat → Int32), ∀ (z17 : Int32), ((z17.toInt = (slO N 2 aC aY aB aA (pb vP) yr.toInt co.toInt ic.toInt lt.toInt R a0 i6).1) ∧ (0 ≤ (slO N 2 aC aY aB aA (pb vP) yr.toInt co.toInt ic.toInt lt.toInt R a0 i6).1 → ∀ k : Nat, k < N → (V14 k).toInt = (slO N 2 aC aY aB aA (pb vP) yr.toInt co.toInt ic.toInt lt.toInt R a0 i6).2 k) ∧ (∀ k : Nat, k < 2 → (V12 k).toInt = R k) ∧ (((i6 : Nat) : Int) ≤ jb.toInt)) → ∀ (H : Heap) (locs : List Loc), gH (dC, dI) kA (SHc nC nS) G H → gF (dC, dI) SKc G ([(8, 16), (67, 0), (68, 0), (69, 0)] : List (Nat × Nat)) s.heap H → va_S A s.heap H locs → ct H xcs 7 aC → ct H xls 7 aY → ct H xin 7 aB → ct H xac 7 aA → ct H xpd 7 vP → ct H xtr 7 V12 → ct H xbe 7 V14 → el H o0 (dI 8 15) = some (.int jb) → el H o0 (dI 8 16) = some (.int z17) → el H o0 (dI 8 5) = some (.ref xcs) → el H o0 (dI 8 6) = some (.ref xls) → el H o0 (dI 8 7) = some (.ref xin) → el H o0 (dI 8 8) = some (.ref xac) → el H o0 (dI 8 9) = some (.ref xpd) → el H o0 (dI 8 10) = some (.ref xtr) → el H o0 (dI 8 11) = some (.ref xbe) → ∀ ls : Array Slot, lv_has ls 11 [(7, .int (nI i6)), (0, .ref o0), (1, .int 2), (2, .int yr), (3, .long co), (5, .int ic), (6, .int lt)] → W p l e (headSpec w_c_tryOrdersC2 ({ frames := 7, cells := 0, slots := 0, locals := 210 })).room s m #[.ref o0, .int 2, .int yr, .long co, .int ic, .int lt] below meth c H locs 0 0 (MQ below (va_Qv (fun (u : Int32 × (Nat → Int32) × (Nat → Int32)) => match u with | (la1, vR1, vZ1) => (la1.toInt = (sx N 2 aC aY aB aA (pb vP) yr.toInt co.toInt ic.toInt lt.toInt R a0).1 ∧ (0 ≤ (sx N 2 aC aY aB aA (pb vP) yr.toInt co.toInt ic.toInt lt.toInt R a0).1 → ∀ k : Nat, k < N → (vZ1 k).toInt = (sx N 2 aC aY aB aA (pb vP) yr.toInt co.toInt ic.toInt lt.toInt R a0).2 k) ∧ ∀ k : Nat, k < 2 → (vR1 k).toInt = R k)) (fun (u : Int32 × (Nat → Int32) × (Nat → Int32)) (t : State) => match u with | (la1, vR1, vZ1) => gH (dC, dI) kA (SHc nC nS) G t.heap ∧ gF (dC, dI) SKc G ([(8, 16), (67, 0), (68, 0), (69, 0)] : List (Nat × Nat)) s.heap t.heap ∧ el t.heap o0 (dI 8 16) = some (.int la1) ∧ ct t.heap xpd 7 vP ∧ ct t.heap xtr 7 vR1 ∧ ct t.heap xbe 7 vZ1) A) #[.ref o0, .int 2, .int yr, .long co, .int ic, .int lt] s 0 0 A) (F0 m 53 ls []) := by
        intro n193
        induction n193 with
        | zero =>
          intro i6 hn193 hlo194 V12 V14 z17 ⟨hj26, hj27, hj28, hj29⟩ H locs hT hF hS m7 m8 m9 m10 m11 m13 m15 m16 m18 m19 m20 m21 m22 m23 m24 m25 ls hl
          obtain rfl : 7 = i6 := by omega
          refine lv_iload hx hb dX5_tryOrders_53 (lv_at hl 0 rfl) ?_
          refine lv_aload_n hx hb dX5_tryOrders_55 rfl (lv_at hl 1 rfl) ?_
          refine tw_getM (v := .int jb) hx hb hts bF2_X5 hown hK hT hr_o0 shc_8 rfl 15 (by decide) (ht_at2 hts 1 rfl) (fun _ h9 => h9) m16 dX5_tryOrders_56 ?_
          refine lv_icmp_ge (tgt := 200) hx hb dX5_tryOrders_59 (by decide) (fun c195 => ?_) (fun c195 => (by exfalso; have q9 : ((7 : Nat) : Int) < jb.toInt := ti_nle c195 rfl (nI_toInt (by omega)); omega))
          have t196 : jb.toInt ≤ ((7 : Nat) : Int) := ti_le c195 rfl (nI_toInt (by omega))
          exact W.vret hx hb hr (fun t ht hW => ⟨⟨(z17, V12, V14), rfl, (by exact (by (try dsimp only); have e9 : N = 7 := (by omega); rw [sx_s (by omega)]; subst e9; exact ⟨hj26, hj27, hj28⟩)), by (try dsimp only); rw [ht]; exact ⟨hT, hF, m18, m11, m13, m15⟩⟩, hS.F ht⟩) hS.2.2 dX5_tryOrders_200
        | succ n193 ih193 =>
          intro i6 hn193 hlo194 V12 V14 z17 ⟨hj26, hj27, hj28, hj29⟩ H locs hT hF hS m7 m8 m9 m10 m11 m13 m15 m16 m18 m19 m20 m21 m22 m23 m24 m25 ls hl
          have hlt196 : i6 < 7 := by omega
          refine lv_iload hx hb dX5_tryOrders_53 (lv_at hl 0 rfl) ?_
          refine lv_aload_n hx hb dX5_tryOrders_55 rfl (lv_at hl 1 rfl) ?_
          refine tw_getM (v := .int jb) hx hb hts bF2_X5 hown hK hT hr_o0 shc_8 rfl 15 (by decide) (ht_at2 hts 1 rfl) (fun _ h9 => h9) m16 dX5_tryOrders_56 ?_
          refine lv_icmp_ge (tgt := 200) hx hb dX5_tryOrders_59 (by decide) (fun c197 => ?_) (fun c197 => ?_)
          · have t198 : jb.toInt ≤ ((i6 : Nat) : Int) := ti_le c197 rfl (nI_toInt (by omega))
            exact W.vret hx hb hr (fun t ht hW => ⟨⟨(z17, V12, V14), rfl, (by exact (by (try dsimp only); have e9 : N = i6 := (by omega); rw [sx_s (by omega)]; subst e9; exact ⟨hj26, hj27, hj28⟩)), by (try dsimp only); rw [ht]; exact ⟨hT, hF, m18, m11, m13, m15⟩⟩, hS.F ht⟩) hS.2.2 dX5_tryOrders_200
          · have t199 : ((i6 : Nat) : Int) < jb.toInt := ti_nle c197 rfl (nI_toInt (by omega))
            refine lv_aload_n hx hb dX5_tryOrders_62 rfl (lv_at hl 1 rfl) ?_
            refine tw_getM (v := .ref xpd) hx hb hts bF2_X5 hown hK hT hr_o0 shc_8 rfl 9 (by decide) (ht_at2 hts 2 rfl) (fun _ h9 => h9) m23 dX5_tryOrders_63 ?_
            refine lv_iload hx hb dX5_tryOrders_66 (lv_at hl 0 rfl) ?_
            refine tw_zald (i := (nI i6)) hx hb hK hT hr_xpd shc_67 rfl (vp_in_nI (by omega) (by decide)) dX5_tryOrders_68 (fun v9 m200 h9 => ?_)
            obtain ⟨x201, rfl, gx201, kx201⟩ := h9
            have cx201 := m11.at m200 (by have q9 := tn_of (show (nI i6).toInt = ((i6 : Nat) : Int) from (nI_toInt (by omega))) (by omega); omega)
            refine lv_if_eq (tgt := 76) hx hb dX5_tryOrders_69 (by decide) (fun c202 => ?_) (fun c202 => ?_)
            · have t203 : x201.toInt = 0 := ti_eq c202 rfl (by decide)
              refine lv_iload_n hx hb dX5_tryOrders_76 rfl (lv_at hl 3 rfl) ?_
              refine lv_lload_n hx hb dX5_tryOrders_77 rfl (lv_at hl 4 rfl) ?_
              refine lv_iload hx hb dX5_tryOrders_78 (lv_at hl 5 rfl) ?_
              refine lv_aload_n hx hb dX5_tryOrders_80 rfl (lv_at hl 1 rfl) ?_
              refine tw_getM (v := .ref xcs) hx hb hts bF2_X5 hown hK hT hr_o0 shc_8 rfl 5 (by decide) (ht_at2 hts 3 rfl) (fun _ h9 => h9) m19 dX5_tryOrders_81 ?_
              refine lv_iload hx hb dX5_tryOrders_84 (lv_at hl 0 rfl) ?_
              refine tw_iald (i := (nI i6)) hx hb hK hT hr_xcs shc_63 rfl (vp_in_nI (by omega) (by decide)) dX5_tryOrders_86 (fun v9 m204 h9 => ?_)
              obtain ⟨x205, rfl, gx205, kx205⟩ := h9
              have cx205 := m7.at m204 (by have q9 := tn_of (show (nI i6).toInt = ((i6 : Nat) : Int) from (nI_toInt (by omega))) (by omega); omega)
              have t206 : x205.toInt = (aC i6).toInt := congrArg Int32.toInt (cx205.trans (by rw [tn_nI (by omega)]))
              have t207 : 0 ≤ (aC i6).toInt ∧ (aC i6).toInt ≤ 1000000 := (hrg i6 (by omega)).1
              have hFc := gA_free hG hA hS
              refine va_calli (va_runS (As := [.int yr, .long co, .int ic, .int x205]) (rest := []) ⟨hx, hb, hml, hown, hts⟩ (c_yearC l dC dI kA adK adV G H nC nS yr co ic x205 hT (by have q8 := ti_all yr; omega) (by have q8 := ti_all ic; omega) (by have q8 := ti_all x205; omega) (by omega) (by omega) (by omega)) (va_cwS 4 hts (goodIn_app (goodIn_r _ [6, 7, 8] rfl (by decide +kernel)) (goodIn_ca (goodIn_r _ [5] rfl (by decide +kernel)) (bs2_in _ _))) rfl rfl rfl (by decide +kernel) ⟨(Nat.le_of_ble_eq_true rfl), (Nat.le_of_ble_eq_true rfl)⟩) ⟨fun a U g mk q => by obtain ⟨q0, q1, qK, qE⟩ := q; exact ⟨q0, q1, va_K.moved (u := U) (U := U.calling g mk a) (Vm.Alike.refl U.vm) qK, EVC.blind g mk a qE⟩, fun U hU hW => ⟨rfl, hU, va_K.moved hW.alike hK, hE.call hS hFc hU hW⟩⟩ rfl rfl hl.1 rfl (lv_room (Nat.le_of_ble_eq_true rfl)) dX5_tryOrders_87 ⟨(Nat.le_of_ble_eq_true rfl), (Nat.le_of_ble_eq_true rfl)⟩) hS (fun q _ h => hFc q h) hFc (fun r208 u t H locs ht hvm hw209 hB _ _ hS => ?_)
              obtain ⟨hT, hF1⟩ := hB
              rw [ht] at hT hF1
              have m210 := m7.kept (hF1.arr hr_xcs skc_63 (by decide))
              have m211 := m8.kept (hF1.arr hr_xls skc_64 (by decide))
              have m212 := m9.kept (hF1.arr hr_xin skc_65 (by decide))
              have m213 := m10.kept (hF1.arr hr_xac skc_66 (by decide))
              have m214 := m11.kept (hF1.arr hr_xpd skc_67 (by decide))
              have m215 := m13.kept (hF1.arr hr_xtr skc_68 (by decide))
              have m216 := m15.kept (hF1.arr hr_xbe skc_69 (by decide))
              have m217 := (hF1.fld hr_o0 skc_8 (k := 15) (by decide) (by decide)).trans m16
              have m218 := (hF1.fld hr_o0 skc_8 (k := 16) (by decide) (by decide)).trans m18
              have m219 := (hF1.fld hr_o0 skc_8 (k := 5) (by decide) (by decide)).trans m19
              have m220 := (hF1.fld hr_o0 skc_8 (k := 6) (by decide) (by decide)).trans m20
              have m221 := (hF1.fld hr_o0 skc_8 (k := 7) (by decide) (by decide)).trans m21
              have m222 := (hF1.fld hr_o0 skc_8 (k := 8) (by decide) (by decide)).trans m22
              have m223 := (hF1.fld hr_o0 skc_8 (k := 9) (by decide) (by decide)).trans m23
              have m224 := (hF1.fld hr_o0 skc_8 (k := 10) (by decide) (by decide)).trans m24
              have m225 := (hF1.fld hr_o0 skc_8 (k := 11) (by decide) (by decide)).trans m25
              have m226 := (el_kept (hF1.arr hr_xpd skc_67 (by decide))).trans m200
              have m227 := (el_kept (hF1.arr hr_xcs skc_63 (by decide))).trans m204
              have hF := hF.more hF1 (by decide)
              try dsimp only at hw209
              obtain ⟨h228, hf229⟩ := hw209
              have yw9 : yw yr.toInt co.toInt ic.toInt (aC i6).toInt r208.toInt := by rw [show (aC i6).toInt = x205.toInt from by omega]; exact hf229
              refine lv_aload_n hx hb dX5_tryOrders_90 rfl (lv_at hl 1 rfl) ?_
              refine tw_getM (v := .ref xls) hx hb hts bF2_X5 hown hK hT hr_o0 shc_8 rfl 6 (by decide) (ht_at2 hts 8 rfl) (fun _ h9 => h9) m220 dX5_tryOrders_91 ?_
              refine lv_iload hx hb dX5_tryOrders_94 (lv_at hl 0 rfl) ?_
              refine tw_iald (i := (nI i6)) hx hb hK hT hr_xls shc_64 rfl (vp_in_nI (by omega) (by decide)) dX5_tryOrders_96 (fun v9 m230 h9 => ?_)
              obtain ⟨x231, rfl, gx231, kx231⟩ := h9
              have cx231 := m211.at m230 (by have q9 := tn_of (show (nI i6).toInt = ((i6 : Nat) : Int) from (nI_toInt (by omega))) (by omega); omega)
              have t232 : x231.toInt = (aY i6).toInt := congrArg Int32.toInt (cx231.trans (by rw [tn_nI (by omega)]))
              have t233 : 1 ≤ (aY i6).toInt ∧ (aY i6).toInt ≤ 20 := (hrg i6 (by omega)).2.1
              refine lv_iadd hx hb dX5_tryOrders_97 ?_
              refine lv_topi (fun x234 ex234 => ?_)
              have t235 : x234.toInt = r208.toInt + x231.toInt := ti_add ex234 rfl rfl (by omega) (by omega)
              refine lv_istore (lv' := [(8, .int x234), (7, .int (nI i6)), (0, .ref o0), (1, .int 2), (2, .int yr), (3, .long co), (5, .int ic), (6, .int lt)]) hx hb dX5_tryOrders_98 hl (by decide) rfl (fun ls hl => ?_)
              refine lv_iload hx hb dX5_tryOrders_100 (lv_at hl 0 rfl) ?_
              refine lv_iconst (v := (-1)) hx hb dX5_tryOrders_102 (by decide) ?_
              refine lv_icmp_eq (tgt := 194) hx hb dX5_tryOrders_103 (by decide) (fun c236 => (by exfalso; have q9 : x234.toInt = (-1) := ti_eq c236 rfl (by decide); omega)) (fun c236 => ?_)
              have t237 : x234.toInt ≠ (-1) := ti_ne c236 rfl (by decide)
              refine lv_iload hx hb dX5_tryOrders_106 (lv_at hl 0 rfl) ?_
              refine lv_sipush (v := 200) hx hb dX5_tryOrders_108 (by decide) ?_
              refine lv_icmp_gt (tgt := 194) hx hb dX5_tryOrders_111 (by decide) (fun c238 => ?_) (fun c238 => ?_)
              · have t239 : 200 < x234.toInt := ti_lt c238 (by decide) rfl
                refine lv_iinc (v := nI (i6 + 1)) (lv' := [(7, .int (nI (i6 + 1))), (8, .int x234), (0, .ref o0), (1, .int 2), (2, .int yr), (3, .long co), (5, .int ic), (6, .int lt)]) hx hb dX5_tryOrders_194 hl (k := 1) rfl (nI_add i6 1) (by decide) rfl (fun ls hl => ?_)
                refine lv_goto (tgt := 53) hx hb dX5_tryOrders_197 (by decide) ?_
                have bk9 : z17.toInt = (slO N 2 aC aY aB aA (pb vP) yr.toInt co.toInt ic.toInt lt.toInt R a0 (i6 + 1)).1 ∧ (0 ≤ (slO N 2 aC aY aB aA (pb vP) yr.toInt co.toInt ic.toInt lt.toInt R a0 (i6 + 1)).1 → ∀ k : Nat, k < N → (V14 k).toInt = (slO N 2 aC aY aB aA (pb vP) yr.toInt co.toInt ic.toInt lt.toInt R a0 (i6 + 1)).2 k) ∧ ∀ k : Nat, k < 2 → (V12 k).toInt = R k := by rw [sl_n (yw_none yw9 (by omega) (by omega))]; exact ⟨hj26, hj27, hj28⟩
                exact ih193 (i6 + 1) (by omega) (by omega) V12 V14 z17 ⟨bk9.1, bk9.2.1, bk9.2.2, (by omega)⟩ _ _ hT hF hS m210 m211 m212 m213 (m214.ext (fun _ _ => rfl)) m215 m216 m217 m218 m219 m220 m221 m222 m223 m224 m225 ls (lv_sub hl [0, 2, 3, 4, 5, 6, 7] rfl)
              · have t240 : x234.toInt ≤ 200 := ti_nlt c238 (by decide) rfl
                refine lv_lload_n hx hb dX5_tryOrders_114 rfl (lv_at hl 5 rfl) ?_
                refine lv_iload hx hb dX5_tryOrders_115 (lv_at hl 6 rfl) ?_
                refine lv_i2l (v := ic.toInt64) hx hb dX5_tryOrders_117 rfl ?_
                refine lv_iload hx hb dX5_tryOrders_118 (lv_at hl 0 rfl) ?_
                refine lv_iload_n hx hb dX5_tryOrders_120 rfl (lv_at hl 4 rfl) ?_
                refine lv_isub hx hb dX5_tryOrders_121 ?_
                refine lv_topi (fun x241 ex241 => ?_)
                have t242 : x241.toInt = x234.toInt - yr.toInt := ti_sub ex241 rfl rfl (by omega) (by omega)
                refine lv_i2l (v := x241.toInt64) hx hb dX5_tryOrders_122 rfl ?_
                refine lv_lmul hx hb dX5_tryOrders_123 ?_
                refine lv_topl (fun y243 ey243 => ?_)
                have t244 : y243.toInt = ic.toInt * x241.toInt ∧ -(200000 * 200) ≤ y243.toInt ∧ y243.toInt ≤ 200000 * 200 := tl_m ey243 ((Int32.toInt_toInt64 _).trans rfl) ((Int32.toInt_toInt64 _).trans rfl) (A := 200000) (B := 200) (by omega) (by omega) (by omega) (by omega) (by decide)
                have t245 : y243.toInt = ic.toInt * (x234.toInt - yr.toInt) := (by rw [show x234.toInt - yr.toInt = x241.toInt from by omega]; omega)
                refine lv_ladd hx hb dX5_tryOrders_124 ?_
                refine lv_topl (fun y246 ey246 => ?_)
                have t247 : y246.toInt = co.toInt + y243.toInt := tl_a ey246 rfl rfl (by omega) (by omega)
                refine lv_aload_n hx hb dX5_tryOrders_125 rfl (lv_at hl 2 rfl) ?_
                refine tw_getM (v := .ref xcs) hx hb hts bF2_X5 hown hK hT hr_o0 shc_8 rfl 5 (by decide) (ht_at2 hts 3 rfl) (fun _ h9 => h9) m219 dX5_tryOrders_126 ?_
                refine lv_iload hx hb dX5_tryOrders_129 (lv_at hl 1 rfl) ?_
                refine tw_iald (i := (nI i6)) hx hb hK hT hr_xcs shc_63 rfl (vp_in_nI (by omega) (by decide)) dX5_tryOrders_131 (fun v9 m248 h9 => ?_)
                obtain ⟨x249, rfl, gx249, kx249⟩ := h9
                have cx249 := m210.at m248 (by have q9 := tn_of (show (nI i6).toInt = ((i6 : Nat) : Int) from (nI_toInt (by omega))) (by omega); omega)
                obtain rfl : x205 = x249 := (el_same m248 m227 rfl).symm
                refine lv_i2l (v := x205.toInt64) hx hb dX5_tryOrders_132 rfl ?_
                refine lv_lsub hx hb dX5_tryOrders_133 ?_
                refine lv_topl (fun y250 ey250 => ?_)
                have t251 : y250.toInt = y246.toInt - x205.toInt := tl_s ey250 rfl ((Int32.toInt_toInt64 _).trans rfl) (by omega) (by omega)
                have dn9 := (yw_some (last := (aY i6).toInt) (d := x234.toInt) yw9 (by omega) (by omega) (by omega))
                have dc9 := dn_cash dn9 (by omega) (by omega)
                refine lv_lstore (lv' := [(9, .long y250), (8, .int x234), (7, .int (nI i6)), (0, .ref o0), (1, .int 2), (2, .int yr), (3, .long co), (5, .int ic), (6, .int lt)]) hx hb dX5_tryOrders_134 hl (by decide) rfl (fun ls hl => ?_)
                refine lv_aload_n hx hb dX5_tryOrders_136 rfl (lv_at hl 3 rfl) ?_
                refine tw_getM (v := .ref xpd) hx hb hts bF2_X5 hown hK hT hr_o0 shc_8 rfl 9 (by decide) (ht_at2 hts 2 rfl) (fun _ h9 => h9) m223 dX5_tryOrders_137 ?_
                refine lv_iload hx hb dX5_tryOrders_140 (lv_at hl 2 rfl) ?_
                refine lv_iconst (v := 1) hx hb dX5_tryOrders_142 (by decide) ?_
                refine tw_zast (i := (nI i6)) (x := 1) hx hb hK hT hG hS hr_xpd shc_67 rfl (vp_in_nI (by omega) (by decide)) (gi_z (rg_t (a := 1) (by decide) (by omega) (by omega)) (by decide) (by decide)) dX5_tryOrders_143 (fun H locs hT oq m252 oi hS => ?_)
                have hF := hF.ast hr_xpd skc_67 oq (by decide)
                have m253 := m210.kept (oq _ (gne hr_xcs hr_xpd (by decide)))
                have m254 := m211.kept (oq _ (gne hr_xls hr_xpd (by decide)))
                have m255 := m212.kept (oq _ (gne hr_xin hr_xpd (by decide)))
                have m256 := m213.kept (oq _ (gne hr_xac hr_xpd (by decide)))
                have m257 := m214.put (show el H xpd _ = some (.int 1) from m252) oi
                have m258 := m215.kept (oq _ (gne hr_xtr hr_xpd (by decide)))
                have m259 := m216.kept (oq _ (gne hr_xbe hr_xpd (by decide)))
                have m260 := (el_kept (oq _ (gne hr_o0 hr_xpd (by decide)))).trans m217
                have m261 := (el_kept (oq _ (gne hr_o0 hr_xpd (by decide)))).trans m218
                have m262 := (el_kept (oq _ (gne hr_o0 hr_xpd (by decide)))).trans m219
                have m263 := (el_kept (oq _ (gne hr_o0 hr_xpd (by decide)))).trans m220
                have m264 := (el_kept (oq _ (gne hr_o0 hr_xpd (by decide)))).trans m221
                have m265 := (el_kept (oq _ (gne hr_o0 hr_xpd (by decide)))).trans m222
                have m266 := (el_kept (oq _ (gne hr_o0 hr_xpd (by decide)))).trans m223
                have m267 := (el_kept (oq _ (gne hr_o0 hr_xpd (by decide)))).trans m224
                have m268 := (el_kept (oq _ (gne hr_o0 hr_xpd (by decide)))).trans m225
                have m269 := (el_kept (oq _ (gne hr_xcs hr_xpd (by decide)))).trans m227
                have m270 := (el_kept (oq _ (gne hr_xls hr_xpd (by decide)))).trans m230
                refine lv_aload_n hx hb dX5_tryOrders_144 rfl (lv_at hl 3 rfl) ?_
                refine tw_getM (v := .ref xtr) hx hb hts bF2_X5 hown hK hT hr_o0 shc_8 rfl 10 (by decide) (ht_at2 hts 9 rfl) (fun _ h9 => h9) m267 dX5_tryOrders_145 ?_
                refine lv_iload_n hx hb dX5_tryOrders_148 rfl (lv_at hl 4 rfl) ?_
                refine lv_iload hx hb dX5_tryOrders_149 (lv_at hl 2 rfl) ?_
                refine tw_iast (i := 2) (x := (nI i6)) hx hb hK hT hG hS hr_xtr shc_68 rfl (by unfold vp_in; decide) (gi_of (show (nI i6).toInt = ((i6 : Nat) : Int) from (nI_toInt (by omega))) (by omega) (by omega)) dX5_tryOrders_151 (fun H locs hT oq m271 oi hS => ?_)
                have hF := hF.ast hr_xtr skc_68 oq (by decide)
                have m272 := m253.kept (oq _ (gne hr_xcs hr_xtr (by decide)))
                have m273 := m254.kept (oq _ (gne hr_xls hr_xtr (by decide)))
                have m274 := m255.kept (oq _ (gne hr_xin hr_xtr (by decide)))
                have m275 := m256.kept (oq _ (gne hr_xac hr_xtr (by decide)))
                have m276 := m257.kept (oq _ (gne hr_xpd hr_xtr (by decide)))
                have m277 := m258.put m271 oi
                have m278 := m259.kept (oq _ (gne hr_xbe hr_xtr (by decide)))
                have m279 := (el_kept (oq _ (gne hr_o0 hr_xtr (by decide)))).trans m260
                have m280 := (el_kept (oq _ (gne hr_o0 hr_xtr (by decide)))).trans m261
                have m281 := (el_kept (oq _ (gne hr_o0 hr_xtr (by decide)))).trans m262
                have m282 := (el_kept (oq _ (gne hr_o0 hr_xtr (by decide)))).trans m263
                have m283 := (el_kept (oq _ (gne hr_o0 hr_xtr (by decide)))).trans m264
                have m284 := (el_kept (oq _ (gne hr_o0 hr_xtr (by decide)))).trans m265
                have m285 := (el_kept (oq _ (gne hr_o0 hr_xtr (by decide)))).trans m266
                have m286 := (el_kept (oq _ (gne hr_o0 hr_xtr (by decide)))).trans m267
                have m287 := (el_kept (oq _ (gne hr_o0 hr_xtr (by decide)))).trans m268
                have m288 := (el_kept (oq _ (gne hr_xcs hr_xtr (by decide)))).trans m269
                have m289 := (el_kept (oq _ (gne hr_xls hr_xtr (by decide)))).trans m270
                refine lv_aload_n hx hb dX5_tryOrders_152 rfl (lv_at hl 3 rfl) ?_
                refine lv_iload_n hx hb dX5_tryOrders_153 rfl (lv_at hl 4 rfl) ?_
                refine lv_iconst (v := 1) hx hb dX5_tryOrders_154 (by decide) ?_
                refine lv_iadd hx hb dX5_tryOrders_155 ?_
                refine lv_topi (fun x290 ex290 => ?_)
                obtain rfl : x290 = 3 := ex290.trans (by decide)
                refine lv_iload hx hb dX5_tryOrders_156 (lv_at hl 1 rfl) ?_
                refine lv_lload hx hb dX5_tryOrders_158 (lv_at hl 0 rfl) ?_
                refine lv_iload hx hb dX5_tryOrders_160 (lv_at hl 7 rfl) ?_
                refine lv_aload_n hx hb dX5_tryOrders_162 rfl (lv_at hl 3 rfl) ?_
                refine tw_getM (v := .ref xin) hx hb hts bF2_X5 hown hK hT hr_o0 shc_8 rfl 7 (by decide) (ht_at2 hts 10 rfl) (fun _ h9 => h9) m283 dX5_tryOrders_163 ?_
                refine lv_iload hx hb dX5_tryOrders_166 (lv_at hl 2 rfl) ?_
                refine tw_iald (i := (nI i6)) hx hb hK hT hr_xin shc_65 rfl (vp_in_nI (by omega) (by decide)) dX5_tryOrders_168 (fun v9 m291 h9 => ?_)
                obtain ⟨x292, rfl, gx292, kx292⟩ := h9
                have cx292 := m274.at m291 (by have q9 := tn_of (show (nI i6).toInt = ((i6 : Nat) : Int) from (nI_toInt (by omega))) (by omega); omega)
                have t293 : x292.toInt = (aB i6).toInt := congrArg Int32.toInt (cx292.trans (by rw [tn_nI (by omega)]))
                have t294 : 0 ≤ (aB i6).toInt ∧ (aB i6).toInt ≤ 100000 := (hrg i6 (by omega)).2.2.1
                refine lv_iadd hx hb dX5_tryOrders_169 ?_
                refine lv_topi (fun x295 ex295 => ?_)
                have t296 : x295.toInt = ic.toInt + x292.toInt := ti_add ex295 rfl rfl (by omega) (by omega)
                refine lv_iload hx hb dX5_tryOrders_170 (lv_at hl 8 rfl) ?_
                refine lv_aload_n hx hb dX5_tryOrders_172 rfl (lv_at hl 3 rfl) ?_
                refine tw_getM (v := .ref xac) hx hb hts bF2_X5 hown hK hT hr_o0 shc_8 rfl 8 (by decide) (ht_at2 hts 11 rfl) (fun _ h9 => h9) m284 dX5_tryOrders_173 ?_
                refine lv_iload hx hb dX5_tryOrders_176 (lv_at hl 2 rfl) ?_
                refine tw_iald (i := (nI i6)) hx hb hK hT hr_xac shc_66 rfl (vp_in_nI (by omega) (by decide)) dX5_tryOrders_178 (fun v9 m297 h9 => ?_)
                obtain ⟨x298, rfl, gx298, kx298⟩ := h9
                have cx298 := m275.at m297 (by have q9 := tn_of (show (nI i6).toInt = ((i6 : Nat) : Int) from (nI_toInt (by omega))) (by omega); omega)
                have t299 : x298.toInt = (aA i6).toInt := congrArg Int32.toInt (cx298.trans (by rw [tn_nI (by omega)]))
                have t300 : 0 ≤ (aA i6).toInt ∧ (aA i6).toInt ≤ 1000 := (hrg i6 (by omega)).2.2.2
                refine lv_iload hx hb dX5_tryOrders_179 (lv_at hl 1 rfl) ?_
                refine lv_imul hx hb dX5_tryOrders_181 ?_
                refine lv_topi (fun x301 ex301 => ?_)
                have t302 : x301.toInt = x298.toInt * x234.toInt := ti_mulx ex301 rfl rfl (A := 1000) (B := 200) (by omega) (by omega) (by omega) (by omega) (by decide)
                have t303 : 0 ≤ x301.toInt ∧ x301.toInt ≤ 1000 * 200 ∧ (x298.toInt = 0 → x301.toInt = 0) ∧ (x234.toInt = 0 → x301.toInt = 0) ∧ x301.toInt ≤ x298.toInt * 200 ∧ x301.toInt ≤ 1000 * x234.toInt := ti_mulnn ex301 rfl rfl (by omega) (by omega) (by omega) (by omega) (by decide)
                refine lv_iadd hx hb dX5_tryOrders_182 ?_
                refine lv_topi (fun x304 ex304 => ?_)
                have t305 : x304.toInt = lt.toInt + x301.toInt := ti_add ex304 rfl rfl (by omega) (by omega)
                have hFc := gA_free hG hA hS
                refine va_callv (va_runV (As := [.int 3, .int x234, .long y250, .int x295, .int x304]) (rest := []) ⟨hx, hb, hml, hown, hts⟩ (c_tryOrdersC3 l dC dI kA adK adV G H nC nS o0 x234 y250 x295 x304 jb z17 xcs xls xin xac xpd xtr xbe aC aY aB aA (cu vP (nI i6).toNatClampNeg (1 : Int32)) (cu V12 (2 : Int32).toNatClampNeg (nI i6)) V14 N (fun k => if k = 2 then ((i6 : Nat) : Int) else R k) (slO N 2 aC aY aB aA (pb vP) yr.toInt co.toInt ic.toInt lt.toInt R a0 i6) hT hr_o0 m279 m280 m281 hr_xcs m282 hr_xls m283 hr_xin m284 hr_xac m285 hr_xpd m286 hr_xtr m287 hr_xbe (by have q8 := ti_all x234; omega) (by have q8 := ti_all x295; omega) (by have q8 := ti_all x304; omega) (by have q8 := ti_all jb; omega) (by omega) hN hrg (sl_ok (by omega) (fun j hj => by have := (hrg j (by omega)).2.1.1; omega) (fun j hj => (hrg j (by omega)).2.2.2.1) (by omega) (by omega) hba) hj26 hj27 (rr_s (K := 2) rfl (by decide) (nI_toInt (by omega)) hj28) m272 m273 m274 m275 m276 m277 m278 (by omega) (by omega)) (cwV 5 hts (goodIn_app (goodIn_r _ [19, 20, 21, 8] rfl (by decide +kernel)) (goodIn_ca (goodIn_r _ [13, 1, 2, 3, 4, 5, 6, 7, 8, 9, 10, 11, 12, 13, 14, 15, 16, 17, 18, 19, 20, 21] rfl (by decide +kernel)) (bs2_in _ _))) rfl rfl rfl (by decide +kernel) ⟨(Nat.le_of_ble_eq_true rfl), (Nat.le_of_ble_eq_true rfl)⟩) ⟨fun a U g mk q => by obtain ⟨q0, q1, qK, qE⟩ := q; exact ⟨q0, q1, va_K.moved (u := U) (U := U.calling g mk a) (Vm.Alike.refl U.vm) qK, EVC.blind g mk a qE⟩, gH_recv hK hT hr_o0 shc_8 rfl, fun U hU hW => ⟨rfl, hU, va_K.moved hW.alike hK, hE.call hS hFc hU hW⟩⟩ rfl rfl hl.1 rfl (lv_room (Nat.le_of_ble_eq_true rfl)) dX5_tryOrders_183 ⟨(Nat.le_of_ble_eq_true rfl), (Nat.le_of_ble_eq_true rfl)⟩) hS (fun q _ h => hFc q h) hFc (fun u t H locs ht hvm hw307 hB _ _ hS => ?_)
                obtain ⟨u308, u309, u310⟩ := u
                obtain ⟨hT, hF1, m311, m312, m313, m314⟩ := hB
                rw [ht] at hT hF1 m311 m312 m313 m314
                have m315 := m272.kept (hF1.arr hr_xcs skc_63 (by decide))
                have m316 := m273.kept (hF1.arr hr_xls skc_64 (by decide))
                have m317 := m274.kept (hF1.arr hr_xin skc_65 (by decide))
                have m318 := m275.kept (hF1.arr hr_xac skc_66 (by decide))
                have m322 := (hF1.fld hr_o0 skc_8 (k := 15) (by decide) (by decide)).trans m279
                have m324 := (hF1.fld hr_o0 skc_8 (k := 5) (by decide) (by decide)).trans m281
                have m325 := (hF1.fld hr_o0 skc_8 (k := 6) (by decide) (by decide)).trans m282
                have m326 := (hF1.fld hr_o0 skc_8 (k := 7) (by decide) (by decide)).trans m283
                have m327 := (hF1.fld hr_o0 skc_8 (k := 8) (by decide) (by decide)).trans m284
                have m328 := (hF1.fld hr_o0 skc_8 (k := 9) (by decide) (by decide)).trans m285
                have m329 := (hF1.fld hr_o0 skc_8 (k := 10) (by decide) (by decide)).trans m286
                have m330 := (hF1.fld hr_o0 skc_8 (k := 11) (by decide) (by decide)).trans m287
                have m331 := (el_kept (hF1.arr hr_xcs skc_63 (by decide))).trans m288
                have m332 := (el_kept (hF1.arr hr_xls skc_64 (by decide))).trans m289
                have m334 := (el_kept (hF1.arr hr_xin skc_65 (by decide))).trans m291
                have m335 := (el_kept (hF1.arr hr_xac skc_66 (by decide))).trans m297
                have hF := hF.more hF1 (by decide)
                try dsimp only at hw307
                have hf336 := hw307
                refine lv_aload_n hx hb dX5_tryOrders_186 rfl (lv_at hl 3 rfl) ?_
                refine tw_getM (v := .ref xpd) hx hb hts bF2_X5 hown hK hT hr_o0 shc_8 rfl 9 (by decide) (ht_at2 hts 2 rfl) (fun _ h9 => h9) m328 dX5_tryOrders_187 ?_
                refine lv_iload hx hb dX5_tryOrders_190 (lv_at hl 2 rfl) ?_
                refine lv_iconst (v := 0) hx hb dX5_tryOrders_192 (by decide) ?_
                refine tw_zast (i := (nI i6)) (x := 0) hx hb hK hT hG hS hr_xpd shc_67 rfl (vp_in_nI (by omega) (by decide)) (gi_z (rg_t (a := 0) (by decide) (by omega) (by omega)) (by decide) (by decide)) dX5_tryOrders_193 (fun H locs hT oq m337 oi hS => ?_)
                have hF := hF.ast hr_xpd skc_67 oq (by decide)
                have m338 := m315.kept (oq _ (gne hr_xcs hr_xpd (by decide)))
                have m339 := m316.kept (oq _ (gne hr_xls hr_xpd (by decide)))
                have m340 := m317.kept (oq _ (gne hr_xin hr_xpd (by decide)))
                have m341 := m318.kept (oq _ (gne hr_xac hr_xpd (by decide)))
                have m342 := (el_kept (oq _ (gne hr_o0 hr_xpd (by decide)))).trans m322
                have m343 := (el_kept (oq _ (gne hr_o0 hr_xpd (by decide)))).trans m324
                have m344 := (el_kept (oq _ (gne hr_o0 hr_xpd (by decide)))).trans m325
                have m345 := (el_kept (oq _ (gne hr_o0 hr_xpd (by decide)))).trans m326
                have m346 := (el_kept (oq _ (gne hr_o0 hr_xpd (by decide)))).trans m327
                have m347 := (el_kept (oq _ (gne hr_o0 hr_xpd (by decide)))).trans m328
                have m348 := (el_kept (oq _ (gne hr_o0 hr_xpd (by decide)))).trans m329
                have m349 := (el_kept (oq _ (gne hr_o0 hr_xpd (by decide)))).trans m330
                have m350 := (el_kept (oq _ (gne hr_xcs hr_xpd (by decide)))).trans m331
                have m351 := (el_kept (oq _ (gne hr_xls hr_xpd (by decide)))).trans m332
                have m352 := (el_kept (oq _ (gne hr_xin hr_xpd (by decide)))).trans m334
                have m353 := (el_kept (oq _ (gne hr_xac hr_xpd (by decide)))).trans m335
                have m354 := (el_kept (oq _ (gne hr_o0 hr_xpd (by decide)))).trans m311
                have m355 := m312.put (show el H xpd _ = some (.int 0) from m337) oi
                have m356 := m313.kept (oq _ (gne hr_xtr hr_xpd (by decide)))
                have m357 := m314.kept (oq _ (gne hr_xbe hr_xpd (by decide)))
                refine lv_iinc (v := nI (i6 + 1)) (lv' := [(7, .int (nI (i6 + 1))), (9, .long y250), (8, .int x234), (0, .ref o0), (1, .int 2), (2, .int yr), (3, .long co), (5, .int ic), (6, .int lt)]) hx hb dX5_tryOrders_194 hl (k := 2) rfl (nI_add i6 1) (by decide) rfl (fun ls hl => ?_)
                refine lv_goto (tgt := 53) hx hb dX5_tryOrders_197 (by decide) ?_
                have bk9 : u308.toInt = (slO N 2 aC aY aB aA (pb vP) yr.toInt co.toInt ic.toInt lt.toInt R a0 (i6 + 1)).1 ∧ (0 ≤ (slO N 2 aC aY aB aA (pb vP) yr.toInt co.toInt ic.toInt lt.toInt R a0 (i6 + 1)).1 → ∀ k : Nat, k < N → (u310 k).toInt = (slO N 2 aC aY aB aA (pb vP) yr.toInt co.toInt ic.toInt lt.toInt R a0 (i6 + 1)).2 k) ∧ ∀ k : Nat, k < 2 → (u309 k).toInt = R k := by have q9 := hf336; rw [sl_call (N := N) (K := 2) (K1 := 3) (aC := aC) (aY := aY) (aB := aB) (aA := aA) (U := pb vP) (yr := yr.toInt) (ca := co.toInt) (ic := ic.toInt) (su := lt.toInt) (R := R) (a := a0) (i := i6) (d := x234.toInt) (c1 := y250.toInt) (i1 := x295.toInt) (s1 := x304.toInt) (U1 := pb (cu vP (nI i6).toNatClampNeg (1 : Int32))) rfl (pb_0 (tn_nI (by omega)) cx201 (by omega)) dn9 (pb_cu (tn_nI (by omega))) (by omega) (by omega) (by rw [show (aA i6).toInt = x298.toInt from by omega]; omega)] at q9; exact ⟨q9.1, q9.2.1, fun k hk => (q9.2.2 k (by omega)).trans (if_neg (by omega))⟩
                exact ih193 (i6 + 1) (by omega) (by omega) u309 u310 u308 ⟨bk9.1, bk9.2.1, bk9.2.2, (by omega)⟩ _ _ hT hF hS m338 m339 m340 m341 (m355.ext (fun _ _ => pb_r cx201 (by omega))) m356 m357 m342 m354 m343 m344 m345 m346 m347 m348 m349 ls (lv_sub hl [0, 3, 4, 5, 6, 7, 8] rfl)
            · have t358 : x201.toInt ≠ 0 := ti_ne c202 rfl (by decide)
              refine lv_iconst (v := (-1)) hx hb dX5_tryOrders_72 (by decide) ?_
              refine lv_goto (tgt := 98) hx hb dX5_tryOrders_73 (by decide) ?_
              refine lv_istore (lv' := [(8, .int (-1)), (7, .int (nI i6)), (0, .ref o0), (1, .int 2), (2, .int yr), (3, .long co), (5, .int ic), (6, .int lt)]) hx hb dX5_tryOrders_98 hl (by decide) rfl (fun ls hl => ?_)
              refine lv_iload hx hb dX5_tryOrders_100 (lv_at hl 0 rfl) ?_
              refine lv_iconst (v := (-1)) hx hb dX5_tryOrders_102 (by decide) ?_
              refine lv_icmp_eq (tgt := 194) hx hb dX5_tryOrders_103 (by decide) (fun c359 => ?_) (fun c359 => absurd c359 (by decide))
              refine lv_iinc (v := nI (i6 + 1)) (lv' := [(7, .int (nI (i6 + 1))), (8, .int (-1)), (0, .ref o0), (1, .int 2), (2, .int yr), (3, .long co), (5, .int ic), (6, .int lt)]) hx hb dX5_tryOrders_194 hl (k := 1) rfl (nI_add i6 1) (by decide) rfl (fun ls hl => ?_)
              refine lv_goto (tgt := 53) hx hb dX5_tryOrders_197 (by decide) ?_
              have bk9 : z17.toInt = (slO N 2 aC aY aB aA (pb vP) yr.toInt co.toInt ic.toInt lt.toInt R a0 (i6 + 1)).1 ∧ (0 ≤ (slO N 2 aC aY aB aA (pb vP) yr.toInt co.toInt ic.toInt lt.toInt R a0 (i6 + 1)).1 → ∀ k : Nat, k < N → (V14 k).toInt = (slO N 2 aC aY aB aA (pb vP) yr.toInt co.toInt ic.toInt lt.toInt R a0 (i6 + 1)).2 k) ∧ ∀ k : Nat, k < 2 → (V12 k).toInt = R k := by rw [sl_u (pb_1 (tn_nI (by omega)) cx201 (by omega))]; exact ⟨hj26, hj27, hj28⟩
              exact ih193 (i6 + 1) (by omega) (by omega) V12 V14 z17 ⟨bk9.1, bk9.2.1, bk9.2.2, (by omega)⟩ _ _ hT hF hS m7 m8 m9 m10 (m11.ext (fun _ _ => rfl)) m13 m15 m16 m18 m19 m20 m21 m22 m23 m24 m25 ls (lv_sub hl [0, 2, 3, 4, 5, 6, 7] rfl)
      exact key193 (7 - 0) 0 (by omega) (Nat.le_refl _) vR vZ la ⟨hla, hZ0, hR, (by omega)⟩ _ _ hT hF hS hc_aC hc_aY hc_aB hc_aA (hc_vP.ext (fun _ _ => rfl)) hc_vR hc_vZ hm_jb hm_la hm_xcs hm_xls hm_xin hm_xac hm_xpd hm_xtr hm_xbe ls (lv_sub hl [0, 1, 2, 3, 4, 5, 6] rfl)
    · have t360 : jb.toInt ≤ 2 := ti_nlt c4 (by decide) rfl
      refine lv_aload_n hx hb dX5_tryOrders_26 rfl (lv_at hl 0 rfl) ?_
      refine lv_iload hx hb dX5_tryOrders_27 (lv_at hl 5 rfl) ?_
      refine tw_put (v := .int lt) (ty := .int) hx hb hts bF2_X5 tyX5 tyX5_ok nmX5 hown hK hT hG hS hr_o0 shc_8 rfl 16 (by decide) (ht_at2 hts 0 rfl) (fun _ h9 => h9) rfl (by decide +kernel) rfl rfl (gl_at rfl (gi_all _)) dX5_tryOrders_29 (fun H locs hT oq m361 oj hS => ?_)
      have hF := hF.put hr_o0 skc_8 oq oj (by decide)
      have m362 := (oj 15 (by decide) (by decide)).trans hm_jb
      have m363 := (oj 5 (by decide) (by decide)).trans hm_xcs
      have m364 := (oj 6 (by decide) (by decide)).trans hm_xls
      have m365 := (oj 7 (by decide) (by decide)).trans hm_xin
      have m366 := (oj 8 (by decide) (by decide)).trans hm_xac
      have m367 := (oj 9 (by decide) (by decide)).trans hm_xpd
      have m368 := (oj 10 (by decide) (by decide)).trans hm_xtr
      have m369 := (oj 11 (by decide) (by decide)).trans hm_xbe
      have m370 := hc_aC.kept (oq _ (gne hr_xcs hr_o0 (by decide)))
      have m371 := hc_aY.kept (oq _ (gne hr_xls hr_o0 (by decide)))
      have m372 := hc_aB.kept (oq _ (gne hr_xin hr_o0 (by decide)))
      have m373 := hc_aA.kept (oq _ (gne hr_xac hr_o0 (by decide)))
      have m374 := hc_vP.kept (oq _ (gne hr_xpd hr_o0 (by decide)))
      have m375 := hc_vR.kept (oq _ (gne hr_xtr hr_o0 (by decide)))
      have m376 := hc_vZ.kept (oq _ (gne hr_xbe hr_o0 (by decide)))
      refine lv_aload_n hx hb dX5_tryOrders_32 rfl (lv_at hl 0 rfl) ?_
      refine tw_getM (v := .ref xtr) hx hb hts bF2_X5 hown hK hT hr_o0 shc_8 rfl 10 (by decide) (ht_at2 hts 9 rfl) (fun _ h9 => h9) m368 dX5_tryOrders_33 ?_
      refine lv_iconst (v := 0) hx hb dX5_tryOrders_36 (by decide) ?_
      refine lv_aload_n hx hb dX5_tryOrders_37 rfl (lv_at hl 0 rfl) ?_
      refine tw_getM (v := .ref xbe) hx hb hts bF2_X5 hown hK hT hr_o0 shc_8 rfl 11 (by decide) (ht_at2 hts 13 rfl) (fun _ h9 => h9) m369 dX5_tryOrders_38 ?_
      refine lv_iconst (v := 0) hx hb dX5_tryOrders_41 (by decide) ?_
      refine lv_aload_n hx hb dX5_tryOrders_42 rfl (lv_at hl 0 rfl) ?_
      refine tw_getM (v := .int jb) hx hb hts bF2_X5 hown hK hT hr_o0 shc_8 rfl 15 (by decide) (ht_at2 hts 1 rfl) (fun _ h9 => h9) m362 dX5_tryOrders_43 ?_
      refine tw_copyE (ty := .int) hx hb (hml.trans hl.1.symm) hown (ht_at2 hts 14 rfl) (ht_at2 hts 15 rfl) (ht_at2 hts 16 rfl) (ht_at2 hts 17 rfl) hK hT hG hS hr_xtr hr_xbe shc_68 shc_69 rfl rfl (by decide) (by decide) (fun h9 => by have q9 := ti_lt h9 rfl (show (0 : Int32).toInt = 0 from by decide); omega) (by have q9 := tn_of (show jb.toInt = jb.toInt from rfl) (by omega); have q8 : (0 : Int32).toNatClampNeg = 0 := (by decide); omega) (by have q9 := tn_of (show jb.toInt = jb.toInt from rfl) (by omega); have q8 : (0 : Int32).toNatClampNeg = 0 := (by decide); omega) (by decide) (by decide) (fun _ _ h9 => by obtain ⟨x9, e9, _⟩ := h9; exact ⟨x9, e9, rfl⟩) (fun _ _ _ h9 => by obtain ⟨x9, e9, a9, b9⟩ := h9; exact ⟨x9, e9, by omega, by omega⟩) (Nat.le_of_ble_eq_true rfl) (Nat.le_of_ble_eq_true rfl) dX5_tryOrders_46 (fun H locs hT oq ce377 hS => ?_)
      have hF := hF.ast hr_xbe skc_69 oq (by decide)
      have m378 := (el_kept (oq _ (gne hr_o0 hr_xbe (by decide)))).trans m362
      have m379 := (el_kept (oq _ (gne hr_o0 hr_xbe (by decide)))).trans m363
      have m380 := (el_kept (oq _ (gne hr_o0 hr_xbe (by decide)))).trans m364
      have m381 := (el_kept (oq _ (gne hr_o0 hr_xbe (by decide)))).trans m365
      have m382 := (el_kept (oq _ (gne hr_o0 hr_xbe (by decide)))).trans m366
      have m383 := (el_kept (oq _ (gne hr_o0 hr_xbe (by decide)))).trans m367
      have m384 := (el_kept (oq _ (gne hr_o0 hr_xbe (by decide)))).trans m368
      have m385 := (el_kept (oq _ (gne hr_o0 hr_xbe (by decide)))).trans m369
      have m386 := m370.kept (oq _ (gne hr_xcs hr_xbe (by decide)))
      have m387 := m371.kept (oq _ (gne hr_xls hr_xbe (by decide)))
      have m388 := m372.kept (oq _ (gne hr_xin hr_xbe (by decide)))
      have m389 := m373.kept (oq _ (gne hr_xac hr_xbe (by decide)))
      have m390 := m374.kept (oq _ (gne hr_xpd hr_xbe (by decide)))
      have m391 := m375.kept (oq _ (gne hr_xtr hr_xbe (by decide)))
      have m392 := (el_kept (oq _ (gne hr_o0 hr_xbe (by decide)))).trans m361
      obtain ⟨V393, m394, kV393⟩ := ct_of hT hr_xbe shc_69
      have cq395 : ∀ k : Nat, ((k : Nat) : Int) < jb.toInt → V393 k = vR k := fun k hk => Value.int.inj (Option.some.inj ((m394 k (by omega)).symm.trans ((ce377 k (by have q9 := tn_of (show jb.toInt = jb.toInt from rfl) (by omega); omega)).trans (m375 k (by omega)))))
      exact W.vret hx hb hr (fun t ht hW => ⟨⟨(lt, vR, V393), rfl, (by exact (by (try dsimp only); have e9 : N = 2 := (by omega); rw [sx_0 e9, if_neg (by omega)]; exact ⟨rfl, fun _ k hk => (congrArg Int32.toInt (cq395 k (by omega))).trans (hR k (by omega)), hR⟩)), by (try dsimp only); rw [ht]; exact ⟨hT, hF, m392, m390, m391, m394⟩⟩, hS.F ht⟩) hS.2.2 dX5_tryOrders_49
  · have t396 : la.toInt ≠ (-1) := ti_ne c2 rfl (by decide)
    refine lv_iload hx hb dX5_tryOrders_8 (lv_at hl 5 rfl) ?_
    refine lv_aload_n hx hb dX5_tryOrders_10 rfl (lv_at hl 0 rfl) ?_
    refine tw_getM (v := .int la) hx hb hts bF2_X5 hown hK hT hr_o0 shc_8 rfl 16 (by decide) (ht_at2 hts 0 rfl) (fun _ h9 => h9) hm_la dX5_tryOrders_11 ?_
    refine lv_icmp_lt (tgt := 18) hx hb dX5_tryOrders_14 (by decide) (fun c397 => ?_) (fun c397 => ?_)
    · have t398 : lt.toInt < la.toInt := ti_lt c397 rfl rfl
      refine lv_iload_n hx hb dX5_tryOrders_18 rfl (lv_at hl 1 rfl) ?_
      refine lv_aload_n hx hb dX5_tryOrders_19 rfl (lv_at hl 0 rfl) ?_
      refine tw_getM (v := .int jb) hx hb hts bF2_X5 hown hK hT hr_o0 shc_8 rfl 15 (by decide) (ht_at2 hts 1 rfl) (fun _ h9 => h9) hm_jb dX5_tryOrders_20 ?_
      refine lv_icmp_lt (tgt := 50) hx hb dX5_tryOrders_23 (by decide) (fun c399 => ?_) (fun c399 => ?_)
      · have t400 : 2 < jb.toInt := ti_lt c399 (by decide) rfl
        refine lv_iconst (v := 0) hx hb dX5_tryOrders_50 (by decide) ?_
        refine lv_istore (lv' := [(7, .int 0), (0, .ref o0), (1, .int 2), (2, .int yr), (3, .long co), (5, .int ic), (6, .int lt)]) hx hb dX5_tryOrders_51 hl (by decide) rfl (fun ls hl => ?_)
        have key588 : ∀ (n588 i401 : Nat), i401 + n588 = 7 → 0 ≤ i401 → ∀ (V407 : Nat → Int32), ∀ (V409 : Nat → Int32), ∀ (z412 : Int32), ((z412.toInt = (slO N 2 aC aY aB aA (pb vP) yr.toInt co.toInt ic.toInt lt.toInt R a0 i401).1) ∧ (0 ≤ (slO N 2 aC aY aB aA (pb vP) yr.toInt co.toInt ic.toInt lt.toInt R a0 i401).1 → ∀ k : Nat, k < N → (V409 k).toInt = (slO N 2 aC aY aB aA (pb vP) yr.toInt co.toInt ic.toInt lt.toInt R a0 i401).2 k) ∧ (∀ k : Nat, k < 2 → (V407 k).toInt = R k) ∧ (((i401 : Nat) : Int) ≤ jb.toInt)) → ∀ (H : Heap) (locs : List Loc), gH (dC, dI) kA (SHc nC nS) G H → gF (dC, dI) SKc G ([(8, 16), (67, 0), (68, 0), (69, 0)] : List (Nat × Nat)) s.heap H → va_S A s.heap H locs → ct H xcs 7 aC → ct H xls 7 aY → ct H xin 7 aB → ct H xac 7 aA → ct H xpd 7 vP → ct H xtr 7 V407 → ct H xbe 7 V409 → el H o0 (dI 8 15) = some (.int jb) → el H o0 (dI 8 16) = some (.int z412) → el H o0 (dI 8 5) = some (.ref xcs) → el H o0 (dI 8 6) = some (.ref xls) → el H o0 (dI 8 7) = some (.ref xin) → el H o0 (dI 8 8) = some (.ref xac) → el H o0 (dI 8 9) = some (.ref xpd) → el H o0 (dI 8 10) = some (.ref xtr) → el H o0 (dI 8 11) = some (.ref xbe) → ∀ ls : Array Slot, lv_has ls 11 [(7, .int (nI i401)), (0, .ref o0), (1, .int 2), (2, .int yr), (3, .long co), (5, .int ic), (6, .int lt)] → W p l e (headSpec w_c_tryOrdersC2 ({ frames := 7, cells := 0, slots := 0, locals := 210 })).room s m #[.ref o0, .int 2, .int yr, .long co, .int ic, .int lt] below meth c H locs 0 0 (MQ below (va_Qv (fun (u : Int32 × (Nat → Int32) × (Nat → Int32)) => match u with | (la1, vR1, vZ1) => (la1.toInt = (sx N 2 aC aY aB aA (pb vP) yr.toInt co.toInt ic.toInt lt.toInt R a0).1 ∧ (0 ≤ (sx N 2 aC aY aB aA (pb vP) yr.toInt co.toInt ic.toInt lt.toInt R a0).1 → ∀ k : Nat, k < N → (vZ1 k).toInt = (sx N 2 aC aY aB aA (pb vP) yr.toInt co.toInt ic.toInt lt.toInt R a0).2 k) ∧ ∀ k : Nat, k < 2 → (vR1 k).toInt = R k)) (fun (u : Int32 × (Nat → Int32) × (Nat → Int32)) (t : State) => match u with | (la1, vR1, vZ1) => gH (dC, dI) kA (SHc nC nS) G t.heap ∧ gF (dC, dI) SKc G ([(8, 16), (67, 0), (68, 0), (69, 0)] : List (Nat × Nat)) s.heap t.heap ∧ el t.heap o0 (dI 8 16) = some (.int la1) ∧ ct t.heap xpd 7 vP ∧ ct t.heap xtr 7 vR1 ∧ ct t.heap xbe 7 vZ1) A) #[.ref o0, .int 2, .int yr, .long co, .int ic, .int lt] s 0 0 A) (F0 m 53 ls []) := by
          intro n588
          induction n588 with
          | zero =>
            intro i401 hn588 hlo589 V407 V409 z412 ⟨hj421, hj422, hj423, hj424⟩ H locs hT hF hS m402 m403 m404 m405 m406 m408 m410 m411 m413 m414 m415 m416 m417 m418 m419 m420 ls hl
            obtain rfl : 7 = i401 := by omega
            refine lv_iload hx hb dX5_tryOrders_53 (lv_at hl 0 rfl) ?_
            refine lv_aload_n hx hb dX5_tryOrders_55 rfl (lv_at hl 1 rfl) ?_
            refine tw_getM (v := .int jb) hx hb hts bF2_X5 hown hK hT hr_o0 shc_8 rfl 15 (by decide) (ht_at2 hts 1 rfl) (fun _ h9 => h9) m411 dX5_tryOrders_56 ?_
            refine lv_icmp_ge (tgt := 200) hx hb dX5_tryOrders_59 (by decide) (fun c590 => ?_) (fun c590 => (by exfalso; have q9 : ((7 : Nat) : Int) < jb.toInt := ti_nle c590 rfl (nI_toInt (by omega)); omega))
            have t591 : jb.toInt ≤ ((7 : Nat) : Int) := ti_le c590 rfl (nI_toInt (by omega))
            exact W.vret hx hb hr (fun t ht hW => ⟨⟨(z412, V407, V409), rfl, (by exact (by (try dsimp only); have e9 : N = 7 := (by omega); rw [sx_s (by omega)]; subst e9; exact ⟨hj421, hj422, hj423⟩)), by (try dsimp only); rw [ht]; exact ⟨hT, hF, m413, m406, m408, m410⟩⟩, hS.F ht⟩) hS.2.2 dX5_tryOrders_200
          | succ n588 ih588 =>
            intro i401 hn588 hlo589 V407 V409 z412 ⟨hj421, hj422, hj423, hj424⟩ H locs hT hF hS m402 m403 m404 m405 m406 m408 m410 m411 m413 m414 m415 m416 m417 m418 m419 m420 ls hl
            have hlt591 : i401 < 7 := by omega
            refine lv_iload hx hb dX5_tryOrders_53 (lv_at hl 0 rfl) ?_
            refine lv_aload_n hx hb dX5_tryOrders_55 rfl (lv_at hl 1 rfl) ?_
            refine tw_getM (v := .int jb) hx hb hts bF2_X5 hown hK hT hr_o0 shc_8 rfl 15 (by decide) (ht_at2 hts 1 rfl) (fun _ h9 => h9) m411 dX5_tryOrders_56 ?_
            refine lv_icmp_ge (tgt := 200) hx hb dX5_tryOrders_59 (by decide) (fun c592 => ?_) (fun c592 => ?_)
            · have t593 : jb.toInt ≤ ((i401 : Nat) : Int) := ti_le c592 rfl (nI_toInt (by omega))
              exact W.vret hx hb hr (fun t ht hW => ⟨⟨(z412, V407, V409), rfl, (by exact (by (try dsimp only); have e9 : N = i401 := (by omega); rw [sx_s (by omega)]; subst e9; exact ⟨hj421, hj422, hj423⟩)), by (try dsimp only); rw [ht]; exact ⟨hT, hF, m413, m406, m408, m410⟩⟩, hS.F ht⟩) hS.2.2 dX5_tryOrders_200
            · have t594 : ((i401 : Nat) : Int) < jb.toInt := ti_nle c592 rfl (nI_toInt (by omega))
              refine lv_aload_n hx hb dX5_tryOrders_62 rfl (lv_at hl 1 rfl) ?_
              refine tw_getM (v := .ref xpd) hx hb hts bF2_X5 hown hK hT hr_o0 shc_8 rfl 9 (by decide) (ht_at2 hts 2 rfl) (fun _ h9 => h9) m418 dX5_tryOrders_63 ?_
              refine lv_iload hx hb dX5_tryOrders_66 (lv_at hl 0 rfl) ?_
              refine tw_zald (i := (nI i401)) hx hb hK hT hr_xpd shc_67 rfl (vp_in_nI (by omega) (by decide)) dX5_tryOrders_68 (fun v9 m595 h9 => ?_)
              obtain ⟨x596, rfl, gx596, kx596⟩ := h9
              have cx596 := m406.at m595 (by have q9 := tn_of (show (nI i401).toInt = ((i401 : Nat) : Int) from (nI_toInt (by omega))) (by omega); omega)
              refine lv_if_eq (tgt := 76) hx hb dX5_tryOrders_69 (by decide) (fun c597 => ?_) (fun c597 => ?_)
              · have t598 : x596.toInt = 0 := ti_eq c597 rfl (by decide)
                refine lv_iload_n hx hb dX5_tryOrders_76 rfl (lv_at hl 3 rfl) ?_
                refine lv_lload_n hx hb dX5_tryOrders_77 rfl (lv_at hl 4 rfl) ?_
                refine lv_iload hx hb dX5_tryOrders_78 (lv_at hl 5 rfl) ?_
                refine lv_aload_n hx hb dX5_tryOrders_80 rfl (lv_at hl 1 rfl) ?_
                refine tw_getM (v := .ref xcs) hx hb hts bF2_X5 hown hK hT hr_o0 shc_8 rfl 5 (by decide) (ht_at2 hts 3 rfl) (fun _ h9 => h9) m414 dX5_tryOrders_81 ?_
                refine lv_iload hx hb dX5_tryOrders_84 (lv_at hl 0 rfl) ?_
                refine tw_iald (i := (nI i401)) hx hb hK hT hr_xcs shc_63 rfl (vp_in_nI (by omega) (by decide)) dX5_tryOrders_86 (fun v9 m599 h9 => ?_)
                obtain ⟨x600, rfl, gx600, kx600⟩ := h9
                have cx600 := m402.at m599 (by have q9 := tn_of (show (nI i401).toInt = ((i401 : Nat) : Int) from (nI_toInt (by omega))) (by omega); omega)
                have t601 : x600.toInt = (aC i401).toInt := congrArg Int32.toInt (cx600.trans (by rw [tn_nI (by omega)]))
                have t602 : 0 ≤ (aC i401).toInt ∧ (aC i401).toInt ≤ 1000000 := (hrg i401 (by omega)).1
                have hFc := gA_free hG hA hS
                refine va_calli (va_runS (As := [.int yr, .long co, .int ic, .int x600]) (rest := []) ⟨hx, hb, hml, hown, hts⟩ (c_yearC l dC dI kA adK adV G H nC nS yr co ic x600 hT (by have q8 := ti_all yr; omega) (by have q8 := ti_all ic; omega) (by have q8 := ti_all x600; omega) (by omega) (by omega) (by omega)) (va_cwS 4 hts (goodIn_app (goodIn_r _ [6, 7, 8] rfl (by decide +kernel)) (goodIn_ca (goodIn_r _ [5] rfl (by decide +kernel)) (bs2_in _ _))) rfl rfl rfl (by decide +kernel) ⟨(Nat.le_of_ble_eq_true rfl), (Nat.le_of_ble_eq_true rfl)⟩) ⟨fun a U g mk q => by obtain ⟨q0, q1, qK, qE⟩ := q; exact ⟨q0, q1, va_K.moved (u := U) (U := U.calling g mk a) (Vm.Alike.refl U.vm) qK, EVC.blind g mk a qE⟩, fun U hU hW => ⟨rfl, hU, va_K.moved hW.alike hK, hE.call hS hFc hU hW⟩⟩ rfl rfl hl.1 rfl (lv_room (Nat.le_of_ble_eq_true rfl)) dX5_tryOrders_87 ⟨(Nat.le_of_ble_eq_true rfl), (Nat.le_of_ble_eq_true rfl)⟩) hS (fun q _ h => hFc q h) hFc (fun r603 u t H locs ht hvm hw604 hB _ _ hS => ?_)
                obtain ⟨hT, hF1⟩ := hB
                rw [ht] at hT hF1
                have m605 := m402.kept (hF1.arr hr_xcs skc_63 (by decide))
                have m606 := m403.kept (hF1.arr hr_xls skc_64 (by decide))
                have m607 := m404.kept (hF1.arr hr_xin skc_65 (by decide))
                have m608 := m405.kept (hF1.arr hr_xac skc_66 (by decide))
                have m609 := m406.kept (hF1.arr hr_xpd skc_67 (by decide))
                have m610 := m408.kept (hF1.arr hr_xtr skc_68 (by decide))
                have m611 := m410.kept (hF1.arr hr_xbe skc_69 (by decide))
                have m612 := (hF1.fld hr_o0 skc_8 (k := 15) (by decide) (by decide)).trans m411
                have m613 := (hF1.fld hr_o0 skc_8 (k := 16) (by decide) (by decide)).trans m413
                have m614 := (hF1.fld hr_o0 skc_8 (k := 5) (by decide) (by decide)).trans m414
                have m615 := (hF1.fld hr_o0 skc_8 (k := 6) (by decide) (by decide)).trans m415
                have m616 := (hF1.fld hr_o0 skc_8 (k := 7) (by decide) (by decide)).trans m416
                have m617 := (hF1.fld hr_o0 skc_8 (k := 8) (by decide) (by decide)).trans m417
                have m618 := (hF1.fld hr_o0 skc_8 (k := 9) (by decide) (by decide)).trans m418
                have m619 := (hF1.fld hr_o0 skc_8 (k := 10) (by decide) (by decide)).trans m419
                have m620 := (hF1.fld hr_o0 skc_8 (k := 11) (by decide) (by decide)).trans m420
                have m621 := (el_kept (hF1.arr hr_xpd skc_67 (by decide))).trans m595
                have m622 := (el_kept (hF1.arr hr_xcs skc_63 (by decide))).trans m599
                have hF := hF.more hF1 (by decide)
                try dsimp only at hw604
                obtain ⟨h623, hf624⟩ := hw604
                have yw9 : yw yr.toInt co.toInt ic.toInt (aC i401).toInt r603.toInt := by rw [show (aC i401).toInt = x600.toInt from by omega]; exact hf624
                refine lv_aload_n hx hb dX5_tryOrders_90 rfl (lv_at hl 1 rfl) ?_
                refine tw_getM (v := .ref xls) hx hb hts bF2_X5 hown hK hT hr_o0 shc_8 rfl 6 (by decide) (ht_at2 hts 8 rfl) (fun _ h9 => h9) m615 dX5_tryOrders_91 ?_
                refine lv_iload hx hb dX5_tryOrders_94 (lv_at hl 0 rfl) ?_
                refine tw_iald (i := (nI i401)) hx hb hK hT hr_xls shc_64 rfl (vp_in_nI (by omega) (by decide)) dX5_tryOrders_96 (fun v9 m625 h9 => ?_)
                obtain ⟨x626, rfl, gx626, kx626⟩ := h9
                have cx626 := m606.at m625 (by have q9 := tn_of (show (nI i401).toInt = ((i401 : Nat) : Int) from (nI_toInt (by omega))) (by omega); omega)
                have t627 : x626.toInt = (aY i401).toInt := congrArg Int32.toInt (cx626.trans (by rw [tn_nI (by omega)]))
                have t628 : 1 ≤ (aY i401).toInt ∧ (aY i401).toInt ≤ 20 := (hrg i401 (by omega)).2.1
                refine lv_iadd hx hb dX5_tryOrders_97 ?_
                refine lv_topi (fun x629 ex629 => ?_)
                have t630 : x629.toInt = r603.toInt + x626.toInt := ti_add ex629 rfl rfl (by omega) (by omega)
                refine lv_istore (lv' := [(8, .int x629), (7, .int (nI i401)), (0, .ref o0), (1, .int 2), (2, .int yr), (3, .long co), (5, .int ic), (6, .int lt)]) hx hb dX5_tryOrders_98 hl (by decide) rfl (fun ls hl => ?_)
                refine lv_iload hx hb dX5_tryOrders_100 (lv_at hl 0 rfl) ?_
                refine lv_iconst (v := (-1)) hx hb dX5_tryOrders_102 (by decide) ?_
                refine lv_icmp_eq (tgt := 194) hx hb dX5_tryOrders_103 (by decide) (fun c631 => (by exfalso; have q9 : x629.toInt = (-1) := ti_eq c631 rfl (by decide); omega)) (fun c631 => ?_)
                have t632 : x629.toInt ≠ (-1) := ti_ne c631 rfl (by decide)
                refine lv_iload hx hb dX5_tryOrders_106 (lv_at hl 0 rfl) ?_
                refine lv_sipush (v := 200) hx hb dX5_tryOrders_108 (by decide) ?_
                refine lv_icmp_gt (tgt := 194) hx hb dX5_tryOrders_111 (by decide) (fun c633 => ?_) (fun c633 => ?_)
                · have t634 : 200 < x629.toInt := ti_lt c633 (by decide) rfl
                  refine lv_iinc (v := nI (i401 + 1)) (lv' := [(7, .int (nI (i401 + 1))), (8, .int x629), (0, .ref o0), (1, .int 2), (2, .int yr), (3, .long co), (5, .int ic), (6, .int lt)]) hx hb dX5_tryOrders_194 hl (k := 1) rfl (nI_add i401 1) (by decide) rfl (fun ls hl => ?_)
                  refine lv_goto (tgt := 53) hx hb dX5_tryOrders_197 (by decide) ?_
                  have bk9 : z412.toInt = (slO N 2 aC aY aB aA (pb vP) yr.toInt co.toInt ic.toInt lt.toInt R a0 (i401 + 1)).1 ∧ (0 ≤ (slO N 2 aC aY aB aA (pb vP) yr.toInt co.toInt ic.toInt lt.toInt R a0 (i401 + 1)).1 → ∀ k : Nat, k < N → (V409 k).toInt = (slO N 2 aC aY aB aA (pb vP) yr.toInt co.toInt ic.toInt lt.toInt R a0 (i401 + 1)).2 k) ∧ ∀ k : Nat, k < 2 → (V407 k).toInt = R k := by rw [sl_n (yw_none yw9 (by omega) (by omega))]; exact ⟨hj421, hj422, hj423⟩
                  exact ih588 (i401 + 1) (by omega) (by omega) V407 V409 z412 ⟨bk9.1, bk9.2.1, bk9.2.2, (by omega)⟩ _ _ hT hF hS m605 m606 m607 m608 (m609.ext (fun _ _ => rfl)) m610 m611 m612 m613 m614 m615 m616 m617 m618 m619 m620 ls (lv_sub hl [0, 2, 3, 4, 5, 6, 7] rfl)
                · have t635 : x629.toInt ≤ 200 := ti_nlt c633 (by decide) rfl
                  refine lv_lload_n hx hb dX5_tryOrders_114 rfl (lv_at hl 5 rfl) ?_
                  refine lv_iload hx hb dX5_tryOrders_115 (lv_at hl 6 rfl) ?_
                  refine lv_i2l (v := ic.toInt64) hx hb dX5_tryOrders_117 rfl ?_
                  refine lv_iload hx hb dX5_tryOrders_118 (lv_at hl 0 rfl) ?_
                  refine lv_iload_n hx hb dX5_tryOrders_120 rfl (lv_at hl 4 rfl) ?_
                  refine lv_isub hx hb dX5_tryOrders_121 ?_
                  refine lv_topi (fun x636 ex636 => ?_)
                  have t637 : x636.toInt = x629.toInt - yr.toInt := ti_sub ex636 rfl rfl (by omega) (by omega)
                  refine lv_i2l (v := x636.toInt64) hx hb dX5_tryOrders_122 rfl ?_
                  refine lv_lmul hx hb dX5_tryOrders_123 ?_
                  refine lv_topl (fun y638 ey638 => ?_)
                  have t639 : y638.toInt = ic.toInt * x636.toInt ∧ -(200000 * 200) ≤ y638.toInt ∧ y638.toInt ≤ 200000 * 200 := tl_m ey638 ((Int32.toInt_toInt64 _).trans rfl) ((Int32.toInt_toInt64 _).trans rfl) (A := 200000) (B := 200) (by omega) (by omega) (by omega) (by omega) (by decide)
                  have t640 : y638.toInt = ic.toInt * (x629.toInt - yr.toInt) := (by rw [show x629.toInt - yr.toInt = x636.toInt from by omega]; omega)
                  refine lv_ladd hx hb dX5_tryOrders_124 ?_
                  refine lv_topl (fun y641 ey641 => ?_)
                  have t642 : y641.toInt = co.toInt + y638.toInt := tl_a ey641 rfl rfl (by omega) (by omega)
                  refine lv_aload_n hx hb dX5_tryOrders_125 rfl (lv_at hl 2 rfl) ?_
                  refine tw_getM (v := .ref xcs) hx hb hts bF2_X5 hown hK hT hr_o0 shc_8 rfl 5 (by decide) (ht_at2 hts 3 rfl) (fun _ h9 => h9) m614 dX5_tryOrders_126 ?_
                  refine lv_iload hx hb dX5_tryOrders_129 (lv_at hl 1 rfl) ?_
                  refine tw_iald (i := (nI i401)) hx hb hK hT hr_xcs shc_63 rfl (vp_in_nI (by omega) (by decide)) dX5_tryOrders_131 (fun v9 m643 h9 => ?_)
                  obtain ⟨x644, rfl, gx644, kx644⟩ := h9
                  have cx644 := m605.at m643 (by have q9 := tn_of (show (nI i401).toInt = ((i401 : Nat) : Int) from (nI_toInt (by omega))) (by omega); omega)
                  obtain rfl : x600 = x644 := (el_same m643 m622 rfl).symm
                  refine lv_i2l (v := x600.toInt64) hx hb dX5_tryOrders_132 rfl ?_
                  refine lv_lsub hx hb dX5_tryOrders_133 ?_
                  refine lv_topl (fun y645 ey645 => ?_)
                  have t646 : y645.toInt = y641.toInt - x600.toInt := tl_s ey645 rfl ((Int32.toInt_toInt64 _).trans rfl) (by omega) (by omega)
                  have dn9 := (yw_some (last := (aY i401).toInt) (d := x629.toInt) yw9 (by omega) (by omega) (by omega))
                  have dc9 := dn_cash dn9 (by omega) (by omega)
                  refine lv_lstore (lv' := [(9, .long y645), (8, .int x629), (7, .int (nI i401)), (0, .ref o0), (1, .int 2), (2, .int yr), (3, .long co), (5, .int ic), (6, .int lt)]) hx hb dX5_tryOrders_134 hl (by decide) rfl (fun ls hl => ?_)
                  refine lv_aload_n hx hb dX5_tryOrders_136 rfl (lv_at hl 3 rfl) ?_
                  refine tw_getM (v := .ref xpd) hx hb hts bF2_X5 hown hK hT hr_o0 shc_8 rfl 9 (by decide) (ht_at2 hts 2 rfl) (fun _ h9 => h9) m618 dX5_tryOrders_137 ?_
                  refine lv_iload hx hb dX5_tryOrders_140 (lv_at hl 2 rfl) ?_
                  refine lv_iconst (v := 1) hx hb dX5_tryOrders_142 (by decide) ?_
                  refine tw_zast (i := (nI i401)) (x := 1) hx hb hK hT hG hS hr_xpd shc_67 rfl (vp_in_nI (by omega) (by decide)) (gi_z (rg_t (a := 1) (by decide) (by omega) (by omega)) (by decide) (by decide)) dX5_tryOrders_143 (fun H locs hT oq m647 oi hS => ?_)
                  have hF := hF.ast hr_xpd skc_67 oq (by decide)
                  have m648 := m605.kept (oq _ (gne hr_xcs hr_xpd (by decide)))
                  have m649 := m606.kept (oq _ (gne hr_xls hr_xpd (by decide)))
                  have m650 := m607.kept (oq _ (gne hr_xin hr_xpd (by decide)))
                  have m651 := m608.kept (oq _ (gne hr_xac hr_xpd (by decide)))
                  have m652 := m609.put (show el H xpd _ = some (.int 1) from m647) oi
                  have m653 := m610.kept (oq _ (gne hr_xtr hr_xpd (by decide)))
                  have m654 := m611.kept (oq _ (gne hr_xbe hr_xpd (by decide)))
                  have m655 := (el_kept (oq _ (gne hr_o0 hr_xpd (by decide)))).trans m612
                  have m656 := (el_kept (oq _ (gne hr_o0 hr_xpd (by decide)))).trans m613
                  have m657 := (el_kept (oq _ (gne hr_o0 hr_xpd (by decide)))).trans m614
                  have m658 := (el_kept (oq _ (gne hr_o0 hr_xpd (by decide)))).trans m615
                  have m659 := (el_kept (oq _ (gne hr_o0 hr_xpd (by decide)))).trans m616
                  have m660 := (el_kept (oq _ (gne hr_o0 hr_xpd (by decide)))).trans m617
                  have m661 := (el_kept (oq _ (gne hr_o0 hr_xpd (by decide)))).trans m618
                  have m662 := (el_kept (oq _ (gne hr_o0 hr_xpd (by decide)))).trans m619
                  have m663 := (el_kept (oq _ (gne hr_o0 hr_xpd (by decide)))).trans m620
                  have m664 := (el_kept (oq _ (gne hr_xcs hr_xpd (by decide)))).trans m622
                  have m665 := (el_kept (oq _ (gne hr_xls hr_xpd (by decide)))).trans m625
                  refine lv_aload_n hx hb dX5_tryOrders_144 rfl (lv_at hl 3 rfl) ?_
                  refine tw_getM (v := .ref xtr) hx hb hts bF2_X5 hown hK hT hr_o0 shc_8 rfl 10 (by decide) (ht_at2 hts 9 rfl) (fun _ h9 => h9) m662 dX5_tryOrders_145 ?_
                  refine lv_iload_n hx hb dX5_tryOrders_148 rfl (lv_at hl 4 rfl) ?_
                  refine lv_iload hx hb dX5_tryOrders_149 (lv_at hl 2 rfl) ?_
                  refine tw_iast (i := 2) (x := (nI i401)) hx hb hK hT hG hS hr_xtr shc_68 rfl (by unfold vp_in; decide) (gi_of (show (nI i401).toInt = ((i401 : Nat) : Int) from (nI_toInt (by omega))) (by omega) (by omega)) dX5_tryOrders_151 (fun H locs hT oq m666 oi hS => ?_)
                  have hF := hF.ast hr_xtr skc_68 oq (by decide)
                  have m667 := m648.kept (oq _ (gne hr_xcs hr_xtr (by decide)))
                  have m668 := m649.kept (oq _ (gne hr_xls hr_xtr (by decide)))
                  have m669 := m650.kept (oq _ (gne hr_xin hr_xtr (by decide)))
                  have m670 := m651.kept (oq _ (gne hr_xac hr_xtr (by decide)))
                  have m671 := m652.kept (oq _ (gne hr_xpd hr_xtr (by decide)))
                  have m672 := m653.put m666 oi
                  have m673 := m654.kept (oq _ (gne hr_xbe hr_xtr (by decide)))
                  have m674 := (el_kept (oq _ (gne hr_o0 hr_xtr (by decide)))).trans m655
                  have m675 := (el_kept (oq _ (gne hr_o0 hr_xtr (by decide)))).trans m656
                  have m676 := (el_kept (oq _ (gne hr_o0 hr_xtr (by decide)))).trans m657
                  have m677 := (el_kept (oq _ (gne hr_o0 hr_xtr (by decide)))).trans m658
                  have m678 := (el_kept (oq _ (gne hr_o0 hr_xtr (by decide)))).trans m659
                  have m679 := (el_kept (oq _ (gne hr_o0 hr_xtr (by decide)))).trans m660
                  have m680 := (el_kept (oq _ (gne hr_o0 hr_xtr (by decide)))).trans m661
                  have m681 := (el_kept (oq _ (gne hr_o0 hr_xtr (by decide)))).trans m662
                  have m682 := (el_kept (oq _ (gne hr_o0 hr_xtr (by decide)))).trans m663
                  have m683 := (el_kept (oq _ (gne hr_xcs hr_xtr (by decide)))).trans m664
                  have m684 := (el_kept (oq _ (gne hr_xls hr_xtr (by decide)))).trans m665
                  refine lv_aload_n hx hb dX5_tryOrders_152 rfl (lv_at hl 3 rfl) ?_
                  refine lv_iload_n hx hb dX5_tryOrders_153 rfl (lv_at hl 4 rfl) ?_
                  refine lv_iconst (v := 1) hx hb dX5_tryOrders_154 (by decide) ?_
                  refine lv_iadd hx hb dX5_tryOrders_155 ?_
                  refine lv_topi (fun x685 ex685 => ?_)
                  obtain rfl : x685 = 3 := ex685.trans (by decide)
                  refine lv_iload hx hb dX5_tryOrders_156 (lv_at hl 1 rfl) ?_
                  refine lv_lload hx hb dX5_tryOrders_158 (lv_at hl 0 rfl) ?_
                  refine lv_iload hx hb dX5_tryOrders_160 (lv_at hl 7 rfl) ?_
                  refine lv_aload_n hx hb dX5_tryOrders_162 rfl (lv_at hl 3 rfl) ?_
                  refine tw_getM (v := .ref xin) hx hb hts bF2_X5 hown hK hT hr_o0 shc_8 rfl 7 (by decide) (ht_at2 hts 10 rfl) (fun _ h9 => h9) m678 dX5_tryOrders_163 ?_
                  refine lv_iload hx hb dX5_tryOrders_166 (lv_at hl 2 rfl) ?_
                  refine tw_iald (i := (nI i401)) hx hb hK hT hr_xin shc_65 rfl (vp_in_nI (by omega) (by decide)) dX5_tryOrders_168 (fun v9 m686 h9 => ?_)
                  obtain ⟨x687, rfl, gx687, kx687⟩ := h9
                  have cx687 := m669.at m686 (by have q9 := tn_of (show (nI i401).toInt = ((i401 : Nat) : Int) from (nI_toInt (by omega))) (by omega); omega)
                  have t688 : x687.toInt = (aB i401).toInt := congrArg Int32.toInt (cx687.trans (by rw [tn_nI (by omega)]))
                  have t689 : 0 ≤ (aB i401).toInt ∧ (aB i401).toInt ≤ 100000 := (hrg i401 (by omega)).2.2.1
                  refine lv_iadd hx hb dX5_tryOrders_169 ?_
                  refine lv_topi (fun x690 ex690 => ?_)
                  have t691 : x690.toInt = ic.toInt + x687.toInt := ti_add ex690 rfl rfl (by omega) (by omega)
                  refine lv_iload hx hb dX5_tryOrders_170 (lv_at hl 8 rfl) ?_
                  refine lv_aload_n hx hb dX5_tryOrders_172 rfl (lv_at hl 3 rfl) ?_
                  refine tw_getM (v := .ref xac) hx hb hts bF2_X5 hown hK hT hr_o0 shc_8 rfl 8 (by decide) (ht_at2 hts 11 rfl) (fun _ h9 => h9) m679 dX5_tryOrders_173 ?_
                  refine lv_iload hx hb dX5_tryOrders_176 (lv_at hl 2 rfl) ?_
                  refine tw_iald (i := (nI i401)) hx hb hK hT hr_xac shc_66 rfl (vp_in_nI (by omega) (by decide)) dX5_tryOrders_178 (fun v9 m692 h9 => ?_)
                  obtain ⟨x693, rfl, gx693, kx693⟩ := h9
                  have cx693 := m670.at m692 (by have q9 := tn_of (show (nI i401).toInt = ((i401 : Nat) : Int) from (nI_toInt (by omega))) (by omega); omega)
                  have t694 : x693.toInt = (aA i401).toInt := congrArg Int32.toInt (cx693.trans (by rw [tn_nI (by omega)]))
                  have t695 : 0 ≤ (aA i401).toInt ∧ (aA i401).toInt ≤ 1000 := (hrg i401 (by omega)).2.2.2
                  refine lv_iload hx hb dX5_tryOrders_179 (lv_at hl 1 rfl) ?_
                  refine lv_imul hx hb dX5_tryOrders_181 ?_
                  refine lv_topi (fun x696 ex696 => ?_)
                  have t697 : x696.toInt = x693.toInt * x629.toInt := ti_mulx ex696 rfl rfl (A := 1000) (B := 200) (by omega) (by omega) (by omega) (by omega) (by decide)
                  have t698 : 0 ≤ x696.toInt ∧ x696.toInt ≤ 1000 * 200 ∧ (x693.toInt = 0 → x696.toInt = 0) ∧ (x629.toInt = 0 → x696.toInt = 0) ∧ x696.toInt ≤ x693.toInt * 200 ∧ x696.toInt ≤ 1000 * x629.toInt := ti_mulnn ex696 rfl rfl (by omega) (by omega) (by omega) (by omega) (by decide)
                  refine lv_iadd hx hb dX5_tryOrders_182 ?_
                  refine lv_topi (fun x699 ex699 => ?_)
                  have t700 : x699.toInt = lt.toInt + x696.toInt := ti_add ex699 rfl rfl (by omega) (by omega)
                  have hFc := gA_free hG hA hS
                  refine va_callv (va_runV (As := [.int 3, .int x629, .long y645, .int x690, .int x699]) (rest := []) ⟨hx, hb, hml, hown, hts⟩ (c_tryOrdersC3 l dC dI kA adK adV G H nC nS o0 x629 y645 x690 x699 jb z412 xcs xls xin xac xpd xtr xbe aC aY aB aA (cu vP (nI i401).toNatClampNeg (1 : Int32)) (cu V407 (2 : Int32).toNatClampNeg (nI i401)) V409 N (fun k => if k = 2 then ((i401 : Nat) : Int) else R k) (slO N 2 aC aY aB aA (pb vP) yr.toInt co.toInt ic.toInt lt.toInt R a0 i401) hT hr_o0 m674 m675 m676 hr_xcs m677 hr_xls m678 hr_xin m679 hr_xac m680 hr_xpd m681 hr_xtr m682 hr_xbe (by have q8 := ti_all x629; omega) (by have q8 := ti_all x690; omega) (by have q8 := ti_all x699; omega) (by have q8 := ti_all jb; omega) (by omega) hN hrg (sl_ok (by omega) (fun j hj => by have := (hrg j (by omega)).2.1.1; omega) (fun j hj => (hrg j (by omega)).2.2.2.1) (by omega) (by omega) hba) hj421 hj422 (rr_s (K := 2) rfl (by decide) (nI_toInt (by omega)) hj423) m667 m668 m669 m670 m671 m672 m673 (by omega) (by omega)) (cwV 5 hts (goodIn_app (goodIn_r _ [19, 20, 21, 8] rfl (by decide +kernel)) (goodIn_ca (goodIn_r _ [13, 1, 2, 3, 4, 5, 6, 7, 8, 9, 10, 11, 12, 13, 14, 15, 16, 17, 18, 19, 20, 21] rfl (by decide +kernel)) (bs2_in _ _))) rfl rfl rfl (by decide +kernel) ⟨(Nat.le_of_ble_eq_true rfl), (Nat.le_of_ble_eq_true rfl)⟩) ⟨fun a U g mk q => by obtain ⟨q0, q1, qK, qE⟩ := q; exact ⟨q0, q1, va_K.moved (u := U) (U := U.calling g mk a) (Vm.Alike.refl U.vm) qK, EVC.blind g mk a qE⟩, gH_recv hK hT hr_o0 shc_8 rfl, fun U hU hW => ⟨rfl, hU, va_K.moved hW.alike hK, hE.call hS hFc hU hW⟩⟩ rfl rfl hl.1 rfl (lv_room (Nat.le_of_ble_eq_true rfl)) dX5_tryOrders_183 ⟨(Nat.le_of_ble_eq_true rfl), (Nat.le_of_ble_eq_true rfl)⟩) hS (fun q _ h => hFc q h) hFc (fun u t H locs ht hvm hw702 hB _ _ hS => ?_)
                  obtain ⟨u703, u704, u705⟩ := u
                  obtain ⟨hT, hF1, m706, m707, m708, m709⟩ := hB
                  rw [ht] at hT hF1 m706 m707 m708 m709
                  have m710 := m667.kept (hF1.arr hr_xcs skc_63 (by decide))
                  have m711 := m668.kept (hF1.arr hr_xls skc_64 (by decide))
                  have m712 := m669.kept (hF1.arr hr_xin skc_65 (by decide))
                  have m713 := m670.kept (hF1.arr hr_xac skc_66 (by decide))
                  have m717 := (hF1.fld hr_o0 skc_8 (k := 15) (by decide) (by decide)).trans m674
                  have m719 := (hF1.fld hr_o0 skc_8 (k := 5) (by decide) (by decide)).trans m676
                  have m720 := (hF1.fld hr_o0 skc_8 (k := 6) (by decide) (by decide)).trans m677
                  have m721 := (hF1.fld hr_o0 skc_8 (k := 7) (by decide) (by decide)).trans m678
                  have m722 := (hF1.fld hr_o0 skc_8 (k := 8) (by decide) (by decide)).trans m679
                  have m723 := (hF1.fld hr_o0 skc_8 (k := 9) (by decide) (by decide)).trans m680
                  have m724 := (hF1.fld hr_o0 skc_8 (k := 10) (by decide) (by decide)).trans m681
                  have m725 := (hF1.fld hr_o0 skc_8 (k := 11) (by decide) (by decide)).trans m682
                  have m726 := (el_kept (hF1.arr hr_xcs skc_63 (by decide))).trans m683
                  have m727 := (el_kept (hF1.arr hr_xls skc_64 (by decide))).trans m684
                  have m729 := (el_kept (hF1.arr hr_xin skc_65 (by decide))).trans m686
                  have m730 := (el_kept (hF1.arr hr_xac skc_66 (by decide))).trans m692
                  have hF := hF.more hF1 (by decide)
                  try dsimp only at hw702
                  have hf731 := hw702
                  refine lv_aload_n hx hb dX5_tryOrders_186 rfl (lv_at hl 3 rfl) ?_
                  refine tw_getM (v := .ref xpd) hx hb hts bF2_X5 hown hK hT hr_o0 shc_8 rfl 9 (by decide) (ht_at2 hts 2 rfl) (fun _ h9 => h9) m723 dX5_tryOrders_187 ?_
                  refine lv_iload hx hb dX5_tryOrders_190 (lv_at hl 2 rfl) ?_
                  refine lv_iconst (v := 0) hx hb dX5_tryOrders_192 (by decide) ?_
                  refine tw_zast (i := (nI i401)) (x := 0) hx hb hK hT hG hS hr_xpd shc_67 rfl (vp_in_nI (by omega) (by decide)) (gi_z (rg_t (a := 0) (by decide) (by omega) (by omega)) (by decide) (by decide)) dX5_tryOrders_193 (fun H locs hT oq m732 oi hS => ?_)
                  have hF := hF.ast hr_xpd skc_67 oq (by decide)
                  have m733 := m710.kept (oq _ (gne hr_xcs hr_xpd (by decide)))
                  have m734 := m711.kept (oq _ (gne hr_xls hr_xpd (by decide)))
                  have m735 := m712.kept (oq _ (gne hr_xin hr_xpd (by decide)))
                  have m736 := m713.kept (oq _ (gne hr_xac hr_xpd (by decide)))
                  have m737 := (el_kept (oq _ (gne hr_o0 hr_xpd (by decide)))).trans m717
                  have m738 := (el_kept (oq _ (gne hr_o0 hr_xpd (by decide)))).trans m719
                  have m739 := (el_kept (oq _ (gne hr_o0 hr_xpd (by decide)))).trans m720
                  have m740 := (el_kept (oq _ (gne hr_o0 hr_xpd (by decide)))).trans m721
                  have m741 := (el_kept (oq _ (gne hr_o0 hr_xpd (by decide)))).trans m722
                  have m742 := (el_kept (oq _ (gne hr_o0 hr_xpd (by decide)))).trans m723
                  have m743 := (el_kept (oq _ (gne hr_o0 hr_xpd (by decide)))).trans m724
                  have m744 := (el_kept (oq _ (gne hr_o0 hr_xpd (by decide)))).trans m725
                  have m745 := (el_kept (oq _ (gne hr_xcs hr_xpd (by decide)))).trans m726
                  have m746 := (el_kept (oq _ (gne hr_xls hr_xpd (by decide)))).trans m727
                  have m747 := (el_kept (oq _ (gne hr_xin hr_xpd (by decide)))).trans m729
                  have m748 := (el_kept (oq _ (gne hr_xac hr_xpd (by decide)))).trans m730
                  have m749 := (el_kept (oq _ (gne hr_o0 hr_xpd (by decide)))).trans m706
                  have m750 := m707.put (show el H xpd _ = some (.int 0) from m732) oi
                  have m751 := m708.kept (oq _ (gne hr_xtr hr_xpd (by decide)))
                  have m752 := m709.kept (oq _ (gne hr_xbe hr_xpd (by decide)))
                  refine lv_iinc (v := nI (i401 + 1)) (lv' := [(7, .int (nI (i401 + 1))), (9, .long y645), (8, .int x629), (0, .ref o0), (1, .int 2), (2, .int yr), (3, .long co), (5, .int ic), (6, .int lt)]) hx hb dX5_tryOrders_194 hl (k := 2) rfl (nI_add i401 1) (by decide) rfl (fun ls hl => ?_)
                  refine lv_goto (tgt := 53) hx hb dX5_tryOrders_197 (by decide) ?_
                  have bk9 : u703.toInt = (slO N 2 aC aY aB aA (pb vP) yr.toInt co.toInt ic.toInt lt.toInt R a0 (i401 + 1)).1 ∧ (0 ≤ (slO N 2 aC aY aB aA (pb vP) yr.toInt co.toInt ic.toInt lt.toInt R a0 (i401 + 1)).1 → ∀ k : Nat, k < N → (u705 k).toInt = (slO N 2 aC aY aB aA (pb vP) yr.toInt co.toInt ic.toInt lt.toInt R a0 (i401 + 1)).2 k) ∧ ∀ k : Nat, k < 2 → (u704 k).toInt = R k := by have q9 := hf731; rw [sl_call (N := N) (K := 2) (K1 := 3) (aC := aC) (aY := aY) (aB := aB) (aA := aA) (U := pb vP) (yr := yr.toInt) (ca := co.toInt) (ic := ic.toInt) (su := lt.toInt) (R := R) (a := a0) (i := i401) (d := x629.toInt) (c1 := y645.toInt) (i1 := x690.toInt) (s1 := x699.toInt) (U1 := pb (cu vP (nI i401).toNatClampNeg (1 : Int32))) rfl (pb_0 (tn_nI (by omega)) cx596 (by omega)) dn9 (pb_cu (tn_nI (by omega))) (by omega) (by omega) (by rw [show (aA i401).toInt = x693.toInt from by omega]; omega)] at q9; exact ⟨q9.1, q9.2.1, fun k hk => (q9.2.2 k (by omega)).trans (if_neg (by omega))⟩
                  exact ih588 (i401 + 1) (by omega) (by omega) u704 u705 u703 ⟨bk9.1, bk9.2.1, bk9.2.2, (by omega)⟩ _ _ hT hF hS m733 m734 m735 m736 (m750.ext (fun _ _ => pb_r cx596 (by omega))) m751 m752 m737 m749 m738 m739 m740 m741 m742 m743 m744 ls (lv_sub hl [0, 3, 4, 5, 6, 7, 8] rfl)
              · have t753 : x596.toInt ≠ 0 := ti_ne c597 rfl (by decide)
                refine lv_iconst (v := (-1)) hx hb dX5_tryOrders_72 (by decide) ?_
                refine lv_goto (tgt := 98) hx hb dX5_tryOrders_73 (by decide) ?_
                refine lv_istore (lv' := [(8, .int (-1)), (7, .int (nI i401)), (0, .ref o0), (1, .int 2), (2, .int yr), (3, .long co), (5, .int ic), (6, .int lt)]) hx hb dX5_tryOrders_98 hl (by decide) rfl (fun ls hl => ?_)
                refine lv_iload hx hb dX5_tryOrders_100 (lv_at hl 0 rfl) ?_
                refine lv_iconst (v := (-1)) hx hb dX5_tryOrders_102 (by decide) ?_
                refine lv_icmp_eq (tgt := 194) hx hb dX5_tryOrders_103 (by decide) (fun c754 => ?_) (fun c754 => absurd c754 (by decide))
                refine lv_iinc (v := nI (i401 + 1)) (lv' := [(7, .int (nI (i401 + 1))), (8, .int (-1)), (0, .ref o0), (1, .int 2), (2, .int yr), (3, .long co), (5, .int ic), (6, .int lt)]) hx hb dX5_tryOrders_194 hl (k := 1) rfl (nI_add i401 1) (by decide) rfl (fun ls hl => ?_)
                refine lv_goto (tgt := 53) hx hb dX5_tryOrders_197 (by decide) ?_
                have bk9 : z412.toInt = (slO N 2 aC aY aB aA (pb vP) yr.toInt co.toInt ic.toInt lt.toInt R a0 (i401 + 1)).1 ∧ (0 ≤ (slO N 2 aC aY aB aA (pb vP) yr.toInt co.toInt ic.toInt lt.toInt R a0 (i401 + 1)).1 → ∀ k : Nat, k < N → (V409 k).toInt = (slO N 2 aC aY aB aA (pb vP) yr.toInt co.toInt ic.toInt lt.toInt R a0 (i401 + 1)).2 k) ∧ ∀ k : Nat, k < 2 → (V407 k).toInt = R k := by rw [sl_u (pb_1 (tn_nI (by omega)) cx596 (by omega))]; exact ⟨hj421, hj422, hj423⟩
                exact ih588 (i401 + 1) (by omega) (by omega) V407 V409 z412 ⟨bk9.1, bk9.2.1, bk9.2.2, (by omega)⟩ _ _ hT hF hS m402 m403 m404 m405 (m406.ext (fun _ _ => rfl)) m408 m410 m411 m413 m414 m415 m416 m417 m418 m419 m420 ls (lv_sub hl [0, 2, 3, 4, 5, 6, 7] rfl)
        exact key588 (7 - 0) 0 (by omega) (Nat.le_refl _) vR vZ la ⟨hla, hZ0, hR, (by omega)⟩ _ _ hT hF hS hc_aC hc_aY hc_aB hc_aA (hc_vP.ext (fun _ _ => rfl)) hc_vR hc_vZ hm_jb hm_la hm_xcs hm_xls hm_xin hm_xac hm_xpd hm_xtr hm_xbe ls (lv_sub hl [0, 1, 2, 3, 4, 5, 6] rfl)
      · have t755 : jb.toInt ≤ 2 := ti_nlt c399 (by decide) rfl
        refine lv_aload_n hx hb dX5_tryOrders_26 rfl (lv_at hl 0 rfl) ?_
        refine lv_iload hx hb dX5_tryOrders_27 (lv_at hl 5 rfl) ?_
        refine tw_put (v := .int lt) (ty := .int) hx hb hts bF2_X5 tyX5 tyX5_ok nmX5 hown hK hT hG hS hr_o0 shc_8 rfl 16 (by decide) (ht_at2 hts 0 rfl) (fun _ h9 => h9) rfl (by decide +kernel) rfl rfl (gl_at rfl (gi_all _)) dX5_tryOrders_29 (fun H locs hT oq m756 oj hS => ?_)
        have hF := hF.put hr_o0 skc_8 oq oj (by decide)
        have m757 := (oj 15 (by decide) (by decide)).trans hm_jb
        have m758 := (oj 5 (by decide) (by decide)).trans hm_xcs
        have m759 := (oj 6 (by decide) (by decide)).trans hm_xls
        have m760 := (oj 7 (by decide) (by decide)).trans hm_xin
        have m761 := (oj 8 (by decide) (by decide)).trans hm_xac
        have m762 := (oj 9 (by decide) (by decide)).trans hm_xpd
        have m763 := (oj 10 (by decide) (by decide)).trans hm_xtr
        have m764 := (oj 11 (by decide) (by decide)).trans hm_xbe
        have m765 := hc_aC.kept (oq _ (gne hr_xcs hr_o0 (by decide)))
        have m766 := hc_aY.kept (oq _ (gne hr_xls hr_o0 (by decide)))
        have m767 := hc_aB.kept (oq _ (gne hr_xin hr_o0 (by decide)))
        have m768 := hc_aA.kept (oq _ (gne hr_xac hr_o0 (by decide)))
        have m769 := hc_vP.kept (oq _ (gne hr_xpd hr_o0 (by decide)))
        have m770 := hc_vR.kept (oq _ (gne hr_xtr hr_o0 (by decide)))
        have m771 := hc_vZ.kept (oq _ (gne hr_xbe hr_o0 (by decide)))
        refine lv_aload_n hx hb dX5_tryOrders_32 rfl (lv_at hl 0 rfl) ?_
        refine tw_getM (v := .ref xtr) hx hb hts bF2_X5 hown hK hT hr_o0 shc_8 rfl 10 (by decide) (ht_at2 hts 9 rfl) (fun _ h9 => h9) m763 dX5_tryOrders_33 ?_
        refine lv_iconst (v := 0) hx hb dX5_tryOrders_36 (by decide) ?_
        refine lv_aload_n hx hb dX5_tryOrders_37 rfl (lv_at hl 0 rfl) ?_
        refine tw_getM (v := .ref xbe) hx hb hts bF2_X5 hown hK hT hr_o0 shc_8 rfl 11 (by decide) (ht_at2 hts 13 rfl) (fun _ h9 => h9) m764 dX5_tryOrders_38 ?_
        refine lv_iconst (v := 0) hx hb dX5_tryOrders_41 (by decide) ?_
        refine lv_aload_n hx hb dX5_tryOrders_42 rfl (lv_at hl 0 rfl) ?_
        refine tw_getM (v := .int jb) hx hb hts bF2_X5 hown hK hT hr_o0 shc_8 rfl 15 (by decide) (ht_at2 hts 1 rfl) (fun _ h9 => h9) m757 dX5_tryOrders_43 ?_
        refine tw_copyE (ty := .int) hx hb (hml.trans hl.1.symm) hown (ht_at2 hts 14 rfl) (ht_at2 hts 15 rfl) (ht_at2 hts 16 rfl) (ht_at2 hts 17 rfl) hK hT hG hS hr_xtr hr_xbe shc_68 shc_69 rfl rfl (by decide) (by decide) (fun h9 => by have q9 := ti_lt h9 rfl (show (0 : Int32).toInt = 0 from by decide); omega) (by have q9 := tn_of (show jb.toInt = jb.toInt from rfl) (by omega); have q8 : (0 : Int32).toNatClampNeg = 0 := (by decide); omega) (by have q9 := tn_of (show jb.toInt = jb.toInt from rfl) (by omega); have q8 : (0 : Int32).toNatClampNeg = 0 := (by decide); omega) (by decide) (by decide) (fun _ _ h9 => by obtain ⟨x9, e9, _⟩ := h9; exact ⟨x9, e9, rfl⟩) (fun _ _ _ h9 => by obtain ⟨x9, e9, a9, b9⟩ := h9; exact ⟨x9, e9, by omega, by omega⟩) (Nat.le_of_ble_eq_true rfl) (Nat.le_of_ble_eq_true rfl) dX5_tryOrders_46 (fun H locs hT oq ce772 hS => ?_)
        have hF := hF.ast hr_xbe skc_69 oq (by decide)
        have m773 := (el_kept (oq _ (gne hr_o0 hr_xbe (by decide)))).trans m757
        have m774 := (el_kept (oq _ (gne hr_o0 hr_xbe (by decide)))).trans m758
        have m775 := (el_kept (oq _ (gne hr_o0 hr_xbe (by decide)))).trans m759
        have m776 := (el_kept (oq _ (gne hr_o0 hr_xbe (by decide)))).trans m760
        have m777 := (el_kept (oq _ (gne hr_o0 hr_xbe (by decide)))).trans m761
        have m778 := (el_kept (oq _ (gne hr_o0 hr_xbe (by decide)))).trans m762
        have m779 := (el_kept (oq _ (gne hr_o0 hr_xbe (by decide)))).trans m763
        have m780 := (el_kept (oq _ (gne hr_o0 hr_xbe (by decide)))).trans m764
        have m781 := m765.kept (oq _ (gne hr_xcs hr_xbe (by decide)))
        have m782 := m766.kept (oq _ (gne hr_xls hr_xbe (by decide)))
        have m783 := m767.kept (oq _ (gne hr_xin hr_xbe (by decide)))
        have m784 := m768.kept (oq _ (gne hr_xac hr_xbe (by decide)))
        have m785 := m769.kept (oq _ (gne hr_xpd hr_xbe (by decide)))
        have m786 := m770.kept (oq _ (gne hr_xtr hr_xbe (by decide)))
        have m787 := (el_kept (oq _ (gne hr_o0 hr_xbe (by decide)))).trans m756
        obtain ⟨V788, m789, kV788⟩ := ct_of hT hr_xbe shc_69
        have cq790 : ∀ k : Nat, ((k : Nat) : Int) < jb.toInt → V788 k = vR k := fun k hk => Value.int.inj (Option.some.inj ((m789 k (by omega)).symm.trans ((ce772 k (by have q9 := tn_of (show jb.toInt = jb.toInt from rfl) (by omega); omega)).trans (m770 k (by omega)))))
        exact W.vret hx hb hr (fun t ht hW => ⟨⟨(lt, vR, V788), rfl, (by exact (by (try dsimp only); have e9 : N = 2 := (by omega); rw [sx_0 e9, if_neg (by omega)]; exact ⟨rfl, fun _ k hk => (congrArg Int32.toInt (cq790 k (by omega))).trans (hR k (by omega)), hR⟩)), by (try dsimp only); rw [ht]; exact ⟨hT, hF, m787, m785, m786, m789⟩⟩, hS.F ht⟩) hS.2.2 dX5_tryOrders_49
    · have t791 : la.toInt ≤ lt.toInt := ti_nlt c397 rfl rfl
      exact W.vret hx hb hr (fun t ht hW => ⟨⟨(la, vR, vZ), rfl, (by exact (by (try dsimp only); rw [sx_cut (fun j hj => by have := (hrg j (by omega)).2.1.1; omega) (fun j hj => (hrg j (by omega)).2.2.2.1) (by omega) ⟨by omega, by omega⟩]; exact ⟨by omega, hZ0, hR⟩)), by (try dsimp only); rw [ht]; exact ⟨hT, hF, hm_la, hc_vP, hc_vR, hc_vZ⟩⟩, hS.F ht⟩) hS.2.2 dX5_tryOrders_17
def w_c_tryOrdersC1 : List Cond := .code yX5_tryOrders cX5_tryOrders 11 none :: (HAppend.hAppend (α := List Cond) (β := List Cond) (γ := List Cond) [.fieldLink RX5 157 "SeaLand$Plans" "bestLate" "I", .fieldLink RX5 154 "SeaLand$Plans" "jobs" "I", .fieldLink RX5 41 "SeaLand$Plans" "placed" "[Z", .fieldLink RX5 29 "SeaLand$Plans" "costs" "[I", .code yX5_yearWithCost cX5_yearWithCost 5 (some .int), .methodLink RX5 164 yX5_yearWithCost, .static yX5_yearWithCost, .initialized RX5, .fieldLink RX5 32 "SeaLand$Plans" "lasts" "[I", .fieldLink RX5 45 "SeaLand$Plans" "trial" "[I", .fieldLink RX5 35 "SeaLand$Plans" "incomes" "[I", .fieldLink RX5 38 "SeaLand$Plans" "acres" "[I", .code yX5_tryOrders cX5_tryOrders 11 none, .fieldLink RX5 48 "SeaLand$Plans" "best" "[I", .methodLink RX5 100 arraycopyName, .native arraycopyName, .static arraycopyName, .initialized "java/lang/System", .methodLink RX5 160 yX5_tryOrders, .instanceMethod yX5_tryOrders, .selects RX5 yX5_tryOrders yX5_tryOrders] bs2)
set_option maxHeartbeats 4000000 in
set_option maxRecDepth 100000 in
theorem c_tryOrdersC1 (l : Launch) (dC : Nat → ClassId) (dI : Nat → Nat → Nat) (kA : Nat → ClassId) (adK adV : Nat → Nat) (G : gT) (H0 : Heap) (nC nS : Int) (o0 : Nat) (yr : Int32) (co : Int64) (ic : Int32) (lt : Int32) (jb : Int32) (la : Int32) (xcs : Nat) (xls : Nat) (xin : Nat) (xac : Nat) (xpd : Nat) (xtr : Nat) (xbe : Nat) (aC : Nat → Int32) (aY : Nat → Int32) (aB : Nat → Int32) (aA : Nat → Int32) (vP : Nat → Int32) (vR : Nat → Int32) (vZ : Nat → Int32) (N : Nat) (R : Nat → Int) (a0 : oA) (hT : gH (dC, dI) kA (SHc nC nS) G H0) (hr_o0 : G o0 = some 8) (hm_jb : el H0 o0 (dI 8 15) = some (.int jb)) (hm_la : el H0 o0 (dI 8 16) = some (.int la)) (hm_xcs : el H0 o0 (dI 8 5) = some (.ref xcs)) (hr_xcs : G xcs = some 63) (hm_xls : el H0 o0 (dI 8 6) = some (.ref xls)) (hr_xls : G xls = some 64) (hm_xin : el H0 o0 (dI 8 7) = some (.ref xin)) (hr_xin : G xin = some 65) (hm_xac : el H0 o0 (dI 8 8) = some (.ref xac)) (hr_xac : G xac = some 66) (hm_xpd : el H0 o0 (dI 8 9) = some (.ref xpd)) (hr_xpd : G xpd = some 67) (hm_xtr : el H0 o0 (dI 8 10) = some (.ref xtr)) (hr_xtr : G xtr = some 68) (hm_xbe : el H0 o0 (dI 8 11) = some (.ref xbe)) (hr_xbe : G xbe = some 69) (hq0 : 0 ≤ yr.toInt ∧ yr.toInt ≤ 200) (hq1 : 0 ≤ ic.toInt ∧ ic.toInt ≤ 100000) (hq2 : 0 ≤ lt.toInt ∧ lt.toInt ≤ 200000) (hq3 : 1 ≤ jb.toInt ∧ jb.toInt ≤ 7) (hco : 0 ≤ co.toInt ∧ co.toInt ≤ 1000000) (hN : jb.toInt = ((N : Nat) : Int)) (hrg : joR jb.toInt aC aY aB aA) (hba : a0.1 = -1 ∨ 0 ≤ a0.1) (hla : la.toInt = a0.1) (hZ0 : 0 ≤ a0.1 → ∀ k : Nat, k < N → (vZ k).toInt = a0.2 k) (hR : ∀ k : Nat, k < 1 → (vR k).toInt = R k) (hc_aC : ct H0 xcs 7 aC) (hc_aY : ct H0 xls 7 aY) (hc_aB : ct H0 xin 7 aB) (hc_aA : ct H0 xac 7 aA) (hc_vP : ct H0 xpd 7 vP) (hc_vR : ct H0 xtr 7 vR) (hc_vZ : ct H0 xbe 7 vZ) (hgC : 0 ≤ nC ∧ nC ≤ 40) (hgS : 0 ≤ nS ∧ nS ≤ 60) : Met l yX5_tryOrders w_c_tryOrdersC1 ({ frames := 8, cells := 0, slots := 0, locals := 240 }) (va_Pc [.ref o0, .int 1, .int yr, .long co, .int ic, .int lt] (fun U => U.heap = H0 ∧ va_K (dC, dI) vwCl (tyl kA) U ∧ EVC adK adV (gA G H0.size) U U.heap)) (va_Qv (fun (u : Int32 × (Nat → Int32) × (Nat → Int32)) => match u with | (la1, vR1, vZ1) => (la1.toInt = (sx N 1 aC aY aB aA (pb vP) yr.toInt co.toInt ic.toInt lt.toInt R a0).1 ∧ (0 ≤ (sx N 1 aC aY aB aA (pb vP) yr.toInt co.toInt ic.toInt lt.toInt R a0).1 → ∀ k : Nat, k < N → (vZ1 k).toInt = (sx N 1 aC aY aB aA (pb vP) yr.toInt co.toInt ic.toInt lt.toInt R a0).2 k) ∧ ∀ k : Nat, k < 1 → (vR1 k).toInt = R k)) (fun (u : Int32 × (Nat → Int32) × (Nat → Int32)) (t : State) => match u with | (la1, vR1, vZ1) => gH (dC, dI) kA (SHc nC nS) G t.heap ∧ gF (dC, dI) SKc G ([(8, 16), (67, 0), (68, 0), (69, 0)] : List (Nat × Nat)) H0 t.heap ∧ el t.heap o0 (dI 8 16) = some (.int la1) ∧ ct t.heap xpd 7 vP ∧ ct t.heap xtr 7 vR1 ∧ ct t.heap xbe 7 vZ1) (gA G H0.size)) 0 0 (gA G H0.size) := by
  refine Met.ofW (cc := cX5_tryOrders) (maxL := 11) (ret := none) (by decide) rfl ?_
  intro p e s m args below meth c s₁ B hml hv
  obtain ⟨rfl, hH0, hK, hE⟩ := hv
  have hx := B.exec
  have hb := B.bytes
  have hr := B.returns
  have hts := atoms_spec (ws := w_c_tryOrdersC1) B.pre
  have hown : s.vm.findClass RX5 = some m.cls := findClass_of_methodNamed B.named
  have hlocks := B.notSynchronized
  subst hH0
  generalize hAe : gA G s.heap.size = A at hE ⊢
  have hA : ∀ q : Nat, s.heap.size ≤ q → A q := fun q h => by rw [← hAe]; exact Or.inr h
  have hG := gA_of hAe
  have hS : va_S A s.heap s.heap [] := va_S.rf
  have hF : gF (dC, dI) SKc G ([(8, 16), (67, 0), (68, 0), (69, 0)] : List (Nat × Nat)) s.heap s.heap := gF.rf
  have hl := lv_entry ([.ref o0, .int 1, .int yr, .long co, .int ic, .int lt]) (n := 11) (Nat.le_of_ble_eq_true rfl)
  rw [lg_entry_eq]
  generalize (lg_sl ([.ref o0, .int 1, .int yr, .long co, .int ic, .int lt]) ++ List.replicate (11 - (lg_sl ([.ref o0, .int 1, .int yr, .long co, .int ic, .int lt])).length) Slot.unset).toArray = ls at hl ⊢
  have hl : lv_has ls 11 [(0, .ref o0), (1, .int 1), (2, .int yr), (3, .long co), (5, .int ic), (6, .int lt)] := hl
  refine lv_aload_n hx hb dX5_tryOrders_0 rfl (lv_at hl 0 rfl) ?_
  refine tw_getM (v := .int la) hx hb hts bF2_X5 hown hK hT hr_o0 shc_8 rfl 16 (by decide) (ht_at2 hts 0 rfl) (fun _ h9 => h9) hm_la dX5_tryOrders_1 ?_
  refine lv_iconst (v := (-1)) hx hb dX5_tryOrders_4 (by decide) ?_
  have t1 : -2147483648 ≤ la.toInt ∧ la.toInt ≤ 2147483647 := ti_all la
  refine lv_icmp_eq (tgt := 18) hx hb dX5_tryOrders_5 (by decide) (fun c2 => ?_) (fun c2 => ?_)
  · have t3 : la.toInt = (-1) := ti_eq c2 rfl (by decide)
    refine lv_iload_n hx hb dX5_tryOrders_18 rfl (lv_at hl 1 rfl) ?_
    refine lv_aload_n hx hb dX5_tryOrders_19 rfl (lv_at hl 0 rfl) ?_
    refine tw_getM (v := .int jb) hx hb hts bF2_X5 hown hK hT hr_o0 shc_8 rfl 15 (by decide) (ht_at2 hts 1 rfl) (fun _ h9 => h9) hm_jb dX5_tryOrders_20 ?_
    refine lv_icmp_lt (tgt := 50) hx hb dX5_tryOrders_23 (by decide) (fun c4 => ?_) (fun c4 => ?_)
    · have t5 : 1 < jb.toInt := ti_lt c4 (by decide) rfl
      refine lv_iconst (v := 0) hx hb dX5_tryOrders_50 (by decide) ?_
      refine lv_istore (lv' := [(7, .int 0), (0, .ref o0), (1, .int 1), (2, .int yr), (3, .long co), (5, .int ic), (6, .int lt)]) hx hb dX5_tryOrders_51 hl (by decide) rfl (fun ls hl => ?_)
      have key193 : ∀ (n193 i6 : Nat), i6 + n193 = 7 → 0 ≤ i6 → ∀ (V12 : Nat → Int32), ∀ (V14 : Nat → Int32), ∀ (z17 : Int32), ((z17.toInt = (slO N 1 aC aY aB aA (pb vP) yr.toInt co.toInt ic.toInt lt.toInt R a0 i6).1) ∧ (0 ≤ (slO N 1 aC aY aB aA (pb vP) yr.toInt co.toInt ic.toInt lt.toInt R a0 i6).1 → ∀ k : Nat, k < N → (V14 k).toInt = (slO N 1 aC aY aB aA (pb vP) yr.toInt co.toInt ic.toInt lt.toInt R a0 i6).2 k) ∧ (∀ k : Nat, k < 1 → (V12 k).toInt = R k) ∧ (((i6 : Nat) : Int) ≤ jb.toInt)) → ∀ (H : Heap) (locs : List Loc), gH (dC, dI) kA (SHc nC nS) G H → gF (dC, dI) SKc G ([(8, 16), (67, 0), (68, 0), (69, 0)] : List (Nat × Nat)) s.heap H → va_S A s.heap H locs → ct H xcs 7 aC → ct H xls 7 aY → ct H xin 7 aB → ct H xac 7 aA → ct H xpd 7 vP → ct H xtr 7 V12 → ct H xbe 7 V14 → el H o0 (dI 8 15) = some (.int jb) → el H o0 (dI 8 16) = some (.int z17) → el H o0 (dI 8 5) = some (.ref xcs) → el H o0 (dI 8 6) = some (.ref xls) → el H o0 (dI 8 7) = some (.ref xin) → el H o0 (dI 8 8) = some (.ref xac) → el H o0 (dI 8 9) = some (.ref xpd) → el H o0 (dI 8 10) = some (.ref xtr) → el H o0 (dI 8 11) = some (.ref xbe) → ∀ ls : Array Slot, lv_has ls 11 [(7, .int (nI i6)), (0, .ref o0), (1, .int 1), (2, .int yr), (3, .long co), (5, .int ic), (6, .int lt)] → W p l e (headSpec w_c_tryOrdersC1 ({ frames := 8, cells := 0, slots := 0, locals := 240 })).room s m #[.ref o0, .int 1, .int yr, .long co, .int ic, .int lt] below meth c H locs 0 0 (MQ below (va_Qv (fun (u : Int32 × (Nat → Int32) × (Nat → Int32)) => match u with | (la1, vR1, vZ1) => (la1.toInt = (sx N 1 aC aY aB aA (pb vP) yr.toInt co.toInt ic.toInt lt.toInt R a0).1 ∧ (0 ≤ (sx N 1 aC aY aB aA (pb vP) yr.toInt co.toInt ic.toInt lt.toInt R a0).1 → ∀ k : Nat, k < N → (vZ1 k).toInt = (sx N 1 aC aY aB aA (pb vP) yr.toInt co.toInt ic.toInt lt.toInt R a0).2 k) ∧ ∀ k : Nat, k < 1 → (vR1 k).toInt = R k)) (fun (u : Int32 × (Nat → Int32) × (Nat → Int32)) (t : State) => match u with | (la1, vR1, vZ1) => gH (dC, dI) kA (SHc nC nS) G t.heap ∧ gF (dC, dI) SKc G ([(8, 16), (67, 0), (68, 0), (69, 0)] : List (Nat × Nat)) s.heap t.heap ∧ el t.heap o0 (dI 8 16) = some (.int la1) ∧ ct t.heap xpd 7 vP ∧ ct t.heap xtr 7 vR1 ∧ ct t.heap xbe 7 vZ1) A) #[.ref o0, .int 1, .int yr, .long co, .int ic, .int lt] s 0 0 A) (F0 m 53 ls []) := by
        intro n193
        induction n193 with
        | zero =>
          intro i6 hn193 hlo194 V12 V14 z17 ⟨hj26, hj27, hj28, hj29⟩ H locs hT hF hS m7 m8 m9 m10 m11 m13 m15 m16 m18 m19 m20 m21 m22 m23 m24 m25 ls hl
          obtain rfl : 7 = i6 := by omega
          refine lv_iload hx hb dX5_tryOrders_53 (lv_at hl 0 rfl) ?_
          refine lv_aload_n hx hb dX5_tryOrders_55 rfl (lv_at hl 1 rfl) ?_
          refine tw_getM (v := .int jb) hx hb hts bF2_X5 hown hK hT hr_o0 shc_8 rfl 15 (by decide) (ht_at2 hts 1 rfl) (fun _ h9 => h9) m16 dX5_tryOrders_56 ?_
          refine lv_icmp_ge (tgt := 200) hx hb dX5_tryOrders_59 (by decide) (fun c195 => ?_) (fun c195 => (by exfalso; have q9 : ((7 : Nat) : Int) < jb.toInt := ti_nle c195 rfl (nI_toInt (by omega)); omega))
          have t196 : jb.toInt ≤ ((7 : Nat) : Int) := ti_le c195 rfl (nI_toInt (by omega))
          exact W.vret hx hb hr (fun t ht hW => ⟨⟨(z17, V12, V14), rfl, (by exact (by (try dsimp only); have e9 : N = 7 := (by omega); rw [sx_s (by omega)]; subst e9; exact ⟨hj26, hj27, hj28⟩)), by (try dsimp only); rw [ht]; exact ⟨hT, hF, m18, m11, m13, m15⟩⟩, hS.F ht⟩) hS.2.2 dX5_tryOrders_200
        | succ n193 ih193 =>
          intro i6 hn193 hlo194 V12 V14 z17 ⟨hj26, hj27, hj28, hj29⟩ H locs hT hF hS m7 m8 m9 m10 m11 m13 m15 m16 m18 m19 m20 m21 m22 m23 m24 m25 ls hl
          have hlt196 : i6 < 7 := by omega
          refine lv_iload hx hb dX5_tryOrders_53 (lv_at hl 0 rfl) ?_
          refine lv_aload_n hx hb dX5_tryOrders_55 rfl (lv_at hl 1 rfl) ?_
          refine tw_getM (v := .int jb) hx hb hts bF2_X5 hown hK hT hr_o0 shc_8 rfl 15 (by decide) (ht_at2 hts 1 rfl) (fun _ h9 => h9) m16 dX5_tryOrders_56 ?_
          refine lv_icmp_ge (tgt := 200) hx hb dX5_tryOrders_59 (by decide) (fun c197 => ?_) (fun c197 => ?_)
          · have t198 : jb.toInt ≤ ((i6 : Nat) : Int) := ti_le c197 rfl (nI_toInt (by omega))
            exact W.vret hx hb hr (fun t ht hW => ⟨⟨(z17, V12, V14), rfl, (by exact (by (try dsimp only); have e9 : N = i6 := (by omega); rw [sx_s (by omega)]; subst e9; exact ⟨hj26, hj27, hj28⟩)), by (try dsimp only); rw [ht]; exact ⟨hT, hF, m18, m11, m13, m15⟩⟩, hS.F ht⟩) hS.2.2 dX5_tryOrders_200
          · have t199 : ((i6 : Nat) : Int) < jb.toInt := ti_nle c197 rfl (nI_toInt (by omega))
            refine lv_aload_n hx hb dX5_tryOrders_62 rfl (lv_at hl 1 rfl) ?_
            refine tw_getM (v := .ref xpd) hx hb hts bF2_X5 hown hK hT hr_o0 shc_8 rfl 9 (by decide) (ht_at2 hts 2 rfl) (fun _ h9 => h9) m23 dX5_tryOrders_63 ?_
            refine lv_iload hx hb dX5_tryOrders_66 (lv_at hl 0 rfl) ?_
            refine tw_zald (i := (nI i6)) hx hb hK hT hr_xpd shc_67 rfl (vp_in_nI (by omega) (by decide)) dX5_tryOrders_68 (fun v9 m200 h9 => ?_)
            obtain ⟨x201, rfl, gx201, kx201⟩ := h9
            have cx201 := m11.at m200 (by have q9 := tn_of (show (nI i6).toInt = ((i6 : Nat) : Int) from (nI_toInt (by omega))) (by omega); omega)
            refine lv_if_eq (tgt := 76) hx hb dX5_tryOrders_69 (by decide) (fun c202 => ?_) (fun c202 => ?_)
            · have t203 : x201.toInt = 0 := ti_eq c202 rfl (by decide)
              refine lv_iload_n hx hb dX5_tryOrders_76 rfl (lv_at hl 3 rfl) ?_
              refine lv_lload_n hx hb dX5_tryOrders_77 rfl (lv_at hl 4 rfl) ?_
              refine lv_iload hx hb dX5_tryOrders_78 (lv_at hl 5 rfl) ?_
              refine lv_aload_n hx hb dX5_tryOrders_80 rfl (lv_at hl 1 rfl) ?_
              refine tw_getM (v := .ref xcs) hx hb hts bF2_X5 hown hK hT hr_o0 shc_8 rfl 5 (by decide) (ht_at2 hts 3 rfl) (fun _ h9 => h9) m19 dX5_tryOrders_81 ?_
              refine lv_iload hx hb dX5_tryOrders_84 (lv_at hl 0 rfl) ?_
              refine tw_iald (i := (nI i6)) hx hb hK hT hr_xcs shc_63 rfl (vp_in_nI (by omega) (by decide)) dX5_tryOrders_86 (fun v9 m204 h9 => ?_)
              obtain ⟨x205, rfl, gx205, kx205⟩ := h9
              have cx205 := m7.at m204 (by have q9 := tn_of (show (nI i6).toInt = ((i6 : Nat) : Int) from (nI_toInt (by omega))) (by omega); omega)
              have t206 : x205.toInt = (aC i6).toInt := congrArg Int32.toInt (cx205.trans (by rw [tn_nI (by omega)]))
              have t207 : 0 ≤ (aC i6).toInt ∧ (aC i6).toInt ≤ 1000000 := (hrg i6 (by omega)).1
              have hFc := gA_free hG hA hS
              refine va_calli (va_runS (As := [.int yr, .long co, .int ic, .int x205]) (rest := []) ⟨hx, hb, hml, hown, hts⟩ (c_yearC l dC dI kA adK adV G H nC nS yr co ic x205 hT (by have q8 := ti_all yr; omega) (by have q8 := ti_all ic; omega) (by have q8 := ti_all x205; omega) (by omega) (by omega) (by omega)) (va_cwS 4 hts (goodIn_app (goodIn_r _ [6, 7, 8] rfl (by decide +kernel)) (goodIn_ca (goodIn_r _ [5] rfl (by decide +kernel)) (bs2_in _ _))) rfl rfl rfl (by decide +kernel) ⟨(Nat.le_of_ble_eq_true rfl), (Nat.le_of_ble_eq_true rfl)⟩) ⟨fun a U g mk q => by obtain ⟨q0, q1, qK, qE⟩ := q; exact ⟨q0, q1, va_K.moved (u := U) (U := U.calling g mk a) (Vm.Alike.refl U.vm) qK, EVC.blind g mk a qE⟩, fun U hU hW => ⟨rfl, hU, va_K.moved hW.alike hK, hE.call hS hFc hU hW⟩⟩ rfl rfl hl.1 rfl (lv_room (Nat.le_of_ble_eq_true rfl)) dX5_tryOrders_87 ⟨(Nat.le_of_ble_eq_true rfl), (Nat.le_of_ble_eq_true rfl)⟩) hS (fun q _ h => hFc q h) hFc (fun r208 u t H locs ht hvm hw209 hB _ _ hS => ?_)
              obtain ⟨hT, hF1⟩ := hB
              rw [ht] at hT hF1
              have m210 := m7.kept (hF1.arr hr_xcs skc_63 (by decide))
              have m211 := m8.kept (hF1.arr hr_xls skc_64 (by decide))
              have m212 := m9.kept (hF1.arr hr_xin skc_65 (by decide))
              have m213 := m10.kept (hF1.arr hr_xac skc_66 (by decide))
              have m214 := m11.kept (hF1.arr hr_xpd skc_67 (by decide))
              have m215 := m13.kept (hF1.arr hr_xtr skc_68 (by decide))
              have m216 := m15.kept (hF1.arr hr_xbe skc_69 (by decide))
              have m217 := (hF1.fld hr_o0 skc_8 (k := 15) (by decide) (by decide)).trans m16
              have m218 := (hF1.fld hr_o0 skc_8 (k := 16) (by decide) (by decide)).trans m18
              have m219 := (hF1.fld hr_o0 skc_8 (k := 5) (by decide) (by decide)).trans m19
              have m220 := (hF1.fld hr_o0 skc_8 (k := 6) (by decide) (by decide)).trans m20
              have m221 := (hF1.fld hr_o0 skc_8 (k := 7) (by decide) (by decide)).trans m21
              have m222 := (hF1.fld hr_o0 skc_8 (k := 8) (by decide) (by decide)).trans m22
              have m223 := (hF1.fld hr_o0 skc_8 (k := 9) (by decide) (by decide)).trans m23
              have m224 := (hF1.fld hr_o0 skc_8 (k := 10) (by decide) (by decide)).trans m24
              have m225 := (hF1.fld hr_o0 skc_8 (k := 11) (by decide) (by decide)).trans m25
              have m226 := (el_kept (hF1.arr hr_xpd skc_67 (by decide))).trans m200
              have m227 := (el_kept (hF1.arr hr_xcs skc_63 (by decide))).trans m204
              have hF := hF.more hF1 (by decide)
              try dsimp only at hw209
              obtain ⟨h228, hf229⟩ := hw209
              have yw9 : yw yr.toInt co.toInt ic.toInt (aC i6).toInt r208.toInt := by rw [show (aC i6).toInt = x205.toInt from by omega]; exact hf229
              refine lv_aload_n hx hb dX5_tryOrders_90 rfl (lv_at hl 1 rfl) ?_
              refine tw_getM (v := .ref xls) hx hb hts bF2_X5 hown hK hT hr_o0 shc_8 rfl 6 (by decide) (ht_at2 hts 8 rfl) (fun _ h9 => h9) m220 dX5_tryOrders_91 ?_
              refine lv_iload hx hb dX5_tryOrders_94 (lv_at hl 0 rfl) ?_
              refine tw_iald (i := (nI i6)) hx hb hK hT hr_xls shc_64 rfl (vp_in_nI (by omega) (by decide)) dX5_tryOrders_96 (fun v9 m230 h9 => ?_)
              obtain ⟨x231, rfl, gx231, kx231⟩ := h9
              have cx231 := m211.at m230 (by have q9 := tn_of (show (nI i6).toInt = ((i6 : Nat) : Int) from (nI_toInt (by omega))) (by omega); omega)
              have t232 : x231.toInt = (aY i6).toInt := congrArg Int32.toInt (cx231.trans (by rw [tn_nI (by omega)]))
              have t233 : 1 ≤ (aY i6).toInt ∧ (aY i6).toInt ≤ 20 := (hrg i6 (by omega)).2.1
              refine lv_iadd hx hb dX5_tryOrders_97 ?_
              refine lv_topi (fun x234 ex234 => ?_)
              have t235 : x234.toInt = r208.toInt + x231.toInt := ti_add ex234 rfl rfl (by omega) (by omega)
              refine lv_istore (lv' := [(8, .int x234), (7, .int (nI i6)), (0, .ref o0), (1, .int 1), (2, .int yr), (3, .long co), (5, .int ic), (6, .int lt)]) hx hb dX5_tryOrders_98 hl (by decide) rfl (fun ls hl => ?_)
              refine lv_iload hx hb dX5_tryOrders_100 (lv_at hl 0 rfl) ?_
              refine lv_iconst (v := (-1)) hx hb dX5_tryOrders_102 (by decide) ?_
              refine lv_icmp_eq (tgt := 194) hx hb dX5_tryOrders_103 (by decide) (fun c236 => (by exfalso; have q9 : x234.toInt = (-1) := ti_eq c236 rfl (by decide); omega)) (fun c236 => ?_)
              have t237 : x234.toInt ≠ (-1) := ti_ne c236 rfl (by decide)
              refine lv_iload hx hb dX5_tryOrders_106 (lv_at hl 0 rfl) ?_
              refine lv_sipush (v := 200) hx hb dX5_tryOrders_108 (by decide) ?_
              refine lv_icmp_gt (tgt := 194) hx hb dX5_tryOrders_111 (by decide) (fun c238 => ?_) (fun c238 => ?_)
              · have t239 : 200 < x234.toInt := ti_lt c238 (by decide) rfl
                refine lv_iinc (v := nI (i6 + 1)) (lv' := [(7, .int (nI (i6 + 1))), (8, .int x234), (0, .ref o0), (1, .int 1), (2, .int yr), (3, .long co), (5, .int ic), (6, .int lt)]) hx hb dX5_tryOrders_194 hl (k := 1) rfl (nI_add i6 1) (by decide) rfl (fun ls hl => ?_)
                refine lv_goto (tgt := 53) hx hb dX5_tryOrders_197 (by decide) ?_
                have bk9 : z17.toInt = (slO N 1 aC aY aB aA (pb vP) yr.toInt co.toInt ic.toInt lt.toInt R a0 (i6 + 1)).1 ∧ (0 ≤ (slO N 1 aC aY aB aA (pb vP) yr.toInt co.toInt ic.toInt lt.toInt R a0 (i6 + 1)).1 → ∀ k : Nat, k < N → (V14 k).toInt = (slO N 1 aC aY aB aA (pb vP) yr.toInt co.toInt ic.toInt lt.toInt R a0 (i6 + 1)).2 k) ∧ ∀ k : Nat, k < 1 → (V12 k).toInt = R k := by rw [sl_n (yw_none yw9 (by omega) (by omega))]; exact ⟨hj26, hj27, hj28⟩
                exact ih193 (i6 + 1) (by omega) (by omega) V12 V14 z17 ⟨bk9.1, bk9.2.1, bk9.2.2, (by omega)⟩ _ _ hT hF hS m210 m211 m212 m213 (m214.ext (fun _ _ => rfl)) m215 m216 m217 m218 m219 m220 m221 m222 m223 m224 m225 ls (lv_sub hl [0, 2, 3, 4, 5, 6, 7] rfl)
              · have t240 : x234.toInt ≤ 200 := ti_nlt c238 (by decide) rfl
                refine lv_lload_n hx hb dX5_tryOrders_114 rfl (lv_at hl 5 rfl) ?_
                refine lv_iload hx hb dX5_tryOrders_115 (lv_at hl 6 rfl) ?_
                refine lv_i2l (v := ic.toInt64) hx hb dX5_tryOrders_117 rfl ?_
                refine lv_iload hx hb dX5_tryOrders_118 (lv_at hl 0 rfl) ?_
                refine lv_iload_n hx hb dX5_tryOrders_120 rfl (lv_at hl 4 rfl) ?_
                refine lv_isub hx hb dX5_tryOrders_121 ?_
                refine lv_topi (fun x241 ex241 => ?_)
                have t242 : x241.toInt = x234.toInt - yr.toInt := ti_sub ex241 rfl rfl (by omega) (by omega)
                refine lv_i2l (v := x241.toInt64) hx hb dX5_tryOrders_122 rfl ?_
                refine lv_lmul hx hb dX5_tryOrders_123 ?_
                refine lv_topl (fun y243 ey243 => ?_)
                have t244 : y243.toInt = ic.toInt * x241.toInt ∧ -(100000 * 200) ≤ y243.toInt ∧ y243.toInt ≤ 100000 * 200 := tl_m ey243 ((Int32.toInt_toInt64 _).trans rfl) ((Int32.toInt_toInt64 _).trans rfl) (A := 100000) (B := 200) (by omega) (by omega) (by omega) (by omega) (by decide)
                have t245 : y243.toInt = ic.toInt * (x234.toInt - yr.toInt) := (by rw [show x234.toInt - yr.toInt = x241.toInt from by omega]; omega)
                refine lv_ladd hx hb dX5_tryOrders_124 ?_
                refine lv_topl (fun y246 ey246 => ?_)
                have t247 : y246.toInt = co.toInt + y243.toInt := tl_a ey246 rfl rfl (by omega) (by omega)
                refine lv_aload_n hx hb dX5_tryOrders_125 rfl (lv_at hl 2 rfl) ?_
                refine tw_getM (v := .ref xcs) hx hb hts bF2_X5 hown hK hT hr_o0 shc_8 rfl 5 (by decide) (ht_at2 hts 3 rfl) (fun _ h9 => h9) m219 dX5_tryOrders_126 ?_
                refine lv_iload hx hb dX5_tryOrders_129 (lv_at hl 1 rfl) ?_
                refine tw_iald (i := (nI i6)) hx hb hK hT hr_xcs shc_63 rfl (vp_in_nI (by omega) (by decide)) dX5_tryOrders_131 (fun v9 m248 h9 => ?_)
                obtain ⟨x249, rfl, gx249, kx249⟩ := h9
                have cx249 := m210.at m248 (by have q9 := tn_of (show (nI i6).toInt = ((i6 : Nat) : Int) from (nI_toInt (by omega))) (by omega); omega)
                obtain rfl : x205 = x249 := (el_same m248 m227 rfl).symm
                refine lv_i2l (v := x205.toInt64) hx hb dX5_tryOrders_132 rfl ?_
                refine lv_lsub hx hb dX5_tryOrders_133 ?_
                refine lv_topl (fun y250 ey250 => ?_)
                have t251 : y250.toInt = y246.toInt - x205.toInt := tl_s ey250 rfl ((Int32.toInt_toInt64 _).trans rfl) (by omega) (by omega)
                have dn9 := (yw_some (last := (aY i6).toInt) (d := x234.toInt) yw9 (by omega) (by omega) (by omega))
                have dc9 := dn_cash dn9 (by omega) (by omega)
                refine lv_lstore (lv' := [(9, .long y250), (8, .int x234), (7, .int (nI i6)), (0, .ref o0), (1, .int 1), (2, .int yr), (3, .long co), (5, .int ic), (6, .int lt)]) hx hb dX5_tryOrders_134 hl (by decide) rfl (fun ls hl => ?_)
                refine lv_aload_n hx hb dX5_tryOrders_136 rfl (lv_at hl 3 rfl) ?_
                refine tw_getM (v := .ref xpd) hx hb hts bF2_X5 hown hK hT hr_o0 shc_8 rfl 9 (by decide) (ht_at2 hts 2 rfl) (fun _ h9 => h9) m223 dX5_tryOrders_137 ?_
                refine lv_iload hx hb dX5_tryOrders_140 (lv_at hl 2 rfl) ?_
                refine lv_iconst (v := 1) hx hb dX5_tryOrders_142 (by decide) ?_
                refine tw_zast (i := (nI i6)) (x := 1) hx hb hK hT hG hS hr_xpd shc_67 rfl (vp_in_nI (by omega) (by decide)) (gi_z (rg_t (a := 1) (by decide) (by omega) (by omega)) (by decide) (by decide)) dX5_tryOrders_143 (fun H locs hT oq m252 oi hS => ?_)
                have hF := hF.ast hr_xpd skc_67 oq (by decide)
                have m253 := m210.kept (oq _ (gne hr_xcs hr_xpd (by decide)))
                have m254 := m211.kept (oq _ (gne hr_xls hr_xpd (by decide)))
                have m255 := m212.kept (oq _ (gne hr_xin hr_xpd (by decide)))
                have m256 := m213.kept (oq _ (gne hr_xac hr_xpd (by decide)))
                have m257 := m214.put (show el H xpd _ = some (.int 1) from m252) oi
                have m258 := m215.kept (oq _ (gne hr_xtr hr_xpd (by decide)))
                have m259 := m216.kept (oq _ (gne hr_xbe hr_xpd (by decide)))
                have m260 := (el_kept (oq _ (gne hr_o0 hr_xpd (by decide)))).trans m217
                have m261 := (el_kept (oq _ (gne hr_o0 hr_xpd (by decide)))).trans m218
                have m262 := (el_kept (oq _ (gne hr_o0 hr_xpd (by decide)))).trans m219
                have m263 := (el_kept (oq _ (gne hr_o0 hr_xpd (by decide)))).trans m220
                have m264 := (el_kept (oq _ (gne hr_o0 hr_xpd (by decide)))).trans m221
                have m265 := (el_kept (oq _ (gne hr_o0 hr_xpd (by decide)))).trans m222
                have m266 := (el_kept (oq _ (gne hr_o0 hr_xpd (by decide)))).trans m223
                have m267 := (el_kept (oq _ (gne hr_o0 hr_xpd (by decide)))).trans m224
                have m268 := (el_kept (oq _ (gne hr_o0 hr_xpd (by decide)))).trans m225
                have m269 := (el_kept (oq _ (gne hr_xcs hr_xpd (by decide)))).trans m227
                have m270 := (el_kept (oq _ (gne hr_xls hr_xpd (by decide)))).trans m230
                refine lv_aload_n hx hb dX5_tryOrders_144 rfl (lv_at hl 3 rfl) ?_
                refine tw_getM (v := .ref xtr) hx hb hts bF2_X5 hown hK hT hr_o0 shc_8 rfl 10 (by decide) (ht_at2 hts 9 rfl) (fun _ h9 => h9) m267 dX5_tryOrders_145 ?_
                refine lv_iload_n hx hb dX5_tryOrders_148 rfl (lv_at hl 4 rfl) ?_
                refine lv_iload hx hb dX5_tryOrders_149 (lv_at hl 2 rfl) ?_
                refine tw_iast (i := 1) (x := (nI i6)) hx hb hK hT hG hS hr_xtr shc_68 rfl (by unfold vp_in; decide) (gi_of (show (nI i6).toInt = ((i6 : Nat) : Int) from (nI_toInt (by omega))) (by omega) (by omega)) dX5_tryOrders_151 (fun H locs hT oq m271 oi hS => ?_)
                have hF := hF.ast hr_xtr skc_68 oq (by decide)
                have m272 := m253.kept (oq _ (gne hr_xcs hr_xtr (by decide)))
                have m273 := m254.kept (oq _ (gne hr_xls hr_xtr (by decide)))
                have m274 := m255.kept (oq _ (gne hr_xin hr_xtr (by decide)))
                have m275 := m256.kept (oq _ (gne hr_xac hr_xtr (by decide)))
                have m276 := m257.kept (oq _ (gne hr_xpd hr_xtr (by decide)))
                have m277 := m258.put m271 oi
                have m278 := m259.kept (oq _ (gne hr_xbe hr_xtr (by decide)))
                have m279 := (el_kept (oq _ (gne hr_o0 hr_xtr (by decide)))).trans m260
                have m280 := (el_kept (oq _ (gne hr_o0 hr_xtr (by decide)))).trans m261
                have m281 := (el_kept (oq _ (gne hr_o0 hr_xtr (by decide)))).trans m262
                have m282 := (el_kept (oq _ (gne hr_o0 hr_xtr (by decide)))).trans m263
                have m283 := (el_kept (oq _ (gne hr_o0 hr_xtr (by decide)))).trans m264
                have m284 := (el_kept (oq _ (gne hr_o0 hr_xtr (by decide)))).trans m265
                have m285 := (el_kept (oq _ (gne hr_o0 hr_xtr (by decide)))).trans m266
                have m286 := (el_kept (oq _ (gne hr_o0 hr_xtr (by decide)))).trans m267
                have m287 := (el_kept (oq _ (gne hr_o0 hr_xtr (by decide)))).trans m268
                have m288 := (el_kept (oq _ (gne hr_xcs hr_xtr (by decide)))).trans m269
                have m289 := (el_kept (oq _ (gne hr_xls hr_xtr (by decide)))).trans m270
                refine lv_aload_n hx hb dX5_tryOrders_152 rfl (lv_at hl 3 rfl) ?_
                refine lv_iload_n hx hb dX5_tryOrders_153 rfl (lv_at hl 4 rfl) ?_
                refine lv_iconst (v := 1) hx hb dX5_tryOrders_154 (by decide) ?_
                refine lv_iadd hx hb dX5_tryOrders_155 ?_
                refine lv_topi (fun x290 ex290 => ?_)
                obtain rfl : x290 = 2 := ex290.trans (by decide)
                refine lv_iload hx hb dX5_tryOrders_156 (lv_at hl 1 rfl) ?_
                refine lv_lload hx hb dX5_tryOrders_158 (lv_at hl 0 rfl) ?_
                refine lv_iload hx hb dX5_tryOrders_160 (lv_at hl 7 rfl) ?_
                refine lv_aload_n hx hb dX5_tryOrders_162 rfl (lv_at hl 3 rfl) ?_
                refine tw_getM (v := .ref xin) hx hb hts bF2_X5 hown hK hT hr_o0 shc_8 rfl 7 (by decide) (ht_at2 hts 10 rfl) (fun _ h9 => h9) m283 dX5_tryOrders_163 ?_
                refine lv_iload hx hb dX5_tryOrders_166 (lv_at hl 2 rfl) ?_
                refine tw_iald (i := (nI i6)) hx hb hK hT hr_xin shc_65 rfl (vp_in_nI (by omega) (by decide)) dX5_tryOrders_168 (fun v9 m291 h9 => ?_)
                obtain ⟨x292, rfl, gx292, kx292⟩ := h9
                have cx292 := m274.at m291 (by have q9 := tn_of (show (nI i6).toInt = ((i6 : Nat) : Int) from (nI_toInt (by omega))) (by omega); omega)
                have t293 : x292.toInt = (aB i6).toInt := congrArg Int32.toInt (cx292.trans (by rw [tn_nI (by omega)]))
                have t294 : 0 ≤ (aB i6).toInt ∧ (aB i6).toInt ≤ 100000 := (hrg i6 (by omega)).2.2.1
                refine lv_iadd hx hb dX5_tryOrders_169 ?_
                refine lv_topi (fun x295 ex295 => ?_)
                have t296 : x295.toInt = ic.toInt + x292.toInt := ti_add ex295 rfl rfl (by omega) (by omega)
                refine lv_iload hx hb dX5_tryOrders_170 (lv_at hl 8 rfl) ?_
                refine lv_aload_n hx hb dX5_tryOrders_172 rfl (lv_at hl 3 rfl) ?_
                refine tw_getM (v := .ref xac) hx hb hts bF2_X5 hown hK hT hr_o0 shc_8 rfl 8 (by decide) (ht_at2 hts 11 rfl) (fun _ h9 => h9) m284 dX5_tryOrders_173 ?_
                refine lv_iload hx hb dX5_tryOrders_176 (lv_at hl 2 rfl) ?_
                refine tw_iald (i := (nI i6)) hx hb hK hT hr_xac shc_66 rfl (vp_in_nI (by omega) (by decide)) dX5_tryOrders_178 (fun v9 m297 h9 => ?_)
                obtain ⟨x298, rfl, gx298, kx298⟩ := h9
                have cx298 := m275.at m297 (by have q9 := tn_of (show (nI i6).toInt = ((i6 : Nat) : Int) from (nI_toInt (by omega))) (by omega); omega)
                have t299 : x298.toInt = (aA i6).toInt := congrArg Int32.toInt (cx298.trans (by rw [tn_nI (by omega)]))
                have t300 : 0 ≤ (aA i6).toInt ∧ (aA i6).toInt ≤ 1000 := (hrg i6 (by omega)).2.2.2
                refine lv_iload hx hb dX5_tryOrders_179 (lv_at hl 1 rfl) ?_
                refine lv_imul hx hb dX5_tryOrders_181 ?_
                refine lv_topi (fun x301 ex301 => ?_)
                have t302 : x301.toInt = x298.toInt * x234.toInt := ti_mulx ex301 rfl rfl (A := 1000) (B := 200) (by omega) (by omega) (by omega) (by omega) (by decide)
                have t303 : 0 ≤ x301.toInt ∧ x301.toInt ≤ 1000 * 200 ∧ (x298.toInt = 0 → x301.toInt = 0) ∧ (x234.toInt = 0 → x301.toInt = 0) ∧ x301.toInt ≤ x298.toInt * 200 ∧ x301.toInt ≤ 1000 * x234.toInt := ti_mulnn ex301 rfl rfl (by omega) (by omega) (by omega) (by omega) (by decide)
                refine lv_iadd hx hb dX5_tryOrders_182 ?_
                refine lv_topi (fun x304 ex304 => ?_)
                have t305 : x304.toInt = lt.toInt + x301.toInt := ti_add ex304 rfl rfl (by omega) (by omega)
                have hFc := gA_free hG hA hS
                refine va_callv (va_runV (As := [.int 2, .int x234, .long y250, .int x295, .int x304]) (rest := []) ⟨hx, hb, hml, hown, hts⟩ (c_tryOrdersC2 l dC dI kA adK adV G H nC nS o0 x234 y250 x295 x304 jb z17 xcs xls xin xac xpd xtr xbe aC aY aB aA (cu vP (nI i6).toNatClampNeg (1 : Int32)) (cu V12 (1 : Int32).toNatClampNeg (nI i6)) V14 N (fun k => if k = 1 then ((i6 : Nat) : Int) else R k) (slO N 1 aC aY aB aA (pb vP) yr.toInt co.toInt ic.toInt lt.toInt R a0 i6) hT hr_o0 m279 m280 m281 hr_xcs m282 hr_xls m283 hr_xin m284 hr_xac m285 hr_xpd m286 hr_xtr m287 hr_xbe (by have q8 := ti_all x234; omega) (by have q8 := ti_all x295; omega) (by have q8 := ti_all x304; omega) (by have q8 := ti_all jb; omega) (by omega) hN hrg (sl_ok (by omega) (fun j hj => by have := (hrg j (by omega)).2.1.1; omega) (fun j hj => (hrg j (by omega)).2.2.2.1) (by omega) (by omega) hba) hj26 hj27 (rr_s (K := 1) rfl (by decide) (nI_toInt (by omega)) hj28) m272 m273 m274 m275 m276 m277 m278 (by omega) (by omega)) (cwV 5 hts (goodIn_app (goodIn_r _ [19, 20, 21, 8] rfl (by decide +kernel)) (goodIn_ca (goodIn_r _ [13, 1, 2, 3, 4, 5, 6, 7, 8, 9, 10, 11, 12, 13, 14, 15, 16, 17, 18, 19, 20, 21] rfl (by decide +kernel)) (bs2_in _ _))) rfl rfl rfl (by decide +kernel) ⟨(Nat.le_of_ble_eq_true rfl), (Nat.le_of_ble_eq_true rfl)⟩) ⟨fun a U g mk q => by obtain ⟨q0, q1, qK, qE⟩ := q; exact ⟨q0, q1, va_K.moved (u := U) (U := U.calling g mk a) (Vm.Alike.refl U.vm) qK, EVC.blind g mk a qE⟩, gH_recv hK hT hr_o0 shc_8 rfl, fun U hU hW => ⟨rfl, hU, va_K.moved hW.alike hK, hE.call hS hFc hU hW⟩⟩ rfl rfl hl.1 rfl (lv_room (Nat.le_of_ble_eq_true rfl)) dX5_tryOrders_183 ⟨(Nat.le_of_ble_eq_true rfl), (Nat.le_of_ble_eq_true rfl)⟩) hS (fun q _ h => hFc q h) hFc (fun u t H locs ht hvm hw307 hB _ _ hS => ?_)
                obtain ⟨u308, u309, u310⟩ := u
                obtain ⟨hT, hF1, m311, m312, m313, m314⟩ := hB
                rw [ht] at hT hF1 m311 m312 m313 m314
                have m315 := m272.kept (hF1.arr hr_xcs skc_63 (by decide))
                have m316 := m273.kept (hF1.arr hr_xls skc_64 (by decide))
                have m317 := m274.kept (hF1.arr hr_xin skc_65 (by decide))
                have m318 := m275.kept (hF1.arr hr_xac skc_66 (by decide))
                have m322 := (hF1.fld hr_o0 skc_8 (k := 15) (by decide) (by decide)).trans m279
                have m324 := (hF1.fld hr_o0 skc_8 (k := 5) (by decide) (by decide)).trans m281
                have m325 := (hF1.fld hr_o0 skc_8 (k := 6) (by decide) (by decide)).trans m282
                have m326 := (hF1.fld hr_o0 skc_8 (k := 7) (by decide) (by decide)).trans m283
                have m327 := (hF1.fld hr_o0 skc_8 (k := 8) (by decide) (by decide)).trans m284
                have m328 := (hF1.fld hr_o0 skc_8 (k := 9) (by decide) (by decide)).trans m285
                have m329 := (hF1.fld hr_o0 skc_8 (k := 10) (by decide) (by decide)).trans m286
                have m330 := (hF1.fld hr_o0 skc_8 (k := 11) (by decide) (by decide)).trans m287
                have m331 := (el_kept (hF1.arr hr_xcs skc_63 (by decide))).trans m288
                have m332 := (el_kept (hF1.arr hr_xls skc_64 (by decide))).trans m289
                have m334 := (el_kept (hF1.arr hr_xin skc_65 (by decide))).trans m291
                have m335 := (el_kept (hF1.arr hr_xac skc_66 (by decide))).trans m297
                have hF := hF.more hF1 (by decide)
                try dsimp only at hw307
                have hf336 := hw307
                refine lv_aload_n hx hb dX5_tryOrders_186 rfl (lv_at hl 3 rfl) ?_
                refine tw_getM (v := .ref xpd) hx hb hts bF2_X5 hown hK hT hr_o0 shc_8 rfl 9 (by decide) (ht_at2 hts 2 rfl) (fun _ h9 => h9) m328 dX5_tryOrders_187 ?_
                refine lv_iload hx hb dX5_tryOrders_190 (lv_at hl 2 rfl) ?_
                refine lv_iconst (v := 0) hx hb dX5_tryOrders_192 (by decide) ?_
                refine tw_zast (i := (nI i6)) (x := 0) hx hb hK hT hG hS hr_xpd shc_67 rfl (vp_in_nI (by omega) (by decide)) (gi_z (rg_t (a := 0) (by decide) (by omega) (by omega)) (by decide) (by decide)) dX5_tryOrders_193 (fun H locs hT oq m337 oi hS => ?_)
                have hF := hF.ast hr_xpd skc_67 oq (by decide)
                have m338 := m315.kept (oq _ (gne hr_xcs hr_xpd (by decide)))
                have m339 := m316.kept (oq _ (gne hr_xls hr_xpd (by decide)))
                have m340 := m317.kept (oq _ (gne hr_xin hr_xpd (by decide)))
                have m341 := m318.kept (oq _ (gne hr_xac hr_xpd (by decide)))
                have m342 := (el_kept (oq _ (gne hr_o0 hr_xpd (by decide)))).trans m322
                have m343 := (el_kept (oq _ (gne hr_o0 hr_xpd (by decide)))).trans m324
                have m344 := (el_kept (oq _ (gne hr_o0 hr_xpd (by decide)))).trans m325
                have m345 := (el_kept (oq _ (gne hr_o0 hr_xpd (by decide)))).trans m326
                have m346 := (el_kept (oq _ (gne hr_o0 hr_xpd (by decide)))).trans m327
                have m347 := (el_kept (oq _ (gne hr_o0 hr_xpd (by decide)))).trans m328
                have m348 := (el_kept (oq _ (gne hr_o0 hr_xpd (by decide)))).trans m329
                have m349 := (el_kept (oq _ (gne hr_o0 hr_xpd (by decide)))).trans m330
                have m350 := (el_kept (oq _ (gne hr_xcs hr_xpd (by decide)))).trans m331
                have m351 := (el_kept (oq _ (gne hr_xls hr_xpd (by decide)))).trans m332
                have m352 := (el_kept (oq _ (gne hr_xin hr_xpd (by decide)))).trans m334
                have m353 := (el_kept (oq _ (gne hr_xac hr_xpd (by decide)))).trans m335
                have m354 := (el_kept (oq _ (gne hr_o0 hr_xpd (by decide)))).trans m311
                have m355 := m312.put (show el H xpd _ = some (.int 0) from m337) oi
                have m356 := m313.kept (oq _ (gne hr_xtr hr_xpd (by decide)))
                have m357 := m314.kept (oq _ (gne hr_xbe hr_xpd (by decide)))
                refine lv_iinc (v := nI (i6 + 1)) (lv' := [(7, .int (nI (i6 + 1))), (9, .long y250), (8, .int x234), (0, .ref o0), (1, .int 1), (2, .int yr), (3, .long co), (5, .int ic), (6, .int lt)]) hx hb dX5_tryOrders_194 hl (k := 2) rfl (nI_add i6 1) (by decide) rfl (fun ls hl => ?_)
                refine lv_goto (tgt := 53) hx hb dX5_tryOrders_197 (by decide) ?_
                have bk9 : u308.toInt = (slO N 1 aC aY aB aA (pb vP) yr.toInt co.toInt ic.toInt lt.toInt R a0 (i6 + 1)).1 ∧ (0 ≤ (slO N 1 aC aY aB aA (pb vP) yr.toInt co.toInt ic.toInt lt.toInt R a0 (i6 + 1)).1 → ∀ k : Nat, k < N → (u310 k).toInt = (slO N 1 aC aY aB aA (pb vP) yr.toInt co.toInt ic.toInt lt.toInt R a0 (i6 + 1)).2 k) ∧ ∀ k : Nat, k < 1 → (u309 k).toInt = R k := by have q9 := hf336; rw [sl_call (N := N) (K := 1) (K1 := 2) (aC := aC) (aY := aY) (aB := aB) (aA := aA) (U := pb vP) (yr := yr.toInt) (ca := co.toInt) (ic := ic.toInt) (su := lt.toInt) (R := R) (a := a0) (i := i6) (d := x234.toInt) (c1 := y250.toInt) (i1 := x295.toInt) (s1 := x304.toInt) (U1 := pb (cu vP (nI i6).toNatClampNeg (1 : Int32))) rfl (pb_0 (tn_nI (by omega)) cx201 (by omega)) dn9 (pb_cu (tn_nI (by omega))) (by omega) (by omega) (by rw [show (aA i6).toInt = x298.toInt from by omega]; omega)] at q9; exact ⟨q9.1, q9.2.1, fun k hk => (q9.2.2 k (by omega)).trans (if_neg (by omega))⟩
                exact ih193 (i6 + 1) (by omega) (by omega) u309 u310 u308 ⟨bk9.1, bk9.2.1, bk9.2.2, (by omega)⟩ _ _ hT hF hS m338 m339 m340 m341 (m355.ext (fun _ _ => pb_r cx201 (by omega))) m356 m357 m342 m354 m343 m344 m345 m346 m347 m348 m349 ls (lv_sub hl [0, 3, 4, 5, 6, 7, 8] rfl)
            · have t358 : x201.toInt ≠ 0 := ti_ne c202 rfl (by decide)
              refine lv_iconst (v := (-1)) hx hb dX5_tryOrders_72 (by decide) ?_
              refine lv_goto (tgt := 98) hx hb dX5_tryOrders_73 (by decide) ?_
              refine lv_istore (lv' := [(8, .int (-1)), (7, .int (nI i6)), (0, .ref o0), (1, .int 1), (2, .int yr), (3, .long co), (5, .int ic), (6, .int lt)]) hx hb dX5_tryOrders_98 hl (by decide) rfl (fun ls hl => ?_)
              refine lv_iload hx hb dX5_tryOrders_100 (lv_at hl 0 rfl) ?_
              refine lv_iconst (v := (-1)) hx hb dX5_tryOrders_102 (by decide) ?_
              refine lv_icmp_eq (tgt := 194) hx hb dX5_tryOrders_103 (by decide) (fun c359 => ?_) (fun c359 => absurd c359 (by decide))
              refine lv_iinc (v := nI (i6 + 1)) (lv' := [(7, .int (nI (i6 + 1))), (8, .int (-1)), (0, .ref o0), (1, .int 1), (2, .int yr), (3, .long co), (5, .int ic), (6, .int lt)]) hx hb dX5_tryOrders_194 hl (k := 1) rfl (nI_add i6 1) (by decide) rfl (fun ls hl => ?_)
              refine lv_goto (tgt := 53) hx hb dX5_tryOrders_197 (by decide) ?_
              have bk9 : z17.toInt = (slO N 1 aC aY aB aA (pb vP) yr.toInt co.toInt ic.toInt lt.toInt R a0 (i6 + 1)).1 ∧ (0 ≤ (slO N 1 aC aY aB aA (pb vP) yr.toInt co.toInt ic.toInt lt.toInt R a0 (i6 + 1)).1 → ∀ k : Nat, k < N → (V14 k).toInt = (slO N 1 aC aY aB aA (pb vP) yr.toInt co.toInt ic.toInt lt.toInt R a0 (i6 + 1)).2 k) ∧ ∀ k : Nat, k < 1 → (V12 k).toInt = R k := by rw [sl_u (pb_1 (tn_nI (by omega)) cx201 (by omega))]; exact ⟨hj26, hj27, hj28⟩
              exact ih193 (i6 + 1) (by omega) (by omega) V12 V14 z17 ⟨bk9.1, bk9.2.1, bk9.2.2, (by omega)⟩ _ _ hT hF hS m7 m8 m9 m10 (m11.ext (fun _ _ => rfl)) m13 m15 m16 m18 m19 m20 m21 m22 m23 m24 m25 ls (lv_sub hl [0, 2, 3, 4, 5, 6, 7] rfl)
      exact key193 (7 - 0) 0 (by omega) (Nat.le_refl _) vR vZ la ⟨hla, hZ0, hR, (by omega)⟩ _ _ hT hF hS hc_aC hc_aY hc_aB hc_aA (hc_vP.ext (fun _ _ => rfl)) hc_vR hc_vZ hm_jb hm_la hm_xcs hm_xls hm_xin hm_xac hm_xpd hm_xtr hm_xbe ls (lv_sub hl [0, 1, 2, 3, 4, 5, 6] rfl)
    · have t360 : jb.toInt ≤ 1 := ti_nlt c4 (by decide) rfl
      refine lv_aload_n hx hb dX5_tryOrders_26 rfl (lv_at hl 0 rfl) ?_
      refine lv_iload hx hb dX5_tryOrders_27 (lv_at hl 5 rfl) ?_
      refine tw_put (v := .int lt) (ty := .int) hx hb hts bF2_X5 tyX5 tyX5_ok nmX5 hown hK hT hG hS hr_o0 shc_8 rfl 16 (by decide) (ht_at2 hts 0 rfl) (fun _ h9 => h9) rfl (by decide +kernel) rfl rfl (gl_at rfl (gi_all _)) dX5_tryOrders_29 (fun H locs hT oq m361 oj hS => ?_)
      have hF := hF.put hr_o0 skc_8 oq oj (by decide)
      have m362 := (oj 15 (by decide) (by decide)).trans hm_jb
      have m363 := (oj 5 (by decide) (by decide)).trans hm_xcs
      have m364 := (oj 6 (by decide) (by decide)).trans hm_xls
      have m365 := (oj 7 (by decide) (by decide)).trans hm_xin
      have m366 := (oj 8 (by decide) (by decide)).trans hm_xac
      have m367 := (oj 9 (by decide) (by decide)).trans hm_xpd
      have m368 := (oj 10 (by decide) (by decide)).trans hm_xtr
      have m369 := (oj 11 (by decide) (by decide)).trans hm_xbe
      have m370 := hc_aC.kept (oq _ (gne hr_xcs hr_o0 (by decide)))
      have m371 := hc_aY.kept (oq _ (gne hr_xls hr_o0 (by decide)))
      have m372 := hc_aB.kept (oq _ (gne hr_xin hr_o0 (by decide)))
      have m373 := hc_aA.kept (oq _ (gne hr_xac hr_o0 (by decide)))
      have m374 := hc_vP.kept (oq _ (gne hr_xpd hr_o0 (by decide)))
      have m375 := hc_vR.kept (oq _ (gne hr_xtr hr_o0 (by decide)))
      have m376 := hc_vZ.kept (oq _ (gne hr_xbe hr_o0 (by decide)))
      refine lv_aload_n hx hb dX5_tryOrders_32 rfl (lv_at hl 0 rfl) ?_
      refine tw_getM (v := .ref xtr) hx hb hts bF2_X5 hown hK hT hr_o0 shc_8 rfl 10 (by decide) (ht_at2 hts 9 rfl) (fun _ h9 => h9) m368 dX5_tryOrders_33 ?_
      refine lv_iconst (v := 0) hx hb dX5_tryOrders_36 (by decide) ?_
      refine lv_aload_n hx hb dX5_tryOrders_37 rfl (lv_at hl 0 rfl) ?_
      refine tw_getM (v := .ref xbe) hx hb hts bF2_X5 hown hK hT hr_o0 shc_8 rfl 11 (by decide) (ht_at2 hts 13 rfl) (fun _ h9 => h9) m369 dX5_tryOrders_38 ?_
      refine lv_iconst (v := 0) hx hb dX5_tryOrders_41 (by decide) ?_
      refine lv_aload_n hx hb dX5_tryOrders_42 rfl (lv_at hl 0 rfl) ?_
      refine tw_getM (v := .int jb) hx hb hts bF2_X5 hown hK hT hr_o0 shc_8 rfl 15 (by decide) (ht_at2 hts 1 rfl) (fun _ h9 => h9) m362 dX5_tryOrders_43 ?_
      refine tw_copyE (ty := .int) hx hb (hml.trans hl.1.symm) hown (ht_at2 hts 14 rfl) (ht_at2 hts 15 rfl) (ht_at2 hts 16 rfl) (ht_at2 hts 17 rfl) hK hT hG hS hr_xtr hr_xbe shc_68 shc_69 rfl rfl (by decide) (by decide) (fun h9 => by have q9 := ti_lt h9 rfl (show (0 : Int32).toInt = 0 from by decide); omega) (by have q9 := tn_of (show jb.toInt = jb.toInt from rfl) (by omega); have q8 : (0 : Int32).toNatClampNeg = 0 := (by decide); omega) (by have q9 := tn_of (show jb.toInt = jb.toInt from rfl) (by omega); have q8 : (0 : Int32).toNatClampNeg = 0 := (by decide); omega) (by decide) (by decide) (fun _ _ h9 => by obtain ⟨x9, e9, _⟩ := h9; exact ⟨x9, e9, rfl⟩) (fun _ _ _ h9 => by obtain ⟨x9, e9, a9, b9⟩ := h9; exact ⟨x9, e9, by omega, by omega⟩) (Nat.le_of_ble_eq_true rfl) (Nat.le_of_ble_eq_true rfl) dX5_tryOrders_46 (fun H locs hT oq ce377 hS => ?_)
      have hF := hF.ast hr_xbe skc_69 oq (by decide)
      have m378 := (el_kept (oq _ (gne hr_o0 hr_xbe (by decide)))).trans m362
      have m379 := (el_kept (oq _ (gne hr_o0 hr_xbe (by decide)))).trans m363
      have m380 := (el_kept (oq _ (gne hr_o0 hr_xbe (by decide)))).trans m364
      have m381 := (el_kept (oq _ (gne hr_o0 hr_xbe (by decide)))).trans m365
      have m382 := (el_kept (oq _ (gne hr_o0 hr_xbe (by decide)))).trans m366
      have m383 := (el_kept (oq _ (gne hr_o0 hr_xbe (by decide)))).trans m367
      have m384 := (el_kept (oq _ (gne hr_o0 hr_xbe (by decide)))).trans m368
      have m385 := (el_kept (oq _ (gne hr_o0 hr_xbe (by decide)))).trans m369
      have m386 := m370.kept (oq _ (gne hr_xcs hr_xbe (by decide)))
      have m387 := m371.kept (oq _ (gne hr_xls hr_xbe (by decide)))
      have m388 := m372.kept (oq _ (gne hr_xin hr_xbe (by decide)))
      have m389 := m373.kept (oq _ (gne hr_xac hr_xbe (by decide)))
      have m390 := m374.kept (oq _ (gne hr_xpd hr_xbe (by decide)))
      have m391 := m375.kept (oq _ (gne hr_xtr hr_xbe (by decide)))
      have m392 := (el_kept (oq _ (gne hr_o0 hr_xbe (by decide)))).trans m361
      obtain ⟨V393, m394, kV393⟩ := ct_of hT hr_xbe shc_69
      have cq395 : ∀ k : Nat, ((k : Nat) : Int) < jb.toInt → V393 k = vR k := fun k hk => Value.int.inj (Option.some.inj ((m394 k (by omega)).symm.trans ((ce377 k (by have q9 := tn_of (show jb.toInt = jb.toInt from rfl) (by omega); omega)).trans (m375 k (by omega)))))
      exact W.vret hx hb hr (fun t ht hW => ⟨⟨(lt, vR, V393), rfl, (by exact (by (try dsimp only); have e9 : N = 1 := (by omega); rw [sx_0 e9, if_neg (by omega)]; exact ⟨rfl, fun _ k hk => (congrArg Int32.toInt (cq395 k (by omega))).trans (hR k (by omega)), hR⟩)), by (try dsimp only); rw [ht]; exact ⟨hT, hF, m392, m390, m391, m394⟩⟩, hS.F ht⟩) hS.2.2 dX5_tryOrders_49
  · have t396 : la.toInt ≠ (-1) := ti_ne c2 rfl (by decide)
    refine lv_iload hx hb dX5_tryOrders_8 (lv_at hl 5 rfl) ?_
    refine lv_aload_n hx hb dX5_tryOrders_10 rfl (lv_at hl 0 rfl) ?_
    refine tw_getM (v := .int la) hx hb hts bF2_X5 hown hK hT hr_o0 shc_8 rfl 16 (by decide) (ht_at2 hts 0 rfl) (fun _ h9 => h9) hm_la dX5_tryOrders_11 ?_
    refine lv_icmp_lt (tgt := 18) hx hb dX5_tryOrders_14 (by decide) (fun c397 => ?_) (fun c397 => ?_)
    · have t398 : lt.toInt < la.toInt := ti_lt c397 rfl rfl
      refine lv_iload_n hx hb dX5_tryOrders_18 rfl (lv_at hl 1 rfl) ?_
      refine lv_aload_n hx hb dX5_tryOrders_19 rfl (lv_at hl 0 rfl) ?_
      refine tw_getM (v := .int jb) hx hb hts bF2_X5 hown hK hT hr_o0 shc_8 rfl 15 (by decide) (ht_at2 hts 1 rfl) (fun _ h9 => h9) hm_jb dX5_tryOrders_20 ?_
      refine lv_icmp_lt (tgt := 50) hx hb dX5_tryOrders_23 (by decide) (fun c399 => ?_) (fun c399 => ?_)
      · have t400 : 1 < jb.toInt := ti_lt c399 (by decide) rfl
        refine lv_iconst (v := 0) hx hb dX5_tryOrders_50 (by decide) ?_
        refine lv_istore (lv' := [(7, .int 0), (0, .ref o0), (1, .int 1), (2, .int yr), (3, .long co), (5, .int ic), (6, .int lt)]) hx hb dX5_tryOrders_51 hl (by decide) rfl (fun ls hl => ?_)
        have key588 : ∀ (n588 i401 : Nat), i401 + n588 = 7 → 0 ≤ i401 → ∀ (V407 : Nat → Int32), ∀ (V409 : Nat → Int32), ∀ (z412 : Int32), ((z412.toInt = (slO N 1 aC aY aB aA (pb vP) yr.toInt co.toInt ic.toInt lt.toInt R a0 i401).1) ∧ (0 ≤ (slO N 1 aC aY aB aA (pb vP) yr.toInt co.toInt ic.toInt lt.toInt R a0 i401).1 → ∀ k : Nat, k < N → (V409 k).toInt = (slO N 1 aC aY aB aA (pb vP) yr.toInt co.toInt ic.toInt lt.toInt R a0 i401).2 k) ∧ (∀ k : Nat, k < 1 → (V407 k).toInt = R k) ∧ (((i401 : Nat) : Int) ≤ jb.toInt)) → ∀ (H : Heap) (locs : List Loc), gH (dC, dI) kA (SHc nC nS) G H → gF (dC, dI) SKc G ([(8, 16), (67, 0), (68, 0), (69, 0)] : List (Nat × Nat)) s.heap H → va_S A s.heap H locs → ct H xcs 7 aC → ct H xls 7 aY → ct H xin 7 aB → ct H xac 7 aA → ct H xpd 7 vP → ct H xtr 7 V407 → ct H xbe 7 V409 → el H o0 (dI 8 15) = some (.int jb) → el H o0 (dI 8 16) = some (.int z412) → el H o0 (dI 8 5) = some (.ref xcs) → el H o0 (dI 8 6) = some (.ref xls) → el H o0 (dI 8 7) = some (.ref xin) → el H o0 (dI 8 8) = some (.ref xac) → el H o0 (dI 8 9) = some (.ref xpd) → el H o0 (dI 8 10) = some (.ref xtr) → el H o0 (dI 8 11) = some (.ref xbe) → ∀ ls : Array Slot, lv_has ls 11 [(7, .int (nI i401)), (0, .ref o0), (1, .int 1), (2, .int yr), (3, .long co), (5, .int ic), (6, .int lt)] → W p l e (headSpec w_c_tryOrdersC1 ({ frames := 8, cells := 0, slots := 0, locals := 240 })).room s m #[.ref o0, .int 1, .int yr, .long co, .int ic, .int lt] below meth c H locs 0 0 (MQ below (va_Qv (fun (u : Int32 × (Nat → Int32) × (Nat → Int32)) => match u with | (la1, vR1, vZ1) => (la1.toInt = (sx N 1 aC aY aB aA (pb vP) yr.toInt co.toInt ic.toInt lt.toInt R a0).1 ∧ (0 ≤ (sx N 1 aC aY aB aA (pb vP) yr.toInt co.toInt ic.toInt lt.toInt R a0).1 → ∀ k : Nat, k < N → (vZ1 k).toInt = (sx N 1 aC aY aB aA (pb vP) yr.toInt co.toInt ic.toInt lt.toInt R a0).2 k) ∧ ∀ k : Nat, k < 1 → (vR1 k).toInt = R k)) (fun (u : Int32 × (Nat → Int32) × (Nat → Int32)) (t : State) => match u with | (la1, vR1, vZ1) => gH (dC, dI) kA (SHc nC nS) G t.heap ∧ gF (dC, dI) SKc G ([(8, 16), (67, 0), (68, 0), (69, 0)] : List (Nat × Nat)) s.heap t.heap ∧ el t.heap o0 (dI 8 16) = some (.int la1) ∧ ct t.heap xpd 7 vP ∧ ct t.heap xtr 7 vR1 ∧ ct t.heap xbe 7 vZ1) A) #[.ref o0, .int 1, .int yr, .long co, .int ic, .int lt] s 0 0 A) (F0 m 53 ls []) := by
          intro n588
          induction n588 with
          | zero =>
            intro i401 hn588 hlo589 V407 V409 z412 ⟨hj421, hj422, hj423, hj424⟩ H locs hT hF hS m402 m403 m404 m405 m406 m408 m410 m411 m413 m414 m415 m416 m417 m418 m419 m420 ls hl
            obtain rfl : 7 = i401 := by omega
            refine lv_iload hx hb dX5_tryOrders_53 (lv_at hl 0 rfl) ?_
            refine lv_aload_n hx hb dX5_tryOrders_55 rfl (lv_at hl 1 rfl) ?_
            refine tw_getM (v := .int jb) hx hb hts bF2_X5 hown hK hT hr_o0 shc_8 rfl 15 (by decide) (ht_at2 hts 1 rfl) (fun _ h9 => h9) m411 dX5_tryOrders_56 ?_
            refine lv_icmp_ge (tgt := 200) hx hb dX5_tryOrders_59 (by decide) (fun c590 => ?_) (fun c590 => (by exfalso; have q9 : ((7 : Nat) : Int) < jb.toInt := ti_nle c590 rfl (nI_toInt (by omega)); omega))
            have t591 : jb.toInt ≤ ((7 : Nat) : Int) := ti_le c590 rfl (nI_toInt (by omega))
            exact W.vret hx hb hr (fun t ht hW => ⟨⟨(z412, V407, V409), rfl, (by exact (by (try dsimp only); have e9 : N = 7 := (by omega); rw [sx_s (by omega)]; subst e9; exact ⟨hj421, hj422, hj423⟩)), by (try dsimp only); rw [ht]; exact ⟨hT, hF, m413, m406, m408, m410⟩⟩, hS.F ht⟩) hS.2.2 dX5_tryOrders_200
          | succ n588 ih588 =>
            intro i401 hn588 hlo589 V407 V409 z412 ⟨hj421, hj422, hj423, hj424⟩ H locs hT hF hS m402 m403 m404 m405 m406 m408 m410 m411 m413 m414 m415 m416 m417 m418 m419 m420 ls hl
            have hlt591 : i401 < 7 := by omega
            refine lv_iload hx hb dX5_tryOrders_53 (lv_at hl 0 rfl) ?_
            refine lv_aload_n hx hb dX5_tryOrders_55 rfl (lv_at hl 1 rfl) ?_
            refine tw_getM (v := .int jb) hx hb hts bF2_X5 hown hK hT hr_o0 shc_8 rfl 15 (by decide) (ht_at2 hts 1 rfl) (fun _ h9 => h9) m411 dX5_tryOrders_56 ?_
            refine lv_icmp_ge (tgt := 200) hx hb dX5_tryOrders_59 (by decide) (fun c592 => ?_) (fun c592 => ?_)
            · have t593 : jb.toInt ≤ ((i401 : Nat) : Int) := ti_le c592 rfl (nI_toInt (by omega))
              exact W.vret hx hb hr (fun t ht hW => ⟨⟨(z412, V407, V409), rfl, (by exact (by (try dsimp only); have e9 : N = i401 := (by omega); rw [sx_s (by omega)]; subst e9; exact ⟨hj421, hj422, hj423⟩)), by (try dsimp only); rw [ht]; exact ⟨hT, hF, m413, m406, m408, m410⟩⟩, hS.F ht⟩) hS.2.2 dX5_tryOrders_200
            · have t594 : ((i401 : Nat) : Int) < jb.toInt := ti_nle c592 rfl (nI_toInt (by omega))
              refine lv_aload_n hx hb dX5_tryOrders_62 rfl (lv_at hl 1 rfl) ?_
              refine tw_getM (v := .ref xpd) hx hb hts bF2_X5 hown hK hT hr_o0 shc_8 rfl 9 (by decide) (ht_at2 hts 2 rfl) (fun _ h9 => h9) m418 dX5_tryOrders_63 ?_
              refine lv_iload hx hb dX5_tryOrders_66 (lv_at hl 0 rfl) ?_
              refine tw_zald (i := (nI i401)) hx hb hK hT hr_xpd shc_67 rfl (vp_in_nI (by omega) (by decide)) dX5_tryOrders_68 (fun v9 m595 h9 => ?_)
              obtain ⟨x596, rfl, gx596, kx596⟩ := h9
              have cx596 := m406.at m595 (by have q9 := tn_of (show (nI i401).toInt = ((i401 : Nat) : Int) from (nI_toInt (by omega))) (by omega); omega)
              refine lv_if_eq (tgt := 76) hx hb dX5_tryOrders_69 (by decide) (fun c597 => ?_) (fun c597 => ?_)
              · have t598 : x596.toInt = 0 := ti_eq c597 rfl (by decide)
                refine lv_iload_n hx hb dX5_tryOrders_76 rfl (lv_at hl 3 rfl) ?_
                refine lv_lload_n hx hb dX5_tryOrders_77 rfl (lv_at hl 4 rfl) ?_
                refine lv_iload hx hb dX5_tryOrders_78 (lv_at hl 5 rfl) ?_
                refine lv_aload_n hx hb dX5_tryOrders_80 rfl (lv_at hl 1 rfl) ?_
                refine tw_getM (v := .ref xcs) hx hb hts bF2_X5 hown hK hT hr_o0 shc_8 rfl 5 (by decide) (ht_at2 hts 3 rfl) (fun _ h9 => h9) m414 dX5_tryOrders_81 ?_
                refine lv_iload hx hb dX5_tryOrders_84 (lv_at hl 0 rfl) ?_
                refine tw_iald (i := (nI i401)) hx hb hK hT hr_xcs shc_63 rfl (vp_in_nI (by omega) (by decide)) dX5_tryOrders_86 (fun v9 m599 h9 => ?_)
                obtain ⟨x600, rfl, gx600, kx600⟩ := h9
                have cx600 := m402.at m599 (by have q9 := tn_of (show (nI i401).toInt = ((i401 : Nat) : Int) from (nI_toInt (by omega))) (by omega); omega)
                have t601 : x600.toInt = (aC i401).toInt := congrArg Int32.toInt (cx600.trans (by rw [tn_nI (by omega)]))
                have t602 : 0 ≤ (aC i401).toInt ∧ (aC i401).toInt ≤ 1000000 := (hrg i401 (by omega)).1
                have hFc := gA_free hG hA hS
                refine va_calli (va_runS (As := [.int yr, .long co, .int ic, .int x600]) (rest := []) ⟨hx, hb, hml, hown, hts⟩ (c_yearC l dC dI kA adK adV G H nC nS yr co ic x600 hT (by have q8 := ti_all yr; omega) (by have q8 := ti_all ic; omega) (by have q8 := ti_all x600; omega) (by omega) (by omega) (by omega)) (va_cwS 4 hts (goodIn_app (goodIn_r _ [6, 7, 8] rfl (by decide +kernel)) (goodIn_ca (goodIn_r _ [5] rfl (by decide +kernel)) (bs2_in _ _))) rfl rfl rfl (by decide +kernel) ⟨(Nat.le_of_ble_eq_true rfl), (Nat.le_of_ble_eq_true rfl)⟩) ⟨fun a U g mk q => by obtain ⟨q0, q1, qK, qE⟩ := q; exact ⟨q0, q1, va_K.moved (u := U) (U := U.calling g mk a) (Vm.Alike.refl U.vm) qK, EVC.blind g mk a qE⟩, fun U hU hW => ⟨rfl, hU, va_K.moved hW.alike hK, hE.call hS hFc hU hW⟩⟩ rfl rfl hl.1 rfl (lv_room (Nat.le_of_ble_eq_true rfl)) dX5_tryOrders_87 ⟨(Nat.le_of_ble_eq_true rfl), (Nat.le_of_ble_eq_true rfl)⟩) hS (fun q _ h => hFc q h) hFc (fun r603 u t H locs ht hvm hw604 hB _ _ hS => ?_)
                obtain ⟨hT, hF1⟩ := hB
                rw [ht] at hT hF1
                have m605 := m402.kept (hF1.arr hr_xcs skc_63 (by decide))
                have m606 := m403.kept (hF1.arr hr_xls skc_64 (by decide))
                have m607 := m404.kept (hF1.arr hr_xin skc_65 (by decide))
                have m608 := m405.kept (hF1.arr hr_xac skc_66 (by decide))
                have m609 := m406.kept (hF1.arr hr_xpd skc_67 (by decide))
                have m610 := m408.kept (hF1.arr hr_xtr skc_68 (by decide))
                have m611 := m410.kept (hF1.arr hr_xbe skc_69 (by decide))
                have m612 := (hF1.fld hr_o0 skc_8 (k := 15) (by decide) (by decide)).trans m411
                have m613 := (hF1.fld hr_o0 skc_8 (k := 16) (by decide) (by decide)).trans m413
                have m614 := (hF1.fld hr_o0 skc_8 (k := 5) (by decide) (by decide)).trans m414
                have m615 := (hF1.fld hr_o0 skc_8 (k := 6) (by decide) (by decide)).trans m415
                have m616 := (hF1.fld hr_o0 skc_8 (k := 7) (by decide) (by decide)).trans m416
                have m617 := (hF1.fld hr_o0 skc_8 (k := 8) (by decide) (by decide)).trans m417
                have m618 := (hF1.fld hr_o0 skc_8 (k := 9) (by decide) (by decide)).trans m418
                have m619 := (hF1.fld hr_o0 skc_8 (k := 10) (by decide) (by decide)).trans m419
                have m620 := (hF1.fld hr_o0 skc_8 (k := 11) (by decide) (by decide)).trans m420
                have m621 := (el_kept (hF1.arr hr_xpd skc_67 (by decide))).trans m595
                have m622 := (el_kept (hF1.arr hr_xcs skc_63 (by decide))).trans m599
                have hF := hF.more hF1 (by decide)
                try dsimp only at hw604
                obtain ⟨h623, hf624⟩ := hw604
                have yw9 : yw yr.toInt co.toInt ic.toInt (aC i401).toInt r603.toInt := by rw [show (aC i401).toInt = x600.toInt from by omega]; exact hf624
                refine lv_aload_n hx hb dX5_tryOrders_90 rfl (lv_at hl 1 rfl) ?_
                refine tw_getM (v := .ref xls) hx hb hts bF2_X5 hown hK hT hr_o0 shc_8 rfl 6 (by decide) (ht_at2 hts 8 rfl) (fun _ h9 => h9) m615 dX5_tryOrders_91 ?_
                refine lv_iload hx hb dX5_tryOrders_94 (lv_at hl 0 rfl) ?_
                refine tw_iald (i := (nI i401)) hx hb hK hT hr_xls shc_64 rfl (vp_in_nI (by omega) (by decide)) dX5_tryOrders_96 (fun v9 m625 h9 => ?_)
                obtain ⟨x626, rfl, gx626, kx626⟩ := h9
                have cx626 := m606.at m625 (by have q9 := tn_of (show (nI i401).toInt = ((i401 : Nat) : Int) from (nI_toInt (by omega))) (by omega); omega)
                have t627 : x626.toInt = (aY i401).toInt := congrArg Int32.toInt (cx626.trans (by rw [tn_nI (by omega)]))
                have t628 : 1 ≤ (aY i401).toInt ∧ (aY i401).toInt ≤ 20 := (hrg i401 (by omega)).2.1
                refine lv_iadd hx hb dX5_tryOrders_97 ?_
                refine lv_topi (fun x629 ex629 => ?_)
                have t630 : x629.toInt = r603.toInt + x626.toInt := ti_add ex629 rfl rfl (by omega) (by omega)
                refine lv_istore (lv' := [(8, .int x629), (7, .int (nI i401)), (0, .ref o0), (1, .int 1), (2, .int yr), (3, .long co), (5, .int ic), (6, .int lt)]) hx hb dX5_tryOrders_98 hl (by decide) rfl (fun ls hl => ?_)
                refine lv_iload hx hb dX5_tryOrders_100 (lv_at hl 0 rfl) ?_
                refine lv_iconst (v := (-1)) hx hb dX5_tryOrders_102 (by decide) ?_
                refine lv_icmp_eq (tgt := 194) hx hb dX5_tryOrders_103 (by decide) (fun c631 => (by exfalso; have q9 : x629.toInt = (-1) := ti_eq c631 rfl (by decide); omega)) (fun c631 => ?_)
                have t632 : x629.toInt ≠ (-1) := ti_ne c631 rfl (by decide)
                refine lv_iload hx hb dX5_tryOrders_106 (lv_at hl 0 rfl) ?_
                refine lv_sipush (v := 200) hx hb dX5_tryOrders_108 (by decide) ?_
                refine lv_icmp_gt (tgt := 194) hx hb dX5_tryOrders_111 (by decide) (fun c633 => ?_) (fun c633 => ?_)
                · have t634 : 200 < x629.toInt := ti_lt c633 (by decide) rfl
                  refine lv_iinc (v := nI (i401 + 1)) (lv' := [(7, .int (nI (i401 + 1))), (8, .int x629), (0, .ref o0), (1, .int 1), (2, .int yr), (3, .long co), (5, .int ic), (6, .int lt)]) hx hb dX5_tryOrders_194 hl (k := 1) rfl (nI_add i401 1) (by decide) rfl (fun ls hl => ?_)
                  refine lv_goto (tgt := 53) hx hb dX5_tryOrders_197 (by decide) ?_
                  have bk9 : z412.toInt = (slO N 1 aC aY aB aA (pb vP) yr.toInt co.toInt ic.toInt lt.toInt R a0 (i401 + 1)).1 ∧ (0 ≤ (slO N 1 aC aY aB aA (pb vP) yr.toInt co.toInt ic.toInt lt.toInt R a0 (i401 + 1)).1 → ∀ k : Nat, k < N → (V409 k).toInt = (slO N 1 aC aY aB aA (pb vP) yr.toInt co.toInt ic.toInt lt.toInt R a0 (i401 + 1)).2 k) ∧ ∀ k : Nat, k < 1 → (V407 k).toInt = R k := by rw [sl_n (yw_none yw9 (by omega) (by omega))]; exact ⟨hj421, hj422, hj423⟩
                  exact ih588 (i401 + 1) (by omega) (by omega) V407 V409 z412 ⟨bk9.1, bk9.2.1, bk9.2.2, (by omega)⟩ _ _ hT hF hS m605 m606 m607 m608 (m609.ext (fun _ _ => rfl)) m610 m611 m612 m613 m614 m615 m616 m617 m618 m619 m620 ls (lv_sub hl [0, 2, 3, 4, 5, 6, 7] rfl)
                · have t635 : x629.toInt ≤ 200 := ti_nlt c633 (by decide) rfl
                  refine lv_lload_n hx hb dX5_tryOrders_114 rfl (lv_at hl 5 rfl) ?_
                  refine lv_iload hx hb dX5_tryOrders_115 (lv_at hl 6 rfl) ?_
                  refine lv_i2l (v := ic.toInt64) hx hb dX5_tryOrders_117 rfl ?_
                  refine lv_iload hx hb dX5_tryOrders_118 (lv_at hl 0 rfl) ?_
                  refine lv_iload_n hx hb dX5_tryOrders_120 rfl (lv_at hl 4 rfl) ?_
                  refine lv_isub hx hb dX5_tryOrders_121 ?_
                  refine lv_topi (fun x636 ex636 => ?_)
                  have t637 : x636.toInt = x629.toInt - yr.toInt := ti_sub ex636 rfl rfl (by omega) (by omega)
                  refine lv_i2l (v := x636.toInt64) hx hb dX5_tryOrders_122 rfl ?_
                  refine lv_lmul hx hb dX5_tryOrders_123 ?_
                  refine lv_topl (fun y638 ey638 => ?_)
                  have t639 : y638.toInt = ic.toInt * x636.toInt ∧ -(100000 * 200) ≤ y638.toInt ∧ y638.toInt ≤ 100000 * 200 := tl_m ey638 ((Int32.toInt_toInt64 _).trans rfl) ((Int32.toInt_toInt64 _).trans rfl) (A := 100000) (B := 200) (by omega) (by omega) (by omega) (by omega) (by decide)
                  have t640 : y638.toInt = ic.toInt * (x629.toInt - yr.toInt) := (by rw [show x629.toInt - yr.toInt = x636.toInt from by omega]; omega)
                  refine lv_ladd hx hb dX5_tryOrders_124 ?_
                  refine lv_topl (fun y641 ey641 => ?_)
                  have t642 : y641.toInt = co.toInt + y638.toInt := tl_a ey641 rfl rfl (by omega) (by omega)
                  refine lv_aload_n hx hb dX5_tryOrders_125 rfl (lv_at hl 2 rfl) ?_
                  refine tw_getM (v := .ref xcs) hx hb hts bF2_X5 hown hK hT hr_o0 shc_8 rfl 5 (by decide) (ht_at2 hts 3 rfl) (fun _ h9 => h9) m614 dX5_tryOrders_126 ?_
                  refine lv_iload hx hb dX5_tryOrders_129 (lv_at hl 1 rfl) ?_
                  refine tw_iald (i := (nI i401)) hx hb hK hT hr_xcs shc_63 rfl (vp_in_nI (by omega) (by decide)) dX5_tryOrders_131 (fun v9 m643 h9 => ?_)
                  obtain ⟨x644, rfl, gx644, kx644⟩ := h9
                  have cx644 := m605.at m643 (by have q9 := tn_of (show (nI i401).toInt = ((i401 : Nat) : Int) from (nI_toInt (by omega))) (by omega); omega)
                  obtain rfl : x600 = x644 := (el_same m643 m622 rfl).symm
                  refine lv_i2l (v := x600.toInt64) hx hb dX5_tryOrders_132 rfl ?_
                  refine lv_lsub hx hb dX5_tryOrders_133 ?_
                  refine lv_topl (fun y645 ey645 => ?_)
                  have t646 : y645.toInt = y641.toInt - x600.toInt := tl_s ey645 rfl ((Int32.toInt_toInt64 _).trans rfl) (by omega) (by omega)
                  have dn9 := (yw_some (last := (aY i401).toInt) (d := x629.toInt) yw9 (by omega) (by omega) (by omega))
                  have dc9 := dn_cash dn9 (by omega) (by omega)
                  refine lv_lstore (lv' := [(9, .long y645), (8, .int x629), (7, .int (nI i401)), (0, .ref o0), (1, .int 1), (2, .int yr), (3, .long co), (5, .int ic), (6, .int lt)]) hx hb dX5_tryOrders_134 hl (by decide) rfl (fun ls hl => ?_)
                  refine lv_aload_n hx hb dX5_tryOrders_136 rfl (lv_at hl 3 rfl) ?_
                  refine tw_getM (v := .ref xpd) hx hb hts bF2_X5 hown hK hT hr_o0 shc_8 rfl 9 (by decide) (ht_at2 hts 2 rfl) (fun _ h9 => h9) m618 dX5_tryOrders_137 ?_
                  refine lv_iload hx hb dX5_tryOrders_140 (lv_at hl 2 rfl) ?_
                  refine lv_iconst (v := 1) hx hb dX5_tryOrders_142 (by decide) ?_
                  refine tw_zast (i := (nI i401)) (x := 1) hx hb hK hT hG hS hr_xpd shc_67 rfl (vp_in_nI (by omega) (by decide)) (gi_z (rg_t (a := 1) (by decide) (by omega) (by omega)) (by decide) (by decide)) dX5_tryOrders_143 (fun H locs hT oq m647 oi hS => ?_)
                  have hF := hF.ast hr_xpd skc_67 oq (by decide)
                  have m648 := m605.kept (oq _ (gne hr_xcs hr_xpd (by decide)))
                  have m649 := m606.kept (oq _ (gne hr_xls hr_xpd (by decide)))
                  have m650 := m607.kept (oq _ (gne hr_xin hr_xpd (by decide)))
                  have m651 := m608.kept (oq _ (gne hr_xac hr_xpd (by decide)))
                  have m652 := m609.put (show el H xpd _ = some (.int 1) from m647) oi
                  have m653 := m610.kept (oq _ (gne hr_xtr hr_xpd (by decide)))
                  have m654 := m611.kept (oq _ (gne hr_xbe hr_xpd (by decide)))
                  have m655 := (el_kept (oq _ (gne hr_o0 hr_xpd (by decide)))).trans m612
                  have m656 := (el_kept (oq _ (gne hr_o0 hr_xpd (by decide)))).trans m613
                  have m657 := (el_kept (oq _ (gne hr_o0 hr_xpd (by decide)))).trans m614
                  have m658 := (el_kept (oq _ (gne hr_o0 hr_xpd (by decide)))).trans m615
                  have m659 := (el_kept (oq _ (gne hr_o0 hr_xpd (by decide)))).trans m616
                  have m660 := (el_kept (oq _ (gne hr_o0 hr_xpd (by decide)))).trans m617
                  have m661 := (el_kept (oq _ (gne hr_o0 hr_xpd (by decide)))).trans m618
                  have m662 := (el_kept (oq _ (gne hr_o0 hr_xpd (by decide)))).trans m619
                  have m663 := (el_kept (oq _ (gne hr_o0 hr_xpd (by decide)))).trans m620
                  have m664 := (el_kept (oq _ (gne hr_xcs hr_xpd (by decide)))).trans m622
                  have m665 := (el_kept (oq _ (gne hr_xls hr_xpd (by decide)))).trans m625
                  refine lv_aload_n hx hb dX5_tryOrders_144 rfl (lv_at hl 3 rfl) ?_
                  refine tw_getM (v := .ref xtr) hx hb hts bF2_X5 hown hK hT hr_o0 shc_8 rfl 10 (by decide) (ht_at2 hts 9 rfl) (fun _ h9 => h9) m662 dX5_tryOrders_145 ?_
                  refine lv_iload_n hx hb dX5_tryOrders_148 rfl (lv_at hl 4 rfl) ?_
                  refine lv_iload hx hb dX5_tryOrders_149 (lv_at hl 2 rfl) ?_
                  refine tw_iast (i := 1) (x := (nI i401)) hx hb hK hT hG hS hr_xtr shc_68 rfl (by unfold vp_in; decide) (gi_of (show (nI i401).toInt = ((i401 : Nat) : Int) from (nI_toInt (by omega))) (by omega) (by omega)) dX5_tryOrders_151 (fun H locs hT oq m666 oi hS => ?_)
                  have hF := hF.ast hr_xtr skc_68 oq (by decide)
                  have m667 := m648.kept (oq _ (gne hr_xcs hr_xtr (by decide)))
                  have m668 := m649.kept (oq _ (gne hr_xls hr_xtr (by decide)))
                  have m669 := m650.kept (oq _ (gne hr_xin hr_xtr (by decide)))
                  have m670 := m651.kept (oq _ (gne hr_xac hr_xtr (by decide)))
                  have m671 := m652.kept (oq _ (gne hr_xpd hr_xtr (by decide)))
                  have m672 := m653.put m666 oi
                  have m673 := m654.kept (oq _ (gne hr_xbe hr_xtr (by decide)))
                  have m674 := (el_kept (oq _ (gne hr_o0 hr_xtr (by decide)))).trans m655
                  have m675 := (el_kept (oq _ (gne hr_o0 hr_xtr (by decide)))).trans m656
                  have m676 := (el_kept (oq _ (gne hr_o0 hr_xtr (by decide)))).trans m657
                  have m677 := (el_kept (oq _ (gne hr_o0 hr_xtr (by decide)))).trans m658
                  have m678 := (el_kept (oq _ (gne hr_o0 hr_xtr (by decide)))).trans m659
                  have m679 := (el_kept (oq _ (gne hr_o0 hr_xtr (by decide)))).trans m660
                  have m680 := (el_kept (oq _ (gne hr_o0 hr_xtr (by decide)))).trans m661
                  have m681 := (el_kept (oq _ (gne hr_o0 hr_xtr (by decide)))).trans m662
                  have m682 := (el_kept (oq _ (gne hr_o0 hr_xtr (by decide)))).trans m663
                  have m683 := (el_kept (oq _ (gne hr_xcs hr_xtr (by decide)))).trans m664
                  have m684 := (el_kept (oq _ (gne hr_xls hr_xtr (by decide)))).trans m665
                  refine lv_aload_n hx hb dX5_tryOrders_152 rfl (lv_at hl 3 rfl) ?_
                  refine lv_iload_n hx hb dX5_tryOrders_153 rfl (lv_at hl 4 rfl) ?_
                  refine lv_iconst (v := 1) hx hb dX5_tryOrders_154 (by decide) ?_
                  refine lv_iadd hx hb dX5_tryOrders_155 ?_
                  refine lv_topi (fun x685 ex685 => ?_)
                  obtain rfl : x685 = 2 := ex685.trans (by decide)
                  refine lv_iload hx hb dX5_tryOrders_156 (lv_at hl 1 rfl) ?_
                  refine lv_lload hx hb dX5_tryOrders_158 (lv_at hl 0 rfl) ?_
                  refine lv_iload hx hb dX5_tryOrders_160 (lv_at hl 7 rfl) ?_
                  refine lv_aload_n hx hb dX5_tryOrders_162 rfl (lv_at hl 3 rfl) ?_
                  refine tw_getM (v := .ref xin) hx hb hts bF2_X5 hown hK hT hr_o0 shc_8 rfl 7 (by decide) (ht_at2 hts 10 rfl) (fun _ h9 => h9) m678 dX5_tryOrders_163 ?_
                  refine lv_iload hx hb dX5_tryOrders_166 (lv_at hl 2 rfl) ?_
                  refine tw_iald (i := (nI i401)) hx hb hK hT hr_xin shc_65 rfl (vp_in_nI (by omega) (by decide)) dX5_tryOrders_168 (fun v9 m686 h9 => ?_)
                  obtain ⟨x687, rfl, gx687, kx687⟩ := h9
                  have cx687 := m669.at m686 (by have q9 := tn_of (show (nI i401).toInt = ((i401 : Nat) : Int) from (nI_toInt (by omega))) (by omega); omega)
                  have t688 : x687.toInt = (aB i401).toInt := congrArg Int32.toInt (cx687.trans (by rw [tn_nI (by omega)]))
                  have t689 : 0 ≤ (aB i401).toInt ∧ (aB i401).toInt ≤ 100000 := (hrg i401 (by omega)).2.2.1
                  refine lv_iadd hx hb dX5_tryOrders_169 ?_
                  refine lv_topi (fun x690 ex690 => ?_)
                  have t691 : x690.toInt = ic.toInt + x687.toInt := ti_add ex690 rfl rfl (by omega) (by omega)
                  refine lv_iload hx hb dX5_tryOrders_170 (lv_at hl 8 rfl) ?_
                  refine lv_aload_n hx hb dX5_tryOrders_172 rfl (lv_at hl 3 rfl) ?_
                  refine tw_getM (v := .ref xac) hx hb hts bF2_X5 hown hK hT hr_o0 shc_8 rfl 8 (by decide) (ht_at2 hts 11 rfl) (fun _ h9 => h9) m679 dX5_tryOrders_173 ?_
                  refine lv_iload hx hb dX5_tryOrders_176 (lv_at hl 2 rfl) ?_
                  refine tw_iald (i := (nI i401)) hx hb hK hT hr_xac shc_66 rfl (vp_in_nI (by omega) (by decide)) dX5_tryOrders_178 (fun v9 m692 h9 => ?_)
                  obtain ⟨x693, rfl, gx693, kx693⟩ := h9
                  have cx693 := m670.at m692 (by have q9 := tn_of (show (nI i401).toInt = ((i401 : Nat) : Int) from (nI_toInt (by omega))) (by omega); omega)
                  have t694 : x693.toInt = (aA i401).toInt := congrArg Int32.toInt (cx693.trans (by rw [tn_nI (by omega)]))
                  have t695 : 0 ≤ (aA i401).toInt ∧ (aA i401).toInt ≤ 1000 := (hrg i401 (by omega)).2.2.2
                  refine lv_iload hx hb dX5_tryOrders_179 (lv_at hl 1 rfl) ?_
                  refine lv_imul hx hb dX5_tryOrders_181 ?_
                  refine lv_topi (fun x696 ex696 => ?_)
                  have t697 : x696.toInt = x693.toInt * x629.toInt := ti_mulx ex696 rfl rfl (A := 1000) (B := 200) (by omega) (by omega) (by omega) (by omega) (by decide)
                  have t698 : 0 ≤ x696.toInt ∧ x696.toInt ≤ 1000 * 200 ∧ (x693.toInt = 0 → x696.toInt = 0) ∧ (x629.toInt = 0 → x696.toInt = 0) ∧ x696.toInt ≤ x693.toInt * 200 ∧ x696.toInt ≤ 1000 * x629.toInt := ti_mulnn ex696 rfl rfl (by omega) (by omega) (by omega) (by omega) (by decide)
                  refine lv_iadd hx hb dX5_tryOrders_182 ?_
                  refine lv_topi (fun x699 ex699 => ?_)
                  have t700 : x699.toInt = lt.toInt + x696.toInt := ti_add ex699 rfl rfl (by omega) (by omega)
                  have hFc := gA_free hG hA hS
                  refine va_callv (va_runV (As := [.int 2, .int x629, .long y645, .int x690, .int x699]) (rest := []) ⟨hx, hb, hml, hown, hts⟩ (c_tryOrdersC2 l dC dI kA adK adV G H nC nS o0 x629 y645 x690 x699 jb z412 xcs xls xin xac xpd xtr xbe aC aY aB aA (cu vP (nI i401).toNatClampNeg (1 : Int32)) (cu V407 (1 : Int32).toNatClampNeg (nI i401)) V409 N (fun k => if k = 1 then ((i401 : Nat) : Int) else R k) (slO N 1 aC aY aB aA (pb vP) yr.toInt co.toInt ic.toInt lt.toInt R a0 i401) hT hr_o0 m674 m675 m676 hr_xcs m677 hr_xls m678 hr_xin m679 hr_xac m680 hr_xpd m681 hr_xtr m682 hr_xbe (by have q8 := ti_all x629; omega) (by have q8 := ti_all x690; omega) (by have q8 := ti_all x699; omega) (by have q8 := ti_all jb; omega) (by omega) hN hrg (sl_ok (by omega) (fun j hj => by have := (hrg j (by omega)).2.1.1; omega) (fun j hj => (hrg j (by omega)).2.2.2.1) (by omega) (by omega) hba) hj421 hj422 (rr_s (K := 1) rfl (by decide) (nI_toInt (by omega)) hj423) m667 m668 m669 m670 m671 m672 m673 (by omega) (by omega)) (cwV 5 hts (goodIn_app (goodIn_r _ [19, 20, 21, 8] rfl (by decide +kernel)) (goodIn_ca (goodIn_r _ [13, 1, 2, 3, 4, 5, 6, 7, 8, 9, 10, 11, 12, 13, 14, 15, 16, 17, 18, 19, 20, 21] rfl (by decide +kernel)) (bs2_in _ _))) rfl rfl rfl (by decide +kernel) ⟨(Nat.le_of_ble_eq_true rfl), (Nat.le_of_ble_eq_true rfl)⟩) ⟨fun a U g mk q => by obtain ⟨q0, q1, qK, qE⟩ := q; exact ⟨q0, q1, va_K.moved (u := U) (U := U.calling g mk a) (Vm.Alike.refl U.vm) qK, EVC.blind g mk a qE⟩, gH_recv hK hT hr_o0 shc_8 rfl, fun U hU hW => ⟨rfl, hU, va_K.moved hW.alike hK, hE.call hS hFc hU hW⟩⟩ rfl rfl hl.1 rfl (lv_room (Nat.le_of_ble_eq_true rfl)) dX5_tryOrders_183 ⟨(Nat.le_of_ble_eq_true rfl), (Nat.le_of_ble_eq_true rfl)⟩) hS (fun q _ h => hFc q h) hFc (fun u t H locs ht hvm hw702 hB _ _ hS => ?_)
                  obtain ⟨u703, u704, u705⟩ := u
                  obtain ⟨hT, hF1, m706, m707, m708, m709⟩ := hB
                  rw [ht] at hT hF1 m706 m707 m708 m709
                  have m710 := m667.kept (hF1.arr hr_xcs skc_63 (by decide))
                  have m711 := m668.kept (hF1.arr hr_xls skc_64 (by decide))
                  have m712 := m669.kept (hF1.arr hr_xin skc_65 (by decide))
                  have m713 := m670.kept (hF1.arr hr_xac skc_66 (by decide))
                  have m717 := (hF1.fld hr_o0 skc_8 (k := 15) (by decide) (by decide)).trans m674
                  have m719 := (hF1.fld hr_o0 skc_8 (k := 5) (by decide) (by decide)).trans m676
                  have m720 := (hF1.fld hr_o0 skc_8 (k := 6) (by decide) (by decide)).trans m677
                  have m721 := (hF1.fld hr_o0 skc_8 (k := 7) (by decide) (by decide)).trans m678
                  have m722 := (hF1.fld hr_o0 skc_8 (k := 8) (by decide) (by decide)).trans m679
                  have m723 := (hF1.fld hr_o0 skc_8 (k := 9) (by decide) (by decide)).trans m680
                  have m724 := (hF1.fld hr_o0 skc_8 (k := 10) (by decide) (by decide)).trans m681
                  have m725 := (hF1.fld hr_o0 skc_8 (k := 11) (by decide) (by decide)).trans m682
                  have m726 := (el_kept (hF1.arr hr_xcs skc_63 (by decide))).trans m683
                  have m727 := (el_kept (hF1.arr hr_xls skc_64 (by decide))).trans m684
                  have m729 := (el_kept (hF1.arr hr_xin skc_65 (by decide))).trans m686
                  have m730 := (el_kept (hF1.arr hr_xac skc_66 (by decide))).trans m692
                  have hF := hF.more hF1 (by decide)
                  try dsimp only at hw702
                  have hf731 := hw702
                  refine lv_aload_n hx hb dX5_tryOrders_186 rfl (lv_at hl 3 rfl) ?_
                  refine tw_getM (v := .ref xpd) hx hb hts bF2_X5 hown hK hT hr_o0 shc_8 rfl 9 (by decide) (ht_at2 hts 2 rfl) (fun _ h9 => h9) m723 dX5_tryOrders_187 ?_
                  refine lv_iload hx hb dX5_tryOrders_190 (lv_at hl 2 rfl) ?_
                  refine lv_iconst (v := 0) hx hb dX5_tryOrders_192 (by decide) ?_
                  refine tw_zast (i := (nI i401)) (x := 0) hx hb hK hT hG hS hr_xpd shc_67 rfl (vp_in_nI (by omega) (by decide)) (gi_z (rg_t (a := 0) (by decide) (by omega) (by omega)) (by decide) (by decide)) dX5_tryOrders_193 (fun H locs hT oq m732 oi hS => ?_)
                  have hF := hF.ast hr_xpd skc_67 oq (by decide)
                  have m733 := m710.kept (oq _ (gne hr_xcs hr_xpd (by decide)))
                  have m734 := m711.kept (oq _ (gne hr_xls hr_xpd (by decide)))
                  have m735 := m712.kept (oq _ (gne hr_xin hr_xpd (by decide)))
                  have m736 := m713.kept (oq _ (gne hr_xac hr_xpd (by decide)))
                  have m737 := (el_kept (oq _ (gne hr_o0 hr_xpd (by decide)))).trans m717
                  have m738 := (el_kept (oq _ (gne hr_o0 hr_xpd (by decide)))).trans m719
                  have m739 := (el_kept (oq _ (gne hr_o0 hr_xpd (by decide)))).trans m720
                  have m740 := (el_kept (oq _ (gne hr_o0 hr_xpd (by decide)))).trans m721
                  have m741 := (el_kept (oq _ (gne hr_o0 hr_xpd (by decide)))).trans m722
                  have m742 := (el_kept (oq _ (gne hr_o0 hr_xpd (by decide)))).trans m723
                  have m743 := (el_kept (oq _ (gne hr_o0 hr_xpd (by decide)))).trans m724
                  have m744 := (el_kept (oq _ (gne hr_o0 hr_xpd (by decide)))).trans m725
                  have m745 := (el_kept (oq _ (gne hr_xcs hr_xpd (by decide)))).trans m726
                  have m746 := (el_kept (oq _ (gne hr_xls hr_xpd (by decide)))).trans m727
                  have m747 := (el_kept (oq _ (gne hr_xin hr_xpd (by decide)))).trans m729
                  have m748 := (el_kept (oq _ (gne hr_xac hr_xpd (by decide)))).trans m730
                  have m749 := (el_kept (oq _ (gne hr_o0 hr_xpd (by decide)))).trans m706
                  have m750 := m707.put (show el H xpd _ = some (.int 0) from m732) oi
                  have m751 := m708.kept (oq _ (gne hr_xtr hr_xpd (by decide)))
                  have m752 := m709.kept (oq _ (gne hr_xbe hr_xpd (by decide)))
                  refine lv_iinc (v := nI (i401 + 1)) (lv' := [(7, .int (nI (i401 + 1))), (9, .long y645), (8, .int x629), (0, .ref o0), (1, .int 1), (2, .int yr), (3, .long co), (5, .int ic), (6, .int lt)]) hx hb dX5_tryOrders_194 hl (k := 2) rfl (nI_add i401 1) (by decide) rfl (fun ls hl => ?_)
                  refine lv_goto (tgt := 53) hx hb dX5_tryOrders_197 (by decide) ?_
                  have bk9 : u703.toInt = (slO N 1 aC aY aB aA (pb vP) yr.toInt co.toInt ic.toInt lt.toInt R a0 (i401 + 1)).1 ∧ (0 ≤ (slO N 1 aC aY aB aA (pb vP) yr.toInt co.toInt ic.toInt lt.toInt R a0 (i401 + 1)).1 → ∀ k : Nat, k < N → (u705 k).toInt = (slO N 1 aC aY aB aA (pb vP) yr.toInt co.toInt ic.toInt lt.toInt R a0 (i401 + 1)).2 k) ∧ ∀ k : Nat, k < 1 → (u704 k).toInt = R k := by have q9 := hf731; rw [sl_call (N := N) (K := 1) (K1 := 2) (aC := aC) (aY := aY) (aB := aB) (aA := aA) (U := pb vP) (yr := yr.toInt) (ca := co.toInt) (ic := ic.toInt) (su := lt.toInt) (R := R) (a := a0) (i := i401) (d := x629.toInt) (c1 := y645.toInt) (i1 := x690.toInt) (s1 := x699.toInt) (U1 := pb (cu vP (nI i401).toNatClampNeg (1 : Int32))) rfl (pb_0 (tn_nI (by omega)) cx596 (by omega)) dn9 (pb_cu (tn_nI (by omega))) (by omega) (by omega) (by rw [show (aA i401).toInt = x693.toInt from by omega]; omega)] at q9; exact ⟨q9.1, q9.2.1, fun k hk => (q9.2.2 k (by omega)).trans (if_neg (by omega))⟩
                  exact ih588 (i401 + 1) (by omega) (by omega) u704 u705 u703 ⟨bk9.1, bk9.2.1, bk9.2.2, (by omega)⟩ _ _ hT hF hS m733 m734 m735 m736 (m750.ext (fun _ _ => pb_r cx596 (by omega))) m751 m752 m737 m749 m738 m739 m740 m741 m742 m743 m744 ls (lv_sub hl [0, 3, 4, 5, 6, 7, 8] rfl)
              · have t753 : x596.toInt ≠ 0 := ti_ne c597 rfl (by decide)
                refine lv_iconst (v := (-1)) hx hb dX5_tryOrders_72 (by decide) ?_
                refine lv_goto (tgt := 98) hx hb dX5_tryOrders_73 (by decide) ?_
                refine lv_istore (lv' := [(8, .int (-1)), (7, .int (nI i401)), (0, .ref o0), (1, .int 1), (2, .int yr), (3, .long co), (5, .int ic), (6, .int lt)]) hx hb dX5_tryOrders_98 hl (by decide) rfl (fun ls hl => ?_)
                refine lv_iload hx hb dX5_tryOrders_100 (lv_at hl 0 rfl) ?_
                refine lv_iconst (v := (-1)) hx hb dX5_tryOrders_102 (by decide) ?_
                refine lv_icmp_eq (tgt := 194) hx hb dX5_tryOrders_103 (by decide) (fun c754 => ?_) (fun c754 => absurd c754 (by decide))
                refine lv_iinc (v := nI (i401 + 1)) (lv' := [(7, .int (nI (i401 + 1))), (8, .int (-1)), (0, .ref o0), (1, .int 1), (2, .int yr), (3, .long co), (5, .int ic), (6, .int lt)]) hx hb dX5_tryOrders_194 hl (k := 1) rfl (nI_add i401 1) (by decide) rfl (fun ls hl => ?_)
                refine lv_goto (tgt := 53) hx hb dX5_tryOrders_197 (by decide) ?_
                have bk9 : z412.toInt = (slO N 1 aC aY aB aA (pb vP) yr.toInt co.toInt ic.toInt lt.toInt R a0 (i401 + 1)).1 ∧ (0 ≤ (slO N 1 aC aY aB aA (pb vP) yr.toInt co.toInt ic.toInt lt.toInt R a0 (i401 + 1)).1 → ∀ k : Nat, k < N → (V409 k).toInt = (slO N 1 aC aY aB aA (pb vP) yr.toInt co.toInt ic.toInt lt.toInt R a0 (i401 + 1)).2 k) ∧ ∀ k : Nat, k < 1 → (V407 k).toInt = R k := by rw [sl_u (pb_1 (tn_nI (by omega)) cx596 (by omega))]; exact ⟨hj421, hj422, hj423⟩
                exact ih588 (i401 + 1) (by omega) (by omega) V407 V409 z412 ⟨bk9.1, bk9.2.1, bk9.2.2, (by omega)⟩ _ _ hT hF hS m402 m403 m404 m405 (m406.ext (fun _ _ => rfl)) m408 m410 m411 m413 m414 m415 m416 m417 m418 m419 m420 ls (lv_sub hl [0, 2, 3, 4, 5, 6, 7] rfl)
        exact key588 (7 - 0) 0 (by omega) (Nat.le_refl _) vR vZ la ⟨hla, hZ0, hR, (by omega)⟩ _ _ hT hF hS hc_aC hc_aY hc_aB hc_aA (hc_vP.ext (fun _ _ => rfl)) hc_vR hc_vZ hm_jb hm_la hm_xcs hm_xls hm_xin hm_xac hm_xpd hm_xtr hm_xbe ls (lv_sub hl [0, 1, 2, 3, 4, 5, 6] rfl)
      · have t755 : jb.toInt ≤ 1 := ti_nlt c399 (by decide) rfl
        refine lv_aload_n hx hb dX5_tryOrders_26 rfl (lv_at hl 0 rfl) ?_
        refine lv_iload hx hb dX5_tryOrders_27 (lv_at hl 5 rfl) ?_
        refine tw_put (v := .int lt) (ty := .int) hx hb hts bF2_X5 tyX5 tyX5_ok nmX5 hown hK hT hG hS hr_o0 shc_8 rfl 16 (by decide) (ht_at2 hts 0 rfl) (fun _ h9 => h9) rfl (by decide +kernel) rfl rfl (gl_at rfl (gi_all _)) dX5_tryOrders_29 (fun H locs hT oq m756 oj hS => ?_)
        have hF := hF.put hr_o0 skc_8 oq oj (by decide)
        have m757 := (oj 15 (by decide) (by decide)).trans hm_jb
        have m758 := (oj 5 (by decide) (by decide)).trans hm_xcs
        have m759 := (oj 6 (by decide) (by decide)).trans hm_xls
        have m760 := (oj 7 (by decide) (by decide)).trans hm_xin
        have m761 := (oj 8 (by decide) (by decide)).trans hm_xac
        have m762 := (oj 9 (by decide) (by decide)).trans hm_xpd
        have m763 := (oj 10 (by decide) (by decide)).trans hm_xtr
        have m764 := (oj 11 (by decide) (by decide)).trans hm_xbe
        have m765 := hc_aC.kept (oq _ (gne hr_xcs hr_o0 (by decide)))
        have m766 := hc_aY.kept (oq _ (gne hr_xls hr_o0 (by decide)))
        have m767 := hc_aB.kept (oq _ (gne hr_xin hr_o0 (by decide)))
        have m768 := hc_aA.kept (oq _ (gne hr_xac hr_o0 (by decide)))
        have m769 := hc_vP.kept (oq _ (gne hr_xpd hr_o0 (by decide)))
        have m770 := hc_vR.kept (oq _ (gne hr_xtr hr_o0 (by decide)))
        have m771 := hc_vZ.kept (oq _ (gne hr_xbe hr_o0 (by decide)))
        refine lv_aload_n hx hb dX5_tryOrders_32 rfl (lv_at hl 0 rfl) ?_
        refine tw_getM (v := .ref xtr) hx hb hts bF2_X5 hown hK hT hr_o0 shc_8 rfl 10 (by decide) (ht_at2 hts 9 rfl) (fun _ h9 => h9) m763 dX5_tryOrders_33 ?_
        refine lv_iconst (v := 0) hx hb dX5_tryOrders_36 (by decide) ?_
        refine lv_aload_n hx hb dX5_tryOrders_37 rfl (lv_at hl 0 rfl) ?_
        refine tw_getM (v := .ref xbe) hx hb hts bF2_X5 hown hK hT hr_o0 shc_8 rfl 11 (by decide) (ht_at2 hts 13 rfl) (fun _ h9 => h9) m764 dX5_tryOrders_38 ?_
        refine lv_iconst (v := 0) hx hb dX5_tryOrders_41 (by decide) ?_
        refine lv_aload_n hx hb dX5_tryOrders_42 rfl (lv_at hl 0 rfl) ?_
        refine tw_getM (v := .int jb) hx hb hts bF2_X5 hown hK hT hr_o0 shc_8 rfl 15 (by decide) (ht_at2 hts 1 rfl) (fun _ h9 => h9) m757 dX5_tryOrders_43 ?_
        refine tw_copyE (ty := .int) hx hb (hml.trans hl.1.symm) hown (ht_at2 hts 14 rfl) (ht_at2 hts 15 rfl) (ht_at2 hts 16 rfl) (ht_at2 hts 17 rfl) hK hT hG hS hr_xtr hr_xbe shc_68 shc_69 rfl rfl (by decide) (by decide) (fun h9 => by have q9 := ti_lt h9 rfl (show (0 : Int32).toInt = 0 from by decide); omega) (by have q9 := tn_of (show jb.toInt = jb.toInt from rfl) (by omega); have q8 : (0 : Int32).toNatClampNeg = 0 := (by decide); omega) (by have q9 := tn_of (show jb.toInt = jb.toInt from rfl) (by omega); have q8 : (0 : Int32).toNatClampNeg = 0 := (by decide); omega) (by decide) (by decide) (fun _ _ h9 => by obtain ⟨x9, e9, _⟩ := h9; exact ⟨x9, e9, rfl⟩) (fun _ _ _ h9 => by obtain ⟨x9, e9, a9, b9⟩ := h9; exact ⟨x9, e9, by omega, by omega⟩) (Nat.le_of_ble_eq_true rfl) (Nat.le_of_ble_eq_true rfl) dX5_tryOrders_46 (fun H locs hT oq ce772 hS => ?_)
        have hF := hF.ast hr_xbe skc_69 oq (by decide)
        have m773 := (el_kept (oq _ (gne hr_o0 hr_xbe (by decide)))).trans m757
        have m774 := (el_kept (oq _ (gne hr_o0 hr_xbe (by decide)))).trans m758
        have m775 := (el_kept (oq _ (gne hr_o0 hr_xbe (by decide)))).trans m759
        have m776 := (el_kept (oq _ (gne hr_o0 hr_xbe (by decide)))).trans m760
        have m777 := (el_kept (oq _ (gne hr_o0 hr_xbe (by decide)))).trans m761
        have m778 := (el_kept (oq _ (gne hr_o0 hr_xbe (by decide)))).trans m762
        have m779 := (el_kept (oq _ (gne hr_o0 hr_xbe (by decide)))).trans m763
        have m780 := (el_kept (oq _ (gne hr_o0 hr_xbe (by decide)))).trans m764
        have m781 := m765.kept (oq _ (gne hr_xcs hr_xbe (by decide)))
        have m782 := m766.kept (oq _ (gne hr_xls hr_xbe (by decide)))
        have m783 := m767.kept (oq _ (gne hr_xin hr_xbe (by decide)))
        have m784 := m768.kept (oq _ (gne hr_xac hr_xbe (by decide)))
        have m785 := m769.kept (oq _ (gne hr_xpd hr_xbe (by decide)))
        have m786 := m770.kept (oq _ (gne hr_xtr hr_xbe (by decide)))
        have m787 := (el_kept (oq _ (gne hr_o0 hr_xbe (by decide)))).trans m756
        obtain ⟨V788, m789, kV788⟩ := ct_of hT hr_xbe shc_69
        have cq790 : ∀ k : Nat, ((k : Nat) : Int) < jb.toInt → V788 k = vR k := fun k hk => Value.int.inj (Option.some.inj ((m789 k (by omega)).symm.trans ((ce772 k (by have q9 := tn_of (show jb.toInt = jb.toInt from rfl) (by omega); omega)).trans (m770 k (by omega)))))
        exact W.vret hx hb hr (fun t ht hW => ⟨⟨(lt, vR, V788), rfl, (by exact (by (try dsimp only); have e9 : N = 1 := (by omega); rw [sx_0 e9, if_neg (by omega)]; exact ⟨rfl, fun _ k hk => (congrArg Int32.toInt (cq790 k (by omega))).trans (hR k (by omega)), hR⟩)), by (try dsimp only); rw [ht]; exact ⟨hT, hF, m787, m785, m786, m789⟩⟩, hS.F ht⟩) hS.2.2 dX5_tryOrders_49
    · have t791 : la.toInt ≤ lt.toInt := ti_nlt c397 rfl rfl
      exact W.vret hx hb hr (fun t ht hW => ⟨⟨(la, vR, vZ), rfl, (by exact (by (try dsimp only); rw [sx_cut (fun j hj => by have := (hrg j (by omega)).2.1.1; omega) (fun j hj => (hrg j (by omega)).2.2.2.1) (by omega) ⟨by omega, by omega⟩]; exact ⟨by omega, hZ0, hR⟩)), by (try dsimp only); rw [ht]; exact ⟨hT, hF, hm_la, hc_vP, hc_vR, hc_vZ⟩⟩, hS.F ht⟩) hS.2.2 dX5_tryOrders_17
def w_c_tryOrdersC0 : List Cond := .code yX5_tryOrders cX5_tryOrders 11 none :: (HAppend.hAppend (α := List Cond) (β := List Cond) (γ := List Cond) [.fieldLink RX5 157 "SeaLand$Plans" "bestLate" "I", .fieldLink RX5 154 "SeaLand$Plans" "jobs" "I", .fieldLink RX5 41 "SeaLand$Plans" "placed" "[Z", .fieldLink RX5 29 "SeaLand$Plans" "costs" "[I", .code yX5_yearWithCost cX5_yearWithCost 5 (some .int), .methodLink RX5 164 yX5_yearWithCost, .static yX5_yearWithCost, .initialized RX5, .fieldLink RX5 32 "SeaLand$Plans" "lasts" "[I", .fieldLink RX5 45 "SeaLand$Plans" "trial" "[I", .fieldLink RX5 35 "SeaLand$Plans" "incomes" "[I", .fieldLink RX5 38 "SeaLand$Plans" "acres" "[I", .code yX5_tryOrders cX5_tryOrders 11 none, .fieldLink RX5 48 "SeaLand$Plans" "best" "[I", .methodLink RX5 100 arraycopyName, .native arraycopyName, .static arraycopyName, .initialized "java/lang/System", .methodLink RX5 160 yX5_tryOrders, .instanceMethod yX5_tryOrders, .selects RX5 yX5_tryOrders yX5_tryOrders] bs2)
set_option maxHeartbeats 4000000 in
set_option maxRecDepth 100000 in
theorem c_tryOrdersC0 (l : Launch) (dC : Nat → ClassId) (dI : Nat → Nat → Nat) (kA : Nat → ClassId) (adK adV : Nat → Nat) (G : gT) (H0 : Heap) (nC nS : Int) (o0 : Nat) (yr : Int32) (co : Int64) (ic : Int32) (lt : Int32) (jb : Int32) (la : Int32) (xcs : Nat) (xls : Nat) (xin : Nat) (xac : Nat) (xpd : Nat) (xtr : Nat) (xbe : Nat) (aC : Nat → Int32) (aY : Nat → Int32) (aB : Nat → Int32) (aA : Nat → Int32) (vP : Nat → Int32) (vR : Nat → Int32) (vZ : Nat → Int32) (N : Nat) (R : Nat → Int) (a0 : oA) (hT : gH (dC, dI) kA (SHc nC nS) G H0) (hr_o0 : G o0 = some 8) (hm_jb : el H0 o0 (dI 8 15) = some (.int jb)) (hm_la : el H0 o0 (dI 8 16) = some (.int la)) (hm_xcs : el H0 o0 (dI 8 5) = some (.ref xcs)) (hr_xcs : G xcs = some 63) (hm_xls : el H0 o0 (dI 8 6) = some (.ref xls)) (hr_xls : G xls = some 64) (hm_xin : el H0 o0 (dI 8 7) = some (.ref xin)) (hr_xin : G xin = some 65) (hm_xac : el H0 o0 (dI 8 8) = some (.ref xac)) (hr_xac : G xac = some 66) (hm_xpd : el H0 o0 (dI 8 9) = some (.ref xpd)) (hr_xpd : G xpd = some 67) (hm_xtr : el H0 o0 (dI 8 10) = some (.ref xtr)) (hr_xtr : G xtr = some 68) (hm_xbe : el H0 o0 (dI 8 11) = some (.ref xbe)) (hr_xbe : G xbe = some 69) (hq0 : 0 ≤ yr.toInt ∧ yr.toInt ≤ 200) (hq1 : 0 ≤ ic.toInt ∧ ic.toInt ≤ 0) (hq2 : 0 ≤ lt.toInt ∧ lt.toInt ≤ 0) (hq3 : 0 ≤ jb.toInt ∧ jb.toInt ≤ 7) (hco : 0 ≤ co.toInt ∧ co.toInt ≤ 1000000) (hN : jb.toInt = ((N : Nat) : Int)) (hrg : joR jb.toInt aC aY aB aA) (hba : a0.1 = -1 ∨ 0 ≤ a0.1) (hla : la.toInt = a0.1) (hZ0 : 0 ≤ a0.1 → ∀ k : Nat, k < N → (vZ k).toInt = a0.2 k) (hR : ∀ k : Nat, k < 0 → (vR k).toInt = R k) (hc_aC : ct H0 xcs 7 aC) (hc_aY : ct H0 xls 7 aY) (hc_aB : ct H0 xin 7 aB) (hc_aA : ct H0 xac 7 aA) (hc_vP : ct H0 xpd 7 vP) (hc_vR : ct H0 xtr 7 vR) (hc_vZ : ct H0 xbe 7 vZ) (hgC : 0 ≤ nC ∧ nC ≤ 40) (hgS : 0 ≤ nS ∧ nS ≤ 60) : Met l yX5_tryOrders w_c_tryOrdersC0 ({ frames := 9, cells := 0, slots := 0, locals := 270 }) (va_Pc [.ref o0, .int 0, .int yr, .long co, .int ic, .int lt] (fun U => U.heap = H0 ∧ va_K (dC, dI) vwCl (tyl kA) U ∧ EVC adK adV (gA G H0.size) U U.heap)) (va_Qv (fun (u : Int32 × (Nat → Int32) × (Nat → Int32)) => match u with | (la1, vR1, vZ1) => (la1.toInt = (sx N 0 aC aY aB aA (pb vP) yr.toInt co.toInt ic.toInt lt.toInt R a0).1 ∧ (0 ≤ (sx N 0 aC aY aB aA (pb vP) yr.toInt co.toInt ic.toInt lt.toInt R a0).1 → ∀ k : Nat, k < N → (vZ1 k).toInt = (sx N 0 aC aY aB aA (pb vP) yr.toInt co.toInt ic.toInt lt.toInt R a0).2 k) ∧ ∀ k : Nat, k < 0 → (vR1 k).toInt = R k)) (fun (u : Int32 × (Nat → Int32) × (Nat → Int32)) (t : State) => match u with | (la1, vR1, vZ1) => gH (dC, dI) kA (SHc nC nS) G t.heap ∧ gF (dC, dI) SKc G ([(8, 16), (67, 0), (68, 0), (69, 0)] : List (Nat × Nat)) H0 t.heap ∧ el t.heap o0 (dI 8 16) = some (.int la1) ∧ ct t.heap xpd 7 vP ∧ ct t.heap xtr 7 vR1 ∧ ct t.heap xbe 7 vZ1) (gA G H0.size)) 0 0 (gA G H0.size) := by
  refine Met.ofW (cc := cX5_tryOrders) (maxL := 11) (ret := none) (by decide) rfl ?_
  intro p e s m args below meth c s₁ B hml hv
  obtain ⟨rfl, hH0, hK, hE⟩ := hv
  have hx := B.exec
  have hb := B.bytes
  have hr := B.returns
  have hts := atoms_spec (ws := w_c_tryOrdersC0) B.pre
  have hown : s.vm.findClass RX5 = some m.cls := findClass_of_methodNamed B.named
  have hlocks := B.notSynchronized
  subst hH0
  generalize hAe : gA G s.heap.size = A at hE ⊢
  have hA : ∀ q : Nat, s.heap.size ≤ q → A q := fun q h => by rw [← hAe]; exact Or.inr h
  have hG := gA_of hAe
  have hS : va_S A s.heap s.heap [] := va_S.rf
  have hF : gF (dC, dI) SKc G ([(8, 16), (67, 0), (68, 0), (69, 0)] : List (Nat × Nat)) s.heap s.heap := gF.rf
  have hl := lv_entry ([.ref o0, .int 0, .int yr, .long co, .int ic, .int lt]) (n := 11) (Nat.le_of_ble_eq_true rfl)
  rw [lg_entry_eq]
  generalize (lg_sl ([.ref o0, .int 0, .int yr, .long co, .int ic, .int lt]) ++ List.replicate (11 - (lg_sl ([.ref o0, .int 0, .int yr, .long co, .int ic, .int lt])).length) Slot.unset).toArray = ls at hl ⊢
  have hl : lv_has ls 11 [(0, .ref o0), (1, .int 0), (2, .int yr), (3, .long co), (5, .int ic), (6, .int lt)] := hl
  refine lv_aload_n hx hb dX5_tryOrders_0 rfl (lv_at hl 0 rfl) ?_
  refine tw_getM (v := .int la) hx hb hts bF2_X5 hown hK hT hr_o0 shc_8 rfl 16 (by decide) (ht_at2 hts 0 rfl) (fun _ h9 => h9) hm_la dX5_tryOrders_1 ?_
  refine lv_iconst (v := (-1)) hx hb dX5_tryOrders_4 (by decide) ?_
  have t1 : -2147483648 ≤ la.toInt ∧ la.toInt ≤ 2147483647 := ti_all la
  refine lv_icmp_eq (tgt := 18) hx hb dX5_tryOrders_5 (by decide) (fun c2 => ?_) (fun c2 => ?_)
  · have t3 : la.toInt = (-1) := ti_eq c2 rfl (by decide)
    refine lv_iload_n hx hb dX5_tryOrders_18 rfl (lv_at hl 1 rfl) ?_
    refine lv_aload_n hx hb dX5_tryOrders_19 rfl (lv_at hl 0 rfl) ?_
    refine tw_getM (v := .int jb) hx hb hts bF2_X5 hown hK hT hr_o0 shc_8 rfl 15 (by decide) (ht_at2 hts 1 rfl) (fun _ h9 => h9) hm_jb dX5_tryOrders_20 ?_
    refine lv_icmp_lt (tgt := 50) hx hb dX5_tryOrders_23 (by decide) (fun c4 => ?_) (fun c4 => ?_)
    · have t5 : 0 < jb.toInt := ti_lt c4 (by decide) rfl
      refine lv_iconst (v := 0) hx hb dX5_tryOrders_50 (by decide) ?_
      refine lv_istore (lv' := [(7, .int 0), (0, .ref o0), (1, .int 0), (2, .int yr), (3, .long co), (5, .int ic), (6, .int lt)]) hx hb dX5_tryOrders_51 hl (by decide) rfl (fun ls hl => ?_)
      have key193 : ∀ (n193 i6 : Nat), i6 + n193 = 7 → 0 ≤ i6 → ∀ (V12 : Nat → Int32), ∀ (V14 : Nat → Int32), ∀ (z17 : Int32), ((z17.toInt = (slO N 0 aC aY aB aA (pb vP) yr.toInt co.toInt ic.toInt lt.toInt R a0 i6).1) ∧ (0 ≤ (slO N 0 aC aY aB aA (pb vP) yr.toInt co.toInt ic.toInt lt.toInt R a0 i6).1 → ∀ k : Nat, k < N → (V14 k).toInt = (slO N 0 aC aY aB aA (pb vP) yr.toInt co.toInt ic.toInt lt.toInt R a0 i6).2 k) ∧ (∀ k : Nat, k < 0 → (V12 k).toInt = R k) ∧ (((i6 : Nat) : Int) ≤ jb.toInt)) → ∀ (H : Heap) (locs : List Loc), gH (dC, dI) kA (SHc nC nS) G H → gF (dC, dI) SKc G ([(8, 16), (67, 0), (68, 0), (69, 0)] : List (Nat × Nat)) s.heap H → va_S A s.heap H locs → ct H xcs 7 aC → ct H xls 7 aY → ct H xin 7 aB → ct H xac 7 aA → ct H xpd 7 vP → ct H xtr 7 V12 → ct H xbe 7 V14 → el H o0 (dI 8 15) = some (.int jb) → el H o0 (dI 8 16) = some (.int z17) → el H o0 (dI 8 5) = some (.ref xcs) → el H o0 (dI 8 6) = some (.ref xls) → el H o0 (dI 8 7) = some (.ref xin) → el H o0 (dI 8 8) = some (.ref xac) → el H o0 (dI 8 9) = some (.ref xpd) → el H o0 (dI 8 10) = some (.ref xtr) → el H o0 (dI 8 11) = some (.ref xbe) → ∀ ls : Array Slot, lv_has ls 11 [(7, .int (nI i6)), (0, .ref o0), (1, .int 0), (2, .int yr), (3, .long co), (5, .int ic), (6, .int lt)] → W p l e (headSpec w_c_tryOrdersC0 ({ frames := 9, cells := 0, slots := 0, locals := 270 })).room s m #[.ref o0, .int 0, .int yr, .long co, .int ic, .int lt] below meth c H locs 0 0 (MQ below (va_Qv (fun (u : Int32 × (Nat → Int32) × (Nat → Int32)) => match u with | (la1, vR1, vZ1) => (la1.toInt = (sx N 0 aC aY aB aA (pb vP) yr.toInt co.toInt ic.toInt lt.toInt R a0).1 ∧ (0 ≤ (sx N 0 aC aY aB aA (pb vP) yr.toInt co.toInt ic.toInt lt.toInt R a0).1 → ∀ k : Nat, k < N → (vZ1 k).toInt = (sx N 0 aC aY aB aA (pb vP) yr.toInt co.toInt ic.toInt lt.toInt R a0).2 k) ∧ ∀ k : Nat, k < 0 → (vR1 k).toInt = R k)) (fun (u : Int32 × (Nat → Int32) × (Nat → Int32)) (t : State) => match u with | (la1, vR1, vZ1) => gH (dC, dI) kA (SHc nC nS) G t.heap ∧ gF (dC, dI) SKc G ([(8, 16), (67, 0), (68, 0), (69, 0)] : List (Nat × Nat)) s.heap t.heap ∧ el t.heap o0 (dI 8 16) = some (.int la1) ∧ ct t.heap xpd 7 vP ∧ ct t.heap xtr 7 vR1 ∧ ct t.heap xbe 7 vZ1) A) #[.ref o0, .int 0, .int yr, .long co, .int ic, .int lt] s 0 0 A) (F0 m 53 ls []) := by
        intro n193
        induction n193 with
        | zero =>
          intro i6 hn193 hlo194 V12 V14 z17 ⟨hj26, hj27, hj28, hj29⟩ H locs hT hF hS m7 m8 m9 m10 m11 m13 m15 m16 m18 m19 m20 m21 m22 m23 m24 m25 ls hl
          obtain rfl : 7 = i6 := by omega
          refine lv_iload hx hb dX5_tryOrders_53 (lv_at hl 0 rfl) ?_
          refine lv_aload_n hx hb dX5_tryOrders_55 rfl (lv_at hl 1 rfl) ?_
          refine tw_getM (v := .int jb) hx hb hts bF2_X5 hown hK hT hr_o0 shc_8 rfl 15 (by decide) (ht_at2 hts 1 rfl) (fun _ h9 => h9) m16 dX5_tryOrders_56 ?_
          refine lv_icmp_ge (tgt := 200) hx hb dX5_tryOrders_59 (by decide) (fun c195 => ?_) (fun c195 => (by exfalso; have q9 : ((7 : Nat) : Int) < jb.toInt := ti_nle c195 rfl (nI_toInt (by omega)); omega))
          have t196 : jb.toInt ≤ ((7 : Nat) : Int) := ti_le c195 rfl (nI_toInt (by omega))
          exact W.vret hx hb hr (fun t ht hW => ⟨⟨(z17, V12, V14), rfl, (by exact (by (try dsimp only); have e9 : N = 7 := (by omega); rw [sx_s (by omega)]; subst e9; exact ⟨hj26, hj27, hj28⟩)), by (try dsimp only); rw [ht]; exact ⟨hT, hF, m18, m11, m13, m15⟩⟩, hS.F ht⟩) hS.2.2 dX5_tryOrders_200
        | succ n193 ih193 =>
          intro i6 hn193 hlo194 V12 V14 z17 ⟨hj26, hj27, hj28, hj29⟩ H locs hT hF hS m7 m8 m9 m10 m11 m13 m15 m16 m18 m19 m20 m21 m22 m23 m24 m25 ls hl
          have hlt196 : i6 < 7 := by omega
          refine lv_iload hx hb dX5_tryOrders_53 (lv_at hl 0 rfl) ?_
          refine lv_aload_n hx hb dX5_tryOrders_55 rfl (lv_at hl 1 rfl) ?_
          refine tw_getM (v := .int jb) hx hb hts bF2_X5 hown hK hT hr_o0 shc_8 rfl 15 (by decide) (ht_at2 hts 1 rfl) (fun _ h9 => h9) m16 dX5_tryOrders_56 ?_
          refine lv_icmp_ge (tgt := 200) hx hb dX5_tryOrders_59 (by decide) (fun c197 => ?_) (fun c197 => ?_)
          · have t198 : jb.toInt ≤ ((i6 : Nat) : Int) := ti_le c197 rfl (nI_toInt (by omega))
            exact W.vret hx hb hr (fun t ht hW => ⟨⟨(z17, V12, V14), rfl, (by exact (by (try dsimp only); have e9 : N = i6 := (by omega); rw [sx_s (by omega)]; subst e9; exact ⟨hj26, hj27, hj28⟩)), by (try dsimp only); rw [ht]; exact ⟨hT, hF, m18, m11, m13, m15⟩⟩, hS.F ht⟩) hS.2.2 dX5_tryOrders_200
          · have t199 : ((i6 : Nat) : Int) < jb.toInt := ti_nle c197 rfl (nI_toInt (by omega))
            refine lv_aload_n hx hb dX5_tryOrders_62 rfl (lv_at hl 1 rfl) ?_
            refine tw_getM (v := .ref xpd) hx hb hts bF2_X5 hown hK hT hr_o0 shc_8 rfl 9 (by decide) (ht_at2 hts 2 rfl) (fun _ h9 => h9) m23 dX5_tryOrders_63 ?_
            refine lv_iload hx hb dX5_tryOrders_66 (lv_at hl 0 rfl) ?_
            refine tw_zald (i := (nI i6)) hx hb hK hT hr_xpd shc_67 rfl (vp_in_nI (by omega) (by decide)) dX5_tryOrders_68 (fun v9 m200 h9 => ?_)
            obtain ⟨x201, rfl, gx201, kx201⟩ := h9
            have cx201 := m11.at m200 (by have q9 := tn_of (show (nI i6).toInt = ((i6 : Nat) : Int) from (nI_toInt (by omega))) (by omega); omega)
            refine lv_if_eq (tgt := 76) hx hb dX5_tryOrders_69 (by decide) (fun c202 => ?_) (fun c202 => ?_)
            · have t203 : x201.toInt = 0 := ti_eq c202 rfl (by decide)
              refine lv_iload_n hx hb dX5_tryOrders_76 rfl (lv_at hl 3 rfl) ?_
              refine lv_lload_n hx hb dX5_tryOrders_77 rfl (lv_at hl 4 rfl) ?_
              refine lv_iload hx hb dX5_tryOrders_78 (lv_at hl 5 rfl) ?_
              refine lv_aload_n hx hb dX5_tryOrders_80 rfl (lv_at hl 1 rfl) ?_
              refine tw_getM (v := .ref xcs) hx hb hts bF2_X5 hown hK hT hr_o0 shc_8 rfl 5 (by decide) (ht_at2 hts 3 rfl) (fun _ h9 => h9) m19 dX5_tryOrders_81 ?_
              refine lv_iload hx hb dX5_tryOrders_84 (lv_at hl 0 rfl) ?_
              refine tw_iald (i := (nI i6)) hx hb hK hT hr_xcs shc_63 rfl (vp_in_nI (by omega) (by decide)) dX5_tryOrders_86 (fun v9 m204 h9 => ?_)
              obtain ⟨x205, rfl, gx205, kx205⟩ := h9
              have cx205 := m7.at m204 (by have q9 := tn_of (show (nI i6).toInt = ((i6 : Nat) : Int) from (nI_toInt (by omega))) (by omega); omega)
              have t206 : x205.toInt = (aC i6).toInt := congrArg Int32.toInt (cx205.trans (by rw [tn_nI (by omega)]))
              have t207 : 0 ≤ (aC i6).toInt ∧ (aC i6).toInt ≤ 1000000 := (hrg i6 (by omega)).1
              have hFc := gA_free hG hA hS
              refine va_calli (va_runS (As := [.int yr, .long co, .int ic, .int x205]) (rest := []) ⟨hx, hb, hml, hown, hts⟩ (c_yearC l dC dI kA adK adV G H nC nS yr co ic x205 hT (by have q8 := ti_all yr; omega) (by have q8 := ti_all ic; omega) (by have q8 := ti_all x205; omega) (by omega) (by omega) (by omega)) (va_cwS 4 hts (goodIn_app (goodIn_r _ [6, 7, 8] rfl (by decide +kernel)) (goodIn_ca (goodIn_r _ [5] rfl (by decide +kernel)) (bs2_in _ _))) rfl rfl rfl (by decide +kernel) ⟨(Nat.le_of_ble_eq_true rfl), (Nat.le_of_ble_eq_true rfl)⟩) ⟨fun a U g mk q => by obtain ⟨q0, q1, qK, qE⟩ := q; exact ⟨q0, q1, va_K.moved (u := U) (U := U.calling g mk a) (Vm.Alike.refl U.vm) qK, EVC.blind g mk a qE⟩, fun U hU hW => ⟨rfl, hU, va_K.moved hW.alike hK, hE.call hS hFc hU hW⟩⟩ rfl rfl hl.1 rfl (lv_room (Nat.le_of_ble_eq_true rfl)) dX5_tryOrders_87 ⟨(Nat.le_of_ble_eq_true rfl), (Nat.le_of_ble_eq_true rfl)⟩) hS (fun q _ h => hFc q h) hFc (fun r208 u t H locs ht hvm hw209 hB _ _ hS => ?_)
              obtain ⟨hT, hF1⟩ := hB
              rw [ht] at hT hF1
              have m210 := m7.kept (hF1.arr hr_xcs skc_63 (by decide))
              have m211 := m8.kept (hF1.arr hr_xls skc_64 (by decide))
              have m212 := m9.kept (hF1.arr hr_xin skc_65 (by decide))
              have m213 := m10.kept (hF1.arr hr_xac skc_66 (by decide))
              have m214 := m11.kept (hF1.arr hr_xpd skc_67 (by decide))
              have m215 := m13.kept (hF1.arr hr_xtr skc_68 (by decide))
              have m216 := m15.kept (hF1.arr hr_xbe skc_69 (by decide))
              have m217 := (hF1.fld hr_o0 skc_8 (k := 15) (by decide) (by decide)).trans m16
              have m218 := (hF1.fld hr_o0 skc_8 (k := 16) (by decide) (by decide)).trans m18
              have m219 := (hF1.fld hr_o0 skc_8 (k := 5) (by decide) (by decide)).trans m19
              have m220 := (hF1.fld hr_o0 skc_8 (k := 6) (by decide) (by decide)).trans m20
              have m221 := (hF1.fld hr_o0 skc_8 (k := 7) (by decide) (by decide)).trans m21
              have m222 := (hF1.fld hr_o0 skc_8 (k := 8) (by decide) (by decide)).trans m22
              have m223 := (hF1.fld hr_o0 skc_8 (k := 9) (by decide) (by decide)).trans m23
              have m224 := (hF1.fld hr_o0 skc_8 (k := 10) (by decide) (by decide)).trans m24
              have m225 := (hF1.fld hr_o0 skc_8 (k := 11) (by decide) (by decide)).trans m25
              have m226 := (el_kept (hF1.arr hr_xpd skc_67 (by decide))).trans m200
              have m227 := (el_kept (hF1.arr hr_xcs skc_63 (by decide))).trans m204
              have hF := hF.more hF1 (by decide)
              try dsimp only at hw209
              obtain ⟨h228, hf229⟩ := hw209
              have yw9 : yw yr.toInt co.toInt ic.toInt (aC i6).toInt r208.toInt := by rw [show (aC i6).toInt = x205.toInt from by omega]; exact hf229
              refine lv_aload_n hx hb dX5_tryOrders_90 rfl (lv_at hl 1 rfl) ?_
              refine tw_getM (v := .ref xls) hx hb hts bF2_X5 hown hK hT hr_o0 shc_8 rfl 6 (by decide) (ht_at2 hts 8 rfl) (fun _ h9 => h9) m220 dX5_tryOrders_91 ?_
              refine lv_iload hx hb dX5_tryOrders_94 (lv_at hl 0 rfl) ?_
              refine tw_iald (i := (nI i6)) hx hb hK hT hr_xls shc_64 rfl (vp_in_nI (by omega) (by decide)) dX5_tryOrders_96 (fun v9 m230 h9 => ?_)
              obtain ⟨x231, rfl, gx231, kx231⟩ := h9
              have cx231 := m211.at m230 (by have q9 := tn_of (show (nI i6).toInt = ((i6 : Nat) : Int) from (nI_toInt (by omega))) (by omega); omega)
              have t232 : x231.toInt = (aY i6).toInt := congrArg Int32.toInt (cx231.trans (by rw [tn_nI (by omega)]))
              have t233 : 1 ≤ (aY i6).toInt ∧ (aY i6).toInt ≤ 20 := (hrg i6 (by omega)).2.1
              refine lv_iadd hx hb dX5_tryOrders_97 ?_
              refine lv_topi (fun x234 ex234 => ?_)
              have t235 : x234.toInt = r208.toInt + x231.toInt := ti_add ex234 rfl rfl (by omega) (by omega)
              refine lv_istore (lv' := [(8, .int x234), (7, .int (nI i6)), (0, .ref o0), (1, .int 0), (2, .int yr), (3, .long co), (5, .int ic), (6, .int lt)]) hx hb dX5_tryOrders_98 hl (by decide) rfl (fun ls hl => ?_)
              refine lv_iload hx hb dX5_tryOrders_100 (lv_at hl 0 rfl) ?_
              refine lv_iconst (v := (-1)) hx hb dX5_tryOrders_102 (by decide) ?_
              refine lv_icmp_eq (tgt := 194) hx hb dX5_tryOrders_103 (by decide) (fun c236 => (by exfalso; have q9 : x234.toInt = (-1) := ti_eq c236 rfl (by decide); omega)) (fun c236 => ?_)
              have t237 : x234.toInt ≠ (-1) := ti_ne c236 rfl (by decide)
              refine lv_iload hx hb dX5_tryOrders_106 (lv_at hl 0 rfl) ?_
              refine lv_sipush (v := 200) hx hb dX5_tryOrders_108 (by decide) ?_
              refine lv_icmp_gt (tgt := 194) hx hb dX5_tryOrders_111 (by decide) (fun c238 => ?_) (fun c238 => ?_)
              · have t239 : 200 < x234.toInt := ti_lt c238 (by decide) rfl
                refine lv_iinc (v := nI (i6 + 1)) (lv' := [(7, .int (nI (i6 + 1))), (8, .int x234), (0, .ref o0), (1, .int 0), (2, .int yr), (3, .long co), (5, .int ic), (6, .int lt)]) hx hb dX5_tryOrders_194 hl (k := 1) rfl (nI_add i6 1) (by decide) rfl (fun ls hl => ?_)
                refine lv_goto (tgt := 53) hx hb dX5_tryOrders_197 (by decide) ?_
                have bk9 : z17.toInt = (slO N 0 aC aY aB aA (pb vP) yr.toInt co.toInt ic.toInt lt.toInt R a0 (i6 + 1)).1 ∧ (0 ≤ (slO N 0 aC aY aB aA (pb vP) yr.toInt co.toInt ic.toInt lt.toInt R a0 (i6 + 1)).1 → ∀ k : Nat, k < N → (V14 k).toInt = (slO N 0 aC aY aB aA (pb vP) yr.toInt co.toInt ic.toInt lt.toInt R a0 (i6 + 1)).2 k) ∧ ∀ k : Nat, k < 0 → (V12 k).toInt = R k := by rw [sl_n (yw_none yw9 (by omega) (by omega))]; exact ⟨hj26, hj27, hj28⟩
                exact ih193 (i6 + 1) (by omega) (by omega) V12 V14 z17 ⟨bk9.1, bk9.2.1, bk9.2.2, (by omega)⟩ _ _ hT hF hS m210 m211 m212 m213 (m214.ext (fun _ _ => rfl)) m215 m216 m217 m218 m219 m220 m221 m222 m223 m224 m225 ls (lv_sub hl [0, 2, 3, 4, 5, 6, 7] rfl)
              · have t240 : x234.toInt ≤ 200 := ti_nlt c238 (by decide) rfl
                refine lv_lload_n hx hb dX5_tryOrders_114 rfl (lv_at hl 5 rfl) ?_
                refine lv_iload hx hb dX5_tryOrders_115 (lv_at hl 6 rfl) ?_
                refine lv_i2l (v := ic.toInt64) hx hb dX5_tryOrders_117 rfl ?_
                refine lv_iload hx hb dX5_tryOrders_118 (lv_at hl 0 rfl) ?_
                refine lv_iload_n hx hb dX5_tryOrders_120 rfl (lv_at hl 4 rfl) ?_
                refine lv_isub hx hb dX5_tryOrders_121 ?_
                refine lv_topi (fun x241 ex241 => ?_)
                have t242 : x241.toInt = x234.toInt - yr.toInt := ti_sub ex241 rfl rfl (by omega) (by omega)
                refine lv_i2l (v := x241.toInt64) hx hb dX5_tryOrders_122 rfl ?_
                refine lv_lmul hx hb dX5_tryOrders_123 ?_
                refine lv_topl (fun y243 ey243 => ?_)
                have t244 : y243.toInt = ic.toInt * x241.toInt ∧ -(0 * 200) ≤ y243.toInt ∧ y243.toInt ≤ 0 * 200 := tl_m ey243 ((Int32.toInt_toInt64 _).trans rfl) ((Int32.toInt_toInt64 _).trans rfl) (A := 0) (B := 200) (by omega) (by omega) (by omega) (by omega) (by decide)
                have t245 : y243.toInt = ic.toInt * (x234.toInt - yr.toInt) := (by rw [show x234.toInt - yr.toInt = x241.toInt from by omega]; omega)
                refine lv_ladd hx hb dX5_tryOrders_124 ?_
                refine lv_topl (fun y246 ey246 => ?_)
                have t247 : y246.toInt = co.toInt + y243.toInt := tl_a ey246 rfl rfl (by omega) (by omega)
                refine lv_aload_n hx hb dX5_tryOrders_125 rfl (lv_at hl 2 rfl) ?_
                refine tw_getM (v := .ref xcs) hx hb hts bF2_X5 hown hK hT hr_o0 shc_8 rfl 5 (by decide) (ht_at2 hts 3 rfl) (fun _ h9 => h9) m219 dX5_tryOrders_126 ?_
                refine lv_iload hx hb dX5_tryOrders_129 (lv_at hl 1 rfl) ?_
                refine tw_iald (i := (nI i6)) hx hb hK hT hr_xcs shc_63 rfl (vp_in_nI (by omega) (by decide)) dX5_tryOrders_131 (fun v9 m248 h9 => ?_)
                obtain ⟨x249, rfl, gx249, kx249⟩ := h9
                have cx249 := m210.at m248 (by have q9 := tn_of (show (nI i6).toInt = ((i6 : Nat) : Int) from (nI_toInt (by omega))) (by omega); omega)
                obtain rfl : x205 = x249 := (el_same m248 m227 rfl).symm
                refine lv_i2l (v := x205.toInt64) hx hb dX5_tryOrders_132 rfl ?_
                refine lv_lsub hx hb dX5_tryOrders_133 ?_
                refine lv_topl (fun y250 ey250 => ?_)
                have t251 : y250.toInt = y246.toInt - x205.toInt := tl_s ey250 rfl ((Int32.toInt_toInt64 _).trans rfl) (by omega) (by omega)
                have dn9 := (yw_some (last := (aY i6).toInt) (d := x234.toInt) yw9 (by omega) (by omega) (by omega))
                have dc9 := dn_cash dn9 (by omega) (by omega)
                refine lv_lstore (lv' := [(9, .long y250), (8, .int x234), (7, .int (nI i6)), (0, .ref o0), (1, .int 0), (2, .int yr), (3, .long co), (5, .int ic), (6, .int lt)]) hx hb dX5_tryOrders_134 hl (by decide) rfl (fun ls hl => ?_)
                refine lv_aload_n hx hb dX5_tryOrders_136 rfl (lv_at hl 3 rfl) ?_
                refine tw_getM (v := .ref xpd) hx hb hts bF2_X5 hown hK hT hr_o0 shc_8 rfl 9 (by decide) (ht_at2 hts 2 rfl) (fun _ h9 => h9) m223 dX5_tryOrders_137 ?_
                refine lv_iload hx hb dX5_tryOrders_140 (lv_at hl 2 rfl) ?_
                refine lv_iconst (v := 1) hx hb dX5_tryOrders_142 (by decide) ?_
                refine tw_zast (i := (nI i6)) (x := 1) hx hb hK hT hG hS hr_xpd shc_67 rfl (vp_in_nI (by omega) (by decide)) (gi_z (rg_t (a := 1) (by decide) (by omega) (by omega)) (by decide) (by decide)) dX5_tryOrders_143 (fun H locs hT oq m252 oi hS => ?_)
                have hF := hF.ast hr_xpd skc_67 oq (by decide)
                have m253 := m210.kept (oq _ (gne hr_xcs hr_xpd (by decide)))
                have m254 := m211.kept (oq _ (gne hr_xls hr_xpd (by decide)))
                have m255 := m212.kept (oq _ (gne hr_xin hr_xpd (by decide)))
                have m256 := m213.kept (oq _ (gne hr_xac hr_xpd (by decide)))
                have m257 := m214.put (show el H xpd _ = some (.int 1) from m252) oi
                have m258 := m215.kept (oq _ (gne hr_xtr hr_xpd (by decide)))
                have m259 := m216.kept (oq _ (gne hr_xbe hr_xpd (by decide)))
                have m260 := (el_kept (oq _ (gne hr_o0 hr_xpd (by decide)))).trans m217
                have m261 := (el_kept (oq _ (gne hr_o0 hr_xpd (by decide)))).trans m218
                have m262 := (el_kept (oq _ (gne hr_o0 hr_xpd (by decide)))).trans m219
                have m263 := (el_kept (oq _ (gne hr_o0 hr_xpd (by decide)))).trans m220
                have m264 := (el_kept (oq _ (gne hr_o0 hr_xpd (by decide)))).trans m221
                have m265 := (el_kept (oq _ (gne hr_o0 hr_xpd (by decide)))).trans m222
                have m266 := (el_kept (oq _ (gne hr_o0 hr_xpd (by decide)))).trans m223
                have m267 := (el_kept (oq _ (gne hr_o0 hr_xpd (by decide)))).trans m224
                have m268 := (el_kept (oq _ (gne hr_o0 hr_xpd (by decide)))).trans m225
                have m269 := (el_kept (oq _ (gne hr_xcs hr_xpd (by decide)))).trans m227
                have m270 := (el_kept (oq _ (gne hr_xls hr_xpd (by decide)))).trans m230
                refine lv_aload_n hx hb dX5_tryOrders_144 rfl (lv_at hl 3 rfl) ?_
                refine tw_getM (v := .ref xtr) hx hb hts bF2_X5 hown hK hT hr_o0 shc_8 rfl 10 (by decide) (ht_at2 hts 9 rfl) (fun _ h9 => h9) m267 dX5_tryOrders_145 ?_
                refine lv_iload_n hx hb dX5_tryOrders_148 rfl (lv_at hl 4 rfl) ?_
                refine lv_iload hx hb dX5_tryOrders_149 (lv_at hl 2 rfl) ?_
                refine tw_iast (i := 0) (x := (nI i6)) hx hb hK hT hG hS hr_xtr shc_68 rfl (by unfold vp_in; decide) (gi_of (show (nI i6).toInt = ((i6 : Nat) : Int) from (nI_toInt (by omega))) (by omega) (by omega)) dX5_tryOrders_151 (fun H locs hT oq m271 oi hS => ?_)
                have hF := hF.ast hr_xtr skc_68 oq (by decide)
                have m272 := m253.kept (oq _ (gne hr_xcs hr_xtr (by decide)))
                have m273 := m254.kept (oq _ (gne hr_xls hr_xtr (by decide)))
                have m274 := m255.kept (oq _ (gne hr_xin hr_xtr (by decide)))
                have m275 := m256.kept (oq _ (gne hr_xac hr_xtr (by decide)))
                have m276 := m257.kept (oq _ (gne hr_xpd hr_xtr (by decide)))
                have m277 := m258.put m271 oi
                have m278 := m259.kept (oq _ (gne hr_xbe hr_xtr (by decide)))
                have m279 := (el_kept (oq _ (gne hr_o0 hr_xtr (by decide)))).trans m260
                have m280 := (el_kept (oq _ (gne hr_o0 hr_xtr (by decide)))).trans m261
                have m281 := (el_kept (oq _ (gne hr_o0 hr_xtr (by decide)))).trans m262
                have m282 := (el_kept (oq _ (gne hr_o0 hr_xtr (by decide)))).trans m263
                have m283 := (el_kept (oq _ (gne hr_o0 hr_xtr (by decide)))).trans m264
                have m284 := (el_kept (oq _ (gne hr_o0 hr_xtr (by decide)))).trans m265
                have m285 := (el_kept (oq _ (gne hr_o0 hr_xtr (by decide)))).trans m266
                have m286 := (el_kept (oq _ (gne hr_o0 hr_xtr (by decide)))).trans m267
                have m287 := (el_kept (oq _ (gne hr_o0 hr_xtr (by decide)))).trans m268
                have m288 := (el_kept (oq _ (gne hr_xcs hr_xtr (by decide)))).trans m269
                have m289 := (el_kept (oq _ (gne hr_xls hr_xtr (by decide)))).trans m270
                refine lv_aload_n hx hb dX5_tryOrders_152 rfl (lv_at hl 3 rfl) ?_
                refine lv_iload_n hx hb dX5_tryOrders_153 rfl (lv_at hl 4 rfl) ?_
                refine lv_iconst (v := 1) hx hb dX5_tryOrders_154 (by decide) ?_
                refine lv_iadd hx hb dX5_tryOrders_155 ?_
                refine lv_topi (fun x290 ex290 => ?_)
                obtain rfl : x290 = 1 := ex290.trans (by decide)
                refine lv_iload hx hb dX5_tryOrders_156 (lv_at hl 1 rfl) ?_
                refine lv_lload hx hb dX5_tryOrders_158 (lv_at hl 0 rfl) ?_
                refine lv_iload hx hb dX5_tryOrders_160 (lv_at hl 7 rfl) ?_
                refine lv_aload_n hx hb dX5_tryOrders_162 rfl (lv_at hl 3 rfl) ?_
                refine tw_getM (v := .ref xin) hx hb hts bF2_X5 hown hK hT hr_o0 shc_8 rfl 7 (by decide) (ht_at2 hts 10 rfl) (fun _ h9 => h9) m283 dX5_tryOrders_163 ?_
                refine lv_iload hx hb dX5_tryOrders_166 (lv_at hl 2 rfl) ?_
                refine tw_iald (i := (nI i6)) hx hb hK hT hr_xin shc_65 rfl (vp_in_nI (by omega) (by decide)) dX5_tryOrders_168 (fun v9 m291 h9 => ?_)
                obtain ⟨x292, rfl, gx292, kx292⟩ := h9
                have cx292 := m274.at m291 (by have q9 := tn_of (show (nI i6).toInt = ((i6 : Nat) : Int) from (nI_toInt (by omega))) (by omega); omega)
                have t293 : x292.toInt = (aB i6).toInt := congrArg Int32.toInt (cx292.trans (by rw [tn_nI (by omega)]))
                have t294 : 0 ≤ (aB i6).toInt ∧ (aB i6).toInt ≤ 100000 := (hrg i6 (by omega)).2.2.1
                refine lv_iadd hx hb dX5_tryOrders_169 ?_
                refine lv_topi (fun x295 ex295 => ?_)
                have t296 : x295.toInt = ic.toInt + x292.toInt := ti_add ex295 rfl rfl (by omega) (by omega)
                refine lv_iload hx hb dX5_tryOrders_170 (lv_at hl 8 rfl) ?_
                refine lv_aload_n hx hb dX5_tryOrders_172 rfl (lv_at hl 3 rfl) ?_
                refine tw_getM (v := .ref xac) hx hb hts bF2_X5 hown hK hT hr_o0 shc_8 rfl 8 (by decide) (ht_at2 hts 11 rfl) (fun _ h9 => h9) m284 dX5_tryOrders_173 ?_
                refine lv_iload hx hb dX5_tryOrders_176 (lv_at hl 2 rfl) ?_
                refine tw_iald (i := (nI i6)) hx hb hK hT hr_xac shc_66 rfl (vp_in_nI (by omega) (by decide)) dX5_tryOrders_178 (fun v9 m297 h9 => ?_)
                obtain ⟨x298, rfl, gx298, kx298⟩ := h9
                have cx298 := m275.at m297 (by have q9 := tn_of (show (nI i6).toInt = ((i6 : Nat) : Int) from (nI_toInt (by omega))) (by omega); omega)
                have t299 : x298.toInt = (aA i6).toInt := congrArg Int32.toInt (cx298.trans (by rw [tn_nI (by omega)]))
                have t300 : 0 ≤ (aA i6).toInt ∧ (aA i6).toInt ≤ 1000 := (hrg i6 (by omega)).2.2.2
                refine lv_iload hx hb dX5_tryOrders_179 (lv_at hl 1 rfl) ?_
                refine lv_imul hx hb dX5_tryOrders_181 ?_
                refine lv_topi (fun x301 ex301 => ?_)
                have t302 : x301.toInt = x298.toInt * x234.toInt := ti_mulx ex301 rfl rfl (A := 1000) (B := 200) (by omega) (by omega) (by omega) (by omega) (by decide)
                have t303 : 0 ≤ x301.toInt ∧ x301.toInt ≤ 1000 * 200 ∧ (x298.toInt = 0 → x301.toInt = 0) ∧ (x234.toInt = 0 → x301.toInt = 0) ∧ x301.toInt ≤ x298.toInt * 200 ∧ x301.toInt ≤ 1000 * x234.toInt := ti_mulnn ex301 rfl rfl (by omega) (by omega) (by omega) (by omega) (by decide)
                refine lv_iadd hx hb dX5_tryOrders_182 ?_
                refine lv_topi (fun x304 ex304 => ?_)
                have t305 : x304.toInt = lt.toInt + x301.toInt := ti_add ex304 rfl rfl (by omega) (by omega)
                have hFc := gA_free hG hA hS
                refine va_callv (va_runV (As := [.int 1, .int x234, .long y250, .int x295, .int x304]) (rest := []) ⟨hx, hb, hml, hown, hts⟩ (c_tryOrdersC1 l dC dI kA adK adV G H nC nS o0 x234 y250 x295 x304 jb z17 xcs xls xin xac xpd xtr xbe aC aY aB aA (cu vP (nI i6).toNatClampNeg (1 : Int32)) (cu V12 (0 : Int32).toNatClampNeg (nI i6)) V14 N (fun k => if k = 0 then ((i6 : Nat) : Int) else R k) (slO N 0 aC aY aB aA (pb vP) yr.toInt co.toInt ic.toInt lt.toInt R a0 i6) hT hr_o0 m279 m280 m281 hr_xcs m282 hr_xls m283 hr_xin m284 hr_xac m285 hr_xpd m286 hr_xtr m287 hr_xbe (by have q8 := ti_all x234; omega) (by have q8 := ti_all x295; omega) (by have q8 := ti_all x304; omega) (by have q8 := ti_all jb; omega) (by omega) hN hrg (sl_ok (by omega) (fun j hj => by have := (hrg j (by omega)).2.1.1; omega) (fun j hj => (hrg j (by omega)).2.2.2.1) (by omega) (by omega) hba) hj26 hj27 (rr_s (K := 0) rfl (by decide) (nI_toInt (by omega)) hj28) m272 m273 m274 m275 m276 m277 m278 (by omega) (by omega)) (cwV 5 hts (goodIn_app (goodIn_r _ [19, 20, 21, 8] rfl (by decide +kernel)) (goodIn_ca (goodIn_r _ [13, 1, 2, 3, 4, 5, 6, 7, 8, 9, 10, 11, 12, 13, 14, 15, 16, 17, 18, 19, 20, 21] rfl (by decide +kernel)) (bs2_in _ _))) rfl rfl rfl (by decide +kernel) ⟨(Nat.le_of_ble_eq_true rfl), (Nat.le_of_ble_eq_true rfl)⟩) ⟨fun a U g mk q => by obtain ⟨q0, q1, qK, qE⟩ := q; exact ⟨q0, q1, va_K.moved (u := U) (U := U.calling g mk a) (Vm.Alike.refl U.vm) qK, EVC.blind g mk a qE⟩, gH_recv hK hT hr_o0 shc_8 rfl, fun U hU hW => ⟨rfl, hU, va_K.moved hW.alike hK, hE.call hS hFc hU hW⟩⟩ rfl rfl hl.1 rfl (lv_room (Nat.le_of_ble_eq_true rfl)) dX5_tryOrders_183 ⟨(Nat.le_of_ble_eq_true rfl), (Nat.le_of_ble_eq_true rfl)⟩) hS (fun q _ h => hFc q h) hFc (fun u t H locs ht hvm hw307 hB _ _ hS => ?_)
                obtain ⟨u308, u309, u310⟩ := u
                obtain ⟨hT, hF1, m311, m312, m313, m314⟩ := hB
                rw [ht] at hT hF1 m311 m312 m313 m314
                have m315 := m272.kept (hF1.arr hr_xcs skc_63 (by decide))
                have m316 := m273.kept (hF1.arr hr_xls skc_64 (by decide))
                have m317 := m274.kept (hF1.arr hr_xin skc_65 (by decide))
                have m318 := m275.kept (hF1.arr hr_xac skc_66 (by decide))
                have m322 := (hF1.fld hr_o0 skc_8 (k := 15) (by decide) (by decide)).trans m279
                have m324 := (hF1.fld hr_o0 skc_8 (k := 5) (by decide) (by decide)).trans m281
                have m325 := (hF1.fld hr_o0 skc_8 (k := 6) (by decide) (by decide)).trans m282
                have m326 := (hF1.fld hr_o0 skc_8 (k := 7) (by decide) (by decide)).trans m283
                have m327 := (hF1.fld hr_o0 skc_8 (k := 8) (by decide) (by decide)).trans m284
                have m328 := (hF1.fld hr_o0 skc_8 (k := 9) (by decide) (by decide)).trans m285
                have m329 := (hF1.fld hr_o0 skc_8 (k := 10) (by decide) (by decide)).trans m286
                have m330 := (hF1.fld hr_o0 skc_8 (k := 11) (by decide) (by decide)).trans m287
                have m331 := (el_kept (hF1.arr hr_xcs skc_63 (by decide))).trans m288
                have m332 := (el_kept (hF1.arr hr_xls skc_64 (by decide))).trans m289
                have m334 := (el_kept (hF1.arr hr_xin skc_65 (by decide))).trans m291
                have m335 := (el_kept (hF1.arr hr_xac skc_66 (by decide))).trans m297
                have hF := hF.more hF1 (by decide)
                try dsimp only at hw307
                have hf336 := hw307
                refine lv_aload_n hx hb dX5_tryOrders_186 rfl (lv_at hl 3 rfl) ?_
                refine tw_getM (v := .ref xpd) hx hb hts bF2_X5 hown hK hT hr_o0 shc_8 rfl 9 (by decide) (ht_at2 hts 2 rfl) (fun _ h9 => h9) m328 dX5_tryOrders_187 ?_
                refine lv_iload hx hb dX5_tryOrders_190 (lv_at hl 2 rfl) ?_
                refine lv_iconst (v := 0) hx hb dX5_tryOrders_192 (by decide) ?_
                refine tw_zast (i := (nI i6)) (x := 0) hx hb hK hT hG hS hr_xpd shc_67 rfl (vp_in_nI (by omega) (by decide)) (gi_z (rg_t (a := 0) (by decide) (by omega) (by omega)) (by decide) (by decide)) dX5_tryOrders_193 (fun H locs hT oq m337 oi hS => ?_)
                have hF := hF.ast hr_xpd skc_67 oq (by decide)
                have m338 := m315.kept (oq _ (gne hr_xcs hr_xpd (by decide)))
                have m339 := m316.kept (oq _ (gne hr_xls hr_xpd (by decide)))
                have m340 := m317.kept (oq _ (gne hr_xin hr_xpd (by decide)))
                have m341 := m318.kept (oq _ (gne hr_xac hr_xpd (by decide)))
                have m342 := (el_kept (oq _ (gne hr_o0 hr_xpd (by decide)))).trans m322
                have m343 := (el_kept (oq _ (gne hr_o0 hr_xpd (by decide)))).trans m324
                have m344 := (el_kept (oq _ (gne hr_o0 hr_xpd (by decide)))).trans m325
                have m345 := (el_kept (oq _ (gne hr_o0 hr_xpd (by decide)))).trans m326
                have m346 := (el_kept (oq _ (gne hr_o0 hr_xpd (by decide)))).trans m327
                have m347 := (el_kept (oq _ (gne hr_o0 hr_xpd (by decide)))).trans m328
                have m348 := (el_kept (oq _ (gne hr_o0 hr_xpd (by decide)))).trans m329
                have m349 := (el_kept (oq _ (gne hr_o0 hr_xpd (by decide)))).trans m330
                have m350 := (el_kept (oq _ (gne hr_xcs hr_xpd (by decide)))).trans m331
                have m351 := (el_kept (oq _ (gne hr_xls hr_xpd (by decide)))).trans m332
                have m352 := (el_kept (oq _ (gne hr_xin hr_xpd (by decide)))).trans m334
                have m353 := (el_kept (oq _ (gne hr_xac hr_xpd (by decide)))).trans m335
                have m354 := (el_kept (oq _ (gne hr_o0 hr_xpd (by decide)))).trans m311
                have m355 := m312.put (show el H xpd _ = some (.int 0) from m337) oi
                have m356 := m313.kept (oq _ (gne hr_xtr hr_xpd (by decide)))
                have m357 := m314.kept (oq _ (gne hr_xbe hr_xpd (by decide)))
                refine lv_iinc (v := nI (i6 + 1)) (lv' := [(7, .int (nI (i6 + 1))), (9, .long y250), (8, .int x234), (0, .ref o0), (1, .int 0), (2, .int yr), (3, .long co), (5, .int ic), (6, .int lt)]) hx hb dX5_tryOrders_194 hl (k := 2) rfl (nI_add i6 1) (by decide) rfl (fun ls hl => ?_)
                refine lv_goto (tgt := 53) hx hb dX5_tryOrders_197 (by decide) ?_
                have bk9 : u308.toInt = (slO N 0 aC aY aB aA (pb vP) yr.toInt co.toInt ic.toInt lt.toInt R a0 (i6 + 1)).1 ∧ (0 ≤ (slO N 0 aC aY aB aA (pb vP) yr.toInt co.toInt ic.toInt lt.toInt R a0 (i6 + 1)).1 → ∀ k : Nat, k < N → (u310 k).toInt = (slO N 0 aC aY aB aA (pb vP) yr.toInt co.toInt ic.toInt lt.toInt R a0 (i6 + 1)).2 k) ∧ ∀ k : Nat, k < 0 → (u309 k).toInt = R k := by have q9 := hf336; rw [sl_call (N := N) (K := 0) (K1 := 1) (aC := aC) (aY := aY) (aB := aB) (aA := aA) (U := pb vP) (yr := yr.toInt) (ca := co.toInt) (ic := ic.toInt) (su := lt.toInt) (R := R) (a := a0) (i := i6) (d := x234.toInt) (c1 := y250.toInt) (i1 := x295.toInt) (s1 := x304.toInt) (U1 := pb (cu vP (nI i6).toNatClampNeg (1 : Int32))) rfl (pb_0 (tn_nI (by omega)) cx201 (by omega)) dn9 (pb_cu (tn_nI (by omega))) (by omega) (by omega) (by rw [show (aA i6).toInt = x298.toInt from by omega]; omega)] at q9; exact ⟨q9.1, q9.2.1, fun k hk => (q9.2.2 k (by omega)).trans (if_neg (by omega))⟩
                exact ih193 (i6 + 1) (by omega) (by omega) u309 u310 u308 ⟨bk9.1, bk9.2.1, bk9.2.2, (by omega)⟩ _ _ hT hF hS m338 m339 m340 m341 (m355.ext (fun _ _ => pb_r cx201 (by omega))) m356 m357 m342 m354 m343 m344 m345 m346 m347 m348 m349 ls (lv_sub hl [0, 3, 4, 5, 6, 7, 8] rfl)
            · have t358 : x201.toInt ≠ 0 := ti_ne c202 rfl (by decide)
              refine lv_iconst (v := (-1)) hx hb dX5_tryOrders_72 (by decide) ?_
              refine lv_goto (tgt := 98) hx hb dX5_tryOrders_73 (by decide) ?_
              refine lv_istore (lv' := [(8, .int (-1)), (7, .int (nI i6)), (0, .ref o0), (1, .int 0), (2, .int yr), (3, .long co), (5, .int ic), (6, .int lt)]) hx hb dX5_tryOrders_98 hl (by decide) rfl (fun ls hl => ?_)
              refine lv_iload hx hb dX5_tryOrders_100 (lv_at hl 0 rfl) ?_
              refine lv_iconst (v := (-1)) hx hb dX5_tryOrders_102 (by decide) ?_
              refine lv_icmp_eq (tgt := 194) hx hb dX5_tryOrders_103 (by decide) (fun c359 => ?_) (fun c359 => absurd c359 (by decide))
              refine lv_iinc (v := nI (i6 + 1)) (lv' := [(7, .int (nI (i6 + 1))), (8, .int (-1)), (0, .ref o0), (1, .int 0), (2, .int yr), (3, .long co), (5, .int ic), (6, .int lt)]) hx hb dX5_tryOrders_194 hl (k := 1) rfl (nI_add i6 1) (by decide) rfl (fun ls hl => ?_)
              refine lv_goto (tgt := 53) hx hb dX5_tryOrders_197 (by decide) ?_
              have bk9 : z17.toInt = (slO N 0 aC aY aB aA (pb vP) yr.toInt co.toInt ic.toInt lt.toInt R a0 (i6 + 1)).1 ∧ (0 ≤ (slO N 0 aC aY aB aA (pb vP) yr.toInt co.toInt ic.toInt lt.toInt R a0 (i6 + 1)).1 → ∀ k : Nat, k < N → (V14 k).toInt = (slO N 0 aC aY aB aA (pb vP) yr.toInt co.toInt ic.toInt lt.toInt R a0 (i6 + 1)).2 k) ∧ ∀ k : Nat, k < 0 → (V12 k).toInt = R k := by rw [sl_u (pb_1 (tn_nI (by omega)) cx201 (by omega))]; exact ⟨hj26, hj27, hj28⟩
              exact ih193 (i6 + 1) (by omega) (by omega) V12 V14 z17 ⟨bk9.1, bk9.2.1, bk9.2.2, (by omega)⟩ _ _ hT hF hS m7 m8 m9 m10 (m11.ext (fun _ _ => rfl)) m13 m15 m16 m18 m19 m20 m21 m22 m23 m24 m25 ls (lv_sub hl [0, 2, 3, 4, 5, 6, 7] rfl)
      exact key193 (7 - 0) 0 (by omega) (Nat.le_refl _) vR vZ la ⟨hla, hZ0, hR, (by omega)⟩ _ _ hT hF hS hc_aC hc_aY hc_aB hc_aA (hc_vP.ext (fun _ _ => rfl)) hc_vR hc_vZ hm_jb hm_la hm_xcs hm_xls hm_xin hm_xac hm_xpd hm_xtr hm_xbe ls (lv_sub hl [0, 1, 2, 3, 4, 5, 6] rfl)
    · have t360 : jb.toInt ≤ 0 := ti_nlt c4 (by decide) rfl
      refine lv_aload_n hx hb dX5_tryOrders_26 rfl (lv_at hl 0 rfl) ?_
      refine lv_iload hx hb dX5_tryOrders_27 (lv_at hl 5 rfl) ?_
      refine tw_put (v := .int lt) (ty := .int) hx hb hts bF2_X5 tyX5 tyX5_ok nmX5 hown hK hT hG hS hr_o0 shc_8 rfl 16 (by decide) (ht_at2 hts 0 rfl) (fun _ h9 => h9) rfl (by decide +kernel) rfl rfl (gl_at rfl (gi_all _)) dX5_tryOrders_29 (fun H locs hT oq m361 oj hS => ?_)
      have hF := hF.put hr_o0 skc_8 oq oj (by decide)
      have m362 := (oj 15 (by decide) (by decide)).trans hm_jb
      have m363 := (oj 5 (by decide) (by decide)).trans hm_xcs
      have m364 := (oj 6 (by decide) (by decide)).trans hm_xls
      have m365 := (oj 7 (by decide) (by decide)).trans hm_xin
      have m366 := (oj 8 (by decide) (by decide)).trans hm_xac
      have m367 := (oj 9 (by decide) (by decide)).trans hm_xpd
      have m368 := (oj 10 (by decide) (by decide)).trans hm_xtr
      have m369 := (oj 11 (by decide) (by decide)).trans hm_xbe
      have m370 := hc_aC.kept (oq _ (gne hr_xcs hr_o0 (by decide)))
      have m371 := hc_aY.kept (oq _ (gne hr_xls hr_o0 (by decide)))
      have m372 := hc_aB.kept (oq _ (gne hr_xin hr_o0 (by decide)))
      have m373 := hc_aA.kept (oq _ (gne hr_xac hr_o0 (by decide)))
      have m374 := hc_vP.kept (oq _ (gne hr_xpd hr_o0 (by decide)))
      have m375 := hc_vR.kept (oq _ (gne hr_xtr hr_o0 (by decide)))
      have m376 := hc_vZ.kept (oq _ (gne hr_xbe hr_o0 (by decide)))
      refine lv_aload_n hx hb dX5_tryOrders_32 rfl (lv_at hl 0 rfl) ?_
      refine tw_getM (v := .ref xtr) hx hb hts bF2_X5 hown hK hT hr_o0 shc_8 rfl 10 (by decide) (ht_at2 hts 9 rfl) (fun _ h9 => h9) m368 dX5_tryOrders_33 ?_
      refine lv_iconst (v := 0) hx hb dX5_tryOrders_36 (by decide) ?_
      refine lv_aload_n hx hb dX5_tryOrders_37 rfl (lv_at hl 0 rfl) ?_
      refine tw_getM (v := .ref xbe) hx hb hts bF2_X5 hown hK hT hr_o0 shc_8 rfl 11 (by decide) (ht_at2 hts 13 rfl) (fun _ h9 => h9) m369 dX5_tryOrders_38 ?_
      refine lv_iconst (v := 0) hx hb dX5_tryOrders_41 (by decide) ?_
      refine lv_aload_n hx hb dX5_tryOrders_42 rfl (lv_at hl 0 rfl) ?_
      refine tw_getM (v := .int jb) hx hb hts bF2_X5 hown hK hT hr_o0 shc_8 rfl 15 (by decide) (ht_at2 hts 1 rfl) (fun _ h9 => h9) m362 dX5_tryOrders_43 ?_
      refine tw_copyE (ty := .int) hx hb (hml.trans hl.1.symm) hown (ht_at2 hts 14 rfl) (ht_at2 hts 15 rfl) (ht_at2 hts 16 rfl) (ht_at2 hts 17 rfl) hK hT hG hS hr_xtr hr_xbe shc_68 shc_69 rfl rfl (by decide) (by decide) (fun h9 => by have q9 := ti_lt h9 rfl (show (0 : Int32).toInt = 0 from by decide); omega) (by have q9 := tn_of (show jb.toInt = jb.toInt from rfl) (by omega); have q8 : (0 : Int32).toNatClampNeg = 0 := (by decide); omega) (by have q9 := tn_of (show jb.toInt = jb.toInt from rfl) (by omega); have q8 : (0 : Int32).toNatClampNeg = 0 := (by decide); omega) (by decide) (by decide) (fun _ _ h9 => by obtain ⟨x9, e9, _⟩ := h9; exact ⟨x9, e9, rfl⟩) (fun _ _ _ h9 => by obtain ⟨x9, e9, a9, b9⟩ := h9; exact ⟨x9, e9, by omega, by omega⟩) (Nat.le_of_ble_eq_true rfl) (Nat.le_of_ble_eq_true rfl) dX5_tryOrders_46 (fun H locs hT oq ce377 hS => ?_)
      have hF := hF.ast hr_xbe skc_69 oq (by decide)
      have m378 := (el_kept (oq _ (gne hr_o0 hr_xbe (by decide)))).trans m362
      have m379 := (el_kept (oq _ (gne hr_o0 hr_xbe (by decide)))).trans m363
      have m380 := (el_kept (oq _ (gne hr_o0 hr_xbe (by decide)))).trans m364
      have m381 := (el_kept (oq _ (gne hr_o0 hr_xbe (by decide)))).trans m365
      have m382 := (el_kept (oq _ (gne hr_o0 hr_xbe (by decide)))).trans m366
      have m383 := (el_kept (oq _ (gne hr_o0 hr_xbe (by decide)))).trans m367
      have m384 := (el_kept (oq _ (gne hr_o0 hr_xbe (by decide)))).trans m368
      have m385 := (el_kept (oq _ (gne hr_o0 hr_xbe (by decide)))).trans m369
      have m386 := m370.kept (oq _ (gne hr_xcs hr_xbe (by decide)))
      have m387 := m371.kept (oq _ (gne hr_xls hr_xbe (by decide)))
      have m388 := m372.kept (oq _ (gne hr_xin hr_xbe (by decide)))
      have m389 := m373.kept (oq _ (gne hr_xac hr_xbe (by decide)))
      have m390 := m374.kept (oq _ (gne hr_xpd hr_xbe (by decide)))
      have m391 := m375.kept (oq _ (gne hr_xtr hr_xbe (by decide)))
      have m392 := (el_kept (oq _ (gne hr_o0 hr_xbe (by decide)))).trans m361
      obtain ⟨V393, m394, kV393⟩ := ct_of hT hr_xbe shc_69
      have cq395 : ∀ k : Nat, ((k : Nat) : Int) < jb.toInt → V393 k = vR k := fun k hk => Value.int.inj (Option.some.inj ((m394 k (by omega)).symm.trans ((ce377 k (by have q9 := tn_of (show jb.toInt = jb.toInt from rfl) (by omega); omega)).trans (m375 k (by omega)))))
      exact W.vret hx hb hr (fun t ht hW => ⟨⟨(lt, vR, V393), rfl, (by exact (by (try dsimp only); have e9 : N = 0 := (by omega); rw [sx_0 e9, if_neg (by omega)]; exact ⟨rfl, fun _ k hk => (congrArg Int32.toInt (cq395 k (by omega))).trans (hR k (by omega)), hR⟩)), by (try dsimp only); rw [ht]; exact ⟨hT, hF, m392, m390, m391, m394⟩⟩, hS.F ht⟩) hS.2.2 dX5_tryOrders_49
  · have t396 : la.toInt ≠ (-1) := ti_ne c2 rfl (by decide)
    refine lv_iload hx hb dX5_tryOrders_8 (lv_at hl 5 rfl) ?_
    refine lv_aload_n hx hb dX5_tryOrders_10 rfl (lv_at hl 0 rfl) ?_
    refine tw_getM (v := .int la) hx hb hts bF2_X5 hown hK hT hr_o0 shc_8 rfl 16 (by decide) (ht_at2 hts 0 rfl) (fun _ h9 => h9) hm_la dX5_tryOrders_11 ?_
    refine lv_icmp_lt (tgt := 18) hx hb dX5_tryOrders_14 (by decide) (fun c397 => ?_) (fun c397 => ?_)
    · have t398 : lt.toInt < la.toInt := ti_lt c397 rfl rfl
      refine lv_iload_n hx hb dX5_tryOrders_18 rfl (lv_at hl 1 rfl) ?_
      refine lv_aload_n hx hb dX5_tryOrders_19 rfl (lv_at hl 0 rfl) ?_
      refine tw_getM (v := .int jb) hx hb hts bF2_X5 hown hK hT hr_o0 shc_8 rfl 15 (by decide) (ht_at2 hts 1 rfl) (fun _ h9 => h9) hm_jb dX5_tryOrders_20 ?_
      refine lv_icmp_lt (tgt := 50) hx hb dX5_tryOrders_23 (by decide) (fun c399 => ?_) (fun c399 => ?_)
      · have t400 : 0 < jb.toInt := ti_lt c399 (by decide) rfl
        refine lv_iconst (v := 0) hx hb dX5_tryOrders_50 (by decide) ?_
        refine lv_istore (lv' := [(7, .int 0), (0, .ref o0), (1, .int 0), (2, .int yr), (3, .long co), (5, .int ic), (6, .int lt)]) hx hb dX5_tryOrders_51 hl (by decide) rfl (fun ls hl => ?_)
        have key588 : ∀ (n588 i401 : Nat), i401 + n588 = 7 → 0 ≤ i401 → ∀ (V407 : Nat → Int32), ∀ (V409 : Nat → Int32), ∀ (z412 : Int32), ((z412.toInt = (slO N 0 aC aY aB aA (pb vP) yr.toInt co.toInt ic.toInt lt.toInt R a0 i401).1) ∧ (0 ≤ (slO N 0 aC aY aB aA (pb vP) yr.toInt co.toInt ic.toInt lt.toInt R a0 i401).1 → ∀ k : Nat, k < N → (V409 k).toInt = (slO N 0 aC aY aB aA (pb vP) yr.toInt co.toInt ic.toInt lt.toInt R a0 i401).2 k) ∧ (∀ k : Nat, k < 0 → (V407 k).toInt = R k) ∧ (((i401 : Nat) : Int) ≤ jb.toInt)) → ∀ (H : Heap) (locs : List Loc), gH (dC, dI) kA (SHc nC nS) G H → gF (dC, dI) SKc G ([(8, 16), (67, 0), (68, 0), (69, 0)] : List (Nat × Nat)) s.heap H → va_S A s.heap H locs → ct H xcs 7 aC → ct H xls 7 aY → ct H xin 7 aB → ct H xac 7 aA → ct H xpd 7 vP → ct H xtr 7 V407 → ct H xbe 7 V409 → el H o0 (dI 8 15) = some (.int jb) → el H o0 (dI 8 16) = some (.int z412) → el H o0 (dI 8 5) = some (.ref xcs) → el H o0 (dI 8 6) = some (.ref xls) → el H o0 (dI 8 7) = some (.ref xin) → el H o0 (dI 8 8) = some (.ref xac) → el H o0 (dI 8 9) = some (.ref xpd) → el H o0 (dI 8 10) = some (.ref xtr) → el H o0 (dI 8 11) = some (.ref xbe) → ∀ ls : Array Slot, lv_has ls 11 [(7, .int (nI i401)), (0, .ref o0), (1, .int 0), (2, .int yr), (3, .long co), (5, .int ic), (6, .int lt)] → W p l e (headSpec w_c_tryOrdersC0 ({ frames := 9, cells := 0, slots := 0, locals := 270 })).room s m #[.ref o0, .int 0, .int yr, .long co, .int ic, .int lt] below meth c H locs 0 0 (MQ below (va_Qv (fun (u : Int32 × (Nat → Int32) × (Nat → Int32)) => match u with | (la1, vR1, vZ1) => (la1.toInt = (sx N 0 aC aY aB aA (pb vP) yr.toInt co.toInt ic.toInt lt.toInt R a0).1 ∧ (0 ≤ (sx N 0 aC aY aB aA (pb vP) yr.toInt co.toInt ic.toInt lt.toInt R a0).1 → ∀ k : Nat, k < N → (vZ1 k).toInt = (sx N 0 aC aY aB aA (pb vP) yr.toInt co.toInt ic.toInt lt.toInt R a0).2 k) ∧ ∀ k : Nat, k < 0 → (vR1 k).toInt = R k)) (fun (u : Int32 × (Nat → Int32) × (Nat → Int32)) (t : State) => match u with | (la1, vR1, vZ1) => gH (dC, dI) kA (SHc nC nS) G t.heap ∧ gF (dC, dI) SKc G ([(8, 16), (67, 0), (68, 0), (69, 0)] : List (Nat × Nat)) s.heap t.heap ∧ el t.heap o0 (dI 8 16) = some (.int la1) ∧ ct t.heap xpd 7 vP ∧ ct t.heap xtr 7 vR1 ∧ ct t.heap xbe 7 vZ1) A) #[.ref o0, .int 0, .int yr, .long co, .int ic, .int lt] s 0 0 A) (F0 m 53 ls []) := by
          intro n588
          induction n588 with
          | zero =>
            intro i401 hn588 hlo589 V407 V409 z412 ⟨hj421, hj422, hj423, hj424⟩ H locs hT hF hS m402 m403 m404 m405 m406 m408 m410 m411 m413 m414 m415 m416 m417 m418 m419 m420 ls hl
            obtain rfl : 7 = i401 := by omega
            refine lv_iload hx hb dX5_tryOrders_53 (lv_at hl 0 rfl) ?_
            refine lv_aload_n hx hb dX5_tryOrders_55 rfl (lv_at hl 1 rfl) ?_
            refine tw_getM (v := .int jb) hx hb hts bF2_X5 hown hK hT hr_o0 shc_8 rfl 15 (by decide) (ht_at2 hts 1 rfl) (fun _ h9 => h9) m411 dX5_tryOrders_56 ?_
            refine lv_icmp_ge (tgt := 200) hx hb dX5_tryOrders_59 (by decide) (fun c590 => ?_) (fun c590 => (by exfalso; have q9 : ((7 : Nat) : Int) < jb.toInt := ti_nle c590 rfl (nI_toInt (by omega)); omega))
            have t591 : jb.toInt ≤ ((7 : Nat) : Int) := ti_le c590 rfl (nI_toInt (by omega))
            exact W.vret hx hb hr (fun t ht hW => ⟨⟨(z412, V407, V409), rfl, (by exact (by (try dsimp only); have e9 : N = 7 := (by omega); rw [sx_s (by omega)]; subst e9; exact ⟨hj421, hj422, hj423⟩)), by (try dsimp only); rw [ht]; exact ⟨hT, hF, m413, m406, m408, m410⟩⟩, hS.F ht⟩) hS.2.2 dX5_tryOrders_200
          | succ n588 ih588 =>
            intro i401 hn588 hlo589 V407 V409 z412 ⟨hj421, hj422, hj423, hj424⟩ H locs hT hF hS m402 m403 m404 m405 m406 m408 m410 m411 m413 m414 m415 m416 m417 m418 m419 m420 ls hl
            have hlt591 : i401 < 7 := by omega
            refine lv_iload hx hb dX5_tryOrders_53 (lv_at hl 0 rfl) ?_
            refine lv_aload_n hx hb dX5_tryOrders_55 rfl (lv_at hl 1 rfl) ?_
            refine tw_getM (v := .int jb) hx hb hts bF2_X5 hown hK hT hr_o0 shc_8 rfl 15 (by decide) (ht_at2 hts 1 rfl) (fun _ h9 => h9) m411 dX5_tryOrders_56 ?_
            refine lv_icmp_ge (tgt := 200) hx hb dX5_tryOrders_59 (by decide) (fun c592 => ?_) (fun c592 => ?_)
            · have t593 : jb.toInt ≤ ((i401 : Nat) : Int) := ti_le c592 rfl (nI_toInt (by omega))
              exact W.vret hx hb hr (fun t ht hW => ⟨⟨(z412, V407, V409), rfl, (by exact (by (try dsimp only); have e9 : N = i401 := (by omega); rw [sx_s (by omega)]; subst e9; exact ⟨hj421, hj422, hj423⟩)), by (try dsimp only); rw [ht]; exact ⟨hT, hF, m413, m406, m408, m410⟩⟩, hS.F ht⟩) hS.2.2 dX5_tryOrders_200
            · have t594 : ((i401 : Nat) : Int) < jb.toInt := ti_nle c592 rfl (nI_toInt (by omega))
              refine lv_aload_n hx hb dX5_tryOrders_62 rfl (lv_at hl 1 rfl) ?_
              refine tw_getM (v := .ref xpd) hx hb hts bF2_X5 hown hK hT hr_o0 shc_8 rfl 9 (by decide) (ht_at2 hts 2 rfl) (fun _ h9 => h9) m418 dX5_tryOrders_63 ?_
              refine lv_iload hx hb dX5_tryOrders_66 (lv_at hl 0 rfl) ?_
              refine tw_zald (i := (nI i401)) hx hb hK hT hr_xpd shc_67 rfl (vp_in_nI (by omega) (by decide)) dX5_tryOrders_68 (fun v9 m595 h9 => ?_)
              obtain ⟨x596, rfl, gx596, kx596⟩ := h9
              have cx596 := m406.at m595 (by have q9 := tn_of (show (nI i401).toInt = ((i401 : Nat) : Int) from (nI_toInt (by omega))) (by omega); omega)
              refine lv_if_eq (tgt := 76) hx hb dX5_tryOrders_69 (by decide) (fun c597 => ?_) (fun c597 => ?_)
              · have t598 : x596.toInt = 0 := ti_eq c597 rfl (by decide)
                refine lv_iload_n hx hb dX5_tryOrders_76 rfl (lv_at hl 3 rfl) ?_
                refine lv_lload_n hx hb dX5_tryOrders_77 rfl (lv_at hl 4 rfl) ?_
                refine lv_iload hx hb dX5_tryOrders_78 (lv_at hl 5 rfl) ?_
                refine lv_aload_n hx hb dX5_tryOrders_80 rfl (lv_at hl 1 rfl) ?_
                refine tw_getM (v := .ref xcs) hx hb hts bF2_X5 hown hK hT hr_o0 shc_8 rfl 5 (by decide) (ht_at2 hts 3 rfl) (fun _ h9 => h9) m414 dX5_tryOrders_81 ?_
                refine lv_iload hx hb dX5_tryOrders_84 (lv_at hl 0 rfl) ?_
                refine tw_iald (i := (nI i401)) hx hb hK hT hr_xcs shc_63 rfl (vp_in_nI (by omega) (by decide)) dX5_tryOrders_86 (fun v9 m599 h9 => ?_)
                obtain ⟨x600, rfl, gx600, kx600⟩ := h9
                have cx600 := m402.at m599 (by have q9 := tn_of (show (nI i401).toInt = ((i401 : Nat) : Int) from (nI_toInt (by omega))) (by omega); omega)
                have t601 : x600.toInt = (aC i401).toInt := congrArg Int32.toInt (cx600.trans (by rw [tn_nI (by omega)]))
                have t602 : 0 ≤ (aC i401).toInt ∧ (aC i401).toInt ≤ 1000000 := (hrg i401 (by omega)).1
                have hFc := gA_free hG hA hS
                refine va_calli (va_runS (As := [.int yr, .long co, .int ic, .int x600]) (rest := []) ⟨hx, hb, hml, hown, hts⟩ (c_yearC l dC dI kA adK adV G H nC nS yr co ic x600 hT (by have q8 := ti_all yr; omega) (by have q8 := ti_all ic; omega) (by have q8 := ti_all x600; omega) (by omega) (by omega) (by omega)) (va_cwS 4 hts (goodIn_app (goodIn_r _ [6, 7, 8] rfl (by decide +kernel)) (goodIn_ca (goodIn_r _ [5] rfl (by decide +kernel)) (bs2_in _ _))) rfl rfl rfl (by decide +kernel) ⟨(Nat.le_of_ble_eq_true rfl), (Nat.le_of_ble_eq_true rfl)⟩) ⟨fun a U g mk q => by obtain ⟨q0, q1, qK, qE⟩ := q; exact ⟨q0, q1, va_K.moved (u := U) (U := U.calling g mk a) (Vm.Alike.refl U.vm) qK, EVC.blind g mk a qE⟩, fun U hU hW => ⟨rfl, hU, va_K.moved hW.alike hK, hE.call hS hFc hU hW⟩⟩ rfl rfl hl.1 rfl (lv_room (Nat.le_of_ble_eq_true rfl)) dX5_tryOrders_87 ⟨(Nat.le_of_ble_eq_true rfl), (Nat.le_of_ble_eq_true rfl)⟩) hS (fun q _ h => hFc q h) hFc (fun r603 u t H locs ht hvm hw604 hB _ _ hS => ?_)
                obtain ⟨hT, hF1⟩ := hB
                rw [ht] at hT hF1
                have m605 := m402.kept (hF1.arr hr_xcs skc_63 (by decide))
                have m606 := m403.kept (hF1.arr hr_xls skc_64 (by decide))
                have m607 := m404.kept (hF1.arr hr_xin skc_65 (by decide))
                have m608 := m405.kept (hF1.arr hr_xac skc_66 (by decide))
                have m609 := m406.kept (hF1.arr hr_xpd skc_67 (by decide))
                have m610 := m408.kept (hF1.arr hr_xtr skc_68 (by decide))
                have m611 := m410.kept (hF1.arr hr_xbe skc_69 (by decide))
                have m612 := (hF1.fld hr_o0 skc_8 (k := 15) (by decide) (by decide)).trans m411
                have m613 := (hF1.fld hr_o0 skc_8 (k := 16) (by decide) (by decide)).trans m413
                have m614 := (hF1.fld hr_o0 skc_8 (k := 5) (by decide) (by decide)).trans m414
                have m615 := (hF1.fld hr_o0 skc_8 (k := 6) (by decide) (by decide)).trans m415
                have m616 := (hF1.fld hr_o0 skc_8 (k := 7) (by decide) (by decide)).trans m416
                have m617 := (hF1.fld hr_o0 skc_8 (k := 8) (by decide) (by decide)).trans m417
                have m618 := (hF1.fld hr_o0 skc_8 (k := 9) (by decide) (by decide)).trans m418
                have m619 := (hF1.fld hr_o0 skc_8 (k := 10) (by decide) (by decide)).trans m419
                have m620 := (hF1.fld hr_o0 skc_8 (k := 11) (by decide) (by decide)).trans m420
                have m621 := (el_kept (hF1.arr hr_xpd skc_67 (by decide))).trans m595
                have m622 := (el_kept (hF1.arr hr_xcs skc_63 (by decide))).trans m599
                have hF := hF.more hF1 (by decide)
                try dsimp only at hw604
                obtain ⟨h623, hf624⟩ := hw604
                have yw9 : yw yr.toInt co.toInt ic.toInt (aC i401).toInt r603.toInt := by rw [show (aC i401).toInt = x600.toInt from by omega]; exact hf624
                refine lv_aload_n hx hb dX5_tryOrders_90 rfl (lv_at hl 1 rfl) ?_
                refine tw_getM (v := .ref xls) hx hb hts bF2_X5 hown hK hT hr_o0 shc_8 rfl 6 (by decide) (ht_at2 hts 8 rfl) (fun _ h9 => h9) m615 dX5_tryOrders_91 ?_
                refine lv_iload hx hb dX5_tryOrders_94 (lv_at hl 0 rfl) ?_
                refine tw_iald (i := (nI i401)) hx hb hK hT hr_xls shc_64 rfl (vp_in_nI (by omega) (by decide)) dX5_tryOrders_96 (fun v9 m625 h9 => ?_)
                obtain ⟨x626, rfl, gx626, kx626⟩ := h9
                have cx626 := m606.at m625 (by have q9 := tn_of (show (nI i401).toInt = ((i401 : Nat) : Int) from (nI_toInt (by omega))) (by omega); omega)
                have t627 : x626.toInt = (aY i401).toInt := congrArg Int32.toInt (cx626.trans (by rw [tn_nI (by omega)]))
                have t628 : 1 ≤ (aY i401).toInt ∧ (aY i401).toInt ≤ 20 := (hrg i401 (by omega)).2.1
                refine lv_iadd hx hb dX5_tryOrders_97 ?_
                refine lv_topi (fun x629 ex629 => ?_)
                have t630 : x629.toInt = r603.toInt + x626.toInt := ti_add ex629 rfl rfl (by omega) (by omega)
                refine lv_istore (lv' := [(8, .int x629), (7, .int (nI i401)), (0, .ref o0), (1, .int 0), (2, .int yr), (3, .long co), (5, .int ic), (6, .int lt)]) hx hb dX5_tryOrders_98 hl (by decide) rfl (fun ls hl => ?_)
                refine lv_iload hx hb dX5_tryOrders_100 (lv_at hl 0 rfl) ?_
                refine lv_iconst (v := (-1)) hx hb dX5_tryOrders_102 (by decide) ?_
                refine lv_icmp_eq (tgt := 194) hx hb dX5_tryOrders_103 (by decide) (fun c631 => (by exfalso; have q9 : x629.toInt = (-1) := ti_eq c631 rfl (by decide); omega)) (fun c631 => ?_)
                have t632 : x629.toInt ≠ (-1) := ti_ne c631 rfl (by decide)
                refine lv_iload hx hb dX5_tryOrders_106 (lv_at hl 0 rfl) ?_
                refine lv_sipush (v := 200) hx hb dX5_tryOrders_108 (by decide) ?_
                refine lv_icmp_gt (tgt := 194) hx hb dX5_tryOrders_111 (by decide) (fun c633 => ?_) (fun c633 => ?_)
                · have t634 : 200 < x629.toInt := ti_lt c633 (by decide) rfl
                  refine lv_iinc (v := nI (i401 + 1)) (lv' := [(7, .int (nI (i401 + 1))), (8, .int x629), (0, .ref o0), (1, .int 0), (2, .int yr), (3, .long co), (5, .int ic), (6, .int lt)]) hx hb dX5_tryOrders_194 hl (k := 1) rfl (nI_add i401 1) (by decide) rfl (fun ls hl => ?_)
                  refine lv_goto (tgt := 53) hx hb dX5_tryOrders_197 (by decide) ?_
                  have bk9 : z412.toInt = (slO N 0 aC aY aB aA (pb vP) yr.toInt co.toInt ic.toInt lt.toInt R a0 (i401 + 1)).1 ∧ (0 ≤ (slO N 0 aC aY aB aA (pb vP) yr.toInt co.toInt ic.toInt lt.toInt R a0 (i401 + 1)).1 → ∀ k : Nat, k < N → (V409 k).toInt = (slO N 0 aC aY aB aA (pb vP) yr.toInt co.toInt ic.toInt lt.toInt R a0 (i401 + 1)).2 k) ∧ ∀ k : Nat, k < 0 → (V407 k).toInt = R k := by rw [sl_n (yw_none yw9 (by omega) (by omega))]; exact ⟨hj421, hj422, hj423⟩
                  exact ih588 (i401 + 1) (by omega) (by omega) V407 V409 z412 ⟨bk9.1, bk9.2.1, bk9.2.2, (by omega)⟩ _ _ hT hF hS m605 m606 m607 m608 (m609.ext (fun _ _ => rfl)) m610 m611 m612 m613 m614 m615 m616 m617 m618 m619 m620 ls (lv_sub hl [0, 2, 3, 4, 5, 6, 7] rfl)
                · have t635 : x629.toInt ≤ 200 := ti_nlt c633 (by decide) rfl
                  refine lv_lload_n hx hb dX5_tryOrders_114 rfl (lv_at hl 5 rfl) ?_
                  refine lv_iload hx hb dX5_tryOrders_115 (lv_at hl 6 rfl) ?_
                  refine lv_i2l (v := ic.toInt64) hx hb dX5_tryOrders_117 rfl ?_
                  refine lv_iload hx hb dX5_tryOrders_118 (lv_at hl 0 rfl) ?_
                  refine lv_iload_n hx hb dX5_tryOrders_120 rfl (lv_at hl 4 rfl) ?_
                  refine lv_isub hx hb dX5_tryOrders_121 ?_
                  refine lv_topi (fun x636 ex636 => ?_)
                  have t637 : x636.toInt = x629.toInt - yr.toInt := ti_sub ex636 rfl rfl (by omega) (by omega)
                  refine lv_i2l (v := x636.toInt64) hx hb dX5_tryOrders_122 rfl ?_
                  refine lv_lmul hx hb dX5_tryOrders_123 ?_
                  refine lv_topl (fun y638 ey638 => ?_)
                  have t639 : y638.toInt = ic.toInt * x636.toInt ∧ -(0 * 200) ≤ y638.toInt ∧ y638.toInt ≤ 0 * 200 := tl_m ey638 ((Int32.toInt_toInt64 _).trans rfl) ((Int32.toInt_toInt64 _).trans rfl) (A := 0) (B := 200) (by omega) (by omega) (by omega) (by omega) (by decide)
                  have t640 : y638.toInt = ic.toInt * (x629.toInt - yr.toInt) := (by rw [show x629.toInt - yr.toInt = x636.toInt from by omega]; omega)
                  refine lv_ladd hx hb dX5_tryOrders_124 ?_
                  refine lv_topl (fun y641 ey641 => ?_)
                  have t642 : y641.toInt = co.toInt + y638.toInt := tl_a ey641 rfl rfl (by omega) (by omega)
                  refine lv_aload_n hx hb dX5_tryOrders_125 rfl (lv_at hl 2 rfl) ?_
                  refine tw_getM (v := .ref xcs) hx hb hts bF2_X5 hown hK hT hr_o0 shc_8 rfl 5 (by decide) (ht_at2 hts 3 rfl) (fun _ h9 => h9) m614 dX5_tryOrders_126 ?_
                  refine lv_iload hx hb dX5_tryOrders_129 (lv_at hl 1 rfl) ?_
                  refine tw_iald (i := (nI i401)) hx hb hK hT hr_xcs shc_63 rfl (vp_in_nI (by omega) (by decide)) dX5_tryOrders_131 (fun v9 m643 h9 => ?_)
                  obtain ⟨x644, rfl, gx644, kx644⟩ := h9
                  have cx644 := m605.at m643 (by have q9 := tn_of (show (nI i401).toInt = ((i401 : Nat) : Int) from (nI_toInt (by omega))) (by omega); omega)
                  obtain rfl : x600 = x644 := (el_same m643 m622 rfl).symm
                  refine lv_i2l (v := x600.toInt64) hx hb dX5_tryOrders_132 rfl ?_
                  refine lv_lsub hx hb dX5_tryOrders_133 ?_
                  refine lv_topl (fun y645 ey645 => ?_)
                  have t646 : y645.toInt = y641.toInt - x600.toInt := tl_s ey645 rfl ((Int32.toInt_toInt64 _).trans rfl) (by omega) (by omega)
                  have dn9 := (yw_some (last := (aY i401).toInt) (d := x629.toInt) yw9 (by omega) (by omega) (by omega))
                  have dc9 := dn_cash dn9 (by omega) (by omega)
                  refine lv_lstore (lv' := [(9, .long y645), (8, .int x629), (7, .int (nI i401)), (0, .ref o0), (1, .int 0), (2, .int yr), (3, .long co), (5, .int ic), (6, .int lt)]) hx hb dX5_tryOrders_134 hl (by decide) rfl (fun ls hl => ?_)
                  refine lv_aload_n hx hb dX5_tryOrders_136 rfl (lv_at hl 3 rfl) ?_
                  refine tw_getM (v := .ref xpd) hx hb hts bF2_X5 hown hK hT hr_o0 shc_8 rfl 9 (by decide) (ht_at2 hts 2 rfl) (fun _ h9 => h9) m618 dX5_tryOrders_137 ?_
                  refine lv_iload hx hb dX5_tryOrders_140 (lv_at hl 2 rfl) ?_
                  refine lv_iconst (v := 1) hx hb dX5_tryOrders_142 (by decide) ?_
                  refine tw_zast (i := (nI i401)) (x := 1) hx hb hK hT hG hS hr_xpd shc_67 rfl (vp_in_nI (by omega) (by decide)) (gi_z (rg_t (a := 1) (by decide) (by omega) (by omega)) (by decide) (by decide)) dX5_tryOrders_143 (fun H locs hT oq m647 oi hS => ?_)
                  have hF := hF.ast hr_xpd skc_67 oq (by decide)
                  have m648 := m605.kept (oq _ (gne hr_xcs hr_xpd (by decide)))
                  have m649 := m606.kept (oq _ (gne hr_xls hr_xpd (by decide)))
                  have m650 := m607.kept (oq _ (gne hr_xin hr_xpd (by decide)))
                  have m651 := m608.kept (oq _ (gne hr_xac hr_xpd (by decide)))
                  have m652 := m609.put (show el H xpd _ = some (.int 1) from m647) oi
                  have m653 := m610.kept (oq _ (gne hr_xtr hr_xpd (by decide)))
                  have m654 := m611.kept (oq _ (gne hr_xbe hr_xpd (by decide)))
                  have m655 := (el_kept (oq _ (gne hr_o0 hr_xpd (by decide)))).trans m612
                  have m656 := (el_kept (oq _ (gne hr_o0 hr_xpd (by decide)))).trans m613
                  have m657 := (el_kept (oq _ (gne hr_o0 hr_xpd (by decide)))).trans m614
                  have m658 := (el_kept (oq _ (gne hr_o0 hr_xpd (by decide)))).trans m615
                  have m659 := (el_kept (oq _ (gne hr_o0 hr_xpd (by decide)))).trans m616
                  have m660 := (el_kept (oq _ (gne hr_o0 hr_xpd (by decide)))).trans m617
                  have m661 := (el_kept (oq _ (gne hr_o0 hr_xpd (by decide)))).trans m618
                  have m662 := (el_kept (oq _ (gne hr_o0 hr_xpd (by decide)))).trans m619
                  have m663 := (el_kept (oq _ (gne hr_o0 hr_xpd (by decide)))).trans m620
                  have m664 := (el_kept (oq _ (gne hr_xcs hr_xpd (by decide)))).trans m622
                  have m665 := (el_kept (oq _ (gne hr_xls hr_xpd (by decide)))).trans m625
                  refine lv_aload_n hx hb dX5_tryOrders_144 rfl (lv_at hl 3 rfl) ?_
                  refine tw_getM (v := .ref xtr) hx hb hts bF2_X5 hown hK hT hr_o0 shc_8 rfl 10 (by decide) (ht_at2 hts 9 rfl) (fun _ h9 => h9) m662 dX5_tryOrders_145 ?_
                  refine lv_iload_n hx hb dX5_tryOrders_148 rfl (lv_at hl 4 rfl) ?_
                  refine lv_iload hx hb dX5_tryOrders_149 (lv_at hl 2 rfl) ?_
                  refine tw_iast (i := 0) (x := (nI i401)) hx hb hK hT hG hS hr_xtr shc_68 rfl (by unfold vp_in; decide) (gi_of (show (nI i401).toInt = ((i401 : Nat) : Int) from (nI_toInt (by omega))) (by omega) (by omega)) dX5_tryOrders_151 (fun H locs hT oq m666 oi hS => ?_)
                  have hF := hF.ast hr_xtr skc_68 oq (by decide)
                  have m667 := m648.kept (oq _ (gne hr_xcs hr_xtr (by decide)))
                  have m668 := m649.kept (oq _ (gne hr_xls hr_xtr (by decide)))
                  have m669 := m650.kept (oq _ (gne hr_xin hr_xtr (by decide)))
                  have m670 := m651.kept (oq _ (gne hr_xac hr_xtr (by decide)))
                  have m671 := m652.kept (oq _ (gne hr_xpd hr_xtr (by decide)))
                  have m672 := m653.put m666 oi
                  have m673 := m654.kept (oq _ (gne hr_xbe hr_xtr (by decide)))
                  have m674 := (el_kept (oq _ (gne hr_o0 hr_xtr (by decide)))).trans m655
                  have m675 := (el_kept (oq _ (gne hr_o0 hr_xtr (by decide)))).trans m656
                  have m676 := (el_kept (oq _ (gne hr_o0 hr_xtr (by decide)))).trans m657
                  have m677 := (el_kept (oq _ (gne hr_o0 hr_xtr (by decide)))).trans m658
                  have m678 := (el_kept (oq _ (gne hr_o0 hr_xtr (by decide)))).trans m659
                  have m679 := (el_kept (oq _ (gne hr_o0 hr_xtr (by decide)))).trans m660
                  have m680 := (el_kept (oq _ (gne hr_o0 hr_xtr (by decide)))).trans m661
                  have m681 := (el_kept (oq _ (gne hr_o0 hr_xtr (by decide)))).trans m662
                  have m682 := (el_kept (oq _ (gne hr_o0 hr_xtr (by decide)))).trans m663
                  have m683 := (el_kept (oq _ (gne hr_xcs hr_xtr (by decide)))).trans m664
                  have m684 := (el_kept (oq _ (gne hr_xls hr_xtr (by decide)))).trans m665
                  refine lv_aload_n hx hb dX5_tryOrders_152 rfl (lv_at hl 3 rfl) ?_
                  refine lv_iload_n hx hb dX5_tryOrders_153 rfl (lv_at hl 4 rfl) ?_
                  refine lv_iconst (v := 1) hx hb dX5_tryOrders_154 (by decide) ?_
                  refine lv_iadd hx hb dX5_tryOrders_155 ?_
                  refine lv_topi (fun x685 ex685 => ?_)
                  obtain rfl : x685 = 1 := ex685.trans (by decide)
                  refine lv_iload hx hb dX5_tryOrders_156 (lv_at hl 1 rfl) ?_
                  refine lv_lload hx hb dX5_tryOrders_158 (lv_at hl 0 rfl) ?_
                  refine lv_iload hx hb dX5_tryOrders_160 (lv_at hl 7 rfl) ?_
                  refine lv_aload_n hx hb dX5_tryOrders_162 rfl (lv_at hl 3 rfl) ?_
                  refine tw_getM (v := .ref xin) hx hb hts bF2_X5 hown hK hT hr_o0 shc_8 rfl 7 (by decide) (ht_at2 hts 10 rfl) (fun _ h9 => h9) m678 dX5_tryOrders_163 ?_
                  refine lv_iload hx hb dX5_tryOrders_166 (lv_at hl 2 rfl) ?_
                  refine tw_iald (i := (nI i401)) hx hb hK hT hr_xin shc_65 rfl (vp_in_nI (by omega) (by decide)) dX5_tryOrders_168 (fun v9 m686 h9 => ?_)
                  obtain ⟨x687, rfl, gx687, kx687⟩ := h9
                  have cx687 := m669.at m686 (by have q9 := tn_of (show (nI i401).toInt = ((i401 : Nat) : Int) from (nI_toInt (by omega))) (by omega); omega)
                  have t688 : x687.toInt = (aB i401).toInt := congrArg Int32.toInt (cx687.trans (by rw [tn_nI (by omega)]))
                  have t689 : 0 ≤ (aB i401).toInt ∧ (aB i401).toInt ≤ 100000 := (hrg i401 (by omega)).2.2.1
                  refine lv_iadd hx hb dX5_tryOrders_169 ?_
                  refine lv_topi (fun x690 ex690 => ?_)
                  have t691 : x690.toInt = ic.toInt + x687.toInt := ti_add ex690 rfl rfl (by omega) (by omega)
                  refine lv_iload hx hb dX5_tryOrders_170 (lv_at hl 8 rfl) ?_
                  refine lv_aload_n hx hb dX5_tryOrders_172 rfl (lv_at hl 3 rfl) ?_
                  refine tw_getM (v := .ref xac) hx hb hts bF2_X5 hown hK hT hr_o0 shc_8 rfl 8 (by decide) (ht_at2 hts 11 rfl) (fun _ h9 => h9) m679 dX5_tryOrders_173 ?_
                  refine lv_iload hx hb dX5_tryOrders_176 (lv_at hl 2 rfl) ?_
                  refine tw_iald (i := (nI i401)) hx hb hK hT hr_xac shc_66 rfl (vp_in_nI (by omega) (by decide)) dX5_tryOrders_178 (fun v9 m692 h9 => ?_)
                  obtain ⟨x693, rfl, gx693, kx693⟩ := h9
                  have cx693 := m670.at m692 (by have q9 := tn_of (show (nI i401).toInt = ((i401 : Nat) : Int) from (nI_toInt (by omega))) (by omega); omega)
                  have t694 : x693.toInt = (aA i401).toInt := congrArg Int32.toInt (cx693.trans (by rw [tn_nI (by omega)]))
                  have t695 : 0 ≤ (aA i401).toInt ∧ (aA i401).toInt ≤ 1000 := (hrg i401 (by omega)).2.2.2
                  refine lv_iload hx hb dX5_tryOrders_179 (lv_at hl 1 rfl) ?_
                  refine lv_imul hx hb dX5_tryOrders_181 ?_
                  refine lv_topi (fun x696 ex696 => ?_)
                  have t697 : x696.toInt = x693.toInt * x629.toInt := ti_mulx ex696 rfl rfl (A := 1000) (B := 200) (by omega) (by omega) (by omega) (by omega) (by decide)
                  have t698 : 0 ≤ x696.toInt ∧ x696.toInt ≤ 1000 * 200 ∧ (x693.toInt = 0 → x696.toInt = 0) ∧ (x629.toInt = 0 → x696.toInt = 0) ∧ x696.toInt ≤ x693.toInt * 200 ∧ x696.toInt ≤ 1000 * x629.toInt := ti_mulnn ex696 rfl rfl (by omega) (by omega) (by omega) (by omega) (by decide)
                  refine lv_iadd hx hb dX5_tryOrders_182 ?_
                  refine lv_topi (fun x699 ex699 => ?_)
                  have t700 : x699.toInt = lt.toInt + x696.toInt := ti_add ex699 rfl rfl (by omega) (by omega)
                  have hFc := gA_free hG hA hS
                  refine va_callv (va_runV (As := [.int 1, .int x629, .long y645, .int x690, .int x699]) (rest := []) ⟨hx, hb, hml, hown, hts⟩ (c_tryOrdersC1 l dC dI kA adK adV G H nC nS o0 x629 y645 x690 x699 jb z412 xcs xls xin xac xpd xtr xbe aC aY aB aA (cu vP (nI i401).toNatClampNeg (1 : Int32)) (cu V407 (0 : Int32).toNatClampNeg (nI i401)) V409 N (fun k => if k = 0 then ((i401 : Nat) : Int) else R k) (slO N 0 aC aY aB aA (pb vP) yr.toInt co.toInt ic.toInt lt.toInt R a0 i401) hT hr_o0 m674 m675 m676 hr_xcs m677 hr_xls m678 hr_xin m679 hr_xac m680 hr_xpd m681 hr_xtr m682 hr_xbe (by have q8 := ti_all x629; omega) (by have q8 := ti_all x690; omega) (by have q8 := ti_all x699; omega) (by have q8 := ti_all jb; omega) (by omega) hN hrg (sl_ok (by omega) (fun j hj => by have := (hrg j (by omega)).2.1.1; omega) (fun j hj => (hrg j (by omega)).2.2.2.1) (by omega) (by omega) hba) hj421 hj422 (rr_s (K := 0) rfl (by decide) (nI_toInt (by omega)) hj423) m667 m668 m669 m670 m671 m672 m673 (by omega) (by omega)) (cwV 5 hts (goodIn_app (goodIn_r _ [19, 20, 21, 8] rfl (by decide +kernel)) (goodIn_ca (goodIn_r _ [13, 1, 2, 3, 4, 5, 6, 7, 8, 9, 10, 11, 12, 13, 14, 15, 16, 17, 18, 19, 20, 21] rfl (by decide +kernel)) (bs2_in _ _))) rfl rfl rfl (by decide +kernel) ⟨(Nat.le_of_ble_eq_true rfl), (Nat.le_of_ble_eq_true rfl)⟩) ⟨fun a U g mk q => by obtain ⟨q0, q1, qK, qE⟩ := q; exact ⟨q0, q1, va_K.moved (u := U) (U := U.calling g mk a) (Vm.Alike.refl U.vm) qK, EVC.blind g mk a qE⟩, gH_recv hK hT hr_o0 shc_8 rfl, fun U hU hW => ⟨rfl, hU, va_K.moved hW.alike hK, hE.call hS hFc hU hW⟩⟩ rfl rfl hl.1 rfl (lv_room (Nat.le_of_ble_eq_true rfl)) dX5_tryOrders_183 ⟨(Nat.le_of_ble_eq_true rfl), (Nat.le_of_ble_eq_true rfl)⟩) hS (fun q _ h => hFc q h) hFc (fun u t H locs ht hvm hw702 hB _ _ hS => ?_)
                  obtain ⟨u703, u704, u705⟩ := u
                  obtain ⟨hT, hF1, m706, m707, m708, m709⟩ := hB
                  rw [ht] at hT hF1 m706 m707 m708 m709
                  have m710 := m667.kept (hF1.arr hr_xcs skc_63 (by decide))
                  have m711 := m668.kept (hF1.arr hr_xls skc_64 (by decide))
                  have m712 := m669.kept (hF1.arr hr_xin skc_65 (by decide))
                  have m713 := m670.kept (hF1.arr hr_xac skc_66 (by decide))
                  have m717 := (hF1.fld hr_o0 skc_8 (k := 15) (by decide) (by decide)).trans m674
                  have m719 := (hF1.fld hr_o0 skc_8 (k := 5) (by decide) (by decide)).trans m676
                  have m720 := (hF1.fld hr_o0 skc_8 (k := 6) (by decide) (by decide)).trans m677
                  have m721 := (hF1.fld hr_o0 skc_8 (k := 7) (by decide) (by decide)).trans m678
                  have m722 := (hF1.fld hr_o0 skc_8 (k := 8) (by decide) (by decide)).trans m679
                  have m723 := (hF1.fld hr_o0 skc_8 (k := 9) (by decide) (by decide)).trans m680
                  have m724 := (hF1.fld hr_o0 skc_8 (k := 10) (by decide) (by decide)).trans m681
                  have m725 := (hF1.fld hr_o0 skc_8 (k := 11) (by decide) (by decide)).trans m682
                  have m726 := (el_kept (hF1.arr hr_xcs skc_63 (by decide))).trans m683
                  have m727 := (el_kept (hF1.arr hr_xls skc_64 (by decide))).trans m684
                  have m729 := (el_kept (hF1.arr hr_xin skc_65 (by decide))).trans m686
                  have m730 := (el_kept (hF1.arr hr_xac skc_66 (by decide))).trans m692
                  have hF := hF.more hF1 (by decide)
                  try dsimp only at hw702
                  have hf731 := hw702
                  refine lv_aload_n hx hb dX5_tryOrders_186 rfl (lv_at hl 3 rfl) ?_
                  refine tw_getM (v := .ref xpd) hx hb hts bF2_X5 hown hK hT hr_o0 shc_8 rfl 9 (by decide) (ht_at2 hts 2 rfl) (fun _ h9 => h9) m723 dX5_tryOrders_187 ?_
                  refine lv_iload hx hb dX5_tryOrders_190 (lv_at hl 2 rfl) ?_
                  refine lv_iconst (v := 0) hx hb dX5_tryOrders_192 (by decide) ?_
                  refine tw_zast (i := (nI i401)) (x := 0) hx hb hK hT hG hS hr_xpd shc_67 rfl (vp_in_nI (by omega) (by decide)) (gi_z (rg_t (a := 0) (by decide) (by omega) (by omega)) (by decide) (by decide)) dX5_tryOrders_193 (fun H locs hT oq m732 oi hS => ?_)
                  have hF := hF.ast hr_xpd skc_67 oq (by decide)
                  have m733 := m710.kept (oq _ (gne hr_xcs hr_xpd (by decide)))
                  have m734 := m711.kept (oq _ (gne hr_xls hr_xpd (by decide)))
                  have m735 := m712.kept (oq _ (gne hr_xin hr_xpd (by decide)))
                  have m736 := m713.kept (oq _ (gne hr_xac hr_xpd (by decide)))
                  have m737 := (el_kept (oq _ (gne hr_o0 hr_xpd (by decide)))).trans m717
                  have m738 := (el_kept (oq _ (gne hr_o0 hr_xpd (by decide)))).trans m719
                  have m739 := (el_kept (oq _ (gne hr_o0 hr_xpd (by decide)))).trans m720
                  have m740 := (el_kept (oq _ (gne hr_o0 hr_xpd (by decide)))).trans m721
                  have m741 := (el_kept (oq _ (gne hr_o0 hr_xpd (by decide)))).trans m722
                  have m742 := (el_kept (oq _ (gne hr_o0 hr_xpd (by decide)))).trans m723
                  have m743 := (el_kept (oq _ (gne hr_o0 hr_xpd (by decide)))).trans m724
                  have m744 := (el_kept (oq _ (gne hr_o0 hr_xpd (by decide)))).trans m725
                  have m745 := (el_kept (oq _ (gne hr_xcs hr_xpd (by decide)))).trans m726
                  have m746 := (el_kept (oq _ (gne hr_xls hr_xpd (by decide)))).trans m727
                  have m747 := (el_kept (oq _ (gne hr_xin hr_xpd (by decide)))).trans m729
                  have m748 := (el_kept (oq _ (gne hr_xac hr_xpd (by decide)))).trans m730
                  have m749 := (el_kept (oq _ (gne hr_o0 hr_xpd (by decide)))).trans m706
                  have m750 := m707.put (show el H xpd _ = some (.int 0) from m732) oi
                  have m751 := m708.kept (oq _ (gne hr_xtr hr_xpd (by decide)))
                  have m752 := m709.kept (oq _ (gne hr_xbe hr_xpd (by decide)))
                  refine lv_iinc (v := nI (i401 + 1)) (lv' := [(7, .int (nI (i401 + 1))), (9, .long y645), (8, .int x629), (0, .ref o0), (1, .int 0), (2, .int yr), (3, .long co), (5, .int ic), (6, .int lt)]) hx hb dX5_tryOrders_194 hl (k := 2) rfl (nI_add i401 1) (by decide) rfl (fun ls hl => ?_)
                  refine lv_goto (tgt := 53) hx hb dX5_tryOrders_197 (by decide) ?_
                  have bk9 : u703.toInt = (slO N 0 aC aY aB aA (pb vP) yr.toInt co.toInt ic.toInt lt.toInt R a0 (i401 + 1)).1 ∧ (0 ≤ (slO N 0 aC aY aB aA (pb vP) yr.toInt co.toInt ic.toInt lt.toInt R a0 (i401 + 1)).1 → ∀ k : Nat, k < N → (u705 k).toInt = (slO N 0 aC aY aB aA (pb vP) yr.toInt co.toInt ic.toInt lt.toInt R a0 (i401 + 1)).2 k) ∧ ∀ k : Nat, k < 0 → (u704 k).toInt = R k := by have q9 := hf731; rw [sl_call (N := N) (K := 0) (K1 := 1) (aC := aC) (aY := aY) (aB := aB) (aA := aA) (U := pb vP) (yr := yr.toInt) (ca := co.toInt) (ic := ic.toInt) (su := lt.toInt) (R := R) (a := a0) (i := i401) (d := x629.toInt) (c1 := y645.toInt) (i1 := x690.toInt) (s1 := x699.toInt) (U1 := pb (cu vP (nI i401).toNatClampNeg (1 : Int32))) rfl (pb_0 (tn_nI (by omega)) cx596 (by omega)) dn9 (pb_cu (tn_nI (by omega))) (by omega) (by omega) (by rw [show (aA i401).toInt = x693.toInt from by omega]; omega)] at q9; exact ⟨q9.1, q9.2.1, fun k hk => (q9.2.2 k (by omega)).trans (if_neg (by omega))⟩
                  exact ih588 (i401 + 1) (by omega) (by omega) u704 u705 u703 ⟨bk9.1, bk9.2.1, bk9.2.2, (by omega)⟩ _ _ hT hF hS m733 m734 m735 m736 (m750.ext (fun _ _ => pb_r cx596 (by omega))) m751 m752 m737 m749 m738 m739 m740 m741 m742 m743 m744 ls (lv_sub hl [0, 3, 4, 5, 6, 7, 8] rfl)
              · have t753 : x596.toInt ≠ 0 := ti_ne c597 rfl (by decide)
                refine lv_iconst (v := (-1)) hx hb dX5_tryOrders_72 (by decide) ?_
                refine lv_goto (tgt := 98) hx hb dX5_tryOrders_73 (by decide) ?_
                refine lv_istore (lv' := [(8, .int (-1)), (7, .int (nI i401)), (0, .ref o0), (1, .int 0), (2, .int yr), (3, .long co), (5, .int ic), (6, .int lt)]) hx hb dX5_tryOrders_98 hl (by decide) rfl (fun ls hl => ?_)
                refine lv_iload hx hb dX5_tryOrders_100 (lv_at hl 0 rfl) ?_
                refine lv_iconst (v := (-1)) hx hb dX5_tryOrders_102 (by decide) ?_
                refine lv_icmp_eq (tgt := 194) hx hb dX5_tryOrders_103 (by decide) (fun c754 => ?_) (fun c754 => absurd c754 (by decide))
                refine lv_iinc (v := nI (i401 + 1)) (lv' := [(7, .int (nI (i401 + 1))), (8, .int (-1)), (0, .ref o0), (1, .int 0), (2, .int yr), (3, .long co), (5, .int ic), (6, .int lt)]) hx hb dX5_tryOrders_194 hl (k := 1) rfl (nI_add i401 1) (by decide) rfl (fun ls hl => ?_)
                refine lv_goto (tgt := 53) hx hb dX5_tryOrders_197 (by decide) ?_
                have bk9 : z412.toInt = (slO N 0 aC aY aB aA (pb vP) yr.toInt co.toInt ic.toInt lt.toInt R a0 (i401 + 1)).1 ∧ (0 ≤ (slO N 0 aC aY aB aA (pb vP) yr.toInt co.toInt ic.toInt lt.toInt R a0 (i401 + 1)).1 → ∀ k : Nat, k < N → (V409 k).toInt = (slO N 0 aC aY aB aA (pb vP) yr.toInt co.toInt ic.toInt lt.toInt R a0 (i401 + 1)).2 k) ∧ ∀ k : Nat, k < 0 → (V407 k).toInt = R k := by rw [sl_u (pb_1 (tn_nI (by omega)) cx596 (by omega))]; exact ⟨hj421, hj422, hj423⟩
                exact ih588 (i401 + 1) (by omega) (by omega) V407 V409 z412 ⟨bk9.1, bk9.2.1, bk9.2.2, (by omega)⟩ _ _ hT hF hS m402 m403 m404 m405 (m406.ext (fun _ _ => rfl)) m408 m410 m411 m413 m414 m415 m416 m417 m418 m419 m420 ls (lv_sub hl [0, 2, 3, 4, 5, 6, 7] rfl)
        exact key588 (7 - 0) 0 (by omega) (Nat.le_refl _) vR vZ la ⟨hla, hZ0, hR, (by omega)⟩ _ _ hT hF hS hc_aC hc_aY hc_aB hc_aA (hc_vP.ext (fun _ _ => rfl)) hc_vR hc_vZ hm_jb hm_la hm_xcs hm_xls hm_xin hm_xac hm_xpd hm_xtr hm_xbe ls (lv_sub hl [0, 1, 2, 3, 4, 5, 6] rfl)
      · have t755 : jb.toInt ≤ 0 := ti_nlt c399 (by decide) rfl
        refine lv_aload_n hx hb dX5_tryOrders_26 rfl (lv_at hl 0 rfl) ?_
        refine lv_iload hx hb dX5_tryOrders_27 (lv_at hl 5 rfl) ?_
        refine tw_put (v := .int lt) (ty := .int) hx hb hts bF2_X5 tyX5 tyX5_ok nmX5 hown hK hT hG hS hr_o0 shc_8 rfl 16 (by decide) (ht_at2 hts 0 rfl) (fun _ h9 => h9) rfl (by decide +kernel) rfl rfl (gl_at rfl (gi_all _)) dX5_tryOrders_29 (fun H locs hT oq m756 oj hS => ?_)
        have hF := hF.put hr_o0 skc_8 oq oj (by decide)
        have m757 := (oj 15 (by decide) (by decide)).trans hm_jb
        have m758 := (oj 5 (by decide) (by decide)).trans hm_xcs
        have m759 := (oj 6 (by decide) (by decide)).trans hm_xls
        have m760 := (oj 7 (by decide) (by decide)).trans hm_xin
        have m761 := (oj 8 (by decide) (by decide)).trans hm_xac
        have m762 := (oj 9 (by decide) (by decide)).trans hm_xpd
        have m763 := (oj 10 (by decide) (by decide)).trans hm_xtr
        have m764 := (oj 11 (by decide) (by decide)).trans hm_xbe
        have m765 := hc_aC.kept (oq _ (gne hr_xcs hr_o0 (by decide)))
        have m766 := hc_aY.kept (oq _ (gne hr_xls hr_o0 (by decide)))
        have m767 := hc_aB.kept (oq _ (gne hr_xin hr_o0 (by decide)))
        have m768 := hc_aA.kept (oq _ (gne hr_xac hr_o0 (by decide)))
        have m769 := hc_vP.kept (oq _ (gne hr_xpd hr_o0 (by decide)))
        have m770 := hc_vR.kept (oq _ (gne hr_xtr hr_o0 (by decide)))
        have m771 := hc_vZ.kept (oq _ (gne hr_xbe hr_o0 (by decide)))
        refine lv_aload_n hx hb dX5_tryOrders_32 rfl (lv_at hl 0 rfl) ?_
        refine tw_getM (v := .ref xtr) hx hb hts bF2_X5 hown hK hT hr_o0 shc_8 rfl 10 (by decide) (ht_at2 hts 9 rfl) (fun _ h9 => h9) m763 dX5_tryOrders_33 ?_
        refine lv_iconst (v := 0) hx hb dX5_tryOrders_36 (by decide) ?_
        refine lv_aload_n hx hb dX5_tryOrders_37 rfl (lv_at hl 0 rfl) ?_
        refine tw_getM (v := .ref xbe) hx hb hts bF2_X5 hown hK hT hr_o0 shc_8 rfl 11 (by decide) (ht_at2 hts 13 rfl) (fun _ h9 => h9) m764 dX5_tryOrders_38 ?_
        refine lv_iconst (v := 0) hx hb dX5_tryOrders_41 (by decide) ?_
        refine lv_aload_n hx hb dX5_tryOrders_42 rfl (lv_at hl 0 rfl) ?_
        refine tw_getM (v := .int jb) hx hb hts bF2_X5 hown hK hT hr_o0 shc_8 rfl 15 (by decide) (ht_at2 hts 1 rfl) (fun _ h9 => h9) m757 dX5_tryOrders_43 ?_
        refine tw_copyE (ty := .int) hx hb (hml.trans hl.1.symm) hown (ht_at2 hts 14 rfl) (ht_at2 hts 15 rfl) (ht_at2 hts 16 rfl) (ht_at2 hts 17 rfl) hK hT hG hS hr_xtr hr_xbe shc_68 shc_69 rfl rfl (by decide) (by decide) (fun h9 => by have q9 := ti_lt h9 rfl (show (0 : Int32).toInt = 0 from by decide); omega) (by have q9 := tn_of (show jb.toInt = jb.toInt from rfl) (by omega); have q8 : (0 : Int32).toNatClampNeg = 0 := (by decide); omega) (by have q9 := tn_of (show jb.toInt = jb.toInt from rfl) (by omega); have q8 : (0 : Int32).toNatClampNeg = 0 := (by decide); omega) (by decide) (by decide) (fun _ _ h9 => by obtain ⟨x9, e9, _⟩ := h9; exact ⟨x9, e9, rfl⟩) (fun _ _ _ h9 => by obtain ⟨x9, e9, a9, b9⟩ := h9; exact ⟨x9, e9, by omega, by omega⟩) (Nat.le_of_ble_eq_true rfl) (Nat.le_of_ble_eq_true rfl) dX5_tryOrders_46 (fun H locs hT oq ce772 hS => ?_)
        have hF := hF.ast hr_xbe skc_69 oq (by decide)
        have m773 := (el_kept (oq _ (gne hr_o0 hr_xbe (by decide)))).trans m757
        have m774 := (el_kept (oq _ (gne hr_o0 hr_xbe (by decide)))).trans m758
        have m775 := (el_kept (oq _ (gne hr_o0 hr_xbe (by decide)))).trans m759
        have m776 := (el_kept (oq _ (gne hr_o0 hr_xbe (by decide)))).trans m760
        have m777 := (el_kept (oq _ (gne hr_o0 hr_xbe (by decide)))).trans m761
        have m778 := (el_kept (oq _ (gne hr_o0 hr_xbe (by decide)))).trans m762
        have m779 := (el_kept (oq _ (gne hr_o0 hr_xbe (by decide)))).trans m763
        have m780 := (el_kept (oq _ (gne hr_o0 hr_xbe (by decide)))).trans m764
        have m781 := m765.kept (oq _ (gne hr_xcs hr_xbe (by decide)))
        have m782 := m766.kept (oq _ (gne hr_xls hr_xbe (by decide)))
        have m783 := m767.kept (oq _ (gne hr_xin hr_xbe (by decide)))
        have m784 := m768.kept (oq _ (gne hr_xac hr_xbe (by decide)))
        have m785 := m769.kept (oq _ (gne hr_xpd hr_xbe (by decide)))
        have m786 := m770.kept (oq _ (gne hr_xtr hr_xbe (by decide)))
        have m787 := (el_kept (oq _ (gne hr_o0 hr_xbe (by decide)))).trans m756
        obtain ⟨V788, m789, kV788⟩ := ct_of hT hr_xbe shc_69
        have cq790 : ∀ k : Nat, ((k : Nat) : Int) < jb.toInt → V788 k = vR k := fun k hk => Value.int.inj (Option.some.inj ((m789 k (by omega)).symm.trans ((ce772 k (by have q9 := tn_of (show jb.toInt = jb.toInt from rfl) (by omega); omega)).trans (m770 k (by omega)))))
        exact W.vret hx hb hr (fun t ht hW => ⟨⟨(lt, vR, V788), rfl, (by exact (by (try dsimp only); have e9 : N = 0 := (by omega); rw [sx_0 e9, if_neg (by omega)]; exact ⟨rfl, fun _ k hk => (congrArg Int32.toInt (cq790 k (by omega))).trans (hR k (by omega)), hR⟩)), by (try dsimp only); rw [ht]; exact ⟨hT, hF, m787, m785, m786, m789⟩⟩, hS.F ht⟩) hS.2.2 dX5_tryOrders_49
    · have t791 : la.toInt ≤ lt.toInt := ti_nlt c397 rfl rfl
      exact W.vret hx hb hr (fun t ht hW => ⟨⟨(la, vR, vZ), rfl, (by exact (by (try dsimp only); rw [sx_cut (fun j hj => by have := (hrg j (by omega)).2.1.1; omega) (fun j hj => (hrg j (by omega)).2.2.2.1) (by omega) ⟨by omega, by omega⟩]; exact ⟨by omega, hZ0, hR⟩)), by (try dsimp only); rw [ht]; exact ⟨hT, hF, hm_la, hc_vP, hc_vR, hc_vZ⟩⟩, hS.F ht⟩) hS.2.2 dX5_tryOrders_17
def w_c_findOrderC : List Cond := .code yX5_findOrder cX5_findOrder 2 none :: (HAppend.hAppend (α := List Cond) (β := List Cond) (γ := List Cond) [.fieldLink RX5 157 "SeaLand$Plans" "bestLate" "I", .code yX5_tryOrders cX5_tryOrders 11 none, .fieldLink RX5 154 "SeaLand$Plans" "jobs" "I", .fieldLink RX5 41 "SeaLand$Plans" "placed" "[Z", .fieldLink RX5 29 "SeaLand$Plans" "costs" "[I", .code yX5_yearWithCost cX5_yearWithCost 5 (some .int), .methodLink RX5 164 yX5_yearWithCost, .static yX5_yearWithCost, .initialized RX5, .fieldLink RX5 32 "SeaLand$Plans" "lasts" "[I", .fieldLink RX5 45 "SeaLand$Plans" "trial" "[I", .fieldLink RX5 35 "SeaLand$Plans" "incomes" "[I", .fieldLink RX5 38 "SeaLand$Plans" "acres" "[I", .fieldLink RX5 48 "SeaLand$Plans" "best" "[I", .methodLink RX5 100 arraycopyName, .native arraycopyName, .static arraycopyName, .initialized "java/lang/System", .methodLink RX5 160 yX5_tryOrders, .instanceMethod yX5_tryOrders, .selects RX5 yX5_tryOrders yX5_tryOrders] bs2)
set_option maxHeartbeats 4000000 in
set_option maxRecDepth 100000 in
theorem c_findOrderC (l : Launch) (dC : Nat → ClassId) (dI : Nat → Nat → Nat) (kA : Nat → ClassId) (adK adV : Nat → Nat) (G : gT) (H0 : Heap) (nC nS : Int) (o0 : Nat) (p0 : Int32) (jb : Int32) (xcs : Nat) (xls : Nat) (xin : Nat) (xac : Nat) (xpd : Nat) (xtr : Nat) (xbe : Nat) (aC : Nat → Int32) (aY : Nat → Int32) (aB : Nat → Int32) (aA : Nat → Int32) (vP : Nat → Int32) (vR : Nat → Int32) (vZ : Nat → Int32)  (hT : gH (dC, dI) kA (SHc nC nS) G H0) (hr_o0 : G o0 = some 8) (hm_jb : el H0 o0 (dI 8 15) = some (.int jb)) (hm_xcs : el H0 o0 (dI 8 5) = some (.ref xcs)) (hr_xcs : G xcs = some 63) (hm_xls : el H0 o0 (dI 8 6) = some (.ref xls)) (hr_xls : G xls = some 64) (hm_xin : el H0 o0 (dI 8 7) = some (.ref xin)) (hr_xin : G xin = some 65) (hm_xac : el H0 o0 (dI 8 8) = some (.ref xac)) (hr_xac : G xac = some 66) (hm_xpd : el H0 o0 (dI 8 9) = some (.ref xpd)) (hr_xpd : G xpd = some 67) (hm_xtr : el H0 o0 (dI 8 10) = some (.ref xtr)) (hr_xtr : G xtr = some 68) (hm_xbe : el H0 o0 (dI 8 11) = some (.ref xbe)) (hr_xbe : G xbe = some 69) (hq0 : 0 ≤ jb.toInt ∧ jb.toInt ≤ 7) (hq1 : 0 ≤ p0.toInt ∧ p0.toInt ≤ 1000000) (hrg : joR jb.toInt aC aY aB aA) (hP : vP = fun _ => 0) (hc_aC : ct H0 xcs 7 aC) (hc_aY : ct H0 xls 7 aY) (hc_aB : ct H0 xin 7 aB) (hc_aA : ct H0 xac 7 aA) (hc_vP : ct H0 xpd 7 vP) (hc_vR : ct H0 xtr 7 vR) (hc_vZ : ct H0 xbe 7 vZ) (hgC : 0 ≤ nC ∧ nC ≤ 40) (hgS : 0 ≤ nS ∧ nS ≤ 60) : Met l yX5_findOrder w_c_findOrderC ({ frames := 10, cells := 0, slots := 0, locals := 300 }) (va_Pc [.ref o0, .int p0] (fun U => U.heap = H0 ∧ va_K (dC, dI) vwCl (tyl kA) U ∧ EVC adK adV (gA G H0.size) U U.heap)) (va_Qv (fun (u : Int32 × (Nat → Int32)) => match u with | (la1, vZ1) => (la1.toInt = (orS jb.toInt aC aY aB aA p0.toInt).1 ∧ (0 ≤ (orS jb.toInt aC aY aB aA p0.toInt).1 → ∀ k : Nat, ((k : Nat) : Int) < jb.toInt → (vZ1 k).toInt = (orS jb.toInt aC aY aB aA p0.toInt).2 k))) (fun (u : Int32 × (Nat → Int32)) (t : State) => match u with | (la1, vZ1) => gH (dC, dI) kA (SHc nC nS) G t.heap ∧ gF (dC, dI) SKc G ([(8, 16), (67, 0), (68, 0), (69, 0)] : List (Nat × Nat)) H0 t.heap ∧ el t.heap o0 (dI 8 16) = some (.int la1) ∧ ct t.heap xpd 7 vP ∧ ct t.heap xbe 7 vZ1) (gA G H0.size)) 0 0 (gA G H0.size) := by
  refine Met.ofW (cc := cX5_findOrder) (maxL := 2) (ret := none) (by decide) rfl ?_
  intro p e s m args below meth c s₁ B hml hv
  obtain ⟨rfl, hH0, hK, hE⟩ := hv
  have hx := B.exec
  have hb := B.bytes
  have hr := B.returns
  have hts := atoms_spec (ws := w_c_findOrderC) B.pre
  have hown : s.vm.findClass RX5 = some m.cls := findClass_of_methodNamed B.named
  have hlocks := B.notSynchronized
  subst hH0
  generalize hAe : gA G s.heap.size = A at hE ⊢
  have hA : ∀ q : Nat, s.heap.size ≤ q → A q := fun q h => by rw [← hAe]; exact Or.inr h
  have hG := gA_of hAe
  have hS : va_S A s.heap s.heap [] := va_S.rf
  have hF : gF (dC, dI) SKc G ([(8, 16), (67, 0), (68, 0), (69, 0)] : List (Nat × Nat)) s.heap s.heap := gF.rf
  have hl := lv_entry ([.ref o0, .int p0]) (n := 2) (Nat.le_of_ble_eq_true rfl)
  rw [lg_entry_eq]
  generalize (lg_sl ([.ref o0, .int p0]) ++ List.replicate (2 - (lg_sl ([.ref o0, .int p0])).length) Slot.unset).toArray = ls at hl ⊢
  have hl : lv_has ls 2 [(0, .ref o0), (1, .int p0)] := hl
  refine lv_aload_n hx hb dX5_findOrder_0 rfl (lv_at hl 0 rfl) ?_
  refine lv_iconst (v := (-1)) hx hb dX5_findOrder_1 (by decide) ?_
  refine tw_put (v := .int (-1)) (ty := .int) hx hb hts bF2_X5 tyX5 tyX5_ok nmX5 hown hK hT hG hS hr_o0 shc_8 rfl 16 (by decide) (ht_at2 hts 0 rfl) (fun _ h9 => h9) rfl (by decide +kernel) rfl rfl (gl_at rfl (gi_all _)) dX5_findOrder_2 (fun H locs hT oq m1 oj hS => ?_)
  have hF := hF.put hr_o0 skc_8 oq oj (by decide)
  have m2 := (oj 15 (by decide) (by decide)).trans hm_jb
  have m3 := (oj 5 (by decide) (by decide)).trans hm_xcs
  have m4 := (oj 6 (by decide) (by decide)).trans hm_xls
  have m5 := (oj 7 (by decide) (by decide)).trans hm_xin
  have m6 := (oj 8 (by decide) (by decide)).trans hm_xac
  have m7 := (oj 9 (by decide) (by decide)).trans hm_xpd
  have m8 := (oj 10 (by decide) (by decide)).trans hm_xtr
  have m9 := (oj 11 (by decide) (by decide)).trans hm_xbe
  have m10 := hc_aC.kept (oq _ (gne hr_xcs hr_o0 (by decide)))
  have m11 := hc_aY.kept (oq _ (gne hr_xls hr_o0 (by decide)))
  have m12 := hc_aB.kept (oq _ (gne hr_xin hr_o0 (by decide)))
  have m13 := hc_aA.kept (oq _ (gne hr_xac hr_o0 (by decide)))
  have m14 := hc_vP.kept (oq _ (gne hr_xpd hr_o0 (by decide)))
  have m15 := hc_vR.kept (oq _ (gne hr_xtr hr_o0 (by decide)))
  have m16 := hc_vZ.kept (oq _ (gne hr_xbe hr_o0 (by decide)))
  refine lv_aload_n hx hb dX5_findOrder_5 rfl (lv_at hl 0 rfl) ?_
  refine lv_iconst (v := 0) hx hb dX5_findOrder_6 (by decide) ?_
  refine lv_iconst (v := 0) hx hb dX5_findOrder_7 (by decide) ?_
  refine lv_iload_n hx hb dX5_findOrder_8 rfl (lv_at hl 1 rfl) ?_
  refine lv_i2l (v := p0.toInt64) hx hb dX5_findOrder_9 rfl ?_
  refine lv_iconst (v := 0) hx hb dX5_findOrder_10 (by decide) ?_
  refine lv_iconst (v := 0) hx hb dX5_findOrder_11 (by decide) ?_
  have hFc := gA_free hG hA hS
  refine va_callv (va_runV (As := [.int 0, .int 0, .long p0.toInt64, .int 0, .int 0]) (rest := []) ⟨hx, hb, hml, hown, hts⟩ (c_tryOrdersC0 l dC dI kA adK adV G H nC nS o0 0 p0.toInt64 0 0 jb (-1) xcs xls xin xac xpd xtr xbe aC aY aB aA vP vR vZ jb.toInt.toNat (fun _ => 0) ((-1 : Int), fun _ => (0 : Int)) hT hr_o0 m2 m1 m3 hr_xcs m4 hr_xls m5 hr_xin m6 hr_xac m7 hr_xpd m8 hr_xtr m9 hr_xbe (rg_t (a := 0) (by decide) (by omega) (by omega)) (rg_t (a := 0) (by decide) (by omega) (by omega)) (rg_t (a := 0) (by decide) (by omega) (by omega)) (by have q8 := ti_all jb; omega) (by rw [Int32.toInt_toInt64]; omega) (by omega) hrg (Or.inl rfl) (by decide) (fun h => absurd h (by decide)) (fun k h => absurd h (Nat.not_lt_zero k)) m10 m11 m12 m13 m14 m15 m16 (by omega) (by omega)) (cwV 5 hts (goodIn_app (goodIn_r _ [19, 20, 21, 9] rfl (by decide +kernel)) (goodIn_ca (goodIn_r _ [2, 1, 3, 4, 5, 6, 7, 8, 9, 10, 11, 12, 13, 2, 14, 15, 16, 17, 18, 19, 20, 21] rfl (by decide +kernel)) (bs2_in _ _))) rfl rfl rfl (by decide +kernel) ⟨(Nat.le_of_ble_eq_true rfl), (Nat.le_of_ble_eq_true rfl)⟩) ⟨fun a U g mk q => by obtain ⟨q0, q1, qK, qE⟩ := q; exact ⟨q0, q1, va_K.moved (u := U) (U := U.calling g mk a) (Vm.Alike.refl U.vm) qK, EVC.blind g mk a qE⟩, gH_recv hK hT hr_o0 shc_8 rfl, fun U hU hW => ⟨rfl, hU, va_K.moved hW.alike hK, hE.call hS hFc hU hW⟩⟩ rfl rfl hl.1 rfl (lv_room (Nat.le_of_ble_eq_true rfl)) dX5_findOrder_12 ⟨(Nat.le_of_ble_eq_true rfl), (Nat.le_of_ble_eq_true rfl)⟩) hS (fun q _ h => hFc q h) hFc (fun u t H locs ht hvm hw18 hB _ _ hS => ?_)
  obtain ⟨u19, u20, u21⟩ := u
  obtain ⟨hT, hF1, m22, m23, m24, m25⟩ := hB
  rw [ht] at hT hF1 m22 m23 m24 m25
  have m26 := (hF1.fld hr_o0 skc_8 (k := 15) (by decide) (by decide)).trans m2
  have m27 := (hF1.fld hr_o0 skc_8 (k := 5) (by decide) (by decide)).trans m3
  have m28 := (hF1.fld hr_o0 skc_8 (k := 6) (by decide) (by decide)).trans m4
  have m29 := (hF1.fld hr_o0 skc_8 (k := 7) (by decide) (by decide)).trans m5
  have m30 := (hF1.fld hr_o0 skc_8 (k := 8) (by decide) (by decide)).trans m6
  have m31 := (hF1.fld hr_o0 skc_8 (k := 9) (by decide) (by decide)).trans m7
  have m32 := (hF1.fld hr_o0 skc_8 (k := 10) (by decide) (by decide)).trans m8
  have m33 := (hF1.fld hr_o0 skc_8 (k := 11) (by decide) (by decide)).trans m9
  have m34 := m10.kept (hF1.arr hr_xcs skc_63 (by decide))
  have m35 := m11.kept (hF1.arr hr_xls skc_64 (by decide))
  have m36 := m12.kept (hF1.arr hr_xin skc_65 (by decide))
  have m37 := m13.kept (hF1.arr hr_xac skc_66 (by decide))
  have hF := hF.more hF1 (by decide)
  try dsimp only at hw18
  have hf42 := hw18
  exact W.vret hx hb hr (fun t ht hW => ⟨⟨(u19, u21), rfl, (by exact (by (try dsimp only); have q9 := hf42; rw [orS_c (n := jb.toInt) (coin := p0.toInt) (by omega) hP (Int32.toInt_toInt64 _) (by decide) (by decide) (by decide)] at q9; exact ⟨q9.1, fun h k hk => q9.2.1 h k (by omega)⟩)), by (try dsimp only); rw [ht]; exact ⟨hT, hF, m22, m23, m25⟩⟩, hS.F ht⟩) hS.2.2 dX5_findOrder_15
def w_c_orderC : List Cond := .code yX11_order cX11_order 3 (some .int) :: (HAppend.hAppend (α := List Cond) (β := List Cond) (γ := List Cond) [.constant RX11 411 1000000, .code yX11_within cX11_within 3 (some .boolean), .methodLink RX11 58 yX11_within, .static yX11_within, .initialized RX11, .code yX11_needNumbers cX11_needNumbers 1 none, .classLink RX11 547 "java/lang/IllegalArgumentException", .initialized "java/lang/IllegalArgumentException", .methodLink RX11 62 yX11_needNumbers, .static yX11_needNumbers, .fieldLink RX11 43 "SeaLand" "plans" "LSeaLand$Plans;", .code yX5_findOrder cX5_findOrder 2 none, .fieldLink RX5 157 "SeaLand$Plans" "bestLate" "I", .code yX5_tryOrders cX5_tryOrders 11 none, .fieldLink RX5 154 "SeaLand$Plans" "jobs" "I", .fieldLink RX5 41 "SeaLand$Plans" "placed" "[Z", .fieldLink RX5 29 "SeaLand$Plans" "costs" "[I", .code yX5_yearWithCost cX5_yearWithCost 5 (some .int), .methodLink RX5 164 yX5_yearWithCost, .static yX5_yearWithCost, .initialized RX5, .fieldLink RX5 32 "SeaLand$Plans" "lasts" "[I", .fieldLink RX5 45 "SeaLand$Plans" "trial" "[I", .fieldLink RX5 35 "SeaLand$Plans" "incomes" "[I", .fieldLink RX5 38 "SeaLand$Plans" "acres" "[I", .fieldLink RX5 48 "SeaLand$Plans" "best" "[I", .methodLink RX5 100 arraycopyName, .native arraycopyName, .static arraycopyName, .initialized "java/lang/System", .methodLink RX5 160 yX5_tryOrders, .instanceMethod yX5_tryOrders, .selects RX5 yX5_tryOrders yX5_tryOrders, .methodLink RX11 484 yX5_findOrder, .instanceMethod yX5_findOrder, .selects RX5 yX5_findOrder yX5_findOrder] bs2)
set_option maxHeartbeats 4000000 in
set_option maxRecDepth 100000 in
theorem c_orderC (l : Launch) (hlt : l.stackTraces = false) (dC : Nat → ClassId) (dI : Nat → Nat → Nat) (kA : Nat → ClassId) (adK adV : Nat → Nat) (G : gT) (H0 : Heap) (nC nS : Int) (o0 : Nat) (p0 : Int32) (p1 : Int32) (pl : Nat) (jb : Int32) (xcs : Nat) (xls : Nat) (xin : Nat) (xac : Nat) (xpd : Nat) (xtr : Nat) (xbe : Nat) (aC : Nat → Int32) (aY : Nat → Int32) (aB : Nat → Int32) (aA : Nat → Int32) (vP : Nat → Int32) (vR : Nat → Int32) (vZ : Nat → Int32)  (hT : gH (dC, dI) kA (SHc nC nS) G H0) (hr_o0 : G o0 = some 14) (hm_pl : el H0 o0 (dI 14 5) = some (.ref pl)) (hr_pl : G pl = some 8) (hm_jb : el H0 pl (dI 8 15) = some (.int jb)) (hm_xcs : el H0 pl (dI 8 5) = some (.ref xcs)) (hr_xcs : G xcs = some 63) (hm_xls : el H0 pl (dI 8 6) = some (.ref xls)) (hr_xls : G xls = some 64) (hm_xin : el H0 pl (dI 8 7) = some (.ref xin)) (hr_xin : G xin = some 65) (hm_xac : el H0 pl (dI 8 8) = some (.ref xac)) (hr_xac : G xac = some 66) (hm_xpd : el H0 pl (dI 8 9) = some (.ref xpd)) (hr_xpd : G xpd = some 67) (hm_xtr : el H0 pl (dI 8 10) = some (.ref xtr)) (hr_xtr : G xtr = some 68) (hm_xbe : el H0 pl (dI 8 11) = some (.ref xbe)) (hr_xbe : G xbe = some 69) (hq0 : 0 ≤ jb.toInt ∧ jb.toInt ≤ 7) (hrg : joR jb.toInt aC aY aB aA) (hP : vP = fun _ => 0) (hc_aC : ct H0 xcs 7 aC) (hc_aY : ct H0 xls 7 aY) (hc_aB : ct H0 xin 7 aB) (hc_aA : ct H0 xac 7 aA) (hc_vP : ct H0 xpd 7 vP) (hc_vR : ct H0 xtr 7 vR) (hc_vZ : ct H0 xbe 7 vZ) (hgC : 0 ≤ nC ∧ nC ≤ 40) (hgS : 0 ≤ nS ∧ nS ≤ 60) : vx_Met l yX11_order w_c_orderC ({ frames := 11, cells := 1, slots := 6, locals := 321 }) (va_Pc [.ref o0, .int p0, .int p1] (fun U => U.heap = H0 ∧ va_K (dC, dI) vwCl (tyl kA) U ∧ EVC adK adV (gA G H0.size) U U.heap)) (va_Qi (fun (r : Int32) (u : Unit) => (orC p0.toInt = 0) ∧ (r.toInt = orV jb.toInt aC aY aB aA p0.toInt p1.toInt)) (fun (_ : Unit) (t : State) => gH (dC, dI) kA (SHc nC nS) G t.heap ∧ gF (dC, dI) SKc G ([(8, 16), (67, 0), (68, 0), (69, 0)] : List (Nat × Nat)) H0 t.heap ∧ ct t.heap xpd 7 vP) (gA G H0.size)) (vx_X (fun _ : Unit => True) (fun E _ t => (E = "java/lang/IllegalArgumentException") ∧ ((E = "java/lang/IllegalArgumentException" ∧ orC p0.toInt = 1)) ∧ gH (dC, dI) kA (SHc nC nS) G t.heap ∧ gF (dC, dI) SKc G ([(8, 16), (67, 0), (68, 0), (69, 0)] : List (Nat × Nat)) H0 t.heap ∧ ct t.heap xpd 7 vP) (gA G H0.size)) 1 6 (gA G H0.size) := by
  refine vx_ofW (cc := cX11_order) (maxL := 3) (ret := (some .int)) (by decide) rfl ?_
  intro p e s m args below meth c s₁ B hml hnt hv
  obtain ⟨rfl, hH0, hK, hE⟩ := hv
  have hx := B.exec
  have hb := B.bytes
  have hr := B.returns
  have hts := atoms_spec (ws := w_c_orderC) B.pre
  have hown : s.vm.findClass RX11 = some m.cls := findClass_of_methodNamed B.named
  have hlocks := B.notSynchronized
  subst hH0
  generalize hAe : gA G s.heap.size = A at hE ⊢
  have hA : ∀ q : Nat, s.heap.size ≤ q → A q := fun q h => by rw [← hAe]; exact Or.inr h
  have hG := gA_of hAe
  have hS : va_S A s.heap s.heap [] := va_S.rf
  have hF : gF (dC, dI) SKc G ([(8, 16), (67, 0), (68, 0), (69, 0)] : List (Nat × Nat)) s.heap s.heap := gF.rf
  have hl := lv_entry ([.ref o0, .int p0, .int p1]) (n := 3) (Nat.le_of_ble_eq_true rfl)
  rw [lg_entry_eq]
  generalize (lg_sl ([.ref o0, .int p0, .int p1]) ++ List.replicate (3 - (lg_sl ([.ref o0, .int p0, .int p1])).length) Slot.unset).toArray = ls at hl ⊢
  have hl : lv_has ls 3 [(0, .ref o0), (1, .int p0), (2, .int p1)] := hl
  refine lv_iload_n hx hb dX11_order_0 rfl (lv_at hl 1 rfl) ?_
  refine lv_iconst (v := 0) hx hb dX11_order_1 (by decide) ?_
  refine lv_ldcw (v := 1000000) hx hb hown (ht_at2 hts 0 rfl) dX11_order_2 ?_
  have hFc := gA_free hG hA hS
  refine va_calli (va_runS (As := [.int p0, .int 0, .int 1000000]) (rest := []) ⟨hx, hb, hml, hown, hts⟩ (c_within l dC dI kA adK adV G s.heap nC nS p0 0 1000000 hT (by omega) (by omega)) (va_cwS 3 hts (goodIn_app (goodIn_r _ [3, 4, 5] rfl (by decide +kernel)) (goodIn_ca (goodIn_r _ [2] rfl (by decide +kernel)) (bs2_in _ _))) rfl rfl rfl (by decide +kernel) ⟨(Nat.le_of_ble_eq_true rfl), (Nat.le_of_ble_eq_true rfl)⟩) ⟨fun a U g mk q => by obtain ⟨q0, q1, qK, qE⟩ := q; exact ⟨q0, q1, va_K.moved (u := U) (U := U.calling g mk a) (Vm.Alike.refl U.vm) qK, EVC.blind g mk a qE⟩, fun U hU hW => ⟨rfl, hU, va_K.moved hW.alike hK, hE.call hS hFc hU hW⟩⟩ rfl rfl hl.1 rfl (lv_room (Nat.le_of_ble_eq_true rfl)) dX11_order_5 ⟨(Nat.le_of_ble_eq_true rfl), (Nat.le_of_ble_eq_true rfl)⟩) hS (fun q _ h => hFc q h) hFc (fun r1 u t H locs ht hvm hw2 hB _ _ hS => ?_)
  obtain ⟨hT, hF1⟩ := hB
  rw [ht] at hT hF1
  have m3 := (hF1.fld hr_o0 skc_14 (k := 5) (by decide) (by decide)).trans hm_pl
  have m4 := (hF1.fld hr_pl skc_8 (k := 15) (by decide) (by decide)).trans hm_jb
  have m5 := (hF1.fld hr_pl skc_8 (k := 5) (by decide) (by decide)).trans hm_xcs
  have m6 := (hF1.fld hr_pl skc_8 (k := 6) (by decide) (by decide)).trans hm_xls
  have m7 := (hF1.fld hr_pl skc_8 (k := 7) (by decide) (by decide)).trans hm_xin
  have m8 := (hF1.fld hr_pl skc_8 (k := 8) (by decide) (by decide)).trans hm_xac
  have m9 := (hF1.fld hr_pl skc_8 (k := 9) (by decide) (by decide)).trans hm_xpd
  have m10 := (hF1.fld hr_pl skc_8 (k := 10) (by decide) (by decide)).trans hm_xtr
  have m11 := (hF1.fld hr_pl skc_8 (k := 11) (by decide) (by decide)).trans hm_xbe
  have m12 := hc_aC.kept (hF1.arr hr_xcs skc_63 (by decide))
  have m13 := hc_aY.kept (hF1.arr hr_xls skc_64 (by decide))
  have m14 := hc_aB.kept (hF1.arr hr_xin skc_65 (by decide))
  have m15 := hc_aA.kept (hF1.arr hr_xac skc_66 (by decide))
  have m16 := hc_vP.kept (hF1.arr hr_xpd skc_67 (by decide))
  have m17 := hc_vR.kept (hF1.arr hr_xtr skc_68 (by decide))
  have m18 := hc_vZ.kept (hF1.arr hr_xbe skc_69 (by decide))
  have hF := hF.more hF1 (by decide)
  try dsimp only at hw2
  obtain ⟨h19, hi20, hi21⟩ := hw2
  have hb22 : r1 = 0 ∨ r1 = 1 := bit_of ⟨by omega, by omega⟩
  rcases hb22 with rfl | rfl
  · have t23 : (0 : Int32).toInt = 0 := by decide
    have t24 : (1000000 : Int32).toInt = 1000000 := by decide
    have t25 : p0.toInt < (0 : Int32).toInt ∨ (1000000 : Int32).toInt < p0.toInt := hi21 rfl
    have hFc := gA_free hG hA hS
    refine vx_callN (vx_runS (As := [.int 0]) (rest := []) ⟨hx, hb, hml, hown, hts⟩ (c_needNumbers0 l hlt dC dI kA adK adV G H nC nS hT (by omega) (by omega)) (va_cwS 1 hts (goodIn_app (goodIn_r _ [9, 10, 5] rfl (by decide +kernel)) (goodIn_ca (goodIn_r _ [6, 7, 8] rfl (by decide +kernel)) (bs2_in _ _))) rfl rfl rfl (by decide +kernel) ⟨(Nat.le_of_ble_eq_true rfl), (Nat.le_of_ble_eq_true rfl)⟩) ⟨fun a U g mk q => by obtain ⟨q0, q1, qK, qE⟩ := q; exact ⟨q0, q1, va_K.moved (u := U) (U := U.calling g mk a) (Vm.Alike.refl U.vm) qK, EVC.blind g mk a qE⟩, fun U hU hW => ⟨rfl, hU, va_K.moved hW.alike hK, hE.call hS hFc hU hW⟩⟩ rfl rfl hl.1 rfl (lv_room (Nat.le_of_ble_eq_true rfl)) dX11_order_8 ⟨(Nat.le_of_ble_eq_true rfl), (Nat.le_of_ble_eq_true rfl)⟩) hS hFc (fun q _ h => hFc q h) (fun E ce q9 u t H locs ht hvm _ hw27 _ _ hS hce hcv hcl => ?_)
    obtain ⟨hw27, hTx, hFx⟩ := hw27; rw [ht] at hTx hFx
    exact vx_out (fun x h => (hnt x h).elim) hlocks hce hcv hcl (fun t2 h2 hW => ⟨(), trivial, ⟨((fun h9 => h9) hw27), (⟨hw27, (by have := orC_s p0.toInt; first | omega | exact hxf.elim)⟩), by rw [h2]; exact hTx, by rw [h2]; exact hF.more hFx (by decide), by rw [h2]; exact m16.kept (hFx.arr hr_xpd skc_67 (by decide))⟩, hS.F h2⟩) hS.2.2 (by decide) (by decide)
  · have t28 : (0 : Int32).toInt = 0 := by decide
    have t29 : (1000000 : Int32).toInt = 1000000 := by decide
    have t30 : (0 : Int32).toInt ≤ p0.toInt ∧ p0.toInt ≤ (1000000 : Int32).toInt := hi20 rfl
    have hFc := gA_free hG hA hS
    refine vx_callv (vx_runS (As := [.int 1]) (rest := []) ⟨hx, hb, hml, hown, hts⟩ (c_needNumbers1X l hlt dC dI kA adK adV G H nC nS hT (by omega) (by omega)) (va_cwS 1 hts (goodIn_app (goodIn_r _ [9, 10, 5] rfl (by decide +kernel)) (goodIn_ca (goodIn_r _ [6] rfl (by decide +kernel)) (bs2_in _ _))) rfl rfl rfl (by decide +kernel) ⟨(Nat.le_of_ble_eq_true rfl), (Nat.le_of_ble_eq_true rfl)⟩) ⟨fun a U g mk q => by obtain ⟨q0, q1, qK, qE⟩ := q; exact ⟨q0, q1, va_K.moved (u := U) (U := U.calling g mk a) (Vm.Alike.refl U.vm) qK, EVC.blind g mk a qE⟩, fun U hU hW => ⟨rfl, hU, va_K.moved hW.alike hK, hE.call hS hFc hU hW⟩⟩ rfl rfl hl.1 rfl (lv_room (Nat.le_of_ble_eq_true rfl)) dX11_order_8 ⟨(Nat.le_of_ble_eq_true rfl), (Nat.le_of_ble_eq_true rfl)⟩) hS (fun q _ h => hFc q h) hFc (fun q _ h => hFc q h) (fun E ce q9 u t H locs ht hvm _ hw32 _ _ hS hce hcv hcl => ?_) (fun u t H locs ht hvm hw32 hB _ _ hS => ?_)
    · obtain ⟨hw32, hxf, hTx, hFx⟩ := hw32; rw [ht] at hTx hFx
      exact vx_out (fun x h => (hnt x h).elim) hlocks hce hcv hcl (fun t2 h2 hW => ⟨(), trivial, ⟨((fun h9 => h9) hw32), (⟨hw32, (by have := orC_s p0.toInt; first | omega | exact hxf.elim)⟩), by rw [h2]; exact hTx, by rw [h2]; exact hF.more hFx (by decide), by rw [h2]; exact m16.kept (hFx.arr hr_xpd skc_67 (by decide))⟩, hS.F h2⟩) hS.2.2 (by decide) (by decide)
    · obtain ⟨hT, hF1⟩ := hB
      rw [ht] at hT hF1
      have m33 := (hF1.fld hr_o0 skc_14 (k := 5) (by decide) (by decide)).trans m3
      have m34 := (hF1.fld hr_pl skc_8 (k := 15) (by decide) (by decide)).trans m4
      have m35 := (hF1.fld hr_pl skc_8 (k := 5) (by decide) (by decide)).trans m5
      have m36 := (hF1.fld hr_pl skc_8 (k := 6) (by decide) (by decide)).trans m6
      have m37 := (hF1.fld hr_pl skc_8 (k := 7) (by decide) (by decide)).trans m7
      have m38 := (hF1.fld hr_pl skc_8 (k := 8) (by decide) (by decide)).trans m8
      have m39 := (hF1.fld hr_pl skc_8 (k := 9) (by decide) (by decide)).trans m9
      have m40 := (hF1.fld hr_pl skc_8 (k := 10) (by decide) (by decide)).trans m10
      have m41 := (hF1.fld hr_pl skc_8 (k := 11) (by decide) (by decide)).trans m11
      have m42 := m12.kept (hF1.arr hr_xcs skc_63 (by decide))
      have m43 := m13.kept (hF1.arr hr_xls skc_64 (by decide))
      have m44 := m14.kept (hF1.arr hr_xin skc_65 (by decide))
      have m45 := m15.kept (hF1.arr hr_xac skc_66 (by decide))
      have m46 := m16.kept (hF1.arr hr_xpd skc_67 (by decide))
      have m47 := m17.kept (hF1.arr hr_xtr skc_68 (by decide))
      have m48 := m18.kept (hF1.arr hr_xbe skc_69 (by decide))
      have hF := hF.more hF1 (by decide)
      try dsimp only at hw32
      refine lv_aload_n hx hb dX11_order_11 rfl (lv_at hl 0 rfl) ?_
      refine tw_getM (v := .ref pl) hx hb hts bF2_X11 hown hK hT hr_o0 shc_14 rfl 5 (by decide) (ht_at2 hts 10 rfl) (fun _ h9 => h9) m33 dX11_order_12 ?_
      refine lv_iload_n hx hb dX11_order_15 rfl (lv_at hl 1 rfl) ?_
      have hFc := gA_free hG hA hS
      refine va_callv (va_runV (As := [.int p0]) (rest := []) ⟨hx, hb, hml, hown, hts⟩ (c_findOrderC l dC dI kA adK adV G H nC nS pl p0 jb xcs xls xin xac xpd xtr xbe aC aY aB aA vP vR vZ hT hr_pl m34 m35 hr_xcs m36 hr_xls m37 hr_xin m38 hr_xac m39 hr_xpd m40 hr_xtr m41 hr_xbe (by have q8 := ti_all jb; omega) (by have q8 := ti_all p0; omega) hrg hP m42 m43 m44 m45 m46 m47 m48 (by omega) (by omega)) (cwV 1 hts (goodIn_app (goodIn_r _ [34, 35, 36, 21] rfl (by decide +kernel)) (goodIn_ca (goodIn_r _ [12, 13, 14, 15, 16, 17, 18, 19, 20, 21, 22, 23, 24, 25, 26, 27, 28, 29, 30, 31, 32, 33] rfl (by decide +kernel)) (bs2_in _ _))) rfl rfl rfl (by decide +kernel) ⟨(Nat.le_of_ble_eq_true rfl), (Nat.le_of_ble_eq_true rfl)⟩) ⟨fun a U g mk q => by obtain ⟨q0, q1, qK, qE⟩ := q; exact ⟨q0, q1, va_K.moved (u := U) (U := U.calling g mk a) (Vm.Alike.refl U.vm) qK, EVC.blind g mk a qE⟩, gH_recv hK hT hr_pl shc_8 rfl, fun U hU hW => ⟨rfl, hU, va_K.moved hW.alike hK, hE.call hS hFc hU hW⟩⟩ rfl rfl hl.1 rfl (lv_room (Nat.le_of_ble_eq_true rfl)) dX11_order_16 ⟨(Nat.le_of_ble_eq_true rfl), (Nat.le_of_ble_eq_true rfl)⟩) hS (fun q _ h => hFc q h) hFc (fun u t H locs ht hvm hw50 hB _ _ hS => ?_)
      obtain ⟨u51, u52⟩ := u
      obtain ⟨hT, hF1, m53, m54, m55⟩ := hB
      rw [ht] at hT hF1 m53 m54 m55
      have m56 := (hF1.fld hr_o0 skc_14 (k := 5) (by decide) (by decide)).trans m33
      have m57 := (hF1.fld hr_pl skc_8 (k := 15) (by decide) (by decide)).trans m34
      have m58 := (hF1.fld hr_pl skc_8 (k := 5) (by decide) (by decide)).trans m35
      have m59 := (hF1.fld hr_pl skc_8 (k := 6) (by decide) (by decide)).trans m36
      have m60 := (hF1.fld hr_pl skc_8 (k := 7) (by decide) (by decide)).trans m37
      have m61 := (hF1.fld hr_pl skc_8 (k := 8) (by decide) (by decide)).trans m38
      have m62 := (hF1.fld hr_pl skc_8 (k := 9) (by decide) (by decide)).trans m39
      have m63 := (hF1.fld hr_pl skc_8 (k := 10) (by decide) (by decide)).trans m40
      have m64 := (hF1.fld hr_pl skc_8 (k := 11) (by decide) (by decide)).trans m41
      have m65 := m42.kept (hF1.arr hr_xcs skc_63 (by decide))
      have m66 := m43.kept (hF1.arr hr_xls skc_64 (by decide))
      have m67 := m44.kept (hF1.arr hr_xin skc_65 (by decide))
      have m68 := m45.kept (hF1.arr hr_xac skc_66 (by decide))
      have hF := hF.more hF1 (by decide)
      try dsimp only at hw50
      have hf72 := hw50
      refine lv_iload_n hx hb dX11_order_19 rfl (lv_at hl 2 rfl) ?_
      refine lv_iconst (v := (-1)) hx hb dX11_order_20 (by decide) ?_
      have t73 : -2147483648 ≤ p1.toInt ∧ p1.toInt ≤ 2147483647 := ti_all p1
      refine lv_icmp_ne (tgt := 32) hx hb dX11_order_21 (by decide) (fun c74 => ?_) (fun c74 => ?_)
      · have t75 : p1.toInt ≠ (-1) := ti_ne c74 rfl (by decide)
        refine lv_aload_n hx hb dX11_order_32 rfl (lv_at hl 0 rfl) ?_
        refine tw_getM (v := .ref pl) hx hb hts bF2_X11 hown hK hT hr_o0 shc_14 rfl 5 (by decide) (ht_at2 hts 10 rfl) (fun _ h9 => h9) m56 dX11_order_33 ?_
        refine tw_getNM (v := .int u51) hx hb hts bF2_X5 hown hK hT hr_pl shc_8 rfl 16 (by decide) (hE.nw 48 rfl) (fun _ h9 => h9) m53 dX11_order_36 ?_
        refine lv_iconst (v := (-1)) hx hb dX11_order_39 (by decide) ?_
        have t76 : -2147483648 ≤ u51.toInt ∧ u51.toInt ≤ 2147483647 := ti_all u51
        refine lv_icmp_eq (tgt := 72) hx hb dX11_order_40 (by decide) (fun c77 => ?_) (fun c77 => ?_)
        · have t78 : u51.toInt = (-1) := ti_eq c77 rfl (by decide)
          refine lv_iconst (v := (-1)) hx hb dX11_order_72 (by decide) ?_
          refine W.widen (k := 1) (n := 6) (by decide) (by decide) ?_
          exact vx_ret (W.iret (v := (-1)) hx hb hr (fun t ht hW => ⟨⟨(-1), (), rfl, (by exact ⟨(by have := orC_s p0.toInt; omega), (by (try dsimp only); have q0 : (0 : Int32).toInt = 0 := (by decide); have q1 : (1 : Int32).toInt = 1 := (by decide); have qm : (-1 : Int32).toInt = -1 := (by decide); obtain ⟨y1, y2⟩ := hf72; have y3 := orS_ok (coin := p0.toInt) (by omega) hrg; first | (rw [orV_c (by omega) (by omega)]; decide) | (rw [orV_a (by omega)]; omega))⟩), by (try dsimp only); rw [ht]; exact ⟨hT, hF, m54⟩⟩, hS.F ht⟩) hS.2.2 dX11_order_73)
        · have t79 : u51.toInt ≠ (-1) := ti_ne c77 rfl (by decide)
          refine lv_iload_n hx hb dX11_order_43 rfl (lv_at hl 2 rfl) ?_
          refine lv_iconst (v := 0) hx hb dX11_order_44 (by decide) ?_
          refine lv_aload_n hx hb dX11_order_45 rfl (lv_at hl 0 rfl) ?_
          refine tw_getM (v := .ref pl) hx hb hts bF2_X11 hown hK hT hr_o0 shc_14 rfl 5 (by decide) (ht_at2 hts 10 rfl) (fun _ h9 => h9) m56 dX11_order_46 ?_
          refine tw_getNM (v := .int jb) hx hb hts bF2_X5 hown hK hT hr_pl shc_8 rfl 15 (by decide) (hE.nw 47 rfl) (fun _ h9 => h9) m57 dX11_order_49 ?_
          refine lv_iconst (v := 1) hx hb dX11_order_52 (by decide) ?_
          refine lv_isub hx hb dX11_order_53 ?_
          refine lv_topi (fun x80 ex80 => ?_)
          have t81 : x80.toInt = jb.toInt - 1 := ti_sub ex80 rfl (by decide) (by omega) (by omega)
          have hFc := gA_free hG hA hS
          refine va_calli (va_runS (As := [.int p1, .int 0, .int x80]) (rest := []) ⟨hx, hb, hml, hown, hts⟩ (c_within l dC dI kA adK adV G H nC nS p1 0 x80 hT (by omega) (by omega)) (va_cwS 3 hts (goodIn_app (goodIn_r _ [3, 4, 5] rfl (by decide +kernel)) (goodIn_ca (goodIn_r _ [2] rfl (by decide +kernel)) (bs2_in _ _))) rfl rfl rfl (by decide +kernel) ⟨(Nat.le_of_ble_eq_true rfl), (Nat.le_of_ble_eq_true rfl)⟩) ⟨fun a U g mk q => by obtain ⟨q0, q1, qK, qE⟩ := q; exact ⟨q0, q1, va_K.moved (u := U) (U := U.calling g mk a) (Vm.Alike.refl U.vm) qK, EVC.blind g mk a qE⟩, fun U hU hW => ⟨rfl, hU, va_K.moved hW.alike hK, hE.call hS hFc hU hW⟩⟩ rfl rfl hl.1 rfl (lv_room (Nat.le_of_ble_eq_true rfl)) dX11_order_54 ⟨(Nat.le_of_ble_eq_true rfl), (Nat.le_of_ble_eq_true rfl)⟩) hS (fun q _ h => hFc q h) hFc (fun r82 u t H locs ht hvm hw83 hB _ _ hS => ?_)
          obtain ⟨hT, hF1⟩ := hB
          rw [ht] at hT hF1
          have m84 := (hF1.fld hr_o0 skc_14 (k := 5) (by decide) (by decide)).trans m56
          have m85 := (hF1.fld hr_pl skc_8 (k := 15) (by decide) (by decide)).trans m57
          have m86 := (hF1.fld hr_pl skc_8 (k := 5) (by decide) (by decide)).trans m58
          have m87 := (hF1.fld hr_pl skc_8 (k := 6) (by decide) (by decide)).trans m59
          have m88 := (hF1.fld hr_pl skc_8 (k := 7) (by decide) (by decide)).trans m60
          have m89 := (hF1.fld hr_pl skc_8 (k := 8) (by decide) (by decide)).trans m61
          have m90 := (hF1.fld hr_pl skc_8 (k := 9) (by decide) (by decide)).trans m62
          have m91 := (hF1.fld hr_pl skc_8 (k := 10) (by decide) (by decide)).trans m63
          have m92 := (hF1.fld hr_pl skc_8 (k := 11) (by decide) (by decide)).trans m64
          have m93 := m65.kept (hF1.arr hr_xcs skc_63 (by decide))
          have m94 := m66.kept (hF1.arr hr_xls skc_64 (by decide))
          have m95 := m67.kept (hF1.arr hr_xin skc_65 (by decide))
          have m96 := m68.kept (hF1.arr hr_xac skc_66 (by decide))
          have m97 := (hF1.fld hr_pl skc_8 (k := 16) (by decide) (by decide)).trans m53
          have m98 := m54.kept (hF1.arr hr_xpd skc_67 (by decide))
          have m99 := m55.kept (hF1.arr hr_xbe skc_69 (by decide))
          have hF := hF.more hF1 (by decide)
          try dsimp only at hw83
          obtain ⟨h100, hi101, hi102⟩ := hw83
          refine lv_if_eq (tgt := 72) hx hb dX11_order_57 (by decide) (fun c103 => ?_) (fun c103 => ?_)
          · have t104 : r82.toInt = 0 := ti_eq c103 rfl (by decide)
            have t105 : (0 : Int32).toInt = 0 := by decide
            have t106 : p1.toInt < (0 : Int32).toInt ∨ x80.toInt < p1.toInt := hi102 c103
            refine lv_iconst (v := (-1)) hx hb dX11_order_72 (by decide) ?_
            refine W.widen (k := 1) (n := 6) (by decide) (by decide) ?_
            exact vx_ret (W.iret (v := (-1)) hx hb hr (fun t ht hW => ⟨⟨(-1), (), rfl, (by exact ⟨(by have := orC_s p0.toInt; omega), (by (try dsimp only); have q0 : (0 : Int32).toInt = 0 := (by decide); have q1 : (1 : Int32).toInt = 1 := (by decide); have qm : (-1 : Int32).toInt = -1 := (by decide); obtain ⟨y1, y2⟩ := hf72; have y3 := orS_ok (coin := p0.toInt) (by omega) hrg; first | (rw [orV_c (by omega) (by omega)]; decide) | (rw [orV_a (by omega)]; omega))⟩), by (try dsimp only); rw [ht]; exact ⟨hT, hF, m98⟩⟩, hS.F ht⟩) hS.2.2 dX11_order_73)
          · have t107 : r82.toInt ≠ 0 := ti_ne c103 rfl (by decide)
            have t108 : (0 : Int32).toInt = 0 := by decide
            have t109 : (0 : Int32).toInt ≤ p1.toInt ∧ p1.toInt ≤ x80.toInt := hi101 ((bit_of ⟨by omega, by omega⟩).resolve_left c103)
            refine lv_aload_n hx hb dX11_order_60 rfl (lv_at hl 0 rfl) ?_
            refine tw_getM (v := .ref pl) hx hb hts bF2_X11 hown hK hT hr_o0 shc_14 rfl 5 (by decide) (ht_at2 hts 10 rfl) (fun _ h9 => h9) m84 dX11_order_61 ?_
            refine tw_getNM (v := .ref xbe) hx hb hts bF2_X5 hown hK hT hr_pl shc_8 rfl 11 (by decide) (hE.nw 49 rfl) (fun _ h9 => h9) m92 dX11_order_64 ?_
            refine lv_iload_n hx hb dX11_order_67 rfl (lv_at hl 2 rfl) ?_
            refine tw_iald (i := p1) hx hb hK hT hr_xbe shc_69 rfl (vin_t (a := p1.toInt) rfl (by omega) (by omega)) dX11_order_68 (fun v9 m110 h9 => ?_)
            obtain ⟨x111, rfl, gx111, kx111⟩ := h9
            have cx111 := m99.at m110 (by have q9 := tn_of (show p1.toInt = p1.toInt from rfl) (by omega); omega)
            refine lv_goto (tgt := 73) hx hb dX11_order_69 (by decide) ?_
            refine W.widen (k := 1) (n := 6) (by decide) (by decide) ?_
            exact vx_ret (W.iret (v := x111) hx hb hr (fun t ht hW => ⟨⟨x111, (), rfl, (by exact ⟨(by have := orC_s p0.toInt; omega), (by (try dsimp only); have q0 : (0 : Int32).toInt = 0 := (by decide); have q1 : (1 : Int32).toInt = 1 := (by decide); have qm : (-1 : Int32).toInt = -1 := (by decide); obtain ⟨y1, y2⟩ := hf72; have y3 := orS_ok (coin := p0.toInt) (by omega) hrg; rw [orV_b (by omega) ⟨by omega, by omega⟩]; have c9 := congrArg Int32.toInt cx111; have q7 := y2 (by omega) p1.toInt.toNat (by omega); have q6 : p1.toNatClampNeg = p1.toInt.toNat := rfl; rw [q6] at c9; exact c9.trans q7)⟩), by (try dsimp only); rw [ht]; exact ⟨hT, hF, m98⟩⟩, hS.F ht⟩) hS.2.2 dX11_order_73)
      · have t112 : p1.toInt = (-1) := ti_eq c74 rfl (by decide)
        refine lv_aload_n hx hb dX11_order_24 rfl (lv_at hl 0 rfl) ?_
        refine tw_getM (v := .ref pl) hx hb hts bF2_X11 hown hK hT hr_o0 shc_14 rfl 5 (by decide) (ht_at2 hts 10 rfl) (fun _ h9 => h9) m56 dX11_order_25 ?_
        refine tw_getNM (v := .int u51) hx hb hts bF2_X5 hown hK hT hr_pl shc_8 rfl 16 (by decide) (hE.nw 48 rfl) (fun _ h9 => h9) m53 dX11_order_28 ?_
        refine W.widen (k := 1) (n := 6) (by decide) (by decide) ?_
        exact vx_ret (W.iret (v := u51) hx hb hr (fun t ht hW => ⟨⟨u51, (), rfl, (by exact ⟨(by have := orC_s p0.toInt; omega), (by (try dsimp only); have q0 : (0 : Int32).toInt = 0 := (by decide); have q1 : (1 : Int32).toInt = 1 := (by decide); have qm : (-1 : Int32).toInt = -1 := (by decide); obtain ⟨y1, y2⟩ := hf72; have y3 := orS_ok (coin := p0.toInt) (by omega) hrg; first | (rw [orV_a (by omega)]; exact y1))⟩), by (try dsimp only); rw [ht]; exact ⟨hT, hF, m54⟩⟩, hS.F ht⟩) hS.2.2 dX11_order_31)
def w_c_addJobC : List Cond := .code yX5_addJob cX5_addJob 5 (some .int) :: (HAppend.hAppend (α := List Cond) (β := List Cond) (γ := List Cond) [.fieldLink RX5 29 "SeaLand$Plans" "costs" "[I", .fieldLink RX5 154 "SeaLand$Plans" "jobs" "I", .fieldLink RX5 32 "SeaLand$Plans" "lasts" "[I", .fieldLink RX5 35 "SeaLand$Plans" "incomes" "[I", .fieldLink RX5 38 "SeaLand$Plans" "acres" "[I"] bs2)
set_option maxHeartbeats 4000000 in
set_option maxRecDepth 100000 in
theorem c_addJobC (l : Launch) (dC : Nat → ClassId) (dI : Nat → Nat → Nat) (kA : Nat → ClassId) (adK adV : Nat → Nat) (G : gT) (H0 : Heap) (nC nS : Int) (o0 : Nat) (p0 : Int32) (p1 : Int32) (p2 : Int32) (p3 : Int32) (jb : Int32) (xcs : Nat) (xls : Nat) (xin : Nat) (xac : Nat) (aC : Nat → Int32) (aY : Nat → Int32) (aB : Nat → Int32) (aA : Nat → Int32)  (hT : gH (dC, dI) kA (SHc nC nS) G H0) (hr_o0 : G o0 = some 8) (hm_jb : el H0 o0 (dI 8 15) = some (.int jb)) (hm_xcs : el H0 o0 (dI 8 5) = some (.ref xcs)) (hr_xcs : G xcs = some 63) (hm_xls : el H0 o0 (dI 8 6) = some (.ref xls)) (hr_xls : G xls = some 64) (hm_xin : el H0 o0 (dI 8 7) = some (.ref xin)) (hr_xin : G xin = some 65) (hm_xac : el H0 o0 (dI 8 8) = some (.ref xac)) (hr_xac : G xac = some 66) (hq0 : 0 ≤ jb.toInt ∧ jb.toInt ≤ 6) (hc_aC : ct H0 xcs 7 aC) (hc_aY : ct H0 xls 7 aY) (hc_aB : ct H0 xin 7 aB) (hc_aA : ct H0 xac 7 aA) (hgC : 0 ≤ nC ∧ nC ≤ 40) (hgS : 0 ≤ nS ∧ nS ≤ 60) : Met l yX5_addJob w_c_addJobC ({ frames := 0, cells := 0, slots := 0, locals := 0 }) (va_Pc [.ref o0, .int p0, .int p1, .int p2, .int p3] (fun U => U.heap = H0 ∧ va_K (dC, dI) vwCl (tyl kA) U ∧ EVC adK adV (gA G H0.size) U U.heap)) (va_Qi (fun (r : Int32) (u : Int32) => (1 ≤ r.toInt ∧ r.toInt ≤ 7) ∧ (r.toInt = jb.toInt + 1 ∧ u.toInt = jb.toInt + 1)) (fun (j1 : Int32) (t : State) => gH (dC, dI) kA (SHc nC nS) G t.heap ∧ gF (dC, dI) SKc G ([(8, 15), (63, 0), (64, 0), (65, 0), (66, 0)] : List (Nat × Nat)) H0 t.heap ∧ el t.heap o0 (dI 8 15) = some (.int j1) ∧ ct t.heap xcs 7 (cu aC jb.toNatClampNeg p0) ∧ ct t.heap xls 7 (cu aY jb.toNatClampNeg p1) ∧ ct t.heap xin 7 (cu aB jb.toNatClampNeg p2) ∧ ct t.heap xac 7 (cu aA jb.toNatClampNeg p3)) (gA G H0.size)) 0 0 (gA G H0.size) := by
  refine Met.ofW (cc := cX5_addJob) (maxL := 5) (ret := (some .int)) (by decide) rfl ?_
  intro p e s m args below meth c s₁ B hml hv
  obtain ⟨rfl, hH0, hK, hE⟩ := hv
  have hx := B.exec
  have hb := B.bytes
  have hr := B.returns
  have hts := atoms_spec (ws := w_c_addJobC) B.pre
  have hown : s.vm.findClass RX5 = some m.cls := findClass_of_methodNamed B.named
  have hlocks := B.notSynchronized
  subst hH0
  generalize hAe : gA G s.heap.size = A at hE ⊢
  have hA : ∀ q : Nat, s.heap.size ≤ q → A q := fun q h => by rw [← hAe]; exact Or.inr h
  have hG := gA_of hAe
  have hS : va_S A s.heap s.heap [] := va_S.rf
  have hF : gF (dC, dI) SKc G ([(8, 15), (63, 0), (64, 0), (65, 0), (66, 0)] : List (Nat × Nat)) s.heap s.heap := gF.rf
  have hl := lv_entry ([.ref o0, .int p0, .int p1, .int p2, .int p3]) (n := 5) (Nat.le_of_ble_eq_true rfl)
  rw [lg_entry_eq]
  generalize (lg_sl ([.ref o0, .int p0, .int p1, .int p2, .int p3]) ++ List.replicate (5 - (lg_sl ([.ref o0, .int p0, .int p1, .int p2, .int p3])).length) Slot.unset).toArray = ls at hl ⊢
  have hl : lv_has ls 5 [(0, .ref o0), (1, .int p0), (2, .int p1), (3, .int p2), (4, .int p3)] := hl
  refine lv_aload_n hx hb dX5_addJob_0 rfl (lv_at hl 0 rfl) ?_
  refine tw_getM (v := .ref xcs) hx hb hts bF2_X5 hown hK hT hr_o0 shc_8 rfl 5 (by decide) (ht_at2 hts 0 rfl) (fun _ h9 => h9) hm_xcs dX5_addJob_1 ?_
  refine lv_aload_n hx hb dX5_addJob_4 rfl (lv_at hl 0 rfl) ?_
  refine tw_getM (v := .int jb) hx hb hts bF2_X5 hown hK hT hr_o0 shc_8 rfl 15 (by decide) (ht_at2 hts 1 rfl) (fun _ h9 => h9) hm_jb dX5_addJob_5 ?_
  refine lv_iload_n hx hb dX5_addJob_8 rfl (lv_at hl 1 rfl) ?_
  refine tw_iast (i := jb) (x := p0) hx hb hK hT hG hS hr_xcs shc_63 rfl (vin_t (a := jb.toInt) rfl (by omega) (by omega)) (gi_all _) dX5_addJob_9 (fun H locs hT oq m1 oi hS => ?_)
  have hF := hF.ast hr_xcs skc_63 oq (by decide)
  have m2 := (el_kept (oq _ (gne hr_o0 hr_xcs (by decide)))).trans hm_jb
  have m3 := (el_kept (oq _ (gne hr_o0 hr_xcs (by decide)))).trans hm_xcs
  have m4 := (el_kept (oq _ (gne hr_o0 hr_xcs (by decide)))).trans hm_xls
  have m5 := (el_kept (oq _ (gne hr_o0 hr_xcs (by decide)))).trans hm_xin
  have m6 := (el_kept (oq _ (gne hr_o0 hr_xcs (by decide)))).trans hm_xac
  have m7 := hc_aC.put m1 oi
  have m8 := hc_aY.kept (oq _ (gne hr_xls hr_xcs (by decide)))
  have m9 := hc_aB.kept (oq _ (gne hr_xin hr_xcs (by decide)))
  have m10 := hc_aA.kept (oq _ (gne hr_xac hr_xcs (by decide)))
  refine lv_aload_n hx hb dX5_addJob_10 rfl (lv_at hl 0 rfl) ?_
  refine tw_getM (v := .ref xls) hx hb hts bF2_X5 hown hK hT hr_o0 shc_8 rfl 6 (by decide) (ht_at2 hts 2 rfl) (fun _ h9 => h9) m4 dX5_addJob_11 ?_
  refine lv_aload_n hx hb dX5_addJob_14 rfl (lv_at hl 0 rfl) ?_
  refine tw_getM (v := .int jb) hx hb hts bF2_X5 hown hK hT hr_o0 shc_8 rfl 15 (by decide) (ht_at2 hts 1 rfl) (fun _ h9 => h9) m2 dX5_addJob_15 ?_
  refine lv_iload_n hx hb dX5_addJob_18 rfl (lv_at hl 2 rfl) ?_
  refine tw_iast (i := jb) (x := p1) hx hb hK hT hG hS hr_xls shc_64 rfl (vin_t (a := jb.toInt) rfl (by omega) (by omega)) (gi_all _) dX5_addJob_19 (fun H locs hT oq m11 oi hS => ?_)
  have hF := hF.ast hr_xls skc_64 oq (by decide)
  have m12 := (el_kept (oq _ (gne hr_o0 hr_xls (by decide)))).trans m2
  have m13 := (el_kept (oq _ (gne hr_o0 hr_xls (by decide)))).trans m3
  have m14 := (el_kept (oq _ (gne hr_o0 hr_xls (by decide)))).trans m4
  have m15 := (el_kept (oq _ (gne hr_o0 hr_xls (by decide)))).trans m5
  have m16 := (el_kept (oq _ (gne hr_o0 hr_xls (by decide)))).trans m6
  have m17 := m7.kept (oq _ (gne hr_xcs hr_xls (by decide)))
  have m18 := m8.put m11 oi
  have m19 := m9.kept (oq _ (gne hr_xin hr_xls (by decide)))
  have m20 := m10.kept (oq _ (gne hr_xac hr_xls (by decide)))
  have m21 := (el_kept (oq _ (gne hr_xcs hr_xls (by decide)))).trans m1
  refine lv_aload_n hx hb dX5_addJob_20 rfl (lv_at hl 0 rfl) ?_
  refine tw_getM (v := .ref xin) hx hb hts bF2_X5 hown hK hT hr_o0 shc_8 rfl 7 (by decide) (ht_at2 hts 3 rfl) (fun _ h9 => h9) m15 dX5_addJob_21 ?_
  refine lv_aload_n hx hb dX5_addJob_24 rfl (lv_at hl 0 rfl) ?_
  refine tw_getM (v := .int jb) hx hb hts bF2_X5 hown hK hT hr_o0 shc_8 rfl 15 (by decide) (ht_at2 hts 1 rfl) (fun _ h9 => h9) m12 dX5_addJob_25 ?_
  refine lv_iload_n hx hb dX5_addJob_28 rfl (lv_at hl 3 rfl) ?_
  refine tw_iast (i := jb) (x := p2) hx hb hK hT hG hS hr_xin shc_65 rfl (vin_t (a := jb.toInt) rfl (by omega) (by omega)) (gi_all _) dX5_addJob_29 (fun H locs hT oq m22 oi hS => ?_)
  have hF := hF.ast hr_xin skc_65 oq (by decide)
  have m23 := (el_kept (oq _ (gne hr_o0 hr_xin (by decide)))).trans m12
  have m24 := (el_kept (oq _ (gne hr_o0 hr_xin (by decide)))).trans m13
  have m25 := (el_kept (oq _ (gne hr_o0 hr_xin (by decide)))).trans m14
  have m26 := (el_kept (oq _ (gne hr_o0 hr_xin (by decide)))).trans m15
  have m27 := (el_kept (oq _ (gne hr_o0 hr_xin (by decide)))).trans m16
  have m28 := m17.kept (oq _ (gne hr_xcs hr_xin (by decide)))
  have m29 := m18.kept (oq _ (gne hr_xls hr_xin (by decide)))
  have m30 := m19.put m22 oi
  have m31 := m20.kept (oq _ (gne hr_xac hr_xin (by decide)))
  have m32 := (el_kept (oq _ (gne hr_xcs hr_xin (by decide)))).trans m21
  have m33 := (el_kept (oq _ (gne hr_xls hr_xin (by decide)))).trans m11
  refine lv_aload_n hx hb dX5_addJob_30 rfl (lv_at hl 0 rfl) ?_
  refine tw_getM (v := .ref xac) hx hb hts bF2_X5 hown hK hT hr_o0 shc_8 rfl 8 (by decide) (ht_at2 hts 4 rfl) (fun _ h9 => h9) m27 dX5_addJob_31 ?_
  refine lv_aload_n hx hb dX5_addJob_34 rfl (lv_at hl 0 rfl) ?_
  refine tw_getM (v := .int jb) hx hb hts bF2_X5 hown hK hT hr_o0 shc_8 rfl 15 (by decide) (ht_at2 hts 1 rfl) (fun _ h9 => h9) m23 dX5_addJob_35 ?_
  refine lv_iload hx hb dX5_addJob_38 (lv_at hl 4 rfl) ?_
  refine tw_iast (i := jb) (x := p3) hx hb hK hT hG hS hr_xac shc_66 rfl (vin_t (a := jb.toInt) rfl (by omega) (by omega)) (gi_all _) dX5_addJob_40 (fun H locs hT oq m34 oi hS => ?_)
  have hF := hF.ast hr_xac skc_66 oq (by decide)
  have m35 := (el_kept (oq _ (gne hr_o0 hr_xac (by decide)))).trans m23
  have m36 := (el_kept (oq _ (gne hr_o0 hr_xac (by decide)))).trans m24
  have m37 := (el_kept (oq _ (gne hr_o0 hr_xac (by decide)))).trans m25
  have m38 := (el_kept (oq _ (gne hr_o0 hr_xac (by decide)))).trans m26
  have m39 := (el_kept (oq _ (gne hr_o0 hr_xac (by decide)))).trans m27
  have m40 := m28.kept (oq _ (gne hr_xcs hr_xac (by decide)))
  have m41 := m29.kept (oq _ (gne hr_xls hr_xac (by decide)))
  have m42 := m30.kept (oq _ (gne hr_xin hr_xac (by decide)))
  have m43 := m31.put m34 oi
  have m44 := (el_kept (oq _ (gne hr_xcs hr_xac (by decide)))).trans m32
  have m45 := (el_kept (oq _ (gne hr_xls hr_xac (by decide)))).trans m33
  have m46 := (el_kept (oq _ (gne hr_xin hr_xac (by decide)))).trans m22
  refine lv_aload_n hx hb dX5_addJob_41 rfl (lv_at hl 0 rfl) ?_
  refine lv_dup hx hb dX5_addJob_42 rfl ?_
  refine tw_getM (v := .int jb) hx hb hts bF2_X5 hown hK hT hr_o0 shc_8 rfl 15 (by decide) (ht_at2 hts 1 rfl) (fun _ h9 => h9) m35 dX5_addJob_43 ?_
  refine lv_iconst (v := 1) hx hb dX5_addJob_46 (by decide) ?_
  refine lv_iadd hx hb dX5_addJob_47 ?_
  refine lv_topi (fun x47 ex47 => ?_)
  have t48 : x47.toInt = jb.toInt + 1 := ti_add ex47 rfl (by decide) (by omega) (by omega)
  refine tw_put (v := .int x47) (ty := .int) hx hb hts bF2_X5 tyX5 tyX5_ok nmX5 hown hK hT hG hS hr_o0 shc_8 rfl 15 (by decide) (ht_at2 hts 1 rfl) (fun _ h9 => h9) rfl (by decide +kernel) rfl rfl (gl_at rfl (gi_of (show x47.toInt = x47.toInt from rfl) (by omega) (by omega))) dX5_addJob_48 (fun H locs hT oq m49 oj hS => ?_)
  have hF := hF.put hr_o0 skc_8 oq oj (by decide)
  have m50 := (oj 5 (by decide) (by decide)).trans m36
  have m51 := (oj 6 (by decide) (by decide)).trans m37
  have m52 := (oj 7 (by decide) (by decide)).trans m38
  have m53 := (oj 8 (by decide) (by decide)).trans m39
  have m54 := m40.kept (oq _ (gne hr_xcs hr_o0 (by decide)))
  have m55 := m41.kept (oq _ (gne hr_xls hr_o0 (by decide)))
  have m56 := m42.kept (oq _ (gne hr_xin hr_o0 (by decide)))
  have m57 := m43.kept (oq _ (gne hr_xac hr_o0 (by decide)))
  have m58 := (el_kept (oq _ (gne hr_xcs hr_o0 (by decide)))).trans m44
  have m59 := (el_kept (oq _ (gne hr_xls hr_o0 (by decide)))).trans m45
  have m60 := (el_kept (oq _ (gne hr_xin hr_o0 (by decide)))).trans m46
  have m61 := (el_kept (oq _ (gne hr_xac hr_o0 (by decide)))).trans m34
  refine lv_aload_n hx hb dX5_addJob_51 rfl (lv_at hl 0 rfl) ?_
  refine tw_getM (v := .int x47) hx hb hts bF2_X5 hown hK hT hr_o0 shc_8 rfl 15 (by decide) (ht_at2 hts 1 rfl) (fun _ h9 => h9) m49 dX5_addJob_52 ?_
  exact W.iret (v := x47) hx hb hr (fun t ht hW => ⟨⟨x47, x47, rfl, (by exact ⟨(by have q8 := ti_all x47; omega), (by omega)⟩), by (try dsimp only); rw [ht]; exact ⟨hT, hF, m49, m54, m55, m56, m57⟩⟩, hS.F ht⟩) hS.2.2 dX5_addJob_55
def w_c_jobC : List Cond := .code yX11_job cX11_job 5 (some .int) :: (HAppend.hAppend (α := List Cond) (β := List Cond) (γ := List Cond) [.constant RX11 411 1000000, .code yX11_within cX11_within 3 (some .boolean), .methodLink RX11 58 yX11_within, .static yX11_within, .initialized RX11, .code yX11_needNumbers cX11_needNumbers 1 none, .classLink RX11 547 "java/lang/IllegalArgumentException", .initialized "java/lang/IllegalArgumentException", .methodLink RX11 62 yX11_needNumbers, .static yX11_needNumbers, .constant RX11 96 100000, .fieldLink RX11 43 "SeaLand" "plans" "LSeaLand$Plans;", .code yX5_addJob cX5_addJob 5 (some .int), .fieldLink RX5 29 "SeaLand$Plans" "costs" "[I", .fieldLink RX5 154 "SeaLand$Plans" "jobs" "I", .fieldLink RX5 32 "SeaLand$Plans" "lasts" "[I", .fieldLink RX5 35 "SeaLand$Plans" "incomes" "[I", .fieldLink RX5 38 "SeaLand$Plans" "acres" "[I", .methodLink RX11 481 yX5_addJob, .instanceMethod yX5_addJob, .selects RX5 yX5_addJob yX5_addJob, .initialized RX5] bs2)
set_option maxHeartbeats 4000000 in
set_option maxRecDepth 100000 in
theorem c_jobC (l : Launch) (hlt : l.stackTraces = false) (dC : Nat → ClassId) (dI : Nat → Nat → Nat) (kA : Nat → ClassId) (adK adV : Nat → Nat) (G : gT) (H0 : Heap) (nC nS : Int) (o0 : Nat) (p0 : Int32) (p1 : Int32) (p2 : Int32) (p3 : Int32) (pl : Nat) (jb : Int32) (xcs : Nat) (xls : Nat) (xin : Nat) (xac : Nat) (aC : Nat → Int32) (aY : Nat → Int32) (aB : Nat → Int32) (aA : Nat → Int32)  (hT : gH (dC, dI) kA (SHc nC nS) G H0) (hr_o0 : G o0 = some 14) (hm_pl : el H0 o0 (dI 14 5) = some (.ref pl)) (hr_pl : G pl = some 8) (hm_jb : el H0 pl (dI 8 15) = some (.int jb)) (hm_xcs : el H0 pl (dI 8 5) = some (.ref xcs)) (hr_xcs : G xcs = some 63) (hm_xls : el H0 pl (dI 8 6) = some (.ref xls)) (hr_xls : G xls = some 64) (hm_xin : el H0 pl (dI 8 7) = some (.ref xin)) (hr_xin : G xin = some 65) (hm_xac : el H0 pl (dI 8 8) = some (.ref xac)) (hr_xac : G xac = some 66) (hq0 : 0 ≤ jb.toInt ∧ jb.toInt ≤ 7) (hc_aC : ct H0 xcs 7 aC) (hc_aY : ct H0 xls 7 aY) (hc_aB : ct H0 xin 7 aB) (hc_aA : ct H0 xac 7 aA) (hgC : 0 ≤ nC ∧ nC ≤ 40) (hgS : 0 ≤ nS ∧ nS ≤ 60) : vx_Met l yX11_job w_c_jobC ({ frames := 7, cells := 1, slots := 6, locals := 120 }) (va_Pc [.ref o0, .int p0, .int p1, .int p2, .int p3] (fun U => U.heap = H0 ∧ va_K (dC, dI) vwCl (tyl kA) U ∧ EVC adK adV (gA G H0.size) U U.heap)) (va_Qi (fun (r : Int32) (u : Int32 × (Nat → Int32) × (Nat → Int32) × (Nat → Int32) × (Nat → Int32)) => match u with | (j1, aC1, aY1, aB1, aA1) => (-1 ≤ r.toInt ∧ r.toInt ≤ 7) ∧ (joC p0.toInt p1.toInt p2.toInt p3.toInt = 0) ∧ ((jb.toInt < 7 ∧ r.toInt = jb.toInt + 1 ∧ j1.toInt = jb.toInt + 1 ∧ aC1 = cu aC jb.toNatClampNeg p0 ∧ aY1 = cu aY jb.toNatClampNeg p1 ∧ aB1 = cu aB jb.toNatClampNeg p2 ∧ aA1 = cu aA jb.toNatClampNeg p3) ∨ (jb.toInt = 7 ∧ r.toInt = -1 ∧ j1.toInt = jb.toInt ∧ aC1 = aC ∧ aY1 = aY ∧ aB1 = aB ∧ aA1 = aA))) (fun (u : Int32 × (Nat → Int32) × (Nat → Int32) × (Nat → Int32) × (Nat → Int32)) (t : State) => match u with | (j1, aC1, aY1, aB1, aA1) => gH (dC, dI) kA (SHc nC nS) G t.heap ∧ gF (dC, dI) SKc G ([(8, 15), (63, 0), (64, 0), (65, 0), (66, 0)] : List (Nat × Nat)) H0 t.heap ∧ el t.heap pl (dI 8 15) = some (.int j1) ∧ ct t.heap xcs 7 aC1 ∧ ct t.heap xls 7 aY1 ∧ ct t.heap xin 7 aB1 ∧ ct t.heap xac 7 aA1) (gA G H0.size)) (vx_X (fun _ : Unit => True) (fun E _ t => (E = "java/lang/IllegalArgumentException") ∧ ((E = "java/lang/IllegalArgumentException" ∧ joC p0.toInt p1.toInt p2.toInt p3.toInt = 1)) ∧ gH (dC, dI) kA (SHc nC nS) G t.heap ∧ gF (dC, dI) SKc G ([(8, 15), (63, 0), (64, 0), (65, 0), (66, 0)] : List (Nat × Nat)) H0 t.heap ∧ el t.heap pl (dI 8 15) = some (.int jb) ∧ ct t.heap xcs 7 aC ∧ ct t.heap xls 7 aY ∧ ct t.heap xin 7 aB ∧ ct t.heap xac 7 aA) (gA G H0.size)) 1 6 (gA G H0.size) := by
  refine vx_ofW (cc := cX11_job) (maxL := 5) (ret := (some .int)) (by decide) rfl ?_
  intro p e s m args below meth c s₁ B hml hnt hv
  obtain ⟨rfl, hH0, hK, hE⟩ := hv
  have hx := B.exec
  have hb := B.bytes
  have hr := B.returns
  have hts := atoms_spec (ws := w_c_jobC) B.pre
  have hown : s.vm.findClass RX11 = some m.cls := findClass_of_methodNamed B.named
  have hlocks := B.notSynchronized
  subst hH0
  generalize hAe : gA G s.heap.size = A at hE ⊢
  have hA : ∀ q : Nat, s.heap.size ≤ q → A q := fun q h => by rw [← hAe]; exact Or.inr h
  have hG := gA_of hAe
  have hS : va_S A s.heap s.heap [] := va_S.rf
  have hF : gF (dC, dI) SKc G ([(8, 15), (63, 0), (64, 0), (65, 0), (66, 0)] : List (Nat × Nat)) s.heap s.heap := gF.rf
  have hl := lv_entry ([.ref o0, .int p0, .int p1, .int p2, .int p3]) (n := 5) (Nat.le_of_ble_eq_true rfl)
  rw [lg_entry_eq]
  generalize (lg_sl ([.ref o0, .int p0, .int p1, .int p2, .int p3]) ++ List.replicate (5 - (lg_sl ([.ref o0, .int p0, .int p1, .int p2, .int p3])).length) Slot.unset).toArray = ls at hl ⊢
  have hl : lv_has ls 5 [(0, .ref o0), (1, .int p0), (2, .int p1), (3, .int p2), (4, .int p3)] := hl
  refine lv_iload_n hx hb dX11_job_0 rfl (lv_at hl 1 rfl) ?_
  refine lv_iconst (v := 0) hx hb dX11_job_1 (by decide) ?_
  refine lv_ldcw (v := 1000000) hx hb hown (ht_at2 hts 0 rfl) dX11_job_2 ?_
  have hFc := gA_free hG hA hS
  refine va_calli (va_runS (As := [.int p0, .int 0, .int 1000000]) (rest := []) ⟨hx, hb, hml, hown, hts⟩ (c_within l dC dI kA adK adV G s.heap nC nS p0 0 1000000 hT (by omega) (by omega)) (va_cwS 3 hts (goodIn_app (goodIn_r _ [3, 4, 5] rfl (by decide +kernel)) (goodIn_ca (goodIn_r _ [2] rfl (by decide +kernel)) (bs2_in _ _))) rfl rfl rfl (by decide +kernel) ⟨(Nat.le_of_ble_eq_true rfl), (Nat.le_of_ble_eq_true rfl)⟩) ⟨fun a U g mk q => by obtain ⟨q0, q1, qK, qE⟩ := q; exact ⟨q0, q1, va_K.moved (u := U) (U := U.calling g mk a) (Vm.Alike.refl U.vm) qK, EVC.blind g mk a qE⟩, fun U hU hW => ⟨rfl, hU, va_K.moved hW.alike hK, hE.call hS hFc hU hW⟩⟩ rfl rfl hl.1 rfl (lv_room (Nat.le_of_ble_eq_true rfl)) dX11_job_5 ⟨(Nat.le_of_ble_eq_true rfl), (Nat.le_of_ble_eq_true rfl)⟩) hS (fun q _ h => hFc q h) hFc (fun r1 u t H locs ht hvm hw2 hB _ _ hS => ?_)
  obtain ⟨hT, hF1⟩ := hB
  rw [ht] at hT hF1
  have m3 := (hF1.fld hr_o0 skc_14 (k := 5) (by decide) (by decide)).trans hm_pl
  have m4 := (hF1.fld hr_pl skc_8 (k := 15) (by decide) (by decide)).trans hm_jb
  have m5 := (hF1.fld hr_pl skc_8 (k := 5) (by decide) (by decide)).trans hm_xcs
  have m6 := (hF1.fld hr_pl skc_8 (k := 6) (by decide) (by decide)).trans hm_xls
  have m7 := (hF1.fld hr_pl skc_8 (k := 7) (by decide) (by decide)).trans hm_xin
  have m8 := (hF1.fld hr_pl skc_8 (k := 8) (by decide) (by decide)).trans hm_xac
  have m9 := hc_aC.kept (hF1.arr hr_xcs skc_63 (by decide))
  have m10 := hc_aY.kept (hF1.arr hr_xls skc_64 (by decide))
  have m11 := hc_aB.kept (hF1.arr hr_xin skc_65 (by decide))
  have m12 := hc_aA.kept (hF1.arr hr_xac skc_66 (by decide))
  have hF := hF.more hF1 (by decide)
  try dsimp only at hw2
  obtain ⟨h13, hi14, hi15⟩ := hw2
  refine lv_if_eq (tgt := 47) hx hb dX11_job_8 (by decide) (fun c16 => ?_) (fun c16 => ?_)
  · have t17 : r1.toInt = 0 := ti_eq c16 rfl (by decide)
    have t18 : (0 : Int32).toInt = 0 := by decide
    have t19 : (1000000 : Int32).toInt = 1000000 := by decide
    have t20 : p0.toInt < (0 : Int32).toInt ∨ (1000000 : Int32).toInt < p0.toInt := hi15 c16
    refine lv_iconst (v := 0) hx hb dX11_job_47 (by decide) ?_
    have hFc := gA_free hG hA hS
    refine vx_callN (vx_runS (As := [.int 0]) (rest := []) ⟨hx, hb, hml, hown, hts⟩ (c_needNumbers0 l hlt dC dI kA adK adV G H nC nS hT (by omega) (by omega)) (va_cwS 1 hts (goodIn_app (goodIn_r _ [9, 10, 5] rfl (by decide +kernel)) (goodIn_ca (goodIn_r _ [6, 7, 8] rfl (by decide +kernel)) (bs2_in _ _))) rfl rfl rfl (by decide +kernel) ⟨(Nat.le_of_ble_eq_true rfl), (Nat.le_of_ble_eq_true rfl)⟩) ⟨fun a U g mk q => by obtain ⟨q0, q1, qK, qE⟩ := q; exact ⟨q0, q1, va_K.moved (u := U) (U := U.calling g mk a) (Vm.Alike.refl U.vm) qK, EVC.blind g mk a qE⟩, fun U hU hW => ⟨rfl, hU, va_K.moved hW.alike hK, hE.call hS hFc hU hW⟩⟩ rfl rfl hl.1 rfl (lv_room (Nat.le_of_ble_eq_true rfl)) dX11_job_48 ⟨(Nat.le_of_ble_eq_true rfl), (Nat.le_of_ble_eq_true rfl)⟩) hS hFc (fun q _ h => hFc q h) (fun E ce q9 u t H locs ht hvm _ hw22 _ _ hS hce hcv hcl => ?_)
    obtain ⟨hw22, hTx, hFx⟩ := hw22; rw [ht] at hTx hFx
    exact vx_out (fun x h => (hnt x h).elim) hlocks hce hcv hcl (fun t2 h2 hW => ⟨(), trivial, ⟨((fun h9 => h9) hw22), (⟨hw22, (by have := joC_s p0.toInt p1.toInt p2.toInt p3.toInt; first | omega | exact hxf.elim)⟩), by rw [h2]; exact hTx, by rw [h2]; exact hF.more hFx (by decide), by rw [h2]; exact (hFx.fld hr_pl skc_8 (k := 15) (by decide) (by decide)).trans m4, by rw [h2]; exact m9.kept (hFx.arr hr_xcs skc_63 (by decide)), by rw [h2]; exact m10.kept (hFx.arr hr_xls skc_64 (by decide)), by rw [h2]; exact m11.kept (hFx.arr hr_xin skc_65 (by decide)), by rw [h2]; exact m12.kept (hFx.arr hr_xac skc_66 (by decide))⟩, hS.F h2⟩) hS.2.2 (by decide) (by decide)
  · have t23 : r1.toInt ≠ 0 := ti_ne c16 rfl (by decide)
    have t24 : (0 : Int32).toInt = 0 := by decide
    have t25 : (1000000 : Int32).toInt = 1000000 := by decide
    have t26 : (0 : Int32).toInt ≤ p0.toInt ∧ p0.toInt ≤ (1000000 : Int32).toInt := hi14 ((bit_of ⟨by omega, by omega⟩).resolve_left c16)
    refine lv_iload_n hx hb dX11_job_11 rfl (lv_at hl 2 rfl) ?_
    refine lv_iconst (v := 1) hx hb dX11_job_12 (by decide) ?_
    refine lv_bipush (v := 20) hx hb dX11_job_13 (by decide) ?_
    have hFc := gA_free hG hA hS
    refine va_calli (va_runS (As := [.int p1, .int 1, .int 20]) (rest := []) ⟨hx, hb, hml, hown, hts⟩ (c_within l dC dI kA adK adV G H nC nS p1 1 20 hT (by omega) (by omega)) (va_cwS 3 hts (goodIn_app (goodIn_r _ [3, 4, 5] rfl (by decide +kernel)) (goodIn_ca (goodIn_r _ [2] rfl (by decide +kernel)) (bs2_in _ _))) rfl rfl rfl (by decide +kernel) ⟨(Nat.le_of_ble_eq_true rfl), (Nat.le_of_ble_eq_true rfl)⟩) ⟨fun a U g mk q => by obtain ⟨q0, q1, qK, qE⟩ := q; exact ⟨q0, q1, va_K.moved (u := U) (U := U.calling g mk a) (Vm.Alike.refl U.vm) qK, EVC.blind g mk a qE⟩, fun U hU hW => ⟨rfl, hU, va_K.moved hW.alike hK, hE.call hS hFc hU hW⟩⟩ rfl rfl hl.1 rfl (lv_room (Nat.le_of_ble_eq_true rfl)) dX11_job_15 ⟨(Nat.le_of_ble_eq_true rfl), (Nat.le_of_ble_eq_true rfl)⟩) hS (fun q _ h => hFc q h) hFc (fun r27 u t H locs ht hvm hw28 hB _ _ hS => ?_)
    obtain ⟨hT, hF1⟩ := hB
    rw [ht] at hT hF1
    have m29 := (hF1.fld hr_o0 skc_14 (k := 5) (by decide) (by decide)).trans m3
    have m30 := (hF1.fld hr_pl skc_8 (k := 15) (by decide) (by decide)).trans m4
    have m31 := (hF1.fld hr_pl skc_8 (k := 5) (by decide) (by decide)).trans m5
    have m32 := (hF1.fld hr_pl skc_8 (k := 6) (by decide) (by decide)).trans m6
    have m33 := (hF1.fld hr_pl skc_8 (k := 7) (by decide) (by decide)).trans m7
    have m34 := (hF1.fld hr_pl skc_8 (k := 8) (by decide) (by decide)).trans m8
    have m35 := m9.kept (hF1.arr hr_xcs skc_63 (by decide))
    have m36 := m10.kept (hF1.arr hr_xls skc_64 (by decide))
    have m37 := m11.kept (hF1.arr hr_xin skc_65 (by decide))
    have m38 := m12.kept (hF1.arr hr_xac skc_66 (by decide))
    have hF := hF.more hF1 (by decide)
    try dsimp only at hw28
    obtain ⟨h39, hi40, hi41⟩ := hw28
    refine lv_if_eq (tgt := 47) hx hb dX11_job_18 (by decide) (fun c42 => ?_) (fun c42 => ?_)
    · have t43 : r27.toInt = 0 := ti_eq c42 rfl (by decide)
      have t44 : (1 : Int32).toInt = 1 := by decide
      have t45 : (20 : Int32).toInt = 20 := by decide
      have t46 : p1.toInt < (1 : Int32).toInt ∨ (20 : Int32).toInt < p1.toInt := hi41 c42
      refine lv_iconst (v := 0) hx hb dX11_job_47 (by decide) ?_
      have hFc := gA_free hG hA hS
      refine vx_callN (vx_runS (As := [.int 0]) (rest := []) ⟨hx, hb, hml, hown, hts⟩ (c_needNumbers0 l hlt dC dI kA adK adV G H nC nS hT (by omega) (by omega)) (va_cwS 1 hts (goodIn_app (goodIn_r _ [9, 10, 5] rfl (by decide +kernel)) (goodIn_ca (goodIn_r _ [6, 7, 8] rfl (by decide +kernel)) (bs2_in _ _))) rfl rfl rfl (by decide +kernel) ⟨(Nat.le_of_ble_eq_true rfl), (Nat.le_of_ble_eq_true rfl)⟩) ⟨fun a U g mk q => by obtain ⟨q0, q1, qK, qE⟩ := q; exact ⟨q0, q1, va_K.moved (u := U) (U := U.calling g mk a) (Vm.Alike.refl U.vm) qK, EVC.blind g mk a qE⟩, fun U hU hW => ⟨rfl, hU, va_K.moved hW.alike hK, hE.call hS hFc hU hW⟩⟩ rfl rfl hl.1 rfl (lv_room (Nat.le_of_ble_eq_true rfl)) dX11_job_48 ⟨(Nat.le_of_ble_eq_true rfl), (Nat.le_of_ble_eq_true rfl)⟩) hS hFc (fun q _ h => hFc q h) (fun E ce q9 u t H locs ht hvm _ hw48 _ _ hS hce hcv hcl => ?_)
      obtain ⟨hw48, hTx, hFx⟩ := hw48; rw [ht] at hTx hFx
      exact vx_out (fun x h => (hnt x h).elim) hlocks hce hcv hcl (fun t2 h2 hW => ⟨(), trivial, ⟨((fun h9 => h9) hw48), (⟨hw48, (by have := joC_s p0.toInt p1.toInt p2.toInt p3.toInt; first | omega | exact hxf.elim)⟩), by rw [h2]; exact hTx, by rw [h2]; exact hF.more hFx (by decide), by rw [h2]; exact (hFx.fld hr_pl skc_8 (k := 15) (by decide) (by decide)).trans m30, by rw [h2]; exact m35.kept (hFx.arr hr_xcs skc_63 (by decide)), by rw [h2]; exact m36.kept (hFx.arr hr_xls skc_64 (by decide)), by rw [h2]; exact m37.kept (hFx.arr hr_xin skc_65 (by decide)), by rw [h2]; exact m38.kept (hFx.arr hr_xac skc_66 (by decide))⟩, hS.F h2⟩) hS.2.2 (by decide) (by decide)
    · have t49 : r27.toInt ≠ 0 := ti_ne c42 rfl (by decide)
      have t50 : (1 : Int32).toInt = 1 := by decide
      have t51 : (20 : Int32).toInt = 20 := by decide
      have t52 : (1 : Int32).toInt ≤ p1.toInt ∧ p1.toInt ≤ (20 : Int32).toInt := hi40 ((bit_of ⟨by omega, by omega⟩).resolve_left c42)
      refine lv_iload_n hx hb dX11_job_21 rfl (lv_at hl 3 rfl) ?_
      refine lv_iconst (v := 0) hx hb dX11_job_22 (by decide) ?_
      refine lv_ldc (v := 100000) hx hb hown (ht_at2 hts 10 rfl) dX11_job_23 ?_
      have hFc := gA_free hG hA hS
      refine va_calli (va_runS (As := [.int p2, .int 0, .int 100000]) (rest := []) ⟨hx, hb, hml, hown, hts⟩ (c_within l dC dI kA adK adV G H nC nS p2 0 100000 hT (by omega) (by omega)) (va_cwS 3 hts (goodIn_app (goodIn_r _ [3, 4, 5] rfl (by decide +kernel)) (goodIn_ca (goodIn_r _ [2] rfl (by decide +kernel)) (bs2_in _ _))) rfl rfl rfl (by decide +kernel) ⟨(Nat.le_of_ble_eq_true rfl), (Nat.le_of_ble_eq_true rfl)⟩) ⟨fun a U g mk q => by obtain ⟨q0, q1, qK, qE⟩ := q; exact ⟨q0, q1, va_K.moved (u := U) (U := U.calling g mk a) (Vm.Alike.refl U.vm) qK, EVC.blind g mk a qE⟩, fun U hU hW => ⟨rfl, hU, va_K.moved hW.alike hK, hE.call hS hFc hU hW⟩⟩ rfl rfl hl.1 rfl (lv_room (Nat.le_of_ble_eq_true rfl)) dX11_job_25 ⟨(Nat.le_of_ble_eq_true rfl), (Nat.le_of_ble_eq_true rfl)⟩) hS (fun q _ h => hFc q h) hFc (fun r53 u t H locs ht hvm hw54 hB _ _ hS => ?_)
      obtain ⟨hT, hF1⟩ := hB
      rw [ht] at hT hF1
      have m55 := (hF1.fld hr_o0 skc_14 (k := 5) (by decide) (by decide)).trans m29
      have m56 := (hF1.fld hr_pl skc_8 (k := 15) (by decide) (by decide)).trans m30
      have m57 := (hF1.fld hr_pl skc_8 (k := 5) (by decide) (by decide)).trans m31
      have m58 := (hF1.fld hr_pl skc_8 (k := 6) (by decide) (by decide)).trans m32
      have m59 := (hF1.fld hr_pl skc_8 (k := 7) (by decide) (by decide)).trans m33
      have m60 := (hF1.fld hr_pl skc_8 (k := 8) (by decide) (by decide)).trans m34
      have m61 := m35.kept (hF1.arr hr_xcs skc_63 (by decide))
      have m62 := m36.kept (hF1.arr hr_xls skc_64 (by decide))
      have m63 := m37.kept (hF1.arr hr_xin skc_65 (by decide))
      have m64 := m38.kept (hF1.arr hr_xac skc_66 (by decide))
      have hF := hF.more hF1 (by decide)
      try dsimp only at hw54
      obtain ⟨h65, hi66, hi67⟩ := hw54
      refine lv_if_eq (tgt := 47) hx hb dX11_job_28 (by decide) (fun c68 => ?_) (fun c68 => ?_)
      · have t69 : r53.toInt = 0 := ti_eq c68 rfl (by decide)
        have t70 : (0 : Int32).toInt = 0 := by decide
        have t71 : (100000 : Int32).toInt = 100000 := by decide
        have t72 : p2.toInt < (0 : Int32).toInt ∨ (100000 : Int32).toInt < p2.toInt := hi67 c68
        refine lv_iconst (v := 0) hx hb dX11_job_47 (by decide) ?_
        have hFc := gA_free hG hA hS
        refine vx_callN (vx_runS (As := [.int 0]) (rest := []) ⟨hx, hb, hml, hown, hts⟩ (c_needNumbers0 l hlt dC dI kA adK adV G H nC nS hT (by omega) (by omega)) (va_cwS 1 hts (goodIn_app (goodIn_r _ [9, 10, 5] rfl (by decide +kernel)) (goodIn_ca (goodIn_r _ [6, 7, 8] rfl (by decide +kernel)) (bs2_in _ _))) rfl rfl rfl (by decide +kernel) ⟨(Nat.le_of_ble_eq_true rfl), (Nat.le_of_ble_eq_true rfl)⟩) ⟨fun a U g mk q => by obtain ⟨q0, q1, qK, qE⟩ := q; exact ⟨q0, q1, va_K.moved (u := U) (U := U.calling g mk a) (Vm.Alike.refl U.vm) qK, EVC.blind g mk a qE⟩, fun U hU hW => ⟨rfl, hU, va_K.moved hW.alike hK, hE.call hS hFc hU hW⟩⟩ rfl rfl hl.1 rfl (lv_room (Nat.le_of_ble_eq_true rfl)) dX11_job_48 ⟨(Nat.le_of_ble_eq_true rfl), (Nat.le_of_ble_eq_true rfl)⟩) hS hFc (fun q _ h => hFc q h) (fun E ce q9 u t H locs ht hvm _ hw74 _ _ hS hce hcv hcl => ?_)
        obtain ⟨hw74, hTx, hFx⟩ := hw74; rw [ht] at hTx hFx
        exact vx_out (fun x h => (hnt x h).elim) hlocks hce hcv hcl (fun t2 h2 hW => ⟨(), trivial, ⟨((fun h9 => h9) hw74), (⟨hw74, (by have := joC_s p0.toInt p1.toInt p2.toInt p3.toInt; first | omega | exact hxf.elim)⟩), by rw [h2]; exact hTx, by rw [h2]; exact hF.more hFx (by decide), by rw [h2]; exact (hFx.fld hr_pl skc_8 (k := 15) (by decide) (by decide)).trans m56, by rw [h2]; exact m61.kept (hFx.arr hr_xcs skc_63 (by decide)), by rw [h2]; exact m62.kept (hFx.arr hr_xls skc_64 (by decide)), by rw [h2]; exact m63.kept (hFx.arr hr_xin skc_65 (by decide)), by rw [h2]; exact m64.kept (hFx.arr hr_xac skc_66 (by decide))⟩, hS.F h2⟩) hS.2.2 (by decide) (by decide)
      · have t75 : r53.toInt ≠ 0 := ti_ne c68 rfl (by decide)
        have t76 : (0 : Int32).toInt = 0 := by decide
        have t77 : (100000 : Int32).toInt = 100000 := by decide
        have t78 : (0 : Int32).toInt ≤ p2.toInt ∧ p2.toInt ≤ (100000 : Int32).toInt := hi66 ((bit_of ⟨by omega, by omega⟩).resolve_left c68)
        refine lv_iload hx hb dX11_job_31 (lv_at hl 4 rfl) ?_
        refine lv_iconst (v := 0) hx hb dX11_job_33 (by decide) ?_
        refine lv_sipush (v := 1000) hx hb dX11_job_34 (by decide) ?_
        have hFc := gA_free hG hA hS
        refine va_calli (va_runS (As := [.int p3, .int 0, .int 1000]) (rest := []) ⟨hx, hb, hml, hown, hts⟩ (c_within l dC dI kA adK adV G H nC nS p3 0 1000 hT (by omega) (by omega)) (va_cwS 3 hts (goodIn_app (goodIn_r _ [3, 4, 5] rfl (by decide +kernel)) (goodIn_ca (goodIn_r _ [2] rfl (by decide +kernel)) (bs2_in _ _))) rfl rfl rfl (by decide +kernel) ⟨(Nat.le_of_ble_eq_true rfl), (Nat.le_of_ble_eq_true rfl)⟩) ⟨fun a U g mk q => by obtain ⟨q0, q1, qK, qE⟩ := q; exact ⟨q0, q1, va_K.moved (u := U) (U := U.calling g mk a) (Vm.Alike.refl U.vm) qK, EVC.blind g mk a qE⟩, fun U hU hW => ⟨rfl, hU, va_K.moved hW.alike hK, hE.call hS hFc hU hW⟩⟩ rfl rfl hl.1 rfl (lv_room (Nat.le_of_ble_eq_true rfl)) dX11_job_37 ⟨(Nat.le_of_ble_eq_true rfl), (Nat.le_of_ble_eq_true rfl)⟩) hS (fun q _ h => hFc q h) hFc (fun r79 u t H locs ht hvm hw80 hB _ _ hS => ?_)
        obtain ⟨hT, hF1⟩ := hB
        rw [ht] at hT hF1
        have m81 := (hF1.fld hr_o0 skc_14 (k := 5) (by decide) (by decide)).trans m55
        have m82 := (hF1.fld hr_pl skc_8 (k := 15) (by decide) (by decide)).trans m56
        have m83 := (hF1.fld hr_pl skc_8 (k := 5) (by decide) (by decide)).trans m57
        have m84 := (hF1.fld hr_pl skc_8 (k := 6) (by decide) (by decide)).trans m58
        have m85 := (hF1.fld hr_pl skc_8 (k := 7) (by decide) (by decide)).trans m59
        have m86 := (hF1.fld hr_pl skc_8 (k := 8) (by decide) (by decide)).trans m60
        have m87 := m61.kept (hF1.arr hr_xcs skc_63 (by decide))
        have m88 := m62.kept (hF1.arr hr_xls skc_64 (by decide))
        have m89 := m63.kept (hF1.arr hr_xin skc_65 (by decide))
        have m90 := m64.kept (hF1.arr hr_xac skc_66 (by decide))
        have hF := hF.more hF1 (by decide)
        try dsimp only at hw80
        obtain ⟨h91, hi92, hi93⟩ := hw80
        refine lv_if_eq (tgt := 47) hx hb dX11_job_40 (by decide) (fun c94 => ?_) (fun c94 => ?_)
        · have t95 : r79.toInt = 0 := ti_eq c94 rfl (by decide)
          have t96 : (0 : Int32).toInt = 0 := by decide
          have t97 : (1000 : Int32).toInt = 1000 := by decide
          have t98 : p3.toInt < (0 : Int32).toInt ∨ (1000 : Int32).toInt < p3.toInt := hi93 c94
          refine lv_iconst (v := 0) hx hb dX11_job_47 (by decide) ?_
          have hFc := gA_free hG hA hS
          refine vx_callN (vx_runS (As := [.int 0]) (rest := []) ⟨hx, hb, hml, hown, hts⟩ (c_needNumbers0 l hlt dC dI kA adK adV G H nC nS hT (by omega) (by omega)) (va_cwS 1 hts (goodIn_app (goodIn_r _ [9, 10, 5] rfl (by decide +kernel)) (goodIn_ca (goodIn_r _ [6, 7, 8] rfl (by decide +kernel)) (bs2_in _ _))) rfl rfl rfl (by decide +kernel) ⟨(Nat.le_of_ble_eq_true rfl), (Nat.le_of_ble_eq_true rfl)⟩) ⟨fun a U g mk q => by obtain ⟨q0, q1, qK, qE⟩ := q; exact ⟨q0, q1, va_K.moved (u := U) (U := U.calling g mk a) (Vm.Alike.refl U.vm) qK, EVC.blind g mk a qE⟩, fun U hU hW => ⟨rfl, hU, va_K.moved hW.alike hK, hE.call hS hFc hU hW⟩⟩ rfl rfl hl.1 rfl (lv_room (Nat.le_of_ble_eq_true rfl)) dX11_job_48 ⟨(Nat.le_of_ble_eq_true rfl), (Nat.le_of_ble_eq_true rfl)⟩) hS hFc (fun q _ h => hFc q h) (fun E ce q9 u t H locs ht hvm _ hw100 _ _ hS hce hcv hcl => ?_)
          obtain ⟨hw100, hTx, hFx⟩ := hw100; rw [ht] at hTx hFx
          exact vx_out (fun x h => (hnt x h).elim) hlocks hce hcv hcl (fun t2 h2 hW => ⟨(), trivial, ⟨((fun h9 => h9) hw100), (⟨hw100, (by have := joC_s p0.toInt p1.toInt p2.toInt p3.toInt; first | omega | exact hxf.elim)⟩), by rw [h2]; exact hTx, by rw [h2]; exact hF.more hFx (by decide), by rw [h2]; exact (hFx.fld hr_pl skc_8 (k := 15) (by decide) (by decide)).trans m82, by rw [h2]; exact m87.kept (hFx.arr hr_xcs skc_63 (by decide)), by rw [h2]; exact m88.kept (hFx.arr hr_xls skc_64 (by decide)), by rw [h2]; exact m89.kept (hFx.arr hr_xin skc_65 (by decide)), by rw [h2]; exact m90.kept (hFx.arr hr_xac skc_66 (by decide))⟩, hS.F h2⟩) hS.2.2 (by decide) (by decide)
        · have t101 : r79.toInt ≠ 0 := ti_ne c94 rfl (by decide)
          have t102 : (0 : Int32).toInt = 0 := by decide
          have t103 : (1000 : Int32).toInt = 1000 := by decide
          have t104 : (0 : Int32).toInt ≤ p3.toInt ∧ p3.toInt ≤ (1000 : Int32).toInt := hi92 ((bit_of ⟨by omega, by omega⟩).resolve_left c94)
          refine lv_iconst (v := 1) hx hb dX11_job_43 (by decide) ?_
          refine lv_goto (tgt := 48) hx hb dX11_job_44 (by decide) ?_
          have hFc := gA_free hG hA hS
          refine vx_callv (vx_runS (As := [.int 1]) (rest := []) ⟨hx, hb, hml, hown, hts⟩ (c_needNumbers1X l hlt dC dI kA adK adV G H nC nS hT (by omega) (by omega)) (va_cwS 1 hts (goodIn_app (goodIn_r _ [9, 10, 5] rfl (by decide +kernel)) (goodIn_ca (goodIn_r _ [6] rfl (by decide +kernel)) (bs2_in _ _))) rfl rfl rfl (by decide +kernel) ⟨(Nat.le_of_ble_eq_true rfl), (Nat.le_of_ble_eq_true rfl)⟩) ⟨fun a U g mk q => by obtain ⟨q0, q1, qK, qE⟩ := q; exact ⟨q0, q1, va_K.moved (u := U) (U := U.calling g mk a) (Vm.Alike.refl U.vm) qK, EVC.blind g mk a qE⟩, fun U hU hW => ⟨rfl, hU, va_K.moved hW.alike hK, hE.call hS hFc hU hW⟩⟩ rfl rfl hl.1 rfl (lv_room (Nat.le_of_ble_eq_true rfl)) dX11_job_48 ⟨(Nat.le_of_ble_eq_true rfl), (Nat.le_of_ble_eq_true rfl)⟩) hS (fun q _ h => hFc q h) hFc (fun q _ h => hFc q h) (fun E ce q9 u t H locs ht hvm _ hw106 _ _ hS hce hcv hcl => ?_) (fun u t H locs ht hvm hw106 hB _ _ hS => ?_)
          · obtain ⟨hw106, hxf, hTx, hFx⟩ := hw106; rw [ht] at hTx hFx
            exact vx_out (fun x h => (hnt x h).elim) hlocks hce hcv hcl (fun t2 h2 hW => ⟨(), trivial, ⟨((fun h9 => h9) hw106), (⟨hw106, (by have := joC_s p0.toInt p1.toInt p2.toInt p3.toInt; first | omega | exact hxf.elim)⟩), by rw [h2]; exact hTx, by rw [h2]; exact hF.more hFx (by decide), by rw [h2]; exact (hFx.fld hr_pl skc_8 (k := 15) (by decide) (by decide)).trans m82, by rw [h2]; exact m87.kept (hFx.arr hr_xcs skc_63 (by decide)), by rw [h2]; exact m88.kept (hFx.arr hr_xls skc_64 (by decide)), by rw [h2]; exact m89.kept (hFx.arr hr_xin skc_65 (by decide)), by rw [h2]; exact m90.kept (hFx.arr hr_xac skc_66 (by decide))⟩, hS.F h2⟩) hS.2.2 (by decide) (by decide)
          · obtain ⟨hT, hF1⟩ := hB
            rw [ht] at hT hF1
            have m107 := (hF1.fld hr_o0 skc_14 (k := 5) (by decide) (by decide)).trans m81
            have m108 := (hF1.fld hr_pl skc_8 (k := 15) (by decide) (by decide)).trans m82
            have m109 := (hF1.fld hr_pl skc_8 (k := 5) (by decide) (by decide)).trans m83
            have m110 := (hF1.fld hr_pl skc_8 (k := 6) (by decide) (by decide)).trans m84
            have m111 := (hF1.fld hr_pl skc_8 (k := 7) (by decide) (by decide)).trans m85
            have m112 := (hF1.fld hr_pl skc_8 (k := 8) (by decide) (by decide)).trans m86
            have m113 := m87.kept (hF1.arr hr_xcs skc_63 (by decide))
            have m114 := m88.kept (hF1.arr hr_xls skc_64 (by decide))
            have m115 := m89.kept (hF1.arr hr_xin skc_65 (by decide))
            have m116 := m90.kept (hF1.arr hr_xac skc_66 (by decide))
            have hF := hF.more hF1 (by decide)
            try dsimp only at hw106
            refine lv_aload_n hx hb dX11_job_51 rfl (lv_at hl 0 rfl) ?_
            refine tw_getM (v := .ref pl) hx hb hts bF2_X11 hown hK hT hr_o0 shc_14 rfl 5 (by decide) (ht_at2 hts 11 rfl) (fun _ h9 => h9) m107 dX11_job_52 ?_
            refine tw_getNM (v := .int jb) hx hb hts bF2_X5 hown hK hT hr_pl shc_8 rfl 15 (by decide) (hE.nw 47 rfl) (fun _ h9 => h9) m108 dX11_job_55 ?_
            refine lv_bipush (v := 7) hx hb dX11_job_58 (by decide) ?_
            refine lv_icmp_ne (tgt := 67) hx hb dX11_job_60 (by decide) (fun c117 => ?_) (fun c117 => ?_)
            · have t118 : jb.toInt ≠ 7 := ti_ne c117 rfl (by decide)
              refine lv_aload_n hx hb dX11_job_67 rfl (lv_at hl 0 rfl) ?_
              refine tw_getM (v := .ref pl) hx hb hts bF2_X11 hown hK hT hr_o0 shc_14 rfl 5 (by decide) (ht_at2 hts 11 rfl) (fun _ h9 => h9) m107 dX11_job_68 ?_
              refine lv_iload_n hx hb dX11_job_71 rfl (lv_at hl 1 rfl) ?_
              refine lv_iload_n hx hb dX11_job_72 rfl (lv_at hl 2 rfl) ?_
              refine lv_iload_n hx hb dX11_job_73 rfl (lv_at hl 3 rfl) ?_
              refine lv_iload hx hb dX11_job_74 (lv_at hl 4 rfl) ?_
              have hFc := gA_free hG hA hS
              refine va_calli (va_runV (As := [.int p0, .int p1, .int p2, .int p3]) (rest := []) ⟨hx, hb, hml, hown, hts⟩ (c_addJobC l dC dI kA adK adV G H nC nS pl p0 p1 p2 p3 jb xcs xls xin xac aC aY aB aA hT hr_pl m108 m109 hr_xcs m110 hr_xls m111 hr_xin m112 hr_xac (by have q8 := ti_all jb; omega) m113 m114 m115 m116 (by omega) (by omega)) (cwV 4 hts (goodIn_app (goodIn_r _ [19, 20, 21, 22] rfl (by decide +kernel)) (goodIn_ca (goodIn_r _ [13, 14, 15, 16, 17, 18] rfl (by decide +kernel)) (bs2_in _ _))) rfl rfl rfl (by decide +kernel) ⟨(Nat.le_of_ble_eq_true rfl), (Nat.le_of_ble_eq_true rfl)⟩) ⟨fun a U g mk q => by obtain ⟨q0, q1, qK, qE⟩ := q; exact ⟨q0, q1, va_K.moved (u := U) (U := U.calling g mk a) (Vm.Alike.refl U.vm) qK, EVC.blind g mk a qE⟩, gH_recv hK hT hr_pl shc_8 rfl, fun U hU hW => ⟨rfl, hU, va_K.moved hW.alike hK, hE.call hS hFc hU hW⟩⟩ rfl rfl hl.1 rfl (lv_room (Nat.le_of_ble_eq_true rfl)) dX11_job_76 ⟨(Nat.le_of_ble_eq_true rfl), (Nat.le_of_ble_eq_true rfl)⟩) hS (fun q _ h => hFc q h) hFc (fun r119 u t H locs ht hvm hw120 hB _ _ hS => ?_)
              obtain ⟨u121, rfl⟩ : ∃ z, z = u := ⟨_, rfl⟩
              obtain ⟨hT, hF1, m122, m123, m124, m125, m126⟩ := hB
              rw [ht] at hT hF1 m122 m123 m124 m125 m126
              have m127 := (hF1.fld hr_o0 skc_14 (k := 5) (by decide) (by decide)).trans m107
              have m129 := (hF1.fld hr_pl skc_8 (k := 5) (by decide) (by decide)).trans m109
              have m130 := (hF1.fld hr_pl skc_8 (k := 6) (by decide) (by decide)).trans m110
              have m131 := (hF1.fld hr_pl skc_8 (k := 7) (by decide) (by decide)).trans m111
              have m132 := (hF1.fld hr_pl skc_8 (k := 8) (by decide) (by decide)).trans m112
              have hF := hF.more hF1 (by decide)
              try dsimp only at hw120
              obtain ⟨h137, hf138⟩ := hw120
              refine W.widen (k := 1) (n := 6) (by decide) (by decide) ?_
              exact vx_ret (W.iret (v := r119) hx hb hr (fun t ht hW => ⟨⟨r119, (u121, (cu aC jb.toNatClampNeg p0), (cu aY jb.toNatClampNeg p1), (cu aB jb.toNatClampNeg p2), (cu aA jb.toNatClampNeg p3)), rfl, (by exact ⟨(by have q8 := ti_all r119; omega), (by have := joC_s p0.toInt p1.toInt p2.toInt p3.toInt; omega), (Or.inl ⟨by omega, by omega, by omega, rfl, rfl, rfl, rfl⟩)⟩), by (try dsimp only); rw [ht]; exact ⟨hT, hF, m122, m123, m124, m125, m126⟩⟩, hS.F ht⟩) hS.2.2 dX11_job_79)
            · have t139 : jb.toInt = 7 := ti_eq c117 rfl (by decide)
              refine lv_iconst (v := (-1)) hx hb dX11_job_63 (by decide) ?_
              refine lv_goto (tgt := 79) hx hb dX11_job_64 (by decide) ?_
              refine W.widen (k := 1) (n := 6) (by decide) (by decide) ?_
              exact vx_ret (W.iret (v := (-1)) hx hb hr (fun t ht hW => ⟨⟨(-1), (jb, aC, aY, aB, aA), rfl, (by exact ⟨(rg_t (a := (-1)) (by decide) (by omega) (by omega)), (by have := joC_s p0.toInt p1.toInt p2.toInt p3.toInt; omega), (Or.inr ⟨by omega, by decide, by omega, rfl, rfl, rfl, rfl⟩)⟩), by (try dsimp only); rw [ht]; exact ⟨hT, hF, m108, m113, m114, m115, m116⟩⟩, hS.F ht⟩) hS.2.2 dX11_job_79)
def w_c_jobsC : List Cond := .code yX11_jobs cX11_jobs 2 (some .int) :: (HAppend.hAppend (α := List Cond) (β := List Cond) (γ := List Cond) [.fieldLink RX11 43 "SeaLand" "plans" "LSeaLand$Plans;"] bs2)
set_option maxHeartbeats 4000000 in
set_option maxRecDepth 100000 in
theorem c_jobsC (l : Launch) (dC : Nat → ClassId) (dI : Nat → Nat → Nat) (kA : Nat → ClassId) (adK adV : Nat → Nat) (G : gT) (H0 : Heap) (nC nS : Int) (o0 : Nat) (pl : Nat) (jb : Int32)  (hT : gH (dC, dI) kA (SHc nC nS) G H0) (hr_o0 : G o0 = some 14) (hm_pl : el H0 o0 (dI 14 5) = some (.ref pl)) (hr_pl : G pl = some 8) (hm_jb : el H0 pl (dI 8 15) = some (.int jb)) (hq0 : 0 ≤ jb.toInt ∧ jb.toInt ≤ 7) (hgC : 0 ≤ nC ∧ nC ≤ 40) (hgS : 0 ≤ nS ∧ nS ≤ 60) : Met l yX11_jobs w_c_jobsC ({ frames := 0, cells := 0, slots := 0, locals := 0 }) (va_Pc [.ref o0] (fun U => U.heap = H0 ∧ va_K (dC, dI) vwCl (tyl kA) U ∧ EVC adK adV (gA G H0.size) U U.heap)) (va_Qi (fun (r : Int32) (u : Int32) => (0 ≤ r.toInt ∧ r.toInt ≤ 7) ∧ (u.toInt = 0) ∧ (r = jb)) (fun (j1 : Int32) (t : State) => gH (dC, dI) kA (SHc nC nS) G t.heap ∧ gF (dC, dI) SKc G ([(8, 15)] : List (Nat × Nat)) H0 t.heap ∧ el t.heap pl (dI 8 15) = some (.int j1)) (gA G H0.size)) 0 0 (gA G H0.size) := by
  refine Met.ofW (cc := cX11_jobs) (maxL := 2) (ret := (some .int)) (by decide) rfl ?_
  intro p e s m args below meth c s₁ B hml hv
  obtain ⟨rfl, hH0, hK, hE⟩ := hv
  have hx := B.exec
  have hb := B.bytes
  have hr := B.returns
  have hts := atoms_spec (ws := w_c_jobsC) B.pre
  have hown : s.vm.findClass RX11 = some m.cls := findClass_of_methodNamed B.named
  have hlocks := B.notSynchronized
  subst hH0
  generalize hAe : gA G s.heap.size = A at hE ⊢
  have hA : ∀ q : Nat, s.heap.size ≤ q → A q := fun q h => by rw [← hAe]; exact Or.inr h
  have hG := gA_of hAe
  have hS : va_S A s.heap s.heap [] := va_S.rf
  have hF : gF (dC, dI) SKc G ([(8, 15)] : List (Nat × Nat)) s.heap s.heap := gF.rf
  have hl := lv_entry ([.ref o0]) (n := 2) (Nat.le_of_ble_eq_true rfl)
  rw [lg_entry_eq]
  generalize (lg_sl ([.ref o0]) ++ List.replicate (2 - (lg_sl ([.ref o0])).length) Slot.unset).toArray = ls at hl ⊢
  have hl : lv_has ls 2 [(0, .ref o0)] := hl
  refine lv_aload_n hx hb dX11_jobs_0 rfl (lv_at hl 0 rfl) ?_
  refine tw_getM (v := .ref pl) hx hb hts bF2_X11 hown hK hT hr_o0 shc_14 rfl 5 (by decide) (ht_at2 hts 0 rfl) (fun _ h9 => h9) hm_pl dX11_jobs_1 ?_
  refine tw_getNM (v := .int jb) hx hb hts bF2_X5 hown hK hT hr_pl shc_8 rfl 15 (by decide) (hE.nw 47 rfl) (fun _ h9 => h9) hm_jb dX11_jobs_4 ?_
  refine lv_istore_n (lv' := [(1, .int jb), (0, .ref o0)]) hx hb dX11_jobs_7 rfl hl (by decide) rfl (fun ls hl => ?_)
  refine lv_aload_n hx hb dX11_jobs_8 rfl (lv_at hl 1 rfl) ?_
  refine tw_getM (v := .ref pl) hx hb hts bF2_X11 hown hK hT hr_o0 shc_14 rfl 5 (by decide) (ht_at2 hts 0 rfl) (fun _ h9 => h9) hm_pl dX11_jobs_9 ?_
  refine lv_iconst (v := 0) hx hb dX11_jobs_12 (by decide) ?_
  refine tw_putN (v := .int 0) (ty := .int) hx hb hts bF2_X5 tyX5 tyX5_ok nmX5 hown hK hT hG hS hr_pl shc_8 rfl 15 (by decide) (hE.nw 47 rfl) (fun _ h9 => h9) rfl (by decide +kernel) rfl rfl (gl_at rfl (gi_of (show (0 : Int32).toInt = 0 from (by decide)) (by omega) (by omega))) dX11_jobs_13 (fun H locs hT oq m1 oj hS => ?_)
  have hF := hF.put hr_pl skc_8 oq oj (by decide)
  have m2 := (el_kept (oq _ (gne hr_o0 hr_pl (by decide)))).trans hm_pl
  refine lv_iload_n hx hb dX11_jobs_16 rfl (lv_at hl 0 rfl) ?_
  exact W.iret (v := jb) hx hb hr (fun t ht hW => ⟨⟨jb, (0 : Int32), rfl, (by exact ⟨(by have q8 := ti_all jb; omega), (by have : (0 : Int32).toInt = 0 := (by decide); omega), rfl⟩), by (try dsimp only); rw [ht]; exact ⟨hT, hF, m1⟩⟩, hS.F ht⟩) hS.2.2 dX11_jobs_17
def w_l_jobC : List Cond := .codeWith yL_job cL_job 7 (some .int) [(0, 14, 17, 15)] :: (HAppend.hAppend (α := List Cond) (β := List Cond) (γ := List Cond) [.code yX11_job cX11_job 5 (some .int), .constant RX11 411 1000000, .code yX11_within cX11_within 3 (some .boolean), .methodLink RX11 58 yX11_within, .static yX11_within, .initialized RX11, .code yX11_needNumbers cX11_needNumbers 1 none, .classLink RX11 547 "java/lang/IllegalArgumentException", .initialized "java/lang/IllegalArgumentException", .methodLink RX11 62 yX11_needNumbers, .static yX11_needNumbers, .constant RX11 96 100000, .fieldLink RX11 43 "SeaLand" "plans" "LSeaLand$Plans;", .code yX5_addJob cX5_addJob 5 (some .int), .fieldLink RX5 29 "SeaLand$Plans" "costs" "[I", .fieldLink RX5 154 "SeaLand$Plans" "jobs" "I", .fieldLink RX5 32 "SeaLand$Plans" "lasts" "[I", .fieldLink RX5 35 "SeaLand$Plans" "incomes" "[I", .fieldLink RX5 38 "SeaLand$Plans" "acres" "[I", .methodLink RX11 481 yX5_addJob, .instanceMethod yX5_addJob, .selects RX5 yX5_addJob yX5_addJob, .initialized RX5, .methodLink RL 157 yX11_job, .instanceMethod yX11_job, .selects RX11 yX11_job yX11_job, .classLink RL 15 "java/lang/IllegalArgumentException"] bs2)
set_option maxHeartbeats 4000000 in
set_option maxRecDepth 100000 in
theorem l_jobC (l : Launch) (hlt : l.stackTraces = false) (dC : Nat → ClassId) (dI : Nat → Nat → Nat) (kA : Nat → ClassId) (adK adV : Nat → Nat) (G : gT) (H0 : Heap) (nC nS : Int) (o0 : Nat) (p1 : Int32) (p2 : Int32) (p3 : Int32) (p4 : Int32) (ou : Nat) (pl : Nat) (jb : Int32) (xcs : Nat) (xls : Nat) (xin : Nat) (xac : Nat) (aC : Nat → Int32) (aY : Nat → Int32) (aB : Nat → Int32) (aA : Nat → Int32) (hT : gH (dC, dI) kA (SHc nC nS) G H0) (hr_o0 : G o0 = some 14) (hr_ou : G ou = some 98) (hm_pl : el H0 o0 (dI 14 5) = some (.ref pl)) (hr_pl : G pl = some 8) (hm_jb : el H0 pl (dI 8 15) = some (.int jb)) (hm_xcs : el H0 pl (dI 8 5) = some (.ref xcs)) (hr_xcs : G xcs = some 63) (hm_xls : el H0 pl (dI 8 6) = some (.ref xls)) (hr_xls : G xls = some 64) (hm_xin : el H0 pl (dI 8 7) = some (.ref xin)) (hr_xin : G xin = some 65) (hm_xac : el H0 pl (dI 8 8) = some (.ref xac)) (hr_xac : G xac = some 66) (hq0 : 0 ≤ jb.toInt ∧ jb.toInt ≤ 7) (hc_aC : ct H0 xcs 7 aC) (hc_aY : ct H0 xls 7 aY) (hc_aB : ct H0 xin 7 aB) (hc_aA : ct H0 xac 7 aA) (hgC : 0 ≤ nC ∧ nC ≤ 40) (hgS : 0 ≤ nS ∧ nS ≤ 60) : Met l yL_job w_l_jobC ({ frames := 8, cells := 1, slots := 6, locals := 144 }) (va_Pc [.ref o0, .int p1, .int p2, .int p3, .int p4, .ref ou] (fun U => U.heap = H0 ∧ va_K (dC, dI) vwCl (tyl kA) U ∧ EVC adK adV (gA G H0.size) U U.heap ∧ NC U)) (va_Qi (fun (r : Int32) (u : Int32 × (Nat → Int32) × (Nat → Int32) × (Nat → Int32) × (Nat → Int32)) => match u with | (j1, aC1, aY1, aB1, aA1) => (0 ≤ r.toInt ∧ r.toInt ≤ 1) ∧ (r.toInt = joC p1.toInt p2.toInt p3.toInt p4.toInt) ∧ ((joC p1.toInt p2.toInt p3.toInt p4.toInt = 1 ∧ j1.toInt = jb.toInt ∧ aC1 = aC ∧ aY1 = aY ∧ aB1 = aB ∧ aA1 = aA) ∨ (joC p1.toInt p2.toInt p3.toInt p4.toInt = 0 ∧ ((jb.toInt < 7 ∧ j1.toInt = jb.toInt + 1 ∧ aC1 = cu aC jb.toNatClampNeg p1 ∧ aY1 = cu aY jb.toNatClampNeg p2 ∧ aB1 = cu aB jb.toNatClampNeg p3 ∧ aA1 = cu aA jb.toNatClampNeg p4) ∨ (jb.toInt = 7 ∧ j1.toInt = jb.toInt ∧ aC1 = aC ∧ aY1 = aY ∧ aB1 = aB ∧ aA1 = aA))))) (fun (u : Int32 × (Nat → Int32) × (Nat → Int32) × (Nat → Int32) × (Nat → Int32)) (t : State) => match u with | (j1, aC1, aY1, aB1, aA1) => gH (dC, dI) kA (SHc nC nS) G t.heap ∧ gF (dC, dI) SKc G ([(8, 15), (63, 0), (64, 0), (65, 0), (66, 0), (98, 0)] : List (Nat × Nat)) H0 t.heap ∧ el t.heap pl (dI 8 15) = some (.int j1) ∧ ct t.heap xcs 7 aC1 ∧ ct t.heap xls 7 aY1 ∧ ct t.heap xin 7 aB1 ∧ ct t.heap xac 7 aA1) (gA G H0.size)) 1 6 (gA G H0.size) := by
  refine va_MetW (cc := cL_job) (maxL := 7) (ret := (some .int)) (by decide) rfl ?_
  intro p e s m args below meth c s₁ B hml hv
  obtain ⟨rfl, hH0, hK, hE, hN⟩ := hv
  have hx := B.exec
  have hb := B.bytes
  have hr := B.returns
  have hts := atoms_spec (ws := w_l_jobC) B.pre
  have hown : s.vm.findClass RL = some m.cls := findClass_of_methodNamed B.named
  have hlocks := B.notSynchronized
  have htab := vx_table (x := yL_job) B (hts _ List.mem_cons_self)
  subst hH0
  generalize hAe : gA G s.heap.size = A at hE ⊢
  have hA : ∀ q : Nat, s.heap.size ≤ q → A q := fun q h => by rw [← hAe]; exact Or.inr h
  have hG := gA_of hAe
  have hS : va_S A s.heap s.heap [] := va_S.rf
  have hF : gF (dC, dI) SKc G ([(8, 15), (63, 0), (64, 0), (65, 0), (66, 0), (98, 0)] : List (Nat × Nat)) s.heap s.heap := gF.rf
  have hl := lv_entry ([.ref o0, .int p1, .int p2, .int p3, .int p4, .ref ou]) (n := 7) (Nat.le_of_ble_eq_true rfl)
  rw [lg_entry_eq]
  generalize (lg_sl ([.ref o0, .int p1, .int p2, .int p3, .int p4, .ref ou]) ++ List.replicate (7 - (lg_sl ([.ref o0, .int p1, .int p2, .int p3, .int p4, .ref ou])).length) Slot.unset).toArray = ls at hl ⊢
  have hl : lv_has ls 7 [(0, .ref o0), (1, .int p1), (2, .int p2), (3, .int p3), (4, .int p4), (5, .ref ou)] := hl
  refine lv_aload hx hb dL_job_0 (lv_at hl 5 rfl) ?_
  refine lv_iconst (v := 0) hx hb dL_job_2 (by decide) ?_
  refine lv_aload_n hx hb dL_job_3 rfl (lv_at hl 0 rfl) ?_
  refine lv_iload_n hx hb dL_job_4 rfl (lv_at hl 1 rfl) ?_
  refine lv_iload_n hx hb dL_job_5 rfl (lv_at hl 2 rfl) ?_
  refine lv_iload_n hx hb dL_job_6 rfl (lv_at hl 3 rfl) ?_
  refine lv_iload hx hb dL_job_7 (lv_at hl 4 rfl) ?_
  have hFc := gA_free hG hA hS
  refine vx_calli (vx_runV (As := [.int p1, .int p2, .int p3, .int p4]) (rest := [.int 0, .ref ou]) ⟨hx, hb, hml, hown, hts⟩ (c_jobC l hlt dC dI kA adK adV G s.heap nC nS o0 p1 p2 p3 p4 pl jb xcs xls xin xac aC aY aB aA hT hr_o0 hm_pl hr_pl hm_jb hm_xcs hr_xcs hm_xls hr_xls hm_xin hr_xin hm_xac hr_xac (by have q8 := ti_all jb; omega) hc_aC hc_aY hc_aB hc_aA (by omega) (by omega)) (cwV 4 hts (goodIn_app (goodIn_r _ [24, 25, 26, 6] rfl (by decide +kernel)) (goodIn_ca (goodIn_r _ [1, 2, 3, 4, 5, 6, 7, 8, 9, 10, 11, 12, 13, 14, 15, 16, 17, 18, 19, 20, 21, 22, 23] rfl (by decide +kernel)) (bs2_in _ _))) rfl rfl rfl (by decide +kernel) ⟨(Nat.le_of_ble_eq_true rfl), (Nat.le_of_ble_eq_true rfl)⟩) ⟨fun a U g mk q => by obtain ⟨q0, q1, qK, qE⟩ := q; exact ⟨q0, q1, va_K.moved (u := U) (U := U.calling g mk a) (Vm.Alike.refl U.vm) qK, EVC.blind g mk a qE⟩, gH_recv hK hT hr_o0 shc_14 rfl, fun U hU hW => ⟨rfl, hU, va_K.moved hW.alike hK, hE.call hS hFc hU hW⟩⟩ rfl rfl hl.1 rfl (lv_room (Nat.le_of_ble_eq_true rfl)) dL_job_9 ⟨(Nat.le_of_ble_eq_true rfl), (Nat.le_of_ble_eq_true rfl)⟩) hS (fun q _ h => hFc q h) hFc (fun q _ h => hFc q h) (fun E ce q9 u t H locs ht hvm _ hw2 _ _ hS hce hcv hcl => ?_) (fun r1 u t H locs ht hvm hw2 hB _ _ hS => ?_)
  · obtain ⟨hw2, hxf, hTx, hFx, hxm0, hxc0, hxc1, hxc2, hxc3⟩ := hw2; rw [ht] at hTx hFx hxm0 hxc0 hxc1 hxc2 hxc3
    have hT := hTx; have hF := hF.more hFx (by decide)
    subst hw2
    have hxf := hxf.2
    refine vx_catch (E := "java/lang/IllegalArgumentException") hown [] ⟨0, 14, 17, 15⟩ [] (by rw [htab]; rfl) (fun z h => absurd h List.not_mem_nil) (by decide) (by decide) (ht_at2 hts 26 rfl) (va_Nw.use rfl (hE.1.1.2.1.2.1 _ (List.mem_of_getElem? (i := 1) rfl))) hce hcv hcl ?_
    refine lv_astore (lv' := [(6, .ref q9), (0, .ref o0), (1, .int p1), (2, .int p2), (3, .int p3), (4, .int p4), (5, .ref ou)]) hx hb dL_job_17 hl (by decide) rfl (fun ls hl => ?_)
    refine lv_iconst (v := 1) hx hb dL_job_19 (by decide) ?_
    exact W.iret (v := 1) hx hb hr (fun t ht hW => ⟨⟨1, (jb, aC, aY, aB, aA), rfl, (by exact ⟨(rg_t (a := 1) (by decide) (by omega) (by omega)), (by have : (1 : Int32).toInt = 1 := (by decide); omega), (Or.inl ⟨by omega, by omega, rfl, rfl, rfl, rfl⟩)⟩), by (try dsimp only); rw [ht]; exact ⟨hT, hF, hxm0, hxc0, hxc1, hxc2, hxc3⟩⟩, hS.F ht⟩) hS.2.2 dL_job_20
  · obtain ⟨u3, u4, u5, u6, u7⟩ := u
    obtain ⟨hT, hF1, m8, m9, m10, m11, m12⟩ := hB
    rw [ht] at hT hF1 m8 m9 m10 m11 m12
    have m13 := (hF1.fld hr_o0 skc_14 (k := 5) (by decide) (by decide)).trans hm_pl
    have m15 := (hF1.fld hr_pl skc_8 (k := 5) (by decide) (by decide)).trans hm_xcs
    have m16 := (hF1.fld hr_pl skc_8 (k := 6) (by decide) (by decide)).trans hm_xls
    have m17 := (hF1.fld hr_pl skc_8 (k := 7) (by decide) (by decide)).trans hm_xin
    have m18 := (hF1.fld hr_pl skc_8 (k := 8) (by decide) (by decide)).trans hm_xac
    have hF := hF.more hF1 (by decide)
    try dsimp only at hw2
    obtain ⟨h23, hf24, hf25⟩ := hw2
    refine lv_i2l (v := r1.toInt64) hx hb dL_job_12 rfl ?_
    refine tw_last (i := 0)  hx hb hK hT hG hS hr_ou shc_98 rfl (by unfold vp_in; decide) ⟨_, rfl⟩ dL_job_13 (fun H locs hT oq m26 oi hS => ?_)
    have hF := hF.ast hr_ou skc_98 oq (by decide)
    have m27 := (el_kept (oq _ (gne hr_o0 hr_ou (by decide)))).trans m13
    have m28 := (el_kept (oq _ (gne hr_pl hr_ou (by decide)))).trans m15
    have m29 := (el_kept (oq _ (gne hr_pl hr_ou (by decide)))).trans m16
    have m30 := (el_kept (oq _ (gne hr_pl hr_ou (by decide)))).trans m17
    have m31 := (el_kept (oq _ (gne hr_pl hr_ou (by decide)))).trans m18
    have m32 := (el_kept (oq _ (gne hr_pl hr_ou (by decide)))).trans m8
    have m33 := m9.kept (oq _ (gne hr_xcs hr_ou (by decide)))
    have m34 := m10.kept (oq _ (gne hr_xls hr_ou (by decide)))
    have m35 := m11.kept (oq _ (gne hr_xin hr_ou (by decide)))
    have m36 := m12.kept (oq _ (gne hr_xac hr_ou (by decide)))
    refine lv_goto (tgt := 21) hx hb dL_job_14 (by decide) ?_
    refine lv_iconst (v := 0) hx hb dL_job_21 (by decide) ?_
    exact W.iret (v := 0) hx hb hr (fun t ht hW => ⟨⟨0, (u3, u4, u5, u6, u7), rfl, (by exact ⟨(rg_t (a := 0) (by decide) (by omega) (by omega)), (by have : (0 : Int32).toInt = 0 := (by decide); omega), (Or.inr ⟨by omega, by rcases hf25 with ⟨q1, q2, q3, q4, q5, q6, q7⟩ | ⟨q1, q2, q3, q4, q5, q6, q7⟩; exact Or.inl ⟨q1, q3, q4, q5, q6, q7⟩; exact Or.inr ⟨q1, q3, q4, q5, q6, q7⟩⟩)⟩), by (try dsimp only); rw [ht]; exact ⟨hT, hF, m32, m33, m34, m35, m36⟩⟩, hS.F ht⟩) hS.2.2 dL_job_22
def w_l_orderC : List Cond := .codeWith yL_order cL_order 5 (some .int) [(0, 10, 13, 15)] :: (HAppend.hAppend (α := List Cond) (β := List Cond) (γ := List Cond) [.code yX11_order cX11_order 3 (some .int), .constant RX11 411 1000000, .code yX11_within cX11_within 3 (some .boolean), .methodLink RX11 58 yX11_within, .static yX11_within, .initialized RX11, .code yX11_needNumbers cX11_needNumbers 1 none, .classLink RX11 547 "java/lang/IllegalArgumentException", .initialized "java/lang/IllegalArgumentException", .methodLink RX11 62 yX11_needNumbers, .static yX11_needNumbers, .fieldLink RX11 43 "SeaLand" "plans" "LSeaLand$Plans;", .code yX5_findOrder cX5_findOrder 2 none, .fieldLink RX5 157 "SeaLand$Plans" "bestLate" "I", .code yX5_tryOrders cX5_tryOrders 11 none, .fieldLink RX5 154 "SeaLand$Plans" "jobs" "I", .fieldLink RX5 41 "SeaLand$Plans" "placed" "[Z", .fieldLink RX5 29 "SeaLand$Plans" "costs" "[I", .code yX5_yearWithCost cX5_yearWithCost 5 (some .int), .methodLink RX5 164 yX5_yearWithCost, .static yX5_yearWithCost, .initialized RX5, .fieldLink RX5 32 "SeaLand$Plans" "lasts" "[I", .fieldLink RX5 45 "SeaLand$Plans" "trial" "[I", .fieldLink RX5 35 "SeaLand$Plans" "incomes" "[I", .fieldLink RX5 38 "SeaLand$Plans" "acres" "[I", .fieldLink RX5 48 "SeaLand$Plans" "best" "[I", .methodLink RX5 100 arraycopyName, .native arraycopyName, .static arraycopyName, .initialized "java/lang/System", .methodLink RX5 160 yX5_tryOrders, .instanceMethod yX5_tryOrders, .selects RX5 yX5_tryOrders yX5_tryOrders, .methodLink RX11 484 yX5_findOrder, .instanceMethod yX5_findOrder, .selects RX5 yX5_findOrder yX5_findOrder, .methodLink RL 160 yX11_order, .instanceMethod yX11_order, .selects RX11 yX11_order yX11_order, .classLink RL 15 "java/lang/IllegalArgumentException"] bs2)
set_option maxHeartbeats 4000000 in
set_option maxRecDepth 100000 in
theorem l_orderC (l : Launch) (hlt : l.stackTraces = false) (dC : Nat → ClassId) (dI : Nat → Nat → Nat) (kA : Nat → ClassId) (adK adV : Nat → Nat) (G : gT) (H0 : Heap) (nC nS : Int) (o0 : Nat) (p1 : Int32) (p2 : Int32) (ou : Nat) (pl : Nat) (jb : Int32) (xcs : Nat) (xls : Nat) (xin : Nat) (xac : Nat) (xpd : Nat) (xtr : Nat) (xbe : Nat) (aC : Nat → Int32) (aY : Nat → Int32) (aB : Nat → Int32) (aA : Nat → Int32) (vP : Nat → Int32) (vR : Nat → Int32) (vZ : Nat → Int32) (hT : gH (dC, dI) kA (SHc nC nS) G H0) (hr_o0 : G o0 = some 14) (hr_ou : G ou = some 98) (hm_pl : el H0 o0 (dI 14 5) = some (.ref pl)) (hr_pl : G pl = some 8) (hm_jb : el H0 pl (dI 8 15) = some (.int jb)) (hm_xcs : el H0 pl (dI 8 5) = some (.ref xcs)) (hr_xcs : G xcs = some 63) (hm_xls : el H0 pl (dI 8 6) = some (.ref xls)) (hr_xls : G xls = some 64) (hm_xin : el H0 pl (dI 8 7) = some (.ref xin)) (hr_xin : G xin = some 65) (hm_xac : el H0 pl (dI 8 8) = some (.ref xac)) (hr_xac : G xac = some 66) (hm_xpd : el H0 pl (dI 8 9) = some (.ref xpd)) (hr_xpd : G xpd = some 67) (hm_xtr : el H0 pl (dI 8 10) = some (.ref xtr)) (hr_xtr : G xtr = some 68) (hm_xbe : el H0 pl (dI 8 11) = some (.ref xbe)) (hr_xbe : G xbe = some 69) (hq0 : 0 ≤ jb.toInt ∧ jb.toInt ≤ 7) (hc_aC : ct H0 xcs 7 aC) (hc_aY : ct H0 xls 7 aY) (hc_aB : ct H0 xin 7 aB) (hc_aA : ct H0 xac 7 aA) (hc_vP : ct H0 xpd 7 vP) (hc_vR : ct H0 xtr 7 vR) (hc_vZ : ct H0 xbe 7 vZ) (hrg : joR jb.toInt aC aY aB aA) (hP : vP = fun _ => 0) (hgC : 0 ≤ nC ∧ nC ≤ 40) (hgS : 0 ≤ nS ∧ nS ≤ 60) : Met l yL_order w_l_orderC ({ frames := 12, cells := 1, slots := 6, locals := 343 }) (va_Pc [.ref o0, .int p1, .int p2, .ref ou] (fun U => U.heap = H0 ∧ va_K (dC, dI) vwCl (tyl kA) U ∧ EVC adK adV (gA G H0.size) U U.heap ∧ NC U)) (va_Qi (fun (r : Int32) (u : Int32 × Int32 × (Nat → Int32)) => match u with | (c1, a1, P1) => (0 ≤ r.toInt ∧ r.toInt ≤ 1 ∧ c1.toInt = r.toInt) ∧ (r.toInt = orC p1.toInt) ∧ (P1 = vP) ∧ (orC p1.toInt = 0 → a1.toInt = orV jb.toInt aC aY aB aA p1.toInt p2.toInt)) (fun (u : Int32 × Int32 × (Nat → Int32)) (t : State) => match u with | (c1, a1, P1) => gH (dC, dI) kA (SHc nC nS) G t.heap ∧ gF (dC, dI) SKc G ([(8, 16), (67, 0), (68, 0), (69, 0), (98, 0)] : List (Nat × Nat)) H0 t.heap ∧ ct t.heap xpd 7 P1 ∧ (c1 = 0 → el t.heap ou 0 = some (.long a1.toInt64))) (gA G H0.size)) 1 6 (gA G H0.size) := by
  refine va_MetW (cc := cL_order) (maxL := 5) (ret := (some .int)) (by decide) rfl ?_
  intro p e s m args below meth c s₁ B hml hv
  obtain ⟨rfl, hH0, hK, hE, hN⟩ := hv
  have hx := B.exec
  have hb := B.bytes
  have hr := B.returns
  have hts := atoms_spec (ws := w_l_orderC) B.pre
  have hown : s.vm.findClass RL = some m.cls := findClass_of_methodNamed B.named
  have hlocks := B.notSynchronized
  have htab := vx_table (x := yL_order) B (hts _ List.mem_cons_self)
  subst hH0
  generalize hAe : gA G s.heap.size = A at hE ⊢
  have hA : ∀ q : Nat, s.heap.size ≤ q → A q := fun q h => by rw [← hAe]; exact Or.inr h
  have hG := gA_of hAe
  have hS : va_S A s.heap s.heap [] := va_S.rf
  have hF : gF (dC, dI) SKc G ([(8, 16), (67, 0), (68, 0), (69, 0), (98, 0)] : List (Nat × Nat)) s.heap s.heap := gF.rf
  have hl := lv_entry ([.ref o0, .int p1, .int p2, .ref ou]) (n := 5) (Nat.le_of_ble_eq_true rfl)
  rw [lg_entry_eq]
  generalize (lg_sl ([.ref o0, .int p1, .int p2, .ref ou]) ++ List.replicate (5 - (lg_sl ([.ref o0, .int p1, .int p2, .ref ou])).length) Slot.unset).toArray = ls at hl ⊢
  have hl : lv_has ls 5 [(0, .ref o0), (1, .int p1), (2, .int p2), (3, .ref ou)] := hl
  refine lv_aload_n hx hb dL_order_0 rfl (lv_at hl 3 rfl) ?_
  refine lv_iconst (v := 0) hx hb dL_order_1 (by decide) ?_
  refine lv_aload_n hx hb dL_order_2 rfl (lv_at hl 0 rfl) ?_
  refine lv_iload_n hx hb dL_order_3 rfl (lv_at hl 1 rfl) ?_
  refine lv_iload_n hx hb dL_order_4 rfl (lv_at hl 2 rfl) ?_
  have hFc := gA_free hG hA hS
  refine vx_calli (vx_runV (As := [.int p1, .int p2]) (rest := [.int 0, .ref ou]) ⟨hx, hb, hml, hown, hts⟩ (c_orderC l hlt dC dI kA adK adV G s.heap nC nS o0 p1 p2 pl jb xcs xls xin xac xpd xtr xbe aC aY aB aA vP vR vZ hT hr_o0 hm_pl hr_pl hm_jb hm_xcs hr_xcs hm_xls hr_xls hm_xin hr_xin hm_xac hr_xac hm_xpd hr_xpd hm_xtr hr_xtr hm_xbe hr_xbe (by have q8 := ti_all jb; omega) hrg hP hc_aC hc_aY hc_aB hc_aA hc_vP hc_vR hc_vZ (by omega) (by omega)) (cwV 2 hts (goodIn_app (goodIn_r _ [38, 39, 40, 6] rfl (by decide +kernel)) (goodIn_ca (goodIn_r _ [1, 2, 3, 4, 5, 6, 7, 8, 9, 10, 11, 12, 13, 14, 15, 16, 17, 18, 19, 20, 21, 22, 23, 24, 25, 26, 27, 28, 29, 30, 31, 32, 33, 34, 35, 36, 37] rfl (by decide +kernel)) (bs2_in _ _))) rfl rfl rfl (by decide +kernel) ⟨(Nat.le_of_ble_eq_true rfl), (Nat.le_of_ble_eq_true rfl)⟩) ⟨fun a U g mk q => by obtain ⟨q0, q1, qK, qE⟩ := q; exact ⟨q0, q1, va_K.moved (u := U) (U := U.calling g mk a) (Vm.Alike.refl U.vm) qK, EVC.blind g mk a qE⟩, gH_recv hK hT hr_o0 shc_14 rfl, fun U hU hW => ⟨rfl, hU, va_K.moved hW.alike hK, hE.call hS hFc hU hW⟩⟩ rfl rfl hl.1 rfl (lv_room (Nat.le_of_ble_eq_true rfl)) dL_order_5 ⟨(Nat.le_of_ble_eq_true rfl), (Nat.le_of_ble_eq_true rfl)⟩) hS (fun q _ h => hFc q h) hFc (fun q _ h => hFc q h) (fun E ce q9 u t H locs ht hvm _ hw2 _ _ hS hce hcv hcl => ?_) (fun r1 u t H locs ht hvm hw2 hB _ _ hS => ?_)
  · obtain ⟨hw2, hxf, hTx, hFx, hxc0⟩ := hw2; rw [ht] at hTx hFx hxc0
    have hT := hTx; have hF := hF.more hFx (by decide)
    subst hw2
    have hxf := hxf.2
    refine vx_catch (E := "java/lang/IllegalArgumentException") hown [] ⟨0, 10, 13, 15⟩ [] (by rw [htab]; rfl) (fun z h => absurd h List.not_mem_nil) (by decide) (by decide) (ht_at2 hts 40 rfl) (va_Nw.use rfl (hE.1.1.2.1.2.1 _ (List.mem_of_getElem? (i := 1) rfl))) hce hcv hcl ?_
    refine lv_astore (lv' := [(4, .ref q9), (0, .ref o0), (1, .int p1), (2, .int p2), (3, .ref ou)]) hx hb dL_order_13 hl (by decide) rfl (fun ls hl => ?_)
    refine lv_iconst (v := 1) hx hb dL_order_15 (by decide) ?_
    exact W.iret (v := 1) hx hb hr (fun t ht hW => ⟨⟨1, ((1 : Int32), (0 : Int32), vP), rfl, (by exact ⟨(by have : (0 : Int32).toInt = 0 := (by decide); have : (1 : Int32).toInt = 1 := (by decide); exact ⟨by omega, by omega, rfl⟩), (by have : (0 : Int32).toInt = 0 := (by decide); have : (1 : Int32).toInt = 1 := (by decide); omega), rfl, (fun h => absurd h (by have : 1 ≠ (0 : Int) := (by decide); omega))⟩), by (try dsimp only); rw [ht]; exact ⟨hT, hF, hxc0, (fun h => absurd h (by decide))⟩⟩, hS.F ht⟩) hS.2.2 dL_order_16
  · obtain ⟨hT, hF1, m3⟩ := hB
    rw [ht] at hT hF1 m3
    have m4 := (hF1.fld hr_o0 skc_14 (k := 5) (by decide) (by decide)).trans hm_pl
    have m5 := (hF1.fld hr_pl skc_8 (k := 15) (by decide) (by decide)).trans hm_jb
    have m6 := (hF1.fld hr_pl skc_8 (k := 5) (by decide) (by decide)).trans hm_xcs
    have m7 := (hF1.fld hr_pl skc_8 (k := 6) (by decide) (by decide)).trans hm_xls
    have m8 := (hF1.fld hr_pl skc_8 (k := 7) (by decide) (by decide)).trans hm_xin
    have m9 := (hF1.fld hr_pl skc_8 (k := 8) (by decide) (by decide)).trans hm_xac
    have m10 := (hF1.fld hr_pl skc_8 (k := 9) (by decide) (by decide)).trans hm_xpd
    have m11 := (hF1.fld hr_pl skc_8 (k := 10) (by decide) (by decide)).trans hm_xtr
    have m12 := (hF1.fld hr_pl skc_8 (k := 11) (by decide) (by decide)).trans hm_xbe
    have m13 := hc_aC.kept (hF1.arr hr_xcs skc_63 (by decide))
    have m14 := hc_aY.kept (hF1.arr hr_xls skc_64 (by decide))
    have m15 := hc_aB.kept (hF1.arr hr_xin skc_65 (by decide))
    have m16 := hc_aA.kept (hF1.arr hr_xac skc_66 (by decide))
    have hF := hF.more hF1 (by decide)
    try dsimp only at hw2
    obtain ⟨hf20, hf21⟩ := hw2
    refine lv_i2l (v := r1.toInt64) hx hb dL_order_8 rfl ?_
    refine tw_last (i := 0)  hx hb hK hT hG hS hr_ou shc_98 rfl (by unfold vp_in; decide) ⟨_, rfl⟩ dL_order_9 (fun H locs hT oq m22 oi hS => ?_)
    have hF := hF.ast hr_ou skc_98 oq (by decide)
    have m23 := (el_kept (oq _ (gne hr_o0 hr_ou (by decide)))).trans m4
    have m24 := (el_kept (oq _ (gne hr_pl hr_ou (by decide)))).trans m5
    have m25 := (el_kept (oq _ (gne hr_pl hr_ou (by decide)))).trans m6
    have m26 := (el_kept (oq _ (gne hr_pl hr_ou (by decide)))).trans m7
    have m27 := (el_kept (oq _ (gne hr_pl hr_ou (by decide)))).trans m8
    have m28 := (el_kept (oq _ (gne hr_pl hr_ou (by decide)))).trans m9
    have m29 := (el_kept (oq _ (gne hr_pl hr_ou (by decide)))).trans m10
    have m30 := (el_kept (oq _ (gne hr_pl hr_ou (by decide)))).trans m11
    have m31 := (el_kept (oq _ (gne hr_pl hr_ou (by decide)))).trans m12
    have m32 := m13.kept (oq _ (gne hr_xcs hr_ou (by decide)))
    have m33 := m14.kept (oq _ (gne hr_xls hr_ou (by decide)))
    have m34 := m15.kept (oq _ (gne hr_xin hr_ou (by decide)))
    have m35 := m16.kept (oq _ (gne hr_xac hr_ou (by decide)))
    have m36 := m3.kept (oq _ (gne hr_xpd hr_ou (by decide)))
    refine lv_goto (tgt := 17) hx hb dL_order_10 (by decide) ?_
    refine lv_iconst (v := 0) hx hb dL_order_17 (by decide) ?_
    exact W.iret (v := 0) hx hb hr (fun t ht hW => ⟨⟨0, ((0 : Int32), r1, vP), rfl, (by exact ⟨(by have : (0 : Int32).toInt = 0 := (by decide); exact ⟨by omega, by omega, rfl⟩), (by have : (0 : Int32).toInt = 0 := (by decide); omega), rfl, (fun _ => by have : (0 : Int32).toInt = 0 := (by decide); have h9 := hf21; first | exact h9 | omega)⟩), by (try dsimp only); rw [ht]; exact ⟨hT, hF, m36, (fun _ => m22)⟩⟩, hS.F ht⟩) hS.2.2 dL_order_18
