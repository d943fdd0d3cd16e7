set_option maxHeartbeats 4000000 in
set_option maxRecDepth 100000 in
theorem s_sumOut (l : Launch) (dC : Nat → ClassId) (dI : Nat → Nat → Nat) (kA : Nat → ClassId) (adK adV : Nat → Nat) (G : gT) (H0 : Heap) (q : Nat → Nat) (wZ wN : Nat → Int) (wH wB wC : Int) (wL wK : Nat → Prop) (wU wV : Nat → Nat) (PI : Nat → Int → Prop) (im : Int) (PM PT : Nat → Int → Prop) (lS lB lE : Nat → Nat → Int → Prop) (lN : Nat → Int) (o0 : Nat) (pe : Int32) (vH : Nat → Int32) (vG : Nat → Int32) (vA : Nat → Int32) (vD : Nat → Int32) (vC : Nat → Int32) (vU : Nat → Int32) (vI : Nat → Int32) (vM : Nat → Int32) (vW : Nat → Int32) (fL : Nat → Int64) (vQ : Nat → Int64) (vO : Nat → Int32) (vB : Nat → Int32) (vX : Nat → Int32) (vS : Nat → Int32) (vN : Nat → Int32) (vL : Nat → Int32) (A9 : zAl) (hT : gH (dC, dI) kA (SHm q (wP wZ wN wH wB wC wL wK wU wV) PI im PM PT lS lB lE lN) G H0) (hr_o0 : G o0 = some 0) (hq0 : 0 ≤ pe.toInt ∧ pe.toInt ≤ 59) (hno : (vH pe.toNatClampNeg).toInt < 0) (hfo : zFo A9 vL vO vB vX vS vN) (hzk : ∀ e ∈ A9, zok e.2) (hc_vH : ct H0 (q 38) 60 vH) (hc_vG : ct H0 (q 39) 60 vG) (hc_vA : ct H0 (q 31) 60 vA) (hc_vD : ct H0 (q 32) 60 vD) (hc_vC : ct H0 (q 33) 60 vC) (hc_vU : ct H0 (q 34) 60 vU) (hc_vI : ct H0 (q 35) 60 vI) (hc_vM : ct H0 (q 36) 60 vM) (hc_vW : ct H0 (q 40) 60 vW) (hc_fL : ctl H0 (q 30) 10 fL) (hc_vQ : ctl H0 (q 29) 400 vQ) (hc_vO : ct H0 (q 19) 60 vO) (hc_vB : ct H0 (q 24) 60 vB) (hc_vX : ct H0 (q 25) 60 vX) (hc_vS : ct H0 (q 26) 1200 vS) (hc_vN : ct H0 (q 27) 1200 vN) (hc_vL : ct H0 (q 18) 3 vL) (hgz : ∀ i, 0 ≤ wZ i) (hgn : ∀ i, 6500000 ≤ wN i ∧ wN i ≤ 20200000) (hgh : 0 ≤ wH ∧ wH ≤ 40000) (hgb : 0 ≤ wB ∧ wB ≤ 3850000) (hgc : 0 ≤ wC ∧ wC ≤ 30) (hgi : 0 ≤ im ∧ im ≤ 1) (hgu : ∀ a t, G a = some (t + 1) → a = q t) : Met l yX12_sumOf w_s_sumOut ({ frames := 2, cells := 0, slots := 0, locals := 68 }) (va_Pc [.ref o0, .int pe, .int 6] (fun U => U.heap = H0 ∧ va_K (dC, dI) vwCl (tyl kA) U ∧ EVS adK adV (gA G H0.size) U U.heap)) (va_Ql (fun (r : Int64) (u : Unit) => ((r.toInt = 0 ∧ ¬ zOut [0, (vG pe.toNatClampNeg).toInt, (vA pe.toNatClampNeg).toInt, (vD pe.toNatClampNeg).toInt, (vC pe.toNatClampNeg).toInt, (vU pe.toNatClampNeg).toInt, (vI pe.toNatClampNeg).toInt, (vM pe.toNatClampNeg).toInt, 99, (vW pe.toNatClampNeg).toInt] A9) ∨ (0 < r.toInt ∧ zOut [0, (vG pe.toNatClampNeg).toInt, (vA pe.toNatClampNeg).toInt, (vD pe.toNatClampNeg).toInt, (vC pe.toNatClampNeg).toInt, (vU pe.toNatClampNeg).toInt, (vI pe.toNatClampNeg).toInt, (vM pe.toNatClampNeg).toInt, 99, (vW pe.toNatClampNeg).toInt] A9))) (fun (_ : Unit) (t : State) => gH (dC, dI) kA (SHm q (wP wZ wN wH wB wC wL wK wU wV) PI im PM PT lS lB lE lN) G t.heap ∧ gF (dC, dI) SKm G ([(30, 0), (31, 0)] : List (Nat × Nat)) H0 t.heap) (gA G H0.size)) 0 0 (gA G H0.size) := by
  refine Met.ofW (cc := cX12_sumOf) (maxL := 6) (ret := (some .long)) (by decide) rfl ?_
  intro p e s m args below meth c s₁ B hml hv
  obtain ⟨rfl, hH0, hK, hE⟩ := hv
  have hx := B.exec
  have hb := B.bytes
  have hr := B.returns
  have hts := atoms_spec (ws := w_s_sumOut) B.pre
  have hown : s.vm.findClass RX12 = some m.cls := findClass_of_methodNamed B.named
  have hlocks := B.notSynchronized
  subst hH0
  generalize hAe : gA G s.heap.size = A at hE ⊢
  have hA : ∀ q : Nat, s.heap.size ≤ q → A q := fun q h => by rw [← hAe]; exact Or.inr h
  have hG := gA_of hAe
  have hS : va_S A s.heap s.heap [] := va_S.rf
  have hF : gF (dC, dI) SKm G ([(30, 0), (31, 0)] : List (Nat × Nat)) s.heap s.heap := gF.rf
  have hl := lv_entry ([.ref o0, .int pe, .int 6]) (n := 6) (Nat.le_of_ble_eq_true rfl)
  rw [lg_entry_eq]
  generalize (lg_sl ([.ref o0, .int pe, .int 6]) ++ List.replicate (6 - (lg_sl ([.ref o0, .int pe, .int 6])).length) Slot.unset).toArray = ls at hl ⊢
  have hl : lv_has ls 6 [(0, .ref o0), (1, .int pe), (2, .int 6)] := hl
  have hg1 : G (q 38) = some 39 := gx_of hT hr_o0 shm_0 (k := 38) (by decide) rfl
  have hg2 : G (q 39) = some 40 := gx_of hT hr_o0 shm_0 (k := 39) (by decide) rfl
  have hg3 : G (q 31) = some 32 := gx_of hT hr_o0 shm_0 (k := 31) (by decide) rfl
  have hg4 : G (q 32) = some 33 := gx_of hT hr_o0 shm_0 (k := 32) (by decide) rfl
  have hg5 : G (q 33) = some 34 := gx_of hT hr_o0 shm_0 (k := 33) (by decide) rfl
  have hg6 : G (q 34) = some 35 := gx_of hT hr_o0 shm_0 (k := 34) (by decide) rfl
  have hg7 : G (q 35) = some 36 := gx_of hT hr_o0 shm_0 (k := 35) (by decide) rfl
  have hg8 : G (q 36) = some 37 := gx_of hT hr_o0 shm_0 (k := 36) (by decide) rfl
  have hg9 : G (q 40) = some 41 := gx_of hT hr_o0 shm_0 (k := 40) (by decide) rfl
  have hg10 : G (q 30) = some 31 := gx_of hT hr_o0 shm_0 (k := 30) (by decide) rfl
  have hg11 : G (q 29) = some 30 := gx_of hT hr_o0 shm_0 (k := 29) (by decide) rfl
  have hg12 : G (q 19) = some 20 := gx_of hT hr_o0 shm_0 (k := 19) (by decide) rfl
  have hg13 : G (q 24) = some 25 := gx_of hT hr_o0 shm_0 (k := 24) (by decide) rfl
  have hg14 : G (q 25) = some 26 := gx_of hT hr_o0 shm_0 (k := 25) (by decide) rfl
  have hg15 : G (q 26) = some 27 := gx_of hT hr_o0 shm_0 (k := 26) (by decide) rfl
  have hg16 : G (q 27) = some 28 := gx_of hT hr_o0 shm_0 (k := 27) (by decide) rfl
  have hg17 : G (q 18) = some 19 := gx_of hT hr_o0 shm_0 (k := 18) (by decide) rfl
  refine lv_aload_n hx hb dX12_sumOf_0 rfl (lv_at hl 0 rfl) ?_
  refine lv_iload_n hx hb dX12_sumOf_1 rfl (lv_at hl 1 rfl) ?_
  have hFc := gA_free hG hA hS
  refine va_callv (va_runV (As := [.int pe]) (rest := []) ⟨hx, hb, hml, hown, hts⟩ (s_looksAtZ l dC dI kA adK adV G s.heap q wZ wN wH wB wC wL wK wU wV PI im PM PT lS lB lE lN o0 pe vH vG vA vD vC vU vI vM vW fL hT hr_o0 (by have q8 := ti_all pe; omega) hno hc_vH hc_vG hc_vA hc_vD hc_vC hc_vU hc_vI hc_vM hc_vW hc_fL hgz hgn hgh hgb hgc hgi hgu) (cwV 1 hts (goodIn_app (goodIn_r _ [21, 22, 23, 8] rfl (by decide +kernel)) (goodIn_ca (goodIn_r _ [1, 2, 3, 4, 5, 6, 7, 8, 9, 10, 11, 12, 13, 14, 15, 16, 17, 18, 19, 20] rfl (by decide +kernel)) (bs_in _ _))) rfl rfl rfl (by decide +kernel) ⟨(Nat.le_of_ble_eq_true rfl), (Nat.le_of_ble_eq_true rfl)⟩) ⟨fun a U g mk q => by obtain ⟨q0, q1, qK, qE⟩ := q; exact ⟨q0, q1, va_K.moved (u := U) (U := U.calling g mk a) (Vm.Alike.refl U.vm) qK, EVS.blind g mk a qE⟩, gH_rc hK hT hr_o0 shm_0 rfl, fun U hU hW => ⟨rfl, hU, va_K.moved hW.alike hK, hE.call hS hFc hU hW⟩⟩ rfl rfl hl.1 rfl (lv_room (Nat.le_of_ble_eq_true rfl)) dX12_sumOf_2 ⟨(Nat.le_of_ble_eq_true rfl), (Nat.le_of_ble_eq_true rfl)⟩) hS (fun q _ h => hFc q h) hFc (fun u t H locs ht hvm hw19 hB _ _ hS => ?_)
  obtain ⟨u20, rfl⟩ : ∃ z, z = u := ⟨_, rfl⟩
  obtain ⟨hT, hF1, m21⟩ := hB
  rw [ht] at hT hF1 m21
  have m22 := hc_vH.kept (hF1.arr hg1 skm_39 (by decide))
  have m23 := hc_vG.kept (hF1.arr hg2 skm_40 (by decide))
  have m24 := hc_vA.kept (hF1.arr hg3 skm_32 (by decide))
  have m25 := hc_vD.kept (hF1.arr hg4 skm_33 (by decide))
  have m26 := hc_vC.kept (hF1.arr hg5 skm_34 (by decide))
  have m27 := hc_vU.kept (hF1.arr hg6 skm_35 (by decide))
  have m28 := hc_vI.kept (hF1.arr hg7 skm_36 (by decide))
  have m29 := hc_vM.kept (hF1.arr hg8 skm_37 (by decide))
  have m30 := hc_vW.kept (hF1.arr hg9 skm_41 (by decide))
  have m33 := hc_vO.kept (hF1.arr hg12 skm_20 (by decide))
  have m34 := hc_vB.kept (hF1.arr hg13 skm_25 (by decide))
  have m35 := hc_vX.kept (hF1.arr hg14 skm_26 (by decide))
  have m36 := hc_vS.kept (hF1.arr hg15 skm_27 (by decide))
  have m37 := hc_vN.kept (hF1.arr hg16 skm_28 (by decide))
  have m38 := hc_vL.kept (hF1.arr hg17 skm_19 (by decide))
  have hF := hF.more hF1 (by decide)
  try dsimp only at hw19
  have hf39 := hw19
  refine lv_lconst (v := 0) hx hb dX12_sumOf_5 (by decide) ?_
  refine lv_lstore_n (lv' := [(3, .long 0), (0, .ref o0), (1, .int pe), (2, .int 6)]) hx hb dX12_sumOf_6 rfl hl (by decide) rfl (fun ls hl => ?_)
  refine lv_iconst (v := 0) hx hb dX12_sumOf_7 (by decide) ?_
  refine lv_istore (lv' := [(5, .int 0), (3, .long 0), (0, .ref o0), (1, .int pe), (2, .int 6)]) hx hb dX12_sumOf_8 hl (by decide) rfl (fun ls hl => ?_)
  have key176 : ∀ (n176 i40 : Nat), i40 + n176 = 20 → 0 ≤ i40 → ∀ (y108 : Int64), (((y108.toInt = 0 ∧ ¬ zOl [0, (vG pe.toNatClampNeg).toInt, (vA pe.toNatClampNeg).toInt, (vD pe.toNatClampNeg).toInt, (vC pe.toNatClampNeg).toInt, (vU pe.toNatClampNeg).toInt, (vI pe.toNatClampNeg).toInt, (vM pe.toNatClampNeg).toInt, 99, (vW pe.toNatClampNeg).toInt] A9 i40) ∨ (0 < y108.toInt ∧ zOl [0, (vG pe.toNatClampNeg).toInt, (vA pe.toNatClampNeg).toInt, (vD pe.toNatClampNeg).toInt, (vC pe.toNatClampNeg).toInt, (vU pe.toNatClampNeg).toInt, (vI pe.toNatClampNeg).toInt, (vM pe.toNatClampNeg).toInt, 99, (vW pe.toNatClampNeg).toInt] A9 i40)) ∧ (0 ≤ y108.toInt ∧ y108.toInt ≤ ((i40 : Nat) : Int)) ∧ (((i40 : Nat) : Int) ≤ (vL 0).toInt)) → ∀ (H : Heap) (locs : List Loc), gH (dC, dI) kA (SHm q (wP wZ wN wH wB wC wL wK wU wV) PI im PM PT lS lB lE lN) G H → gF (dC, dI) SKm G ([(30, 0), (31, 0)] : List (Nat × Nat)) s.heap H → va_S A s.heap H locs → ct H (q 38) 60 vH → ct H (q 39) 60 vG → ct H (q 31) 60 vA → ct H (q 32) 60 vD → ct H (q 33) 60 vC → ct H (q 34) 60 vU → ct H (q 35) 60 vI → ct H (q 36) 60 vM → ct H (q 40) 60 vW → ct H (q 19) 60 vO → ct H (q 24) 60 vB → ct H (q 25) 60 vX → ct H (q 26) 1200 vS → ct H (q 27) 1200 vN → ct H (q 18) 3 vL → ctl H (q 30) 10 u20 → ∀ ls : Array Slot, lv_has ls 6 [(5, .int (nI i40)), (3, .long y108), (0, .ref o0), (1, .int pe), (2, .int 6)] → W p l e (headSpec w_s_sumOut ({ frames := 2, cells := 0, slots := 0, locals := 68 })).room s m #[.ref o0, .int pe, .int 6] below meth c H locs 0 0 (MQ below (va_Ql (fun (r : Int64) (u : Unit) => ((r.toInt = 0 ∧ ¬ zOut [0, (vG pe.toNatClampNeg).toInt, (vA pe.toNatClampNeg).toInt, (vD pe.toNatClampNeg).toInt, (vC pe.toNatClampNeg).toInt, (vU pe.toNatClampNeg).toInt, (vI pe.toNatClampNeg).toInt, (vM pe.toNatClampNeg).toInt, 99, (vW pe.toNatClampNeg).toInt] A9) ∨ (0 < r.toInt ∧ zOut [0, (vG pe.toNatClampNeg).toInt, (vA pe.toNatClampNeg).toInt, (vD pe.toNatClampNeg).toInt, (vC pe.toNatClampNeg).toInt, (vU pe.toNatClampNeg).toInt, (vI pe.toNatClampNeg).toInt, (vM pe.toNatClampNeg).toInt, 99, (vW pe.toNatClampNeg).toInt] A9))) (fun (_ : Unit) (t : State) => gH (dC, dI) kA (SHm q (wP wZ wN wH wB wC wL wK wU wV) PI im PM PT lS lB lE lN) G t.heap ∧ gF (dC, dI) SKm G ([(30, 0), (31, 0)] : List (Nat × Nat)) s.heap t.heap) A) #[.ref o0, .int pe, .int 6] s 0 0 A) (F0 m 10 ls []) := by
    intro n176
    induction n176 with
    | zero =>
      intro i40 hn176 hlo177 y108 ⟨hj125, hj126, hj127⟩ H locs hT hF hS m109 m110 m111 m112 m113 m114 m115 m116 m117 m118 m119 m120 m121 m122 m123 m124 ls hl
      obtain rfl : 20 = i40 := by omega
      refine lv_iload hx hb dX12_sumOf_10 (lv_at hl 0 rfl) ?_
      refine lv_aload_n hx hb dX12_sumOf_12 rfl (lv_at hl 2 rfl) ?_
      refine tw_get hx hb hts bF_X12 hown hK hT hr_o0 shm_0 rfl 18 (by decide) (ht_at hts 23 rfl) (fun _ h9 => h9) dX12_sumOf_13 (fun v9 m178 h9 => ?_)
      obtain ⟨rfl, hg179⟩ := h9 _ rfl
      refine lv_iconst (v := 0) hx hb dX12_sumOf_16 (by decide) ?_
      refine tw_iald (i := 0) hx hb hK hT hg17 shm_19 rfl (by unfold vp_in; decide) dX12_sumOf_17 (fun v9 m180 h9 => ?_)
      obtain ⟨x181, rfl, gx181, kx181⟩ := (gn_at h9)
      have cx181 := m123.at m180 (by have q9 := tn_of (show (0 : Int32).toInt = 0 from (by decide)) (by omega); omega)
      have sl182 : x181.toInt = (vL 0).toInt := by rw [cx181]; exact congrArg (fun k => (vL k).toInt) (by decide)
      refine lv_icmp_ge (tgt := 67) hx hb dX12_sumOf_18 (by decide) (fun c183 => ?_) (fun c183 => (by exfalso; have q9 : ((20 : Nat) : Int) < x181.toInt := ti_nle c183 rfl (nI_toInt (by omega)); omega))
      have t184 : x181.toInt ≤ ((20 : Nat) : Int) := ti_le c183 rfl (nI_toInt (by omega))
      refine lv_lload_n hx hb dX12_sumOf_67 rfl (lv_at hl 1 rfl) ?_
      exact W.lret (v := y108) hx hb hr (fun t ht hW => ⟨⟨y108, (), rfl, (by exact (by have e9 : 20 = A9.length := (by have := hfo.1; have := hfo.2.1; have l9 := sl182; omega); rcases hj125 with ⟨h8, h7⟩ | ⟨h8, h7⟩ <;> rw [e9] at h7; (exact Or.inl ⟨h8, h7⟩); exact Or.inr ⟨h8, h7⟩)), by (try dsimp only); rw [ht]; exact ⟨hT, hF⟩⟩, hS.F ht⟩) hS.2.2 dX12_sumOf_68
    | succ n176 ih176 =>
      intro i40 hn176 hlo177 y108 ⟨hj125, hj126, hj127⟩ H locs hT hF hS m109 m110 m111 m112 m113 m114 m115 m116 m117 m118 m119 m120 m121 m122 m123 m124 ls hl
      have hlt184 : i40 < 20 := by omega
      refine lv_iload hx hb dX12_sumOf_10 (lv_at hl 0 rfl) ?_
      refine lv_aload_n hx hb dX12_sumOf_12 rfl (lv_at hl 2 rfl) ?_
      refine tw_get hx hb hts bF_X12 hown hK hT hr_o0 shm_0 rfl 18 (by decide) (ht_at hts 23 rfl) (fun _ h9 => h9) dX12_sumOf_13 (fun v9 m185 h9 => ?_)
      obtain ⟨rfl, hg186⟩ := h9 _ rfl
      refine lv_iconst (v := 0) hx hb dX12_sumOf_16 (by decide) ?_
      refine tw_iald (i := 0) hx hb hK hT hg17 shm_19 rfl (by unfold vp_in; decide) dX12_sumOf_17 (fun v9 m187 h9 => ?_)
      obtain ⟨x188, rfl, gx188, kx188⟩ := (gn_at h9)
      have cx188 := m123.at m187 (by have q9 := tn_of (show (0 : Int32).toInt = 0 from (by decide)) (by omega); omega)
      have sl189 : x188.toInt = (vL 0).toInt := by rw [cx188]; exact congrArg (fun k => (vL k).toInt) (by decide)
      refine lv_icmp_ge (tgt := 67) hx hb dX12_sumOf_18 (by decide) (fun c190 => ?_) (fun c190 => ?_)
      · have t191 : x188.toInt ≤ ((i40 : Nat) : Int) := ti_le c190 rfl (nI_toInt (by omega))
        refine lv_lload_n hx hb dX12_sumOf_67 rfl (lv_at hl 1 rfl) ?_
        exact W.lret (v := y108) hx hb hr (fun t ht hW => ⟨⟨y108, (), rfl, (by exact (by have e9 : i40 = A9.length := (by have := hfo.1; have := hfo.2.1; have l9 := sl189; omega); rcases hj125 with ⟨h8, h7⟩ | ⟨h8, h7⟩ <;> rw [e9] at h7; (exact Or.inl ⟨h8, h7⟩); exact Or.inr ⟨h8, h7⟩)), by (try dsimp only); rw [ht]; exact ⟨hT, hF⟩⟩, hS.F ht⟩) hS.2.2 dX12_sumOf_68
      · have t192 : ((i40 : Nat) : Int) < x188.toInt := ti_nle c190 rfl (nI_toInt (by omega))
        refine lv_aload_n hx hb dX12_sumOf_21 rfl (lv_at hl 2 rfl) ?_
        refine tw_get hx hb hts bF_X12 hown hK hT hr_o0 shm_0 rfl 19 (by decide) (ht_at hts 24 rfl) (fun _ h9 => h9) dX12_sumOf_22 (fun v9 m193 h9 => ?_)
        obtain ⟨rfl, hg194⟩ := h9 _ rfl
        refine lv_iload hx hb dX12_sumOf_25 (lv_at hl 0 rfl) ?_
        refine tw_iald (i := (nI i40)) hx hb hK hT hg12 shm_20 rfl (vp_in_nI (by omega) (by decide)) dX12_sumOf_27 (fun v9 m195 h9 => ?_)
        obtain ⟨x196, rfl, gx196, kx196⟩ := h9
        have cx196 := m118.at m195 (by have q9 := tn_of (show (nI i40).toInt = ((i40 : Nat) : Int) from (nI_toInt (by omega))) (by omega); omega)
        refine lv_iload_n hx hb dX12_sumOf_28 rfl (lv_at hl 4 rfl) ?_
        refine lv_icmp_ne (tgt := 61) hx hb dX12_sumOf_29 (by decide) (fun c197 => ?_) (fun c197 => ?_)
        · have t198 : x196.toInt ≠ 6 := ti_ne c197 rfl (by decide)
          refine lv_iinc (v := nI (i40 + 1)) (lv' := [(5, .int (nI (i40 + 1))), (3, .long y108), (0, .ref o0), (1, .int pe), (2, .int 6)]) hx hb dX12_sumOf_61 hl (k := 0) rfl (nI_add i40 1) (by decide) rfl (fun ls hl => ?_)
          refine lv_goto (tgt := 10) hx hb dX12_sumOf_64 (by decide) ?_
          exact ih176 (i40 + 1) (by omega) (by omega) y108 ⟨(by have v9 : (vO i40).toInt = x196.toInt := (by rw [cx196, tn_nI (by omega)]); have q6 : (6 : Int32).toInt = 6 := (by decide); rcases hj125 with ⟨h8, h7⟩ | ⟨h8, h7⟩; (exact Or.inl ⟨h8, zOl_k hfo.2.2 hf39 h7 (Or.inl (by omega))⟩); exact Or.inr ⟨h8, zOl_s h7⟩), (by omega), (by have := hfo.1; have l9 := sl189; omega)⟩ _ _ hT hF hS m109 m110 m111 m112 m113 m114 m115 m116 m117 m118 m119 m120 m121 m122 m123 m124 ls (lv_sub hl [0, 1, 2, 3, 4] rfl)
        · have t199 : x196.toInt = 6 := ti_eq c197 rfl (by decide)
          refine lv_aload_n hx hb dX12_sumOf_32 rfl (lv_at hl 2 rfl) ?_
          refine lv_iload hx hb dX12_sumOf_33 (lv_at hl 0 rfl) ?_
          obtain ⟨V200, m201⟩ := ctl_of hT hg11 shm_30
          have hFc := gA_free hG hA hS
          refine va_calli (va_runV (As := [.int (nI i40)]) (rest := []) ⟨hx, hb, hml, hown, hts⟩ (s_holdsZ l dC dI kA adK adV G H q wZ wN wH wB wC wL wK wU wV PI im PM PT lS lB lE lN o0 (nI i40) vB vX vS vN V200 u20 hT hr_o0 (rg_t (a := ((i40 : Nat) : Int)) (nI_toInt (by omega)) (by omega) (by omega)) (zok_at hfo.2.2 hzk (n := (nI i40).toNatClampNeg) (by have := hfo.1; have l9 := sl189; have := tn_of (show (nI i40).toInt = ((i40 : Nat) : Int) from (nI_toInt (by omega))) (by omega); omega) (by rw [← cx196]; have q6 : (6 : Int32).toInt = 6 := (by decide); omega)) m119 m120 m121 m122 m201 m124 hgz hgn hgh hgb hgc hgi hgu) (cwV 1 hts (goodIn_app (goodIn_r _ [36, 37, 38, 8] rfl (by decide +kernel)) (goodIn_ca (goodIn_r _ [26, 27, 28, 29, 30, 31, 32, 33, 34, 35, 2] rfl (by decide +kernel)) (bs_in _ _))) rfl rfl rfl (by decide +kernel) ⟨(Nat.le_of_ble_eq_true rfl), (Nat.le_of_ble_eq_true rfl)⟩) ⟨fun a U g mk q => by obtain ⟨q0, q1, qK, qE⟩ := q; exact ⟨q0, q1, va_K.moved (u := U) (U := U.calling g mk a) (Vm.Alike.refl U.vm) qK, EVS.blind g mk a qE⟩, gH_rc hK hT hr_o0 shm_0 rfl, fun U hU hW => ⟨rfl, hU, va_K.moved hW.alike hK, hE.call hS hFc hU hW⟩⟩ rfl rfl hl.1 rfl (lv_room (Nat.le_of_ble_eq_true rfl)) dX12_sumOf_35 ⟨(Nat.le_of_ble_eq_true rfl), (Nat.le_of_ble_eq_true rfl)⟩) hS (fun q _ h => hFc q h) hFc (fun r202 u t H locs ht hvm hw203 hB _ _ hS => ?_)
          obtain ⟨hT, hF1⟩ := hB
          rw [ht] at hT hF1
          have m204 := m109.kept (hF1.arr hg1 skm_39 (by decide))
          have m205 := m110.kept (hF1.arr hg2 skm_40 (by decide))
          have m206 := m111.kept (hF1.arr hg3 skm_32 (by decide))
          have m207 := m112.kept (hF1.arr hg4 skm_33 (by decide))
          have m208 := m113.kept (hF1.arr hg5 skm_34 (by decide))
          have m209 := m114.kept (hF1.arr hg6 skm_35 (by decide))
          have m210 := m115.kept (hF1.arr hg7 skm_36 (by decide))
          have m211 := m116.kept (hF1.arr hg8 skm_37 (by decide))
          have m212 := m117.kept (hF1.arr hg9 skm_41 (by decide))
          have m213 := m118.kept (hF1.arr hg12 skm_20 (by decide))
          have m214 := m119.kept (hF1.arr hg13 skm_25 (by decide))
          have m215 := m120.kept (hF1.arr hg14 skm_26 (by decide))
          have m216 := m121.kept (hF1.arr hg15 skm_27 (by decide))
          have m217 := m122.kept (hF1.arr hg16 skm_28 (by decide))
          have m218 := m123.kept (hF1.arr hg17 skm_19 (by decide))
          have m219 := m124.kept (hF1.arr hg10 skm_31 (by decide))
          have hF := hF.more hF1 (by decide)
          try dsimp only at hw203
          obtain ⟨h223, hf224⟩ := hw203
          refine lv_if_eq (tgt := 61) hx hb dX12_sumOf_38 (by decide) (fun c226 => ?_) (fun c226 => ?_)
          · have t227 : r202.toInt = 0 := ti_eq c226 rfl (by decide)
            have hx228 : ¬ zhd u20 (zC (zwo 0 vS vN) (vB i40).toNatClampNeg (vX i40).toNatClampNeg) := by have h9 := (hf224.resolve_left (fun h8 => by have := h8.1; omega)).2; rw [tn_nI (by omega)] at h9; exact h9
            refine lv_iinc (v := nI (i40 + 1)) (lv' := [(5, .int (nI (i40 + 1))), (3, .long y108), (0, .ref o0), (1, .int pe), (2, .int 6)]) hx hb dX12_sumOf_61 hl (k := 0) rfl (nI_add i40 1) (by decide) rfl (fun ls hl => ?_)
            refine lv_goto (tgt := 10) hx hb dX12_sumOf_64 (by decide) ?_
            exact ih176 (i40 + 1) (by omega) (by omega) y108 ⟨(by have v9 : (vO i40).toInt = x196.toInt := (by rw [cx196, tn_nI (by omega)]); have q6 : (6 : Int32).toInt = 6 := (by decide); rcases hj125 with ⟨h8, h7⟩ | ⟨h8, h7⟩; (exact Or.inl ⟨h8, zOl_k hfo.2.2 hf39 h7 (Or.inr hx228)⟩); exact Or.inr ⟨h8, zOl_s h7⟩), (by omega), (by have := hfo.1; have l9 := sl189; omega)⟩ _ _ hT hF hS m204 m205 m206 m207 m208 m209 m210 m211 m212 m213 m214 m215 m216 m217 m218 m219 ls (lv_sub hl [0, 1, 2, 3, 4] rfl)
          · have t229 : r202.toInt ≠ 0 := ti_ne c226 rfl (by decide)
            have hx230 : zhd u20 (zC (zwo 0 vS vN) (vB i40).toNatClampNeg (vX i40).toNatClampNeg) := by have h9 := (hf224.resolve_right (fun h8 => by have := h8.1; omega)).2; rw [tn_nI (by omega)] at h9; exact h9
            refine lv_lload_n hx hb dX12_sumOf_41 rfl (lv_at hl 1 rfl) ?_
            refine lv_iload_n hx hb dX12_sumOf_42 rfl (lv_at hl 4 rfl) ?_
            refine lv_iconst (v := 5) hx hb dX12_sumOf_43 (by decide) ?_
            refine lv_icmp_ge (tgt := 58) hx hb dX12_sumOf_44 (by decide) (fun c231 => ?_) (fun c231 => absurd c231 (by decide))
            refine lv_lconst (v := 1) hx hb dX12_sumOf_58 (by decide) ?_
            refine lv_ladd hx hb dX12_sumOf_59 ?_
            refine lv_topl (fun y232 ey232 => ?_)
            have t233 : y232.toInt = y108.toInt + 1 := tl_a ey232 rfl (by decide) (by omega) (by omega)
            refine lv_lstore_n (lv' := [(3, .long y232), (5, .int (nI i40)), (0, .ref o0), (1, .int pe), (2, .int 6)]) hx hb dX12_sumOf_60 rfl hl (by decide) rfl (fun ls hl => ?_)
            refine lv_iinc (v := nI (i40 + 1)) (lv' := [(5, .int (nI (i40 + 1))), (3, .long y232), (0, .ref o0), (1, .int pe), (2, .int 6)]) hx hb dX12_sumOf_61 hl (k := 1) rfl (nI_add i40 1) (by decide) rfl (fun ls hl => ?_)
            refine lv_goto (tgt := 10) hx hb dX12_sumOf_64 (by decide) ?_
            exact ih176 (i40 + 1) (by omega) (by omega) y232 ⟨(by have v9 : (vO i40).toInt = x196.toInt := (by rw [cx196, tn_nI (by omega)]); have q6 : (6 : Int32).toInt = 6 := (by decide); have n9 : i40 < A9.length := (by have := hfo.1; have l9 := sl189; omega); exact Or.inr ⟨by rcases hj125 with h | h <;> (have := h.1; omega), zOl_y hfo.2.2 hf39 n9 (by omega) hx230⟩), (by omega), (by have := hfo.1; have l9 := sl189; omega)⟩ _ _ hT hF hS m204 m205 m206 m207 m208 m209 m210 m211 m212 m213 m214 m215 m216 m217 m218 m219 ls (lv_sub hl [0, 1, 2, 3, 4] rfl)
  exact key176 (20 - 0) 0 (by omega) (Nat.le_refl _) 0 ⟨(Or.inl ⟨by decide, zOl_0⟩), (by have y8 : (0 : Int64).toInt = 0 := (by decide); omega), (by have := hfo.1; omega)⟩ _ _ hT hF hS m22 m23 m24 m25 m26 m27 m28 m29 m30 m33 m34 m35 m36 m37 m38 m21 ls (lv_sub hl [0, 1, 2, 3, 4] rfl)
def w_s_nextOneZ : List Cond := .code yX12_nextOne cX12_nextOne 3 (some .int) :: (HAppend.hAppend (α := List Cond) (β := List Cond) (γ := List Cond) [.fieldLink RX12 495 "SeaLandModel" "settlers" "I", .fieldLink RX12 131 "SeaLandModel" "open" "[Z", .fieldLink RX12 128 "SeaLandModel" "marks" "[J", .fieldLink RX12 98 "SeaLandModel" "drawn" "[I"] bs)
set_option maxHeartbeats 4000000 in
set_option maxRecDepth 100000 in
theorem s_nextOneZ (l : Launch) (dC : Nat → ClassId) (dI : Nat → Nat → Nat) (kA : Nat → ClassId) (adK adV : Nat → Nat) (G : gT) (H0 : Heap) (q : Nat → Nat) (wZ wN : Nat → Int) (wH wB wC : Int) (wL wK : Nat → Prop) (wU wV : Nat → Nat) (PI : Nat → Int → Prop) (im : Int) (PM PT : Nat → Int → Prop) (lS lB lE : Nat → Nat → Int → Prop) (lN : Nat → Int) (o0 : Nat) (sn : Int32) (vP : Nat → Int32)  (hT : gH (dC, dI) kA (SHm q (wP wZ wN wH wB wC wL wK wU wV) PI im PM PT lS lB lE lN) G H0) (hr_o0 : G o0 = some 0) (hm_sn : el H0 o0 (dI 15 42) = some (.int sn)) (hq0 : 0 ≤ sn.toInt ∧ sn.toInt ≤ 60) (hc_vP : ct H0 (q 51) 60 vP) (hgz : ∀ i, 0 ≤ wZ i) (hgn : ∀ i, 6500000 ≤ wN i ∧ wN i ≤ 20200000) (hgh : 0 ≤ wH ∧ wH ≤ 40000) (hgb : 0 ≤ wB ∧ wB ≤ 3850000) (hgc : 0 ≤ wC ∧ wC ≤ 30) (hgi : 0 ≤ im ∧ im ≤ 1) (hgu : ∀ a t, G a = some (t + 1) → a = q t) : Met l yX12_nextOne w_s_nextOneZ ({ frames := 0, cells := 0, slots := 0, locals := 0 }) (va_Pc [.ref o0] (fun U => U.heap = H0 ∧ va_K (dC, dI) vwCl (tyl kA) U ∧ EVS adK adV (gA G H0.size) U U.heap)) (va_Qi (fun (r : Int32) (u : Unit) => (-1 ≤ r.toInt ∧ r.toInt ≤ 59) ∧ ((r.toInt = -1 ∧ ¬ zOp vP sn.toInt) ∨ (0 ≤ r.toInt ∧ r.toInt < sn.toInt ∧ zOp vP sn.toInt))) (fun (_ : Unit) (t : State) => gH (dC, dI) kA (SHm q (wP wZ wN wH wB wC wL wK wU wV) PI im PM PT lS lB lE lN) G t.heap ∧ gF (dC, dI) SKm G ([] : List (Nat × Nat)) H0 t.heap) (gA G H0.size)) 0 0 (gA G H0.size) := by
  refine Met.ofW (cc := cX12_nextOne) (maxL := 3) (ret := (some .int)) (by decide) rfl ?_
  intro p e s m args below meth c s₁ B hml hv
  obtain ⟨rfl, hH0, hK, hE⟩ := hv
  have hx := B.exec
  have hb := B.bytes
  have hr := B.returns
  have hts := atoms_spec (ws := w_s_nextOneZ) B.pre
  have hown : s.vm.findClass RX12 = some m.cls := findClass_of_methodNamed B.named
  have hlocks := B.notSynchronized
  subst hH0
  generalize hAe : gA G s.heap.size = A at hE ⊢
  have hA : ∀ q : Nat, s.heap.size ≤ q → A q := fun q h => by rw [← hAe]; exact Or.inr h
  have hG := gA_of hAe
  have hS : va_S A s.heap s.heap [] := va_S.rf
  have hF : gF (dC, dI) SKm G ([] : List (Nat × Nat)) s.heap s.heap := gF.rf
  have hl := lv_entry ([.ref o0]) (n := 3) (Nat.le_of_ble_eq_true rfl)
  rw [lg_entry_eq]
  generalize (lg_sl ([.ref o0]) ++ List.replicate (3 - (lg_sl ([.ref o0])).length) Slot.unset).toArray = ls at hl ⊢
  have hl : lv_has ls 3 [(0, .ref o0)] := hl
  have hg1 : G (q 51) = some 52 := gx_of hT hr_o0 shm_0 (k := 51) (by decide) rfl
  refine lv_iconst (v := (-1)) hx hb dX12_nextOne_0 (by decide) ?_
  refine lv_istore_n (lv' := [(1, .int (-1)), (0, .ref o0)]) hx hb dX12_nextOne_1 rfl hl (by decide) rfl (fun ls hl => ?_)
  refine lv_iconst (v := 0) hx hb dX12_nextOne_2 (by decide) ?_
  refine lv_istore_n (lv' := [(2, .int 0), (1, .int (-1)), (0, .ref o0)]) hx hb dX12_nextOne_3 rfl hl (by decide) rfl (fun ls hl => ?_)
  have key57 : ∀ (n57 i2 : Nat), i2 + n57 = 60 → 0 ≤ i2 → ∀ (z3 : Int32), ((-1 ≤ z3.toInt ∧ z3.toInt ≤ 59) ∧ ((z3.toInt = -1 ∧ ∀ p : Nat, p < i2 → (vP p).toInt = 0) ∨ (0 ≤ z3.toInt ∧ z3.toInt < ((i2 : Nat) : Int) ∧ zOp vP ((i2 : Nat) : Int))) ∧ (((i2 : Nat) : Int) ≤ sn.toInt)) → ∀ (H : Heap) (locs : List Loc), gH (dC, dI) kA (SHm q (wP wZ wN wH wB wC wL wK wU wV) PI im PM PT lS lB lE lN) G H → gF (dC, dI) SKm G ([] : List (Nat × Nat)) s.heap H → va_S A s.heap H locs → ct H (q 51) 60 vP → el H o0 (dI 15 42) = some (.int sn) → ∀ ls : Array Slot, lv_has ls 3 [(2, .int (nI i2)), (1, .int z3), (0, .ref o0)] → W p l e (headSpec w_s_nextOneZ ({ frames := 0, cells := 0, slots := 0, locals := 0 })).room s m #[.ref o0] below meth c H locs 0 0 (MQ below (va_Qi (fun (r : Int32) (u : Unit) => (-1 ≤ r.toInt ∧ r.toInt ≤ 59) ∧ ((r.toInt = -1 ∧ ¬ zOp vP sn.toInt) ∨ (0 ≤ r.toInt ∧ r.toInt < sn.toInt ∧ zOp vP sn.toInt))) (fun (_ : Unit) (t : State) => gH (dC, dI) kA (SHm q (wP wZ wN wH wB wC wL wK wU wV) PI im PM PT lS lB lE lN) G t.heap ∧ gF (dC, dI) SKm G ([] : List (Nat × Nat)) s.heap t.heap) A) #[.ref o0] s 0 0 A) (F0 m 4 ls []) := by
    intro n57
    induction n57 with
    | zero =>
      intro i2 hn57 hlo58 z3 ⟨h4, hj7, hj8⟩ H locs hT hF hS m5 m6 ls hl
      obtain rfl : 60 = i2 := by omega
      refine lv_iload_n hx hb dX12_nextOne_4 rfl (lv_at hl 0 rfl) ?_
      refine lv_aload_n hx hb dX12_nextOne_5 rfl (lv_at hl 2 rfl) ?_
      refine tw_getM (v := .int sn) hx hb hts bF_X12 hown hK hT hr_o0 shm_0 rfl 42 (by decide) (ht_at hts 0 rfl) (fun _ h9 => h9) m6 dX12_nextOne_6 ?_
      refine lv_icmp_ge (tgt := 83) hx hb dX12_nextOne_9 (by decide) (fun c59 => ?_) (fun c59 => (by exfalso; have q9 : ((60 : Nat) : Int) < sn.toInt := ti_nle c59 rfl (nI_toInt (by omega)); omega))
      have t60 : sn.toInt ≤ ((60 : Nat) : Int) := ti_le c59 rfl (nI_toInt (by omega))
      refine lv_iload_n hx hb dX12_nextOne_83 rfl (lv_at hl 1 rfl) ?_
      exact W.iret (v := z3) hx hb hr (fun t ht hW => ⟨⟨z3, (), rfl, (by exact ⟨(by have q8 := ti_all z3; omega), (by have b9 := (show z3.toInt = z3.toInt from rfl); rcases hj7 with ⟨h8, h7⟩ | ⟨h8, h6, h7⟩; (exact Or.inl ⟨by omega, fun h5 => h5.elim (fun p hp => by have := h7 p (by have := hp.1; omega); have := hp.2; omega)⟩); exact Or.inr ⟨by omega, by omega, h7.elim (fun p hp => ⟨p, by have := hp.1; omega, hp.2⟩)⟩)⟩), by (try dsimp only); rw [ht]; exact ⟨hT, hF⟩⟩, hS.F ht⟩) hS.2.2 dX12_nextOne_84
    | succ n57 ih57 =>
      intro i2 hn57 hlo58 z3 ⟨h4, hj7, hj8⟩ H locs hT hF hS m5 m6 ls hl
      have hlt60 : i2 < 60 := by omega
      refine lv_iload_n hx hb dX12_nextOne_4 rfl (lv_at hl 0 rfl) ?_
      refine lv_aload_n hx hb dX12_nextOne_5 rfl (lv_at hl 2 rfl) ?_
      refine tw_getM (v := .int sn) hx hb hts bF_X12 hown hK hT hr_o0 shm_0 rfl 42 (by decide) (ht_at hts 0 rfl) (fun _ h9 => h9) m6 dX12_nextOne_6 ?_
      refine lv_icmp_ge (tgt := 83) hx hb dX12_nextOne_9 (by decide) (fun c61 => ?_) (fun c61 => ?_)
      · have t62 : sn.toInt ≤ ((i2 : Nat) : Int) := ti_le c61 rfl (nI_toInt (by omega))
        refine lv_iload_n hx hb dX12_nextOne_83 rfl (lv_at hl 1 rfl) ?_
        exact W.iret (v := z3) hx hb hr (fun t ht hW => ⟨⟨z3, (), rfl, (by exact ⟨(by have q8 := ti_all z3; omega), (by have b9 := (show z3.toInt = z3.toInt from rfl); rcases hj7 with ⟨h8, h7⟩ | ⟨h8, h6, h7⟩; (exact Or.inl ⟨by omega, fun h5 => h5.elim (fun p hp => by have := h7 p (by have := hp.1; omega); have := hp.2; omega)⟩); exact Or.inr ⟨by omega, by omega, h7.elim (fun p hp => ⟨p, by have := hp.1; omega, hp.2⟩)⟩)⟩), by (try dsimp only); rw [ht]; exact ⟨hT, hF⟩⟩, hS.F ht⟩) hS.2.2 dX12_nextOne_84
      · have t63 : ((i2 : Nat) : Int) < sn.toInt := ti_nle c61 rfl (nI_toInt (by omega))
        refine lv_aload_n hx hb dX12_nextOne_12 rfl (lv_at hl 2 rfl) ?_
        refine tw_get hx hb hts bF_X12 hown hK hT hr_o0 shm_0 rfl 51 (by decide) (ht_at hts 1 rfl) (fun _ h9 => h9) dX12_nextOne_13 (fun v9 m64 h9 => ?_)
        obtain ⟨rfl, hg65⟩ := h9 _ rfl
        refine lv_iload_n hx hb dX12_nextOne_16 rfl (lv_at hl 0 rfl) ?_
        refine tw_zald (i := (nI i2)) hx hb hK hT hg1 shm_52 rfl (vp_in_nI (by omega) (by decide)) dX12_nextOne_17 (fun v9 m66 h9 => ?_)
        obtain ⟨x67, rfl, gx67, kx67⟩ := h9
        have cx67 := m5.at m66 (by have q9 := tn_of (show (nI i2).toInt = ((i2 : Nat) : Int) from (nI_toInt (by omega))) (by omega); omega)
        refine lv_if_ne (tgt := 24) hx hb dX12_nextOne_18 (by decide) (fun c68 => ?_) (fun c68 => ?_)
        · have t69 : x67.toInt ≠ 0 := ti_ne c68 rfl (by decide)
          refine lv_iload_n hx hb dX12_nextOne_24 rfl (lv_at hl 1 rfl) ?_
          refine lv_if_lt (tgt := 75) hx hb dX12_nextOne_25 (by decide) (fun c70 => ?_) (fun c70 => ?_)
          · have t71 : z3.toInt < 0 := ti_lt c70 rfl (by decide)
            refine lv_iload_n hx hb dX12_nextOne_75 rfl (lv_at hl 0 rfl) ?_
            refine lv_istore_n (lv' := [(1, .int (nI i2)), (2, .int (nI i2)), (0, .ref o0)]) hx hb dX12_nextOne_76 rfl hl (by decide) rfl (fun ls hl => ?_)
            refine lv_iinc (v := nI (i2 + 1)) (lv' := [(2, .int (nI (i2 + 1))), (1, .int (nI i2)), (0, .ref o0)]) hx hb dX12_nextOne_77 hl (k := 1) rfl (nI_add i2 1) (by decide) rfl (fun ls hl => ?_)
            refine lv_goto (tgt := 4) hx hb dX12_nextOne_80 (by decide) ?_
            exact ih57 (i2 + 1) (by omega) (by omega) (nI i2) ⟨(by have q9 := (show (nI i2).toInt = ((i2 : Nat) : Int) from (nI_toInt (by omega))); (try have q8 := ti_all (nI i2)); omega), (by have v9 : (vP i2).toInt = x67.toInt := (by rw [cx67, tn_nI (by omega)]); have b9 := (show (nI i2).toInt = ((i2 : Nat) : Int) from (nI_toInt (by omega))); rcases hj7 with ⟨h8, h7⟩ | ⟨h8, h6, h7⟩; (by_cases z9 : x67.toInt = 1; (exact Or.inr ⟨by omega, by omega, i2, by omega, by omega⟩); exact Or.inl ⟨by omega, fun p hp => by by_cases e9 : p = i2; (rw [e9]; omega); exact h7 p (by omega)⟩); exact Or.inr ⟨by omega, by omega, h7.elim (fun p hp => ⟨p, by have := hp.1; omega, hp.2⟩)⟩), (by omega)⟩ _ _ hT hF hS m5 m6 ls (lv_sub hl [0, 1, 2] rfl)
          · have t72 : 0 ≤ z3.toInt := ti_nlt c70 rfl (by decide)
            refine lv_aload_n hx hb dX12_nextOne_28 rfl (lv_at hl 2 rfl) ?_
            refine tw_get hx hb hts bF_X12 hown hK hT hr_o0 shm_0 rfl 50 (by decide) (ht_at hts 2 rfl) (fun _ h9 => h9) dX12_nextOne_29 (fun v9 m73 h9 => ?_)
            obtain ⟨rfl, hg74⟩ := h9 _ rfl
            refine lv_iload_n hx hb dX12_nextOne_32 rfl (lv_at hl 0 rfl) ?_
            refine tw_lald (i := (nI i2)) hx hb hK hT hg74 shm_51 rfl (vp_in_nI (by omega) (by decide)) dX12_nextOne_33 (fun v9 m75 h9 => ?_)
            obtain ⟨y76, rfl⟩ := h9
            refine lv_aload_n hx hb dX12_nextOne_34 rfl (lv_at hl 2 rfl) ?_
            refine tw_get hx hb hts bF_X12 hown hK hT hr_o0 shm_0 rfl 50 (by decide) (ht_at hts 2 rfl) (fun _ h9 => h9) dX12_nextOne_35 (fun v9 m77 h9 => ?_)
            obtain ⟨rfl, hg78⟩ := h9 _ rfl
            refine lv_iload_n hx hb dX12_nextOne_38 rfl (lv_at hl 1 rfl) ?_
            refine tw_lald (i := z3) hx hb hK hT hg74 shm_51 rfl (vin_t (a := z3.toInt) rfl (by omega) (by omega)) dX12_nextOne_39 (fun v9 m79 h9 => ?_)
            obtain ⟨y80, rfl⟩ := h9
            refine W.lcmp hx hb dX12_nextOne_40 ?_
            refine lv_topi (fun x81 _ => ?_)
            refine lv_if_gt (tgt := 75) hx hb dX12_nextOne_41 (by decide) (fun c82 => ?_) (fun c82 => ?_)
            · have t83 : 0 < x81.toInt := ti_lt c82 (by decide) rfl
              refine lv_iload_n hx hb dX12_nextOne_75 rfl (lv_at hl 0 rfl) ?_
              refine lv_istore_n (lv' := [(1, .int (nI i2)), (2, .int (nI i2)), (0, .ref o0)]) hx hb dX12_nextOne_76 rfl hl (by decide) rfl (fun ls hl => ?_)
              refine lv_iinc (v := nI (i2 + 1)) (lv' := [(2, .int (nI (i2 + 1))), (1, .int (nI i2)), (0, .ref o0)]) hx hb dX12_nextOne_77 hl (k := 1) rfl (nI_add i2 1) (by decide) rfl (fun ls hl => ?_)
              refine lv_goto (tgt := 4) hx hb dX12_nextOne_80 (by decide) ?_
              exact ih57 (i2 + 1) (by omega) (by omega) (nI i2) ⟨(by have q9 := (show (nI i2).toInt = ((i2 : Nat) : Int) from (nI_toInt (by omega))); (try have q8 := ti_all (nI i2)); omega), (by have v9 : (vP i2).toInt = x67.toInt := (by rw [cx67, tn_nI (by omega)]); have b9 := (show (nI i2).toInt = ((i2 : Nat) : Int) from (nI_toInt (by omega))); rcases hj7 with ⟨h8, h7⟩ | ⟨h8, h6, h7⟩; (by_cases z9 : x67.toInt = 1; (exact Or.inr ⟨by omega, by omega, i2, by omega, by omega⟩); exact Or.inl ⟨by omega, fun p hp => by by_cases e9 : p = i2; (rw [e9]; omega); exact h7 p (by omega)⟩); exact Or.inr ⟨by omega, by omega, h7.elim (fun p hp => ⟨p, by have := hp.1; omega, hp.2⟩)⟩), (by omega)⟩ _ _ hT hF hS m5 m6 ls (lv_sub hl [0, 1, 2] rfl)
            · have t84 : x81.toInt ≤ 0 := ti_nlt c82 (by decide) rfl
              refine lv_aload_n hx hb dX12_nextOne_44 rfl (lv_at hl 2 rfl) ?_
              refine tw_get hx hb hts bF_X12 hown hK hT hr_o0 shm_0 rfl 50 (by decide) (ht_at hts 2 rfl) (fun _ h9 => h9) dX12_nextOne_45 (fun v9 m85 h9 => ?_)
              obtain ⟨rfl, hg86⟩ := h9 _ rfl
              refine lv_iload_n hx hb dX12_nextOne_48 rfl (lv_at hl 0 rfl) ?_
              refine tw_lald (i := (nI i2)) hx hb hK hT hg74 shm_51 rfl (vp_in_nI (by omega) (by decide)) dX12_nextOne_49 (fun v9 m87 h9 => ?_)
              obtain ⟨y88, rfl⟩ := h9
              refine lv_aload_n hx hb dX12_nextOne_50 rfl (lv_at hl 2 rfl) ?_
              refine tw_get hx hb hts bF_X12 hown hK hT hr_o0 shm_0 rfl 50 (by decide) (ht_at hts 2 rfl) (fun _ h9 => h9) dX12_nextOne_51 (fun v9 m89 h9 => ?_)
              obtain ⟨rfl, hg90⟩ := h9 _ rfl
              refine lv_iload_n hx hb dX12_nextOne_54 rfl (lv_at hl 1 rfl) ?_
              refine tw_lald (i := z3) hx hb hK hT hg74 shm_51 rfl (vin_t (a := z3.toInt) rfl (by omega) (by omega)) dX12_nextOne_55 (fun v9 m91 h9 => ?_)
              obtain ⟨y92, rfl⟩ := h9
              refine W.lcmp hx hb dX12_nextOne_56 ?_
              refine lv_topi (fun x93 _ => ?_)
              refine lv_if_ne (tgt := 77) hx hb dX12_nextOne_57 (by decide) (fun c94 => ?_) (fun c94 => ?_)
              · have t95 : x93.toInt ≠ 0 := ti_ne c94 rfl (by decide)
                refine lv_iinc (v := nI (i2 + 1)) (lv' := [(2, .int (nI (i2 + 1))), (1, .int z3), (0, .ref o0)]) hx hb dX12_nextOne_77 hl (k := 0) rfl (nI_add i2 1) (by decide) rfl (fun ls hl => ?_)
                refine lv_goto (tgt := 4) hx hb dX12_nextOne_80 (by decide) ?_
                exact ih57 (i2 + 1) (by omega) (by omega) z3 ⟨(by have q9 := (show z3.toInt = z3.toInt from rfl); (try have q8 := ti_all z3); omega), (by have v9 : (vP i2).toInt = x67.toInt := (by rw [cx67, tn_nI (by omega)]); have b9 := (show z3.toInt = z3.toInt from rfl); rcases hj7 with ⟨h8, h7⟩ | ⟨h8, h6, h7⟩; (by_cases z9 : x67.toInt = 1; (exact Or.inr ⟨by omega, by omega, i2, by omega, by omega⟩); exact Or.inl ⟨by omega, fun p hp => by by_cases e9 : p = i2; (rw [e9]; omega); exact h7 p (by omega)⟩); exact Or.inr ⟨by omega, by omega, h7.elim (fun p hp => ⟨p, by have := hp.1; omega, hp.2⟩)⟩), (by omega)⟩ _ _ hT hF hS m5 m6 ls (lv_sub hl [0, 1, 2] rfl)
              · have t96 : x93.toInt = 0 := ti_eq c94 rfl (by decide)
                refine lv_aload_n hx hb dX12_nextOne_60 rfl (lv_at hl 2 rfl) ?_
                refine tw_get hx hb hts bF_X12 hown hK hT hr_o0 shm_0 rfl 37 (by decide) (ht_at hts 3 rfl) (fun _ h9 => h9) dX12_nextOne_61 (fun v9 m97 h9 => ?_)
                obtain ⟨rfl, hg98⟩ := h9 _ rfl
                refine lv_iload_n hx hb dX12_nextOne_64 rfl (lv_at hl 0 rfl) ?_
                refine tw_iald (i := (nI i2)) hx hb hK hT hg98 shm_38 rfl (vp_in_nI (by omega) (by decide)) dX12_nextOne_65 (fun v9 m99 h9 => ?_)
                obtain ⟨x100, rfl, gx100, kx100⟩ := h9
                refine lv_aload_n hx hb dX12_nextOne_66 rfl (lv_at hl 2 rfl) ?_
                refine tw_get hx hb hts bF_X12 hown hK hT hr_o0 shm_0 rfl 37 (by decide) (ht_at hts 3 rfl) (fun _ h9 => h9) dX12_nextOne_67 (fun v9 m101 h9 => ?_)
                obtain ⟨rfl, hg102⟩ := h9 _ rfl
                refine lv_iload_n hx hb dX12_nextOne_70 rfl (lv_at hl 1 rfl) ?_
                refine tw_iald (i := z3) hx hb hK hT hg98 shm_38 rfl (vin_t (a := z3.toInt) rfl (by omega) (by omega)) dX12_nextOne_71 (fun v9 m103 h9 => ?_)
                obtain ⟨x104, rfl, gx104, kx104⟩ := h9
                refine lv_icmp_ge (tgt := 77) hx hb dX12_nextOne_72 (by decide) (fun c105 => ?_) (fun c105 => ?_)
                · have t106 : x104.toInt ≤ x100.toInt := ti_le c105 rfl rfl
                  refine lv_iinc (v := nI (i2 + 1)) (lv' := [(2, .int (nI (i2 + 1))), (1, .int z3), (0, .ref o0)]) hx hb dX12_nextOne_77 hl (k := 0) rfl (nI_add i2 1) (by decide) rfl (fun ls hl => ?_)
                  refine lv_goto (tgt := 4) hx hb dX12_nextOne_80 (by decide) ?_
                  exact ih57 (i2 + 1) (by omega) (by omega) z3 ⟨(by have q9 := (show z3.toInt = z3.toInt from rfl); (try have q8 := ti_all z3); omega), (by have v9 : (vP i2).toInt = x67.toInt := (by rw [cx67, tn_nI (by omega)]); have b9 := (show z3.toInt = z3.toInt from rfl); rcases hj7 with ⟨h8, h7⟩ | ⟨h8, h6, h7⟩; (by_cases z9 : x67.toInt = 1; (exact Or.inr ⟨by omega, by omega, i2, by omega, by omega⟩); exact Or.inl ⟨by omega, fun p hp => by by_cases e9 : p = i2; (rw [e9]; omega); exact h7 p (by omega)⟩); exact Or.inr ⟨by omega, by omega, h7.elim (fun p hp => ⟨p, by have := hp.1; omega, hp.2⟩)⟩), (by omega)⟩ _ _ hT hF hS m5 m6 ls (lv_sub hl [0, 1, 2] rfl)
                · have t107 : x100.toInt < x104.toInt := ti_nle c105 rfl rfl
                  refine lv_iload_n hx hb dX12_nextOne_75 rfl (lv_at hl 0 rfl) ?_
                  refine lv_istore_n (lv' := [(1, .int (nI i2)), (2, .int (nI i2)), (0, .ref o0)]) hx hb dX12_nextOne_76 rfl hl (by decide) rfl (fun ls hl => ?_)
                  refine lv_iinc (v := nI (i2 + 1)) (lv' := [(2, .int (nI (i2 + 1))), (1, .int (nI i2)), (0, .ref o0)]) hx hb dX12_nextOne_77 hl (k := 1) rfl (nI_add i2 1) (by decide) rfl (fun ls hl => ?_)
                  refine lv_goto (tgt := 4) hx hb dX12_nextOne_80 (by decide) ?_
                  exact ih57 (i2 + 1) (by omega) (by omega) (nI i2) ⟨(by have q9 := (show (nI i2).toInt = ((i2 : Nat) : Int) from (nI_toInt (by omega))); (try have q8 := ti_all (nI i2)); omega), (by have v9 : (vP i2).toInt = x67.toInt := (by rw [cx67, tn_nI (by omega)]); have b9 := (show (nI i2).toInt = ((i2 : Nat) : Int) from (nI_toInt (by omega))); rcases hj7 with ⟨h8, h7⟩ | ⟨h8, h6, h7⟩; (by_cases z9 : x67.toInt = 1; (exact Or.inr ⟨by omega, by omega, i2, by omega, by omega⟩); exact Or.inl ⟨by omega, fun p hp => by by_cases e9 : p = i2; (rw [e9]; omega); exact h7 p (by omega)⟩); exact Or.inr ⟨by omega, by omega, h7.elim (fun p hp => ⟨p, by have := hp.1; omega, hp.2⟩)⟩), (by omega)⟩ _ _ hT hF hS m5 m6 ls (lv_sub hl [0, 1, 2] rfl)
        · have t108 : x67.toInt = 0 := ti_eq c68 rfl (by decide)
          refine lv_goto (tgt := 77) hx hb dX12_nextOne_21 (by decide) ?_
          refine lv_iinc (v := nI (i2 + 1)) (lv' := [(2, .int (nI (i2 + 1))), (1, .int z3), (0, .ref o0)]) hx hb dX12_nextOne_77 hl (k := 0) rfl (nI_add i2 1) (by decide) rfl (fun ls hl => ?_)
          refine lv_goto (tgt := 4) hx hb dX12_nextOne_80 (by decide) ?_
          exact ih57 (i2 + 1) (by omega) (by omega) z3 ⟨(by have q9 := (show z3.toInt = z3.toInt from rfl); (try have q8 := ti_all z3); omega), (by have v9 : (vP i2).toInt = x67.toInt := (by rw [cx67, tn_nI (by omega)]); have b9 := (show z3.toInt = z3.toInt from rfl); rcases hj7 with ⟨h8, h7⟩ | ⟨h8, h6, h7⟩; (by_cases z9 : x67.toInt = 1; (exact Or.inr ⟨by omega, by omega, i2, by omega, by omega⟩); exact Or.inl ⟨by omega, fun p hp => by by_cases e9 : p = i2; (rw [e9]; omega); exact h7 p (by omega)⟩); exact Or.inr ⟨by omega, by omega, h7.elim (fun p hp => ⟨p, by have := hp.1; omega, hp.2⟩)⟩), (by omega)⟩ _ _ hT hF hS m5 m6 ls (lv_sub hl [0, 1, 2] rfl)
  exact key57 (60 - 0) 0 (by omega) (Nat.le_refl _) (-1) ⟨(by have q9 := (show (-1 : Int32).toInt = (-1) from (by decide)); (try have q8 := ti_all (-1 : Int32)); omega), (Or.inl ⟨by decide, fun p h => absurd h (Nat.not_lt_zero p)⟩), (by omega)⟩ _ _ hT hF hS hc_vP hm_sn ls (lv_sub hl [0, 1, 2] rfl)
def w_s_bestFarmZ : List Cond := .code yX12_bestFarm cX12_bestFarm 3 (some .int) :: (HAppend.hAppend (α := List Cond) (β := List Cond) (γ := List Cond) [.fieldLink RX12 498 "SeaLandModel" "farms" "I", .fieldLink RX12 122 "SeaLandModel" "holder" "[I", .code yX12_worthOf cX12_worthOf 5 (some .int), .fieldLink RX12 113 "SeaLandModel" "farmFrom" "[I", .fieldLink RX12 116 "SeaLandModel" "farmTo" "[I", .code yX12_isIn cX12_isIn 5 (some .boolean), .methodLink RX12 207 Lib.Math.min.name, .static Lib.Math.min.name, .initialized "java/lang/Math", .code Lib.Math.min.name Lib.Math.min.code 2 (some .int), .methodLink RX12 211 Lib.Math.max.name, .static Lib.Math.max.name, .code Lib.Math.max.name Lib.Math.max.code 2 (some .int), .code yX12_in cX12_in 3 (some .boolean), .methodLink RX12 197 yX12_in, .static yX12_in, .initialized RX12, .methodLink RX12 232 yX12_isIn, .static yX12_isIn, .fieldLink RX12 9 "SeaLandModel" "world" "[I", .methodLink RX12 505 yX12_worthOf, .instanceMethod yX12_worthOf, .selects RX12 yX12_worthOf yX12_worthOf] bs)
set_option maxHeartbeats 4000000 in
set_option maxRecDepth 100000 in
theorem s_bestFarmZ (l : Launch) (dC : Nat → ClassId) (dI : Nat → Nat → Nat) (kA : Nat → ClassId) (adK adV : Nat → Nat) (G : gT) (H0 : Heap) (q : Nat → Nat) (wZ wN : Nat → Int) (wH wB wC : Int) (wL wK : Nat → Prop) (wU wV : Nat → Nat) (PI : Nat → Int → Prop) (im : Int) (PM PT : Nat → Int → Prop) (lS lB lE : Nat → Nat → Int → Prop) (lN : Nat → Int) (o0 : Nat) (fm : Int32) (vR : Nat → Int32)  (hT : gH (dC, dI) kA (SHm q (wP wZ wN wH wB wC wL wK wU wV) PI im PM PT lS lB lE lN) G H0) (hr_o0 : G o0 = some 0) (hm_fm : el H0 o0 (dI 15 47) = some (.int fm)) (hq0 : 0 ≤ fm.toInt ∧ fm.toInt ≤ 30) (hnh : ∀ f : Nat, ((f : Nat) : Int) < fm.toInt → (vR f).toInt < 0) (hc_vR : ct H0 (q 46) 30 vR) (hgz : ∀ i, 0 ≤ wZ i) (hgn : ∀ i, 6500000 ≤ wN i ∧ wN i ≤ 20200000) (hgh : 0 ≤ wH ∧ wH ≤ 40000) (hgb : 0 ≤ wB ∧ wB ≤ 3850000) (hgc : 0 ≤ wC ∧ wC ≤ 30) (hgi : 0 ≤ im ∧ im ≤ 1) (hgu : ∀ a t, G a = some (t + 1) → a = q t) : Met l yX12_bestFarm w_s_bestFarmZ ({ frames := 3, cells := 0, slots := 0, locals := 88 }) (va_Pc [.ref o0] (fun U => U.heap = H0 ∧ va_K (dC, dI) vwCl (tyl kA) U ∧ EVS adK adV (gA G H0.size) U U.heap)) (va_Qi (fun (r : Int32) (u : Unit) => (-1 ≤ r.toInt ∧ r.toInt ≤ 29) ∧ ((fm.toInt = 0 ∧ r.toInt = -1) ∨ (0 < fm.toInt ∧ 0 ≤ r.toInt))) (fun (_ : Unit) (t : State) => gH (dC, dI) kA (SHm q (wP wZ wN wH wB wC wL wK wU wV) PI im PM PT lS lB lE lN) G t.heap ∧ gF (dC, dI) SKm G ([] : List (Nat × Nat)) H0 t.heap) (gA G H0.size)) 0 0 (gA G H0.size) := by
  refine Met.ofW (cc := cX12_bestFarm) (maxL := 3) (ret := (some .int)) (by decide) rfl ?_
  intro p e s m args below meth c s₁ B hml hv
  obtain ⟨rfl, hH0, hK, hE⟩ := hv
  have hx := B.exec
  have hb := B.bytes
  have hr := B.returns
  have hts := atoms_spec (ws := w_s_bestFarmZ) B.pre
  have hown : s.vm.findClass RX12 = some m.cls := findClass_of_methodNamed B.named
  have hlocks := B.notSynchronized
  subst hH0
  generalize hAe : gA G s.heap.size = A at hE ⊢
  have hA : ∀ q : Nat, s.heap.size ≤ q → A q := fun q h => by rw [← hAe]; exact Or.inr h
  have hG := gA_of hAe
  have hS : va_S A s.heap s.heap [] := va_S.rf
  have hF : gF (dC, dI) SKm G ([] : List (Nat × Nat)) s.heap s.heap := gF.rf
  have hl := lv_entry ([.ref o0]) (n := 3) (Nat.le_of_ble_eq_true rfl)
  rw [lg_entry_eq]
  generalize (lg_sl ([.ref o0]) ++ List.replicate (3 - (lg_sl ([.ref o0])).length) Slot.unset).toArray = ls at hl ⊢
  have hl : lv_has ls 3 [(0, .ref o0)] := hl
  have hg1 : G (q 46) = some 47 := gx_of hT hr_o0 shm_0 (k := 46) (by decide) rfl
  refine lv_iconst (v := (-1)) hx hb dX12_bestFarm_0 (by decide) ?_
  refine lv_istore_n (lv' := [(1, .int (-1)), (0, .ref o0)]) hx hb dX12_bestFarm_1 rfl hl (by decide) rfl (fun ls hl => ?_)
  refine lv_iconst (v := 0) hx hb dX12_bestFarm_2 (by decide) ?_
  refine lv_istore_n (lv' := [(2, .int 0), (1, .int (-1)), (0, .ref o0)]) hx hb dX12_bestFarm_3 rfl hl (by decide) rfl (fun ls hl => ?_)
  have key35 : ∀ (n35 i2 : Nat), i2 + n35 = 30 → 0 ≤ i2 → ∀ (z3 : Int32), ((-1 ≤ z3.toInt ∧ z3.toInt ≤ 29) ∧ ((((i2 : Nat) : Int) = 0 ∧ z3.toInt = -1) ∨ (1 ≤ ((i2 : Nat) : Int) ∧ 0 ≤ z3.toInt)) ∧ (((i2 : Nat) : Int) ≤ fm.toInt)) → ∀ (H : Heap) (locs : List Loc), gH (dC, dI) kA (SHm q (wP wZ wN wH wB wC wL wK wU wV) PI im PM PT lS lB lE lN) G H → gF (dC, dI) SKm G ([] : List (Nat × Nat)) s.heap H → va_S A s.heap H locs → ct H (q 46) 30 vR → el H o0 (dI 15 47) = some (.int fm) → ∀ ls : Array Slot, lv_has ls 3 [(2, .int (nI i2)), (1, .int z3), (0, .ref o0)] → W p l e (headSpec w_s_bestFarmZ ({ frames := 3, cells := 0, slots := 0, locals := 88 })).room s m #[.ref o0] below meth c H locs 0 0 (MQ below (va_Qi (fun (r : Int32) (u : Unit) => (-1 ≤ r.toInt ∧ r.toInt ≤ 29) ∧ ((fm.toInt = 0 ∧ r.toInt = -1) ∨ (0 < fm.toInt ∧ 0 ≤ r.toInt))) (fun (_ : Unit) (t : State) => gH (dC, dI) kA (SHm q (wP wZ wN wH wB wC wL wK wU wV) PI im PM PT lS lB lE lN) G t.heap ∧ gF (dC, dI) SKm G ([] : List (Nat × Nat)) s.heap t.heap) A) #[.ref o0] s 0 0 A) (F0 m 4 ls []) := by
    intro n35
    induction n35 with
    | zero =>
      intro i2 hn35 hlo36 z3 ⟨h4, hj7, hj8⟩ H locs hT hF hS m5 m6 ls hl
      obtain rfl : 30 = i2 := by omega
      refine lv_iload_n hx hb dX12_bestFarm_4 rfl (lv_at hl 0 rfl) ?_
      refine lv_aload_n hx hb dX12_bestFarm_5 rfl (lv_at hl 2 rfl) ?_
      refine tw_getM (v := .int fm) hx hb hts bF_X12 hown hK hT hr_o0 shm_0 rfl 47 (by decide) (ht_at hts 0 rfl) (fun _ h9 => h9) m6 dX12_bestFarm_6 ?_
      refine lv_icmp_ge (tgt := 46) hx hb dX12_bestFarm_9 (by decide) (fun c37 => ?_) (fun c37 => (by exfalso; have q9 : ((30 : Nat) : Int) < fm.toInt := ti_nle c37 rfl (nI_toInt (by omega)); omega))
      have t38 : fm.toInt ≤ ((30 : Nat) : Int) := ti_le c37 rfl (nI_toInt (by omega))
      refine lv_iload_n hx hb dX12_bestFarm_46 rfl (lv_at hl 1 rfl) ?_
      exact W.iret (v := z3) hx hb hr (fun t ht hW => ⟨⟨z3, (), rfl, (by exact ⟨(by have q8 := ti_all z3; omega), (by omega)⟩), by (try dsimp only); rw [ht]; exact ⟨hT, hF⟩⟩, hS.F ht⟩) hS.2.2 dX12_bestFarm_47
    | succ n35 ih35 =>
      intro i2 hn35 hlo36 z3 ⟨h4, hj7, hj8⟩ H locs hT hF hS m5 m6 ls hl
      have hlt38 : i2 < 30 := by omega
      refine lv_iload_n hx hb dX12_bestFarm_4 rfl (lv_at hl 0 rfl) ?_
      refine lv_aload_n hx hb dX12_bestFarm_5 rfl (lv_at hl 2 rfl) ?_
      refine tw_getM (v := .int fm) hx hb hts bF_X12 hown hK hT hr_o0 shm_0 rfl 47 (by decide) (ht_at hts 0 rfl) (fun _ h9 => h9) m6 dX12_bestFarm_6 ?_
      refine lv_icmp_ge (tgt := 46) hx hb dX12_bestFarm_9 (by decide) (fun c39 => ?_) (fun c39 => ?_)
      · have t40 : fm.toInt ≤ ((i2 : Nat) : Int) := ti_le c39 rfl (nI_toInt (by omega))
        refine lv_iload_n hx hb dX12_bestFarm_46 rfl (lv_at hl 1 rfl) ?_
        exact W.iret (v := z3) hx hb hr (fun t ht hW => ⟨⟨z3, (), rfl, (by exact ⟨(by have q8 := ti_all z3; omega), (by omega)⟩), by (try dsimp only); rw [ht]; exact ⟨hT, hF⟩⟩, hS.F ht⟩) hS.2.2 dX12_bestFarm_47
      · have t41 : ((i2 : Nat) : Int) < fm.toInt := ti_nle c39 rfl (nI_toInt (by omega))
        refine lv_aload_n hx hb dX12_bestFarm_12 rfl (lv_at hl 2 rfl) ?_
        refine tw_get hx hb hts bF_X12 hown hK hT hr_o0 shm_0 rfl 46 (by decide) (ht_at hts 1 rfl) (fun _ h9 => h9) dX12_bestFarm_13 (fun v9 m42 h9 => ?_)
        obtain ⟨rfl, hg43⟩ := h9 _ rfl
        refine lv_iload_n hx hb dX12_bestFarm_16 rfl (lv_at hl 0 rfl) ?_
        refine tw_iald (i := (nI i2)) hx hb hK hT hg1 shm_47 rfl (vp_in_nI (by omega) (by decide)) dX12_bestFarm_17 (fun v9 m44 h9 => ?_)
        obtain ⟨x45, rfl, gx45, kx45⟩ := h9
        have cx45 := m5.at m44 (by have q9 := tn_of (show (nI i2).toInt = ((i2 : Nat) : Int) from (nI_toInt (by omega))) (by omega); omega)
        have t46 : x45.toInt < 0 := (by rw [cx45, tn_nI (by omega)]; exact hnh i2 (by omega))
        refine lv_if_ge (tgt := 40) hx hb dX12_bestFarm_18 (by decide) (fun c47 => (by exfalso; have q9 : 0 ≤ x45.toInt := ti_le c47 (by decide) rfl; omega)) (fun c47 => ?_)
        have t48 : x45.toInt < 0 := ti_nle c47 (by decide) rfl
        refine lv_iload_n hx hb dX12_bestFarm_21 rfl (lv_at hl 1 rfl) ?_
        refine lv_if_lt (tgt := 38) hx hb dX12_bestFarm_22 (by decide) (fun c49 => ?_) (fun c49 => ?_)
        · have t50 : z3.toInt < 0 := ti_lt c49 rfl (by decide)
          refine lv_iload_n hx hb dX12_bestFarm_38 rfl (lv_at hl 0 rfl) ?_
          refine lv_istore_n (lv' := [(1, .int (nI i2)), (2, .int (nI i2)), (0, .ref o0)]) hx hb dX12_bestFarm_39 rfl hl (by decide) rfl (fun ls hl => ?_)
          refine lv_iinc (v := nI (i2 + 1)) (lv' := [(2, .int (nI (i2 + 1))), (1, .int (nI i2)), (0, .ref o0)]) hx hb dX12_bestFarm_40 hl (k := 1) rfl (nI_add i2 1) (by decide) rfl (fun ls hl => ?_)
          refine lv_goto (tgt := 4) hx hb dX12_bestFarm_43 (by decide) ?_
          exact ih35 (i2 + 1) (by omega) (by omega) (nI i2) ⟨(by have q9 := (show (nI i2).toInt = ((i2 : Nat) : Int) from (nI_toInt (by omega))); (try have q8 := ti_all (nI i2)); omega), (by have b9 := (show (nI i2).toInt = ((i2 : Nat) : Int) from (nI_toInt (by omega))); omega), (by omega)⟩ _ _ hT hF hS m5 m6 ls (lv_sub hl [0, 1, 2] rfl)
        · have t51 : 0 ≤ z3.toInt := ti_nlt c49 rfl (by decide)
          refine lv_aload_n hx hb dX12_bestFarm_25 rfl (lv_at hl 2 rfl) ?_
          refine lv_iload_n hx hb dX12_bestFarm_26 rfl (lv_at hl 0 rfl) ?_
          have hFc := gA_free hG hA hS
          refine va_calli (va_runV (As := [.int (nI i2)]) (rest := []) ⟨hx, hb, hml, hown, hts⟩ (s_worthOf l dC dI kA adK adV G H q wZ wN wH wB wC wL wK wU wV PI im PM PT lS lB lE lN o0 (nI i2) hT hr_o0 (rg_t (a := ((i2 : Nat) : Int)) (nI_toInt (by omega)) (by omega) (by omega)) hgz hgn hgh hgb hgc hgi hgu) (cwV 1 hts (goodIn_app (goodIn_r _ [21, 22, 23, 17] rfl (by decide +kernel)) (goodIn_ca (goodIn_r _ [3, 4, 5, 6, 7, 8, 9, 10, 11, 12, 13, 14, 15, 16, 17, 18, 19, 20] rfl (by decide +kernel)) (bs_in _ _))) rfl rfl rfl (by decide +kernel) ⟨(Nat.le_of_ble_eq_true rfl), (Nat.le_of_ble_eq_true rfl)⟩) ⟨fun a U g mk q => by obtain ⟨q0, q1, qK, qE⟩ := q; exact ⟨q0, q1, va_K.moved (u := U) (U := U.calling g mk a) (Vm.Alike.refl U.vm) qK, EVS.blind g mk a qE⟩, gH_rc hK hT hr_o0 shm_0 rfl, fun U hU hW => ⟨rfl, hU, va_K.moved hW.alike hK, hE.call hS hFc hU hW⟩⟩ rfl rfl hl.1 rfl (lv_room (Nat.le_of_ble_eq_true rfl)) dX12_bestFarm_27 ⟨(Nat.le_of_ble_eq_true rfl), (Nat.le_of_ble_eq_true rfl)⟩) hS (fun q _ h => hFc q h) hFc (fun r52 u t H locs ht hvm hw53 hB _ _ hS => ?_)
          obtain ⟨hT, hF1⟩ := hB
          rw [ht] at hT hF1
          have m54 := m5.kept (hF1.arr hg1 skm_47 (by decide))
          have m55 := (hF1.fld hr_o0 skm_0 (k := 47) (by decide) (by decide)).trans m6
          have hF := hF.more hF1 (by decide)
          try dsimp only at hw53
          refine lv_aload_n hx hb dX12_bestFarm_30 rfl (lv_at hl 2 rfl) ?_
          refine lv_iload_n hx hb dX12_bestFarm_31 rfl (lv_at hl 1 rfl) ?_
          have hFc := gA_free hG hA hS
          refine va_calli (va_runV (As := [.int z3]) (rest := [.int r52]) ⟨hx, hb, hml, hown, hts⟩ (s_worthOf l dC dI kA adK adV G H q wZ wN wH wB wC wL wK wU wV PI im PM PT lS lB lE lN o0 z3 hT hr_o0 (by have q8 := ti_all z3; omega) hgz hgn hgh hgb hgc hgi hgu) (cwV 1 hts (goodIn_app (goodIn_r _ [21, 22, 23, 17] rfl (by decide +kernel)) (goodIn_ca (goodIn_r _ [3, 4, 5, 6, 7, 8, 9, 10, 11, 12, 13, 14, 15, 16, 17, 18, 19, 20] rfl (by decide +kernel)) (bs_in _ _))) rfl rfl rfl (by decide +kernel) ⟨(Nat.le_of_ble_eq_true rfl), (Nat.le_of_ble_eq_true rfl)⟩) ⟨fun a U g mk q => by obtain ⟨q0, q1, qK, qE⟩ := q; exact ⟨q0, q1, va_K.moved (u := U) (U := U.calling g mk a) (Vm.Alike.refl U.vm) qK, EVS.blind g mk a qE⟩, gH_rc hK hT hr_o0 shm_0 rfl, fun U hU hW => ⟨rfl, hU, va_K.moved hW.alike hK, hE.call hS hFc hU hW⟩⟩ rfl rfl hl.1 rfl (lv_room (Nat.le_of_ble_eq_true rfl)) dX12_bestFarm_32 ⟨(Nat.le_of_ble_eq_true rfl), (Nat.le_of_ble_eq_true rfl)⟩) hS (fun q _ h => hFc q h) hFc (fun r57 u t H locs ht hvm hw58 hB _ _ hS => ?_)
          obtain ⟨hT, hF1⟩ := hB
          rw [ht] at hT hF1
          have m59 := m54.kept (hF1.arr hg1 skm_47 (by decide))
          have m60 := (hF1.fld hr_o0 skm_0 (k := 47) (by decide) (by decide)).trans m55
          have hF := hF.more hF1 (by decide)
          try dsimp only at hw58
          refine lv_icmp_le (tgt := 40) hx hb dX12_bestFarm_35 (by decide) (fun c62 => ?_) (fun c62 => ?_)
          · have t63 : r52.toInt ≤ r57.toInt := ti_le c62 rfl rfl
            refine lv_iinc (v := nI (i2 + 1)) (lv' := [(2, .int (nI (i2 + 1))), (1, .int z3), (0, .ref o0)]) hx hb dX12_bestFarm_40 hl (k := 0) rfl (nI_add i2 1) (by decide) rfl (fun ls hl => ?_)
            refine lv_goto (tgt := 4) hx hb dX12_bestFarm_43 (by decide) ?_
            exact ih35 (i2 + 1) (by omega) (by omega) z3 ⟨(by have q9 := (show z3.toInt = z3.toInt from rfl); (try have q8 := ti_all z3); omega), (by have b9 := (show z3.toInt = z3.toInt from rfl); omega), (by omega)⟩ _ _ hT hF hS m59 m60 ls (lv_sub hl [0, 1, 2] rfl)
          · have t64 : r57.toInt < r52.toInt := ti_nle c62 rfl rfl
            refine lv_iload_n hx hb dX12_bestFarm_38 rfl (lv_at hl 0 rfl) ?_
            refine lv_istore_n (lv' := [(1, .int (nI i2)), (2, .int (nI i2)), (0, .ref o0)]) hx hb dX12_bestFarm_39 rfl hl (by decide) rfl (fun ls hl => ?_)
            refine lv_iinc (v := nI (i2 + 1)) (lv' := [(2, .int (nI (i2 + 1))), (1, .int (nI i2)), (0, .ref o0)]) hx hb dX12_bestFarm_40 hl (k := 1) rfl (nI_add i2 1) (by decide) rfl (fun ls hl => ?_)
            refine lv_goto (tgt := 4) hx hb dX12_bestFarm_43 (by decide) ?_
            exact ih35 (i2 + 1) (by omega) (by omega) (nI i2) ⟨(by have q9 := (show (nI i2).toInt = ((i2 : Nat) : Int) from (nI_toInt (by omega))); (try have q8 := ti_all (nI i2)); omega), (by have b9 := (show (nI i2).toInt = ((i2 : Nat) : Int) from (nI_toInt (by omega))); omega), (by omega)⟩ _ _ hT hF hS m59 m60 ls (lv_sub hl [0, 1, 2] rfl)
  exact key35 (30 - 0) 0 (by omega) (Nat.le_refl _) (-1) ⟨(by have q9 := (show (-1 : Int32).toInt = (-1) from (by decide)); (try have q8 := ti_all (-1 : Int32)); omega), (by have b9 := (show (-1 : Int32).toInt = (-1) from (by decide)); omega), (by omega)⟩ _ _ hT hF hS hc_vR hm_fm ls (lv_sub hl [0, 1, 2] rfl)
def w_s_chooseZ : List Cond := .code yX12_choose cX12_choose 6 (some .int) :: (HAppend.hAppend (α := List Cond) (β := List Cond) (γ := List Cond) [.fieldLink RX12 194 "SeaLandModel" "thrown" "I", .code yX12_in cX12_in 3 (some .boolean), .methodLink RX12 197 yX12_in, .static yX12_in, .initialized RX12, .code yX12_throwsIf cX12_throwsIf 3 (some .boolean), .methodLink RX12 224 yX12_throwsIf, .instanceMethod yX12_throwsIf, .selects RX12 yX12_throwsIf yX12_throwsIf, .fieldLink RX12 495 "SeaLandModel" "settlers" "I", .code yX12_nextOne cX12_nextOne 3 (some .int), .fieldLink RX12 131 "SeaLandModel" "open" "[Z", .fieldLink RX12 128 "SeaLandModel" "marks" "[J", .fieldLink RX12 98 "SeaLandModel" "drawn" "[I", .methodLink RX12 508 yX12_nextOne, .instanceMethod yX12_nextOne, .selects RX12 yX12_nextOne yX12_nextOne, .code yX12_bestFarm cX12_bestFarm 3 (some .int), .fieldLink RX12 498 "SeaLandModel" "farms" "I", .fieldLink RX12 122 "SeaLandModel" "holder" "[I", .code yX12_worthOf cX12_worthOf 5 (some .int), .fieldLink RX12 113 "SeaLandModel" "farmFrom" "[I", .fieldLink RX12 116 "SeaLandModel" "farmTo" "[I", .code yX12_isIn cX12_isIn 5 (some .boolean), .methodLink RX12 207 Lib.Math.min.name, .static Lib.Math.min.name, .initialized "java/lang/Math", .code Lib.Math.min.name Lib.Math.min.code 2 (some .int), .methodLink RX12 211 Lib.Math.max.name, .static Lib.Math.max.name, .code Lib.Math.max.name Lib.Math.max.code 2 (some .int), .methodLink RX12 232 yX12_isIn, .static yX12_isIn, .fieldLink RX12 9 "SeaLandModel" "world" "[I", .methodLink RX12 505 yX12_worthOf, .instanceMethod yX12_worthOf, .selects RX12 yX12_worthOf yX12_worthOf, .methodLink RX12 511 yX12_bestFarm, .instanceMethod yX12_bestFarm, .selects RX12 yX12_bestFarm yX12_bestFarm, .fieldLink RX12 101 "SeaLandModel" "holds" "[I", .code yX12_sumOf cX12_sumOf 6 (some .long), .code yX12_looksAt cX12_looksAt 2 none, .fieldLink RX12 76 "SeaLandModel" "facts" "[J", .code yX12_acres cX12_acres 4 (some .int), .methodLink RX12 467 yX12_acres, .instanceMethod yX12_acres, .selects RX12 yX12_acres yX12_acres, .fieldLink RX12 104 "SeaLandModel" "gain" "[I", .fieldLink RX12 79 "SeaLandModel" "age" "[I", .fieldLink RX12 82 "SeaLandModel" "sons" "[I", .fieldLink RX12 85 "SeaLandModel" "coin" "[I", .fieldLink RX12 88 "SeaLandModel" "cattle" "[I", .fieldLink RX12 91 "SeaLandModel" "isKin" "[Z", .fieldLink RX12 95 "SeaLandModel" "isBoard" "[Z", .code yX12_near cX12_near 5 (some .int), .methodLink RX12 469 yX12_near, .instanceMethod yX12_near, .selects RX12 yX12_near yX12_near, .fieldLink RX12 107 "SeaLandModel" "owes" "[I", .methodLink RX12 474 yX12_looksAt, .instanceMethod yX12_looksAt, .selects RX12 yX12_looksAt yX12_looksAt, .fieldLink RX12 42 "SeaLandModel" "lines" "[I", .fieldLink RX12 45 "SeaLandModel" "sort" "[I", .code yX12_holds cX12_holds 9 (some .boolean), .fieldLink RX12 60 "SeaLandModel" "begins" "[I", .fieldLink RX12 63 "SeaLandModel" "ends" "[I", .fieldLink RX12 66 "SeaLandModel" "step" "[I", .fieldLink RX12 72 "SeaLandModel" "value" "[J", .methodLink RX12 471 Lib.MathLoose.max_long.x, .static Lib.MathLoose.max_long.x, .code Lib.MathLoose.max_long.x Lib.MathLoose.max_long.code 4 (some .long), .fieldLink RX12 69 "SeaLandModel" "than" "[I", .methodLink RX12 478 yX12_holds, .instanceMethod yX12_holds, .selects RX12 yX12_holds yX12_holds, .methodLink RX12 480 yX12_sumOf, .instanceMethod yX12_sumOf, .selects RX12 yX12_sumOf yX12_sumOf, .code yX12_isDike cX12_isDike 2 (some .boolean), .code yX12_of cX12_of 3 (some .int), .code yX12_at cX12_at 2 (some .int), .methodLink RX12 214 yX12_at, .static yX12_at, .methodLink RX12 217 yX12_of, .instanceMethod yX12_of, .selects RX12 yX12_of yX12_of, .methodLink RX12 272 yX12_isDike, .instanceMethod yX12_isDike, .selects RX12 yX12_isDike yX12_isDike, .code yX12_steps cX12_steps 2 (some .int), .methodLink RX12 201 Lib.Math.abs.name, .static Lib.Math.abs.name, .code Lib.Math.abs.name Lib.Math.abs.code 1 (some .int), .methodLink RX12 262 yX12_steps, .static yX12_steps, .fieldLink RX12 48 "SeaLandModel" "told" "[I"] bs)
