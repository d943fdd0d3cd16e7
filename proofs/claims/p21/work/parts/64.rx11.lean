set_option maxHeartbeats 4000000 in
set_option maxRecDepth 100000 in
theorem s_harvestZ (l : Launch) (dC : Nat → ClassId) (dI : Nat → Nat → Nat) (kA : Nat → ClassId) (adK adV : Nat → Nat) (G : gT) (H0 : Heap) (q : Nat → Nat) (wZ wN : Nat → Int) (wH wB wC : Int) (wL wK : Nat → Prop) (wU wV : Nat → Nat) (PI : Nat → Int → Prop) (im : Int) (PM PT : Nat → Int → Prop) (lS lB lE : Nat → Nat → Int → Prop) (lN : Nat → Int) (o0 : Nat) (sn : Int32) (vH : Nat → Int32)  (hT : gH (dC, dI) kA (SHm q (wP wZ wN wH wB wC wL wK wU wV) PI im PM PT lS lB lE lN) G H0) (hr_o0 : G o0 = some 0) (hm_sn : el H0 o0 (dI 15 42) = some (.int sn)) (hq0 : 0 ≤ sn.toInt ∧ sn.toInt ≤ 60) (hall : ∀ p : Nat, ((p : Nat) : Int) < sn.toInt → (vH p).toInt < 0) (hc_vH : ct H0 (q 38) 60 vH) (hgz : ∀ i, 0 ≤ wZ i) (hgn : ∀ i, 6500000 ≤ wN i ∧ wN i ≤ 20200000) (hgh : 0 ≤ wH ∧ wH ≤ 40000) (hgb : 0 ≤ wB ∧ wB ≤ 3850000) (hgc : 0 ≤ wC ∧ wC ≤ 30) (hgi : 0 ≤ im ∧ im ≤ 1) (hgu : ∀ a t, G a = some (t + 1) → a = q t) : Met l yX12_harvest w_s_harvestZ ({ frames := 1, cells := 0, slots := 0, locals := 20 }) (va_Pc [.ref o0] (fun U => U.heap = H0 ∧ va_K (dC, dI) vwCl (tyl kA) U ∧ EVS adK adV (gA G H0.size) U U.heap)) (va_Qi (fun (r : Int32) (u : Unit) => (-1 ≤ r.toInt ∧ r.toInt ≤ 0)) (fun (_ : Unit) (t : State) => gH (dC, dI) kA (SHm q (wP wZ wN wH wB wC wL wK wU wV) PI im PM PT lS lB lE lN) G t.heap ∧ gF (dC, dI) SKm G ([(0, 0), (0, 49), (2, 0)] : List (Nat × Nat)) H0 t.heap) (gA G H0.size)) 0 0 (gA G H0.size) := by
  refine Met.ofW (cc := cX12_harvest) (maxL := 6) (ret := (some .int)) (by decide) rfl ?_
  intro p e s m args below meth c s₁ B hml hv
  obtain ⟨rfl, hH0, hK, hE⟩ := hv
  have hx := B.exec
  have hb := B.bytes
  have hr := B.returns
  have hts := atoms_spec (ws := w_s_harvestZ) B.pre
  have hown : s.vm.findClass RX12 = some m.cls := findClass_of_methodNamed B.named
  have hlocks := B.notSynchronized
  subst hH0
  generalize hAe : gA G s.heap.size = A at hE ⊢
  have hA : ∀ q : Nat, s.heap.size ≤ q → A q := fun q h => by rw [← hAe]; exact Or.inr h
  have hG := gA_of hAe
  have hS : va_S A s.heap s.heap [] := va_S.rf
  have hF : gF (dC, dI) SKm G ([(0, 0), (0, 49), (2, 0)] : List (Nat × Nat)) s.heap s.heap := gF.rf
  have hl := lv_entry ([.ref o0]) (n := 6) (Nat.le_of_ble_eq_true rfl)
  rw [lg_entry_eq]
  generalize (lg_sl ([.ref o0]) ++ List.replicate (6 - (lg_sl ([.ref o0])).length) Slot.unset).toArray = ls at hl ⊢
  have hl : lv_has ls 6 [(0, .ref o0)] := hl
  have hg1 : G (q 38) = some 39 := gx_of hT hr_o0 shm_0 (k := 38) (by decide) rfl
  refine lv_aload_n hx hb dX12_harvest_0 rfl (lv_at hl 0 rfl) ?_
  refine lv_iconst (v := 0) hx hb dX12_harvest_1 (by decide) ?_
  refine tw_put (v := .int 0) (ty := .int) hx hb hts bF_X12 tyX12 tyX12_ok nmX12 hown hK hT hG hS hr_o0 shm_0 rfl 0 (by decide) (ht_at hts 0 rfl) (fun _ h9 => h9) rfl (by decide +kernel) rfl rfl (gl_at rfl (gi_all _)) dX12_harvest_2 (fun H locs hT oq m2 oj hS => ?_)
  have hF := hF.put hr_o0 skm_0 oq oj (by decide)
  have m3 := (oj 42 (by decide) (by decide)).trans hm_sn
  have m4 := hc_vH.kept (oq _ (gne hg1 hr_o0 (by decide)))
  refine lv_aload_n hx hb dX12_harvest_5 rfl (lv_at hl 0 rfl) ?_
  have hFc := gA_free hG hA hS
  refine va_calli (va_runV (As := []) (rest := []) ⟨hx, hb, hml, hown, hts⟩ (s_hour l dC dI kA adK adV G H q wZ wN wH wB wC wL wK wU wV PI im PM PT lS lB lE lN o0 hT hr_o0 hgz hgn hgh hgb hgc hgi hgu) (cwV 0 hts (goodIn_app (goodIn_r _ [4, 5, 6, 7] rfl (by decide +kernel)) (goodIn_ca (goodIn_r _ [2, 3] rfl (by decide +kernel)) (bs_in _ _))) rfl rfl rfl (by decide +kernel) ⟨(Nat.le_of_ble_eq_true rfl), (Nat.le_of_ble_eq_true rfl)⟩) ⟨fun a U g mk q => by obtain ⟨q0, q1, qK, qE⟩ := q; exact ⟨q0, q1, va_K.moved (u := U) (U := U.calling g mk a) (Vm.Alike.refl U.vm) qK, EVS.blind g mk a qE⟩, gH_rc hK hT hr_o0 shm_0 rfl, fun U hU hW => ⟨rfl, hU, va_K.moved hW.alike hK, hE.call hS hFc hU hW⟩⟩ rfl rfl hl.1 rfl (lv_room (Nat.le_of_ble_eq_true rfl)) dX12_harvest_6 ⟨(Nat.le_of_ble_eq_true rfl), (Nat.le_of_ble_eq_true rfl)⟩) hS (fun q _ h => hFc q h) hFc (fun r5 u t H locs ht hvm hw6 hB _ _ hS => ?_)
  obtain ⟨hT, hF1⟩ := hB
  rw [ht] at hT hF1
  have m7 := (hF1.fld hr_o0 skm_0 (k := 42) (by decide) (by decide)).trans m3
  have m8 := m4.kept (hF1.arr hg1 skm_39 (by decide))
  have m9 := (hF1.fld hr_o0 skm_0 (k := 0) (by decide) (by decide)).trans m2
  have hF := hF.more hF1 (by decide)
  try dsimp only at hw6
  obtain ⟨h10, hf11⟩ := hw6
  refine lv_bipush (v := 24) hx hb dX12_harvest_9 (by decide) ?_
  refine lv_idiv hx hb dX12_harvest_11 (by decide) ?_
  refine lv_topi (fun x12 ex12 => ?_)
  have t13 : x12.toInt = r5.toInt / 24 := ti_div ex12 rfl (by decide) (by omega) (by omega)
  refine lv_sipush (v := 360) hx hb dX12_harvest_12 (by decide) ?_
  refine lv_idiv hx hb dX12_harvest_15 (by decide) ?_
  refine lv_topi (fun x14 ex14 => ?_)
  have t15 : x14.toInt = x12.toInt / 360 := ti_div ex14 rfl (by decide) (by omega) (by omega)
  refine lv_istore_n (lv' := [(1, .int x14), (0, .ref o0)]) hx hb dX12_harvest_16 rfl hl (by decide) rfl (fun ls hl => ?_)
  refine lv_aload_n hx hb dX12_harvest_17 rfl (lv_at hl 1 rfl) ?_
  refine tw_get hx hb hts bF_X12 hown hK hT hr_o0 shm_0 rfl 49 (by decide) (ht_at hts 7 rfl) (fun _ h9 => h9) dX12_harvest_18 (fun v9 m16 h9 => ?_)
  obtain ⟨x17, rfl, gx17, kx17⟩ := h9 _ rfl
  refine lv_iload_n hx hb dX12_harvest_21 rfl (lv_at hl 0 rfl) ?_
  refine lv_icmp_ne (tgt := 27) hx hb dX12_harvest_22 (by decide) (fun c18 => ?_) (fun c18 => ?_)
  · have t19 : x17.toInt ≠ x14.toInt := ti_ne c18 rfl rfl
    refine lv_aload_n hx hb dX12_harvest_27 rfl (lv_at hl 1 rfl) ?_
    refine lv_iload_n hx hb dX12_harvest_28 rfl (lv_at hl 0 rfl) ?_
    refine tw_put (v := .int x14) (ty := .int) hx hb hts bF_X12 tyX12 tyX12_ok nmX12 hown hK hT hG hS hr_o0 shm_0 rfl 49 (by decide) (ht_at hts 7 rfl) (fun _ h9 => h9) rfl (by decide +kernel) rfl rfl (gl_at rfl (gi_all _)) dX12_harvest_29 (fun H locs hT oq m20 oj hS => ?_)
    have hF := hF.put hr_o0 skm_0 oq oj (by decide)
    have m21 := (oj 42 (by decide) (by decide)).trans m7
    have m22 := m8.kept (oq _ (gne hg1 hr_o0 (by decide)))
    have m23 := (oj 0 (by decide) (by decide)).trans m9
    refine lv_iconst (v := 0) hx hb dX12_harvest_32 (by decide) ?_
    refine lv_istore_n (lv' := [(2, .int 0), (1, .int x14), (0, .ref o0)]) hx hb dX12_harvest_33 rfl hl (by decide) rfl (fun ls hl => ?_)
    refine lv_iconst (v := 0) hx hb dX12_harvest_34 (by decide) ?_
    refine lv_istore_n (lv' := [(3, .int 0), (2, .int 0), (1, .int x14), (0, .ref o0)]) hx hb dX12_harvest_35 rfl hl (by decide) rfl (fun ls hl => ?_)
    have key97 : ∀ (n97 i24 : Nat), i24 + n97 = 60 → 0 ≤ i24 → ∀ (H : Heap) (locs : List Loc), gH (dC, dI) kA (SHm q (wP wZ wN wH wB wC wL wK wU wV) PI im PM PT lS lB lE lN) G H → gF (dC, dI) SKm G ([(0, 0), (0, 49), (2, 0)] : List (Nat × Nat)) s.heap H → va_S A s.heap H locs → ct H (q 38) 60 vH → el H o0 (dI 15 42) = some (.int sn) → el H o0 (dI 15 0) = some (.int 0) → el H o0 (dI 15 49) = some (.int x14) → ∀ ls : Array Slot, lv_has ls 6 [(3, .int (nI i24)), (2, .int 0), (1, .int x14), (0, .ref o0)] → W p l e (headSpec w_s_harvestZ ({ frames := 1, cells := 0, slots := 0, locals := 20 })).room s m #[.ref o0] below meth c H locs 0 0 (MQ below (va_Qi (fun (r : Int32) (u : Unit) => (-1 ≤ r.toInt ∧ r.toInt ≤ 0)) (fun (_ : Unit) (t : State) => gH (dC, dI) kA (SHm q (wP wZ wN wH wB wC wL wK wU wV) PI im PM PT lS lB lE lN) G t.heap ∧ gF (dC, dI) SKm G ([(0, 0), (0, 49), (2, 0)] : List (Nat × Nat)) s.heap t.heap) A) #[.ref o0] s 0 0 A) (F0 m 36 ls []) := by
      intro n97
      induction n97 with
      | zero =>
        intro i24 hn97 hlo98  H locs hT hF hS m25 m26 m27 m28 ls hl
        obtain rfl : 60 = i24 := by omega
        refine lv_iload_n hx hb dX12_harvest_36 rfl (lv_at hl 0 rfl) ?_
        refine lv_aload_n hx hb dX12_harvest_37 rfl (lv_at hl 3 rfl) ?_
        refine tw_getM (v := .int sn) hx hb hts bF_X12 hown hK hT hr_o0 shm_0 rfl 42 (by decide) (ht_at hts 8 rfl) (fun _ h9 => h9) m26 dX12_harvest_38 ?_
        refine lv_icmp_ge (tgt := 102) hx hb dX12_harvest_41 (by decide) (fun c99 => ?_) (fun c99 => (by exfalso; have q9 : ((60 : Nat) : Int) < sn.toInt := ti_nle c99 rfl (nI_toInt (by omega)); omega))
        have t100 : sn.toInt ≤ ((60 : Nat) : Int) := ti_le c99 rfl (nI_toInt (by omega))
        refine lv_iconst (v := 0) hx hb dX12_harvest_102 (by decide) ?_
        refine lv_istore_n (lv' := [(3, .int 0), (2, .int 0), (1, .int x14), (0, .ref o0)]) hx hb dX12_harvest_103 rfl hl (by decide) rfl (fun ls hl => ?_)
        have key116 : ∀ (n116 i101 : Nat), i101 + n116 = 96 → 0 ≤ i101 → ∀ (H : Heap) (locs : List Loc), gH (dC, dI) kA (SHm q (wP wZ wN wH wB wC wL wK wU wV) PI im PM PT lS lB lE lN) G H → gF (dC, dI) SKm G ([(0, 0), (0, 49), (2, 0)] : List (Nat × Nat)) s.heap H → va_S A s.heap H locs → ct H (q 38) 60 vH → el H o0 (dI 15 42) = some (.int sn) → el H o0 (dI 15 0) = some (.int 0) → el H o0 (dI 15 49) = some (.int x14) → ∀ ls : Array Slot, lv_has ls 6 [(3, .int (nI i101)), (2, .int 0), (1, .int x14), (0, .ref o0)] → W p l e (headSpec w_s_harvestZ ({ frames := 1, cells := 0, slots := 0, locals := 20 })).room s m #[.ref o0] below meth c H locs 0 0 (MQ below (va_Qi (fun (r : Int32) (u : Unit) => (-1 ≤ r.toInt ∧ r.toInt ≤ 0)) (fun (_ : Unit) (t : State) => gH (dC, dI) kA (SHm q (wP wZ wN wH wB wC wL wK wU wV) PI im PM PT lS lB lE lN) G t.heap ∧ gF (dC, dI) SKm G ([(0, 0), (0, 49), (2, 0)] : List (Nat × Nat)) s.heap t.heap) A) #[.ref o0] s 0 0 A) (F0 m 104 ls []) := by
          intro n116
          induction n116 with
          | zero =>
            intro i101 hn116 hlo117  H locs hT hF hS m102 m103 m104 m105 ls hl
            obtain rfl : 96 = i101 := by omega
            refine lv_iload_n hx hb dX12_harvest_104 rfl (lv_at hl 0 rfl) ?_
            refine lv_bipush (v := 96) hx hb dX12_harvest_105 (by decide) ?_
            refine lv_icmp_ge (tgt := 127) hx hb dX12_harvest_107 (by decide) (fun c118 => ?_) (fun c118 => (by exfalso; have q9 : ((96 : Nat) : Int) < 96 := ti_nle c118 (by decide) (nI_toInt (by omega)); omega))
            have t119 : 96 ≤ ((96 : Nat) : Int) := ti_le c118 (by decide) (nI_toInt (by omega))
            refine lv_iconst (v := 0) hx hb dX12_harvest_127 (by decide) ?_
            refine lv_istore_n (lv' := [(3, .int 0), (2, .int 0), (1, .int x14), (0, .ref o0)]) hx hb dX12_harvest_128 rfl hl (by decide) rfl (fun ls hl => ?_)
            have key135 : ∀ (n135 i120 : Nat), i120 + n135 = 60 → 0 ≤ i120 → ∀ (H : Heap) (locs : List Loc), gH (dC, dI) kA (SHm q (wP wZ wN wH wB wC wL wK wU wV) PI im PM PT lS lB lE lN) G H → gF (dC, dI) SKm G ([(0, 0), (0, 49), (2, 0)] : List (Nat × Nat)) s.heap H → va_S A s.heap H locs → ct H (q 38) 60 vH → el H o0 (dI 15 42) = some (.int sn) → el H o0 (dI 15 0) = some (.int 0) → el H o0 (dI 15 49) = some (.int x14) → ∀ ls : Array Slot, lv_has ls 6 [(3, .int (nI i120)), (2, .int 0), (1, .int x14), (0, .ref o0)] → W p l e (headSpec w_s_harvestZ ({ frames := 1, cells := 0, slots := 0, locals := 20 })).room s m #[.ref o0] below meth c H locs 0 0 (MQ below (va_Qi (fun (r : Int32) (u : Unit) => (-1 ≤ r.toInt ∧ r.toInt ≤ 0)) (fun (_ : Unit) (t : State) => gH (dC, dI) kA (SHm q (wP wZ wN wH wB wC wL wK wU wV) PI im PM PT lS lB lE lN) G t.heap ∧ gF (dC, dI) SKm G ([(0, 0), (0, 49), (2, 0)] : List (Nat × Nat)) s.heap t.heap) A) #[.ref o0] s 0 0 A) (F0 m 129 ls []) := by
              intro n135
              induction n135 with
              | zero =>
                intro i120 hn135 hlo136  H locs hT hF hS m121 m122 m123 m124 ls hl
                obtain rfl : 60 = i120 := by omega
                refine lv_iload_n hx hb dX12_harvest_129 rfl (lv_at hl 0 rfl) ?_
                refine lv_aload_n hx hb dX12_harvest_130 rfl (lv_at hl 3 rfl) ?_
                refine tw_getM (v := .int sn) hx hb hts bF_X12 hown hK hT hr_o0 shm_0 rfl 42 (by decide) (ht_at hts 8 rfl) (fun _ h9 => h9) m122 dX12_harvest_131 ?_
                refine lv_icmp_ge (tgt := 266) hx hb dX12_harvest_134 (by decide) (fun c137 => ?_) (fun c137 => (by exfalso; have q9 : ((60 : Nat) : Int) < sn.toInt := ti_nle c137 rfl (nI_toInt (by omega)); omega))
                have t138 : sn.toInt ≤ ((60 : Nat) : Int) := ti_le c137 rfl (nI_toInt (by omega))
                refine lv_iload_n hx hb dX12_harvest_266 rfl (lv_at hl 1 rfl) ?_
                exact W.iret (v := 0) hx hb hr (fun t ht hW => ⟨⟨0, (), rfl, (by exact (rg_t (a := 0) (by decide) (by first | decide | omega) (by first | decide | omega))), by (try dsimp only); rw [ht]; exact ⟨hT, hF⟩⟩, hS.F ht⟩) hS.2.2 dX12_harvest_267
              | succ n135 ih135 =>
                intro i120 hn135 hlo136  H locs hT hF hS m121 m122 m123 m124 ls hl
                have hlt138 : i120 < 60 := by omega
                refine lv_iload_n hx hb dX12_harvest_129 rfl (lv_at hl 0 rfl) ?_
                refine lv_aload_n hx hb dX12_harvest_130 rfl (lv_at hl 3 rfl) ?_
                refine tw_getM (v := .int sn) hx hb hts bF_X12 hown hK hT hr_o0 shm_0 rfl 42 (by decide) (ht_at hts 8 rfl) (fun _ h9 => h9) m122 dX12_harvest_131 ?_
                refine lv_icmp_ge (tgt := 266) hx hb dX12_harvest_134 (by decide) (fun c139 => ?_) (fun c139 => ?_)
                · have t140 : sn.toInt ≤ ((i120 : Nat) : Int) := ti_le c139 rfl (nI_toInt (by omega))
                  refine lv_iload_n hx hb dX12_harvest_266 rfl (lv_at hl 1 rfl) ?_
                  exact W.iret (v := 0) hx hb hr (fun t ht hW => ⟨⟨0, (), rfl, (by exact (rg_t (a := 0) (by decide) (by first | decide | omega) (by first | decide | omega))), by (try dsimp only); rw [ht]; exact ⟨hT, hF⟩⟩, hS.F ht⟩) hS.2.2 dX12_harvest_267
                · have t141 : ((i120 : Nat) : Int) < sn.toInt := ti_nle c139 rfl (nI_toInt (by omega))
                  refine lv_aload_n hx hb dX12_harvest_137 rfl (lv_at hl 3 rfl) ?_
                  refine tw_get hx hb hts bF_X12 hown hK hT hr_o0 shm_0 rfl 38 (by decide) (ht_at hts 9 rfl) (fun _ h9 => h9) dX12_harvest_138 (fun v9 m142 h9 => ?_)
                  obtain ⟨rfl, hg143⟩ := h9 _ rfl
                  refine lv_iload_n hx hb dX12_harvest_141 rfl (lv_at hl 0 rfl) ?_
                  refine tw_iald (i := (nI i120)) hx hb hK hT hg1 shm_39 rfl (vp_in_nI (by omega) (by decide)) dX12_harvest_142 (fun v9 m144 h9 => ?_)
                  obtain ⟨x145, rfl, gx145, kx145⟩ := h9
                  have cx145 := m121.at m144 (by have q9 := tn_of (show (nI i120).toInt = ((i120 : Nat) : Int) from (nI_toInt (by omega))) (by omega); omega)
                  have t146 : x145.toInt < 0 := (by rw [cx145, tn_nI (by omega)]; exact hall i120 (by omega))
                  refine lv_if_ge (tgt := 149) hx hb dX12_harvest_143 (by decide) (fun c147 => (by exfalso; have q9 : 0 ≤ x145.toInt := ti_le c147 (by decide) rfl; omega)) (fun c147 => ?_)
                  have t148 : x145.toInt < 0 := ti_nle c147 (by decide) rfl
                  refine lv_goto (tgt := 260) hx hb dX12_harvest_146 (by decide) ?_
                  refine lv_iinc (v := nI (i120 + 1)) (lv' := [(3, .int (nI (i120 + 1))), (2, .int 0), (1, .int x14), (0, .ref o0)]) hx hb dX12_harvest_260 hl (k := 0) rfl (nI_add i120 1) (by decide) rfl (fun ls hl => ?_)
                  refine lv_goto (tgt := 129) hx hb dX12_harvest_263 (by decide) ?_
                  exact ih135 (i120 + 1) (by omega) (by omega) _ _ hT hF hS m121 m122 m123 m124 ls (lv_sub hl [0, 1, 2, 3] rfl)
            exact key135 (60 - 0) 0 (by omega) (Nat.le_refl _) _ _ hT hF hS m102 m103 m104 m105 ls (lv_sub hl [0, 1, 2, 3] rfl)
          | succ n116 ih116 =>
            intro i101 hn116 hlo117  H locs hT hF hS m102 m103 m104 m105 ls hl
            have hlt148 : i101 < 96 := by omega
            refine lv_iload_n hx hb dX12_harvest_104 rfl (lv_at hl 0 rfl) ?_
            refine lv_bipush (v := 96) hx hb dX12_harvest_105 (by decide) ?_
            refine lv_icmp_ge (tgt := 127) hx hb dX12_harvest_107 (by decide) (fun c149 => (by exfalso; have q9 : 96 ≤ ((i101 : Nat) : Int) := ti_le c149 (by decide) (nI_toInt (by omega)); omega)) (fun c149 => ?_)
            have t150 : ((i101 : Nat) : Int) < 96 := ti_nle c149 (by decide) (nI_toInt (by omega))
            refine lv_aload_n hx hb dX12_harvest_110 rfl (lv_at hl 3 rfl) ?_
            refine tw_get hx hb hts bF_X12 hown hK hT hr_o0 shm_0 rfl 1 (by decide) (ht_at hts 2 rfl) (fun _ h9 => h9) dX12_harvest_111 (fun v9 m151 h9 => ?_)
            obtain ⟨rfl, hg152⟩ := h9 _ rfl
            refine lv_sipush (v := 672) hx hb dX12_harvest_114 (by decide) ?_
            refine lv_iload_n hx hb dX12_harvest_117 rfl (lv_at hl 0 rfl) ?_
            refine lv_iadd hx hb dX12_harvest_118 ?_
            refine lv_topi (fun x153 ex153 => ?_)
            obtain rfl : nI (672 + i101) = x153 := (ex153.trans (nI_add 672 i101)).symm
            refine lv_iconst (v := 0) hx hb dX12_harvest_119 (by decide) ?_
            refine tw_iast (i := (nI (672 + i101))) (x := 0) hx hb hK hT hG hS hg152 shm_2 rfl (vp_in_nI (by omega) (by decide)) (gp_of (gi_all _) (w_fre (by have q9 := tn_of (show (nI (672 + i101)).toInt = ((672 + i101 : Nat) : Int) from (nI_toInt (by omega))) (show (0 : Int) ≤ ((672 + i101 : Nat) : Int) from by omega); omega)) (wX_o (by have q9 := tn_of (show (nI (672 + i101)).toInt = ((672 + i101 : Nat) : Int) from (nI_toInt (by omega))) (show (0 : Int) ≤ ((672 + i101 : Nat) : Int) from by omega); omega) (by omega))) dX12_harvest_120 (fun H locs hT oq m154 oi hS => ?_)
            have hF := hF.ast hg152 skm_2 oq (by decide)
            have m155 := m102.kept (oq _ (gne hg1 hg152 (by decide)))
            have m156 := (el_kept (oq _ (gne hr_o0 hg152 (by decide)))).trans m103
            have m157 := (el_kept (oq _ (gne hr_o0 hg152 (by decide)))).trans m104
            have m158 := (el_kept (oq _ (gne hr_o0 hg152 (by decide)))).trans m105
            refine lv_iinc (v := nI (i101 + 1)) (lv' := [(3, .int (nI (i101 + 1))), (2, .int 0), (1, .int x14), (0, .ref o0)]) hx hb dX12_harvest_121 hl (k := 0) rfl (nI_add i101 1) (by decide) rfl (fun ls hl => ?_)
            refine lv_goto (tgt := 104) hx hb dX12_harvest_124 (by decide) ?_
            exact ih116 (i101 + 1) (by omega) (by omega) _ _ hT hF hS m155 m156 m157 m158 ls (lv_sub hl [0, 1, 2, 3] rfl)
        exact key116 (96 - 0) 0 (by omega) (Nat.le_refl _) _ _ hT hF hS m25 m26 m27 m28 ls (lv_sub hl [0, 1, 2, 3] rfl)
      | succ n97 ih97 =>
        intro i24 hn97 hlo98  H locs hT hF hS m25 m26 m27 m28 ls hl
        have hlt158 : i24 < 60 := by omega
        refine lv_iload_n hx hb dX12_harvest_36 rfl (lv_at hl 0 rfl) ?_
        refine lv_aload_n hx hb dX12_harvest_37 rfl (lv_at hl 3 rfl) ?_
        refine tw_getM (v := .int sn) hx hb hts bF_X12 hown hK hT hr_o0 shm_0 rfl 42 (by decide) (ht_at hts 8 rfl) (fun _ h9 => h9) m26 dX12_harvest_38 ?_
        refine lv_icmp_ge (tgt := 102) hx hb dX12_harvest_41 (by decide) (fun c159 => ?_) (fun c159 => ?_)
        · have t160 : sn.toInt ≤ ((i24 : Nat) : Int) := ti_le c159 rfl (nI_toInt (by omega))
          refine lv_iconst (v := 0) hx hb dX12_harvest_102 (by decide) ?_
          refine lv_istore_n (lv' := [(3, .int 0), (2, .int 0), (1, .int x14), (0, .ref o0)]) hx hb dX12_harvest_103 rfl hl (by decide) rfl (fun ls hl => ?_)
          have key176 : ∀ (n176 i161 : Nat), i161 + n176 = 96 → 0 ≤ i161 → ∀ (H : Heap) (locs : List Loc), gH (dC, dI) kA (SHm q (wP wZ wN wH wB wC wL wK wU wV) PI im PM PT lS lB lE lN) G H → gF (dC, dI) SKm G ([(0, 0), (0, 49), (2, 0)] : List (Nat × Nat)) s.heap H → va_S A s.heap H locs → ct H (q 38) 60 vH → el H o0 (dI 15 42) = some (.int sn) → el H o0 (dI 15 0) = some (.int 0) → el H o0 (dI 15 49) = some (.int x14) → ∀ ls : Array Slot, lv_has ls 6 [(3, .int (nI i161)), (2, .int 0), (1, .int x14), (0, .ref o0)] → W p l e (headSpec w_s_harvestZ ({ frames := 1, cells := 0, slots := 0, locals := 20 })).room s m #[.ref o0] below meth c H locs 0 0 (MQ below (va_Qi (fun (r : Int32) (u : Unit) => (-1 ≤ r.toInt ∧ r.toInt ≤ 0)) (fun (_ : Unit) (t : State) => gH (dC, dI) kA (SHm q (wP wZ wN wH wB wC wL wK wU wV) PI im PM PT lS lB lE lN) G t.heap ∧ gF (dC, dI) SKm G ([(0, 0), (0, 49), (2, 0)] : List (Nat × Nat)) s.heap t.heap) A) #[.ref o0] s 0 0 A) (F0 m 104 ls []) := by
            intro n176
            induction n176 with
            | zero =>
              intro i161 hn176 hlo177  H locs hT hF hS m162 m163 m164 m165 ls hl
              obtain rfl : 96 = i161 := by omega
              refine lv_iload_n hx hb dX12_harvest_104 rfl (lv_at hl 0 rfl) ?_
              refine lv_bipush (v := 96) hx hb dX12_harvest_105 (by decide) ?_
              refine lv_icmp_ge (tgt := 127) hx hb dX12_harvest_107 (by decide) (fun c178 => ?_) (fun c178 => (by exfalso; have q9 : ((96 : Nat) : Int) < 96 := ti_nle c178 (by decide) (nI_toInt (by omega)); omega))
              have t179 : 96 ≤ ((96 : Nat) : Int) := ti_le c178 (by decide) (nI_toInt (by omega))
              refine lv_iconst (v := 0) hx hb dX12_harvest_127 (by decide) ?_
              refine lv_istore_n (lv' := [(3, .int 0), (2, .int 0), (1, .int x14), (0, .ref o0)]) hx hb dX12_harvest_128 rfl hl (by decide) rfl (fun ls hl => ?_)
              have key195 : ∀ (n195 i180 : Nat), i180 + n195 = 60 → 0 ≤ i180 → ∀ (H : Heap) (locs : List Loc), gH (dC, dI) kA (SHm q (wP wZ wN wH wB wC wL wK wU wV) PI im PM PT lS lB lE lN) G H → gF (dC, dI) SKm G ([(0, 0), (0, 49), (2, 0)] : List (Nat × Nat)) s.heap H → va_S A s.heap H locs → ct H (q 38) 60 vH → el H o0 (dI 15 42) = some (.int sn) → el H o0 (dI 15 0) = some (.int 0) → el H o0 (dI 15 49) = some (.int x14) → ∀ ls : Array Slot, lv_has ls 6 [(3, .int (nI i180)), (2, .int 0), (1, .int x14), (0, .ref o0)] → W p l e (headSpec w_s_harvestZ ({ frames := 1, cells := 0, slots := 0, locals := 20 })).room s m #[.ref o0] below meth c H locs 0 0 (MQ below (va_Qi (fun (r : Int32) (u : Unit) => (-1 ≤ r.toInt ∧ r.toInt ≤ 0)) (fun (_ : Unit) (t : State) => gH (dC, dI) kA (SHm q (wP wZ wN wH wB wC wL wK wU wV) PI im PM PT lS lB lE lN) G t.heap ∧ gF (dC, dI) SKm G ([(0, 0), (0, 49), (2, 0)] : List (Nat × Nat)) s.heap t.heap) A) #[.ref o0] s 0 0 A) (F0 m 129 ls []) := by
                intro n195
                induction n195 with
                | zero =>
                  intro i180 hn195 hlo196  H locs hT hF hS m181 m182 m183 m184 ls hl
                  obtain rfl : 60 = i180 := by omega
                  refine lv_iload_n hx hb dX12_harvest_129 rfl (lv_at hl 0 rfl) ?_
                  refine lv_aload_n hx hb dX12_harvest_130 rfl (lv_at hl 3 rfl) ?_
                  refine tw_getM (v := .int sn) hx hb hts bF_X12 hown hK hT hr_o0 shm_0 rfl 42 (by decide) (ht_at hts 8 rfl) (fun _ h9 => h9) m182 dX12_harvest_131 ?_
                  refine lv_icmp_ge (tgt := 266) hx hb dX12_harvest_134 (by decide) (fun c197 => ?_) (fun c197 => (by exfalso; have q9 : ((60 : Nat) : Int) < sn.toInt := ti_nle c197 rfl (nI_toInt (by omega)); omega))
                  have t198 : sn.toInt ≤ ((60 : Nat) : Int) := ti_le c197 rfl (nI_toInt (by omega))
                  refine lv_iload_n hx hb dX12_harvest_266 rfl (lv_at hl 1 rfl) ?_
                  exact W.iret (v := 0) hx hb hr (fun t ht hW => ⟨⟨0, (), rfl, (by exact (rg_t (a := 0) (by decide) (by first | decide | omega) (by first | decide | omega))), by (try dsimp only); rw [ht]; exact ⟨hT, hF⟩⟩, hS.F ht⟩) hS.2.2 dX12_harvest_267
                | succ n195 ih195 =>
                  intro i180 hn195 hlo196  H locs hT hF hS m181 m182 m183 m184 ls hl
                  have hlt198 : i180 < 60 := by omega
                  refine lv_iload_n hx hb dX12_harvest_129 rfl (lv_at hl 0 rfl) ?_
                  refine lv_aload_n hx hb dX12_harvest_130 rfl (lv_at hl 3 rfl) ?_
                  refine tw_getM (v := .int sn) hx hb hts bF_X12 hown hK hT hr_o0 shm_0 rfl 42 (by decide) (ht_at hts 8 rfl) (fun _ h9 => h9) m182 dX12_harvest_131 ?_
                  refine lv_icmp_ge (tgt := 266) hx hb dX12_harvest_134 (by decide) (fun c199 => ?_) (fun c199 => ?_)
                  · have t200 : sn.toInt ≤ ((i180 : Nat) : Int) := ti_le c199 rfl (nI_toInt (by omega))
                    refine lv_iload_n hx hb dX12_harvest_266 rfl (lv_at hl 1 rfl) ?_
                    exact W.iret (v := 0) hx hb hr (fun t ht hW => ⟨⟨0, (), rfl, (by exact (rg_t (a := 0) (by decide) (by first | decide | omega) (by first | decide | omega))), by (try dsimp only); rw [ht]; exact ⟨hT, hF⟩⟩, hS.F ht⟩) hS.2.2 dX12_harvest_267
                  · have t201 : ((i180 : Nat) : Int) < sn.toInt := ti_nle c199 rfl (nI_toInt (by omega))
                    refine lv_aload_n hx hb dX12_harvest_137 rfl (lv_at hl 3 rfl) ?_
                    refine tw_get hx hb hts bF_X12 hown hK hT hr_o0 shm_0 rfl 38 (by decide) (ht_at hts 9 rfl) (fun _ h9 => h9) dX12_harvest_138 (fun v9 m202 h9 => ?_)
                    obtain ⟨rfl, hg203⟩ := h9 _ rfl
                    refine lv_iload_n hx hb dX12_harvest_141 rfl (lv_at hl 0 rfl) ?_
                    refine tw_iald (i := (nI i180)) hx hb hK hT hg1 shm_39 rfl (vp_in_nI (by omega) (by decide)) dX12_harvest_142 (fun v9 m204 h9 => ?_)
                    obtain ⟨x205, rfl, gx205, kx205⟩ := h9
                    have cx205 := m181.at m204 (by have q9 := tn_of (show (nI i180).toInt = ((i180 : Nat) : Int) from (nI_toInt (by omega))) (by omega); omega)
                    have t206 : x205.toInt < 0 := (by rw [cx205, tn_nI (by omega)]; exact hall i180 (by omega))
                    refine lv_if_ge (tgt := 149) hx hb dX12_harvest_143 (by decide) (fun c207 => (by exfalso; have q9 : 0 ≤ x205.toInt := ti_le c207 (by decide) rfl; omega)) (fun c207 => ?_)
                    have t208 : x205.toInt < 0 := ti_nle c207 (by decide) rfl
                    refine lv_goto (tgt := 260) hx hb dX12_harvest_146 (by decide) ?_
                    refine lv_iinc (v := nI (i180 + 1)) (lv' := [(3, .int (nI (i180 + 1))), (2, .int 0), (1, .int x14), (0, .ref o0)]) hx hb dX12_harvest_260 hl (k := 0) rfl (nI_add i180 1) (by decide) rfl (fun ls hl => ?_)
                    refine lv_goto (tgt := 129) hx hb dX12_harvest_263 (by decide) ?_
                    exact ih195 (i180 + 1) (by omega) (by omega) _ _ hT hF hS m181 m182 m183 m184 ls (lv_sub hl [0, 1, 2, 3] rfl)
              exact key195 (60 - 0) 0 (by omega) (Nat.le_refl _) _ _ hT hF hS m162 m163 m164 m165 ls (lv_sub hl [0, 1, 2, 3] rfl)
            | succ n176 ih176 =>
              intro i161 hn176 hlo177  H locs hT hF hS m162 m163 m164 m165 ls hl
              have hlt208 : i161 < 96 := by omega
              refine lv_iload_n hx hb dX12_harvest_104 rfl (lv_at hl 0 rfl) ?_
              refine lv_bipush (v := 96) hx hb dX12_harvest_105 (by decide) ?_
              refine lv_icmp_ge (tgt := 127) hx hb dX12_harvest_107 (by decide) (fun c209 => (by exfalso; have q9 : 96 ≤ ((i161 : Nat) : Int) := ti_le c209 (by decide) (nI_toInt (by omega)); omega)) (fun c209 => ?_)
              have t210 : ((i161 : Nat) : Int) < 96 := ti_nle c209 (by decide) (nI_toInt (by omega))
              refine lv_aload_n hx hb dX12_harvest_110 rfl (lv_at hl 3 rfl) ?_
              refine tw_get hx hb hts bF_X12 hown hK hT hr_o0 shm_0 rfl 1 (by decide) (ht_at hts 2 rfl) (fun _ h9 => h9) dX12_harvest_111 (fun v9 m211 h9 => ?_)
              obtain ⟨rfl, hg212⟩ := h9 _ rfl
              refine lv_sipush (v := 672) hx hb dX12_harvest_114 (by decide) ?_
              refine lv_iload_n hx hb dX12_harvest_117 rfl (lv_at hl 0 rfl) ?_
              refine lv_iadd hx hb dX12_harvest_118 ?_
              refine lv_topi (fun x213 ex213 => ?_)
              obtain rfl : nI (672 + i161) = x213 := (ex213.trans (nI_add 672 i161)).symm
              refine lv_iconst (v := 0) hx hb dX12_harvest_119 (by decide) ?_
              refine tw_iast (i := (nI (672 + i161))) (x := 0) hx hb hK hT hG hS hg212 shm_2 rfl (vp_in_nI (by omega) (by decide)) (gp_of (gi_all _) (w_fre (by have q9 := tn_of (show (nI (672 + i161)).toInt = ((672 + i161 : Nat) : Int) from (nI_toInt (by omega))) (show (0 : Int) ≤ ((672 + i161 : Nat) : Int) from by omega); omega)) (wX_o (by have q9 := tn_of (show (nI (672 + i161)).toInt = ((672 + i161 : Nat) : Int) from (nI_toInt (by omega))) (show (0 : Int) ≤ ((672 + i161 : Nat) : Int) from by omega); omega) (by omega))) dX12_harvest_120 (fun H locs hT oq m214 oi hS => ?_)
              have hF := hF.ast hg212 skm_2 oq (by decide)
              have m215 := m162.kept (oq _ (gne hg1 hg212 (by decide)))
              have m216 := (el_kept (oq _ (gne hr_o0 hg212 (by decide)))).trans m163
              have m217 := (el_kept (oq _ (gne hr_o0 hg212 (by decide)))).trans m164
              have m218 := (el_kept (oq _ (gne hr_o0 hg212 (by decide)))).trans m165
              refine lv_iinc (v := nI (i161 + 1)) (lv' := [(3, .int (nI (i161 + 1))), (2, .int 0), (1, .int x14), (0, .ref o0)]) hx hb dX12_harvest_121 hl (k := 0) rfl (nI_add i161 1) (by decide) rfl (fun ls hl => ?_)
              refine lv_goto (tgt := 104) hx hb dX12_harvest_124 (by decide) ?_
              exact ih176 (i161 + 1) (by omega) (by omega) _ _ hT hF hS m215 m216 m217 m218 ls (lv_sub hl [0, 1, 2, 3] rfl)
          exact key176 (96 - 0) 0 (by omega) (Nat.le_refl _) _ _ hT hF hS m25 m26 m27 m28 ls (lv_sub hl [0, 1, 2, 3] rfl)
        · have t219 : ((i24 : Nat) : Int) < sn.toInt := ti_nle c159 rfl (nI_toInt (by omega))
          refine lv_aload_n hx hb dX12_harvest_44 rfl (lv_at hl 3 rfl) ?_
          refine tw_get hx hb hts bF_X12 hown hK hT hr_o0 shm_0 rfl 38 (by decide) (ht_at hts 9 rfl) (fun _ h9 => h9) dX12_harvest_45 (fun v9 m220 h9 => ?_)
          obtain ⟨rfl, hg221⟩ := h9 _ rfl
          refine lv_iload_n hx hb dX12_harvest_48 rfl (lv_at hl 0 rfl) ?_
          refine tw_iald (i := (nI i24)) hx hb hK hT hg1 shm_39 rfl (vp_in_nI (by omega) (by decide)) dX12_harvest_49 (fun v9 m222 h9 => ?_)
          obtain ⟨x223, rfl, gx223, kx223⟩ := h9
          have cx223 := m25.at m222 (by have q9 := tn_of (show (nI i24).toInt = ((i24 : Nat) : Int) from (nI_toInt (by omega))) (by omega); omega)
          have t224 : x223.toInt < 0 := (by rw [cx223, tn_nI (by omega)]; exact hall i24 (by omega))
          refine lv_if_ge (tgt := 56) hx hb dX12_harvest_50 (by decide) (fun c225 => (by exfalso; have q9 : 0 ≤ x223.toInt := ti_le c225 (by decide) rfl; omega)) (fun c225 => ?_)
          have t226 : x223.toInt < 0 := ti_nle c225 (by decide) rfl
          refine lv_goto (tgt := 96) hx hb dX12_harvest_53 (by decide) ?_
          refine lv_iinc (v := nI (i24 + 1)) (lv' := [(3, .int (nI (i24 + 1))), (2, .int 0), (1, .int x14), (0, .ref o0)]) hx hb dX12_harvest_96 hl (k := 0) rfl (nI_add i24 1) (by decide) rfl (fun ls hl => ?_)
          refine lv_goto (tgt := 36) hx hb dX12_harvest_99 (by decide) ?_
          exact ih97 (i24 + 1) (by omega) (by omega) _ _ hT hF hS m25 m26 m27 m28 ls (lv_sub hl [0, 1, 2, 3] rfl)
    exact key97 (60 - 0) 0 (by omega) (Nat.le_refl _) _ _ hT hF hS m22 m21 m23 m20 ls (lv_sub hl [0, 1, 2, 3] rfl)
  · have t227 : x17.toInt = x14.toInt := ti_eq c18 rfl rfl
    refine lv_iconst (v := (-1)) hx hb dX12_harvest_25 (by decide) ?_
    exact W.iret (v := (-1)) hx hb hr (fun t ht hW => ⟨⟨(-1), (), rfl, (by exact (rg_t (a := (-1)) (by decide) (by first | decide | omega) (by first | decide | omega))), by (try dsimp only); rw [ht]; exact ⟨hT, hF⟩⟩, hS.F ht⟩) hS.2.2 dX12_harvest_26
def w_s_nobodyZ : List Cond := .code yX12_nobody cX12_nobody 2 (some .boolean) :: (HAppend.hAppend (α := List Cond) (β := List Cond) (γ := List Cond) [.fieldLink RX12 495 "SeaLandModel" "settlers" "I", .code yX12_in cX12_in 3 (some .boolean), .methodLink RX12 197 yX12_in, .static yX12_in, .initialized RX12] bs)
set_option maxHeartbeats 4000000 in
set_option maxRecDepth 100000 in
theorem s_nobodyZ (l : Launch) (dC : Nat → ClassId) (dI : Nat → Nat → Nat) (kA : Nat → ClassId) (adK adV : Nat → Nat) (G : gT) (H0 : Heap) (q : Nat → Nat) (wZ wN : Nat → Int) (wH wB wC : Int) (wL wK : Nat → Prop) (wU wV : Nat → Nat) (PI : Nat → Int → Prop) (im : Int) (PM PT : Nat → Int → Prop) (lS lB lE : Nat → Nat → Int → Prop) (lN : Nat → Int) (o0 : Nat) (w : Int32) (sn : Int32)  (hT : gH (dC, dI) kA (SHm q (wP wZ wN wH wB wC wL wK wU wV) PI im PM PT lS lB lE lN) G H0) (hr_o0 : G o0 = some 0) (hm_sn : el H0 o0 (dI 15 42) = some (.int sn)) (hq0 : 0 ≤ sn.toInt ∧ sn.toInt ≤ 60) (hgz : ∀ i, 0 ≤ wZ i) (hgn : ∀ i, 6500000 ≤ wN i ∧ wN i ≤ 20200000) (hgh : 0 ≤ wH ∧ wH ≤ 40000) (hgb : 0 ≤ wB ∧ wB ≤ 3850000) (hgc : 0 ≤ wC ∧ wC ≤ 30) (hgi : 0 ≤ im ∧ im ≤ 1) (hgu : ∀ a t, G a = some (t + 1) → a = q t) : Met l yX12_nobody w_s_nobodyZ ({ frames := 1, cells := 0, slots := 0, locals := 22 }) (va_Pc [.ref o0, .int w] (fun U => U.heap = H0 ∧ va_K (dC, dI) vwCl (tyl kA) U ∧ EVS adK adV (gA G H0.size) U U.heap)) (va_Qi (fun (r : Int32) (u : Unit) => (0 ≤ r.toInt ∧ r.toInt ≤ 1) ∧ (r = 0 → (0 ≤ w.toInt ∧ w.toInt ≤ 59) ∧ w.toInt < sn.toInt)) (fun (_ : Unit) (t : State) => gH (dC, dI) kA (SHm q (wP wZ wN wH wB wC wL wK wU wV) PI im PM PT lS lB lE lN) G t.heap ∧ gF (dC, dI) SKm G ([] : List (Nat × Nat)) H0 t.heap) (gA G H0.size)) 0 0 (gA G H0.size) := by
  refine Met.ofW (cc := cX12_nobody) (maxL := 2) (ret := (some .boolean)) (by decide) rfl ?_
  intro p e s m args below meth c s₁ B hml hv
  obtain ⟨rfl, hH0, hK, hE⟩ := hv
  have hx := B.exec
  have hb := B.bytes
  have hr := B.returns
  have hts := atoms_spec (ws := w_s_nobodyZ) B.pre
  have hown : s.vm.findClass RX12 = some m.cls := findClass_of_methodNamed B.named
  have hlocks := B.notSynchronized
  subst hH0
  generalize hAe : gA G s.heap.size = A at hE ⊢
  have hA : ∀ q : Nat, s.heap.size ≤ q → A q := fun q h => by rw [← hAe]; exact Or.inr h
  have hG := gA_of hAe
  have hS : va_S A s.heap s.heap [] := va_S.rf
  have hF : gF (dC, dI) SKm G ([] : List (Nat × Nat)) s.heap s.heap := gF.rf
  have hl := lv_entry ([.ref o0, .int w]) (n := 2) (Nat.le_of_ble_eq_true rfl)
  rw [lg_entry_eq]
  generalize (lg_sl ([.ref o0, .int w]) ++ List.replicate (2 - (lg_sl ([.ref o0, .int w])).length) Slot.unset).toArray = ls at hl ⊢
  have hl : lv_has ls 2 [(0, .ref o0), (1, .int w)] := hl
  refine lv_iload_n hx hb dX12_nobody_0 rfl (lv_at hl 1 rfl) ?_
  refine lv_iconst (v := 0) hx hb dX12_nobody_1 (by decide) ?_
  refine lv_aload_n hx hb dX12_nobody_2 rfl (lv_at hl 0 rfl) ?_
  refine tw_getM (v := .int sn) hx hb hts bF_X12 hown hK hT hr_o0 shm_0 rfl 42 (by decide) (ht_at hts 0 rfl) (fun _ h9 => h9) hm_sn dX12_nobody_3 ?_
  refine lv_iconst (v := 1) hx hb dX12_nobody_6 (by decide) ?_
  refine lv_isub hx hb dX12_nobody_7 ?_
  refine lv_topi (fun x1 ex1 => ?_)
  have t2 : x1.toInt = sn.toInt - 1 := ti_sub ex1 rfl (by decide) (by omega) (by omega)
  have hFc := gA_free hG hA hS
  refine va_calli (va_runS (As := [.int w, .int 0, .int x1]) (rest := []) ⟨hx, hb, hml, hown, hts⟩ (s_in l dC dI kA adK adV G s.heap q wZ wN wH wB wC wL wK wU wV PI im PM PT lS lB lE lN w 0 x1 hT hgz hgn hgh hgb hgc hgi hgu) (va_cwS 3 hts (goodIn_app (goodIn_r _ [3, 4, 5] rfl (by decide +kernel)) (goodIn_ca (goodIn_r _ [2] rfl (by decide +kernel)) (bs_in _ _))) rfl rfl rfl (by decide +kernel) ⟨(Nat.le_of_ble_eq_true rfl), (Nat.le_of_ble_eq_true rfl)⟩) ⟨fun a U g mk q => by obtain ⟨q0, q1, qK, qE⟩ := q; exact ⟨q0, q1, va_K.moved (u := U) (U := U.calling g mk a) (Vm.Alike.refl U.vm) qK, EVS.blind g mk a qE⟩, fun U hU hW => ⟨rfl, hU, va_K.moved hW.alike hK, hE.call hS hFc hU hW⟩⟩ rfl rfl hl.1 rfl (lv_room (Nat.le_of_ble_eq_true rfl)) dX12_nobody_8 ⟨(Nat.le_of_ble_eq_true rfl), (Nat.le_of_ble_eq_true rfl)⟩) hS (fun q _ h => hFc q h) hFc (fun r3 u t H locs ht hvm hw4 hB _ _ hS => ?_)
  obtain ⟨hT, hF1⟩ := hB
  rw [ht] at hT hF1
  have hF := hF.more hF1 (by decide)
  try dsimp only at hw4
  obtain ⟨h6, hi7, hi8⟩ := hw4
  refine lv_if_ne (tgt := 18) hx hb dX12_nobody_11 (by decide) (fun c9 => ?_) (fun c9 => ?_)
  · have t10 : r3.toInt ≠ 0 := ti_ne c9 rfl (by decide)
    have t11 : (0 : Int32).toInt = 0 := by decide
    have t12 : (0 : Int32).toInt ≤ w.toInt ∧ w.toInt ≤ x1.toInt := hi7 ((bit_of ⟨by omega, by omega⟩).resolve_left c9)
    refine lv_iconst (v := 0) hx hb dX12_nobody_18 (by decide) ?_
    exact W.zret (v := 0) hx hb hr (by decide) (fun t ht hW => ⟨⟨0, (), rfl, (by exact ⟨(rg_t (a := 0) (by decide) (by first | decide | omega) (by first | decide | omega)), (fun _ => by omega)⟩), by (try dsimp only); rw [ht]; exact ⟨hT, hF⟩⟩, hS.F ht⟩) hS.2.2 dX12_nobody_19
  · have t13 : r3.toInt = 0 := ti_eq c9 rfl (by decide)
    have t14 : (0 : Int32).toInt = 0 := by decide
    have t15 : w.toInt < (0 : Int32).toInt ∨ x1.toInt < w.toInt := hi8 c9
    refine lv_iconst (v := 1) hx hb dX12_nobody_14 (by decide) ?_
    refine lv_goto (tgt := 19) hx hb dX12_nobody_15 (by decide) ?_
    exact W.zret (v := 1) hx hb hr (by decide) (fun t ht hW => ⟨⟨1, (), rfl, (by exact ⟨(rg_t (a := 1) (by decide) (by first | decide | omega) (by first | decide | omega)), (fun h => absurd h (by decide))⟩), by (try dsimp only); rw [ht]; exact ⟨hT, hF⟩⟩, hS.F ht⟩) hS.2.2 dX12_nobody_19
def w_s_voteZ : List Cond := .code yX12_vote cX12_vote 5 (some .int) :: (HAppend.hAppend (α := List Cond) (β := List Cond) (γ := List Cond) [.fieldLink RX12 194 "SeaLandModel" "thrown" "I", .code yX12_nobody cX12_nobody 2 (some .boolean), .fieldLink RX12 495 "SeaLandModel" "settlers" "I", .code yX12_in cX12_in 3 (some .boolean), .methodLink RX12 197 yX12_in, .static yX12_in, .initialized RX12, .methodLink RX12 486 yX12_nobody, .instanceMethod yX12_nobody, .selects RX12 yX12_nobody yX12_nobody, .code yX12_throwsIf cX12_throwsIf 3 (some .boolean), .methodLink RX12 224 yX12_throwsIf, .instanceMethod yX12_throwsIf, .selects RX12 yX12_throwsIf yX12_throwsIf, .fieldLink RX12 523 "SeaLandModel" "isVoting" "Z", .fieldLink RX12 101 "SeaLandModel" "holds" "[I"] bs)
set_option maxHeartbeats 4000000 in
set_option maxRecDepth 100000 in
theorem s_voteZ (l : Launch) (dC : Nat → ClassId) (dI : Nat → Nat → Nat) (kA : Nat → ClassId) (adK adV : Nat → Nat) (G : gT) (H0 : Heap) (q : Nat → Nat) (wZ wN : Nat → Int) (wH wB wC : Int) (wL wK : Nat → Prop) (wU wV : Nat → Nat) (PI : Nat → Int → Prop) (im : Int) (PM PT : Nat → Int → Prop) (lS lB lE : Nat → Nat → Int → Prop) (lN : Nat → Int) (o0 : Nat) (p0 : Int32) (p1 : Int32) (sn : Int32) (vH : Nat → Int32)  (hT : gH (dC, dI) kA (SHm q (wP wZ wN wH wB wC wL wK wU wV) PI im PM PT lS lB lE lN) G H0) (hr_o0 : G o0 = some 0) (hm_sn : el H0 o0 (dI 15 42) = some (.int sn)) (hq0 : 0 ≤ p1.toInt ∧ p1.toInt ≤ 1) (hq1 : 0 ≤ sn.toInt ∧ sn.toInt ≤ 60) (hall : ∀ p : Nat, ((p : Nat) : Int) < sn.toInt → (vH p).toInt < 0) (hc_vH : ct H0 (q 38) 60 vH) (hgz : ∀ i, 0 ≤ wZ i) (hgn : ∀ i, 6500000 ≤ wN i ∧ wN i ≤ 20200000) (hgh : 0 ≤ wH ∧ wH ≤ 40000) (hgb : 0 ≤ wB ∧ wB ≤ 3850000) (hgc : 0 ≤ wC ∧ wC ≤ 30) (hgi : 0 ≤ im ∧ im ≤ 1) (hgu : ∀ a t, G a = some (t + 1) → a = q t) : Met l yX12_vote w_s_voteZ ({ frames := 2, cells := 0, slots := 0, locals := 43 }) (va_Pc [.ref o0, .int p0, .int p1] (fun U => U.heap = H0 ∧ va_K (dC, dI) vwCl (tyl kA) U ∧ EVS adK adV (gA G H0.size) U U.heap)) (va_Qi (fun (r : Int32) (u : Unit) => (-1 ≤ r.toInt ∧ r.toInt ≤ 0)) (fun (_ : Unit) (t : State) => gH (dC, dI) kA (SHm q (wP wZ wN wH wB wC wL wK wU wV) PI im PM PT lS lB lE lN) G t.heap ∧ gF (dC, dI) SKm G ([(0, 0)] : List (Nat × Nat)) H0 t.heap) (gA G H0.size)) 0 0 (gA G H0.size) := by
  refine Met.ofW (cc := cX12_vote) (maxL := 5) (ret := (some .int)) (by decide) rfl ?_
  intro p e s m args below meth c s₁ B hml hv
  obtain ⟨rfl, hH0, hK, hE⟩ := hv
  have hx := B.exec
  have hb := B.bytes
  have hr := B.returns
  have hts := atoms_spec (ws := w_s_voteZ) B.pre
  have hown : s.vm.findClass RX12 = some m.cls := findClass_of_methodNamed B.named
  have hlocks := B.notSynchronized
  subst hH0
  generalize hAe : gA G s.heap.size = A at hE ⊢
  have hA : ∀ q : Nat, s.heap.size ≤ q → A q := fun q h => by rw [← hAe]; exact Or.inr h
  have hG := gA_of hAe
  have hS : va_S A s.heap s.heap [] := va_S.rf
  have hF : gF (dC, dI) SKm G ([(0, 0)] : List (Nat × Nat)) s.heap s.heap := gF.rf
  have hl := lv_entry ([.ref o0, .int p0, .int p1]) (n := 5) (Nat.le_of_ble_eq_true rfl)
  rw [lg_entry_eq]
  generalize (lg_sl ([.ref o0, .int p0, .int p1]) ++ List.replicate (5 - (lg_sl ([.ref o0, .int p0, .int p1])).length) Slot.unset).toArray = ls at hl ⊢
  have hl : lv_has ls 5 [(0, .ref o0), (1, .int p0), (2, .int p1)] := hl
  have hg1 : G (q 38) = some 39 := gx_of hT hr_o0 shm_0 (k := 38) (by decide) rfl
  refine lv_aload_n hx hb dX12_vote_0 rfl (lv_at hl 0 rfl) ?_
  refine lv_iconst (v := 0) hx hb dX12_vote_1 (by decide) ?_
  refine tw_put (v := .int 0) (ty := .int) hx hb hts bF_X12 tyX12 tyX12_ok nmX12 hown hK hT hG hS hr_o0 shm_0 rfl 0 (by decide) (ht_at hts 0 rfl) (fun _ h9 => h9) rfl (by decide +kernel) rfl rfl (gl_at rfl (gi_all _)) dX12_vote_2 (fun H locs hT oq m2 oj hS => ?_)
  have hF := hF.put hr_o0 skm_0 oq oj (by decide)
  have m3 := (oj 42 (by decide) (by decide)).trans hm_sn
  have m4 := hc_vH.kept (oq _ (gne hg1 hr_o0 (by decide)))
  refine lv_aload_n hx hb dX12_vote_5 rfl (lv_at hl 0 rfl) ?_
  refine lv_aload_n hx hb dX12_vote_6 rfl (lv_at hl 0 rfl) ?_
  refine lv_iload_n hx hb dX12_vote_7 rfl (lv_at hl 1 rfl) ?_
  have hFc := gA_free hG hA hS
  refine va_calli (va_runV (As := [.int p0]) (rest := [.ref o0]) ⟨hx, hb, hml, hown, hts⟩ (s_nobodyZ l dC dI kA adK adV G H q wZ wN wH wB wC wL wK wU wV PI im PM PT lS lB lE lN o0 p0 sn hT hr_o0 m3 (by have q8 := ti_all sn; omega) hgz hgn hgh hgb hgc hgi hgu) (cwV 1 hts (goodIn_app (goodIn_r _ [8, 9, 10, 7] rfl (by decide +kernel)) (goodIn_ca (goodIn_r _ [2, 3, 4, 5, 6, 7] rfl (by decide +kernel)) (bs_in _ _))) rfl rfl rfl (by decide +kernel) ⟨(Nat.le_of_ble_eq_true rfl), (Nat.le_of_ble_eq_true rfl)⟩) ⟨fun a U g mk q => by obtain ⟨q0, q1, qK, qE⟩ := q; exact ⟨q0, q1, va_K.moved (u := U) (U := U.calling g mk a) (Vm.Alike.refl U.vm) qK, EVS.blind g mk a qE⟩, gH_rc hK hT hr_o0 shm_0 rfl, fun U hU hW => ⟨rfl, hU, va_K.moved hW.alike hK, hE.call hS hFc hU hW⟩⟩ rfl rfl hl.1 rfl (lv_room (Nat.le_of_ble_eq_true rfl)) dX12_vote_8 ⟨(Nat.le_of_ble_eq_true rfl), (Nat.le_of_ble_eq_true rfl)⟩) hS (fun q _ h => hFc q h) hFc (fun r5 u t H locs ht hvm hw6 hB _ _ hS => ?_)
  obtain ⟨hT, hF1⟩ := hB
  rw [ht] at hT hF1
  have m8 := m4.kept (hF1.arr hg1 skm_39 (by decide))
  have hF := hF.more hF1 (by decide)
  try dsimp only at hw6
  obtain ⟨h10, hi11⟩ := hw6
  refine lv_iconst (v := 1) hx hb dX12_vote_11 (by decide) ?_
  have hFc := gA_free hG hA hS
  refine va_calli (va_runV (As := [.int r5, .int 1]) (rest := []) ⟨hx, hb, hml, hown, hts⟩ (s_throwsIf l dC dI kA adK adV G H q wZ wN wH wB wC wL wK wU wV PI im PM PT lS lB lE lN o0 r5 1 hT hr_o0 (by have q8 := ti_all r5; omega) hgz hgn hgh hgb hgc hgi hgu) (cwV 2 hts (goodIn_app (goodIn_r _ [12, 13, 14, 7] rfl (by decide +kernel)) (goodIn_ca (goodIn_r _ [11, 1] rfl (by decide +kernel)) (bs_in _ _))) rfl rfl rfl (by decide +kernel) ⟨(Nat.le_of_ble_eq_true rfl), (Nat.le_of_ble_eq_true rfl)⟩) ⟨fun a U g mk q => by obtain ⟨q0, q1, qK, qE⟩ := q; exact ⟨q0, q1, va_K.moved (u := U) (U := U.calling g mk a) (Vm.Alike.refl U.vm) qK, EVS.blind g mk a qE⟩, gH_rc hK hT hr_o0 shm_0 rfl, fun U hU hW => ⟨rfl, hU, va_K.moved hW.alike hK, hE.call hS hFc hU hW⟩⟩ rfl rfl hl.1 rfl (lv_room (Nat.le_of_ble_eq_true rfl)) dX12_vote_12 ⟨(Nat.le_of_ble_eq_true rfl), (Nat.le_of_ble_eq_true rfl)⟩) hS (fun q _ h => hFc q h) hFc (fun r12 u t H locs ht hvm hw13 hB _ _ hS => ?_)
  obtain ⟨hT, hF1⟩ := hB
  rw [ht] at hT hF1
  have m15 := m8.kept (hF1.arr hg1 skm_39 (by decide))
  have hF := hF.more hF1 (by decide)
  try dsimp only at hw13
  obtain ⟨h17, hd18⟩ := hw13
  obtain rfl : r5 = r12 := hd18.symm
  refine lv_if_ne (tgt := 56) hx hb dX12_vote_15 (by decide) (fun c19 => ?_) (fun c19 => ?_)
  · have t20 : r5.toInt ≠ 0 := ti_ne c19 rfl (by decide)
    refine lv_aload_n hx hb dX12_vote_56 rfl (lv_at hl 0 rfl) ?_
    refine tw_get hx hb hts bF_X12 hown hK hT hr_o0 shm_0 rfl 0 (by decide) (ht_at hts 0 rfl) (fun _ h9 => h9) dX12_vote_57 (fun v9 m21 h9 => ?_)
    obtain ⟨x22, rfl, gx22, kx22⟩ := h9 _ rfl
    refine lv_if_eq (tgt := 67) hx hb dX12_vote_60 (by decide) (fun c23 => ?_) (fun c23 => ?_)
    · have t24 : x22.toInt = 0 := ti_eq c23 rfl (by decide)
      refine lv_iconst (v := (-1)) hx hb dX12_vote_67 (by decide) ?_
      exact W.iret (v := (-1)) hx hb hr (fun t ht hW => ⟨⟨(-1), (), rfl, (by exact (rg_t (a := (-1)) (by decide) (by first | decide | omega) (by first | decide | omega))), by (try dsimp only); rw [ht]; exact ⟨hT, hF⟩⟩, hS.F ht⟩) hS.2.2 dX12_vote_68
    · have t25 : x22.toInt ≠ 0 := ti_ne c23 rfl (by decide)
      refine lv_iconst (v := 0) hx hb dX12_vote_63 (by decide) ?_
      refine lv_goto (tgt := 68) hx hb dX12_vote_64 (by decide) ?_
      exact W.iret (v := 0) hx hb hr (fun t ht hW => ⟨⟨0, (), rfl, (by exact (rg_t (a := 0) (by decide) (by first | decide | omega) (by first | decide | omega))), by (try dsimp only); rw [ht]; exact ⟨hT, hF⟩⟩, hS.F ht⟩) hS.2.2 dX12_vote_68
  · have t26 : r5.toInt = 0 := ti_eq c19 rfl (by decide)
    have t27 : (0 ≤ p0.toInt ∧ p0.toInt ≤ 59) ∧ p0.toInt < sn.toInt := hi11 c19
    refine lv_aload_n hx hb dX12_vote_18 rfl (lv_at hl 0 rfl) ?_
    refine lv_aload_n hx hb dX12_vote_19 rfl (lv_at hl 0 rfl) ?_
    refine tw_get hx hb hts bF_X12 hown hK hT hr_o0 shm_0 rfl 52 (by decide) (ht_at hts 14 rfl) (fun _ h9 => h9) dX12_vote_20 (fun v9 m28 h9 => ?_)
    obtain ⟨x29, rfl, gx29, kx29⟩ := h9 _ rfl
    refine lv_if_ne (tgt := 30) hx hb dX12_vote_23 (by decide) (fun c30 => ?_) (fun c30 => ?_)
    · have t31 : x29.toInt ≠ 0 := ti_ne c30 rfl (by decide)
      refine lv_iconst (v := 0) hx hb dX12_vote_30 (by decide) ?_
      refine lv_iconst (v := 2) hx hb dX12_vote_31 (by decide) ?_
      have hFc := gA_free hG hA hS
      refine va_calli (va_runV (As := [.int 0, .int 2]) (rest := []) ⟨hx, hb, hml, hown, hts⟩ (s_throwsIf l dC dI kA adK adV G H q wZ wN wH wB wC wL wK wU wV PI im PM PT lS lB lE lN o0 0 2 hT hr_o0 (rg_t (a := 0) (by decide) (by first | decide | omega) (by first | decide | omega)) hgz hgn hgh hgb hgc hgi hgu) (cwV 2 hts (goodIn_app (goodIn_r _ [12, 13, 14, 7] rfl (by decide +kernel)) (goodIn_ca (goodIn_r _ [11, 1] rfl (by decide +kernel)) (bs_in _ _))) rfl rfl rfl (by decide +kernel) ⟨(Nat.le_of_ble_eq_true rfl), (Nat.le_of_ble_eq_true rfl)⟩) ⟨fun a U g mk q => by obtain ⟨q0, q1, qK, qE⟩ := q; exact ⟨q0, q1, va_K.moved (u := U) (U := U.calling g mk a) (Vm.Alike.refl U.vm) qK, EVS.blind g mk a qE⟩, gH_rc hK hT hr_o0 shm_0 rfl, fun U hU hW => ⟨rfl, hU, va_K.moved hW.alike hK, hE.call hS hFc hU hW⟩⟩ rfl rfl hl.1 rfl (lv_room (Nat.le_of_ble_eq_true rfl)) dX12_vote_32 ⟨(Nat.le_of_ble_eq_true rfl), (Nat.le_of_ble_eq_true rfl)⟩) hS (fun q _ h => hFc q h) hFc (fun r32 u t H locs ht hvm hw33 hB _ _ hS => ?_)
      obtain ⟨hT, hF1⟩ := hB
      rw [ht] at hT hF1
      have m35 := m15.kept (hF1.arr hg1 skm_39 (by decide))
      have hF := hF.more hF1 (by decide)
      try dsimp only at hw33
      obtain ⟨h37, hd38⟩ := hw33
      obtain rfl : (0 : Int32) = r32 := hd38.symm
      refine lv_if_ne (tgt := 56) hx hb dX12_vote_35 (by decide) (fun c39 => absurd c39 (by decide)) (fun c39 => ?_)
      refine lv_aload_n hx hb dX12_vote_38 rfl (lv_at hl 0 rfl) ?_
      refine tw_get hx hb hts bF_X12 hown hK hT hr_o0 shm_0 rfl 38 (by decide) (ht_at hts 15 rfl) (fun _ h9 => h9) dX12_vote_39 (fun v9 m40 h9 => ?_)
      obtain ⟨rfl, hg41⟩ := h9 _ rfl
      refine lv_iload_n hx hb dX12_vote_42 rfl (lv_at hl 1 rfl) ?_
      refine tw_iald (i := p0) hx hb hK hT hg1 shm_39 rfl (vin_t (a := p0.toInt) rfl (by omega) (by omega)) dX12_vote_43 (fun v9 m42 h9 => ?_)
      obtain ⟨x43, rfl, gx43, kx43⟩ := h9
      have cx43 := m35.at m42 (by have q9 := tn_of (show p0.toInt = p0.toInt from rfl) (by omega); omega)
      have t44 : x43.toInt < 0 := (by rw [cx43]; exact hall p0.toNatClampNeg (by have := tn_of (show p0.toInt = p0.toInt from rfl) (by omega); omega))
      refine lv_if_lt (tgt := 56) hx hb dX12_vote_44 (by decide) (fun c45 => ?_) (fun c45 => (by exfalso; have q9 : 0 ≤ x43.toInt := ti_nlt c45 rfl (by decide); omega))
      have t46 : x43.toInt < 0 := ti_lt c45 rfl (by decide)
      refine lv_aload_n hx hb dX12_vote_56 rfl (lv_at hl 0 rfl) ?_
      refine tw_get hx hb hts bF_X12 hown hK hT hr_o0 shm_0 rfl 0 (by decide) (ht_at hts 0 rfl) (fun _ h9 => h9) dX12_vote_57 (fun v9 m47 h9 => ?_)
      obtain ⟨x48, rfl, gx48, kx48⟩ := h9 _ rfl
      refine lv_if_eq (tgt := 67) hx hb dX12_vote_60 (by decide) (fun c49 => ?_) (fun c49 => ?_)
      · have t50 : x48.toInt = 0 := ti_eq c49 rfl (by decide)
        refine lv_iconst (v := (-1)) hx hb dX12_vote_67 (by decide) ?_
        exact W.iret (v := (-1)) hx hb hr (fun t ht hW => ⟨⟨(-1), (), rfl, (by exact (rg_t (a := (-1)) (by decide) (by first | decide | omega) (by first | decide | omega))), by (try dsimp only); rw [ht]; exact ⟨hT, hF⟩⟩, hS.F ht⟩) hS.2.2 dX12_vote_68
      · have t51 : x48.toInt ≠ 0 := ti_ne c49 rfl (by decide)
        refine lv_iconst (v := 0) hx hb dX12_vote_63 (by decide) ?_
        refine lv_goto (tgt := 68) hx hb dX12_vote_64 (by decide) ?_
        exact W.iret (v := 0) hx hb hr (fun t ht hW => ⟨⟨0, (), rfl, (by exact (rg_t (a := 0) (by decide) (by first | decide | omega) (by first | decide | omega))), by (try dsimp only); rw [ht]; exact ⟨hT, hF⟩⟩, hS.F ht⟩) hS.2.2 dX12_vote_68
    · have t52 : x29.toInt = 0 := ti_eq c30 rfl (by decide)
      refine lv_iconst (v := 1) hx hb dX12_vote_26 (by decide) ?_
      refine lv_goto (tgt := 31) hx hb dX12_vote_27 (by decide) ?_
      refine lv_iconst (v := 2) hx hb dX12_vote_31 (by decide) ?_
      have hFc := gA_free hG hA hS
      refine va_calli (va_runV (As := [.int 1, .int 2]) (rest := []) ⟨hx, hb, hml, hown, hts⟩ (s_throwsIf l dC dI kA adK adV G H q wZ wN wH wB wC wL wK wU wV PI im PM PT lS lB lE lN o0 1 2 hT hr_o0 (rg_t (a := 1) (by decide) (by first | decide | omega) (by first | decide | omega)) hgz hgn hgh hgb hgc hgi hgu) (cwV 2 hts (goodIn_app (goodIn_r _ [12, 13, 14, 7] rfl (by decide +kernel)) (goodIn_ca (goodIn_r _ [11, 1] rfl (by decide +kernel)) (bs_in _ _))) rfl rfl rfl (by decide +kernel) ⟨(Nat.le_of_ble_eq_true rfl), (Nat.le_of_ble_eq_true rfl)⟩) ⟨fun a U g mk q => by obtain ⟨q0, q1, qK, qE⟩ := q; exact ⟨q0, q1, va_K.moved (u := U) (U := U.calling g mk a) (Vm.Alike.refl U.vm) qK, EVS.blind g mk a qE⟩, gH_rc hK hT hr_o0 shm_0 rfl, fun U hU hW => ⟨rfl, hU, va_K.moved hW.alike hK, hE.call hS hFc hU hW⟩⟩ rfl rfl hl.1 rfl (lv_room (Nat.le_of_ble_eq_true rfl)) dX12_vote_32 ⟨(Nat.le_of_ble_eq_true rfl), (Nat.le_of_ble_eq_true rfl)⟩) hS (fun q _ h => hFc q h) hFc (fun r53 u t H locs ht hvm hw54 hB _ _ hS => ?_)
      obtain ⟨hT, hF1⟩ := hB
      rw [ht] at hT hF1
      have hF := hF.more hF1 (by decide)
      try dsimp only at hw54
      obtain ⟨h58, hd59⟩ := hw54
      obtain rfl : (1 : Int32) = r53 := hd59.symm
      refine lv_if_ne (tgt := 56) hx hb dX12_vote_35 (by decide) (fun c60 => ?_) (fun c60 => absurd c60 (by decide))
      refine lv_aload_n hx hb dX12_vote_56 rfl (lv_at hl 0 rfl) ?_
      refine tw_get hx hb hts bF_X12 hown hK hT hr_o0 shm_0 rfl 0 (by decide) (ht_at hts 0 rfl) (fun _ h9 => h9) dX12_vote_57 (fun v9 m61 h9 => ?_)
      obtain ⟨x62, rfl, gx62, kx62⟩ := h9 _ rfl
      refine lv_if_eq (tgt := 67) hx hb dX12_vote_60 (by decide) (fun c63 => ?_) (fun c63 => ?_)
      · have t64 : x62.toInt = 0 := ti_eq c63 rfl (by decide)
        refine lv_iconst (v := (-1)) hx hb dX12_vote_67 (by decide) ?_
        exact W.iret (v := (-1)) hx hb hr (fun t ht hW => ⟨⟨(-1), (), rfl, (by exact (rg_t (a := (-1)) (by decide) (by first | decide | omega) (by first | decide | omega))), by (try dsimp only); rw [ht]; exact ⟨hT, hF⟩⟩, hS.F ht⟩) hS.2.2 dX12_vote_68
      · have t65 : x62.toInt ≠ 0 := ti_ne c63 rfl (by decide)
        refine lv_iconst (v := 0) hx hb dX12_vote_63 (by decide) ?_
        refine lv_goto (tgt := 68) hx hb dX12_vote_64 (by decide) ?_
        exact W.iret (v := 0) hx hb hr (fun t ht hW => ⟨⟨0, (), rfl, (by exact (rg_t (a := 0) (by decide) (by first | decide | omega) (by first | decide | omega))), by (try dsimp only); rw [ht]; exact ⟨hT, hF⟩⟩, hS.F ht⟩) hS.2.2 dX12_vote_68
def w_s_closeZ : List Cond := .code yX12_close cX12_close 1 (some .boolean) :: (HAppend.hAppend (α := List Cond) (β := List Cond) (γ := List Cond) [.fieldLink RX12 194 "SeaLandModel" "thrown" "I", .fieldLink RX12 523 "SeaLandModel" "isVoting" "Z", .code yX12_throwsIf cX12_throwsIf 3 (some .boolean), .methodLink RX12 224 yX12_throwsIf, .instanceMethod yX12_throwsIf, .selects RX12 yX12_throwsIf yX12_throwsIf, .initialized RX12, .fieldLink RX12 526 "SeaLandModel" "yes" "J", .constantLong RX12 484 100, .code yX12_lastOf cX12_lastOf 5 (some .int), .fieldLink RX12 42 "SeaLandModel" "lines" "[I", .fieldLink RX12 45 "SeaLandModel" "sort" "[I", .fieldLink RX12 48 "SeaLandModel" "told" "[I", .methodLink RX12 492 yX12_lastOf, .instanceMethod yX12_lastOf, .selects RX12 yX12_lastOf yX12_lastOf, .fieldLink RX12 530 "SeaLandModel" "said" "J"] bs)
set_option maxHeartbeats 4000000 in
set_option maxRecDepth 100000 in
theorem s_closeZ (l : Launch) (dC : Nat → ClassId) (dI : Nat → Nat → Nat) (kA : Nat → ClassId) (adK adV : Nat → Nat) (G : gT) (H0 : Heap) (q : Nat → Nat) (wZ wN : Nat → Int) (wH wB wC : Int) (wL wK : Nat → Prop) (wU wV : Nat → Nat) (PI : Nat → Int → Prop) (im : Int) (PM PT : Nat → Int → Prop) (lS lB lE : Nat → Nat → Int → Prop) (lN : Nat → Int) (o0 : Nat) (yv : Int64) (dv9 : Int64) (vo : Int32)  (hT : gH (dC, dI) kA (SHm q (wP wZ wN wH wB wC wL wK wU wV) PI im PM PT lS lB lE lN) G H0) (hr_o0 : G o0 = some 0) (hm_yv : el H0 o0 (dI 15 53) = some (.long yv)) (hm_dv9 : el H0 o0 (dI 15 54) = some (.long dv9)) (hm_vo : el H0 o0 (dI 15 52) = some (.int vo)) (hq0 : 0 ≤ vo.toInt ∧ vo.toInt ≤ 1) (hyv : yv.toInt = 0) (hdv : dv9.toInt = 0) (hgz : ∀ i, 0 ≤ wZ i) (hgn : ∀ i, 6500000 ≤ wN i ∧ wN i ≤ 20200000) (hgh : 0 ≤ wH ∧ wH ≤ 40000) (hgb : 0 ≤ wB ∧ wB ≤ 3850000) (hgc : 0 ≤ wC ∧ wC ≤ 30) (hgi : 0 ≤ im ∧ im ≤ 1) (hgu : ∀ a t, G a = some (t + 1) → a = q t) : Met l yX12_close w_s_closeZ ({ frames := 1, cells := 0, slots := 0, locals := 24 }) (va_Pc [.ref o0] (fun U => U.heap = H0 ∧ va_K (dC, dI) vwCl (tyl kA) U ∧ EVS adK adV (gA G H0.size) U U.heap)) (va_Qi (fun (r : Int32) (u : Int32) => (0 ≤ r.toInt ∧ r.toInt ≤ 0) ∧ (u.toInt = 0)) (fun (v1 : Int32) (t : State) => gH (dC, dI) kA (SHm q (wP wZ wN wH wB wC wL wK wU wV) PI im PM PT lS lB lE lN) G t.heap ∧ gF (dC, dI) SKm G ([(0, 0), (0, 52)] : List (Nat × Nat)) H0 t.heap ∧ el t.heap o0 (dI 15 52) = some (.int v1)) (gA G H0.size)) 0 0 (gA G H0.size) := by
  refine Met.ofW (cc := cX12_close) (maxL := 1) (ret := (some .boolean)) (by decide) rfl ?_
  intro p e s m args below meth c s₁ B hml hv
  obtain ⟨rfl, hH0, hK, hE⟩ := hv
  have hx := B.exec
  have hb := B.bytes
  have hr := B.returns
  have hts := atoms_spec (ws := w_s_closeZ) B.pre
  have hown : s.vm.findClass RX12 = some m.cls := findClass_of_methodNamed B.named
  have hlocks := B.notSynchronized
  subst hH0
  generalize hAe : gA G s.heap.size = A at hE ⊢
  have hA : ∀ q : Nat, s.heap.size ≤ q → A q := fun q h => by rw [← hAe]; exact Or.inr h
  have hG := gA_of hAe
  have hS : va_S A s.heap s.heap [] := va_S.rf
  have hF : gF (dC, dI) SKm G ([(0, 0), (0, 52)] : List (Nat × Nat)) s.heap s.heap := gF.rf
  have hl := lv_entry ([.ref o0]) (n := 1) (Nat.le_of_ble_eq_true rfl)
  rw [lg_entry_eq]
  generalize (lg_sl ([.ref o0]) ++ List.replicate (1 - (lg_sl ([.ref o0])).length) Slot.unset).toArray = ls at hl ⊢
  have hl : lv_has ls 1 [(0, .ref o0)] := hl
  refine lv_aload_n hx hb dX12_close_0 rfl (lv_at hl 0 rfl) ?_
  refine lv_iconst (v := 0) hx hb dX12_close_1 (by decide) ?_
  refine tw_put (v := .int 0) (ty := .int) hx hb hts bF_X12 tyX12 tyX12_ok nmX12 hown hK hT hG hS hr_o0 shm_0 rfl 0 (by decide) (ht_at hts 0 rfl) (fun _ h9 => h9) rfl (by decide +kernel) rfl rfl (gl_at rfl (gi_all _)) dX12_close_2 (fun H locs hT oq m1 oj hS => ?_)
  have hF := hF.put hr_o0 skm_0 oq oj (by decide)
  have m2 := (oj 53 (by decide) (by decide)).trans hm_yv
  have m3 := (oj 54 (by decide) (by decide)).trans hm_dv9
  have m4 := (oj 52 (by decide) (by decide)).trans hm_vo
  refine lv_aload_n hx hb dX12_close_5 rfl (lv_at hl 0 rfl) ?_
  refine lv_aload_n hx hb dX12_close_6 rfl (lv_at hl 0 rfl) ?_
  refine tw_getM (v := .int vo) hx hb hts bF_X12 hown hK hT hr_o0 shm_0 rfl 52 (by decide) (ht_at hts 1 rfl) (fun _ h9 => h9) m4 dX12_close_7 ?_
  refine lv_if_ne (tgt := 17) hx hb dX12_close_10 (by decide) (fun c5 => ?_) (fun c5 => ?_)
  · have t6 : vo.toInt ≠ 0 := ti_ne c5 rfl (by decide)
    refine lv_iconst (v := 0) hx hb dX12_close_17 (by decide) ?_
    refine lv_iconst (v := 1) hx hb dX12_close_18 (by decide) ?_
    have hFc := gA_free hG hA hS
    refine va_calli (va_runV (As := [.int 0, .int 1]) (rest := []) ⟨hx, hb, hml, hown, hts⟩ (s_throwsIf l dC dI kA adK adV G H q wZ wN wH wB wC wL wK wU wV PI im PM PT lS lB lE lN o0 0 1 hT hr_o0 (rg_t (a := 0) (by decide) (by first | decide | omega) (by first | decide | omega)) hgz hgn hgh hgb hgc hgi hgu) (cwV 2 hts (goodIn_app (goodIn_r _ [4, 5, 6, 7] rfl (by decide +kernel)) (goodIn_ca (goodIn_r _ [3, 1] rfl (by decide +kernel)) (bs_in _ _))) rfl rfl rfl (by decide +kernel) ⟨(Nat.le_of_ble_eq_true rfl), (Nat.le_of_ble_eq_true rfl)⟩) ⟨fun a U g mk q => by obtain ⟨q0, q1, qK, qE⟩ := q; exact ⟨q0, q1, va_K.moved (u := U) (U := U.calling g mk a) (Vm.Alike.refl U.vm) qK, EVS.blind g mk a qE⟩, gH_rc hK hT hr_o0 shm_0 rfl, fun U hU hW => ⟨rfl, hU, va_K.moved hW.alike hK, hE.call hS hFc hU hW⟩⟩ rfl rfl hl.1 rfl (lv_room (Nat.le_of_ble_eq_true rfl)) dX12_close_19 ⟨(Nat.le_of_ble_eq_true rfl), (Nat.le_of_ble_eq_true rfl)⟩) hS (fun q _ h => hFc q h) hFc (fun r7 u t H locs ht hvm hw8 hB _ _ hS => ?_)
    obtain ⟨hT, hF1⟩ := hB
    rw [ht] at hT hF1
    have m9 := (hF1.fld hr_o0 skm_0 (k := 53) (by decide) (by decide)).trans m2
    have m10 := (hF1.fld hr_o0 skm_0 (k := 54) (by decide) (by decide)).trans m3
    have hF := hF.more hF1 (by decide)
    try dsimp only at hw8
    obtain ⟨h13, hd14⟩ := hw8
    obtain rfl : (0 : Int32) = r7 := hd14.symm
    refine lv_if_eq (tgt := 27) hx hb dX12_close_22 (by decide) (fun c15 => ?_) (fun c15 => absurd c15 (by decide))
    refine lv_aload_n hx hb dX12_close_27 rfl (lv_at hl 0 rfl) ?_
    refine lv_iconst (v := 0) hx hb dX12_close_28 (by decide) ?_
    refine tw_put (v := .int 0) (ty := .boolean) hx hb hts bF_X12 tyX12 tyX12_ok nmX12 hown hK hT hG hS hr_o0 shm_0 rfl 52 (by decide) (ht_at hts 1 rfl) (fun _ h9 => h9) rfl (by decide +kernel) rfl rfl (gl_at rfl (gi_of (show (0 : Int32).toInt = 0 from (by decide)) (by first | decide | omega) (by first | decide | omega))) dX12_close_29 (fun H locs hT oq m16 oj hS => ?_)
    have hF := hF.put hr_o0 skm_0 oq oj (by decide)
    have m17 := (oj 53 (by decide) (by decide)).trans m9
    have m18 := (oj 54 (by decide) (by decide)).trans m10
    refine lv_aload_n hx hb dX12_close_32 rfl (lv_at hl 0 rfl) ?_
    refine tw_getM (v := .long yv) hx hb hts bF_X12 hown hK hT hr_o0 shm_0 rfl 53 (by decide) (ht_at hts 7 rfl) (fun _ h9 => h9) m17 dX12_close_33 ?_
    refine lv_ldc2 (v := 100) hx hb hown (ht_at hts 8 rfl) dX12_close_36 ?_
    refine lv_lmul hx hb dX12_close_39 ?_
    refine lv_topl (fun y19 ey19 => ?_)
    have t20 : y19.toInt = yv.toInt * 100 ∧ -(0 * 100) ≤ y19.toInt ∧ y19.toInt ≤ 0 * 100 := tl_m ey19 rfl (by decide) (A := 0) (B := 100) (by omega) (by omega) (by omega) (by omega) (by decide)
    refine lv_aload_n hx hb dX12_close_40 rfl (lv_at hl 0 rfl) ?_
    refine lv_bipush (v := 8) hx hb dX12_close_41 (by decide) ?_
    refine lv_bipush (v := 50) hx hb dX12_close_43 (by decide) ?_
    have hFc := gA_free hG hA hS
    refine va_calli (va_runV (As := [.int 8, .int 50]) (rest := [.long y19]) ⟨hx, hb, hml, hown, hts⟩ (s_lastOf l dC dI kA adK adV G H q wZ wN wH wB wC wL wK wU wV PI im PM PT lS lB lE lN o0 8 50 hT hr_o0 hgz hgn hgh hgb hgc hgi hgu) (cwV 2 hts (goodIn_app (goodIn_r _ [14, 15, 16, 7] rfl (by decide +kernel)) (goodIn_ca (goodIn_r _ [10, 11, 12, 13] rfl (by decide +kernel)) (bs_in _ _))) rfl rfl rfl (by decide +kernel) ⟨(Nat.le_of_ble_eq_true rfl), (Nat.le_of_ble_eq_true rfl)⟩) ⟨fun a U g mk q => by obtain ⟨q0, q1, qK, qE⟩ := q; exact ⟨q0, q1, va_K.moved (u := U) (U := U.calling g mk a) (Vm.Alike.refl U.vm) qK, EVS.blind g mk a qE⟩, gH_rc hK hT hr_o0 shm_0 rfl, fun U hU hW => ⟨rfl, hU, va_K.moved hW.alike hK, hE.call hS hFc hU hW⟩⟩ rfl rfl hl.1 rfl (lv_room (Nat.le_of_ble_eq_true rfl)) dX12_close_45 ⟨(Nat.le_of_ble_eq_true rfl), (Nat.le_of_ble_eq_true rfl)⟩) hS (fun q _ h => hFc q h) hFc (fun r21 u t H locs ht hvm hw22 hB _ _ hS => ?_)
    obtain ⟨hT, hF1⟩ := hB
    rw [ht] at hT hF1
    have m24 := (hF1.fld hr_o0 skm_0 (k := 54) (by decide) (by decide)).trans m18
    have m25 := (hF1.fld hr_o0 skm_0 (k := 52) (by decide) (by decide)).trans m16
    have hF := hF.more hF1 (by decide)
    try dsimp only at hw22
    refine lv_i2l (v := r21.toInt64) hx hb dX12_close_48 rfl ?_
    refine lv_aload_n hx hb dX12_close_49 rfl (lv_at hl 0 rfl) ?_
    refine tw_getM (v := .long dv9) hx hb hts bF_X12 hown hK hT hr_o0 shm_0 rfl 54 (by decide) (ht_at hts 16 rfl) (fun _ h9 => h9) m24 dX12_close_50 ?_
    refine lv_lmul hx hb dX12_close_53 ?_
    refine lv_topl (fun y26 ey26 => ?_)
    have tqy26 := ti_all r21
    have t27 : y26.toInt = r21.toInt * dv9.toInt ∧ -(2147483648 * 0) ≤ y26.toInt ∧ y26.toInt ≤ 2147483648 * 0 := tl_m ey26 ((Int32.toInt_toInt64 _).trans rfl) rfl (A := 2147483648) (B := 0) (by omega) (by omega) (by omega) (by omega) (by decide)
    refine W.lcmp hx hb dX12_close_54 ?_
    refine lv_topi (fun x28 ex28 => ?_)
    have t29 : (y19.toInt < y26.toInt ∧ x28.toInt = -1) ∨ (y19.toInt = y26.toInt ∧ x28.toInt = 0) ∨ (y26.toInt < y19.toInt ∧ x28.toInt = 1) := tl_c ex28 rfl rfl
    refine lv_if_gt (tgt := 60) hx hb dX12_close_55 (by decide) (fun c30 => ?_) (fun c30 => ?_)
    · have t31 : 0 < x28.toInt := ti_lt c30 (by decide) rfl
      exfalso; omega
    · have t32 : x28.toInt ≤ 0 := ti_nlt c30 (by decide) rfl
      refine lv_iconst (v := 0) hx hb dX12_close_58 (by decide) ?_
      exact W.zret (v := 0) hx hb hr (by decide) (fun t ht hW => ⟨⟨0, (0 : Int32), rfl, (by exact ⟨(rg_t (a := 0) (by decide) (by first | decide | omega) (by first | decide | omega)), (by have : (0 : Int32).toInt = 0 := (by decide); omega)⟩), by (try dsimp only); rw [ht]; exact ⟨hT, hF, m25⟩⟩, hS.F ht⟩) hS.2.2 dX12_close_59
  · have t33 : vo.toInt = 0 := ti_eq c5 rfl (by decide)
    refine lv_iconst (v := 1) hx hb dX12_close_13 (by decide) ?_
    refine lv_goto (tgt := 18) hx hb dX12_close_14 (by decide) ?_
    refine lv_iconst (v := 1) hx hb dX12_close_18 (by decide) ?_
    have hFc := gA_free hG hA hS
    refine va_calli (va_runV (As := [.int 1, .int 1]) (rest := []) ⟨hx, hb, hml, hown, hts⟩ (s_throwsIf l dC dI kA adK adV G H q wZ wN wH wB wC wL wK wU wV PI im PM PT lS lB lE lN o0 1 1 hT hr_o0 (rg_t (a := 1) (by decide) (by first | decide | omega) (by first | decide | omega)) hgz hgn hgh hgb hgc hgi hgu) (cwV 2 hts (goodIn_app (goodIn_r _ [4, 5, 6, 7] rfl (by decide +kernel)) (goodIn_ca (goodIn_r _ [3, 1] rfl (by decide +kernel)) (bs_in _ _))) rfl rfl rfl (by decide +kernel) ⟨(Nat.le_of_ble_eq_true rfl), (Nat.le_of_ble_eq_true rfl)⟩) ⟨fun a U g mk q => by obtain ⟨q0, q1, qK, qE⟩ := q; exact ⟨q0, q1, va_K.moved (u := U) (U := U.calling g mk a) (Vm.Alike.refl U.vm) qK, EVS.blind g mk a qE⟩, gH_rc hK hT hr_o0 shm_0 rfl, fun U hU hW => ⟨rfl, hU, va_K.moved hW.alike hK, hE.call hS hFc hU hW⟩⟩ rfl rfl hl.1 rfl (lv_room (Nat.le_of_ble_eq_true rfl)) dX12_close_19 ⟨(Nat.le_of_ble_eq_true rfl), (Nat.le_of_ble_eq_true rfl)⟩) hS (fun q _ h => hFc q h) hFc (fun r34 u t H locs ht hvm hw35 hB _ _ hS => ?_)
    obtain ⟨hT, hF1⟩ := hB
    rw [ht] at hT hF1
    have m38 := (hF1.fld hr_o0 skm_0 (k := 52) (by decide) (by decide)).trans m4
    have hF := hF.more hF1 (by decide)
    try dsimp only at hw35
    obtain ⟨h40, hd41⟩ := hw35
    obtain rfl : (1 : Int32) = r34 := hd41.symm
    refine lv_if_eq (tgt := 27) hx hb dX12_close_22 (by decide) (fun c42 => absurd c42 (by decide)) (fun c42 => ?_)
    refine lv_iconst (v := 0) hx hb dX12_close_25 (by decide) ?_
    exact W.zret (v := 0) hx hb hr (by decide) (fun t ht hW => ⟨⟨0, vo, rfl, (by exact ⟨(rg_t (a := 0) (by decide) (by first | decide | omega) (by first | decide | omega)), (by omega)⟩), by (try dsimp only); rw [ht]; exact ⟨hT, hF, m38⟩⟩, hS.F ht⟩) hS.2.2 dX12_close_26
def w_s_settlerZ : List Cond := .code yX12_settler cX12_settler 9 (some .int) :: (HAppend.hAppend (α := List Cond) (β := List Cond) (γ := List Cond) [.fieldLink RX12 194 "SeaLandModel" "thrown" "I", .code yX12_in cX12_in 3 (some .boolean), .methodLink RX12 197 yX12_in, .static yX12_in, .initialized RX12, .code yX12_throwsIf cX12_throwsIf 3 (some .boolean), .methodLink RX12 224 yX12_throwsIf, .instanceMethod yX12_throwsIf, .selects RX12 yX12_throwsIf yX12_throwsIf, .constant RX12 241 100000, .constant RX12 501 999999, .fieldLink RX12 495 "SeaLandModel" "settlers" "I", .fieldLink RX12 79 "SeaLandModel" "age" "[I", .fieldLink RX12 82 "SeaLandModel" "sons" "[I", .fieldLink RX12 85 "SeaLandModel" "coin" "[I", .fieldLink RX12 88 "SeaLandModel" "cattle" "[I", .fieldLink RX12 91 "SeaLandModel" "isKin" "[Z", .fieldLink RX12 95 "SeaLandModel" "isBoard" "[Z", .fieldLink RX12 98 "SeaLandModel" "drawn" "[I", .fieldLink RX12 101 "SeaLandModel" "holds" "[I"] bs)
