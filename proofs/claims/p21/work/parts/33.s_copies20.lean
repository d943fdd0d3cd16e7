def w_s_copies20 : List Cond := .code yX12_copies cX12_copies 4 none :: (HAppend.hAppend (α := List Cond) (β := List Cond) (γ := List Cond) [.fieldLink RX12 42 "SeaLandModel" "lines" "[I", .fieldLink RX12 66 "SeaLandModel" "step" "[I", .fieldLink RX12 69 "SeaLandModel" "than" "[I", .fieldLink RX12 45 "SeaLandModel" "sort" "[I", .fieldLink RX12 48 "SeaLandModel" "told" "[I", .fieldLink RX12 51 "SeaLandModel" "winter" "[I", .fieldLink RX12 54 "SeaLandModel" "from" "[I", .fieldLink RX12 57 "SeaLandModel" "to" "[I", .fieldLink RX12 60 "SeaLandModel" "begins" "[I", .fieldLink RX12 63 "SeaLandModel" "ends" "[I"] bs)
set_option maxHeartbeats 4000000 in
set_option maxRecDepth 100000 in
theorem s_copies20 (l : Launch) (dC : Nat → ClassId) (dI : Nat → Nat → Nat) (kA : Nat → ClassId) (adK adV : Nat → Nat) (G : gT) (H0 : Heap) (q : Nat → Nat) (wZ wN : Nat → Int) (wH wB wC : Int) (wL wK : Nat → Prop) (wU wV : Nat → Nat) (PI : Nat → Int → Prop) (im : Int) (PM PT : Nat → Int → Prop) (lS lB lE : Nat → Nat → Int → Prop) (lN : Nat → Int) (o0 : Nat) (vO : Nat → Int32) (vB : Nat → Int32) (vX : Nat → Int32) (vS : Nat → Int32) (vN : Nat → Int32) (vL : Nat → Int32)  (hT : gH (dC, dI) kA (SHm q (wP wZ wN wH wB wC wL wK wU wV) PI im PM PT lS lB lE lN) G H0) (hr_o0 : G o0 = some 0) (hc_vO : ct H0 (q 19) 60 vO) (hc_vB : ct H0 (q 24) 60 vB) (hc_vX : ct H0 (q 25) 60 vX) (hc_vS : ct H0 (q 26) 1200 vS) (hc_vN : ct H0 (q 27) 1200 vN) (hc_vL : ct H0 (q 18) 3 vL) (hgz : ∀ i, 0 ≤ wZ i) (hgn : ∀ i, 6500000 ≤ wN i ∧ wN i ≤ 20200000) (hgh : 0 ≤ wH ∧ wH ≤ 40000) (hgb : 0 ≤ wB ∧ wB ≤ 3850000) (hgc : 0 ≤ wC ∧ wC ≤ 30) (hgi : 0 ≤ im ∧ im ≤ 1) (hgu : ∀ a t, G a = some (t + 1) → a = q t) : Met l yX12_copies w_s_copies20 ({ frames := 0, cells := 0, slots := 0, locals := 0 }) (va_Pc [.ref o0, .int 2, .int 0] (fun U => U.heap = H0 ∧ va_K (dC, dI) vwCl (tyl kA) U ∧ EVS adK adV (gA G H0.size) U U.heap)) (va_Qv (fun (u : Unit) => True) (fun (_ : Unit) (t : State) => gH (dC, dI) kA (SHm q (wP wZ wN wH wB wC wL wK wU wV) PI im PM PT (lcp lS 2 0) (lcp lB 2 0) (lcp lE 2 0) (lcp lN 2 0)) G t.heap ∧ gF (dC, dI) SKm G ([(19, 0), (20, 0), (21, 0), (22, 0), (23, 0), (24, 0), (25, 0), (26, 0), (27, 0), (28, 0)] : List (Nat × Nat)) H0 t.heap ∧ ct t.heap (q 19) 60 (zcp vO 40 0 20) ∧ ct t.heap (q 24) 60 (zcp vB 40 0 20) ∧ ct t.heap (q 25) 60 (zcp vX 40 0 20) ∧ ct t.heap (q 26) 1200 (zcp vS 800 0 400) ∧ ct t.heap (q 27) 1200 (zcp vN 800 0 400) ∧ ct t.heap (q 18) 3 (cu vL 0 (vL 2))) (gA G H0.size)) 0 0 (gA G H0.size) := by
  refine Met.ofW (cc := cX12_copies) (maxL := 4) (ret := none) (by decide) rfl ?_
  intro p e s m args below meth c s₁ B hml hv
  obtain ⟨rfl, hH0, hK, hE⟩ := hv
  have hx := B.exec
  have hb := B.bytes
  have hr := B.returns
  have hts := atoms_spec (ws := w_s_copies20) B.pre
  have hown : s.vm.findClass RX12 = some m.cls := findClass_of_methodNamed B.named
  have hlocks := B.notSynchronized
  subst hH0
  generalize hAe : gA G s.heap.size = A at hE ⊢
  have hA : ∀ q : Nat, s.heap.size ≤ q → A q := fun q h => by rw [← hAe]; exact Or.inr h
  have hG := gA_of hAe
  have hS : va_S A s.heap s.heap [] := va_S.rf
  have hF : gF (dC, dI) SKm G ([(19, 0), (20, 0), (21, 0), (22, 0), (23, 0), (24, 0), (25, 0), (26, 0), (27, 0), (28, 0)] : List (Nat × Nat)) s.heap s.heap := gF.rf
  have hl := lv_entry ([.ref o0, .int 2, .int 0]) (n := 4) (Nat.le_of_ble_eq_true rfl)
  rw [lg_entry_eq]
  generalize (lg_sl ([.ref o0, .int 2, .int 0]) ++ List.replicate (4 - (lg_sl ([.ref o0, .int 2, .int 0])).length) Slot.unset).toArray = ls at hl ⊢
  have hl : lv_has ls 4 [(0, .ref o0), (1, .int 2), (2, .int 0)] := hl
  have hg1 : G (q 19) = some 20 := gx_of hT hr_o0 shm_0 (k := 19) (by decide) rfl
  have hg2 : G (q 24) = some 25 := gx_of hT hr_o0 shm_0 (k := 24) (by decide) rfl
  have hg3 : G (q 25) = some 26 := gx_of hT hr_o0 shm_0 (k := 25) (by decide) rfl
  have hg4 : G (q 26) = some 27 := gx_of hT hr_o0 shm_0 (k := 26) (by decide) rfl
  have hg5 : G (q 27) = some 28 := gx_of hT hr_o0 shm_0 (k := 27) (by decide) rfl
  have hg6 : G (q 18) = some 19 := gx_of hT hr_o0 shm_0 (k := 18) (by decide) rfl
  refine lv_aload_n hx hb dX12_copies_0 rfl (lv_at hl 0 rfl) ?_
  refine tw_get hx hb hts bF_X12 hown hK hT hr_o0 shm_0 rfl 18 (by decide) (ht_at hts 0 rfl) (fun _ h9 => h9) dX12_copies_1 (fun v9 m7 h9 => ?_)
  obtain ⟨rfl, hg8⟩ := h9 _ rfl
  refine lv_iload_n hx hb dX12_copies_4 rfl (lv_at hl 2 rfl) ?_
  refine lv_aload_n hx hb dX12_copies_5 rfl (lv_at hl 0 rfl) ?_
  refine tw_get hx hb hts bF_X12 hown hK hT hr_o0 shm_0 rfl 18 (by decide) (ht_at hts 0 rfl) (fun _ h9 => h9) dX12_copies_6 (fun v9 m9 h9 => ?_)
  obtain ⟨rfl, hg10⟩ := h9 _ rfl
  refine lv_iload_n hx hb dX12_copies_9 rfl (lv_at hl 1 rfl) ?_
  refine tw_iald (i := 2) hx hb hK hT hg6 shm_19 rfl (by unfold vp_in; decide) dX12_copies_10 (fun v9 m11 h9 => ?_)
  obtain ⟨x12, rfl, gx12, kx12⟩ := (gn_at h9)
  have cx12 := hc_vL.at m11 (by have q9 := tn_of (show (2 : Int32).toInt = 2 from (by decide)) (by omega); omega)
  have hq_ := gq_at hT hg6 shm_19 (by decide) m11
  refine tw_iast2 (Sg1 := (SHm q (wP wZ wN wH wB wC wL wK wU wV) PI im PM PT lS lB lE (lcp lN 2 0))) (i := 0) (x := x12) hx hb hK hT hG hS hg6 shm_19 rfl shm_19 shm_o19 (fun b9 h9 => hgu b9 18 h9) (by unfold vp_in; decide) (⟨_, rfl, hq_.1, by show _ ≤ lcp lN 2 0 0; unfold lcp; rw [if_pos rfl]; exact hq_.2⟩) (fun k9 hk9 hne9 v9 hv9 he9 => by obtain ⟨x9, rfl, p9⟩ := he9; exact ⟨x9, rfl, p9.1, by show _ ≤ lcp lN 2 0 k9; unfold lcp; rw [if_neg (fun e9 => hne9 (e9.trans (by decide)))]; exact p9.2⟩) dX12_copies_11 (fun H locs hT oq m13 oi hS => ?_)
  have hF := hF.ast hg6 skm_19 oq (by decide)
  have m14 := hc_vO.kept (oq _ (gne hg1 hg6 (by decide)))
  have m15 := hc_vB.kept (oq _ (gne hg2 hg6 (by decide)))
  have m16 := hc_vX.kept (oq _ (gne hg3 hg6 (by decide)))
  have m17 := hc_vS.kept (oq _ (gne hg4 hg6 (by decide)))
  have m18 := hc_vN.kept (oq _ (gne hg5 hg6 (by decide)))
  have m19 := hc_vL.put m13 oi
  have m20 := (oi _ (tn_ne (show (2 : Int32).toInt = 2 from (by decide)) (show (0 : Int32).toInt = 0 from (by decide)) (by omega) (by omega) (by omega))).trans m11
  refine lv_iconst (v := 0) hx hb dX12_copies_12 (by decide) ?_
  refine lv_istore_n (lv' := [(3, .int 0), (0, .ref o0), (1, .int 2), (2, .int 0)]) hx hb dX12_copies_13 rfl hl (by decide) rfl (fun ls hl => ?_)
  have key171 : ∀ (n171 i21 : Nat), i21 + n171 = 20 → 0 ≤ i21 → ∀ (H : Heap) (locs : List Loc), gH (dC, dI) kA (SHm q (wP wZ wN wH wB wC wL wK wU wV) PI im PM PT lS (lpc lB 2 0 i21) (lpc lE 2 0 i21) (lcp lN 2 0)) G H → gF (dC, dI) SKm G ([(19, 0), (20, 0), (21, 0), (22, 0), (23, 0), (24, 0), (25, 0), (26, 0), (27, 0), (28, 0)] : List (Nat × Nat)) s.heap H → va_S A s.heap H locs → ct H (q 19) 60 (zcp vO 40 0 i21) → ct H (q 24) 60 (zcp vB 40 0 i21) → ct H (q 25) 60 (zcp vX 40 0 i21) → ct H (q 26) 1200 vS → ct H (q 27) 1200 vN → ct H (q 18) 3 (cu vL (0 : Int32).toNatClampNeg x12) → el H (q 18) (2 : Int32).toNatClampNeg = some (.int x12) → el H (q 18) (0 : Int32).toNatClampNeg = some (.int x12) → ∀ ls : Array Slot, lv_has ls 4 [(3, .int (nI i21)), (0, .ref o0), (1, .int 2), (2, .int 0)] → W p l e (headSpec w_s_copies20 ({ frames := 0, cells := 0, slots := 0, locals := 0 })).room s m #[.ref o0, .int 2, .int 0] below meth c H locs 0 0 (MQ below (va_Qv (fun (u : Unit) => True) (fun (_ : Unit) (t : State) => gH (dC, dI) kA (SHm q (wP wZ wN wH wB wC wL wK wU wV) PI im PM PT (lcp lS 2 0) (lcp lB 2 0) (lcp lE 2 0) (lcp lN 2 0)) G t.heap ∧ gF (dC, dI) SKm G ([(19, 0), (20, 0), (21, 0), (22, 0), (23, 0), (24, 0), (25, 0), (26, 0), (27, 0), (28, 0)] : List (Nat × Nat)) s.heap t.heap ∧ ct t.heap (q 19) 60 (zcp vO 40 0 20) ∧ ct t.heap (q 24) 60 (zcp vB 40 0 20) ∧ ct t.heap (q 25) 60 (zcp vX 40 0 20) ∧ ct t.heap (q 26) 1200 (zcp vS 800 0 400) ∧ ct t.heap (q 27) 1200 (zcp vN 800 0 400) ∧ ct t.heap (q 18) 3 (cu vL 0 (vL 2))) A) #[.ref o0, .int 2, .int 0] s 0 0 A) (F0 m 14 ls []) := by
    intro n171
    induction n171 with
    | zero =>
      intro i21 hn171 hlo172  H locs hT hF hS m22 m23 m24 m25 m26 m27 m28 m29 ls hl
      obtain rfl : 20 = i21 := by omega
      refine lv_iload_n hx hb dX12_copies_14 rfl (lv_at hl 0 rfl) ?_
      refine lv_bipush (v := 20) hx hb dX12_copies_15 (by decide) ?_
      refine lv_icmp_ge (tgt := 180) hx hb dX12_copies_17 (by decide) (fun c173 => ?_) (fun c173 => (by exfalso; have q9 : ((20 : Nat) : Int) < 20 := ti_nle c173 (by decide) (nI_toInt (by omega)); omega))
      have t174 : 20 ≤ ((20 : Nat) : Int) := ti_le c173 (by decide) (nI_toInt (by omega))
      have hT : gH (dC, dI) kA (SHm q (wP wZ wN wH wB wC wL wK wU wV) PI im PM PT lS (lcp lB 2 0) (lcp lE 2 0) (lcp lN 2 0)) G H := SHm_mono hT (fun _ _ _ z => z) (fun _ _ _ z => z) (fun _ _ z => z) (fun _ _ z => z) (fun _ _ _ _ z => z) (fun _ _ hi _ q => lpc_n hi q) (fun _ _ hi _ q => lpc_n hi q) (fun _ => Int.le_refl _)
      refine lv_iconst (v := 0) hx hb dX12_copies_180 (by decide) ?_
      refine lv_istore_n (lv' := [(3, .int 0), (0, .ref o0), (1, .int 2), (2, .int 0)]) hx hb dX12_copies_181 rfl hl (by decide) rfl (fun ls hl => ?_)
      have key228 : ∀ (n228 i175 : Nat), i175 + n228 = 400 → 0 ≤ i175 → ∀ (H : Heap) (locs : List Loc), gH (dC, dI) kA (SHm q (wP wZ wN wH wB wC wL wK wU wV) PI im PM PT (lpc lS 2 0 i175) (lcp lB 2 0) (lcp lE 2 0) (lcp lN 2 0)) G H → gF (dC, dI) SKm G ([(19, 0), (20, 0), (21, 0), (22, 0), (23, 0), (24, 0), (25, 0), (26, 0), (27, 0), (28, 0)] : List (Nat × Nat)) s.heap H → va_S A s.heap H locs → ct H (q 19) 60 (zcp vO 40 0 20) → ct H (q 24) 60 (zcp vB 40 0 20) → ct H (q 25) 60 (zcp vX 40 0 20) → ct H (q 26) 1200 (zcp vS 800 0 i175) → ct H (q 27) 1200 (zcp vN 800 0 i175) → ct H (q 18) 3 (cu vL (0 : Int32).toNatClampNeg x12) → el H (q 18) (2 : Int32).toNatClampNeg = some (.int x12) → el H (q 18) (0 : Int32).toNatClampNeg = some (.int x12) → ∀ ls : Array Slot, lv_has ls 4 [(3, .int (nI i175)), (0, .ref o0), (1, .int 2), (2, .int 0)] → W p l e (headSpec w_s_copies20 ({ frames := 0, cells := 0, slots := 0, locals := 0 })).room s m #[.ref o0, .int 2, .int 0] below meth c H locs 0 0 (MQ below (va_Qv (fun (u : Unit) => True) (fun (_ : Unit) (t : State) => gH (dC, dI) kA (SHm q (wP wZ wN wH wB wC wL wK wU wV) PI im PM PT (lcp lS 2 0) (lcp lB 2 0) (lcp lE 2 0) (lcp lN 2 0)) G t.heap ∧ gF (dC, dI) SKm G ([(19, 0), (20, 0), (21, 0), (22, 0), (23, 0), (24, 0), (25, 0), (26, 0), (27, 0), (28, 0)] : List (Nat × Nat)) s.heap t.heap ∧ ct t.heap (q 19) 60 (zcp vO 40 0 20) ∧ ct t.heap (q 24) 60 (zcp vB 40 0 20) ∧ ct t.heap (q 25) 60 (zcp vX 40 0 20) ∧ ct t.heap (q 26) 1200 (zcp vS 800 0 400) ∧ ct t.heap (q 27) 1200 (zcp vN 800 0 400) ∧ ct t.heap (q 18) 3 (cu vL 0 (vL 2))) A) #[.ref o0, .int 2, .int 0] s 0 0 A) (F0 m 182 ls []) := by
        intro n228
        induction n228 with
        | zero =>
          intro i175 hn228 hlo229  H locs hT hF hS m176 m177 m178 m179 m180 m181 m182 m183 ls hl
          obtain rfl : 400 = i175 := by omega
          refine lv_iload_n hx hb dX12_copies_182 rfl (lv_at hl 0 rfl) ?_
          refine lv_sipush (v := 400) hx hb dX12_copies_183 (by decide) ?_
          refine lv_icmp_ge (tgt := 243) hx hb dX12_copies_186 (by decide) (fun c230 => ?_) (fun c230 => (by exfalso; have q9 : ((400 : Nat) : Int) < 400 := ti_nle c230 (by decide) (nI_toInt (by omega)); omega))
          have t231 : 400 ≤ ((400 : Nat) : Int) := ti_le c230 (by decide) (nI_toInt (by omega))
          have hT : gH (dC, dI) kA (SHm q (wP wZ wN wH wB wC wL wK wU wV) PI im PM PT (lcp lS 2 0) (lcp lB 2 0) (lcp lE 2 0) (lcp lN 2 0)) G H := SHm_mono hT (fun _ _ _ z => z) (fun _ _ _ z => z) (fun _ _ z => z) (fun _ _ z => z) (fun _ _ hi _ q => lpc_n hi q) (fun _ _ _ _ z => z) (fun _ _ _ _ z => z) (fun _ => Int.le_refl _)
          exact W.vret hx hb hr (fun t ht hW => ⟨⟨(), rfl, (by exact trivial), by (try dsimp only); rw [ht]; exact ⟨hT, hF, m176, m177, m178, m179, m180, (m181.ext (fun i9 _ => by rw [cx12, show (0 : Int32).toNatClampNeg = 0 from by decide, show (2 : Int32).toNatClampNeg = 2 from by decide]))⟩⟩, hS.F ht⟩) hS.2.2 dX12_copies_243
        | succ n228 ih228 =>
          intro i175 hn228 hlo229  H locs hT hF hS m176 m177 m178 m179 m180 m181 m182 m183 ls hl
          have hlt231 : i175 < 400 := by omega
          refine lv_iload_n hx hb dX12_copies_182 rfl (lv_at hl 0 rfl) ?_
          refine lv_sipush (v := 400) hx hb dX12_copies_183 (by decide) ?_
          refine lv_icmp_ge (tgt := 243) hx hb dX12_copies_186 (by decide) (fun c232 => (by exfalso; have q9 : 400 ≤ ((i175 : Nat) : Int) := ti_le c232 (by decide) (nI_toInt (by omega)); omega)) (fun c232 => ?_)
          have t233 : ((i175 : Nat) : Int) < 400 := ti_nle c232 (by decide) (nI_toInt (by omega))
          refine lv_aload_n hx hb dX12_copies_189 rfl (lv_at hl 1 rfl) ?_
          refine tw_get hx hb hts bF_X12 hown hK hT hr_o0 shm_0 rfl 26 (by decide) (ht_at hts 1 rfl) (fun _ h9 => h9) dX12_copies_190 (fun v9 m234 h9 => ?_)
          obtain ⟨rfl, hg235⟩ := h9 _ rfl
          refine lv_sipush (v := 400) hx hb dX12_copies_193 (by decide) ?_
          refine lv_iload_n hx hb dX12_copies_196 rfl (lv_at hl 3 rfl) ?_
          refine lv_imul hx hb dX12_copies_197 ?_
          refine lv_topi (fun x236 ex236 => ?_)
          obtain rfl : x236 = 0 := ex236.trans (by decide)
          refine lv_iload_n hx hb dX12_copies_198 rfl (lv_at hl 0 rfl) ?_
          refine lv_iadd hx hb dX12_copies_199 ?_
          refine lv_topi (fun x237 ex237 => ?_)
          obtain rfl : nI (0 + i175) = x237 := (ex237.trans (nI_add 0 i175)).symm
          refine lv_aload_n hx hb dX12_copies_200 rfl (lv_at hl 1 rfl) ?_
          refine tw_get hx hb hts bF_X12 hown hK hT hr_o0 shm_0 rfl 26 (by decide) (ht_at hts 1 rfl) (fun _ h9 => h9) dX12_copies_201 (fun v9 m238 h9 => ?_)
          obtain ⟨rfl, hg239⟩ := h9 _ rfl
          refine lv_sipush (v := 400) hx hb dX12_copies_204 (by decide) ?_
          refine lv_iload_n hx hb dX12_copies_207 rfl (lv_at hl 2 rfl) ?_
          refine lv_imul hx hb dX12_copies_208 ?_
          refine lv_topi (fun x240 ex240 => ?_)
          obtain rfl : x240 = 800 := ex240.trans (by decide)
          refine lv_iload_n hx hb dX12_copies_209 rfl (lv_at hl 0 rfl) ?_
          refine lv_iadd hx hb dX12_copies_210 ?_
          refine lv_topi (fun x241 ex241 => ?_)
          obtain rfl : nI (800 + i175) = x241 := (ex241.trans (nI_add 800 i175)).symm
          refine tw_iald (i := (nI (800 + i175))) hx hb hK hT hg4 shm_27 rfl (vp_in_nI (by omega) (by decide)) dX12_copies_211 (fun v9 m242 h9 => ?_)
          obtain ⟨x243, rfl, gx243, kx243⟩ := (gp_any h9)
          have cx243 := m179.at m242 (by have q9 := tn_of (show (nI (800 + i175)).toInt = ((800 + i175 : Nat) : Int) from (nI_toInt (by omega))) (by omega); omega)
          have t244 : (((nI (0 + i175)).toNatClampNeg : Nat) : Int) = ((0 + i175 : Nat) : Int) := tn_of (show (nI (0 + i175)).toInt = ((0 + i175 : Nat) : Int) from (nI_toInt (by omega))) (by omega)
          have hq_ := gq_at hT hg4 shm_27 (by have q9 := tn_of (show (nI (800 + i175)).toInt = ((800 + i175 : Nat) : Int) from (nI_toInt (by omega))) (by omega); omega) m242
          have hi_ : (nI (800 + i175)).toNatClampNeg = 800 + i175 := by have q9 := tn_of (show (nI (800 + i175)).toInt = ((800 + i175 : Nat) : Int) from (nI_toInt (by omega))) (by omega); omega
          have hj_ : (nI (0 + i175)).toNatClampNeg = 0 + i175 := by omega
          have hp_ : lS 2 i175 x243.toInt := by unfold lqS at hq_; rw [hi_, show (800 + i175) / 400 = 2 by omega, show (800 + i175) % 400 = i175 by omega] at hq_; exact lpc_a (by decide) hq_
          refine tw_iast2 (Sg1 := (SHm q (wP wZ wN wH wB wC wL wK wU wV) PI im PM PT (lpc lS 2 0 (i175 + 1)) (lcp lB 2 0) (lcp lE 2 0) (lcp lN 2 0))) (i := (nI (0 + i175))) (x := x243) hx hb hK hT hG hS hg4 shm_27 rfl shm_27 shm_o27 (fun b9 h9 => hgu b9 26 h9) (vp_in_nI (by omega) (by decide)) (⟨_, rfl, by unfold lqS; rw [hj_, show (0 + i175) / 400 = 0 by omega, show (0 + i175) % 400 = i175 by omega]; exact lpc_at hp_⟩) (fun k9 hk9 hne9 v9 hv9 he9 => by obtain ⟨x9, rfl, p9⟩ := he9; exact ⟨x9, rfl, lpc_st (by omega) p9⟩) dX12_copies_212 (fun H locs hT oq m245 oi hS => ?_)
          have hF := hF.ast hg4 skm_27 oq (by decide)
          have m246 := m176.kept (oq _ (gne hg1 hg4 (by decide)))
          have m247 := m177.kept (oq _ (gne hg2 hg4 (by decide)))
          have m248 := m178.kept (oq _ (gne hg3 hg4 (by decide)))
          have m249 := m179.put m245 oi
          have m250 := m180.kept (oq _ (gne hg5 hg4 (by decide)))
          have m251 := m181.kept (oq _ (gne hg6 hg4 (by decide)))
          have m252 := (el_kept (oq _ (gne hg6 hg4 (by decide)))).trans m182
          have m253 := (el_kept (oq _ (gne hg6 hg4 (by decide)))).trans m183
          refine lv_aload_n hx hb dX12_copies_213 rfl (lv_at hl 1 rfl) ?_
          refine tw_get hx hb hts bF_X12 hown hK hT hr_o0 shm_0 rfl 27 (by decide) (ht_at hts 2 rfl) (fun _ h9 => h9) dX12_copies_214 (fun v9 m255 h9 => ?_)
          obtain ⟨rfl, hg256⟩ := h9 _ rfl
          refine lv_sipush (v := 400) hx hb dX12_copies_217 (by decide) ?_
          refine lv_iload_n hx hb dX12_copies_220 rfl (lv_at hl 3 rfl) ?_
          refine lv_imul hx hb dX12_copies_221 ?_
          refine lv_topi (fun x257 ex257 => ?_)
          obtain rfl : x257 = 0 := ex257.trans (by decide)
          refine lv_iload_n hx hb dX12_copies_222 rfl (lv_at hl 0 rfl) ?_
          refine lv_iadd hx hb dX12_copies_223 ?_
          refine lv_topi (fun x258 ex258 => ?_)
          obtain rfl : nI (0 + i175) = x258 := (ex258.trans (nI_add 0 i175)).symm
          refine lv_aload_n hx hb dX12_copies_224 rfl (lv_at hl 1 rfl) ?_
          refine tw_get hx hb hts bF_X12 hown hK hT hr_o0 shm_0 rfl 27 (by decide) (ht_at hts 2 rfl) (fun _ h9 => h9) dX12_copies_225 (fun v9 m259 h9 => ?_)
          obtain ⟨rfl, hg260⟩ := h9 _ rfl
          refine lv_sipush (v := 400) hx hb dX12_copies_228 (by decide) ?_
          refine lv_iload_n hx hb dX12_copies_231 rfl (lv_at hl 2 rfl) ?_
          refine lv_imul hx hb dX12_copies_232 ?_
          refine lv_topi (fun x261 ex261 => ?_)
          obtain rfl : x261 = 800 := ex261.trans (by decide)
          refine lv_iload_n hx hb dX12_copies_233 rfl (lv_at hl 0 rfl) ?_
          refine lv_iadd hx hb dX12_copies_234 ?_
          refine lv_topi (fun x262 ex262 => ?_)
          obtain rfl : nI (800 + i175) = x262 := (ex262.trans (nI_add 800 i175)).symm
          refine tw_iald (i := (nI (800 + i175))) hx hb hK hT hg5 shm_28 rfl (vp_in_nI (by omega) (by decide)) dX12_copies_235 (fun v9 m263 h9 => ?_)
          obtain ⟨x264, rfl, gx264, kx264⟩ := h9
          have cx264 := m250.at m263 (by have q9 := tn_of (show (nI (800 + i175)).toInt = ((800 + i175 : Nat) : Int) from (nI_toInt (by omega))) (by omega); omega)
          refine tw_iast (i := (nI (0 + i175))) (x := x264) hx hb hK hT hG hS hg5 shm_28 rfl (vp_in_nI (by omega) (by decide)) (gi_all _) dX12_copies_236 (fun H locs hT oq m265 oi hS => ?_)
          have hF := hF.ast hg5 skm_28 oq (by decide)
          have m266 := m246.kept (oq _ (gne hg1 hg5 (by decide)))
          have m267 := m247.kept (oq _ (gne hg2 hg5 (by decide)))
          have m268 := m248.kept (oq _ (gne hg3 hg5 (by decide)))
          have m269 := m249.kept (oq _ (gne hg4 hg5 (by decide)))
          have m270 := m250.put m265 oi
          have m271 := m251.kept (oq _ (gne hg6 hg5 (by decide)))
          have m272 := (el_kept (oq _ (gne hg6 hg5 (by decide)))).trans m252
          have m273 := (el_kept (oq _ (gne hg6 hg5 (by decide)))).trans m253
          refine lv_iinc (v := nI (i175 + 1)) (lv' := [(3, .int (nI (i175 + 1))), (0, .ref o0), (1, .int 2), (2, .int 0)]) hx hb dX12_copies_237 hl (k := 0) rfl (nI_add i175 1) (by decide) rfl (fun ls hl => ?_)
          refine lv_goto (tgt := 182) hx hb dX12_copies_240 (by decide) ?_
          exact ih228 (i175 + 1) (by omega) (by omega) _ _ hT hF hS m266 m267 m268 (m269.ext (fun i9 _ => zcp_s (by have := tn_of (show (nI (0 + i175)).toInt = ((0 + i175 : Nat) : Int) from (nI_toInt (by omega))) (by omega); omega) (cx243.trans (by rw [show (nI (800 + i175)).toNatClampNeg = 800 + i175 from by have := tn_of (show (nI (800 + i175)).toInt = ((800 + i175 : Nat) : Int) from (nI_toInt (by omega))) (by omega); omega]; exact zcp_o (by omega))))) (m270.ext (fun i9 _ => zcp_s (by have := tn_of (show (nI (0 + i175)).toInt = ((0 + i175 : Nat) : Int) from (nI_toInt (by omega))) (by omega); omega) (cx264.trans (by rw [show (nI (800 + i175)).toNatClampNeg = 800 + i175 from by have := tn_of (show (nI (800 + i175)).toInt = ((800 + i175 : Nat) : Int) from (nI_toInt (by omega))) (by omega); omega]; exact zcp_o (by omega))))) m271 m272 m273 ls (lv_sub hl [0, 1, 2, 3] rfl)
      have hT : gH (dC, dI) kA (SHm q (wP wZ wN wH wB wC wL wK wU wV) PI im PM PT (lpc lS 2 0 0) (lcp lB 2 0) (lcp lE 2 0) (lcp lN 2 0)) G H := SHm_mono hT (fun _ _ _ z => z) (fun _ _ _ z => z) (fun _ _ z => z) (fun _ _ z => z) (fun _ _ _ _ q => lpc_0 q) (fun _ _ _ _ z => z) (fun _ _ _ _ z => z) (fun _ => Int.le_refl _)
      exact key228 (400 - 0) 0 (by omega) (Nat.le_refl _) _ _ hT hF hS m22 m23 m24 (m25.ext (fun _ _ => zcp_0)) (m26.ext (fun _ _ => zcp_0)) m27 m28 m29 ls (lv_sub hl [0, 1, 2, 3] rfl)
    | succ n171 ih171 =>
      intro i21 hn171 hlo172  H locs hT hF hS m22 m23 m24 m25 m26 m27 m28 m29 ls hl
      have hlt275 : i21 < 20 := by omega
      refine lv_iload_n hx hb dX12_copies_14 rfl (lv_at hl 0 rfl) ?_
      refine lv_bipush (v := 20) hx hb dX12_copies_15 (by decide) ?_
      refine lv_icmp_ge (tgt := 180) hx hb dX12_copies_17 (by decide) (fun c276 => (by exfalso; have q9 : 20 ≤ ((i21 : Nat) : Int) := ti_le c276 (by decide) (nI_toInt (by omega)); omega)) (fun c276 => ?_)
      have t277 : ((i21 : Nat) : Int) < 20 := ti_nle c276 (by decide) (nI_toInt (by omega))
      refine lv_aload_n hx hb dX12_copies_20 rfl (lv_at hl 1 rfl) ?_
      refine tw_get hx hb hts bF_X12 hown hK hT hr_o0 shm_0 rfl 19 (by decide) (ht_at hts 3 rfl) (fun _ h9 => h9) dX12_copies_21 (fun v9 m278 h9 => ?_)
      obtain ⟨rfl, hg279⟩ := h9 _ rfl
      refine lv_bipush (v := 20) hx hb dX12_copies_24 (by decide) ?_
      refine lv_iload_n hx hb dX12_copies_26 rfl (lv_at hl 3 rfl) ?_
      refine lv_imul hx hb dX12_copies_27 ?_
      refine lv_topi (fun x280 ex280 => ?_)
      obtain rfl : x280 = 0 := ex280.trans (by decide)
      refine lv_iload_n hx hb dX12_copies_28 rfl (lv_at hl 0 rfl) ?_
      refine lv_iadd hx hb dX12_copies_29 ?_
      refine lv_topi (fun x281 ex281 => ?_)
      obtain rfl : nI (0 + i21) = x281 := (ex281.trans (nI_add 0 i21)).symm
      refine lv_aload_n hx hb dX12_copies_30 rfl (lv_at hl 1 rfl) ?_
      refine tw_get hx hb hts bF_X12 hown hK hT hr_o0 shm_0 rfl 19 (by decide) (ht_at hts 3 rfl) (fun _ h9 => h9) dX12_copies_31 (fun v9 m282 h9 => ?_)
      obtain ⟨rfl, hg283⟩ := h9 _ rfl
      refine lv_bipush (v := 20) hx hb dX12_copies_34 (by decide) ?_
      refine lv_iload_n hx hb dX12_copies_36 rfl (lv_at hl 2 rfl) ?_
      refine lv_imul hx hb dX12_copies_37 ?_
      refine lv_topi (fun x284 ex284 => ?_)
      obtain rfl : x284 = 40 := ex284.trans (by decide)
      refine lv_iload_n hx hb dX12_copies_38 rfl (lv_at hl 0 rfl) ?_
      refine lv_iadd hx hb dX12_copies_39 ?_
      refine lv_topi (fun x285 ex285 => ?_)
      obtain rfl : nI (40 + i21) = x285 := (ex285.trans (nI_add 40 i21)).symm
      refine tw_iald (i := (nI (40 + i21))) hx hb hK hT hg1 shm_20 rfl (vp_in_nI (by omega) (by decide)) dX12_copies_40 (fun v9 m286 h9 => ?_)
      obtain ⟨x287, rfl, gx287, kx287⟩ := h9
      have cx287 := m22.at m286 (by have q9 := tn_of (show (nI (40 + i21)).toInt = ((40 + i21 : Nat) : Int) from (nI_toInt (by omega))) (by omega); omega)
      refine tw_iast (i := (nI (0 + i21))) (x := x287) hx hb hK hT hG hS hg1 shm_20 rfl (vp_in_nI (by omega) (by decide)) (gi_all _) dX12_copies_41 (fun H locs hT oq m288 oi hS => ?_)
      have hF := hF.ast hg1 skm_20 oq (by decide)
      have m289 := m22.put m288 oi
      have m290 := m23.kept (oq _ (gne hg2 hg1 (by decide)))
      have m291 := m24.kept (oq _ (gne hg3 hg1 (by decide)))
      have m292 := m25.kept (oq _ (gne hg4 hg1 (by decide)))
      have m293 := m26.kept (oq _ (gne hg5 hg1 (by decide)))
      have m294 := m27.kept (oq _ (gne hg6 hg1 (by decide)))
      have m295 := (el_kept (oq _ (gne hg6 hg1 (by decide)))).trans m28
      have m296 := (el_kept (oq _ (gne hg6 hg1 (by decide)))).trans m29
      refine lv_aload_n hx hb dX12_copies_42 rfl (lv_at hl 1 rfl) ?_
      refine tw_get hx hb hts bF_X12 hown hK hT hr_o0 shm_0 rfl 20 (by decide) (ht_at hts 4 rfl) (fun _ h9 => h9) dX12_copies_43 (fun v9 m297 h9 => ?_)
      obtain ⟨rfl, hg298⟩ := h9 _ rfl
      refine lv_bipush (v := 20) hx hb dX12_copies_46 (by decide) ?_
      refine lv_iload_n hx hb dX12_copies_48 rfl (lv_at hl 3 rfl) ?_
      refine lv_imul hx hb dX12_copies_49 ?_
      refine lv_topi (fun x299 ex299 => ?_)
      obtain rfl : x299 = 0 := ex299.trans (by decide)
      refine lv_iload_n hx hb dX12_copies_50 rfl (lv_at hl 0 rfl) ?_
      refine lv_iadd hx hb dX12_copies_51 ?_
      refine lv_topi (fun x300 ex300 => ?_)
      obtain rfl : nI (0 + i21) = x300 := (ex300.trans (nI_add 0 i21)).symm
      refine lv_aload_n hx hb dX12_copies_52 rfl (lv_at hl 1 rfl) ?_
      refine tw_get hx hb hts bF_X12 hown hK hT hr_o0 shm_0 rfl 20 (by decide) (ht_at hts 4 rfl) (fun _ h9 => h9) dX12_copies_53 (fun v9 m301 h9 => ?_)
      obtain ⟨rfl, hg302⟩ := h9 _ rfl
      refine lv_bipush (v := 20) hx hb dX12_copies_56 (by decide) ?_
      refine lv_iload_n hx hb dX12_copies_58 rfl (lv_at hl 2 rfl) ?_
      refine lv_imul hx hb dX12_copies_59 ?_
      refine lv_topi (fun x303 ex303 => ?_)
      obtain rfl : x303 = 40 := ex303.trans (by decide)
      refine lv_iload_n hx hb dX12_copies_60 rfl (lv_at hl 0 rfl) ?_
      refine lv_iadd hx hb dX12_copies_61 ?_
      refine lv_topi (fun x304 ex304 => ?_)
      obtain rfl : nI (40 + i21) = x304 := (ex304.trans (nI_add 40 i21)).symm
      refine tw_iald (i := (nI (40 + i21))) hx hb hK hT hg298 shm_21 rfl (vp_in_nI (by omega) (by decide)) dX12_copies_62 (fun v9 m305 h9 => ?_)
      obtain ⟨x306, rfl, gx306, kx306⟩ := h9
      refine tw_iast (i := (nI (0 + i21))) (x := x306) hx hb hK hT hG hS hg298 shm_21 rfl (vp_in_nI (by omega) (by decide)) (gi_all _) dX12_copies_63 (fun H locs hT oq m307 oi hS => ?_)
      have hF := hF.ast hg298 skm_21 oq (by decide)
      have m308 := m289.kept (oq _ (gne hg1 hg298 (by decide)))
      have m309 := m290.kept (oq _ (gne hg2 hg298 (by decide)))
      have m310 := m291.kept (oq _ (gne hg3 hg298 (by decide)))
      have m311 := m292.kept (oq _ (gne hg4 hg298 (by decide)))
      have m312 := m293.kept (oq _ (gne hg5 hg298 (by decide)))
      have m313 := m294.kept (oq _ (gne hg6 hg298 (by decide)))
      have m314 := (el_kept (oq _ (gne hg6 hg298 (by decide)))).trans m295
      have m315 := (el_kept (oq _ (gne hg6 hg298 (by decide)))).trans m296
      refine lv_aload_n hx hb dX12_copies_64 rfl (lv_at hl 1 rfl) ?_
      refine tw_get hx hb hts bF_X12 hown hK hT hr_o0 shm_0 rfl 21 (by decide) (ht_at hts 5 rfl) (fun _ h9 => h9) dX12_copies_65 (fun v9 m316 h9 => ?_)
      obtain ⟨rfl, hg317⟩ := h9 _ rfl
      refine lv_bipush (v := 20) hx hb dX12_copies_68 (by decide) ?_
      refine lv_iload_n hx hb dX12_copies_70 rfl (lv_at hl 3 rfl) ?_
      refine lv_imul hx hb dX12_copies_71 ?_
      refine lv_topi (fun x318 ex318 => ?_)
      obtain rfl : x318 = 0 := ex318.trans (by decide)
      refine lv_iload_n hx hb dX12_copies_72 rfl (lv_at hl 0 rfl) ?_
      refine lv_iadd hx hb dX12_copies_73 ?_
      refine lv_topi (fun x319 ex319 => ?_)
      obtain rfl : nI (0 + i21) = x319 := (ex319.trans (nI_add 0 i21)).symm
      refine lv_aload_n hx hb dX12_copies_74 rfl (lv_at hl 1 rfl) ?_
      refine tw_get hx hb hts bF_X12 hown hK hT hr_o0 shm_0 rfl 21 (by decide) (ht_at hts 5 rfl) (fun _ h9 => h9) dX12_copies_75 (fun v9 m320 h9 => ?_)
      obtain ⟨rfl, hg321⟩ := h9 _ rfl
      refine lv_bipush (v := 20) hx hb dX12_copies_78 (by decide) ?_
      refine lv_iload_n hx hb dX12_copies_80 rfl (lv_at hl 2 rfl) ?_
      refine lv_imul hx hb dX12_copies_81 ?_
      refine lv_topi (fun x322 ex322 => ?_)
      obtain rfl : x322 = 40 := ex322.trans (by decide)
      refine lv_iload_n hx hb dX12_copies_82 rfl (lv_at hl 0 rfl) ?_
      refine lv_iadd hx hb dX12_copies_83 ?_
      refine lv_topi (fun x323 ex323 => ?_)
      obtain rfl : nI (40 + i21) = x323 := (ex323.trans (nI_add 40 i21)).symm
      refine tw_iald (i := (nI (40 + i21))) hx hb hK hT hg317 shm_22 rfl (vp_in_nI (by omega) (by decide)) dX12_copies_84 (fun v9 m324 h9 => ?_)
      obtain ⟨x325, rfl, gx325, kx325⟩ := h9
      refine tw_iast (i := (nI (0 + i21))) (x := x325) hx hb hK hT hG hS hg317 shm_22 rfl (vp_in_nI (by omega) (by decide)) (gi_all _) dX12_copies_85 (fun H locs hT oq m326 oi hS => ?_)
      have hF := hF.ast hg317 skm_22 oq (by decide)
      have m327 := m308.kept (oq _ (gne hg1 hg317 (by decide)))
      have m328 := m309.kept (oq _ (gne hg2 hg317 (by decide)))
      have m329 := m310.kept (oq _ (gne hg3 hg317 (by decide)))
      have m330 := m311.kept (oq _ (gne hg4 hg317 (by decide)))
      have m331 := m312.kept (oq _ (gne hg5 hg317 (by decide)))
      have m332 := m313.kept (oq _ (gne hg6 hg317 (by decide)))
      have m333 := (el_kept (oq _ (gne hg6 hg317 (by decide)))).trans m314
      have m334 := (el_kept (oq _ (gne hg6 hg317 (by decide)))).trans m315
      refine lv_aload_n hx hb dX12_copies_86 rfl (lv_at hl 1 rfl) ?_
      refine tw_get hx hb hts bF_X12 hown hK hT hr_o0 shm_0 rfl 22 (by decide) (ht_at hts 6 rfl) (fun _ h9 => h9) dX12_copies_87 (fun v9 m335 h9 => ?_)
      obtain ⟨rfl, hg336⟩ := h9 _ rfl
      refine lv_bipush (v := 20) hx hb dX12_copies_90 (by decide) ?_
      refine lv_iload_n hx hb dX12_copies_92 rfl (lv_at hl 3 rfl) ?_
      refine lv_imul hx hb dX12_copies_93 ?_
      refine lv_topi (fun x337 ex337 => ?_)
      obtain rfl : x337 = 0 := ex337.trans (by decide)
      refine lv_iload_n hx hb dX12_copies_94 rfl (lv_at hl 0 rfl) ?_
      refine lv_iadd hx hb dX12_copies_95 ?_
      refine lv_topi (fun x338 ex338 => ?_)
      obtain rfl : nI (0 + i21) = x338 := (ex338.trans (nI_add 0 i21)).symm
      refine lv_aload_n hx hb dX12_copies_96 rfl (lv_at hl 1 rfl) ?_
      refine tw_get hx hb hts bF_X12 hown hK hT hr_o0 shm_0 rfl 22 (by decide) (ht_at hts 6 rfl) (fun _ h9 => h9) dX12_copies_97 (fun v9 m339 h9 => ?_)
      obtain ⟨rfl, hg340⟩ := h9 _ rfl
      refine lv_bipush (v := 20) hx hb dX12_copies_100 (by decide) ?_
      refine lv_iload_n hx hb dX12_copies_102 rfl (lv_at hl 2 rfl) ?_
      refine lv_imul hx hb dX12_copies_103 ?_
      refine lv_topi (fun x341 ex341 => ?_)
      obtain rfl : x341 = 40 := ex341.trans (by decide)
      refine lv_iload_n hx hb dX12_copies_104 rfl (lv_at hl 0 rfl) ?_
      refine lv_iadd hx hb dX12_copies_105 ?_
      refine lv_topi (fun x342 ex342 => ?_)
      obtain rfl : nI (40 + i21) = x342 := (ex342.trans (nI_add 40 i21)).symm
      refine tw_iald (i := (nI (40 + i21))) hx hb hK hT hg336 shm_23 rfl (vp_in_nI (by omega) (by decide)) dX12_copies_106 (fun v9 m343 h9 => ?_)
      obtain ⟨x344, rfl, gx344, kx344⟩ := h9
      refine tw_iast (i := (nI (0 + i21))) (x := x344) hx hb hK hT hG hS hg336 shm_23 rfl (vp_in_nI (by omega) (by decide)) (gi_all _) dX12_copies_107 (fun H locs hT oq m345 oi hS => ?_)
      have hF := hF.ast hg336 skm_23 oq (by decide)
      have m346 := m327.kept (oq _ (gne hg1 hg336 (by decide)))
      have m347 := m328.kept (oq _ (gne hg2 hg336 (by decide)))
      have m348 := m329.kept (oq _ (gne hg3 hg336 (by decide)))
      have m349 := m330.kept (oq _ (gne hg4 hg336 (by decide)))
      have m350 := m331.kept (oq _ (gne hg5 hg336 (by decide)))
      have m351 := m332.kept (oq _ (gne hg6 hg336 (by decide)))
      have m352 := (el_kept (oq _ (gne hg6 hg336 (by decide)))).trans m333
      have m353 := (el_kept (oq _ (gne hg6 hg336 (by decide)))).trans m334
      refine lv_aload_n hx hb dX12_copies_108 rfl (lv_at hl 1 rfl) ?_
      refine tw_get hx hb hts bF_X12 hown hK hT hr_o0 shm_0 rfl 23 (by decide) (ht_at hts 7 rfl) (fun _ h9 => h9) dX12_copies_109 (fun v9 m354 h9 => ?_)
      obtain ⟨rfl, hg355⟩ := h9 _ rfl
      refine lv_bipush (v := 20) hx hb dX12_copies_112 (by decide) ?_
      refine lv_iload_n hx hb dX12_copies_114 rfl (lv_at hl 3 rfl) ?_
      refine lv_imul hx hb dX12_copies_115 ?_
      refine lv_topi (fun x356 ex356 => ?_)
      obtain rfl : x356 = 0 := ex356.trans (by decide)
      refine lv_iload_n hx hb dX12_copies_116 rfl (lv_at hl 0 rfl) ?_
      refine lv_iadd hx hb dX12_copies_117 ?_
      refine lv_topi (fun x357 ex357 => ?_)
      obtain rfl : nI (0 + i21) = x357 := (ex357.trans (nI_add 0 i21)).symm
      refine lv_aload_n hx hb dX12_copies_118 rfl (lv_at hl 1 rfl) ?_
      refine tw_get hx hb hts bF_X12 hown hK hT hr_o0 shm_0 rfl 23 (by decide) (ht_at hts 7 rfl) (fun _ h9 => h9) dX12_copies_119 (fun v9 m358 h9 => ?_)
      obtain ⟨rfl, hg359⟩ := h9 _ rfl
      refine lv_bipush (v := 20) hx hb dX12_copies_122 (by decide) ?_
      refine lv_iload_n hx hb dX12_copies_124 rfl (lv_at hl 2 rfl) ?_
      refine lv_imul hx hb dX12_copies_125 ?_
      refine lv_topi (fun x360 ex360 => ?_)
      obtain rfl : x360 = 40 := ex360.trans (by decide)
      refine lv_iload_n hx hb dX12_copies_126 rfl (lv_at hl 0 rfl) ?_
      refine lv_iadd hx hb dX12_copies_127 ?_
      refine lv_topi (fun x361 ex361 => ?_)
      obtain rfl : nI (40 + i21) = x361 := (ex361.trans (nI_add 40 i21)).symm
      refine tw_iald (i := (nI (40 + i21))) hx hb hK hT hg355 shm_24 rfl (vp_in_nI (by omega) (by decide)) dX12_copies_128 (fun v9 m362 h9 => ?_)
      obtain ⟨x363, rfl, gx363, kx363⟩ := h9
      refine tw_iast (i := (nI (0 + i21))) (x := x363) hx hb hK hT hG hS hg355 shm_24 rfl (vp_in_nI (by omega) (by decide)) (gi_all _) dX12_copies_129 (fun H locs hT oq m364 oi hS => ?_)
      have hF := hF.ast hg355 skm_24 oq (by decide)
      have m365 := m346.kept (oq _ (gne hg1 hg355 (by decide)))
      have m366 := m347.kept (oq _ (gne hg2 hg355 (by decide)))
      have m367 := m348.kept (oq _ (gne hg3 hg355 (by decide)))
      have m368 := m349.kept (oq _ (gne hg4 hg355 (by decide)))
      have m369 := m350.kept (oq _ (gne hg5 hg355 (by decide)))
      have m370 := m351.kept (oq _ (gne hg6 hg355 (by decide)))
      have m371 := (el_kept (oq _ (gne hg6 hg355 (by decide)))).trans m352
      have m372 := (el_kept (oq _ (gne hg6 hg355 (by decide)))).trans m353
      refine lv_aload_n hx hb dX12_copies_130 rfl (lv_at hl 1 rfl) ?_
      refine tw_get hx hb hts bF_X12 hown hK hT hr_o0 shm_0 rfl 24 (by decide) (ht_at hts 8 rfl) (fun _ h9 => h9) dX12_copies_131 (fun v9 m373 h9 => ?_)
      obtain ⟨rfl, hg374⟩ := h9 _ rfl
      refine lv_bipush (v := 20) hx hb dX12_copies_134 (by decide) ?_
      refine lv_iload_n hx hb dX12_copies_136 rfl (lv_at hl 3 rfl) ?_
      refine lv_imul hx hb dX12_copies_137 ?_
      refine lv_topi (fun x375 ex375 => ?_)
      obtain rfl : x375 = 0 := ex375.trans (by decide)
      refine lv_iload_n hx hb dX12_copies_138 rfl (lv_at hl 0 rfl) ?_
      refine lv_iadd hx hb dX12_copies_139 ?_
      refine lv_topi (fun x376 ex376 => ?_)
      obtain rfl : nI (0 + i21) = x376 := (ex376.trans (nI_add 0 i21)).symm
      refine lv_aload_n hx hb dX12_copies_140 rfl (lv_at hl 1 rfl) ?_
      refine tw_get hx hb hts bF_X12 hown hK hT hr_o0 shm_0 rfl 24 (by decide) (ht_at hts 8 rfl) (fun _ h9 => h9) dX12_copies_141 (fun v9 m377 h9 => ?_)
      obtain ⟨rfl, hg378⟩ := h9 _ rfl
      refine lv_bipush (v := 20) hx hb dX12_copies_144 (by decide) ?_
      refine lv_iload_n hx hb dX12_copies_146 rfl (lv_at hl 2 rfl) ?_
      refine lv_imul hx hb dX12_copies_147 ?_
      refine lv_topi (fun x379 ex379 => ?_)
      obtain rfl : x379 = 40 := ex379.trans (by decide)
      refine lv_iload_n hx hb dX12_copies_148 rfl (lv_at hl 0 rfl) ?_
      refine lv_iadd hx hb dX12_copies_149 ?_
      refine lv_topi (fun x380 ex380 => ?_)
      obtain rfl : nI (40 + i21) = x380 := (ex380.trans (nI_add 40 i21)).symm
      refine tw_iald (i := (nI (40 + i21))) hx hb hK hT hg2 shm_25 rfl (vp_in_nI (by omega) (by decide)) dX12_copies_150 (fun v9 m381 h9 => ?_)
      obtain ⟨x382, rfl, gx382, kx382⟩ := (gb_at h9)
      have cx382 := m366.at m381 (by have q9 := tn_of (show (nI (40 + i21)).toInt = ((40 + i21 : Nat) : Int) from (nI_toInt (by omega))) (by omega); omega)
      have t383 : (((nI (0 + i21)).toNatClampNeg : Nat) : Int) = ((0 + i21 : Nat) : Int) := tn_of (show (nI (0 + i21)).toInt = ((0 + i21 : Nat) : Int) from (nI_toInt (by omega))) (by omega)
      have hq_ := gq_at hT hg2 shm_25 (by have q9 := tn_of (show (nI (40 + i21)).toInt = ((40 + i21 : Nat) : Int) from (nI_toInt (by omega))) (by omega); omega) m381
      have hi_ : (nI (40 + i21)).toNatClampNeg = 40 + i21 := by have q9 := tn_of (show (nI (40 + i21)).toInt = ((40 + i21 : Nat) : Int) from (nI_toInt (by omega))) (by omega); omega
      have hj_ : (nI (0 + i21)).toNatClampNeg = 0 + i21 := by omega
      have hp_ : lB 2 i21 x382.toInt := by have hq2_ := hq_.2; rw [hi_, show (40 + i21) / 20 = 2 by omega, show (40 + i21) % 20 = i21 by omega] at hq2_; exact lpc_a (by decide) hq2_
      refine tw_iast2 (Sg1 := (SHm q (wP wZ wN wH wB wC wL wK wU wV) PI im PM PT lS (lpc lB 2 0 (i21 + 1)) (lpc lE 2 0 i21) (lcp lN 2 0))) (i := (nI (0 + i21))) (x := x382) hx hb hK hT hG hS hg2 shm_25 rfl shm_25 shm_o25 (fun b9 h9 => hgu b9 24 h9) (vp_in_nI (by omega) (by decide)) (⟨_, rfl, hq_.1, by rw [hj_, show (0 + i21) / 20 = 0 by omega, show (0 + i21) % 20 = i21 by omega]; exact lpc_at hp_⟩) (fun k9 hk9 hne9 v9 hv9 he9 => by obtain ⟨x9, rfl, p9⟩ := he9; exact ⟨x9, rfl, p9.1, lpc_st (by omega) p9.2⟩) dX12_copies_151 (fun H locs hT oq m384 oi hS => ?_)
      have hF := hF.ast hg2 skm_25 oq (by decide)
      have m385 := m365.kept (oq _ (gne hg1 hg2 (by decide)))
      have m386 := m366.put m384 oi
      have m387 := m367.kept (oq _ (gne hg3 hg2 (by decide)))
      have m388 := m368.kept (oq _ (gne hg4 hg2 (by decide)))
      have m389 := m369.kept (oq _ (gne hg5 hg2 (by decide)))
      have m390 := m370.kept (oq _ (gne hg6 hg2 (by decide)))
      have m391 := (el_kept (oq _ (gne hg6 hg2 (by decide)))).trans m371
      have m392 := (el_kept (oq _ (gne hg6 hg2 (by decide)))).trans m372
      refine lv_aload_n hx hb dX12_copies_152 rfl (lv_at hl 1 rfl) ?_
      refine tw_get hx hb hts bF_X12 hown hK hT hr_o0 shm_0 rfl 25 (by decide) (ht_at hts 9 rfl) (fun _ h9 => h9) dX12_copies_153 (fun v9 m394 h9 => ?_)
      obtain ⟨rfl, hg395⟩ := h9 _ rfl
      refine lv_bipush (v := 20) hx hb dX12_copies_156 (by decide) ?_
      refine lv_iload_n hx hb dX12_copies_158 rfl (lv_at hl 3 rfl) ?_
      refine lv_imul hx hb dX12_copies_159 ?_
      refine lv_topi (fun x396 ex396 => ?_)
      obtain rfl : x396 = 0 := ex396.trans (by decide)
      refine lv_iload_n hx hb dX12_copies_160 rfl (lv_at hl 0 rfl) ?_
      refine lv_iadd hx hb dX12_copies_161 ?_
      refine lv_topi (fun x397 ex397 => ?_)
      obtain rfl : nI (0 + i21) = x397 := (ex397.trans (nI_add 0 i21)).symm
      refine lv_aload_n hx hb dX12_copies_162 rfl (lv_at hl 1 rfl) ?_
      refine tw_get hx hb hts bF_X12 hown hK hT hr_o0 shm_0 rfl 25 (by decide) (ht_at hts 9 rfl) (fun _ h9 => h9) dX12_copies_163 (fun v9 m398 h9 => ?_)
      obtain ⟨rfl, hg399⟩ := h9 _ rfl
      refine lv_bipush (v := 20) hx hb dX12_copies_166 (by decide) ?_
      refine lv_iload_n hx hb dX12_copies_168 rfl (lv_at hl 2 rfl) ?_
      refine lv_imul hx hb dX12_copies_169 ?_
      refine lv_topi (fun x400 ex400 => ?_)
      obtain rfl : x400 = 40 := ex400.trans (by decide)
      refine lv_iload_n hx hb dX12_copies_170 rfl (lv_at hl 0 rfl) ?_
      refine lv_iadd hx hb dX12_copies_171 ?_
      refine lv_topi (fun x401 ex401 => ?_)
      obtain rfl : nI (40 + i21) = x401 := (ex401.trans (nI_add 40 i21)).symm
      refine tw_iald (i := (nI (40 + i21))) hx hb hK hT hg3 shm_26 rfl (vp_in_nI (by omega) (by decide)) dX12_copies_172 (fun v9 m402 h9 => ?_)
      obtain ⟨x403, rfl, gx403, kx403⟩ := (gb_at h9)
      have cx403 := m387.at m402 (by have q9 := tn_of (show (nI (40 + i21)).toInt = ((40 + i21 : Nat) : Int) from (nI_toInt (by omega))) (by omega); omega)
      have t404 : (((nI (0 + i21)).toNatClampNeg : Nat) : Int) = ((0 + i21 : Nat) : Int) := tn_of (show (nI (0 + i21)).toInt = ((0 + i21 : Nat) : Int) from (nI_toInt (by omega))) (by omega)
      have hq_ := gq_at hT hg3 shm_26 (by have q9 := tn_of (show (nI (40 + i21)).toInt = ((40 + i21 : Nat) : Int) from (nI_toInt (by omega))) (by omega); omega) m402
      have hi_ : (nI (40 + i21)).toNatClampNeg = 40 + i21 := by have q9 := tn_of (show (nI (40 + i21)).toInt = ((40 + i21 : Nat) : Int) from (nI_toInt (by omega))) (by omega); omega
      have hj_ : (nI (0 + i21)).toNatClampNeg = 0 + i21 := by omega
      have hp_ : lE 2 i21 x403.toInt := by have hq2_ := hq_.2; rw [hi_, show (40 + i21) / 20 = 2 by omega, show (40 + i21) % 20 = i21 by omega] at hq2_; exact lpc_a (by decide) hq2_
      refine tw_iast2 (Sg1 := (SHm q (wP wZ wN wH wB wC wL wK wU wV) PI im PM PT lS (lpc lB 2 0 (i21 + 1)) (lpc lE 2 0 (i21 + 1)) (lcp lN 2 0))) (i := (nI (0 + i21))) (x := x403) hx hb hK hT hG hS hg3 shm_26 rfl shm_26 shm_o26 (fun b9 h9 => hgu b9 25 h9) (vp_in_nI (by omega) (by decide)) (⟨_, rfl, hq_.1, by rw [hj_, show (0 + i21) / 20 = 0 by omega, show (0 + i21) % 20 = i21 by omega]; exact lpc_at hp_⟩) (fun k9 hk9 hne9 v9 hv9 he9 => by obtain ⟨x9, rfl, p9⟩ := he9; exact ⟨x9, rfl, p9.1, lpc_st (by omega) p9.2⟩) dX12_copies_173 (fun H locs hT oq m405 oi hS => ?_)
      have hF := hF.ast hg3 skm_26 oq (by decide)
      have m406 := m385.kept (oq _ (gne hg1 hg3 (by decide)))
      have m407 := m386.kept (oq _ (gne hg2 hg3 (by decide)))
      have m408 := m387.put m405 oi
      have m409 := m388.kept (oq _ (gne hg4 hg3 (by decide)))
      have m410 := m389.kept (oq _ (gne hg5 hg3 (by decide)))
      have m411 := m390.kept (oq _ (gne hg6 hg3 (by decide)))
      have m412 := (el_kept (oq _ (gne hg6 hg3 (by decide)))).trans m391
      have m413 := (el_kept (oq _ (gne hg6 hg3 (by decide)))).trans m392
      refine lv_iinc (v := nI (i21 + 1)) (lv' := [(3, .int (nI (i21 + 1))), (0, .ref o0), (1, .int 2), (2, .int 0)]) hx hb dX12_copies_174 hl (k := 0) rfl (nI_add i21 1) (by decide) rfl (fun ls hl => ?_)
      refine lv_goto (tgt := 14) hx hb dX12_copies_177 (by decide) ?_
      exact ih171 (i21 + 1) (by omega) (by omega) _ _ hT hF hS (m406.ext (fun i9 _ => zcp_s (by have := tn_of (show (nI (0 + i21)).toInt = ((0 + i21 : Nat) : Int) from (nI_toInt (by omega))) (by omega); omega) (cx287.trans (by rw [show (nI (40 + i21)).toNatClampNeg = 40 + i21 from by have := tn_of (show (nI (40 + i21)).toInt = ((40 + i21 : Nat) : Int) from (nI_toInt (by omega))) (by omega); omega]; exact zcp_o (by omega))))) (m407.ext (fun i9 _ => zcp_s (by have := tn_of (show (nI (0 + i21)).toInt = ((0 + i21 : Nat) : Int) from (nI_toInt (by omega))) (by omega); omega) (cx382.trans (by rw [show (nI (40 + i21)).toNatClampNeg = 40 + i21 from by have := tn_of (show (nI (40 + i21)).toInt = ((40 + i21 : Nat) : Int) from (nI_toInt (by omega))) (by omega); omega]; exact zcp_o (by omega))))) (m408.ext (fun i9 _ => zcp_s (by have := tn_of (show (nI (0 + i21)).toInt = ((0 + i21 : Nat) : Int) from (nI_toInt (by omega))) (by omega); omega) (cx403.trans (by rw [show (nI (40 + i21)).toNatClampNeg = 40 + i21 from by have := tn_of (show (nI (40 + i21)).toInt = ((40 + i21 : Nat) : Int) from (nI_toInt (by omega))) (by omega); omega]; exact zcp_o (by omega))))) m409 m410 m411 m412 m413 ls (lv_sub hl [0, 1, 2, 3] rfl)
  have hT : gH (dC, dI) kA (SHm q (wP wZ wN wH wB wC wL wK wU wV) PI im PM PT lS (lpc lB 2 0 0) (lpc lE 2 0 0) (lcp lN 2 0)) G H := SHm_mono hT (fun _ _ _ z => z) (fun _ _ _ z => z) (fun _ _ z => z) (fun _ _ z => z) (fun _ _ _ _ z => z) (fun _ _ _ _ q => lpc_0 q) (fun _ _ _ _ q => lpc_0 q) (fun _ => Int.le_refl _)
  exact key171 (20 - 0) 0 (by omega) (Nat.le_refl _) _ _ hT hF hS (m14.ext (fun _ _ => zcp_0)) (m15.ext (fun _ _ => zcp_0)) (m16.ext (fun _ _ => zcp_0)) m17 m18 m19 m20 m13 ls (lv_sub hl [0, 1, 2, 3] rfl)
