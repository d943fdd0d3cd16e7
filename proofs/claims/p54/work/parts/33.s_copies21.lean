def w_s_copies21 : List Cond := .code yX12_copies cX12_copies 4 none :: (HAppend.hAppend (α := List Cond) (β := List Cond) (γ := List Cond) [.fieldLink RX12 42 "SeaLandModel" "lines" "[I", .fieldLink RX12 66 "SeaLandModel" "step" "[I", .fieldLink RX12 69 "SeaLandModel" "than" "[I", .fieldLink RX12 45 "SeaLandModel" "sort" "[I", .fieldLink RX12 48 "SeaLandModel" "told" "[I", .fieldLink RX12 51 "SeaLandModel" "winter" "[I", .fieldLink RX12 54 "SeaLandModel" "from" "[I", .fieldLink RX12 57 "SeaLandModel" "to" "[I", .fieldLink RX12 60 "SeaLandModel" "begins" "[I", .fieldLink RX12 63 "SeaLandModel" "ends" "[I"] bs)
set_option maxHeartbeats 4000000 in
set_option maxRecDepth 100000 in
theorem s_copies21 (l : Launch) (dC : Nat → ClassId) (dI : Nat → Nat → Nat) (kA : Nat → ClassId) (adK adV : Nat → Nat) (G : gT) (H0 : Heap) (q : Nat → Nat) (wZ wN : Nat → Int) (wH wB wC : Int) (wL wK : Nat → Prop) (wU wV : Nat → Nat) (PI : Nat → Int → Prop) (im : Int) (PM PT : Nat → Int → Prop) (lS lB lE : Nat → Nat → Int → Prop) (lN : Nat → Int) (o0 : Nat)  (hT : gH (dC, dI) kA (SHm q (wP wZ wN wH wB wC wL wK wU wV) PI im PM PT lS lB lE lN) G H0) (hr_o0 : G o0 = some 0) (hgz : ∀ i, 0 ≤ wZ i) (hgn : ∀ i, 6500000 ≤ wN i ∧ wN i ≤ 20200000) (hgh : 0 ≤ wH ∧ wH ≤ 40000) (hgb : 0 ≤ wB ∧ wB ≤ 3850000) (hgc : 0 ≤ wC ∧ wC ≤ 30) (hgi : 0 ≤ im ∧ im ≤ 1) (hgu : ∀ a t, G a = some (t + 1) → a = q t) : Met l yX12_copies w_s_copies21 ({ frames := 0, cells := 0, slots := 0, locals := 0 }) (va_Pc [.ref o0, .int 2, .int 1] (fun U => U.heap = H0 ∧ va_K (dC, dI) vwCl (tyl kA) U ∧ EVS adK adV (gA G H0.size) U U.heap)) (va_Qv (fun (u : Unit) => True) (fun (_ : Unit) (t : State) => gH (dC, dI) kA (SHm q (wP wZ wN wH wB wC wL wK wU wV) PI im PM PT (lcp lS 2 1) (lcp lB 2 1) (lcp lE 2 1) (lcp lN 2 1)) G t.heap ∧ gF (dC, dI) SKm G ([(19, 0), (20, 0), (21, 0), (22, 0), (23, 0), (24, 0), (25, 0), (26, 0), (27, 0), (28, 0)] : List (Nat × Nat)) H0 t.heap) (gA G H0.size)) 0 0 (gA G H0.size) := by
  refine Met.ofW (cc := cX12_copies) (maxL := 4) (ret := none) (by decide) rfl ?_
  intro p e s m args below meth c s₁ B hml hv
  obtain ⟨rfl, hH0, hK, hE⟩ := hv
  have hx := B.exec
  have hb := B.bytes
  have hr := B.returns
  have hts := atoms_spec (ws := w_s_copies21) B.pre
  have hown : s.vm.findClass RX12 = some m.cls := findClass_of_methodNamed B.named
  have hlocks := B.notSynchronized
  subst hH0
  generalize hAe : gA G s.heap.size = A at hE ⊢
  have hA : ∀ q : Nat, s.heap.size ≤ q → A q := fun q h => by rw [← hAe]; exact Or.inr h
  have hG := gA_of hAe
  have hS : va_S A s.heap s.heap [] := va_S.rf
  have hF : gF (dC, dI) SKm G ([(19, 0), (20, 0), (21, 0), (22, 0), (23, 0), (24, 0), (25, 0), (26, 0), (27, 0), (28, 0)] : List (Nat × Nat)) s.heap s.heap := gF.rf
  have hl := lv_entry ([.ref o0, .int 2, .int 1]) (n := 4) (Nat.le_of_ble_eq_true rfl)
  rw [lg_entry_eq]
  generalize (lg_sl ([.ref o0, .int 2, .int 1]) ++ List.replicate (4 - (lg_sl ([.ref o0, .int 2, .int 1])).length) Slot.unset).toArray = ls at hl ⊢
  have hl : lv_has ls 4 [(0, .ref o0), (1, .int 2), (2, .int 1)] := hl
  refine lv_aload_n hx hb dX12_copies_0 rfl (lv_at hl 0 rfl) ?_
  refine tw_get hx hb hts bF_X12 hown hK hT hr_o0 shm_0 rfl 18 (by decide) (ht_at hts 0 rfl) (fun _ h9 => h9) dX12_copies_1 (fun v9 m1 h9 => ?_)
  obtain ⟨rfl, hg2⟩ := h9 _ rfl
  refine lv_iload_n hx hb dX12_copies_4 rfl (lv_at hl 2 rfl) ?_
  refine lv_aload_n hx hb dX12_copies_5 rfl (lv_at hl 0 rfl) ?_
  refine tw_get hx hb hts bF_X12 hown hK hT hr_o0 shm_0 rfl 18 (by decide) (ht_at hts 0 rfl) (fun _ h9 => h9) dX12_copies_6 (fun v9 m3 h9 => ?_)
  obtain ⟨rfl, hg4⟩ := h9 _ rfl
  refine lv_iload_n hx hb dX12_copies_9 rfl (lv_at hl 1 rfl) ?_
  refine tw_iald (i := 2) hx hb hK hT hg2 shm_19 rfl (by unfold vp_in; decide) dX12_copies_10 (fun v9 m5 h9 => ?_)
  obtain ⟨x6, rfl, gx6, kx6⟩ := (gn_at h9)
  have hq_ := gq_at hT hg2 shm_19 (by decide) m5
  refine tw_iast2 (Sg1 := (SHm q (wP wZ wN wH wB wC wL wK wU wV) PI im PM PT lS lB lE (lcp lN 2 1))) (i := 1) (x := x6) hx hb hK hT hG hS hg2 shm_19 rfl shm_19 shm_o19 (fun b9 h9 => hgu b9 18 h9) (by unfold vp_in; decide) (⟨_, rfl, hq_.1, by show _ ≤ lcp lN 2 1 1; unfold lcp; rw [if_pos rfl]; exact hq_.2⟩) (fun k9 hk9 hne9 v9 hv9 he9 => by obtain ⟨x9, rfl, p9⟩ := he9; exact ⟨x9, rfl, p9.1, by show _ ≤ lcp lN 2 1 k9; unfold lcp; rw [if_neg (fun e9 => hne9 (e9.trans (by decide)))]; exact p9.2⟩) dX12_copies_11 (fun H locs hT oq m7 oi hS => ?_)
  have hF := hF.ast hg2 skm_19 oq (by decide)
  have m8 := (oi _ (tn_ne (show (2 : Int32).toInt = 2 from (by decide)) (show (1 : Int32).toInt = 1 from (by decide)) (by omega) (by omega) (by omega))).trans m5
  refine lv_iconst (v := 0) hx hb dX12_copies_12 (by decide) ?_
  refine lv_istore_n (lv' := [(3, .int 0), (0, .ref o0), (1, .int 2), (2, .int 1)]) hx hb dX12_copies_13 rfl hl (by decide) rfl (fun ls hl => ?_)
  have key111 : ∀ (n111 i9 : Nat), i9 + n111 = 20 → 0 ≤ i9 → ∀ (H : Heap) (locs : List Loc), gH (dC, dI) kA (SHm q (wP wZ wN wH wB wC wL wK wU wV) PI im PM PT lS (lpc lB 2 1 i9) (lpc lE 2 1 i9) (lcp lN 2 1)) G H → gF (dC, dI) SKm G ([(19, 0), (20, 0), (21, 0), (22, 0), (23, 0), (24, 0), (25, 0), (26, 0), (27, 0), (28, 0)] : List (Nat × Nat)) s.heap H → va_S A s.heap H locs → el H (q 18) (2 : Int32).toNatClampNeg = some (.int x6) → el H (q 18) (1 : Int32).toNatClampNeg = some (.int x6) → ∀ ls : Array Slot, lv_has ls 4 [(3, .int (nI i9)), (0, .ref o0), (1, .int 2), (2, .int 1)] → W p l e (headSpec w_s_copies21 ({ frames := 0, cells := 0, slots := 0, locals := 0 })).room s m #[.ref o0, .int 2, .int 1] below meth c H locs 0 0 (MQ below (va_Qv (fun (u : Unit) => True) (fun (_ : Unit) (t : State) => gH (dC, dI) kA (SHm q (wP wZ wN wH wB wC wL wK wU wV) PI im PM PT (lcp lS 2 1) (lcp lB 2 1) (lcp lE 2 1) (lcp lN 2 1)) G t.heap ∧ gF (dC, dI) SKm G ([(19, 0), (20, 0), (21, 0), (22, 0), (23, 0), (24, 0), (25, 0), (26, 0), (27, 0), (28, 0)] : List (Nat × Nat)) s.heap t.heap) A) #[.ref o0, .int 2, .int 1] s 0 0 A) (F0 m 14 ls []) := by
    intro n111
    induction n111 with
    | zero =>
      intro i9 hn111 hlo112  H locs hT hF hS m10 m11 ls hl
      obtain rfl : 20 = i9 := by omega
      refine lv_iload_n hx hb dX12_copies_14 rfl (lv_at hl 0 rfl) ?_
      refine lv_bipush (v := 20) hx hb dX12_copies_15 (by decide) ?_
      refine lv_icmp_ge (tgt := 180) hx hb dX12_copies_17 (by decide) (fun c113 => ?_) (fun c113 => (by exfalso; have q9 : ((20 : Nat) : Int) < 20 := ti_nle c113 (by decide) (nI_toInt (by omega)); omega))
      have t114 : 20 ≤ ((20 : Nat) : Int) := ti_le c113 (by decide) (nI_toInt (by omega))
      have hT : gH (dC, dI) kA (SHm q (wP wZ wN wH wB wC wL wK wU wV) PI im PM PT lS (lcp lB 2 1) (lcp lE 2 1) (lcp lN 2 1)) G H := SHm_mono hT (fun _ _ _ z => z) (fun _ _ _ z => z) (fun _ _ z => z) (fun _ _ z => z) (fun _ _ _ _ z => z) (fun _ _ hi _ q => lpc_n hi q) (fun _ _ hi _ q => lpc_n hi q) (fun _ => Int.le_refl _)
      refine lv_iconst (v := 0) hx hb dX12_copies_180 (by decide) ?_
      refine lv_istore_n (lv' := [(3, .int 0), (0, .ref o0), (1, .int 2), (2, .int 1)]) hx hb dX12_copies_181 rfl hl (by decide) rfl (fun ls hl => ?_)
      have key150 : ∀ (n150 i115 : Nat), i115 + n150 = 400 → 0 ≤ i115 → ∀ (H : Heap) (locs : List Loc), gH (dC, dI) kA (SHm q (wP wZ wN wH wB wC wL wK wU wV) PI im PM PT (lpc lS 2 1 i115) (lcp lB 2 1) (lcp lE 2 1) (lcp lN 2 1)) G H → gF (dC, dI) SKm G ([(19, 0), (20, 0), (21, 0), (22, 0), (23, 0), (24, 0), (25, 0), (26, 0), (27, 0), (28, 0)] : List (Nat × Nat)) s.heap H → va_S A s.heap H locs → el H (q 18) (2 : Int32).toNatClampNeg = some (.int x6) → el H (q 18) (1 : Int32).toNatClampNeg = some (.int x6) → ∀ ls : Array Slot, lv_has ls 4 [(3, .int (nI i115)), (0, .ref o0), (1, .int 2), (2, .int 1)] → W p l e (headSpec w_s_copies21 ({ frames := 0, cells := 0, slots := 0, locals := 0 })).room s m #[.ref o0, .int 2, .int 1] below meth c H locs 0 0 (MQ below (va_Qv (fun (u : Unit) => True) (fun (_ : Unit) (t : State) => gH (dC, dI) kA (SHm q (wP wZ wN wH wB wC wL wK wU wV) PI im PM PT (lcp lS 2 1) (lcp lB 2 1) (lcp lE 2 1) (lcp lN 2 1)) G t.heap ∧ gF (dC, dI) SKm G ([(19, 0), (20, 0), (21, 0), (22, 0), (23, 0), (24, 0), (25, 0), (26, 0), (27, 0), (28, 0)] : List (Nat × Nat)) s.heap t.heap) A) #[.ref o0, .int 2, .int 1] s 0 0 A) (F0 m 182 ls []) := by
        intro n150
        induction n150 with
        | zero =>
          intro i115 hn150 hlo151  H locs hT hF hS m116 m117 ls hl
          obtain rfl : 400 = i115 := by omega
          refine lv_iload_n hx hb dX12_copies_182 rfl (lv_at hl 0 rfl) ?_
          refine lv_sipush (v := 400) hx hb dX12_copies_183 (by decide) ?_
          refine lv_icmp_ge (tgt := 243) hx hb dX12_copies_186 (by decide) (fun c152 => ?_) (fun c152 => (by exfalso; have q9 : ((400 : Nat) : Int) < 400 := ti_nle c152 (by decide) (nI_toInt (by omega)); omega))
          have t153 : 400 ≤ ((400 : Nat) : Int) := ti_le c152 (by decide) (nI_toInt (by omega))
          have hT : gH (dC, dI) kA (SHm q (wP wZ wN wH wB wC wL wK wU wV) PI im PM PT (lcp lS 2 1) (lcp lB 2 1) (lcp lE 2 1) (lcp lN 2 1)) G H := SHm_mono hT (fun _ _ _ z => z) (fun _ _ _ z => z) (fun _ _ z => z) (fun _ _ z => z) (fun _ _ hi _ q => lpc_n hi q) (fun _ _ _ _ z => z) (fun _ _ _ _ z => z) (fun _ => Int.le_refl _)
          exact W.vret hx hb hr (fun t ht hW => ⟨⟨(), rfl, (by exact trivial), by (try dsimp only); rw [ht]; exact ⟨hT, hF⟩⟩, hS.F ht⟩) hS.2.2 dX12_copies_243
        | succ n150 ih150 =>
          intro i115 hn150 hlo151  H locs hT hF hS m116 m117 ls hl
          have hlt153 : i115 < 400 := by omega
          refine lv_iload_n hx hb dX12_copies_182 rfl (lv_at hl 0 rfl) ?_
          refine lv_sipush (v := 400) hx hb dX12_copies_183 (by decide) ?_
          refine lv_icmp_ge (tgt := 243) hx hb dX12_copies_186 (by decide) (fun c154 => (by exfalso; have q9 : 400 ≤ ((i115 : Nat) : Int) := ti_le c154 (by decide) (nI_toInt (by omega)); omega)) (fun c154 => ?_)
          have t155 : ((i115 : Nat) : Int) < 400 := ti_nle c154 (by decide) (nI_toInt (by omega))
          refine lv_aload_n hx hb dX12_copies_189 rfl (lv_at hl 1 rfl) ?_
          refine tw_get hx hb hts bF_X12 hown hK hT hr_o0 shm_0 rfl 26 (by decide) (ht_at hts 1 rfl) (fun _ h9 => h9) dX12_copies_190 (fun v9 m156 h9 => ?_)
          obtain ⟨rfl, hg157⟩ := h9 _ rfl
          refine lv_sipush (v := 400) hx hb dX12_copies_193 (by decide) ?_
          refine lv_iload_n hx hb dX12_copies_196 rfl (lv_at hl 3 rfl) ?_
          refine lv_imul hx hb dX12_copies_197 ?_
          refine lv_topi (fun x158 ex158 => ?_)
          obtain rfl : x158 = 400 := ex158.trans (by decide)
          refine lv_iload_n hx hb dX12_copies_198 rfl (lv_at hl 0 rfl) ?_
          refine lv_iadd hx hb dX12_copies_199 ?_
          refine lv_topi (fun x159 ex159 => ?_)
          obtain rfl : nI (400 + i115) = x159 := (ex159.trans (nI_add 400 i115)).symm
          refine lv_aload_n hx hb dX12_copies_200 rfl (lv_at hl 1 rfl) ?_
          refine tw_get hx hb hts bF_X12 hown hK hT hr_o0 shm_0 rfl 26 (by decide) (ht_at hts 1 rfl) (fun _ h9 => h9) dX12_copies_201 (fun v9 m160 h9 => ?_)
          obtain ⟨rfl, hg161⟩ := h9 _ rfl
          refine lv_sipush (v := 400) hx hb dX12_copies_204 (by decide) ?_
          refine lv_iload_n hx hb dX12_copies_207 rfl (lv_at hl 2 rfl) ?_
          refine lv_imul hx hb dX12_copies_208 ?_
          refine lv_topi (fun x162 ex162 => ?_)
          obtain rfl : x162 = 800 := ex162.trans (by decide)
          refine lv_iload_n hx hb dX12_copies_209 rfl (lv_at hl 0 rfl) ?_
          refine lv_iadd hx hb dX12_copies_210 ?_
          refine lv_topi (fun x163 ex163 => ?_)
          obtain rfl : nI (800 + i115) = x163 := (ex163.trans (nI_add 800 i115)).symm
          refine tw_iald (i := (nI (800 + i115))) hx hb hK hT hg157 shm_27 rfl (vp_in_nI (by omega) (by decide)) dX12_copies_211 (fun v9 m164 h9 => ?_)
          obtain ⟨x165, rfl, gx165, kx165⟩ := (gp_any h9)
          have t166 : (((nI (400 + i115)).toNatClampNeg : Nat) : Int) = ((400 + i115 : Nat) : Int) := tn_of (show (nI (400 + i115)).toInt = ((400 + i115 : Nat) : Int) from (nI_toInt (by omega))) (by omega)
          have hq_ := gq_at hT hg157 shm_27 (by have q9 := tn_of (show (nI (800 + i115)).toInt = ((800 + i115 : Nat) : Int) from (nI_toInt (by omega))) (by omega); omega) m164
          have hi_ : (nI (800 + i115)).toNatClampNeg = 800 + i115 := by have q9 := tn_of (show (nI (800 + i115)).toInt = ((800 + i115 : Nat) : Int) from (nI_toInt (by omega))) (by omega); omega
          have hj_ : (nI (400 + i115)).toNatClampNeg = 400 + i115 := by omega
          have hp_ : lS 2 i115 x165.toInt := by unfold lqS at hq_; rw [hi_, show (800 + i115) / 400 = 2 by omega, show (800 + i115) % 400 = i115 by omega] at hq_; exact lpc_a (by decide) hq_
          refine tw_iast2 (Sg1 := (SHm q (wP wZ wN wH wB wC wL wK wU wV) PI im PM PT (lpc lS 2 1 (i115 + 1)) (lcp lB 2 1) (lcp lE 2 1) (lcp lN 2 1))) (i := (nI (400 + i115))) (x := x165) hx hb hK hT hG hS hg157 shm_27 rfl shm_27 shm_o27 (fun b9 h9 => hgu b9 26 h9) (vp_in_nI (by omega) (by decide)) (⟨_, rfl, by unfold lqS; rw [hj_, show (400 + i115) / 400 = 1 by omega, show (400 + i115) % 400 = i115 by omega]; exact lpc_at hp_⟩) (fun k9 hk9 hne9 v9 hv9 he9 => by obtain ⟨x9, rfl, p9⟩ := he9; exact ⟨x9, rfl, lpc_st (by omega) p9⟩) dX12_copies_212 (fun H locs hT oq m167 oi hS => ?_)
          have hF := hF.ast hg157 skm_27 oq (by decide)
          have m168 := (el_kept (oq _ (gne hg2 hg157 (by decide)))).trans m116
          have m169 := (el_kept (oq _ (gne hg2 hg157 (by decide)))).trans m117
          refine lv_aload_n hx hb dX12_copies_213 rfl (lv_at hl 1 rfl) ?_
          refine tw_get hx hb hts bF_X12 hown hK hT hr_o0 shm_0 rfl 27 (by decide) (ht_at hts 2 rfl) (fun _ h9 => h9) dX12_copies_214 (fun v9 m171 h9 => ?_)
          obtain ⟨rfl, hg172⟩ := h9 _ rfl
          refine lv_sipush (v := 400) hx hb dX12_copies_217 (by decide) ?_
          refine lv_iload_n hx hb dX12_copies_220 rfl (lv_at hl 3 rfl) ?_
          refine lv_imul hx hb dX12_copies_221 ?_
          refine lv_topi (fun x173 ex173 => ?_)
          obtain rfl : x173 = 400 := ex173.trans (by decide)
          refine lv_iload_n hx hb dX12_copies_222 rfl (lv_at hl 0 rfl) ?_
          refine lv_iadd hx hb dX12_copies_223 ?_
          refine lv_topi (fun x174 ex174 => ?_)
          obtain rfl : nI (400 + i115) = x174 := (ex174.trans (nI_add 400 i115)).symm
          refine lv_aload_n hx hb dX12_copies_224 rfl (lv_at hl 1 rfl) ?_
          refine tw_get hx hb hts bF_X12 hown hK hT hr_o0 shm_0 rfl 27 (by decide) (ht_at hts 2 rfl) (fun _ h9 => h9) dX12_copies_225 (fun v9 m175 h9 => ?_)
          obtain ⟨rfl, hg176⟩ := h9 _ rfl
          refine lv_sipush (v := 400) hx hb dX12_copies_228 (by decide) ?_
          refine lv_iload_n hx hb dX12_copies_231 rfl (lv_at hl 2 rfl) ?_
          refine lv_imul hx hb dX12_copies_232 ?_
          refine lv_topi (fun x177 ex177 => ?_)
          obtain rfl : x177 = 800 := ex177.trans (by decide)
          refine lv_iload_n hx hb dX12_copies_233 rfl (lv_at hl 0 rfl) ?_
          refine lv_iadd hx hb dX12_copies_234 ?_
          refine lv_topi (fun x178 ex178 => ?_)
          obtain rfl : nI (800 + i115) = x178 := (ex178.trans (nI_add 800 i115)).symm
          refine tw_iald (i := (nI (800 + i115))) hx hb hK hT hg172 shm_28 rfl (vp_in_nI (by omega) (by decide)) dX12_copies_235 (fun v9 m179 h9 => ?_)
          obtain ⟨x180, rfl, gx180, kx180⟩ := h9
          refine tw_iast (i := (nI (400 + i115))) (x := x180) hx hb hK hT hG hS hg172 shm_28 rfl (vp_in_nI (by omega) (by decide)) (gi_all _) dX12_copies_236 (fun H locs hT oq m181 oi hS => ?_)
          have hF := hF.ast hg172 skm_28 oq (by decide)
          have m182 := (el_kept (oq _ (gne hg2 hg172 (by decide)))).trans m168
          have m183 := (el_kept (oq _ (gne hg2 hg172 (by decide)))).trans m169
          refine lv_iinc (v := nI (i115 + 1)) (lv' := [(3, .int (nI (i115 + 1))), (0, .ref o0), (1, .int 2), (2, .int 1)]) hx hb dX12_copies_237 hl (k := 0) rfl (nI_add i115 1) (by decide) rfl (fun ls hl => ?_)
          refine lv_goto (tgt := 182) hx hb dX12_copies_240 (by decide) ?_
          exact ih150 (i115 + 1) (by omega) (by omega) _ _ hT hF hS m182 m183 ls (lv_sub hl [0, 1, 2, 3] rfl)
      have hT : gH (dC, dI) kA (SHm q (wP wZ wN wH wB wC wL wK wU wV) PI im PM PT (lpc lS 2 1 0) (lcp lB 2 1) (lcp lE 2 1) (lcp lN 2 1)) G H := SHm_mono hT (fun _ _ _ z => z) (fun _ _ _ z => z) (fun _ _ z => z) (fun _ _ z => z) (fun _ _ _ _ q => lpc_0 q) (fun _ _ _ _ z => z) (fun _ _ _ _ z => z) (fun _ => Int.le_refl _)
      exact key150 (400 - 0) 0 (by omega) (Nat.le_refl _) _ _ hT hF hS m10 m11 ls (lv_sub hl [0, 1, 2, 3] rfl)
    | succ n111 ih111 =>
      intro i9 hn111 hlo112  H locs hT hF hS m10 m11 ls hl
      have hlt185 : i9 < 20 := by omega
      refine lv_iload_n hx hb dX12_copies_14 rfl (lv_at hl 0 rfl) ?_
      refine lv_bipush (v := 20) hx hb dX12_copies_15 (by decide) ?_
      refine lv_icmp_ge (tgt := 180) hx hb dX12_copies_17 (by decide) (fun c186 => (by exfalso; have q9 : 20 ≤ ((i9 : Nat) : Int) := ti_le c186 (by decide) (nI_toInt (by omega)); omega)) (fun c186 => ?_)
      have t187 : ((i9 : Nat) : Int) < 20 := ti_nle c186 (by decide) (nI_toInt (by omega))
      refine lv_aload_n hx hb dX12_copies_20 rfl (lv_at hl 1 rfl) ?_
      refine tw_get hx hb hts bF_X12 hown hK hT hr_o0 shm_0 rfl 19 (by decide) (ht_at hts 3 rfl) (fun _ h9 => h9) dX12_copies_21 (fun v9 m188 h9 => ?_)
      obtain ⟨rfl, hg189⟩ := h9 _ rfl
      refine lv_bipush (v := 20) hx hb dX12_copies_24 (by decide) ?_
      refine lv_iload_n hx hb dX12_copies_26 rfl (lv_at hl 3 rfl) ?_
      refine lv_imul hx hb dX12_copies_27 ?_
      refine lv_topi (fun x190 ex190 => ?_)
      obtain rfl : x190 = 20 := ex190.trans (by decide)
      refine lv_iload_n hx hb dX12_copies_28 rfl (lv_at hl 0 rfl) ?_
      refine lv_iadd hx hb dX12_copies_29 ?_
      refine lv_topi (fun x191 ex191 => ?_)
      obtain rfl : nI (20 + i9) = x191 := (ex191.trans (nI_add 20 i9)).symm
      refine lv_aload_n hx hb dX12_copies_30 rfl (lv_at hl 1 rfl) ?_
      refine tw_get hx hb hts bF_X12 hown hK hT hr_o0 shm_0 rfl 19 (by decide) (ht_at hts 3 rfl) (fun _ h9 => h9) dX12_copies_31 (fun v9 m192 h9 => ?_)
      obtain ⟨rfl, hg193⟩ := h9 _ rfl
      refine lv_bipush (v := 20) hx hb dX12_copies_34 (by decide) ?_
      refine lv_iload_n hx hb dX12_copies_36 rfl (lv_at hl 2 rfl) ?_
      refine lv_imul hx hb dX12_copies_37 ?_
      refine lv_topi (fun x194 ex194 => ?_)
      obtain rfl : x194 = 40 := ex194.trans (by decide)
      refine lv_iload_n hx hb dX12_copies_38 rfl (lv_at hl 0 rfl) ?_
      refine lv_iadd hx hb dX12_copies_39 ?_
      refine lv_topi (fun x195 ex195 => ?_)
      obtain rfl : nI (40 + i9) = x195 := (ex195.trans (nI_add 40 i9)).symm
      refine tw_iald (i := (nI (40 + i9))) hx hb hK hT hg189 shm_20 rfl (vp_in_nI (by omega) (by decide)) dX12_copies_40 (fun v9 m196 h9 => ?_)
      obtain ⟨x197, rfl, gx197, kx197⟩ := h9
      refine tw_iast (i := (nI (20 + i9))) (x := x197) hx hb hK hT hG hS hg189 shm_20 rfl (vp_in_nI (by omega) (by decide)) (gi_all _) dX12_copies_41 (fun H locs hT oq m198 oi hS => ?_)
      have hF := hF.ast hg189 skm_20 oq (by decide)
      have m199 := (el_kept (oq _ (gne hg2 hg189 (by decide)))).trans m10
      have m200 := (el_kept (oq _ (gne hg2 hg189 (by decide)))).trans m11
      refine lv_aload_n hx hb dX12_copies_42 rfl (lv_at hl 1 rfl) ?_
      refine tw_get hx hb hts bF_X12 hown hK hT hr_o0 shm_0 rfl 20 (by decide) (ht_at hts 4 rfl) (fun _ h9 => h9) dX12_copies_43 (fun v9 m201 h9 => ?_)
      obtain ⟨rfl, hg202⟩ := h9 _ rfl
      refine lv_bipush (v := 20) hx hb dX12_copies_46 (by decide) ?_
      refine lv_iload_n hx hb dX12_copies_48 rfl (lv_at hl 3 rfl) ?_
      refine lv_imul hx hb dX12_copies_49 ?_
      refine lv_topi (fun x203 ex203 => ?_)
      obtain rfl : x203 = 20 := ex203.trans (by decide)
      refine lv_iload_n hx hb dX12_copies_50 rfl (lv_at hl 0 rfl) ?_
      refine lv_iadd hx hb dX12_copies_51 ?_
      refine lv_topi (fun x204 ex204 => ?_)
      obtain rfl : nI (20 + i9) = x204 := (ex204.trans (nI_add 20 i9)).symm
      refine lv_aload_n hx hb dX12_copies_52 rfl (lv_at hl 1 rfl) ?_
      refine tw_get hx hb hts bF_X12 hown hK hT hr_o0 shm_0 rfl 20 (by decide) (ht_at hts 4 rfl) (fun _ h9 => h9) dX12_copies_53 (fun v9 m205 h9 => ?_)
      obtain ⟨rfl, hg206⟩ := h9 _ rfl
      refine lv_bipush (v := 20) hx hb dX12_copies_56 (by decide) ?_
      refine lv_iload_n hx hb dX12_copies_58 rfl (lv_at hl 2 rfl) ?_
      refine lv_imul hx hb dX12_copies_59 ?_
      refine lv_topi (fun x207 ex207 => ?_)
      obtain rfl : x207 = 40 := ex207.trans (by decide)
      refine lv_iload_n hx hb dX12_copies_60 rfl (lv_at hl 0 rfl) ?_
      refine lv_iadd hx hb dX12_copies_61 ?_
      refine lv_topi (fun x208 ex208 => ?_)
      obtain rfl : nI (40 + i9) = x208 := (ex208.trans (nI_add 40 i9)).symm
      refine tw_iald (i := (nI (40 + i9))) hx hb hK hT hg202 shm_21 rfl (vp_in_nI (by omega) (by decide)) dX12_copies_62 (fun v9 m209 h9 => ?_)
      obtain ⟨x210, rfl, gx210, kx210⟩ := h9
      refine tw_iast (i := (nI (20 + i9))) (x := x210) hx hb hK hT hG hS hg202 shm_21 rfl (vp_in_nI (by omega) (by decide)) (gi_all _) dX12_copies_63 (fun H locs hT oq m211 oi hS => ?_)
      have hF := hF.ast hg202 skm_21 oq (by decide)
      have m212 := (el_kept (oq _ (gne hg2 hg202 (by decide)))).trans m199
      have m213 := (el_kept (oq _ (gne hg2 hg202 (by decide)))).trans m200
      refine lv_aload_n hx hb dX12_copies_64 rfl (lv_at hl 1 rfl) ?_
      refine tw_get hx hb hts bF_X12 hown hK hT hr_o0 shm_0 rfl 21 (by decide) (ht_at hts 5 rfl) (fun _ h9 => h9) dX12_copies_65 (fun v9 m214 h9 => ?_)
      obtain ⟨rfl, hg215⟩ := h9 _ rfl
      refine lv_bipush (v := 20) hx hb dX12_copies_68 (by decide) ?_
      refine lv_iload_n hx hb dX12_copies_70 rfl (lv_at hl 3 rfl) ?_
      refine lv_imul hx hb dX12_copies_71 ?_
      refine lv_topi (fun x216 ex216 => ?_)
      obtain rfl : x216 = 20 := ex216.trans (by decide)
      refine lv_iload_n hx hb dX12_copies_72 rfl (lv_at hl 0 rfl) ?_
      refine lv_iadd hx hb dX12_copies_73 ?_
      refine lv_topi (fun x217 ex217 => ?_)
      obtain rfl : nI (20 + i9) = x217 := (ex217.trans (nI_add 20 i9)).symm
      refine lv_aload_n hx hb dX12_copies_74 rfl (lv_at hl 1 rfl) ?_
      refine tw_get hx hb hts bF_X12 hown hK hT hr_o0 shm_0 rfl 21 (by decide) (ht_at hts 5 rfl) (fun _ h9 => h9) dX12_copies_75 (fun v9 m218 h9 => ?_)
      obtain ⟨rfl, hg219⟩ := h9 _ rfl
      refine lv_bipush (v := 20) hx hb dX12_copies_78 (by decide) ?_
      refine lv_iload_n hx hb dX12_copies_80 rfl (lv_at hl 2 rfl) ?_
      refine lv_imul hx hb dX12_copies_81 ?_
      refine lv_topi (fun x220 ex220 => ?_)
      obtain rfl : x220 = 40 := ex220.trans (by decide)
      refine lv_iload_n hx hb dX12_copies_82 rfl (lv_at hl 0 rfl) ?_
      refine lv_iadd hx hb dX12_copies_83 ?_
      refine lv_topi (fun x221 ex221 => ?_)
      obtain rfl : nI (40 + i9) = x221 := (ex221.trans (nI_add 40 i9)).symm
      refine tw_iald (i := (nI (40 + i9))) hx hb hK hT hg215 shm_22 rfl (vp_in_nI (by omega) (by decide)) dX12_copies_84 (fun v9 m222 h9 => ?_)
      obtain ⟨x223, rfl, gx223, kx223⟩ := h9
      refine tw_iast (i := (nI (20 + i9))) (x := x223) hx hb hK hT hG hS hg215 shm_22 rfl (vp_in_nI (by omega) (by decide)) (gi_all _) dX12_copies_85 (fun H locs hT oq m224 oi hS => ?_)
      have hF := hF.ast hg215 skm_22 oq (by decide)
      have m225 := (el_kept (oq _ (gne hg2 hg215 (by decide)))).trans m212
      have m226 := (el_kept (oq _ (gne hg2 hg215 (by decide)))).trans m213
      refine lv_aload_n hx hb dX12_copies_86 rfl (lv_at hl 1 rfl) ?_
      refine tw_get hx hb hts bF_X12 hown hK hT hr_o0 shm_0 rfl 22 (by decide) (ht_at hts 6 rfl) (fun _ h9 => h9) dX12_copies_87 (fun v9 m227 h9 => ?_)
      obtain ⟨rfl, hg228⟩ := h9 _ rfl
      refine lv_bipush (v := 20) hx hb dX12_copies_90 (by decide) ?_
      refine lv_iload_n hx hb dX12_copies_92 rfl (lv_at hl 3 rfl) ?_
      refine lv_imul hx hb dX12_copies_93 ?_
      refine lv_topi (fun x229 ex229 => ?_)
      obtain rfl : x229 = 20 := ex229.trans (by decide)
      refine lv_iload_n hx hb dX12_copies_94 rfl (lv_at hl 0 rfl) ?_
      refine lv_iadd hx hb dX12_copies_95 ?_
      refine lv_topi (fun x230 ex230 => ?_)
      obtain rfl : nI (20 + i9) = x230 := (ex230.trans (nI_add 20 i9)).symm
      refine lv_aload_n hx hb dX12_copies_96 rfl (lv_at hl 1 rfl) ?_
      refine tw_get hx hb hts bF_X12 hown hK hT hr_o0 shm_0 rfl 22 (by decide) (ht_at hts 6 rfl) (fun _ h9 => h9) dX12_copies_97 (fun v9 m231 h9 => ?_)
      obtain ⟨rfl, hg232⟩ := h9 _ rfl
      refine lv_bipush (v := 20) hx hb dX12_copies_100 (by decide) ?_
      refine lv_iload_n hx hb dX12_copies_102 rfl (lv_at hl 2 rfl) ?_
      refine lv_imul hx hb dX12_copies_103 ?_
      refine lv_topi (fun x233 ex233 => ?_)
      obtain rfl : x233 = 40 := ex233.trans (by decide)
      refine lv_iload_n hx hb dX12_copies_104 rfl (lv_at hl 0 rfl) ?_
      refine lv_iadd hx hb dX12_copies_105 ?_
      refine lv_topi (fun x234 ex234 => ?_)
      obtain rfl : nI (40 + i9) = x234 := (ex234.trans (nI_add 40 i9)).symm
      refine tw_iald (i := (nI (40 + i9))) hx hb hK hT hg228 shm_23 rfl (vp_in_nI (by omega) (by decide)) dX12_copies_106 (fun v9 m235 h9 => ?_)
      obtain ⟨x236, rfl, gx236, kx236⟩ := h9
      refine tw_iast (i := (nI (20 + i9))) (x := x236) hx hb hK hT hG hS hg228 shm_23 rfl (vp_in_nI (by omega) (by decide)) (gi_all _) dX12_copies_107 (fun H locs hT oq m237 oi hS => ?_)
      have hF := hF.ast hg228 skm_23 oq (by decide)
      have m238 := (el_kept (oq _ (gne hg2 hg228 (by decide)))).trans m225
      have m239 := (el_kept (oq _ (gne hg2 hg228 (by decide)))).trans m226
      refine lv_aload_n hx hb dX12_copies_108 rfl (lv_at hl 1 rfl) ?_
      refine tw_get hx hb hts bF_X12 hown hK hT hr_o0 shm_0 rfl 23 (by decide) (ht_at hts 7 rfl) (fun _ h9 => h9) dX12_copies_109 (fun v9 m240 h9 => ?_)
      obtain ⟨rfl, hg241⟩ := h9 _ rfl
      refine lv_bipush (v := 20) hx hb dX12_copies_112 (by decide) ?_
      refine lv_iload_n hx hb dX12_copies_114 rfl (lv_at hl 3 rfl) ?_
      refine lv_imul hx hb dX12_copies_115 ?_
      refine lv_topi (fun x242 ex242 => ?_)
      obtain rfl : x242 = 20 := ex242.trans (by decide)
      refine lv_iload_n hx hb dX12_copies_116 rfl (lv_at hl 0 rfl) ?_
      refine lv_iadd hx hb dX12_copies_117 ?_
      refine lv_topi (fun x243 ex243 => ?_)
      obtain rfl : nI (20 + i9) = x243 := (ex243.trans (nI_add 20 i9)).symm
      refine lv_aload_n hx hb dX12_copies_118 rfl (lv_at hl 1 rfl) ?_
      refine tw_get hx hb hts bF_X12 hown hK hT hr_o0 shm_0 rfl 23 (by decide) (ht_at hts 7 rfl) (fun _ h9 => h9) dX12_copies_119 (fun v9 m244 h9 => ?_)
      obtain ⟨rfl, hg245⟩ := h9 _ rfl
      refine lv_bipush (v := 20) hx hb dX12_copies_122 (by decide) ?_
      refine lv_iload_n hx hb dX12_copies_124 rfl (lv_at hl 2 rfl) ?_
      refine lv_imul hx hb dX12_copies_125 ?_
      refine lv_topi (fun x246 ex246 => ?_)
      obtain rfl : x246 = 40 := ex246.trans (by decide)
      refine lv_iload_n hx hb dX12_copies_126 rfl (lv_at hl 0 rfl) ?_
      refine lv_iadd hx hb dX12_copies_127 ?_
      refine lv_topi (fun x247 ex247 => ?_)
      obtain rfl : nI (40 + i9) = x247 := (ex247.trans (nI_add 40 i9)).symm
      refine tw_iald (i := (nI (40 + i9))) hx hb hK hT hg241 shm_24 rfl (vp_in_nI (by omega) (by decide)) dX12_copies_128 (fun v9 m248 h9 => ?_)
      obtain ⟨x249, rfl, gx249, kx249⟩ := h9
      refine tw_iast (i := (nI (20 + i9))) (x := x249) hx hb hK hT hG hS hg241 shm_24 rfl (vp_in_nI (by omega) (by decide)) (gi_all _) dX12_copies_129 (fun H locs hT oq m250 oi hS => ?_)
      have hF := hF.ast hg241 skm_24 oq (by decide)
      have m251 := (el_kept (oq _ (gne hg2 hg241 (by decide)))).trans m238
      have m252 := (el_kept (oq _ (gne hg2 hg241 (by decide)))).trans m239
      refine lv_aload_n hx hb dX12_copies_130 rfl (lv_at hl 1 rfl) ?_
      refine tw_get hx hb hts bF_X12 hown hK hT hr_o0 shm_0 rfl 24 (by decide) (ht_at hts 8 rfl) (fun _ h9 => h9) dX12_copies_131 (fun v9 m253 h9 => ?_)
      obtain ⟨rfl, hg254⟩ := h9 _ rfl
      refine lv_bipush (v := 20) hx hb dX12_copies_134 (by decide) ?_
      refine lv_iload_n hx hb dX12_copies_136 rfl (lv_at hl 3 rfl) ?_
      refine lv_imul hx hb dX12_copies_137 ?_
      refine lv_topi (fun x255 ex255 => ?_)
      obtain rfl : x255 = 20 := ex255.trans (by decide)
      refine lv_iload_n hx hb dX12_copies_138 rfl (lv_at hl 0 rfl) ?_
      refine lv_iadd hx hb dX12_copies_139 ?_
      refine lv_topi (fun x256 ex256 => ?_)
      obtain rfl : nI (20 + i9) = x256 := (ex256.trans (nI_add 20 i9)).symm
      refine lv_aload_n hx hb dX12_copies_140 rfl (lv_at hl 1 rfl) ?_
      refine tw_get hx hb hts bF_X12 hown hK hT hr_o0 shm_0 rfl 24 (by decide) (ht_at hts 8 rfl) (fun _ h9 => h9) dX12_copies_141 (fun v9 m257 h9 => ?_)
      obtain ⟨rfl, hg258⟩ := h9 _ rfl
      refine lv_bipush (v := 20) hx hb dX12_copies_144 (by decide) ?_
      refine lv_iload_n hx hb dX12_copies_146 rfl (lv_at hl 2 rfl) ?_
      refine lv_imul hx hb dX12_copies_147 ?_
      refine lv_topi (fun x259 ex259 => ?_)
      obtain rfl : x259 = 40 := ex259.trans (by decide)
      refine lv_iload_n hx hb dX12_copies_148 rfl (lv_at hl 0 rfl) ?_
      refine lv_iadd hx hb dX12_copies_149 ?_
      refine lv_topi (fun x260 ex260 => ?_)
      obtain rfl : nI (40 + i9) = x260 := (ex260.trans (nI_add 40 i9)).symm
      refine tw_iald (i := (nI (40 + i9))) hx hb hK hT hg254 shm_25 rfl (vp_in_nI (by omega) (by decide)) dX12_copies_150 (fun v9 m261 h9 => ?_)
      obtain ⟨x262, rfl, gx262, kx262⟩ := (gb_at h9)
      have t263 : (((nI (20 + i9)).toNatClampNeg : Nat) : Int) = ((20 + i9 : Nat) : Int) := tn_of (show (nI (20 + i9)).toInt = ((20 + i9 : Nat) : Int) from (nI_toInt (by omega))) (by omega)
      have hq_ := gq_at hT hg254 shm_25 (by have q9 := tn_of (show (nI (40 + i9)).toInt = ((40 + i9 : Nat) : Int) from (nI_toInt (by omega))) (by omega); omega) m261
      have hi_ : (nI (40 + i9)).toNatClampNeg = 40 + i9 := by have q9 := tn_of (show (nI (40 + i9)).toInt = ((40 + i9 : Nat) : Int) from (nI_toInt (by omega))) (by omega); omega
      have hj_ : (nI (20 + i9)).toNatClampNeg = 20 + i9 := by omega
      have hp_ : lB 2 i9 x262.toInt := by have hq2_ := hq_.2; rw [hi_, show (40 + i9) / 20 = 2 by omega, show (40 + i9) % 20 = i9 by omega] at hq2_; exact lpc_a (by decide) hq2_
      refine tw_iast2 (Sg1 := (SHm q (wP wZ wN wH wB wC wL wK wU wV) PI im PM PT lS (lpc lB 2 1 (i9 + 1)) (lpc lE 2 1 i9) (lcp lN 2 1))) (i := (nI (20 + i9))) (x := x262) hx hb hK hT hG hS hg254 shm_25 rfl shm_25 shm_o25 (fun b9 h9 => hgu b9 24 h9) (vp_in_nI (by omega) (by decide)) (⟨_, rfl, hq_.1, by rw [hj_, show (20 + i9) / 20 = 1 by omega, show (20 + i9) % 20 = i9 by omega]; exact lpc_at hp_⟩) (fun k9 hk9 hne9 v9 hv9 he9 => by obtain ⟨x9, rfl, p9⟩ := he9; exact ⟨x9, rfl, p9.1, lpc_st (by omega) p9.2⟩) dX12_copies_151 (fun H locs hT oq m264 oi hS => ?_)
      have hF := hF.ast hg254 skm_25 oq (by decide)
      have m265 := (el_kept (oq _ (gne hg2 hg254 (by decide)))).trans m251
      have m266 := (el_kept (oq _ (gne hg2 hg254 (by decide)))).trans m252
      refine lv_aload_n hx hb dX12_copies_152 rfl (lv_at hl 1 rfl) ?_
      refine tw_get hx hb hts bF_X12 hown hK hT hr_o0 shm_0 rfl 25 (by decide) (ht_at hts 9 rfl) (fun _ h9 => h9) dX12_copies_153 (fun v9 m268 h9 => ?_)
      obtain ⟨rfl, hg269⟩ := h9 _ rfl
      refine lv_bipush (v := 20) hx hb dX12_copies_156 (by decide) ?_
      refine lv_iload_n hx hb dX12_copies_158 rfl (lv_at hl 3 rfl) ?_
      refine lv_imul hx hb dX12_copies_159 ?_
      refine lv_topi (fun x270 ex270 => ?_)
      obtain rfl : x270 = 20 := ex270.trans (by decide)
      refine lv_iload_n hx hb dX12_copies_160 rfl (lv_at hl 0 rfl) ?_
      refine lv_iadd hx hb dX12_copies_161 ?_
      refine lv_topi (fun x271 ex271 => ?_)
      obtain rfl : nI (20 + i9) = x271 := (ex271.trans (nI_add 20 i9)).symm
      refine lv_aload_n hx hb dX12_copies_162 rfl (lv_at hl 1 rfl) ?_
      refine tw_get hx hb hts bF_X12 hown hK hT hr_o0 shm_0 rfl 25 (by decide) (ht_at hts 9 rfl) (fun _ h9 => h9) dX12_copies_163 (fun v9 m272 h9 => ?_)
      obtain ⟨rfl, hg273⟩ := h9 _ rfl
      refine lv_bipush (v := 20) hx hb dX12_copies_166 (by decide) ?_
      refine lv_iload_n hx hb dX12_copies_168 rfl (lv_at hl 2 rfl) ?_
      refine lv_imul hx hb dX12_copies_169 ?_
      refine lv_topi (fun x274 ex274 => ?_)
      obtain rfl : x274 = 40 := ex274.trans (by decide)
      refine lv_iload_n hx hb dX12_copies_170 rfl (lv_at hl 0 rfl) ?_
      refine lv_iadd hx hb dX12_copies_171 ?_
      refine lv_topi (fun x275 ex275 => ?_)
      obtain rfl : nI (40 + i9) = x275 := (ex275.trans (nI_add 40 i9)).symm
      refine tw_iald (i := (nI (40 + i9))) hx hb hK hT hg269 shm_26 rfl (vp_in_nI (by omega) (by decide)) dX12_copies_172 (fun v9 m276 h9 => ?_)
      obtain ⟨x277, rfl, gx277, kx277⟩ := (gb_at h9)
      have t278 : (((nI (20 + i9)).toNatClampNeg : Nat) : Int) = ((20 + i9 : Nat) : Int) := tn_of (show (nI (20 + i9)).toInt = ((20 + i9 : Nat) : Int) from (nI_toInt (by omega))) (by omega)
      have hq_ := gq_at hT hg269 shm_26 (by have q9 := tn_of (show (nI (40 + i9)).toInt = ((40 + i9 : Nat) : Int) from (nI_toInt (by omega))) (by omega); omega) m276
      have hi_ : (nI (40 + i9)).toNatClampNeg = 40 + i9 := by have q9 := tn_of (show (nI (40 + i9)).toInt = ((40 + i9 : Nat) : Int) from (nI_toInt (by omega))) (by omega); omega
      have hj_ : (nI (20 + i9)).toNatClampNeg = 20 + i9 := by omega
      have hp_ : lE 2 i9 x277.toInt := by have hq2_ := hq_.2; rw [hi_, show (40 + i9) / 20 = 2 by omega, show (40 + i9) % 20 = i9 by omega] at hq2_; exact lpc_a (by decide) hq2_
      refine tw_iast2 (Sg1 := (SHm q (wP wZ wN wH wB wC wL wK wU wV) PI im PM PT lS (lpc lB 2 1 (i9 + 1)) (lpc lE 2 1 (i9 + 1)) (lcp lN 2 1))) (i := (nI (20 + i9))) (x := x277) hx hb hK hT hG hS hg269 shm_26 rfl shm_26 shm_o26 (fun b9 h9 => hgu b9 25 h9) (vp_in_nI (by omega) (by decide)) (⟨_, rfl, hq_.1, by rw [hj_, show (20 + i9) / 20 = 1 by omega, show (20 + i9) % 20 = i9 by omega]; exact lpc_at hp_⟩) (fun k9 hk9 hne9 v9 hv9 he9 => by obtain ⟨x9, rfl, p9⟩ := he9; exact ⟨x9, rfl, p9.1, lpc_st (by omega) p9.2⟩) dX12_copies_173 (fun H locs hT oq m279 oi hS => ?_)
      have hF := hF.ast hg269 skm_26 oq (by decide)
      have m280 := (el_kept (oq _ (gne hg2 hg269 (by decide)))).trans m265
      have m281 := (el_kept (oq _ (gne hg2 hg269 (by decide)))).trans m266
      refine lv_iinc (v := nI (i9 + 1)) (lv' := [(3, .int (nI (i9 + 1))), (0, .ref o0), (1, .int 2), (2, .int 1)]) hx hb dX12_copies_174 hl (k := 0) rfl (nI_add i9 1) (by decide) rfl (fun ls hl => ?_)
      refine lv_goto (tgt := 14) hx hb dX12_copies_177 (by decide) ?_
      exact ih111 (i9 + 1) (by omega) (by omega) _ _ hT hF hS m280 m281 ls (lv_sub hl [0, 1, 2, 3] rfl)
  have hT : gH (dC, dI) kA (SHm q (wP wZ wN wH wB wC wL wK wU wV) PI im PM PT lS (lpc lB 2 1 0) (lpc lE 2 1 0) (lcp lN 2 1)) G H := SHm_mono hT (fun _ _ _ z => z) (fun _ _ _ z => z) (fun _ _ z => z) (fun _ _ z => z) (fun _ _ _ _ z => z) (fun _ _ _ _ q => lpc_0 q) (fun _ _ _ _ q => lpc_0 q) (fun _ => Int.le_refl _)
  exact key111 (20 - 0) 0 (by omega) (Nat.le_refl _) _ _ hT hF hS m8 m7 ls (lv_sub hl [0, 1, 2, 3] rfl)
