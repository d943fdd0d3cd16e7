set_option maxHeartbeats 4000000 in
set_option maxRecDepth 100000 in
theorem s_holdsZ (l : Launch) (dC : Nat → ClassId) (dI : Nat → Nat → Nat) (kA : Nat → ClassId) (adK adV : Nat → Nat) (G : gT) (H0 : Heap) (q : Nat → Nat) (wZ wN : Nat → Int) (wH wB wC : Int) (wL wK : Nat → Prop) (wU wV : Nat → Nat) (PI : Nat → Int → Prop) (im : Int) (PM PT : Nat → Int → Prop) (lS lB lE : Nat → Nat → Int → Prop) (lN : Nat → Int) (o0 : Nat) (kk : Int32) (vB : Nat → Int32) (vX : Nat → Int32) (vS : Nat → Int32) (vN : Nat → Int32) (vQ : Nat → Int64) (fL : Nat → Int64)  (hT : gH (dC, dI) kA (SHm q (wP wZ wN wH wB wC wL wK wU wV) PI im PM PT lS lB lE lN) G H0) (hr_o0 : G o0 = some 0) (hq0 : 0 ≤ kk.toInt ∧ kk.toInt ≤ 19) (hok : zok (zC (zwo 0 vS vN) (vB kk.toNatClampNeg).toNatClampNeg (vX kk.toNatClampNeg).toNatClampNeg)) (hc_vB : ct H0 (q 24) 60 vB) (hc_vX : ct H0 (q 25) 60 vX) (hc_vS : ct H0 (q 26) 1200 vS) (hc_vN : ct H0 (q 27) 1200 vN) (hc_vQ : ctl H0 (q 29) 400 vQ) (hc_fL : ctl H0 (q 30) 10 fL) (hgz : ∀ i, 0 ≤ wZ i) (hgn : ∀ i, 6500000 ≤ wN i ∧ wN i ≤ 20200000) (hgh : 0 ≤ wH ∧ wH ≤ 40000) (hgb : 0 ≤ wB ∧ wB ≤ 3850000) (hgc : 0 ≤ wC ∧ wC ≤ 30) (hgi : 0 ≤ im ∧ im ≤ 1) (hgu : ∀ a t, G a = some (t + 1) → a = q t) : Met l yX12_holds w_s_holdsZ ({ frames := 1, cells := 0, slots := 0, locals := 40 }) (va_Pc [.ref o0, .int kk] (fun U => U.heap = H0 ∧ va_K (dC, dI) vwCl (tyl kA) U ∧ EVS adK adV (gA G H0.size) U U.heap)) (va_Qi (fun (r : Int32) (u : Unit) => (0 ≤ r.toInt ∧ r.toInt ≤ 1) ∧ ((r.toInt = 1 ∧ zhd fL (zC (zwo 0 vS vN) (vB kk.toNatClampNeg).toNatClampNeg (vX kk.toNatClampNeg).toNatClampNeg)) ∨ (r.toInt = 0 ∧ ¬ zhd fL (zC (zwo 0 vS vN) (vB kk.toNatClampNeg).toNatClampNeg (vX kk.toNatClampNeg).toNatClampNeg)))) (fun (_ : Unit) (t : State) => gH (dC, dI) kA (SHm q (wP wZ wN wH wB wC wL wK wU wV) PI im PM PT lS lB lE lN) G t.heap ∧ gF (dC, dI) SKm G ([(30, 0)] : List (Nat × Nat)) H0 t.heap) (gA G H0.size)) 0 0 (gA G H0.size) := by
  refine Met.ofW (cc := cX12_holds) (maxL := 9) (ret := (some .boolean)) (by decide) rfl ?_
  intro p e s m args below meth c s₁ B hml hv
  obtain ⟨rfl, hH0, hK, hE⟩ := hv
  have hx := B.exec
  have hb := B.bytes
  have hr := B.returns
  have hts := atoms_spec (ws := w_s_holdsZ) B.pre
  have hown : s.vm.findClass RX12 = some m.cls := findClass_of_methodNamed B.named
  have hlocks := B.notSynchronized
  subst hH0
  generalize hAe : gA G s.heap.size = A at hE ⊢
  have hA : ∀ q : Nat, s.heap.size ≤ q → A q := fun q h => by rw [← hAe]; exact Or.inr h
  have hG := gA_of hAe
  have hS : va_S A s.heap s.heap [] := va_S.rf
  have hF : gF (dC, dI) SKm G ([(30, 0)] : List (Nat × Nat)) s.heap s.heap := gF.rf
  have hl := lv_entry ([.ref o0, .int kk]) (n := 9) (Nat.le_of_ble_eq_true rfl)
  rw [lg_entry_eq]
  generalize (lg_sl ([.ref o0, .int kk]) ++ List.replicate (9 - (lg_sl ([.ref o0, .int kk])).length) Slot.unset).toArray = ls at hl ⊢
  have hl : lv_has ls 9 [(0, .ref o0), (1, .int kk)] := hl
  have hg1 : G (q 24) = some 25 := gx_of hT hr_o0 shm_0 (k := 24) (by decide) rfl
  have hg2 : G (q 25) = some 26 := gx_of hT hr_o0 shm_0 (k := 25) (by decide) rfl
  have hg3 : G (q 26) = some 27 := gx_of hT hr_o0 shm_0 (k := 26) (by decide) rfl
  have hg4 : G (q 27) = some 28 := gx_of hT hr_o0 shm_0 (k := 27) (by decide) rfl
  have hg5 : G (q 29) = some 30 := gx_of hT hr_o0 shm_0 (k := 29) (by decide) rfl
  have hg6 : G (q 30) = some 31 := gx_of hT hr_o0 shm_0 (k := 30) (by decide) rfl
  obtain ⟨⟨mzq, hmzq⟩, -⟩ := id hok
  refine lv_iconst (v := 0) hx hb dX12_holds_0 (by decide) ?_
  refine lv_istore_n (lv' := [(2, .int 0), (0, .ref o0), (1, .int kk)]) hx hb dX12_holds_1 rfl hl (by decide) rfl (fun ls hl => ?_)
  refine lv_aload_n hx hb dX12_holds_2 rfl (lv_at hl 1 rfl) ?_
  refine tw_get hx hb hts bF_X12 hown hK hT hr_o0 shm_0 rfl 24 (by decide) (ht_at hts 0 rfl) (fun _ h9 => h9) dX12_holds_3 (fun v9 m7 h9 => ?_)
  obtain ⟨rfl, hg8⟩ := h9 _ rfl
  refine lv_iload_n hx hb dX12_holds_6 rfl (lv_at hl 2 rfl) ?_
  refine tw_iald (i := kk) hx hb hK hT hg1 shm_25 rfl (vin_t (a := kk.toInt) rfl (by omega) (by omega)) dX12_holds_7 (fun v9 m9 h9 => ?_)
  obtain ⟨x10, rfl, gx10, kx10⟩ := (gb_at h9)
  have cx10 := hc_vB.at m9 (by have q9 := tn_of (show kk.toInt = kk.toInt from rfl) (by omega); omega)
  refine lv_istore_n (lv' := [(3, .int x10), (2, .int 0), (0, .ref o0), (1, .int kk)]) hx hb dX12_holds_8 rfl hl (by decide) rfl (fun ls hl => ?_)
  obtain ⟨k11, hk11, lk11, ek11⟩ := ti_nat x10 (by omega)
  subst ek11
  have key221 : ∀ (n221 i12 : Nat), i12 + n221 = 400 → k11 ≤ i12 → ∀ (z13 : Int32), ∀ (V19 : Nat → Int64), ((0 ≤ z13.toInt ∧ z13.toInt ≤ 20) ∧ (zLp fL (zwo 0 vS vN) (vX kk.toNatClampNeg).toNatClampNeg mzq (zrn fL (zC (zwo 0 vS vN) (vB kk.toNatClampNeg).toNatClampNeg (vX kk.toNatClampNeg).toNatClampNeg) []) i12 z13.toNatClampNeg V19)) → ∀ (H : Heap) (locs : List Loc), gH (dC, dI) kA (SHm q (wP wZ wN wH wB wC wL wK wU wV) PI im PM PT lS lB lE lN) G H → gF (dC, dI) SKm G ([(30, 0)] : List (Nat × Nat)) s.heap H → va_S A s.heap H locs → ct H (q 24) 60 vB → ct H (q 25) 60 vX → ct H (q 26) 1200 vS → ct H (q 27) 1200 vN → ctl H (q 29) 400 V19 → ctl H (q 30) 10 fL → el H (q 24) kk.toNatClampNeg = some (.int (nI k11)) → ∀ ls : Array Slot, lv_has ls 9 [(3, .int (nI i12)), (2, .int z13), (0, .ref o0), (1, .int kk)] → W p l e (headSpec w_s_holdsZ ({ frames := 1, cells := 0, slots := 0, locals := 40 })).room s m #[.ref o0, .int kk] below meth c H locs 0 0 (MQ below (va_Qi (fun (r : Int32) (u : Unit) => (0 ≤ r.toInt ∧ r.toInt ≤ 1) ∧ ((r.toInt = 1 ∧ zhd fL (zC (zwo 0 vS vN) (vB kk.toNatClampNeg).toNatClampNeg (vX kk.toNatClampNeg).toNatClampNeg)) ∨ (r.toInt = 0 ∧ ¬ zhd fL (zC (zwo 0 vS vN) (vB kk.toNatClampNeg).toNatClampNeg (vX kk.toNatClampNeg).toNatClampNeg)))) (fun (_ : Unit) (t : State) => gH (dC, dI) kA (SHm q (wP wZ wN wH wB wC wL wK wU wV) PI im PM PT lS lB lE lN) G t.heap ∧ gF (dC, dI) SKm G ([(30, 0)] : List (Nat × Nat)) s.heap t.heap) A) #[.ref o0, .int kk] s 0 0 A) (F0 m 9 ls []) := by
    intro n221
    induction n221 with
    | zero =>
      intro i12 hn221 hlo222 z13 V19 ⟨h14, hj23⟩ H locs hT hF hS m15 m16 m17 m18 m20 m21 m22 ls hl
      obtain rfl : 400 = i12 := by omega
      refine lv_iload_n hx hb dX12_holds_9 rfl (lv_at hl 0 rfl) ?_
      refine lv_aload_n hx hb dX12_holds_10 rfl (lv_at hl 2 rfl) ?_
      refine tw_get hx hb hts bF_X12 hown hK hT hr_o0 shm_0 rfl 25 (by decide) (ht_at hts 1 rfl) (fun _ h9 => h9) dX12_holds_11 (fun v9 m223 h9 => ?_)
      obtain ⟨rfl, hg224⟩ := h9 _ rfl
      refine lv_iload_n hx hb dX12_holds_14 rfl (lv_at hl 3 rfl) ?_
      refine tw_iald (i := kk) hx hb hK hT hg2 shm_26 rfl (vin_t (a := kk.toInt) rfl (by omega) (by omega)) dX12_holds_15 (fun v9 m225 h9 => ?_)
      obtain ⟨x226, rfl, gx226, kx226⟩ := (gb_at h9)
      have cx226 := m16.at m225 (by have q9 := tn_of (show kk.toInt = kk.toInt from rfl) (by omega); omega)
      refine lv_icmp_ge (tgt := 225) hx hb dX12_holds_16 (by decide) (fun c227 => ?_) (fun c227 => (by exfalso; have q9 : ((400 : Nat) : Int) < x226.toInt := ti_nle c227 rfl (nI_toInt (by omega)); omega))
      have t228 : x226.toInt ≤ ((400 : Nat) : Int) := ti_le c227 rfl (nI_toInt (by omega))
      refine lv_iload_n hx hb dX12_holds_225 rfl (lv_at hl 1 rfl) ?_
      refine lv_if_eq (tgt := 240) hx hb dX12_holds_226 (by decide) (fun c229 => ?_) (fun c229 => ?_)
      · have t230 : z13.toInt = 0 := ti_eq c229 rfl (by decide)
        refine lv_iconst (v := 1) hx hb dX12_holds_240 (by decide) ?_
        refine lv_goto (tgt := 245) hx hb dX12_holds_241 (by decide) ?_
        exact W.zret (v := 1) hx hb hr (by decide) (fun t ht hW => ⟨⟨1, (), rfl, (by exact ⟨(rg_t (a := 1) (by decide) (by first | decide | omega) (by first | decide | omega)), (Or.inl ⟨by decide, zend_1 hj23 (by have := tn_of (show x226.toInt = x226.toInt from rfl) (by omega); rw [← cx226]; omega) hok (Or.inl (by have := tn_of (show z13.toInt = z13.toInt from rfl) (by omega); omega))⟩)⟩), by (try dsimp only); rw [ht]; exact ⟨hT, hF⟩⟩, hS.F ht⟩) hS.2.2 dX12_holds_245
      · have t231 : z13.toInt ≠ 0 := ti_ne c229 rfl (by decide)
        refine lv_aload_n hx hb dX12_holds_229 rfl (lv_at hl 2 rfl) ?_
        refine tw_get hx hb hts bF_X12 hown hK hT hr_o0 shm_0 rfl 29 (by decide) (ht_at hts 3 rfl) (fun _ h9 => h9) dX12_holds_230 (fun v9 m232 h9 => ?_)
        obtain ⟨rfl, hg233⟩ := h9 _ rfl
        refine lv_iconst (v := 0) hx hb dX12_holds_233 (by decide) ?_
        refine tw_lald (i := 0) hx hb hK hT hg5 shm_30 rfl (vin_t (a := 0) (by decide) (by first | decide | omega) (by first | decide | omega)) dX12_holds_234 (fun v9 m234 h9 => ?_)
        obtain ⟨y235, rfl⟩ := h9
        have cy235 := m20.at m234 (by have q9 := tn_of (show (0 : Int32).toInt = 0 from (by decide)) (by omega); omega)
        refine lv_lconst (v := 1) hx hb dX12_holds_235 (by decide) ?_
        refine W.lcmp hx hb dX12_holds_236 ?_
        refine lv_topi (fun x236 ex236 => ?_)
        have t237 : (y235.toInt < 1 ∧ x236.toInt = -1) ∨ (y235.toInt = 1 ∧ x236.toInt = 0) ∨ (1 < y235.toInt ∧ x236.toInt = 1) := tl_c ex236 rfl (by decide)
        refine lv_if_ne (tgt := 244) hx hb dX12_holds_237 (by decide) (fun c238 => ?_) (fun c238 => ?_)
        · have t239 : x236.toInt ≠ 0 := ti_ne c238 rfl (by decide)
          refine lv_iconst (v := 0) hx hb dX12_holds_244 (by decide) ?_
          exact W.zret (v := 0) hx hb hr (by decide) (fun t ht hW => ⟨⟨0, (), rfl, (by exact ⟨(rg_t (a := 0) (by decide) (by first | decide | omega) (by first | decide | omega)), (Or.inr ⟨by decide, zend_0 hj23 (by have := tn_of (show x226.toInt = x226.toInt from rfl) (by omega); rw [← cx226]; omega) hok (by have := tn_of (show z13.toInt = z13.toInt from rfl) (by omega); omega) (Or.inr (fun h8 => by have h7 : y235.toInt = 1 := (by rw [cy235]; exact congrArg Int64.toInt h8); omega))⟩)⟩), by (try dsimp only); rw [ht]; exact ⟨hT, hF⟩⟩, hS.F ht⟩) hS.2.2 dX12_holds_245
        · have t240 : x236.toInt = 0 := ti_eq c238 rfl (by decide)
          refine lv_iconst (v := 1) hx hb dX12_holds_240 (by decide) ?_
          refine lv_goto (tgt := 245) hx hb dX12_holds_241 (by decide) ?_
          exact W.zret (v := 1) hx hb hr (by decide) (fun t ht hW => ⟨⟨1, (), rfl, (by exact ⟨(rg_t (a := 1) (by decide) (by first | decide | omega) (by first | decide | omega)), (Or.inl ⟨by decide, zend_1 hj23 (by have := tn_of (show x226.toInt = x226.toInt from rfl) (by omega); rw [← cx226]; omega) hok (Or.inr (fun h8 => by have h7 : y235.toInt = 0 := (by rw [cy235]; exact congrArg Int64.toInt h8); omega))⟩)⟩), by (try dsimp only); rw [ht]; exact ⟨hT, hF⟩⟩, hS.F ht⟩) hS.2.2 dX12_holds_245
    | succ n221 ih221 =>
      intro i12 hn221 hlo222 z13 V19 ⟨h14, hj23⟩ H locs hT hF hS m15 m16 m17 m18 m20 m21 m22 ls hl
      have hlt240 : i12 < 400 := by omega
      refine lv_iload_n hx hb dX12_holds_9 rfl (lv_at hl 0 rfl) ?_
      refine lv_aload_n hx hb dX12_holds_10 rfl (lv_at hl 2 rfl) ?_
      refine tw_get hx hb hts bF_X12 hown hK hT hr_o0 shm_0 rfl 25 (by decide) (ht_at hts 1 rfl) (fun _ h9 => h9) dX12_holds_11 (fun v9 m241 h9 => ?_)
      obtain ⟨rfl, hg242⟩ := h9 _ rfl
      refine lv_iload_n hx hb dX12_holds_14 rfl (lv_at hl 3 rfl) ?_
      refine tw_iald (i := kk) hx hb hK hT hg2 shm_26 rfl (vin_t (a := kk.toInt) rfl (by omega) (by omega)) dX12_holds_15 (fun v9 m243 h9 => ?_)
      obtain ⟨x244, rfl, gx244, kx244⟩ := (gb_at h9)
      have cx244 := m16.at m243 (by have q9 := tn_of (show kk.toInt = kk.toInt from rfl) (by omega); omega)
      refine lv_icmp_ge (tgt := 225) hx hb dX12_holds_16 (by decide) (fun c245 => ?_) (fun c245 => ?_)
      · have t246 : x244.toInt ≤ ((i12 : Nat) : Int) := ti_le c245 rfl (nI_toInt (by omega))
        refine lv_iload_n hx hb dX12_holds_225 rfl (lv_at hl 1 rfl) ?_
        refine lv_if_eq (tgt := 240) hx hb dX12_holds_226 (by decide) (fun c247 => ?_) (fun c247 => ?_)
        · have t248 : z13.toInt = 0 := ti_eq c247 rfl (by decide)
          refine lv_iconst (v := 1) hx hb dX12_holds_240 (by decide) ?_
          refine lv_goto (tgt := 245) hx hb dX12_holds_241 (by decide) ?_
          exact W.zret (v := 1) hx hb hr (by decide) (fun t ht hW => ⟨⟨1, (), rfl, (by exact ⟨(rg_t (a := 1) (by decide) (by first | decide | omega) (by first | decide | omega)), (Or.inl ⟨by decide, zend_1 hj23 (by have := tn_of (show x244.toInt = x244.toInt from rfl) (by omega); rw [← cx244]; omega) hok (Or.inl (by have := tn_of (show z13.toInt = z13.toInt from rfl) (by omega); omega))⟩)⟩), by (try dsimp only); rw [ht]; exact ⟨hT, hF⟩⟩, hS.F ht⟩) hS.2.2 dX12_holds_245
        · have t249 : z13.toInt ≠ 0 := ti_ne c247 rfl (by decide)
          refine lv_aload_n hx hb dX12_holds_229 rfl (lv_at hl 2 rfl) ?_
          refine tw_get hx hb hts bF_X12 hown hK hT hr_o0 shm_0 rfl 29 (by decide) (ht_at hts 3 rfl) (fun _ h9 => h9) dX12_holds_230 (fun v9 m250 h9 => ?_)
          obtain ⟨rfl, hg251⟩ := h9 _ rfl
          refine lv_iconst (v := 0) hx hb dX12_holds_233 (by decide) ?_
          refine tw_lald (i := 0) hx hb hK hT hg5 shm_30 rfl (vin_t (a := 0) (by decide) (by first | decide | omega) (by first | decide | omega)) dX12_holds_234 (fun v9 m252 h9 => ?_)
          obtain ⟨y253, rfl⟩ := h9
          have cy253 := m20.at m252 (by have q9 := tn_of (show (0 : Int32).toInt = 0 from (by decide)) (by omega); omega)
          refine lv_lconst (v := 1) hx hb dX12_holds_235 (by decide) ?_
          refine W.lcmp hx hb dX12_holds_236 ?_
          refine lv_topi (fun x254 ex254 => ?_)
          have t255 : (y253.toInt < 1 ∧ x254.toInt = -1) ∨ (y253.toInt = 1 ∧ x254.toInt = 0) ∨ (1 < y253.toInt ∧ x254.toInt = 1) := tl_c ex254 rfl (by decide)
          refine lv_if_ne (tgt := 244) hx hb dX12_holds_237 (by decide) (fun c256 => ?_) (fun c256 => ?_)
          · have t257 : x254.toInt ≠ 0 := ti_ne c256 rfl (by decide)
            refine lv_iconst (v := 0) hx hb dX12_holds_244 (by decide) ?_
            exact W.zret (v := 0) hx hb hr (by decide) (fun t ht hW => ⟨⟨0, (), rfl, (by exact ⟨(rg_t (a := 0) (by decide) (by first | decide | omega) (by first | decide | omega)), (Or.inr ⟨by decide, zend_0 hj23 (by have := tn_of (show x244.toInt = x244.toInt from rfl) (by omega); rw [← cx244]; omega) hok (by have := tn_of (show z13.toInt = z13.toInt from rfl) (by omega); omega) (Or.inr (fun h8 => by have h7 : y253.toInt = 1 := (by rw [cy253]; exact congrArg Int64.toInt h8); omega))⟩)⟩), by (try dsimp only); rw [ht]; exact ⟨hT, hF⟩⟩, hS.F ht⟩) hS.2.2 dX12_holds_245
          · have t258 : x254.toInt = 0 := ti_eq c256 rfl (by decide)
            refine lv_iconst (v := 1) hx hb dX12_holds_240 (by decide) ?_
            refine lv_goto (tgt := 245) hx hb dX12_holds_241 (by decide) ?_
            exact W.zret (v := 1) hx hb hr (by decide) (fun t ht hW => ⟨⟨1, (), rfl, (by exact ⟨(rg_t (a := 1) (by decide) (by first | decide | omega) (by first | decide | omega)), (Or.inl ⟨by decide, zend_1 hj23 (by have := tn_of (show x244.toInt = x244.toInt from rfl) (by omega); rw [← cx244]; omega) hok (Or.inr (fun h8 => by have h7 : y253.toInt = 0 := (by rw [cy253]; exact congrArg Int64.toInt h8); omega))⟩)⟩), by (try dsimp only); rw [ht]; exact ⟨hT, hF⟩⟩, hS.F ht⟩) hS.2.2 dX12_holds_245
      · have t259 : ((i12 : Nat) : Int) < x244.toInt := ti_nle c245 rfl (nI_toInt (by omega))
        refine lv_aload_n hx hb dX12_holds_19 rfl (lv_at hl 2 rfl) ?_
        refine tw_get hx hb hts bF_X12 hown hK hT hr_o0 shm_0 rfl 26 (by decide) (ht_at hts 2 rfl) (fun _ h9 => h9) dX12_holds_20 (fun v9 m260 h9 => ?_)
        obtain ⟨rfl, hg261⟩ := h9 _ rfl
        refine lv_iload_n hx hb dX12_holds_23 rfl (lv_at hl 0 rfl) ?_
        refine tw_iald (i := (nI i12)) hx hb hK hT hg3 shm_27 rfl (vp_in_nI (by omega) (by decide)) dX12_holds_24 (fun v9 m262 h9 => ?_)
        obtain ⟨x263, rfl, gx263, kx263⟩ := (gp_any h9)
        have cx263 := m17.at m262 (by have q9 := tn_of (show (nI i12).toInt = ((i12 : Nat) : Int) from (nI_toInt (by omega))) (by omega); omega)
        have t264 : (((vX kk.toNatClampNeg).toNatClampNeg : Nat) : Int) = x244.toInt := (by rw [← cx244]; exact tn_of (show x244.toInt = x244.toInt from rfl) (by omega))
        have t265 : ((z13.toNatClampNeg : Nat) : Int) = z13.toInt := tn_of (show z13.toInt = z13.toInt from rfl) (by omega)
        have t266 : (vS i12).toInt = x263.toInt := (by rw [cx263, tn_nI (by omega)])
        have zq267 := zcd_s x263.toInt (vN i12).toInt
        have zw268 : zwo 0 vS vN i12 = zcd x263.toInt (vN i12).toInt := by unfold zwo; rw [show 0 + i12 = i12 from by omega, cx263, tn_nI (by omega)]
        have t269 : ((zwo 0 vS vN i12 < 10 ∨ 40 ≤ zwo 0 vS vN i12) ∧ z13.toNatClampNeg < 20) ∨ (zwo 0 vS vN i12 = 13 ∧ 1 ≤ z13.toNatClampNeg) ∨ ((10 ≤ zwo 0 vS vN i12 ∧ zwo 0 vS vN i12 ≤ 15) ∧ zwo 0 vS vN i12 ≠ 13 ∧ 2 ≤ z13.toNatClampNeg) := zLp_g hj23 (by omega)
        refine lv_istore (lv' := [(4, .int x263), (3, .int (nI i12)), (2, .int z13), (0, .ref o0), (1, .int kk)]) hx hb dX12_holds_25 hl (by decide) rfl (fun ls hl => ?_)
        refine lv_iload hx hb dX12_holds_27 (lv_at hl 0 rfl) ?_
        refine lv_bipush (v := 100) hx hb dX12_holds_29 (by decide) ?_
        refine lv_icmp_ge (tgt := 53) hx hb dX12_holds_31 (by decide) (fun c270 => ?_) (fun c270 => ?_)
        · have t271 : 100 ≤ x263.toInt := ti_le c270 (by decide) rfl
          refine lv_iload hx hb dX12_holds_53 (lv_at hl 0 rfl) ?_
          refine lv_bipush (v := 100) hx hb dX12_holds_55 (by decide) ?_
          refine lv_icmp_ne (tgt := 79) hx hb dX12_holds_57 (by decide) (fun c272 => ?_) (fun c272 => ?_)
          · have t273 : x263.toInt ≠ 100 := ti_ne c272 rfl (by decide)
            refine lv_iload hx hb dX12_holds_79 (lv_at hl 0 rfl) ?_
            refine lv_bipush (v := 104) hx hb dX12_holds_81 (by decide) ?_
            refine lv_icmp_ne (tgt := 107) hx hb dX12_holds_83 (by decide) (fun c274 => ?_) (fun c274 => ?_)
            · have t275 : x263.toInt ≠ 104 := ti_ne c274 rfl (by decide)
              obtain ⟨x276, ex276⟩ : ∃ y : Int32, y = z13 + (-1) := ⟨_, rfl⟩
              have t277 : x276.toInt = z13.toInt + (-1) := ti_add ex276 rfl (by decide) (by omega) (by omega)
              refine lv_iinc (v := x276) (lv' := [(2, .int x276), (4, .int x263), (3, .int (nI i12)), (0, .ref o0), (1, .int kk)]) hx hb dX12_holds_107 hl (k := 2) rfl (by first | (rw [ex276]; done) | (rw [ex276]; rfl)) (by decide) rfl (fun ls hl => ?_)
              refine lv_aload_n hx hb dX12_holds_110 rfl (lv_at hl 3 rfl) ?_
              refine tw_get hx hb hts bF_X12 hown hK hT hr_o0 shm_0 rfl 29 (by decide) (ht_at hts 3 rfl) (fun _ h9 => h9) dX12_holds_111 (fun v9 m278 h9 => ?_)
              obtain ⟨rfl, hg279⟩ := h9 _ rfl
              refine lv_iload_n hx hb dX12_holds_114 rfl (lv_at hl 0 rfl) ?_
              refine lv_iconst (v := 1) hx hb dX12_holds_115 (by decide) ?_
              refine lv_isub hx hb dX12_holds_116 ?_
              refine lv_topi (fun x280 ex280 => ?_)
              have t281 : x280.toInt = x276.toInt - 1 := ti_sub ex280 rfl (by decide) (by omega) (by omega)
              refine tw_lald (i := x280) hx hb hK hT hg5 shm_30 rfl (vin_t (a := x280.toInt) rfl (by omega) (by omega)) dX12_holds_117 (fun v9 m282 h9 => ?_)
              obtain ⟨y283, rfl⟩ := h9
              have cy283 := m20.at m282 (by have q9 := tn_of (show x280.toInt = x280.toInt from rfl) (by omega); omega)
              refine lv_lstore (lv' := [(5, .long y283), (2, .int x276), (4, .int x263), (3, .int (nI i12)), (0, .ref o0), (1, .int kk)]) hx hb dX12_holds_118 hl (by decide) rfl (fun ls hl => ?_)
              refine lv_aload_n hx hb dX12_holds_120 rfl (lv_at hl 4 rfl) ?_
              refine tw_get hx hb hts bF_X12 hown hK hT hr_o0 shm_0 rfl 29 (by decide) (ht_at hts 3 rfl) (fun _ h9 => h9) dX12_holds_121 (fun v9 m284 h9 => ?_)
              obtain ⟨rfl, hg285⟩ := h9 _ rfl
              refine lv_iload_n hx hb dX12_holds_124 rfl (lv_at hl 1 rfl) ?_
              refine tw_lald (i := x276) hx hb hK hT hg5 shm_30 rfl (vin_t (a := x276.toInt) rfl (by omega) (by omega)) dX12_holds_125 (fun v9 m286 h9 => ?_)
              obtain ⟨y287, rfl⟩ := h9
              have cy287 := m20.at m286 (by have q9 := tn_of (show x276.toInt = x276.toInt from rfl) (by omega); omega)
              refine lv_lstore (lv' := [(7, .long y287), (5, .long y283), (2, .int x276), (4, .int x263), (3, .int (nI i12)), (0, .ref o0), (1, .int kk)]) hx hb dX12_holds_126 hl (by decide) rfl (fun ls hl => ?_)
              refine lv_aload_n hx hb dX12_holds_128 rfl (lv_at hl 5 rfl) ?_
              refine tw_get hx hb hts bF_X12 hown hK hT hr_o0 shm_0 rfl 29 (by decide) (ht_at hts 3 rfl) (fun _ h9 => h9) dX12_holds_129 (fun v9 m288 h9 => ?_)
              obtain ⟨rfl, hg289⟩ := h9 _ rfl
              refine lv_iload_n hx hb dX12_holds_132 rfl (lv_at hl 2 rfl) ?_
              refine lv_iconst (v := 1) hx hb dX12_holds_133 (by decide) ?_
              refine lv_isub hx hb dX12_holds_134 ?_
              refine lv_topi (fun x290 ex290 => ?_)
              have t291 : x290.toInt = x276.toInt - 1 := ti_sub ex290 rfl (by decide) (by omega) (by omega)
              refine lv_iload hx hb dX12_holds_135 (lv_at hl 3 rfl) ?_
              refine lv_bipush (v := 101) hx hb dX12_holds_137 (by decide) ?_
              refine lv_icmp_ne (tgt := 150) hx hb dX12_holds_139 (by decide) (fun c292 => ?_) (fun c292 => ?_)
              · have t293 : x263.toInt ≠ 101 := ti_ne c292 rfl (by decide)
                refine lv_iload hx hb dX12_holds_150 (lv_at hl 3 rfl) ?_
                refine lv_bipush (v := 102) hx hb dX12_holds_152 (by decide) ?_
                refine lv_icmp_ne (tgt := 173) hx hb dX12_holds_154 (by decide) (fun c294 => ?_) (fun c294 => ?_)
                · have t295 : x263.toInt ≠ 102 := ti_ne c294 rfl (by decide)
                  refine lv_iload hx hb dX12_holds_173 (lv_at hl 3 rfl) ?_
                  refine lv_bipush (v := 103) hx hb dX12_holds_175 (by decide) ?_
                  refine lv_icmp_ne (tgt := 196) hx hb dX12_holds_177 (by decide) (fun c296 => ?_) (fun c296 => ?_)
                  · have t297 : x263.toInt ≠ 103 := ti_ne c296 rfl (by decide)
                    refine lv_iload hx hb dX12_holds_196 (lv_at hl 3 rfl) ?_
                    refine lv_bipush (v := 105) hx hb dX12_holds_198 (by decide) ?_
                    refine lv_icmp_ne (tgt := 211) hx hb dX12_holds_200 (by decide) (fun c298 => ?_) (fun c298 => ?_)
                    · have t299 : x263.toInt ≠ 105 := ti_ne c298 rfl (by decide)
                      refine lv_lload hx hb dX12_holds_211 (lv_at hl 1 rfl) ?_
                      refine lv_lload hx hb dX12_holds_213 (lv_at hl 0 rfl) ?_
                      refine va_mmax_long hx hb (hml.trans hl.1.symm) hown (ht_at hts 4 rfl) (ht_at hts 5 rfl) (ht_at hts 6 rfl) (ht_at hts 7 rfl) (Nat.le_of_ble_eq_true rfl) (Nat.le_of_ble_eq_true rfl) (Nat.le_of_ble_eq_true rfl) (Nat.le_of_ble_eq_true rfl) dX12_holds_215 ?_
                      refine lv_topl (fun y300 ey300 => ?_)
                      refine tw_last (i := x290)  hx hb hK hT hG hS hg5 shm_30 rfl (vin_t (a := x290.toInt) rfl (by omega) (by omega)) ⟨_, rfl⟩ dX12_holds_218 (fun H locs hT oq m301 oi hS => ?_)
                      have hF := hF.ast hg5 skm_30 oq (by decide)
                      have m302 := m15.kept (oq _ (gne hg1 hg5 (by decide)))
                      have m303 := m16.kept (oq _ (gne hg2 hg5 (by decide)))
                      have m304 := m17.kept (oq _ (gne hg3 hg5 (by decide)))
                      have m305 := m18.kept (oq _ (gne hg4 hg5 (by decide)))
                      have m306 := m20.put m301 oi
                      have m307 := m21.kept (oq _ (gne hg6 hg5 (by decide)))
                      have m308 := (el_kept (oq _ (gne hg1 hg5 (by decide)))).trans m22
                      refine lv_iinc (v := nI (i12 + 1)) (lv' := [(3, .int (nI (i12 + 1))), (7, .long y287), (5, .long y283), (2, .int x276), (4, .int x263), (0, .ref o0), (1, .int kk)]) hx hb dX12_holds_219 hl (k := 4) rfl (nI_add i12 1) (by decide) rfl (fun ls hl => ?_)
                      refine lv_goto (tgt := 9) hx hb dX12_holds_222 (by decide) ?_
                      exact ih221 (i12 + 1) (by omega) (by omega) x276 (cul V19 x290.toNatClampNeg y300) ⟨(by have q9 := (show x276.toInt = x276.toInt from rfl); (try have q8 := ti_all x276); omega), (by have := tn_of (show z13.toInt = z13.toInt from rfl) (by omega); have := tn_of (show x276.toInt = x276.toInt from rfl) (by omega); have := tn_of (show x290.toInt = x290.toInt from rfl) (by omega); have := tn_of (show x280.toInt = x280.toInt from rfl) (by omega); have f1 : y283 = V19 (z13.toNatClampNeg - 2) := (by rw [cy283, show x280.toNatClampNeg = z13.toNatClampNeg - 2 from by omega]); have f2 : y287 = V19 (z13.toNatClampNeg - 1) := (by rw [cy287, show x276.toNatClampNeg = z13.toNatClampNeg - 1 from by omega]); exact zLp_j hj23 (by omega) (by omega) (by omega) (by omega) (y := y300) (by rw [show zwo 0 vS vN i12 = 15 from by omega, ← f1, ← f2]; exact (ey300.trans (zjn_15 (by decide) (by decide) (by decide) (by decide)).symm)) (by rw [show x290.toNatClampNeg = z13.toNatClampNeg - 2 from by omega]))⟩ _ _ hT hF hS m302 m303 m304 m305 m306 m307 m308 ls (lv_sub hl [0, 3, 5, 6] rfl)
                    · have t310 : x263.toInt = 105 := ti_eq c298 rfl (by decide)
                      refine lv_lload hx hb dX12_holds_203 (lv_at hl 1 rfl) ?_
                      refine lv_lload hx hb dX12_holds_205 (lv_at hl 0 rfl) ?_
                      refine lv_lmul hx hb dX12_holds_207 ?_
                      refine lv_topl (fun y311 ey311 => ?_)
                      refine lv_goto (tgt := 218) hx hb dX12_holds_208 (by decide) ?_
                      refine tw_last (i := x290)  hx hb hK hT hG hS hg5 shm_30 rfl (vin_t (a := x290.toInt) rfl (by omega) (by omega)) ⟨_, rfl⟩ dX12_holds_218 (fun H locs hT oq m312 oi hS => ?_)
                      have hF := hF.ast hg5 skm_30 oq (by decide)
                      have m313 := m15.kept (oq _ (gne hg1 hg5 (by decide)))
                      have m314 := m16.kept (oq _ (gne hg2 hg5 (by decide)))
                      have m315 := m17.kept (oq _ (gne hg3 hg5 (by decide)))
                      have m316 := m18.kept (oq _ (gne hg4 hg5 (by decide)))
                      have m317 := m20.put m312 oi
                      have m318 := m21.kept (oq _ (gne hg6 hg5 (by decide)))
                      have m319 := (el_kept (oq _ (gne hg1 hg5 (by decide)))).trans m22
                      refine lv_iinc (v := nI (i12 + 1)) (lv' := [(3, .int (nI (i12 + 1))), (7, .long y287), (5, .long y283), (2, .int x276), (4, .int x263), (0, .ref o0), (1, .int kk)]) hx hb dX12_holds_219 hl (k := 4) rfl (nI_add i12 1) (by decide) rfl (fun ls hl => ?_)
                      refine lv_goto (tgt := 9) hx hb dX12_holds_222 (by decide) ?_
                      exact ih221 (i12 + 1) (by omega) (by omega) x276 (cul V19 x290.toNatClampNeg y311) ⟨(by have q9 := (show x276.toInt = x276.toInt from rfl); (try have q8 := ti_all x276); omega), (by have := tn_of (show z13.toInt = z13.toInt from rfl) (by omega); have := tn_of (show x276.toInt = x276.toInt from rfl) (by omega); have := tn_of (show x290.toInt = x290.toInt from rfl) (by omega); have := tn_of (show x280.toInt = x280.toInt from rfl) (by omega); have f1 : y283 = V19 (z13.toNatClampNeg - 2) := (by rw [cy283, show x280.toNatClampNeg = z13.toNatClampNeg - 2 from by omega]); have f2 : y287 = V19 (z13.toNatClampNeg - 1) := (by rw [cy287, show x276.toNatClampNeg = z13.toNatClampNeg - 1 from by omega]); exact zLp_j hj23 (by omega) (by omega) (by omega) (by omega) (y := y311) (by rw [show zwo 0 vS vN i12 = 14 from by omega, ← f1, ← f2]; exact (ey311.trans (zjn_14 rfl).symm)) (by rw [show x290.toNatClampNeg = z13.toNatClampNeg - 2 from by omega]))⟩ _ _ hT hF hS m313 m314 m315 m316 m317 m318 m319 ls (lv_sub hl [0, 3, 5, 6] rfl)
                  · have t321 : x263.toInt = 103 := ti_eq c296 rfl (by decide)
                    refine lv_lload hx hb dX12_holds_180 (lv_at hl 1 rfl) ?_
                    refine lv_lload hx hb dX12_holds_182 (lv_at hl 0 rfl) ?_
                    refine W.lcmp hx hb dX12_holds_184 ?_
                    refine lv_topi (fun x322 ex322 => ?_)
                    have t323 : (y283.toInt < y287.toInt ∧ x322.toInt = -1) ∨ (y283.toInt = y287.toInt ∧ x322.toInt = 0) ∨ (y287.toInt < y283.toInt ∧ x322.toInt = 1) := tl_c ex322 rfl rfl
                    refine lv_if_le (tgt := 192) hx hb dX12_holds_185 (by decide) (fun c324 => ?_) (fun c324 => ?_)
                    · have t325 : x322.toInt ≤ 0 := ti_le c324 rfl (by decide)
                      refine lv_lconst (v := 0) hx hb dX12_holds_192 (by decide) ?_
                      refine lv_goto (tgt := 218) hx hb dX12_holds_193 (by decide) ?_
                      refine tw_last (i := x290)  hx hb hK hT hG hS hg5 shm_30 rfl (vin_t (a := x290.toInt) rfl (by omega) (by omega)) ⟨_, rfl⟩ dX12_holds_218 (fun H locs hT oq m326 oi hS => ?_)
                      have hF := hF.ast hg5 skm_30 oq (by decide)
                      have m327 := m15.kept (oq _ (gne hg1 hg5 (by decide)))
                      have m328 := m16.kept (oq _ (gne hg2 hg5 (by decide)))
                      have m329 := m17.kept (oq _ (gne hg3 hg5 (by decide)))
                      have m330 := m18.kept (oq _ (gne hg4 hg5 (by decide)))
                      have m331 := m20.put m326 oi
                      have m332 := m21.kept (oq _ (gne hg6 hg5 (by decide)))
                      have m333 := (el_kept (oq _ (gne hg1 hg5 (by decide)))).trans m22
                      refine lv_iinc (v := nI (i12 + 1)) (lv' := [(3, .int (nI (i12 + 1))), (7, .long y287), (5, .long y283), (2, .int x276), (4, .int x263), (0, .ref o0), (1, .int kk)]) hx hb dX12_holds_219 hl (k := 4) rfl (nI_add i12 1) (by decide) rfl (fun ls hl => ?_)
                      refine lv_goto (tgt := 9) hx hb dX12_holds_222 (by decide) ?_
                      exact ih221 (i12 + 1) (by omega) (by omega) x276 (cul V19 x290.toNatClampNeg (0 : Int64)) ⟨(by have q9 := (show x276.toInt = x276.toInt from rfl); (try have q8 := ti_all x276); omega), (by have := tn_of (show z13.toInt = z13.toInt from rfl) (by omega); have := tn_of (show x276.toInt = x276.toInt from rfl) (by omega); have := tn_of (show x290.toInt = x290.toInt from rfl) (by omega); have := tn_of (show x280.toInt = x280.toInt from rfl) (by omega); have f1 : y283 = V19 (z13.toNatClampNeg - 2) := (by rw [cy283, show x280.toNatClampNeg = z13.toNatClampNeg - 2 from by omega]); have f2 : y287 = V19 (z13.toNatClampNeg - 1) := (by rw [cy287, show x276.toNatClampNeg = z13.toNatClampNeg - 1 from by omega]); exact zLp_j hj23 (by omega) (by omega) (by omega) (by omega) (y := (0 : Int64)) (by rw [show zwo 0 vS vN i12 = 12 from by omega, ← f1, ← f2]; exact ((zjn_12 rfl).2 (by omega)).symm) (by rw [show x290.toNatClampNeg = z13.toNatClampNeg - 2 from by omega]))⟩ _ _ hT hF hS m327 m328 m329 m330 m331 m332 m333 ls (lv_sub hl [0, 3, 5, 6] rfl)
                    · have t335 : 0 < x322.toInt := ti_nle c324 rfl (by decide)
                      refine lv_lconst (v := 1) hx hb dX12_holds_188 (by decide) ?_
                      refine lv_goto (tgt := 218) hx hb dX12_holds_189 (by decide) ?_
                      refine tw_last (i := x290)  hx hb hK hT hG hS hg5 shm_30 rfl (vin_t (a := x290.toInt) rfl (by omega) (by omega)) ⟨_, rfl⟩ dX12_holds_218 (fun H locs hT oq m336 oi hS => ?_)
                      have hF := hF.ast hg5 skm_30 oq (by decide)
                      have m337 := m15.kept (oq _ (gne hg1 hg5 (by decide)))
                      have m338 := m16.kept (oq _ (gne hg2 hg5 (by decide)))
                      have m339 := m17.kept (oq _ (gne hg3 hg5 (by decide)))
                      have m340 := m18.kept (oq _ (gne hg4 hg5 (by decide)))
                      have m341 := m20.put m336 oi
                      have m342 := m21.kept (oq _ (gne hg6 hg5 (by decide)))
                      have m343 := (el_kept (oq _ (gne hg1 hg5 (by decide)))).trans m22
                      refine lv_iinc (v := nI (i12 + 1)) (lv' := [(3, .int (nI (i12 + 1))), (7, .long y287), (5, .long y283), (2, .int x276), (4, .int x263), (0, .ref o0), (1, .int kk)]) hx hb dX12_holds_219 hl (k := 4) rfl (nI_add i12 1) (by decide) rfl (fun ls hl => ?_)
                      refine lv_goto (tgt := 9) hx hb dX12_holds_222 (by decide) ?_
                      exact ih221 (i12 + 1) (by omega) (by omega) x276 (cul V19 x290.toNatClampNeg (1 : Int64)) ⟨(by have q9 := (show x276.toInt = x276.toInt from rfl); (try have q8 := ti_all x276); omega), (by have := tn_of (show z13.toInt = z13.toInt from rfl) (by omega); have := tn_of (show x276.toInt = x276.toInt from rfl) (by omega); have := tn_of (show x290.toInt = x290.toInt from rfl) (by omega); have := tn_of (show x280.toInt = x280.toInt from rfl) (by omega); have f1 : y283 = V19 (z13.toNatClampNeg - 2) := (by rw [cy283, show x280.toNatClampNeg = z13.toNatClampNeg - 2 from by omega]); have f2 : y287 = V19 (z13.toNatClampNeg - 1) := (by rw [cy287, show x276.toNatClampNeg = z13.toNatClampNeg - 1 from by omega]); exact zLp_j hj23 (by omega) (by omega) (by omega) (by omega) (y := (1 : Int64)) (by rw [show zwo 0 vS vN i12 = 12 from by omega, ← f1, ← f2]; exact ((zjn_12 rfl).1 (by omega)).symm) (by rw [show x290.toNatClampNeg = z13.toNatClampNeg - 2 from by omega]))⟩ _ _ hT hF hS m337 m338 m339 m340 m341 m342 m343 ls (lv_sub hl [0, 3, 5, 6] rfl)
                · have t345 : x263.toInt = 102 := ti_eq c294 rfl (by decide)
                  refine lv_lload hx hb dX12_holds_157 (lv_at hl 1 rfl) ?_
                  refine lv_lload hx hb dX12_holds_159 (lv_at hl 0 rfl) ?_
                  refine W.lcmp hx hb dX12_holds_161 ?_
                  refine lv_topi (fun x346 ex346 => ?_)
                  have t347 : (y283.toInt < y287.toInt ∧ x346.toInt = -1) ∨ (y283.toInt = y287.toInt ∧ x346.toInt = 0) ∨ (y287.toInt < y283.toInt ∧ x346.toInt = 1) := tl_c ex346 rfl rfl
                  refine lv_if_ge (tgt := 169) hx hb dX12_holds_162 (by decide) (fun c348 => ?_) (fun c348 => ?_)
                  · have t349 : 0 ≤ x346.toInt := ti_le c348 (by decide) rfl
                    refine lv_lconst (v := 0) hx hb dX12_holds_169 (by decide) ?_
                    refine lv_goto (tgt := 218) hx hb dX12_holds_170 (by decide) ?_
                    refine tw_last (i := x290)  hx hb hK hT hG hS hg5 shm_30 rfl (vin_t (a := x290.toInt) rfl (by omega) (by omega)) ⟨_, rfl⟩ dX12_holds_218 (fun H locs hT oq m350 oi hS => ?_)
                    have hF := hF.ast hg5 skm_30 oq (by decide)
                    have m351 := m15.kept (oq _ (gne hg1 hg5 (by decide)))
                    have m352 := m16.kept (oq _ (gne hg2 hg5 (by decide)))
                    have m353 := m17.kept (oq _ (gne hg3 hg5 (by decide)))
                    have m354 := m18.kept (oq _ (gne hg4 hg5 (by decide)))
                    have m355 := m20.put m350 oi
                    have m356 := m21.kept (oq _ (gne hg6 hg5 (by decide)))
                    have m357 := (el_kept (oq _ (gne hg1 hg5 (by decide)))).trans m22
                    refine lv_iinc (v := nI (i12 + 1)) (lv' := [(3, .int (nI (i12 + 1))), (7, .long y287), (5, .long y283), (2, .int x276), (4, .int x263), (0, .ref o0), (1, .int kk)]) hx hb dX12_holds_219 hl (k := 4) rfl (nI_add i12 1) (by decide) rfl (fun ls hl => ?_)
                    refine lv_goto (tgt := 9) hx hb dX12_holds_222 (by decide) ?_
                    exact ih221 (i12 + 1) (by omega) (by omega) x276 (cul V19 x290.toNatClampNeg (0 : Int64)) ⟨(by have q9 := (show x276.toInt = x276.toInt from rfl); (try have q8 := ti_all x276); omega), (by have := tn_of (show z13.toInt = z13.toInt from rfl) (by omega); have := tn_of (show x276.toInt = x276.toInt from rfl) (by omega); have := tn_of (show x290.toInt = x290.toInt from rfl) (by omega); have := tn_of (show x280.toInt = x280.toInt from rfl) (by omega); have f1 : y283 = V19 (z13.toNatClampNeg - 2) := (by rw [cy283, show x280.toNatClampNeg = z13.toNatClampNeg - 2 from by omega]); have f2 : y287 = V19 (z13.toNatClampNeg - 1) := (by rw [cy287, show x276.toNatClampNeg = z13.toNatClampNeg - 1 from by omega]); exact zLp_j hj23 (by omega) (by omega) (by omega) (by omega) (y := (0 : Int64)) (by rw [show zwo 0 vS vN i12 = 11 from by omega, ← f1, ← f2]; exact ((zjn_11 rfl).2 (by omega)).symm) (by rw [show x290.toNatClampNeg = z13.toNatClampNeg - 2 from by omega]))⟩ _ _ hT hF hS m351 m352 m353 m354 m355 m356 m357 ls (lv_sub hl [0, 3, 5, 6] rfl)
                  · have t359 : x346.toInt < 0 := ti_nle c348 (by decide) rfl
                    refine lv_lconst (v := 1) hx hb dX12_holds_165 (by decide) ?_
                    refine lv_goto (tgt := 218) hx hb dX12_holds_166 (by decide) ?_
                    refine tw_last (i := x290)  hx hb hK hT hG hS hg5 shm_30 rfl (vin_t (a := x290.toInt) rfl (by omega) (by omega)) ⟨_, rfl⟩ dX12_holds_218 (fun H locs hT oq m360 oi hS => ?_)
                    have hF := hF.ast hg5 skm_30 oq (by decide)
                    have m361 := m15.kept (oq _ (gne hg1 hg5 (by decide)))
                    have m362 := m16.kept (oq _ (gne hg2 hg5 (by decide)))
                    have m363 := m17.kept (oq _ (gne hg3 hg5 (by decide)))
                    have m364 := m18.kept (oq _ (gne hg4 hg5 (by decide)))
                    have m365 := m20.put m360 oi
                    have m366 := m21.kept (oq _ (gne hg6 hg5 (by decide)))
                    have m367 := (el_kept (oq _ (gne hg1 hg5 (by decide)))).trans m22
                    refine lv_iinc (v := nI (i12 + 1)) (lv' := [(3, .int (nI (i12 + 1))), (7, .long y287), (5, .long y283), (2, .int x276), (4, .int x263), (0, .ref o0), (1, .int kk)]) hx hb dX12_holds_219 hl (k := 4) rfl (nI_add i12 1) (by decide) rfl (fun ls hl => ?_)
                    refine lv_goto (tgt := 9) hx hb dX12_holds_222 (by decide) ?_
                    exact ih221 (i12 + 1) (by omega) (by omega) x276 (cul V19 x290.toNatClampNeg (1 : Int64)) ⟨(by have q9 := (show x276.toInt = x276.toInt from rfl); (try have q8 := ti_all x276); omega), (by have := tn_of (show z13.toInt = z13.toInt from rfl) (by omega); have := tn_of (show x276.toInt = x276.toInt from rfl) (by omega); have := tn_of (show x290.toInt = x290.toInt from rfl) (by omega); have := tn_of (show x280.toInt = x280.toInt from rfl) (by omega); have f1 : y283 = V19 (z13.toNatClampNeg - 2) := (by rw [cy283, show x280.toNatClampNeg = z13.toNatClampNeg - 2 from by omega]); have f2 : y287 = V19 (z13.toNatClampNeg - 1) := (by rw [cy287, show x276.toNatClampNeg = z13.toNatClampNeg - 1 from by omega]); exact zLp_j hj23 (by omega) (by omega) (by omega) (by omega) (y := (1 : Int64)) (by rw [show zwo 0 vS vN i12 = 11 from by omega, ← f1, ← f2]; exact ((zjn_11 rfl).1 (by omega)).symm) (by rw [show x290.toNatClampNeg = z13.toNatClampNeg - 2 from by omega]))⟩ _ _ hT hF hS m361 m362 m363 m364 m365 m366 m367 ls (lv_sub hl [0, 3, 5, 6] rfl)
              · have t369 : x263.toInt = 101 := ti_eq c292 rfl (by decide)
                refine lv_lload hx hb dX12_holds_142 (lv_at hl 1 rfl) ?_
                refine lv_lload hx hb dX12_holds_144 (lv_at hl 0 rfl) ?_
                refine lv_ladd hx hb dX12_holds_146 ?_
                refine lv_topl (fun y370 ey370 => ?_)
                refine lv_goto (tgt := 218) hx hb dX12_holds_147 (by decide) ?_
                refine tw_last (i := x290)  hx hb hK hT hG hS hg5 shm_30 rfl (vin_t (a := x290.toInt) rfl (by omega) (by omega)) ⟨_, rfl⟩ dX12_holds_218 (fun H locs hT oq m371 oi hS => ?_)
                have hF := hF.ast hg5 skm_30 oq (by decide)
                have m372 := m15.kept (oq _ (gne hg1 hg5 (by decide)))
                have m373 := m16.kept (oq _ (gne hg2 hg5 (by decide)))
                have m374 := m17.kept (oq _ (gne hg3 hg5 (by decide)))
                have m375 := m18.kept (oq _ (gne hg4 hg5 (by decide)))
                have m376 := m20.put m371 oi
                have m377 := m21.kept (oq _ (gne hg6 hg5 (by decide)))
                have m378 := (el_kept (oq _ (gne hg1 hg5 (by decide)))).trans m22
                refine lv_iinc (v := nI (i12 + 1)) (lv' := [(3, .int (nI (i12 + 1))), (7, .long y287), (5, .long y283), (2, .int x276), (4, .int x263), (0, .ref o0), (1, .int kk)]) hx hb dX12_holds_219 hl (k := 4) rfl (nI_add i12 1) (by decide) rfl (fun ls hl => ?_)
                refine lv_goto (tgt := 9) hx hb dX12_holds_222 (by decide) ?_
                exact ih221 (i12 + 1) (by omega) (by omega) x276 (cul V19 x290.toNatClampNeg y370) ⟨(by have q9 := (show x276.toInt = x276.toInt from rfl); (try have q8 := ti_all x276); omega), (by have := tn_of (show z13.toInt = z13.toInt from rfl) (by omega); have := tn_of (show x276.toInt = x276.toInt from rfl) (by omega); have := tn_of (show x290.toInt = x290.toInt from rfl) (by omega); have := tn_of (show x280.toInt = x280.toInt from rfl) (by omega); have f1 : y283 = V19 (z13.toNatClampNeg - 2) := (by rw [cy283, show x280.toNatClampNeg = z13.toNatClampNeg - 2 from by omega]); have f2 : y287 = V19 (z13.toNatClampNeg - 1) := (by rw [cy287, show x276.toNatClampNeg = z13.toNatClampNeg - 1 from by omega]); exact zLp_j hj23 (by omega) (by omega) (by omega) (by omega) (y := y370) (by rw [show zwo 0 vS vN i12 = 10 from by omega, ← f1, ← f2]; exact (ey370.trans (zjn_10 rfl).symm)) (by rw [show x290.toNatClampNeg = z13.toNatClampNeg - 2 from by omega]))⟩ _ _ hT hF hS m372 m373 m374 m375 m376 m377 m378 ls (lv_sub hl [0, 3, 5, 6] rfl)
            · have t380 : x263.toInt = 104 := ti_eq c274 rfl (by decide)
              refine lv_aload_n hx hb dX12_holds_86 rfl (lv_at hl 3 rfl) ?_
              refine tw_get hx hb hts bF_X12 hown hK hT hr_o0 shm_0 rfl 29 (by decide) (ht_at hts 3 rfl) (fun _ h9 => h9) dX12_holds_87 (fun v9 m381 h9 => ?_)
              obtain ⟨rfl, hg382⟩ := h9 _ rfl
              refine lv_iload_n hx hb dX12_holds_90 rfl (lv_at hl 2 rfl) ?_
              refine lv_iconst (v := 1) hx hb dX12_holds_91 (by decide) ?_
              refine lv_isub hx hb dX12_holds_92 ?_
              refine lv_topi (fun x383 ex383 => ?_)
              have t384 : x383.toInt = z13.toInt - 1 := ti_sub ex383 rfl (by decide) (by omega) (by omega)
              refine lv_lconst (v := 1) hx hb dX12_holds_93 (by decide) ?_
              refine lv_aload_n hx hb dX12_holds_94 rfl (lv_at hl 3 rfl) ?_
              refine tw_get hx hb hts bF_X12 hown hK hT hr_o0 shm_0 rfl 29 (by decide) (ht_at hts 3 rfl) (fun _ h9 => h9) dX12_holds_95 (fun v9 m385 h9 => ?_)
              obtain ⟨rfl, hg386⟩ := h9 _ rfl
              refine lv_iload_n hx hb dX12_holds_98 rfl (lv_at hl 2 rfl) ?_
              refine lv_iconst (v := 1) hx hb dX12_holds_99 (by decide) ?_
              refine lv_isub hx hb dX12_holds_100 ?_
              refine lv_topi (fun x387 ex387 => ?_)
              have t388 : x387.toInt = z13.toInt - 1 := ti_sub ex387 rfl (by decide) (by omega) (by omega)
              refine tw_lald (i := x387) hx hb hK hT hg5 shm_30 rfl (vin_t (a := x387.toInt) rfl (by omega) (by omega)) dX12_holds_101 (fun v9 m389 h9 => ?_)
              obtain ⟨y390, rfl⟩ := h9
              have cy390 := m20.at m389 (by have q9 := tn_of (show x387.toInt = x387.toInt from rfl) (by omega); omega)
              refine lv_lsub hx hb dX12_holds_102 ?_
              refine lv_topl (fun y391 ey391 => ?_)
              refine tw_last (i := x383)  hx hb hK hT hG hS hg5 shm_30 rfl (vin_t (a := x383.toInt) rfl (by omega) (by omega)) ⟨_, rfl⟩ dX12_holds_103 (fun H locs hT oq m392 oi hS => ?_)
              have hF := hF.ast hg5 skm_30 oq (by decide)
              have m393 := m15.kept (oq _ (gne hg1 hg5 (by decide)))
              have m394 := m16.kept (oq _ (gne hg2 hg5 (by decide)))
              have m395 := m17.kept (oq _ (gne hg3 hg5 (by decide)))
              have m396 := m18.kept (oq _ (gne hg4 hg5 (by decide)))
              have m397 := m20.put m392 oi
              have m398 := m21.kept (oq _ (gne hg6 hg5 (by decide)))
              have m399 := (el_kept (oq _ (gne hg1 hg5 (by decide)))).trans m22
              refine lv_goto (tgt := 219) hx hb dX12_holds_104 (by decide) ?_
              refine lv_iinc (v := nI (i12 + 1)) (lv' := [(3, .int (nI (i12 + 1))), (4, .int x263), (2, .int z13), (0, .ref o0), (1, .int kk)]) hx hb dX12_holds_219 hl (k := 1) rfl (nI_add i12 1) (by decide) rfl (fun ls hl => ?_)
              refine lv_goto (tgt := 9) hx hb dX12_holds_222 (by decide) ?_
              exact ih221 (i12 + 1) (by omega) (by omega) z13 (cul V19 x383.toNatClampNeg y391) ⟨(by have q9 := (show z13.toInt = z13.toInt from rfl); (try have q8 := ti_all z13); omega), (by have := tn_of (show z13.toInt = z13.toInt from rfl) (by omega); have := tn_of (show x383.toInt = x383.toInt from rfl) (by omega); have := tn_of (show x387.toInt = x387.toInt from rfl) (by omega); exact zLp_t hj23 (by omega) (by omega) (y := y391) (by rw [ey391, cy390, show x387.toNatClampNeg = z13.toNatClampNeg - 1 from by omega]) (by rw [show x383.toNatClampNeg = z13.toNatClampNeg - 1 from by omega]))⟩ _ _ hT hF hS m393 m394 m395 m396 m397 m398 m399 ls (lv_sub hl [0, 2, 3, 4] rfl)
          · have t401 : x263.toInt = 100 := ti_eq c272 rfl (by decide)
            refine lv_aload_n hx hb dX12_holds_60 rfl (lv_at hl 3 rfl) ?_
            refine tw_get hx hb hts bF_X12 hown hK hT hr_o0 shm_0 rfl 29 (by decide) (ht_at hts 3 rfl) (fun _ h9 => h9) dX12_holds_61 (fun v9 m402 h9 => ?_)
            obtain ⟨rfl, hg403⟩ := h9 _ rfl
            refine lv_iload_n hx hb dX12_holds_64 rfl (lv_at hl 2 rfl) ?_
            obtain ⟨x404, ex404⟩ : ∃ y : Int32, y = z13 + 1 := ⟨_, rfl⟩
            have t405 : x404.toInt = z13.toInt + 1 := ti_add ex404 rfl (by decide) (by omega) (by omega)
            refine lv_iinc (v := x404) (lv' := [(2, .int x404), (4, .int x263), (3, .int (nI i12)), (0, .ref o0), (1, .int kk)]) hx hb dX12_holds_65 hl (k := 2) rfl (by first | (rw [ex404]; done) | (rw [ex404]; rfl)) (by decide) rfl (fun ls hl => ?_)
            refine lv_aload_n hx hb dX12_holds_68 rfl (lv_at hl 3 rfl) ?_
            refine tw_get hx hb hts bF_X12 hown hK hT hr_o0 shm_0 rfl 27 (by decide) (ht_at hts 8 rfl) (fun _ h9 => h9) dX12_holds_69 (fun v9 m406 h9 => ?_)
            obtain ⟨rfl, hg407⟩ := h9 _ rfl
            refine lv_iload_n hx hb dX12_holds_72 rfl (lv_at hl 2 rfl) ?_
            refine tw_iald (i := (nI i12)) hx hb hK hT hg4 shm_28 rfl (vp_in_nI (by omega) (by decide)) dX12_holds_73 (fun v9 m408 h9 => ?_)
            obtain ⟨x409, rfl, gx409, kx409⟩ := h9
            have cx409 := m18.at m408 (by have q9 := tn_of (show (nI i12).toInt = ((i12 : Nat) : Int) from (nI_toInt (by omega))) (by omega); omega)
            have t410 : (vN i12).toInt = x409.toInt := (by rw [cx409, tn_nI (by omega)])
            refine lv_i2l (v := x409.toInt64) hx hb dX12_holds_74 rfl ?_
            refine tw_last (i := z13)  hx hb hK hT hG hS hg5 shm_30 rfl (vin_t (a := z13.toInt) rfl (by omega) (by omega)) ⟨_, rfl⟩ dX12_holds_75 (fun H locs hT oq m411 oi hS => ?_)
            have hF := hF.ast hg5 skm_30 oq (by decide)
            have m412 := m15.kept (oq _ (gne hg1 hg5 (by decide)))
            have m413 := m16.kept (oq _ (gne hg2 hg5 (by decide)))
            have m414 := m17.kept (oq _ (gne hg3 hg5 (by decide)))
            have m415 := m18.kept (oq _ (gne hg4 hg5 (by decide)))
            have m416 := m20.put m411 oi
            have m417 := m21.kept (oq _ (gne hg6 hg5 (by decide)))
            have m418 := (el_kept (oq _ (gne hg1 hg5 (by decide)))).trans m22
            refine lv_goto (tgt := 219) hx hb dX12_holds_76 (by decide) ?_
            refine lv_iinc (v := nI (i12 + 1)) (lv' := [(3, .int (nI (i12 + 1))), (2, .int x404), (4, .int x263), (0, .ref o0), (1, .int kk)]) hx hb dX12_holds_219 hl (k := 2) rfl (nI_add i12 1) (by decide) rfl (fun ls hl => ?_)
            refine lv_goto (tgt := 9) hx hb dX12_holds_222 (by decide) ?_
            exact ih221 (i12 + 1) (by omega) (by omega) x404 (cul V19 z13.toNatClampNeg x409.toInt64) ⟨(by have q9 := (show x404.toInt = x404.toInt from rfl); (try have q8 := ti_all x404); omega), (by have := tn_of (show z13.toInt = z13.toInt from rfl) (by omega); have := tn_of (show x404.toInt = x404.toInt from rfl) (by omega); exact zLp_p hj23 (by omega) (y := x409.toInt64) (Or.inr ⟨by omega, by rw [i2l_of]; exact congrArg Int64.ofInt (by omega)⟩) (by omega) (by rw [show z13.toNatClampNeg = z13.toNatClampNeg from by omega]))⟩ _ _ hT hF hS m412 m413 m414 m415 m416 m417 m418 ls (lv_sub hl [0, 1, 3, 4] rfl)
        · have t420 : x263.toInt < 100 := ti_nle c270 (by decide) rfl
          refine lv_aload_n hx hb dX12_holds_34 rfl (lv_at hl 3 rfl) ?_
          refine tw_get hx hb hts bF_X12 hown hK hT hr_o0 shm_0 rfl 29 (by decide) (ht_at hts 3 rfl) (fun _ h9 => h9) dX12_holds_35 (fun v9 m421 h9 => ?_)
          obtain ⟨rfl, hg422⟩ := h9 _ rfl
          refine lv_iload_n hx hb dX12_holds_38 rfl (lv_at hl 2 rfl) ?_
          obtain ⟨x423, ex423⟩ : ∃ y : Int32, y = z13 + 1 := ⟨_, rfl⟩
          have t424 : x423.toInt = z13.toInt + 1 := ti_add ex423 rfl (by decide) (by omega) (by omega)
          refine lv_iinc (v := x423) (lv' := [(2, .int x423), (4, .int x263), (3, .int (nI i12)), (0, .ref o0), (1, .int kk)]) hx hb dX12_holds_39 hl (k := 2) rfl (by first | (rw [ex423]; done) | (rw [ex423]; rfl)) (by decide) rfl (fun ls hl => ?_)
          refine lv_aload_n hx hb dX12_holds_42 rfl (lv_at hl 3 rfl) ?_
          refine tw_get hx hb hts bF_X12 hown hK hT hr_o0 shm_0 rfl 30 (by decide) (ht_at hts 9 rfl) (fun _ h9 => h9) dX12_holds_43 (fun v9 m425 h9 => ?_)
          obtain ⟨rfl, hg426⟩ := h9 _ rfl
          refine lv_iload hx hb dX12_holds_46 (lv_at hl 1 rfl) ?_
          refine tw_lald (i := x263) hx hb hK hT hg6 shm_31 rfl (vin_t (a := x263.toInt) rfl (by omega) (by omega)) dX12_holds_48 (fun v9 m427 h9 => ?_)
          obtain ⟨y428, rfl⟩ := h9
          have cy428 := m21.at m427 (by have q9 := tn_of (show x263.toInt = x263.toInt from rfl) (by omega); omega)
          refine tw_last (i := z13)  hx hb hK hT hG hS hg5 shm_30 rfl (vin_t (a := z13.toInt) rfl (by omega) (by omega)) ⟨_, rfl⟩ dX12_holds_49 (fun H locs hT oq m429 oi hS => ?_)
          have hF := hF.ast hg5 skm_30 oq (by decide)
          have m430 := m15.kept (oq _ (gne hg1 hg5 (by decide)))
          have m431 := m16.kept (oq _ (gne hg2 hg5 (by decide)))
          have m432 := m17.kept (oq _ (gne hg3 hg5 (by decide)))
          have m433 := m18.kept (oq _ (gne hg4 hg5 (by decide)))
          have m434 := m20.put m429 oi
          have m435 := m21.kept (oq _ (gne hg6 hg5 (by decide)))
          have m436 := (el_kept (oq _ (gne hg1 hg5 (by decide)))).trans m22
          refine lv_goto (tgt := 219) hx hb dX12_holds_50 (by decide) ?_
          refine lv_iinc (v := nI (i12 + 1)) (lv' := [(3, .int (nI (i12 + 1))), (2, .int x423), (4, .int x263), (0, .ref o0), (1, .int kk)]) hx hb dX12_holds_219 hl (k := 2) rfl (nI_add i12 1) (by decide) rfl (fun ls hl => ?_)
          refine lv_goto (tgt := 9) hx hb dX12_holds_222 (by decide) ?_
          exact ih221 (i12 + 1) (by omega) (by omega) x423 (cul V19 z13.toNatClampNeg y428) ⟨(by have q9 := (show x423.toInt = x423.toInt from rfl); (try have q8 := ti_all x423); omega), (by have := tn_of (show z13.toInt = z13.toInt from rfl) (by omega); have := tn_of (show x423.toInt = x423.toInt from rfl) (by omega); exact zLp_p hj23 (by omega) (y := y428) (Or.inl ⟨by omega, by rw [cy428]; exact congrArg fL (by have := tn_of (show x263.toInt = x263.toInt from rfl) (by omega); omega)⟩) (by omega) (by rw [show z13.toNatClampNeg = z13.toNatClampNeg from by omega]))⟩ _ _ hT hF hS m430 m431 m432 m433 m434 m435 m436 ls (lv_sub hl [0, 1, 3, 4] rfl)
  exact key221 (400 - k11) k11 (by omega) (Nat.le_refl _) 0 vQ ⟨(by have q9 := (show (0 : Int32).toInt = 0 from (by decide)); (try have q8 := ti_all (0 : Int32)); omega), (zLp_0 hmzq (by rw [← cx10]; exact (tn_nI (by omega)).symm) (by decide))⟩ _ _ hT hF hS hc_vB hc_vX hc_vS hc_vN hc_vQ hc_fL m9 ls (lv_sub hl [0, 1, 2, 3] rfl)
def w_s_acresZ : List Cond := .code yX12_acres cX12_acres 4 (some .int) :: (HAppend.hAppend (α := List Cond) (β := List Cond) (γ := List Cond) [.fieldLink RX12 101 "SeaLandModel" "holds" "[I"] bs)
set_option maxHeartbeats 4000000 in
set_option maxRecDepth 100000 in
theorem s_acresZ (l : Launch) (dC : Nat → ClassId) (dI : Nat → Nat → Nat) (kA : Nat → ClassId) (adK adV : Nat → Nat) (G : gT) (H0 : Heap) (q : Nat → Nat) (wZ wN : Nat → Int) (wH wB wC : Int) (wL wK : Nat → Prop) (wU wV : Nat → Nat) (PI : Nat → Int → Prop) (im : Int) (PM PT : Nat → Int → Prop) (lS lB lE : Nat → Nat → Int → Prop) (lN : Nat → Int) (o0 : Nat) (pe : Int32) (vH : Nat → Int32)  (hT : gH (dC, dI) kA (SHm q (wP wZ wN wH wB wC wL wK wU wV) PI im PM PT lS lB lE lN) G H0) (hr_o0 : G o0 = some 0) (hq0 : 0 ≤ pe.toInt ∧ pe.toInt ≤ 59) (hno : (vH pe.toNatClampNeg).toInt < 0) (hc_vH : ct H0 (q 38) 60 vH) (hgz : ∀ i, 0 ≤ wZ i) (hgn : ∀ i, 6500000 ≤ wN i ∧ wN i ≤ 20200000) (hgh : 0 ≤ wH ∧ wH ≤ 40000) (hgb : 0 ≤ wB ∧ wB ≤ 3850000) (hgc : 0 ≤ wC ∧ wC ≤ 30) (hgi : 0 ≤ im ∧ im ≤ 1) (hgu : ∀ a t, G a = some (t + 1) → a = q t) : Met l yX12_acres w_s_acresZ ({ frames := 0, cells := 0, slots := 0, locals := 0 }) (va_Pc [.ref o0, .int pe] (fun U => U.heap = H0 ∧ va_K (dC, dI) vwCl (tyl kA) U ∧ EVS adK adV (gA G H0.size) U U.heap)) (va_Qi (fun (r : Int32) (u : Unit) => (0 ≤ r.toInt ∧ r.toInt ≤ 0) ∧ (r = 0)) (fun (_ : Unit) (t : State) => gH (dC, dI) kA (SHm q (wP wZ wN wH wB wC wL wK wU wV) PI im PM PT lS lB lE lN) G t.heap ∧ gF (dC, dI) SKm G ([] : List (Nat × Nat)) H0 t.heap) (gA G H0.size)) 0 0 (gA G H0.size) := by
  refine Met.ofW (cc := cX12_acres) (maxL := 4) (ret := (some .int)) (by decide) rfl ?_
  intro p e s m args below meth c s₁ B hml hv
  obtain ⟨rfl, hH0, hK, hE⟩ := hv
  have hx := B.exec
  have hb := B.bytes
  have hr := B.returns
  have hts := atoms_spec (ws := w_s_acresZ) B.pre
  have hown : s.vm.findClass RX12 = some m.cls := findClass_of_methodNamed B.named
  have hlocks := B.notSynchronized
  subst hH0
  generalize hAe : gA G s.heap.size = A at hE ⊢
  have hA : ∀ q : Nat, s.heap.size ≤ q → A q := fun q h => by rw [← hAe]; exact Or.inr h
  have hG := gA_of hAe
  have hS : va_S A s.heap s.heap [] := va_S.rf
  have hF : gF (dC, dI) SKm G ([] : List (Nat × Nat)) s.heap s.heap := gF.rf
  have hl := lv_entry ([.ref o0, .int pe]) (n := 4) (Nat.le_of_ble_eq_true rfl)
  rw [lg_entry_eq]
  generalize (lg_sl ([.ref o0, .int pe]) ++ List.replicate (4 - (lg_sl ([.ref o0, .int pe])).length) Slot.unset).toArray = ls at hl ⊢
  have hl : lv_has ls 4 [(0, .ref o0), (1, .int pe)] := hl
  have hg1 : G (q 38) = some 39 := gx_of hT hr_o0 shm_0 (k := 38) (by decide) rfl
  refine lv_iconst (v := 0) hx hb dX12_acres_0 (by decide) ?_
  refine lv_istore_n (lv' := [(2, .int 0), (0, .ref o0), (1, .int pe)]) hx hb dX12_acres_1 rfl hl (by decide) rfl (fun ls hl => ?_)
  refine lv_iconst (v := 0) hx hb dX12_acres_2 (by decide) ?_
  refine lv_istore_n (lv' := [(3, .int 0), (2, .int 0), (0, .ref o0), (1, .int pe)]) hx hb dX12_acres_3 rfl hl (by decide) rfl (fun ls hl => ?_)
  refine lv_iload_n hx hb dX12_acres_4 rfl (lv_at hl 0 rfl) ?_
  refine lv_bipush (v := 96) hx hb dX12_acres_5 (by decide) ?_
  refine lv_icmp_ge (tgt := 62) hx hb dX12_acres_7 (by decide) (fun c2 => absurd c2 (by decide)) (fun c2 => ?_)
  refine lv_aload_n hx hb dX12_acres_10 rfl (lv_at hl 2 rfl) ?_
  refine tw_get hx hb hts bF_X12 hown hK hT hr_o0 shm_0 rfl 38 (by decide) (ht_at hts 0 rfl) (fun _ h9 => h9) dX12_acres_11 (fun v9 m3 h9 => ?_)
  obtain ⟨rfl, hg4⟩ := h9 _ rfl
  refine lv_iload_n hx hb dX12_acres_14 rfl (lv_at hl 3 rfl) ?_
  refine tw_iald (i := pe) hx hb hK hT hg1 shm_39 rfl (vin_t (a := pe.toInt) rfl (by omega) (by omega)) dX12_acres_15 (fun v9 m5 h9 => ?_)
  obtain ⟨x6, rfl, gx6, kx6⟩ := h9
  have cx6 := hc_vH.at m5 (by have q9 := tn_of (show pe.toInt = pe.toInt from rfl) (by omega); omega)
  have t7 : x6.toInt < 0 := (by rw [cx6]; exact hno)
  refine lv_if_lt (tgt := 62) hx hb dX12_acres_16 (by decide) (fun c8 => ?_) (fun c8 => (by exfalso; have q9 : 0 ≤ x6.toInt := ti_nlt c8 rfl (by decide); omega))
  have t9 : x6.toInt < 0 := ti_lt c8 rfl (by decide)
  refine lv_iload_n hx hb dX12_acres_62 rfl (lv_at hl 1 rfl) ?_
  exact W.iret (v := 0) hx hb hr (fun t ht hW => ⟨⟨0, (), rfl, (by exact ⟨(rg_t (a := 0) (by decide) (by first | decide | omega) (by first | decide | omega)), rfl⟩), by (try dsimp only); rw [ht]; exact ⟨hT, hF⟩⟩, hS.F ht⟩) hS.2.2 dX12_acres_63
def w_s_nearZ : List Cond := .code yX12_near cX12_near 5 (some .int) :: (HAppend.hAppend (α := List Cond) (β := List Cond) (γ := List Cond) [.fieldLink RX12 101 "SeaLandModel" "holds" "[I"] bs)
set_option maxHeartbeats 4000000 in
set_option maxRecDepth 100000 in
theorem s_nearZ (l : Launch) (dC : Nat → ClassId) (dI : Nat → Nat → Nat) (kA : Nat → ClassId) (adK adV : Nat → Nat) (G : gT) (H0 : Heap) (q : Nat → Nat) (wZ wN : Nat → Int) (wH wB wC : Int) (wL wK : Nat → Prop) (wU wV : Nat → Nat) (PI : Nat → Int → Prop) (im : Int) (PM PT : Nat → Int → Prop) (lS lB lE : Nat → Nat → Int → Prop) (lN : Nat → Int) (o0 : Nat) (pe : Int32) (vH : Nat → Int32)  (hT : gH (dC, dI) kA (SHm q (wP wZ wN wH wB wC wL wK wU wV) PI im PM PT lS lB lE lN) G H0) (hr_o0 : G o0 = some 0) (hq0 : 0 ≤ pe.toInt ∧ pe.toInt ≤ 59) (hno : (vH pe.toNatClampNeg).toInt < 0) (hc_vH : ct H0 (q 38) 60 vH) (hgz : ∀ i, 0 ≤ wZ i) (hgn : ∀ i, 6500000 ≤ wN i ∧ wN i ≤ 20200000) (hgh : 0 ≤ wH ∧ wH ≤ 40000) (hgb : 0 ≤ wB ∧ wB ≤ 3850000) (hgc : 0 ≤ wC ∧ wC ≤ 30) (hgi : 0 ≤ im ∧ im ≤ 1) (hgu : ∀ a t, G a = some (t + 1) → a = q t) : Met l yX12_near w_s_nearZ ({ frames := 0, cells := 0, slots := 0, locals := 0 }) (va_Pc [.ref o0, .int pe] (fun U => U.heap = H0 ∧ va_K (dC, dI) vwCl (tyl kA) U ∧ EVS adK adV (gA G H0.size) U U.heap)) (va_Qi (fun (r : Int32) (u : Unit) => (99 ≤ r.toInt ∧ r.toInt ≤ 99) ∧ (r = 99)) (fun (_ : Unit) (t : State) => gH (dC, dI) kA (SHm q (wP wZ wN wH wB wC wL wK wU wV) PI im PM PT lS lB lE lN) G t.heap ∧ gF (dC, dI) SKm G ([] : List (Nat × Nat)) H0 t.heap) (gA G H0.size)) 0 0 (gA G H0.size) := by
  refine Met.ofW (cc := cX12_near) (maxL := 5) (ret := (some .int)) (by decide) rfl ?_
  intro p e s m args below meth c s₁ B hml hv
  obtain ⟨rfl, hH0, hK, hE⟩ := hv
  have hx := B.exec
  have hb := B.bytes
  have hr := B.returns
  have hts := atoms_spec (ws := w_s_nearZ) B.pre
  have hown : s.vm.findClass RX12 = some m.cls := findClass_of_methodNamed B.named
  have hlocks := B.notSynchronized
  subst hH0
  generalize hAe : gA G s.heap.size = A at hE ⊢
  have hA : ∀ q : Nat, s.heap.size ≤ q → A q := fun q h => by rw [← hAe]; exact Or.inr h
  have hG := gA_of hAe
  have hS : va_S A s.heap s.heap [] := va_S.rf
  have hF : gF (dC, dI) SKm G ([] : List (Nat × Nat)) s.heap s.heap := gF.rf
  have hl := lv_entry ([.ref o0, .int pe]) (n := 5) (Nat.le_of_ble_eq_true rfl)
  rw [lg_entry_eq]
  generalize (lg_sl ([.ref o0, .int pe]) ++ List.replicate (5 - (lg_sl ([.ref o0, .int pe])).length) Slot.unset).toArray = ls at hl ⊢
  have hl : lv_has ls 5 [(0, .ref o0), (1, .int pe)] := hl
  have hg1 : G (q 38) = some 39 := gx_of hT hr_o0 shm_0 (k := 38) (by decide) rfl
  refine lv_bipush (v := 99) hx hb dX12_near_0 (by decide) ?_
  refine lv_istore_n (lv' := [(2, .int 99), (0, .ref o0), (1, .int pe)]) hx hb dX12_near_2 rfl hl (by decide) rfl (fun ls hl => ?_)
  refine lv_iconst (v := 0) hx hb dX12_near_3 (by decide) ?_
  refine lv_istore_n (lv' := [(3, .int 0), (2, .int 99), (0, .ref o0), (1, .int pe)]) hx hb dX12_near_4 rfl hl (by decide) rfl (fun ls hl => ?_)
  refine lv_iload_n hx hb dX12_near_5 rfl (lv_at hl 0 rfl) ?_
  refine lv_bipush (v := 96) hx hb dX12_near_6 (by decide) ?_
  refine lv_icmp_ge (tgt := 105) hx hb dX12_near_8 (by decide) (fun c2 => absurd c2 (by decide)) (fun c2 => ?_)
  refine lv_aload_n hx hb dX12_near_11 rfl (lv_at hl 2 rfl) ?_
  refine tw_get hx hb hts bF_X12 hown hK hT hr_o0 shm_0 rfl 38 (by decide) (ht_at hts 0 rfl) (fun _ h9 => h9) dX12_near_12 (fun v9 m3 h9 => ?_)
  obtain ⟨rfl, hg4⟩ := h9 _ rfl
  refine lv_iload_n hx hb dX12_near_15 rfl (lv_at hl 3 rfl) ?_
  refine tw_iald (i := pe) hx hb hK hT hg1 shm_39 rfl (vin_t (a := pe.toInt) rfl (by omega) (by omega)) dX12_near_16 (fun v9 m5 h9 => ?_)
  obtain ⟨x6, rfl, gx6, kx6⟩ := h9
  have cx6 := hc_vH.at m5 (by have q9 := tn_of (show pe.toInt = pe.toInt from rfl) (by omega); omega)
  have t7 : x6.toInt < 0 := (by rw [cx6]; exact hno)
  refine lv_if_lt (tgt := 105) hx hb dX12_near_17 (by decide) (fun c8 => ?_) (fun c8 => (by exfalso; have q9 : 0 ≤ x6.toInt := ti_nlt c8 rfl (by decide); omega))
  have t9 : x6.toInt < 0 := ti_lt c8 rfl (by decide)
  refine lv_iload_n hx hb dX12_near_105 rfl (lv_at hl 1 rfl) ?_
  exact W.iret (v := 99) hx hb hr (fun t ht hW => ⟨⟨99, (), rfl, (by exact ⟨(rg_t (a := 99) (by decide) (by first | decide | omega) (by first | decide | omega)), rfl⟩), by (try dsimp only); rw [ht]; exact ⟨hT, hF⟩⟩, hS.F ht⟩) hS.2.2 dX12_near_106
def w_s_looksAtZ : List Cond := .code yX12_looksAt cX12_looksAt 2 none :: (HAppend.hAppend (α := List Cond) (β := List Cond) (γ := List Cond) [.fieldLink RX12 76 "SeaLandModel" "facts" "[J", .code yX12_acres cX12_acres 4 (some .int), .fieldLink RX12 101 "SeaLandModel" "holds" "[I", .methodLink RX12 467 yX12_acres, .instanceMethod yX12_acres, .selects RX12 yX12_acres yX12_acres, .initialized RX12, .fieldLink RX12 104 "SeaLandModel" "gain" "[I", .fieldLink RX12 79 "SeaLandModel" "age" "[I", .fieldLink RX12 82 "SeaLandModel" "sons" "[I", .fieldLink RX12 85 "SeaLandModel" "coin" "[I", .fieldLink RX12 88 "SeaLandModel" "cattle" "[I", .fieldLink RX12 91 "SeaLandModel" "isKin" "[Z", .fieldLink RX12 95 "SeaLandModel" "isBoard" "[Z", .code yX12_near cX12_near 5 (some .int), .methodLink RX12 469 yX12_near, .instanceMethod yX12_near, .selects RX12 yX12_near yX12_near, .fieldLink RX12 107 "SeaLandModel" "owes" "[I"] bs)
