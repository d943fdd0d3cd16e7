def w_s_ditches : List Cond := .code yX12_ditches cX12_ditches 5 none :: (HAppend.hAppend (α := List Cond) (β := List Cond) (γ := List Cond) [.fieldLink RX12 16 "SeaLandModel" "moves" "[I", .fieldLink RX12 9 "SeaLandModel" "world" "[I", .fieldLink RX12 22 "SeaLandModel" "movesSalt" "[I", .fieldLink RX12 19 "SeaLandModel" "movesTo" "[I", .code yX12_hasDitch cX12_hasDitch 2 (some .boolean), .code yX12_isLand cX12_isLand 2 (some .boolean), .methodLink RX12 235 yX12_isLand, .instanceMethod yX12_isLand, .selects RX12 yX12_isLand yX12_isLand, .initialized RX12, .methodLink RX12 298 yX12_hasDitch, .instanceMethod yX12_hasDitch, .selects RX12 yX12_hasDitch yX12_hasDitch, .code yX12_beside cX12_beside 2 (some .int), .methodLink RX12 301 yX12_beside, .static yX12_beside, .code yX12_level cX12_level 2 (some .int), .code yX12_hour cX12_hour 1 (some .int), .methodLink RX12 228 yX12_hour, .instanceMethod yX12_hour, .selects RX12 yX12_hour yX12_hour, .code yX12_outside cX12_outside 4 (some .int), .code yX12_in cX12_in 3 (some .boolean), .methodLink RX12 197 yX12_in, .static yX12_in, .methodLink RX12 247 yX12_outside, .instanceMethod yX12_outside, .selects RX12 yX12_outside yX12_outside, .methodLink RX12 285 yX12_level, .instanceMethod yX12_level, .selects RX12 yX12_level yX12_level, .methodLink RX12 207 Lib.Math.min.name, .static Lib.Math.min.name, .initialized "java/lang/Math", .code Lib.Math.min.name Lib.Math.min.code 2 (some .int)] bs)
set_option maxHeartbeats 4000000 in
set_option maxRecDepth 100000 in
theorem s_ditches (l : Launch) (dC : Nat → ClassId) (dI : Nat → Nat → Nat) (kA : Nat → ClassId) (adK adV : Nat → Nat) (G : gT) (H0 : Heap) (q : Nat → Nat) (wZ wN : Nat → Int) (wH wB wC : Int) (wL wK : Nat → Prop) (wU wV : Nat → Nat) (PI : Nat → Int → Prop) (im : Int) (PM PT : Nat → Int → Prop) (lS lB lE : Nat → Nat → Int → Prop) (lN : Nat → Int) (o0 : Nat)  (hT : gH (dC, dI) kA (SHm q (wP wZ0 wN wH wB wC wL wK wU wV) PI im PM PT lS lB lE lN) G H0) (hr_o0 : G o0 = some 0) (hn2_ : ∀ i, 6500000 ≤ wN i ∧ wN i ≤ 20199920) (hgz : ∀ i, 0 ≤ wZ i) (hgn : ∀ i, 6500000 ≤ wN i ∧ wN i ≤ 20200000) (hgh : 0 ≤ wH ∧ wH ≤ 40000) (hgb : 0 ≤ wB ∧ wB ≤ 3850000) (hgc : 0 ≤ wC ∧ wC ≤ 30) (hgi : 0 ≤ im ∧ im ≤ 1) (hgu : ∀ a t, G a = some (t + 1) → a = q t) : Met l yX12_ditches w_s_ditches ({ frames := 3, cells := 0, slots := 0, locals := 66 }) (va_Pc [.ref o0] (fun U => U.heap = H0 ∧ va_K (dC, dI) vwCl (tyl kA) U ∧ EVS adK adV (gA G H0.size) U U.heap)) (va_Qv (fun (u : (Nat → Int) × (Nat → Int → Prop) × (Nat → Int → Prop)) => match u with | (wN1, PM1, PT1) => (∀ i, wN i ≤ wN1 i ∧ wN1 i ≤ wN i + 80)) (fun (u : (Nat → Int) × (Nat → Int → Prop) × (Nat → Int → Prop)) (t : State) => match u with | (wN1, PM1, PT1) => gH (dC, dI) kA (SHm q (wP wZ0 wN1 wH wB wC wL wK wU wV) PI im PM1 PT1 lS lB lE lN) G t.heap ∧ gF (dC, dI) SKm G ([(2, 0), (5, 0), (6, 0), (7, 0)] : List (Nat × Nat)) H0 t.heap) (gA G H0.size)) 0 0 (gA G H0.size) := by
  refine Met.ofW (cc := cX12_ditches) (maxL := 5) (ret := none) (by decide) rfl ?_
  intro p e s m args below meth c s₁ B hml hv
  obtain ⟨rfl, hH0, hK, hE⟩ := hv
  have hx := B.exec
  have hb := B.bytes
  have hr := B.returns
  have hts := atoms_spec (ws := w_s_ditches) B.pre
  have hown : s.vm.findClass RX12 = some m.cls := findClass_of_methodNamed B.named
  have hlocks := B.notSynchronized
  subst hH0
  generalize hAe : gA G s.heap.size = A at hE ⊢
  have hA : ∀ q : Nat, s.heap.size ≤ q → A q := fun q h => by rw [← hAe]; exact Or.inr h
  have hG := gA_of hAe
  have hS : va_S A s.heap s.heap [] := va_S.rf
  have hF : gF (dC, dI) SKm G ([(2, 0), (5, 0), (6, 0), (7, 0)] : List (Nat × Nat)) s.heap s.heap := gF.rf
  have hl := lv_entry ([.ref o0]) (n := 5) (Nat.le_of_ble_eq_true rfl)
  rw [lg_entry_eq]
  generalize (lg_sl ([.ref o0]) ++ List.replicate (5 - (lg_sl ([.ref o0])).length) Slot.unset).toArray = ls at hl ⊢
  have hl : lv_has ls 5 [(0, .ref o0)] := hl
  refine lv_iconst (v := 0) hx hb dX12_ditches_0 (by decide) ?_
  refine lv_istore_n (lv' := [(1, .int 0), (0, .ref o0)]) hx hb dX12_ditches_1 rfl hl (by decide) rfl (fun ls hl => ?_)
  have key277 : ∀ (n277 i1 : Nat), i1 + n277 = 96 → 0 ≤ i1 → ∀ (gmv2 : Nat → Int), ∀ (gnz3 : Nat → Prop), ((∀ j, 0 ≤ gmv2 j)) → ∀ (H : Heap) (locs : List Loc), gH (dC, dI) kA (SHm q (wP (zN1 gmv2 i1) wN wH wB wC wL wK wU wV) PI im (mvP gmv2 gnz3 i1) (mtP gnz3) lS lB lE lN) G H → gF (dC, dI) SKm G ([(2, 0), (5, 0), (6, 0), (7, 0)] : List (Nat × Nat)) s.heap H → va_S A s.heap H locs → ∀ ls : Array Slot, lv_has ls 5 [(1, .int (nI i1)), (0, .ref o0)] → W p l e (headSpec w_s_ditches ({ frames := 3, cells := 0, slots := 0, locals := 66 })).room s m #[.ref o0] below meth c H locs 0 0 (MQ below (va_Qv (fun (u : (Nat → Int) × (Nat → Int → Prop) × (Nat → Int → Prop)) => match u with | (wN1, PM1, PT1) => (∀ i, wN i ≤ wN1 i ∧ wN1 i ≤ wN i + 80)) (fun (u : (Nat → Int) × (Nat → Int → Prop) × (Nat → Int → Prop)) (t : State) => match u with | (wN1, PM1, PT1) => gH (dC, dI) kA (SHm q (wP wZ0 wN1 wH wB wC wL wK wU wV) PI im PM1 PT1 lS lB lE lN) G t.heap ∧ gF (dC, dI) SKm G ([(2, 0), (5, 0), (6, 0), (7, 0)] : List (Nat × Nat)) s.heap t.heap) A) #[.ref o0] s 0 0 A) (F0 m 2 ls []) := by
    intro n277
    induction n277 with
    | zero =>
      intro i1 hn277 hlo278 gmv2 gnz3 hg4 H locs hT hF hS  ls hl
      obtain rfl : 96 = i1 := by omega
      have t279 : ∀ i, 0 ≤ zN1 gmv2 96 i := z1_0 hg4 _
      refine lv_iload_n hx hb dX12_ditches_2 rfl (lv_at hl 0 rfl) ?_
      refine lv_bipush (v := 96) hx hb dX12_ditches_3 (by decide) ?_
      refine lv_icmp_ge (tgt := 215) hx hb dX12_ditches_5 (by decide) (fun c280 => ?_) (fun c280 => (by exfalso; have q9 : ((96 : Nat) : Int) < 96 := ti_nle c280 (by decide) (nI_toInt (by omega)); omega))
      have t281 : 96 ≤ ((96 : Nat) : Int) := ti_le c280 (by decide) (nI_toInt (by omega))
      refine lv_iconst (v := 0) hx hb dX12_ditches_215 (by decide) ?_
      refine lv_istore_n (lv' := [(1, .int 0), (0, .ref o0)]) hx hb dX12_ditches_216 rfl hl (by decide) rfl (fun ls hl => ?_)
      have key367 : ∀ (n367 i282 : Nat), i282 + n367 = 96 → 0 ≤ i282 → ∀ (H : Heap) (locs : List Loc), gH (dC, dI) kA (SHm q (wP (zN2 gmv2 i282) (dtN wN i282) wH wB wC wL wK wU wV) PI im (mvP gmv2 gnz3 96) (mtP gnz3) lS lB lE lN) G H → gF (dC, dI) SKm G ([(2, 0), (5, 0), (6, 0), (7, 0)] : List (Nat × Nat)) s.heap H → va_S A s.heap H locs → ∀ ls : Array Slot, lv_has ls 5 [(1, .int (nI i282)), (0, .ref o0)] → W p l e (headSpec w_s_ditches ({ frames := 3, cells := 0, slots := 0, locals := 66 })).room s m #[.ref o0] below meth c H locs 0 0 (MQ below (va_Qv (fun (u : (Nat → Int) × (Nat → Int → Prop) × (Nat → Int → Prop)) => match u with | (wN1, PM1, PT1) => (∀ i, wN i ≤ wN1 i ∧ wN1 i ≤ wN i + 80)) (fun (u : (Nat → Int) × (Nat → Int → Prop) × (Nat → Int → Prop)) (t : State) => match u with | (wN1, PM1, PT1) => gH (dC, dI) kA (SHm q (wP wZ0 wN1 wH wB wC wL wK wU wV) PI im PM1 PT1 lS lB lE lN) G t.heap ∧ gF (dC, dI) SKm G ([(2, 0), (5, 0), (6, 0), (7, 0)] : List (Nat × Nat)) s.heap t.heap) A) #[.ref o0] s 0 0 A) (F0 m 217 ls []) := by
        intro n367
        induction n367 with
        | zero =>
          intro i282 hn367 hlo368  H locs hT hF hS  ls hl
          obtain rfl : 96 = i282 := by omega
          have t369 : ∀ i, 0 ≤ zN2 gmv2 96 i := z2_0 hg4 _
          have t370 : ∀ i, 6500000 ≤ dtN wN 96 i ∧ dtN wN 96 i ≤ 20200000 := fun i => by have q8 := hn2_ i; have q9 := dt_b wN 96 i; omega
          refine lv_iload_n hx hb dX12_ditches_217 rfl (lv_at hl 0 rfl) ?_
          refine lv_bipush (v := 96) hx hb dX12_ditches_218 (by decide) ?_
          refine lv_icmp_ge (tgt := 327) hx hb dX12_ditches_220 (by decide) (fun c371 => ?_) (fun c371 => (by exfalso; have q9 : ((96 : Nat) : Int) < 96 := ti_nle c371 (by decide) (nI_toInt (by omega)); omega))
          have t372 : 96 ≤ ((96 : Nat) : Int) := ti_le c371 (by decide) (nI_toInt (by omega))
          have hT : gH (dC, dI) kA (SHm q (wP wZ0 (dtN wN 96) wH wB wC wL wK wU wV) PI im (mvP gmv2 gnz3 96) (mtP gnz3) lS lB lE lN) G H := SHm_w hT (fun i hi x p => wP_mono hi (t369 i) (Int.le_refl _) (Int.le_refl _) (fun _ => rfl) p)
          exact W.vret hx hb hr (fun t ht hW => ⟨⟨((dtN wN 96), (mvP gmv2 gnz3 96), (mtP gnz3)), rfl, (by exact (fun i => dt_b _ _ i)), by (try dsimp only); rw [ht]; exact ⟨hT, hF⟩⟩, hS.F ht⟩) hS.2.2 dX12_ditches_327
        | succ n367 ih367 =>
          intro i282 hn367 hlo368  H locs hT hF hS  ls hl
          have hlt372 : i282 < 96 := by omega
          have t373 : ∀ i, 0 ≤ zN2 gmv2 i282 i := z2_0 hg4 _
          have t374 : ∀ i, 6500000 ≤ dtN wN i282 i ∧ dtN wN i282 i ≤ 20200000 := fun i => by have q8 := hn2_ i; have q9 := dt_b wN i282 i; omega
          refine lv_iload_n hx hb dX12_ditches_217 rfl (lv_at hl 0 rfl) ?_
          refine lv_bipush (v := 96) hx hb dX12_ditches_218 (by decide) ?_
          refine lv_icmp_ge (tgt := 327) hx hb dX12_ditches_220 (by decide) (fun c375 => (by exfalso; have q9 : 96 ≤ ((i282 : Nat) : Int) := ti_le c375 (by decide) (nI_toInt (by omega)); omega)) (fun c375 => ?_)
          have t376 : ((i282 : Nat) : Int) < 96 := ti_nle c375 (by decide) (nI_toInt (by omega))
          refine lv_aload_n hx hb dX12_ditches_223 rfl (lv_at hl 1 rfl) ?_
          refine tw_get hx hb hts bF_X12 hown hK hT hr_o0 shm_0 rfl 4 (by decide) (ht_at hts 0 rfl) (fun _ h9 => h9) dX12_ditches_224 (fun v9 m377 h9 => ?_)
          obtain ⟨rfl, hg378⟩ := h9 _ rfl
          refine lv_iload_n hx hb dX12_ditches_227 rfl (lv_at hl 0 rfl) ?_
          refine tw_iald (i := (nI i282)) hx hb hK hT hg378 shm_5 rfl (vp_in_nI (by omega) (by decide)) dX12_ditches_228 (fun v9 m379 h9 => ?_)
          obtain ⟨x380, rfl, gx380, kx380⟩ := (gm_at h9)
          refine lv_if_ne (tgt := 235) hx hb dX12_ditches_229 (by decide) (fun c381 => ?_) (fun c381 => ?_)
          · have t382 : x380.toInt ≠ 0 := ti_ne c381 rfl (by decide)
            have hq_ := mm_of hT hg378 shm_5 (by have q9 := tn_of (show (nI i282).toInt = ((i282 : Nat) : Int) from (nI_toInt (by omega))) (by omega); omega) m379
            rw [show (nI i282).toNatClampNeg = i282 from tn_nI (by omega)] at hq_
            obtain ⟨hq1_, hq2_⟩ := hq_ (by omega)
            have hq3_ := hq2_ (by omega)
            refine lv_aload_n hx hb dX12_ditches_235 rfl (lv_at hl 1 rfl) ?_
            refine tw_get hx hb hts bF_X12 hown hK hT hr_o0 shm_0 rfl 1 (by decide) (ht_at hts 1 rfl) (fun _ h9 => h9) dX12_ditches_236 (fun v9 m383 h9 => ?_)
            obtain ⟨rfl, hg384⟩ := h9 _ rfl
            refine lv_sipush (v := 384) hx hb dX12_ditches_239 (by decide) ?_
            refine lv_iload_n hx hb dX12_ditches_242 rfl (lv_at hl 0 rfl) ?_
            refine lv_iadd hx hb dX12_ditches_243 ?_
            refine lv_topi (fun x385 ex385 => ?_)
            obtain rfl : nI (384 + i282) = x385 := (ex385.trans (nI_add 384 i282)).symm
            refine lv_dup2_11 hx hb dX12_ditches_244 rfl rfl ?_
            refine tw_iald (i := (nI (384 + i282))) hx hb hK hT hg384 shm_2 rfl (vp_in_nI (by omega) (by decide)) dX12_ditches_245 (fun v9 m386 h9 => ?_)
            obtain ⟨x387, rfl, gx387, kx387⟩ := (gw_at h9 (w_wat (by have q9 := tn_of (show (nI (384 + i282)).toInt = ((384 + i282 : Nat) : Int) from (nI_toInt (by omega))) (show (0 : Int) ≤ ((384 + i282 : Nat) : Int) from by omega); omega)) t374 t373)
            refine lv_aload_n hx hb dX12_ditches_246 rfl (lv_at hl 1 rfl) ?_
            refine tw_get hx hb hts bF_X12 hown hK hT hr_o0 shm_0 rfl 4 (by decide) (ht_at hts 0 rfl) (fun _ h9 => h9) dX12_ditches_247 (fun v9 m388 h9 => ?_)
            obtain ⟨rfl, hg389⟩ := h9 _ rfl
            refine lv_iload_n hx hb dX12_ditches_250 rfl (lv_at hl 0 rfl) ?_
            refine tw_iald (i := (nI i282)) hx hb hK hT hg378 shm_5 rfl (vp_in_nI (by omega) (by decide)) dX12_ditches_251 (fun v9 m390 h9 => ?_)
            obtain ⟨x391, rfl, gx391, kx391⟩ := (gm_at h9)
            obtain rfl : x380 = x391 := (el_same m390 m379 rfl).symm
            refine lv_isub hx hb dX12_ditches_252 ?_
            refine lv_topi (fun x392 ex392 => ?_)
            have t393 : x392.toInt = x387.toInt - x380.toInt := ti_sub ex392 rfl rfl (by omega) (by omega)
            have t394 : (((nI (384 + i282)).toNatClampNeg : Nat) : Int) = ((384 + i282 : Nat) : Int) := tn_of (show (nI (384 + i282)).toInt = ((384 + i282 : Nat) : Int) from (nI_toInt (by omega))) (by omega)
            have t395 : zN2 gmv2 i282 (nI (384 + i282)).toNatClampNeg = gmv2 i282 ∧ zN2 gmv2 (i282 + 1) (nI (384 + i282)).toNatClampNeg = 0 := z2_at (by omega) (by omega)
            refine tw_iast2 (Sg1 := (SHm q (wP (zN2 gmv2 (i282 + 1)) (dtN wN i282) wH wB wC wL wK wU wV) PI im (mvP gmv2 gnz3 96) (mtP gnz3) lS lB lE lN)) (i := (nI (384 + i282))) (x := x392) hx hb hK hT hG hS hg384 shm_2 rfl shm_2 shm_o2 (fun b9 h9 => hgu b9 1 h9) (vp_in_nI (by omega) (by decide)) (gp_of (gi_of (show x392.toInt = x392.toInt from rfl) (by omega) (by omega)) (w_wat (by omega)) (wX_o (by omega) (by omega))) (fun k9 hk9 hne9 v9 hv9 he9 => by obtain ⟨x9, rfl, p9⟩ := he9; exact ⟨x9, rfl, wP_mono hk9 (z2_m hg4 i282 k9) (Int.le_refl _) (Int.le_refl _) (fun _ => rfl) p9⟩) dX12_ditches_253 (fun H locs hT oq m396 oi hS => ?_)
            have hF := hF.ast hg384 skm_2 oq (by decide)
            have m397 := (el_kept (oq _ (gne hg378 hg384 (by decide)))).trans m379
            have t398 : ∀ i, 0 ≤ zN2 gmv2 (i282 + 1) i := z2_0 hg4 _
            refine lv_aload_n hx hb dX12_ditches_254 rfl (lv_at hl 1 rfl) ?_
            refine tw_get hx hb hts bF_X12 hown hK hT hr_o0 shm_0 rfl 1 (by decide) (ht_at hts 1 rfl) (fun _ h9 => h9) dX12_ditches_255 (fun v9 m399 h9 => ?_)
            obtain ⟨rfl, hg400⟩ := h9 _ rfl
            refine lv_sipush (v := 480) hx hb dX12_ditches_258 (by decide) ?_
            refine lv_iload_n hx hb dX12_ditches_261 rfl (lv_at hl 0 rfl) ?_
            refine lv_iadd hx hb dX12_ditches_262 ?_
            refine lv_topi (fun x401 ex401 => ?_)
            obtain rfl : nI (480 + i282) = x401 := (ex401.trans (nI_add 480 i282)).symm
            refine lv_dup2_11 hx hb dX12_ditches_263 rfl rfl ?_
            refine tw_iald (i := (nI (480 + i282))) hx hb hK hT hg384 shm_2 rfl (vp_in_nI (by omega) (by decide)) dX12_ditches_264 (fun v9 m402 h9 => ?_)
            obtain ⟨x403, rfl, gx403, kx403⟩ := (gp_at h9 (w_fre (by have q9 := tn_of (show (nI (480 + i282)).toInt = ((480 + i282 : Nat) : Int) from (nI_toInt (by omega))) (show (0 : Int) ≤ ((480 + i282 : Nat) : Int) from by omega); omega)))
            refine lv_aload_n hx hb dX12_ditches_265 rfl (lv_at hl 1 rfl) ?_
            refine tw_get hx hb hts bF_X12 hown hK hT hr_o0 shm_0 rfl 6 (by decide) (ht_at hts 2 rfl) (fun _ h9 => h9) dX12_ditches_266 (fun v9 m404 h9 => ?_)
            obtain ⟨rfl, hg405⟩ := h9 _ rfl
            refine lv_iload_n hx hb dX12_ditches_269 rfl (lv_at hl 0 rfl) ?_
            refine tw_iald (i := (nI i282)) hx hb hK hT hg405 shm_7 rfl (vp_in_nI (by omega) (by decide)) dX12_ditches_270 (fun v9 m406 h9 => ?_)
            obtain ⟨x407, rfl, gx407, kx407⟩ := h9
            refine lv_isub hx hb dX12_ditches_271 ?_
            refine lv_topi (fun x408 ex408 => ?_)
            refine tw_iast (i := (nI (480 + i282))) (x := x408) hx hb hK hT hG hS hg384 shm_2 rfl (vp_in_nI (by omega) (by decide)) (gp_of (gi_all _) (w_fre (by have q9 := tn_of (show (nI (480 + i282)).toInt = ((480 + i282 : Nat) : Int) from (nI_toInt (by omega))) (show (0 : Int) ≤ ((480 + i282 : Nat) : Int) from by omega); omega)) (wX_o (by have q9 := tn_of (show (nI (480 + i282)).toInt = ((480 + i282 : Nat) : Int) from (nI_toInt (by omega))) (show (0 : Int) ≤ ((480 + i282 : Nat) : Int) from by omega); omega) (by omega))) dX12_ditches_272 (fun H locs hT oq m409 oi hS => ?_)
            have hF := hF.ast hg384 skm_2 oq (by decide)
            have m410 := (el_kept (oq _ (gne hg378 hg384 (by decide)))).trans m397
            have m411 := (oi _ (tn_ne (show (nI (384 + i282)).toInt = ((384 + i282 : Nat) : Int) from (nI_toInt (by omega))) (show (nI (480 + i282)).toInt = ((480 + i282 : Nat) : Int) from (nI_toInt (by omega))) (by omega) (by omega) (by omega))).trans m396
            have m412 := (el_kept (oq _ (gne hg405 hg384 (by decide)))).trans m406
            refine lv_aload_n hx hb dX12_ditches_273 rfl (lv_at hl 1 rfl) ?_
            refine tw_get hx hb hts bF_X12 hown hK hT hr_o0 shm_0 rfl 1 (by decide) (ht_at hts 1 rfl) (fun _ h9 => h9) dX12_ditches_274 (fun v9 m413 h9 => ?_)
            obtain ⟨rfl, hg414⟩ := h9 _ rfl
            refine lv_sipush (v := 384) hx hb dX12_ditches_277 (by decide) ?_
            refine lv_aload_n hx hb dX12_ditches_280 rfl (lv_at hl 1 rfl) ?_
            refine tw_get hx hb hts bF_X12 hown hK hT hr_o0 shm_0 rfl 5 (by decide) (ht_at hts 3 rfl) (fun _ h9 => h9) dX12_ditches_281 (fun v9 m415 h9 => ?_)
            obtain ⟨rfl, hg416⟩ := h9 _ rfl
            refine lv_iload_n hx hb dX12_ditches_284 rfl (lv_at hl 0 rfl) ?_
            refine tw_iald (i := (nI i282)) hx hb hK hT hg416 shm_6 rfl (vp_in_nI (by omega) (by decide)) dX12_ditches_285 (fun v9 m417 h9 => ?_)
            obtain ⟨x418, rfl, gx418, kx418⟩ := (gm_at h9)
            have hq4_ := mm_of hT hg416 shm_6 (by have q9 := tn_of (show (nI i282).toInt = ((i282 : Nat) : Int) from (nI_toInt (by omega))) (by omega); omega) m417
            rw [show (nI i282).toNatClampNeg = i282 from tn_nI (by omega)] at hq4_
            obtain ⟨u_, hu1_, hu2_⟩ := hq4_ hq3_
            refine lv_iadd hx hb dX12_ditches_286 ?_
            refine lv_topi (fun x419 ex419 => ?_)
            have t420 : x419.toInt = 384 + x418.toInt := ti_add ex419 (by decide) rfl (by omega) (by omega)
            refine lv_dup2_11 hx hb dX12_ditches_287 rfl rfl ?_
            refine tw_iald (i := x419) hx hb hK hT hg384 shm_2 rfl (vin_t (a := x419.toInt) rfl (by omega) (by omega)) dX12_ditches_288 (fun v9 m421 h9 => ?_)
            obtain ⟨x422, rfl, gx422, kx422⟩ := (gw_at h9 (w_wat (by have q9 := tn_of (show x419.toInt = x419.toInt from rfl) (show (0 : Int) ≤ x419.toInt from by omega); omega)) t374 t398)
            refine lv_aload_n hx hb dX12_ditches_289 rfl (lv_at hl 1 rfl) ?_
            refine tw_get hx hb hts bF_X12 hown hK hT hr_o0 shm_0 rfl 4 (by decide) (ht_at hts 0 rfl) (fun _ h9 => h9) dX12_ditches_290 (fun v9 m423 h9 => ?_)
            obtain ⟨rfl, hg424⟩ := h9 _ rfl
            refine lv_iload_n hx hb dX12_ditches_293 rfl (lv_at hl 0 rfl) ?_
            refine tw_iald (i := (nI i282)) hx hb hK hT hg378 shm_5 rfl (vp_in_nI (by omega) (by decide)) dX12_ditches_294 (fun v9 m425 h9 => ?_)
            obtain ⟨x426, rfl, gx426, kx426⟩ := (gm_at h9)
            obtain rfl : x380 = x426 := (el_same m425 m410 rfl).symm
            refine lv_iadd hx hb dX12_ditches_295 ?_
            refine lv_topi (fun x427 ex427 => ?_)
            have t428 : x427.toInt = x422.toInt + x380.toInt := ti_add ex427 rfl rfl (by omega) (by omega)
            have t429 : ((x419.toNatClampNeg : Nat) : Int) = x419.toInt := tn_of (show x419.toInt = x419.toInt from rfl) (by omega)
            have t430 : dtN wN i282 x419.toNatClampNeg + 20 ≤ dtN wN (i282 + 1) x419.toNatClampNeg := dt_s hu2_ (by omega)
            refine tw_iast2 (Sg1 := (SHm q (wP (zN2 gmv2 (i282 + 1)) (dtN wN (i282 + 1)) wH wB wC wL wK wU wV) PI im (mvP gmv2 gnz3 96) (mtP gnz3) lS lB lE lN)) (i := x419) (x := x427) hx hb hK hT hG hS hg384 shm_2 rfl shm_2 shm_o2 (fun b9 h9 => hgu b9 1 h9) (vin_t (a := x419.toInt) rfl (by omega) (by omega)) (gp_of (gi_of (show x427.toInt = x427.toInt from rfl) (by omega) (by omega)) (w_wat (by omega)) (wX_o (by omega) (by omega))) (fun k9 hk9 hne9 v9 hv9 he9 => by obtain ⟨x9, rfl, p9⟩ := he9; exact ⟨x9, rfl, wP_mono hk9 (Int.le_refl _) (dt_m wN i282 k9) (Int.le_refl _) (fun _ => rfl) p9⟩) dX12_ditches_296 (fun H locs hT oq m431 oi hS => ?_)
            have hF := hF.ast hg384 skm_2 oq (by decide)
            have m432 := (el_kept (oq _ (gne hg378 hg384 (by decide)))).trans m410
            have m433 := (el_kept (oq _ (gne hg405 hg384 (by decide)))).trans m412
            have m434 := (oi _ (tn_ne (show (nI (480 + i282)).toInt = ((480 + i282 : Nat) : Int) from (nI_toInt (by omega))) (show x419.toInt = x419.toInt from rfl) (by omega) (by omega) (by omega))).trans m409
            have m435 := (el_kept (oq _ (gne hg416 hg384 (by decide)))).trans m417
            have t436 : ∀ i, 0 ≤ zN2 gmv2 (i282 + 1) i := z2_0 hg4 _
            have t437 : ∀ i, 6500000 ≤ dtN wN (i282 + 1) i ∧ dtN wN (i282 + 1) i ≤ 20200000 := fun i => by have q8 := hn2_ i; have q9 := dt_b wN (i282 + 1) i; omega
            refine lv_aload_n hx hb dX12_ditches_297 rfl (lv_at hl 1 rfl) ?_
            refine tw_get hx hb hts bF_X12 hown hK hT hr_o0 shm_0 rfl 1 (by decide) (ht_at hts 1 rfl) (fun _ h9 => h9) dX12_ditches_298 (fun v9 m438 h9 => ?_)
            obtain ⟨rfl, hg439⟩ := h9 _ rfl
            refine lv_sipush (v := 480) hx hb dX12_ditches_301 (by decide) ?_
            refine lv_aload_n hx hb dX12_ditches_304 rfl (lv_at hl 1 rfl) ?_
            refine tw_get hx hb hts bF_X12 hown hK hT hr_o0 shm_0 rfl 5 (by decide) (ht_at hts 3 rfl) (fun _ h9 => h9) dX12_ditches_305 (fun v9 m440 h9 => ?_)
            obtain ⟨rfl, hg441⟩ := h9 _ rfl
            refine lv_iload_n hx hb dX12_ditches_308 rfl (lv_at hl 0 rfl) ?_
            refine tw_iald (i := (nI i282)) hx hb hK hT hg416 shm_6 rfl (vp_in_nI (by omega) (by decide)) dX12_ditches_309 (fun v9 m442 h9 => ?_)
            obtain ⟨x443, rfl, gx443, kx443⟩ := (gm_at h9)
            obtain rfl : x418 = x443 := (el_same m442 m435 rfl).symm
            refine lv_iadd hx hb dX12_ditches_310 ?_
            refine lv_topi (fun x444 ex444 => ?_)
            have t445 : x444.toInt = 480 + x418.toInt := ti_add ex444 (by decide) rfl (by omega) (by omega)
            refine lv_dup2_11 hx hb dX12_ditches_311 rfl rfl ?_
            refine tw_iald (i := x444) hx hb hK hT hg384 shm_2 rfl (vin_t (a := x444.toInt) rfl (by omega) (by omega)) dX12_ditches_312 (fun v9 m446 h9 => ?_)
            obtain ⟨x447, rfl, gx447, kx447⟩ := (gp_at h9 (w_fre (by have q9 := tn_of (show x444.toInt = x444.toInt from rfl) (show (0 : Int) ≤ x444.toInt from by omega); omega)))
            refine lv_aload_n hx hb dX12_ditches_313 rfl (lv_at hl 1 rfl) ?_
            refine tw_get hx hb hts bF_X12 hown hK hT hr_o0 shm_0 rfl 6 (by decide) (ht_at hts 2 rfl) (fun _ h9 => h9) dX12_ditches_314 (fun v9 m448 h9 => ?_)
            obtain ⟨rfl, hg449⟩ := h9 _ rfl
            refine lv_iload_n hx hb dX12_ditches_317 rfl (lv_at hl 0 rfl) ?_
            refine tw_iald (i := (nI i282)) hx hb hK hT hg405 shm_7 rfl (vp_in_nI (by omega) (by decide)) dX12_ditches_318 (fun v9 m450 h9 => ?_)
            obtain ⟨x451, rfl, gx451, kx451⟩ := h9
            obtain rfl : x407 = x451 := (el_same m450 m433 rfl).symm
            refine lv_iadd hx hb dX12_ditches_319 ?_
            refine lv_topi (fun x452 ex452 => ?_)
            refine tw_iast (i := x444) (x := x452) hx hb hK hT hG hS hg384 shm_2 rfl (vin_t (a := x444.toInt) rfl (by omega) (by omega)) (gp_of (gi_all _) (w_fre (by have q9 := tn_of (show x444.toInt = x444.toInt from rfl) (show (0 : Int) ≤ x444.toInt from by omega); omega)) (wX_o (by have q9 := tn_of (show x444.toInt = x444.toInt from rfl) (show (0 : Int) ≤ x444.toInt from by omega); omega) (by omega))) dX12_ditches_320 (fun H locs hT oq m453 oi hS => ?_)
            have hF := hF.ast hg384 skm_2 oq (by decide)
            have m454 := (el_kept (oq _ (gne hg378 hg384 (by decide)))).trans m432
            have m455 := (el_kept (oq _ (gne hg405 hg384 (by decide)))).trans m433
            have m456 := (el_kept (oq _ (gne hg416 hg384 (by decide)))).trans m435
            have m457 := (oi _ (tn_ne (show x419.toInt = x419.toInt from rfl) (show x444.toInt = x444.toInt from rfl) (by omega) (by omega) (by omega))).trans m431
            refine lv_iinc (v := nI (i282 + 1)) (lv' := [(1, .int (nI (i282 + 1))), (0, .ref o0)]) hx hb dX12_ditches_321 hl (k := 0) rfl (nI_add i282 1) (by decide) rfl (fun ls hl => ?_)
            refine lv_goto (tgt := 217) hx hb dX12_ditches_324 (by decide) ?_
            exact ih367 (i282 + 1) (by omega) (by omega) _ _ hT hF hS ls (lv_sub hl [0, 1] rfl)
          · have t458 : x380.toInt = 0 := ti_eq c381 rfl (by decide)
            refine lv_goto (tgt := 321) hx hb dX12_ditches_232 (by decide) ?_
            refine lv_iinc (v := nI (i282 + 1)) (lv' := [(1, .int (nI (i282 + 1))), (0, .ref o0)]) hx hb dX12_ditches_321 hl (k := 0) rfl (nI_add i282 1) (by decide) rfl (fun ls hl => ?_)
            refine lv_goto (tgt := 217) hx hb dX12_ditches_324 (by decide) ?_
            have hT : gH (dC, dI) kA (SHm q (wP (zN2 gmv2 (i282 + 1)) (dtN wN (i282 + 1)) wH wB wC wL wK wU wV) PI im (mvP gmv2 gnz3 96) (mtP gnz3) lS lB lE lN) G H := SHm_w hT (fun i hi x p => wP_mono hi (z2_m hg4 i282 i) (dt_m wN i282 i) (Int.le_refl _) (fun _ => rfl) p)
            exact ih367 (i282 + 1) (by omega) (by omega) _ _ hT hF hS ls (lv_sub hl [0, 1] rfl)
      have hT : gH (dC, dI) kA (SHm q (wP (zN2 gmv2 0) (dtN wN 0) wH wB wC wL wK wU wV) PI im (mvP gmv2 gnz3 96) (mtP gnz3) lS lB lE lN) G H := SHm_w hT (fun i hi x p => wP_mono hi (z12 gmv2 i) ((dt_b wN 0 i).1) (Int.le_refl _) (fun _ => rfl) p)
      exact key367 (96 - 0) 0 (by omega) (Nat.le_refl _) _ _ hT hF hS ls (lv_sub hl [0, 1] rfl)
    | succ n277 ih277 =>
      intro i1 hn277 hlo278 gmv2 gnz3 hg4 H locs hT hF hS  ls hl
      have hlt458 : i1 < 96 := by omega
      have t459 : ∀ i, 0 ≤ zN1 gmv2 i1 i := z1_0 hg4 _
      refine lv_iload_n hx hb dX12_ditches_2 rfl (lv_at hl 0 rfl) ?_
      refine lv_bipush (v := 96) hx hb dX12_ditches_3 (by decide) ?_
      refine lv_icmp_ge (tgt := 215) hx hb dX12_ditches_5 (by decide) (fun c460 => (by exfalso; have q9 : 96 ≤ ((i1 : Nat) : Int) := ti_le c460 (by decide) (nI_toInt (by omega)); omega)) (fun c460 => ?_)
      have t461 : ((i1 : Nat) : Int) < 96 := ti_nle c460 (by decide) (nI_toInt (by omega))
      refine lv_aload_n hx hb dX12_ditches_8 rfl (lv_at hl 1 rfl) ?_
      refine tw_get hx hb hts bF_X12 hown hK hT hr_o0 shm_0 rfl 4 (by decide) (ht_at hts 0 rfl) (fun _ h9 => h9) dX12_ditches_9 (fun v9 m462 h9 => ?_)
      obtain ⟨rfl, hg463⟩ := h9 _ rfl
      refine lv_iload_n hx hb dX12_ditches_12 rfl (lv_at hl 0 rfl) ?_
      refine lv_iconst (v := 0) hx hb dX12_ditches_13 (by decide) ?_
      have t464 : (nI i1).toNatClampNeg = i1 := tn_nI (by omega)
      refine tw_iast2 (Sg1 := (SHm q (wP (zN1 gmv2 i1) wN wH wB wC wL wK wU wV) PI im (mvP (mvu gmv2 i1 0) gnz3 (i1 + 1)) (mtP gnz3) lS lB lE lN)) (i := (nI i1)) (x := 0) hx hb hK hT hG hS hg463 shm_5 rfl shm_5 shm_o5 (fun b9 h9 => hgu b9 4 h9) (vp_in_nI (by omega) (by decide)) (gm_of (gi_of (show (0 : Int32).toInt = 0 from by decide) (by decide) (by decide)) (fun _ => ⟨by rw [show (nI i1).toNatClampNeg = i1 from tn_nI (by omega), mvu_s]; decide, fun z9 => absurd (by decide) z9⟩)) (fun k9 hk9 hne9 v9 hv9 he9 => by obtain ⟨x9, rfl, h8, h7⟩ := he9; refine ⟨x9, rfl, h8, fun hl9 => ?_⟩; have e9 : k9 < i1 := (by omega); rw [mvu_o (by omega)]; exact h7 e9) dX12_ditches_14 (fun H locs hT oq m465 oi hS => ?_)
      have hF := hF.ast hg463 skm_5 oq (by decide)
      refine lv_aload_n hx hb dX12_ditches_15 rfl (lv_at hl 1 rfl) ?_
      refine lv_iload_n hx hb dX12_ditches_16 rfl (lv_at hl 0 rfl) ?_
      have hFc := gA_free hG hA hS
      refine va_calli (va_runV (As := [.int (nI i1)]) (rest := []) ⟨hx, hb, hml, hown, hts⟩ (s_hasDitch l dC dI kA adK adV G H q (zN1 gmv2 i1) wN wH wB wC wL wK wU wV PI im (mvP (mvu gmv2 i1 0) gnz3 (i1 + 1)) (mtP gnz3) lS lB lE lN o0 (nI i1) hT hr_o0 (rg_t (a := ((i1 : Nat) : Int)) (nI_toInt (by omega)) (by omega) (by omega)) t459 hgn (by omega) (by omega) (by omega) (by omega) hgu) (cwV 1 hts (goodIn_app (goodIn_r _ [11, 12, 13, 10] rfl (by decide +kernel)) (goodIn_ca (goodIn_r _ [5, 6, 2, 7, 8, 9, 10] rfl (by decide +kernel)) (bs_in _ _))) rfl rfl rfl (by decide +kernel) ⟨(Nat.le_of_ble_eq_true rfl), (Nat.le_of_ble_eq_true rfl)⟩) ⟨fun a U g mk q => by obtain ⟨q0, q1, qK, qE⟩ := q; exact ⟨q0, q1, va_K.moved (u := U) (U := U.calling g mk a) (Vm.Alike.refl U.vm) qK, EVS.blind g mk a qE⟩, gH_rc hK hT hr_o0 shm_0 rfl, fun U hU hW => ⟨rfl, hU, va_K.moved hW.alike hK, hE.call hS hFc hU hW⟩⟩ rfl rfl hl.1 rfl (lv_room (Nat.le_of_ble_eq_true rfl)) dX12_ditches_17 ⟨(Nat.le_of_ble_eq_true rfl), (Nat.le_of_ble_eq_true rfl)⟩) hS (fun q _ h => hFc q h) hFc (fun r466 u t H locs ht hvm hw467 hB _ _ hS => ?_)
      obtain ⟨hT, hF1⟩ := hB
      rw [ht] at hT hF1
      have m468 := (el_kept (hF1.arr hg463 skm_5 (by decide))).trans m465
      have hF := hF.more hF1 (by decide)
      try dsimp only at hw467
      obtain ⟨h469, hi470⟩ := hw467
      refine lv_if_ne (tgt := 26) hx hb dX12_ditches_20 (by decide) (fun c471 => ?_) (fun c471 => ?_)
      · have t472 : r466.toInt ≠ 0 := ti_ne c471 rfl (by decide)
        have t473 : wL (nI i1).toNatClampNeg := hi470 ((bit_of ⟨by omega, by omega⟩).resolve_left c471)
        refine lv_iconst (v := (-1)) hx hb dX12_ditches_26 (by decide) ?_
        refine lv_istore_n (lv' := [(2, .int (-1)), (1, .int (nI i1)), (0, .ref o0)]) hx hb dX12_ditches_27 rfl hl (by decide) rfl (fun ls hl => ?_)
        refine lv_iconst (v := 0) hx hb dX12_ditches_28 (by decide) ?_
        refine lv_istore_n (lv' := [(3, .int 0), (2, .int (-1)), (1, .int (nI i1)), (0, .ref o0)]) hx hb dX12_ditches_29 rfl hl (by decide) rfl (fun ls hl => ?_)
        have jn553 : ∀ (z549 : Int32), ((-1 ≤ z549.toInt ∧ z549.toInt ≤ 95) ∧ ((z549.toInt = -1 ∨ (wL z549.toNatClampNeg ∧ 0 ≤ z549.toInt ∧ z549.toInt ≤ 95 ∧ (z549.toInt + 12 = (nI i1).toInt ∨ z549.toInt + 1 = (nI i1).toInt ∨ (nI i1).toInt + 1 = z549.toInt ∨ (nI i1).toInt + 12 = z549.toInt))))) → ∀ (H : Heap) (locs : List Loc), gH (dC, dI) kA (SHm q (wP (zN1 gmv2 i1) wN wH wB wC wL wK wU wV) PI im (mvP (mvu gmv2 i1 0) gnz3 (i1 + 1)) (mtP gnz3) lS lB lE lN) G H → gF (dC, dI) SKm G ([(2, 0), (5, 0), (6, 0), (7, 0)] : List (Nat × Nat)) s.heap H → va_S A s.heap H locs → el H (q 4) (nI i1).toNatClampNeg = some (.int 0) → ∀ ls : Array Slot, lv_has ls 5 [(3, .int (nI 4)), (2, .int z549), (1, .int (nI i1)), (0, .ref o0)] → W p l e (headSpec w_s_ditches ({ frames := 3, cells := 0, slots := 0, locals := 66 })).room s m #[.ref o0] below meth c H locs 0 0 (MQ below (va_Qv (fun (u : (Nat → Int) × (Nat → Int → Prop) × (Nat → Int → Prop)) => match u with | (wN1, PM1, PT1) => (∀ i, wN i ≤ wN1 i ∧ wN1 i ≤ wN i + 80)) (fun (u : (Nat → Int) × (Nat → Int → Prop) × (Nat → Int → Prop)) (t : State) => match u with | (wN1, PM1, PT1) => gH (dC, dI) kA (SHm q (wP wZ0 wN1 wH wB wC wL wK wU wV) PI im PM1 PT1 lS lB lE lN) G t.heap ∧ gF (dC, dI) SKm G ([(2, 0), (5, 0), (6, 0), (7, 0)] : List (Nat × Nat)) s.heap t.heap) A) #[.ref o0] s 0 0 A) (F0 m 83 ls []) := by
          intro z549 ⟨h550, hj552⟩ H locs hT hF hS m551 ls hl
          refine lv_iload_n hx hb dX12_ditches_83 rfl (lv_at hl 1 rfl) ?_
          refine lv_if_lt (tgt := 209) hx hb dX12_ditches_84 (by decide) (fun c554 => ?_) (fun c554 => ?_)
          · have t555 : z549.toInt < 0 := ti_lt c554 rfl (by decide)
            refine lv_iinc (v := nI (i1 + 1)) (lv' := [(1, .int (nI (i1 + 1))), (3, .int (nI 4)), (2, .int z549), (0, .ref o0)]) hx hb dX12_ditches_209 hl (k := 2) rfl (nI_add i1 1) (by decide) rfl (fun ls hl => ?_)
            refine lv_goto (tgt := 2) hx hb dX12_ditches_212 (by decide) ?_
            have hT : gH (dC, dI) kA (SHm q (wP (zN1 (mvu gmv2 i1 0) (i1 + 1)) wN wH wB wC wL wK wU wV) PI im (mvP (mvu gmv2 i1 0) gnz3 (i1 + 1)) (mtP gnz3) lS lB lE lN) G H := SHm_w hT (fun i hi x p => wP_mono hi (z1_c gmv2 i1 i) (Int.le_refl _) (Int.le_refl _) (fun _ => rfl) p)
            exact ih277 (i1 + 1) (by omega) (by omega) (mvu gmv2 i1 0) gnz3 (mvu_0 hg4 (by omega)) _ _ hT hF hS ls (lv_sub hl [0, 3] rfl)
          · have t556 : 0 ≤ z549.toInt := ti_nlt c554 rfl (by decide)
            obtain ⟨hlt_, h8a, h8b, hadj_⟩ := hj552.resolve_left (by omega)
            obtain ⟨x557, ex557⟩ : ∃ y : Int32, y = (96 : Int32) + z549 := ⟨_, rfl⟩
            have t558 : x557.toInt = 96 + z549.toInt := ti_add ex557 (by decide) rfl (by omega) (by omega)
            have hg559 : G (q 1) = some 2 := gx_of hT hr_o0 shm_0 (k := 1) (by decide) rfl
            obtain ⟨v9, m560, h9⟩ := gH_el (i := x557.toNatClampNeg) hT hg559 shm_2 (by have q9 := tn_of (show x557.toInt = x557.toInt from rfl) (by omega); omega)
            obtain ⟨x561, rfl, gx561, kx561⟩ := (gp_at h9 (w_hgt (by have q9 := tn_of (show x557.toInt = x557.toInt from rfl) (show (0 : Int) ≤ x557.toInt from by omega); omega)))
            obtain ⟨x562, ex562⟩ : ∃ y : Int32, y = (384 : Int32) + z549 := ⟨_, rfl⟩
            have t563 : x562.toInt = 384 + z549.toInt := ti_add ex562 (by decide) rfl (by omega) (by omega)
            obtain ⟨v9, m564, h9⟩ := gH_el (i := x562.toNatClampNeg) hT hg559 shm_2 (by have q9 := tn_of (show x562.toInt = x562.toInt from rfl) (by omega); omega)
            obtain ⟨x565, rfl, gx565, kx565⟩ := (gw_at h9 (w_wat (by have q9 := tn_of (show x562.toInt = x562.toInt from rfl) (show (0 : Int) ≤ x562.toInt from by omega); omega)) hgn t459)
            obtain ⟨x566, ex566⟩ : ∃ y : Int32, y = (96 : Int32) + (nI i1) := ⟨_, rfl⟩
            have t567 : x566.toInt = 96 + ((i1 : Nat) : Int) := ti_add ex566 (by decide) (nI_toInt (by omega)) (by omega) (by omega)
            obtain ⟨v9, m568, h9⟩ := gH_el (i := x566.toNatClampNeg) hT hg559 shm_2 (by have q9 := tn_of (show x566.toInt = x566.toInt from rfl) (by omega); omega)
            obtain ⟨x569, rfl, gx569, kx569⟩ := (gp_at h9 (w_hgt (by have q9 := tn_of (show x566.toInt = x566.toInt from rfl) (show (0 : Int) ≤ x566.toInt from by omega); omega)))
            obtain ⟨x570, ex570⟩ : ∃ y : Int32, y = (384 : Int32) + (nI i1) := ⟨_, rfl⟩
            have t571 : x570.toInt = 384 + ((i1 : Nat) : Int) := ti_add ex570 (by decide) (nI_toInt (by omega)) (by omega) (by omega)
            obtain ⟨v9, m572, h9⟩ := gH_el (i := x570.toNatClampNeg) hT hg559 shm_2 (by have q9 := tn_of (show x570.toInt = x570.toInt from rfl) (by omega); omega)
            obtain ⟨x573, rfl, gx573, kx573⟩ := (gw_at h9 (w_wat (by have q9 := tn_of (show x570.toInt = x570.toInt from rfl) (show (0 : Int) ≤ x570.toInt from by omega); omega)) hgn t459)
            refine lv_aload_n hx hb dX12_ditches_87 rfl (lv_at hl 3 rfl) ?_
            refine lv_iload_n hx hb dX12_ditches_88 rfl (lv_at hl 1 rfl) ?_
            have hFc := gA_free hG hA hS
            refine va_calli (va_runV (As := [.int z549]) (rest := []) ⟨hx, hb, hml, hown, hts⟩ (s_levelL l dC dI kA adK adV G H q (zN1 gmv2 i1) wN wH wB wC wL wK wU wV PI im (mvP (mvu gmv2 i1 0) gnz3 (i1 + 1)) (mtP gnz3) lS lB lE lN o0 z549 x561 x557 x565 x562 hT hr_o0 (by have q8 := ti_all z549; omega) hlt_ (by have q9 := (show x557.toInt = x557.toInt from rfl); have := (show z549.toInt = z549.toInt from rfl); omega) m560 (by have q8 := ti_all x561; omega) (by have q9 := (show x562.toInt = x562.toInt from rfl); have := (show z549.toInt = z549.toInt from rfl); omega) m564 (by have q8 := ti_all x565; omega) t459 hgn (by omega) (by omega) (by omega) (by omega) hgu) (cwV 1 hts (goodIn_app (goodIn_r _ [29, 30, 31, 10] rfl (by decide +kernel)) (goodIn_ca (goodIn_r _ [17, 6, 2, 7, 8, 9, 10] rfl (by decide +kernel)) (bs_in _ _))) rfl rfl rfl (by decide +kernel) ⟨(Nat.le_of_ble_eq_true rfl), (Nat.le_of_ble_eq_true rfl)⟩) ⟨fun a U g mk q => by obtain ⟨q0, q1, qK, qE⟩ := q; exact ⟨q0, q1, va_K.moved (u := U) (U := U.calling g mk a) (Vm.Alike.refl U.vm) qK, EVS.blind g mk a qE⟩, gH_rc hK hT hr_o0 shm_0 rfl, fun U hU hW => ⟨rfl, hU, va_K.moved hW.alike hK, hE.call hS hFc hU hW⟩⟩ rfl rfl hl.1 rfl (lv_room (Nat.le_of_ble_eq_true rfl)) dX12_ditches_89 ⟨(Nat.le_of_ble_eq_true rfl), (Nat.le_of_ble_eq_true rfl)⟩) hS (fun q _ h => hFc q h) hFc (fun r574 u t H locs ht hvm hw575 hB _ _ hS => ?_)
            obtain ⟨hT, hF1⟩ := hB
            rw [ht] at hT hF1
            have m576 := (el_kept (hF1.arr hg463 skm_5 (by decide))).trans m551
            have m577 := (el_kept (hF1.arr hg559 skm_2 (by decide))).trans m560
            have m578 := (el_kept (hF1.arr hg559 skm_2 (by decide))).trans m564
            have m579 := (el_kept (hF1.arr hg559 skm_2 (by decide))).trans m568
            have m580 := (el_kept (hF1.arr hg559 skm_2 (by decide))).trans m572
            have hF := hF.more hF1 (by decide)
            try dsimp only at hw575
            obtain ⟨h581, hf582⟩ := hw575
            refine lv_aload_n hx hb dX12_ditches_92 rfl (lv_at hl 3 rfl) ?_
            refine lv_iload_n hx hb dX12_ditches_93 rfl (lv_at hl 2 rfl) ?_
            have hFc := gA_free hG hA hS
            refine va_calli (va_runV (As := [.int (nI i1)]) (rest := [.int r574]) ⟨hx, hb, hml, hown, hts⟩ (s_levelL l dC dI kA adK adV G H q (zN1 gmv2 i1) wN wH wB wC wL wK wU wV PI im (mvP (mvu gmv2 i1 0) gnz3 (i1 + 1)) (mtP gnz3) lS lB lE lN o0 (nI i1) x569 x566 x573 x570 hT hr_o0 (rg_t (a := ((i1 : Nat) : Int)) (nI_toInt (by omega)) (by omega) (by omega)) (by assumption) (by have q9 := (show x566.toInt = x566.toInt from rfl); have := (show (nI i1).toInt = ((i1 : Nat) : Int) from (nI_toInt (by omega))); omega) m579 (by have q8 := ti_all x569; omega) (by have q9 := (show x570.toInt = x570.toInt from rfl); have := (show (nI i1).toInt = ((i1 : Nat) : Int) from (nI_toInt (by omega))); omega) m580 (by have q8 := ti_all x573; omega) t459 hgn (by omega) (by omega) (by omega) (by omega) hgu) (cwV 1 hts (goodIn_app (goodIn_r _ [29, 30, 31, 10] rfl (by decide +kernel)) (goodIn_ca (goodIn_r _ [17, 6, 2, 7, 8, 9, 10] rfl (by decide +kernel)) (bs_in _ _))) rfl rfl rfl (by decide +kernel) ⟨(Nat.le_of_ble_eq_true rfl), (Nat.le_of_ble_eq_true rfl)⟩) ⟨fun a U g mk q => by obtain ⟨q0, q1, qK, qE⟩ := q; exact ⟨q0, q1, va_K.moved (u := U) (U := U.calling g mk a) (Vm.Alike.refl U.vm) qK, EVS.blind g mk a qE⟩, gH_rc hK hT hr_o0 shm_0 rfl, fun U hU hW => ⟨rfl, hU, va_K.moved hW.alike hK, hE.call hS hFc hU hW⟩⟩ rfl rfl hl.1 rfl (lv_room (Nat.le_of_ble_eq_true rfl)) dX12_ditches_94 ⟨(Nat.le_of_ble_eq_true rfl), (Nat.le_of_ble_eq_true rfl)⟩) hS (fun q _ h => hFc q h) hFc (fun r583 u t H locs ht hvm hw584 hB _ _ hS => ?_)
            obtain ⟨hT, hF1⟩ := hB
            rw [ht] at hT hF1
            have m585 := (el_kept (hF1.arr hg463 skm_5 (by decide))).trans m576
            have m586 := (el_kept (hF1.arr hg559 skm_2 (by decide))).trans m577
            have m587 := (el_kept (hF1.arr hg559 skm_2 (by decide))).trans m578
            have m588 := (el_kept (hF1.arr hg559 skm_2 (by decide))).trans m579
            have m589 := (el_kept (hF1.arr hg559 skm_2 (by decide))).trans m580
            have hF := hF.more hF1 (by decide)
            try dsimp only at hw584
            obtain ⟨h590, hf591⟩ := hw584
            refine lv_icmp_lt (tgt := 103) hx hb dX12_ditches_97 (by decide) (fun c592 => ?_) (fun c592 => ?_)
            · have t593 : r574.toInt < r583.toInt := ti_lt c592 rfl rfl
              refine lv_aload_n hx hb dX12_ditches_103 rfl (lv_at hl 3 rfl) ?_
              refine tw_get hx hb hts bF_X12 hown hK hT hr_o0 shm_0 rfl 5 (by decide) (ht_at hts 3 rfl) (fun _ h9 => h9) dX12_ditches_104 (fun v9 m594 h9 => ?_)
              obtain ⟨rfl, hg595⟩ := h9 _ rfl
              refine lv_iload_n hx hb dX12_ditches_107 rfl (lv_at hl 2 rfl) ?_
              refine lv_iload_n hx hb dX12_ditches_108 rfl (lv_at hl 1 rfl) ?_
              have t596 : (nI i1).toNatClampNeg = i1 := tn_nI (by omega)
              have t597 : ((z549.toNatClampNeg : Nat) : Int) = z549.toInt := tn_of rfl (by omega)
              refine tw_iast2 (Sg1 := (SHm q (wP (zN1 gmv2 i1) wN wH wB wC wL wK wU wV) PI im (mvP (mvu gmv2 i1 0) gnz3 (i1 + 1)) (mtP (fun j => gnz3 j ∨ j = i1)) lS lB lE lN)) (i := (nI i1)) (x := z549) hx hb hK hT hG hS hg595 shm_6 rfl shm_6 shm_o6 (fun b9 h9 => hgu b9 5 h9) (vp_in_nI (by omega) (by decide)) (gm_of (gi_of (show z549.toInt = z549.toInt from rfl) (by omega) (by omega)) (fun _ => ⟨z549.toNatClampNeg, (tn_of rfl (by omega)).symm, by have q9 := (show (nI i1).toInt = ((i1 : Nat) : Int) from (nI_toInt (by omega))); unfold wA; omega⟩)) (fun k9 hk9 hne9 v9 hv9 he9 => by obtain ⟨x9, rfl, h8, h7⟩ := he9; exact ⟨x9, rfl, h8, fun hn9 => h7 (hn9.resolve_right (by omega))⟩) dX12_ditches_109 (fun H locs hT oq m598 oi hS => ?_)
              have hF := hF.ast hg595 skm_6 oq (by decide)
              have m599 := (el_kept (oq _ (gne hg463 hg595 (by decide)))).trans m585
              have m600 := (el_kept (oq _ (gne hg559 hg595 (by decide)))).trans m586
              have m601 := (el_kept (oq _ (gne hg559 hg595 (by decide)))).trans m587
              have m602 := (el_kept (oq _ (gne hg559 hg595 (by decide)))).trans m588
              have m603 := (el_kept (oq _ (gne hg559 hg595 (by decide)))).trans m589
              refine lv_aload_n hx hb dX12_ditches_110 rfl (lv_at hl 3 rfl) ?_
              refine tw_get hx hb hts bF_X12 hown hK hT hr_o0 shm_0 rfl 4 (by decide) (ht_at hts 0 rfl) (fun _ h9 => h9) dX12_ditches_111 (fun v9 m604 h9 => ?_)
              obtain ⟨rfl, hg605⟩ := h9 _ rfl
              refine lv_iload_n hx hb dX12_ditches_114 rfl (lv_at hl 2 rfl) ?_
              refine lv_aload_n hx hb dX12_ditches_115 rfl (lv_at hl 3 rfl) ?_
              refine tw_get hx hb hts bF_X12 hown hK hT hr_o0 shm_0 rfl 1 (by decide) (ht_at hts 1 rfl) (fun _ h9 => h9) dX12_ditches_116 (fun v9 m606 h9 => ?_)
              obtain ⟨rfl, hg607⟩ := h9 _ rfl
              refine lv_sipush (v := 384) hx hb dX12_ditches_119 (by decide) ?_
              refine lv_iload_n hx hb dX12_ditches_122 rfl (lv_at hl 2 rfl) ?_
              refine lv_iadd hx hb dX12_ditches_123 ?_
              refine lv_topi (fun x608 ex608 => ?_)
              obtain rfl : nI (384 + i1) = x608 := (ex608.trans (nI_add 384 i1)).symm
              refine tw_iald (i := (nI (384 + i1))) hx hb hK hT hg559 shm_2 rfl (vp_in_nI (by omega) (by decide)) dX12_ditches_124 (fun v9 m609 h9 => ?_)
              obtain ⟨x610, rfl, gx610, kx610⟩ := (gw_at h9 (w_wat (by have q9 := tn_of (show (nI (384 + i1)).toInt = ((384 + i1 : Nat) : Int) from (nI_toInt (by omega))) (show (0 : Int) ≤ ((384 + i1 : Nat) : Int) from by omega); omega)) hgn t459)
              obtain rfl : x573 = x610 := (el_same m609 m603 (show (nI (384 + i1)).toInt = x570.toInt from by rw [show (nI (384 + i1)).toInt = ((384 + i1 : Nat) : Int) from (nI_toInt (by omega))]; try omega)).symm
              refine lv_aload_n hx hb dX12_ditches_125 rfl (lv_at hl 3 rfl) ?_
              refine lv_iload_n hx hb dX12_ditches_126 rfl (lv_at hl 2 rfl) ?_
              have hFc := gA_free hG hA hS
              refine va_calli (va_runV (As := [.int (nI i1)]) (rest := [.int x573, .int (nI i1), .ref (q 4)]) ⟨hx, hb, hml, hown, hts⟩ (s_levelL l dC dI kA adK adV G H q (zN1 gmv2 i1) wN wH wB wC wL wK wU wV PI im (mvP (mvu gmv2 i1 0) gnz3 (i1 + 1)) (mtP (fun j => gnz3 j ∨ j = i1)) lS lB lE lN o0 (nI i1) x569 x566 x573 x570 hT hr_o0 (rg_t (a := ((i1 : Nat) : Int)) (nI_toInt (by omega)) (by omega) (by omega)) (by assumption) (by have q9 := (show x566.toInt = x566.toInt from rfl); have := (show (nI i1).toInt = ((i1 : Nat) : Int) from (nI_toInt (by omega))); omega) m602 (by have q8 := ti_all x569; omega) (by have q9 := (show x570.toInt = x570.toInt from rfl); have := (show (nI i1).toInt = ((i1 : Nat) : Int) from (nI_toInt (by omega))); omega) m603 (by have q8 := ti_all x573; omega) t459 hgn (by omega) (by omega) (by omega) (by omega) hgu) (cwV 1 hts (goodIn_app (goodIn_r _ [29, 30, 31, 10] rfl (by decide +kernel)) (goodIn_ca (goodIn_r _ [17, 6, 2, 7, 8, 9, 10] rfl (by decide +kernel)) (bs_in _ _))) rfl rfl rfl (by decide +kernel) ⟨(Nat.le_of_ble_eq_true rfl), (Nat.le_of_ble_eq_true rfl)⟩) ⟨fun a U g mk q => by obtain ⟨q0, q1, qK, qE⟩ := q; exact ⟨q0, q1, va_K.moved (u := U) (U := U.calling g mk a) (Vm.Alike.refl U.vm) qK, EVS.blind g mk a qE⟩, gH_rc hK hT hr_o0 shm_0 rfl, fun U hU hW => ⟨rfl, hU, va_K.moved hW.alike hK, hE.call hS hFc hU hW⟩⟩ rfl rfl hl.1 rfl (lv_room (Nat.le_of_ble_eq_true rfl)) dX12_ditches_127 ⟨(Nat.le_of_ble_eq_true rfl), (Nat.le_of_ble_eq_true rfl)⟩) hS (fun q _ h => hFc q h) hFc (fun r611 u t H locs ht hvm hw612 hB _ _ hS => ?_)
              obtain ⟨hT, hF1⟩ := hB
              rw [ht] at hT hF1
              have m613 := (el_kept (hF1.arr hg463 skm_5 (by decide))).trans m599
              have m614 := (el_kept (hF1.arr hg559 skm_2 (by decide))).trans m600
              have m615 := (el_kept (hF1.arr hg559 skm_2 (by decide))).trans m601
              have m616 := (el_kept (hF1.arr hg559 skm_2 (by decide))).trans m602
              have m617 := (el_kept (hF1.arr hg559 skm_2 (by decide))).trans m603
              have m618 := (el_kept (hF1.arr hg595 skm_6 (by decide))).trans m598
              have hF := hF.more hF1 (by decide)
              try dsimp only at hw612
              obtain ⟨h619, hf620⟩ := hw612
              refine lv_aload_n hx hb dX12_ditches_130 rfl (lv_at hl 3 rfl) ?_
              refine lv_iload_n hx hb dX12_ditches_131 rfl (lv_at hl 1 rfl) ?_
              have hFc := gA_free hG hA hS
              refine va_calli (va_runV (As := [.int z549]) (rest := [.int r611, .int x573, .int (nI i1), .ref (q 4)]) ⟨hx, hb, hml, hown, hts⟩ (s_levelL l dC dI kA adK adV G H q (zN1 gmv2 i1) wN wH wB wC wL wK wU wV PI im (mvP (mvu gmv2 i1 0) gnz3 (i1 + 1)) (mtP (fun j => gnz3 j ∨ j = i1)) lS lB lE lN o0 z549 x561 x557 x565 x562 hT hr_o0 (by have q8 := ti_all z549; omega) hlt_ (by have q9 := (show x557.toInt = x557.toInt from rfl); have := (show z549.toInt = z549.toInt from rfl); omega) m614 (by have q8 := ti_all x561; omega) (by have q9 := (show x562.toInt = x562.toInt from rfl); have := (show z549.toInt = z549.toInt from rfl); omega) m615 (by have q8 := ti_all x565; omega) t459 hgn (by omega) (by omega) (by omega) (by omega) hgu) (cwV 1 hts (goodIn_app (goodIn_r _ [29, 30, 31, 10] rfl (by decide +kernel)) (goodIn_ca (goodIn_r _ [17, 6, 2, 7, 8, 9, 10] rfl (by decide +kernel)) (bs_in _ _))) rfl rfl rfl (by decide +kernel) ⟨(Nat.le_of_ble_eq_true rfl), (Nat.le_of_ble_eq_true rfl)⟩) ⟨fun a U g mk q => by obtain ⟨q0, q1, qK, qE⟩ := q; exact ⟨q0, q1, va_K.moved (u := U) (U := U.calling g mk a) (Vm.Alike.refl U.vm) qK, EVS.blind g mk a qE⟩, gH_rc hK hT hr_o0 shm_0 rfl, fun U hU hW => ⟨rfl, hU, va_K.moved hW.alike hK, hE.call hS hFc hU hW⟩⟩ rfl rfl hl.1 rfl (lv_room (Nat.le_of_ble_eq_true rfl)) dX12_ditches_132 ⟨(Nat.le_of_ble_eq_true rfl), (Nat.le_of_ble_eq_true rfl)⟩) hS (fun q _ h => hFc q h) hFc (fun r621 u t H locs ht hvm hw622 hB _ _ hS => ?_)
              obtain ⟨hT, hF1⟩ := hB
              rw [ht] at hT hF1
              have m623 := (el_kept (hF1.arr hg463 skm_5 (by decide))).trans m613
              have m624 := (el_kept (hF1.arr hg559 skm_2 (by decide))).trans m614
              have m625 := (el_kept (hF1.arr hg559 skm_2 (by decide))).trans m615
              have m626 := (el_kept (hF1.arr hg559 skm_2 (by decide))).trans m616
              have m627 := (el_kept (hF1.arr hg559 skm_2 (by decide))).trans m617
              have m628 := (el_kept (hF1.arr hg595 skm_6 (by decide))).trans m618
              have hF := hF.more hF1 (by decide)
              try dsimp only at hw622
              obtain ⟨h629, hf630⟩ := hw622
              refine lv_isub hx hb dX12_ditches_135 ?_
              refine lv_topi (fun x631 ex631 => ?_)
              have t632 : x631.toInt = r611.toInt - r621.toInt := ti_sub ex631 rfl rfl (by omega) (by omega)
              refine lv_iconst (v := 2) hx hb dX12_ditches_136 (by decide) ?_
              refine lv_idiv hx hb dX12_ditches_137 (by decide) ?_
              refine lv_topi (fun x633 ex633 => ?_)
              have t634 : (0 ≤ x631.toInt ∧ x633.toInt = x631.toInt / 2) ∨ (x631.toInt < 0 ∧ x633.toInt = -((-x631.toInt) / 2)) := ti_divs ex633 rfl (by decide) (by decide)
              refine lv_aload_n hx hb dX12_ditches_138 rfl (lv_at hl 3 rfl) ?_
              refine tw_get hx hb hts bF_X12 hown hK hT hr_o0 shm_0 rfl 1 (by decide) (ht_at hts 1 rfl) (fun _ h9 => h9) dX12_ditches_139 (fun v9 m635 h9 => ?_)
              obtain ⟨rfl, hg636⟩ := h9 _ rfl
              refine lv_sipush (v := 288) hx hb dX12_ditches_142 (by decide) ?_
              refine lv_iload_n hx hb dX12_ditches_145 rfl (lv_at hl 2 rfl) ?_
              refine lv_iadd hx hb dX12_ditches_146 ?_
              refine lv_topi (fun x637 ex637 => ?_)
              obtain rfl : nI (288 + i1) = x637 := (ex637.trans (nI_add 288 i1)).symm
              refine tw_iald (i := (nI (288 + i1))) hx hb hK hT hg559 shm_2 rfl (vp_in_nI (by omega) (by decide)) dX12_ditches_147 (fun v9 m638 h9 => ?_)
              obtain ⟨x639, rfl, gx639, kx639⟩ := (gp_at h9 (w_dit (by have q9 := tn_of (show (nI (288 + i1)).toInt = ((288 + i1 : Nat) : Int) from (nI_toInt (by omega))) (show (0 : Int) ≤ ((288 + i1 : Nat) : Int) from by omega); omega)))
              refine lv_aload_n hx hb dX12_ditches_148 rfl (lv_at hl 3 rfl) ?_
              refine tw_get hx hb hts bF_X12 hown hK hT hr_o0 shm_0 rfl 1 (by decide) (ht_at hts 1 rfl) (fun _ h9 => h9) dX12_ditches_149 (fun v9 m640 h9 => ?_)
              obtain ⟨rfl, hg641⟩ := h9 _ rfl
              refine lv_sipush (v := 288) hx hb dX12_ditches_152 (by decide) ?_
              refine lv_iload_n hx hb dX12_ditches_155 rfl (lv_at hl 1 rfl) ?_
              refine lv_iadd hx hb dX12_ditches_156 ?_
              refine lv_topi (fun x642 ex642 => ?_)
              have t643 : x642.toInt = 288 + z549.toInt := ti_add ex642 (by decide) rfl (by omega) (by omega)
              refine tw_iald (i := x642) hx hb hK hT hg559 shm_2 rfl (vin_t (a := x642.toInt) rfl (by omega) (by omega)) dX12_ditches_157 (fun v9 m644 h9 => ?_)
              obtain ⟨x645, rfl, gx645, kx645⟩ := (gp_at h9 (w_dit (by have q9 := tn_of (show x642.toInt = x642.toInt from rfl) (show (0 : Int) ≤ x642.toInt from by omega); omega)))
              refine va_mmin hx hb (hml.trans hl.1.symm) hown (ht_at hts 31 rfl) (ht_at hts 32 rfl) (ht_at hts 33 rfl) (ht_at hts 34 rfl) (Nat.le_of_ble_eq_true rfl) (Nat.le_of_ble_eq_true rfl) (Nat.le_of_ble_eq_true rfl) (Nat.le_of_ble_eq_true rfl) dX12_ditches_158 ?_
              refine lv_topi (fun x646 ex646 => ?_)
              have t647 : x646.toInt ≤ x639.toInt ∧ x646.toInt ≤ x645.toInt ∧ (x646.toInt = x639.toInt ∨ x646.toInt = x645.toInt) := mn_f ex646 rfl rfl
              refine va_mmin hx hb (hml.trans hl.1.symm) hown (ht_at hts 31 rfl) (ht_at hts 32 rfl) (ht_at hts 33 rfl) (ht_at hts 34 rfl) (Nat.le_of_ble_eq_true rfl) (Nat.le_of_ble_eq_true rfl) (Nat.le_of_ble_eq_true rfl) (Nat.le_of_ble_eq_true rfl) dX12_ditches_161 ?_
              refine lv_topi (fun x648 ex648 => ?_)
              have t649 : x648.toInt ≤ x633.toInt ∧ x648.toInt ≤ x646.toInt ∧ (x648.toInt = x633.toInt ∨ x648.toInt = x646.toInt) := mn_f ex648 rfl rfl
              refine va_mmin hx hb (hml.trans hl.1.symm) hown (ht_at hts 31 rfl) (ht_at hts 32 rfl) (ht_at hts 33 rfl) (ht_at hts 34 rfl) (Nat.le_of_ble_eq_true rfl) (Nat.le_of_ble_eq_true rfl) (Nat.le_of_ble_eq_true rfl) (Nat.le_of_ble_eq_true rfl) dX12_ditches_164 ?_
              refine lv_topi (fun x650 ex650 => ?_)
              have t651 : x650.toInt ≤ x573.toInt ∧ x650.toInt ≤ x648.toInt ∧ (x650.toInt = x573.toInt ∨ x650.toInt = x648.toInt) := mn_f ex650 rfl rfl
              have t652 : (nI i1).toNatClampNeg = i1 := tn_nI (by omega)
              refine tw_iast2 (Sg1 := (SHm q (wP (zN1 gmv2 i1) wN wH wB wC wL wK wU wV) PI im (mvP (mvu gmv2 i1 x650.toInt) (fun j => gnz3 j ∨ j = i1) (i1 + 1)) (mtP (fun j => gnz3 j ∨ j = i1)) lS lB lE lN)) (i := (nI i1)) (x := x650) hx hb hK hT hG hS hg463 shm_5 rfl shm_5 shm_o5 (fun b9 h9 => hgu b9 4 h9) (vp_in_nI (by omega) (by decide)) (gm_of (gi_of (show x650.toInt = x650.toInt from rfl) (by omega) (by omega)) (fun _ => ⟨by rw [show (nI i1).toNatClampNeg = i1 from tn_nI (by omega), mvu_s]; exact Int.le_refl _, fun _ => Or.inr (tn_nI (by omega))⟩)) (fun k9 hk9 hne9 v9 hv9 he9 => by obtain ⟨x9, rfl, h8, h7⟩ := he9; refine ⟨x9, rfl, h8, fun hl9 => ?_⟩; have e9 := h7 hl9; rw [mvu_o (by omega)] at e9 ⊢; exact ⟨e9.1, fun z9 => Or.inl (e9.2 z9)⟩) dX12_ditches_167 (fun H locs hT oq m653 oi hS => ?_)
              have hF := hF.ast hg463 skm_5 oq (by decide)
              have m654 := (el_kept (oq _ (gne hg559 hg463 (by decide)))).trans m624
              have m655 := (el_kept (oq _ (gne hg559 hg463 (by decide)))).trans m625
              have m656 := (el_kept (oq _ (gne hg559 hg463 (by decide)))).trans m626
              have m657 := (el_kept (oq _ (gne hg559 hg463 (by decide)))).trans m627
              have m658 := (el_kept (oq _ (gne hg595 hg463 (by decide)))).trans m628
              have m659 := (el_kept (oq _ (gne hg559 hg463 (by decide)))).trans m638
              have m660 := (el_kept (oq _ (gne hg559 hg463 (by decide)))).trans m644
              refine lv_aload_n hx hb dX12_ditches_168 rfl (lv_at hl 3 rfl) ?_
              refine tw_get hx hb hts bF_X12 hown hK hT hr_o0 shm_0 rfl 6 (by decide) (ht_at hts 2 rfl) (fun _ h9 => h9) dX12_ditches_169 (fun v9 m661 h9 => ?_)
              obtain ⟨rfl, hg662⟩ := h9 _ rfl
              refine lv_iload_n hx hb dX12_ditches_172 rfl (lv_at hl 2 rfl) ?_
              refine lv_aload_n hx hb dX12_ditches_173 rfl (lv_at hl 3 rfl) ?_
              refine tw_get hx hb hts bF_X12 hown hK hT hr_o0 shm_0 rfl 1 (by decide) (ht_at hts 1 rfl) (fun _ h9 => h9) dX12_ditches_174 (fun v9 m663 h9 => ?_)
              obtain ⟨rfl, hg664⟩ := h9 _ rfl
              refine lv_sipush (v := 480) hx hb dX12_ditches_177 (by decide) ?_
              refine lv_iload_n hx hb dX12_ditches_180 rfl (lv_at hl 2 rfl) ?_
              refine lv_iadd hx hb dX12_ditches_181 ?_
              refine lv_topi (fun x665 ex665 => ?_)
              obtain rfl : nI (480 + i1) = x665 := (ex665.trans (nI_add 480 i1)).symm
              refine tw_iald (i := (nI (480 + i1))) hx hb hK hT hg559 shm_2 rfl (vp_in_nI (by omega) (by decide)) dX12_ditches_182 (fun v9 m666 h9 => ?_)
              obtain ⟨x667, rfl, gx667, kx667⟩ := (gp_at h9 (w_fre (by have q9 := tn_of (show (nI (480 + i1)).toInt = ((480 + i1 : Nat) : Int) from (nI_toInt (by omega))) (show (0 : Int) ≤ ((480 + i1 : Nat) : Int) from by omega); omega)))
              refine lv_i2l (v := x667.toInt64) hx hb dX12_ditches_183 rfl ?_
              refine lv_aload_n hx hb dX12_ditches_184 rfl (lv_at hl 3 rfl) ?_
              refine tw_get hx hb hts bF_X12 hown hK hT hr_o0 shm_0 rfl 4 (by decide) (ht_at hts 0 rfl) (fun _ h9 => h9) dX12_ditches_185 (fun v9 m668 h9 => ?_)
              obtain ⟨rfl, hg669⟩ := h9 _ rfl
              refine lv_iload_n hx hb dX12_ditches_188 rfl (lv_at hl 2 rfl) ?_
              refine tw_iald (i := (nI i1)) hx hb hK hT hg463 shm_5 rfl (vp_in_nI (by omega) (by decide)) dX12_ditches_189 (fun v9 m670 h9 => ?_)
              obtain ⟨x671, rfl, gx671, kx671⟩ := (gm_at h9)
              obtain rfl : x650 = x671 := (el_same m670 m653 rfl).symm
              refine lv_i2l (v := x650.toInt64) hx hb dX12_ditches_190 rfl ?_
              refine lv_lmul hx hb dX12_ditches_191 ?_
              refine lv_topl (fun y672 _ => ?_)
              refine lv_aload_n hx hb dX12_ditches_192 rfl (lv_at hl 3 rfl) ?_
              refine tw_get hx hb hts bF_X12 hown hK hT hr_o0 shm_0 rfl 1 (by decide) (ht_at hts 1 rfl) (fun _ h9 => h9) dX12_ditches_193 (fun v9 m673 h9 => ?_)
              obtain ⟨rfl, hg674⟩ := h9 _ rfl
              refine lv_sipush (v := 384) hx hb dX12_ditches_196 (by decide) ?_
              refine lv_iload_n hx hb dX12_ditches_199 rfl (lv_at hl 2 rfl) ?_
              refine lv_iadd hx hb dX12_ditches_200 ?_
              refine lv_topi (fun x675 ex675 => ?_)
              obtain rfl : nI (384 + i1) = x675 := (ex675.trans (nI_add 384 i1)).symm
              refine tw_iald (i := (nI (384 + i1))) hx hb hK hT hg559 shm_2 rfl (vp_in_nI (by omega) (by decide)) dX12_ditches_201 (fun v9 m676 h9 => ?_)
              obtain ⟨x677, rfl, gx677, kx677⟩ := (gw_at h9 (w_wat (by have q9 := tn_of (show (nI (384 + i1)).toInt = ((384 + i1 : Nat) : Int) from (nI_toInt (by omega))) (show (0 : Int) ≤ ((384 + i1 : Nat) : Int) from by omega); omega)) hgn t459)
              obtain rfl : x573 = x677 := (el_same m676 m657 (show (nI (384 + i1)).toInt = x570.toInt from by rw [show (nI (384 + i1)).toInt = ((384 + i1 : Nat) : Int) from (nI_toInt (by omega))]; try omega)).symm
              refine lv_bipush (v := 10) hx hb dX12_ditches_202 (by decide) ?_
              refine lv_iadd hx hb dX12_ditches_204 ?_
              refine lv_topi (fun x678 ex678 => ?_)
              have t679 : x678.toInt = x573.toInt + 10 := ti_add ex678 rfl (by decide) (by omega) (by omega)
              refine lv_i2l (v := x678.toInt64) hx hb dX12_ditches_205 rfl ?_
              refine lv_ldiv hx hb dX12_ditches_206 (i2l_ne rfl (by omega)) ?_
              refine lv_topl (fun y680 _ => ?_)
              refine lv_l2i (v := y680.toInt32) hx hb dX12_ditches_207 rfl ?_
              refine lv_topi (fun x681 _ => ?_)
              refine tw_iast (i := (nI i1)) (x := x681) hx hb hK hT hG hS hg662 shm_7 rfl (vp_in_nI (by omega) (by decide)) (gi_all _) dX12_ditches_208 (fun H locs hT oq m682 oi hS => ?_)
              have hF := hF.ast hg662 skm_7 oq (by decide)
              have m683 := (el_kept (oq _ (gne hg559 hg662 (by decide)))).trans m654
              have m684 := (el_kept (oq _ (gne hg559 hg662 (by decide)))).trans m655
              have m685 := (el_kept (oq _ (gne hg559 hg662 (by decide)))).trans m656
              have m686 := (el_kept (oq _ (gne hg559 hg662 (by decide)))).trans m657
              have m687 := (el_kept (oq _ (gne hg595 hg662 (by decide)))).trans m658
              have m688 := (el_kept (oq _ (gne hg559 hg662 (by decide)))).trans m659
              have m689 := (el_kept (oq _ (gne hg559 hg662 (by decide)))).trans m660
              have m690 := (el_kept (oq _ (gne hg463 hg662 (by decide)))).trans m653
              have m691 := (el_kept (oq _ (gne hg559 hg662 (by decide)))).trans m666
              refine lv_iinc (v := nI (i1 + 1)) (lv' := [(1, .int (nI (i1 + 1))), (3, .int (nI 4)), (2, .int z549), (0, .ref o0)]) hx hb dX12_ditches_209 hl (k := 2) rfl (nI_add i1 1) (by decide) rfl (fun ls hl => ?_)
              refine lv_goto (tgt := 2) hx hb dX12_ditches_212 (by decide) ?_
              have hT : gH (dC, dI) kA (SHm q (wP (zN1 (mvu gmv2 i1 x650.toInt) (i1 + 1)) wN wH wB wC wL wK wU wV) PI im (mvP (mvu gmv2 i1 x650.toInt) (fun j => gnz3 j ∨ j = i1) (i1 + 1)) (mtP (fun j => gnz3 j ∨ j = i1)) lS lB lE lN) G H := SHm_we hT (fun b9 h9 => hgu b9 1 h9) (fun i hi x9 hx9 p => by
                by_cases e9 : i = 384 + i1
                · subst e9; have e8 : 384 + i1 = x570.toNatClampNeg := (by have q9 := tn_of (show x570.toInt = x570.toInt from rfl) (by omega); omega); rw [e8] at hx9; have e7 := el_val hx9 m686; subst e7
                  have r1 := w_wat (z := zN1 gmv2 i1) (n := wN) (h := wH) (b := wB) (c := wC) (i := 384 + i1) (by omega); have r2 := w_wat (z := zN1 (mvu gmv2 i1 x650.toInt) (i1 + 1)) (n := wN) (h := wH) (b := wB) (c := wC) (i := 384 + i1) (by omega)
                  refine ⟨?_, ?_, p.2.2⟩
                  · rw [r2.1, z1_at]; omega
                  · rw [r2.2, ← r1.2]; exact p.2.1
                · exact wP_mono hi (by rw [z1_st i1 (fun q9 => absurd q9 e9) e9]; exact Int.le_refl _) (Int.le_refl _) (Int.le_refl _) (fun _ => rfl) p)
              exact ih277 (i1 + 1) (by omega) (by omega) (mvu gmv2 i1 x650.toInt) (fun j => gnz3 j ∨ j = i1) (mvu_0 hg4 (by omega)) _ _ hT hF hS ls (lv_sub hl [0, 3] rfl)
            · have t692 : r583.toInt ≤ r574.toInt := ti_nlt c592 rfl rfl
              refine lv_goto (tgt := 209) hx hb dX12_ditches_100 (by decide) ?_
              refine lv_iinc (v := nI (i1 + 1)) (lv' := [(1, .int (nI (i1 + 1))), (3, .int (nI 4)), (2, .int z549), (0, .ref o0)]) hx hb dX12_ditches_209 hl (k := 2) rfl (nI_add i1 1) (by decide) rfl (fun ls hl => ?_)
              refine lv_goto (tgt := 2) hx hb dX12_ditches_212 (by decide) ?_
              have hT : gH (dC, dI) kA (SHm q (wP (zN1 (mvu gmv2 i1 0) (i1 + 1)) wN wH wB wC wL wK wU wV) PI im (mvP (mvu gmv2 i1 0) gnz3 (i1 + 1)) (mtP gnz3) lS lB lE lN) G H := SHm_w hT (fun i hi x p => wP_mono hi (z1_c gmv2 i1 i) (Int.le_refl _) (Int.le_refl _) (fun _ => rfl) p)
              exact ih277 (i1 + 1) (by omega) (by omega) (mvu gmv2 i1 0) gnz3 (mvu_0 hg4 (by omega)) _ _ hT hF hS ls (lv_sub hl [0, 3] rfl)
        have key693 : ∀ (n693 i474 : Nat), i474 + n693 = 4 → 0 ≤ i474 → ∀ (z475 : Int32), ((-1 ≤ z475.toInt ∧ z475.toInt ≤ 95) ∧ ((z475.toInt = -1 ∨ (wL z475.toNatClampNeg ∧ 0 ≤ z475.toInt ∧ z475.toInt ≤ 95 ∧ (z475.toInt + 12 = (nI i1).toInt ∨ z475.toInt + 1 = (nI i1).toInt ∨ (nI i1).toInt + 1 = z475.toInt ∨ (nI i1).toInt + 12 = z475.toInt))))) → ∀ (H : Heap) (locs : List Loc), gH (dC, dI) kA (SHm q (wP (zN1 gmv2 i1) wN wH wB wC wL wK wU wV) PI im (mvP (mvu gmv2 i1 0) gnz3 (i1 + 1)) (mtP gnz3) lS lB lE lN) G H → gF (dC, dI) SKm G ([(2, 0), (5, 0), (6, 0), (7, 0)] : List (Nat × Nat)) s.heap H → va_S A s.heap H locs → el H (q 4) (nI i1).toNatClampNeg = some (.int 0) → ∀ ls : Array Slot, lv_has ls 5 [(3, .int (nI i474)), (2, .int z475), (1, .int (nI i1)), (0, .ref o0)] → W p l e (headSpec w_s_ditches ({ frames := 3, cells := 0, slots := 0, locals := 66 })).room s m #[.ref o0] below meth c H locs 0 0 (MQ below (va_Qv (fun (u : (Nat → Int) × (Nat → Int → Prop) × (Nat → Int → Prop)) => match u with | (wN1, PM1, PT1) => (∀ i, wN i ≤ wN1 i ∧ wN1 i ≤ wN i + 80)) (fun (u : (Nat → Int) × (Nat → Int → Prop) × (Nat → Int → Prop)) (t : State) => match u with | (wN1, PM1, PT1) => gH (dC, dI) kA (SHm q (wP wZ0 wN1 wH wB wC wL wK wU wV) PI im PM1 PT1 lS lB lE lN) G t.heap ∧ gF (dC, dI) SKm G ([(2, 0), (5, 0), (6, 0), (7, 0)] : List (Nat × Nat)) s.heap t.heap) A) #[.ref o0] s 0 0 A) (F0 m 30 ls []) := by
          intro n693
          induction n693 with
          | zero =>
            intro i474 hn693 hlo694 z475 ⟨h476, hj478⟩ H locs hT hF hS m477 ls hl
            obtain rfl : 4 = i474 := by omega
            refine lv_iload_n hx hb dX12_ditches_30 rfl (lv_at hl 0 rfl) ?_
            refine lv_iconst (v := 4) hx hb dX12_ditches_31 (by decide) ?_
            refine lv_icmp_ge (tgt := 83) hx hb dX12_ditches_32 (by decide) (fun c695 => ?_) (fun c695 => (by exfalso; have q9 : ((4 : Nat) : Int) < 4 := ti_nle c695 (by decide) (nI_toInt (by omega)); omega))
            have t696 : 4 ≤ ((4 : Nat) : Int) := ti_le c695 (by decide) (nI_toInt (by omega))
            exact jn553 z475 ⟨(by have q8 := ti_all z475; omega), hj478⟩ _ _ hT hF hS m477 ls (lv_sub hl [0, 1, 2, 3] rfl)
          | succ n693 ih693 =>
            intro i474 hn693 hlo694 z475 ⟨h476, hj478⟩ H locs hT hF hS m477 ls hl
            have hlt696 : i474 < 4 := by omega
            refine lv_iload_n hx hb dX12_ditches_30 rfl (lv_at hl 0 rfl) ?_
            refine lv_iconst (v := 4) hx hb dX12_ditches_31 (by decide) ?_
            refine lv_icmp_ge (tgt := 83) hx hb dX12_ditches_32 (by decide) (fun c697 => (by exfalso; have q9 : 4 ≤ ((i474 : Nat) : Int) := ti_le c697 (by decide) (nI_toInt (by omega)); omega)) (fun c697 => ?_)
            have t698 : ((i474 : Nat) : Int) < 4 := ti_nle c697 (by decide) (nI_toInt (by omega))
            refine lv_iload_n hx hb dX12_ditches_35 rfl (lv_at hl 2 rfl) ?_
            refine lv_iload_n hx hb dX12_ditches_36 rfl (lv_at hl 0 rfl) ?_
            have hFc := gA_free hG hA hS
            refine va_calli (va_runS (As := [.int (nI i1), .int (nI i474)]) (rest := []) ⟨hx, hb, hml, hown, hts⟩ (s_beside l dC dI kA adK adV G H q (zN1 gmv2 i1) wN wH wB wC wL wK wU wV PI im (mvP (mvu gmv2 i1 0) gnz3 (i1 + 1)) (mtP gnz3) lS lB lE lN (nI i1) (nI i474) hT (rg_t (a := ((i1 : Nat) : Int)) (nI_toInt (by omega)) (by omega) (by omega)) t459 hgn (by omega) (by omega) (by omega) (by omega) hgu) (va_cwS 2 hts (goodIn_app (goodIn_r _ [15, 16, 10] rfl (by decide +kernel)) (goodIn_ca (goodIn_r _ [14] rfl (by decide +kernel)) (bs_in _ _))) rfl rfl rfl (by decide +kernel) ⟨(Nat.le_of_ble_eq_true rfl), (Nat.le_of_ble_eq_true rfl)⟩) ⟨fun a U g mk q => by obtain ⟨q0, q1, qK, qE⟩ := q; exact ⟨q0, q1, va_K.moved (u := U) (U := U.calling g mk a) (Vm.Alike.refl U.vm) qK, EVS.blind g mk a qE⟩, fun U hU hW => ⟨rfl, hU, va_K.moved hW.alike hK, hE.call hS hFc hU hW⟩⟩ rfl rfl hl.1 rfl (lv_room (Nat.le_of_ble_eq_true rfl)) dX12_ditches_37 ⟨(Nat.le_of_ble_eq_true rfl), (Nat.le_of_ble_eq_true rfl)⟩) hS (fun q _ h => hFc q h) hFc (fun r699 u t H locs ht hvm hw700 hB _ _ hS => ?_)
            obtain ⟨hT, hF1⟩ := hB
            rw [ht] at hT hF1
            have m701 := (el_kept (hF1.arr hg463 skm_5 (by decide))).trans m477
            have hF := hF.more hF1 (by decide)
            try dsimp only at hw700
            obtain ⟨h702, hf703⟩ := hw700
            have t704 : (nI i1).toInt = ((i1 : Nat) : Int) := nI_toInt (by omega)
            refine lv_istore (lv' := [(4, .int r699), (3, .int (nI i474)), (2, .int z475), (1, .int (nI i1)), (0, .ref o0)]) hx hb dX12_ditches_40 hl (by decide) rfl (fun ls hl => ?_)
            refine lv_iload hx hb dX12_ditches_42 (lv_at hl 0 rfl) ?_
            refine lv_if_lt (tgt := 77) hx hb dX12_ditches_44 (by decide) (fun c705 => ?_) (fun c705 => ?_)
            · have t706 : r699.toInt < 0 := ti_lt c705 rfl (by decide)
              refine lv_iinc (v := nI (i474 + 1)) (lv' := [(3, .int (nI (i474 + 1))), (4, .int r699), (2, .int z475), (1, .int (nI i1)), (0, .ref o0)]) hx hb dX12_ditches_77 hl (k := 1) rfl (nI_add i474 1) (by decide) rfl (fun ls hl => ?_)
              refine lv_goto (tgt := 30) hx hb dX12_ditches_80 (by decide) ?_
              exact ih693 (i474 + 1) (by omega) (by omega) z475 ⟨(by have q8 := ti_all z475; omega), hj478⟩ _ _ hT hF hS m701 ls (lv_sub hl [0, 2, 3, 4] rfl)
            · have t707 : 0 ≤ r699.toInt := ti_nlt c705 rfl (by decide)
              refine lv_aload_n hx hb dX12_ditches_47 rfl (lv_at hl 4 rfl) ?_
              refine lv_iload hx hb dX12_ditches_48 (lv_at hl 0 rfl) ?_
              have hFc := gA_free hG hA hS
              refine va_calli (va_runV (As := [.int r699]) (rest := []) ⟨hx, hb, hml, hown, hts⟩ (s_hasDitch l dC dI kA adK adV G H q (zN1 gmv2 i1) wN wH wB wC wL wK wU wV PI im (mvP (mvu gmv2 i1 0) gnz3 (i1 + 1)) (mtP gnz3) lS lB lE lN o0 r699 hT hr_o0 (by have q8 := ti_all r699; omega) t459 hgn (by omega) (by omega) (by omega) (by omega) hgu) (cwV 1 hts (goodIn_app (goodIn_r _ [11, 12, 13, 10] rfl (by decide +kernel)) (goodIn_ca (goodIn_r _ [5, 6, 2, 7, 8, 9, 10] rfl (by decide +kernel)) (bs_in _ _))) rfl rfl rfl (by decide +kernel) ⟨(Nat.le_of_ble_eq_true rfl), (Nat.le_of_ble_eq_true rfl)⟩) ⟨fun a U g mk q => by obtain ⟨q0, q1, qK, qE⟩ := q; exact ⟨q0, q1, va_K.moved (u := U) (U := U.calling g mk a) (Vm.Alike.refl U.vm) qK, EVS.blind g mk a qE⟩, gH_rc hK hT hr_o0 shm_0 rfl, fun U hU hW => ⟨rfl, hU, va_K.moved hW.alike hK, hE.call hS hFc hU hW⟩⟩ rfl rfl hl.1 rfl (lv_room (Nat.le_of_ble_eq_true rfl)) dX12_ditches_50 ⟨(Nat.le_of_ble_eq_true rfl), (Nat.le_of_ble_eq_true rfl)⟩) hS (fun q _ h => hFc q h) hFc (fun r708 u t H locs ht hvm hw709 hB _ _ hS => ?_)
              obtain ⟨hT, hF1⟩ := hB
              rw [ht] at hT hF1
              have m710 := (el_kept (hF1.arr hg463 skm_5 (by decide))).trans m701
              have hF := hF.more hF1 (by decide)
              try dsimp only at hw709
              obtain ⟨h711, hi712⟩ := hw709
              refine lv_if_eq (tgt := 77) hx hb dX12_ditches_53 (by decide) (fun c713 => ?_) (fun c713 => ?_)
              · have t714 : r708.toInt = 0 := ti_eq c713 rfl (by decide)
                refine lv_iinc (v := nI (i474 + 1)) (lv' := [(3, .int (nI (i474 + 1))), (4, .int r699), (2, .int z475), (1, .int (nI i1)), (0, .ref o0)]) hx hb dX12_ditches_77 hl (k := 1) rfl (nI_add i474 1) (by decide) rfl (fun ls hl => ?_)
                refine lv_goto (tgt := 30) hx hb dX12_ditches_80 (by decide) ?_
                exact ih693 (i474 + 1) (by omega) (by omega) z475 ⟨(by have q8 := ti_all z475; omega), hj478⟩ _ _ hT hF hS m710 ls (lv_sub hl [0, 2, 3, 4] rfl)
              · have t715 : r708.toInt ≠ 0 := ti_ne c713 rfl (by decide)
                have t716 : wL r699.toNatClampNeg := hi712 ((bit_of ⟨by omega, by omega⟩).resolve_left c713)
                refine lv_iload_n hx hb dX12_ditches_56 rfl (lv_at hl 2 rfl) ?_
                refine lv_if_lt (tgt := 74) hx hb dX12_ditches_57 (by decide) (fun c717 => ?_) (fun c717 => ?_)
                · have t718 : z475.toInt < 0 := ti_lt c717 rfl (by decide)
                  refine lv_iload hx hb dX12_ditches_74 (lv_at hl 0 rfl) ?_
                  refine lv_istore_n (lv' := [(2, .int r699), (4, .int r699), (3, .int (nI i474)), (1, .int (nI i1)), (0, .ref o0)]) hx hb dX12_ditches_76 rfl hl (by decide) rfl (fun ls hl => ?_)
                  refine lv_iinc (v := nI (i474 + 1)) (lv' := [(3, .int (nI (i474 + 1))), (2, .int r699), (4, .int r699), (1, .int (nI i1)), (0, .ref o0)]) hx hb dX12_ditches_77 hl (k := 2) rfl (nI_add i474 1) (by decide) rfl (fun ls hl => ?_)
                  refine lv_goto (tgt := 30) hx hb dX12_ditches_80 (by decide) ?_
                  exact ih693 (i474 + 1) (by omega) (by omega) r699 ⟨(by have q8 := ti_all r699; omega), (Or.inr ⟨by assumption, by omega, by omega, by have q9 := (show (nI i1).toInt = ((i1 : Nat) : Int) from (nI_toInt (by omega))); omega⟩)⟩ _ _ hT hF hS m710 ls (lv_sub hl [0, 1, 3, 4] rfl)
                · have t719 : 0 ≤ z475.toInt := ti_nlt c717 rfl (by decide)
                  refine lv_aload_n hx hb dX12_ditches_60 rfl (lv_at hl 4 rfl) ?_
                  refine lv_iload hx hb dX12_ditches_61 (lv_at hl 0 rfl) ?_
                  have hFc := gA_free hG hA hS
                  refine va_calli (va_runV (As := [.int r699]) (rest := []) ⟨hx, hb, hml, hown, hts⟩ (s_level l dC dI kA adK adV G H q (zN1 gmv2 i1) wN wH wB wC wL wK wU wV PI im (mvP (mvu gmv2 i1 0) gnz3 (i1 + 1)) (mtP gnz3) lS lB lE lN o0 r699 hT hr_o0 (by have q8 := ti_all r699; omega) t459 hgn (by omega) (by omega) (by omega) (by omega) hgu) (cwV 1 hts (goodIn_app (goodIn_r _ [29, 30, 31, 10] rfl (by decide +kernel)) (goodIn_ca (goodIn_r _ [17, 6, 2, 7, 8, 9, 10, 18, 19, 20, 21, 22, 23, 24, 25, 26, 27, 28] rfl (by decide +kernel)) (bs_in _ _))) rfl rfl rfl (by decide +kernel) ⟨(Nat.le_of_ble_eq_true rfl), (Nat.le_of_ble_eq_true rfl)⟩) ⟨fun a U g mk q => by obtain ⟨q0, q1, qK, qE⟩ := q; exact ⟨q0, q1, va_K.moved (u := U) (U := U.calling g mk a) (Vm.Alike.refl U.vm) qK, EVS.blind g mk a qE⟩, gH_rc hK hT hr_o0 shm_0 rfl, fun U hU hW => ⟨rfl, hU, va_K.moved hW.alike hK, hE.call hS hFc hU hW⟩⟩ rfl rfl hl.1 rfl (lv_room (Nat.le_of_ble_eq_true rfl)) dX12_ditches_63 ⟨(Nat.le_of_ble_eq_true rfl), (Nat.le_of_ble_eq_true rfl)⟩) hS (fun q _ h => hFc q h) hFc (fun r720 u t H locs ht hvm hw721 hB _ _ hS => ?_)
                  obtain ⟨hT, hF1⟩ := hB
                  rw [ht] at hT hF1
                  have m722 := (el_kept (hF1.arr hg463 skm_5 (by decide))).trans m710
                  have hF := hF.more hF1 (by decide)
                  try dsimp only at hw721
                  have h723 := hw721
                  refine lv_aload_n hx hb dX12_ditches_66 rfl (lv_at hl 4 rfl) ?_
                  refine lv_iload_n hx hb dX12_ditches_67 rfl (lv_at hl 2 rfl) ?_
                  have hFc := gA_free hG hA hS
                  refine va_calli (va_runV (As := [.int z475]) (rest := [.int r720]) ⟨hx, hb, hml, hown, hts⟩ (s_level l dC dI kA adK adV G H q (zN1 gmv2 i1) wN wH wB wC wL wK wU wV PI im (mvP (mvu gmv2 i1 0) gnz3 (i1 + 1)) (mtP gnz3) lS lB lE lN o0 z475 hT hr_o0 (by have q8 := ti_all z475; omega) t459 hgn (by omega) (by omega) (by omega) (by omega) hgu) (cwV 1 hts (goodIn_app (goodIn_r _ [29, 30, 31, 10] rfl (by decide +kernel)) (goodIn_ca (goodIn_r _ [17, 6, 2, 7, 8, 9, 10, 18, 19, 20, 21, 22, 23, 24, 25, 26, 27, 28] rfl (by decide +kernel)) (bs_in _ _))) rfl rfl rfl (by decide +kernel) ⟨(Nat.le_of_ble_eq_true rfl), (Nat.le_of_ble_eq_true rfl)⟩) ⟨fun a U g mk q => by obtain ⟨q0, q1, qK, qE⟩ := q; exact ⟨q0, q1, va_K.moved (u := U) (U := U.calling g mk a) (Vm.Alike.refl U.vm) qK, EVS.blind g mk a qE⟩, gH_rc hK hT hr_o0 shm_0 rfl, fun U hU hW => ⟨rfl, hU, va_K.moved hW.alike hK, hE.call hS hFc hU hW⟩⟩ rfl rfl hl.1 rfl (lv_room (Nat.le_of_ble_eq_true rfl)) dX12_ditches_68 ⟨(Nat.le_of_ble_eq_true rfl), (Nat.le_of_ble_eq_true rfl)⟩) hS (fun q _ h => hFc q h) hFc (fun r724 u t H locs ht hvm hw725 hB _ _ hS => ?_)
                  obtain ⟨hT, hF1⟩ := hB
                  rw [ht] at hT hF1
                  have m726 := (el_kept (hF1.arr hg463 skm_5 (by decide))).trans m722
                  have hF := hF.more hF1 (by decide)
                  try dsimp only at hw725
                  have h727 := hw725
                  refine lv_icmp_ge (tgt := 77) hx hb dX12_ditches_71 (by decide) (fun c728 => ?_) (fun c728 => ?_)
                  · have t729 : r724.toInt ≤ r720.toInt := ti_le c728 rfl rfl
                    refine lv_iinc (v := nI (i474 + 1)) (lv' := [(3, .int (nI (i474 + 1))), (4, .int r699), (2, .int z475), (1, .int (nI i1)), (0, .ref o0)]) hx hb dX12_ditches_77 hl (k := 1) rfl (nI_add i474 1) (by decide) rfl (fun ls hl => ?_)
                    refine lv_goto (tgt := 30) hx hb dX12_ditches_80 (by decide) ?_
                    exact ih693 (i474 + 1) (by omega) (by omega) z475 ⟨(by have q8 := ti_all z475; omega), hj478⟩ _ _ hT hF hS m726 ls (lv_sub hl [0, 2, 3, 4] rfl)
                  · have t730 : r720.toInt < r724.toInt := ti_nle c728 rfl rfl
                    refine lv_iload hx hb dX12_ditches_74 (lv_at hl 0 rfl) ?_
                    refine lv_istore_n (lv' := [(2, .int r699), (4, .int r699), (3, .int (nI i474)), (1, .int (nI i1)), (0, .ref o0)]) hx hb dX12_ditches_76 rfl hl (by decide) rfl (fun ls hl => ?_)
                    refine lv_iinc (v := nI (i474 + 1)) (lv' := [(3, .int (nI (i474 + 1))), (2, .int r699), (4, .int r699), (1, .int (nI i1)), (0, .ref o0)]) hx hb dX12_ditches_77 hl (k := 2) rfl (nI_add i474 1) (by decide) rfl (fun ls hl => ?_)
                    refine lv_goto (tgt := 30) hx hb dX12_ditches_80 (by decide) ?_
                    exact ih693 (i474 + 1) (by omega) (by omega) r699 ⟨(by have q8 := ti_all r699; omega), (Or.inr ⟨by assumption, by omega, by omega, by have q9 := (show (nI i1).toInt = ((i1 : Nat) : Int) from (nI_toInt (by omega))); omega⟩)⟩ _ _ hT hF hS m726 ls (lv_sub hl [0, 1, 3, 4] rfl)
        exact key693 (4 - 0) 0 (by omega) (Nat.le_refl _) (-1) ⟨(rg_t (a := (-1)) (by decide) (by first | decide | omega) (by first | decide | omega)), (Or.inl (by decide))⟩ _ _ hT hF hS m468 ls (lv_sub hl [0, 1, 2, 3] rfl)
      · have t731 : r466.toInt = 0 := ti_eq c471 rfl (by decide)
        refine lv_goto (tgt := 209) hx hb dX12_ditches_23 (by decide) ?_
        refine lv_iinc (v := nI (i1 + 1)) (lv' := [(1, .int (nI (i1 + 1))), (0, .ref o0)]) hx hb dX12_ditches_209 hl (k := 0) rfl (nI_add i1 1) (by decide) rfl (fun ls hl => ?_)
        refine lv_goto (tgt := 2) hx hb dX12_ditches_212 (by decide) ?_
        have hT : gH (dC, dI) kA (SHm q (wP (zN1 (mvu gmv2 i1 0) (i1 + 1)) wN wH wB wC wL wK wU wV) PI im (mvP (mvu gmv2 i1 0) gnz3 (i1 + 1)) (mtP gnz3) lS lB lE lN) G H := SHm_w hT (fun i hi x p => wP_mono hi (z1_c gmv2 i1 i) (Int.le_refl _) (Int.le_refl _) (fun _ => rfl) p)
        exact ih277 (i1 + 1) (by omega) (by omega) (mvu gmv2 i1 0) gnz3 (mvu_0 hg4 (by omega)) _ _ hT hF hS ls (lv_sub hl [0, 1] rfl)
  have hT : gH (dC, dI) kA (SHm q (wP wZ0 wN wH wB wC wL wK wU wV) PI im (mvP (fun _ => 0) (fun _ => False) 0) (mtP (fun _ => False)) lS lB lE lN) G s.heap := SHm_m hT (fun i x _ h9 => absurd h9 (Nat.not_lt_zero _)) (fun i x _ h9 => h9.elim)
  have hT : gH (dC, dI) kA (SHm q (wP (zN1 (fun _ => 0) 0) wN wH wB wC wL wK wU wV) PI im (mvP (fun _ => 0) (fun _ => False) 0) (mtP (fun _ => False)) lS lB lE lN) G s.heap := SHm_w hT (fun i hi x p => wP_mono hi (by show zN1 (fun _ => 0) 0 i ≤ 0; unfold zN1; split <;> omega) (Int.le_refl _) (Int.le_refl _) (fun _ => rfl) p)
  exact key277 (96 - 0) 0 (by omega) (Nat.le_refl _) (fun _ => 0) (fun _ => False) (fun _ => Int.le_refl 0) _ _ hT hF hS ls (lv_sub hl [0, 1] rfl)
