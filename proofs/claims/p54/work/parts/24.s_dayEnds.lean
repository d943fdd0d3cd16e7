def w_s_dayEnds : List Cond := .code yX12_dayEnds cX12_dayEnds 3 none :: (HAppend.hAppend (α := List Cond) (β := List Cond) (γ := List Cond) [.code yX12_isLand cX12_isLand 2 (some .boolean), .fieldLink RX12 9 "SeaLandModel" "world" "[I", .methodLink RX12 235 yX12_isLand, .instanceMethod yX12_isLand, .selects RX12 yX12_isLand yX12_isLand, .initialized RX12] bs)
set_option maxHeartbeats 4000000 in
set_option maxRecDepth 100000 in
theorem s_dayEnds (l : Launch) (dC : Nat → ClassId) (dI : Nat → Nat → Nat) (kA : Nat → ClassId) (adK adV : Nat → Nat) (G : gT) (H0 : Heap) (q : Nat → Nat) (wZ wN : Nat → Int) (wH wB wC : Int) (wL wK : Nat → Prop) (wU wV : Nat → Nat) (PI : Nat → Int → Prop) (im : Int) (PM PT : Nat → Int → Prop) (lS lB lE : Nat → Nat → Int → Prop) (lN : Nat → Int) (o0 : Nat)  (hT : gH (dC, dI) kA (SHm q (wP wZ0 wN wH wB wC wL wK wU wV) PI im PM PT lS lB lE lN) G H0) (hr_o0 : G o0 = some 0) (hb96_ : wB + 96 ≤ 3850000) (hgz : ∀ i, 0 ≤ wZ i) (hgn : ∀ i, 6500000 ≤ wN i ∧ wN i ≤ 20200000) (hgh : 0 ≤ wH ∧ wH ≤ 40000) (hgb : 0 ≤ wB ∧ wB ≤ 3850000) (hgc : 0 ≤ wC ∧ wC ≤ 30) (hgi : 0 ≤ im ∧ im ≤ 1) (hgu : ∀ a t, G a = some (t + 1) → a = q t) : Met l yX12_dayEnds w_s_dayEnds ({ frames := 1, cells := 0, slots := 0, locals := 21 }) (va_Pc [.ref o0] (fun U => U.heap = H0 ∧ va_K (dC, dI) vwCl (tyl kA) U ∧ EVS adK adV (gA G H0.size) U U.heap)) (va_Qv (fun (u : Unit) => True) (fun (_ : Unit) (t : State) => gH (dC, dI) kA (SHm q (wP wZ0 wN wH (wB + 96) wC wL wK wU wV) PI im PM PT lS lB lE lN) G t.heap ∧ gF (dC, dI) SKm G ([(2, 0)] : List (Nat × Nat)) H0 t.heap) (gA G H0.size)) 0 0 (gA G H0.size) := by
  refine Met.ofW (cc := cX12_dayEnds) (maxL := 3) (ret := none) (by decide) rfl ?_
  intro p e s m args below meth c s₁ B hml hv
  obtain ⟨rfl, hH0, hK, hE⟩ := hv
  have hx := B.exec
  have hb := B.bytes
  have hr := B.returns
  have hts := atoms_spec (ws := w_s_dayEnds) B.pre
  have hown : s.vm.findClass RX12 = some m.cls := findClass_of_methodNamed B.named
  have hlocks := B.notSynchronized
  subst hH0
  generalize hAe : gA G s.heap.size = A at hE ⊢
  have hA : ∀ q : Nat, s.heap.size ≤ q → A q := fun q h => by rw [← hAe]; exact Or.inr h
  have hG := gA_of hAe
  have hS : va_S A s.heap s.heap [] := va_S.rf
  have hF : gF (dC, dI) SKm G ([(2, 0)] : List (Nat × Nat)) s.heap s.heap := gF.rf
  have hl := lv_entry ([.ref o0]) (n := 3) (Nat.le_of_ble_eq_true rfl)
  rw [lg_entry_eq]
  generalize (lg_sl ([.ref o0]) ++ List.replicate (3 - (lg_sl ([.ref o0])).length) Slot.unset).toArray = ls at hl ⊢
  have hl : lv_has ls 3 [(0, .ref o0)] := hl
  refine lv_iconst (v := 0) hx hb dX12_dayEnds_0 (by decide) ?_
  refine lv_istore_n (lv' := [(1, .int 0), (0, .ref o0)]) hx hb dX12_dayEnds_1 rfl hl (by decide) rfl (fun ls hl => ?_)
  have key191 : ∀ (n191 i1 : Nat), i1 + n191 = 96 → 0 ≤ i1 → ∀ (H : Heap) (locs : List Loc), gH (dC, dI) kA (SHm q (wP wZ0 wN wH (wB + ((i1 : Nat) : Int)) wC wL wK wU wV) PI im PM PT lS lB lE lN) G H → gF (dC, dI) SKm G ([(2, 0)] : List (Nat × Nat)) s.heap H → va_S A s.heap H locs → ∀ ls : Array Slot, lv_has ls 3 [(1, .int (nI i1)), (0, .ref o0)] → W p l e (headSpec w_s_dayEnds ({ frames := 1, cells := 0, slots := 0, locals := 21 })).room s m #[.ref o0] below meth c H locs 0 0 (MQ below (va_Qv (fun (u : Unit) => True) (fun (_ : Unit) (t : State) => gH (dC, dI) kA (SHm q (wP wZ0 wN wH (wB + 96) wC wL wK wU wV) PI im PM PT lS lB lE lN) G t.heap ∧ gF (dC, dI) SKm G ([(2, 0)] : List (Nat × Nat)) s.heap t.heap) A) #[.ref o0] s 0 0 A) (F0 m 2 ls []) := by
    intro n191
    induction n191 with
    | zero =>
      intro i1 hn191 hlo192  H locs hT hF hS  ls hl
      obtain rfl : 96 = i1 := by omega
      refine lv_iload_n hx hb dX12_dayEnds_2 rfl (lv_at hl 0 rfl) ?_
      refine lv_bipush (v := 96) hx hb dX12_dayEnds_3 (by decide) ?_
      refine lv_icmp_ge (tgt := 168) hx hb dX12_dayEnds_5 (by decide) (fun c193 => ?_) (fun c193 => (by exfalso; have q9 : ((96 : Nat) : Int) < 96 := ti_nle c193 (by decide) (nI_toInt (by omega)); omega))
      have t194 : 96 ≤ ((96 : Nat) : Int) := ti_le c193 (by decide) (nI_toInt (by omega))
      exact W.vret hx hb hr (fun t ht hW => ⟨⟨(), rfl, (by exact trivial), by (try dsimp only); rw [ht]; exact ⟨hT, hF⟩⟩, hS.F ht⟩) hS.2.2 dX12_dayEnds_168
    | succ n191 ih191 =>
      intro i1 hn191 hlo192  H locs hT hF hS  ls hl
      have hlt194 : i1 < 96 := by omega
      refine lv_iload_n hx hb dX12_dayEnds_2 rfl (lv_at hl 0 rfl) ?_
      refine lv_bipush (v := 96) hx hb dX12_dayEnds_3 (by decide) ?_
      refine lv_icmp_ge (tgt := 168) hx hb dX12_dayEnds_5 (by decide) (fun c195 => (by exfalso; have q9 : 96 ≤ ((i1 : Nat) : Int) := ti_le c195 (by decide) (nI_toInt (by omega)); omega)) (fun c195 => ?_)
      have t196 : ((i1 : Nat) : Int) < 96 := ti_nle c195 (by decide) (nI_toInt (by omega))
      obtain ⟨x197, ex197⟩ : ∃ y : Int32, y = (96 : Int32) + (nI i1) := ⟨_, rfl⟩
      have t198 : x197.toInt = 96 + ((i1 : Nat) : Int) := ti_add ex197 (by decide) (nI_toInt (by omega)) (by omega) (by omega)
      have hg199 : G (q 1) = some 2 := gx_of hT hr_o0 shm_0 (k := 1) (by decide) rfl
      obtain ⟨v9, m200, h9⟩ := gH_el (i := x197.toNatClampNeg) hT hg199 shm_2 (by have q9 := tn_of (show x197.toInt = x197.toInt from rfl) (by omega); omega)
      obtain ⟨x201, rfl, gx201, kx201⟩ := (gp_at h9 (w_hgt (by have q9 := tn_of (show x197.toInt = x197.toInt from rfl) (show (0 : Int) ≤ x197.toInt from by omega); omega)))
      have hT : gH (dC, dI) kA (SHm q (wP wZ0 wN wH (wB + ((i1 + 1 : Nat) : Int)) wC wL wK wU wV) PI im PM PT lS lB lE lN) G H := SHm_w hT (fun i hi x p => wP_mono hi (Int.le_refl _) (Int.le_refl _) (by omega) (fun _ => rfl) p)
      refine lv_aload_n hx hb dX12_dayEnds_8 rfl (lv_at hl 1 rfl) ?_
      refine lv_iload_n hx hb dX12_dayEnds_9 rfl (lv_at hl 0 rfl) ?_
      have hFc := gA_free hG hA hS
      refine va_calli (va_runV (As := [.int (nI i1)]) (rest := []) ⟨hx, hb, hml, hown, hts⟩ (s_isLand l dC dI kA adK adV G H q wZ0 wN wH (wB + ((i1 + 1 : Nat) : Int)) wC wL wK wU wV PI im PM PT lS lB lE lN o0 (nI i1) hT hr_o0 (rg_t (a := ((i1 : Nat) : Int)) (nI_toInt (by omega)) (by omega) (by omega)) (fun _ => Int.le_refl 0) hgn (by omega) (by omega) (by omega) (by omega) hgu) (cwV 1 hts (goodIn_app (goodIn_r _ [3, 4, 5, 6] rfl (by decide +kernel)) (goodIn_ca (goodIn_r _ [1, 2] rfl (by decide +kernel)) (bs_in _ _))) rfl rfl rfl (by decide +kernel) ⟨(Nat.le_of_ble_eq_true rfl), (Nat.le_of_ble_eq_true rfl)⟩) ⟨fun a U g mk q => by obtain ⟨q0, q1, qK, qE⟩ := q; exact ⟨q0, q1, va_K.moved (u := U) (U := U.calling g mk a) (Vm.Alike.refl U.vm) qK, EVS.blind g mk a qE⟩, gH_rc hK hT hr_o0 shm_0 rfl, fun U hU hW => ⟨rfl, hU, va_K.moved hW.alike hK, hE.call hS hFc hU hW⟩⟩ rfl rfl hl.1 rfl (lv_room (Nat.le_of_ble_eq_true rfl)) dX12_dayEnds_10 ⟨(Nat.le_of_ble_eq_true rfl), (Nat.le_of_ble_eq_true rfl)⟩) hS (fun q _ h => hFc q h) hFc (fun r202 u t H locs ht hvm hw203 hB _ _ hS => ?_)
      obtain ⟨hT, hF1⟩ := hB
      rw [ht] at hT hF1
      have m204 := (el_kept (hF1.arr hg199 skm_2 (by decide))).trans m200
      have hF := hF.more hF1 (by decide)
      try dsimp only at hw203
      obtain ⟨h205, hi206, hi207⟩ := hw203
      refine lv_if_ne (tgt := 19) hx hb dX12_dayEnds_13 (by decide) (fun c208 => ?_) (fun c208 => ?_)
      · have t209 : r202.toInt ≠ 0 := ti_ne c208 rfl (by decide)
        have t210 : wL (nI i1).toNatClampNeg := hi206 ((bit_of ⟨by omega, by omega⟩).resolve_left c208)
        refine lv_aload_n hx hb dX12_dayEnds_19 rfl (lv_at hl 1 rfl) ?_
        refine tw_get hx hb hts bF_X12 hown hK hT hr_o0 shm_0 rfl 1 (by decide) (ht_at hts 1 rfl) (fun _ h9 => h9) dX12_dayEnds_20 (fun v9 m211 h9 => ?_)
        obtain ⟨rfl, hg212⟩ := h9 _ rfl
        refine lv_sipush (v := 384) hx hb dX12_dayEnds_23 (by decide) ?_
        refine lv_iload_n hx hb dX12_dayEnds_26 rfl (lv_at hl 0 rfl) ?_
        refine lv_iadd hx hb dX12_dayEnds_27 ?_
        refine lv_topi (fun x213 ex213 => ?_)
        obtain rfl : nI (384 + i1) = x213 := (ex213.trans (nI_add 384 i1)).symm
        refine tw_iald (i := (nI (384 + i1))) hx hb hK hT hg199 shm_2 rfl (vp_in_nI (by omega) (by decide)) dX12_dayEnds_28 (fun v9 m214 h9 => ?_)
        obtain ⟨x215, rfl, gx215, kx215⟩ := (gw_at h9 (w_wat (by have q9 := tn_of (show (nI (384 + i1)).toInt = ((384 + i1 : Nat) : Int) from (nI_toInt (by omega))) (show (0 : Int) ≤ ((384 + i1 : Nat) : Int) from by omega); omega)) hgn (fun _ => Int.le_refl 0))
        refine lv_if_le (tgt := 60) hx hb dX12_dayEnds_29 (by decide) (fun c216 => ?_) (fun c216 => ?_)
        · have t217 : x215.toInt ≤ 0 := ti_le c216 rfl (by decide)
          refine lv_aload_n hx hb dX12_dayEnds_60 rfl (lv_at hl 1 rfl) ?_
          refine tw_get hx hb hts bF_X12 hown hK hT hr_o0 shm_0 rfl 1 (by decide) (ht_at hts 1 rfl) (fun _ h9 => h9) dX12_dayEnds_61 (fun v9 m218 h9 => ?_)
          obtain ⟨rfl, hg219⟩ := h9 _ rfl
          refine lv_sipush (v := 576) hx hb dX12_dayEnds_64 (by decide) ?_
          refine lv_iload_n hx hb dX12_dayEnds_67 rfl (lv_at hl 0 rfl) ?_
          refine lv_iadd hx hb dX12_dayEnds_68 ?_
          refine lv_topi (fun x220 ex220 => ?_)
          obtain rfl : nI (576 + i1) = x220 := (ex220.trans (nI_add 576 i1)).symm
          refine lv_dup2_11 hx hb dX12_dayEnds_69 rfl rfl ?_
          refine tw_iald (i := (nI (576 + i1))) hx hb hK hT hg199 shm_2 rfl (vp_in_nI (by omega) (by decide)) dX12_dayEnds_70 (fun v9 m221 h9 => ?_)
          obtain ⟨x222, rfl, gx222, kx222⟩ := (gp_at h9 (w_fre (by have q9 := tn_of (show (nI (576 + i1)).toInt = ((576 + i1 : Nat) : Int) from (nI_toInt (by omega))) (show (0 : Int) ≤ ((576 + i1 : Nat) : Int) from by omega); omega)))
          refine lv_iconst (v := 1) hx hb dX12_dayEnds_71 (by decide) ?_
          refine lv_iadd hx hb dX12_dayEnds_72 ?_
          refine lv_topi (fun x223 ex223 => ?_)
          refine tw_iast (i := (nI (576 + i1))) (x := x223) hx hb hK hT hG hS hg199 shm_2 rfl (vp_in_nI (by omega) (by decide)) (gp_of (gi_all _) (w_fre (by have q9 := tn_of (show (nI (576 + i1)).toInt = ((576 + i1 : Nat) : Int) from (nI_toInt (by omega))) (show (0 : Int) ≤ ((576 + i1 : Nat) : Int) from by omega); omega)) (wX_o (by have q9 := tn_of (show (nI (576 + i1)).toInt = ((576 + i1 : Nat) : Int) from (nI_toInt (by omega))) (show (0 : Int) ≤ ((576 + i1 : Nat) : Int) from by omega); omega) (by omega))) dX12_dayEnds_73 (fun H locs hT oq m224 oi hS => ?_)
          have hF := hF.ast hg199 skm_2 oq (by decide)
          have m225 := (oi _ (tn_ne (show x197.toInt = x197.toInt from rfl) (show (nI (576 + i1)).toInt = ((576 + i1 : Nat) : Int) from (nI_toInt (by omega))) (by omega) (by omega) (by omega))).trans m204
          have m226 := (oi _ (tn_ne (show (nI (384 + i1)).toInt = ((384 + i1 : Nat) : Int) from (nI_toInt (by omega))) (show (nI (576 + i1)).toInt = ((576 + i1 : Nat) : Int) from (nI_toInt (by omega))) (by omega) (by omega) (by omega))).trans m214
          refine lv_aload_n hx hb dX12_dayEnds_74 rfl (lv_at hl 1 rfl) ?_
          refine tw_get hx hb hts bF_X12 hown hK hT hr_o0 shm_0 rfl 1 (by decide) (ht_at hts 1 rfl) (fun _ h9 => h9) dX12_dayEnds_75 (fun v9 m227 h9 => ?_)
          obtain ⟨rfl, hg228⟩ := h9 _ rfl
          refine lv_sipush (v := 192) hx hb dX12_dayEnds_78 (by decide) ?_
          refine lv_iload_n hx hb dX12_dayEnds_81 rfl (lv_at hl 0 rfl) ?_
          refine lv_iadd hx hb dX12_dayEnds_82 ?_
          refine lv_topi (fun x229 ex229 => ?_)
          obtain rfl : nI (192 + i1) = x229 := (ex229.trans (nI_add 192 i1)).symm
          refine tw_iald (i := (nI (192 + i1))) hx hb hK hT hg199 shm_2 rfl (vp_in_nI (by omega) (by decide)) dX12_dayEnds_83 (fun v9 m230 h9 => ?_)
          obtain ⟨x231, rfl, gx231, kx231⟩ := (gp_at h9 (w_fre (by have q9 := tn_of (show (nI (192 + i1)).toInt = ((192 + i1 : Nat) : Int) from (nI_toInt (by omega))) (show (0 : Int) ≤ ((192 + i1 : Nat) : Int) from by omega); omega)))
          refine lv_iconst (v := 2) hx hb dX12_dayEnds_84 (by decide) ?_
          refine lv_icmp_ne (tgt := 92) hx hb dX12_dayEnds_85 (by decide) (fun c232 => ?_) (fun c232 => ?_)
          · have t233 : x231.toInt ≠ 2 := ti_ne c232 rfl (by decide)
            refine lv_bipush (v := 10) hx hb dX12_dayEnds_92 (by decide) ?_
            refine lv_istore_n (lv' := [(2, .int 10), (1, .int (nI i1)), (0, .ref o0)]) hx hb dX12_dayEnds_94 rfl hl (by decide) rfl (fun ls hl => ?_)
            refine lv_aload_n hx hb dX12_dayEnds_95 rfl (lv_at hl 2 rfl) ?_
            refine tw_get hx hb hts bF_X12 hown hK hT hr_o0 shm_0 rfl 1 (by decide) (ht_at hts 1 rfl) (fun _ h9 => h9) dX12_dayEnds_96 (fun v9 m234 h9 => ?_)
            obtain ⟨rfl, hg235⟩ := h9 _ rfl
            refine lv_sipush (v := 192) hx hb dX12_dayEnds_99 (by decide) ?_
            refine lv_iload_n hx hb dX12_dayEnds_102 rfl (lv_at hl 1 rfl) ?_
            refine lv_iadd hx hb dX12_dayEnds_103 ?_
            refine lv_topi (fun x236 ex236 => ?_)
            obtain rfl : nI (192 + i1) = x236 := (ex236.trans (nI_add 192 i1)).symm
            refine tw_iald (i := (nI (192 + i1))) hx hb hK hT hg199 shm_2 rfl (vp_in_nI (by omega) (by decide)) dX12_dayEnds_104 (fun v9 m237 h9 => ?_)
            obtain ⟨x238, rfl, gx238, kx238⟩ := (gp_at h9 (w_fre (by have q9 := tn_of (show (nI (192 + i1)).toInt = ((192 + i1 : Nat) : Int) from (nI_toInt (by omega))) (show (0 : Int) ≤ ((192 + i1 : Nat) : Int) from by omega); omega)))
            obtain rfl : x231 = x238 := (el_same m237 m230 rfl).symm
            have jn262 : ∀ (H : Heap) (locs : List Loc), gH (dC, dI) kA (SHm q (wP wZ0 wN wH (wB + ((i1 + 1 : Nat) : Int)) wC wL wK wU wV) PI im PM PT lS lB lE lN) G H → gF (dC, dI) SKm G ([(2, 0)] : List (Nat × Nat)) s.heap H → va_S A s.heap H locs → el H (q 1) (nI (384 + i1)).toNatClampNeg = some (.int x215) → el H (q 1) (nI (576 + i1)).toNatClampNeg = some (.int x223) → el H (q 1) (nI (192 + i1)).toNatClampNeg = some (.int x231) → ∀ ls : Array Slot, lv_has ls 3 [(2, .int 10), (1, .int (nI i1)), (0, .ref o0)] → W p l e (headSpec w_s_dayEnds ({ frames := 1, cells := 0, slots := 0, locals := 21 })).room s m #[.ref o0] below meth c H locs 0 0 (MQ below (va_Qv (fun (u : Unit) => True) (fun (_ : Unit) (t : State) => gH (dC, dI) kA (SHm q (wP wZ0 wN wH (wB + 96) wC wL wK wU wV) PI im PM PT lS lB lE lN) G t.heap ∧ gF (dC, dI) SKm G ([(2, 0)] : List (Nat × Nat)) s.heap t.heap) A) #[.ref o0] s 0 0 A) (F0 m 136 ls []) := by
              intro  H locs hT hF hS m259 m260 m261 ls hl
              refine lv_aload_n hx hb dX12_dayEnds_136 rfl (lv_at hl 2 rfl) ?_
              refine tw_get hx hb hts bF_X12 hown hK hT hr_o0 shm_0 rfl 1 (by decide) (ht_at hts 1 rfl) (fun _ h9 => h9) dX12_dayEnds_137 (fun v9 m263 h9 => ?_)
              obtain ⟨rfl, hg264⟩ := h9 _ rfl
              refine lv_sipush (v := 480) hx hb dX12_dayEnds_140 (by decide) ?_
              refine lv_iload_n hx hb dX12_dayEnds_143 rfl (lv_at hl 1 rfl) ?_
              refine lv_iadd hx hb dX12_dayEnds_144 ?_
              refine lv_topi (fun x265 ex265 => ?_)
              obtain rfl : nI (480 + i1) = x265 := (ex265.trans (nI_add 480 i1)).symm
              refine lv_dup2_11 hx hb dX12_dayEnds_145 rfl rfl ?_
              refine tw_iald (i := (nI (480 + i1))) hx hb hK hT hg199 shm_2 rfl (vp_in_nI (by omega) (by decide)) dX12_dayEnds_146 (fun v9 m266 h9 => ?_)
              obtain ⟨x267, rfl, gx267, kx267⟩ := (gp_at h9 (w_fre (by have q9 := tn_of (show (nI (480 + i1)).toInt = ((480 + i1 : Nat) : Int) from (nI_toInt (by omega))) (show (0 : Int) ≤ ((480 + i1 : Nat) : Int) from by omega); omega)))
              refine lv_aload_n hx hb dX12_dayEnds_147 rfl (lv_at hl 2 rfl) ?_
              refine tw_get hx hb hts bF_X12 hown hK hT hr_o0 shm_0 rfl 1 (by decide) (ht_at hts 1 rfl) (fun _ h9 => h9) dX12_dayEnds_148 (fun v9 m268 h9 => ?_)
              obtain ⟨rfl, hg269⟩ := h9 _ rfl
              refine lv_sipush (v := 480) hx hb dX12_dayEnds_151 (by decide) ?_
              refine lv_iload_n hx hb dX12_dayEnds_154 rfl (lv_at hl 1 rfl) ?_
              refine lv_iadd hx hb dX12_dayEnds_155 ?_
              refine lv_topi (fun x270 ex270 => ?_)
              obtain rfl : nI (480 + i1) = x270 := (ex270.trans (nI_add 480 i1)).symm
              refine tw_iald (i := (nI (480 + i1))) hx hb hK hT hg199 shm_2 rfl (vp_in_nI (by omega) (by decide)) dX12_dayEnds_156 (fun v9 m271 h9 => ?_)
              obtain ⟨x272, rfl, gx272, kx272⟩ := (gp_at h9 (w_fre (by have q9 := tn_of (show (nI (480 + i1)).toInt = ((480 + i1 : Nat) : Int) from (nI_toInt (by omega))) (show (0 : Int) ≤ ((480 + i1 : Nat) : Int) from by omega); omega)))
              obtain rfl : x267 = x272 := (el_same m271 m266 rfl).symm
              refine lv_bipush (v := 100) hx hb dX12_dayEnds_157 (by decide) ?_
              have t273 : -2147483648 ≤ x267.toInt ∧ x267.toInt ≤ 2147483647 := ti_all x267
              refine lv_idiv hx hb dX12_dayEnds_159 (by decide) ?_
              refine lv_topi (fun x274 ex274 => ?_)
              have t275 : (0 ≤ x267.toInt ∧ x274.toInt = x267.toInt / 100) ∨ (x267.toInt < 0 ∧ x274.toInt = -((-x267.toInt) / 100)) := ti_divs ex274 rfl (by decide) (by decide)
              refine lv_isub hx hb dX12_dayEnds_160 ?_
              refine lv_topi (fun x276 ex276 => ?_)
              refine tw_iast (i := (nI (480 + i1))) (x := x276) hx hb hK hT hG hS hg199 shm_2 rfl (vp_in_nI (by omega) (by decide)) (gp_of (gi_all _) (w_fre (by have q9 := tn_of (show (nI (480 + i1)).toInt = ((480 + i1 : Nat) : Int) from (nI_toInt (by omega))) (show (0 : Int) ≤ ((480 + i1 : Nat) : Int) from by omega); omega)) (wX_o (by have q9 := tn_of (show (nI (480 + i1)).toInt = ((480 + i1 : Nat) : Int) from (nI_toInt (by omega))) (show (0 : Int) ≤ ((480 + i1 : Nat) : Int) from by omega); omega) (by omega))) dX12_dayEnds_161 (fun H locs hT oq m277 oi hS => ?_)
              have hF := hF.ast hg199 skm_2 oq (by decide)
              refine lv_iinc (v := nI (i1 + 1)) (lv' := [(1, .int (nI (i1 + 1))), (2, .int 10), (0, .ref o0)]) hx hb dX12_dayEnds_162 hl (k := 1) rfl (nI_add i1 1) (by decide) rfl (fun ls hl => ?_)
              refine lv_goto (tgt := 2) hx hb dX12_dayEnds_165 (by decide) ?_
              exact ih191 (i1 + 1) (by omega) (by omega) _ _ hT hF hS ls (lv_sub hl [0, 2] rfl)
            refine lv_if_le (tgt := 136) hx hb dX12_dayEnds_105 (by decide) (fun c281 => ?_) (fun c281 => ?_)
            · have t282 : x231.toInt ≤ 0 := ti_le c281 rfl (by decide)
              exact jn262 _ _ hT hF hS m226 m224 m230 ls (lv_sub hl [0, 1, 2] rfl)
            · have t283 : 0 < x231.toInt := ti_nle c281 rfl (by decide)
              refine lv_aload_n hx hb dX12_dayEnds_108 rfl (lv_at hl 2 rfl) ?_
              refine tw_get hx hb hts bF_X12 hown hK hT hr_o0 shm_0 rfl 1 (by decide) (ht_at hts 1 rfl) (fun _ h9 => h9) dX12_dayEnds_109 (fun v9 m284 h9 => ?_)
              obtain ⟨rfl, hg285⟩ := h9 _ rfl
              refine lv_sipush (v := 576) hx hb dX12_dayEnds_112 (by decide) ?_
              refine lv_iload_n hx hb dX12_dayEnds_115 rfl (lv_at hl 1 rfl) ?_
              refine lv_iadd hx hb dX12_dayEnds_116 ?_
              refine lv_topi (fun x286 ex286 => ?_)
              obtain rfl : nI (576 + i1) = x286 := (ex286.trans (nI_add 576 i1)).symm
              refine tw_iald (i := (nI (576 + i1))) hx hb hK hT hg199 shm_2 rfl (vp_in_nI (by omega) (by decide)) dX12_dayEnds_117 (fun v9 m287 h9 => ?_)
              obtain ⟨x288, rfl, gx288, kx288⟩ := (gp_at h9 (w_fre (by have q9 := tn_of (show (nI (576 + i1)).toInt = ((576 + i1 : Nat) : Int) from (nI_toInt (by omega))) (show (0 : Int) ≤ ((576 + i1 : Nat) : Int) from by omega); omega)))
              obtain rfl : x223 = x288 := (el_same m287 m224 rfl).symm
              refine lv_iload_n hx hb dX12_dayEnds_118 rfl (lv_at hl 0 rfl) ?_
              refine lv_irem hx hb dX12_dayEnds_119 (by decide) ?_
              refine lv_topi (fun x289 ex289 => ?_)
              refine lv_if_ne (tgt := 136) hx hb dX12_dayEnds_120 (by decide) (fun c290 => ?_) (fun c290 => ?_)
              · have t291 : x289.toInt ≠ 0 := ti_ne c290 rfl (by decide)
                exact jn262 _ _ hT hF hS m226 m224 m230 ls (lv_sub hl [0, 1, 2] rfl)
              · have t292 : x289.toInt = 0 := ti_eq c290 rfl (by decide)
                refine lv_aload_n hx hb dX12_dayEnds_123 rfl (lv_at hl 2 rfl) ?_
                refine tw_get hx hb hts bF_X12 hown hK hT hr_o0 shm_0 rfl 1 (by decide) (ht_at hts 1 rfl) (fun _ h9 => h9) dX12_dayEnds_124 (fun v9 m293 h9 => ?_)
                obtain ⟨rfl, hg294⟩ := h9 _ rfl
                refine lv_bipush (v := 96) hx hb dX12_dayEnds_127 (by decide) ?_
                refine lv_iload_n hx hb dX12_dayEnds_129 rfl (lv_at hl 1 rfl) ?_
                refine lv_iadd hx hb dX12_dayEnds_130 ?_
                refine lv_topi (fun x295 ex295 => ?_)
                obtain rfl : nI (96 + i1) = x295 := (ex295.trans (nI_add 96 i1)).symm
                refine lv_dup2_11 hx hb dX12_dayEnds_131 rfl rfl ?_
                refine tw_iald (i := (nI (96 + i1))) hx hb hK hT hg199 shm_2 rfl (vp_in_nI (by omega) (by decide)) dX12_dayEnds_132 (fun v9 m296 h9 => ?_)
                obtain ⟨x297, rfl, gx297, kx297⟩ := (gp_at h9 (w_hgt (by have q9 := tn_of (show (nI (96 + i1)).toInt = ((96 + i1 : Nat) : Int) from (nI_toInt (by omega))) (show (0 : Int) ≤ ((96 + i1 : Nat) : Int) from by omega); omega)))
                obtain rfl : x201 = x297 := (el_same m296 m225 (show (nI (96 + i1)).toInt = x197.toInt from by rw [show (nI (96 + i1)).toInt = ((96 + i1 : Nat) : Int) from (nI_toInt (by omega))]; try omega)).symm
                refine lv_iconst (v := 1) hx hb dX12_dayEnds_133 (by decide) ?_
                refine lv_isub hx hb dX12_dayEnds_134 ?_
                refine lv_topi (fun x298 ex298 => ?_)
                have t299 : x298.toInt = x201.toInt - 1 := ti_sub ex298 rfl (by decide) (by omega) (by omega)
                refine tw_iast (i := (nI (96 + i1))) (x := x298) hx hb hK hT hG hS hg199 shm_2 rfl (vp_in_nI (by omega) (by decide)) (gp_of (gi_of (show x298.toInt = x298.toInt from rfl) (by omega) (by omega)) (w_hgt (by have q9 := tn_of (show (nI (96 + i1)).toInt = ((96 + i1 : Nat) : Int) from (nI_toInt (by omega))) (show (0 : Int) ≤ ((96 + i1 : Nat) : Int) from by omega); omega)) (wX_o (by have q9 := tn_of (show (nI (96 + i1)).toInt = ((96 + i1 : Nat) : Int) from (nI_toInt (by omega))) (show (0 : Int) ≤ ((96 + i1 : Nat) : Int) from by omega); omega) (by omega))) dX12_dayEnds_135 (fun H locs hT oq m300 oi hS => ?_)
                have hF := hF.ast hg199 skm_2 oq (by decide)
                have m301 := (oi _ (tn_ne (show (nI (384 + i1)).toInt = ((384 + i1 : Nat) : Int) from (nI_toInt (by omega))) (show (nI (96 + i1)).toInt = ((96 + i1 : Nat) : Int) from (nI_toInt (by omega))) (by omega) (by omega) (by omega))).trans m226
                have m302 := (oi _ (tn_ne (show (nI (576 + i1)).toInt = ((576 + i1 : Nat) : Int) from (nI_toInt (by omega))) (show (nI (96 + i1)).toInt = ((96 + i1 : Nat) : Int) from (nI_toInt (by omega))) (by omega) (by omega) (by omega))).trans m224
                have m303 := (oi _ (tn_ne (show (nI (192 + i1)).toInt = ((192 + i1 : Nat) : Int) from (nI_toInt (by omega))) (show (nI (96 + i1)).toInt = ((96 + i1 : Nat) : Int) from (nI_toInt (by omega))) (by omega) (by omega) (by omega))).trans m230
                exact jn262 _ _ hT hF hS m301 m302 m303 ls (lv_sub hl [0, 1, 2] rfl)
          · have t304 : x231.toInt = 2 := ti_eq c232 rfl (by decide)
            refine lv_iconst (v := 3) hx hb dX12_dayEnds_88 (by decide) ?_
            refine lv_goto (tgt := 94) hx hb dX12_dayEnds_89 (by decide) ?_
            refine lv_istore_n (lv' := [(2, .int 3), (1, .int (nI i1)), (0, .ref o0)]) hx hb dX12_dayEnds_94 rfl hl (by decide) rfl (fun ls hl => ?_)
            refine lv_aload_n hx hb dX12_dayEnds_95 rfl (lv_at hl 2 rfl) ?_
            refine tw_get hx hb hts bF_X12 hown hK hT hr_o0 shm_0 rfl 1 (by decide) (ht_at hts 1 rfl) (fun _ h9 => h9) dX12_dayEnds_96 (fun v9 m305 h9 => ?_)
            obtain ⟨rfl, hg306⟩ := h9 _ rfl
            refine lv_sipush (v := 192) hx hb dX12_dayEnds_99 (by decide) ?_
            refine lv_iload_n hx hb dX12_dayEnds_102 rfl (lv_at hl 1 rfl) ?_
            refine lv_iadd hx hb dX12_dayEnds_103 ?_
            refine lv_topi (fun x307 ex307 => ?_)
            obtain rfl : nI (192 + i1) = x307 := (ex307.trans (nI_add 192 i1)).symm
            refine tw_iald (i := (nI (192 + i1))) hx hb hK hT hg199 shm_2 rfl (vp_in_nI (by omega) (by decide)) dX12_dayEnds_104 (fun v9 m308 h9 => ?_)
            obtain ⟨x309, rfl, gx309, kx309⟩ := (gp_at h9 (w_fre (by have q9 := tn_of (show (nI (192 + i1)).toInt = ((192 + i1 : Nat) : Int) from (nI_toInt (by omega))) (show (0 : Int) ≤ ((192 + i1 : Nat) : Int) from by omega); omega)))
            obtain rfl : x231 = x309 := (el_same m308 m230 rfl).symm
            refine lv_if_le (tgt := 136) hx hb dX12_dayEnds_105 (by decide) (fun c310 => (by exfalso; have q9 : x231.toInt ≤ 0 := ti_le c310 rfl (by decide); omega)) (fun c310 => ?_)
            have t311 : 0 < x231.toInt := ti_nle c310 rfl (by decide)
            refine lv_aload_n hx hb dX12_dayEnds_108 rfl (lv_at hl 2 rfl) ?_
            refine tw_get hx hb hts bF_X12 hown hK hT hr_o0 shm_0 rfl 1 (by decide) (ht_at hts 1 rfl) (fun _ h9 => h9) dX12_dayEnds_109 (fun v9 m312 h9 => ?_)
            obtain ⟨rfl, hg313⟩ := h9 _ rfl
            refine lv_sipush (v := 576) hx hb dX12_dayEnds_112 (by decide) ?_
            refine lv_iload_n hx hb dX12_dayEnds_115 rfl (lv_at hl 1 rfl) ?_
            refine lv_iadd hx hb dX12_dayEnds_116 ?_
            refine lv_topi (fun x314 ex314 => ?_)
            obtain rfl : nI (576 + i1) = x314 := (ex314.trans (nI_add 576 i1)).symm
            refine tw_iald (i := (nI (576 + i1))) hx hb hK hT hg199 shm_2 rfl (vp_in_nI (by omega) (by decide)) dX12_dayEnds_117 (fun v9 m315 h9 => ?_)
            obtain ⟨x316, rfl, gx316, kx316⟩ := (gp_at h9 (w_fre (by have q9 := tn_of (show (nI (576 + i1)).toInt = ((576 + i1 : Nat) : Int) from (nI_toInt (by omega))) (show (0 : Int) ≤ ((576 + i1 : Nat) : Int) from by omega); omega)))
            obtain rfl : x223 = x316 := (el_same m315 m224 rfl).symm
            refine lv_iload_n hx hb dX12_dayEnds_118 rfl (lv_at hl 0 rfl) ?_
            refine lv_irem hx hb dX12_dayEnds_119 (by decide) ?_
            refine lv_topi (fun x317 ex317 => ?_)
            have jn332 : ∀ (H : Heap) (locs : List Loc), gH (dC, dI) kA (SHm q (wP wZ0 wN wH (wB + ((i1 + 1 : Nat) : Int)) wC wL wK wU wV) PI im PM PT lS lB lE lN) G H → gF (dC, dI) SKm G ([(2, 0)] : List (Nat × Nat)) s.heap H → va_S A s.heap H locs → el H (q 1) (nI (384 + i1)).toNatClampNeg = some (.int x215) → el H (q 1) (nI (576 + i1)).toNatClampNeg = some (.int x223) → el H (q 1) (nI (192 + i1)).toNatClampNeg = some (.int x231) → ∀ ls : Array Slot, lv_has ls 3 [(2, .int 3), (1, .int (nI i1)), (0, .ref o0)] → W p l e (headSpec w_s_dayEnds ({ frames := 1, cells := 0, slots := 0, locals := 21 })).room s m #[.ref o0] below meth c H locs 0 0 (MQ below (va_Qv (fun (u : Unit) => True) (fun (_ : Unit) (t : State) => gH (dC, dI) kA (SHm q (wP wZ0 wN wH (wB + 96) wC wL wK wU wV) PI im PM PT lS lB lE lN) G t.heap ∧ gF (dC, dI) SKm G ([(2, 0)] : List (Nat × Nat)) s.heap t.heap) A) #[.ref o0] s 0 0 A) (F0 m 136 ls []) := by
              intro  H locs hT hF hS m329 m330 m331 ls hl
              refine lv_aload_n hx hb dX12_dayEnds_136 rfl (lv_at hl 2 rfl) ?_
              refine tw_get hx hb hts bF_X12 hown hK hT hr_o0 shm_0 rfl 1 (by decide) (ht_at hts 1 rfl) (fun _ h9 => h9) dX12_dayEnds_137 (fun v9 m333 h9 => ?_)
              obtain ⟨rfl, hg334⟩ := h9 _ rfl
              refine lv_sipush (v := 480) hx hb dX12_dayEnds_140 (by decide) ?_
              refine lv_iload_n hx hb dX12_dayEnds_143 rfl (lv_at hl 1 rfl) ?_
              refine lv_iadd hx hb dX12_dayEnds_144 ?_
              refine lv_topi (fun x335 ex335 => ?_)
              obtain rfl : nI (480 + i1) = x335 := (ex335.trans (nI_add 480 i1)).symm
              refine lv_dup2_11 hx hb dX12_dayEnds_145 rfl rfl ?_
              refine tw_iald (i := (nI (480 + i1))) hx hb hK hT hg199 shm_2 rfl (vp_in_nI (by omega) (by decide)) dX12_dayEnds_146 (fun v9 m336 h9 => ?_)
              obtain ⟨x337, rfl, gx337, kx337⟩ := (gp_at h9 (w_fre (by have q9 := tn_of (show (nI (480 + i1)).toInt = ((480 + i1 : Nat) : Int) from (nI_toInt (by omega))) (show (0 : Int) ≤ ((480 + i1 : Nat) : Int) from by omega); omega)))
              refine lv_aload_n hx hb dX12_dayEnds_147 rfl (lv_at hl 2 rfl) ?_
              refine tw_get hx hb hts bF_X12 hown hK hT hr_o0 shm_0 rfl 1 (by decide) (ht_at hts 1 rfl) (fun _ h9 => h9) dX12_dayEnds_148 (fun v9 m338 h9 => ?_)
              obtain ⟨rfl, hg339⟩ := h9 _ rfl
              refine lv_sipush (v := 480) hx hb dX12_dayEnds_151 (by decide) ?_
              refine lv_iload_n hx hb dX12_dayEnds_154 rfl (lv_at hl 1 rfl) ?_
              refine lv_iadd hx hb dX12_dayEnds_155 ?_
              refine lv_topi (fun x340 ex340 => ?_)
              obtain rfl : nI (480 + i1) = x340 := (ex340.trans (nI_add 480 i1)).symm
              refine tw_iald (i := (nI (480 + i1))) hx hb hK hT hg199 shm_2 rfl (vp_in_nI (by omega) (by decide)) dX12_dayEnds_156 (fun v9 m341 h9 => ?_)
              obtain ⟨x342, rfl, gx342, kx342⟩ := (gp_at h9 (w_fre (by have q9 := tn_of (show (nI (480 + i1)).toInt = ((480 + i1 : Nat) : Int) from (nI_toInt (by omega))) (show (0 : Int) ≤ ((480 + i1 : Nat) : Int) from by omega); omega)))
              obtain rfl : x337 = x342 := (el_same m341 m336 rfl).symm
              refine lv_bipush (v := 100) hx hb dX12_dayEnds_157 (by decide) ?_
              have t343 : -2147483648 ≤ x337.toInt ∧ x337.toInt ≤ 2147483647 := ti_all x337
              refine lv_idiv hx hb dX12_dayEnds_159 (by decide) ?_
              refine lv_topi (fun x344 ex344 => ?_)
              have t345 : (0 ≤ x337.toInt ∧ x344.toInt = x337.toInt / 100) ∨ (x337.toInt < 0 ∧ x344.toInt = -((-x337.toInt) / 100)) := ti_divs ex344 rfl (by decide) (by decide)
              refine lv_isub hx hb dX12_dayEnds_160 ?_
              refine lv_topi (fun x346 ex346 => ?_)
              refine tw_iast (i := (nI (480 + i1))) (x := x346) hx hb hK hT hG hS hg199 shm_2 rfl (vp_in_nI (by omega) (by decide)) (gp_of (gi_all _) (w_fre (by have q9 := tn_of (show (nI (480 + i1)).toInt = ((480 + i1 : Nat) : Int) from (nI_toInt (by omega))) (show (0 : Int) ≤ ((480 + i1 : Nat) : Int) from by omega); omega)) (wX_o (by have q9 := tn_of (show (nI (480 + i1)).toInt = ((480 + i1 : Nat) : Int) from (nI_toInt (by omega))) (show (0 : Int) ≤ ((480 + i1 : Nat) : Int) from by omega); omega) (by omega))) dX12_dayEnds_161 (fun H locs hT oq m347 oi hS => ?_)
              have hF := hF.ast hg199 skm_2 oq (by decide)
              refine lv_iinc (v := nI (i1 + 1)) (lv' := [(1, .int (nI (i1 + 1))), (2, .int 3), (0, .ref o0)]) hx hb dX12_dayEnds_162 hl (k := 1) rfl (nI_add i1 1) (by decide) rfl (fun ls hl => ?_)
              refine lv_goto (tgt := 2) hx hb dX12_dayEnds_165 (by decide) ?_
              exact ih191 (i1 + 1) (by omega) (by omega) _ _ hT hF hS ls (lv_sub hl [0, 2] rfl)
            refine lv_if_ne (tgt := 136) hx hb dX12_dayEnds_120 (by decide) (fun c351 => ?_) (fun c351 => ?_)
            · have t352 : x317.toInt ≠ 0 := ti_ne c351 rfl (by decide)
              exact jn332 _ _ hT hF hS m226 m224 m230 ls (lv_sub hl [0, 1, 2] rfl)
            · have t353 : x317.toInt = 0 := ti_eq c351 rfl (by decide)
              refine lv_aload_n hx hb dX12_dayEnds_123 rfl (lv_at hl 2 rfl) ?_
              refine tw_get hx hb hts bF_X12 hown hK hT hr_o0 shm_0 rfl 1 (by decide) (ht_at hts 1 rfl) (fun _ h9 => h9) dX12_dayEnds_124 (fun v9 m354 h9 => ?_)
              obtain ⟨rfl, hg355⟩ := h9 _ rfl
              refine lv_bipush (v := 96) hx hb dX12_dayEnds_127 (by decide) ?_
              refine lv_iload_n hx hb dX12_dayEnds_129 rfl (lv_at hl 1 rfl) ?_
              refine lv_iadd hx hb dX12_dayEnds_130 ?_
              refine lv_topi (fun x356 ex356 => ?_)
              obtain rfl : nI (96 + i1) = x356 := (ex356.trans (nI_add 96 i1)).symm
              refine lv_dup2_11 hx hb dX12_dayEnds_131 rfl rfl ?_
              refine tw_iald (i := (nI (96 + i1))) hx hb hK hT hg199 shm_2 rfl (vp_in_nI (by omega) (by decide)) dX12_dayEnds_132 (fun v9 m357 h9 => ?_)
              obtain ⟨x358, rfl, gx358, kx358⟩ := (gp_at h9 (w_hgt (by have q9 := tn_of (show (nI (96 + i1)).toInt = ((96 + i1 : Nat) : Int) from (nI_toInt (by omega))) (show (0 : Int) ≤ ((96 + i1 : Nat) : Int) from by omega); omega)))
              obtain rfl : x201 = x358 := (el_same m357 m225 (show (nI (96 + i1)).toInt = x197.toInt from by rw [show (nI (96 + i1)).toInt = ((96 + i1 : Nat) : Int) from (nI_toInt (by omega))]; try omega)).symm
              refine lv_iconst (v := 1) hx hb dX12_dayEnds_133 (by decide) ?_
              refine lv_isub hx hb dX12_dayEnds_134 ?_
              refine lv_topi (fun x359 ex359 => ?_)
              have t360 : x359.toInt = x201.toInt - 1 := ti_sub ex359 rfl (by decide) (by omega) (by omega)
              refine tw_iast (i := (nI (96 + i1))) (x := x359) hx hb hK hT hG hS hg199 shm_2 rfl (vp_in_nI (by omega) (by decide)) (gp_of (gi_of (show x359.toInt = x359.toInt from rfl) (by omega) (by omega)) (w_hgt (by have q9 := tn_of (show (nI (96 + i1)).toInt = ((96 + i1 : Nat) : Int) from (nI_toInt (by omega))) (show (0 : Int) ≤ ((96 + i1 : Nat) : Int) from by omega); omega)) (wX_o (by have q9 := tn_of (show (nI (96 + i1)).toInt = ((96 + i1 : Nat) : Int) from (nI_toInt (by omega))) (show (0 : Int) ≤ ((96 + i1 : Nat) : Int) from by omega); omega) (by omega))) dX12_dayEnds_135 (fun H locs hT oq m361 oi hS => ?_)
              have hF := hF.ast hg199 skm_2 oq (by decide)
              have m362 := (oi _ (tn_ne (show (nI (384 + i1)).toInt = ((384 + i1 : Nat) : Int) from (nI_toInt (by omega))) (show (nI (96 + i1)).toInt = ((96 + i1 : Nat) : Int) from (nI_toInt (by omega))) (by omega) (by omega) (by omega))).trans m226
              have m363 := (oi _ (tn_ne (show (nI (576 + i1)).toInt = ((576 + i1 : Nat) : Int) from (nI_toInt (by omega))) (show (nI (96 + i1)).toInt = ((96 + i1 : Nat) : Int) from (nI_toInt (by omega))) (by omega) (by omega) (by omega))).trans m224
              have m364 := (oi _ (tn_ne (show (nI (192 + i1)).toInt = ((192 + i1 : Nat) : Int) from (nI_toInt (by omega))) (show (nI (96 + i1)).toInt = ((96 + i1 : Nat) : Int) from (nI_toInt (by omega))) (by omega) (by omega) (by omega))).trans m230
              exact jn332 _ _ hT hF hS m362 m363 m364 ls (lv_sub hl [0, 1, 2] rfl)
        · have t365 : 0 < x215.toInt := ti_nle c216 rfl (by decide)
          refine lv_aload_n hx hb dX12_dayEnds_32 rfl (lv_at hl 1 rfl) ?_
          refine tw_get hx hb hts bF_X12 hown hK hT hr_o0 shm_0 rfl 1 (by decide) (ht_at hts 1 rfl) (fun _ h9 => h9) dX12_dayEnds_33 (fun v9 m366 h9 => ?_)
          obtain ⟨rfl, hg367⟩ := h9 _ rfl
          refine lv_sipush (v := 576) hx hb dX12_dayEnds_36 (by decide) ?_
          refine lv_iload_n hx hb dX12_dayEnds_39 rfl (lv_at hl 0 rfl) ?_
          refine lv_iadd hx hb dX12_dayEnds_40 ?_
          refine lv_topi (fun x368 ex368 => ?_)
          obtain rfl : nI (576 + i1) = x368 := (ex368.trans (nI_add 576 i1)).symm
          refine lv_iconst (v := 0) hx hb dX12_dayEnds_41 (by decide) ?_
          refine tw_iast (i := (nI (576 + i1))) (x := 0) hx hb hK hT hG hS hg199 shm_2 rfl (vp_in_nI (by omega) (by decide)) (gp_of (gi_all _) (w_fre (by have q9 := tn_of (show (nI (576 + i1)).toInt = ((576 + i1 : Nat) : Int) from (nI_toInt (by omega))) (show (0 : Int) ≤ ((576 + i1 : Nat) : Int) from by omega); omega)) (wX_o (by have q9 := tn_of (show (nI (576 + i1)).toInt = ((576 + i1 : Nat) : Int) from (nI_toInt (by omega))) (show (0 : Int) ≤ ((576 + i1 : Nat) : Int) from by omega); omega) (by omega))) dX12_dayEnds_42 (fun H locs hT oq m369 oi hS => ?_)
          have hF := hF.ast hg199 skm_2 oq (by decide)
          refine lv_aload_n hx hb dX12_dayEnds_43 rfl (lv_at hl 1 rfl) ?_
          refine tw_get hx hb hts bF_X12 hown hK hT hr_o0 shm_0 rfl 1 (by decide) (ht_at hts 1 rfl) (fun _ h9 => h9) dX12_dayEnds_44 (fun v9 m372 h9 => ?_)
          obtain ⟨rfl, hg373⟩ := h9 _ rfl
          refine lv_sipush (v := 672) hx hb dX12_dayEnds_47 (by decide) ?_
          refine lv_iload_n hx hb dX12_dayEnds_50 rfl (lv_at hl 0 rfl) ?_
          refine lv_iadd hx hb dX12_dayEnds_51 ?_
          refine lv_topi (fun x374 ex374 => ?_)
          obtain rfl : nI (672 + i1) = x374 := (ex374.trans (nI_add 672 i1)).symm
          refine lv_dup2_11 hx hb dX12_dayEnds_52 rfl rfl ?_
          refine tw_iald (i := (nI (672 + i1))) hx hb hK hT hg199 shm_2 rfl (vp_in_nI (by omega) (by decide)) dX12_dayEnds_53 (fun v9 m375 h9 => ?_)
          obtain ⟨x376, rfl, gx376, kx376⟩ := (gp_at h9 (w_fre (by have q9 := tn_of (show (nI (672 + i1)).toInt = ((672 + i1 : Nat) : Int) from (nI_toInt (by omega))) (show (0 : Int) ≤ ((672 + i1 : Nat) : Int) from by omega); omega)))
          refine lv_iconst (v := 1) hx hb dX12_dayEnds_54 (by decide) ?_
          refine lv_iadd hx hb dX12_dayEnds_55 ?_
          refine lv_topi (fun x377 ex377 => ?_)
          refine tw_iast (i := (nI (672 + i1))) (x := x377) hx hb hK hT hG hS hg199 shm_2 rfl (vp_in_nI (by omega) (by decide)) (gp_of (gi_all _) (w_fre (by have q9 := tn_of (show (nI (672 + i1)).toInt = ((672 + i1 : Nat) : Int) from (nI_toInt (by omega))) (show (0 : Int) ≤ ((672 + i1 : Nat) : Int) from by omega); omega)) (wX_o (by have q9 := tn_of (show (nI (672 + i1)).toInt = ((672 + i1 : Nat) : Int) from (nI_toInt (by omega))) (show (0 : Int) ≤ ((672 + i1 : Nat) : Int) from by omega); omega) (by omega))) dX12_dayEnds_56 (fun H locs hT oq m378 oi hS => ?_)
          have hF := hF.ast hg199 skm_2 oq (by decide)
          refine lv_goto (tgt := 162) hx hb dX12_dayEnds_57 (by decide) ?_
          refine lv_iinc (v := nI (i1 + 1)) (lv' := [(1, .int (nI (i1 + 1))), (0, .ref o0)]) hx hb dX12_dayEnds_162 hl (k := 0) rfl (nI_add i1 1) (by decide) rfl (fun ls hl => ?_)
          refine lv_goto (tgt := 2) hx hb dX12_dayEnds_165 (by decide) ?_
          exact ih191 (i1 + 1) (by omega) (by omega) _ _ hT hF hS ls (lv_sub hl [0, 1] rfl)
      · have t382 : r202.toInt = 0 := ti_eq c208 rfl (by decide)
        have t383 : ¬ wL (nI i1).toNatClampNeg := hi207 c208
        refine lv_goto (tgt := 162) hx hb dX12_dayEnds_16 (by decide) ?_
        refine lv_iinc (v := nI (i1 + 1)) (lv' := [(1, .int (nI (i1 + 1))), (0, .ref o0)]) hx hb dX12_dayEnds_162 hl (k := 0) rfl (nI_add i1 1) (by decide) rfl (fun ls hl => ?_)
        refine lv_goto (tgt := 2) hx hb dX12_dayEnds_165 (by decide) ?_
        exact ih191 (i1 + 1) (by omega) (by omega) _ _ hT hF hS ls (lv_sub hl [0, 1] rfl)
  have hT : gH (dC, dI) kA (SHm q (wP wZ0 wN wH (wB + ((0 : Nat) : Int)) wC wL wK wU wV) PI im PM PT lS lB lE lN) G s.heap := SHm_w hT (fun i hi x p => wP_mono hi (Int.le_refl _) (Int.le_refl _) (by omega) (fun _ => rfl) p)
  exact key191 (96 - 0) 0 (by omega) (Nat.le_refl _) _ _ hT hF hS ls (lv_sub hl [0, 1] rfl)
