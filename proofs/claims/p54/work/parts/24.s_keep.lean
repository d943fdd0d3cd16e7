def w_s_keep : List Cond := .code yX12_keep cX12_keep 2 (some .boolean) :: (HAppend.hAppend (α := List Cond) (β := List Cond) (γ := List Cond) [.fieldLink RX12 194 "SeaLandModel" "thrown" "I", .code yX12_hour cX12_hour 1 (some .int), .fieldLink RX12 9 "SeaLandModel" "world" "[I", .methodLink RX12 228 yX12_hour, .instanceMethod yX12_hour, .selects RX12 yX12_hour yX12_hour, .initialized RX12, .fieldLink RX12 325 "SeaLandModel" "hasImage" "Z", .fieldLink RX12 13 "SeaLandModel" "image" "[I"] bs)
set_option maxHeartbeats 4000000 in
set_option maxRecDepth 100000 in
theorem s_keep (l : Launch) (dC : Nat → ClassId) (dI : Nat → Nat → Nat) (kA : Nat → ClassId) (adK adV : Nat → Nat) (G : gT) (H0 : Heap) (q : Nat → Nat) (wZ wN : Nat → Int) (wH wB wC : Int) (wL wK : Nat → Prop) (wU wV : Nat → Nat) (PI : Nat → Int → Prop) (im : Int) (PM PT : Nat → Int → Prop) (lS lB lE : Nat → Nat → Int → Prop) (lN : Nat → Int) (o0 : Nat)  (hT : gH (dC, dI) kA (SHm q (wP wZ0 wN wH wB wC wL wK wU wV) PI im PM PT lS lB lE lN) G H0) (hr_o0 : G o0 = some 0) (hgz : ∀ i, 0 ≤ wZ i) (hgn : ∀ i, 6500000 ≤ wN i ∧ wN i ≤ 20200000) (hgh : 0 ≤ wH ∧ wH ≤ 40000) (hgb : 0 ≤ wB ∧ wB ≤ 3850000) (hgc : 0 ≤ wC ∧ wC ≤ 30) (hgi : 0 ≤ im ∧ im ≤ 1) (hgu : ∀ a t, G a = some (t + 1) → a = q t) : Met l yX12_keep w_s_keep ({ frames := 1, cells := 0, slots := 0, locals := 20 }) (va_Pc [.ref o0] (fun U => U.heap = H0 ∧ va_K (dC, dI) vwCl (tyl kA) U ∧ EVS adK adV (gA G H0.size) U U.heap)) (va_Qi (fun (r : Int32) (u : (Nat → Int → Prop)) => (0 ≤ r.toInt ∧ r.toInt ≤ 1) ∧ (u = PI ∨ u = (wP wZ0 wN wH wB wC wL wK wU wV))) (fun (PI1 : (Nat → Int → Prop)) (t : State) => gH (dC, dI) kA (SHm q (wP wZ0 wN wH wB wC wL wK wU wV) PI1 im PM PT lS lB lE lN) G t.heap ∧ gF (dC, dI) SKm G ([(0, 0), (0, 3), (3, 0)] : List (Nat × Nat)) H0 t.heap) (gA G H0.size)) 0 0 (gA G H0.size) := by
  refine Met.ofW (cc := cX12_keep) (maxL := 2) (ret := (some .boolean)) (by decide) rfl ?_
  intro p e s m args below meth c s₁ B hml hv
  obtain ⟨rfl, hH0, hK, hE⟩ := hv
  have hx := B.exec
  have hb := B.bytes
  have hr := B.returns
  have hts := atoms_spec (ws := w_s_keep) B.pre
  have hown : s.vm.findClass RX12 = some m.cls := findClass_of_methodNamed B.named
  have hlocks := B.notSynchronized
  subst hH0
  generalize hAe : gA G s.heap.size = A at hE ⊢
  have hA : ∀ q : Nat, s.heap.size ≤ q → A q := fun q h => by rw [← hAe]; exact Or.inr h
  have hG := gA_of hAe
  have hS : va_S A s.heap s.heap [] := va_S.rf
  have hF : gF (dC, dI) SKm G ([(0, 0), (0, 3), (3, 0)] : List (Nat × Nat)) s.heap s.heap := gF.rf
  have hl := lv_entry ([.ref o0]) (n := 2) (Nat.le_of_ble_eq_true rfl)
  rw [lg_entry_eq]
  generalize (lg_sl ([.ref o0]) ++ List.replicate (2 - (lg_sl ([.ref o0])).length) Slot.unset).toArray = ls at hl ⊢
  have hl : lv_has ls 2 [(0, .ref o0)] := hl
  refine lv_aload_n hx hb dX12_keep_0 rfl (lv_at hl 0 rfl) ?_
  refine lv_iconst (v := 0) hx hb dX12_keep_1 (by decide) ?_
  refine tw_put (v := .int 0) (ty := .int) hx hb hts bF_X12 tyX12 tyX12_ok nmX12 hown hK hT hG hS hr_o0 shm_0 rfl 0 (by decide) (ht_at hts 0 rfl) (fun _ h9 => h9) rfl (by decide +kernel) rfl rfl (gl_at rfl (gi_all _)) dX12_keep_2 (fun H locs hT oq m1 oj hS => ?_)
  have hF := hF.put hr_o0 skm_0 oq oj (by decide)
  refine lv_aload_n hx hb dX12_keep_5 rfl (lv_at hl 0 rfl) ?_
  have hFc := gA_free hG hA hS
  refine va_calli (va_runV (As := []) (rest := []) ⟨hx, hb, hml, hown, hts⟩ (s_hour l dC dI kA adK adV G H q wZ0 wN wH wB wC wL wK wU wV PI im PM PT lS lB lE lN o0 hT hr_o0 (fun _ => Int.le_refl 0) hgn hgh hgb hgc hgi hgu) (cwV 0 hts (goodIn_app (goodIn_r _ [4, 5, 6, 7] rfl (by decide +kernel)) (goodIn_ca (goodIn_r _ [2, 3] rfl (by decide +kernel)) (bs_in _ _))) rfl rfl rfl (by decide +kernel) ⟨(Nat.le_of_ble_eq_true rfl), (Nat.le_of_ble_eq_true rfl)⟩) ⟨fun a U g mk q => by obtain ⟨q0, q1, qK, qE⟩ := q; exact ⟨q0, q1, va_K.moved (u := U) (U := U.calling g mk a) (Vm.Alike.refl U.vm) qK, EVS.blind g mk a qE⟩, gH_rc hK hT hr_o0 shm_0 rfl, fun U hU hW => ⟨rfl, hU, va_K.moved hW.alike hK, hE.call hS hFc hU hW⟩⟩ rfl rfl hl.1 rfl (lv_room (Nat.le_of_ble_eq_true rfl)) dX12_keep_6 ⟨(Nat.le_of_ble_eq_true rfl), (Nat.le_of_ble_eq_true rfl)⟩) hS (fun q _ h => hFc q h) hFc (fun r2 u t H locs ht hvm hw3 hB _ _ hS => ?_)
  obtain ⟨hT, hF1⟩ := hB
  rw [ht] at hT hF1
  have m4 := (hF1.fld hr_o0 skm_0 (k := 0) (by decide) (by decide)).trans m1
  have hF := hF.more hF1 (by decide)
  try dsimp only at hw3
  obtain ⟨h5, hf6⟩ := hw3
  refine lv_if_ne (tgt := 14) hx hb dX12_keep_9 (by decide) (fun c7 => ?_) (fun c7 => ?_)
  · have t8 : r2.toInt ≠ 0 := ti_ne c7 rfl (by decide)
    refine lv_iconst (v := 0) hx hb dX12_keep_14 (by decide) ?_
    refine lv_istore_n (lv' := [(1, .int 0), (0, .ref o0)]) hx hb dX12_keep_15 rfl hl (by decide) rfl (fun ls hl => ?_)
    have key23 : ∀ (n23 i9 : Nat), i9 + n23 = 1749 → 0 ≤ i9 → ∀ (H : Heap) (locs : List Loc), gH (dC, dI) kA (SHm q (wP wZ0 wN wH wB wC wL wK wU wV) (pcP (wP wZ0 wN wH wB wC wL wK wU wV) PI i9) im PM PT lS lB lE lN) G H → gF (dC, dI) SKm G ([(0, 0), (0, 3), (3, 0)] : List (Nat × Nat)) s.heap H → va_S A s.heap H locs → el H o0 (dI 15 0) = some (.int 0) → ∀ ls : Array Slot, lv_has ls 2 [(1, .int (nI i9)), (0, .ref o0)] → W p l e (headSpec w_s_keep ({ frames := 1, cells := 0, slots := 0, locals := 20 })).room s m #[.ref o0] below meth c H locs 0 0 (MQ below (va_Qi (fun (r : Int32) (u : (Nat → Int → Prop)) => (0 ≤ r.toInt ∧ r.toInt ≤ 1) ∧ (u = PI ∨ u = (wP wZ0 wN wH wB wC wL wK wU wV))) (fun (PI1 : (Nat → Int → Prop)) (t : State) => gH (dC, dI) kA (SHm q (wP wZ0 wN wH wB wC wL wK wU wV) PI1 im PM PT lS lB lE lN) G t.heap ∧ gF (dC, dI) SKm G ([(0, 0), (0, 3), (3, 0)] : List (Nat × Nat)) s.heap t.heap) A) #[.ref o0] s 0 0 A) (F0 m 16 ls []) := by
      intro n23
      induction n23 with
      | zero =>
        intro i9 hn23 hlo24  H locs hT hF hS m10 ls hl
        obtain rfl : 1749 = i9 := by omega
        refine lv_iload_n hx hb dX12_keep_16 rfl (lv_at hl 0 rfl) ?_
        refine lv_sipush (v := 1749) hx hb dX12_keep_17 (by decide) ?_
        refine lv_icmp_ge (tgt := 41) hx hb dX12_keep_20 (by decide) (fun c25 => ?_) (fun c25 => (by exfalso; have q9 : ((1749 : Nat) : Int) < 1749 := ti_nle c25 (by decide) (nI_toInt (by omega)); omega))
        have t26 : 1749 ≤ ((1749 : Nat) : Int) := ti_le c25 (by decide) (nI_toInt (by omega))
        have hT : gH (dC, dI) kA (SHm q (wP wZ0 wN wH wB wC wL wK wU wV) (wP wZ0 wN wH wB wC wL wK wU wV) im PM PT lS lB lE lN) G H := SHm_mono hT (fun _ _ _ z => z) (fun _ hi _ p => pc_all hi p) (fun _ _ z => z) (fun _ _ z => z) (fun _ _ _ _ z => z) (fun _ _ _ _ z => z) (fun _ _ _ _ z => z) (fun _ => Int.le_refl _)
        refine lv_aload_n hx hb dX12_keep_41 rfl (lv_at hl 1 rfl) ?_
        refine lv_iconst (v := 1) hx hb dX12_keep_42 (by decide) ?_
        refine tw_put (v := .int 1) (ty := .boolean) hx hb hts bF_X12 tyX12 tyX12_ok nmX12 hown hK hT hG hS hr_o0 shm_0 rfl 3 (by decide) (ht_at hts 7 rfl) (fun _ h9 => h9) rfl (by decide +kernel) rfl rfl (gl_at rfl (gi_of (show (1 : Int32).toInt = 1 from (by decide)) (by first | decide | omega) (by first | decide | omega))) dX12_keep_43 (fun H locs hT oq m27 oj hS => ?_)
        have hF := hF.put hr_o0 skm_0 oq oj (by decide)
        refine lv_iconst (v := 1) hx hb dX12_keep_46 (by decide) ?_
        exact W.zret (v := 1) hx hb hr (by decide) (fun t ht hW => ⟨⟨1, (wP wZ0 wN wH wB wC wL wK wU wV), rfl, (by exact ⟨(rg_t (a := 1) (by decide) (by first | decide | omega) (by first | decide | omega)), (Or.inr rfl)⟩), by (try dsimp only); rw [ht]; exact ⟨hT, hF⟩⟩, hS.F ht⟩) hS.2.2 dX12_keep_47
      | succ n23 ih23 =>
        intro i9 hn23 hlo24  H locs hT hF hS m10 ls hl
        have hlt28 : i9 < 1749 := by omega
        refine lv_iload_n hx hb dX12_keep_16 rfl (lv_at hl 0 rfl) ?_
        refine lv_sipush (v := 1749) hx hb dX12_keep_17 (by decide) ?_
        refine lv_icmp_ge (tgt := 41) hx hb dX12_keep_20 (by decide) (fun c29 => (by exfalso; have q9 : 1749 ≤ ((i9 : Nat) : Int) := ti_le c29 (by decide) (nI_toInt (by omega)); omega)) (fun c29 => ?_)
        have t30 : ((i9 : Nat) : Int) < 1749 := ti_nle c29 (by decide) (nI_toInt (by omega))
        refine lv_aload_n hx hb dX12_keep_23 rfl (lv_at hl 1 rfl) ?_
        refine tw_get hx hb hts bF_X12 hown hK hT hr_o0 shm_0 rfl 2 (by decide) (ht_at hts 8 rfl) (fun _ h9 => h9) dX12_keep_24 (fun v9 m31 h9 => ?_)
        obtain ⟨rfl, hg32⟩ := h9 _ rfl
        refine lv_iload_n hx hb dX12_keep_27 rfl (lv_at hl 0 rfl) ?_
        refine lv_aload_n hx hb dX12_keep_28 rfl (lv_at hl 1 rfl) ?_
        refine tw_get hx hb hts bF_X12 hown hK hT hr_o0 shm_0 rfl 1 (by decide) (ht_at hts 2 rfl) (fun _ h9 => h9) dX12_keep_29 (fun v9 m33 h9 => ?_)
        obtain ⟨rfl, hg34⟩ := h9 _ rfl
        refine lv_iload_n hx hb dX12_keep_32 rfl (lv_at hl 0 rfl) ?_
        refine tw_iald (i := (nI i9)) hx hb hK hT hg34 shm_2 rfl (vp_in_nI (by omega) (by decide)) dX12_keep_33 (fun v9 m35 h9 => ?_)
        obtain ⟨x36, rfl, gx36, kx36⟩ := (gp_any h9)
        have t37 : (nI i9).toNatClampNeg = i9 := tn_nI (by omega)
        refine tw_iast2 (Sg1 := (SHm q (wP wZ0 wN wH wB wC wL wK wU wV) (pcP (wP wZ0 wN wH wB wC wL wK wU wV) PI (i9 + 1)) im PM PT lS lB lE lN)) (i := (nI i9)) (x := x36) hx hb hK hT hG hS hg32 shm_3 rfl shm_3 shm_o3 (fun b9 h9 => hgu b9 2 h9) (vp_in_nI (by omega) (by decide)) (⟨_, rfl, by rw [show (nI i9).toNatClampNeg = i9 from tn_nI (by omega)]; exact pc_at (by have q8 := wq_l hT hg34 (by have q9 := tn_of (show (nI i9).toInt = ((i9 : Nat) : Int) from (nI_toInt (by omega))) (by omega); omega) m35; rw [show (nI i9).toNatClampNeg = i9 from tn_nI (by omega)] at q8; exact q8)⟩) (fun k9 hk9 hne9 v9 hv9 he9 => by obtain ⟨x9, rfl, p9⟩ := he9; exact ⟨x9, rfl, pc_st (by omega) p9⟩) dX12_keep_34 (fun H locs hT oq m38 oi hS => ?_)
        have hF := hF.ast hg32 skm_3 oq (by decide)
        have m39 := (el_kept (oq _ (gne hr_o0 hg32 (by decide)))).trans m10
        refine lv_iinc (v := nI (i9 + 1)) (lv' := [(1, .int (nI (i9 + 1))), (0, .ref o0)]) hx hb dX12_keep_35 hl (k := 0) rfl (nI_add i9 1) (by decide) rfl (fun ls hl => ?_)
        refine lv_goto (tgt := 16) hx hb dX12_keep_38 (by decide) ?_
        exact ih23 (i9 + 1) (by omega) (by omega) _ _ hT hF hS m39 ls (lv_sub hl [0, 1] rfl)
    have hT : gH (dC, dI) kA (SHm q (wP wZ0 wN wH wB wC wL wK wU wV) (pcP (wP wZ0 wN wH wB wC wL wK wU wV) PI 0) im PM PT lS lB lE lN) G H := SHm_mono hT (fun _ _ _ z => z) (fun _ _ _ p => pc_0 p) (fun _ _ z => z) (fun _ _ z => z) (fun _ _ _ _ z => z) (fun _ _ _ _ z => z) (fun _ _ _ _ z => z) (fun _ => Int.le_refl _)
    exact key23 (1749 - 0) 0 (by omega) (Nat.le_refl _) _ _ hT hF hS m4 ls (lv_sub hl [0, 1] rfl)
  · have t41 : r2.toInt = 0 := ti_eq c7 rfl (by decide)
    refine lv_iconst (v := 0) hx hb dX12_keep_12 (by decide) ?_
    exact W.zret (v := 0) hx hb hr (by decide) (fun t ht hW => ⟨⟨0, PI, rfl, (by exact ⟨(rg_t (a := 0) (by decide) (by first | decide | omega) (by first | decide | omega)), (Or.inl rfl)⟩), by (try dsimp only); rw [ht]; exact ⟨hT, hF⟩⟩, hS.F ht⟩) hS.2.2 dX12_keep_13
