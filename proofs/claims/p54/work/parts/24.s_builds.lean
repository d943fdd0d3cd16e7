def w_s_builds : List Cond := .code yX12_builds cX12_builds 8 (some .int) :: (HAppend.hAppend (α := List Cond) (β := List Cond) (γ := List Cond) [.fieldLink RX12 9 "SeaLandModel" "world" "[I", .code yX12_at cX12_at 2 (some .int), .methodLink RX12 214 yX12_at, .static yX12_at, .initialized RX12, .fieldLink RX12 238 "SeaLandModel" "rows" "I"] bs)
set_option maxHeartbeats 4000000 in
set_option maxRecDepth 100000 in
theorem s_builds (l : Launch) (dC : Nat → ClassId) (dI : Nat → Nat → Nat) (kA : Nat → ClassId) (adK adV : Nat → Nat) (G : gT) (H0 : Heap) (q : Nat → Nat) (wZ wN : Nat → Int) (wH wB wC : Int) (wL wK : Nat → Prop) (wU wV : Nat → Nat) (PI : Nat → Int → Prop) (im : Int) (PM PT : Nat → Int → Prop) (lS lB lE : Nat → Nat → Int → Prop) (lN : Nat → Int) (o0 : Nat) (kd : Int32) (sq : Int32) (to : Int32) (li : Int32) (si : Int32)  (hT : gH (dC, dI) kA (SHm q (wP wZ wN wH wB wC wL wK wU wV) PI im PM PT lS lB lE lN) G H0) (hr_o0 : G o0 = some 0) (hq0 : 0 ≤ kd.toInt ∧ kd.toInt ≤ 4) (hq1 : 0 ≤ sq.toInt ∧ sq.toInt ≤ 95) (hq2 : 0 ≤ to.toInt ∧ to.toInt ≤ 95) (hq3 : 0 ≤ si.toInt ∧ si.toInt ≤ 60) (hgw : wG wC wL wK wU wV) (hc30_ : wC < 30) (hs_ : wL sq.toNatClampNeg) (hd_ : ∀ w : Nat, (w : Int) < wC → (wU w : Int) ≠ sq.toInt) (ha_ : to.toInt + 12 = sq.toInt ∨ to.toInt + 1 = sq.toInt ∨ sq.toInt + 1 = to.toInt ∨ sq.toInt + 12 = to.toInt) (hk_ : (kd.toInt = 0 ∨ kd.toInt = 1) → wL to.toNatClampNeg) (hgz : ∀ i, 0 ≤ wZ i) (hgn : ∀ i, 6500000 ≤ wN i ∧ wN i ≤ 20200000) (hgh : 0 ≤ wH ∧ wH ≤ 40000) (hgb : 0 ≤ wB ∧ wB ≤ 3850000) (hgc : 0 ≤ wC ∧ wC ≤ 30) (hgi : 0 ≤ im ∧ im ≤ 1) (hgu : ∀ a t, G a = some (t + 1) → a = q t) : Met l yX12_builds w_s_builds ({ frames := 1, cells := 0, slots := 0, locals := 21 }) (va_Pc [.ref o0, .int kd, .int sq, .int to, .int li, .int si] (fun U => U.heap = H0 ∧ va_K (dC, dI) vwCl (tyl kA) U ∧ EVS adK adV (gA G H0.size) U U.heap)) (va_Qi (fun (r : Int32) (u : Int × (Nat → Prop) × (Nat → Nat) × (Nat → Nat)) => match u with | (wC1, wK1, wU1, wV1) => (0 ≤ r.toInt ∧ r.toInt ≤ 29) ∧ (wG wC1 wL wK1 wU1 wV1 ∧ 0 ≤ wC1 ∧ wC1 ≤ 30)) (fun (u : Int × (Nat → Prop) × (Nat → Nat) × (Nat → Nat)) (t : State) => match u with | (wC1, wK1, wU1, wV1) => gH (dC, dI) kA (SHm q (wP wZ wN wH wB wC1 wL wK1 wU1 wV1) PI im PM PT lS lB lE lN) G t.heap ∧ gF (dC, dI) SKm G ([(0, 9), (2, 0)] : List (Nat × Nat)) H0 t.heap) (gA G H0.size)) 0 0 (gA G H0.size) := by
  refine Met.ofW (cc := cX12_builds) (maxL := 8) (ret := (some .int)) (by decide) rfl ?_
  intro p e s m args below meth c s₁ B hml hv
  obtain ⟨rfl, hH0, hK, hE⟩ := hv
  have hx := B.exec
  have hb := B.bytes
  have hr := B.returns
  have hts := atoms_spec (ws := w_s_builds) B.pre
  have hown : s.vm.findClass RX12 = some m.cls := findClass_of_methodNamed B.named
  have hlocks := B.notSynchronized
  subst hH0
  generalize hAe : gA G s.heap.size = A at hE ⊢
  have hA : ∀ q : Nat, s.heap.size ≤ q → A q := fun q h => by rw [← hAe]; exact Or.inr h
  have hG := gA_of hAe
  have hS : va_S A s.heap s.heap [] := va_S.rf
  have hF : gF (dC, dI) SKm G ([(0, 9), (2, 0)] : List (Nat × Nat)) s.heap s.heap := gF.rf
  have hl := lv_entry ([.ref o0, .int kd, .int sq, .int to, .int li, .int si]) (n := 8) (Nat.le_of_ble_eq_true rfl)
  rw [lg_entry_eq]
  generalize (lg_sl ([.ref o0, .int kd, .int sq, .int to, .int li, .int si]) ++ List.replicate (8 - (lg_sl ([.ref o0, .int kd, .int sq, .int to, .int li, .int si])).length) Slot.unset).toArray = ls at hl ⊢
  have hl : lv_has ls 8 [(0, .ref o0), (1, .int kd), (2, .int sq), (3, .int to), (4, .int li), (5, .int si)] := hl
  refine lv_aload_n hx hb dX12_builds_0 rfl (lv_at hl 0 rfl) ?_
  refine tw_get hx hb hts bF_X12 hown hK hT hr_o0 shm_0 rfl 1 (by decide) (ht_at hts 0 rfl) (fun _ h9 => h9) dX12_builds_1 (fun v9 m1 h9 => ?_)
  obtain ⟨rfl, hg2⟩ := h9 _ rfl
  refine lv_sipush (v := 1428) hx hb dX12_builds_4 (by decide) ?_
  refine tw_iald (i := 1428) hx hb hK hT hg2 shm_2 rfl (by unfold vp_in; decide) dX12_builds_7 (fun v9 m3 h9 => ?_)
  obtain ⟨x4, rfl, gx4, kx4⟩ := (gp_at h9 (w_wct (by have q9 := tn_of (show (1428 : Int32).toInt = 1428 from (by decide)) (show (0 : Int) ≤ 1428 from by omega); omega)))
  refine lv_istore (lv' := [(6, .int x4), (0, .ref o0), (1, .int kd), (2, .int sq), (3, .int to), (4, .int li), (5, .int si)]) hx hb dX12_builds_8 hl (by decide) rfl (fun ls hl => ?_)
  refine lv_iconst (v := 0) hx hb dX12_builds_10 (by decide) ?_
  refine lv_istore (lv' := [(7, .int 0), (6, .int x4), (0, .ref o0), (1, .int kd), (2, .int sq), (3, .int to), (4, .int li), (5, .int si)]) hx hb dX12_builds_11 hl (by decide) rfl (fun ls hl => ?_)
  have jn34 : ∀ (H : Heap) (locs : List Loc), gH (dC, dI) kA (SHm q (wP wZ wN wH wB wC wL wK wU wV) PI im PM PT lS lB lE lN) G H → gF (dC, dI) SKm G ([(0, 9), (2, 0)] : List (Nat × Nat)) s.heap H → va_S A s.heap H locs → el H (q 1) (1428 : Int32).toNatClampNeg = some (.int x4) → ∀ ls : Array Slot, lv_has ls 8 [(7, .int (nI 22)), (6, .int x4), (0, .ref o0), (1, .int kd), (2, .int sq), (3, .int to), (4, .int li), (5, .int si)] → W p l e (headSpec w_s_builds ({ frames := 1, cells := 0, slots := 0, locals := 21 })).room s m #[.ref o0, .int kd, .int sq, .int to, .int li, .int si] below meth c H locs 0 0 (MQ below (va_Qi (fun (r : Int32) (u : Int × (Nat → Prop) × (Nat → Nat) × (Nat → Nat)) => match u with | (wC1, wK1, wU1, wV1) => (0 ≤ r.toInt ∧ r.toInt ≤ 29) ∧ (wG wC1 wL wK1 wU1 wV1 ∧ 0 ≤ wC1 ∧ wC1 ≤ 30)) (fun (u : Int × (Nat → Prop) × (Nat → Nat) × (Nat → Nat)) (t : State) => match u with | (wC1, wK1, wU1, wV1) => gH (dC, dI) kA (SHm q (wP wZ wN wH wB wC1 wL wK1 wU1 wV1) PI im PM PT lS lB lE lN) G t.heap ∧ gF (dC, dI) SKm G ([(0, 9), (2, 0)] : List (Nat × Nat)) s.heap t.heap) A) #[.ref o0, .int kd, .int sq, .int to, .int li, .int si] s 0 0 A) (F0 m 39 ls []) := by
    intro  H locs hT hF hS m33 ls hl
    refine lv_aload_n hx hb dX12_builds_39 rfl (lv_at hl 2 rfl) ?_
    refine tw_get hx hb hts bF_X12 hown hK hT hr_o0 shm_0 rfl 1 (by decide) (ht_at hts 0 rfl) (fun _ h9 => h9) dX12_builds_40 (fun v9 m35 h9 => ?_)
    obtain ⟨rfl, hg36⟩ := h9 _ rfl
    refine lv_iload hx hb dX12_builds_43 (lv_at hl 1 rfl) ?_
    refine lv_iconst (v := 0) hx hb dX12_builds_45 (by decide) ?_
    have hFc := gA_free hG hA hS
    refine va_calli (va_runS (As := [.int x4, .int 0]) (rest := [.ref (q 1)]) ⟨hx, hb, hml, hown, hts⟩ (s_at l dC dI kA adK adV G H q wZ wN wH wB wC wL wK wU wV PI im PM PT lS lB lE lN x4 0 hT (by have q8 := ti_all x4; omega) (rg_t (a := 0) (by decide) (by first | decide | omega) (by first | decide | omega)) hgz hgn hgh hgb hgc hgi hgu) (va_cwS 2 hts (goodIn_app (goodIn_r _ [3, 4, 5] rfl (by decide +kernel)) (goodIn_ca (goodIn_r _ [2] rfl (by decide +kernel)) (bs_in _ _))) rfl rfl rfl (by decide +kernel) ⟨(Nat.le_of_ble_eq_true rfl), (Nat.le_of_ble_eq_true rfl)⟩) ⟨fun a U g mk q => by obtain ⟨q0, q1, qK, qE⟩ := q; exact ⟨q0, q1, va_K.moved (u := U) (U := U.calling g mk a) (Vm.Alike.refl U.vm) qK, EVS.blind g mk a qE⟩, fun U hU hW => ⟨rfl, hU, va_K.moved hW.alike hK, hE.call hS hFc hU hW⟩⟩ rfl rfl hl.1 rfl (lv_room (Nat.le_of_ble_eq_true rfl)) dX12_builds_46 ⟨(Nat.le_of_ble_eq_true rfl), (Nat.le_of_ble_eq_true rfl)⟩) hS (fun q _ h => hFc q h) hFc (fun r37 u t H locs ht hvm hw38 hB _ _ hS => ?_)
    obtain ⟨hT, hF1⟩ := hB
    rw [ht] at hT hF1
    have m39 := (el_kept (hF1.arr hg2 skm_2 (by decide))).trans m33
    have hF := hF.more hF1 (by decide)
    try dsimp only at hw38
    obtain ⟨h40, hf41⟩ := hw38
    have t42 : (0 : Int32).toInt = 0 := by decide
    refine lv_iload_n hx hb dX12_builds_49 rfl (lv_at hl 3 rfl) ?_
    refine tw_iast (i := r37) (x := kd) hx hb hK hT hG hS hg2 shm_2 rfl (vin_t (a := r37.toInt) rfl (by omega) (by omega)) (gp_of (gi_all _) (w_fre (by have q9 := tn_of (show r37.toInt = r37.toInt from rfl) (show (0 : Int) ≤ r37.toInt from by omega); omega)) (wX_n (by have q9 := tn_of (show r37.toInt = r37.toInt from rfl) (show (0 : Int) ≤ r37.toInt from by omega); omega) (by omega) (by have q9 := tn_of (show r37.toInt = r37.toInt from rfl) (show (0 : Int) ≤ r37.toInt from by omega); omega))) dX12_builds_50 (fun H locs hT oq m43 oi hS => ?_)
    have hF := hF.ast hg2 skm_2 oq (by decide)
    have m44 := (oi _ (tn_ne (show (1428 : Int32).toInt = 1428 from (by decide)) (show r37.toInt = r37.toInt from rfl) (by omega) (by omega) (by omega))).trans m39
    refine lv_aload_n hx hb dX12_builds_51 rfl (lv_at hl 2 rfl) ?_
    refine tw_get hx hb hts bF_X12 hown hK hT hr_o0 shm_0 rfl 1 (by decide) (ht_at hts 0 rfl) (fun _ h9 => h9) dX12_builds_52 (fun v9 m45 h9 => ?_)
    obtain ⟨rfl, hg46⟩ := h9 _ rfl
    refine lv_iload hx hb dX12_builds_55 (lv_at hl 1 rfl) ?_
    refine lv_iconst (v := 1) hx hb dX12_builds_57 (by decide) ?_
    have hFc := gA_free hG hA hS
    refine va_calli (va_runS (As := [.int x4, .int 1]) (rest := [.ref (q 1)]) ⟨hx, hb, hml, hown, hts⟩ (s_at l dC dI kA adK adV G H q wZ wN wH wB wC wL wK wU wV PI im PM PT lS lB lE lN x4 1 hT (by have q8 := ti_all x4; omega) (rg_t (a := 1) (by decide) (by first | decide | omega) (by first | decide | omega)) hgz hgn hgh hgb hgc hgi hgu) (va_cwS 2 hts (goodIn_app (goodIn_r _ [3, 4, 5] rfl (by decide +kernel)) (goodIn_ca (goodIn_r _ [2] rfl (by decide +kernel)) (bs_in _ _))) rfl rfl rfl (by decide +kernel) ⟨(Nat.le_of_ble_eq_true rfl), (Nat.le_of_ble_eq_true rfl)⟩) ⟨fun a U g mk q => by obtain ⟨q0, q1, qK, qE⟩ := q; exact ⟨q0, q1, va_K.moved (u := U) (U := U.calling g mk a) (Vm.Alike.refl U.vm) qK, EVS.blind g mk a qE⟩, fun U hU hW => ⟨rfl, hU, va_K.moved hW.alike hK, hE.call hS hFc hU hW⟩⟩ rfl rfl hl.1 rfl (lv_room (Nat.le_of_ble_eq_true rfl)) dX12_builds_58 ⟨(Nat.le_of_ble_eq_true rfl), (Nat.le_of_ble_eq_true rfl)⟩) hS (fun q _ h => hFc q h) hFc (fun r47 u t H locs ht hvm hw48 hB _ _ hS => ?_)
    obtain ⟨hT, hF1⟩ := hB
    rw [ht] at hT hF1
    have m49 := (el_kept (hF1.arr hg2 skm_2 (by decide))).trans m44
    have m50 := (el_kept (hF1.arr hg2 skm_2 (by decide))).trans m43
    have hF := hF.more hF1 (by decide)
    try dsimp only at hw48
    obtain ⟨h51, hf52⟩ := hw48
    have t53 : (1 : Int32).toInt = 1 := by decide
    refine lv_iload_n hx hb dX12_builds_61 rfl (lv_at hl 4 rfl) ?_
    refine tw_iast (i := r47) (x := sq) hx hb hK hT hG hS hg2 shm_2 rfl (vin_t (a := r47.toInt) rfl (by omega) (by omega)) (gp_of (gi_of (show sq.toInt = sq.toInt from rfl) (by omega) (by omega)) (w_wsq (by have q9 := tn_of (show r47.toInt = r47.toInt from rfl) (show (0 : Int) ≤ r47.toInt from by omega); omega)) (wX_n (by have q9 := tn_of (show r47.toInt = r47.toInt from rfl) (show (0 : Int) ≤ r47.toInt from by omega); omega) (by omega) (by have q9 := tn_of (show r47.toInt = r47.toInt from rfl) (show (0 : Int) ≤ r47.toInt from by omega); omega))) dX12_builds_62 (fun H locs hT oq m54 oi hS => ?_)
    have hF := hF.ast hg2 skm_2 oq (by decide)
    have m55 := (oi _ (tn_ne (show (1428 : Int32).toInt = 1428 from (by decide)) (show r47.toInt = r47.toInt from rfl) (by omega) (by omega) (by omega))).trans m49
    have m56 := (oi _ (tn_ne (show r37.toInt = r37.toInt from rfl) (show r47.toInt = r47.toInt from rfl) (by omega) (by omega) (by omega))).trans m50
    refine lv_aload_n hx hb dX12_builds_63 rfl (lv_at hl 2 rfl) ?_
    refine tw_get hx hb hts bF_X12 hown hK hT hr_o0 shm_0 rfl 1 (by decide) (ht_at hts 0 rfl) (fun _ h9 => h9) dX12_builds_64 (fun v9 m57 h9 => ?_)
    obtain ⟨rfl, hg58⟩ := h9 _ rfl
    refine lv_iload hx hb dX12_builds_67 (lv_at hl 1 rfl) ?_
    refine lv_iconst (v := 2) hx hb dX12_builds_69 (by decide) ?_
    have hFc := gA_free hG hA hS
    refine va_calli (va_runS (As := [.int x4, .int 2]) (rest := [.ref (q 1)]) ⟨hx, hb, hml, hown, hts⟩ (s_at l dC dI kA adK adV G H q wZ wN wH wB wC wL wK wU wV PI im PM PT lS lB lE lN x4 2 hT (by have q8 := ti_all x4; omega) (rg_t (a := 2) (by decide) (by first | decide | omega) (by first | decide | omega)) hgz hgn hgh hgb hgc hgi hgu) (va_cwS 2 hts (goodIn_app (goodIn_r _ [3, 4, 5] rfl (by decide +kernel)) (goodIn_ca (goodIn_r _ [2] rfl (by decide +kernel)) (bs_in _ _))) rfl rfl rfl (by decide +kernel) ⟨(Nat.le_of_ble_eq_true rfl), (Nat.le_of_ble_eq_true rfl)⟩) ⟨fun a U g mk q => by obtain ⟨q0, q1, qK, qE⟩ := q; exact ⟨q0, q1, va_K.moved (u := U) (U := U.calling g mk a) (Vm.Alike.refl U.vm) qK, EVS.blind g mk a qE⟩, fun U hU hW => ⟨rfl, hU, va_K.moved hW.alike hK, hE.call hS hFc hU hW⟩⟩ rfl rfl hl.1 rfl (lv_room (Nat.le_of_ble_eq_true rfl)) dX12_builds_70 ⟨(Nat.le_of_ble_eq_true rfl), (Nat.le_of_ble_eq_true rfl)⟩) hS (fun q _ h => hFc q h) hFc (fun r59 u t H locs ht hvm hw60 hB _ _ hS => ?_)
    obtain ⟨hT, hF1⟩ := hB
    rw [ht] at hT hF1
    have m61 := (el_kept (hF1.arr hg2 skm_2 (by decide))).trans m55
    have m62 := (el_kept (hF1.arr hg2 skm_2 (by decide))).trans m56
    have m63 := (el_kept (hF1.arr hg2 skm_2 (by decide))).trans m54
    have hF := hF.more hF1 (by decide)
    try dsimp only at hw60
    obtain ⟨h64, hf65⟩ := hw60
    have t66 : (2 : Int32).toInt = 2 := by decide
    refine lv_iload_n hx hb dX12_builds_73 rfl (lv_at hl 5 rfl) ?_
    refine tw_iast (i := r59) (x := to) hx hb hK hT hG hS hg2 shm_2 rfl (vin_t (a := r59.toInt) rfl (by omega) (by omega)) (gp_of (gi_of (show to.toInt = to.toInt from rfl) (by omega) (by omega)) (w_wsq (by have q9 := tn_of (show r59.toInt = r59.toInt from rfl) (show (0 : Int) ≤ r59.toInt from by omega); omega)) (wX_n (by have q9 := tn_of (show r59.toInt = r59.toInt from rfl) (show (0 : Int) ≤ r59.toInt from by omega); omega) (by omega) (by have q9 := tn_of (show r59.toInt = r59.toInt from rfl) (show (0 : Int) ≤ r59.toInt from by omega); omega))) dX12_builds_74 (fun H locs hT oq m67 oi hS => ?_)
    have hF := hF.ast hg2 skm_2 oq (by decide)
    have m68 := (oi _ (tn_ne (show (1428 : Int32).toInt = 1428 from (by decide)) (show r59.toInt = r59.toInt from rfl) (by omega) (by omega) (by omega))).trans m61
    have m69 := (oi _ (tn_ne (show r37.toInt = r37.toInt from rfl) (show r59.toInt = r59.toInt from rfl) (by omega) (by omega) (by omega))).trans m62
    have m70 := (oi _ (tn_ne (show r47.toInt = r47.toInt from rfl) (show r59.toInt = r59.toInt from rfl) (by omega) (by omega) (by omega))).trans m63
    refine lv_aload_n hx hb dX12_builds_75 rfl (lv_at hl 2 rfl) ?_
    refine tw_get hx hb hts bF_X12 hown hK hT hr_o0 shm_0 rfl 1 (by decide) (ht_at hts 0 rfl) (fun _ h9 => h9) dX12_builds_76 (fun v9 m71 h9 => ?_)
    obtain ⟨rfl, hg72⟩ := h9 _ rfl
    refine lv_iload hx hb dX12_builds_79 (lv_at hl 1 rfl) ?_
    refine lv_iconst (v := 3) hx hb dX12_builds_81 (by decide) ?_
    have hFc := gA_free hG hA hS
    refine va_calli (va_runS (As := [.int x4, .int 3]) (rest := [.ref (q 1)]) ⟨hx, hb, hml, hown, hts⟩ (s_at l dC dI kA adK adV G H q wZ wN wH wB wC wL wK wU wV PI im PM PT lS lB lE lN x4 3 hT (by have q8 := ti_all x4; omega) (rg_t (a := 3) (by decide) (by first | decide | omega) (by first | decide | omega)) hgz hgn hgh hgb hgc hgi hgu) (va_cwS 2 hts (goodIn_app (goodIn_r _ [3, 4, 5] rfl (by decide +kernel)) (goodIn_ca (goodIn_r _ [2] rfl (by decide +kernel)) (bs_in _ _))) rfl rfl rfl (by decide +kernel) ⟨(Nat.le_of_ble_eq_true rfl), (Nat.le_of_ble_eq_true rfl)⟩) ⟨fun a U g mk q => by obtain ⟨q0, q1, qK, qE⟩ := q; exact ⟨q0, q1, va_K.moved (u := U) (U := U.calling g mk a) (Vm.Alike.refl U.vm) qK, EVS.blind g mk a qE⟩, fun U hU hW => ⟨rfl, hU, va_K.moved hW.alike hK, hE.call hS hFc hU hW⟩⟩ rfl rfl hl.1 rfl (lv_room (Nat.le_of_ble_eq_true rfl)) dX12_builds_82 ⟨(Nat.le_of_ble_eq_true rfl), (Nat.le_of_ble_eq_true rfl)⟩) hS (fun q _ h => hFc q h) hFc (fun r73 u t H locs ht hvm hw74 hB _ _ hS => ?_)
    obtain ⟨hT, hF1⟩ := hB
    rw [ht] at hT hF1
    have m75 := (el_kept (hF1.arr hg2 skm_2 (by decide))).trans m68
    have m76 := (el_kept (hF1.arr hg2 skm_2 (by decide))).trans m69
    have m77 := (el_kept (hF1.arr hg2 skm_2 (by decide))).trans m70
    have m78 := (el_kept (hF1.arr hg2 skm_2 (by decide))).trans m67
    have hF := hF.more hF1 (by decide)
    try dsimp only at hw74
    obtain ⟨h79, hf80⟩ := hw74
    have t81 : (3 : Int32).toInt = 3 := by decide
    refine lv_iload hx hb dX12_builds_85 (lv_at hl 6 rfl) ?_
    refine tw_iast (i := r73) (x := li) hx hb hK hT hG hS hg2 shm_2 rfl (vin_t (a := r73.toInt) rfl (by omega) (by omega)) (gp_of (gi_all _) (w_fre (by have q9 := tn_of (show r73.toInt = r73.toInt from rfl) (show (0 : Int) ≤ r73.toInt from by omega); omega)) (wX_n (by have q9 := tn_of (show r73.toInt = r73.toInt from rfl) (show (0 : Int) ≤ r73.toInt from by omega); omega) (by omega) (by have q9 := tn_of (show r73.toInt = r73.toInt from rfl) (show (0 : Int) ≤ r73.toInt from by omega); omega))) dX12_builds_87 (fun H locs hT oq m82 oi hS => ?_)
    have hF := hF.ast hg2 skm_2 oq (by decide)
    have m83 := (oi _ (tn_ne (show (1428 : Int32).toInt = 1428 from (by decide)) (show r73.toInt = r73.toInt from rfl) (by omega) (by omega) (by omega))).trans m75
    have m84 := (oi _ (tn_ne (show r37.toInt = r37.toInt from rfl) (show r73.toInt = r73.toInt from rfl) (by omega) (by omega) (by omega))).trans m76
    have m85 := (oi _ (tn_ne (show r47.toInt = r47.toInt from rfl) (show r73.toInt = r73.toInt from rfl) (by omega) (by omega) (by omega))).trans m77
    have m86 := (oi _ (tn_ne (show r59.toInt = r59.toInt from rfl) (show r73.toInt = r73.toInt from rfl) (by omega) (by omega) (by omega))).trans m78
    refine lv_aload_n hx hb dX12_builds_88 rfl (lv_at hl 2 rfl) ?_
    refine tw_get hx hb hts bF_X12 hown hK hT hr_o0 shm_0 rfl 1 (by decide) (ht_at hts 0 rfl) (fun _ h9 => h9) dX12_builds_89 (fun v9 m87 h9 => ?_)
    obtain ⟨rfl, hg88⟩ := h9 _ rfl
    refine lv_iload hx hb dX12_builds_92 (lv_at hl 1 rfl) ?_
    refine lv_bipush (v := 17) hx hb dX12_builds_94 (by decide) ?_
    have hFc := gA_free hG hA hS
    refine va_calli (va_runS (As := [.int x4, .int 17]) (rest := [.ref (q 1)]) ⟨hx, hb, hml, hown, hts⟩ (s_at l dC dI kA adK adV G H q wZ wN wH wB wC wL wK wU wV PI im PM PT lS lB lE lN x4 17 hT (by have q8 := ti_all x4; omega) (rg_t (a := 17) (by decide) (by first | decide | omega) (by first | decide | omega)) hgz hgn hgh hgb hgc hgi hgu) (va_cwS 2 hts (goodIn_app (goodIn_r _ [3, 4, 5] rfl (by decide +kernel)) (goodIn_ca (goodIn_r _ [2] rfl (by decide +kernel)) (bs_in _ _))) rfl rfl rfl (by decide +kernel) ⟨(Nat.le_of_ble_eq_true rfl), (Nat.le_of_ble_eq_true rfl)⟩) ⟨fun a U g mk q => by obtain ⟨q0, q1, qK, qE⟩ := q; exact ⟨q0, q1, va_K.moved (u := U) (U := U.calling g mk a) (Vm.Alike.refl U.vm) qK, EVS.blind g mk a qE⟩, fun U hU hW => ⟨rfl, hU, va_K.moved hW.alike hK, hE.call hS hFc hU hW⟩⟩ rfl rfl hl.1 rfl (lv_room (Nat.le_of_ble_eq_true rfl)) dX12_builds_96 ⟨(Nat.le_of_ble_eq_true rfl), (Nat.le_of_ble_eq_true rfl)⟩) hS (fun q _ h => hFc q h) hFc (fun r89 u t H locs ht hvm hw90 hB _ _ hS => ?_)
    obtain ⟨hT, hF1⟩ := hB
    rw [ht] at hT hF1
    have m91 := (el_kept (hF1.arr hg2 skm_2 (by decide))).trans m83
    have m92 := (el_kept (hF1.arr hg2 skm_2 (by decide))).trans m84
    have m93 := (el_kept (hF1.arr hg2 skm_2 (by decide))).trans m85
    have m94 := (el_kept (hF1.arr hg2 skm_2 (by decide))).trans m86
    have hF := hF.more hF1 (by decide)
    try dsimp only at hw90
    obtain ⟨h96, hf97⟩ := hw90
    have t98 : (17 : Int32).toInt = 17 := by decide
    refine lv_iload hx hb dX12_builds_99 (lv_at hl 7 rfl) ?_
    refine tw_iast (i := r89) (x := si) hx hb hK hT hG hS hg2 shm_2 rfl (vin_t (a := r89.toInt) rfl (by omega) (by omega)) (gp_of (gi_of (show si.toInt = si.toInt from rfl) (by omega) (by omega)) (w_wsz (by have q9 := tn_of (show r89.toInt = r89.toInt from rfl) (show (0 : Int) ≤ r89.toInt from by omega); omega)) (wX_n (by have q9 := tn_of (show r89.toInt = r89.toInt from rfl) (show (0 : Int) ≤ r89.toInt from by omega); omega) (by omega) (by have q9 := tn_of (show r89.toInt = r89.toInt from rfl) (show (0 : Int) ≤ r89.toInt from by omega); omega))) dX12_builds_101 (fun H locs hT oq m99 oi hS => ?_)
    have hF := hF.ast hg2 skm_2 oq (by decide)
    have m100 := (oi _ (tn_ne (show (1428 : Int32).toInt = 1428 from (by decide)) (show r89.toInt = r89.toInt from rfl) (by omega) (by omega) (by omega))).trans m91
    have m101 := (oi _ (tn_ne (show r37.toInt = r37.toInt from rfl) (show r89.toInt = r89.toInt from rfl) (by omega) (by omega) (by omega))).trans m92
    have m102 := (oi _ (tn_ne (show r47.toInt = r47.toInt from rfl) (show r89.toInt = r89.toInt from rfl) (by omega) (by omega) (by omega))).trans m93
    have m103 := (oi _ (tn_ne (show r59.toInt = r59.toInt from rfl) (show r89.toInt = r89.toInt from rfl) (by omega) (by omega) (by omega))).trans m94
    refine lv_aload_n hx hb dX12_builds_102 rfl (lv_at hl 2 rfl) ?_
    refine tw_get hx hb hts bF_X12 hown hK hT hr_o0 shm_0 rfl 1 (by decide) (ht_at hts 0 rfl) (fun _ h9 => h9) dX12_builds_103 (fun v9 m105 h9 => ?_)
    obtain ⟨rfl, hg106⟩ := h9 _ rfl
    refine lv_sipush (v := 1428) hx hb dX12_builds_106 (by decide) ?_
    refine lv_dup2_11 hx hb dX12_builds_109 rfl rfl ?_
    refine tw_iald (i := 1428) hx hb hK hT hg2 shm_2 rfl (by unfold vp_in; decide) dX12_builds_110 (fun v9 m107 h9 => ?_)
    obtain ⟨x108, rfl, gx108, kx108⟩ := (gp_at h9 (w_wct (by have q9 := tn_of (show (1428 : Int32).toInt = 1428 from (by decide)) (show (0 : Int) ≤ 1428 from by omega); omega)))
    obtain rfl : x4 = x108 := (el_same m107 m100 rfl).symm
    refine lv_iconst (v := 1) hx hb dX12_builds_111 (by decide) ?_
    refine lv_iadd hx hb dX12_builds_112 ?_
    refine lv_topi (fun x109 ex109 => ?_)
    have t110 : x109.toInt = x4.toInt + 1 := ti_add ex109 rfl (by decide) (by omega) (by omega)
    refine tw_iast2 (Sg1 := (SHm q (wP wZ wN wH wB (wC + 1) wL (bK wK wC kd.toInt) (bU wU wC sq.toNatClampNeg) (bU wV wC to.toNatClampNeg)) PI im PM PT lS lB lE lN)) (i := 1428) (x := x109) hx hb hK hT hG hS hg2 shm_2 rfl shm_2 shm_o2 (fun b9 h9 => hgu b9 1 h9) (by unfold vp_in; decide) (gp_of (gi_of (show x109.toInt = x109.toInt from rfl) (by omega) (by omega)) (w_wct (by decide)) (wX_o (by decide) (by omega))) (fun k9 hk9 hne9 v9 hv9 he9 => by obtain ⟨x9, rfl, p9⟩ := he9; exact ⟨x9, rfl, bu_hm (kd := kd) (sq := sq) (to := to) hk9 (fun e9 => hne9 (e9.trans (by decide))) (by omega) hv9 m101 (by have q9 := tn_of (show r37.toInt = r37.toInt from rfl) (by omega); omega) m102 (by have q9 := tn_of (show r47.toInt = r47.toInt from rfl) (by omega); omega) (by omega) m103 (by have q9 := tn_of (show r59.toInt = r59.toInt from rfl) (by omega); omega) (by omega) p9⟩) dX12_builds_113 (fun H locs hT oq m111 oi hS => ?_)
    have hF := hF.ast hg2 skm_2 oq (by decide)
    refine lv_aload_n hx hb dX12_builds_114 rfl (lv_at hl 2 rfl) ?_
    refine lv_iconst (v := 0) hx hb dX12_builds_115 (by decide) ?_
    refine tw_put (v := .int 0) (ty := .int) hx hb hts bF_X12 tyX12 tyX12_ok nmX12 hown hK hT hG hS hr_o0 shm_0 rfl 9 (by decide) (ht_at hts 5 rfl) (fun _ h9 => h9) rfl (by decide +kernel) rfl rfl (gl_at rfl (gi_of (show (0 : Int32).toInt = 0 from (by decide)) (by first | decide | omega) (by first | decide | omega))) dX12_builds_116 (fun H locs hT oq m117 oj hS => ?_)
    have hF := hF.put hr_o0 skm_0 oq oj (by decide)
    refine lv_iload hx hb dX12_builds_119 (lv_at hl 1 rfl) ?_
    exact W.iret (v := x4) hx hb hr (fun t ht hW => ⟨⟨x4, ((wC + 1), (bK wK wC kd.toInt), (bU wU wC sq.toNatClampNeg), (bU wV wC to.toNatClampNeg)), rfl, (by exact ⟨(by have q8 := ti_all x4; omega), ⟨bu_G hgw (by omega) (by omega) (by omega) hs_ hd_ ha_ hk_, by omega, by omega⟩⟩), by (try dsimp only); rw [ht]; exact ⟨hT, hF⟩⟩, hS.F ht⟩) hS.2.2 dX12_builds_121
  have key124 : ∀ (n124 i5 : Nat), i5 + n124 = 22 → 0 ≤ i5 → ∀ (H : Heap) (locs : List Loc), gH (dC, dI) kA (SHm q (wP wZ wN wH wB wC wL wK wU wV) PI im PM PT lS lB lE lN) G H → gF (dC, dI) SKm G ([(0, 9), (2, 0)] : List (Nat × Nat)) s.heap H → va_S A s.heap H locs → el H (q 1) (1428 : Int32).toNatClampNeg = some (.int x4) → ∀ ls : Array Slot, lv_has ls 8 [(7, .int (nI i5)), (6, .int x4), (0, .ref o0), (1, .int kd), (2, .int sq), (3, .int to), (4, .int li), (5, .int si)] → W p l e (headSpec w_s_builds ({ frames := 1, cells := 0, slots := 0, locals := 21 })).room s m #[.ref o0, .int kd, .int sq, .int to, .int li, .int si] below meth c H locs 0 0 (MQ below (va_Qi (fun (r : Int32) (u : Int × (Nat → Prop) × (Nat → Nat) × (Nat → Nat)) => match u with | (wC1, wK1, wU1, wV1) => (0 ≤ r.toInt ∧ r.toInt ≤ 29) ∧ (wG wC1 wL wK1 wU1 wV1 ∧ 0 ≤ wC1 ∧ wC1 ≤ 30)) (fun (u : Int × (Nat → Prop) × (Nat → Nat) × (Nat → Nat)) (t : State) => match u with | (wC1, wK1, wU1, wV1) => gH (dC, dI) kA (SHm q (wP wZ wN wH wB wC1 wL wK1 wU1 wV1) PI im PM PT lS lB lE lN) G t.heap ∧ gF (dC, dI) SKm G ([(0, 9), (2, 0)] : List (Nat × Nat)) s.heap t.heap) A) #[.ref o0, .int kd, .int sq, .int to, .int li, .int si] s 0 0 A) (F0 m 13 ls []) := by
    intro n124
    induction n124 with
    | zero =>
      intro i5 hn124 hlo125  H locs hT hF hS m6 ls hl
      obtain rfl : 22 = i5 := by omega
      refine lv_iload hx hb dX12_builds_13 (lv_at hl 0 rfl) ?_
      refine lv_bipush (v := 22) hx hb dX12_builds_15 (by decide) ?_
      refine lv_icmp_ge (tgt := 39) hx hb dX12_builds_17 (by decide) (fun c126 => ?_) (fun c126 => (by exfalso; have q9 : ((22 : Nat) : Int) < 22 := ti_nle c126 (by decide) (nI_toInt (by omega)); omega))
      have t127 : 22 ≤ ((22 : Nat) : Int) := ti_le c126 (by decide) (nI_toInt (by omega))
      exact jn34 _ _ hT hF hS m6 ls (lv_sub hl [0, 1, 2, 3, 4, 5, 6, 7] rfl)
    | succ n124 ih124 =>
      intro i5 hn124 hlo125  H locs hT hF hS m6 ls hl
      have hlt127 : i5 < 22 := by omega
      refine lv_iload hx hb dX12_builds_13 (lv_at hl 0 rfl) ?_
      refine lv_bipush (v := 22) hx hb dX12_builds_15 (by decide) ?_
      refine lv_icmp_ge (tgt := 39) hx hb dX12_builds_17 (by decide) (fun c128 => (by exfalso; have q9 : 22 ≤ ((i5 : Nat) : Int) := ti_le c128 (by decide) (nI_toInt (by omega)); omega)) (fun c128 => ?_)
      have t129 : ((i5 : Nat) : Int) < 22 := ti_nle c128 (by decide) (nI_toInt (by omega))
      refine lv_aload_n hx hb dX12_builds_20 rfl (lv_at hl 2 rfl) ?_
      refine tw_get hx hb hts bF_X12 hown hK hT hr_o0 shm_0 rfl 1 (by decide) (ht_at hts 0 rfl) (fun _ h9 => h9) dX12_builds_21 (fun v9 m130 h9 => ?_)
      obtain ⟨rfl, hg131⟩ := h9 _ rfl
      refine lv_iload hx hb dX12_builds_24 (lv_at hl 1 rfl) ?_
      refine lv_iload hx hb dX12_builds_26 (lv_at hl 0 rfl) ?_
      have hFc := gA_free hG hA hS
      refine va_calli (va_runS (As := [.int x4, .int (nI i5)]) (rest := [.ref (q 1)]) ⟨hx, hb, hml, hown, hts⟩ (s_at l dC dI kA adK adV G H q wZ wN wH wB wC wL wK wU wV PI im PM PT lS lB lE lN x4 (nI i5) hT (by have q8 := ti_all x4; omega) (rg_t (a := ((i5 : Nat) : Int)) (nI_toInt (by omega)) (by omega) (by omega)) hgz hgn hgh hgb hgc hgi hgu) (va_cwS 2 hts (goodIn_app (goodIn_r _ [3, 4, 5] rfl (by decide +kernel)) (goodIn_ca (goodIn_r _ [2] rfl (by decide +kernel)) (bs_in _ _))) rfl rfl rfl (by decide +kernel) ⟨(Nat.le_of_ble_eq_true rfl), (Nat.le_of_ble_eq_true rfl)⟩) ⟨fun a U g mk q => by obtain ⟨q0, q1, qK, qE⟩ := q; exact ⟨q0, q1, va_K.moved (u := U) (U := U.calling g mk a) (Vm.Alike.refl U.vm) qK, EVS.blind g mk a qE⟩, fun U hU hW => ⟨rfl, hU, va_K.moved hW.alike hK, hE.call hS hFc hU hW⟩⟩ rfl rfl hl.1 rfl (lv_room (Nat.le_of_ble_eq_true rfl)) dX12_builds_28 ⟨(Nat.le_of_ble_eq_true rfl), (Nat.le_of_ble_eq_true rfl)⟩) hS (fun q _ h => hFc q h) hFc (fun r132 u t H locs ht hvm hw133 hB _ _ hS => ?_)
      obtain ⟨hT, hF1⟩ := hB
      rw [ht] at hT hF1
      have m134 := (el_kept (hF1.arr hg2 skm_2 (by decide))).trans m6
      have hF := hF.more hF1 (by decide)
      try dsimp only at hw133
      obtain ⟨h135, hf136⟩ := hw133
      have t137 : (nI i5).toInt = ((i5 : Nat) : Int) := nI_toInt (by omega)
      refine lv_iconst (v := 0) hx hb dX12_builds_31 (by decide) ?_
      refine tw_iast (i := r132) (x := 0) hx hb hK hT hG hS hg2 shm_2 rfl (vin_t (a := r132.toInt) rfl (by omega) (by omega)) (w_wk0 (by have q9 := tn_of (show r132.toInt = r132.toInt from rfl) (show (0 : Int) ≤ r132.toInt from by omega); omega) (wX_n (by have q9 := tn_of (show r132.toInt = r132.toInt from rfl) (show (0 : Int) ≤ r132.toInt from by omega); omega) (by omega) (by have q9 := tn_of (show r132.toInt = r132.toInt from rfl) (show (0 : Int) ≤ r132.toInt from by omega); omega))) dX12_builds_32 (fun H locs hT oq m138 oi hS => ?_)
      have hF := hF.ast hg2 skm_2 oq (by decide)
      have m139 := (oi _ (tn_ne (show (1428 : Int32).toInt = 1428 from (by decide)) (show r132.toInt = r132.toInt from rfl) (by omega) (by omega) (by omega))).trans m134
      refine lv_iinc (v := nI (i5 + 1)) (lv' := [(7, .int (nI (i5 + 1))), (6, .int x4), (0, .ref o0), (1, .int kd), (2, .int sq), (3, .int to), (4, .int li), (5, .int si)]) hx hb dX12_builds_33 hl (k := 0) rfl (nI_add i5 1) (by decide) rfl (fun ls hl => ?_)
      refine lv_goto (tgt := 13) hx hb dX12_builds_36 (by decide) ?_
      exact ih124 (i5 + 1) (by omega) (by omega) _ _ hT hF hS m139 ls (lv_sub hl [0, 1, 2, 3, 4, 5, 6, 7] rfl)
  exact key124 (22 - 0) 0 (by omega) (Nat.le_refl _) _ _ hT hF hS m3 ls (lv_sub hl [0, 1, 2, 3, 4, 5, 6, 7] rfl)
