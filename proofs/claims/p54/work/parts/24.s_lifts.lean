def w_s_lifts : List Cond := .code yX12_lifts cX12_lifts 7 none :: (HAppend.hAppend (α := List Cond) (β := List Cond) (γ := List Cond) [.code yX12_of cX12_of 3 (some .int), .fieldLink RX12 9 "SeaLandModel" "world" "[I", .code yX12_at cX12_at 2 (some .int), .methodLink RX12 214 yX12_at, .static yX12_at, .initialized RX12, .methodLink RX12 217 yX12_of, .instanceMethod yX12_of, .selects RX12 yX12_of yX12_of, .methodLink RX12 207 Lib.Math.min.name, .static Lib.Math.min.name, .initialized "java/lang/Math", .code Lib.Math.min.name Lib.Math.min.code 2 (some .int), .code yX12_leaves cX12_leaves 4 (some .int), .methodLink RX12 291 yX12_leaves, .instanceMethod yX12_leaves, .selects RX12 yX12_leaves yX12_leaves, .code yX12_isLand cX12_isLand 2 (some .boolean), .methodLink RX12 235 yX12_isLand, .instanceMethod yX12_isLand, .selects RX12 yX12_isLand yX12_isLand, .code yX12_brings cX12_brings 3 none, .methodLink RX12 294 yX12_brings, .instanceMethod yX12_brings, .selects RX12 yX12_brings yX12_brings] bs)
set_option maxHeartbeats 4000000 in
set_option maxRecDepth 100000 in
theorem s_lifts (l : Launch) (dC : Nat → ClassId) (dI : Nat → Nat → Nat) (kA : Nat → ClassId) (adK adV : Nat → Nat) (G : gT) (H0 : Heap) (q : Nat → Nat) (wZ wN : Nat → Int) (wH wB wC : Int) (wL wK : Nat → Prop) (wU wV : Nat → Nat) (PI : Nat → Int → Prop) (im : Int) (PM PT : Nat → Int → Prop) (lS lB lE : Nat → Nat → Int → Prop) (lN : Nat → Int) (o0 : Nat) (wk : Int32) (wi : Int32)  (hT : gH (dC, dI) kA (SHm q (wP wZ0 (lfN wN wU wV wk.toNatClampNeg) wH wB wC wL wK wU wV) PI im PM PT lS lB lE lN) G H0) (hr_o0 : G o0 = some 0) (hq0 : 0 ≤ wk.toInt ∧ wk.toInt ≤ 29) (hq1 : 0 ≤ wi.toInt ∧ wi.toInt ≤ 9) (hc_ : wk.toInt < wC) (hgw : wG wC wL wK wU wV) (hn2_ : ∀ i, 6500000 ≤ wN i ∧ wN i ≤ 20199760) (hgz : ∀ i, 0 ≤ wZ i) (hgn : ∀ i, 6500000 ≤ wN i ∧ wN i ≤ 20200000) (hgh : 0 ≤ wH ∧ wH ≤ 40000) (hgb : 0 ≤ wB ∧ wB ≤ 3850000) (hgc : 0 ≤ wC ∧ wC ≤ 30) (hgi : 0 ≤ im ∧ im ≤ 1) (hgu : ∀ a t, G a = some (t + 1) → a = q t) : Met l yX12_lifts w_s_lifts ({ frames := 2, cells := 0, slots := 0, locals := 43 }) (va_Pc [.ref o0, .int wk, .int wi] (fun U => U.heap = H0 ∧ va_K (dC, dI) vwCl (tyl kA) U ∧ EVS adK adV (gA G H0.size) U U.heap)) (va_Qv (fun (u : Unit) => True) (fun (_ : Unit) (t : State) => gH (dC, dI) kA (SHm q (wP wZ0 (lfN wN wU wV (wk.toNatClampNeg + 1)) wH wB wC wL wK wU wV) PI im PM PT lS lB lE lN) G t.heap ∧ gF (dC, dI) SKm G ([(2, 0)] : List (Nat × Nat)) H0 t.heap) (gA G H0.size)) 0 0 (gA G H0.size) := by
  refine Met.ofW (cc := cX12_lifts) (maxL := 7) (ret := none) (by decide) rfl ?_
  intro p e s m args below meth c s₁ B hml hv
  obtain ⟨rfl, hH0, hK, hE⟩ := hv
  have hx := B.exec
  have hb := B.bytes
  have hr := B.returns
  have hts := atoms_spec (ws := w_s_lifts) B.pre
  have hown : s.vm.findClass RX12 = some m.cls := findClass_of_methodNamed B.named
  have hlocks := B.notSynchronized
  subst hH0
  generalize hAe : gA G s.heap.size = A at hE ⊢
  have hA : ∀ q : Nat, s.heap.size ≤ q → A q := fun q h => by rw [← hAe]; exact Or.inr h
  have hG := gA_of hAe
  have hS : va_S A s.heap s.heap [] := va_S.rf
  have hF : gF (dC, dI) SKm G ([(2, 0)] : List (Nat × Nat)) s.heap s.heap := gF.rf
  have hl := lv_entry ([.ref o0, .int wk, .int wi]) (n := 7) (Nat.le_of_ble_eq_true rfl)
  rw [lg_entry_eq]
  generalize (lg_sl ([.ref o0, .int wk, .int wi]) ++ List.replicate (7 - (lg_sl ([.ref o0, .int wk, .int wi])).length) Slot.unset).toArray = ls at hl ⊢
  have hl : lv_has ls 7 [(0, .ref o0), (1, .int wk), (2, .int wi)] := hl
  have t1 : ∀ i, 6500000 ≤ lfN wN wU wV wk.toNatClampNeg i ∧ lfN wN wU wV wk.toNatClampNeg i ≤ 20200000 := fun i => by have q8 := hn2_ i; have q9 := lf_b wN wU wV wk.toNatClampNeg i; omega
  refine lv_aload_n hx hb dX12_lifts_0 rfl (lv_at hl 0 rfl) ?_
  refine lv_iload_n hx hb dX12_lifts_1 rfl (lv_at hl 1 rfl) ?_
  refine lv_bipush (v := 17) hx hb dX12_lifts_2 (by decide) ?_
  have hFc := gA_free hG hA hS
  refine va_calli (va_runV (As := [.int wk, .int 17]) (rest := []) ⟨hx, hb, hml, hown, hts⟩ (s_of17 l dC dI kA adK adV G s.heap q wZ0 (lfN wN wU wV wk.toNatClampNeg) wH wB wC wL wK wU wV PI im PM PT lS lB lE lN o0 wk hT hr_o0 (by have q8 := ti_all wk; omega) (fun _ => Int.le_refl 0) t1 (by omega) (by omega) (by omega) (by omega) hgu) (cwV 2 hts (goodIn_app (goodIn_r _ [7, 8, 9, 6] rfl (by decide +kernel)) (goodIn_ca (goodIn_r _ [1, 2, 3, 4, 5, 6] rfl (by decide +kernel)) (bs_in _ _))) rfl rfl rfl (by decide +kernel) ⟨(Nat.le_of_ble_eq_true rfl), (Nat.le_of_ble_eq_true rfl)⟩) ⟨fun a U g mk q => by obtain ⟨q0, q1, qK, qE⟩ := q; exact ⟨q0, q1, va_K.moved (u := U) (U := U.calling g mk a) (Vm.Alike.refl U.vm) qK, EVS.blind g mk a qE⟩, gH_rc hK hT hr_o0 shm_0 rfl, fun U hU hW => ⟨rfl, hU, va_K.moved hW.alike hK, hE.call hS hFc hU hW⟩⟩ rfl rfl hl.1 rfl (lv_room (Nat.le_of_ble_eq_true rfl)) dX12_lifts_4 ⟨(Nat.le_of_ble_eq_true rfl), (Nat.le_of_ble_eq_true rfl)⟩) hS (fun q _ h => hFc q h) hFc (fun r2 u t H locs ht hvm hw3 hB _ _ hS => ?_)
  obtain ⟨hT, hF1⟩ := hB
  rw [ht] at hT hF1
  have hF := hF.more hF1 (by decide)
  try dsimp only at hw3
  obtain ⟨h4, ⟨ix5, hix5, m6⟩⟩ := hw3
  have hg7 : G (q 1) = some 2 := gx_of hT hr_o0 shm_0 (k := 1) (by decide) rfl
  have m8 := (el_kept (hF1.arr hg7 skm_2 (by decide))).trans m6
  refine lv_iload_n hx hb dX12_lifts_7 rfl (lv_at hl 2 rfl) ?_
  refine lv_imul hx hb dX12_lifts_8 ?_
  refine lv_topi (fun x9 ex9 => ?_)
  have t10 : 0 ≤ x9.toInt ∧ x9.toInt ≤ 60 * 9 ∧ (r2.toInt = 0 → x9.toInt = 0) ∧ (wi.toInt = 0 → x9.toInt = 0) ∧ x9.toInt ≤ r2.toInt * 9 ∧ x9.toInt ≤ 60 * wi.toInt := ti_mulnn ex9 rfl rfl (by omega) (by omega) (by omega) (by omega) (by decide)
  refine lv_bipush (v := 10) hx hb dX12_lifts_9 (by decide) ?_
  refine lv_idiv hx hb dX12_lifts_11 (by decide) ?_
  refine lv_topi (fun x11 ex11 => ?_)
  have t12 : x11.toInt = x9.toInt / 10 := ti_div ex11 rfl (by decide) (by omega) (by omega)
  refine lv_istore_n (lv' := [(3, .int x11), (0, .ref o0), (1, .int wk), (2, .int wi)]) hx hb dX12_lifts_12 rfl hl (by decide) rfl (fun ls hl => ?_)
  refine lv_aload_n hx hb dX12_lifts_13 rfl (lv_at hl 1 rfl) ?_
  refine lv_iload_n hx hb dX12_lifts_14 rfl (lv_at hl 2 rfl) ?_
  refine lv_iconst (v := 0) hx hb dX12_lifts_15 (by decide) ?_
  have hFc := gA_free hG hA hS
  refine va_calli (va_runV (As := [.int wk, .int 0]) (rest := []) ⟨hx, hb, hml, hown, hts⟩ (s_of0 l dC dI kA adK adV G H q wZ0 (lfN wN wU wV wk.toNatClampNeg) wH wB wC wL wK wU wV PI im PM PT lS lB lE lN o0 wk hT hr_o0 (by have q8 := ti_all wk; omega) (fun _ => Int.le_refl 0) t1 (by omega) (by omega) (by omega) (by omega) hgu) (cwV 2 hts (goodIn_app (goodIn_r _ [7, 8, 9, 6] rfl (by decide +kernel)) (goodIn_ca (goodIn_r _ [1, 2, 3, 4, 5, 6] rfl (by decide +kernel)) (bs_in _ _))) rfl rfl rfl (by decide +kernel) ⟨(Nat.le_of_ble_eq_true rfl), (Nat.le_of_ble_eq_true rfl)⟩) ⟨fun a U g mk q => by obtain ⟨q0, q1, qK, qE⟩ := q; exact ⟨q0, q1, va_K.moved (u := U) (U := U.calling g mk a) (Vm.Alike.refl U.vm) qK, EVS.blind g mk a qE⟩, gH_rc hK hT hr_o0 shm_0 rfl, fun U hU hW => ⟨rfl, hU, va_K.moved hW.alike hK, hE.call hS hFc hU hW⟩⟩ rfl rfl hl.1 rfl (lv_room (Nat.le_of_ble_eq_true rfl)) dX12_lifts_16 ⟨(Nat.le_of_ble_eq_true rfl), (Nat.le_of_ble_eq_true rfl)⟩) hS (fun q _ h => hFc q h) hFc (fun r13 u t H locs ht hvm hw14 hB _ _ hS => ?_)
  obtain ⟨hT, hF1⟩ := hB
  rw [ht] at hT hF1
  have m15 := (el_kept (hF1.arr hg7 skm_2 (by decide))).trans m8
  have hF := hF.more hF1 (by decide)
  try dsimp only at hw14
  have ⟨ix16, hix16, m17⟩ := hw14
  have m18 := (el_kept (hF1.arr hg7 skm_2 (by decide))).trans m17
  refine lv_iconst (v := 3) hx hb dX12_lifts_19 (by decide) ?_
  have jn118 : ∀ (z114 : Int32), ((0 ≤ z114.toInt ∧ z114.toInt ≤ 60)) → ∀ (H : Heap) (locs : List Loc), gH (dC, dI) kA (SHm q (wP wZ0 (lfN wN wU wV wk.toNatClampNeg) wH wB wC wL wK wU wV) PI im PM PT lS lB lE lN) G H → gF (dC, dI) SKm G ([(2, 0)] : List (Nat × Nat)) s.heap H → va_S A s.heap H locs → el H (q 1) ix5.toNatClampNeg = some (.int r2) → el H (q 1) ix16.toNatClampNeg = some (.int r13) → ∀ ls : Array Slot, lv_has ls 7 [(3, .int z114), (0, .ref o0), (1, .int wk), (2, .int wi)] → W p l e (headSpec w_s_lifts ({ frames := 2, cells := 0, slots := 0, locals := 43 })).room s m #[.ref o0, .int wk, .int wi] below meth c H locs 0 0 (MQ below (va_Qv (fun (u : Unit) => True) (fun (_ : Unit) (t : State) => gH (dC, dI) kA (SHm q (wP wZ0 (lfN wN wU wV (wk.toNatClampNeg + 1)) wH wB wC wL wK wU wV) PI im PM PT lS lB lE lN) G t.heap ∧ gF (dC, dI) SKm G ([(2, 0)] : List (Nat × Nat)) s.heap t.heap) A) #[.ref o0, .int wk, .int wi] s 0 0 A) (F0 m 92 ls []) := by
    intro z114 h115 H locs hT hF hS m116 m117 ls hl
    refine lv_aload_n hx hb dX12_lifts_92 rfl (lv_at hl 1 rfl) ?_
    refine lv_iload_n hx hb dX12_lifts_93 rfl (lv_at hl 2 rfl) ?_
    refine lv_iconst (v := 1) hx hb dX12_lifts_94 (by decide) ?_
    have hFc := gA_free hG hA hS
    refine va_calli (va_runV (As := [.int wk, .int 1]) (rest := []) ⟨hx, hb, hml, hown, hts⟩ (s_of1 l dC dI kA adK adV G H q wZ0 (lfN wN wU wV wk.toNatClampNeg) wH wB wC wL wK wU wV PI im PM PT lS lB lE lN o0 wk hT hr_o0 (by have q8 := ti_all wk; omega) (fun _ => Int.le_refl 0) t1 (by omega) (by omega) (by omega) (by omega) hgu) (cwV 2 hts (goodIn_app (goodIn_r _ [7, 8, 9, 6] rfl (by decide +kernel)) (goodIn_ca (goodIn_r _ [1, 2, 3, 4, 5, 6] rfl (by decide +kernel)) (bs_in _ _))) rfl rfl rfl (by decide +kernel) ⟨(Nat.le_of_ble_eq_true rfl), (Nat.le_of_ble_eq_true rfl)⟩) ⟨fun a U g mk q => by obtain ⟨q0, q1, qK, qE⟩ := q; exact ⟨q0, q1, va_K.moved (u := U) (U := U.calling g mk a) (Vm.Alike.refl U.vm) qK, EVS.blind g mk a qE⟩, gH_rc hK hT hr_o0 shm_0 rfl, fun U hU hW => ⟨rfl, hU, va_K.moved hW.alike hK, hE.call hS hFc hU hW⟩⟩ rfl rfl hl.1 rfl (lv_room (Nat.le_of_ble_eq_true rfl)) dX12_lifts_95 ⟨(Nat.le_of_ble_eq_true rfl), (Nat.le_of_ble_eq_true rfl)⟩) hS (fun q _ h => hFc q h) hFc (fun r119 u t H locs ht hvm hw120 hB _ _ hS => ?_)
    obtain ⟨hT, hF1⟩ := hB
    rw [ht] at hT hF1
    have hF := hF.more hF1 (by decide)
    try dsimp only at hw120
    obtain ⟨h123, ⟨ix124, hix124, m125⟩⟩ := hw120
    refine lv_istore (lv' := [(4, .int r119), (3, .int z114), (0, .ref o0), (1, .int wk), (2, .int wi)]) hx hb dX12_lifts_98 hl (by decide) rfl (fun ls hl => ?_)
    refine lv_aload_n hx hb dX12_lifts_100 rfl (lv_at hl 2 rfl) ?_
    refine lv_iload_n hx hb dX12_lifts_101 rfl (lv_at hl 3 rfl) ?_
    refine lv_iconst (v := 2) hx hb dX12_lifts_102 (by decide) ?_
    have hFc := gA_free hG hA hS
    refine va_calli (va_runV (As := [.int wk, .int 2]) (rest := []) ⟨hx, hb, hml, hown, hts⟩ (s_of2 l dC dI kA adK adV G H q wZ0 (lfN wN wU wV wk.toNatClampNeg) wH wB wC wL wK wU wV PI im PM PT lS lB lE lN o0 wk hT hr_o0 (by have q8 := ti_all wk; omega) (fun _ => Int.le_refl 0) t1 (by omega) (by omega) (by omega) (by omega) hgu) (cwV 2 hts (goodIn_app (goodIn_r _ [7, 8, 9, 6] rfl (by decide +kernel)) (goodIn_ca (goodIn_r _ [1, 2, 3, 4, 5, 6] rfl (by decide +kernel)) (bs_in _ _))) rfl rfl rfl (by decide +kernel) ⟨(Nat.le_of_ble_eq_true rfl), (Nat.le_of_ble_eq_true rfl)⟩) ⟨fun a U g mk q => by obtain ⟨q0, q1, qK, qE⟩ := q; exact ⟨q0, q1, va_K.moved (u := U) (U := U.calling g mk a) (Vm.Alike.refl U.vm) qK, EVS.blind g mk a qE⟩, gH_rc hK hT hr_o0 shm_0 rfl, fun U hU hW => ⟨rfl, hU, va_K.moved hW.alike hK, hE.call hS hFc hU hW⟩⟩ rfl rfl hl.1 rfl (lv_room (Nat.le_of_ble_eq_true rfl)) dX12_lifts_103 ⟨(Nat.le_of_ble_eq_true rfl), (Nat.le_of_ble_eq_true rfl)⟩) hS (fun q _ h => hFc q h) hFc (fun r127 u t H locs ht hvm hw128 hB _ _ hS => ?_)
    obtain ⟨hT, hF1⟩ := hB
    rw [ht] at hT hF1
    have hF := hF.more hF1 (by decide)
    try dsimp only at hw128
    obtain ⟨h132, ⟨ix133, hix133, m134⟩⟩ := hw128
    have m135 := (el_kept (hF1.arr hg7 skm_2 (by decide))).trans m134
    refine lv_istore (lv' := [(5, .int r127), (4, .int r119), (3, .int z114), (0, .ref o0), (1, .int wk), (2, .int wi)]) hx hb dX12_lifts_106 hl (by decide) rfl (fun ls hl => ?_)
    have hw_ : ((wk.toNatClampNeg : Nat) : Int) < wC := by have q9 := tn_of (i := wk) rfl (by omega); omega
    have hV_ : r127.toInt = (wV wk.toNatClampNeg : Int) := wV_of hT hg7 (show ix133.toInt = 770 + 22 * wk.toInt from by have q9 := (show ix133.toInt = ix133.toInt from rfl); omega) (by omega) hc_ (by omega) m135
    refine lv_iload_n hx hb dX12_lifts_108 rfl (lv_at hl 2 rfl) ?_
    refine lv_aload_n hx hb dX12_lifts_109 rfl (lv_at hl 3 rfl) ?_
    refine tw_get hx hb hts bF_X12 hown hK hT hr_o0 shm_0 rfl 1 (by decide) (ht_at hts 1 rfl) (fun _ h9 => h9) dX12_lifts_110 (fun v9 m136 h9 => ?_)
    obtain ⟨rfl, hg137⟩ := h9 _ rfl
    refine lv_sipush (v := 384) hx hb dX12_lifts_113 (by decide) ?_
    refine lv_iload hx hb dX12_lifts_116 (lv_at hl 1 rfl) ?_
    refine lv_iadd hx hb dX12_lifts_118 ?_
    refine lv_topi (fun x138 ex138 => ?_)
    have t139 : x138.toInt = 384 + r119.toInt := ti_add ex138 (by decide) rfl (by omega) (by omega)
    refine tw_iald (i := x138) hx hb hK hT hg7 shm_2 rfl (vin_t (a := x138.toInt) rfl (by omega) (by omega)) dX12_lifts_119 (fun v9 m140 h9 => ?_)
    obtain ⟨x141, rfl, gx141, kx141⟩ := (gw_at h9 (w_wat (by have q9 := tn_of (show x138.toInt = x138.toInt from rfl) (show (0 : Int) ≤ x138.toInt from by omega); omega)) t1 (fun _ => Int.le_refl 0))
    refine va_mmin hx hb (hml.trans hl.1.symm) hown (ht_at hts 9 rfl) (ht_at hts 10 rfl) (ht_at hts 11 rfl) (ht_at hts 12 rfl) (Nat.le_of_ble_eq_true rfl) (Nat.le_of_ble_eq_true rfl) (Nat.le_of_ble_eq_true rfl) (Nat.le_of_ble_eq_true rfl) dX12_lifts_120 ?_
    refine lv_topi (fun x142 ex142 => ?_)
    have t143 : x142.toInt ≤ z114.toInt ∧ x142.toInt ≤ x141.toInt ∧ (x142.toInt = z114.toInt ∨ x142.toInt = x141.toInt) := mn_f ex142 rfl rfl
    refine lv_istore_n (lv' := [(3, .int x142), (5, .int r127), (4, .int r119), (0, .ref o0), (1, .int wk), (2, .int wi)]) hx hb dX12_lifts_123 rfl hl (by decide) rfl (fun ls hl => ?_)
    refine lv_aload_n hx hb dX12_lifts_124 rfl (lv_at hl 3 rfl) ?_
    refine lv_iload hx hb dX12_lifts_125 (lv_at hl 2 rfl) ?_
    refine lv_iload_n hx hb dX12_lifts_127 rfl (lv_at hl 0 rfl) ?_
    have hFc := gA_free hG hA hS
    refine va_calli (va_runV (As := [.int r119, .int x142]) (rest := []) ⟨hx, hb, hml, hown, hts⟩ (s_leaves l dC dI kA adK adV G H q wZ0 (lfN wN wU wV wk.toNatClampNeg) wH wB wC wL wK wU wV PI im PM PT lS lB lE lN o0 r119 x142 x141 x138 hT hr_o0 (by have q8 := ti_all r119; omega) (by have q8 := ti_all x142; omega) (by omega) (by have q9 := (show x138.toInt = x138.toInt from rfl); have := (show r119.toInt = r119.toInt from rfl); omega) m140 (by have q8 := ti_all x141; omega) (fun _ => Int.le_refl 0) t1 (by omega) (by omega) (by omega) (by omega) hgu) (cwV 2 hts (goodIn_app (goodIn_r _ [15, 16, 17, 6] rfl (by decide +kernel)) (goodIn_ca (goodIn_r _ [14, 2] rfl (by decide +kernel)) (bs_in _ _))) rfl rfl rfl (by decide +kernel) ⟨(Nat.le_of_ble_eq_true rfl), (Nat.le_of_ble_eq_true rfl)⟩) ⟨fun a U g mk q => by obtain ⟨q0, q1, qK, qE⟩ := q; exact ⟨q0, q1, va_K.moved (u := U) (U := U.calling g mk a) (Vm.Alike.refl U.vm) qK, EVS.blind g mk a qE⟩, gH_rc hK hT hr_o0 shm_0 rfl, fun U hU hW => ⟨rfl, hU, va_K.moved hW.alike hK, hE.call hS hFc hU hW⟩⟩ rfl rfl hl.1 rfl (lv_room (Nat.le_of_ble_eq_true rfl)) dX12_lifts_128 ⟨(Nat.le_of_ble_eq_true rfl), (Nat.le_of_ble_eq_true rfl)⟩) hS (fun q _ h => hFc q h) hFc (fun r144 u t H locs ht hvm hw145 hB _ _ hS => ?_)
    obtain ⟨hT, hF1⟩ := hB
    rw [ht] at hT hF1
    have hF := hF.more hF1 (by decide)
    try dsimp only at hw145
    refine lv_istore (lv' := [(6, .int r144), (3, .int x142), (5, .int r127), (4, .int r119), (0, .ref o0), (1, .int wk), (2, .int wi)]) hx hb dX12_lifts_131 hl (by decide) rfl (fun ls hl => ?_)
    refine lv_aload_n hx hb dX12_lifts_133 rfl (lv_at hl 4 rfl) ?_
    refine lv_iload hx hb dX12_lifts_134 (lv_at hl 2 rfl) ?_
    have hFc := gA_free hG hA hS
    refine va_calli (va_runV (As := [.int r127]) (rest := []) ⟨hx, hb, hml, hown, hts⟩ (s_isLand l dC dI kA adK adV G H q wZ0 (lfN wN wU wV wk.toNatClampNeg) wH wB wC wL wK wU wV PI im PM PT lS lB lE lN o0 r127 hT hr_o0 (by have q8 := ti_all r127; omega) (fun _ => Int.le_refl 0) t1 (by omega) (by omega) (by omega) (by omega) hgu) (cwV 1 hts (goodIn_app (goodIn_r _ [19, 20, 21, 6] rfl (by decide +kernel)) (goodIn_ca (goodIn_r _ [18, 2] rfl (by decide +kernel)) (bs_in _ _))) rfl rfl rfl (by decide +kernel) ⟨(Nat.le_of_ble_eq_true rfl), (Nat.le_of_ble_eq_true rfl)⟩) ⟨fun a U g mk q => by obtain ⟨q0, q1, qK, qE⟩ := q; exact ⟨q0, q1, va_K.moved (u := U) (U := U.calling g mk a) (Vm.Alike.refl U.vm) qK, EVS.blind g mk a qE⟩, gH_rc hK hT hr_o0 shm_0 rfl, fun U hU hW => ⟨rfl, hU, va_K.moved hW.alike hK, hE.call hS hFc hU hW⟩⟩ rfl rfl hl.1 rfl (lv_room (Nat.le_of_ble_eq_true rfl)) dX12_lifts_136 ⟨(Nat.le_of_ble_eq_true rfl), (Nat.le_of_ble_eq_true rfl)⟩) hS (fun q _ h => hFc q h) hFc (fun r151 u t H locs ht hvm hw152 hB _ _ hS => ?_)
    obtain ⟨hT, hF1⟩ := hB
    rw [ht] at hT hF1
    have hF := hF.more hF1 (by decide)
    try dsimp only at hw152
    obtain ⟨h153, hi154, hi155⟩ := hw152
    have jn184 : ∀ (H : Heap) (locs : List Loc), gH (dC, dI) kA (SHm q (wP wZ0 (lfN wN wU wV (wk.toNatClampNeg + 1)) wH wB wC wL wK wU wV) PI im PM PT lS lB lE lN) G H → gF (dC, dI) SKm G ([(2, 0)] : List (Nat × Nat)) s.heap H → va_S A s.heap H locs → ∀ ls : Array Slot, lv_has ls 7 [(6, .int r144), (3, .int x142), (5, .int r127), (4, .int r119), (0, .ref o0), (1, .int wk), (2, .int wi)] → W p l e (headSpec w_s_lifts ({ frames := 2, cells := 0, slots := 0, locals := 43 })).room s m #[.ref o0, .int wk, .int wi] below meth c H locs 0 0 (MQ below (va_Qv (fun (u : Unit) => True) (fun (_ : Unit) (t : State) => gH (dC, dI) kA (SHm q (wP wZ0 (lfN wN wU wV (wk.toNatClampNeg + 1)) wH wB wC wL wK wU wV) PI im PM PT lS lB lE lN) G t.heap ∧ gF (dC, dI) SKm G ([(2, 0)] : List (Nat × Nat)) s.heap t.heap) A) #[.ref o0, .int wk, .int wi] s 0 0 A) (F0 m 188 ls []) := by
      intro  H locs hT hF hS  ls hl
      have t185 : ∀ i, 6500000 ≤ lfN wN wU wV (wk.toNatClampNeg + 1) i ∧ lfN wN wU wV (wk.toNatClampNeg + 1) i ≤ 20200000 := fun i => by have q8 := hn2_ i; have q9 := lf_b wN wU wV (wk.toNatClampNeg + 1) i; omega
      refine lv_aload_n hx hb dX12_lifts_188 rfl (lv_at hl 4 rfl) ?_
      refine lv_iload_n hx hb dX12_lifts_189 rfl (lv_at hl 5 rfl) ?_
      refine lv_iload_n hx hb dX12_lifts_190 rfl (lv_at hl 1 rfl) ?_
      have hFc := gA_free hG hA hS
      refine va_callv (va_runV (As := [.int wk, .int x142]) (rest := []) ⟨hx, hb, hml, hown, hts⟩ (s_brings l dC dI kA adK adV G H q wZ0 (lfN wN wU wV (wk.toNatClampNeg + 1)) wH wB wC wL wK wU wV PI im PM PT lS lB lE lN o0 wk x142 hT hr_o0 (by have q8 := ti_all wk; omega) (fun _ => Int.le_refl 0) t185 (by omega) (by omega) (by omega) (by omega) hgu) (cwV 2 hts (goodIn_app (goodIn_r _ [23, 24, 25, 6] rfl (by decide +kernel)) (goodIn_ca (goodIn_r _ [22, 2, 3, 4, 5, 6] rfl (by decide +kernel)) (bs_in _ _))) rfl rfl rfl (by decide +kernel) ⟨(Nat.le_of_ble_eq_true rfl), (Nat.le_of_ble_eq_true rfl)⟩) ⟨fun a U g mk q => by obtain ⟨q0, q1, qK, qE⟩ := q; exact ⟨q0, q1, va_K.moved (u := U) (U := U.calling g mk a) (Vm.Alike.refl U.vm) qK, EVS.blind g mk a qE⟩, gH_rc hK hT hr_o0 shm_0 rfl, fun U hU hW => ⟨rfl, hU, va_K.moved hW.alike hK, hE.call hS hFc hU hW⟩⟩ rfl rfl hl.1 rfl (lv_room (Nat.le_of_ble_eq_true rfl)) dX12_lifts_191 ⟨(Nat.le_of_ble_eq_true rfl), (Nat.le_of_ble_eq_true rfl)⟩) hS (fun q _ h => hFc q h) hFc (fun u t H locs ht hvm hw187 hB _ _ hS => ?_)
      obtain ⟨hT, hF1⟩ := hB
      rw [ht] at hT hF1
      have hF := hF.more hF1 (by decide)
      try dsimp only at hw187
      exact W.vret hx hb hr (fun t ht hW => ⟨⟨(), rfl, (by exact trivial), by (try dsimp only); rw [ht]; exact ⟨hT, hF⟩⟩, hS.F ht⟩) hS.2.2 dX12_lifts_194
    refine lv_if_eq (tgt := 176) hx hb dX12_lifts_139 (by decide) (fun c188 => ?_) (fun c188 => ?_)
    · have t189 : r151.toInt = 0 := ti_eq c188 rfl (by decide)
      have t190 : ¬ wL r127.toNatClampNeg := hi155 c188
      have hT : gH (dC, dI) kA (SHm q (wP wZ0 (lfN wN wU wV (wk.toNatClampNeg + 1)) wH wB wC wL wK wU wV) PI im PM PT lS lB lE lN) G H := SHm_w hT (fun i hi x p => wP_mono hi (Int.le_refl _) (lf_m wN wU wV wk.toNatClampNeg i) (Int.le_refl _) (fun _ => rfl) p)
      have t191 : ∀ i, 6500000 ≤ lfN wN wU wV (wk.toNatClampNeg + 1) i ∧ lfN wN wU wV (wk.toNatClampNeg + 1) i ≤ 20200000 := fun i => by have q8 := hn2_ i; have q9 := lf_b wN wU wV (wk.toNatClampNeg + 1) i; omega
      refine lv_aload_n hx hb dX12_lifts_176 rfl (lv_at hl 4 rfl) ?_
      refine tw_get hx hb hts bF_X12 hown hK hT hr_o0 shm_0 rfl 1 (by decide) (ht_at hts 1 rfl) (fun _ h9 => h9) dX12_lifts_177 (fun v9 m192 h9 => ?_)
      obtain ⟨rfl, hg193⟩ := h9 _ rfl
      refine lv_sipush (v := 1747) hx hb dX12_lifts_180 (by decide) ?_
      refine lv_dup2_11 hx hb dX12_lifts_183 rfl rfl ?_
      refine tw_iald (i := 1747) hx hb hK hT hg7 shm_2 rfl (by unfold vp_in; decide) dX12_lifts_184 (fun v9 m194 h9 => ?_)
      obtain ⟨x195, rfl, gx195, kx195⟩ := (gp_at h9 (w_fre (by have q9 := tn_of (show (1747 : Int32).toInt = 1747 from (by decide)) (show (0 : Int) ≤ 1747 from by omega); omega)))
      refine lv_iload_n hx hb dX12_lifts_185 rfl (lv_at hl 1 rfl) ?_
      refine lv_iadd hx hb dX12_lifts_186 ?_
      refine lv_topi (fun x196 ex196 => ?_)
      refine tw_iast (i := 1747) (x := x196) hx hb hK hT hG hS hg7 shm_2 rfl (by unfold vp_in; decide) (gp_of (gi_all _) (w_fre (by have q9 := tn_of (show (1747 : Int32).toInt = 1747 from (by decide)) (show (0 : Int) ≤ 1747 from by omega); omega)) (wX_o (by have q9 := tn_of (show (1747 : Int32).toInt = 1747 from (by decide)) (show (0 : Int) ≤ 1747 from by omega); omega) (by omega))) dX12_lifts_187 (fun H locs hT oq m197 oi hS => ?_)
      have hF := hF.ast hg7 skm_2 oq (by decide)
      exact jn184 _ _ hT hF hS ls (lv_sub hl [0, 1, 2, 3, 4, 5, 6] rfl)
    · have t198 : r151.toInt ≠ 0 := ti_ne c188 rfl (by decide)
      have t199 : wL r127.toNatClampNeg := hi154 ((bit_of ⟨by omega, by omega⟩).resolve_left c188)
      refine lv_aload_n hx hb dX12_lifts_142 rfl (lv_at hl 4 rfl) ?_
      refine tw_get hx hb hts bF_X12 hown hK hT hr_o0 shm_0 rfl 1 (by decide) (ht_at hts 1 rfl) (fun _ h9 => h9) dX12_lifts_143 (fun v9 m200 h9 => ?_)
      obtain ⟨rfl, hg201⟩ := h9 _ rfl
      refine lv_sipush (v := 384) hx hb dX12_lifts_146 (by decide) ?_
      refine lv_iload hx hb dX12_lifts_149 (lv_at hl 2 rfl) ?_
      refine lv_iadd hx hb dX12_lifts_151 ?_
      refine lv_topi (fun x202 ex202 => ?_)
      have t203 : x202.toInt = 384 + r127.toInt := ti_add ex202 (by decide) rfl (by omega) (by omega)
      refine lv_dup2_11 hx hb dX12_lifts_152 rfl rfl ?_
      refine tw_iald (i := x202) hx hb hK hT hg7 shm_2 rfl (vin_t (a := x202.toInt) rfl (by omega) (by omega)) dX12_lifts_153 (fun v9 m204 h9 => ?_)
      obtain ⟨x205, rfl, gx205, kx205⟩ := (gw_at h9 (w_wat (by have q9 := tn_of (show x202.toInt = x202.toInt from rfl) (show (0 : Int) ≤ x202.toInt from by omega); omega)) t1 (fun _ => Int.le_refl 0))
      refine lv_iload_n hx hb dX12_lifts_154 rfl (lv_at hl 1 rfl) ?_
      refine lv_iadd hx hb dX12_lifts_155 ?_
      refine lv_topi (fun x206 ex206 => ?_)
      have t207 : x206.toInt = x205.toInt + x142.toInt := ti_add ex206 rfl rfl (by omega) (by omega)
      have t208 : ((x202.toNatClampNeg : Nat) : Int) = x202.toInt := tn_of (show x202.toInt = x202.toInt from rfl) (by omega)
      have t209 : lfN wN wU wV wk.toNatClampNeg x202.toNatClampNeg + 60 ≤ lfN wN wU wV (wk.toNatClampNeg + 1) x202.toNatClampNeg := lf_s hgw hw_ (by omega)
      refine tw_iast2 (Sg1 := (SHm q (wP wZ0 (lfN wN wU wV (wk.toNatClampNeg + 1)) wH wB wC wL wK wU wV) PI im PM PT lS lB lE lN)) (i := x202) (x := x206) hx hb hK hT hG hS hg7 shm_2 rfl shm_2 shm_o2 (fun b9 h9 => hgu b9 1 h9) (vin_t (a := x202.toInt) rfl (by omega) (by omega)) (gp_of (gi_of (show x206.toInt = x206.toInt from rfl) (by omega) (by omega)) (w_wat0 (by omega)) (wX_o (by omega) (by omega))) (fun k9 hk9 hne9 v9 hv9 he9 => by obtain ⟨x9, rfl, p9⟩ := he9; exact ⟨x9, rfl, wP_mono hk9 (Int.le_refl _) (lf_m wN wU wV wk.toNatClampNeg k9) (Int.le_refl _) (fun _ => rfl) p9⟩) dX12_lifts_156 (fun H locs hT oq m210 oi hS => ?_)
      have hF := hF.ast hg7 skm_2 oq (by decide)
      have t211 : ∀ i, 6500000 ≤ lfN wN wU wV (wk.toNatClampNeg + 1) i ∧ lfN wN wU wV (wk.toNatClampNeg + 1) i ≤ 20200000 := fun i => by have q8 := hn2_ i; have q9 := lf_b wN wU wV (wk.toNatClampNeg + 1) i; omega
      refine lv_aload_n hx hb dX12_lifts_157 rfl (lv_at hl 4 rfl) ?_
      refine tw_get hx hb hts bF_X12 hown hK hT hr_o0 shm_0 rfl 1 (by decide) (ht_at hts 1 rfl) (fun _ h9 => h9) dX12_lifts_158 (fun v9 m212 h9 => ?_)
      obtain ⟨rfl, hg213⟩ := h9 _ rfl
      refine lv_sipush (v := 480) hx hb dX12_lifts_161 (by decide) ?_
      refine lv_iload hx hb dX12_lifts_164 (lv_at hl 2 rfl) ?_
      refine lv_iadd hx hb dX12_lifts_166 ?_
      refine lv_topi (fun x214 ex214 => ?_)
      have t215 : x214.toInt = 480 + r127.toInt := ti_add ex214 (by decide) rfl (by omega) (by omega)
      refine lv_dup2_11 hx hb dX12_lifts_167 rfl rfl ?_
      refine tw_iald (i := x214) hx hb hK hT hg7 shm_2 rfl (vin_t (a := x214.toInt) rfl (by omega) (by omega)) dX12_lifts_168 (fun v9 m216 h9 => ?_)
      obtain ⟨x217, rfl, gx217, kx217⟩ := (gp_at h9 (w_fre (by have q9 := tn_of (show x214.toInt = x214.toInt from rfl) (show (0 : Int) ≤ x214.toInt from by omega); omega)))
      refine lv_iload hx hb dX12_lifts_169 (lv_at hl 0 rfl) ?_
      refine lv_iadd hx hb dX12_lifts_171 ?_
      refine lv_topi (fun x218 ex218 => ?_)
      refine tw_iast (i := x214) (x := x218) hx hb hK hT hG hS hg7 shm_2 rfl (vin_t (a := x214.toInt) rfl (by omega) (by omega)) (gp_of (gi_all _) (w_fre (by have q9 := tn_of (show x214.toInt = x214.toInt from rfl) (show (0 : Int) ≤ x214.toInt from by omega); omega)) (wX_o (by have q9 := tn_of (show x214.toInt = x214.toInt from rfl) (show (0 : Int) ≤ x214.toInt from by omega); omega) (by omega))) dX12_lifts_172 (fun H locs hT oq m219 oi hS => ?_)
      have hF := hF.ast hg7 skm_2 oq (by decide)
      refine lv_goto (tgt := 188) hx hb dX12_lifts_173 (by decide) ?_
      exact jn184 _ _ hT hF hS ls (lv_sub hl [0, 1, 2, 3, 4, 5, 6] rfl)
  refine lv_icmp_ne (tgt := 92) hx hb dX12_lifts_20 (by decide) (fun c221 => ?_) (fun c221 => ?_)
  · have t222 : r13.toInt ≠ 3 := ti_ne c221 rfl (by decide)
    exact jn118 x11 (by have q8 := ti_all x11; omega) _ _ hT hF hS m15 m18 ls (lv_sub hl [0, 1, 2, 3] rfl)
  · have t223 : r13.toInt = 3 := ti_eq c221 rfl (by decide)
    refine lv_aload_n hx hb dX12_lifts_23 rfl (lv_at hl 1 rfl) ?_
    refine lv_iload_n hx hb dX12_lifts_24 rfl (lv_at hl 2 rfl) ?_
    refine lv_bipush (v := 19) hx hb dX12_lifts_25 (by decide) ?_
    have hFc := gA_free hG hA hS
    refine va_calli (va_runV (As := [.int wk, .int 19]) (rest := []) ⟨hx, hb, hml, hown, hts⟩ (s_of19 l dC dI kA adK adV G H q wZ0 (lfN wN wU wV wk.toNatClampNeg) wH wB wC wL wK wU wV PI im PM PT lS lB lE lN o0 wk hT hr_o0 (by have q8 := ti_all wk; omega) (fun _ => Int.le_refl 0) t1 (by omega) (by omega) (by omega) (by omega) hgu) (cwV 2 hts (goodIn_app (goodIn_r _ [7, 8, 9, 6] rfl (by decide +kernel)) (goodIn_ca (goodIn_r _ [1, 2, 3, 4, 5, 6] rfl (by decide +kernel)) (bs_in _ _))) rfl rfl rfl (by decide +kernel) ⟨(Nat.le_of_ble_eq_true rfl), (Nat.le_of_ble_eq_true rfl)⟩) ⟨fun a U g mk q => by obtain ⟨q0, q1, qK, qE⟩ := q; exact ⟨q0, q1, va_K.moved (u := U) (U := U.calling g mk a) (Vm.Alike.refl U.vm) qK, EVS.blind g mk a qE⟩, gH_rc hK hT hr_o0 shm_0 rfl, fun U hU hW => ⟨rfl, hU, va_K.moved hW.alike hK, hE.call hS hFc hU hW⟩⟩ rfl rfl hl.1 rfl (lv_room (Nat.le_of_ble_eq_true rfl)) dX12_lifts_27 ⟨(Nat.le_of_ble_eq_true rfl), (Nat.le_of_ble_eq_true rfl)⟩) hS (fun q _ h => hFc q h) hFc (fun r224 u t H locs ht hvm hw225 hB _ _ hS => ?_)
    obtain ⟨hT, hF1⟩ := hB
    rw [ht] at hT hF1
    have m226 := (el_kept (hF1.arr hg7 skm_2 (by decide))).trans m15
    have m227 := (el_kept (hF1.arr hg7 skm_2 (by decide))).trans m18
    have hF := hF.more hF1 (by decide)
    try dsimp only at hw225
    have ⟨ix228, hix228, m229⟩ := hw225
    have m230 := (el_kept (hF1.arr hg7 skm_2 (by decide))).trans m229
    refine lv_iconst (v := 1) hx hb dX12_lifts_30 (by decide) ?_
    have jn247 : ∀ (z242 : Int32), ((0 ≤ z242.toInt ∧ z242.toInt ≤ 1)) → ∀ (H : Heap) (locs : List Loc), gH (dC, dI) kA (SHm q (wP wZ0 (lfN wN wU wV wk.toNatClampNeg) wH wB wC wL wK wU wV) PI im PM PT lS lB lE lN) G H → gF (dC, dI) SKm G ([(2, 0)] : List (Nat × Nat)) s.heap H → va_S A s.heap H locs → el H (q 1) ix5.toNatClampNeg = some (.int r2) → el H (q 1) ix16.toNatClampNeg = some (.int r13) → el H (q 1) ix228.toNatClampNeg = some (.int r224) → ∀ ls : Array Slot, lv_has ls 7 [(3, .int x11), (0, .ref o0), (1, .int wk), (2, .int wi)] → W p l e (headSpec w_s_lifts ({ frames := 2, cells := 0, slots := 0, locals := 43 })).room s m #[.ref o0, .int wk, .int wi] below meth c H locs 0 0 (MQ below (va_Qv (fun (u : Unit) => True) (fun (_ : Unit) (t : State) => gH (dC, dI) kA (SHm q (wP wZ0 (lfN wN wU wV (wk.toNatClampNeg + 1)) wH wB wC wL wK wU wV) PI im PM PT lS lB lE lN) G t.heap ∧ gF (dC, dI) SKm G ([(2, 0)] : List (Nat × Nat)) s.heap t.heap) A) #[.ref o0, .int wk, .int wi] s 0 0 A) (F0 m 49 ls [.int z242]) := by
      intro z242 h243 H locs hT hF hS m244 m245 m246 ls hl
      refine lv_istore (lv' := [(4, .int z242), (3, .int x11), (0, .ref o0), (1, .int wk), (2, .int wi)]) hx hb dX12_lifts_49 hl (by decide) rfl (fun ls hl => ?_)
      refine lv_aload_n hx hb dX12_lifts_51 rfl (lv_at hl 2 rfl) ?_
      refine tw_get hx hb hts bF_X12 hown hK hT hr_o0 shm_0 rfl 1 (by decide) (ht_at hts 1 rfl) (fun _ h9 => h9) dX12_lifts_52 (fun v9 m248 h9 => ?_)
      obtain ⟨rfl, hg249⟩ := h9 _ rfl
      refine lv_iload_n hx hb dX12_lifts_55 rfl (lv_at hl 3 rfl) ?_
      refine lv_bipush (v := 18) hx hb dX12_lifts_56 (by decide) ?_
      have hFc := gA_free hG hA hS
      refine va_calli (va_runS (As := [.int wk, .int 18]) (rest := [.ref (q 1)]) ⟨hx, hb, hml, hown, hts⟩ (s_at l dC dI kA adK adV G H q wZ0 (lfN wN wU wV wk.toNatClampNeg) wH wB wC wL wK wU wV PI im PM PT lS lB lE lN wk 18 hT (by have q8 := ti_all wk; omega) (rg_t (a := 18) (by decide) (by first | decide | omega) (by first | decide | omega)) (fun _ => Int.le_refl 0) t1 (by omega) (by omega) (by omega) (by omega) hgu) (va_cwS 2 hts (goodIn_app (goodIn_r _ [4, 5, 6] rfl (by decide +kernel)) (goodIn_ca (goodIn_r _ [3] rfl (by decide +kernel)) (bs_in _ _))) rfl rfl rfl (by decide +kernel) ⟨(Nat.le_of_ble_eq_true rfl), (Nat.le_of_ble_eq_true rfl)⟩) ⟨fun a U g mk q => by obtain ⟨q0, q1, qK, qE⟩ := q; exact ⟨q0, q1, va_K.moved (u := U) (U := U.calling g mk a) (Vm.Alike.refl U.vm) qK, EVS.blind g mk a qE⟩, fun U hU hW => ⟨rfl, hU, va_K.moved hW.alike hK, hE.call hS hFc hU hW⟩⟩ rfl rfl hl.1 rfl (lv_room (Nat.le_of_ble_eq_true rfl)) dX12_lifts_58 ⟨(Nat.le_of_ble_eq_true rfl), (Nat.le_of_ble_eq_true rfl)⟩) hS (fun q _ h => hFc q h) hFc (fun r250 u t H locs ht hvm hw251 hB _ _ hS => ?_)
      obtain ⟨hT, hF1⟩ := hB
      rw [ht] at hT hF1
      have m252 := (el_kept (hF1.arr hg7 skm_2 (by decide))).trans m244
      have m253 := (el_kept (hF1.arr hg7 skm_2 (by decide))).trans m245
      have m254 := (el_kept (hF1.arr hg7 skm_2 (by decide))).trans m246
      have hF := hF.more hF1 (by decide)
      try dsimp only at hw251
      obtain ⟨h255, hf256⟩ := hw251
      have t257 : (18 : Int32).toInt = 18 := by decide
      refine lv_dup2_11 hx hb dX12_lifts_61 rfl rfl ?_
      refine tw_iald (i := r250) hx hb hK hT hg7 shm_2 rfl (vin_t (a := r250.toInt) rfl (by omega) (by omega)) dX12_lifts_62 (fun v9 m258 h9 => ?_)
      obtain ⟨x259, rfl, gx259, kx259⟩ := (gp_at h9 (w_fre (by have q9 := tn_of (show r250.toInt = r250.toInt from rfl) (show (0 : Int) ≤ r250.toInt from by omega); omega)))
      refine lv_iload hx hb dX12_lifts_63 (lv_at hl 0 rfl) ?_
      have jn266 : ∀ (z260 : Int32), ((0 ≤ z260.toInt ∧ z260.toInt ≤ 1)) → ∀ (H : Heap) (locs : List Loc), gH (dC, dI) kA (SHm q (wP wZ0 (lfN wN wU wV wk.toNatClampNeg) wH wB wC wL wK wU wV) PI im PM PT lS lB lE lN) G H → gF (dC, dI) SKm G ([(2, 0)] : List (Nat × Nat)) s.heap H → va_S A s.heap H locs → el H (q 1) ix5.toNatClampNeg = some (.int r2) → el H (q 1) ix16.toNatClampNeg = some (.int r13) → el H (q 1) ix228.toNatClampNeg = some (.int r224) → el H (q 1) r250.toNatClampNeg = some (.int x259) → ∀ ls : Array Slot, lv_has ls 7 [(4, .int z242), (3, .int x11), (0, .ref o0), (1, .int wk), (2, .int wi)] → W p l e (headSpec w_s_lifts ({ frames := 2, cells := 0, slots := 0, locals := 43 })).room s m #[.ref o0, .int wk, .int wi] below meth c H locs 0 0 (MQ below (va_Qv (fun (u : Unit) => True) (fun (_ : Unit) (t : State) => gH (dC, dI) kA (SHm q (wP wZ0 (lfN wN wU wV (wk.toNatClampNeg + 1)) wH wB wC wL wK wU wV) PI im PM PT lS lB lE lN) G t.heap ∧ gF (dC, dI) SKm G ([(2, 0)] : List (Nat × Nat)) s.heap t.heap) A) #[.ref o0, .int wk, .int wi] s 0 0 A) (F0 m 73 ls [.int z260, .int x259, .int r250, .ref (q 1)]) := by
        intro z260 h261 H locs hT hF hS m262 m263 m264 m265 ls hl
        refine lv_isub hx hb dX12_lifts_73 ?_
        refine lv_topi (fun x267 ex267 => ?_)
        refine tw_iast (i := r250) (x := x267) hx hb hK hT hG hS hg7 shm_2 rfl (vin_t (a := r250.toInt) rfl (by omega) (by omega)) (gp_of (gi_all _) (w_fre (by have q9 := tn_of (show r250.toInt = r250.toInt from rfl) (show (0 : Int) ≤ r250.toInt from by omega); omega)) (wX_o (by have q9 := tn_of (show r250.toInt = r250.toInt from rfl) (show (0 : Int) ≤ r250.toInt from by omega); omega) (by omega))) dX12_lifts_74 (fun H locs hT oq m268 oi hS => ?_)
        have hF := hF.ast hg7 skm_2 oq (by decide)
        have m269 := (oi _ (tn_ne (show ix5.toInt = ix5.toInt from rfl) (show r250.toInt = r250.toInt from rfl) (by omega) (by omega) (by omega))).trans m262
        have m270 := (oi _ (tn_ne (show ix16.toInt = ix16.toInt from rfl) (show r250.toInt = r250.toInt from rfl) (by omega) (by omega) (by omega))).trans m263
        have m271 := (oi _ (tn_ne (show ix228.toInt = ix228.toInt from rfl) (show r250.toInt = r250.toInt from rfl) (by omega) (by omega) (by omega))).trans m264
        refine lv_iload hx hb dX12_lifts_75 (lv_at hl 0 rfl) ?_
        have jn288 : ∀ (z282 : Int32), ((0 ≤ z282.toInt ∧ z282.toInt ≤ 60)) → ∀ (H : Heap) (locs : List Loc), gH (dC, dI) kA (SHm q (wP wZ0 (lfN wN wU wV wk.toNatClampNeg) wH wB wC wL wK wU wV) PI im PM PT lS lB lE lN) G H → gF (dC, dI) SKm G ([(2, 0)] : List (Nat × Nat)) s.heap H → va_S A s.heap H locs → el H (q 1) ix5.toNatClampNeg = some (.int r2) → el H (q 1) ix16.toNatClampNeg = some (.int r13) → el H (q 1) ix228.toNatClampNeg = some (.int r224) → el H (q 1) r250.toNatClampNeg = some (.int x267) → ∀ ls : Array Slot, lv_has ls 7 [(4, .int z242), (3, .int x11), (0, .ref o0), (1, .int wk), (2, .int wi)] → W p l e (headSpec w_s_lifts ({ frames := 2, cells := 0, slots := 0, locals := 43 })).room s m #[.ref o0, .int wk, .int wi] below meth c H locs 0 0 (MQ below (va_Qv (fun (u : Unit) => True) (fun (_ : Unit) (t : State) => gH (dC, dI) kA (SHm q (wP wZ0 (lfN wN wU wV (wk.toNatClampNeg + 1)) wH wB wC wL wK wU wV) PI im PM PT lS lB lE lN) G t.heap ∧ gF (dC, dI) SKm G ([(2, 0)] : List (Nat × Nat)) s.heap t.heap) A) #[.ref o0, .int wk, .int wi] s 0 0 A) (F0 m 91 ls [.int z282]) := by
          intro z282 h283 H locs hT hF hS m284 m285 m286 m287 ls hl
          refine lv_istore_n (lv' := [(3, .int z282), (4, .int z242), (0, .ref o0), (1, .int wk), (2, .int wi)]) hx hb dX12_lifts_91 rfl hl (by decide) rfl (fun ls hl => ?_)
          exact jn118 z282 (by have q8 := ti_all z282; omega) _ _ hT hF hS m284 m285 ls (lv_sub hl [0, 2, 3, 4] rfl)
        refine lv_if_eq (tgt := 90) hx hb dX12_lifts_77 (by decide) (fun c289 => ?_) (fun c289 => ?_)
        · have t290 : z242.toInt = 0 := ti_eq c289 rfl (by decide)
          refine lv_iconst (v := 0) hx hb dX12_lifts_90 (by decide) ?_
          exact jn288 0 (rg_t (a := 0) (by decide) (by first | decide | omega) (by first | decide | omega)) _ _ hT hF hS m269 m270 m271 m268 ls (lv_sub hl [0, 1, 2, 3, 4] rfl)
        · have t291 : z242.toInt ≠ 0 := ti_ne c289 rfl (by decide)
          refine lv_aload_n hx hb dX12_lifts_80 rfl (lv_at hl 2 rfl) ?_
          refine lv_iload_n hx hb dX12_lifts_81 rfl (lv_at hl 3 rfl) ?_
          refine lv_bipush (v := 17) hx hb dX12_lifts_82 (by decide) ?_
          have hFc := gA_free hG hA hS
          refine va_calli (va_runV (As := [.int wk, .int 17]) (rest := []) ⟨hx, hb, hml, hown, hts⟩ (s_of17 l dC dI kA adK adV G H q wZ0 (lfN wN wU wV wk.toNatClampNeg) wH wB wC wL wK wU wV PI im PM PT lS lB lE lN o0 wk hT hr_o0 (by have q8 := ti_all wk; omega) (fun _ => Int.le_refl 0) t1 (by omega) (by omega) (by omega) (by omega) hgu) (cwV 2 hts (goodIn_app (goodIn_r _ [7, 8, 9, 6] rfl (by decide +kernel)) (goodIn_ca (goodIn_r _ [1, 2, 3, 4, 5, 6] rfl (by decide +kernel)) (bs_in _ _))) rfl rfl rfl (by decide +kernel) ⟨(Nat.le_of_ble_eq_true rfl), (Nat.le_of_ble_eq_true rfl)⟩) ⟨fun a U g mk q => by obtain ⟨q0, q1, qK, qE⟩ := q; exact ⟨q0, q1, va_K.moved (u := U) (U := U.calling g mk a) (Vm.Alike.refl U.vm) qK, EVS.blind g mk a qE⟩, gH_rc hK hT hr_o0 shm_0 rfl, fun U hU hW => ⟨rfl, hU, va_K.moved hW.alike hK, hE.call hS hFc hU hW⟩⟩ rfl rfl hl.1 rfl (lv_room (Nat.le_of_ble_eq_true rfl)) dX12_lifts_84 ⟨(Nat.le_of_ble_eq_true rfl), (Nat.le_of_ble_eq_true rfl)⟩) hS (fun q _ h => hFc q h) hFc (fun r292 u t H locs ht hvm hw293 hB _ _ hS => ?_)
          obtain ⟨hT, hF1⟩ := hB
          rw [ht] at hT hF1
          have m294 := (el_kept (hF1.arr hg7 skm_2 (by decide))).trans m269
          have m295 := (el_kept (hF1.arr hg7 skm_2 (by decide))).trans m270
          have m296 := (el_kept (hF1.arr hg7 skm_2 (by decide))).trans m271
          have m297 := (el_kept (hF1.arr hg7 skm_2 (by decide))).trans m268
          have hF := hF.more hF1 (by decide)
          try dsimp only at hw293
          obtain ⟨h298, ⟨ix299, hix299, m300⟩⟩ := hw293
          have m301 := (el_kept (hF1.arr hg7 skm_2 (by decide))).trans m300
          obtain rfl : r2 = r292 := (el_same m301 m294 (by have q8 := (show ix5.toInt = ix5.toInt from rfl); omega)).symm
          refine lv_goto (tgt := 91) hx hb dX12_lifts_87 (by decide) ?_
          exact jn288 r2 (by have q8 := ti_all r2; omega) _ _ hT hF hS m294 m295 m296 m297 ls (lv_sub hl [0, 1, 2, 3, 4] rfl)
      refine lv_if_eq (tgt := 72) hx hb dX12_lifts_65 (by decide) (fun c302 => ?_) (fun c302 => ?_)
      · have t303 : z242.toInt = 0 := ti_eq c302 rfl (by decide)
        refine lv_iconst (v := 0) hx hb dX12_lifts_72 (by decide) ?_
        exact jn266 0 (rg_t (a := 0) (by decide) (by first | decide | omega) (by first | decide | omega)) _ _ hT hF hS m252 m253 m254 m258 ls (lv_sub hl [0, 1, 2, 3, 4] rfl)
      · have t304 : z242.toInt ≠ 0 := ti_ne c302 rfl (by decide)
        refine lv_iconst (v := 1) hx hb dX12_lifts_68 (by decide) ?_
        refine lv_goto (tgt := 73) hx hb dX12_lifts_69 (by decide) ?_
        exact jn266 1 (rg_t (a := 1) (by decide) (by first | decide | omega) (by first | decide | omega)) _ _ hT hF hS m252 m253 m254 m258 ls (lv_sub hl [0, 1, 2, 3, 4] rfl)
    refine lv_icmp_ne (tgt := 48) hx hb dX12_lifts_31 (by decide) (fun c305 => ?_) (fun c305 => ?_)
    · have t306 : r224.toInt ≠ 1 := ti_ne c305 rfl (by decide)
      refine lv_iconst (v := 0) hx hb dX12_lifts_48 (by decide) ?_
      exact jn247 0 (rg_t (a := 0) (by decide) (by first | decide | omega) (by first | decide | omega)) _ _ hT hF hS m226 m227 m230 ls (lv_sub hl [0, 1, 2, 3] rfl)
    · have t307 : r224.toInt = 1 := ti_eq c305 rfl (by decide)
      refine lv_aload_n hx hb dX12_lifts_34 rfl (lv_at hl 1 rfl) ?_
      refine lv_iload_n hx hb dX12_lifts_35 rfl (lv_at hl 2 rfl) ?_
      refine lv_bipush (v := 18) hx hb dX12_lifts_36 (by decide) ?_
      have hFc := gA_free hG hA hS
      refine va_calli (va_runV (As := [.int wk, .int 18]) (rest := []) ⟨hx, hb, hml, hown, hts⟩ (s_of18 l dC dI kA adK adV G H q wZ0 (lfN wN wU wV wk.toNatClampNeg) wH wB wC wL wK wU wV PI im PM PT lS lB lE lN o0 wk hT hr_o0 (by have q8 := ti_all wk; omega) (fun _ => Int.le_refl 0) t1 (by omega) (by omega) (by omega) (by omega) hgu) (cwV 2 hts (goodIn_app (goodIn_r _ [7, 8, 9, 6] rfl (by decide +kernel)) (goodIn_ca (goodIn_r _ [1, 2, 3, 4, 5, 6] rfl (by decide +kernel)) (bs_in _ _))) rfl rfl rfl (by decide +kernel) ⟨(Nat.le_of_ble_eq_true rfl), (Nat.le_of_ble_eq_true rfl)⟩) ⟨fun a U g mk q => by obtain ⟨q0, q1, qK, qE⟩ := q; exact ⟨q0, q1, va_K.moved (u := U) (U := U.calling g mk a) (Vm.Alike.refl U.vm) qK, EVS.blind g mk a qE⟩, gH_rc hK hT hr_o0 shm_0 rfl, fun U hU hW => ⟨rfl, hU, va_K.moved hW.alike hK, hE.call hS hFc hU hW⟩⟩ rfl rfl hl.1 rfl (lv_room (Nat.le_of_ble_eq_true rfl)) dX12_lifts_38 ⟨(Nat.le_of_ble_eq_true rfl), (Nat.le_of_ble_eq_true rfl)⟩) hS (fun q _ h => hFc q h) hFc (fun r308 u t H locs ht hvm hw309 hB _ _ hS => ?_)
      obtain ⟨hT, hF1⟩ := hB
      rw [ht] at hT hF1
      have m310 := (el_kept (hF1.arr hg7 skm_2 (by decide))).trans m226
      have m311 := (el_kept (hF1.arr hg7 skm_2 (by decide))).trans m227
      have m312 := (el_kept (hF1.arr hg7 skm_2 (by decide))).trans m230
      have hF := hF.more hF1 (by decide)
      try dsimp only at hw309
      have ⟨ix313, hix313, m314⟩ := hw309
      refine lv_if_le (tgt := 48) hx hb dX12_lifts_41 (by decide) (fun c316 => ?_) (fun c316 => ?_)
      · have t317 : r308.toInt ≤ 0 := ti_le c316 rfl (by decide)
        refine lv_iconst (v := 0) hx hb dX12_lifts_48 (by decide) ?_
        exact jn247 0 (rg_t (a := 0) (by decide) (by first | decide | omega) (by first | decide | omega)) _ _ hT hF hS m310 m311 m312 ls (lv_sub hl [0, 1, 2, 3] rfl)
      · have t318 : 0 < r308.toInt := ti_nle c316 rfl (by decide)
        refine lv_iconst (v := 1) hx hb dX12_lifts_44 (by decide) ?_
        refine lv_goto (tgt := 49) hx hb dX12_lifts_45 (by decide) ?_
        exact jn247 1 (rg_t (a := 1) (by decide) (by first | decide | omega) (by first | decide | omega)) _ _ hT hF hS m310 m311 m312 ls (lv_sub hl [0, 1, 2, 3] rfl)
