def w_s_sluices : List Cond := .code yX12_sluices cX12_sluices 6 none :: (HAppend.hAppend (α := List Cond) (β := List Cond) (γ := List Cond) [.code yX12_of cX12_of 3 (some .int), .fieldLink RX12 9 "SeaLandModel" "world" "[I", .code yX12_at cX12_at 2 (some .int), .methodLink RX12 214 yX12_at, .static yX12_at, .initialized RX12, .methodLink RX12 217 yX12_of, .instanceMethod yX12_of, .selects RX12 yX12_of yX12_of, .code yX12_level cX12_level 2 (some .int), .code yX12_isLand cX12_isLand 2 (some .boolean), .methodLink RX12 235 yX12_isLand, .instanceMethod yX12_isLand, .selects RX12 yX12_isLand yX12_isLand, .methodLink RX12 285 yX12_level, .instanceMethod yX12_level, .selects RX12 yX12_level yX12_level, .methodLink RX12 207 Lib.Math.min.name, .static Lib.Math.min.name, .initialized "java/lang/Math", .code Lib.Math.min.name Lib.Math.min.code 2 (some .int), .code yX12_leaves cX12_leaves 4 (some .int), .methodLink RX12 291 yX12_leaves, .instanceMethod yX12_leaves, .selects RX12 yX12_leaves yX12_leaves, .code yX12_brings cX12_brings 3 none, .methodLink RX12 294 yX12_brings, .instanceMethod yX12_brings, .selects RX12 yX12_brings yX12_brings] bs)
set_option maxHeartbeats 4000000 in
set_option maxRecDepth 100000 in
theorem s_sluices (l : Launch) (dC : Nat → ClassId) (dI : Nat → Nat → Nat) (kA : Nat → ClassId) (adK adV : Nat → Nat) (G : gT) (H0 : Heap) (q : Nat → Nat) (wZ wN : Nat → Int) (wH wB wC : Int) (wL wK : Nat → Prop) (wU wV : Nat → Nat) (PI : Nat → Int → Prop) (im : Int) (PM PT : Nat → Int → Prop) (lS lB lE : Nat → Nat → Int → Prop) (lN : Nat → Int) (o0 : Nat) (wk : Int32) (ou : Int32)  (hT : gH (dC, dI) kA (SHm q (wP wZ0 wN wH wB wC wL wK wU wV) PI im PM PT lS lB lE lN) G H0) (hr_o0 : G o0 = some 0) (hq0 : 0 ≤ wk.toInt ∧ wk.toInt ≤ 29) (hq1 : -400 ≤ ou.toInt ∧ ou.toInt ≤ 10400) (hc_ : wk.toInt < wC) (hgw : wG wC wL wK wU wV) (hgz : ∀ i, 0 ≤ wZ i) (hgn : ∀ i, 6500000 ≤ wN i ∧ wN i ≤ 20200000) (hgh : 0 ≤ wH ∧ wH ≤ 40000) (hgb : 0 ≤ wB ∧ wB ≤ 3850000) (hgc : 0 ≤ wC ∧ wC ≤ 30) (hgi : 0 ≤ im ∧ im ≤ 1) (hgu : ∀ a t, G a = some (t + 1) → a = q t) : Met l yX12_sluices w_s_sluices ({ frames := 2, cells := 0, slots := 0, locals := 43 }) (va_Pc [.ref o0, .int wk, .int ou] (fun U => U.heap = H0 ∧ va_K (dC, dI) vwCl (tyl kA) U ∧ EVS adK adV (gA G H0.size) U U.heap)) (va_Qv (fun (u : Unit) => True) (fun (_ : Unit) (t : State) => gH (dC, dI) kA (SHm q (wP wZ0 wN wH wB wC wL wK wU wV) PI im PM PT lS lB lE lN) G t.heap ∧ gF (dC, dI) SKm G ([(2, 0)] : List (Nat × Nat)) H0 t.heap) (gA G H0.size)) 0 0 (gA G H0.size) := by
  refine Met.ofW (cc := cX12_sluices) (maxL := 6) (ret := none) (by decide) rfl ?_
  intro p e s m args below meth c s₁ B hml hv
  obtain ⟨rfl, hH0, hK, hE⟩ := hv
  have hx := B.exec
  have hb := B.bytes
  have hr := B.returns
  have hts := atoms_spec (ws := w_s_sluices) B.pre
  have hown : s.vm.findClass RX12 = some m.cls := findClass_of_methodNamed B.named
  have hlocks := B.notSynchronized
  subst hH0
  generalize hAe : gA G s.heap.size = A at hE ⊢
  have hA : ∀ q : Nat, s.heap.size ≤ q → A q := fun q h => by rw [← hAe]; exact Or.inr h
  have hG := gA_of hAe
  have hS : va_S A s.heap s.heap [] := va_S.rf
  have hF : gF (dC, dI) SKm G ([(2, 0)] : List (Nat × Nat)) s.heap s.heap := gF.rf
  have hl := lv_entry ([.ref o0, .int wk, .int ou]) (n := 6) (Nat.le_of_ble_eq_true rfl)
  rw [lg_entry_eq]
  generalize (lg_sl ([.ref o0, .int wk, .int ou]) ++ List.replicate (6 - (lg_sl ([.ref o0, .int wk, .int ou])).length) Slot.unset).toArray = ls at hl ⊢
  have hl : lv_has ls 6 [(0, .ref o0), (1, .int wk), (2, .int ou)] := hl
  refine lv_aload_n hx hb dX12_sluices_0 rfl (lv_at hl 0 rfl) ?_
  refine lv_iload_n hx hb dX12_sluices_1 rfl (lv_at hl 1 rfl) ?_
  refine lv_iconst (v := 1) hx hb dX12_sluices_2 (by decide) ?_
  have hFc := gA_free hG hA hS
  refine va_calli (va_runV (As := [.int wk, .int 1]) (rest := []) ⟨hx, hb, hml, hown, hts⟩ (s_of1 l dC dI kA adK adV G s.heap q wZ0 wN wH wB wC wL wK wU wV PI im PM PT lS lB lE lN o0 wk hT hr_o0 (by have q8 := ti_all wk; omega) (fun _ => Int.le_refl 0) hgn hgh hgb hgc hgi hgu) (cwV 2 hts (goodIn_app (goodIn_r _ [7, 8, 9, 6] rfl (by decide +kernel)) (goodIn_ca (goodIn_r _ [1, 2, 3, 4, 5, 6] rfl (by decide +kernel)) (bs_in _ _))) rfl rfl rfl (by decide +kernel) ⟨(Nat.le_of_ble_eq_true rfl), (Nat.le_of_ble_eq_true rfl)⟩) ⟨fun a U g mk q => by obtain ⟨q0, q1, qK, qE⟩ := q; exact ⟨q0, q1, va_K.moved (u := U) (U := U.calling g mk a) (Vm.Alike.refl U.vm) qK, EVS.blind g mk a qE⟩, gH_rc hK hT hr_o0 shm_0 rfl, fun U hU hW => ⟨rfl, hU, va_K.moved hW.alike hK, hE.call hS hFc hU hW⟩⟩ rfl rfl hl.1 rfl (lv_room (Nat.le_of_ble_eq_true rfl)) dX12_sluices_3 ⟨(Nat.le_of_ble_eq_true rfl), (Nat.le_of_ble_eq_true rfl)⟩) hS (fun q _ h => hFc q h) hFc (fun r1 u t H locs ht hvm hw2 hB _ _ hS => ?_)
  obtain ⟨hT, hF1⟩ := hB
  rw [ht] at hT hF1
  have hF := hF.more hF1 (by decide)
  try dsimp only at hw2
  obtain ⟨h3, ⟨ix4, hix4, m5⟩⟩ := hw2
  have hg6 : G (q 1) = some 2 := gx_of hT hr_o0 shm_0 (k := 1) (by decide) rfl
  have m7 := (el_kept (hF1.arr hg6 skm_2 (by decide))).trans m5
  refine lv_istore_n (lv' := [(3, .int r1), (0, .ref o0), (1, .int wk), (2, .int ou)]) hx hb dX12_sluices_6 rfl hl (by decide) rfl (fun ls hl => ?_)
  have hw_ : ((wk.toNatClampNeg : Nat) : Int) < wC := by have q9 := tn_of (i := wk) rfl (by omega); omega
  have hlt_ : wL r1.toNatClampNeg := wG_sq hgw hw_ (wU_of hT hg6 (show ix4.toInt = 769 + 22 * wk.toInt from by have q9 := (show ix4.toInt = ix4.toInt from rfl); omega) (by omega) hc_ (by omega) m7)
  obtain ⟨x8, ex8⟩ : ∃ y : Int32, y = (96 : Int32) + r1 := ⟨_, rfl⟩
  have t9 : x8.toInt = 96 + r1.toInt := ti_add ex8 (by decide) rfl (by omega) (by omega)
  obtain ⟨v9, m10, h9⟩ := gH_el (i := x8.toNatClampNeg) hT hg6 shm_2 (by have q9 := tn_of (show x8.toInt = x8.toInt from rfl) (by omega); omega)
  obtain ⟨x11, rfl, gx11, kx11⟩ := (gp_at h9 (w_hgt (by have q9 := tn_of (show x8.toInt = x8.toInt from rfl) (show (0 : Int) ≤ x8.toInt from by omega); omega)))
  obtain ⟨x12, ex12⟩ : ∃ y : Int32, y = (384 : Int32) + r1 := ⟨_, rfl⟩
  have t13 : x12.toInt = 384 + r1.toInt := ti_add ex12 (by decide) rfl (by omega) (by omega)
  obtain ⟨v9, m14, h9⟩ := gH_el (i := x12.toNatClampNeg) hT hg6 shm_2 (by have q9 := tn_of (show x12.toInt = x12.toInt from rfl) (by omega); omega)
  obtain ⟨x15, rfl, gx15, kx15⟩ := (gw_at h9 (w_wat (by have q9 := tn_of (show x12.toInt = x12.toInt from rfl) (show (0 : Int) ≤ x12.toInt from by omega); omega)) hgn (fun _ => Int.le_refl 0))
  refine lv_iconst (v := 0) hx hb dX12_sluices_7 (by decide) ?_
  refine lv_istore (lv' := [(4, .int 0), (3, .int r1), (0, .ref o0), (1, .int wk), (2, .int ou)]) hx hb dX12_sluices_8 hl (by decide) rfl (fun ls hl => ?_)
  refine lv_aload_n hx hb dX12_sluices_10 rfl (lv_at hl 2 rfl) ?_
  refine lv_iload_n hx hb dX12_sluices_11 rfl (lv_at hl 3 rfl) ?_
  refine lv_bipush (v := 19) hx hb dX12_sluices_12 (by decide) ?_
  have hFc := gA_free hG hA hS
  refine va_calli (va_runV (As := [.int wk, .int 19]) (rest := []) ⟨hx, hb, hml, hown, hts⟩ (s_of19 l dC dI kA adK adV G H q wZ0 wN wH wB wC wL wK wU wV PI im PM PT lS lB lE lN o0 wk hT hr_o0 (by have q8 := ti_all wk; omega) (fun _ => Int.le_refl 0) hgn hgh hgb hgc hgi hgu) (cwV 2 hts (goodIn_app (goodIn_r _ [7, 8, 9, 6] rfl (by decide +kernel)) (goodIn_ca (goodIn_r _ [1, 2, 3, 4, 5, 6] rfl (by decide +kernel)) (bs_in _ _))) rfl rfl rfl (by decide +kernel) ⟨(Nat.le_of_ble_eq_true rfl), (Nat.le_of_ble_eq_true rfl)⟩) ⟨fun a U g mk q => by obtain ⟨q0, q1, qK, qE⟩ := q; exact ⟨q0, q1, va_K.moved (u := U) (U := U.calling g mk a) (Vm.Alike.refl U.vm) qK, EVS.blind g mk a qE⟩, gH_rc hK hT hr_o0 shm_0 rfl, fun U hU hW => ⟨rfl, hU, va_K.moved hW.alike hK, hE.call hS hFc hU hW⟩⟩ rfl rfl hl.1 rfl (lv_room (Nat.le_of_ble_eq_true rfl)) dX12_sluices_14 ⟨(Nat.le_of_ble_eq_true rfl), (Nat.le_of_ble_eq_true rfl)⟩) hS (fun q _ h => hFc q h) hFc (fun r16 u t H locs ht hvm hw17 hB _ _ hS => ?_)
  obtain ⟨hT, hF1⟩ := hB
  rw [ht] at hT hF1
  have m18 := (el_kept (hF1.arr hg6 skm_2 (by decide))).trans m7
  have m19 := (el_kept (hF1.arr hg6 skm_2 (by decide))).trans m10
  have m20 := (el_kept (hF1.arr hg6 skm_2 (by decide))).trans m14
  have hF := hF.more hF1 (by decide)
  try dsimp only at hw17
  have ⟨ix21, hix21, m22⟩ := hw17
  have m23 := (el_kept (hF1.arr hg6 skm_2 (by decide))).trans m22
  refine lv_iconst (v := 1) hx hb dX12_sluices_17 (by decide) ?_
  have jn75 : ∀ (z68 : Int32), ((0 ≤ z68.toInt ∧ z68.toInt ≤ 20200000) ∧ (z68.toInt ≤ x15.toInt)) → ∀ (H : Heap) (locs : List Loc), gH (dC, dI) kA (SHm q (wP wZ0 wN wH wB wC wL wK wU wV) PI im PM PT lS lB lE lN) G H → gF (dC, dI) SKm G ([(2, 0)] : List (Nat × Nat)) s.heap H → va_S A s.heap H locs → el H (q 1) ix4.toNatClampNeg = some (.int r1) → el H (q 1) x8.toNatClampNeg = some (.int x11) → el H (q 1) x12.toNatClampNeg = some (.int x15) → el H (q 1) ix21.toNatClampNeg = some (.int r16) → ∀ ls : Array Slot, lv_has ls 6 [(4, .int z68), (3, .int r1), (0, .ref o0), (1, .int wk), (2, .int ou)] → W p l e (headSpec w_s_sluices ({ frames := 2, cells := 0, slots := 0, locals := 43 })).room s m #[.ref o0, .int wk, .int ou] below meth c H locs 0 0 (MQ below (va_Qv (fun (u : Unit) => True) (fun (_ : Unit) (t : State) => gH (dC, dI) kA (SHm q (wP wZ0 wN wH wB wC wL wK wU wV) PI im PM PT lS lB lE lN) G t.heap ∧ gF (dC, dI) SKm G ([(2, 0)] : List (Nat × Nat)) s.heap t.heap) A) #[.ref o0, .int wk, .int ou] s 0 0 A) (F0 m 64 ls []) := by
    intro z68 ⟨h69, hj74⟩ H locs hT hF hS m70 m71 m72 m73 ls hl
    refine lv_aload_n hx hb dX12_sluices_64 rfl (lv_at hl 2 rfl) ?_
    refine lv_iload_n hx hb dX12_sluices_65 rfl (lv_at hl 1 rfl) ?_
    refine lv_iload hx hb dX12_sluices_66 (lv_at hl 0 rfl) ?_
    have hFc := gA_free hG hA hS
    refine va_calli (va_runV (As := [.int r1, .int z68]) (rest := []) ⟨hx, hb, hml, hown, hts⟩ (s_leaves l dC dI kA adK adV G H q wZ0 wN wH wB wC wL wK wU wV PI im PM PT lS lB lE lN o0 r1 z68 x15 x12 hT hr_o0 (by have q8 := ti_all r1; omega) (by have q8 := ti_all z68; omega) (by omega) (by have q9 := (show x12.toInt = x12.toInt from rfl); have := (show r1.toInt = r1.toInt from rfl); omega) m72 (by have q8 := ti_all x15; omega) (fun _ => Int.le_refl 0) hgn hgh hgb hgc hgi hgu) (cwV 2 hts (goodIn_app (goodIn_r _ [23, 24, 25, 6] rfl (by decide +kernel)) (goodIn_ca (goodIn_r _ [22, 2] rfl (by decide +kernel)) (bs_in _ _))) rfl rfl rfl (by decide +kernel) ⟨(Nat.le_of_ble_eq_true rfl), (Nat.le_of_ble_eq_true rfl)⟩) ⟨fun a U g mk q => by obtain ⟨q0, q1, qK, qE⟩ := q; exact ⟨q0, q1, va_K.moved (u := U) (U := U.calling g mk a) (Vm.Alike.refl U.vm) qK, EVS.blind g mk a qE⟩, gH_rc hK hT hr_o0 shm_0 rfl, fun U hU hW => ⟨rfl, hU, va_K.moved hW.alike hK, hE.call hS hFc hU hW⟩⟩ rfl rfl hl.1 rfl (lv_room (Nat.le_of_ble_eq_true rfl)) dX12_sluices_68 ⟨(Nat.le_of_ble_eq_true rfl), (Nat.le_of_ble_eq_true rfl)⟩) hS (fun q _ h => hFc q h) hFc (fun r76 u t H locs ht hvm hw77 hB _ _ hS => ?_)
    obtain ⟨hT, hF1⟩ := hB
    rw [ht] at hT hF1
    have hF := hF.more hF1 (by decide)
    try dsimp only at hw77
    refine lv_istore (lv' := [(5, .int r76), (4, .int z68), (3, .int r1), (0, .ref o0), (1, .int wk), (2, .int ou)]) hx hb dX12_sluices_71 hl (by decide) rfl (fun ls hl => ?_)
    refine lv_aload_n hx hb dX12_sluices_73 rfl (lv_at hl 3 rfl) ?_
    refine tw_get hx hb hts bF_X12 hown hK hT hr_o0 shm_0 rfl 1 (by decide) (ht_at hts 1 rfl) (fun _ h9 => h9) dX12_sluices_74 (fun v9 m82 h9 => ?_)
    obtain ⟨rfl, hg83⟩ := h9 _ rfl
    refine lv_sipush (v := 1747) hx hb dX12_sluices_77 (by decide) ?_
    refine lv_dup2_11 hx hb dX12_sluices_80 rfl rfl ?_
    refine tw_iald (i := 1747) hx hb hK hT hg6 shm_2 rfl (by unfold vp_in; decide) dX12_sluices_81 (fun v9 m84 h9 => ?_)
    obtain ⟨x85, rfl, gx85, kx85⟩ := (gp_at h9 (w_fre (by have q9 := tn_of (show (1747 : Int32).toInt = 1747 from (by decide)) (show (0 : Int) ≤ 1747 from by omega); omega)))
    refine lv_iload hx hb dX12_sluices_82 (lv_at hl 1 rfl) ?_
    refine lv_iadd hx hb dX12_sluices_84 ?_
    refine lv_topi (fun x86 ex86 => ?_)
    refine tw_iast (i := 1747) (x := x86) hx hb hK hT hG hS hg6 shm_2 rfl (by unfold vp_in; decide) (gp_of (gi_all _) (w_fre (by have q9 := tn_of (show (1747 : Int32).toInt = 1747 from (by decide)) (show (0 : Int) ≤ 1747 from by omega); omega)) (wX_o (by have q9 := tn_of (show (1747 : Int32).toInt = 1747 from (by decide)) (show (0 : Int) ≤ 1747 from by omega); omega) (by omega))) dX12_sluices_85 (fun H locs hT oq m87 oi hS => ?_)
    have hF := hF.ast hg6 skm_2 oq (by decide)
    refine lv_aload_n hx hb dX12_sluices_86 rfl (lv_at hl 3 rfl) ?_
    refine lv_iload_n hx hb dX12_sluices_87 rfl (lv_at hl 4 rfl) ?_
    refine lv_iload hx hb dX12_sluices_88 (lv_at hl 1 rfl) ?_
    have hFc := gA_free hG hA hS
    refine va_callv (va_runV (As := [.int wk, .int z68]) (rest := []) ⟨hx, hb, hml, hown, hts⟩ (s_brings l dC dI kA adK adV G H q wZ0 wN wH wB wC wL wK wU wV PI im PM PT lS lB lE lN o0 wk z68 hT hr_o0 (by have q8 := ti_all wk; omega) (fun _ => Int.le_refl 0) hgn hgh hgb hgc hgi hgu) (cwV 2 hts (goodIn_app (goodIn_r _ [27, 28, 29, 6] rfl (by decide +kernel)) (goodIn_ca (goodIn_r _ [26, 2, 3, 4, 5, 6] rfl (by decide +kernel)) (bs_in _ _))) rfl rfl rfl (by decide +kernel) ⟨(Nat.le_of_ble_eq_true rfl), (Nat.le_of_ble_eq_true rfl)⟩) ⟨fun a U g mk q => by obtain ⟨q0, q1, qK, qE⟩ := q; exact ⟨q0, q1, va_K.moved (u := U) (U := U.calling g mk a) (Vm.Alike.refl U.vm) qK, EVS.blind g mk a qE⟩, gH_rc hK hT hr_o0 shm_0 rfl, fun U hU hW => ⟨rfl, hU, va_K.moved hW.alike hK, hE.call hS hFc hU hW⟩⟩ rfl rfl hl.1 rfl (lv_room (Nat.le_of_ble_eq_true rfl)) dX12_sluices_90 ⟨(Nat.le_of_ble_eq_true rfl), (Nat.le_of_ble_eq_true rfl)⟩) hS (fun q _ h => hFc q h) hFc (fun u t H locs ht hvm hw89 hB _ _ hS => ?_)
    obtain ⟨hT, hF1⟩ := hB
    rw [ht] at hT hF1
    have hF := hF.more hF1 (by decide)
    try dsimp only at hw89
    exact W.vret hx hb hr (fun t ht hW => ⟨⟨(), rfl, (by exact trivial), by (try dsimp only); rw [ht]; exact ⟨hT, hF⟩⟩, hS.F ht⟩) hS.2.2 dX12_sluices_93
  refine lv_icmp_ne (tgt := 64) hx hb dX12_sluices_18 (by decide) (fun c91 => ?_) (fun c91 => ?_)
  · have t92 : r16.toInt ≠ 1 := ti_ne c91 rfl (by decide)
    exact jn75 0 ⟨(by have q9 := (show (0 : Int32).toInt = 0 from (by decide)); (try have q8 := ti_all (0 : Int32)); omega), (by have q9 := (show (0 : Int32).toInt = 0 from (by decide)); omega)⟩ _ _ hT hF hS m18 m19 m20 m23 ls (lv_sub hl [0, 1, 2, 3, 4] rfl)
  · have t93 : r16.toInt = 1 := ti_eq c91 rfl (by decide)
    refine lv_iload_n hx hb dX12_sluices_21 rfl (lv_at hl 4 rfl) ?_
    refine lv_aload_n hx hb dX12_sluices_22 rfl (lv_at hl 2 rfl) ?_
    refine lv_iload_n hx hb dX12_sluices_23 rfl (lv_at hl 1 rfl) ?_
    have hFc := gA_free hG hA hS
    refine va_calli (va_runV (As := [.int r1]) (rest := [.int ou]) ⟨hx, hb, hml, hown, hts⟩ (s_levelL l dC dI kA adK adV G H q wZ0 wN wH wB wC wL wK wU wV PI im PM PT lS lB lE lN o0 r1 x11 x8 x15 x12 hT hr_o0 (by have q8 := ti_all r1; omega) hlt_ (by have q9 := (show x8.toInt = x8.toInt from rfl); have := (show r1.toInt = r1.toInt from rfl); omega) m19 (by have q8 := ti_all x11; omega) (by have q9 := (show x12.toInt = x12.toInt from rfl); have := (show r1.toInt = r1.toInt from rfl); omega) m20 (by have q8 := ti_all x15; omega) (fun _ => Int.le_refl 0) hgn hgh hgb hgc hgi hgu) (cwV 1 hts (goodIn_app (goodIn_r _ [15, 16, 17, 6] rfl (by decide +kernel)) (goodIn_ca (goodIn_r _ [10, 11, 2, 12, 13, 14, 6] rfl (by decide +kernel)) (bs_in _ _))) rfl rfl rfl (by decide +kernel) ⟨(Nat.le_of_ble_eq_true rfl), (Nat.le_of_ble_eq_true rfl)⟩) ⟨fun a U g mk q => by obtain ⟨q0, q1, qK, qE⟩ := q; exact ⟨q0, q1, va_K.moved (u := U) (U := U.calling g mk a) (Vm.Alike.refl U.vm) qK, EVS.blind g mk a qE⟩, gH_rc hK hT hr_o0 shm_0 rfl, fun U hU hW => ⟨rfl, hU, va_K.moved hW.alike hK, hE.call hS hFc hU hW⟩⟩ rfl rfl hl.1 rfl (lv_room (Nat.le_of_ble_eq_true rfl)) dX12_sluices_24 ⟨(Nat.le_of_ble_eq_true rfl), (Nat.le_of_ble_eq_true rfl)⟩) hS (fun q _ h => hFc q h) hFc (fun r94 u t H locs ht hvm hw95 hB _ _ hS => ?_)
    obtain ⟨hT, hF1⟩ := hB
    rw [ht] at hT hF1
    have m96 := (el_kept (hF1.arr hg6 skm_2 (by decide))).trans m18
    have m97 := (el_kept (hF1.arr hg6 skm_2 (by decide))).trans m19
    have m98 := (el_kept (hF1.arr hg6 skm_2 (by decide))).trans m20
    have m99 := (el_kept (hF1.arr hg6 skm_2 (by decide))).trans m23
    have hF := hF.more hF1 (by decide)
    try dsimp only at hw95
    obtain ⟨h100, hf101⟩ := hw95
    refine lv_icmp_ge (tgt := 64) hx hb dX12_sluices_27 (by decide) (fun c102 => ?_) (fun c102 => ?_)
    · have t103 : r94.toInt ≤ ou.toInt := ti_le c102 rfl rfl
      exact jn75 0 ⟨(by have q9 := (show (0 : Int32).toInt = 0 from (by decide)); (try have q8 := ti_all (0 : Int32)); omega), (by have q9 := (show (0 : Int32).toInt = 0 from (by decide)); omega)⟩ _ _ hT hF hS m96 m97 m98 m99 ls (lv_sub hl [0, 1, 2, 3, 4] rfl)
    · have t104 : ou.toInt < r94.toInt := ti_nle c102 rfl rfl
      refine lv_aload_n hx hb dX12_sluices_30 rfl (lv_at hl 2 rfl) ?_
      refine lv_iload_n hx hb dX12_sluices_31 rfl (lv_at hl 3 rfl) ?_
      refine lv_bipush (v := 17) hx hb dX12_sluices_32 (by decide) ?_
      have hFc := gA_free hG hA hS
      refine va_calli (va_runV (As := [.int wk, .int 17]) (rest := []) ⟨hx, hb, hml, hown, hts⟩ (s_of17 l dC dI kA adK adV G H q wZ0 wN wH wB wC wL wK wU wV PI im PM PT lS lB lE lN o0 wk hT hr_o0 (by have q8 := ti_all wk; omega) (fun _ => Int.le_refl 0) hgn hgh hgb hgc hgi hgu) (cwV 2 hts (goodIn_app (goodIn_r _ [7, 8, 9, 6] rfl (by decide +kernel)) (goodIn_ca (goodIn_r _ [1, 2, 3, 4, 5, 6] rfl (by decide +kernel)) (bs_in _ _))) rfl rfl rfl (by decide +kernel) ⟨(Nat.le_of_ble_eq_true rfl), (Nat.le_of_ble_eq_true rfl)⟩) ⟨fun a U g mk q => by obtain ⟨q0, q1, qK, qE⟩ := q; exact ⟨q0, q1, va_K.moved (u := U) (U := U.calling g mk a) (Vm.Alike.refl U.vm) qK, EVS.blind g mk a qE⟩, gH_rc hK hT hr_o0 shm_0 rfl, fun U hU hW => ⟨rfl, hU, va_K.moved hW.alike hK, hE.call hS hFc hU hW⟩⟩ rfl rfl hl.1 rfl (lv_room (Nat.le_of_ble_eq_true rfl)) dX12_sluices_34 ⟨(Nat.le_of_ble_eq_true rfl), (Nat.le_of_ble_eq_true rfl)⟩) hS (fun q _ h => hFc q h) hFc (fun r105 u t H locs ht hvm hw106 hB _ _ hS => ?_)
      obtain ⟨hT, hF1⟩ := hB
      rw [ht] at hT hF1
      have m107 := (el_kept (hF1.arr hg6 skm_2 (by decide))).trans m96
      have m108 := (el_kept (hF1.arr hg6 skm_2 (by decide))).trans m97
      have m109 := (el_kept (hF1.arr hg6 skm_2 (by decide))).trans m98
      have m110 := (el_kept (hF1.arr hg6 skm_2 (by decide))).trans m99
      have hF := hF.more hF1 (by decide)
      try dsimp only at hw106
      obtain ⟨h111, ⟨ix112, hix112, m113⟩⟩ := hw106
      refine lv_aload_n hx hb dX12_sluices_37 rfl (lv_at hl 2 rfl) ?_
      refine tw_get hx hb hts bF_X12 hown hK hT hr_o0 shm_0 rfl 1 (by decide) (ht_at hts 1 rfl) (fun _ h9 => h9) dX12_sluices_38 (fun v9 m115 h9 => ?_)
      obtain ⟨rfl, hg116⟩ := h9 _ rfl
      refine lv_sipush (v := 384) hx hb dX12_sluices_41 (by decide) ?_
      refine lv_iload_n hx hb dX12_sluices_44 rfl (lv_at hl 1 rfl) ?_
      refine lv_iadd hx hb dX12_sluices_45 ?_
      refine lv_topi (fun x117 ex117 => ?_)
      have t118 : x117.toInt = 384 + r1.toInt := ti_add ex117 (by decide) rfl (by omega) (by omega)
      refine tw_iald (i := x117) hx hb hK hT hg6 shm_2 rfl (vin_t (a := x117.toInt) rfl (by omega) (by omega)) dX12_sluices_46 (fun v9 m119 h9 => ?_)
      obtain ⟨x120, rfl, gx120, kx120⟩ := (gw_at h9 (w_wat (by have q9 := tn_of (show x117.toInt = x117.toInt from rfl) (show (0 : Int) ≤ x117.toInt from by omega); omega)) hgn (fun _ => Int.le_refl 0))
      obtain rfl : x15 = x120 := (el_same m119 m109 (show x117.toInt = x12.toInt from by rw []; try omega)).symm
      refine lv_aload_n hx hb dX12_sluices_47 rfl (lv_at hl 2 rfl) ?_
      refine lv_iload_n hx hb dX12_sluices_48 rfl (lv_at hl 1 rfl) ?_
      have hFc := gA_free hG hA hS
      refine va_calli (va_runV (As := [.int r1]) (rest := [.int x15, .int r105]) ⟨hx, hb, hml, hown, hts⟩ (s_levelL l dC dI kA adK adV G H q wZ0 wN wH wB wC wL wK wU wV PI im PM PT lS lB lE lN o0 r1 x11 x8 x15 x12 hT hr_o0 (by have q8 := ti_all r1; omega) hlt_ (by have q9 := (show x8.toInt = x8.toInt from rfl); have := (show r1.toInt = r1.toInt from rfl); omega) m108 (by have q8 := ti_all x11; omega) (by have q9 := (show x12.toInt = x12.toInt from rfl); have := (show r1.toInt = r1.toInt from rfl); omega) m109 (by have q8 := ti_all x15; omega) (fun _ => Int.le_refl 0) hgn hgh hgb hgc hgi hgu) (cwV 1 hts (goodIn_app (goodIn_r _ [15, 16, 17, 6] rfl (by decide +kernel)) (goodIn_ca (goodIn_r _ [10, 11, 2, 12, 13, 14, 6] rfl (by decide +kernel)) (bs_in _ _))) rfl rfl rfl (by decide +kernel) ⟨(Nat.le_of_ble_eq_true rfl), (Nat.le_of_ble_eq_true rfl)⟩) ⟨fun a U g mk q => by obtain ⟨q0, q1, qK, qE⟩ := q; exact ⟨q0, q1, va_K.moved (u := U) (U := U.calling g mk a) (Vm.Alike.refl U.vm) qK, EVS.blind g mk a qE⟩, gH_rc hK hT hr_o0 shm_0 rfl, fun U hU hW => ⟨rfl, hU, va_K.moved hW.alike hK, hE.call hS hFc hU hW⟩⟩ rfl rfl hl.1 rfl (lv_room (Nat.le_of_ble_eq_true rfl)) dX12_sluices_49 ⟨(Nat.le_of_ble_eq_true rfl), (Nat.le_of_ble_eq_true rfl)⟩) hS (fun q _ h => hFc q h) hFc (fun r121 u t H locs ht hvm hw122 hB _ _ hS => ?_)
      obtain ⟨hT, hF1⟩ := hB
      rw [ht] at hT hF1
      have m123 := (el_kept (hF1.arr hg6 skm_2 (by decide))).trans m107
      have m124 := (el_kept (hF1.arr hg6 skm_2 (by decide))).trans m108
      have m125 := (el_kept (hF1.arr hg6 skm_2 (by decide))).trans m109
      have m126 := (el_kept (hF1.arr hg6 skm_2 (by decide))).trans m110
      have hF := hF.more hF1 (by decide)
      try dsimp only at hw122
      obtain ⟨h128, hf129⟩ := hw122
      refine lv_iload_n hx hb dX12_sluices_52 rfl (lv_at hl 4 rfl) ?_
      refine lv_isub hx hb dX12_sluices_53 ?_
      refine lv_topi (fun x130 ex130 => ?_)
      have t131 : x130.toInt = r121.toInt - ou.toInt := ti_sub ex130 rfl rfl (by omega) (by omega)
      refine lv_iconst (v := 4) hx hb dX12_sluices_54 (by decide) ?_
      refine lv_idiv hx hb dX12_sluices_55 (by decide) ?_
      refine lv_topi (fun x132 ex132 => ?_)
      have t133 : (0 ≤ x130.toInt ∧ x132.toInt = x130.toInt / 4) ∨ (x130.toInt < 0 ∧ x132.toInt = -((-x130.toInt) / 4)) := ti_divs ex132 rfl (by decide) (by decide)
      refine va_mmin hx hb (hml.trans hl.1.symm) hown (ht_at hts 17 rfl) (ht_at hts 18 rfl) (ht_at hts 19 rfl) (ht_at hts 20 rfl) (Nat.le_of_ble_eq_true rfl) (Nat.le_of_ble_eq_true rfl) (Nat.le_of_ble_eq_true rfl) (Nat.le_of_ble_eq_true rfl) dX12_sluices_56 ?_
      refine lv_topi (fun x134 ex134 => ?_)
      have t135 : x134.toInt ≤ x15.toInt ∧ x134.toInt ≤ x132.toInt ∧ (x134.toInt = x15.toInt ∨ x134.toInt = x132.toInt) := mn_f ex134 rfl rfl
      refine va_mmin hx hb (hml.trans hl.1.symm) hown (ht_at hts 17 rfl) (ht_at hts 18 rfl) (ht_at hts 19 rfl) (ht_at hts 20 rfl) (Nat.le_of_ble_eq_true rfl) (Nat.le_of_ble_eq_true rfl) (Nat.le_of_ble_eq_true rfl) (Nat.le_of_ble_eq_true rfl) dX12_sluices_59 ?_
      refine lv_topi (fun x136 ex136 => ?_)
      have t137 : x136.toInt ≤ r105.toInt ∧ x136.toInt ≤ x134.toInt ∧ (x136.toInt = r105.toInt ∨ x136.toInt = x134.toInt) := mn_f ex136 rfl rfl
      refine lv_istore (lv' := [(4, .int x136), (3, .int r1), (0, .ref o0), (1, .int wk), (2, .int ou)]) hx hb dX12_sluices_62 hl (by decide) rfl (fun ls hl => ?_)
      exact jn75 x136 ⟨(by have q9 := (show x136.toInt = x136.toInt from rfl); (try have q8 := ti_all x136); omega), (by have q9 := (show x136.toInt = x136.toInt from rfl); omega)⟩ _ _ hT hF hS m123 m124 m125 m126 ls (lv_sub hl [0, 1, 2, 3, 4] rfl)
