def w_s_levelL : List Cond := .code yX12_level cX12_level 2 (some .int) :: (HAppend.hAppend (α := List Cond) (β := List Cond) (γ := List Cond) [.code yX12_isLand cX12_isLand 2 (some .boolean), .fieldLink RX12 9 "SeaLandModel" "world" "[I", .methodLink RX12 235 yX12_isLand, .instanceMethod yX12_isLand, .selects RX12 yX12_isLand yX12_isLand, .initialized RX12] bs)
set_option maxHeartbeats 4000000 in
set_option maxRecDepth 100000 in
theorem s_levelL (l : Launch) (dC : Nat → ClassId) (dI : Nat → Nat → Nat) (kA : Nat → ClassId) (adK adV : Nat → Nat) (G : gT) (H0 : Heap) (q : Nat → Nat) (wZ wN : Nat → Int) (wH wB wC : Int) (wL wK : Nat → Prop) (wU wV : Nat → Nat) (PI : Nat → Int → Prop) (im : Int) (PM PT : Nat → Int → Prop) (lS lB lE : Nat → Nat → Int → Prop) (lN : Nat → Int) (o0 : Nat) (sq : Int32) (hv ix_hv : Int32) (wv ix_wv : Int32)  (hT : gH (dC, dI) kA (SHm q (wP wZ wN wH wB wC wL wK wU wV) PI im PM PT lS lB lE lN) G H0) (hr_o0 : G o0 = some 0) (hq0 : 0 ≤ sq.toInt ∧ sq.toInt ≤ 95) (hl_ : wL sq.toNatClampNeg) (hx_hv : ix_hv.toInt = 96 + sq.toInt) (hm_hv : el H0 (q 1) ix_hv.toNatClampNeg = some (.int hv)) (hv_hv : -3850900 ≤ hv.toInt ∧ hv.toInt ≤ 300) (hx_wv : ix_wv.toInt = 384 + sq.toInt) (hm_wv : el H0 (q 1) ix_wv.toNatClampNeg = some (.int wv)) (hv_wv : 0 ≤ wv.toInt ∧ wv.toInt ≤ 20200000) (hgz : ∀ i, 0 ≤ wZ i) (hgn : ∀ i, 6500000 ≤ wN i ∧ wN i ≤ 20200000) (hgh : 0 ≤ wH ∧ wH ≤ 40000) (hgb : 0 ≤ wB ∧ wB ≤ 3850000) (hgc : 0 ≤ wC ∧ wC ≤ 30) (hgi : 0 ≤ im ∧ im ≤ 1) (hgu : ∀ a t, G a = some (t + 1) → a = q t) : Met l yX12_level w_s_levelL ({ frames := 1, cells := 0, slots := 0, locals := 21 }) (va_Pc [.ref o0, .int sq] (fun U => U.heap = H0 ∧ va_K (dC, dI) vwCl (tyl kA) U ∧ EVS adK adV (gA G H0.size) U U.heap)) (va_Qi (fun (r : Int32) (u : Unit) => (-3850900 ≤ r.toInt ∧ r.toInt ≤ 20200300) ∧ (r.toInt = hv.toInt + wv.toInt)) (fun (_ : Unit) (t : State) => gH (dC, dI) kA (SHm q (wP wZ wN wH wB wC wL wK wU wV) PI im PM PT lS lB lE lN) G t.heap ∧ gF (dC, dI) SKm G ([] : List (Nat × Nat)) H0 t.heap) (gA G H0.size)) 0 0 (gA G H0.size) := by
  refine Met.ofW (cc := cX12_level) (maxL := 2) (ret := (some .int)) (by decide) rfl ?_
  intro p e s m args below meth c s₁ B hml hv
  obtain ⟨rfl, hH0, hK, hE⟩ := hv
  have hx := B.exec
  have hb := B.bytes
  have hr := B.returns
  have hts := atoms_spec (ws := w_s_levelL) B.pre
  have hown : s.vm.findClass RX12 = some m.cls := findClass_of_methodNamed B.named
  have hlocks := B.notSynchronized
  subst hH0
  generalize hAe : gA G s.heap.size = A at hE ⊢
  have hA : ∀ q : Nat, s.heap.size ≤ q → A q := fun q h => by rw [← hAe]; exact Or.inr h
  have hG := gA_of hAe
  have hS : va_S A s.heap s.heap [] := va_S.rf
  have hF : gF (dC, dI) SKm G ([] : List (Nat × Nat)) s.heap s.heap := gF.rf
  have hl := lv_entry ([.ref o0, .int sq]) (n := 2) (Nat.le_of_ble_eq_true rfl)
  rw [lg_entry_eq]
  generalize (lg_sl ([.ref o0, .int sq]) ++ List.replicate (2 - (lg_sl ([.ref o0, .int sq])).length) Slot.unset).toArray = ls at hl ⊢
  have hl : lv_has ls 2 [(0, .ref o0), (1, .int sq)] := hl
  have hg1 : G (q 1) = some 2 := gx_of hT hr_o0 shm_0 (k := 1) (by decide) rfl
  refine lv_aload_n hx hb dX12_level_0 rfl (lv_at hl 0 rfl) ?_
  refine lv_iload_n hx hb dX12_level_1 rfl (lv_at hl 1 rfl) ?_
  have hFc := gA_free hG hA hS
  refine va_calli (va_runV (As := [.int sq]) (rest := []) ⟨hx, hb, hml, hown, hts⟩ (s_isLand l dC dI kA adK adV G s.heap q wZ wN wH wB wC wL wK wU wV PI im PM PT lS lB lE lN o0 sq hT hr_o0 (by have q8 := ti_all sq; omega) hgz hgn hgh hgb hgc hgi hgu) (cwV 1 hts (goodIn_app (goodIn_r _ [3, 4, 5, 6] rfl (by decide +kernel)) (goodIn_ca (goodIn_r _ [1, 2] rfl (by decide +kernel)) (bs_in _ _))) rfl rfl rfl (by decide +kernel) ⟨(Nat.le_of_ble_eq_true rfl), (Nat.le_of_ble_eq_true rfl)⟩) ⟨fun a U g mk q => by obtain ⟨q0, q1, qK, qE⟩ := q; exact ⟨q0, q1, va_K.moved (u := U) (U := U.calling g mk a) (Vm.Alike.refl U.vm) qK, EVS.blind g mk a qE⟩, gH_rc hK hT hr_o0 shm_0 rfl, fun U hU hW => ⟨rfl, hU, va_K.moved hW.alike hK, hE.call hS hFc hU hW⟩⟩ rfl rfl hl.1 rfl (lv_room (Nat.le_of_ble_eq_true rfl)) dX12_level_2 ⟨(Nat.le_of_ble_eq_true rfl), (Nat.le_of_ble_eq_true rfl)⟩) hS (fun q _ h => hFc q h) hFc (fun r2 u t H locs ht hvm hw3 hB _ _ hS => ?_)
  obtain ⟨hT, hF1⟩ := hB
  rw [ht] at hT hF1
  have m4 := (el_kept (hF1.arr hg1 skm_2 (by decide))).trans hm_hv
  have m5 := (el_kept (hF1.arr hg1 skm_2 (by decide))).trans hm_wv
  have hF := hF.more hF1 (by decide)
  try dsimp only at hw3
  obtain ⟨h6, hi7, hi8⟩ := hw3
  refine lv_if_eq (tgt := 31) hx hb dX12_level_5 (by decide) (fun c9 => ?_) (fun c9 => ?_)
  · have t10 : r2.toInt = 0 := ti_eq c9 rfl (by decide)
    have t11 : ¬ wL sq.toNatClampNeg := hi8 c9
    exact absurd hl_ (by assumption)
  · have t12 : r2.toInt ≠ 0 := ti_ne c9 rfl (by decide)
    have t13 : wL sq.toNatClampNeg := hi7 ((bit_of ⟨by omega, by omega⟩).resolve_left c9)
    refine lv_aload_n hx hb dX12_level_8 rfl (lv_at hl 0 rfl) ?_
    refine tw_get hx hb hts bF_X12 hown hK hT hr_o0 shm_0 rfl 1 (by decide) (ht_at hts 1 rfl) (fun _ h9 => h9) dX12_level_9 (fun v9 m14 h9 => ?_)
    obtain ⟨rfl, hg15⟩ := h9 _ rfl
    refine lv_bipush (v := 96) hx hb dX12_level_12 (by decide) ?_
    refine lv_iload_n hx hb dX12_level_14 rfl (lv_at hl 1 rfl) ?_
    refine lv_iadd hx hb dX12_level_15 ?_
    refine lv_topi (fun x16 ex16 => ?_)
    have t17 : x16.toInt = 96 + sq.toInt := ti_add ex16 (by decide) rfl (by omega) (by omega)
    refine tw_iald (i := x16) hx hb hK hT hg1 shm_2 rfl (vin_t (a := x16.toInt) rfl (by omega) (by omega)) dX12_level_16 (fun v9 m18 h9 => ?_)
    obtain ⟨x19, rfl, gx19, kx19⟩ := (gp_at h9 (w_hgt (by have q9 := tn_of (show x16.toInt = x16.toInt from rfl) (show (0 : Int) ≤ x16.toInt from by omega); omega)))
    obtain rfl : hv = x19 := (el_same m18 m4 (show x16.toInt = ix_hv.toInt from by rw []; try omega)).symm
    refine lv_aload_n hx hb dX12_level_17 rfl (lv_at hl 0 rfl) ?_
    refine tw_get hx hb hts bF_X12 hown hK hT hr_o0 shm_0 rfl 1 (by decide) (ht_at hts 1 rfl) (fun _ h9 => h9) dX12_level_18 (fun v9 m20 h9 => ?_)
    obtain ⟨rfl, hg21⟩ := h9 _ rfl
    refine lv_sipush (v := 384) hx hb dX12_level_21 (by decide) ?_
    refine lv_iload_n hx hb dX12_level_24 rfl (lv_at hl 1 rfl) ?_
    refine lv_iadd hx hb dX12_level_25 ?_
    refine lv_topi (fun x22 ex22 => ?_)
    have t23 : x22.toInt = 384 + sq.toInt := ti_add ex22 (by decide) rfl (by omega) (by omega)
    refine tw_iald (i := x22) hx hb hK hT hg1 shm_2 rfl (vin_t (a := x22.toInt) rfl (by omega) (by omega)) dX12_level_26 (fun v9 m24 h9 => ?_)
    obtain ⟨x25, rfl, gx25, kx25⟩ := (gw_at h9 (w_wat (by have q9 := tn_of (show x22.toInt = x22.toInt from rfl) (show (0 : Int) ≤ x22.toInt from by omega); omega)) hgn hgz)
    obtain rfl : wv = x25 := (el_same m24 m5 (show x22.toInt = ix_wv.toInt from by rw []; try omega)).symm
    refine lv_iadd hx hb dX12_level_27 ?_
    refine lv_topi (fun x26 ex26 => ?_)
    have t27 : x26.toInt = hv.toInt + wv.toInt := ti_add ex26 rfl rfl (by omega) (by omega)
    refine lv_goto (tgt := 39) hx hb dX12_level_28 (by decide) ?_
    exact W.iret (v := x26) hx hb hr (fun t ht hW => ⟨⟨x26, (), rfl, (by exact ⟨(by have q8 := ti_all x26; omega), (by omega)⟩), by (try dsimp only); rw [ht]; exact ⟨hT, hF⟩⟩, hS.F ht⟩) hS.2.2 dX12_level_39
def w_s_seepL : List Cond := .code yX12_seepOf cX12_seepOf 8 (some .int) :: (HAppend.hAppend (α := List Cond) (β := List Cond) (γ := List Cond) [.code yX12_of cX12_of 3 (some .int), .fieldLink RX12 9 "SeaLandModel" "world" "[I", .code yX12_at cX12_at 2 (some .int), .methodLink RX12 214 yX12_at, .static yX12_at, .initialized RX12, .methodLink RX12 217 yX12_of, .instanceMethod yX12_of, .selects RX12 yX12_of yX12_of, .code yX12_level cX12_level 2 (some .int), .code yX12_isLand cX12_isLand 2 (some .boolean), .methodLink RX12 235 yX12_isLand, .instanceMethod yX12_isLand, .selects RX12 yX12_isLand yX12_isLand, .methodLink RX12 285 yX12_level, .instanceMethod yX12_level, .selects RX12 yX12_level yX12_level, .methodLink RX12 211 Lib.Math.max.name, .static Lib.Math.max.name, .initialized "java/lang/Math", .code Lib.Math.max.name Lib.Math.max.code 2 (some .int)] bs)
set_option maxHeartbeats 4000000 in
set_option maxRecDepth 100000 in
theorem s_seepL (l : Launch) (dC : Nat → ClassId) (dI : Nat → Nat → Nat) (kA : Nat → ClassId) (adK adV : Nat → Nat) (G : gT) (H0 : Heap) (q : Nat → Nat) (wZ wN : Nat → Int) (wH wB wC : Int) (wL wK : Nat → Prop) (wU wV : Nat → Nat) (PI : Nat → Int → Prop) (im : Int) (PM PT : Nat → Int → Prop) (lS lB lE : Nat → Nat → Int → Prop) (lN : Nat → Int) (o0 : Nat) (wk : Int32) (ou : Int32) (tv ix_tv : Int32) (hv ix_hv : Int32) (wv ix_wv : Int32)  (hT : gH (dC, dI) kA (SHm q (wP wZ wN wH wB wC wL wK wU wV) PI im PM PT lS lB lE lN) G H0) (hr_o0 : G o0 = some 0) (hq0 : 0 ≤ wk.toInt ∧ wk.toInt ≤ 29) (hq1 : -400 ≤ ou.toInt ∧ ou.toInt ≤ 10400) (hl_ : wL tv.toNatClampNeg) (hx_tv : ix_tv.toInt = 770 + 22 * wk.toInt) (hm_tv : el H0 (q 1) ix_tv.toNatClampNeg = some (.int tv)) (hv_tv : 0 ≤ tv.toInt ∧ tv.toInt ≤ 95) (hx_hv : ix_hv.toInt = 96 + tv.toInt) (hm_hv : el H0 (q 1) ix_hv.toNatClampNeg = some (.int hv)) (hv_hv : -3850900 ≤ hv.toInt ∧ hv.toInt ≤ 300) (hx_wv : ix_wv.toInt = 384 + tv.toInt) (hm_wv : el H0 (q 1) ix_wv.toNatClampNeg = some (.int wv)) (hv_wv : 0 ≤ wv.toInt ∧ wv.toInt ≤ 20200000) (hgz : ∀ i, 0 ≤ wZ i) (hgn : ∀ i, 6500000 ≤ wN i ∧ wN i ≤ 20200000) (hgh : 0 ≤ wH ∧ wH ≤ 40000) (hgb : 0 ≤ wB ∧ wB ≤ 3850000) (hgc : 0 ≤ wC ∧ wC ≤ 30) (hgi : 0 ≤ im ∧ im ≤ 1) (hgu : ∀ a t, G a = some (t + 1) → a = q t) : Met l yX12_seepOf w_s_seepL ({ frames := 2, cells := 0, slots := 0, locals := 43 }) (va_Pc [.ref o0, .int wk, .int ou] (fun U => U.heap = H0 ∧ va_K (dC, dI) vwCl (tyl kA) U ∧ EVS adK adV (gA G H0.size) U U.heap)) (va_Qi (fun (r : Int32) (u : Unit) => (0 ≤ r.toInt ∧ r.toInt ≤ 2316780) ∧ (0 ≤ r.toInt ∧ (r.toInt = 0 ∨ r.toInt + hv.toInt + wv.toInt ≤ ou.toInt))) (fun (_ : Unit) (t : State) => gH (dC, dI) kA (SHm q (wP wZ wN wH wB wC wL wK wU wV) PI im PM PT lS lB lE lN) G t.heap ∧ gF (dC, dI) SKm G ([] : List (Nat × Nat)) H0 t.heap) (gA G H0.size)) 0 0 (gA G H0.size) := by
  refine Met.ofW (cc := cX12_seepOf) (maxL := 8) (ret := (some .int)) (by decide) rfl ?_
  intro p e s m args below meth c s₁ B hml hv
  obtain ⟨rfl, hH0, hK, hE⟩ := hv
  have hx := B.exec
  have hb := B.bytes
  have hr := B.returns
  have hts := atoms_spec (ws := w_s_seepL) B.pre
  have hown : s.vm.findClass RX12 = some m.cls := findClass_of_methodNamed B.named
  have hlocks := B.notSynchronized
  subst hH0
  generalize hAe : gA G s.heap.size = A at hE ⊢
  have hA : ∀ q : Nat, s.heap.size ≤ q → A q := fun q h => by rw [← hAe]; exact Or.inr h
  have hG := gA_of hAe
  have hS : va_S A s.heap s.heap [] := va_S.rf
  have hF : gF (dC, dI) SKm G ([] : List (Nat × Nat)) s.heap s.heap := gF.rf
  have hl := lv_entry ([.ref o0, .int wk, .int ou]) (n := 8) (Nat.le_of_ble_eq_true rfl)
  rw [lg_entry_eq]
  generalize (lg_sl ([.ref o0, .int wk, .int ou]) ++ List.replicate (8 - (lg_sl ([.ref o0, .int wk, .int ou])).length) Slot.unset).toArray = ls at hl ⊢
  have hl : lv_has ls 8 [(0, .ref o0), (1, .int wk), (2, .int ou)] := hl
  have hg1 : G (q 1) = some 2 := gx_of hT hr_o0 shm_0 (k := 1) (by decide) rfl
  refine lv_aload_n hx hb dX12_seepOf_0 rfl (lv_at hl 0 rfl) ?_
  refine lv_iload_n hx hb dX12_seepOf_1 rfl (lv_at hl 1 rfl) ?_
  refine lv_iconst (v := 2) hx hb dX12_seepOf_2 (by decide) ?_
  have hFc := gA_free hG hA hS
  refine va_calli (va_runV (As := [.int wk, .int 2]) (rest := []) ⟨hx, hb, hml, hown, hts⟩ (s_of2 l dC dI kA adK adV G s.heap q wZ wN wH wB wC wL wK wU wV PI im PM PT lS lB lE lN o0 wk hT hr_o0 (by have q8 := ti_all wk; omega) hgz hgn hgh hgb hgc hgi hgu) (cwV 2 hts (goodIn_app (goodIn_r _ [7, 8, 9, 6] rfl (by decide +kernel)) (goodIn_ca (goodIn_r _ [1, 2, 3, 4, 5, 6] rfl (by decide +kernel)) (bs_in _ _))) rfl rfl rfl (by decide +kernel) ⟨(Nat.le_of_ble_eq_true rfl), (Nat.le_of_ble_eq_true rfl)⟩) ⟨fun a U g mk q => by obtain ⟨q0, q1, qK, qE⟩ := q; exact ⟨q0, q1, va_K.moved (u := U) (U := U.calling g mk a) (Vm.Alike.refl U.vm) qK, EVS.blind g mk a qE⟩, gH_rc hK hT hr_o0 shm_0 rfl, fun U hU hW => ⟨rfl, hU, va_K.moved hW.alike hK, hE.call hS hFc hU hW⟩⟩ rfl rfl hl.1 rfl (lv_room (Nat.le_of_ble_eq_true rfl)) dX12_seepOf_3 ⟨(Nat.le_of_ble_eq_true rfl), (Nat.le_of_ble_eq_true rfl)⟩) hS (fun q _ h => hFc q h) hFc (fun r2 u t H locs ht hvm hw3 hB _ _ hS => ?_)
  obtain ⟨hT, hF1⟩ := hB
  rw [ht] at hT hF1
  have m4 := (el_kept (hF1.arr hg1 skm_2 (by decide))).trans hm_tv
  have m5 := (el_kept (hF1.arr hg1 skm_2 (by decide))).trans hm_hv
  have m6 := (el_kept (hF1.arr hg1 skm_2 (by decide))).trans hm_wv
  have hF := hF.more hF1 (by decide)
  try dsimp only at hw3
  obtain ⟨h7, ⟨ix8, hix8, m9⟩⟩ := hw3
  have m10 := (el_kept (hF1.arr hg1 skm_2 (by decide))).trans m9
  obtain rfl : tv = r2 := (el_same m10 m4 (by have q8 := (show ix_tv.toInt = ix_tv.toInt from rfl); omega)).symm
  refine lv_istore_n (lv' := [(3, .int tv), (0, .ref o0), (1, .int wk), (2, .int ou)]) hx hb dX12_seepOf_6 rfl hl (by decide) rfl (fun ls hl => ?_)
  refine lv_iconst (v := 0) hx hb dX12_seepOf_7 (by decide) ?_
  refine lv_iload_n hx hb dX12_seepOf_8 rfl (lv_at hl 3 rfl) ?_
  refine lv_aload_n hx hb dX12_seepOf_9 rfl (lv_at hl 1 rfl) ?_
  refine lv_iload_n hx hb dX12_seepOf_10 rfl (lv_at hl 0 rfl) ?_
  have hFc := gA_free hG hA hS
  refine va_calli (va_runV (As := [.int tv]) (rest := [.int ou, .int 0]) ⟨hx, hb, hml, hown, hts⟩ (s_levelL l dC dI kA adK adV G H q wZ wN wH wB wC wL wK wU wV PI im PM PT lS lB lE lN o0 tv hv ix_hv wv ix_wv hT hr_o0 (by have q8 := ti_all tv; omega) hl_ (by have q9 := (show ix_hv.toInt = ix_hv.toInt from rfl); have := (show tv.toInt = tv.toInt from rfl); omega) m5 (by have q8 := ti_all hv; omega) (by have q9 := (show ix_wv.toInt = ix_wv.toInt from rfl); have := (show tv.toInt = tv.toInt from rfl); omega) m6 (by have q8 := ti_all wv; omega) hgz hgn hgh hgb hgc hgi hgu) (cwV 1 hts (goodIn_app (goodIn_r _ [15, 16, 17, 6] rfl (by decide +kernel)) (goodIn_ca (goodIn_r _ [10, 11, 2, 12, 13, 14, 6] rfl (by decide +kernel)) (bs_in _ _))) rfl rfl rfl (by decide +kernel) ⟨(Nat.le_of_ble_eq_true rfl), (Nat.le_of_ble_eq_true rfl)⟩) ⟨fun a U g mk q => by obtain ⟨q0, q1, qK, qE⟩ := q; exact ⟨q0, q1, va_K.moved (u := U) (U := U.calling g mk a) (Vm.Alike.refl U.vm) qK, EVS.blind g mk a qE⟩, gH_rc hK hT hr_o0 shm_0 rfl, fun U hU hW => ⟨rfl, hU, va_K.moved hW.alike hK, hE.call hS hFc hU hW⟩⟩ rfl rfl hl.1 rfl (lv_room (Nat.le_of_ble_eq_true rfl)) dX12_seepOf_11 ⟨(Nat.le_of_ble_eq_true rfl), (Nat.le_of_ble_eq_true rfl)⟩) hS (fun q _ h => hFc q h) hFc (fun r11 u t H locs ht hvm hw12 hB _ _ hS => ?_)
  obtain ⟨hT, hF1⟩ := hB
  rw [ht] at hT hF1
  have m13 := (el_kept (hF1.arr hg1 skm_2 (by decide))).trans m4
  have m14 := (el_kept (hF1.arr hg1 skm_2 (by decide))).trans m5
  have m15 := (el_kept (hF1.arr hg1 skm_2 (by decide))).trans m6
  have hF := hF.more hF1 (by decide)
  try dsimp only at hw12
  obtain ⟨h16, hf17⟩ := hw12
  refine lv_aload_n hx hb dX12_seepOf_14 rfl (lv_at hl 1 rfl) ?_
  refine tw_get hx hb hts bF_X12 hown hK hT hr_o0 shm_0 rfl 1 (by decide) (ht_at hts 1 rfl) (fun _ h9 => h9) dX12_seepOf_15 (fun v9 m18 h9 => ?_)
  obtain ⟨rfl, hg19⟩ := h9 _ rfl
  refine lv_bipush (v := 96) hx hb dX12_seepOf_18 (by decide) ?_
  refine lv_aload_n hx hb dX12_seepOf_20 rfl (lv_at hl 1 rfl) ?_
  refine lv_iload_n hx hb dX12_seepOf_21 rfl (lv_at hl 2 rfl) ?_
  refine lv_iconst (v := 1) hx hb dX12_seepOf_22 (by decide) ?_
  have hFc := gA_free hG hA hS
  refine va_calli (va_runV (As := [.int wk, .int 1]) (rest := [.int 96, .ref (q 1), .int r11, .int ou, .int 0]) ⟨hx, hb, hml, hown, hts⟩ (s_of1 l dC dI kA adK adV G H q wZ wN wH wB wC wL wK wU wV PI im PM PT lS lB lE lN o0 wk hT hr_o0 (by have q8 := ti_all wk; omega) hgz hgn hgh hgb hgc hgi hgu) (cwV 2 hts (goodIn_app (goodIn_r _ [7, 8, 9, 6] rfl (by decide +kernel)) (goodIn_ca (goodIn_r _ [1, 2, 3, 4, 5, 6] rfl (by decide +kernel)) (bs_in _ _))) rfl rfl rfl (by decide +kernel) ⟨(Nat.le_of_ble_eq_true rfl), (Nat.le_of_ble_eq_true rfl)⟩) ⟨fun a U g mk q => by obtain ⟨q0, q1, qK, qE⟩ := q; exact ⟨q0, q1, va_K.moved (u := U) (U := U.calling g mk a) (Vm.Alike.refl U.vm) qK, EVS.blind g mk a qE⟩, gH_rc hK hT hr_o0 shm_0 rfl, fun U hU hW => ⟨rfl, hU, va_K.moved hW.alike hK, hE.call hS hFc hU hW⟩⟩ rfl rfl hl.1 rfl (lv_room (Nat.le_of_ble_eq_true rfl)) dX12_seepOf_23 ⟨(Nat.le_of_ble_eq_true rfl), (Nat.le_of_ble_eq_true rfl)⟩) hS (fun q _ h => hFc q h) hFc (fun r20 u t H locs ht hvm hw21 hB _ _ hS => ?_)
  obtain ⟨hT, hF1⟩ := hB
  rw [ht] at hT hF1
  have m22 := (el_kept (hF1.arr hg1 skm_2 (by decide))).trans m13
  have m23 := (el_kept (hF1.arr hg1 skm_2 (by decide))).trans m14
  have m24 := (el_kept (hF1.arr hg1 skm_2 (by decide))).trans m15
  have hF := hF.more hF1 (by decide)
  try dsimp only at hw21
  obtain ⟨h25, ⟨ix26, hix26, m27⟩⟩ := hw21
  have m28 := (el_kept (hF1.arr hg1 skm_2 (by decide))).trans m27
  refine lv_iadd hx hb dX12_seepOf_26 ?_
  refine lv_topi (fun x29 ex29 => ?_)
  have t30 : x29.toInt = 96 + r20.toInt := ti_add ex29 (by decide) rfl (by omega) (by omega)
  refine tw_iald (i := x29) hx hb hK hT hg1 shm_2 rfl (vin_t (a := x29.toInt) rfl (by omega) (by omega)) dX12_seepOf_27 (fun v9 m31 h9 => ?_)
  obtain ⟨x32, rfl, gx32, kx32⟩ := (gp_at h9 (w_hgt (by have q9 := tn_of (show x29.toInt = x29.toInt from rfl) (show (0 : Int) ≤ x29.toInt from by omega); omega)))
  refine va_mmax hx hb (hml.trans hl.1.symm) hown (ht_at hts 17 rfl) (ht_at hts 18 rfl) (ht_at hts 19 rfl) (ht_at hts 20 rfl) (Nat.le_of_ble_eq_true rfl) (Nat.le_of_ble_eq_true rfl) (Nat.le_of_ble_eq_true rfl) (Nat.le_of_ble_eq_true rfl) dX12_seepOf_28 ?_
  refine lv_topi (fun x33 ex33 => ?_)
  have t34 : r11.toInt ≤ x33.toInt ∧ x32.toInt ≤ x33.toInt ∧ (x33.toInt = r11.toInt ∨ x33.toInt = x32.toInt) := mx_f ex33 rfl rfl
  refine lv_isub hx hb dX12_seepOf_31 ?_
  refine lv_topi (fun x35 ex35 => ?_)
  have t36 : x35.toInt = ou.toInt - x33.toInt := ti_sub ex35 rfl rfl (by omega) (by omega)
  refine va_mmax hx hb (hml.trans hl.1.symm) hown (ht_at hts 17 rfl) (ht_at hts 18 rfl) (ht_at hts 19 rfl) (ht_at hts 20 rfl) (Nat.le_of_ble_eq_true rfl) (Nat.le_of_ble_eq_true rfl) (Nat.le_of_ble_eq_true rfl) (Nat.le_of_ble_eq_true rfl) dX12_seepOf_32 ?_
  refine lv_topi (fun x37 ex37 => ?_)
  have t38 : 0 ≤ x37.toInt ∧ x35.toInt ≤ x37.toInt ∧ (x37.toInt = 0 ∨ x37.toInt = x35.toInt) := mx_f ex37 (by decide) rfl
  refine lv_istore (lv' := [(4, .int x37), (3, .int tv), (0, .ref o0), (1, .int wk), (2, .int ou)]) hx hb dX12_seepOf_35 hl (by decide) rfl (fun ls hl => ?_)
  refine lv_aload_n hx hb dX12_seepOf_37 rfl (lv_at hl 2 rfl) ?_
  refine tw_get hx hb hts bF_X12 hown hK hT hr_o0 shm_0 rfl 1 (by decide) (ht_at hts 1 rfl) (fun _ h9 => h9) dX12_seepOf_38 (fun v9 m39 h9 => ?_)
  obtain ⟨rfl, hg40⟩ := h9 _ rfl
  refine lv_bipush (v := 96) hx hb dX12_seepOf_41 (by decide) ?_
  refine lv_aload_n hx hb dX12_seepOf_43 rfl (lv_at hl 2 rfl) ?_
  refine lv_iload_n hx hb dX12_seepOf_44 rfl (lv_at hl 3 rfl) ?_
  refine lv_iconst (v := 1) hx hb dX12_seepOf_45 (by decide) ?_
  have hFc := gA_free hG hA hS
  refine va_calli (va_runV (As := [.int wk, .int 1]) (rest := [.int 96, .ref (q 1)]) ⟨hx, hb, hml, hown, hts⟩ (s_of1 l dC dI kA adK adV G H q wZ wN wH wB wC wL wK wU wV PI im PM PT lS lB lE lN o0 wk hT hr_o0 (by have q8 := ti_all wk; omega) hgz hgn hgh hgb hgc hgi hgu) (cwV 2 hts (goodIn_app (goodIn_r _ [7, 8, 9, 6] rfl (by decide +kernel)) (goodIn_ca (goodIn_r _ [1, 2, 3, 4, 5, 6] rfl (by decide +kernel)) (bs_in _ _))) rfl rfl rfl (by decide +kernel) ⟨(Nat.le_of_ble_eq_true rfl), (Nat.le_of_ble_eq_true rfl)⟩) ⟨fun a U g mk q => by obtain ⟨q0, q1, qK, qE⟩ := q; exact ⟨q0, q1, va_K.moved (u := U) (U := U.calling g mk a) (Vm.Alike.refl U.vm) qK, EVS.blind g mk a qE⟩, gH_rc hK hT hr_o0 shm_0 rfl, fun U hU hW => ⟨rfl, hU, va_K.moved hW.alike hK, hE.call hS hFc hU hW⟩⟩ rfl rfl hl.1 rfl (lv_room (Nat.le_of_ble_eq_true rfl)) dX12_seepOf_46 ⟨(Nat.le_of_ble_eq_true rfl), (Nat.le_of_ble_eq_true rfl)⟩) hS (fun q _ h => hFc q h) hFc (fun r41 u t H locs ht hvm hw42 hB _ _ hS => ?_)
  obtain ⟨hT, hF1⟩ := hB
  rw [ht] at hT hF1
  have m43 := (el_kept (hF1.arr hg1 skm_2 (by decide))).trans m22
  have m44 := (el_kept (hF1.arr hg1 skm_2 (by decide))).trans m23
  have m45 := (el_kept (hF1.arr hg1 skm_2 (by decide))).trans m24
  have m46 := (el_kept (hF1.arr hg1 skm_2 (by decide))).trans m28
  have m47 := (el_kept (hF1.arr hg1 skm_2 (by decide))).trans m31
  have hF := hF.more hF1 (by decide)
  try dsimp only at hw42
  obtain ⟨h48, ⟨ix49, hix49, m50⟩⟩ := hw42
  have m51 := (el_kept (hF1.arr hg1 skm_2 (by decide))).trans m50
  obtain rfl : r20 = r41 := (el_same m51 m46 (by have q8 := (show ix26.toInt = ix26.toInt from rfl); omega)).symm
  refine lv_iadd hx hb dX12_seepOf_49 ?_
  refine lv_topi (fun x52 ex52 => ?_)
  have t53 : x52.toInt = 96 + r20.toInt := ti_add ex52 (by decide) rfl (by omega) (by omega)
  refine tw_iald (i := x52) hx hb hK hT hg1 shm_2 rfl (vin_t (a := x52.toInt) rfl (by omega) (by omega)) dX12_seepOf_50 (fun v9 m54 h9 => ?_)
  obtain ⟨x55, rfl, gx55, kx55⟩ := (gp_at h9 (w_hgt (by have q9 := tn_of (show x52.toInt = x52.toInt from rfl) (show (0 : Int) ≤ x52.toInt from by omega); omega)))
  obtain rfl : x32 = x55 := (el_same m54 m47 (show x52.toInt = x29.toInt from by rw []; try omega)).symm
  refine lv_istore (lv' := [(5, .int x32), (4, .int x37), (3, .int tv), (0, .ref o0), (1, .int wk), (2, .int ou)]) hx hb dX12_seepOf_51 hl (by decide) rfl (fun ls hl => ?_)
  refine lv_iconst (v := 0) hx hb dX12_seepOf_53 (by decide) ?_
  refine lv_istore (lv' := [(6, .int 0), (5, .int x32), (4, .int x37), (3, .int tv), (0, .ref o0), (1, .int wk), (2, .int ou)]) hx hb dX12_seepOf_54 hl (by decide) rfl (fun ls hl => ?_)
  refine lv_iconst (v := 0) hx hb dX12_seepOf_56 (by decide) ?_
  refine lv_istore (lv' := [(7, .int 0), (6, .int 0), (5, .int x32), (4, .int x37), (3, .int tv), (0, .ref o0), (1, .int wk), (2, .int ou)]) hx hb dX12_seepOf_57 hl (by decide) rfl (fun ls hl => ?_)
  have jn240 : ∀ (z230 : Int32), ∀ (z232 : Int32), ∀ (z234 : Int32), ((0 ≤ z230.toInt ∧ z230.toInt ≤ 6) ∧ (0 ≤ z232.toInt ∧ z232.toInt ≤ 60)) → ∀ (H : Heap) (locs : List Loc), gH (dC, dI) kA (SHm q (wP wZ wN wH wB wC wL wK wU wV) PI im PM PT lS lB lE lN) G H → gF (dC, dI) SKm G ([] : List (Nat × Nat)) s.heap H → va_S A s.heap H locs → el H (q 1) ix_tv.toNatClampNeg = some (.int tv) → el H (q 1) ix_hv.toNatClampNeg = some (.int hv) → el H (q 1) ix_wv.toNatClampNeg = some (.int wv) → el H (q 1) ix26.toNatClampNeg = some (.int r20) → el H (q 1) x29.toNatClampNeg = some (.int x32) → ∀ ls : Array Slot, lv_has ls 8 [(7, .int z230), (6, .int z232), (5, .int z234), (4, .int x37), (3, .int tv), (0, .ref o0), (1, .int wk), (2, .int ou)] → W p l e (headSpec w_s_seepL ({ frames := 2, cells := 0, slots := 0, locals := 43 })).room s m #[.ref o0, .int wk, .int ou] below meth c H locs 0 0 (MQ below (va_Qi (fun (r : Int32) (u : Unit) => (0 ≤ r.toInt ∧ r.toInt ≤ 2316780) ∧ (0 ≤ r.toInt ∧ (r.toInt = 0 ∨ r.toInt + hv.toInt + wv.toInt ≤ ou.toInt))) (fun (_ : Unit) (t : State) => gH (dC, dI) kA (SHm q (wP wZ wN wH wB wC wL wK wU wV) PI im PM PT lS lB lE lN) G t.heap ∧ gF (dC, dI) SKm G ([] : List (Nat × Nat)) s.heap t.heap) A) #[.ref o0, .int wk, .int ou] s 0 0 A) (F0 m 118 ls []) := by
    intro z230 z232 z234 ⟨h231, h233⟩ H locs hT hF hS m235 m236 m237 m238 m239 ls hl
    refine lv_iload hx hb dX12_seepOf_118 (lv_at hl 3 rfl) ?_
    refine lv_iload hx hb dX12_seepOf_120 (lv_at hl 1 rfl) ?_
    refine lv_imul hx hb dX12_seepOf_122 ?_
    refine lv_topi (fun x241 ex241 => ?_)
    have t242 : 0 ≤ x241.toInt ∧ x241.toInt ≤ 3861300 * 60 ∧ (x37.toInt = 0 → x241.toInt = 0) ∧ (z232.toInt = 0 → x241.toInt = 0) ∧ x241.toInt ≤ x37.toInt * 60 ∧ x241.toInt ≤ 3861300 * z232.toInt := ti_mulnn ex241 rfl rfl (by omega) (by omega) (by omega) (by omega) (by decide)
    refine lv_bipush (v := 100) hx hb dX12_seepOf_123 (by decide) ?_
    refine lv_idiv hx hb dX12_seepOf_125 (by decide) ?_
    refine lv_topi (fun x243 ex243 => ?_)
    have t244 : x243.toInt = x241.toInt / 100 := ti_div ex243 rfl (by decide) (by omega) (by omega)
    exact W.iret (v := x243) hx hb hr (fun t ht hW => ⟨⟨x243, (), rfl, (by exact ⟨(by have q8 := ti_all x243; omega), (by omega)⟩), by (try dsimp only); rw [ht]; exact ⟨hT, hF⟩⟩, hS.F ht⟩) hS.2.2 dX12_seepOf_126
  have key245 : ∀ (n245 i56 : Nat), i56 + n245 = 6 → 0 ≤ i56 → ∀ (z57 : Int32), ∀ (z59 : Int32), ((0 + 0 * (i56 : Int) ≤ z57.toInt ∧ z57.toInt ≤ 0 + 10 * (i56 : Int))) → ∀ (H : Heap) (locs : List Loc), gH (dC, dI) kA (SHm q (wP wZ wN wH wB wC wL wK wU wV) PI im PM PT lS lB lE lN) G H → gF (dC, dI) SKm G ([] : List (Nat × Nat)) s.heap H → va_S A s.heap H locs → el H (q 1) ix_tv.toNatClampNeg = some (.int tv) → el H (q 1) ix_hv.toNatClampNeg = some (.int hv) → el H (q 1) ix_wv.toNatClampNeg = some (.int wv) → el H (q 1) ix26.toNatClampNeg = some (.int r20) → el H (q 1) x29.toNatClampNeg = some (.int x32) → ∀ ls : Array Slot, lv_has ls 8 [(7, .int (nI i56)), (6, .int z57), (5, .int z59), (4, .int x37), (3, .int tv), (0, .ref o0), (1, .int wk), (2, .int ou)] → W p l e (headSpec w_s_seepL ({ frames := 2, cells := 0, slots := 0, locals := 43 })).room s m #[.ref o0, .int wk, .int ou] below meth c H locs 0 0 (MQ below (va_Qi (fun (r : Int32) (u : Unit) => (0 ≤ r.toInt ∧ r.toInt ≤ 2316780) ∧ (0 ≤ r.toInt ∧ (r.toInt = 0 ∨ r.toInt + hv.toInt + wv.toInt ≤ ou.toInt))) (fun (_ : Unit) (t : State) => gH (dC, dI) kA (SHm q (wP wZ wN wH wB wC wL wK wU wV) PI im PM PT lS lB lE lN) G t.heap ∧ gF (dC, dI) SKm G ([] : List (Nat × Nat)) s.heap t.heap) A) #[.ref o0, .int wk, .int ou] s 0 0 A) (F0 m 59 ls []) := by
    intro n245
    induction n245 with
    | zero =>
      intro i56 hn245 hlo246 z57 z59 h58 H locs hT hF hS m60 m61 m62 m63 m64 ls hl
      obtain rfl : 6 = i56 := by omega
      refine lv_iload hx hb dX12_seepOf_59 (lv_at hl 0 rfl) ?_
      refine lv_aload_n hx hb dX12_seepOf_61 rfl (lv_at hl 5 rfl) ?_
      refine lv_iload_n hx hb dX12_seepOf_62 rfl (lv_at hl 6 rfl) ?_
      refine lv_iconst (v := 4) hx hb dX12_seepOf_63 (by decide) ?_
      have hFc := gA_free hG hA hS
      refine va_calli (va_runV (As := [.int wk, .int 4]) (rest := [.int (nI 6)]) ⟨hx, hb, hml, hown, hts⟩ (s_of4 l dC dI kA adK adV G H q wZ wN wH wB wC wL wK wU wV PI im PM PT lS lB lE lN o0 wk hT hr_o0 (by have q8 := ti_all wk; omega) hgz hgn hgh hgb hgc hgi hgu) (cwV 2 hts (goodIn_app (goodIn_r _ [7, 8, 9, 6] rfl (by decide +kernel)) (goodIn_ca (goodIn_r _ [1, 2, 3, 4, 5, 6] rfl (by decide +kernel)) (bs_in _ _))) rfl rfl rfl (by decide +kernel) ⟨(Nat.le_of_ble_eq_true rfl), (Nat.le_of_ble_eq_true rfl)⟩) ⟨fun a U g mk q => by obtain ⟨q0, q1, qK, qE⟩ := q; exact ⟨q0, q1, va_K.moved (u := U) (U := U.calling g mk a) (Vm.Alike.refl U.vm) qK, EVS.blind g mk a qE⟩, gH_rc hK hT hr_o0 shm_0 rfl, fun U hU hW => ⟨rfl, hU, va_K.moved hW.alike hK, hE.call hS hFc hU hW⟩⟩ rfl rfl hl.1 rfl (lv_room (Nat.le_of_ble_eq_true rfl)) dX12_seepOf_64 ⟨(Nat.le_of_ble_eq_true rfl), (Nat.le_of_ble_eq_true rfl)⟩) hS (fun q _ h => hFc q h) hFc (fun r247 u t H locs ht hvm hw248 hB _ _ hS => ?_)
      obtain ⟨hT, hF1⟩ := hB
      rw [ht] at hT hF1
      have m249 := (el_kept (hF1.arr hg1 skm_2 (by decide))).trans m60
      have m250 := (el_kept (hF1.arr hg1 skm_2 (by decide))).trans m61
      have m251 := (el_kept (hF1.arr hg1 skm_2 (by decide))).trans m62
      have m252 := (el_kept (hF1.arr hg1 skm_2 (by decide))).trans m63
      have m253 := (el_kept (hF1.arr hg1 skm_2 (by decide))).trans m64
      have hF := hF.more hF1 (by decide)
      try dsimp only at hw248
      obtain ⟨h254, ⟨ix255, hix255, m256⟩⟩ := hw248
      refine lv_icmp_ge (tgt := 118) hx hb dX12_seepOf_67 (by decide) (fun c258 => ?_) (fun c258 => (by exfalso; have q9 : ((6 : Nat) : Int) < r247.toInt := ti_nle c258 rfl (nI_toInt (by omega)); omega))
      have t259 : r247.toInt ≤ ((6 : Nat) : Int) := ti_le c258 rfl (nI_toInt (by omega))
      exact jn240 (nI 6) z57 z59 ⟨(rg_t (a := ((6 : Nat) : Int)) (nI_toInt (by omega)) (by omega) (by omega)), (by have q8 := ti_all z57; omega)⟩ _ _ hT hF hS m249 m250 m251 m252 m253 ls (lv_sub hl [0, 1, 2, 3, 4, 5, 6, 7] rfl)
    | succ n245 ih245 =>
      intro i56 hn245 hlo246 z57 z59 h58 H locs hT hF hS m60 m61 m62 m63 m64 ls hl
      have hlt259 : i56 < 6 := by omega
      refine lv_iload hx hb dX12_seepOf_59 (lv_at hl 0 rfl) ?_
      refine lv_aload_n hx hb dX12_seepOf_61 rfl (lv_at hl 5 rfl) ?_
      refine lv_iload_n hx hb dX12_seepOf_62 rfl (lv_at hl 6 rfl) ?_
      refine lv_iconst (v := 4) hx hb dX12_seepOf_63 (by decide) ?_
      have hFc := gA_free hG hA hS
      refine va_calli (va_runV (As := [.int wk, .int 4]) (rest := [.int (nI i56)]) ⟨hx, hb, hml, hown, hts⟩ (s_of4 l dC dI kA adK adV G H q wZ wN wH wB wC wL wK wU wV PI im PM PT lS lB lE lN o0 wk hT hr_o0 (by have q8 := ti_all wk; omega) hgz hgn hgh hgb hgc hgi hgu) (cwV 2 hts (goodIn_app (goodIn_r _ [7, 8, 9, 6] rfl (by decide +kernel)) (goodIn_ca (goodIn_r _ [1, 2, 3, 4, 5, 6] rfl (by decide +kernel)) (bs_in _ _))) rfl rfl rfl (by decide +kernel) ⟨(Nat.le_of_ble_eq_true rfl), (Nat.le_of_ble_eq_true rfl)⟩) ⟨fun a U g mk q => by obtain ⟨q0, q1, qK, qE⟩ := q; exact ⟨q0, q1, va_K.moved (u := U) (U := U.calling g mk a) (Vm.Alike.refl U.vm) qK, EVS.blind g mk a qE⟩, gH_rc hK hT hr_o0 shm_0 rfl, fun U hU hW => ⟨rfl, hU, va_K.moved hW.alike hK, hE.call hS hFc hU hW⟩⟩ rfl rfl hl.1 rfl (lv_room (Nat.le_of_ble_eq_true rfl)) dX12_seepOf_64 ⟨(Nat.le_of_ble_eq_true rfl), (Nat.le_of_ble_eq_true rfl)⟩) hS (fun q _ h => hFc q h) hFc (fun r260 u t H locs ht hvm hw261 hB _ _ hS => ?_)
      obtain ⟨hT, hF1⟩ := hB
      rw [ht] at hT hF1
      have m262 := (el_kept (hF1.arr hg1 skm_2 (by decide))).trans m60
      have m263 := (el_kept (hF1.arr hg1 skm_2 (by decide))).trans m61
      have m264 := (el_kept (hF1.arr hg1 skm_2 (by decide))).trans m62
      have m265 := (el_kept (hF1.arr hg1 skm_2 (by decide))).trans m63
      have m266 := (el_kept (hF1.arr hg1 skm_2 (by decide))).trans m64
      have hF := hF.more hF1 (by decide)
      try dsimp only at hw261
      obtain ⟨h267, ⟨ix268, hix268, m269⟩⟩ := hw261
      have m270 := (el_kept (hF1.arr hg1 skm_2 (by decide))).trans m269
      refine lv_icmp_ge (tgt := 118) hx hb dX12_seepOf_67 (by decide) (fun c271 => ?_) (fun c271 => ?_)
      · have t272 : r260.toInt ≤ ((i56 : Nat) : Int) := ti_le c271 rfl (nI_toInt (by omega))
        exact jn240 (nI i56) z57 z59 ⟨(rg_t (a := ((i56 : Nat) : Int)) (nI_toInt (by omega)) (by omega) (by omega)), (by have q8 := ti_all z57; omega)⟩ _ _ hT hF hS m262 m263 m264 m265 m266 ls (lv_sub hl [0, 1, 2, 3, 4, 5, 6, 7] rfl)
      · have t273 : ((i56 : Nat) : Int) < r260.toInt := ti_nle c271 rfl (nI_toInt (by omega))
        refine lv_iload hx hb dX12_seepOf_70 (lv_at hl 1 rfl) ?_
        refine lv_iload hx hb dX12_seepOf_72 (lv_at hl 2 rfl) ?_
        refine lv_iload_n hx hb dX12_seepOf_74 rfl (lv_at hl 7 rfl) ?_
        have jn298 : ∀ (z290 : Int32), ((0 ≤ z290.toInt ∧ z290.toInt ≤ 10)) → ∀ (H : Heap) (locs : List Loc), gH (dC, dI) kA (SHm q (wP wZ wN wH wB wC wL wK wU wV) PI im PM PT lS lB lE lN) G H → gF (dC, dI) SKm G ([] : List (Nat × Nat)) s.heap H → va_S A s.heap H locs → el H (q 1) ix_tv.toNatClampNeg = some (.int tv) → el H (q 1) ix_hv.toNatClampNeg = some (.int hv) → el H (q 1) ix_wv.toNatClampNeg = some (.int wv) → el H (q 1) ix26.toNatClampNeg = some (.int r20) → el H (q 1) x29.toNatClampNeg = some (.int x32) → el H (q 1) ix268.toNatClampNeg = some (.int r260) → ∀ ls : Array Slot, lv_has ls 8 [(7, .int (nI i56)), (6, .int z57), (5, .int z59), (4, .int x37), (3, .int tv), (0, .ref o0), (1, .int wk), (2, .int ou)] → W p l e (headSpec w_s_seepL ({ frames := 2, cells := 0, slots := 0, locals := 43 })).room s m #[.ref o0, .int wk, .int ou] below meth c H locs 0 0 (MQ below (va_Qi (fun (r : Int32) (u : Unit) => (0 ≤ r.toInt ∧ r.toInt ≤ 2316780) ∧ (0 ≤ r.toInt ∧ (r.toInt = 0 ∨ r.toInt + hv.toInt + wv.toInt ≤ ou.toInt))) (fun (_ : Unit) (t : State) => gH (dC, dI) kA (SHm q (wP wZ wN wH wB wC wL wK wU wV) PI im PM PT lS lB lE lN) G t.heap ∧ gF (dC, dI) SKm G ([] : List (Nat × Nat)) s.heap t.heap) A) #[.ref o0, .int wk, .int ou] s 0 0 A) (F0 m 95 ls [.int z290, .int z57]) := by
          intro z290 h291 H locs hT hF hS m292 m293 m294 m295 m296 m297 ls hl
          refine lv_iadd hx hb dX12_seepOf_95 ?_
          refine lv_topi (fun x299 ex299 => ?_)
          have t300 : x299.toInt = z57.toInt + z290.toInt := ti_add ex299 rfl rfl (by omega) (by omega)
          refine lv_istore (lv' := [(6, .int x299), (7, .int (nI i56)), (5, .int z59), (4, .int x37), (3, .int tv), (0, .ref o0), (1, .int wk), (2, .int ou)]) hx hb dX12_seepOf_96 hl (by decide) rfl (fun ls hl => ?_)
          refine lv_iload hx hb dX12_seepOf_98 (lv_at hl 2 rfl) ?_
          refine lv_aload_n hx hb dX12_seepOf_100 rfl (lv_at hl 5 rfl) ?_
          refine lv_iload_n hx hb dX12_seepOf_101 rfl (lv_at hl 6 rfl) ?_
          refine lv_iconst (v := 5) hx hb dX12_seepOf_102 (by decide) ?_
          refine lv_iload hx hb dX12_seepOf_103 (lv_at hl 1 rfl) ?_
          refine lv_iadd hx hb dX12_seepOf_105 ?_
          refine lv_topi (fun x301 ex301 => ?_)
          obtain rfl : nI (5 + i56) = x301 := (ex301.trans (nI_add 5 i56)).symm
          have hFc := gA_free hG hA hS
          refine va_calli (va_runV (As := [.int wk, .int (nI (5 + i56))]) (rest := [.int z59]) ⟨hx, hb, hml, hown, hts⟩ (s_ofT l dC dI kA adK adV G H q wZ wN wH wB wC wL wK wU wV PI im PM PT lS lB lE lN o0 wk (nI (5 + i56)) hT hr_o0 (by have q8 := ti_all wk; omega) (rg_t (a := ((5 + i56 : Nat) : Int)) (nI_toInt (by omega)) (by omega) (by omega)) hgz hgn hgh hgb hgc hgi hgu) (cwV 2 hts (goodIn_app (goodIn_r _ [7, 8, 9, 6] rfl (by decide +kernel)) (goodIn_ca (goodIn_r _ [1, 2, 3, 4, 5, 6] rfl (by decide +kernel)) (bs_in _ _))) rfl rfl rfl (by decide +kernel) ⟨(Nat.le_of_ble_eq_true rfl), (Nat.le_of_ble_eq_true rfl)⟩) ⟨fun a U g mk q => by obtain ⟨q0, q1, qK, qE⟩ := q; exact ⟨q0, q1, va_K.moved (u := U) (U := U.calling g mk a) (Vm.Alike.refl U.vm) qK, EVS.blind g mk a qE⟩, gH_rc hK hT hr_o0 shm_0 rfl, fun U hU hW => ⟨rfl, hU, va_K.moved hW.alike hK, hE.call hS hFc hU hW⟩⟩ rfl rfl hl.1 rfl (lv_room (Nat.le_of_ble_eq_true rfl)) dX12_seepOf_106 ⟨(Nat.le_of_ble_eq_true rfl), (Nat.le_of_ble_eq_true rfl)⟩) hS (fun q _ h => hFc q h) hFc (fun r302 u t H locs ht hvm hw303 hB _ _ hS => ?_)
          obtain ⟨hT, hF1⟩ := hB
          rw [ht] at hT hF1
          have m304 := (el_kept (hF1.arr hg1 skm_2 (by decide))).trans m292
          have m305 := (el_kept (hF1.arr hg1 skm_2 (by decide))).trans m293
          have m306 := (el_kept (hF1.arr hg1 skm_2 (by decide))).trans m294
          have m307 := (el_kept (hF1.arr hg1 skm_2 (by decide))).trans m295
          have m308 := (el_kept (hF1.arr hg1 skm_2 (by decide))).trans m296
          have hF := hF.more hF1 (by decide)
          try dsimp only at hw303
          have ⟨ix310, hix310, m311⟩ := hw303
          have t312 : (nI (5 + i56)).toInt = ((5 + i56 : Nat) : Int) := nI_toInt (by omega)
          refine lv_iadd hx hb dX12_seepOf_109 ?_
          refine lv_topi (fun x314 ex314 => ?_)
          refine lv_istore (lv' := [(5, .int x314), (6, .int x299), (7, .int (nI i56)), (4, .int x37), (3, .int tv), (0, .ref o0), (1, .int wk), (2, .int ou)]) hx hb dX12_seepOf_110 hl (by decide) rfl (fun ls hl => ?_)
          refine lv_iinc (v := nI (i56 + 1)) (lv' := [(7, .int (nI (i56 + 1))), (5, .int x314), (6, .int x299), (4, .int x37), (3, .int tv), (0, .ref o0), (1, .int wk), (2, .int ou)]) hx hb dX12_seepOf_112 hl (k := 2) rfl (nI_add i56 1) (by decide) rfl (fun ls hl => ?_)
          refine lv_goto (tgt := 59) hx hb dX12_seepOf_115 (by decide) ?_
          exact ih245 (i56 + 1) (by omega) (by omega) x299 x314 (by have q8 := ti_all x299; omega) _ _ hT hF hS m304 m305 m306 m307 m308 ls (lv_sub hl [0, 2, 1, 3, 4, 5, 6, 7] rfl)
        refine lv_icmp_ge (tgt := 94) hx hb dX12_seepOf_75 (by decide) (fun c315 => ?_) (fun c315 => ?_)
        · have t316 : ou.toInt ≤ z59.toInt := ti_le c315 rfl rfl
          refine lv_iconst (v := 0) hx hb dX12_seepOf_94 (by decide) ?_
          exact jn298 0 (rg_t (a := 0) (by decide) (by first | decide | omega) (by first | decide | omega)) _ _ hT hF hS m262 m263 m264 m265 m266 m270 ls (lv_sub hl [0, 1, 2, 3, 4, 5, 6, 7] rfl)
        · have t317 : z59.toInt < ou.toInt := ti_nle c315 rfl rfl
          refine lv_bipush (v := 10) hx hb dX12_seepOf_78 (by decide) ?_
          refine lv_aload_n hx hb dX12_seepOf_80 rfl (lv_at hl 5 rfl) ?_
          refine lv_iload_n hx hb dX12_seepOf_81 rfl (lv_at hl 6 rfl) ?_
          refine lv_bipush (v := 11) hx hb dX12_seepOf_82 (by decide) ?_
          refine lv_iload hx hb dX12_seepOf_84 (lv_at hl 0 rfl) ?_
          refine lv_iadd hx hb dX12_seepOf_86 ?_
          refine lv_topi (fun x318 ex318 => ?_)
          obtain rfl : nI (11 + i56) = x318 := (ex318.trans (nI_add 11 i56)).symm
          have hFc := gA_free hG hA hS
          refine va_calli (va_runV (As := [.int wk, .int (nI (11 + i56))]) (rest := [.int 10, .int z57]) ⟨hx, hb, hml, hown, hts⟩ (s_ofC l dC dI kA adK adV G H q wZ wN wH wB wC wL wK wU wV PI im PM PT lS lB lE lN o0 wk (nI (11 + i56)) hT hr_o0 (by have q8 := ti_all wk; omega) (rg_t (a := ((11 + i56 : Nat) : Int)) (nI_toInt (by omega)) (by omega) (by omega)) hgz hgn hgh hgb hgc hgi hgu) (cwV 2 hts (goodIn_app (goodIn_r _ [7, 8, 9, 6] rfl (by decide +kernel)) (goodIn_ca (goodIn_r _ [1, 2, 3, 4, 5, 6] rfl (by decide +kernel)) (bs_in _ _))) rfl rfl rfl (by decide +kernel) ⟨(Nat.le_of_ble_eq_true rfl), (Nat.le_of_ble_eq_true rfl)⟩) ⟨fun a U g mk q => by obtain ⟨q0, q1, qK, qE⟩ := q; exact ⟨q0, q1, va_K.moved (u := U) (U := U.calling g mk a) (Vm.Alike.refl U.vm) qK, EVS.blind g mk a qE⟩, gH_rc hK hT hr_o0 shm_0 rfl, fun U hU hW => ⟨rfl, hU, va_K.moved hW.alike hK, hE.call hS hFc hU hW⟩⟩ rfl rfl hl.1 rfl (lv_room (Nat.le_of_ble_eq_true rfl)) dX12_seepOf_87 ⟨(Nat.le_of_ble_eq_true rfl), (Nat.le_of_ble_eq_true rfl)⟩) hS (fun q _ h => hFc q h) hFc (fun r319 u t H locs ht hvm hw320 hB _ _ hS => ?_)
          obtain ⟨hT, hF1⟩ := hB
          rw [ht] at hT hF1
          have m321 := (el_kept (hF1.arr hg1 skm_2 (by decide))).trans m262
          have m322 := (el_kept (hF1.arr hg1 skm_2 (by decide))).trans m263
          have m323 := (el_kept (hF1.arr hg1 skm_2 (by decide))).trans m264
          have m324 := (el_kept (hF1.arr hg1 skm_2 (by decide))).trans m265
          have m325 := (el_kept (hF1.arr hg1 skm_2 (by decide))).trans m266
          have m326 := (el_kept (hF1.arr hg1 skm_2 (by decide))).trans m270
          have hF := hF.more hF1 (by decide)
          try dsimp only at hw320
          obtain ⟨h327, ⟨ix328, hix328, m329⟩⟩ := hw320
          have t330 : (nI (11 + i56)).toInt = ((11 + i56 : Nat) : Int) := nI_toInt (by omega)
          refine lv_isub hx hb dX12_seepOf_90 ?_
          refine lv_topi (fun x332 ex332 => ?_)
          have t333 : x332.toInt = 10 - r319.toInt := ti_sub ex332 (by decide) rfl (by omega) (by omega)
          refine lv_goto (tgt := 95) hx hb dX12_seepOf_91 (by decide) ?_
          exact jn298 x332 (by have q8 := ti_all x332; omega) _ _ hT hF hS m321 m322 m323 m324 m325 m326 ls (lv_sub hl [0, 1, 2, 3, 4, 5, 6, 7] rfl)
  exact key245 (6 - 0) 0 (by omega) (Nat.le_refl _) 0 x32 (rg_t (a := 0) (by decide) (by first | decide | omega) (by first | decide | omega)) _ _ hT hF hS m43 m44 m45 m46 m47 ls (lv_sub hl [0, 1, 2, 3, 4, 5, 6, 7] rfl)
def w_s_leaves : List Cond := .code yX12_leaves cX12_leaves 4 (some .int) :: (HAppend.hAppend (α := List Cond) (β := List Cond) (γ := List Cond) [.fieldLink RX12 9 "SeaLandModel" "world" "[I"] bs)
set_option maxHeartbeats 4000000 in
set_option maxRecDepth 100000 in
theorem s_leaves (l : Launch) (dC : Nat → ClassId) (dI : Nat → Nat → Nat) (kA : Nat → ClassId) (adK adV : Nat → Nat) (G : gT) (H0 : Heap) (q : Nat → Nat) (wZ wN : Nat → Int) (wH wB wC : Int) (wL wK : Nat → Prop) (wU wV : Nat → Nat) (PI : Nat → Int → Prop) (im : Int) (PM PT : Nat → Int → Prop) (lS lB lE : Nat → Nat → Int → Prop) (lN : Nat → Int) (o0 : Nat) (sq : Int32) (nn : Int32) (wv ix_wv : Int32)  (hT : gH (dC, dI) kA (SHm q (wP wZ0 wN wH wB wC wL wK wU wV) PI im PM PT lS lB lE lN) G H0) (hr_o0 : G o0 = some 0) (hq0 : 0 ≤ sq.toInt ∧ sq.toInt ≤ 95) (hq1 : 0 ≤ nn.toInt ∧ nn.toInt ≤ 20200000) (hn_ : nn.toInt ≤ wv.toInt) (hx_wv : ix_wv.toInt = 384 + sq.toInt) (hm_wv : el H0 (q 1) ix_wv.toNatClampNeg = some (.int wv)) (hv_wv : 0 ≤ wv.toInt ∧ wv.toInt ≤ 20200000) (hgz : ∀ i, 0 ≤ wZ i) (hgn : ∀ i, 6500000 ≤ wN i ∧ wN i ≤ 20200000) (hgh : 0 ≤ wH ∧ wH ≤ 40000) (hgb : 0 ≤ wB ∧ wB ≤ 3850000) (hgc : 0 ≤ wC ∧ wC ≤ 30) (hgi : 0 ≤ im ∧ im ≤ 1) (hgu : ∀ a t, G a = some (t + 1) → a = q t) : Met l yX12_leaves w_s_leaves ({ frames := 0, cells := 0, slots := 0, locals := 0 }) (va_Pc [.ref o0, .int sq, .int nn] (fun U => U.heap = H0 ∧ va_K (dC, dI) vwCl (tyl kA) U ∧ EVS adK adV (gA G H0.size) U U.heap)) (va_Qi (fun (r : Int32) (u : Unit) => True) (fun (_ : Unit) (t : State) => gH (dC, dI) kA (SHm q (wP wZ0 wN wH wB wC wL wK wU wV) PI im PM PT lS lB lE lN) G t.heap ∧ gF (dC, dI) SKm G ([(2, 0)] : List (Nat × Nat)) H0 t.heap) (gA G H0.size)) 0 0 (gA G H0.size) := by
  refine Met.ofW (cc := cX12_leaves) (maxL := 4) (ret := (some .int)) (by decide) rfl ?_
  intro p e s m args below meth c s₁ B hml hv
  obtain ⟨rfl, hH0, hK, hE⟩ := hv
  have hx := B.exec
  have hb := B.bytes
  have hr := B.returns
  have hts := atoms_spec (ws := w_s_leaves) B.pre
  have hown : s.vm.findClass RX12 = some m.cls := findClass_of_methodNamed B.named
  have hlocks := B.notSynchronized
  subst hH0
  generalize hAe : gA G s.heap.size = A at hE ⊢
  have hA : ∀ q : Nat, s.heap.size ≤ q → A q := fun q h => by rw [← hAe]; exact Or.inr h
  have hG := gA_of hAe
  have hS : va_S A s.heap s.heap [] := va_S.rf
  have hF : gF (dC, dI) SKm G ([(2, 0)] : List (Nat × Nat)) s.heap s.heap := gF.rf
  have hl := lv_entry ([.ref o0, .int sq, .int nn]) (n := 4) (Nat.le_of_ble_eq_true rfl)
  rw [lg_entry_eq]
  generalize (lg_sl ([.ref o0, .int sq, .int nn]) ++ List.replicate (4 - (lg_sl ([.ref o0, .int sq, .int nn])).length) Slot.unset).toArray = ls at hl ⊢
  have hl : lv_has ls 4 [(0, .ref o0), (1, .int sq), (2, .int nn)] := hl
  have hg1 : G (q 1) = some 2 := gx_of hT hr_o0 shm_0 (k := 1) (by decide) rfl
  refine lv_aload_n hx hb dX12_leaves_0 rfl (lv_at hl 0 rfl) ?_
  refine tw_get hx hb hts bF_X12 hown hK hT hr_o0 shm_0 rfl 1 (by decide) (ht_at hts 0 rfl) (fun _ h9 => h9) dX12_leaves_1 (fun v9 m2 h9 => ?_)
  obtain ⟨rfl, hg3⟩ := h9 _ rfl
  refine lv_sipush (v := 480) hx hb dX12_leaves_4 (by decide) ?_
  refine lv_iload_n hx hb dX12_leaves_7 rfl (lv_at hl 1 rfl) ?_
  refine lv_iadd hx hb dX12_leaves_8 ?_
  refine lv_topi (fun x4 ex4 => ?_)
  have t5 : x4.toInt = 480 + sq.toInt := ti_add ex4 (by decide) rfl (by omega) (by omega)
  refine tw_iald (i := x4) hx hb hK hT hg1 shm_2 rfl (vin_t (a := x4.toInt) rfl (by omega) (by omega)) dX12_leaves_9 (fun v9 m6 h9 => ?_)
  obtain ⟨x7, rfl, gx7, kx7⟩ := (gp_at h9 (w_fre (by have q9 := tn_of (show x4.toInt = x4.toInt from rfl) (show (0 : Int) ≤ x4.toInt from by omega); omega)))
  refine lv_i2l (v := x7.toInt64) hx hb dX12_leaves_10 rfl ?_
  refine lv_iload_n hx hb dX12_leaves_11 rfl (lv_at hl 2 rfl) ?_
  refine lv_i2l (v := nn.toInt64) hx hb dX12_leaves_12 rfl ?_
  refine lv_lmul hx hb dX12_leaves_13 ?_
  refine lv_topl (fun y8 _ => ?_)
  refine lv_aload_n hx hb dX12_leaves_14 rfl (lv_at hl 0 rfl) ?_
  refine tw_get hx hb hts bF_X12 hown hK hT hr_o0 shm_0 rfl 1 (by decide) (ht_at hts 0 rfl) (fun _ h9 => h9) dX12_leaves_15 (fun v9 m9 h9 => ?_)
  obtain ⟨rfl, hg10⟩ := h9 _ rfl
  refine lv_sipush (v := 384) hx hb dX12_leaves_18 (by decide) ?_
  refine lv_iload_n hx hb dX12_leaves_21 rfl (lv_at hl 1 rfl) ?_
  refine lv_iadd hx hb dX12_leaves_22 ?_
  refine lv_topi (fun x11 ex11 => ?_)
  have t12 : x11.toInt = 384 + sq.toInt := ti_add ex11 (by decide) rfl (by omega) (by omega)
  refine tw_iald (i := x11) hx hb hK hT hg1 shm_2 rfl (vin_t (a := x11.toInt) rfl (by omega) (by omega)) dX12_leaves_23 (fun v9 m13 h9 => ?_)
  obtain ⟨x14, rfl, gx14, kx14⟩ := (gw_at h9 (w_wat (by have q9 := tn_of (show x11.toInt = x11.toInt from rfl) (show (0 : Int) ≤ x11.toInt from by omega); omega)) hgn (fun _ => Int.le_refl 0))
  obtain rfl : wv = x14 := (el_same m13 hm_wv (show x11.toInt = ix_wv.toInt from by rw []; try omega)).symm
  refine lv_bipush (v := 10) hx hb dX12_leaves_24 (by decide) ?_
  refine lv_iadd hx hb dX12_leaves_26 ?_
  refine lv_topi (fun x15 ex15 => ?_)
  have t16 : x15.toInt = wv.toInt + 10 := ti_add ex15 rfl (by decide) (by omega) (by omega)
  refine lv_i2l (v := x15.toInt64) hx hb dX12_leaves_27 rfl ?_
  refine lv_ldiv hx hb dX12_leaves_28 (i2l_ne rfl (by omega)) ?_
  refine lv_topl (fun y17 _ => ?_)
  refine lv_l2i (v := y17.toInt32) hx hb dX12_leaves_29 rfl ?_
  refine lv_topi (fun x18 _ => ?_)
  refine lv_istore_n (lv' := [(3, .int x18), (0, .ref o0), (1, .int sq), (2, .int nn)]) hx hb dX12_leaves_30 rfl hl (by decide) rfl (fun ls hl => ?_)
  refine lv_aload_n hx hb dX12_leaves_31 rfl (lv_at hl 1 rfl) ?_
  refine tw_get hx hb hts bF_X12 hown hK hT hr_o0 shm_0 rfl 1 (by decide) (ht_at hts 0 rfl) (fun _ h9 => h9) dX12_leaves_32 (fun v9 m19 h9 => ?_)
  obtain ⟨rfl, hg20⟩ := h9 _ rfl
  refine lv_sipush (v := 480) hx hb dX12_leaves_35 (by decide) ?_
  refine lv_iload_n hx hb dX12_leaves_38 rfl (lv_at hl 2 rfl) ?_
  refine lv_iadd hx hb dX12_leaves_39 ?_
  refine lv_topi (fun x21 ex21 => ?_)
  have t22 : x21.toInt = 480 + sq.toInt := ti_add ex21 (by decide) rfl (by omega) (by omega)
  refine lv_dup2_11 hx hb dX12_leaves_40 rfl rfl ?_
  refine tw_iald (i := x21) hx hb hK hT hg1 shm_2 rfl (vin_t (a := x21.toInt) rfl (by omega) (by omega)) dX12_leaves_41 (fun v9 m23 h9 => ?_)
  obtain ⟨x24, rfl, gx24, kx24⟩ := (gp_at h9 (w_fre (by have q9 := tn_of (show x21.toInt = x21.toInt from rfl) (show (0 : Int) ≤ x21.toInt from by omega); omega)))
  obtain rfl : x7 = x24 := (el_same m23 m6 (show x21.toInt = x4.toInt from by rw []; try omega)).symm
  refine lv_iload_n hx hb dX12_leaves_42 rfl (lv_at hl 0 rfl) ?_
  refine lv_isub hx hb dX12_leaves_43 ?_
  refine lv_topi (fun x25 ex25 => ?_)
  refine tw_iast (i := x21) (x := x25) hx hb hK hT hG hS hg1 shm_2 rfl (vin_t (a := x21.toInt) rfl (by omega) (by omega)) (gp_of (gi_all _) (w_fre (by have q9 := tn_of (show x21.toInt = x21.toInt from rfl) (show (0 : Int) ≤ x21.toInt from by omega); omega)) (wX_o (by have q9 := tn_of (show x21.toInt = x21.toInt from rfl) (show (0 : Int) ≤ x21.toInt from by omega); omega) (by omega))) dX12_leaves_44 (fun H locs hT oq m26 oi hS => ?_)
  have hF := hF.ast hg1 skm_2 oq (by decide)
  have m27 := (oi _ (tn_ne (show ix_wv.toInt = ix_wv.toInt from rfl) (show x21.toInt = x21.toInt from rfl) (by omega) (by omega) (by omega))).trans hm_wv
  refine lv_aload_n hx hb dX12_leaves_45 rfl (lv_at hl 1 rfl) ?_
  refine tw_get hx hb hts bF_X12 hown hK hT hr_o0 shm_0 rfl 1 (by decide) (ht_at hts 0 rfl) (fun _ h9 => h9) dX12_leaves_46 (fun v9 m28 h9 => ?_)
  obtain ⟨rfl, hg29⟩ := h9 _ rfl
  refine lv_sipush (v := 384) hx hb dX12_leaves_49 (by decide) ?_
  refine lv_iload_n hx hb dX12_leaves_52 rfl (lv_at hl 2 rfl) ?_
  refine lv_iadd hx hb dX12_leaves_53 ?_
  refine lv_topi (fun x30 ex30 => ?_)
  have t31 : x30.toInt = 384 + sq.toInt := ti_add ex30 (by decide) rfl (by omega) (by omega)
  refine lv_dup2_11 hx hb dX12_leaves_54 rfl rfl ?_
  refine tw_iald (i := x30) hx hb hK hT hg1 shm_2 rfl (vin_t (a := x30.toInt) rfl (by omega) (by omega)) dX12_leaves_55 (fun v9 m32 h9 => ?_)
  obtain ⟨x33, rfl, gx33, kx33⟩ := (gw_at h9 (w_wat (by have q9 := tn_of (show x30.toInt = x30.toInt from rfl) (show (0 : Int) ≤ x30.toInt from by omega); omega)) hgn (fun _ => Int.le_refl 0))
  obtain rfl : wv = x33 := (el_same m32 m27 (show x30.toInt = ix_wv.toInt from by rw []; try omega)).symm
  refine lv_iload_n hx hb dX12_leaves_56 rfl (lv_at hl 3 rfl) ?_
  refine lv_isub hx hb dX12_leaves_57 ?_
  refine lv_topi (fun x34 ex34 => ?_)
  have t35 : x34.toInt = wv.toInt - nn.toInt := ti_sub ex34 rfl rfl (by omega) (by omega)
  have t36 : 6500000 ≤ wN x30.toNatClampNeg ∧ wN x30.toNatClampNeg ≤ 20200000 := hgn _
  have t37 : wN ix_wv.toNatClampNeg = wN x30.toNatClampNeg := congrArg _ (tn_same (show ix_wv.toInt = ix_wv.toInt from rfl) (show x30.toInt = x30.toInt from rfl) (by omega))
  refine tw_iast (i := x30) (x := x34) hx hb hK hT hG hS hg1 shm_2 rfl (vin_t (a := x30.toInt) rfl (by omega) (by omega)) (gp_of (gi_of (show x34.toInt = x34.toInt from rfl) (by omega) (by omega)) (w_wat0 (by have q9 := tn_of (show x30.toInt = x30.toInt from rfl) (show (0 : Int) ≤ x30.toInt from by omega); omega)) (wX_o (by have q9 := tn_of (show x30.toInt = x30.toInt from rfl) (show (0 : Int) ≤ x30.toInt from by omega); omega) (by omega))) dX12_leaves_58 (fun H locs hT oq m38 oi hS => ?_)
  have hF := hF.ast hg1 skm_2 oq (by decide)
  refine lv_iload_n hx hb dX12_leaves_59 rfl (lv_at hl 0 rfl) ?_
  exact W.iret (v := x18) hx hb hr (fun t ht hW => ⟨⟨x18, (), rfl, (by exact trivial), by (try dsimp only); rw [ht]; exact ⟨hT, hF⟩⟩, hS.F ht⟩) hS.2.2 dX12_leaves_60
