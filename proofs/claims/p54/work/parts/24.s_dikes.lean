def w_s_dikes : List Cond := .code yX12_dikes cX12_dikes 6 none :: (HAppend.hAppend (α := List Cond) (β := List Cond) (γ := List Cond) [.code yX12_of cX12_of 3 (some .int), .fieldLink RX12 9 "SeaLandModel" "world" "[I", .code yX12_at cX12_at 2 (some .int), .methodLink RX12 214 yX12_at, .static yX12_at, .initialized RX12, .methodLink RX12 217 yX12_of, .instanceMethod yX12_of, .selects RX12 yX12_of yX12_of, .code yX12_seepOf cX12_seepOf 8 (some .int), .code yX12_level cX12_level 2 (some .int), .code yX12_isLand cX12_isLand 2 (some .boolean), .methodLink RX12 235 yX12_isLand, .instanceMethod yX12_isLand, .selects RX12 yX12_isLand yX12_isLand, .methodLink RX12 285 yX12_level, .instanceMethod yX12_level, .selects RX12 yX12_level yX12_level, .methodLink RX12 211 Lib.Math.max.name, .static Lib.Math.max.name, .initialized "java/lang/Math", .code Lib.Math.max.name Lib.Math.max.code 2 (some .int), .methodLink RX12 288 yX12_seepOf, .instanceMethod yX12_seepOf, .selects RX12 yX12_seepOf yX12_seepOf, .code yX12_crest cX12_crest 4 (some .int), .methodLink RX12 282 yX12_crest, .instanceMethod yX12_crest, .selects RX12 yX12_crest yX12_crest, .methodLink RX12 207 Lib.Math.min.name, .static Lib.Math.min.name, .code Lib.Math.min.name Lib.Math.min.code 2 (some .int), .code yX12_leaves cX12_leaves 4 (some .int), .methodLink RX12 291 yX12_leaves, .instanceMethod yX12_leaves, .selects RX12 yX12_leaves yX12_leaves, .code yX12_brings cX12_brings 3 none, .methodLink RX12 294 yX12_brings, .instanceMethod yX12_brings, .selects RX12 yX12_brings yX12_brings] bs)
set_option maxHeartbeats 4000000 in
set_option maxRecDepth 100000 in
theorem s_dikes (l : Launch) (dC : Nat → ClassId) (dI : Nat → Nat → Nat) (kA : Nat → ClassId) (adK adV : Nat → Nat) (G : gT) (H0 : Heap) (q : Nat → Nat) (wZ wN : Nat → Int) (wH wB wC : Int) (wL wK : Nat → Prop) (wU wV : Nat → Nat) (PI : Nat → Int → Prop) (im : Int) (PM PT : Nat → Int → Prop) (lS lB lE : Nat → Nat → Int → Prop) (lN : Nat → Int) (o0 : Nat) (wk : Int32) (ou : Int32)  (hT : gH (dC, dI) kA (SHm q (wP wZ0 wN wH wB wC wL wK wU wV) PI im PM PT lS lB lE lN) G H0) (hr_o0 : G o0 = some 0) (hq0 : 0 ≤ wk.toInt ∧ wk.toInt ≤ 29) (hq1 : -400 ≤ ou.toInt ∧ ou.toInt ≤ 10400) (hc_ : wk.toInt < wC) (hk_ : wK wk.toNatClampNeg) (hgw : wG wC wL wK wU wV) (hgz : ∀ i, 0 ≤ wZ i) (hgn : ∀ i, 6500000 ≤ wN i ∧ wN i ≤ 20200000) (hgh : 0 ≤ wH ∧ wH ≤ 40000) (hgb : 0 ≤ wB ∧ wB ≤ 3850000) (hgc : 0 ≤ wC ∧ wC ≤ 30) (hgi : 0 ≤ im ∧ im ≤ 1) (hgu : ∀ a t, G a = some (t + 1) → a = q t) : Met l yX12_dikes w_s_dikes ({ frames := 3, cells := 0, slots := 0, locals := 70 }) (va_Pc [.ref o0, .int wk, .int ou] (fun U => U.heap = H0 ∧ va_K (dC, dI) vwCl (tyl kA) U ∧ EVS adK adV (gA G H0.size) U U.heap)) (va_Qv (fun (u : Unit) => True) (fun (_ : Unit) (t : State) => gH (dC, dI) kA (SHm q (wP wZ0 wN wH wB wC wL wK wU wV) PI im PM PT lS lB lE lN) G t.heap ∧ gF (dC, dI) SKm G ([(2, 0)] : List (Nat × Nat)) H0 t.heap) (gA G H0.size)) 0 0 (gA G H0.size) := by
  refine Met.ofW (cc := cX12_dikes) (maxL := 6) (ret := none) (by decide) rfl ?_
  intro p e s m args below meth c s₁ B hml hv
  obtain ⟨rfl, hH0, hK, hE⟩ := hv
  have hx := B.exec
  have hb := B.bytes
  have hr := B.returns
  have hts := atoms_spec (ws := w_s_dikes) B.pre
  have hown : s.vm.findClass RX12 = some m.cls := findClass_of_methodNamed B.named
  have hlocks := B.notSynchronized
  subst hH0
  generalize hAe : gA G s.heap.size = A at hE ⊢
  have hA : ∀ q : Nat, s.heap.size ≤ q → A q := fun q h => by rw [← hAe]; exact Or.inr h
  have hG := gA_of hAe
  have hS : va_S A s.heap s.heap [] := va_S.rf
  have hF : gF (dC, dI) SKm G ([(2, 0)] : List (Nat × Nat)) s.heap s.heap := gF.rf
  have hl := lv_entry ([.ref o0, .int wk, .int ou]) (n := 6) (Nat.le_of_ble_eq_true rfl)
  rw [lg_entry_eq]
  generalize (lg_sl ([.ref o0, .int wk, .int ou]) ++ List.replicate (6 - (lg_sl ([.ref o0, .int wk, .int ou])).length) Slot.unset).toArray = ls at hl ⊢
  have hl : lv_has ls 6 [(0, .ref o0), (1, .int wk), (2, .int ou)] := hl
  refine lv_aload_n hx hb dX12_dikes_0 rfl (lv_at hl 0 rfl) ?_
  refine lv_iload_n hx hb dX12_dikes_1 rfl (lv_at hl 1 rfl) ?_
  refine lv_iconst (v := 2) hx hb dX12_dikes_2 (by decide) ?_
  have hFc := gA_free hG hA hS
  refine va_calli (va_runV (As := [.int wk, .int 2]) (rest := []) ⟨hx, hb, hml, hown, hts⟩ (s_of2 l dC dI kA adK adV G s.heap q wZ0 wN wH wB wC wL wK wU wV PI im PM PT lS lB lE lN o0 wk hT hr_o0 (by have q8 := ti_all wk; omega) (fun _ => Int.le_refl 0) hgn hgh hgb hgc hgi hgu) (cwV 2 hts (goodIn_app (goodIn_r _ [7, 8, 9, 6] rfl (by decide +kernel)) (goodIn_ca (goodIn_r _ [1, 2, 3, 4, 5, 6] rfl (by decide +kernel)) (bs_in _ _))) rfl rfl rfl (by decide +kernel) ⟨(Nat.le_of_ble_eq_true rfl), (Nat.le_of_ble_eq_true rfl)⟩) ⟨fun a U g mk q => by obtain ⟨q0, q1, qK, qE⟩ := q; exact ⟨q0, q1, va_K.moved (u := U) (U := U.calling g mk a) (Vm.Alike.refl U.vm) qK, EVS.blind g mk a qE⟩, gH_rc hK hT hr_o0 shm_0 rfl, fun U hU hW => ⟨rfl, hU, va_K.moved hW.alike hK, hE.call hS hFc hU hW⟩⟩ rfl rfl hl.1 rfl (lv_room (Nat.le_of_ble_eq_true rfl)) dX12_dikes_3 ⟨(Nat.le_of_ble_eq_true rfl), (Nat.le_of_ble_eq_true rfl)⟩) hS (fun q _ h => hFc q h) hFc (fun r1 u t H locs ht hvm hw2 hB _ _ hS => ?_)
  obtain ⟨hT, hF1⟩ := hB
  rw [ht] at hT hF1
  have hF := hF.more hF1 (by decide)
  try dsimp only at hw2
  obtain ⟨h3, ⟨ix4, hix4, m5⟩⟩ := hw2
  have hg6 : G (q 1) = some 2 := gx_of hT hr_o0 shm_0 (k := 1) (by decide) rfl
  have m7 := (el_kept (hF1.arr hg6 skm_2 (by decide))).trans m5
  refine lv_istore_n (lv' := [(3, .int r1), (0, .ref o0), (1, .int wk), (2, .int ou)]) hx hb dX12_dikes_6 rfl hl (by decide) rfl (fun ls hl => ?_)
  have hw_ : ((wk.toNatClampNeg : Nat) : Int) < wC := by have q9 := tn_of (i := wk) rfl (by omega); omega
  have hlt_ : wL r1.toNatClampNeg := wG_to hgw hw_ hk_ (wV_of hT hg6 (show ix4.toInt = 770 + 22 * wk.toInt from by have q9 := (show ix4.toInt = ix4.toInt from rfl); omega) (by omega) hc_ (by omega) m7)
  obtain ⟨x8, ex8⟩ : ∃ y : Int32, y = (96 : Int32) + r1 := ⟨_, rfl⟩
  have t9 : x8.toInt = 96 + r1.toInt := ti_add ex8 (by decide) rfl (by omega) (by omega)
  obtain ⟨v9, m10, h9⟩ := gH_el (i := x8.toNatClampNeg) hT hg6 shm_2 (by have q9 := tn_of (show x8.toInt = x8.toInt from rfl) (by omega); omega)
  obtain ⟨x11, rfl, gx11, kx11⟩ := (gp_at h9 (w_hgt (by have q9 := tn_of (show x8.toInt = x8.toInt from rfl) (show (0 : Int) ≤ x8.toInt from by omega); omega)))
  obtain ⟨x12, ex12⟩ : ∃ y : Int32, y = (384 : Int32) + r1 := ⟨_, rfl⟩
  have t13 : x12.toInt = 384 + r1.toInt := ti_add ex12 (by decide) rfl (by omega) (by omega)
  obtain ⟨v9, m14, h9⟩ := gH_el (i := x12.toNatClampNeg) hT hg6 shm_2 (by have q9 := tn_of (show x12.toInt = x12.toInt from rfl) (by omega); omega)
  obtain ⟨x15, rfl, gx15, kx15⟩ := (gw_at h9 (w_wat (by have q9 := tn_of (show x12.toInt = x12.toInt from rfl) (show (0 : Int) ≤ x12.toInt from by omega); omega)) hgn (fun _ => Int.le_refl 0))
  refine lv_aload_n hx hb dX12_dikes_7 rfl (lv_at hl 1 rfl) ?_
  refine lv_iload_n hx hb dX12_dikes_8 rfl (lv_at hl 2 rfl) ?_
  refine lv_iconst (v := 0) hx hb dX12_dikes_9 (by decide) ?_
  have hFc := gA_free hG hA hS
  refine va_calli (va_runV (As := [.int wk, .int 0]) (rest := []) ⟨hx, hb, hml, hown, hts⟩ (s_of0 l dC dI kA adK adV G H q wZ0 wN wH wB wC wL wK wU wV PI im PM PT lS lB lE lN o0 wk hT hr_o0 (by have q8 := ti_all wk; omega) (fun _ => Int.le_refl 0) hgn hgh hgb hgc hgi hgu) (cwV 2 hts (goodIn_app (goodIn_r _ [7, 8, 9, 6] rfl (by decide +kernel)) (goodIn_ca (goodIn_r _ [1, 2, 3, 4, 5, 6] rfl (by decide +kernel)) (bs_in _ _))) rfl rfl rfl (by decide +kernel) ⟨(Nat.le_of_ble_eq_true rfl), (Nat.le_of_ble_eq_true rfl)⟩) ⟨fun a U g mk q => by obtain ⟨q0, q1, qK, qE⟩ := q; exact ⟨q0, q1, va_K.moved (u := U) (U := U.calling g mk a) (Vm.Alike.refl U.vm) qK, EVS.blind g mk a qE⟩, gH_rc hK hT hr_o0 shm_0 rfl, fun U hU hW => ⟨rfl, hU, va_K.moved hW.alike hK, hE.call hS hFc hU hW⟩⟩ rfl rfl hl.1 rfl (lv_room (Nat.le_of_ble_eq_true rfl)) dX12_dikes_10 ⟨(Nat.le_of_ble_eq_true rfl), (Nat.le_of_ble_eq_true rfl)⟩) hS (fun q _ h => hFc q h) hFc (fun r16 u t H locs ht hvm hw17 hB _ _ hS => ?_)
  obtain ⟨hT, hF1⟩ := hB
  rw [ht] at hT hF1
  have m18 := (el_kept (hF1.arr hg6 skm_2 (by decide))).trans m7
  have m19 := (el_kept (hF1.arr hg6 skm_2 (by decide))).trans m10
  have m20 := (el_kept (hF1.arr hg6 skm_2 (by decide))).trans m14
  have hF := hF.more hF1 (by decide)
  try dsimp only at hw17
  have ⟨ix21, hix21, m22⟩ := hw17
  have jn130 : ∀ (z124 : Int32), ((-20200000 ≤ z124.toInt ∧ z124.toInt ≤ 20200000) ∧ (-x15.toInt ≤ z124.toInt ∧ (z124.toInt ≤ 0 ∨ z124.toInt + x11.toInt + x15.toInt ≤ ou.toInt))) → ∀ (H : Heap) (locs : List Loc), gH (dC, dI) kA (SHm q (wP wZ0 wN wH wB wC wL wK wU wV) PI im PM PT lS lB lE lN) G H → gF (dC, dI) SKm G ([(2, 0)] : List (Nat × Nat)) s.heap H → va_S A s.heap H locs → el H (q 1) ix4.toNatClampNeg = some (.int r1) → el H (q 1) x8.toNatClampNeg = some (.int x11) → el H (q 1) x12.toNatClampNeg = some (.int x15) → ∀ ls : Array Slot, lv_has ls 6 [(4, .int z124), (3, .int r1), (0, .ref o0), (1, .int wk), (2, .int ou)] → W p l e (headSpec w_s_dikes ({ frames := 3, cells := 0, slots := 0, locals := 70 })).room s m #[.ref o0, .int wk, .int ou] below meth c H locs 0 0 (MQ below (va_Qv (fun (u : Unit) => True) (fun (_ : Unit) (t : State) => gH (dC, dI) kA (SHm q (wP wZ0 wN wH wB wC wL wK wU wV) PI im PM PT lS lB lE lN) G t.heap ∧ gF (dC, dI) SKm G ([(2, 0)] : List (Nat × Nat)) s.heap t.heap) A) #[.ref o0, .int wk, .int ou] s 0 0 A) (F0 m 73 ls []) := by
    intro z124 ⟨h125, hj129⟩ H locs hT hF hS m126 m127 m128 ls hl
    refine lv_aload_n hx hb dX12_dikes_73 rfl (lv_at hl 2 rfl) ?_
    refine lv_iload_n hx hb dX12_dikes_74 rfl (lv_at hl 3 rfl) ?_
    refine lv_iconst (v := 0) hx hb dX12_dikes_75 (by decide) ?_
    have hFc := gA_free hG hA hS
    refine va_calli (va_runV (As := [.int wk, .int 0]) (rest := []) ⟨hx, hb, hml, hown, hts⟩ (s_of0 l dC dI kA adK adV G H q wZ0 wN wH wB wC wL wK wU wV PI im PM PT lS lB lE lN o0 wk hT hr_o0 (by have q8 := ti_all wk; omega) (fun _ => Int.le_refl 0) hgn hgh hgb hgc hgi hgu) (cwV 2 hts (goodIn_app (goodIn_r _ [7, 8, 9, 6] rfl (by decide +kernel)) (goodIn_ca (goodIn_r _ [1, 2, 3, 4, 5, 6] rfl (by decide +kernel)) (bs_in _ _))) rfl rfl rfl (by decide +kernel) ⟨(Nat.le_of_ble_eq_true rfl), (Nat.le_of_ble_eq_true rfl)⟩) ⟨fun a U g mk q => by obtain ⟨q0, q1, qK, qE⟩ := q; exact ⟨q0, q1, va_K.moved (u := U) (U := U.calling g mk a) (Vm.Alike.refl U.vm) qK, EVS.blind g mk a qE⟩, gH_rc hK hT hr_o0 shm_0 rfl, fun U hU hW => ⟨rfl, hU, va_K.moved hW.alike hK, hE.call hS hFc hU hW⟩⟩ rfl rfl hl.1 rfl (lv_room (Nat.le_of_ble_eq_true rfl)) dX12_dikes_76 ⟨(Nat.le_of_ble_eq_true rfl), (Nat.le_of_ble_eq_true rfl)⟩) hS (fun q _ h => hFc q h) hFc (fun r131 u t H locs ht hvm hw132 hB _ _ hS => ?_)
    obtain ⟨hT, hF1⟩ := hB
    rw [ht] at hT hF1
    have m133 := (el_kept (hF1.arr hg6 skm_2 (by decide))).trans m126
    have m134 := (el_kept (hF1.arr hg6 skm_2 (by decide))).trans m127
    have m135 := (el_kept (hF1.arr hg6 skm_2 (by decide))).trans m128
    have hF := hF.more hF1 (by decide)
    try dsimp only at hw132
    have ⟨ix136, hix136, m137⟩ := hw132
    have m138 := (el_kept (hF1.arr hg6 skm_2 (by decide))).trans m137
    refine lv_iconst (v := 1) hx hb dX12_dikes_79 (by decide) ?_
    have jn212 : ∀ (z205 : Int32), ((-20200000 ≤ z205.toInt ∧ z205.toInt ≤ 20200000) ∧ (-x15.toInt ≤ z205.toInt ∧ (z205.toInt ≤ 0 ∨ z205.toInt + x11.toInt + x15.toInt ≤ ou.toInt))) → ∀ (H : Heap) (locs : List Loc), gH (dC, dI) kA (SHm q (wP wZ0 wN wH wB wC wL wK wU wV) PI im PM PT lS lB lE lN) G H → gF (dC, dI) SKm G ([(2, 0)] : List (Nat × Nat)) s.heap H → va_S A s.heap H locs → el H (q 1) ix4.toNatClampNeg = some (.int r1) → el H (q 1) x8.toNatClampNeg = some (.int x11) → el H (q 1) x12.toNatClampNeg = some (.int x15) → el H (q 1) ix136.toNatClampNeg = some (.int r131) → ∀ ls : Array Slot, lv_has ls 6 [(4, .int z205), (3, .int r1), (0, .ref o0), (1, .int wk), (2, .int ou)] → W p l e (headSpec w_s_dikes ({ frames := 3, cells := 0, slots := 0, locals := 70 })).room s m #[.ref o0, .int wk, .int ou] below meth c H locs 0 0 (MQ below (va_Qv (fun (u : Unit) => True) (fun (_ : Unit) (t : State) => gH (dC, dI) kA (SHm q (wP wZ0 wN wH wB wC wL wK wU wV) PI im PM PT lS lB lE lN) G t.heap ∧ gF (dC, dI) SKm G ([(2, 0)] : List (Nat × Nat)) s.heap t.heap) A) #[.ref o0, .int wk, .int ou] s 0 0 A) (F0 m 142 ls []) := by
      intro z205 ⟨h206, hj211⟩ H locs hT hF hS m207 m208 m209 m210 ls hl
      refine lv_iload hx hb dX12_dikes_142 (lv_at hl 0 rfl) ?_
      have jn266 : ∀ (H : Heap) (locs : List Loc), gH (dC, dI) kA (SHm q (wP wZ0 wN wH wB wC wL wK wU wV) PI im PM PT lS lB lE lN) G H → gF (dC, dI) SKm G ([(2, 0)] : List (Nat × Nat)) s.heap H → va_S A s.heap H locs → ∀ ls : Array Slot, lv_has ls 6 [(4, .int z205), (3, .int r1), (0, .ref o0), (1, .int wk), (2, .int ou)] → W p l e (headSpec w_s_dikes ({ frames := 3, cells := 0, slots := 0, locals := 70 })).room s m #[.ref o0, .int wk, .int ou] below meth c H locs 0 0 (MQ below (va_Qv (fun (u : Unit) => True) (fun (_ : Unit) (t : State) => gH (dC, dI) kA (SHm q (wP wZ0 wN wH wB wC wL wK wU wV) PI im PM PT lS lB lE lN) G t.heap ∧ gF (dC, dI) SKm G ([(2, 0)] : List (Nat × Nat)) s.heap t.heap) A) #[.ref o0, .int wk, .int ou] s 0 0 A) (F0 m 219 ls []) := by
        intro  H locs hT hF hS  ls hl
        refine lv_aload_n hx hb dX12_dikes_219 rfl (lv_at hl 2 rfl) ?_
        refine lv_iload_n hx hb dX12_dikes_220 rfl (lv_at hl 3 rfl) ?_
        refine lv_iload hx hb dX12_dikes_221 (lv_at hl 0 rfl) ?_
        have hFc := gA_free hG hA hS
        refine va_callv (va_runV (As := [.int wk, .int z205]) (rest := []) ⟨hx, hb, hml, hown, hts⟩ (s_brings l dC dI kA adK adV G H q wZ0 wN wH wB wC wL wK wU wV PI im PM PT lS lB lE lN o0 wk z205 hT hr_o0 (by have q8 := ti_all wk; omega) (fun _ => Int.le_refl 0) hgn hgh hgb hgc hgi hgu) (cwV 2 hts (goodIn_app (goodIn_r _ [38, 39, 40, 6] rfl (by decide +kernel)) (goodIn_ca (goodIn_r _ [37, 2, 3, 4, 5, 6] rfl (by decide +kernel)) (bs_in _ _))) rfl rfl rfl (by decide +kernel) ⟨(Nat.le_of_ble_eq_true rfl), (Nat.le_of_ble_eq_true rfl)⟩) ⟨fun a U g mk q => by obtain ⟨q0, q1, qK, qE⟩ := q; exact ⟨q0, q1, va_K.moved (u := U) (U := U.calling g mk a) (Vm.Alike.refl U.vm) qK, EVS.blind g mk a qE⟩, gH_rc hK hT hr_o0 shm_0 rfl, fun U hU hW => ⟨rfl, hU, va_K.moved hW.alike hK, hE.call hS hFc hU hW⟩⟩ rfl rfl hl.1 rfl (lv_room (Nat.le_of_ble_eq_true rfl)) dX12_dikes_223 ⟨(Nat.le_of_ble_eq_true rfl), (Nat.le_of_ble_eq_true rfl)⟩) hS (fun q _ h => hFc q h) hFc (fun u t H locs ht hvm hw268 hB _ _ hS => ?_)
        obtain ⟨hT, hF1⟩ := hB
        rw [ht] at hT hF1
        have hF := hF.more hF1 (by decide)
        try dsimp only at hw268
        exact W.vret hx hb hr (fun t ht hW => ⟨⟨(), rfl, (by exact trivial), by (try dsimp only); rw [ht]; exact ⟨hT, hF⟩⟩, hS.F ht⟩) hS.2.2 dX12_dikes_226
      refine lv_if_lt (tgt := 196) hx hb dX12_dikes_144 (by decide) (fun c269 => ?_) (fun c269 => ?_)
      · have t270 : z205.toInt < 0 := ti_lt c269 rfl (by decide)
        refine lv_aload_n hx hb dX12_dikes_196 rfl (lv_at hl 2 rfl) ?_
        refine lv_iload_n hx hb dX12_dikes_197 rfl (lv_at hl 1 rfl) ?_
        refine lv_iload hx hb dX12_dikes_198 (lv_at hl 0 rfl) ?_
        refine lv_ineg hx hb dX12_dikes_200 ?_
        refine lv_topi (fun x271 ex271 => ?_)
        have t272 : x271.toInt = -z205.toInt := ti_neg ex271 rfl (by omega) (by omega)
        have hFc := gA_free hG hA hS
        refine va_calli (va_runV (As := [.int r1, .int x271]) (rest := []) ⟨hx, hb, hml, hown, hts⟩ (s_leaves l dC dI kA adK adV G H q wZ0 wN wH wB wC wL wK wU wV PI im PM PT lS lB lE lN o0 r1 x271 x15 x12 hT hr_o0 (by have q8 := ti_all r1; omega) (by have q8 := ti_all x271; omega) (by omega) (by have q9 := (show x12.toInt = x12.toInt from rfl); have := (show r1.toInt = r1.toInt from rfl); omega) m209 (by have q8 := ti_all x15; omega) (fun _ => Int.le_refl 0) hgn hgh hgb hgc hgi hgu) (cwV 2 hts (goodIn_app (goodIn_r _ [34, 35, 36, 6] rfl (by decide +kernel)) (goodIn_ca (goodIn_r _ [33, 2] rfl (by decide +kernel)) (bs_in _ _))) rfl rfl rfl (by decide +kernel) ⟨(Nat.le_of_ble_eq_true rfl), (Nat.le_of_ble_eq_true rfl)⟩) ⟨fun a U g mk q => by obtain ⟨q0, q1, qK, qE⟩ := q; exact ⟨q0, q1, va_K.moved (u := U) (U := U.calling g mk a) (Vm.Alike.refl U.vm) qK, EVS.blind g mk a qE⟩, gH_rc hK hT hr_o0 shm_0 rfl, fun U hU hW => ⟨rfl, hU, va_K.moved hW.alike hK, hE.call hS hFc hU hW⟩⟩ rfl rfl hl.1 rfl (lv_room (Nat.le_of_ble_eq_true rfl)) dX12_dikes_201 ⟨(Nat.le_of_ble_eq_true rfl), (Nat.le_of_ble_eq_true rfl)⟩) hS (fun q _ h => hFc q h) hFc (fun r273 u t H locs ht hvm hw274 hB _ _ hS => ?_)
        obtain ⟨hT, hF1⟩ := hB
        rw [ht] at hT hF1
        have hF := hF.more hF1 (by decide)
        try dsimp only at hw274
        refine lv_istore (lv' := [(5, .int r273), (4, .int z205), (3, .int r1), (0, .ref o0), (1, .int wk), (2, .int ou)]) hx hb dX12_dikes_204 hl (by decide) rfl (fun ls hl => ?_)
        refine lv_aload_n hx hb dX12_dikes_206 rfl (lv_at hl 3 rfl) ?_
        refine tw_get hx hb hts bF_X12 hown hK hT hr_o0 shm_0 rfl 1 (by decide) (ht_at hts 1 rfl) (fun _ h9 => h9) dX12_dikes_207 (fun v9 m279 h9 => ?_)
        obtain ⟨rfl, hg280⟩ := h9 _ rfl
        refine lv_sipush (v := 1747) hx hb dX12_dikes_210 (by decide) ?_
        refine lv_dup2_11 hx hb dX12_dikes_213 rfl rfl ?_
        refine tw_iald (i := 1747) hx hb hK hT hg6 shm_2 rfl (by unfold vp_in; decide) dX12_dikes_214 (fun v9 m281 h9 => ?_)
        obtain ⟨x282, rfl, gx282, kx282⟩ := (gp_at h9 (w_fre (by have q9 := tn_of (show (1747 : Int32).toInt = 1747 from (by decide)) (show (0 : Int) ≤ 1747 from by omega); omega)))
        refine lv_iload hx hb dX12_dikes_215 (lv_at hl 1 rfl) ?_
        refine lv_isub hx hb dX12_dikes_217 ?_
        refine lv_topi (fun x283 ex283 => ?_)
        refine tw_iast (i := 1747) (x := x283) hx hb hK hT hG hS hg6 shm_2 rfl (by unfold vp_in; decide) (gp_of (gi_all _) (w_fre (by have q9 := tn_of (show (1747 : Int32).toInt = 1747 from (by decide)) (show (0 : Int) ≤ 1747 from by omega); omega)) (wX_o (by have q9 := tn_of (show (1747 : Int32).toInt = 1747 from (by decide)) (show (0 : Int) ≤ 1747 from by omega); omega) (by omega))) dX12_dikes_218 (fun H locs hT oq m284 oi hS => ?_)
        have hF := hF.ast hg6 skm_2 oq (by decide)
        exact jn266 _ _ hT hF hS ls (lv_sub hl [1, 2, 3, 4, 5] rfl)
      · have t285 : 0 ≤ z205.toInt := ti_nlt c269 rfl (by decide)
        refine lv_aload_n hx hb dX12_dikes_147 rfl (lv_at hl 2 rfl) ?_
        refine tw_get hx hb hts bF_X12 hown hK hT hr_o0 shm_0 rfl 1 (by decide) (ht_at hts 1 rfl) (fun _ h9 => h9) dX12_dikes_148 (fun v9 m286 h9 => ?_)
        obtain ⟨rfl, hg287⟩ := h9 _ rfl
        refine lv_sipush (v := 384) hx hb dX12_dikes_151 (by decide) ?_
        refine lv_iload_n hx hb dX12_dikes_154 rfl (lv_at hl 1 rfl) ?_
        refine lv_iadd hx hb dX12_dikes_155 ?_
        refine lv_topi (fun x288 ex288 => ?_)
        have t289 : x288.toInt = 384 + r1.toInt := ti_add ex288 (by decide) rfl (by omega) (by omega)
        refine lv_dup2_11 hx hb dX12_dikes_156 rfl rfl ?_
        refine tw_iald (i := x288) hx hb hK hT hg6 shm_2 rfl (vin_t (a := x288.toInt) rfl (by omega) (by omega)) dX12_dikes_157 (fun v9 m290 h9 => ?_)
        obtain ⟨x291, rfl, gx291, kx291⟩ := (gw_at h9 (w_wat (by have q9 := tn_of (show x288.toInt = x288.toInt from rfl) (show (0 : Int) ≤ x288.toInt from by omega); omega)) hgn (fun _ => Int.le_refl 0))
        obtain rfl : x15 = x291 := (el_same m290 m209 (show x288.toInt = x12.toInt from by rw []; try omega)).symm
        refine lv_iload hx hb dX12_dikes_158 (lv_at hl 0 rfl) ?_
        refine lv_iadd hx hb dX12_dikes_160 ?_
        refine lv_topi (fun x292 ex292 => ?_)
        have t293 : x292.toInt = x15.toInt + z205.toInt := ti_add ex292 rfl rfl (by omega) (by omega)
        have t294 : 6500000 ≤ wN x288.toNatClampNeg ∧ wN x288.toNatClampNeg ≤ 20200000 := hgn _
        have t295 : wN x12.toNatClampNeg = wN x288.toNatClampNeg := congrArg _ (tn_same (show x12.toInt = x12.toInt from rfl) (show x288.toInt = x288.toInt from rfl) (by omega))
        refine tw_iast (i := x288) (x := x292) hx hb hK hT hG hS hg6 shm_2 rfl (vin_t (a := x288.toInt) rfl (by omega) (by omega)) (gp_of (gi_of (show x292.toInt = x292.toInt from rfl) (by omega) (by omega)) (w_wat0 (by have q9 := tn_of (show x288.toInt = x288.toInt from rfl) (show (0 : Int) ≤ x288.toInt from by omega); omega)) (wX_o (by have q9 := tn_of (show x288.toInt = x288.toInt from rfl) (show (0 : Int) ≤ x288.toInt from by omega); omega) (by omega))) dX12_dikes_161 (fun H locs hT oq m296 oi hS => ?_)
        have hF := hF.ast hg6 skm_2 oq (by decide)
        refine lv_aload_n hx hb dX12_dikes_162 rfl (lv_at hl 2 rfl) ?_
        refine tw_get hx hb hts bF_X12 hown hK hT hr_o0 shm_0 rfl 1 (by decide) (ht_at hts 1 rfl) (fun _ h9 => h9) dX12_dikes_163 (fun v9 m300 h9 => ?_)
        obtain ⟨rfl, hg301⟩ := h9 _ rfl
        refine lv_sipush (v := 480) hx hb dX12_dikes_166 (by decide) ?_
        refine lv_iload_n hx hb dX12_dikes_169 rfl (lv_at hl 1 rfl) ?_
        refine lv_iadd hx hb dX12_dikes_170 ?_
        refine lv_topi (fun x302 ex302 => ?_)
        have t303 : x302.toInt = 480 + r1.toInt := ti_add ex302 (by decide) rfl (by omega) (by omega)
        refine lv_dup2_11 hx hb dX12_dikes_171 rfl rfl ?_
        refine tw_iald (i := x302) hx hb hK hT hg6 shm_2 rfl (vin_t (a := x302.toInt) rfl (by omega) (by omega)) dX12_dikes_172 (fun v9 m304 h9 => ?_)
        obtain ⟨x305, rfl, gx305, kx305⟩ := (gp_at h9 (w_fre (by have q9 := tn_of (show x302.toInt = x302.toInt from rfl) (show (0 : Int) ≤ x302.toInt from by omega); omega)))
        refine lv_bipush (v := 30) hx hb dX12_dikes_173 (by decide) ?_
        refine lv_iload hx hb dX12_dikes_175 (lv_at hl 0 rfl) ?_
        refine lv_imul hx hb dX12_dikes_177 ?_
        refine lv_topi (fun x306 ex306 => ?_)
        have t307 : x306.toInt = 30 * z205.toInt := ti_mul ex306 (by decide) rfl (by omega) (by omega)
        refine lv_iadd hx hb dX12_dikes_178 ?_
        refine lv_topi (fun x308 ex308 => ?_)
        refine tw_iast (i := x302) (x := x308) hx hb hK hT hG hS hg6 shm_2 rfl (vin_t (a := x302.toInt) rfl (by omega) (by omega)) (gp_of (gi_all _) (w_fre (by have q9 := tn_of (show x302.toInt = x302.toInt from rfl) (show (0 : Int) ≤ x302.toInt from by omega); omega)) (wX_o (by have q9 := tn_of (show x302.toInt = x302.toInt from rfl) (show (0 : Int) ≤ x302.toInt from by omega); omega) (by omega))) dX12_dikes_179 (fun H locs hT oq m309 oi hS => ?_)
        have hF := hF.ast hg6 skm_2 oq (by decide)
        refine lv_aload_n hx hb dX12_dikes_180 rfl (lv_at hl 2 rfl) ?_
        refine tw_get hx hb hts bF_X12 hown hK hT hr_o0 shm_0 rfl 1 (by decide) (ht_at hts 1 rfl) (fun _ h9 => h9) dX12_dikes_181 (fun v9 m314 h9 => ?_)
        obtain ⟨rfl, hg315⟩ := h9 _ rfl
        refine lv_sipush (v := 1746) hx hb dX12_dikes_184 (by decide) ?_
        refine lv_dup2_11 hx hb dX12_dikes_187 rfl rfl ?_
        refine tw_iald (i := 1746) hx hb hK hT hg6 shm_2 rfl (by unfold vp_in; decide) dX12_dikes_188 (fun v9 m316 h9 => ?_)
        obtain ⟨x317, rfl, gx317, kx317⟩ := (gp_at h9 (w_fre (by have q9 := tn_of (show (1746 : Int32).toInt = 1746 from (by decide)) (show (0 : Int) ≤ 1746 from by omega); omega)))
        refine lv_iload hx hb dX12_dikes_189 (lv_at hl 0 rfl) ?_
        refine lv_iadd hx hb dX12_dikes_191 ?_
        refine lv_topi (fun x318 ex318 => ?_)
        refine tw_iast (i := 1746) (x := x318) hx hb hK hT hG hS hg6 shm_2 rfl (by unfold vp_in; decide) (gp_of (gi_all _) (w_fre (by have q9 := tn_of (show (1746 : Int32).toInt = 1746 from (by decide)) (show (0 : Int) ≤ 1746 from by omega); omega)) (wX_o (by have q9 := tn_of (show (1746 : Int32).toInt = 1746 from (by decide)) (show (0 : Int) ≤ 1746 from by omega); omega) (by omega))) dX12_dikes_192 (fun H locs hT oq m319 oi hS => ?_)
        have hF := hF.ast hg6 skm_2 oq (by decide)
        refine lv_goto (tgt := 219) hx hb dX12_dikes_193 (by decide) ?_
        exact jn266 _ _ hT hF hS ls (lv_sub hl [0, 1, 2, 3, 4] rfl)
    refine lv_icmp_ne (tgt := 142) hx hb dX12_dikes_80 (by decide) (fun c325 => ?_) (fun c325 => ?_)
    · have t326 : r131.toInt ≠ 1 := ti_ne c325 rfl (by decide)
      exact jn212 z124 ⟨(by have q9 := (show z124.toInt = z124.toInt from rfl); (try have q8 := ti_all z124); omega), (by have q9 := (show z124.toInt = z124.toInt from rfl); omega)⟩ _ _ hT hF hS m133 m134 m135 m138 ls (lv_sub hl [0, 1, 2, 3, 4] rfl)
    · have t327 : r131.toInt = 1 := ti_eq c325 rfl (by decide)
      refine lv_aload_n hx hb dX12_dikes_83 rfl (lv_at hl 2 rfl) ?_
      refine tw_get hx hb hts bF_X12 hown hK hT hr_o0 shm_0 rfl 1 (by decide) (ht_at hts 1 rfl) (fun _ h9 => h9) dX12_dikes_84 (fun v9 m328 h9 => ?_)
      obtain ⟨rfl, hg329⟩ := h9 _ rfl
      refine lv_iload_n hx hb dX12_dikes_87 rfl (lv_at hl 3 rfl) ?_
      refine lv_bipush (v := 17) hx hb dX12_dikes_88 (by decide) ?_
      have hFc := gA_free hG hA hS
      refine va_calli (va_runS (As := [.int wk, .int 17]) (rest := [.ref (q 1)]) ⟨hx, hb, hml, hown, hts⟩ (s_at l dC dI kA adK adV G H q wZ0 wN wH wB wC wL wK wU wV PI im PM PT lS lB lE lN wk 17 hT (by have q8 := ti_all wk; omega) (rg_t (a := 17) (by decide) (by first | decide | omega) (by first | decide | omega)) (fun _ => Int.le_refl 0) hgn hgh hgb hgc hgi hgu) (va_cwS 2 hts (goodIn_app (goodIn_r _ [4, 5, 6] rfl (by decide +kernel)) (goodIn_ca (goodIn_r _ [3] rfl (by decide +kernel)) (bs_in _ _))) rfl rfl rfl (by decide +kernel) ⟨(Nat.le_of_ble_eq_true rfl), (Nat.le_of_ble_eq_true rfl)⟩) ⟨fun a U g mk q => by obtain ⟨q0, q1, qK, qE⟩ := q; exact ⟨q0, q1, va_K.moved (u := U) (U := U.calling g mk a) (Vm.Alike.refl U.vm) qK, EVS.blind g mk a qE⟩, fun U hU hW => ⟨rfl, hU, va_K.moved hW.alike hK, hE.call hS hFc hU hW⟩⟩ rfl rfl hl.1 rfl (lv_room (Nat.le_of_ble_eq_true rfl)) dX12_dikes_90 ⟨(Nat.le_of_ble_eq_true rfl), (Nat.le_of_ble_eq_true rfl)⟩) hS (fun q _ h => hFc q h) hFc (fun r330 u t H locs ht hvm hw331 hB _ _ hS => ?_)
      obtain ⟨hT, hF1⟩ := hB
      rw [ht] at hT hF1
      have m332 := (el_kept (hF1.arr hg6 skm_2 (by decide))).trans m133
      have m333 := (el_kept (hF1.arr hg6 skm_2 (by decide))).trans m134
      have m334 := (el_kept (hF1.arr hg6 skm_2 (by decide))).trans m135
      have m335 := (el_kept (hF1.arr hg6 skm_2 (by decide))).trans m138
      have hF := hF.more hF1 (by decide)
      try dsimp only at hw331
      obtain ⟨h336, hf337⟩ := hw331
      have t338 : (17 : Int32).toInt = 17 := by decide
      refine lv_bipush (v := 60) hx hb dX12_dikes_93 (by decide) ?_
      refine lv_aload_n hx hb dX12_dikes_95 rfl (lv_at hl 2 rfl) ?_
      refine lv_iload_n hx hb dX12_dikes_96 rfl (lv_at hl 3 rfl) ?_
      refine lv_bipush (v := 17) hx hb dX12_dikes_97 (by decide) ?_
      have hFc := gA_free hG hA hS
      refine va_calli (va_runV (As := [.int wk, .int 17]) (rest := [.int 60, .int r330, .ref (q 1)]) ⟨hx, hb, hml, hown, hts⟩ (s_of17 l dC dI kA adK adV G H q wZ0 wN wH wB wC wL wK wU wV PI im PM PT lS lB lE lN o0 wk hT hr_o0 (by have q8 := ti_all wk; omega) (fun _ => Int.le_refl 0) hgn hgh hgb hgc hgi hgu) (cwV 2 hts (goodIn_app (goodIn_r _ [7, 8, 9, 6] rfl (by decide +kernel)) (goodIn_ca (goodIn_r _ [1, 2, 3, 4, 5, 6] rfl (by decide +kernel)) (bs_in _ _))) rfl rfl rfl (by decide +kernel) ⟨(Nat.le_of_ble_eq_true rfl), (Nat.le_of_ble_eq_true rfl)⟩) ⟨fun a U g mk q => by obtain ⟨q0, q1, qK, qE⟩ := q; exact ⟨q0, q1, va_K.moved (u := U) (U := U.calling g mk a) (Vm.Alike.refl U.vm) qK, EVS.blind g mk a qE⟩, gH_rc hK hT hr_o0 shm_0 rfl, fun U hU hW => ⟨rfl, hU, va_K.moved hW.alike hK, hE.call hS hFc hU hW⟩⟩ rfl rfl hl.1 rfl (lv_room (Nat.le_of_ble_eq_true rfl)) dX12_dikes_99 ⟨(Nat.le_of_ble_eq_true rfl), (Nat.le_of_ble_eq_true rfl)⟩) hS (fun q _ h => hFc q h) hFc (fun r339 u t H locs ht hvm hw340 hB _ _ hS => ?_)
      obtain ⟨hT, hF1⟩ := hB
      rw [ht] at hT hF1
      have m341 := (el_kept (hF1.arr hg6 skm_2 (by decide))).trans m332
      have m342 := (el_kept (hF1.arr hg6 skm_2 (by decide))).trans m333
      have m343 := (el_kept (hF1.arr hg6 skm_2 (by decide))).trans m334
      have m344 := (el_kept (hF1.arr hg6 skm_2 (by decide))).trans m335
      have hF := hF.more hF1 (by decide)
      try dsimp only at hw340
      obtain ⟨h345, ⟨ix346, hix346, m347⟩⟩ := hw340
      refine lv_iconst (v := 2) hx hb dX12_dikes_102 (by decide) ?_
      refine lv_iadd hx hb dX12_dikes_103 ?_
      refine lv_topi (fun x349 ex349 => ?_)
      have t350 : x349.toInt = r339.toInt + 2 := ti_add ex349 rfl (by decide) (by omega) (by omega)
      refine va_mmin hx hb (hml.trans hl.1.symm) hown (ht_at hts 29 rfl) (ht_at hts 30 rfl) (ht_at hts 20 rfl) (ht_at hts 31 rfl) (Nat.le_of_ble_eq_true rfl) (Nat.le_of_ble_eq_true rfl) (Nat.le_of_ble_eq_true rfl) (Nat.le_of_ble_eq_true rfl) dX12_dikes_104 ?_
      refine lv_topi (fun x351 ex351 => ?_)
      have t352 : x351.toInt ≤ 60 ∧ x351.toInt ≤ x349.toInt ∧ (x351.toInt = 60 ∨ x351.toInt = x349.toInt) := mn_f ex351 (by decide) rfl
      refine tw_iast (i := r330) (x := x351) hx hb hK hT hG hS hg6 shm_2 rfl (vin_t (a := r330.toInt) rfl (by omega) (by omega)) (gp_of (gi_of (show x351.toInt = x351.toInt from rfl) (by omega) (by omega)) (w_wsz (by have q9 := tn_of (show r330.toInt = r330.toInt from rfl) (show (0 : Int) ≤ r330.toInt from by omega); omega)) (wX_o (by have q9 := tn_of (show r330.toInt = r330.toInt from rfl) (show (0 : Int) ≤ r330.toInt from by omega); omega) (by omega))) dX12_dikes_107 (fun H locs hT oq m353 oi hS => ?_)
      have hF := hF.ast hg6 skm_2 oq (by decide)
      have m354 := (oi _ (tn_ne (show ix4.toInt = ix4.toInt from rfl) (show r330.toInt = r330.toInt from rfl) (by omega) (by omega) (by omega))).trans m341
      have m355 := (oi _ (tn_ne (show x8.toInt = x8.toInt from rfl) (show r330.toInt = r330.toInt from rfl) (by omega) (by omega) (by omega))).trans m342
      have m356 := (oi _ (tn_ne (show x12.toInt = x12.toInt from rfl) (show r330.toInt = r330.toInt from rfl) (by omega) (by omega) (by omega))).trans m343
      have m357 := (oi _ (tn_ne (show ix136.toInt = ix136.toInt from rfl) (show r330.toInt = r330.toInt from rfl) (by omega) (by omega) (by omega))).trans m344
      refine lv_aload_n hx hb dX12_dikes_108 rfl (lv_at hl 2 rfl) ?_
      refine tw_get hx hb hts bF_X12 hown hK hT hr_o0 shm_0 rfl 1 (by decide) (ht_at hts 1 rfl) (fun _ h9 => h9) dX12_dikes_109 (fun v9 m358 h9 => ?_)
      obtain ⟨rfl, hg359⟩ := h9 _ rfl
      refine lv_sipush (v := 384) hx hb dX12_dikes_112 (by decide) ?_
      refine lv_iload_n hx hb dX12_dikes_115 rfl (lv_at hl 1 rfl) ?_
      refine lv_iadd hx hb dX12_dikes_116 ?_
      refine lv_topi (fun x360 ex360 => ?_)
      have t361 : x360.toInt = 384 + r1.toInt := ti_add ex360 (by decide) rfl (by omega) (by omega)
      refine tw_iald (i := x360) hx hb hK hT hg6 shm_2 rfl (vin_t (a := x360.toInt) rfl (by omega) (by omega)) dX12_dikes_117 (fun v9 m362 h9 => ?_)
      obtain ⟨x363, rfl, gx363, kx363⟩ := (gw_at h9 (w_wat (by have q9 := tn_of (show x360.toInt = x360.toInt from rfl) (show (0 : Int) ≤ x360.toInt from by omega); omega)) hgn (fun _ => Int.le_refl 0))
      obtain rfl : x15 = x363 := (el_same m362 m356 (show x360.toInt = x12.toInt from by rw []; try omega)).symm
      refine lv_ineg hx hb dX12_dikes_118 ?_
      refine lv_topi (fun x364 ex364 => ?_)
      have t365 : x364.toInt = -x15.toInt := ti_neg ex364 rfl (by omega) (by omega)
      refine lv_iload_n hx hb dX12_dikes_119 rfl (lv_at hl 4 rfl) ?_
      refine lv_aload_n hx hb dX12_dikes_120 rfl (lv_at hl 2 rfl) ?_
      refine lv_iload_n hx hb dX12_dikes_121 rfl (lv_at hl 1 rfl) ?_
      have hFc := gA_free hG hA hS
      refine va_calli (va_runV (As := [.int r1]) (rest := [.int ou, .int x364]) ⟨hx, hb, hml, hown, hts⟩ (s_levelL l dC dI kA adK adV G H q wZ0 wN wH wB wC wL wK wU wV PI im PM PT lS lB lE lN o0 r1 x11 x8 x15 x12 hT hr_o0 (by have q8 := ti_all r1; omega) hlt_ (by have q9 := (show x8.toInt = x8.toInt from rfl); have := (show r1.toInt = r1.toInt from rfl); omega) m355 (by have q8 := ti_all x11; omega) (by have q9 := (show x12.toInt = x12.toInt from rfl); have := (show r1.toInt = r1.toInt from rfl); omega) m356 (by have q8 := ti_all x15; omega) (fun _ => Int.le_refl 0) hgn hgh hgb hgc hgi hgu) (cwV 1 hts (goodIn_app (goodIn_r _ [16, 17, 18, 6] rfl (by decide +kernel)) (goodIn_ca (goodIn_r _ [11, 12, 2, 13, 14, 15, 6] rfl (by decide +kernel)) (bs_in _ _))) rfl rfl rfl (by decide +kernel) ⟨(Nat.le_of_ble_eq_true rfl), (Nat.le_of_ble_eq_true rfl)⟩) ⟨fun a U g mk q => by obtain ⟨q0, q1, qK, qE⟩ := q; exact ⟨q0, q1, va_K.moved (u := U) (U := U.calling g mk a) (Vm.Alike.refl U.vm) qK, EVS.blind g mk a qE⟩, gH_rc hK hT hr_o0 shm_0 rfl, fun U hU hW => ⟨rfl, hU, va_K.moved hW.alike hK, hE.call hS hFc hU hW⟩⟩ rfl rfl hl.1 rfl (lv_room (Nat.le_of_ble_eq_true rfl)) dX12_dikes_122 ⟨(Nat.le_of_ble_eq_true rfl), (Nat.le_of_ble_eq_true rfl)⟩) hS (fun q _ h => hFc q h) hFc (fun r366 u t H locs ht hvm hw367 hB _ _ hS => ?_)
      obtain ⟨hT, hF1⟩ := hB
      rw [ht] at hT hF1
      have m368 := (el_kept (hF1.arr hg6 skm_2 (by decide))).trans m354
      have m369 := (el_kept (hF1.arr hg6 skm_2 (by decide))).trans m355
      have m370 := (el_kept (hF1.arr hg6 skm_2 (by decide))).trans m356
      have m371 := (el_kept (hF1.arr hg6 skm_2 (by decide))).trans m357
      have m372 := (el_kept (hF1.arr hg6 skm_2 (by decide))).trans m353
      have hF := hF.more hF1 (by decide)
      try dsimp only at hw367
      obtain ⟨h373, hf374⟩ := hw367
      refine lv_isub hx hb dX12_dikes_125 ?_
      refine lv_topi (fun x375 ex375 => ?_)
      have t376 : x375.toInt = ou.toInt - r366.toInt := ti_sub ex375 rfl rfl (by omega) (by omega)
      refine lv_aload_n hx hb dX12_dikes_126 rfl (lv_at hl 2 rfl) ?_
      refine lv_iload_n hx hb dX12_dikes_127 rfl (lv_at hl 3 rfl) ?_
      refine lv_bipush (v := 17) hx hb dX12_dikes_128 (by decide) ?_
      have hFc := gA_free hG hA hS
      refine va_calli (va_runV (As := [.int wk, .int 17]) (rest := [.int x375, .int x364]) ⟨hx, hb, hml, hown, hts⟩ (s_of17 l dC dI kA adK adV G H q wZ0 wN wH wB wC wL wK wU wV PI im PM PT lS lB lE lN o0 wk hT hr_o0 (by have q8 := ti_all wk; omega) (fun _ => Int.le_refl 0) hgn hgh hgb hgc hgi hgu) (cwV 2 hts (goodIn_app (goodIn_r _ [7, 8, 9, 6] rfl (by decide +kernel)) (goodIn_ca (goodIn_r _ [1, 2, 3, 4, 5, 6] rfl (by decide +kernel)) (bs_in _ _))) rfl rfl rfl (by decide +kernel) ⟨(Nat.le_of_ble_eq_true rfl), (Nat.le_of_ble_eq_true rfl)⟩) ⟨fun a U g mk q => by obtain ⟨q0, q1, qK, qE⟩ := q; exact ⟨q0, q1, va_K.moved (u := U) (U := U.calling g mk a) (Vm.Alike.refl U.vm) qK, EVS.blind g mk a qE⟩, gH_rc hK hT hr_o0 shm_0 rfl, fun U hU hW => ⟨rfl, hU, va_K.moved hW.alike hK, hE.call hS hFc hU hW⟩⟩ rfl rfl hl.1 rfl (lv_room (Nat.le_of_ble_eq_true rfl)) dX12_dikes_130 ⟨(Nat.le_of_ble_eq_true rfl), (Nat.le_of_ble_eq_true rfl)⟩) hS (fun q _ h => hFc q h) hFc (fun r377 u t H locs ht hvm hw378 hB _ _ hS => ?_)
      obtain ⟨hT, hF1⟩ := hB
      rw [ht] at hT hF1
      have m379 := (el_kept (hF1.arr hg6 skm_2 (by decide))).trans m368
      have m380 := (el_kept (hF1.arr hg6 skm_2 (by decide))).trans m369
      have m381 := (el_kept (hF1.arr hg6 skm_2 (by decide))).trans m370
      have m382 := (el_kept (hF1.arr hg6 skm_2 (by decide))).trans m371
      have m383 := (el_kept (hF1.arr hg6 skm_2 (by decide))).trans m372
      have hF := hF.more hF1 (by decide)
      try dsimp only at hw378
      obtain ⟨h384, ⟨ix385, hix385, m386⟩⟩ := hw378
      have m387 := (el_kept (hF1.arr hg6 skm_2 (by decide))).trans m386
      obtain rfl : x351 = r377 := (el_same m387 m383 (by have q8 := (show r330.toInt = r330.toInt from rfl); omega)).symm
      refine lv_imul hx hb dX12_dikes_133 ?_
      refine lv_topi (fun x388 ex388 => ?_)
      have t389 : -(20200700 * 60) ≤ x388.toInt ∧ x388.toInt ≤ 20200700 * 60 ∧ (x375.toInt ≤ 0 → x388.toInt ≤ 0) ∧ (0 ≤ x375.toInt → 0 ≤ x388.toInt) ∧ (0 ≤ x375.toInt → x388.toInt ≤ x375.toInt * 60) ∧ (x375.toInt ≤ 0 → x375.toInt * 60 ≤ x388.toInt) := ti_mulsn ex388 rfl rfl (by omega) (by omega) (by omega) (by omega) (by decide)
      refine lv_bipush (v := 120) hx hb dX12_dikes_134 (by decide) ?_
      refine lv_idiv hx hb dX12_dikes_136 (by decide) ?_
      refine lv_topi (fun x390 ex390 => ?_)
      have t391 : (0 ≤ x388.toInt ∧ x390.toInt = x388.toInt / 120) ∨ (x388.toInt < 0 ∧ x390.toInt = -((-x388.toInt) / 120)) := ti_divs ex390 rfl (by decide) (by decide)
      refine va_mmax hx hb (hml.trans hl.1.symm) hown (ht_at hts 18 rfl) (ht_at hts 19 rfl) (ht_at hts 20 rfl) (ht_at hts 21 rfl) (Nat.le_of_ble_eq_true rfl) (Nat.le_of_ble_eq_true rfl) (Nat.le_of_ble_eq_true rfl) (Nat.le_of_ble_eq_true rfl) dX12_dikes_137 ?_
      refine lv_topi (fun x392 ex392 => ?_)
      have t393 : x364.toInt ≤ x392.toInt ∧ x390.toInt ≤ x392.toInt ∧ (x392.toInt = x364.toInt ∨ x392.toInt = x390.toInt) := mx_f ex392 rfl rfl
      refine lv_istore (lv' := [(4, .int x392), (3, .int r1), (0, .ref o0), (1, .int wk), (2, .int ou)]) hx hb dX12_dikes_140 hl (by decide) rfl (fun ls hl => ?_)
      exact jn212 x392 ⟨(by have q9 := (show x392.toInt = x392.toInt from rfl); (try have q8 := ti_all x392); omega), (by have q9 := (show x392.toInt = x392.toInt from rfl); omega)⟩ _ _ hT hF hS m379 m380 m381 m382 ls (lv_sub hl [0, 1, 2, 3, 4] rfl)
  refine lv_if_ne (tgt := 70) hx hb dX12_dikes_13 (by decide) (fun c394 => ?_) (fun c394 => ?_)
  · have t395 : r16.toInt ≠ 0 := ti_ne c394 rfl (by decide)
    refine lv_iconst (v := 0) hx hb dX12_dikes_70 (by decide) ?_
    refine lv_istore (lv' := [(4, .int 0), (3, .int r1), (0, .ref o0), (1, .int wk), (2, .int ou)]) hx hb dX12_dikes_71 hl (by decide) rfl (fun ls hl => ?_)
    exact jn130 0 ⟨(by have q9 := (show (0 : Int32).toInt = 0 from (by decide)); (try have q8 := ti_all (0 : Int32)); omega), (by have q9 := (show (0 : Int32).toInt = 0 from (by decide)); omega)⟩ _ _ hT hF hS m18 m19 m20 ls (lv_sub hl [0, 1, 2, 3, 4] rfl)
  · have t396 : r16.toInt = 0 := ti_eq c394 rfl (by decide)
    refine lv_aload_n hx hb dX12_dikes_16 rfl (lv_at hl 1 rfl) ?_
    refine lv_iload_n hx hb dX12_dikes_17 rfl (lv_at hl 2 rfl) ?_
    refine lv_iload_n hx hb dX12_dikes_18 rfl (lv_at hl 3 rfl) ?_
    have hFc := gA_free hG hA hS
    refine va_calli (va_runV (As := [.int wk, .int ou]) (rest := []) ⟨hx, hb, hml, hown, hts⟩ (s_seepL l dC dI kA adK adV G H q wZ0 wN wH wB wC wL wK wU wV PI im PM PT lS lB lE lN o0 wk ou r1 ix4 x11 x8 x15 x12 hT hr_o0 (by have q8 := ti_all wk; omega) (by have q8 := ti_all ou; omega) hlt_ (by have q9 := (show ix4.toInt = ix4.toInt from rfl); have := (show wk.toInt = wk.toInt from rfl); omega) m18 (by have q8 := ti_all r1; omega) (by have q9 := (show x8.toInt = x8.toInt from rfl); have := (show r1.toInt = r1.toInt from rfl); omega) m19 (by have q8 := ti_all x11; omega) (by have q9 := (show x12.toInt = x12.toInt from rfl); have := (show r1.toInt = r1.toInt from rfl); omega) m20 (by have q8 := ti_all x15; omega) (fun _ => Int.le_refl 0) hgn hgh hgb hgc hgi hgu) (cwV 2 hts (goodIn_app (goodIn_r _ [23, 24, 25, 6] rfl (by decide +kernel)) (goodIn_ca (goodIn_r _ [10, 1, 2, 3, 4, 5, 6, 7, 8, 9, 11, 12, 13, 14, 15, 16, 17, 18, 19, 20, 21, 22] rfl (by decide +kernel)) (bs_in _ _))) rfl rfl rfl (by decide +kernel) ⟨(Nat.le_of_ble_eq_true rfl), (Nat.le_of_ble_eq_true rfl)⟩) ⟨fun a U g mk q => by obtain ⟨q0, q1, qK, qE⟩ := q; exact ⟨q0, q1, va_K.moved (u := U) (U := U.calling g mk a) (Vm.Alike.refl U.vm) qK, EVS.blind g mk a qE⟩, gH_rc hK hT hr_o0 shm_0 rfl, fun U hU hW => ⟨rfl, hU, va_K.moved hW.alike hK, hE.call hS hFc hU hW⟩⟩ rfl rfl hl.1 rfl (lv_room (Nat.le_of_ble_eq_true rfl)) dX12_dikes_19 ⟨(Nat.le_of_ble_eq_true rfl), (Nat.le_of_ble_eq_true rfl)⟩) hS (fun q _ h => hFc q h) hFc (fun r397 u t H locs ht hvm hw398 hB _ _ hS => ?_)
    obtain ⟨hT, hF1⟩ := hB
    rw [ht] at hT hF1
    have m399 := (el_kept (hF1.arr hg6 skm_2 (by decide))).trans m18
    have m400 := (el_kept (hF1.arr hg6 skm_2 (by decide))).trans m19
    have m401 := (el_kept (hF1.arr hg6 skm_2 (by decide))).trans m20
    have hF := hF.more hF1 (by decide)
    try dsimp only at hw398
    obtain ⟨h403, hf404⟩ := hw398
    refine lv_istore (lv' := [(4, .int r397), (3, .int r1), (0, .ref o0), (1, .int wk), (2, .int ou)]) hx hb dX12_dikes_22 hl (by decide) rfl (fun ls hl => ?_)
    refine lv_iload hx hb dX12_dikes_24 (lv_at hl 0 rfl) ?_
    refine lv_aload_n hx hb dX12_dikes_26 rfl (lv_at hl 2 rfl) ?_
    refine lv_iload_n hx hb dX12_dikes_27 rfl (lv_at hl 3 rfl) ?_
    refine lv_iconst (v := 3) hx hb dX12_dikes_28 (by decide) ?_
    have hFc := gA_free hG hA hS
    refine va_calli (va_runV (As := [.int wk, .int 3]) (rest := [.int r397]) ⟨hx, hb, hml, hown, hts⟩ (s_of3 l dC dI kA adK adV G H q wZ0 wN wH wB wC wL wK wU wV PI im PM PT lS lB lE lN o0 wk hT hr_o0 (by have q8 := ti_all wk; omega) (fun _ => Int.le_refl 0) hgn hgh hgb hgc hgi hgu) (cwV 2 hts (goodIn_app (goodIn_r _ [7, 8, 9, 6] rfl (by decide +kernel)) (goodIn_ca (goodIn_r _ [1, 2, 3, 4, 5, 6] rfl (by decide +kernel)) (bs_in _ _))) rfl rfl rfl (by decide +kernel) ⟨(Nat.le_of_ble_eq_true rfl), (Nat.le_of_ble_eq_true rfl)⟩) ⟨fun a U g mk q => by obtain ⟨q0, q1, qK, qE⟩ := q; exact ⟨q0, q1, va_K.moved (u := U) (U := U.calling g mk a) (Vm.Alike.refl U.vm) qK, EVS.blind g mk a qE⟩, gH_rc hK hT hr_o0 shm_0 rfl, fun U hU hW => ⟨rfl, hU, va_K.moved hW.alike hK, hE.call hS hFc hU hW⟩⟩ rfl rfl hl.1 rfl (lv_room (Nat.le_of_ble_eq_true rfl)) dX12_dikes_29 ⟨(Nat.le_of_ble_eq_true rfl), (Nat.le_of_ble_eq_true rfl)⟩) hS (fun q _ h => hFc q h) hFc (fun r405 u t H locs ht hvm hw406 hB _ _ hS => ?_)
    obtain ⟨hT, hF1⟩ := hB
    rw [ht] at hT hF1
    have m407 := (el_kept (hF1.arr hg6 skm_2 (by decide))).trans m399
    have m408 := (el_kept (hF1.arr hg6 skm_2 (by decide))).trans m400
    have m409 := (el_kept (hF1.arr hg6 skm_2 (by decide))).trans m401
    have hF := hF.more hF1 (by decide)
    try dsimp only at hw406
    have ⟨ix411, hix411, m412⟩ := hw406
    refine lv_icmp_gt (tgt := 44) hx hb dX12_dikes_32 (by decide) (fun c414 => ?_) (fun c414 => ?_)
    · have t415 : r405.toInt < r397.toInt := ti_lt c414 rfl rfl
      refine lv_aload_n hx hb dX12_dikes_44 rfl (lv_at hl 2 rfl) ?_
      refine tw_get hx hb hts bF_X12 hown hK hT hr_o0 shm_0 rfl 1 (by decide) (ht_at hts 1 rfl) (fun _ h9 => h9) dX12_dikes_45 (fun v9 m416 h9 => ?_)
      obtain ⟨rfl, hg417⟩ := h9 _ rfl
      refine lv_iload_n hx hb dX12_dikes_48 rfl (lv_at hl 3 rfl) ?_
      refine lv_iconst (v := 0) hx hb dX12_dikes_49 (by decide) ?_
      have hFc := gA_free hG hA hS
      refine va_calli (va_runS (As := [.int wk, .int 0]) (rest := [.ref (q 1)]) ⟨hx, hb, hml, hown, hts⟩ (s_at l dC dI kA adK adV G H q wZ0 wN wH wB wC wL wK wU wV PI im PM PT lS lB lE lN wk 0 hT (by have q8 := ti_all wk; omega) (rg_t (a := 0) (by decide) (by first | decide | omega) (by first | decide | omega)) (fun _ => Int.le_refl 0) hgn hgh hgb hgc hgi hgu) (va_cwS 2 hts (goodIn_app (goodIn_r _ [4, 5, 6] rfl (by decide +kernel)) (goodIn_ca (goodIn_r _ [3] rfl (by decide +kernel)) (bs_in _ _))) rfl rfl rfl (by decide +kernel) ⟨(Nat.le_of_ble_eq_true rfl), (Nat.le_of_ble_eq_true rfl)⟩) ⟨fun a U g mk q => by obtain ⟨q0, q1, qK, qE⟩ := q; exact ⟨q0, q1, va_K.moved (u := U) (U := U.calling g mk a) (Vm.Alike.refl U.vm) qK, EVS.blind g mk a qE⟩, fun U hU hW => ⟨rfl, hU, va_K.moved hW.alike hK, hE.call hS hFc hU hW⟩⟩ rfl rfl hl.1 rfl (lv_room (Nat.le_of_ble_eq_true rfl)) dX12_dikes_50 ⟨(Nat.le_of_ble_eq_true rfl), (Nat.le_of_ble_eq_true rfl)⟩) hS (fun q _ h => hFc q h) hFc (fun r418 u t H locs ht hvm hw419 hB _ _ hS => ?_)
      obtain ⟨hT, hF1⟩ := hB
      rw [ht] at hT hF1
      have m420 := (el_kept (hF1.arr hg6 skm_2 (by decide))).trans m407
      have m421 := (el_kept (hF1.arr hg6 skm_2 (by decide))).trans m408
      have m422 := (el_kept (hF1.arr hg6 skm_2 (by decide))).trans m409
      have hF := hF.more hF1 (by decide)
      try dsimp only at hw419
      obtain ⟨h425, hf426⟩ := hw419
      have t427 : (0 : Int32).toInt = 0 := by decide
      refine lv_iconst (v := 1) hx hb dX12_dikes_53 (by decide) ?_
      refine tw_iast (i := r418) (x := 1) hx hb hK hT hG hS hg6 shm_2 rfl (vin_t (a := r418.toInt) rfl (by omega) (by omega)) (gp_of (gi_all _) (w_fre (by have q9 := tn_of (show r418.toInt = r418.toInt from rfl) (show (0 : Int) ≤ r418.toInt from by omega); omega)) (wX_k (u := wk.toNatClampNeg) hk_ (by have q9 := tn_of (show r418.toInt = r418.toInt from rfl) (by omega); have q8 := tn_of (i := wk) rfl (by omega); omega))) dX12_dikes_54 (fun H locs hT oq m428 oi hS => ?_)
      have hF := hF.ast hg6 skm_2 oq (by decide)
      have m429 := (oi _ (tn_ne (show ix4.toInt = ix4.toInt from rfl) (show r418.toInt = r418.toInt from rfl) (by omega) (by omega) (by omega))).trans m420
      have m430 := (oi _ (tn_ne (show x8.toInt = x8.toInt from rfl) (show r418.toInt = r418.toInt from rfl) (by omega) (by omega) (by omega))).trans m421
      have m431 := (oi _ (tn_ne (show x12.toInt = x12.toInt from rfl) (show r418.toInt = r418.toInt from rfl) (by omega) (by omega) (by omega))).trans m422
      refine lv_aload_n hx hb dX12_dikes_55 rfl (lv_at hl 2 rfl) ?_
      refine tw_get hx hb hts bF_X12 hown hK hT hr_o0 shm_0 rfl 1 (by decide) (ht_at hts 1 rfl) (fun _ h9 => h9) dX12_dikes_56 (fun v9 m433 h9 => ?_)
      obtain ⟨rfl, hg434⟩ := h9 _ rfl
      refine lv_iload_n hx hb dX12_dikes_59 rfl (lv_at hl 3 rfl) ?_
      refine lv_bipush (v := 17) hx hb dX12_dikes_60 (by decide) ?_
      have hFc := gA_free hG hA hS
      refine va_calli (va_runS (As := [.int wk, .int 17]) (rest := [.ref (q 1)]) ⟨hx, hb, hml, hown, hts⟩ (s_at l dC dI kA adK adV G H q wZ0 wN wH wB wC wL wK wU wV PI im PM PT lS lB lE lN wk 17 hT (by have q8 := ti_all wk; omega) (rg_t (a := 17) (by decide) (by first | decide | omega) (by first | decide | omega)) (fun _ => Int.le_refl 0) hgn hgh hgb hgc hgi hgu) (va_cwS 2 hts (goodIn_app (goodIn_r _ [4, 5, 6] rfl (by decide +kernel)) (goodIn_ca (goodIn_r _ [3] rfl (by decide +kernel)) (bs_in _ _))) rfl rfl rfl (by decide +kernel) ⟨(Nat.le_of_ble_eq_true rfl), (Nat.le_of_ble_eq_true rfl)⟩) ⟨fun a U g mk q => by obtain ⟨q0, q1, qK, qE⟩ := q; exact ⟨q0, q1, va_K.moved (u := U) (U := U.calling g mk a) (Vm.Alike.refl U.vm) qK, EVS.blind g mk a qE⟩, fun U hU hW => ⟨rfl, hU, va_K.moved hW.alike hK, hE.call hS hFc hU hW⟩⟩ rfl rfl hl.1 rfl (lv_room (Nat.le_of_ble_eq_true rfl)) dX12_dikes_62 ⟨(Nat.le_of_ble_eq_true rfl), (Nat.le_of_ble_eq_true rfl)⟩) hS (fun q _ h => hFc q h) hFc (fun r435 u t H locs ht hvm hw436 hB _ _ hS => ?_)
      obtain ⟨hT, hF1⟩ := hB
      rw [ht] at hT hF1
      have m437 := (el_kept (hF1.arr hg6 skm_2 (by decide))).trans m429
      have m438 := (el_kept (hF1.arr hg6 skm_2 (by decide))).trans m430
      have m439 := (el_kept (hF1.arr hg6 skm_2 (by decide))).trans m431
      have hF := hF.more hF1 (by decide)
      try dsimp only at hw436
      obtain ⟨h442, hf443⟩ := hw436
      have t444 : (17 : Int32).toInt = 17 := by decide
      refine lv_iconst (v := 2) hx hb dX12_dikes_65 (by decide) ?_
      refine tw_iast (i := r435) (x := 2) hx hb hK hT hG hS hg6 shm_2 rfl (vin_t (a := r435.toInt) rfl (by omega) (by omega)) (gp_of (gi_of (show (2 : Int32).toInt = 2 from (by decide)) (by first | decide | omega) (by first | decide | omega)) (w_wsz (by have q9 := tn_of (show r435.toInt = r435.toInt from rfl) (show (0 : Int) ≤ r435.toInt from by omega); omega)) (wX_o (by have q9 := tn_of (show r435.toInt = r435.toInt from rfl) (show (0 : Int) ≤ r435.toInt from by omega); omega) (by omega))) dX12_dikes_66 (fun H locs hT oq m445 oi hS => ?_)
      have hF := hF.ast hg6 skm_2 oq (by decide)
      have m446 := (oi _ (tn_ne (show ix4.toInt = ix4.toInt from rfl) (show r435.toInt = r435.toInt from rfl) (by omega) (by omega) (by omega))).trans m437
      have m447 := (oi _ (tn_ne (show x8.toInt = x8.toInt from rfl) (show r435.toInt = r435.toInt from rfl) (by omega) (by omega) (by omega))).trans m438
      have m448 := (oi _ (tn_ne (show x12.toInt = x12.toInt from rfl) (show r435.toInt = r435.toInt from rfl) (by omega) (by omega) (by omega))).trans m439
      refine lv_goto (tgt := 73) hx hb dX12_dikes_67 (by decide) ?_
      exact jn130 r397 ⟨(by have q9 := (show r397.toInt = r397.toInt from rfl); (try have q8 := ti_all r397); omega), (by have q9 := (show r397.toInt = r397.toInt from rfl); omega)⟩ _ _ hT hF hS m446 m447 m448 ls (lv_sub hl [0, 1, 2, 3, 4] rfl)
    · have t451 : r397.toInt ≤ r405.toInt := ti_nlt c414 rfl rfl
      refine lv_iload_n hx hb dX12_dikes_35 rfl (lv_at hl 4 rfl) ?_
      refine lv_aload_n hx hb dX12_dikes_36 rfl (lv_at hl 2 rfl) ?_
      refine lv_iload_n hx hb dX12_dikes_37 rfl (lv_at hl 3 rfl) ?_
      have hFc := gA_free hG hA hS
      refine va_calli (va_runV (As := [.int wk]) (rest := [.int ou]) ⟨hx, hb, hml, hown, hts⟩ (s_crest l dC dI kA adK adV G H q wZ0 wN wH wB wC wL wK wU wV PI im PM PT lS lB lE lN o0 wk hT hr_o0 (by have q8 := ti_all wk; omega) (fun _ => Int.le_refl 0) hgn hgh hgb hgc hgi hgu) (cwV 1 hts (goodIn_app (goodIn_r _ [27, 28, 29, 6] rfl (by decide +kernel)) (goodIn_ca (goodIn_r _ [26, 2, 1, 3, 4, 5, 6, 7, 8, 9] rfl (by decide +kernel)) (bs_in _ _))) rfl rfl rfl (by decide +kernel) ⟨(Nat.le_of_ble_eq_true rfl), (Nat.le_of_ble_eq_true rfl)⟩) ⟨fun a U g mk q => by obtain ⟨q0, q1, qK, qE⟩ := q; exact ⟨q0, q1, va_K.moved (u := U) (U := U.calling g mk a) (Vm.Alike.refl U.vm) qK, EVS.blind g mk a qE⟩, gH_rc hK hT hr_o0 shm_0 rfl, fun U hU hW => ⟨rfl, hU, va_K.moved hW.alike hK, hE.call hS hFc hU hW⟩⟩ rfl rfl hl.1 rfl (lv_room (Nat.le_of_ble_eq_true rfl)) dX12_dikes_38 ⟨(Nat.le_of_ble_eq_true rfl), (Nat.le_of_ble_eq_true rfl)⟩) hS (fun q _ h => hFc q h) hFc (fun r452 u t H locs ht hvm hw453 hB _ _ hS => ?_)
      obtain ⟨hT, hF1⟩ := hB
      rw [ht] at hT hF1
      have m454 := (el_kept (hF1.arr hg6 skm_2 (by decide))).trans m407
      have m455 := (el_kept (hF1.arr hg6 skm_2 (by decide))).trans m408
      have m456 := (el_kept (hF1.arr hg6 skm_2 (by decide))).trans m409
      have hF := hF.more hF1 (by decide)
      try dsimp only at hw453
      refine lv_icmp_le (tgt := 73) hx hb dX12_dikes_41 (by decide) (fun c459 => ?_) (fun c459 => ?_)
      · have t460 : ou.toInt ≤ r452.toInt := ti_le c459 rfl rfl
        exact jn130 r397 ⟨(by have q9 := (show r397.toInt = r397.toInt from rfl); (try have q8 := ti_all r397); omega), (by have q9 := (show r397.toInt = r397.toInt from rfl); omega)⟩ _ _ hT hF hS m454 m455 m456 ls (lv_sub hl [0, 1, 2, 3, 4] rfl)
      · have t461 : r452.toInt < ou.toInt := ti_nle c459 rfl rfl
        refine lv_aload_n hx hb dX12_dikes_44 rfl (lv_at hl 2 rfl) ?_
        refine tw_get hx hb hts bF_X12 hown hK hT hr_o0 shm_0 rfl 1 (by decide) (ht_at hts 1 rfl) (fun _ h9 => h9) dX12_dikes_45 (fun v9 m462 h9 => ?_)
        obtain ⟨rfl, hg463⟩ := h9 _ rfl
        refine lv_iload_n hx hb dX12_dikes_48 rfl (lv_at hl 3 rfl) ?_
        refine lv_iconst (v := 0) hx hb dX12_dikes_49 (by decide) ?_
        have hFc := gA_free hG hA hS
        refine va_calli (va_runS (As := [.int wk, .int 0]) (rest := [.ref (q 1)]) ⟨hx, hb, hml, hown, hts⟩ (s_at l dC dI kA adK adV G H q wZ0 wN wH wB wC wL wK wU wV PI im PM PT lS lB lE lN wk 0 hT (by have q8 := ti_all wk; omega) (rg_t (a := 0) (by decide) (by first | decide | omega) (by first | decide | omega)) (fun _ => Int.le_refl 0) hgn hgh hgb hgc hgi hgu) (va_cwS 2 hts (goodIn_app (goodIn_r _ [4, 5, 6] rfl (by decide +kernel)) (goodIn_ca (goodIn_r _ [3] rfl (by decide +kernel)) (bs_in _ _))) rfl rfl rfl (by decide +kernel) ⟨(Nat.le_of_ble_eq_true rfl), (Nat.le_of_ble_eq_true rfl)⟩) ⟨fun a U g mk q => by obtain ⟨q0, q1, qK, qE⟩ := q; exact ⟨q0, q1, va_K.moved (u := U) (U := U.calling g mk a) (Vm.Alike.refl U.vm) qK, EVS.blind g mk a qE⟩, fun U hU hW => ⟨rfl, hU, va_K.moved hW.alike hK, hE.call hS hFc hU hW⟩⟩ rfl rfl hl.1 rfl (lv_room (Nat.le_of_ble_eq_true rfl)) dX12_dikes_50 ⟨(Nat.le_of_ble_eq_true rfl), (Nat.le_of_ble_eq_true rfl)⟩) hS (fun q _ h => hFc q h) hFc (fun r464 u t H locs ht hvm hw465 hB _ _ hS => ?_)
        obtain ⟨hT, hF1⟩ := hB
        rw [ht] at hT hF1
        have m466 := (el_kept (hF1.arr hg6 skm_2 (by decide))).trans m454
        have m467 := (el_kept (hF1.arr hg6 skm_2 (by decide))).trans m455
        have m468 := (el_kept (hF1.arr hg6 skm_2 (by decide))).trans m456
        have hF := hF.more hF1 (by decide)
        try dsimp only at hw465
        obtain ⟨h471, hf472⟩ := hw465
        have t473 : (0 : Int32).toInt = 0 := by decide
        refine lv_iconst (v := 1) hx hb dX12_dikes_53 (by decide) ?_
        refine tw_iast (i := r464) (x := 1) hx hb hK hT hG hS hg6 shm_2 rfl (vin_t (a := r464.toInt) rfl (by omega) (by omega)) (gp_of (gi_all _) (w_fre (by have q9 := tn_of (show r464.toInt = r464.toInt from rfl) (show (0 : Int) ≤ r464.toInt from by omega); omega)) (wX_k (u := wk.toNatClampNeg) hk_ (by have q9 := tn_of (show r464.toInt = r464.toInt from rfl) (by omega); have q8 := tn_of (i := wk) rfl (by omega); omega))) dX12_dikes_54 (fun H locs hT oq m474 oi hS => ?_)
        have hF := hF.ast hg6 skm_2 oq (by decide)
        have m475 := (oi _ (tn_ne (show ix4.toInt = ix4.toInt from rfl) (show r464.toInt = r464.toInt from rfl) (by omega) (by omega) (by omega))).trans m466
        have m476 := (oi _ (tn_ne (show x8.toInt = x8.toInt from rfl) (show r464.toInt = r464.toInt from rfl) (by omega) (by omega) (by omega))).trans m467
        have m477 := (oi _ (tn_ne (show x12.toInt = x12.toInt from rfl) (show r464.toInt = r464.toInt from rfl) (by omega) (by omega) (by omega))).trans m468
        refine lv_aload_n hx hb dX12_dikes_55 rfl (lv_at hl 2 rfl) ?_
        refine tw_get hx hb hts bF_X12 hown hK hT hr_o0 shm_0 rfl 1 (by decide) (ht_at hts 1 rfl) (fun _ h9 => h9) dX12_dikes_56 (fun v9 m479 h9 => ?_)
        obtain ⟨rfl, hg480⟩ := h9 _ rfl
        refine lv_iload_n hx hb dX12_dikes_59 rfl (lv_at hl 3 rfl) ?_
        refine lv_bipush (v := 17) hx hb dX12_dikes_60 (by decide) ?_
        have hFc := gA_free hG hA hS
        refine va_calli (va_runS (As := [.int wk, .int 17]) (rest := [.ref (q 1)]) ⟨hx, hb, hml, hown, hts⟩ (s_at l dC dI kA adK adV G H q wZ0 wN wH wB wC wL wK wU wV PI im PM PT lS lB lE lN wk 17 hT (by have q8 := ti_all wk; omega) (rg_t (a := 17) (by decide) (by first | decide | omega) (by first | decide | omega)) (fun _ => Int.le_refl 0) hgn hgh hgb hgc hgi hgu) (va_cwS 2 hts (goodIn_app (goodIn_r _ [4, 5, 6] rfl (by decide +kernel)) (goodIn_ca (goodIn_r _ [3] rfl (by decide +kernel)) (bs_in _ _))) rfl rfl rfl (by decide +kernel) ⟨(Nat.le_of_ble_eq_true rfl), (Nat.le_of_ble_eq_true rfl)⟩) ⟨fun a U g mk q => by obtain ⟨q0, q1, qK, qE⟩ := q; exact ⟨q0, q1, va_K.moved (u := U) (U := U.calling g mk a) (Vm.Alike.refl U.vm) qK, EVS.blind g mk a qE⟩, fun U hU hW => ⟨rfl, hU, va_K.moved hW.alike hK, hE.call hS hFc hU hW⟩⟩ rfl rfl hl.1 rfl (lv_room (Nat.le_of_ble_eq_true rfl)) dX12_dikes_62 ⟨(Nat.le_of_ble_eq_true rfl), (Nat.le_of_ble_eq_true rfl)⟩) hS (fun q _ h => hFc q h) hFc (fun r481 u t H locs ht hvm hw482 hB _ _ hS => ?_)
        obtain ⟨hT, hF1⟩ := hB
        rw [ht] at hT hF1
        have m483 := (el_kept (hF1.arr hg6 skm_2 (by decide))).trans m475
        have m484 := (el_kept (hF1.arr hg6 skm_2 (by decide))).trans m476
        have m485 := (el_kept (hF1.arr hg6 skm_2 (by decide))).trans m477
        have hF := hF.more hF1 (by decide)
        try dsimp only at hw482
        obtain ⟨h488, hf489⟩ := hw482
        have t490 : (17 : Int32).toInt = 17 := by decide
        refine lv_iconst (v := 2) hx hb dX12_dikes_65 (by decide) ?_
        refine tw_iast (i := r481) (x := 2) hx hb hK hT hG hS hg6 shm_2 rfl (vin_t (a := r481.toInt) rfl (by omega) (by omega)) (gp_of (gi_of (show (2 : Int32).toInt = 2 from (by decide)) (by first | decide | omega) (by first | decide | omega)) (w_wsz (by have q9 := tn_of (show r481.toInt = r481.toInt from rfl) (show (0 : Int) ≤ r481.toInt from by omega); omega)) (wX_o (by have q9 := tn_of (show r481.toInt = r481.toInt from rfl) (show (0 : Int) ≤ r481.toInt from by omega); omega) (by omega))) dX12_dikes_66 (fun H locs hT oq m491 oi hS => ?_)
        have hF := hF.ast hg6 skm_2 oq (by decide)
        have m492 := (oi _ (tn_ne (show ix4.toInt = ix4.toInt from rfl) (show r481.toInt = r481.toInt from rfl) (by omega) (by omega) (by omega))).trans m483
        have m493 := (oi _ (tn_ne (show x8.toInt = x8.toInt from rfl) (show r481.toInt = r481.toInt from rfl) (by omega) (by omega) (by omega))).trans m484
        have m494 := (oi _ (tn_ne (show x12.toInt = x12.toInt from rfl) (show r481.toInt = r481.toInt from rfl) (by omega) (by omega) (by omega))).trans m485
        refine lv_goto (tgt := 73) hx hb dX12_dikes_67 (by decide) ?_
        exact jn130 r397 ⟨(by have q9 := (show r397.toInt = r397.toInt from rfl); (try have q8 := ti_all r397); omega), (by have q9 := (show r397.toInt = r397.toInt from rfl); omega)⟩ _ _ hT hF hS m492 m493 m494 ls (lv_sub hl [0, 1, 2, 3, 4] rfl)
