def w_s_looksAt : List Cond := .code yX12_looksAt cX12_looksAt 2 none :: (HAppend.hAppend (α := List Cond) (β := List Cond) (γ := List Cond) [.fieldLink RX12 76 "SeaLandModel" "facts" "[J", .code yX12_acres cX12_acres 4 (some .int), .fieldLink RX12 101 "SeaLandModel" "holds" "[I", .fieldLink RX12 113 "SeaLandModel" "farmFrom" "[I", .fieldLink RX12 116 "SeaLandModel" "farmTo" "[I", .code yX12_isIn cX12_isIn 5 (some .boolean), .methodLink RX12 207 Lib.Math.min.name, .static Lib.Math.min.name, .initialized "java/lang/Math", .code Lib.Math.min.name Lib.Math.min.code 2 (some .int), .methodLink RX12 211 Lib.Math.max.name, .static Lib.Math.max.name, .code Lib.Math.max.name Lib.Math.max.code 2 (some .int), .code yX12_in cX12_in 3 (some .boolean), .methodLink RX12 197 yX12_in, .static yX12_in, .initialized RX12, .methodLink RX12 232 yX12_isIn, .static yX12_isIn, .methodLink RX12 467 yX12_acres, .instanceMethod yX12_acres, .selects RX12 yX12_acres yX12_acres, .fieldLink RX12 104 "SeaLandModel" "gain" "[I", .fieldLink RX12 79 "SeaLandModel" "age" "[I", .fieldLink RX12 82 "SeaLandModel" "sons" "[I", .fieldLink RX12 85 "SeaLandModel" "coin" "[I", .fieldLink RX12 88 "SeaLandModel" "cattle" "[I", .fieldLink RX12 91 "SeaLandModel" "isKin" "[Z", .fieldLink RX12 95 "SeaLandModel" "isBoard" "[Z", .code yX12_near cX12_near 5 (some .int), .fieldLink RX12 9 "SeaLandModel" "world" "[I", .code yX12_isDike cX12_isDike 2 (some .boolean), .code yX12_of cX12_of 3 (some .int), .code yX12_at cX12_at 2 (some .int), .methodLink RX12 214 yX12_at, .static yX12_at, .methodLink RX12 217 yX12_of, .instanceMethod yX12_of, .selects RX12 yX12_of yX12_of, .methodLink RX12 272 yX12_isDike, .instanceMethod yX12_isDike, .selects RX12 yX12_isDike yX12_isDike, .code yX12_steps cX12_steps 2 (some .int), .methodLink RX12 201 Lib.Math.abs.name, .static Lib.Math.abs.name, .code Lib.Math.abs.name Lib.Math.abs.code 1 (some .int), .methodLink RX12 262 yX12_steps, .static yX12_steps, .methodLink RX12 469 yX12_near, .instanceMethod yX12_near, .selects RX12 yX12_near yX12_near, .fieldLink RX12 107 "SeaLandModel" "owes" "[I"] bs)
set_option maxHeartbeats 4000000 in
set_option maxRecDepth 100000 in
theorem s_looksAt (l : Launch) (dC : Nat → ClassId) (dI : Nat → Nat → Nat) (kA : Nat → ClassId) (adK adV : Nat → Nat) (G : gT) (H0 : Heap) (q : Nat → Nat) (wZ wN : Nat → Int) (wH wB wC : Int) (wL wK : Nat → Prop) (wU wV : Nat → Nat) (PI : Nat → Int → Prop) (im : Int) (PM PT : Nat → Int → Prop) (lS lB lE : Nat → Nat → Int → Prop) (lN : Nat → Int) (o0 : Nat) (pe : Int32)  (hT : gH (dC, dI) kA (SHm q (wP wZ wN wH wB wC wL wK wU wV) PI im PM PT lS lB lE lN) G H0) (hr_o0 : G o0 = some 0) (hq0 : 0 ≤ pe.toInt ∧ pe.toInt ≤ 59) (hgz : ∀ i, 0 ≤ wZ i) (hgn : ∀ i, 6500000 ≤ wN i ∧ wN i ≤ 20200000) (hgh : 0 ≤ wH ∧ wH ≤ 40000) (hgb : 0 ≤ wB ∧ wB ≤ 3850000) (hgc : 0 ≤ wC ∧ wC ≤ 30) (hgi : 0 ≤ im ∧ im ≤ 1) (hgu : ∀ a t, G a = some (t + 1) → a = q t) : Met l yX12_looksAt w_s_looksAt ({ frames := 4, cells := 0, slots := 0, locals := 88 }) (va_Pc [.ref o0, .int pe] (fun U => U.heap = H0 ∧ va_K (dC, dI) vwCl (tyl kA) U ∧ EVS adK adV (gA G H0.size) U U.heap)) (va_Qv (fun (u : Unit) => True) (fun (_ : Unit) (t : State) => gH (dC, dI) kA (SHm q (wP wZ wN wH wB wC wL wK wU wV) PI im PM PT lS lB lE lN) G t.heap ∧ gF (dC, dI) SKm G ([(31, 0)] : List (Nat × Nat)) H0 t.heap) (gA G H0.size)) 0 0 (gA G H0.size) := by
  refine Met.ofW (cc := cX12_looksAt) (maxL := 2) (ret := none) (by decide) rfl ?_
  intro p e s m args below meth c s₁ B hml hv
  obtain ⟨rfl, hH0, hK, hE⟩ := hv
  have hx := B.exec
  have hb := B.bytes
  have hr := B.returns
  have hts := atoms_spec (ws := w_s_looksAt) B.pre
  have hown : s.vm.findClass RX12 = some m.cls := findClass_of_methodNamed B.named
  have hlocks := B.notSynchronized
  subst hH0
  generalize hAe : gA G s.heap.size = A at hE ⊢
  have hA : ∀ q : Nat, s.heap.size ≤ q → A q := fun q h => by rw [← hAe]; exact Or.inr h
  have hG := gA_of hAe
  have hS : va_S A s.heap s.heap [] := va_S.rf
  have hF : gF (dC, dI) SKm G ([(31, 0)] : List (Nat × Nat)) s.heap s.heap := gF.rf
  have hl := lv_entry ([.ref o0, .int pe]) (n := 2) (Nat.le_of_ble_eq_true rfl)
  rw [lg_entry_eq]
  generalize (lg_sl ([.ref o0, .int pe]) ++ List.replicate (2 - (lg_sl ([.ref o0, .int pe])).length) Slot.unset).toArray = ls at hl ⊢
  have hl : lv_has ls 2 [(0, .ref o0), (1, .int pe)] := hl
  refine lv_aload_n hx hb dX12_looksAt_0 rfl (lv_at hl 0 rfl) ?_
  refine tw_get hx hb hts bF_X12 hown hK hT hr_o0 shm_0 rfl 30 (by decide) (ht_at hts 0 rfl) (fun _ h9 => h9) dX12_looksAt_1 (fun v9 m1 h9 => ?_)
  obtain ⟨rfl, hg2⟩ := h9 _ rfl
  refine lv_iconst (v := 0) hx hb dX12_looksAt_4 (by decide) ?_
  refine lv_aload_n hx hb dX12_looksAt_5 rfl (lv_at hl 0 rfl) ?_
  refine lv_iload_n hx hb dX12_looksAt_6 rfl (lv_at hl 1 rfl) ?_
  have hFc := gA_free hG hA hS
  refine va_calli (va_runV (As := [.int pe]) (rest := [.int 0, .ref (q 30)]) ⟨hx, hb, hml, hown, hts⟩ (s_acres l dC dI kA adK adV G s.heap q wZ wN wH wB wC wL wK wU wV PI im PM PT lS lB lE lN o0 pe hT hr_o0 (by have q8 := ti_all pe; omega) hgz hgn hgh hgb hgc hgi hgu) (cwV 1 hts (goodIn_app (goodIn_r _ [20, 21, 22, 17] rfl (by decide +kernel)) (goodIn_ca (goodIn_r _ [2, 3, 4, 5, 6, 7, 8, 9, 10, 11, 12, 13, 14, 15, 16, 17, 18, 19] rfl (by decide +kernel)) (bs_in _ _))) rfl rfl rfl (by decide +kernel) ⟨(Nat.le_of_ble_eq_true rfl), (Nat.le_of_ble_eq_true rfl)⟩) ⟨fun a U g mk q => by obtain ⟨q0, q1, qK, qE⟩ := q; exact ⟨q0, q1, va_K.moved (u := U) (U := U.calling g mk a) (Vm.Alike.refl U.vm) qK, EVS.blind g mk a qE⟩, gH_rc hK hT hr_o0 shm_0 rfl, fun U hU hW => ⟨rfl, hU, va_K.moved hW.alike hK, hE.call hS hFc hU hW⟩⟩ rfl rfl hl.1 rfl (lv_room (Nat.le_of_ble_eq_true rfl)) dX12_looksAt_7 ⟨(Nat.le_of_ble_eq_true rfl), (Nat.le_of_ble_eq_true rfl)⟩) hS (fun q _ h => hFc q h) hFc (fun r3 u t H locs ht hvm hw4 hB _ _ hS => ?_)
  obtain ⟨hT, hF1⟩ := hB
  rw [ht] at hT hF1
  have hF := hF.more hF1 (by decide)
  try dsimp only at hw4
  refine lv_i2l (v := r3.toInt64) hx hb dX12_looksAt_10 rfl ?_
  refine tw_last (i := 0)  hx hb hK hT hG hS hg2 shm_31 rfl (by unfold vp_in; decide) ⟨_, rfl⟩ dX12_looksAt_11 (fun H locs hT oq m5 oi hS => ?_)
  have hF := hF.ast hg2 skm_31 oq (by decide)
  refine lv_aload_n hx hb dX12_looksAt_12 rfl (lv_at hl 0 rfl) ?_
  refine tw_get hx hb hts bF_X12 hown hK hT hr_o0 shm_0 rfl 30 (by decide) (ht_at hts 0 rfl) (fun _ h9 => h9) dX12_looksAt_13 (fun v9 m6 h9 => ?_)
  obtain ⟨rfl, hg7⟩ := h9 _ rfl
  refine lv_iconst (v := 1) hx hb dX12_looksAt_16 (by decide) ?_
  refine lv_aload_n hx hb dX12_looksAt_17 rfl (lv_at hl 0 rfl) ?_
  refine tw_get hx hb hts bF_X12 hown hK hT hr_o0 shm_0 rfl 39 (by decide) (ht_at hts 22 rfl) (fun _ h9 => h9) dX12_looksAt_18 (fun v9 m8 h9 => ?_)
  obtain ⟨rfl, hg9⟩ := h9 _ rfl
  refine lv_iload_n hx hb dX12_looksAt_21 rfl (lv_at hl 1 rfl) ?_
  refine tw_iald (i := pe) hx hb hK hT hg9 shm_40 rfl (vin_t (a := pe.toInt) rfl (by omega) (by omega)) dX12_looksAt_22 (fun v9 m10 h9 => ?_)
  obtain ⟨x11, rfl, gx11, kx11⟩ := h9
  refine lv_i2l (v := x11.toInt64) hx hb dX12_looksAt_23 rfl ?_
  refine tw_last (i := 1)  hx hb hK hT hG hS hg2 shm_31 rfl (by unfold vp_in; decide) ⟨_, rfl⟩ dX12_looksAt_24 (fun H locs hT oq m12 oi hS => ?_)
  have hF := hF.ast hg2 skm_31 oq (by decide)
  refine lv_aload_n hx hb dX12_looksAt_25 rfl (lv_at hl 0 rfl) ?_
  refine tw_get hx hb hts bF_X12 hown hK hT hr_o0 shm_0 rfl 30 (by decide) (ht_at hts 0 rfl) (fun _ h9 => h9) dX12_looksAt_26 (fun v9 m13 h9 => ?_)
  obtain ⟨rfl, hg14⟩ := h9 _ rfl
  refine lv_iconst (v := 2) hx hb dX12_looksAt_29 (by decide) ?_
  refine lv_aload_n hx hb dX12_looksAt_30 rfl (lv_at hl 0 rfl) ?_
  refine tw_get hx hb hts bF_X12 hown hK hT hr_o0 shm_0 rfl 31 (by decide) (ht_at hts 23 rfl) (fun _ h9 => h9) dX12_looksAt_31 (fun v9 m15 h9 => ?_)
  obtain ⟨rfl, hg16⟩ := h9 _ rfl
  refine lv_iload_n hx hb dX12_looksAt_34 rfl (lv_at hl 1 rfl) ?_
  refine tw_iald (i := pe) hx hb hK hT hg16 shm_32 rfl (vin_t (a := pe.toInt) rfl (by omega) (by omega)) dX12_looksAt_35 (fun v9 m17 h9 => ?_)
  obtain ⟨x18, rfl, gx18, kx18⟩ := h9
  refine lv_i2l (v := x18.toInt64) hx hb dX12_looksAt_36 rfl ?_
  refine tw_last (i := 2)  hx hb hK hT hG hS hg2 shm_31 rfl (by unfold vp_in; decide) ⟨_, rfl⟩ dX12_looksAt_37 (fun H locs hT oq m19 oi hS => ?_)
  have hF := hF.ast hg2 skm_31 oq (by decide)
  refine lv_aload_n hx hb dX12_looksAt_38 rfl (lv_at hl 0 rfl) ?_
  refine tw_get hx hb hts bF_X12 hown hK hT hr_o0 shm_0 rfl 30 (by decide) (ht_at hts 0 rfl) (fun _ h9 => h9) dX12_looksAt_39 (fun v9 m20 h9 => ?_)
  obtain ⟨rfl, hg21⟩ := h9 _ rfl
  refine lv_iconst (v := 3) hx hb dX12_looksAt_42 (by decide) ?_
  refine lv_aload_n hx hb dX12_looksAt_43 rfl (lv_at hl 0 rfl) ?_
  refine tw_get hx hb hts bF_X12 hown hK hT hr_o0 shm_0 rfl 32 (by decide) (ht_at hts 24 rfl) (fun _ h9 => h9) dX12_looksAt_44 (fun v9 m22 h9 => ?_)
  obtain ⟨rfl, hg23⟩ := h9 _ rfl
  refine lv_iload_n hx hb dX12_looksAt_47 rfl (lv_at hl 1 rfl) ?_
  refine tw_iald (i := pe) hx hb hK hT hg23 shm_33 rfl (vin_t (a := pe.toInt) rfl (by omega) (by omega)) dX12_looksAt_48 (fun v9 m24 h9 => ?_)
  obtain ⟨x25, rfl, gx25, kx25⟩ := h9
  refine lv_i2l (v := x25.toInt64) hx hb dX12_looksAt_49 rfl ?_
  refine tw_last (i := 3)  hx hb hK hT hG hS hg2 shm_31 rfl (by unfold vp_in; decide) ⟨_, rfl⟩ dX12_looksAt_50 (fun H locs hT oq m26 oi hS => ?_)
  have hF := hF.ast hg2 skm_31 oq (by decide)
  refine lv_aload_n hx hb dX12_looksAt_51 rfl (lv_at hl 0 rfl) ?_
  refine tw_get hx hb hts bF_X12 hown hK hT hr_o0 shm_0 rfl 30 (by decide) (ht_at hts 0 rfl) (fun _ h9 => h9) dX12_looksAt_52 (fun v9 m27 h9 => ?_)
  obtain ⟨rfl, hg28⟩ := h9 _ rfl
  refine lv_iconst (v := 4) hx hb dX12_looksAt_55 (by decide) ?_
  refine lv_aload_n hx hb dX12_looksAt_56 rfl (lv_at hl 0 rfl) ?_
  refine tw_get hx hb hts bF_X12 hown hK hT hr_o0 shm_0 rfl 33 (by decide) (ht_at hts 25 rfl) (fun _ h9 => h9) dX12_looksAt_57 (fun v9 m29 h9 => ?_)
  obtain ⟨rfl, hg30⟩ := h9 _ rfl
  refine lv_iload_n hx hb dX12_looksAt_60 rfl (lv_at hl 1 rfl) ?_
  refine tw_iald (i := pe) hx hb hK hT hg30 shm_34 rfl (vin_t (a := pe.toInt) rfl (by omega) (by omega)) dX12_looksAt_61 (fun v9 m31 h9 => ?_)
  obtain ⟨x32, rfl, gx32, kx32⟩ := h9
  refine lv_i2l (v := x32.toInt64) hx hb dX12_looksAt_62 rfl ?_
  refine tw_last (i := 4)  hx hb hK hT hG hS hg2 shm_31 rfl (by unfold vp_in; decide) ⟨_, rfl⟩ dX12_looksAt_63 (fun H locs hT oq m33 oi hS => ?_)
  have hF := hF.ast hg2 skm_31 oq (by decide)
  refine lv_aload_n hx hb dX12_looksAt_64 rfl (lv_at hl 0 rfl) ?_
  refine tw_get hx hb hts bF_X12 hown hK hT hr_o0 shm_0 rfl 30 (by decide) (ht_at hts 0 rfl) (fun _ h9 => h9) dX12_looksAt_65 (fun v9 m34 h9 => ?_)
  obtain ⟨rfl, hg35⟩ := h9 _ rfl
  refine lv_iconst (v := 5) hx hb dX12_looksAt_68 (by decide) ?_
  refine lv_aload_n hx hb dX12_looksAt_69 rfl (lv_at hl 0 rfl) ?_
  refine tw_get hx hb hts bF_X12 hown hK hT hr_o0 shm_0 rfl 34 (by decide) (ht_at hts 26 rfl) (fun _ h9 => h9) dX12_looksAt_70 (fun v9 m36 h9 => ?_)
  obtain ⟨rfl, hg37⟩ := h9 _ rfl
  refine lv_iload_n hx hb dX12_looksAt_73 rfl (lv_at hl 1 rfl) ?_
  refine tw_iald (i := pe) hx hb hK hT hg37 shm_35 rfl (vin_t (a := pe.toInt) rfl (by omega) (by omega)) dX12_looksAt_74 (fun v9 m38 h9 => ?_)
  obtain ⟨x39, rfl, gx39, kx39⟩ := h9
  refine lv_i2l (v := x39.toInt64) hx hb dX12_looksAt_75 rfl ?_
  refine tw_last (i := 5)  hx hb hK hT hG hS hg2 shm_31 rfl (by unfold vp_in; decide) ⟨_, rfl⟩ dX12_looksAt_76 (fun H locs hT oq m40 oi hS => ?_)
  have hF := hF.ast hg2 skm_31 oq (by decide)
  refine lv_aload_n hx hb dX12_looksAt_77 rfl (lv_at hl 0 rfl) ?_
  refine tw_get hx hb hts bF_X12 hown hK hT hr_o0 shm_0 rfl 30 (by decide) (ht_at hts 0 rfl) (fun _ h9 => h9) dX12_looksAt_78 (fun v9 m41 h9 => ?_)
  obtain ⟨rfl, hg42⟩ := h9 _ rfl
  refine lv_bipush (v := 6) hx hb dX12_looksAt_81 (by decide) ?_
  refine lv_aload_n hx hb dX12_looksAt_83 rfl (lv_at hl 0 rfl) ?_
  refine tw_get hx hb hts bF_X12 hown hK hT hr_o0 shm_0 rfl 35 (by decide) (ht_at hts 27 rfl) (fun _ h9 => h9) dX12_looksAt_84 (fun v9 m43 h9 => ?_)
  obtain ⟨rfl, hg44⟩ := h9 _ rfl
  refine lv_iload_n hx hb dX12_looksAt_87 rfl (lv_at hl 1 rfl) ?_
  refine tw_zald (i := pe) hx hb hK hT hg44 shm_36 rfl (vin_t (a := pe.toInt) rfl (by omega) (by omega)) dX12_looksAt_88 (fun v9 m45 h9 => ?_)
  obtain ⟨x46, rfl, gx46, kx46⟩ := h9
  have jn48 : ∀ (y47 : Int64), ∀ (H : Heap) (locs : List Loc), gH (dC, dI) kA (SHm q (wP wZ wN wH wB wC wL wK wU wV) PI im PM PT lS lB lE lN) G H → gF (dC, dI) SKm G ([(31, 0)] : List (Nat × Nat)) s.heap H → va_S A s.heap H locs → ∀ ls : Array Slot, lv_has ls 2 [(0, .ref o0), (1, .int pe)] → W p l e (headSpec w_s_looksAt ({ frames := 4, cells := 0, slots := 0, locals := 88 })).room s m #[.ref o0, .int pe] below meth c H locs 0 0 (MQ below (va_Qv (fun (u : Unit) => True) (fun (_ : Unit) (t : State) => gH (dC, dI) kA (SHm q (wP wZ wN wH wB wC wL wK wU wV) PI im PM PT lS lB lE lN) G t.heap ∧ gF (dC, dI) SKm G ([(31, 0)] : List (Nat × Nat)) s.heap t.heap) A) #[.ref o0, .int pe] s 0 0 A) (F0 m 97 ls [.long y47, .int 6, .ref (q 30)]) := by
    intro y47 H locs hT hF hS  ls hl
    refine tw_last (i := 6)  hx hb hK hT hG hS hg2 shm_31 rfl (by unfold vp_in; decide) ⟨_, rfl⟩ dX12_looksAt_97 (fun H locs hT oq m49 oi hS => ?_)
    have hF := hF.ast hg2 skm_31 oq (by decide)
    refine lv_aload_n hx hb dX12_looksAt_98 rfl (lv_at hl 0 rfl) ?_
    refine tw_get hx hb hts bF_X12 hown hK hT hr_o0 shm_0 rfl 30 (by decide) (ht_at hts 0 rfl) (fun _ h9 => h9) dX12_looksAt_99 (fun v9 m50 h9 => ?_)
    obtain ⟨rfl, hg51⟩ := h9 _ rfl
    refine lv_bipush (v := 7) hx hb dX12_looksAt_102 (by decide) ?_
    refine lv_aload_n hx hb dX12_looksAt_104 rfl (lv_at hl 0 rfl) ?_
    refine tw_get hx hb hts bF_X12 hown hK hT hr_o0 shm_0 rfl 36 (by decide) (ht_at hts 28 rfl) (fun _ h9 => h9) dX12_looksAt_105 (fun v9 m52 h9 => ?_)
    obtain ⟨rfl, hg53⟩ := h9 _ rfl
    refine lv_iload_n hx hb dX12_looksAt_108 rfl (lv_at hl 1 rfl) ?_
    refine tw_zald (i := pe) hx hb hK hT hg53 shm_37 rfl (vin_t (a := pe.toInt) rfl (by omega) (by omega)) dX12_looksAt_109 (fun v9 m54 h9 => ?_)
    obtain ⟨x55, rfl, gx55, kx55⟩ := h9
    have jn57 : ∀ (y56 : Int64), ∀ (H : Heap) (locs : List Loc), gH (dC, dI) kA (SHm q (wP wZ wN wH wB wC wL wK wU wV) PI im PM PT lS lB lE lN) G H → gF (dC, dI) SKm G ([(31, 0)] : List (Nat × Nat)) s.heap H → va_S A s.heap H locs → ∀ ls : Array Slot, lv_has ls 2 [(0, .ref o0), (1, .int pe)] → W p l e (headSpec w_s_looksAt ({ frames := 4, cells := 0, slots := 0, locals := 88 })).room s m #[.ref o0, .int pe] below meth c H locs 0 0 (MQ below (va_Qv (fun (u : Unit) => True) (fun (_ : Unit) (t : State) => gH (dC, dI) kA (SHm q (wP wZ wN wH wB wC wL wK wU wV) PI im PM PT lS lB lE lN) G t.heap ∧ gF (dC, dI) SKm G ([(31, 0)] : List (Nat × Nat)) s.heap t.heap) A) #[.ref o0, .int pe] s 0 0 A) (F0 m 118 ls [.long y56, .int 7, .ref (q 30)]) := by
      intro y56 H locs hT hF hS  ls hl
      refine tw_last (i := 7)  hx hb hK hT hG hS hg2 shm_31 rfl (by unfold vp_in; decide) ⟨_, rfl⟩ dX12_looksAt_118 (fun H locs hT oq m58 oi hS => ?_)
      have hF := hF.ast hg2 skm_31 oq (by decide)
      refine lv_aload_n hx hb dX12_looksAt_119 rfl (lv_at hl 0 rfl) ?_
      refine tw_get hx hb hts bF_X12 hown hK hT hr_o0 shm_0 rfl 30 (by decide) (ht_at hts 0 rfl) (fun _ h9 => h9) dX12_looksAt_120 (fun v9 m59 h9 => ?_)
      obtain ⟨rfl, hg60⟩ := h9 _ rfl
      refine lv_bipush (v := 8) hx hb dX12_looksAt_123 (by decide) ?_
      refine lv_aload_n hx hb dX12_looksAt_125 rfl (lv_at hl 0 rfl) ?_
      refine lv_iload_n hx hb dX12_looksAt_126 rfl (lv_at hl 1 rfl) ?_
      have hFc := gA_free hG hA hS
      refine va_calli (va_runV (As := [.int pe]) (rest := [.int 8, .ref (q 30)]) ⟨hx, hb, hml, hown, hts⟩ (s_near l dC dI kA adK adV G H q wZ wN wH wB wC wL wK wU wV PI im PM PT lS lB lE lN o0 pe hT hr_o0 (by have q8 := ti_all pe; omega) hgz hgn hgh hgb hgc hgi hgu) (cwV 1 hts (goodIn_app (goodIn_r _ [49, 50, 51, 17] rfl (by decide +kernel)) (goodIn_ca (goodIn_r _ [30, 3, 4, 5, 6, 7, 8, 9, 10, 11, 12, 13, 14, 15, 16, 17, 18, 19, 31, 32, 33, 34, 35, 36, 37, 38, 39, 40, 41, 42, 43, 44, 45, 46, 47, 48] rfl (by decide +kernel)) (bs_in _ _))) rfl rfl rfl (by decide +kernel) ⟨(Nat.le_of_ble_eq_true rfl), (Nat.le_of_ble_eq_true rfl)⟩) ⟨fun a U g mk q => by obtain ⟨q0, q1, qK, qE⟩ := q; exact ⟨q0, q1, va_K.moved (u := U) (U := U.calling g mk a) (Vm.Alike.refl U.vm) qK, EVS.blind g mk a qE⟩, gH_rc hK hT hr_o0 shm_0 rfl, fun U hU hW => ⟨rfl, hU, va_K.moved hW.alike hK, hE.call hS hFc hU hW⟩⟩ rfl rfl hl.1 rfl (lv_room (Nat.le_of_ble_eq_true rfl)) dX12_looksAt_127 ⟨(Nat.le_of_ble_eq_true rfl), (Nat.le_of_ble_eq_true rfl)⟩) hS (fun q _ h => hFc q h) hFc (fun r61 u t H locs ht hvm hw62 hB _ _ hS => ?_)
      obtain ⟨hT, hF1⟩ := hB
      rw [ht] at hT hF1
      have hF := hF.more hF1 (by decide)
      try dsimp only at hw62
      have h63 := hw62
      refine lv_i2l (v := r61.toInt64) hx hb dX12_looksAt_130 rfl ?_
      refine tw_last (i := 8)  hx hb hK hT hG hS hg2 shm_31 rfl (by unfold vp_in; decide) ⟨_, rfl⟩ dX12_looksAt_131 (fun H locs hT oq m64 oi hS => ?_)
      have hF := hF.ast hg2 skm_31 oq (by decide)
      refine lv_aload_n hx hb dX12_looksAt_132 rfl (lv_at hl 0 rfl) ?_
      refine tw_get hx hb hts bF_X12 hown hK hT hr_o0 shm_0 rfl 30 (by decide) (ht_at hts 0 rfl) (fun _ h9 => h9) dX12_looksAt_133 (fun v9 m65 h9 => ?_)
      obtain ⟨rfl, hg66⟩ := h9 _ rfl
      refine lv_bipush (v := 9) hx hb dX12_looksAt_136 (by decide) ?_
      refine lv_aload_n hx hb dX12_looksAt_138 rfl (lv_at hl 0 rfl) ?_
      refine tw_get hx hb hts bF_X12 hown hK hT hr_o0 shm_0 rfl 40 (by decide) (ht_at hts 51 rfl) (fun _ h9 => h9) dX12_looksAt_139 (fun v9 m67 h9 => ?_)
      obtain ⟨rfl, hg68⟩ := h9 _ rfl
      refine lv_iload_n hx hb dX12_looksAt_142 rfl (lv_at hl 1 rfl) ?_
      refine tw_iald (i := pe) hx hb hK hT hg68 shm_41 rfl (vin_t (a := pe.toInt) rfl (by omega) (by omega)) dX12_looksAt_143 (fun v9 m69 h9 => ?_)
      obtain ⟨x70, rfl, gx70, kx70⟩ := h9
      refine lv_i2l (v := x70.toInt64) hx hb dX12_looksAt_144 rfl ?_
      refine tw_last (i := 9)  hx hb hK hT hG hS hg2 shm_31 rfl (by unfold vp_in; decide) ⟨_, rfl⟩ dX12_looksAt_145 (fun H locs hT oq m71 oi hS => ?_)
      have hF := hF.ast hg2 skm_31 oq (by decide)
      exact W.vret hx hb hr (fun t ht hW => ⟨⟨(), rfl, (by exact trivial), by (try dsimp only); rw [ht]; exact ⟨hT, hF⟩⟩, hS.F ht⟩) hS.2.2 dX12_looksAt_146
    refine lv_if_eq (tgt := 117) hx hb dX12_looksAt_110 (by decide) (fun c72 => ?_) (fun c72 => ?_)
    · have t73 : x55.toInt = 0 := ti_eq c72 rfl (by decide)
      refine lv_lconst (v := 0) hx hb dX12_looksAt_117 (by decide) ?_
      exact jn57 0 _ _ hT hF hS ls (lv_sub hl [0, 1] rfl)
    · have t74 : x55.toInt ≠ 0 := ti_ne c72 rfl (by decide)
      refine lv_lconst (v := 1) hx hb dX12_looksAt_113 (by decide) ?_
      refine lv_goto (tgt := 118) hx hb dX12_looksAt_114 (by decide) ?_
      exact jn57 1 _ _ hT hF hS ls (lv_sub hl [0, 1] rfl)
  refine lv_if_eq (tgt := 96) hx hb dX12_looksAt_89 (by decide) (fun c75 => ?_) (fun c75 => ?_)
  · have t76 : x46.toInt = 0 := ti_eq c75 rfl (by decide)
    refine lv_lconst (v := 0) hx hb dX12_looksAt_96 (by decide) ?_
    exact jn48 0 _ _ hT hF hS ls (lv_sub hl [0, 1] rfl)
  · have t77 : x46.toInt ≠ 0 := ti_ne c75 rfl (by decide)
    refine lv_lconst (v := 1) hx hb dX12_looksAt_92 (by decide) ?_
    refine lv_goto (tgt := 97) hx hb dX12_looksAt_93 (by decide) ?_
    exact jn48 1 _ _ hT hF hS ls (lv_sub hl [0, 1] rfl)
