def w_s_vote : List Cond := .code yX12_vote cX12_vote 5 (some .int) :: (HAppend.hAppend (α := List Cond) (β := List Cond) (γ := List Cond) [.fieldLink RX12 194 "SeaLandModel" "thrown" "I", .code yX12_nobody cX12_nobody 2 (some .boolean), .fieldLink RX12 495 "SeaLandModel" "settlers" "I", .code yX12_in cX12_in 3 (some .boolean), .methodLink RX12 197 yX12_in, .static yX12_in, .initialized RX12, .methodLink RX12 486 yX12_nobody, .instanceMethod yX12_nobody, .selects RX12 yX12_nobody yX12_nobody, .code yX12_throwsIf cX12_throwsIf 3 (some .boolean), .methodLink RX12 224 yX12_throwsIf, .instanceMethod yX12_throwsIf, .selects RX12 yX12_throwsIf yX12_throwsIf, .fieldLink RX12 523 "SeaLandModel" "isVoting" "Z", .fieldLink RX12 101 "SeaLandModel" "holds" "[I", .fieldLink RX12 134 "SeaLandModel" "hasSaid" "[Z", .code yX12_sumOf cX12_sumOf 6 (some .long), .code yX12_looksAt cX12_looksAt 2 none, .fieldLink RX12 76 "SeaLandModel" "facts" "[J", .code yX12_acres cX12_acres 4 (some .int), .fieldLink RX12 113 "SeaLandModel" "farmFrom" "[I", .fieldLink RX12 116 "SeaLandModel" "farmTo" "[I", .code yX12_isIn cX12_isIn 5 (some .boolean), .methodLink RX12 207 Lib.Math.min.name, .static Lib.Math.min.name, .initialized "java/lang/Math", .code Lib.Math.min.name Lib.Math.min.code 2 (some .int), .methodLink RX12 211 Lib.Math.max.name, .static Lib.Math.max.name, .code Lib.Math.max.name Lib.Math.max.code 2 (some .int), .methodLink RX12 232 yX12_isIn, .static yX12_isIn, .methodLink RX12 467 yX12_acres, .instanceMethod yX12_acres, .selects RX12 yX12_acres yX12_acres, .fieldLink RX12 104 "SeaLandModel" "gain" "[I", .fieldLink RX12 79 "SeaLandModel" "age" "[I", .fieldLink RX12 82 "SeaLandModel" "sons" "[I", .fieldLink RX12 85 "SeaLandModel" "coin" "[I", .fieldLink RX12 88 "SeaLandModel" "cattle" "[I", .fieldLink RX12 91 "SeaLandModel" "isKin" "[Z", .fieldLink RX12 95 "SeaLandModel" "isBoard" "[Z", .code yX12_near cX12_near 5 (some .int), .fieldLink RX12 9 "SeaLandModel" "world" "[I", .code yX12_isDike cX12_isDike 2 (some .boolean), .code yX12_of cX12_of 3 (some .int), .code yX12_at cX12_at 2 (some .int), .methodLink RX12 214 yX12_at, .static yX12_at, .methodLink RX12 217 yX12_of, .instanceMethod yX12_of, .selects RX12 yX12_of yX12_of, .methodLink RX12 272 yX12_isDike, .instanceMethod yX12_isDike, .selects RX12 yX12_isDike yX12_isDike, .code yX12_steps cX12_steps 2 (some .int), .methodLink RX12 201 Lib.Math.abs.name, .static Lib.Math.abs.name, .code Lib.Math.abs.name Lib.Math.abs.code 1 (some .int), .methodLink RX12 262 yX12_steps, .static yX12_steps, .methodLink RX12 469 yX12_near, .instanceMethod yX12_near, .selects RX12 yX12_near yX12_near, .fieldLink RX12 107 "SeaLandModel" "owes" "[I", .methodLink RX12 474 yX12_looksAt, .instanceMethod yX12_looksAt, .selects RX12 yX12_looksAt yX12_looksAt, .fieldLink RX12 42 "SeaLandModel" "lines" "[I", .fieldLink RX12 45 "SeaLandModel" "sort" "[I", .code yX12_holds cX12_holds 9 (some .boolean), .fieldLink RX12 60 "SeaLandModel" "begins" "[I", .fieldLink RX12 63 "SeaLandModel" "ends" "[I", .fieldLink RX12 66 "SeaLandModel" "step" "[I", .fieldLink RX12 72 "SeaLandModel" "value" "[J", .methodLink RX12 471 Lib.MathLoose.max_long.x, .static Lib.MathLoose.max_long.x, .code Lib.MathLoose.max_long.x Lib.MathLoose.max_long.code 4 (some .long), .fieldLink RX12 69 "SeaLandModel" "than" "[I", .methodLink RX12 478 yX12_holds, .instanceMethod yX12_holds, .selects RX12 yX12_holds yX12_holds, .fieldLink RX12 48 "SeaLandModel" "told" "[I", .methodLink RX12 480 yX12_sumOf, .instanceMethod yX12_sumOf, .selects RX12 yX12_sumOf yX12_sumOf, .fieldLink RX12 530 "SeaLandModel" "said" "J", .fieldLink RX12 526 "SeaLandModel" "yes" "J"] bs)
set_option maxHeartbeats 4000000 in
set_option maxRecDepth 100000 in
theorem s_vote (l : Launch) (dC : Nat → ClassId) (dI : Nat → Nat → Nat) (kA : Nat → ClassId) (adK adV : Nat → Nat) (G : gT) (H0 : Heap) (q : Nat → Nat) (wZ wN : Nat → Int) (wH wB wC : Int) (wL wK : Nat → Prop) (wU wV : Nat → Nat) (PI : Nat → Int → Prop) (im : Int) (PM PT : Nat → Int → Prop) (lS lB lE : Nat → Nat → Int → Prop) (lN : Nat → Int) (o0 : Nat) (p0 : Int32) (p1 : Int32)  (hT : gH (dC, dI) kA (SHm q (wP wZ wN wH wB wC wL wK wU wV) PI im PM PT lS lB lE lN) G H0) (hr_o0 : G o0 = some 0) (hq0 : 0 ≤ p1.toInt ∧ p1.toInt ≤ 1) (hlaw : lawsOK lS lB lE lN) (hgz : ∀ i, 0 ≤ wZ i) (hgn : ∀ i, 6500000 ≤ wN i ∧ wN i ≤ 20200000) (hgh : 0 ≤ wH ∧ wH ≤ 40000) (hgb : 0 ≤ wB ∧ wB ≤ 3850000) (hgc : 0 ≤ wC ∧ wC ≤ 30) (hgi : 0 ≤ im ∧ im ≤ 1) (hgu : ∀ a t, G a = some (t + 1) → a = q t) : Met l yX12_vote w_s_vote ({ frames := 6, cells := 0, slots := 0, locals := 134 }) (va_Pc [.ref o0, .int p0, .int p1] (fun U => U.heap = H0 ∧ va_K (dC, dI) vwCl (tyl kA) U ∧ EVS adK adV (gA G H0.size) U U.heap)) (va_Qi (fun (r : Int32) (u : Unit) => True) (fun (_ : Unit) (t : State) => gH (dC, dI) kA (SHm q (wP wZ wN wH wB wC wL wK wU wV) PI im PM PT lS lB lE lN) G t.heap ∧ gF (dC, dI) SKm G ([(0, 0), (0, 53), (0, 54), (30, 0), (31, 0), (56, 0)] : List (Nat × Nat)) H0 t.heap) (gA G H0.size)) 0 0 (gA G H0.size) := by
  refine Met.ofW (cc := cX12_vote) (maxL := 5) (ret := (some .int)) (by decide) rfl ?_
  intro p e s m args below meth c s₁ B hml hv
  obtain ⟨rfl, hH0, hK, hE⟩ := hv
  have hx := B.exec
  have hb := B.bytes
  have hr := B.returns
  have hts := atoms_spec (ws := w_s_vote) B.pre
  have hown : s.vm.findClass RX12 = some m.cls := findClass_of_methodNamed B.named
  have hlocks := B.notSynchronized
  subst hH0
  generalize hAe : gA G s.heap.size = A at hE ⊢
  have hA : ∀ q : Nat, s.heap.size ≤ q → A q := fun q h => by rw [← hAe]; exact Or.inr h
  have hG := gA_of hAe
  have hS : va_S A s.heap s.heap [] := va_S.rf
  have hF : gF (dC, dI) SKm G ([(0, 0), (0, 53), (0, 54), (30, 0), (31, 0), (56, 0)] : List (Nat × Nat)) s.heap s.heap := gF.rf
  have hl := lv_entry ([.ref o0, .int p0, .int p1]) (n := 5) (Nat.le_of_ble_eq_true rfl)
  rw [lg_entry_eq]
  generalize (lg_sl ([.ref o0, .int p0, .int p1]) ++ List.replicate (5 - (lg_sl ([.ref o0, .int p0, .int p1])).length) Slot.unset).toArray = ls at hl ⊢
  have hl : lv_has ls 5 [(0, .ref o0), (1, .int p0), (2, .int p1)] := hl
  refine lv_aload_n hx hb dX12_vote_0 rfl (lv_at hl 0 rfl) ?_
  refine lv_iconst (v := 0) hx hb dX12_vote_1 (by decide) ?_
  refine tw_put (v := .int 0) (ty := .int) hx hb hts bF_X12 tyX12 tyX12_ok nmX12 hown hK hT hG hS hr_o0 shm_0 rfl 0 (by decide) (ht_at hts 0 rfl) (fun _ h9 => h9) rfl (by decide +kernel) rfl rfl (gl_at rfl (gi_all _)) dX12_vote_2 (fun H locs hT oq m1 oj hS => ?_)
  have hF := hF.put hr_o0 skm_0 oq oj (by decide)
  refine lv_aload_n hx hb dX12_vote_5 rfl (lv_at hl 0 rfl) ?_
  refine lv_aload_n hx hb dX12_vote_6 rfl (lv_at hl 0 rfl) ?_
  refine lv_iload_n hx hb dX12_vote_7 rfl (lv_at hl 1 rfl) ?_
  have hFc := gA_free hG hA hS
  refine va_calli (va_runV (As := [.int p0]) (rest := [.ref o0]) ⟨hx, hb, hml, hown, hts⟩ (s_nobody l dC dI kA adK adV G H q wZ wN wH wB wC wL wK wU wV PI im PM PT lS lB lE lN o0 p0 hT hr_o0 hgz hgn hgh hgb hgc hgi hgu) (cwV 1 hts (goodIn_app (goodIn_r _ [8, 9, 10, 7] rfl (by decide +kernel)) (goodIn_ca (goodIn_r _ [2, 3, 4, 5, 6, 7] rfl (by decide +kernel)) (bs_in _ _))) rfl rfl rfl (by decide +kernel) ⟨(Nat.le_of_ble_eq_true rfl), (Nat.le_of_ble_eq_true rfl)⟩) ⟨fun a U g mk q => by obtain ⟨q0, q1, qK, qE⟩ := q; exact ⟨q0, q1, va_K.moved (u := U) (U := U.calling g mk a) (Vm.Alike.refl U.vm) qK, EVS.blind g mk a qE⟩, gH_rc hK hT hr_o0 shm_0 rfl, fun U hU hW => ⟨rfl, hU, va_K.moved hW.alike hK, hE.call hS hFc hU hW⟩⟩ rfl rfl hl.1 rfl (lv_room (Nat.le_of_ble_eq_true rfl)) dX12_vote_8 ⟨(Nat.le_of_ble_eq_true rfl), (Nat.le_of_ble_eq_true rfl)⟩) hS (fun q _ h => hFc q h) hFc (fun r2 u t H locs ht hvm hw3 hB _ _ hS => ?_)
  obtain ⟨hT, hF1⟩ := hB
  rw [ht] at hT hF1
  have m4 := (hF1.fld hr_o0 skm_0 (k := 0) (by decide) (by decide)).trans m1
  have hF := hF.more hF1 (by decide)
  try dsimp only at hw3
  obtain ⟨h5, hi6⟩ := hw3
  refine lv_iconst (v := 1) hx hb dX12_vote_11 (by decide) ?_
  have hFc := gA_free hG hA hS
  refine va_calli (va_runV (As := [.int r2, .int 1]) (rest := []) ⟨hx, hb, hml, hown, hts⟩ (s_throwsIf l dC dI kA adK adV G H q wZ wN wH wB wC wL wK wU wV PI im PM PT lS lB lE lN o0 r2 1 hT hr_o0 (by have q8 := ti_all r2; omega) hgz hgn hgh hgb hgc hgi hgu) (cwV 2 hts (goodIn_app (goodIn_r _ [12, 13, 14, 7] rfl (by decide +kernel)) (goodIn_ca (goodIn_r _ [11, 1] rfl (by decide +kernel)) (bs_in _ _))) rfl rfl rfl (by decide +kernel) ⟨(Nat.le_of_ble_eq_true rfl), (Nat.le_of_ble_eq_true rfl)⟩) ⟨fun a U g mk q => by obtain ⟨q0, q1, qK, qE⟩ := q; exact ⟨q0, q1, va_K.moved (u := U) (U := U.calling g mk a) (Vm.Alike.refl U.vm) qK, EVS.blind g mk a qE⟩, gH_rc hK hT hr_o0 shm_0 rfl, fun U hU hW => ⟨rfl, hU, va_K.moved hW.alike hK, hE.call hS hFc hU hW⟩⟩ rfl rfl hl.1 rfl (lv_room (Nat.le_of_ble_eq_true rfl)) dX12_vote_12 ⟨(Nat.le_of_ble_eq_true rfl), (Nat.le_of_ble_eq_true rfl)⟩) hS (fun q _ h => hFc q h) hFc (fun r7 u t H locs ht hvm hw8 hB _ _ hS => ?_)
  obtain ⟨hT, hF1⟩ := hB
  rw [ht] at hT hF1
  have hF := hF.more hF1 (by decide)
  try dsimp only at hw8
  obtain ⟨h10, hd11⟩ := hw8
  obtain rfl : r2 = r7 := hd11.symm
  refine lv_if_ne (tgt := 56) hx hb dX12_vote_15 (by decide) (fun c12 => ?_) (fun c12 => ?_)
  · have t13 : r2.toInt ≠ 0 := ti_ne c12 rfl (by decide)
    refine lv_aload_n hx hb dX12_vote_56 rfl (lv_at hl 0 rfl) ?_
    refine tw_get hx hb hts bF_X12 hown hK hT hr_o0 shm_0 rfl 0 (by decide) (ht_at hts 0 rfl) (fun _ h9 => h9) dX12_vote_57 (fun v9 m14 h9 => ?_)
    obtain ⟨x15, rfl, gx15, kx15⟩ := h9 _ rfl
    refine lv_if_eq (tgt := 67) hx hb dX12_vote_60 (by decide) (fun c16 => ?_) (fun c16 => ?_)
    · have t17 : x15.toInt = 0 := ti_eq c16 rfl (by decide)
      refine lv_iconst (v := (-1)) hx hb dX12_vote_67 (by decide) ?_
      exact W.iret (v := (-1)) hx hb hr (fun t ht hW => ⟨⟨(-1), (), rfl, (by exact trivial), by (try dsimp only); rw [ht]; exact ⟨hT, hF⟩⟩, hS.F ht⟩) hS.2.2 dX12_vote_68
    · have t18 : x15.toInt ≠ 0 := ti_ne c16 rfl (by decide)
      refine lv_iconst (v := 0) hx hb dX12_vote_63 (by decide) ?_
      refine lv_goto (tgt := 68) hx hb dX12_vote_64 (by decide) ?_
      exact W.iret (v := 0) hx hb hr (fun t ht hW => ⟨⟨0, (), rfl, (by exact trivial), by (try dsimp only); rw [ht]; exact ⟨hT, hF⟩⟩, hS.F ht⟩) hS.2.2 dX12_vote_68
  · have t19 : r2.toInt = 0 := ti_eq c12 rfl (by decide)
    have t20 : 0 ≤ p0.toInt ∧ p0.toInt ≤ 59 := hi6 c12
    refine lv_aload_n hx hb dX12_vote_18 rfl (lv_at hl 0 rfl) ?_
    refine lv_aload_n hx hb dX12_vote_19 rfl (lv_at hl 0 rfl) ?_
    refine tw_get hx hb hts bF_X12 hown hK hT hr_o0 shm_0 rfl 52 (by decide) (ht_at hts 14 rfl) (fun _ h9 => h9) dX12_vote_20 (fun v9 m21 h9 => ?_)
    obtain ⟨x22, rfl, gx22, kx22⟩ := h9 _ rfl
    refine lv_if_ne (tgt := 30) hx hb dX12_vote_23 (by decide) (fun c23 => ?_) (fun c23 => ?_)
    · have t24 : x22.toInt ≠ 0 := ti_ne c23 rfl (by decide)
      refine lv_iconst (v := 0) hx hb dX12_vote_30 (by decide) ?_
      refine lv_iconst (v := 2) hx hb dX12_vote_31 (by decide) ?_
      have hFc := gA_free hG hA hS
      refine va_calli (va_runV (As := [.int 0, .int 2]) (rest := []) ⟨hx, hb, hml, hown, hts⟩ (s_throwsIf l dC dI kA adK adV G H q wZ wN wH wB wC wL wK wU wV PI im PM PT lS lB lE lN o0 0 2 hT hr_o0 (rg_t (a := 0) (by decide) (by first | decide | omega) (by first | decide | omega)) hgz hgn hgh hgb hgc hgi hgu) (cwV 2 hts (goodIn_app (goodIn_r _ [12, 13, 14, 7] rfl (by decide +kernel)) (goodIn_ca (goodIn_r _ [11, 1] rfl (by decide +kernel)) (bs_in _ _))) rfl rfl rfl (by decide +kernel) ⟨(Nat.le_of_ble_eq_true rfl), (Nat.le_of_ble_eq_true rfl)⟩) ⟨fun a U g mk q => by obtain ⟨q0, q1, qK, qE⟩ := q; exact ⟨q0, q1, va_K.moved (u := U) (U := U.calling g mk a) (Vm.Alike.refl U.vm) qK, EVS.blind g mk a qE⟩, gH_rc hK hT hr_o0 shm_0 rfl, fun U hU hW => ⟨rfl, hU, va_K.moved hW.alike hK, hE.call hS hFc hU hW⟩⟩ rfl rfl hl.1 rfl (lv_room (Nat.le_of_ble_eq_true rfl)) dX12_vote_32 ⟨(Nat.le_of_ble_eq_true rfl), (Nat.le_of_ble_eq_true rfl)⟩) hS (fun q _ h => hFc q h) hFc (fun r25 u t H locs ht hvm hw26 hB _ _ hS => ?_)
      obtain ⟨hT, hF1⟩ := hB
      rw [ht] at hT hF1
      have m27 := (hF1.fld hr_o0 skm_0 (k := 52) (by decide) (by decide)).trans m21
      have hF := hF.more hF1 (by decide)
      try dsimp only at hw26
      obtain ⟨h28, hd29⟩ := hw26
      obtain rfl : (0 : Int32) = r25 := hd29.symm
      refine lv_if_ne (tgt := 56) hx hb dX12_vote_35 (by decide) (fun c30 => absurd c30 (by decide)) (fun c30 => ?_)
      refine lv_aload_n hx hb dX12_vote_38 rfl (lv_at hl 0 rfl) ?_
      refine tw_get hx hb hts bF_X12 hown hK hT hr_o0 shm_0 rfl 38 (by decide) (ht_at hts 15 rfl) (fun _ h9 => h9) dX12_vote_39 (fun v9 m31 h9 => ?_)
      obtain ⟨rfl, hg32⟩ := h9 _ rfl
      refine lv_iload_n hx hb dX12_vote_42 rfl (lv_at hl 1 rfl) ?_
      refine tw_iald (i := p0) hx hb hK hT hg32 shm_39 rfl (vin_t (a := p0.toInt) rfl (by omega) (by omega)) dX12_vote_43 (fun v9 m33 h9 => ?_)
      obtain ⟨x34, rfl, gx34, kx34⟩ := h9
      refine lv_if_lt (tgt := 56) hx hb dX12_vote_44 (by decide) (fun c35 => ?_) (fun c35 => ?_)
      · have t36 : x34.toInt < 0 := ti_lt c35 rfl (by decide)
        refine lv_aload_n hx hb dX12_vote_56 rfl (lv_at hl 0 rfl) ?_
        refine tw_get hx hb hts bF_X12 hown hK hT hr_o0 shm_0 rfl 0 (by decide) (ht_at hts 0 rfl) (fun _ h9 => h9) dX12_vote_57 (fun v9 m37 h9 => ?_)
        obtain ⟨x38, rfl, gx38, kx38⟩ := h9 _ rfl
        refine lv_if_eq (tgt := 67) hx hb dX12_vote_60 (by decide) (fun c39 => ?_) (fun c39 => ?_)
        · have t40 : x38.toInt = 0 := ti_eq c39 rfl (by decide)
          refine lv_iconst (v := (-1)) hx hb dX12_vote_67 (by decide) ?_
          exact W.iret (v := (-1)) hx hb hr (fun t ht hW => ⟨⟨(-1), (), rfl, (by exact trivial), by (try dsimp only); rw [ht]; exact ⟨hT, hF⟩⟩, hS.F ht⟩) hS.2.2 dX12_vote_68
        · have t41 : x38.toInt ≠ 0 := ti_ne c39 rfl (by decide)
          refine lv_iconst (v := 0) hx hb dX12_vote_63 (by decide) ?_
          refine lv_goto (tgt := 68) hx hb dX12_vote_64 (by decide) ?_
          exact W.iret (v := 0) hx hb hr (fun t ht hW => ⟨⟨0, (), rfl, (by exact trivial), by (try dsimp only); rw [ht]; exact ⟨hT, hF⟩⟩, hS.F ht⟩) hS.2.2 dX12_vote_68
      · have t42 : 0 ≤ x34.toInt := ti_nlt c35 rfl (by decide)
        refine lv_aload_n hx hb dX12_vote_47 rfl (lv_at hl 0 rfl) ?_
        refine tw_get hx hb hts bF_X12 hown hK hT hr_o0 shm_0 rfl 55 (by decide) (ht_at hts 16 rfl) (fun _ h9 => h9) dX12_vote_48 (fun v9 m43 h9 => ?_)
        obtain ⟨rfl, hg44⟩ := h9 _ rfl
        refine lv_iload_n hx hb dX12_vote_51 rfl (lv_at hl 1 rfl) ?_
        refine tw_zald (i := p0) hx hb hK hT hg44 shm_56 rfl (vin_t (a := p0.toInt) rfl (by omega) (by omega)) dX12_vote_52 (fun v9 m45 h9 => ?_)
        obtain ⟨x46, rfl, gx46, kx46⟩ := h9
        refine lv_if_eq (tgt := 69) hx hb dX12_vote_53 (by decide) (fun c47 => ?_) (fun c47 => ?_)
        · have t48 : x46.toInt = 0 := ti_eq c47 rfl (by decide)
          refine lv_aload_n hx hb dX12_vote_69 rfl (lv_at hl 0 rfl) ?_
          refine tw_get hx hb hts bF_X12 hown hK hT hr_o0 shm_0 rfl 55 (by decide) (ht_at hts 16 rfl) (fun _ h9 => h9) dX12_vote_70 (fun v9 m49 h9 => ?_)
          obtain ⟨rfl, hg50⟩ := h9 _ rfl
          refine lv_iload_n hx hb dX12_vote_73 rfl (lv_at hl 1 rfl) ?_
          refine lv_iconst (v := 1) hx hb dX12_vote_74 (by decide) ?_
          refine tw_zast (i := p0) (x := 1) hx hb hK hT hG hS hg44 shm_56 rfl (vin_t (a := p0.toInt) rfl (by omega) (by omega)) (gi_z (rg_t (a := 1) (by decide) (by first | decide | omega) (by first | decide | omega)) (by decide) (by decide)) dX12_vote_75 (fun H locs hT oq m51 oi hS => ?_)
          have hF := hF.ast hg44 skm_56 oq (by decide)
          have m52 := (el_kept (oq _ (gne hr_o0 hg44 (by decide)))).trans m27
          have m53 := (el_kept (oq _ (gne hg32 hg44 (by decide)))).trans m33
          refine lv_aload_n hx hb dX12_vote_76 rfl (lv_at hl 0 rfl) ?_
          refine lv_iload_n hx hb dX12_vote_77 rfl (lv_at hl 1 rfl) ?_
          refine lv_iconst (v := 2) hx hb dX12_vote_78 (by decide) ?_
          have hFc := gA_free hG hA hS
          refine va_calll (va_runV (As := [.int p0, .int 2]) (rest := []) ⟨hx, hb, hml, hown, hts⟩ (s_sumOf l dC dI kA adK adV G H q wZ wN wH wB wC wL wK wU wV PI im PM PT lS lB lE lN o0 p0 2 hT hr_o0 (by have q8 := ti_all p0; omega) (by assumption) hgz hgn hgh hgb hgc hgi hgu) (cwV 2 hts (goodIn_app (goodIn_r _ [85, 86, 87, 7] rfl (by decide +kernel)) (goodIn_ca (goodIn_r _ [18, 19, 20, 21, 16, 22, 23, 24, 25, 26, 27, 28, 29, 30, 31, 4, 5, 6, 7, 32, 33, 34, 35, 36, 37, 38, 39, 40, 41, 42, 43, 44, 45, 46, 47, 48, 49, 50, 51, 52, 53, 54, 55, 56, 57, 58, 59, 60, 61, 62, 63, 64, 65, 66, 67, 68, 69, 70, 71, 72, 73, 74, 75, 76, 77, 78, 79, 80, 81, 82, 83, 84] rfl (by decide +kernel)) (bs_in _ _))) rfl rfl rfl (by decide +kernel) ⟨(Nat.le_of_ble_eq_true rfl), (Nat.le_of_ble_eq_true rfl)⟩) ⟨fun a U g mk q => by obtain ⟨q0, q1, qK, qE⟩ := q; exact ⟨q0, q1, va_K.moved (u := U) (U := U.calling g mk a) (Vm.Alike.refl U.vm) qK, EVS.blind g mk a qE⟩, gH_rc hK hT hr_o0 shm_0 rfl, fun U hU hW => ⟨rfl, hU, va_K.moved hW.alike hK, hE.call hS hFc hU hW⟩⟩ rfl rfl hl.1 rfl (lv_room (Nat.le_of_ble_eq_true rfl)) dX12_vote_79 ⟨(Nat.le_of_ble_eq_true rfl), (Nat.le_of_ble_eq_true rfl)⟩) hS (fun q _ h => hFc q h) hFc (fun r54 u t H locs ht hvm hw55 hB _ _ hS => ?_)
          obtain ⟨hT, hF1⟩ := hB
          rw [ht] at hT hF1
          have m56 := (hF1.fld hr_o0 skm_0 (k := 52) (by decide) (by decide)).trans m52
          have m57 := (el_kept (hF1.arr hg32 skm_39 (by decide))).trans m53
          have hF := hF.more hF1 (by decide)
          try dsimp only at hw55
          refine lv_lstore_n (lv' := [(3, .long r54), (0, .ref o0), (1, .int p0), (2, .int p1)]) hx hb dX12_vote_82 rfl hl (by decide) rfl (fun ls hl => ?_)
          refine lv_aload_n hx hb dX12_vote_83 rfl (lv_at hl 1 rfl) ?_
          refine lv_dup hx hb dX12_vote_84 rfl ?_
          refine tw_get hx hb hts bF_X12 hown hK hT hr_o0 shm_0 rfl 54 (by decide) (ht_at hts 87 rfl) (fun _ h9 => h9) dX12_vote_85 (fun v9 m58 h9 => ?_)
          obtain ⟨y59, rfl⟩ := h9 _ rfl
          refine lv_lload_n hx hb dX12_vote_88 rfl (lv_at hl 0 rfl) ?_
          refine lv_ladd hx hb dX12_vote_89 ?_
          refine lv_topl (fun y60 _ => ?_)
          refine tw_put (v := .long y60) (ty := .long) hx hb hts bF_X12 tyX12 tyX12_ok nmX12 hown hK hT hG hS hr_o0 shm_0 rfl 54 (by decide) (ht_at hts 87 rfl) (fun _ h9 => h9) rfl (by decide +kernel) rfl rfl (gl_at rfl ⟨_, rfl⟩) dX12_vote_90 (fun H locs hT oq m61 oj hS => ?_)
          have hF := hF.put hr_o0 skm_0 oq oj (by decide)
          have m62 := (oj 52 (by decide) (by decide)).trans m56
          have m63 := (el_kept (oq _ (gne hg32 hr_o0 (by decide)))).trans m57
          refine lv_aload_n hx hb dX12_vote_93 rfl (lv_at hl 1 rfl) ?_
          refine lv_dup hx hb dX12_vote_94 rfl ?_
          refine tw_get hx hb hts bF_X12 hown hK hT hr_o0 shm_0 rfl 53 (by decide) (ht_at hts 88 rfl) (fun _ h9 => h9) dX12_vote_95 (fun v9 m64 h9 => ?_)
          obtain ⟨y65, rfl⟩ := h9 _ rfl
          refine lv_iload_n hx hb dX12_vote_98 rfl (lv_at hl 3 rfl) ?_
          refine lv_if_eq (tgt := 106) hx hb dX12_vote_99 (by decide) (fun c66 => ?_) (fun c66 => ?_)
          · have t67 : p1.toInt = 0 := ti_eq c66 rfl (by decide)
            refine lv_lconst (v := 0) hx hb dX12_vote_106 (by decide) ?_
            refine lv_ladd hx hb dX12_vote_107 ?_
            refine lv_topl (fun y68 _ => ?_)
            refine tw_put (v := .long y68) (ty := .long) hx hb hts bF_X12 tyX12 tyX12_ok nmX12 hown hK hT hG hS hr_o0 shm_0 rfl 53 (by decide) (ht_at hts 88 rfl) (fun _ h9 => h9) rfl (by decide +kernel) rfl rfl (gl_at rfl ⟨_, rfl⟩) dX12_vote_108 (fun H locs hT oq m69 oj hS => ?_)
            have hF := hF.put hr_o0 skm_0 oq oj (by decide)
            have m70 := (oj 52 (by decide) (by decide)).trans m62
            have m71 := (el_kept (oq _ (gne hg32 hr_o0 (by decide)))).trans m63
            have m72 := (oj 54 (by decide) (by decide)).trans m61
            refine lv_lload_n hx hb dX12_vote_111 rfl (lv_at hl 0 rfl) ?_
            refine lv_l2i (v := r54.toInt32) hx hb dX12_vote_112 rfl ?_
            refine lv_topi (fun x73 _ => ?_)
            exact W.iret (v := x73) hx hb hr (fun t ht hW => ⟨⟨x73, (), rfl, (by exact trivial), by (try dsimp only); rw [ht]; exact ⟨hT, hF⟩⟩, hS.F ht⟩) hS.2.2 dX12_vote_113
          · have t74 : p1.toInt ≠ 0 := ti_ne c66 rfl (by decide)
            refine lv_lload_n hx hb dX12_vote_102 rfl (lv_at hl 0 rfl) ?_
            refine lv_goto (tgt := 107) hx hb dX12_vote_103 (by decide) ?_
            refine lv_ladd hx hb dX12_vote_107 ?_
            refine lv_topl (fun y75 _ => ?_)
            refine tw_put (v := .long y75) (ty := .long) hx hb hts bF_X12 tyX12 tyX12_ok nmX12 hown hK hT hG hS hr_o0 shm_0 rfl 53 (by decide) (ht_at hts 88 rfl) (fun _ h9 => h9) rfl (by decide +kernel) rfl rfl (gl_at rfl ⟨_, rfl⟩) dX12_vote_108 (fun H locs hT oq m76 oj hS => ?_)
            have hF := hF.put hr_o0 skm_0 oq oj (by decide)
            have m77 := (oj 52 (by decide) (by decide)).trans m62
            have m78 := (el_kept (oq _ (gne hg32 hr_o0 (by decide)))).trans m63
            have m79 := (oj 54 (by decide) (by decide)).trans m61
            refine lv_lload_n hx hb dX12_vote_111 rfl (lv_at hl 0 rfl) ?_
            refine lv_l2i (v := r54.toInt32) hx hb dX12_vote_112 rfl ?_
            refine lv_topi (fun x80 _ => ?_)
            exact W.iret (v := x80) hx hb hr (fun t ht hW => ⟨⟨x80, (), rfl, (by exact trivial), by (try dsimp only); rw [ht]; exact ⟨hT, hF⟩⟩, hS.F ht⟩) hS.2.2 dX12_vote_113
        · have t81 : x46.toInt ≠ 0 := ti_ne c47 rfl (by decide)
          refine lv_aload_n hx hb dX12_vote_56 rfl (lv_at hl 0 rfl) ?_
          refine tw_get hx hb hts bF_X12 hown hK hT hr_o0 shm_0 rfl 0 (by decide) (ht_at hts 0 rfl) (fun _ h9 => h9) dX12_vote_57 (fun v9 m82 h9 => ?_)
          obtain ⟨x83, rfl, gx83, kx83⟩ := h9 _ rfl
          refine lv_if_eq (tgt := 67) hx hb dX12_vote_60 (by decide) (fun c84 => ?_) (fun c84 => ?_)
          · have t85 : x83.toInt = 0 := ti_eq c84 rfl (by decide)
            refine lv_iconst (v := (-1)) hx hb dX12_vote_67 (by decide) ?_
            exact W.iret (v := (-1)) hx hb hr (fun t ht hW => ⟨⟨(-1), (), rfl, (by exact trivial), by (try dsimp only); rw [ht]; exact ⟨hT, hF⟩⟩, hS.F ht⟩) hS.2.2 dX12_vote_68
          · have t86 : x83.toInt ≠ 0 := ti_ne c84 rfl (by decide)
            refine lv_iconst (v := 0) hx hb dX12_vote_63 (by decide) ?_
            refine lv_goto (tgt := 68) hx hb dX12_vote_64 (by decide) ?_
            exact W.iret (v := 0) hx hb hr (fun t ht hW => ⟨⟨0, (), rfl, (by exact trivial), by (try dsimp only); rw [ht]; exact ⟨hT, hF⟩⟩, hS.F ht⟩) hS.2.2 dX12_vote_68
    · have t87 : x22.toInt = 0 := ti_eq c23 rfl (by decide)
      refine lv_iconst (v := 1) hx hb dX12_vote_26 (by decide) ?_
      refine lv_goto (tgt := 31) hx hb dX12_vote_27 (by decide) ?_
      refine lv_iconst (v := 2) hx hb dX12_vote_31 (by decide) ?_
      have hFc := gA_free hG hA hS
      refine va_calli (va_runV (As := [.int 1, .int 2]) (rest := []) ⟨hx, hb, hml, hown, hts⟩ (s_throwsIf l dC dI kA adK adV G H q wZ wN wH wB wC wL wK wU wV PI im PM PT lS lB lE lN o0 1 2 hT hr_o0 (rg_t (a := 1) (by decide) (by first | decide | omega) (by first | decide | omega)) hgz hgn hgh hgb hgc hgi hgu) (cwV 2 hts (goodIn_app (goodIn_r _ [12, 13, 14, 7] rfl (by decide +kernel)) (goodIn_ca (goodIn_r _ [11, 1] rfl (by decide +kernel)) (bs_in _ _))) rfl rfl rfl (by decide +kernel) ⟨(Nat.le_of_ble_eq_true rfl), (Nat.le_of_ble_eq_true rfl)⟩) ⟨fun a U g mk q => by obtain ⟨q0, q1, qK, qE⟩ := q; exact ⟨q0, q1, va_K.moved (u := U) (U := U.calling g mk a) (Vm.Alike.refl U.vm) qK, EVS.blind g mk a qE⟩, gH_rc hK hT hr_o0 shm_0 rfl, fun U hU hW => ⟨rfl, hU, va_K.moved hW.alike hK, hE.call hS hFc hU hW⟩⟩ rfl rfl hl.1 rfl (lv_room (Nat.le_of_ble_eq_true rfl)) dX12_vote_32 ⟨(Nat.le_of_ble_eq_true rfl), (Nat.le_of_ble_eq_true rfl)⟩) hS (fun q _ h => hFc q h) hFc (fun r88 u t H locs ht hvm hw89 hB _ _ hS => ?_)
      obtain ⟨hT, hF1⟩ := hB
      rw [ht] at hT hF1
      have m90 := (hF1.fld hr_o0 skm_0 (k := 52) (by decide) (by decide)).trans m21
      have hF := hF.more hF1 (by decide)
      try dsimp only at hw89
      obtain ⟨h91, hd92⟩ := hw89
      obtain rfl : (1 : Int32) = r88 := hd92.symm
      refine lv_if_ne (tgt := 56) hx hb dX12_vote_35 (by decide) (fun c93 => ?_) (fun c93 => absurd c93 (by decide))
      refine lv_aload_n hx hb dX12_vote_56 rfl (lv_at hl 0 rfl) ?_
      refine tw_get hx hb hts bF_X12 hown hK hT hr_o0 shm_0 rfl 0 (by decide) (ht_at hts 0 rfl) (fun _ h9 => h9) dX12_vote_57 (fun v9 m94 h9 => ?_)
      obtain ⟨x95, rfl, gx95, kx95⟩ := h9 _ rfl
      refine lv_if_eq (tgt := 67) hx hb dX12_vote_60 (by decide) (fun c96 => ?_) (fun c96 => ?_)
      · have t97 : x95.toInt = 0 := ti_eq c96 rfl (by decide)
        refine lv_iconst (v := (-1)) hx hb dX12_vote_67 (by decide) ?_
        exact W.iret (v := (-1)) hx hb hr (fun t ht hW => ⟨⟨(-1), (), rfl, (by exact trivial), by (try dsimp only); rw [ht]; exact ⟨hT, hF⟩⟩, hS.F ht⟩) hS.2.2 dX12_vote_68
      · have t98 : x95.toInt ≠ 0 := ti_ne c96 rfl (by decide)
        refine lv_iconst (v := 0) hx hb dX12_vote_63 (by decide) ?_
        refine lv_goto (tgt := 68) hx hb dX12_vote_64 (by decide) ?_
        exact W.iret (v := 0) hx hb hr (fun t ht hW => ⟨⟨0, (), rfl, (by exact trivial), by (try dsimp only); rw [ht]; exact ⟨hT, hF⟩⟩, hS.F ht⟩) hS.2.2 dX12_vote_68
