def w_s_harvest : List Cond := .code yX12_harvest cX12_harvest 6 (some .int) :: (HAppend.hAppend (α := List Cond) (β := List Cond) (γ := List Cond) [.fieldLink RX12 194 "SeaLandModel" "thrown" "I", .code yX12_hour cX12_hour 1 (some .int), .fieldLink RX12 9 "SeaLandModel" "world" "[I", .methodLink RX12 228 yX12_hour, .instanceMethod yX12_hour, .selects RX12 yX12_hour yX12_hour, .initialized RX12, .fieldLink RX12 125 "SeaLandModel" "harvested" "I", .fieldLink RX12 495 "SeaLandModel" "settlers" "I", .fieldLink RX12 101 "SeaLandModel" "holds" "[I", .code yX12_duesOf cX12_duesOf 2 (some .int), .code yX12_sumOf cX12_sumOf 6 (some .long), .code yX12_looksAt cX12_looksAt 2 none, .fieldLink RX12 76 "SeaLandModel" "facts" "[J", .code yX12_acres cX12_acres 4 (some .int), .fieldLink RX12 113 "SeaLandModel" "farmFrom" "[I", .fieldLink RX12 116 "SeaLandModel" "farmTo" "[I", .code yX12_isIn cX12_isIn 5 (some .boolean), .methodLink RX12 207 Lib.Math.min.name, .static Lib.Math.min.name, .initialized "java/lang/Math", .code Lib.Math.min.name Lib.Math.min.code 2 (some .int), .methodLink RX12 211 Lib.Math.max.name, .static Lib.Math.max.name, .code Lib.Math.max.name Lib.Math.max.code 2 (some .int), .code yX12_in cX12_in 3 (some .boolean), .methodLink RX12 197 yX12_in, .static yX12_in, .methodLink RX12 232 yX12_isIn, .static yX12_isIn, .methodLink RX12 467 yX12_acres, .instanceMethod yX12_acres, .selects RX12 yX12_acres yX12_acres, .fieldLink RX12 104 "SeaLandModel" "gain" "[I", .fieldLink RX12 79 "SeaLandModel" "age" "[I", .fieldLink RX12 82 "SeaLandModel" "sons" "[I", .fieldLink RX12 85 "SeaLandModel" "coin" "[I", .fieldLink RX12 88 "SeaLandModel" "cattle" "[I", .fieldLink RX12 91 "SeaLandModel" "isKin" "[Z", .fieldLink RX12 95 "SeaLandModel" "isBoard" "[Z", .code yX12_near cX12_near 5 (some .int), .code yX12_isDike cX12_isDike 2 (some .boolean), .code yX12_of cX12_of 3 (some .int), .code yX12_at cX12_at 2 (some .int), .methodLink RX12 214 yX12_at, .static yX12_at, .methodLink RX12 217 yX12_of, .instanceMethod yX12_of, .selects RX12 yX12_of yX12_of, .methodLink RX12 272 yX12_isDike, .instanceMethod yX12_isDike, .selects RX12 yX12_isDike yX12_isDike, .code yX12_steps cX12_steps 2 (some .int), .methodLink RX12 201 Lib.Math.abs.name, .static Lib.Math.abs.name, .code Lib.Math.abs.name Lib.Math.abs.code 1 (some .int), .methodLink RX12 262 yX12_steps, .static yX12_steps, .methodLink RX12 469 yX12_near, .instanceMethod yX12_near, .selects RX12 yX12_near yX12_near, .fieldLink RX12 107 "SeaLandModel" "owes" "[I", .methodLink RX12 474 yX12_looksAt, .instanceMethod yX12_looksAt, .selects RX12 yX12_looksAt yX12_looksAt, .fieldLink RX12 42 "SeaLandModel" "lines" "[I", .fieldLink RX12 45 "SeaLandModel" "sort" "[I", .code yX12_holds cX12_holds 9 (some .boolean), .fieldLink RX12 60 "SeaLandModel" "begins" "[I", .fieldLink RX12 63 "SeaLandModel" "ends" "[I", .fieldLink RX12 66 "SeaLandModel" "step" "[I", .fieldLink RX12 72 "SeaLandModel" "value" "[J", .methodLink RX12 471 Lib.MathLoose.max_long.x, .static Lib.MathLoose.max_long.x, .code Lib.MathLoose.max_long.x Lib.MathLoose.max_long.code 4 (some .long), .fieldLink RX12 69 "SeaLandModel" "than" "[I", .methodLink RX12 478 yX12_holds, .instanceMethod yX12_holds, .selects RX12 yX12_holds yX12_holds, .fieldLink RX12 48 "SeaLandModel" "told" "[I", .methodLink RX12 480 yX12_sumOf, .instanceMethod yX12_sumOf, .selects RX12 yX12_sumOf yX12_sumOf, .constantLong RX12 484 100, .methodLink RX12 489 yX12_duesOf, .instanceMethod yX12_duesOf, .selects RX12 yX12_duesOf yX12_duesOf, .fieldLink RX12 110 "SeaLandModel" "came" "[Z", .constantLong RX12 517 2000000000, .fieldLink RX12 519 "SeaLandModel" "board" "I", .methodLink RX12 521 Lib.MathLoose.min_long.x, .static Lib.MathLoose.min_long.x, .code Lib.MathLoose.min_long.x Lib.MathLoose.min_long.code 4 (some .long), .code yX12_bringsOf cX12_bringsOf 8 (some .int), .fieldLink RX12 119 "SeaLandModel" "crop" "[I", .methodLink RX12 514 yX12_bringsOf, .instanceMethod yX12_bringsOf, .selects RX12 yX12_bringsOf yX12_bringsOf] bs)
set_option maxHeartbeats 4000000 in
set_option maxRecDepth 100000 in
theorem s_harvest (l : Launch) (dC : Nat → ClassId) (dI : Nat → Nat → Nat) (kA : Nat → ClassId) (adK adV : Nat → Nat) (G : gT) (H0 : Heap) (q : Nat → Nat) (wZ wN : Nat → Int) (wH wB wC : Int) (wL wK : Nat → Prop) (wU wV : Nat → Nat) (PI : Nat → Int → Prop) (im : Int) (PM PT : Nat → Int → Prop) (lS lB lE : Nat → Nat → Int → Prop) (lN : Nat → Int) (o0 : Nat)  (hT : gH (dC, dI) kA (SHm q (wP wZ wN wH wB wC wL wK wU wV) PI im PM PT lS lB lE lN) G H0) (hr_o0 : G o0 = some 0) (hlaw : lawsOK lS lB lE lN) (hgz : ∀ i, 0 ≤ wZ i) (hgn : ∀ i, 6500000 ≤ wN i ∧ wN i ≤ 20200000) (hgh : 0 ≤ wH ∧ wH ≤ 40000) (hgb : 0 ≤ wB ∧ wB ≤ 3850000) (hgc : 0 ≤ wC ∧ wC ≤ 30) (hgi : 0 ≤ im ∧ im ≤ 1) (hgu : ∀ a t, G a = some (t + 1) → a = q t) : Met l yX12_harvest w_s_harvest ({ frames := 7, cells := 0, slots := 0, locals := 155 }) (va_Pc [.ref o0] (fun U => U.heap = H0 ∧ va_K (dC, dI) vwCl (tyl kA) U ∧ EVS adK adV (gA G H0.size) U U.heap)) (va_Qi (fun (r : Int32) (u : Unit) => True) (fun (_ : Unit) (t : State) => gH (dC, dI) kA (SHm q (wP wZ wN wH wB wC wL wK wU wV) PI im PM PT lS lB lE lN) G t.heap ∧ gF (dC, dI) SKm G ([(0, 0), (0, 48), (0, 49), (2, 0), (30, 0), (31, 0), (34, 0), (40, 0), (41, 0), (42, 0)] : List (Nat × Nat)) H0 t.heap) (gA G H0.size)) 0 0 (gA G H0.size) := by
  refine Met.ofW (cc := cX12_harvest) (maxL := 6) (ret := (some .int)) (by decide) rfl ?_
  intro p e s m args below meth c s₁ B hml hv
  obtain ⟨rfl, hH0, hK, hE⟩ := hv
  have hx := B.exec
  have hb := B.bytes
  have hr := B.returns
  have hts := atoms_spec (ws := w_s_harvest) B.pre
  have hown : s.vm.findClass RX12 = some m.cls := findClass_of_methodNamed B.named
  have hlocks := B.notSynchronized
  subst hH0
  generalize hAe : gA G s.heap.size = A at hE ⊢
  have hA : ∀ q : Nat, s.heap.size ≤ q → A q := fun q h => by rw [← hAe]; exact Or.inr h
  have hG := gA_of hAe
  have hS : va_S A s.heap s.heap [] := va_S.rf
  have hF : gF (dC, dI) SKm G ([(0, 0), (0, 48), (0, 49), (2, 0), (30, 0), (31, 0), (34, 0), (40, 0), (41, 0), (42, 0)] : List (Nat × Nat)) s.heap s.heap := gF.rf
  have hl := lv_entry ([.ref o0]) (n := 6) (Nat.le_of_ble_eq_true rfl)
  rw [lg_entry_eq]
  generalize (lg_sl ([.ref o0]) ++ List.replicate (6 - (lg_sl ([.ref o0])).length) Slot.unset).toArray = ls at hl ⊢
  have hl : lv_has ls 6 [(0, .ref o0)] := hl
  refine lv_aload_n hx hb dX12_harvest_0 rfl (lv_at hl 0 rfl) ?_
  refine lv_iconst (v := 0) hx hb dX12_harvest_1 (by decide) ?_
  refine tw_put (v := .int 0) (ty := .int) hx hb hts bF_X12 tyX12 tyX12_ok nmX12 hown hK hT hG hS hr_o0 shm_0 rfl 0 (by decide) (ht_at hts 0 rfl) (fun _ h9 => h9) rfl (by decide +kernel) rfl rfl (gl_at rfl (gi_all _)) dX12_harvest_2 (fun H locs hT oq m1 oj hS => ?_)
  have hF := hF.put hr_o0 skm_0 oq oj (by decide)
  refine lv_aload_n hx hb dX12_harvest_5 rfl (lv_at hl 0 rfl) ?_
  have hFc := gA_free hG hA hS
  refine va_calli (va_runV (As := []) (rest := []) ⟨hx, hb, hml, hown, hts⟩ (s_hour l dC dI kA adK adV G H q wZ wN wH wB wC wL wK wU wV PI im PM PT lS lB lE lN o0 hT hr_o0 hgz hgn hgh hgb hgc hgi hgu) (cwV 0 hts (goodIn_app (goodIn_r _ [4, 5, 6, 7] rfl (by decide +kernel)) (goodIn_ca (goodIn_r _ [2, 3] rfl (by decide +kernel)) (bs_in _ _))) rfl rfl rfl (by decide +kernel) ⟨(Nat.le_of_ble_eq_true rfl), (Nat.le_of_ble_eq_true rfl)⟩) ⟨fun a U g mk q => by obtain ⟨q0, q1, qK, qE⟩ := q; exact ⟨q0, q1, va_K.moved (u := U) (U := U.calling g mk a) (Vm.Alike.refl U.vm) qK, EVS.blind g mk a qE⟩, gH_rc hK hT hr_o0 shm_0 rfl, fun U hU hW => ⟨rfl, hU, va_K.moved hW.alike hK, hE.call hS hFc hU hW⟩⟩ rfl rfl hl.1 rfl (lv_room (Nat.le_of_ble_eq_true rfl)) dX12_harvest_6 ⟨(Nat.le_of_ble_eq_true rfl), (Nat.le_of_ble_eq_true rfl)⟩) hS (fun q _ h => hFc q h) hFc (fun r2 u t H locs ht hvm hw3 hB _ _ hS => ?_)
  obtain ⟨hT, hF1⟩ := hB
  rw [ht] at hT hF1
  have m4 := (hF1.fld hr_o0 skm_0 (k := 0) (by decide) (by decide)).trans m1
  have hF := hF.more hF1 (by decide)
  try dsimp only at hw3
  obtain ⟨h5, hf6⟩ := hw3
  refine lv_bipush (v := 24) hx hb dX12_harvest_9 (by decide) ?_
  refine lv_idiv hx hb dX12_harvest_11 (by decide) ?_
  refine lv_topi (fun x7 ex7 => ?_)
  have t8 : x7.toInt = r2.toInt / 24 := ti_div ex7 rfl (by decide) (by omega) (by omega)
  refine lv_sipush (v := 360) hx hb dX12_harvest_12 (by decide) ?_
  refine lv_idiv hx hb dX12_harvest_15 (by decide) ?_
  refine lv_topi (fun x9 ex9 => ?_)
  have t10 : x9.toInt = x7.toInt / 360 := ti_div ex9 rfl (by decide) (by omega) (by omega)
  refine lv_istore_n (lv' := [(1, .int x9), (0, .ref o0)]) hx hb dX12_harvest_16 rfl hl (by decide) rfl (fun ls hl => ?_)
  refine lv_aload_n hx hb dX12_harvest_17 rfl (lv_at hl 1 rfl) ?_
  refine tw_get hx hb hts bF_X12 hown hK hT hr_o0 shm_0 rfl 49 (by decide) (ht_at hts 7 rfl) (fun _ h9 => h9) dX12_harvest_18 (fun v9 m11 h9 => ?_)
  obtain ⟨x12, rfl, gx12, kx12⟩ := h9 _ rfl
  refine lv_iload_n hx hb dX12_harvest_21 rfl (lv_at hl 0 rfl) ?_
  refine lv_icmp_ne (tgt := 27) hx hb dX12_harvest_22 (by decide) (fun c13 => ?_) (fun c13 => ?_)
  · have t14 : x12.toInt ≠ x9.toInt := ti_ne c13 rfl rfl
    refine lv_aload_n hx hb dX12_harvest_27 rfl (lv_at hl 1 rfl) ?_
    refine lv_iload_n hx hb dX12_harvest_28 rfl (lv_at hl 0 rfl) ?_
    refine tw_put (v := .int x9) (ty := .int) hx hb hts bF_X12 tyX12 tyX12_ok nmX12 hown hK hT hG hS hr_o0 shm_0 rfl 49 (by decide) (ht_at hts 7 rfl) (fun _ h9 => h9) rfl (by decide +kernel) rfl rfl (gl_at rfl (gi_all _)) dX12_harvest_29 (fun H locs hT oq m15 oj hS => ?_)
    have hF := hF.put hr_o0 skm_0 oq oj (by decide)
    have m16 := (oj 0 (by decide) (by decide)).trans m4
    refine lv_iconst (v := 0) hx hb dX12_harvest_32 (by decide) ?_
    refine lv_istore_n (lv' := [(2, .int 0), (1, .int x9), (0, .ref o0)]) hx hb dX12_harvest_33 rfl hl (by decide) rfl (fun ls hl => ?_)
    refine lv_iconst (v := 0) hx hb dX12_harvest_34 (by decide) ?_
    refine lv_istore_n (lv' := [(3, .int 0), (2, .int 0), (1, .int x9), (0, .ref o0)]) hx hb dX12_harvest_35 rfl hl (by decide) rfl (fun ls hl => ?_)
    have key342 : ∀ (n342 i17 : Nat), i17 + n342 = 60 → 0 ≤ i17 → ∀ (z18 : Int32), ∀ (H : Heap) (locs : List Loc), gH (dC, dI) kA (SHm q (wP wZ wN wH wB wC wL wK wU wV) PI im PM PT lS lB lE lN) G H → gF (dC, dI) SKm G ([(0, 0), (0, 48), (0, 49), (2, 0), (30, 0), (31, 0), (34, 0), (40, 0), (41, 0), (42, 0)] : List (Nat × Nat)) s.heap H → va_S A s.heap H locs → el H o0 (dI 15 0) = some (.int 0) → el H o0 (dI 15 49) = some (.int x9) → ∀ ls : Array Slot, lv_has ls 6 [(3, .int (nI i17)), (2, .int z18), (1, .int x9), (0, .ref o0)] → W p l e (headSpec w_s_harvest ({ frames := 7, cells := 0, slots := 0, locals := 155 })).room s m #[.ref o0] below meth c H locs 0 0 (MQ below (va_Qi (fun (r : Int32) (u : Unit) => True) (fun (_ : Unit) (t : State) => gH (dC, dI) kA (SHm q (wP wZ wN wH wB wC wL wK wU wV) PI im PM PT lS lB lE lN) G t.heap ∧ gF (dC, dI) SKm G ([(0, 0), (0, 48), (0, 49), (2, 0), (30, 0), (31, 0), (34, 0), (40, 0), (41, 0), (42, 0)] : List (Nat × Nat)) s.heap t.heap) A) #[.ref o0] s 0 0 A) (F0 m 36 ls []) := by
      intro n342
      induction n342 with
      | zero =>
        intro i17 hn342 hlo343 z18 H locs hT hF hS m19 m20 ls hl
        obtain rfl : 60 = i17 := by omega
        refine lv_iload_n hx hb dX12_harvest_36 rfl (lv_at hl 0 rfl) ?_
        refine lv_aload_n hx hb dX12_harvest_37 rfl (lv_at hl 3 rfl) ?_
        refine tw_get hx hb hts bF_X12 hown hK hT hr_o0 shm_0 rfl 42 (by decide) (ht_at hts 8 rfl) (fun _ h9 => h9) dX12_harvest_38 (fun v9 m344 h9 => ?_)
        obtain ⟨x345, rfl, gx345, kx345⟩ := h9 _ rfl
        refine lv_icmp_ge (tgt := 102) hx hb dX12_harvest_41 (by decide) (fun c346 => ?_) (fun c346 => (by exfalso; have q9 : ((60 : Nat) : Int) < x345.toInt := ti_nle c346 rfl (nI_toInt (by omega)); omega))
        have t347 : x345.toInt ≤ ((60 : Nat) : Int) := ti_le c346 rfl (nI_toInt (by omega))
        refine lv_iconst (v := 0) hx hb dX12_harvest_102 (by decide) ?_
        refine lv_istore_n (lv' := [(3, .int 0), (2, .int z18), (1, .int x9), (0, .ref o0)]) hx hb dX12_harvest_103 rfl hl (by decide) rfl (fun ls hl => ?_)
        have key361 : ∀ (n361 i348 : Nat), i348 + n361 = 96 → 0 ≤ i348 → ∀ (H : Heap) (locs : List Loc), gH (dC, dI) kA (SHm q (wP wZ wN wH wB wC wL wK wU wV) PI im PM PT lS lB lE lN) G H → gF (dC, dI) SKm G ([(0, 0), (0, 48), (0, 49), (2, 0), (30, 0), (31, 0), (34, 0), (40, 0), (41, 0), (42, 0)] : List (Nat × Nat)) s.heap H → va_S A s.heap H locs → el H o0 (dI 15 0) = some (.int 0) → el H o0 (dI 15 49) = some (.int x9) → el H o0 (dI 15 42) = some (.int x345) → ∀ ls : Array Slot, lv_has ls 6 [(3, .int (nI i348)), (2, .int z18), (1, .int x9), (0, .ref o0)] → W p l e (headSpec w_s_harvest ({ frames := 7, cells := 0, slots := 0, locals := 155 })).room s m #[.ref o0] below meth c H locs 0 0 (MQ below (va_Qi (fun (r : Int32) (u : Unit) => True) (fun (_ : Unit) (t : State) => gH (dC, dI) kA (SHm q (wP wZ wN wH wB wC wL wK wU wV) PI im PM PT lS lB lE lN) G t.heap ∧ gF (dC, dI) SKm G ([(0, 0), (0, 48), (0, 49), (2, 0), (30, 0), (31, 0), (34, 0), (40, 0), (41, 0), (42, 0)] : List (Nat × Nat)) s.heap t.heap) A) #[.ref o0] s 0 0 A) (F0 m 104 ls []) := by
          intro n361
          induction n361 with
          | zero =>
            intro i348 hn361 hlo362  H locs hT hF hS m349 m350 m351 ls hl
            obtain rfl : 96 = i348 := by omega
            refine lv_iload_n hx hb dX12_harvest_104 rfl (lv_at hl 0 rfl) ?_
            refine lv_bipush (v := 96) hx hb dX12_harvest_105 (by decide) ?_
            refine lv_icmp_ge (tgt := 127) hx hb dX12_harvest_107 (by decide) (fun c363 => ?_) (fun c363 => (by exfalso; have q9 : ((96 : Nat) : Int) < 96 := ti_nle c363 (by decide) (nI_toInt (by omega)); omega))
            have t364 : 96 ≤ ((96 : Nat) : Int) := ti_le c363 (by decide) (nI_toInt (by omega))
            refine lv_iconst (v := 0) hx hb dX12_harvest_127 (by decide) ?_
            refine lv_istore_n (lv' := [(3, .int 0), (2, .int z18), (1, .int x9), (0, .ref o0)]) hx hb dX12_harvest_128 rfl hl (by decide) rfl (fun ls hl => ?_)
            have key488 : ∀ (n488 i365 : Nat), i365 + n488 = 59 → 0 ≤ i365 → ∀ (H : Heap) (locs : List Loc), gH (dC, dI) kA (SHm q (wP wZ wN wH wB wC wL wK wU wV) PI im PM PT lS lB lE lN) G H → gF (dC, dI) SKm G ([(0, 0), (0, 48), (0, 49), (2, 0), (30, 0), (31, 0), (34, 0), (40, 0), (41, 0), (42, 0)] : List (Nat × Nat)) s.heap H → va_S A s.heap H locs → el H o0 (dI 15 0) = some (.int 0) → el H o0 (dI 15 49) = some (.int x9) → el H o0 (dI 15 42) = some (.int x345) → ∀ ls : Array Slot, lv_has ls 6 [(3, .int (nI i365)), (2, .int z18), (1, .int x9), (0, .ref o0)] → W p l e (headSpec w_s_harvest ({ frames := 7, cells := 0, slots := 0, locals := 155 })).room s m #[.ref o0] below meth c H locs 0 0 (MQ below (va_Qi (fun (r : Int32) (u : Unit) => True) (fun (_ : Unit) (t : State) => gH (dC, dI) kA (SHm q (wP wZ wN wH wB wC wL wK wU wV) PI im PM PT lS lB lE lN) G t.heap ∧ gF (dC, dI) SKm G ([(0, 0), (0, 48), (0, 49), (2, 0), (30, 0), (31, 0), (34, 0), (40, 0), (41, 0), (42, 0)] : List (Nat × Nat)) s.heap t.heap) A) #[.ref o0] s 0 0 A) (F0 m 129 ls []) := by
              intro n488
              induction n488 with
              | zero =>
                intro i365 hn488 hlo489  H locs hT hF hS m366 m367 m368 ls hl
                obtain rfl : 59 = i365 := by omega
                refine lv_iload_n hx hb dX12_harvest_129 rfl (lv_at hl 0 rfl) ?_
                refine lv_aload_n hx hb dX12_harvest_130 rfl (lv_at hl 3 rfl) ?_
                refine tw_getM (v := .int x345) hx hb hts bF_X12 hown hK hT hr_o0 shm_0 rfl 42 (by decide) (ht_at hts 8 rfl) (fun _ h9 => h9) m368 dX12_harvest_131 ?_
                refine lv_icmp_ge (tgt := 266) hx hb dX12_harvest_134 (by decide) (fun c490 => ?_) (fun c490 => ?_)
                · have t491 : x345.toInt ≤ ((59 : Nat) : Int) := ti_le c490 rfl (nI_toInt (by omega))
                  refine lv_iload_n hx hb dX12_harvest_266 rfl (lv_at hl 1 rfl) ?_
                  exact W.iret (v := z18) hx hb hr (fun t ht hW => ⟨⟨z18, (), rfl, (by exact trivial), by (try dsimp only); rw [ht]; exact ⟨hT, hF⟩⟩, hS.F ht⟩) hS.2.2 dX12_harvest_267
                · have t492 : ((59 : Nat) : Int) < x345.toInt := ti_nle c490 rfl (nI_toInt (by omega))
                  refine lv_aload_n hx hb dX12_harvest_137 rfl (lv_at hl 3 rfl) ?_
                  refine tw_get hx hb hts bF_X12 hown hK hT hr_o0 shm_0 rfl 38 (by decide) (ht_at hts 9 rfl) (fun _ h9 => h9) dX12_harvest_138 (fun v9 m493 h9 => ?_)
                  obtain ⟨rfl, hg494⟩ := h9 _ rfl
                  refine lv_iload_n hx hb dX12_harvest_141 rfl (lv_at hl 0 rfl) ?_
                  refine tw_iald (i := (nI 59)) hx hb hK hT hg494 shm_39 rfl (vp_in_nI (by omega) (by decide)) dX12_harvest_142 (fun v9 m495 h9 => ?_)
                  obtain ⟨x496, rfl, gx496, kx496⟩ := h9
                  refine lv_if_ge (tgt := 149) hx hb dX12_harvest_143 (by decide) (fun c497 => ?_) (fun c497 => ?_)
                  · have t498 : 0 ≤ x496.toInt := ti_le c497 (by decide) rfl
                    refine lv_aload_n hx hb dX12_harvest_149 rfl (lv_at hl 3 rfl) ?_
                    refine lv_iload_n hx hb dX12_harvest_150 rfl (lv_at hl 0 rfl) ?_
                    have hFc := gA_free hG hA hS
                    refine va_calli (va_runV (As := [.int (nI 59)]) (rest := []) ⟨hx, hb, hml, hown, hts⟩ (s_duesOf l dC dI kA adK adV G H q wZ wN wH wB wC wL wK wU wV PI im PM PT lS lB lE lN o0 (nI 59) hT hr_o0 (rg_t (a := ((59 : Nat) : Int)) (nI_toInt (by omega)) (by omega) (by omega)) (by assumption) hgz hgn hgh hgb hgc hgi hgu) (cwV 1 hts (goodIn_app (goodIn_r _ [85, 86, 87, 7] rfl (by decide +kernel)) (goodIn_ca (goodIn_r _ [11, 12, 13, 14, 15, 10, 16, 17, 18, 19, 20, 21, 22, 23, 24, 25, 26, 27, 28, 7, 29, 30, 31, 32, 33, 34, 35, 36, 37, 38, 39, 40, 41, 3, 42, 43, 44, 45, 46, 47, 48, 49, 50, 51, 52, 53, 54, 55, 56, 57, 58, 59, 60, 61, 62, 63, 64, 65, 66, 67, 68, 69, 70, 71, 72, 73, 74, 75, 76, 77, 78, 79, 80, 81, 82, 83, 84] rfl (by decide +kernel)) (bs_in _ _))) rfl rfl rfl (by decide +kernel) ⟨(Nat.le_of_ble_eq_true rfl), (Nat.le_of_ble_eq_true rfl)⟩) ⟨fun a U g mk q => by obtain ⟨q0, q1, qK, qE⟩ := q; exact ⟨q0, q1, va_K.moved (u := U) (U := U.calling g mk a) (Vm.Alike.refl U.vm) qK, EVS.blind g mk a qE⟩, gH_rc hK hT hr_o0 shm_0 rfl, fun U hU hW => ⟨rfl, hU, va_K.moved hW.alike hK, hE.call hS hFc hU hW⟩⟩ rfl rfl hl.1 rfl (lv_room (Nat.le_of_ble_eq_true rfl)) dX12_harvest_151 ⟨(Nat.le_of_ble_eq_true rfl), (Nat.le_of_ble_eq_true rfl)⟩) hS (fun q _ h => hFc q h) hFc (fun r499 u t H locs ht hvm hw500 hB _ _ hS => ?_)
                    obtain ⟨hT, hF1⟩ := hB
                    rw [ht] at hT hF1
                    have m501 := (hF1.fld hr_o0 skm_0 (k := 0) (by decide) (by decide)).trans m366
                    have m502 := (hF1.fld hr_o0 skm_0 (k := 49) (by decide) (by decide)).trans m367
                    have m503 := (hF1.fld hr_o0 skm_0 (k := 42) (by decide) (by decide)).trans m368
                    have m504 := (el_kept (hF1.arr hg494 skm_39 (by decide))).trans m495
                    have hF := hF.more hF1 (by decide)
                    try dsimp only at hw500
                    refine lv_aload_n hx hb dX12_harvest_154 rfl (lv_at hl 3 rfl) ?_
                    refine lv_iload_n hx hb dX12_harvest_155 rfl (lv_at hl 0 rfl) ?_
                    refine lv_iconst (v := 5) hx hb dX12_harvest_156 (by decide) ?_
                    have hFc := gA_free hG hA hS
                    refine va_calll (va_runV (As := [.int (nI 59), .int 5]) (rest := [.int r499]) ⟨hx, hb, hml, hown, hts⟩ (s_sumOf l dC dI kA adK adV G H q wZ wN wH wB wC wL wK wU wV PI im PM PT lS lB lE lN o0 (nI 59) 5 hT hr_o0 (rg_t (a := ((59 : Nat) : Int)) (nI_toInt (by omega)) (by omega) (by omega)) (by assumption) hgz hgn hgh hgb hgc hgi hgu) (cwV 2 hts (goodIn_app (goodIn_r _ [81, 82, 83, 7] rfl (by decide +kernel)) (goodIn_ca (goodIn_r _ [12, 13, 14, 15, 10, 16, 17, 18, 19, 20, 21, 22, 23, 24, 25, 26, 27, 28, 7, 29, 30, 31, 32, 33, 34, 35, 36, 37, 38, 39, 40, 41, 3, 42, 43, 44, 45, 46, 47, 48, 49, 50, 51, 52, 53, 54, 55, 56, 57, 58, 59, 60, 61, 62, 63, 64, 65, 66, 67, 68, 69, 70, 71, 72, 73, 74, 75, 76, 77, 78, 79, 80] rfl (by decide +kernel)) (bs_in _ _))) rfl rfl rfl (by decide +kernel) ⟨(Nat.le_of_ble_eq_true rfl), (Nat.le_of_ble_eq_true rfl)⟩) ⟨fun a U g mk q => by obtain ⟨q0, q1, qK, qE⟩ := q; exact ⟨q0, q1, va_K.moved (u := U) (U := U.calling g mk a) (Vm.Alike.refl U.vm) qK, EVS.blind g mk a qE⟩, gH_rc hK hT hr_o0 shm_0 rfl, fun U hU hW => ⟨rfl, hU, va_K.moved hW.alike hK, hE.call hS hFc hU hW⟩⟩ rfl rfl hl.1 rfl (lv_room (Nat.le_of_ble_eq_true rfl)) dX12_harvest_157 ⟨(Nat.le_of_ble_eq_true rfl), (Nat.le_of_ble_eq_true rfl)⟩) hS (fun q _ h => hFc q h) hFc (fun r505 u t H locs ht hvm hw506 hB _ _ hS => ?_)
                    obtain ⟨hT, hF1⟩ := hB
                    rw [ht] at hT hF1
                    have m507 := (hF1.fld hr_o0 skm_0 (k := 0) (by decide) (by decide)).trans m501
                    have m508 := (hF1.fld hr_o0 skm_0 (k := 49) (by decide) (by decide)).trans m502
                    have m509 := (hF1.fld hr_o0 skm_0 (k := 42) (by decide) (by decide)).trans m503
                    have m510 := (el_kept (hF1.arr hg494 skm_39 (by decide))).trans m504
                    have hF := hF.more hF1 (by decide)
                    try dsimp only at hw506
                    refine lv_lconst (v := 0) hx hb dX12_harvest_160 (by decide) ?_
                    refine W.lcmp hx hb dX12_harvest_161 ?_
                    refine lv_topi (fun x511 _ => ?_)
                    have jn532 : ∀ (z527 : Int32), ∀ (H : Heap) (locs : List Loc), gH (dC, dI) kA (SHm q (wP wZ wN wH wB wC wL wK wU wV) PI im PM PT lS lB lE lN) G H → gF (dC, dI) SKm G ([(0, 0), (0, 48), (0, 49), (2, 0), (30, 0), (31, 0), (34, 0), (40, 0), (41, 0), (42, 0)] : List (Nat × Nat)) s.heap H → va_S A s.heap H locs → el H o0 (dI 15 0) = some (.int 0) → el H o0 (dI 15 49) = some (.int x9) → el H o0 (dI 15 42) = some (.int x345) → el H (q 38) (nI 59).toNatClampNeg = some (.int x496) → ∀ ls : Array Slot, lv_has ls 6 [(3, .int (nI 59)), (2, .int z18), (1, .int x9), (0, .ref o0)] → W p l e (headSpec w_s_harvest ({ frames := 7, cells := 0, slots := 0, locals := 155 })).room s m #[.ref o0] below meth c H locs 0 0 (MQ below (va_Qi (fun (r : Int32) (u : Unit) => True) (fun (_ : Unit) (t : State) => gH (dC, dI) kA (SHm q (wP wZ wN wH wB wC wL wK wU wV) PI im PM PT lS lB lE lN) G t.heap ∧ gF (dC, dI) SKm G ([(0, 0), (0, 48), (0, 49), (2, 0), (30, 0), (31, 0), (34, 0), (40, 0), (41, 0), (42, 0)] : List (Nat × Nat)) s.heap t.heap) A) #[.ref o0] s 0 0 A) (F0 m 185 ls [.int z527, .int r499]) := by
                      intro z527 H locs hT hF hS m528 m529 m530 m531 ls hl
                      refine lv_iadd hx hb dX12_harvest_185 ?_
                      refine lv_topi (fun x533 ex533 => ?_)
                      refine lv_istore (lv' := [(4, .int x533), (3, .int (nI 59)), (2, .int z18), (1, .int x9), (0, .ref o0)]) hx hb dX12_harvest_186 hl (by decide) rfl (fun ls hl => ?_)
                      refine lv_aload_n hx hb dX12_harvest_188 rfl (lv_at hl 4 rfl) ?_
                      refine tw_get hx hb hts bF_X12 hown hK hT hr_o0 shm_0 rfl 33 (by decide) (ht_at hts 36 rfl) (fun _ h9 => h9) dX12_harvest_189 (fun v9 m534 h9 => ?_)
                      obtain ⟨rfl, hg535⟩ := h9 _ rfl
                      refine lv_iload_n hx hb dX12_harvest_192 rfl (lv_at hl 1 rfl) ?_
                      refine tw_iald (i := (nI 59)) hx hb hK hT hg535 shm_34 rfl (vp_in_nI (by omega) (by decide)) dX12_harvest_193 (fun v9 m536 h9 => ?_)
                      obtain ⟨x537, rfl, gx537, kx537⟩ := h9
                      refine lv_aload_n hx hb dX12_harvest_194 rfl (lv_at hl 4 rfl) ?_
                      refine tw_get hx hb hts bF_X12 hown hK hT hr_o0 shm_0 rfl 40 (by decide) (ht_at hts 61 rfl) (fun _ h9 => h9) dX12_harvest_195 (fun v9 m538 h9 => ?_)
                      obtain ⟨rfl, hg539⟩ := h9 _ rfl
                      refine lv_iload_n hx hb dX12_harvest_198 rfl (lv_at hl 1 rfl) ?_
                      refine tw_iald (i := (nI 59)) hx hb hK hT hg539 shm_41 rfl (vp_in_nI (by omega) (by decide)) dX12_harvest_199 (fun v9 m540 h9 => ?_)
                      obtain ⟨x541, rfl, gx541, kx541⟩ := h9
                      refine lv_iload hx hb dX12_harvest_200 (lv_at hl 0 rfl) ?_
                      refine lv_iadd hx hb dX12_harvest_202 ?_
                      refine lv_topi (fun x542 ex542 => ?_)
                      refine va_mmin hx hb (hml.trans hl.1.symm) hown (ht_at hts 18 rfl) (ht_at hts 19 rfl) (ht_at hts 20 rfl) (ht_at hts 21 rfl) (Nat.le_of_ble_eq_true rfl) (Nat.le_of_ble_eq_true rfl) (Nat.le_of_ble_eq_true rfl) (Nat.le_of_ble_eq_true rfl) dX12_harvest_203 ?_
                      refine lv_topi (fun x543 ex543 => ?_)
                      have t544 : x543.toInt ≤ x537.toInt ∧ x543.toInt ≤ x542.toInt ∧ (x543.toInt = x537.toInt ∨ x543.toInt = x542.toInt) := mn_f ex543 rfl rfl
                      refine lv_istore (lv' := [(5, .int x543), (4, .int x533), (3, .int (nI 59)), (2, .int z18), (1, .int x9), (0, .ref o0)]) hx hb dX12_harvest_206 hl (by decide) rfl (fun ls hl => ?_)
                      refine lv_aload_n hx hb dX12_harvest_208 rfl (lv_at hl 5 rfl) ?_
                      refine tw_get hx hb hts bF_X12 hown hK hT hr_o0 shm_0 rfl 33 (by decide) (ht_at hts 36 rfl) (fun _ h9 => h9) dX12_harvest_209 (fun v9 m545 h9 => ?_)
                      obtain ⟨rfl, hg546⟩ := h9 _ rfl
                      refine lv_iload_n hx hb dX12_harvest_212 rfl (lv_at hl 2 rfl) ?_
                      refine lv_dup2_11 hx hb dX12_harvest_213 rfl rfl ?_
                      refine tw_iald (i := (nI 59)) hx hb hK hT hg535 shm_34 rfl (vp_in_nI (by omega) (by decide)) dX12_harvest_214 (fun v9 m547 h9 => ?_)
                      obtain ⟨x548, rfl, gx548, kx548⟩ := h9
                      obtain rfl : x537 = x548 := (el_same m547 m536 rfl).symm
                      refine lv_iload hx hb dX12_harvest_215 (lv_at hl 0 rfl) ?_
                      refine lv_isub hx hb dX12_harvest_217 ?_
                      refine lv_topi (fun x549 ex549 => ?_)
                      refine tw_iast (i := (nI 59)) (x := x549) hx hb hK hT hG hS hg535 shm_34 rfl (vp_in_nI (by omega) (by decide)) (gi_all _) dX12_harvest_218 (fun H locs hT oq m550 oi hS => ?_)
                      have hF := hF.ast hg535 skm_34 oq (by decide)
                      have m551 := (el_kept (oq _ (gne hr_o0 hg535 (by decide)))).trans m528
                      have m552 := (el_kept (oq _ (gne hr_o0 hg535 (by decide)))).trans m529
                      have m553 := (el_kept (oq _ (gne hr_o0 hg535 (by decide)))).trans m530
                      have m554 := (el_kept (oq _ (gne hg494 hg535 (by decide)))).trans m531
                      have m555 := (el_kept (oq _ (gne hg539 hg535 (by decide)))).trans m540
                      refine lv_aload_n hx hb dX12_harvest_219 rfl (lv_at hl 5 rfl) ?_
                      refine tw_get hx hb hts bF_X12 hown hK hT hr_o0 shm_0 rfl 40 (by decide) (ht_at hts 61 rfl) (fun _ h9 => h9) dX12_harvest_220 (fun v9 m556 h9 => ?_)
                      obtain ⟨rfl, hg557⟩ := h9 _ rfl
                      refine lv_iload_n hx hb dX12_harvest_223 rfl (lv_at hl 2 rfl) ?_
                      refine lv_dup2_11 hx hb dX12_harvest_224 rfl rfl ?_
                      refine tw_iald (i := (nI 59)) hx hb hK hT hg539 shm_41 rfl (vp_in_nI (by omega) (by decide)) dX12_harvest_225 (fun v9 m558 h9 => ?_)
                      obtain ⟨x559, rfl, gx559, kx559⟩ := h9
                      obtain rfl : x541 = x559 := (el_same m558 m555 rfl).symm
                      refine lv_iload hx hb dX12_harvest_226 (lv_at hl 1 rfl) ?_
                      refine lv_iload hx hb dX12_harvest_228 (lv_at hl 0 rfl) ?_
                      refine lv_isub hx hb dX12_harvest_230 ?_
                      refine lv_topi (fun x560 ex560 => ?_)
                      refine lv_iadd hx hb dX12_harvest_231 ?_
                      refine lv_topi (fun x561 ex561 => ?_)
                      refine tw_iast (i := (nI 59)) (x := x561) hx hb hK hT hG hS hg539 shm_41 rfl (vp_in_nI (by omega) (by decide)) (gi_all _) dX12_harvest_232 (fun H locs hT oq m562 oi hS => ?_)
                      have hF := hF.ast hg539 skm_41 oq (by decide)
                      have m563 := (el_kept (oq _ (gne hr_o0 hg539 (by decide)))).trans m551
                      have m564 := (el_kept (oq _ (gne hr_o0 hg539 (by decide)))).trans m552
                      have m565 := (el_kept (oq _ (gne hr_o0 hg539 (by decide)))).trans m553
                      have m566 := (el_kept (oq _ (gne hg494 hg539 (by decide)))).trans m554
                      have m567 := (el_kept (oq _ (gne hg535 hg539 (by decide)))).trans m550
                      refine lv_aload_n hx hb dX12_harvest_233 rfl (lv_at hl 5 rfl) ?_
                      refine lv_ldc2 (v := 2000000000) hx hb hown (ht_at hts 88 rfl) dX12_harvest_234 ?_
                      refine lv_aload_n hx hb dX12_harvest_237 rfl (lv_at hl 5 rfl) ?_
                      refine tw_get hx hb hts bF_X12 hown hK hT hr_o0 shm_0 rfl 48 (by decide) (ht_at hts 89 rfl) (fun _ h9 => h9) dX12_harvest_238 (fun v9 m568 h9 => ?_)
                      obtain ⟨x569, rfl, gx569, kx569⟩ := h9 _ rfl
                      refine lv_i2l (v := x569.toInt64) hx hb dX12_harvest_241 rfl ?_
                      refine lv_iload hx hb dX12_harvest_242 (lv_at hl 0 rfl) ?_
                      refine lv_i2l (v := x543.toInt64) hx hb dX12_harvest_244 rfl ?_
                      refine lv_ladd hx hb dX12_harvest_245 ?_
                      refine lv_topl (fun y570 _ => ?_)
                      refine va_mmin_long hx hb (hml.trans hl.1.symm) hown (ht_at hts 90 rfl) (ht_at hts 91 rfl) (ht_at hts 20 rfl) (ht_at hts 92 rfl) (Nat.le_of_ble_eq_true rfl) (Nat.le_of_ble_eq_true rfl) (Nat.le_of_ble_eq_true rfl) (Nat.le_of_ble_eq_true rfl) dX12_harvest_246 ?_
                      refine lv_topl (fun y571 _ => ?_)
                      refine lv_l2i (v := y571.toInt32) hx hb dX12_harvest_249 rfl ?_
                      refine lv_topi (fun x572 _ => ?_)
                      refine tw_put (v := .int x572) (ty := .int) hx hb hts bF_X12 tyX12 tyX12_ok nmX12 hown hK hT hG hS hr_o0 shm_0 rfl 48 (by decide) (ht_at hts 89 rfl) (fun _ h9 => h9) rfl (by decide +kernel) rfl rfl (gl_at rfl (gi_all _)) dX12_harvest_250 (fun H locs hT oq m573 oj hS => ?_)
                      have hF := hF.put hr_o0 skm_0 oq oj (by decide)
                      have m574 := (oj 0 (by decide) (by decide)).trans m563
                      have m575 := (oj 49 (by decide) (by decide)).trans m564
                      have m576 := (oj 42 (by decide) (by decide)).trans m565
                      have m577 := (el_kept (oq _ (gne hg494 hr_o0 (by decide)))).trans m566
                      have m578 := (el_kept (oq _ (gne hg535 hr_o0 (by decide)))).trans m567
                      have m579 := (el_kept (oq _ (gne hg539 hr_o0 (by decide)))).trans m562
                      refine lv_aload_n hx hb dX12_harvest_253 rfl (lv_at hl 5 rfl) ?_
                      refine tw_get hx hb hts bF_X12 hown hK hT hr_o0 shm_0 rfl 41 (by decide) (ht_at hts 87 rfl) (fun _ h9 => h9) dX12_harvest_254 (fun v9 m580 h9 => ?_)
                      obtain ⟨rfl, hg581⟩ := h9 _ rfl
                      refine lv_iload_n hx hb dX12_harvest_257 rfl (lv_at hl 2 rfl) ?_
                      refine lv_iconst (v := 0) hx hb dX12_harvest_258 (by decide) ?_
                      refine tw_zast (i := (nI 59)) (x := 0) hx hb hK hT hG hS hg581 shm_42 rfl (vp_in_nI (by omega) (by decide)) (gi_z (rg_t (a := 0) (by decide) (by first | decide | omega) (by first | decide | omega)) (by decide) (by decide)) dX12_harvest_259 (fun H locs hT oq m582 oi hS => ?_)
                      have hF := hF.ast hg581 skm_42 oq (by decide)
                      have m583 := (el_kept (oq _ (gne hr_o0 hg581 (by decide)))).trans m574
                      have m584 := (el_kept (oq _ (gne hr_o0 hg581 (by decide)))).trans m575
                      have m585 := (el_kept (oq _ (gne hr_o0 hg581 (by decide)))).trans m576
                      have m586 := (el_kept (oq _ (gne hg494 hg581 (by decide)))).trans m577
                      have m587 := (el_kept (oq _ (gne hg535 hg581 (by decide)))).trans m578
                      have m588 := (el_kept (oq _ (gne hg539 hg581 (by decide)))).trans m579
                      have m589 := (el_kept (oq _ (gne hr_o0 hg581 (by decide)))).trans m573
                      refine lv_iinc (v := nI (59 + 1)) (lv' := [(3, .int (nI (59 + 1))), (5, .int x543), (4, .int x533), (2, .int z18), (1, .int x9), (0, .ref o0)]) hx hb dX12_harvest_260 hl (k := 2) rfl (nI_add 59 1) (by decide) rfl (fun ls hl => ?_)
                      refine lv_goto (tgt := 129) hx hb dX12_harvest_263 (by decide) ?_
                      have key600 : ∀ (n600 i590 : Nat), i590 + n600 = 60 → (59 + 1) ≤ i590 → ∀ (H : Heap) (locs : List Loc), gH (dC, dI) kA (SHm q (wP wZ wN wH wB wC wL wK wU wV) PI im PM PT lS lB lE lN) G H → gF (dC, dI) SKm G ([(0, 0), (0, 48), (0, 49), (2, 0), (30, 0), (31, 0), (34, 0), (40, 0), (41, 0), (42, 0)] : List (Nat × Nat)) s.heap H → va_S A s.heap H locs → el H o0 (dI 15 0) = some (.int 0) → el H o0 (dI 15 49) = some (.int x9) → el H o0 (dI 15 42) = some (.int x345) → el H (q 38) (nI 59).toNatClampNeg = some (.int x496) → el H (q 33) (nI 59).toNatClampNeg = some (.int x549) → el H (q 40) (nI 59).toNatClampNeg = some (.int x561) → el H o0 (dI 15 48) = some (.int x572) → ∀ ls : Array Slot, lv_has ls 6 [(3, .int (nI i590)), (5, .int x543), (4, .int x533), (2, .int z18), (1, .int x9), (0, .ref o0)] → W p l e (headSpec w_s_harvest ({ frames := 7, cells := 0, slots := 0, locals := 155 })).room s m #[.ref o0] below meth c H locs 0 0 (MQ below (va_Qi (fun (r : Int32) (u : Unit) => True) (fun (_ : Unit) (t : State) => gH (dC, dI) kA (SHm q (wP wZ wN wH wB wC wL wK wU wV) PI im PM PT lS lB lE lN) G t.heap ∧ gF (dC, dI) SKm G ([(0, 0), (0, 48), (0, 49), (2, 0), (30, 0), (31, 0), (34, 0), (40, 0), (41, 0), (42, 0)] : List (Nat × Nat)) s.heap t.heap) A) #[.ref o0] s 0 0 A) (F0 m 129 ls []) := by
                        intro n600
                        induction n600 with
                        | zero =>
                          intro i590 hn600 hlo601  H locs hT hF hS m591 m592 m593 m594 m595 m596 m597 ls hl
                          obtain rfl : 60 = i590 := by omega
                          refine lv_iload_n hx hb dX12_harvest_129 rfl (lv_at hl 0 rfl) ?_
                          refine lv_aload_n hx hb dX12_harvest_130 rfl (lv_at hl 5 rfl) ?_
                          refine tw_getM (v := .int x345) hx hb hts bF_X12 hown hK hT hr_o0 shm_0 rfl 42 (by decide) (ht_at hts 8 rfl) (fun _ h9 => h9) m593 dX12_harvest_131 ?_
                          refine lv_icmp_ge (tgt := 266) hx hb dX12_harvest_134 (by decide) (fun c602 => ?_) (fun c602 => (by exfalso; have q9 : ((60 : Nat) : Int) < x345.toInt := ti_nle c602 rfl (nI_toInt (by omega)); omega))
                          have t603 : x345.toInt ≤ ((60 : Nat) : Int) := ti_le c602 rfl (nI_toInt (by omega))
                          refine lv_iload_n hx hb dX12_harvest_266 rfl (lv_at hl 3 rfl) ?_
                          exact W.iret (v := z18) hx hb hr (fun t ht hW => ⟨⟨z18, (), rfl, (by exact trivial), by (try dsimp only); rw [ht]; exact ⟨hT, hF⟩⟩, hS.F ht⟩) hS.2.2 dX12_harvest_267
                        | succ n600 ih600 =>
                          intro i590 hn600 hlo601  H locs hT hF hS m591 m592 m593 m594 m595 m596 m597 ls hl
                          have hlt603 : i590 < 60 := by omega
                          refine lv_iload_n hx hb dX12_harvest_129 rfl (lv_at hl 0 rfl) ?_
                          refine lv_aload_n hx hb dX12_harvest_130 rfl (lv_at hl 5 rfl) ?_
                          refine tw_getM (v := .int x345) hx hb hts bF_X12 hown hK hT hr_o0 shm_0 rfl 42 (by decide) (ht_at hts 8 rfl) (fun _ h9 => h9) m593 dX12_harvest_131 ?_
                          refine lv_icmp_ge (tgt := 266) hx hb dX12_harvest_134 (by decide) (fun c604 => ?_) (fun c604 => (by exfalso; have q9 : ((i590 : Nat) : Int) < x345.toInt := ti_nle c604 rfl (nI_toInt (by omega)); omega))
                          have t605 : x345.toInt ≤ ((i590 : Nat) : Int) := ti_le c604 rfl (nI_toInt (by omega))
                          refine lv_iload_n hx hb dX12_harvest_266 rfl (lv_at hl 3 rfl) ?_
                          exact W.iret (v := z18) hx hb hr (fun t ht hW => ⟨⟨z18, (), rfl, (by exact trivial), by (try dsimp only); rw [ht]; exact ⟨hT, hF⟩⟩, hS.F ht⟩) hS.2.2 dX12_harvest_267
                      exact key600 (60 - (59 + 1)) (59 + 1) (by omega) (Nat.le_refl _) _ _ hT hF hS m583 m584 m585 m586 m587 m588 m589 ls (lv_sub hl [0, 1, 2, 3, 4, 5] rfl)
                    refine lv_if_le (tgt := 184) hx hb dX12_harvest_162 (by decide) (fun c606 => ?_) (fun c606 => ?_)
                    · have t607 : x511.toInt ≤ 0 := ti_le c606 rfl (by decide)
                      refine lv_iconst (v := 0) hx hb dX12_harvest_184 (by decide) ?_
                      exact jn532 0 _ _ hT hF hS m507 m508 m509 m510 ls (lv_sub hl [0, 1, 2, 3] rfl)
                    · have t608 : 0 < x511.toInt := ti_nle c606 rfl (by decide)
                      refine lv_aload_n hx hb dX12_harvest_165 rfl (lv_at hl 3 rfl) ?_
                      refine tw_get hx hb hts bF_X12 hown hK hT hr_o0 shm_0 rfl 41 (by decide) (ht_at hts 87 rfl) (fun _ h9 => h9) dX12_harvest_166 (fun v9 m609 h9 => ?_)
                      obtain ⟨rfl, hg610⟩ := h9 _ rfl
                      refine lv_iload_n hx hb dX12_harvest_169 rfl (lv_at hl 0 rfl) ?_
                      refine tw_zald (i := (nI 59)) hx hb hK hT hg610 shm_42 rfl (vp_in_nI (by omega) (by decide)) dX12_harvest_170 (fun v9 m611 h9 => ?_)
                      obtain ⟨x612, rfl, gx612, kx612⟩ := h9
                      refine lv_if_ne (tgt := 184) hx hb dX12_harvest_171 (by decide) (fun c613 => ?_) (fun c613 => ?_)
                      · have t614 : x612.toInt ≠ 0 := ti_ne c613 rfl (by decide)
                        refine lv_iconst (v := 0) hx hb dX12_harvest_184 (by decide) ?_
                        exact jn532 0 _ _ hT hF hS m507 m508 m509 m510 ls (lv_sub hl [0, 1, 2, 3] rfl)
                      · have t615 : x612.toInt = 0 := ti_eq c613 rfl (by decide)
                        refine lv_aload_n hx hb dX12_harvest_174 rfl (lv_at hl 3 rfl) ?_
                        refine lv_iload_n hx hb dX12_harvest_175 rfl (lv_at hl 0 rfl) ?_
                        refine lv_iconst (v := 3) hx hb dX12_harvest_176 (by decide) ?_
                        have hFc := gA_free hG hA hS
                        refine va_calll (va_runV (As := [.int (nI 59), .int 3]) (rest := [.int r499]) ⟨hx, hb, hml, hown, hts⟩ (s_sumOf l dC dI kA adK adV G H q wZ wN wH wB wC wL wK wU wV PI im PM PT lS lB lE lN o0 (nI 59) 3 hT hr_o0 (rg_t (a := ((59 : Nat) : Int)) (nI_toInt (by omega)) (by omega) (by omega)) (by assumption) hgz hgn hgh hgb hgc hgi hgu) (cwV 2 hts (goodIn_app (goodIn_r _ [81, 82, 83, 7] rfl (by decide +kernel)) (goodIn_ca (goodIn_r _ [12, 13, 14, 15, 10, 16, 17, 18, 19, 20, 21, 22, 23, 24, 25, 26, 27, 28, 7, 29, 30, 31, 32, 33, 34, 35, 36, 37, 38, 39, 40, 41, 3, 42, 43, 44, 45, 46, 47, 48, 49, 50, 51, 52, 53, 54, 55, 56, 57, 58, 59, 60, 61, 62, 63, 64, 65, 66, 67, 68, 69, 70, 71, 72, 73, 74, 75, 76, 77, 78, 79, 80] rfl (by decide +kernel)) (bs_in _ _))) rfl rfl rfl (by decide +kernel) ⟨(Nat.le_of_ble_eq_true rfl), (Nat.le_of_ble_eq_true rfl)⟩) ⟨fun a U g mk q => by obtain ⟨q0, q1, qK, qE⟩ := q; exact ⟨q0, q1, va_K.moved (u := U) (U := U.calling g mk a) (Vm.Alike.refl U.vm) qK, EVS.blind g mk a qE⟩, gH_rc hK hT hr_o0 shm_0 rfl, fun U hU hW => ⟨rfl, hU, va_K.moved hW.alike hK, hE.call hS hFc hU hW⟩⟩ rfl rfl hl.1 rfl (lv_room (Nat.le_of_ble_eq_true rfl)) dX12_harvest_177 ⟨(Nat.le_of_ble_eq_true rfl), (Nat.le_of_ble_eq_true rfl)⟩) hS (fun q _ h => hFc q h) hFc (fun r616 u t H locs ht hvm hw617 hB _ _ hS => ?_)
                        obtain ⟨hT, hF1⟩ := hB
                        rw [ht] at hT hF1
                        have m618 := (hF1.fld hr_o0 skm_0 (k := 0) (by decide) (by decide)).trans m507
                        have m619 := (hF1.fld hr_o0 skm_0 (k := 49) (by decide) (by decide)).trans m508
                        have m620 := (hF1.fld hr_o0 skm_0 (k := 42) (by decide) (by decide)).trans m509
                        have m621 := (el_kept (hF1.arr hg494 skm_39 (by decide))).trans m510
                        have m622 := (el_kept (hF1.arr hg610 skm_42 (by decide))).trans m611
                        have hF := hF.more hF1 (by decide)
                        try dsimp only at hw617
                        refine lv_l2i (v := r616.toInt32) hx hb dX12_harvest_180 rfl ?_
                        refine lv_topi (fun x623 _ => ?_)
                        refine lv_goto (tgt := 185) hx hb dX12_harvest_181 (by decide) ?_
                        exact jn532 x623 _ _ hT hF hS m618 m619 m620 m621 ls (lv_sub hl [0, 1, 2, 3] rfl)
                  · have t624 : x496.toInt < 0 := ti_nle c497 (by decide) rfl
                    refine lv_goto (tgt := 260) hx hb dX12_harvest_146 (by decide) ?_
                    refine lv_iinc (v := nI (59 + 1)) (lv' := [(3, .int (nI (59 + 1))), (2, .int z18), (1, .int x9), (0, .ref o0)]) hx hb dX12_harvest_260 hl (k := 0) rfl (nI_add 59 1) (by decide) rfl (fun ls hl => ?_)
                    refine lv_goto (tgt := 129) hx hb dX12_harvest_263 (by decide) ?_
                    have key632 : ∀ (n632 i625 : Nat), i625 + n632 = 60 → (59 + 1) ≤ i625 → ∀ (H : Heap) (locs : List Loc), gH (dC, dI) kA (SHm q (wP wZ wN wH wB wC wL wK wU wV) PI im PM PT lS lB lE lN) G H → gF (dC, dI) SKm G ([(0, 0), (0, 48), (0, 49), (2, 0), (30, 0), (31, 0), (34, 0), (40, 0), (41, 0), (42, 0)] : List (Nat × Nat)) s.heap H → va_S A s.heap H locs → el H o0 (dI 15 0) = some (.int 0) → el H o0 (dI 15 49) = some (.int x9) → el H o0 (dI 15 42) = some (.int x345) → el H (q 38) (nI 59).toNatClampNeg = some (.int x496) → ∀ ls : Array Slot, lv_has ls 6 [(3, .int (nI i625)), (2, .int z18), (1, .int x9), (0, .ref o0)] → W p l e (headSpec w_s_harvest ({ frames := 7, cells := 0, slots := 0, locals := 155 })).room s m #[.ref o0] below meth c H locs 0 0 (MQ below (va_Qi (fun (r : Int32) (u : Unit) => True) (fun (_ : Unit) (t : State) => gH (dC, dI) kA (SHm q (wP wZ wN wH wB wC wL wK wU wV) PI im PM PT lS lB lE lN) G t.heap ∧ gF (dC, dI) SKm G ([(0, 0), (0, 48), (0, 49), (2, 0), (30, 0), (31, 0), (34, 0), (40, 0), (41, 0), (42, 0)] : List (Nat × Nat)) s.heap t.heap) A) #[.ref o0] s 0 0 A) (F0 m 129 ls []) := by
                      intro n632
                      induction n632 with
                      | zero =>
                        intro i625 hn632 hlo633  H locs hT hF hS m626 m627 m628 m629 ls hl
                        obtain rfl : 60 = i625 := by omega
                        refine lv_iload_n hx hb dX12_harvest_129 rfl (lv_at hl 0 rfl) ?_
                        refine lv_aload_n hx hb dX12_harvest_130 rfl (lv_at hl 3 rfl) ?_
                        refine tw_getM (v := .int x345) hx hb hts bF_X12 hown hK hT hr_o0 shm_0 rfl 42 (by decide) (ht_at hts 8 rfl) (fun _ h9 => h9) m628 dX12_harvest_131 ?_
                        refine lv_icmp_ge (tgt := 266) hx hb dX12_harvest_134 (by decide) (fun c634 => ?_) (fun c634 => (by exfalso; have q9 : ((60 : Nat) : Int) < x345.toInt := ti_nle c634 rfl (nI_toInt (by omega)); omega))
                        have t635 : x345.toInt ≤ ((60 : Nat) : Int) := ti_le c634 rfl (nI_toInt (by omega))
                        refine lv_iload_n hx hb dX12_harvest_266 rfl (lv_at hl 1 rfl) ?_
                        exact W.iret (v := z18) hx hb hr (fun t ht hW => ⟨⟨z18, (), rfl, (by exact trivial), by (try dsimp only); rw [ht]; exact ⟨hT, hF⟩⟩, hS.F ht⟩) hS.2.2 dX12_harvest_267
                      | succ n632 ih632 =>
                        intro i625 hn632 hlo633  H locs hT hF hS m626 m627 m628 m629 ls hl
                        have hlt635 : i625 < 60 := by omega
                        refine lv_iload_n hx hb dX12_harvest_129 rfl (lv_at hl 0 rfl) ?_
                        refine lv_aload_n hx hb dX12_harvest_130 rfl (lv_at hl 3 rfl) ?_
                        refine tw_getM (v := .int x345) hx hb hts bF_X12 hown hK hT hr_o0 shm_0 rfl 42 (by decide) (ht_at hts 8 rfl) (fun _ h9 => h9) m628 dX12_harvest_131 ?_
                        refine lv_icmp_ge (tgt := 266) hx hb dX12_harvest_134 (by decide) (fun c636 => ?_) (fun c636 => (by exfalso; have q9 : ((i625 : Nat) : Int) < x345.toInt := ti_nle c636 rfl (nI_toInt (by omega)); omega))
                        have t637 : x345.toInt ≤ ((i625 : Nat) : Int) := ti_le c636 rfl (nI_toInt (by omega))
                        refine lv_iload_n hx hb dX12_harvest_266 rfl (lv_at hl 1 rfl) ?_
                        exact W.iret (v := z18) hx hb hr (fun t ht hW => ⟨⟨z18, (), rfl, (by exact trivial), by (try dsimp only); rw [ht]; exact ⟨hT, hF⟩⟩, hS.F ht⟩) hS.2.2 dX12_harvest_267
                    exact key632 (60 - (59 + 1)) (59 + 1) (by omega) (Nat.le_refl _) _ _ hT hF hS m366 m367 m368 m495 ls (lv_sub hl [0, 1, 2, 3] rfl)
              | succ n488 ih488 =>
                intro i365 hn488 hlo489  H locs hT hF hS m366 m367 m368 ls hl
                have hlt637 : i365 < 59 := by omega
                refine lv_iload_n hx hb dX12_harvest_129 rfl (lv_at hl 0 rfl) ?_
                refine lv_aload_n hx hb dX12_harvest_130 rfl (lv_at hl 3 rfl) ?_
                refine tw_getM (v := .int x345) hx hb hts bF_X12 hown hK hT hr_o0 shm_0 rfl 42 (by decide) (ht_at hts 8 rfl) (fun _ h9 => h9) m368 dX12_harvest_131 ?_
                refine lv_icmp_ge (tgt := 266) hx hb dX12_harvest_134 (by decide) (fun c638 => ?_) (fun c638 => ?_)
                · have t639 : x345.toInt ≤ ((i365 : Nat) : Int) := ti_le c638 rfl (nI_toInt (by omega))
                  refine lv_iload_n hx hb dX12_harvest_266 rfl (lv_at hl 1 rfl) ?_
                  exact W.iret (v := z18) hx hb hr (fun t ht hW => ⟨⟨z18, (), rfl, (by exact trivial), by (try dsimp only); rw [ht]; exact ⟨hT, hF⟩⟩, hS.F ht⟩) hS.2.2 dX12_harvest_267
                · have t640 : ((i365 : Nat) : Int) < x345.toInt := ti_nle c638 rfl (nI_toInt (by omega))
                  refine lv_aload_n hx hb dX12_harvest_137 rfl (lv_at hl 3 rfl) ?_
                  refine tw_get hx hb hts bF_X12 hown hK hT hr_o0 shm_0 rfl 38 (by decide) (ht_at hts 9 rfl) (fun _ h9 => h9) dX12_harvest_138 (fun v9 m641 h9 => ?_)
                  obtain ⟨rfl, hg642⟩ := h9 _ rfl
                  refine lv_iload_n hx hb dX12_harvest_141 rfl (lv_at hl 0 rfl) ?_
                  refine tw_iald (i := (nI i365)) hx hb hK hT hg642 shm_39 rfl (vp_in_nI (by omega) (by decide)) dX12_harvest_142 (fun v9 m643 h9 => ?_)
                  obtain ⟨x644, rfl, gx644, kx644⟩ := h9
                  refine lv_if_ge (tgt := 149) hx hb dX12_harvest_143 (by decide) (fun c645 => ?_) (fun c645 => ?_)
                  · have t646 : 0 ≤ x644.toInt := ti_le c645 (by decide) rfl
                    refine lv_aload_n hx hb dX12_harvest_149 rfl (lv_at hl 3 rfl) ?_
                    refine lv_iload_n hx hb dX12_harvest_150 rfl (lv_at hl 0 rfl) ?_
                    have hFc := gA_free hG hA hS
                    refine va_calli (va_runV (As := [.int (nI i365)]) (rest := []) ⟨hx, hb, hml, hown, hts⟩ (s_duesOf l dC dI kA adK adV G H q wZ wN wH wB wC wL wK wU wV PI im PM PT lS lB lE lN o0 (nI i365) hT hr_o0 (rg_t (a := ((i365 : Nat) : Int)) (nI_toInt (by omega)) (by omega) (by omega)) (by assumption) hgz hgn hgh hgb hgc hgi hgu) (cwV 1 hts (goodIn_app (goodIn_r _ [85, 86, 87, 7] rfl (by decide +kernel)) (goodIn_ca (goodIn_r _ [11, 12, 13, 14, 15, 10, 16, 17, 18, 19, 20, 21, 22, 23, 24, 25, 26, 27, 28, 7, 29, 30, 31, 32, 33, 34, 35, 36, 37, 38, 39, 40, 41, 3, 42, 43, 44, 45, 46, 47, 48, 49, 50, 51, 52, 53, 54, 55, 56, 57, 58, 59, 60, 61, 62, 63, 64, 65, 66, 67, 68, 69, 70, 71, 72, 73, 74, 75, 76, 77, 78, 79, 80, 81, 82, 83, 84] rfl (by decide +kernel)) (bs_in _ _))) rfl rfl rfl (by decide +kernel) ⟨(Nat.le_of_ble_eq_true rfl), (Nat.le_of_ble_eq_true rfl)⟩) ⟨fun a U g mk q => by obtain ⟨q0, q1, qK, qE⟩ := q; exact ⟨q0, q1, va_K.moved (u := U) (U := U.calling g mk a) (Vm.Alike.refl U.vm) qK, EVS.blind g mk a qE⟩, gH_rc hK hT hr_o0 shm_0 rfl, fun U hU hW => ⟨rfl, hU, va_K.moved hW.alike hK, hE.call hS hFc hU hW⟩⟩ rfl rfl hl.1 rfl (lv_room (Nat.le_of_ble_eq_true rfl)) dX12_harvest_151 ⟨(Nat.le_of_ble_eq_true rfl), (Nat.le_of_ble_eq_true rfl)⟩) hS (fun q _ h => hFc q h) hFc (fun r647 u t H locs ht hvm hw648 hB _ _ hS => ?_)
                    obtain ⟨hT, hF1⟩ := hB
                    rw [ht] at hT hF1
                    have m649 := (hF1.fld hr_o0 skm_0 (k := 0) (by decide) (by decide)).trans m366
                    have m650 := (hF1.fld hr_o0 skm_0 (k := 49) (by decide) (by decide)).trans m367
                    have m651 := (hF1.fld hr_o0 skm_0 (k := 42) (by decide) (by decide)).trans m368
                    have m652 := (el_kept (hF1.arr hg642 skm_39 (by decide))).trans m643
                    have hF := hF.more hF1 (by decide)
                    try dsimp only at hw648
                    refine lv_aload_n hx hb dX12_harvest_154 rfl (lv_at hl 3 rfl) ?_
                    refine lv_iload_n hx hb dX12_harvest_155 rfl (lv_at hl 0 rfl) ?_
                    refine lv_iconst (v := 5) hx hb dX12_harvest_156 (by decide) ?_
                    have hFc := gA_free hG hA hS
                    refine va_calll (va_runV (As := [.int (nI i365), .int 5]) (rest := [.int r647]) ⟨hx, hb, hml, hown, hts⟩ (s_sumOf l dC dI kA adK adV G H q wZ wN wH wB wC wL wK wU wV PI im PM PT lS lB lE lN o0 (nI i365) 5 hT hr_o0 (rg_t (a := ((i365 : Nat) : Int)) (nI_toInt (by omega)) (by omega) (by omega)) (by assumption) hgz hgn hgh hgb hgc hgi hgu) (cwV 2 hts (goodIn_app (goodIn_r _ [81, 82, 83, 7] rfl (by decide +kernel)) (goodIn_ca (goodIn_r _ [12, 13, 14, 15, 10, 16, 17, 18, 19, 20, 21, 22, 23, 24, 25, 26, 27, 28, 7, 29, 30, 31, 32, 33, 34, 35, 36, 37, 38, 39, 40, 41, 3, 42, 43, 44, 45, 46, 47, 48, 49, 50, 51, 52, 53, 54, 55, 56, 57, 58, 59, 60, 61, 62, 63, 64, 65, 66, 67, 68, 69, 70, 71, 72, 73, 74, 75, 76, 77, 78, 79, 80] rfl (by decide +kernel)) (bs_in _ _))) rfl rfl rfl (by decide +kernel) ⟨(Nat.le_of_ble_eq_true rfl), (Nat.le_of_ble_eq_true rfl)⟩) ⟨fun a U g mk q => by obtain ⟨q0, q1, qK, qE⟩ := q; exact ⟨q0, q1, va_K.moved (u := U) (U := U.calling g mk a) (Vm.Alike.refl U.vm) qK, EVS.blind g mk a qE⟩, gH_rc hK hT hr_o0 shm_0 rfl, fun U hU hW => ⟨rfl, hU, va_K.moved hW.alike hK, hE.call hS hFc hU hW⟩⟩ rfl rfl hl.1 rfl (lv_room (Nat.le_of_ble_eq_true rfl)) dX12_harvest_157 ⟨(Nat.le_of_ble_eq_true rfl), (Nat.le_of_ble_eq_true rfl)⟩) hS (fun q _ h => hFc q h) hFc (fun r653 u t H locs ht hvm hw654 hB _ _ hS => ?_)
                    obtain ⟨hT, hF1⟩ := hB
                    rw [ht] at hT hF1
                    have m655 := (hF1.fld hr_o0 skm_0 (k := 0) (by decide) (by decide)).trans m649
                    have m656 := (hF1.fld hr_o0 skm_0 (k := 49) (by decide) (by decide)).trans m650
                    have m657 := (hF1.fld hr_o0 skm_0 (k := 42) (by decide) (by decide)).trans m651
                    have m658 := (el_kept (hF1.arr hg642 skm_39 (by decide))).trans m652
                    have hF := hF.more hF1 (by decide)
                    try dsimp only at hw654
                    refine lv_lconst (v := 0) hx hb dX12_harvest_160 (by decide) ?_
                    refine W.lcmp hx hb dX12_harvest_161 ?_
                    refine lv_topi (fun x659 _ => ?_)
                    have jn680 : ∀ (z675 : Int32), ∀ (H : Heap) (locs : List Loc), gH (dC, dI) kA (SHm q (wP wZ wN wH wB wC wL wK wU wV) PI im PM PT lS lB lE lN) G H → gF (dC, dI) SKm G ([(0, 0), (0, 48), (0, 49), (2, 0), (30, 0), (31, 0), (34, 0), (40, 0), (41, 0), (42, 0)] : List (Nat × Nat)) s.heap H → va_S A s.heap H locs → el H o0 (dI 15 0) = some (.int 0) → el H o0 (dI 15 49) = some (.int x9) → el H o0 (dI 15 42) = some (.int x345) → el H (q 38) (nI i365).toNatClampNeg = some (.int x644) → ∀ ls : Array Slot, lv_has ls 6 [(3, .int (nI i365)), (2, .int z18), (1, .int x9), (0, .ref o0)] → W p l e (headSpec w_s_harvest ({ frames := 7, cells := 0, slots := 0, locals := 155 })).room s m #[.ref o0] below meth c H locs 0 0 (MQ below (va_Qi (fun (r : Int32) (u : Unit) => True) (fun (_ : Unit) (t : State) => gH (dC, dI) kA (SHm q (wP wZ wN wH wB wC wL wK wU wV) PI im PM PT lS lB lE lN) G t.heap ∧ gF (dC, dI) SKm G ([(0, 0), (0, 48), (0, 49), (2, 0), (30, 0), (31, 0), (34, 0), (40, 0), (41, 0), (42, 0)] : List (Nat × Nat)) s.heap t.heap) A) #[.ref o0] s 0 0 A) (F0 m 185 ls [.int z675, .int r647]) := by
                      intro z675 H locs hT hF hS m676 m677 m678 m679 ls hl
                      refine lv_iadd hx hb dX12_harvest_185 ?_
                      refine lv_topi (fun x681 ex681 => ?_)
                      refine lv_istore (lv' := [(4, .int x681), (3, .int (nI i365)), (2, .int z18), (1, .int x9), (0, .ref o0)]) hx hb dX12_harvest_186 hl (by decide) rfl (fun ls hl => ?_)
                      refine lv_aload_n hx hb dX12_harvest_188 rfl (lv_at hl 4 rfl) ?_
                      refine tw_get hx hb hts bF_X12 hown hK hT hr_o0 shm_0 rfl 33 (by decide) (ht_at hts 36 rfl) (fun _ h9 => h9) dX12_harvest_189 (fun v9 m682 h9 => ?_)
                      obtain ⟨rfl, hg683⟩ := h9 _ rfl
                      refine lv_iload_n hx hb dX12_harvest_192 rfl (lv_at hl 1 rfl) ?_
                      refine tw_iald (i := (nI i365)) hx hb hK hT hg683 shm_34 rfl (vp_in_nI (by omega) (by decide)) dX12_harvest_193 (fun v9 m684 h9 => ?_)
                      obtain ⟨x685, rfl, gx685, kx685⟩ := h9
                      refine lv_aload_n hx hb dX12_harvest_194 rfl (lv_at hl 4 rfl) ?_
                      refine tw_get hx hb hts bF_X12 hown hK hT hr_o0 shm_0 rfl 40 (by decide) (ht_at hts 61 rfl) (fun _ h9 => h9) dX12_harvest_195 (fun v9 m686 h9 => ?_)
                      obtain ⟨rfl, hg687⟩ := h9 _ rfl
                      refine lv_iload_n hx hb dX12_harvest_198 rfl (lv_at hl 1 rfl) ?_
                      refine tw_iald (i := (nI i365)) hx hb hK hT hg687 shm_41 rfl (vp_in_nI (by omega) (by decide)) dX12_harvest_199 (fun v9 m688 h9 => ?_)
                      obtain ⟨x689, rfl, gx689, kx689⟩ := h9
                      refine lv_iload hx hb dX12_harvest_200 (lv_at hl 0 rfl) ?_
                      refine lv_iadd hx hb dX12_harvest_202 ?_
                      refine lv_topi (fun x690 ex690 => ?_)
                      refine va_mmin hx hb (hml.trans hl.1.symm) hown (ht_at hts 18 rfl) (ht_at hts 19 rfl) (ht_at hts 20 rfl) (ht_at hts 21 rfl) (Nat.le_of_ble_eq_true rfl) (Nat.le_of_ble_eq_true rfl) (Nat.le_of_ble_eq_true rfl) (Nat.le_of_ble_eq_true rfl) dX12_harvest_203 ?_
                      refine lv_topi (fun x691 ex691 => ?_)
                      have t692 : x691.toInt ≤ x685.toInt ∧ x691.toInt ≤ x690.toInt ∧ (x691.toInt = x685.toInt ∨ x691.toInt = x690.toInt) := mn_f ex691 rfl rfl
                      refine lv_istore (lv' := [(5, .int x691), (4, .int x681), (3, .int (nI i365)), (2, .int z18), (1, .int x9), (0, .ref o0)]) hx hb dX12_harvest_206 hl (by decide) rfl (fun ls hl => ?_)
                      refine lv_aload_n hx hb dX12_harvest_208 rfl (lv_at hl 5 rfl) ?_
                      refine tw_get hx hb hts bF_X12 hown hK hT hr_o0 shm_0 rfl 33 (by decide) (ht_at hts 36 rfl) (fun _ h9 => h9) dX12_harvest_209 (fun v9 m693 h9 => ?_)
                      obtain ⟨rfl, hg694⟩ := h9 _ rfl
                      refine lv_iload_n hx hb dX12_harvest_212 rfl (lv_at hl 2 rfl) ?_
                      refine lv_dup2_11 hx hb dX12_harvest_213 rfl rfl ?_
                      refine tw_iald (i := (nI i365)) hx hb hK hT hg683 shm_34 rfl (vp_in_nI (by omega) (by decide)) dX12_harvest_214 (fun v9 m695 h9 => ?_)
                      obtain ⟨x696, rfl, gx696, kx696⟩ := h9
                      obtain rfl : x685 = x696 := (el_same m695 m684 rfl).symm
                      refine lv_iload hx hb dX12_harvest_215 (lv_at hl 0 rfl) ?_
                      refine lv_isub hx hb dX12_harvest_217 ?_
                      refine lv_topi (fun x697 ex697 => ?_)
                      refine tw_iast (i := (nI i365)) (x := x697) hx hb hK hT hG hS hg683 shm_34 rfl (vp_in_nI (by omega) (by decide)) (gi_all _) dX12_harvest_218 (fun H locs hT oq m698 oi hS => ?_)
                      have hF := hF.ast hg683 skm_34 oq (by decide)
                      have m699 := (el_kept (oq _ (gne hr_o0 hg683 (by decide)))).trans m676
                      have m700 := (el_kept (oq _ (gne hr_o0 hg683 (by decide)))).trans m677
                      have m701 := (el_kept (oq _ (gne hr_o0 hg683 (by decide)))).trans m678
                      have m702 := (el_kept (oq _ (gne hg642 hg683 (by decide)))).trans m679
                      have m703 := (el_kept (oq _ (gne hg687 hg683 (by decide)))).trans m688
                      refine lv_aload_n hx hb dX12_harvest_219 rfl (lv_at hl 5 rfl) ?_
                      refine tw_get hx hb hts bF_X12 hown hK hT hr_o0 shm_0 rfl 40 (by decide) (ht_at hts 61 rfl) (fun _ h9 => h9) dX12_harvest_220 (fun v9 m704 h9 => ?_)
                      obtain ⟨rfl, hg705⟩ := h9 _ rfl
                      refine lv_iload_n hx hb dX12_harvest_223 rfl (lv_at hl 2 rfl) ?_
                      refine lv_dup2_11 hx hb dX12_harvest_224 rfl rfl ?_
                      refine tw_iald (i := (nI i365)) hx hb hK hT hg687 shm_41 rfl (vp_in_nI (by omega) (by decide)) dX12_harvest_225 (fun v9 m706 h9 => ?_)
                      obtain ⟨x707, rfl, gx707, kx707⟩ := h9
                      obtain rfl : x689 = x707 := (el_same m706 m703 rfl).symm
                      refine lv_iload hx hb dX12_harvest_226 (lv_at hl 1 rfl) ?_
                      refine lv_iload hx hb dX12_harvest_228 (lv_at hl 0 rfl) ?_
                      refine lv_isub hx hb dX12_harvest_230 ?_
                      refine lv_topi (fun x708 ex708 => ?_)
                      refine lv_iadd hx hb dX12_harvest_231 ?_
                      refine lv_topi (fun x709 ex709 => ?_)
                      refine tw_iast (i := (nI i365)) (x := x709) hx hb hK hT hG hS hg687 shm_41 rfl (vp_in_nI (by omega) (by decide)) (gi_all _) dX12_harvest_232 (fun H locs hT oq m710 oi hS => ?_)
                      have hF := hF.ast hg687 skm_41 oq (by decide)
                      have m711 := (el_kept (oq _ (gne hr_o0 hg687 (by decide)))).trans m699
                      have m712 := (el_kept (oq _ (gne hr_o0 hg687 (by decide)))).trans m700
                      have m713 := (el_kept (oq _ (gne hr_o0 hg687 (by decide)))).trans m701
                      have m714 := (el_kept (oq _ (gne hg642 hg687 (by decide)))).trans m702
                      have m715 := (el_kept (oq _ (gne hg683 hg687 (by decide)))).trans m698
                      refine lv_aload_n hx hb dX12_harvest_233 rfl (lv_at hl 5 rfl) ?_
                      refine lv_ldc2 (v := 2000000000) hx hb hown (ht_at hts 88 rfl) dX12_harvest_234 ?_
                      refine lv_aload_n hx hb dX12_harvest_237 rfl (lv_at hl 5 rfl) ?_
                      refine tw_get hx hb hts bF_X12 hown hK hT hr_o0 shm_0 rfl 48 (by decide) (ht_at hts 89 rfl) (fun _ h9 => h9) dX12_harvest_238 (fun v9 m716 h9 => ?_)
                      obtain ⟨x717, rfl, gx717, kx717⟩ := h9 _ rfl
                      refine lv_i2l (v := x717.toInt64) hx hb dX12_harvest_241 rfl ?_
                      refine lv_iload hx hb dX12_harvest_242 (lv_at hl 0 rfl) ?_
                      refine lv_i2l (v := x691.toInt64) hx hb dX12_harvest_244 rfl ?_
                      refine lv_ladd hx hb dX12_harvest_245 ?_
                      refine lv_topl (fun y718 _ => ?_)
                      refine va_mmin_long hx hb (hml.trans hl.1.symm) hown (ht_at hts 90 rfl) (ht_at hts 91 rfl) (ht_at hts 20 rfl) (ht_at hts 92 rfl) (Nat.le_of_ble_eq_true rfl) (Nat.le_of_ble_eq_true rfl) (Nat.le_of_ble_eq_true rfl) (Nat.le_of_ble_eq_true rfl) dX12_harvest_246 ?_
                      refine lv_topl (fun y719 _ => ?_)
                      refine lv_l2i (v := y719.toInt32) hx hb dX12_harvest_249 rfl ?_
                      refine lv_topi (fun x720 _ => ?_)
                      refine tw_put (v := .int x720) (ty := .int) hx hb hts bF_X12 tyX12 tyX12_ok nmX12 hown hK hT hG hS hr_o0 shm_0 rfl 48 (by decide) (ht_at hts 89 rfl) (fun _ h9 => h9) rfl (by decide +kernel) rfl rfl (gl_at rfl (gi_all _)) dX12_harvest_250 (fun H locs hT oq m721 oj hS => ?_)
                      have hF := hF.put hr_o0 skm_0 oq oj (by decide)
                      have m722 := (oj 0 (by decide) (by decide)).trans m711
                      have m723 := (oj 49 (by decide) (by decide)).trans m712
                      have m724 := (oj 42 (by decide) (by decide)).trans m713
                      have m725 := (el_kept (oq _ (gne hg642 hr_o0 (by decide)))).trans m714
                      have m726 := (el_kept (oq _ (gne hg683 hr_o0 (by decide)))).trans m715
                      have m727 := (el_kept (oq _ (gne hg687 hr_o0 (by decide)))).trans m710
                      refine lv_aload_n hx hb dX12_harvest_253 rfl (lv_at hl 5 rfl) ?_
                      refine tw_get hx hb hts bF_X12 hown hK hT hr_o0 shm_0 rfl 41 (by decide) (ht_at hts 87 rfl) (fun _ h9 => h9) dX12_harvest_254 (fun v9 m728 h9 => ?_)
                      obtain ⟨rfl, hg729⟩ := h9 _ rfl
                      refine lv_iload_n hx hb dX12_harvest_257 rfl (lv_at hl 2 rfl) ?_
                      refine lv_iconst (v := 0) hx hb dX12_harvest_258 (by decide) ?_
                      refine tw_zast (i := (nI i365)) (x := 0) hx hb hK hT hG hS hg729 shm_42 rfl (vp_in_nI (by omega) (by decide)) (gi_z (rg_t (a := 0) (by decide) (by first | decide | omega) (by first | decide | omega)) (by decide) (by decide)) dX12_harvest_259 (fun H locs hT oq m730 oi hS => ?_)
                      have hF := hF.ast hg729 skm_42 oq (by decide)
                      have m731 := (el_kept (oq _ (gne hr_o0 hg729 (by decide)))).trans m722
                      have m732 := (el_kept (oq _ (gne hr_o0 hg729 (by decide)))).trans m723
                      have m733 := (el_kept (oq _ (gne hr_o0 hg729 (by decide)))).trans m724
                      have m734 := (el_kept (oq _ (gne hg642 hg729 (by decide)))).trans m725
                      have m735 := (el_kept (oq _ (gne hg683 hg729 (by decide)))).trans m726
                      have m736 := (el_kept (oq _ (gne hg687 hg729 (by decide)))).trans m727
                      have m737 := (el_kept (oq _ (gne hr_o0 hg729 (by decide)))).trans m721
                      refine lv_iinc (v := nI (i365 + 1)) (lv' := [(3, .int (nI (i365 + 1))), (5, .int x691), (4, .int x681), (2, .int z18), (1, .int x9), (0, .ref o0)]) hx hb dX12_harvest_260 hl (k := 2) rfl (nI_add i365 1) (by decide) rfl (fun ls hl => ?_)
                      refine lv_goto (tgt := 129) hx hb dX12_harvest_263 (by decide) ?_
                      exact ih488 (i365 + 1) (by omega) (by omega) _ _ hT hF hS m731 m732 m733 ls (lv_sub hl [0, 3, 4, 5] rfl)
                    refine lv_if_le (tgt := 184) hx hb dX12_harvest_162 (by decide) (fun c738 => ?_) (fun c738 => ?_)
                    · have t739 : x659.toInt ≤ 0 := ti_le c738 rfl (by decide)
                      refine lv_iconst (v := 0) hx hb dX12_harvest_184 (by decide) ?_
                      exact jn680 0 _ _ hT hF hS m655 m656 m657 m658 ls (lv_sub hl [0, 1, 2, 3] rfl)
                    · have t740 : 0 < x659.toInt := ti_nle c738 rfl (by decide)
                      refine lv_aload_n hx hb dX12_harvest_165 rfl (lv_at hl 3 rfl) ?_
                      refine tw_get hx hb hts bF_X12 hown hK hT hr_o0 shm_0 rfl 41 (by decide) (ht_at hts 87 rfl) (fun _ h9 => h9) dX12_harvest_166 (fun v9 m741 h9 => ?_)
                      obtain ⟨rfl, hg742⟩ := h9 _ rfl
                      refine lv_iload_n hx hb dX12_harvest_169 rfl (lv_at hl 0 rfl) ?_
                      refine tw_zald (i := (nI i365)) hx hb hK hT hg742 shm_42 rfl (vp_in_nI (by omega) (by decide)) dX12_harvest_170 (fun v9 m743 h9 => ?_)
                      obtain ⟨x744, rfl, gx744, kx744⟩ := h9
                      refine lv_if_ne (tgt := 184) hx hb dX12_harvest_171 (by decide) (fun c745 => ?_) (fun c745 => ?_)
                      · have t746 : x744.toInt ≠ 0 := ti_ne c745 rfl (by decide)
                        refine lv_iconst (v := 0) hx hb dX12_harvest_184 (by decide) ?_
                        exact jn680 0 _ _ hT hF hS m655 m656 m657 m658 ls (lv_sub hl [0, 1, 2, 3] rfl)
                      · have t747 : x744.toInt = 0 := ti_eq c745 rfl (by decide)
                        refine lv_aload_n hx hb dX12_harvest_174 rfl (lv_at hl 3 rfl) ?_
                        refine lv_iload_n hx hb dX12_harvest_175 rfl (lv_at hl 0 rfl) ?_
                        refine lv_iconst (v := 3) hx hb dX12_harvest_176 (by decide) ?_
                        have hFc := gA_free hG hA hS
                        refine va_calll (va_runV (As := [.int (nI i365), .int 3]) (rest := [.int r647]) ⟨hx, hb, hml, hown, hts⟩ (s_sumOf l dC dI kA adK adV G H q wZ wN wH wB wC wL wK wU wV PI im PM PT lS lB lE lN o0 (nI i365) 3 hT hr_o0 (rg_t (a := ((i365 : Nat) : Int)) (nI_toInt (by omega)) (by omega) (by omega)) (by assumption) hgz hgn hgh hgb hgc hgi hgu) (cwV 2 hts (goodIn_app (goodIn_r _ [81, 82, 83, 7] rfl (by decide +kernel)) (goodIn_ca (goodIn_r _ [12, 13, 14, 15, 10, 16, 17, 18, 19, 20, 21, 22, 23, 24, 25, 26, 27, 28, 7, 29, 30, 31, 32, 33, 34, 35, 36, 37, 38, 39, 40, 41, 3, 42, 43, 44, 45, 46, 47, 48, 49, 50, 51, 52, 53, 54, 55, 56, 57, 58, 59, 60, 61, 62, 63, 64, 65, 66, 67, 68, 69, 70, 71, 72, 73, 74, 75, 76, 77, 78, 79, 80] rfl (by decide +kernel)) (bs_in _ _))) rfl rfl rfl (by decide +kernel) ⟨(Nat.le_of_ble_eq_true rfl), (Nat.le_of_ble_eq_true rfl)⟩) ⟨fun a U g mk q => by obtain ⟨q0, q1, qK, qE⟩ := q; exact ⟨q0, q1, va_K.moved (u := U) (U := U.calling g mk a) (Vm.Alike.refl U.vm) qK, EVS.blind g mk a qE⟩, gH_rc hK hT hr_o0 shm_0 rfl, fun U hU hW => ⟨rfl, hU, va_K.moved hW.alike hK, hE.call hS hFc hU hW⟩⟩ rfl rfl hl.1 rfl (lv_room (Nat.le_of_ble_eq_true rfl)) dX12_harvest_177 ⟨(Nat.le_of_ble_eq_true rfl), (Nat.le_of_ble_eq_true rfl)⟩) hS (fun q _ h => hFc q h) hFc (fun r748 u t H locs ht hvm hw749 hB _ _ hS => ?_)
                        obtain ⟨hT, hF1⟩ := hB
                        rw [ht] at hT hF1
                        have m750 := (hF1.fld hr_o0 skm_0 (k := 0) (by decide) (by decide)).trans m655
                        have m751 := (hF1.fld hr_o0 skm_0 (k := 49) (by decide) (by decide)).trans m656
                        have m752 := (hF1.fld hr_o0 skm_0 (k := 42) (by decide) (by decide)).trans m657
                        have m753 := (el_kept (hF1.arr hg642 skm_39 (by decide))).trans m658
                        have m754 := (el_kept (hF1.arr hg742 skm_42 (by decide))).trans m743
                        have hF := hF.more hF1 (by decide)
                        try dsimp only at hw749
                        refine lv_l2i (v := r748.toInt32) hx hb dX12_harvest_180 rfl ?_
                        refine lv_topi (fun x755 _ => ?_)
                        refine lv_goto (tgt := 185) hx hb dX12_harvest_181 (by decide) ?_
                        exact jn680 x755 _ _ hT hF hS m750 m751 m752 m753 ls (lv_sub hl [0, 1, 2, 3] rfl)
                  · have t756 : x644.toInt < 0 := ti_nle c645 (by decide) rfl
                    refine lv_goto (tgt := 260) hx hb dX12_harvest_146 (by decide) ?_
                    refine lv_iinc (v := nI (i365 + 1)) (lv' := [(3, .int (nI (i365 + 1))), (2, .int z18), (1, .int x9), (0, .ref o0)]) hx hb dX12_harvest_260 hl (k := 0) rfl (nI_add i365 1) (by decide) rfl (fun ls hl => ?_)
                    refine lv_goto (tgt := 129) hx hb dX12_harvest_263 (by decide) ?_
                    exact ih488 (i365 + 1) (by omega) (by omega) _ _ hT hF hS m366 m367 m368 ls (lv_sub hl [0, 1, 2, 3] rfl)
            exact key488 (59 - 0) 0 (by omega) (Nat.le_refl _) _ _ hT hF hS m349 m350 m351 ls (lv_sub hl [0, 1, 2, 3] rfl)
          | succ n361 ih361 =>
            intro i348 hn361 hlo362  H locs hT hF hS m349 m350 m351 ls hl
            have hlt756 : i348 < 96 := by omega
            refine lv_iload_n hx hb dX12_harvest_104 rfl (lv_at hl 0 rfl) ?_
            refine lv_bipush (v := 96) hx hb dX12_harvest_105 (by decide) ?_
            refine lv_icmp_ge (tgt := 127) hx hb dX12_harvest_107 (by decide) (fun c757 => (by exfalso; have q9 : 96 ≤ ((i348 : Nat) : Int) := ti_le c757 (by decide) (nI_toInt (by omega)); omega)) (fun c757 => ?_)
            have t758 : ((i348 : Nat) : Int) < 96 := ti_nle c757 (by decide) (nI_toInt (by omega))
            refine lv_aload_n hx hb dX12_harvest_110 rfl (lv_at hl 3 rfl) ?_
            refine tw_get hx hb hts bF_X12 hown hK hT hr_o0 shm_0 rfl 1 (by decide) (ht_at hts 2 rfl) (fun _ h9 => h9) dX12_harvest_111 (fun v9 m759 h9 => ?_)
            obtain ⟨rfl, hg760⟩ := h9 _ rfl
            refine lv_sipush (v := 672) hx hb dX12_harvest_114 (by decide) ?_
            refine lv_iload_n hx hb dX12_harvest_117 rfl (lv_at hl 0 rfl) ?_
            refine lv_iadd hx hb dX12_harvest_118 ?_
            refine lv_topi (fun x761 ex761 => ?_)
            obtain rfl : nI (672 + i348) = x761 := (ex761.trans (nI_add 672 i348)).symm
            refine lv_iconst (v := 0) hx hb dX12_harvest_119 (by decide) ?_
            refine tw_iast (i := (nI (672 + i348))) (x := 0) hx hb hK hT hG hS hg760 shm_2 rfl (vp_in_nI (by omega) (by decide)) (gp_of (gi_all _) (w_fre (by have q9 := tn_of (show (nI (672 + i348)).toInt = ((672 + i348 : Nat) : Int) from (nI_toInt (by omega))) (show (0 : Int) ≤ ((672 + i348 : Nat) : Int) from by omega); omega)) (wX_o (by have q9 := tn_of (show (nI (672 + i348)).toInt = ((672 + i348 : Nat) : Int) from (nI_toInt (by omega))) (show (0 : Int) ≤ ((672 + i348 : Nat) : Int) from by omega); omega) (by omega))) dX12_harvest_120 (fun H locs hT oq m762 oi hS => ?_)
            have hF := hF.ast hg760 skm_2 oq (by decide)
            have m763 := (el_kept (oq _ (gne hr_o0 hg760 (by decide)))).trans m349
            have m764 := (el_kept (oq _ (gne hr_o0 hg760 (by decide)))).trans m350
            have m765 := (el_kept (oq _ (gne hr_o0 hg760 (by decide)))).trans m351
            refine lv_iinc (v := nI (i348 + 1)) (lv' := [(3, .int (nI (i348 + 1))), (2, .int z18), (1, .int x9), (0, .ref o0)]) hx hb dX12_harvest_121 hl (k := 0) rfl (nI_add i348 1) (by decide) rfl (fun ls hl => ?_)
            refine lv_goto (tgt := 104) hx hb dX12_harvest_124 (by decide) ?_
            exact ih361 (i348 + 1) (by omega) (by omega) _ _ hT hF hS m763 m764 m765 ls (lv_sub hl [0, 1, 2, 3] rfl)
        exact key361 (96 - 0) 0 (by omega) (Nat.le_refl _) _ _ hT hF hS m19 m20 m344 ls (lv_sub hl [0, 1, 2, 3] rfl)
      | succ n342 ih342 =>
        intro i17 hn342 hlo343 z18 H locs hT hF hS m19 m20 ls hl
        have hlt765 : i17 < 60 := by omega
        refine lv_iload_n hx hb dX12_harvest_36 rfl (lv_at hl 0 rfl) ?_
        refine lv_aload_n hx hb dX12_harvest_37 rfl (lv_at hl 3 rfl) ?_
        refine tw_get hx hb hts bF_X12 hown hK hT hr_o0 shm_0 rfl 42 (by decide) (ht_at hts 8 rfl) (fun _ h9 => h9) dX12_harvest_38 (fun v9 m766 h9 => ?_)
        obtain ⟨x767, rfl, gx767, kx767⟩ := h9 _ rfl
        refine lv_icmp_ge (tgt := 102) hx hb dX12_harvest_41 (by decide) (fun c768 => ?_) (fun c768 => ?_)
        · have t769 : x767.toInt ≤ ((i17 : Nat) : Int) := ti_le c768 rfl (nI_toInt (by omega))
          refine lv_iconst (v := 0) hx hb dX12_harvest_102 (by decide) ?_
          refine lv_istore_n (lv' := [(3, .int 0), (2, .int z18), (1, .int x9), (0, .ref o0)]) hx hb dX12_harvest_103 rfl hl (by decide) rfl (fun ls hl => ?_)
          have key783 : ∀ (n783 i770 : Nat), i770 + n783 = 96 → 0 ≤ i770 → ∀ (H : Heap) (locs : List Loc), gH (dC, dI) kA (SHm q (wP wZ wN wH wB wC wL wK wU wV) PI im PM PT lS lB lE lN) G H → gF (dC, dI) SKm G ([(0, 0), (0, 48), (0, 49), (2, 0), (30, 0), (31, 0), (34, 0), (40, 0), (41, 0), (42, 0)] : List (Nat × Nat)) s.heap H → va_S A s.heap H locs → el H o0 (dI 15 0) = some (.int 0) → el H o0 (dI 15 49) = some (.int x9) → el H o0 (dI 15 42) = some (.int x767) → ∀ ls : Array Slot, lv_has ls 6 [(3, .int (nI i770)), (2, .int z18), (1, .int x9), (0, .ref o0)] → W p l e (headSpec w_s_harvest ({ frames := 7, cells := 0, slots := 0, locals := 155 })).room s m #[.ref o0] below meth c H locs 0 0 (MQ below (va_Qi (fun (r : Int32) (u : Unit) => True) (fun (_ : Unit) (t : State) => gH (dC, dI) kA (SHm q (wP wZ wN wH wB wC wL wK wU wV) PI im PM PT lS lB lE lN) G t.heap ∧ gF (dC, dI) SKm G ([(0, 0), (0, 48), (0, 49), (2, 0), (30, 0), (31, 0), (34, 0), (40, 0), (41, 0), (42, 0)] : List (Nat × Nat)) s.heap t.heap) A) #[.ref o0] s 0 0 A) (F0 m 104 ls []) := by
            intro n783
            induction n783 with
            | zero =>
              intro i770 hn783 hlo784  H locs hT hF hS m771 m772 m773 ls hl
              obtain rfl : 96 = i770 := by omega
              refine lv_iload_n hx hb dX12_harvest_104 rfl (lv_at hl 0 rfl) ?_
              refine lv_bipush (v := 96) hx hb dX12_harvest_105 (by decide) ?_
              refine lv_icmp_ge (tgt := 127) hx hb dX12_harvest_107 (by decide) (fun c785 => ?_) (fun c785 => (by exfalso; have q9 : ((96 : Nat) : Int) < 96 := ti_nle c785 (by decide) (nI_toInt (by omega)); omega))
              have t786 : 96 ≤ ((96 : Nat) : Int) := ti_le c785 (by decide) (nI_toInt (by omega))
              refine lv_iconst (v := 0) hx hb dX12_harvest_127 (by decide) ?_
              refine lv_istore_n (lv' := [(3, .int 0), (2, .int z18), (1, .int x9), (0, .ref o0)]) hx hb dX12_harvest_128 rfl hl (by decide) rfl (fun ls hl => ?_)
              have key910 : ∀ (n910 i787 : Nat), i787 + n910 = 59 → 0 ≤ i787 → ∀ (H : Heap) (locs : List Loc), gH (dC, dI) kA (SHm q (wP wZ wN wH wB wC wL wK wU wV) PI im PM PT lS lB lE lN) G H → gF (dC, dI) SKm G ([(0, 0), (0, 48), (0, 49), (2, 0), (30, 0), (31, 0), (34, 0), (40, 0), (41, 0), (42, 0)] : List (Nat × Nat)) s.heap H → va_S A s.heap H locs → el H o0 (dI 15 0) = some (.int 0) → el H o0 (dI 15 49) = some (.int x9) → el H o0 (dI 15 42) = some (.int x767) → ∀ ls : Array Slot, lv_has ls 6 [(3, .int (nI i787)), (2, .int z18), (1, .int x9), (0, .ref o0)] → W p l e (headSpec w_s_harvest ({ frames := 7, cells := 0, slots := 0, locals := 155 })).room s m #[.ref o0] below meth c H locs 0 0 (MQ below (va_Qi (fun (r : Int32) (u : Unit) => True) (fun (_ : Unit) (t : State) => gH (dC, dI) kA (SHm q (wP wZ wN wH wB wC wL wK wU wV) PI im PM PT lS lB lE lN) G t.heap ∧ gF (dC, dI) SKm G ([(0, 0), (0, 48), (0, 49), (2, 0), (30, 0), (31, 0), (34, 0), (40, 0), (41, 0), (42, 0)] : List (Nat × Nat)) s.heap t.heap) A) #[.ref o0] s 0 0 A) (F0 m 129 ls []) := by
                intro n910
                induction n910 with
                | zero =>
                  intro i787 hn910 hlo911  H locs hT hF hS m788 m789 m790 ls hl
                  obtain rfl : 59 = i787 := by omega
                  refine lv_iload_n hx hb dX12_harvest_129 rfl (lv_at hl 0 rfl) ?_
                  refine lv_aload_n hx hb dX12_harvest_130 rfl (lv_at hl 3 rfl) ?_
                  refine tw_getM (v := .int x767) hx hb hts bF_X12 hown hK hT hr_o0 shm_0 rfl 42 (by decide) (ht_at hts 8 rfl) (fun _ h9 => h9) m790 dX12_harvest_131 ?_
                  refine lv_icmp_ge (tgt := 266) hx hb dX12_harvest_134 (by decide) (fun c912 => ?_) (fun c912 => (by exfalso; have q9 : ((59 : Nat) : Int) < x767.toInt := ti_nle c912 rfl (nI_toInt (by omega)); omega))
                  have t913 : x767.toInt ≤ ((59 : Nat) : Int) := ti_le c912 rfl (nI_toInt (by omega))
                  refine lv_iload_n hx hb dX12_harvest_266 rfl (lv_at hl 1 rfl) ?_
                  exact W.iret (v := z18) hx hb hr (fun t ht hW => ⟨⟨z18, (), rfl, (by exact trivial), by (try dsimp only); rw [ht]; exact ⟨hT, hF⟩⟩, hS.F ht⟩) hS.2.2 dX12_harvest_267
                | succ n910 ih910 =>
                  intro i787 hn910 hlo911  H locs hT hF hS m788 m789 m790 ls hl
                  have hlt913 : i787 < 59 := by omega
                  refine lv_iload_n hx hb dX12_harvest_129 rfl (lv_at hl 0 rfl) ?_
                  refine lv_aload_n hx hb dX12_harvest_130 rfl (lv_at hl 3 rfl) ?_
                  refine tw_getM (v := .int x767) hx hb hts bF_X12 hown hK hT hr_o0 shm_0 rfl 42 (by decide) (ht_at hts 8 rfl) (fun _ h9 => h9) m790 dX12_harvest_131 ?_
                  refine lv_icmp_ge (tgt := 266) hx hb dX12_harvest_134 (by decide) (fun c914 => ?_) (fun c914 => ?_)
                  · have t915 : x767.toInt ≤ ((i787 : Nat) : Int) := ti_le c914 rfl (nI_toInt (by omega))
                    refine lv_iload_n hx hb dX12_harvest_266 rfl (lv_at hl 1 rfl) ?_
                    exact W.iret (v := z18) hx hb hr (fun t ht hW => ⟨⟨z18, (), rfl, (by exact trivial), by (try dsimp only); rw [ht]; exact ⟨hT, hF⟩⟩, hS.F ht⟩) hS.2.2 dX12_harvest_267
                  · have t916 : ((i787 : Nat) : Int) < x767.toInt := ti_nle c914 rfl (nI_toInt (by omega))
                    refine lv_aload_n hx hb dX12_harvest_137 rfl (lv_at hl 3 rfl) ?_
                    refine tw_get hx hb hts bF_X12 hown hK hT hr_o0 shm_0 rfl 38 (by decide) (ht_at hts 9 rfl) (fun _ h9 => h9) dX12_harvest_138 (fun v9 m917 h9 => ?_)
                    obtain ⟨rfl, hg918⟩ := h9 _ rfl
                    refine lv_iload_n hx hb dX12_harvest_141 rfl (lv_at hl 0 rfl) ?_
                    refine tw_iald (i := (nI i787)) hx hb hK hT hg918 shm_39 rfl (vp_in_nI (by omega) (by decide)) dX12_harvest_142 (fun v9 m919 h9 => ?_)
                    obtain ⟨x920, rfl, gx920, kx920⟩ := h9
                    refine lv_if_ge (tgt := 149) hx hb dX12_harvest_143 (by decide) (fun c921 => ?_) (fun c921 => ?_)
                    · have t922 : 0 ≤ x920.toInt := ti_le c921 (by decide) rfl
                      refine lv_aload_n hx hb dX12_harvest_149 rfl (lv_at hl 3 rfl) ?_
                      refine lv_iload_n hx hb dX12_harvest_150 rfl (lv_at hl 0 rfl) ?_
                      have hFc := gA_free hG hA hS
                      refine va_calli (va_runV (As := [.int (nI i787)]) (rest := []) ⟨hx, hb, hml, hown, hts⟩ (s_duesOf l dC dI kA adK adV G H q wZ wN wH wB wC wL wK wU wV PI im PM PT lS lB lE lN o0 (nI i787) hT hr_o0 (rg_t (a := ((i787 : Nat) : Int)) (nI_toInt (by omega)) (by omega) (by omega)) (by assumption) hgz hgn hgh hgb hgc hgi hgu) (cwV 1 hts (goodIn_app (goodIn_r _ [85, 86, 87, 7] rfl (by decide +kernel)) (goodIn_ca (goodIn_r _ [11, 12, 13, 14, 15, 10, 16, 17, 18, 19, 20, 21, 22, 23, 24, 25, 26, 27, 28, 7, 29, 30, 31, 32, 33, 34, 35, 36, 37, 38, 39, 40, 41, 3, 42, 43, 44, 45, 46, 47, 48, 49, 50, 51, 52, 53, 54, 55, 56, 57, 58, 59, 60, 61, 62, 63, 64, 65, 66, 67, 68, 69, 70, 71, 72, 73, 74, 75, 76, 77, 78, 79, 80, 81, 82, 83, 84] rfl (by decide +kernel)) (bs_in _ _))) rfl rfl rfl (by decide +kernel) ⟨(Nat.le_of_ble_eq_true rfl), (Nat.le_of_ble_eq_true rfl)⟩) ⟨fun a U g mk q => by obtain ⟨q0, q1, qK, qE⟩ := q; exact ⟨q0, q1, va_K.moved (u := U) (U := U.calling g mk a) (Vm.Alike.refl U.vm) qK, EVS.blind g mk a qE⟩, gH_rc hK hT hr_o0 shm_0 rfl, fun U hU hW => ⟨rfl, hU, va_K.moved hW.alike hK, hE.call hS hFc hU hW⟩⟩ rfl rfl hl.1 rfl (lv_room (Nat.le_of_ble_eq_true rfl)) dX12_harvest_151 ⟨(Nat.le_of_ble_eq_true rfl), (Nat.le_of_ble_eq_true rfl)⟩) hS (fun q _ h => hFc q h) hFc (fun r923 u t H locs ht hvm hw924 hB _ _ hS => ?_)
                      obtain ⟨hT, hF1⟩ := hB
                      rw [ht] at hT hF1
                      have m925 := (hF1.fld hr_o0 skm_0 (k := 0) (by decide) (by decide)).trans m788
                      have m926 := (hF1.fld hr_o0 skm_0 (k := 49) (by decide) (by decide)).trans m789
                      have m927 := (hF1.fld hr_o0 skm_0 (k := 42) (by decide) (by decide)).trans m790
                      have m928 := (el_kept (hF1.arr hg918 skm_39 (by decide))).trans m919
                      have hF := hF.more hF1 (by decide)
                      try dsimp only at hw924
                      refine lv_aload_n hx hb dX12_harvest_154 rfl (lv_at hl 3 rfl) ?_
                      refine lv_iload_n hx hb dX12_harvest_155 rfl (lv_at hl 0 rfl) ?_
                      refine lv_iconst (v := 5) hx hb dX12_harvest_156 (by decide) ?_
                      have hFc := gA_free hG hA hS
                      refine va_calll (va_runV (As := [.int (nI i787), .int 5]) (rest := [.int r923]) ⟨hx, hb, hml, hown, hts⟩ (s_sumOf l dC dI kA adK adV G H q wZ wN wH wB wC wL wK wU wV PI im PM PT lS lB lE lN o0 (nI i787) 5 hT hr_o0 (rg_t (a := ((i787 : Nat) : Int)) (nI_toInt (by omega)) (by omega) (by omega)) (by assumption) hgz hgn hgh hgb hgc hgi hgu) (cwV 2 hts (goodIn_app (goodIn_r _ [81, 82, 83, 7] rfl (by decide +kernel)) (goodIn_ca (goodIn_r _ [12, 13, 14, 15, 10, 16, 17, 18, 19, 20, 21, 22, 23, 24, 25, 26, 27, 28, 7, 29, 30, 31, 32, 33, 34, 35, 36, 37, 38, 39, 40, 41, 3, 42, 43, 44, 45, 46, 47, 48, 49, 50, 51, 52, 53, 54, 55, 56, 57, 58, 59, 60, 61, 62, 63, 64, 65, 66, 67, 68, 69, 70, 71, 72, 73, 74, 75, 76, 77, 78, 79, 80] rfl (by decide +kernel)) (bs_in _ _))) rfl rfl rfl (by decide +kernel) ⟨(Nat.le_of_ble_eq_true rfl), (Nat.le_of_ble_eq_true rfl)⟩) ⟨fun a U g mk q => by obtain ⟨q0, q1, qK, qE⟩ := q; exact ⟨q0, q1, va_K.moved (u := U) (U := U.calling g mk a) (Vm.Alike.refl U.vm) qK, EVS.blind g mk a qE⟩, gH_rc hK hT hr_o0 shm_0 rfl, fun U hU hW => ⟨rfl, hU, va_K.moved hW.alike hK, hE.call hS hFc hU hW⟩⟩ rfl rfl hl.1 rfl (lv_room (Nat.le_of_ble_eq_true rfl)) dX12_harvest_157 ⟨(Nat.le_of_ble_eq_true rfl), (Nat.le_of_ble_eq_true rfl)⟩) hS (fun q _ h => hFc q h) hFc (fun r929 u t H locs ht hvm hw930 hB _ _ hS => ?_)
                      obtain ⟨hT, hF1⟩ := hB
                      rw [ht] at hT hF1
                      have m931 := (hF1.fld hr_o0 skm_0 (k := 0) (by decide) (by decide)).trans m925
                      have m932 := (hF1.fld hr_o0 skm_0 (k := 49) (by decide) (by decide)).trans m926
                      have m933 := (hF1.fld hr_o0 skm_0 (k := 42) (by decide) (by decide)).trans m927
                      have m934 := (el_kept (hF1.arr hg918 skm_39 (by decide))).trans m928
                      have hF := hF.more hF1 (by decide)
                      try dsimp only at hw930
                      refine lv_lconst (v := 0) hx hb dX12_harvest_160 (by decide) ?_
                      refine W.lcmp hx hb dX12_harvest_161 ?_
                      refine lv_topi (fun x935 _ => ?_)
                      have jn956 : ∀ (z951 : Int32), ∀ (H : Heap) (locs : List Loc), gH (dC, dI) kA (SHm q (wP wZ wN wH wB wC wL wK wU wV) PI im PM PT lS lB lE lN) G H → gF (dC, dI) SKm G ([(0, 0), (0, 48), (0, 49), (2, 0), (30, 0), (31, 0), (34, 0), (40, 0), (41, 0), (42, 0)] : List (Nat × Nat)) s.heap H → va_S A s.heap H locs → el H o0 (dI 15 0) = some (.int 0) → el H o0 (dI 15 49) = some (.int x9) → el H o0 (dI 15 42) = some (.int x767) → el H (q 38) (nI i787).toNatClampNeg = some (.int x920) → ∀ ls : Array Slot, lv_has ls 6 [(3, .int (nI i787)), (2, .int z18), (1, .int x9), (0, .ref o0)] → W p l e (headSpec w_s_harvest ({ frames := 7, cells := 0, slots := 0, locals := 155 })).room s m #[.ref o0] below meth c H locs 0 0 (MQ below (va_Qi (fun (r : Int32) (u : Unit) => True) (fun (_ : Unit) (t : State) => gH (dC, dI) kA (SHm q (wP wZ wN wH wB wC wL wK wU wV) PI im PM PT lS lB lE lN) G t.heap ∧ gF (dC, dI) SKm G ([(0, 0), (0, 48), (0, 49), (2, 0), (30, 0), (31, 0), (34, 0), (40, 0), (41, 0), (42, 0)] : List (Nat × Nat)) s.heap t.heap) A) #[.ref o0] s 0 0 A) (F0 m 185 ls [.int z951, .int r923]) := by
                        intro z951 H locs hT hF hS m952 m953 m954 m955 ls hl
                        refine lv_iadd hx hb dX12_harvest_185 ?_
                        refine lv_topi (fun x957 ex957 => ?_)
                        refine lv_istore (lv' := [(4, .int x957), (3, .int (nI i787)), (2, .int z18), (1, .int x9), (0, .ref o0)]) hx hb dX12_harvest_186 hl (by decide) rfl (fun ls hl => ?_)
                        refine lv_aload_n hx hb dX12_harvest_188 rfl (lv_at hl 4 rfl) ?_
                        refine tw_get hx hb hts bF_X12 hown hK hT hr_o0 shm_0 rfl 33 (by decide) (ht_at hts 36 rfl) (fun _ h9 => h9) dX12_harvest_189 (fun v9 m958 h9 => ?_)
                        obtain ⟨rfl, hg959⟩ := h9 _ rfl
                        refine lv_iload_n hx hb dX12_harvest_192 rfl (lv_at hl 1 rfl) ?_
                        refine tw_iald (i := (nI i787)) hx hb hK hT hg959 shm_34 rfl (vp_in_nI (by omega) (by decide)) dX12_harvest_193 (fun v9 m960 h9 => ?_)
                        obtain ⟨x961, rfl, gx961, kx961⟩ := h9
                        refine lv_aload_n hx hb dX12_harvest_194 rfl (lv_at hl 4 rfl) ?_
                        refine tw_get hx hb hts bF_X12 hown hK hT hr_o0 shm_0 rfl 40 (by decide) (ht_at hts 61 rfl) (fun _ h9 => h9) dX12_harvest_195 (fun v9 m962 h9 => ?_)
                        obtain ⟨rfl, hg963⟩ := h9 _ rfl
                        refine lv_iload_n hx hb dX12_harvest_198 rfl (lv_at hl 1 rfl) ?_
                        refine tw_iald (i := (nI i787)) hx hb hK hT hg963 shm_41 rfl (vp_in_nI (by omega) (by decide)) dX12_harvest_199 (fun v9 m964 h9 => ?_)
                        obtain ⟨x965, rfl, gx965, kx965⟩ := h9
                        refine lv_iload hx hb dX12_harvest_200 (lv_at hl 0 rfl) ?_
                        refine lv_iadd hx hb dX12_harvest_202 ?_
                        refine lv_topi (fun x966 ex966 => ?_)
                        refine va_mmin hx hb (hml.trans hl.1.symm) hown (ht_at hts 18 rfl) (ht_at hts 19 rfl) (ht_at hts 20 rfl) (ht_at hts 21 rfl) (Nat.le_of_ble_eq_true rfl) (Nat.le_of_ble_eq_true rfl) (Nat.le_of_ble_eq_true rfl) (Nat.le_of_ble_eq_true rfl) dX12_harvest_203 ?_
                        refine lv_topi (fun x967 ex967 => ?_)
                        have t968 : x967.toInt ≤ x961.toInt ∧ x967.toInt ≤ x966.toInt ∧ (x967.toInt = x961.toInt ∨ x967.toInt = x966.toInt) := mn_f ex967 rfl rfl
                        refine lv_istore (lv' := [(5, .int x967), (4, .int x957), (3, .int (nI i787)), (2, .int z18), (1, .int x9), (0, .ref o0)]) hx hb dX12_harvest_206 hl (by decide) rfl (fun ls hl => ?_)
                        refine lv_aload_n hx hb dX12_harvest_208 rfl (lv_at hl 5 rfl) ?_
                        refine tw_get hx hb hts bF_X12 hown hK hT hr_o0 shm_0 rfl 33 (by decide) (ht_at hts 36 rfl) (fun _ h9 => h9) dX12_harvest_209 (fun v9 m969 h9 => ?_)
                        obtain ⟨rfl, hg970⟩ := h9 _ rfl
                        refine lv_iload_n hx hb dX12_harvest_212 rfl (lv_at hl 2 rfl) ?_
                        refine lv_dup2_11 hx hb dX12_harvest_213 rfl rfl ?_
                        refine tw_iald (i := (nI i787)) hx hb hK hT hg959 shm_34 rfl (vp_in_nI (by omega) (by decide)) dX12_harvest_214 (fun v9 m971 h9 => ?_)
                        obtain ⟨x972, rfl, gx972, kx972⟩ := h9
                        obtain rfl : x961 = x972 := (el_same m971 m960 rfl).symm
                        refine lv_iload hx hb dX12_harvest_215 (lv_at hl 0 rfl) ?_
                        refine lv_isub hx hb dX12_harvest_217 ?_
                        refine lv_topi (fun x973 ex973 => ?_)
                        refine tw_iast (i := (nI i787)) (x := x973) hx hb hK hT hG hS hg959 shm_34 rfl (vp_in_nI (by omega) (by decide)) (gi_all _) dX12_harvest_218 (fun H locs hT oq m974 oi hS => ?_)
                        have hF := hF.ast hg959 skm_34 oq (by decide)
                        have m975 := (el_kept (oq _ (gne hr_o0 hg959 (by decide)))).trans m952
                        have m976 := (el_kept (oq _ (gne hr_o0 hg959 (by decide)))).trans m953
                        have m977 := (el_kept (oq _ (gne hr_o0 hg959 (by decide)))).trans m954
                        have m978 := (el_kept (oq _ (gne hg918 hg959 (by decide)))).trans m955
                        have m979 := (el_kept (oq _ (gne hg963 hg959 (by decide)))).trans m964
                        refine lv_aload_n hx hb dX12_harvest_219 rfl (lv_at hl 5 rfl) ?_
                        refine tw_get hx hb hts bF_X12 hown hK hT hr_o0 shm_0 rfl 40 (by decide) (ht_at hts 61 rfl) (fun _ h9 => h9) dX12_harvest_220 (fun v9 m980 h9 => ?_)
                        obtain ⟨rfl, hg981⟩ := h9 _ rfl
                        refine lv_iload_n hx hb dX12_harvest_223 rfl (lv_at hl 2 rfl) ?_
                        refine lv_dup2_11 hx hb dX12_harvest_224 rfl rfl ?_
                        refine tw_iald (i := (nI i787)) hx hb hK hT hg963 shm_41 rfl (vp_in_nI (by omega) (by decide)) dX12_harvest_225 (fun v9 m982 h9 => ?_)
                        obtain ⟨x983, rfl, gx983, kx983⟩ := h9
                        obtain rfl : x965 = x983 := (el_same m982 m979 rfl).symm
                        refine lv_iload hx hb dX12_harvest_226 (lv_at hl 1 rfl) ?_
                        refine lv_iload hx hb dX12_harvest_228 (lv_at hl 0 rfl) ?_
                        refine lv_isub hx hb dX12_harvest_230 ?_
                        refine lv_topi (fun x984 ex984 => ?_)
                        refine lv_iadd hx hb dX12_harvest_231 ?_
                        refine lv_topi (fun x985 ex985 => ?_)
                        refine tw_iast (i := (nI i787)) (x := x985) hx hb hK hT hG hS hg963 shm_41 rfl (vp_in_nI (by omega) (by decide)) (gi_all _) dX12_harvest_232 (fun H locs hT oq m986 oi hS => ?_)
                        have hF := hF.ast hg963 skm_41 oq (by decide)
                        have m987 := (el_kept (oq _ (gne hr_o0 hg963 (by decide)))).trans m975
                        have m988 := (el_kept (oq _ (gne hr_o0 hg963 (by decide)))).trans m976
                        have m989 := (el_kept (oq _ (gne hr_o0 hg963 (by decide)))).trans m977
                        have m990 := (el_kept (oq _ (gne hg918 hg963 (by decide)))).trans m978
                        have m991 := (el_kept (oq _ (gne hg959 hg963 (by decide)))).trans m974
                        refine lv_aload_n hx hb dX12_harvest_233 rfl (lv_at hl 5 rfl) ?_
                        refine lv_ldc2 (v := 2000000000) hx hb hown (ht_at hts 88 rfl) dX12_harvest_234 ?_
                        refine lv_aload_n hx hb dX12_harvest_237 rfl (lv_at hl 5 rfl) ?_
                        refine tw_get hx hb hts bF_X12 hown hK hT hr_o0 shm_0 rfl 48 (by decide) (ht_at hts 89 rfl) (fun _ h9 => h9) dX12_harvest_238 (fun v9 m992 h9 => ?_)
                        obtain ⟨x993, rfl, gx993, kx993⟩ := h9 _ rfl
                        refine lv_i2l (v := x993.toInt64) hx hb dX12_harvest_241 rfl ?_
                        refine lv_iload hx hb dX12_harvest_242 (lv_at hl 0 rfl) ?_
                        refine lv_i2l (v := x967.toInt64) hx hb dX12_harvest_244 rfl ?_
                        refine lv_ladd hx hb dX12_harvest_245 ?_
                        refine lv_topl (fun y994 _ => ?_)
                        refine va_mmin_long hx hb (hml.trans hl.1.symm) hown (ht_at hts 90 rfl) (ht_at hts 91 rfl) (ht_at hts 20 rfl) (ht_at hts 92 rfl) (Nat.le_of_ble_eq_true rfl) (Nat.le_of_ble_eq_true rfl) (Nat.le_of_ble_eq_true rfl) (Nat.le_of_ble_eq_true rfl) dX12_harvest_246 ?_
                        refine lv_topl (fun y995 _ => ?_)
                        refine lv_l2i (v := y995.toInt32) hx hb dX12_harvest_249 rfl ?_
                        refine lv_topi (fun x996 _ => ?_)
                        refine tw_put (v := .int x996) (ty := .int) hx hb hts bF_X12 tyX12 tyX12_ok nmX12 hown hK hT hG hS hr_o0 shm_0 rfl 48 (by decide) (ht_at hts 89 rfl) (fun _ h9 => h9) rfl (by decide +kernel) rfl rfl (gl_at rfl (gi_all _)) dX12_harvest_250 (fun H locs hT oq m997 oj hS => ?_)
                        have hF := hF.put hr_o0 skm_0 oq oj (by decide)
                        have m998 := (oj 0 (by decide) (by decide)).trans m987
                        have m999 := (oj 49 (by decide) (by decide)).trans m988
                        have m1000 := (oj 42 (by decide) (by decide)).trans m989
                        have m1001 := (el_kept (oq _ (gne hg918 hr_o0 (by decide)))).trans m990
                        have m1002 := (el_kept (oq _ (gne hg959 hr_o0 (by decide)))).trans m991
                        have m1003 := (el_kept (oq _ (gne hg963 hr_o0 (by decide)))).trans m986
                        refine lv_aload_n hx hb dX12_harvest_253 rfl (lv_at hl 5 rfl) ?_
                        refine tw_get hx hb hts bF_X12 hown hK hT hr_o0 shm_0 rfl 41 (by decide) (ht_at hts 87 rfl) (fun _ h9 => h9) dX12_harvest_254 (fun v9 m1004 h9 => ?_)
                        obtain ⟨rfl, hg1005⟩ := h9 _ rfl
                        refine lv_iload_n hx hb dX12_harvest_257 rfl (lv_at hl 2 rfl) ?_
                        refine lv_iconst (v := 0) hx hb dX12_harvest_258 (by decide) ?_
                        refine tw_zast (i := (nI i787)) (x := 0) hx hb hK hT hG hS hg1005 shm_42 rfl (vp_in_nI (by omega) (by decide)) (gi_z (rg_t (a := 0) (by decide) (by first | decide | omega) (by first | decide | omega)) (by decide) (by decide)) dX12_harvest_259 (fun H locs hT oq m1006 oi hS => ?_)
                        have hF := hF.ast hg1005 skm_42 oq (by decide)
                        have m1007 := (el_kept (oq _ (gne hr_o0 hg1005 (by decide)))).trans m998
                        have m1008 := (el_kept (oq _ (gne hr_o0 hg1005 (by decide)))).trans m999
                        have m1009 := (el_kept (oq _ (gne hr_o0 hg1005 (by decide)))).trans m1000
                        have m1010 := (el_kept (oq _ (gne hg918 hg1005 (by decide)))).trans m1001
                        have m1011 := (el_kept (oq _ (gne hg959 hg1005 (by decide)))).trans m1002
                        have m1012 := (el_kept (oq _ (gne hg963 hg1005 (by decide)))).trans m1003
                        have m1013 := (el_kept (oq _ (gne hr_o0 hg1005 (by decide)))).trans m997
                        refine lv_iinc (v := nI (i787 + 1)) (lv' := [(3, .int (nI (i787 + 1))), (5, .int x967), (4, .int x957), (2, .int z18), (1, .int x9), (0, .ref o0)]) hx hb dX12_harvest_260 hl (k := 2) rfl (nI_add i787 1) (by decide) rfl (fun ls hl => ?_)
                        refine lv_goto (tgt := 129) hx hb dX12_harvest_263 (by decide) ?_
                        exact ih910 (i787 + 1) (by omega) (by omega) _ _ hT hF hS m1007 m1008 m1009 ls (lv_sub hl [0, 3, 4, 5] rfl)
                      refine lv_if_le (tgt := 184) hx hb dX12_harvest_162 (by decide) (fun c1014 => ?_) (fun c1014 => ?_)
                      · have t1015 : x935.toInt ≤ 0 := ti_le c1014 rfl (by decide)
                        refine lv_iconst (v := 0) hx hb dX12_harvest_184 (by decide) ?_
                        exact jn956 0 _ _ hT hF hS m931 m932 m933 m934 ls (lv_sub hl [0, 1, 2, 3] rfl)
                      · have t1016 : 0 < x935.toInt := ti_nle c1014 rfl (by decide)
                        refine lv_aload_n hx hb dX12_harvest_165 rfl (lv_at hl 3 rfl) ?_
                        refine tw_get hx hb hts bF_X12 hown hK hT hr_o0 shm_0 rfl 41 (by decide) (ht_at hts 87 rfl) (fun _ h9 => h9) dX12_harvest_166 (fun v9 m1017 h9 => ?_)
                        obtain ⟨rfl, hg1018⟩ := h9 _ rfl
                        refine lv_iload_n hx hb dX12_harvest_169 rfl (lv_at hl 0 rfl) ?_
                        refine tw_zald (i := (nI i787)) hx hb hK hT hg1018 shm_42 rfl (vp_in_nI (by omega) (by decide)) dX12_harvest_170 (fun v9 m1019 h9 => ?_)
                        obtain ⟨x1020, rfl, gx1020, kx1020⟩ := h9
                        refine lv_if_ne (tgt := 184) hx hb dX12_harvest_171 (by decide) (fun c1021 => ?_) (fun c1021 => ?_)
                        · have t1022 : x1020.toInt ≠ 0 := ti_ne c1021 rfl (by decide)
                          refine lv_iconst (v := 0) hx hb dX12_harvest_184 (by decide) ?_
                          exact jn956 0 _ _ hT hF hS m931 m932 m933 m934 ls (lv_sub hl [0, 1, 2, 3] rfl)
                        · have t1023 : x1020.toInt = 0 := ti_eq c1021 rfl (by decide)
                          refine lv_aload_n hx hb dX12_harvest_174 rfl (lv_at hl 3 rfl) ?_
                          refine lv_iload_n hx hb dX12_harvest_175 rfl (lv_at hl 0 rfl) ?_
                          refine lv_iconst (v := 3) hx hb dX12_harvest_176 (by decide) ?_
                          have hFc := gA_free hG hA hS
                          refine va_calll (va_runV (As := [.int (nI i787), .int 3]) (rest := [.int r923]) ⟨hx, hb, hml, hown, hts⟩ (s_sumOf l dC dI kA adK adV G H q wZ wN wH wB wC wL wK wU wV PI im PM PT lS lB lE lN o0 (nI i787) 3 hT hr_o0 (rg_t (a := ((i787 : Nat) : Int)) (nI_toInt (by omega)) (by omega) (by omega)) (by assumption) hgz hgn hgh hgb hgc hgi hgu) (cwV 2 hts (goodIn_app (goodIn_r _ [81, 82, 83, 7] rfl (by decide +kernel)) (goodIn_ca (goodIn_r _ [12, 13, 14, 15, 10, 16, 17, 18, 19, 20, 21, 22, 23, 24, 25, 26, 27, 28, 7, 29, 30, 31, 32, 33, 34, 35, 36, 37, 38, 39, 40, 41, 3, 42, 43, 44, 45, 46, 47, 48, 49, 50, 51, 52, 53, 54, 55, 56, 57, 58, 59, 60, 61, 62, 63, 64, 65, 66, 67, 68, 69, 70, 71, 72, 73, 74, 75, 76, 77, 78, 79, 80] rfl (by decide +kernel)) (bs_in _ _))) rfl rfl rfl (by decide +kernel) ⟨(Nat.le_of_ble_eq_true rfl), (Nat.le_of_ble_eq_true rfl)⟩) ⟨fun a U g mk q => by obtain ⟨q0, q1, qK, qE⟩ := q; exact ⟨q0, q1, va_K.moved (u := U) (U := U.calling g mk a) (Vm.Alike.refl U.vm) qK, EVS.blind g mk a qE⟩, gH_rc hK hT hr_o0 shm_0 rfl, fun U hU hW => ⟨rfl, hU, va_K.moved hW.alike hK, hE.call hS hFc hU hW⟩⟩ rfl rfl hl.1 rfl (lv_room (Nat.le_of_ble_eq_true rfl)) dX12_harvest_177 ⟨(Nat.le_of_ble_eq_true rfl), (Nat.le_of_ble_eq_true rfl)⟩) hS (fun q _ h => hFc q h) hFc (fun r1024 u t H locs ht hvm hw1025 hB _ _ hS => ?_)
                          obtain ⟨hT, hF1⟩ := hB
                          rw [ht] at hT hF1
                          have m1026 := (hF1.fld hr_o0 skm_0 (k := 0) (by decide) (by decide)).trans m931
                          have m1027 := (hF1.fld hr_o0 skm_0 (k := 49) (by decide) (by decide)).trans m932
                          have m1028 := (hF1.fld hr_o0 skm_0 (k := 42) (by decide) (by decide)).trans m933
                          have m1029 := (el_kept (hF1.arr hg918 skm_39 (by decide))).trans m934
                          have m1030 := (el_kept (hF1.arr hg1018 skm_42 (by decide))).trans m1019
                          have hF := hF.more hF1 (by decide)
                          try dsimp only at hw1025
                          refine lv_l2i (v := r1024.toInt32) hx hb dX12_harvest_180 rfl ?_
                          refine lv_topi (fun x1031 _ => ?_)
                          refine lv_goto (tgt := 185) hx hb dX12_harvest_181 (by decide) ?_
                          exact jn956 x1031 _ _ hT hF hS m1026 m1027 m1028 m1029 ls (lv_sub hl [0, 1, 2, 3] rfl)
                    · have t1032 : x920.toInt < 0 := ti_nle c921 (by decide) rfl
                      refine lv_goto (tgt := 260) hx hb dX12_harvest_146 (by decide) ?_
                      refine lv_iinc (v := nI (i787 + 1)) (lv' := [(3, .int (nI (i787 + 1))), (2, .int z18), (1, .int x9), (0, .ref o0)]) hx hb dX12_harvest_260 hl (k := 0) rfl (nI_add i787 1) (by decide) rfl (fun ls hl => ?_)
                      refine lv_goto (tgt := 129) hx hb dX12_harvest_263 (by decide) ?_
                      exact ih910 (i787 + 1) (by omega) (by omega) _ _ hT hF hS m788 m789 m790 ls (lv_sub hl [0, 1, 2, 3] rfl)
              exact key910 (59 - 0) 0 (by omega) (Nat.le_refl _) _ _ hT hF hS m771 m772 m773 ls (lv_sub hl [0, 1, 2, 3] rfl)
            | succ n783 ih783 =>
              intro i770 hn783 hlo784  H locs hT hF hS m771 m772 m773 ls hl
              have hlt1032 : i770 < 96 := by omega
              refine lv_iload_n hx hb dX12_harvest_104 rfl (lv_at hl 0 rfl) ?_
              refine lv_bipush (v := 96) hx hb dX12_harvest_105 (by decide) ?_
              refine lv_icmp_ge (tgt := 127) hx hb dX12_harvest_107 (by decide) (fun c1033 => (by exfalso; have q9 : 96 ≤ ((i770 : Nat) : Int) := ti_le c1033 (by decide) (nI_toInt (by omega)); omega)) (fun c1033 => ?_)
              have t1034 : ((i770 : Nat) : Int) < 96 := ti_nle c1033 (by decide) (nI_toInt (by omega))
              refine lv_aload_n hx hb dX12_harvest_110 rfl (lv_at hl 3 rfl) ?_
              refine tw_get hx hb hts bF_X12 hown hK hT hr_o0 shm_0 rfl 1 (by decide) (ht_at hts 2 rfl) (fun _ h9 => h9) dX12_harvest_111 (fun v9 m1035 h9 => ?_)
              obtain ⟨rfl, hg1036⟩ := h9 _ rfl
              refine lv_sipush (v := 672) hx hb dX12_harvest_114 (by decide) ?_
              refine lv_iload_n hx hb dX12_harvest_117 rfl (lv_at hl 0 rfl) ?_
              refine lv_iadd hx hb dX12_harvest_118 ?_
              refine lv_topi (fun x1037 ex1037 => ?_)
              obtain rfl : nI (672 + i770) = x1037 := (ex1037.trans (nI_add 672 i770)).symm
              refine lv_iconst (v := 0) hx hb dX12_harvest_119 (by decide) ?_
              refine tw_iast (i := (nI (672 + i770))) (x := 0) hx hb hK hT hG hS hg1036 shm_2 rfl (vp_in_nI (by omega) (by decide)) (gp_of (gi_all _) (w_fre (by have q9 := tn_of (show (nI (672 + i770)).toInt = ((672 + i770 : Nat) : Int) from (nI_toInt (by omega))) (show (0 : Int) ≤ ((672 + i770 : Nat) : Int) from by omega); omega)) (wX_o (by have q9 := tn_of (show (nI (672 + i770)).toInt = ((672 + i770 : Nat) : Int) from (nI_toInt (by omega))) (show (0 : Int) ≤ ((672 + i770 : Nat) : Int) from by omega); omega) (by omega))) dX12_harvest_120 (fun H locs hT oq m1038 oi hS => ?_)
              have hF := hF.ast hg1036 skm_2 oq (by decide)
              have m1039 := (el_kept (oq _ (gne hr_o0 hg1036 (by decide)))).trans m771
              have m1040 := (el_kept (oq _ (gne hr_o0 hg1036 (by decide)))).trans m772
              have m1041 := (el_kept (oq _ (gne hr_o0 hg1036 (by decide)))).trans m773
              refine lv_iinc (v := nI (i770 + 1)) (lv' := [(3, .int (nI (i770 + 1))), (2, .int z18), (1, .int x9), (0, .ref o0)]) hx hb dX12_harvest_121 hl (k := 0) rfl (nI_add i770 1) (by decide) rfl (fun ls hl => ?_)
              refine lv_goto (tgt := 104) hx hb dX12_harvest_124 (by decide) ?_
              exact ih783 (i770 + 1) (by omega) (by omega) _ _ hT hF hS m1039 m1040 m1041 ls (lv_sub hl [0, 1, 2, 3] rfl)
          exact key783 (96 - 0) 0 (by omega) (Nat.le_refl _) _ _ hT hF hS m19 m20 m766 ls (lv_sub hl [0, 1, 2, 3] rfl)
        · have t1042 : ((i17 : Nat) : Int) < x767.toInt := ti_nle c768 rfl (nI_toInt (by omega))
          refine lv_aload_n hx hb dX12_harvest_44 rfl (lv_at hl 3 rfl) ?_
          refine tw_get hx hb hts bF_X12 hown hK hT hr_o0 shm_0 rfl 38 (by decide) (ht_at hts 9 rfl) (fun _ h9 => h9) dX12_harvest_45 (fun v9 m1043 h9 => ?_)
          obtain ⟨rfl, hg1044⟩ := h9 _ rfl
          refine lv_iload_n hx hb dX12_harvest_48 rfl (lv_at hl 0 rfl) ?_
          refine tw_iald (i := (nI i17)) hx hb hK hT hg1044 shm_39 rfl (vp_in_nI (by omega) (by decide)) dX12_harvest_49 (fun v9 m1045 h9 => ?_)
          obtain ⟨x1046, rfl, gx1046, kx1046⟩ := h9
          refine lv_if_ge (tgt := 56) hx hb dX12_harvest_50 (by decide) (fun c1047 => ?_) (fun c1047 => ?_)
          · have t1048 : 0 ≤ x1046.toInt := ti_le c1047 (by decide) rfl
            refine lv_aload_n hx hb dX12_harvest_56 rfl (lv_at hl 3 rfl) ?_
            refine tw_get hx hb hts bF_X12 hown hK hT hr_o0 shm_0 rfl 39 (by decide) (ht_at hts 33 rfl) (fun _ h9 => h9) dX12_harvest_57 (fun v9 m1049 h9 => ?_)
            obtain ⟨rfl, hg1050⟩ := h9 _ rfl
            refine lv_iload_n hx hb dX12_harvest_60 rfl (lv_at hl 0 rfl) ?_
            refine lv_aload_n hx hb dX12_harvest_61 rfl (lv_at hl 3 rfl) ?_
            refine lv_aload_n hx hb dX12_harvest_62 rfl (lv_at hl 3 rfl) ?_
            refine tw_get hx hb hts bF_X12 hown hK hT hr_o0 shm_0 rfl 38 (by decide) (ht_at hts 9 rfl) (fun _ h9 => h9) dX12_harvest_63 (fun v9 m1051 h9 => ?_)
            obtain ⟨rfl, hg1052⟩ := h9 _ rfl
            refine lv_iload_n hx hb dX12_harvest_66 rfl (lv_at hl 0 rfl) ?_
            refine tw_iald (i := (nI i17)) hx hb hK hT hg1044 shm_39 rfl (vp_in_nI (by omega) (by decide)) dX12_harvest_67 (fun v9 m1053 h9 => ?_)
            obtain ⟨x1054, rfl, gx1054, kx1054⟩ := h9
            obtain rfl : x1046 = x1054 := (el_same m1053 m1045 rfl).symm
            have hFc := gA_free hG hA hS
            refine va_calli (va_runV (As := [.int x1046]) (rest := [.int (nI i17), .ref (q 39)]) ⟨hx, hb, hml, hown, hts⟩ (s_bringsOf l dC dI kA adK adV G H q wZ wN wH wB wC wL wK wU wV PI im PM PT lS lB lE lN o0 x1046 hT hr_o0 (by have q8 := ti_all x1046; omega) hgz hgn hgh hgb hgc hgi hgu) (cwV 1 hts (goodIn_app (goodIn_r _ [96, 97, 98, 7] rfl (by decide +kernel)) (goodIn_ca (goodIn_r _ [94, 95, 16, 17, 18, 19, 20, 21, 22, 23, 24, 25, 26, 27, 28, 7, 29, 30, 3] rfl (by decide +kernel)) (bs_in _ _))) rfl rfl rfl (by decide +kernel) ⟨(Nat.le_of_ble_eq_true rfl), (Nat.le_of_ble_eq_true rfl)⟩) ⟨fun a U g mk q => by obtain ⟨q0, q1, qK, qE⟩ := q; exact ⟨q0, q1, va_K.moved (u := U) (U := U.calling g mk a) (Vm.Alike.refl U.vm) qK, EVS.blind g mk a qE⟩, gH_rc hK hT hr_o0 shm_0 rfl, fun U hU hW => ⟨rfl, hU, va_K.moved hW.alike hK, hE.call hS hFc hU hW⟩⟩ rfl rfl hl.1 rfl (lv_room (Nat.le_of_ble_eq_true rfl)) dX12_harvest_68 ⟨(Nat.le_of_ble_eq_true rfl), (Nat.le_of_ble_eq_true rfl)⟩) hS (fun q _ h => hFc q h) hFc (fun r1055 u t H locs ht hvm hw1056 hB _ _ hS => ?_)
            obtain ⟨hT, hF1⟩ := hB
            rw [ht] at hT hF1
            have m1057 := (hF1.fld hr_o0 skm_0 (k := 0) (by decide) (by decide)).trans m19
            have m1058 := (hF1.fld hr_o0 skm_0 (k := 49) (by decide) (by decide)).trans m20
            have m1059 := (hF1.fld hr_o0 skm_0 (k := 42) (by decide) (by decide)).trans m766
            have m1060 := (el_kept (hF1.arr hg1044 skm_39 (by decide))).trans m1045
            have hF := hF.more hF1 (by decide)
            try dsimp only at hw1056
            refine tw_iast (i := (nI i17)) (x := r1055) hx hb hK hT hG hS hg1050 shm_40 rfl (vp_in_nI (by omega) (by decide)) (gi_all _) dX12_harvest_71 (fun H locs hT oq m1061 oi hS => ?_)
            have hF := hF.ast hg1050 skm_40 oq (by decide)
            have m1062 := (el_kept (oq _ (gne hr_o0 hg1050 (by decide)))).trans m1057
            have m1063 := (el_kept (oq _ (gne hr_o0 hg1050 (by decide)))).trans m1058
            have m1064 := (el_kept (oq _ (gne hr_o0 hg1050 (by decide)))).trans m1059
            have m1065 := (el_kept (oq _ (gne hg1044 hg1050 (by decide)))).trans m1060
            refine lv_aload_n hx hb dX12_harvest_72 rfl (lv_at hl 3 rfl) ?_
            refine tw_get hx hb hts bF_X12 hown hK hT hr_o0 shm_0 rfl 33 (by decide) (ht_at hts 36 rfl) (fun _ h9 => h9) dX12_harvest_73 (fun v9 m1066 h9 => ?_)
            obtain ⟨rfl, hg1067⟩ := h9 _ rfl
            refine lv_iload_n hx hb dX12_harvest_76 rfl (lv_at hl 0 rfl) ?_
            refine lv_dup2_11 hx hb dX12_harvest_77 rfl rfl ?_
            refine tw_iald (i := (nI i17)) hx hb hK hT hg1067 shm_34 rfl (vp_in_nI (by omega) (by decide)) dX12_harvest_78 (fun v9 m1068 h9 => ?_)
            obtain ⟨x1069, rfl, gx1069, kx1069⟩ := h9
            refine lv_aload_n hx hb dX12_harvest_79 rfl (lv_at hl 3 rfl) ?_
            refine tw_get hx hb hts bF_X12 hown hK hT hr_o0 shm_0 rfl 39 (by decide) (ht_at hts 33 rfl) (fun _ h9 => h9) dX12_harvest_80 (fun v9 m1070 h9 => ?_)
            obtain ⟨rfl, hg1071⟩ := h9 _ rfl
            refine lv_iload_n hx hb dX12_harvest_83 rfl (lv_at hl 0 rfl) ?_
            refine tw_iald (i := (nI i17)) hx hb hK hT hg1050 shm_40 rfl (vp_in_nI (by omega) (by decide)) dX12_harvest_84 (fun v9 m1072 h9 => ?_)
            obtain ⟨x1073, rfl, gx1073, kx1073⟩ := h9
            obtain rfl : r1055 = x1073 := (el_same m1072 m1061 rfl).symm
            refine lv_iadd hx hb dX12_harvest_85 ?_
            refine lv_topi (fun x1074 ex1074 => ?_)
            refine tw_iast (i := (nI i17)) (x := x1074) hx hb hK hT hG hS hg1067 shm_34 rfl (vp_in_nI (by omega) (by decide)) (gi_all _) dX12_harvest_86 (fun H locs hT oq m1075 oi hS => ?_)
            have hF := hF.ast hg1067 skm_34 oq (by decide)
            have m1076 := (el_kept (oq _ (gne hr_o0 hg1067 (by decide)))).trans m1062
            have m1077 := (el_kept (oq _ (gne hr_o0 hg1067 (by decide)))).trans m1063
            have m1078 := (el_kept (oq _ (gne hr_o0 hg1067 (by decide)))).trans m1064
            have m1079 := (el_kept (oq _ (gne hg1044 hg1067 (by decide)))).trans m1065
            have m1080 := (el_kept (oq _ (gne hg1050 hg1067 (by decide)))).trans m1061
            refine lv_iload_n hx hb dX12_harvest_87 rfl (lv_at hl 1 rfl) ?_
            refine lv_aload_n hx hb dX12_harvest_88 rfl (lv_at hl 3 rfl) ?_
            refine tw_get hx hb hts bF_X12 hown hK hT hr_o0 shm_0 rfl 39 (by decide) (ht_at hts 33 rfl) (fun _ h9 => h9) dX12_harvest_89 (fun v9 m1081 h9 => ?_)
            obtain ⟨rfl, hg1082⟩ := h9 _ rfl
            refine lv_iload_n hx hb dX12_harvest_92 rfl (lv_at hl 0 rfl) ?_
            refine tw_iald (i := (nI i17)) hx hb hK hT hg1050 shm_40 rfl (vp_in_nI (by omega) (by decide)) dX12_harvest_93 (fun v9 m1083 h9 => ?_)
            obtain ⟨x1084, rfl, gx1084, kx1084⟩ := h9
            obtain rfl : r1055 = x1084 := (el_same m1083 m1080 rfl).symm
            refine lv_iadd hx hb dX12_harvest_94 ?_
            refine lv_topi (fun x1085 ex1085 => ?_)
            refine lv_istore_n (lv' := [(2, .int x1085), (3, .int (nI i17)), (1, .int x9), (0, .ref o0)]) hx hb dX12_harvest_95 rfl hl (by decide) rfl (fun ls hl => ?_)
            refine lv_iinc (v := nI (i17 + 1)) (lv' := [(3, .int (nI (i17 + 1))), (2, .int x1085), (1, .int x9), (0, .ref o0)]) hx hb dX12_harvest_96 hl (k := 1) rfl (nI_add i17 1) (by decide) rfl (fun ls hl => ?_)
            refine lv_goto (tgt := 36) hx hb dX12_harvest_99 (by decide) ?_
            exact ih342 (i17 + 1) (by omega) (by omega) x1085 _ _ hT hF hS m1076 m1077 ls (lv_sub hl [0, 1, 2, 3] rfl)
          · have t1086 : x1046.toInt < 0 := ti_nle c1047 (by decide) rfl
            refine lv_goto (tgt := 96) hx hb dX12_harvest_53 (by decide) ?_
            refine lv_iinc (v := nI (i17 + 1)) (lv' := [(3, .int (nI (i17 + 1))), (2, .int z18), (1, .int x9), (0, .ref o0)]) hx hb dX12_harvest_96 hl (k := 0) rfl (nI_add i17 1) (by decide) rfl (fun ls hl => ?_)
            refine lv_goto (tgt := 36) hx hb dX12_harvest_99 (by decide) ?_
            exact ih342 (i17 + 1) (by omega) (by omega) z18 _ _ hT hF hS m19 m20 ls (lv_sub hl [0, 1, 2, 3] rfl)
    exact key342 (60 - 0) 0 (by omega) (Nat.le_refl _) 0 _ _ hT hF hS m16 m15 ls (lv_sub hl [0, 1, 2, 3] rfl)
  · have t1087 : x12.toInt = x9.toInt := ti_eq c13 rfl rfl
    refine lv_iconst (v := (-1)) hx hb dX12_harvest_25 (by decide) ?_
    exact W.iret (v := (-1)) hx hb hr (fun t ht hW => ⟨⟨(-1), (), rfl, (by exact trivial), by (try dsimp only); rw [ht]; exact ⟨hT, hF⟩⟩, hS.F ht⟩) hS.2.2 dX12_harvest_26
