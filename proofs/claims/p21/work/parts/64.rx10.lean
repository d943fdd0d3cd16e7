def w_s_chooseH : List Cond := .code yX12_choose cX12_choose 6 (some .int) :: (HAppend.hAppend (α := List Cond) (β := List Cond) (γ := List Cond) [.fieldLink RX12 194 "SeaLandModel" "thrown" "I", .code yX12_in cX12_in 3 (some .boolean), .methodLink RX12 197 yX12_in, .static yX12_in, .initialized RX12, .code yX12_throwsIf cX12_throwsIf 3 (some .boolean), .methodLink RX12 224 yX12_throwsIf, .instanceMethod yX12_throwsIf, .selects RX12 yX12_throwsIf yX12_throwsIf, .fieldLink RX12 495 "SeaLandModel" "settlers" "I", .code yX12_nextOne cX12_nextOne 3 (some .int), .fieldLink RX12 131 "SeaLandModel" "open" "[Z", .fieldLink RX12 128 "SeaLandModel" "marks" "[J", .fieldLink RX12 98 "SeaLandModel" "drawn" "[I", .methodLink RX12 508 yX12_nextOne, .instanceMethod yX12_nextOne, .selects RX12 yX12_nextOne yX12_nextOne, .code yX12_bestFarm cX12_bestFarm 3 (some .int), .fieldLink RX12 498 "SeaLandModel" "farms" "I", .fieldLink RX12 122 "SeaLandModel" "holder" "[I", .code yX12_worthOf cX12_worthOf 5 (some .int), .fieldLink RX12 113 "SeaLandModel" "farmFrom" "[I", .fieldLink RX12 116 "SeaLandModel" "farmTo" "[I", .code yX12_isIn cX12_isIn 5 (some .boolean), .methodLink RX12 207 Lib.Math.min.name, .static Lib.Math.min.name, .initialized "java/lang/Math", .code Lib.Math.min.name Lib.Math.min.code 2 (some .int), .methodLink RX12 211 Lib.Math.max.name, .static Lib.Math.max.name, .code Lib.Math.max.name Lib.Math.max.code 2 (some .int), .methodLink RX12 232 yX12_isIn, .static yX12_isIn, .fieldLink RX12 9 "SeaLandModel" "world" "[I", .methodLink RX12 505 yX12_worthOf, .instanceMethod yX12_worthOf, .selects RX12 yX12_worthOf yX12_worthOf, .methodLink RX12 511 yX12_bestFarm, .instanceMethod yX12_bestFarm, .selects RX12 yX12_bestFarm yX12_bestFarm, .fieldLink RX12 101 "SeaLandModel" "holds" "[I", .code yX12_sumOf cX12_sumOf 6 (some .long), .code yX12_looksAt cX12_looksAt 2 none, .fieldLink RX12 76 "SeaLandModel" "facts" "[J", .code yX12_acres cX12_acres 4 (some .int), .methodLink RX12 467 yX12_acres, .instanceMethod yX12_acres, .selects RX12 yX12_acres yX12_acres, .fieldLink RX12 104 "SeaLandModel" "gain" "[I", .fieldLink RX12 79 "SeaLandModel" "age" "[I", .fieldLink RX12 82 "SeaLandModel" "sons" "[I", .fieldLink RX12 85 "SeaLandModel" "coin" "[I", .fieldLink RX12 88 "SeaLandModel" "cattle" "[I", .fieldLink RX12 91 "SeaLandModel" "isKin" "[Z", .fieldLink RX12 95 "SeaLandModel" "isBoard" "[Z", .code yX12_near cX12_near 5 (some .int), .code yX12_isDike cX12_isDike 2 (some .boolean), .code yX12_of cX12_of 3 (some .int), .code yX12_at cX12_at 2 (some .int), .methodLink RX12 214 yX12_at, .static yX12_at, .methodLink RX12 217 yX12_of, .instanceMethod yX12_of, .selects RX12 yX12_of yX12_of, .methodLink RX12 272 yX12_isDike, .instanceMethod yX12_isDike, .selects RX12 yX12_isDike yX12_isDike, .code yX12_steps cX12_steps 2 (some .int), .methodLink RX12 201 Lib.Math.abs.name, .static Lib.Math.abs.name, .code Lib.Math.abs.name Lib.Math.abs.code 1 (some .int), .methodLink RX12 262 yX12_steps, .static yX12_steps, .methodLink RX12 469 yX12_near, .instanceMethod yX12_near, .selects RX12 yX12_near yX12_near, .fieldLink RX12 107 "SeaLandModel" "owes" "[I", .methodLink RX12 474 yX12_looksAt, .instanceMethod yX12_looksAt, .selects RX12 yX12_looksAt yX12_looksAt, .fieldLink RX12 42 "SeaLandModel" "lines" "[I", .fieldLink RX12 45 "SeaLandModel" "sort" "[I", .code yX12_holds cX12_holds 9 (some .boolean), .fieldLink RX12 60 "SeaLandModel" "begins" "[I", .fieldLink RX12 63 "SeaLandModel" "ends" "[I", .fieldLink RX12 66 "SeaLandModel" "step" "[I", .fieldLink RX12 72 "SeaLandModel" "value" "[J", .methodLink RX12 471 Lib.MathLoose.max_long.x, .static Lib.MathLoose.max_long.x, .code Lib.MathLoose.max_long.x Lib.MathLoose.max_long.code 4 (some .long), .fieldLink RX12 69 "SeaLandModel" "than" "[I", .methodLink RX12 478 yX12_holds, .instanceMethod yX12_holds, .selects RX12 yX12_holds yX12_holds, .fieldLink RX12 48 "SeaLandModel" "told" "[I", .methodLink RX12 480 yX12_sumOf, .instanceMethod yX12_sumOf, .selects RX12 yX12_sumOf yX12_sumOf] bs)
set_option maxHeartbeats 4000000 in
set_option maxRecDepth 100000 in
theorem s_chooseH (l : Launch) (dC : Nat → ClassId) (dI : Nat → Nat → Nat) (kA : Nat → ClassId) (adK adV : Nat → Nat) (G : gT) (H0 : Heap) (q : Nat → Nat) (wZ wN : Nat → Int) (wH wB wC : Int) (wL wK : Nat → Prop) (wU wV : Nat → Nat) (PI : Nat → Int → Prop) (im : Int) (PM PT : Nat → Int → Prop) (lS lB lE : Nat → Nat → Int → Prop) (lN : Nat → Int) (o0 : Nat) (p0 : Int32) (sn : Int32) (vH : Nat → Int32)  (hT : gH (dC, dI) kA (SHm q (wP wZ wN wH wB wC wL wK wU wV) PI im PM PT lS lB lE lN) G H0) (hr_o0 : G o0 = some 0) (hm_sn : el H0 o0 (dI 15 42) = some (.int sn)) (hq0 : 0 ≤ sn.toInt ∧ sn.toInt ≤ 60) (hzb : zHb vH sn.toInt) (hlaw : lawsOK lS lB lE lN) (hc_vH : ct H0 (q 38) 60 vH) (hgz : ∀ i, 0 ≤ wZ i) (hgn : ∀ i, 6500000 ≤ wN i ∧ wN i ≤ 20200000) (hgh : 0 ≤ wH ∧ wH ≤ 40000) (hgb : 0 ≤ wB ∧ wB ≤ 3850000) (hgc : 0 ≤ wC ∧ wC ≤ 30) (hgi : 0 ≤ im ∧ im ≤ 1) (hgu : ∀ a t, G a = some (t + 1) → a = q t) : Met l yX12_choose w_s_chooseH ({ frames := 6, cells := 0, slots := 0, locals := 134 }) (va_Pc [.ref o0, .int p0] (fun U => U.heap = H0 ∧ va_K (dC, dI) vwCl (tyl kA) U ∧ EVS adK adV (gA G H0.size) U U.heap)) (va_Qi (fun (r : Int32) (u : (Nat → Int32)) => (zHb u sn.toInt)) (fun (vH1 : (Nat → Int32)) (t : State) => gH (dC, dI) kA (SHm q (wP wZ wN wH wB wC wL wK wU wV) PI im PM PT lS lB lE lN) G t.heap ∧ gF (dC, dI) SKm G ([(0, 0), (30, 0), (31, 0), (39, 0), (47, 0), (51, 0), (52, 0)] : List (Nat × Nat)) H0 t.heap ∧ ct t.heap (q 38) 60 vH1) (gA G H0.size)) 0 0 (gA G H0.size) := by
  refine Met.ofW (cc := cX12_choose) (maxL := 6) (ret := (some .int)) (by decide) rfl ?_
  intro p e s m args below meth c s₁ B hml hv
  obtain ⟨rfl, hH0, hK, hE⟩ := hv
  have hx := B.exec
  have hb := B.bytes
  have hr := B.returns
  have hts := atoms_spec (ws := w_s_chooseH) B.pre
  have hown : s.vm.findClass RX12 = some m.cls := findClass_of_methodNamed B.named
  have hlocks := B.notSynchronized
  subst hH0
  generalize hAe : gA G s.heap.size = A at hE ⊢
  have hA : ∀ q : Nat, s.heap.size ≤ q → A q := fun q h => by rw [← hAe]; exact Or.inr h
  have hG := gA_of hAe
  have hS : va_S A s.heap s.heap [] := va_S.rf
  have hF : gF (dC, dI) SKm G ([(0, 0), (30, 0), (31, 0), (39, 0), (47, 0), (51, 0), (52, 0)] : List (Nat × Nat)) s.heap s.heap := gF.rf
  have hl := lv_entry ([.ref o0, .int p0]) (n := 6) (Nat.le_of_ble_eq_true rfl)
  rw [lg_entry_eq]
  generalize (lg_sl ([.ref o0, .int p0]) ++ List.replicate (6 - (lg_sl ([.ref o0, .int p0])).length) Slot.unset).toArray = ls at hl ⊢
  have hl : lv_has ls 6 [(0, .ref o0), (1, .int p0)] := hl
  have hg1 : G (q 38) = some 39 := gx_of hT hr_o0 shm_0 (k := 38) (by decide) rfl
  refine lv_aload_n hx hb dX12_choose_0 rfl (lv_at hl 0 rfl) ?_
  refine lv_iconst (v := 0) hx hb dX12_choose_1 (by decide) ?_
  refine tw_put (v := .int 0) (ty := .int) hx hb hts bF_X12 tyX12 tyX12_ok nmX12 hown hK hT hG hS hr_o0 shm_0 rfl 0 (by decide) (ht_at hts 0 rfl) (fun _ h9 => h9) rfl (by decide +kernel) rfl rfl (gl_at rfl (gi_all _)) dX12_choose_2 (fun H locs hT oq m2 oj hS => ?_)
  have hF := hF.put hr_o0 skm_0 oq oj (by decide)
  have m3 := (oj 42 (by decide) (by decide)).trans hm_sn
  have m4 := hc_vH.kept (oq _ (gne hg1 hr_o0 (by decide)))
  refine lv_aload_n hx hb dX12_choose_5 rfl (lv_at hl 0 rfl) ?_
  refine lv_iload_n hx hb dX12_choose_6 rfl (lv_at hl 1 rfl) ?_
  refine lv_iconst (v := 0) hx hb dX12_choose_7 (by decide) ?_
  refine lv_bipush (v := 60) hx hb dX12_choose_8 (by decide) ?_
  have hFc := gA_free hG hA hS
  refine va_calli (va_runS (As := [.int p0, .int 0, .int 60]) (rest := [.ref o0]) ⟨hx, hb, hml, hown, hts⟩ (s_in l dC dI kA adK adV G H q wZ wN wH wB wC wL wK wU wV PI im PM PT lS lB lE lN p0 0 60 hT hgz hgn hgh hgb hgc hgi hgu) (va_cwS 3 hts (goodIn_app (goodIn_r _ [3, 4, 5] rfl (by decide +kernel)) (goodIn_ca (goodIn_r _ [2] rfl (by decide +kernel)) (bs_in _ _))) rfl rfl rfl (by decide +kernel) ⟨(Nat.le_of_ble_eq_true rfl), (Nat.le_of_ble_eq_true rfl)⟩) ⟨fun a U g mk q => by obtain ⟨q0, q1, qK, qE⟩ := q; exact ⟨q0, q1, va_K.moved (u := U) (U := U.calling g mk a) (Vm.Alike.refl U.vm) qK, EVS.blind g mk a qE⟩, fun U hU hW => ⟨rfl, hU, va_K.moved hW.alike hK, hE.call hS hFc hU hW⟩⟩ rfl rfl hl.1 rfl (lv_room (Nat.le_of_ble_eq_true rfl)) dX12_choose_10 ⟨(Nat.le_of_ble_eq_true rfl), (Nat.le_of_ble_eq_true rfl)⟩) hS (fun q _ h => hFc q h) hFc (fun r5 u t H locs ht hvm hw6 hB _ _ hS => ?_)
  obtain ⟨hT, hF1⟩ := hB
  rw [ht] at hT hF1
  have m7 := (hF1.fld hr_o0 skm_0 (k := 42) (by decide) (by decide)).trans m3
  have m8 := m4.kept (hF1.arr hg1 skm_39 (by decide))
  have m9 := (hF1.fld hr_o0 skm_0 (k := 0) (by decide) (by decide)).trans m2
  have hF := hF.more hF1 (by decide)
  try dsimp only at hw6
  obtain ⟨h10, hi11, hi12⟩ := hw6
  refine lv_if_ne (tgt := 20) hx hb dX12_choose_13 (by decide) (fun c13 => ?_) (fun c13 => ?_)
  · have t14 : r5.toInt ≠ 0 := ti_ne c13 rfl (by decide)
    have t15 : (0 : Int32).toInt = 0 := by decide
    have t16 : (60 : Int32).toInt = 60 := by decide
    have t17 : (0 : Int32).toInt ≤ p0.toInt ∧ p0.toInt ≤ (60 : Int32).toInt := hi11 ((bit_of ⟨by omega, by omega⟩).resolve_left c13)
    refine lv_iconst (v := 0) hx hb dX12_choose_20 (by decide) ?_
    refine lv_iconst (v := 1) hx hb dX12_choose_21 (by decide) ?_
    have hFc := gA_free hG hA hS
    refine va_calli (va_runV (As := [.int 0, .int 1]) (rest := []) ⟨hx, hb, hml, hown, hts⟩ (s_throwsIf l dC dI kA adK adV G H q wZ wN wH wB wC wL wK wU wV PI im PM PT lS lB lE lN o0 0 1 hT hr_o0 (rg_t (a := 0) (by decide) (by first | decide | omega) (by first | decide | omega)) hgz hgn hgh hgb hgc hgi hgu) (cwV 2 hts (goodIn_app (goodIn_r _ [7, 8, 9, 5] rfl (by decide +kernel)) (goodIn_ca (goodIn_r _ [6, 1] rfl (by decide +kernel)) (bs_in _ _))) rfl rfl rfl (by decide +kernel) ⟨(Nat.le_of_ble_eq_true rfl), (Nat.le_of_ble_eq_true rfl)⟩) ⟨fun a U g mk q => by obtain ⟨q0, q1, qK, qE⟩ := q; exact ⟨q0, q1, va_K.moved (u := U) (U := U.calling g mk a) (Vm.Alike.refl U.vm) qK, EVS.blind g mk a qE⟩, gH_rc hK hT hr_o0 shm_0 rfl, fun U hU hW => ⟨rfl, hU, va_K.moved hW.alike hK, hE.call hS hFc hU hW⟩⟩ rfl rfl hl.1 rfl (lv_room (Nat.le_of_ble_eq_true rfl)) dX12_choose_22 ⟨(Nat.le_of_ble_eq_true rfl), (Nat.le_of_ble_eq_true rfl)⟩) hS (fun q _ h => hFc q h) hFc (fun r18 u t H locs ht hvm hw19 hB _ _ hS => ?_)
    obtain ⟨hT, hF1⟩ := hB
    rw [ht] at hT hF1
    have m20 := (hF1.fld hr_o0 skm_0 (k := 42) (by decide) (by decide)).trans m7
    have m21 := m8.kept (hF1.arr hg1 skm_39 (by decide))
    have hF := hF.more hF1 (by decide)
    try dsimp only at hw19
    obtain ⟨h23, hd24⟩ := hw19
    obtain rfl : (0 : Int32) = r18 := hd24.symm
    refine lv_if_eq (tgt := 30) hx hb dX12_choose_25 (by decide) (fun c25 => ?_) (fun c25 => absurd c25 (by decide))
    refine lv_iconst (v := 0) hx hb dX12_choose_30 (by decide) ?_
    refine lv_istore_n (lv' := [(2, .int 0), (0, .ref o0), (1, .int p0)]) hx hb dX12_choose_31 rfl hl (by decide) rfl (fun ls hl => ?_)
    have key177 : ∀ (n177 i26 : Nat), i26 + n177 = 60 → 0 ≤ i26 → ∀ (H : Heap) (locs : List Loc), gH (dC, dI) kA (SHm q (wP wZ wN wH wB wC wL wK wU wV) PI im PM PT lS lB lE lN) G H → gF (dC, dI) SKm G ([(0, 0), (30, 0), (31, 0), (39, 0), (47, 0), (51, 0), (52, 0)] : List (Nat × Nat)) s.heap H → va_S A s.heap H locs → ct H (q 38) 60 vH → el H o0 (dI 15 42) = some (.int sn) → ∀ ls : Array Slot, lv_has ls 6 [(2, .int (nI i26)), (0, .ref o0), (1, .int p0)] → W p l e (headSpec w_s_chooseH ({ frames := 6, cells := 0, slots := 0, locals := 134 })).room s m #[.ref o0, .int p0] below meth c H locs 0 0 (MQ below (va_Qi (fun (r : Int32) (u : (Nat → Int32)) => (zHb u sn.toInt)) (fun (vH1 : (Nat → Int32)) (t : State) => gH (dC, dI) kA (SHm q (wP wZ wN wH wB wC wL wK wU wV) PI im PM PT lS lB lE lN) G t.heap ∧ gF (dC, dI) SKm G ([(0, 0), (30, 0), (31, 0), (39, 0), (47, 0), (51, 0), (52, 0)] : List (Nat × Nat)) s.heap t.heap ∧ ct t.heap (q 38) 60 vH1) A) #[.ref o0, .int p0] s 0 0 A) (F0 m 32 ls []) := by
      intro n177
      induction n177 with
      | zero =>
        intro i26 hn177 hlo178  H locs hT hF hS m27 m28 ls hl
        obtain rfl : 60 = i26 := by omega
        refine lv_iload_n hx hb dX12_choose_32 rfl (lv_at hl 0 rfl) ?_
        refine lv_aload_n hx hb dX12_choose_33 rfl (lv_at hl 1 rfl) ?_
        refine tw_getM (v := .int sn) hx hb hts bF_X12 hown hK hT hr_o0 shm_0 rfl 42 (by decide) (ht_at hts 9 rfl) (fun _ h9 => h9) m28 dX12_choose_34 ?_
        refine lv_icmp_ge (tgt := 90) hx hb dX12_choose_37 (by decide) (fun c179 => ?_) (fun c179 => (by exfalso; have q9 : ((60 : Nat) : Int) < sn.toInt := ti_nle c179 rfl (nI_toInt (by omega)); omega))
        have t180 : sn.toInt ≤ ((60 : Nat) : Int) := ti_le c179 rfl (nI_toInt (by omega))
        refine lv_iconst (v := 0) hx hb dX12_choose_90 (by decide) ?_
        refine lv_istore_n (lv' := [(2, .int 0), (0, .ref o0), (1, .int p0)]) hx hb dX12_choose_91 rfl hl (by decide) rfl (fun ls hl => ?_)
        refine lv_iconst (v := 0) hx hb dX12_choose_92 (by decide) ?_
        refine lv_istore_n (lv' := [(3, .int 0), (2, .int 0), (0, .ref o0), (1, .int p0)]) hx hb dX12_choose_93 rfl hl (by decide) rfl (fun ls hl => ?_)
        have key223 : ∀ (n223 i181 : Nat), i181 + n223 = 60 → 0 ≤ i181 → ∀ (z182 : Int32), ∀ (V183 : Nat → Int32), ((zHb V183 sn.toInt)) → ∀ (H : Heap) (locs : List Loc), gH (dC, dI) kA (SHm q (wP wZ wN wH wB wC wL wK wU wV) PI im PM PT lS lB lE lN) G H → gF (dC, dI) SKm G ([(0, 0), (30, 0), (31, 0), (39, 0), (47, 0), (51, 0), (52, 0)] : List (Nat × Nat)) s.heap H → va_S A s.heap H locs → ct H (q 38) 60 V183 → el H o0 (dI 15 42) = some (.int sn) → ∀ ls : Array Slot, lv_has ls 6 [(3, .int (nI i181)), (2, .int z182), (0, .ref o0), (1, .int p0)] → W p l e (headSpec w_s_chooseH ({ frames := 6, cells := 0, slots := 0, locals := 134 })).room s m #[.ref o0, .int p0] below meth c H locs 0 0 (MQ below (va_Qi (fun (r : Int32) (u : (Nat → Int32)) => (zHb u sn.toInt)) (fun (vH1 : (Nat → Int32)) (t : State) => gH (dC, dI) kA (SHm q (wP wZ wN wH wB wC wL wK wU wV) PI im PM PT lS lB lE lN) G t.heap ∧ gF (dC, dI) SKm G ([(0, 0), (30, 0), (31, 0), (39, 0), (47, 0), (51, 0), (52, 0)] : List (Nat × Nat)) s.heap t.heap ∧ ct t.heap (q 38) 60 vH1) A) #[.ref o0, .int p0] s 0 0 A) (F0 m 94 ls []) := by
          intro n223
          induction n223 with
          | zero =>
            intro i181 hn223 hlo224 z182 V183 hj186 H locs hT hF hS m184 m185 ls hl
            obtain rfl : 60 = i181 := by omega
            refine lv_iload_n hx hb dX12_choose_94 rfl (lv_at hl 0 rfl) ?_
            refine lv_iload_n hx hb dX12_choose_95 rfl (lv_at hl 3 rfl) ?_
            refine lv_icmp_ge (tgt := 158) hx hb dX12_choose_96 (by decide) (fun c225 => ?_) (fun c225 => (by exfalso; have q9 : ((60 : Nat) : Int) < p0.toInt := ti_nle c225 rfl (nI_toInt (by omega)); omega))
            have t226 : p0.toInt ≤ ((60 : Nat) : Int) := ti_le c225 rfl (nI_toInt (by omega))
            refine lv_iload_n hx hb dX12_choose_158 rfl (lv_at hl 1 rfl) ?_
            exact W.iret (v := z182) hx hb hr (fun t ht hW => ⟨⟨z182, V183, rfl, (by exact hj186), by (try dsimp only); rw [ht]; exact ⟨hT, hF, m184⟩⟩, hS.F ht⟩) hS.2.2 dX12_choose_159
          | succ n223 ih223 =>
            intro i181 hn223 hlo224 z182 V183 hj186 H locs hT hF hS m184 m185 ls hl
            have hlt226 : i181 < 60 := by omega
            refine lv_iload_n hx hb dX12_choose_94 rfl (lv_at hl 0 rfl) ?_
            refine lv_iload_n hx hb dX12_choose_95 rfl (lv_at hl 3 rfl) ?_
            refine lv_icmp_ge (tgt := 158) hx hb dX12_choose_96 (by decide) (fun c227 => ?_) (fun c227 => ?_)
            · have t228 : p0.toInt ≤ ((i181 : Nat) : Int) := ti_le c227 rfl (nI_toInt (by omega))
              refine lv_iload_n hx hb dX12_choose_158 rfl (lv_at hl 1 rfl) ?_
              exact W.iret (v := z182) hx hb hr (fun t ht hW => ⟨⟨z182, V183, rfl, (by exact hj186), by (try dsimp only); rw [ht]; exact ⟨hT, hF, m184⟩⟩, hS.F ht⟩) hS.2.2 dX12_choose_159
            · have t229 : ((i181 : Nat) : Int) < p0.toInt := ti_nle c227 rfl (nI_toInt (by omega))
              refine lv_aload_n hx hb dX12_choose_99 rfl (lv_at hl 2 rfl) ?_
              have hFc := gA_free hG hA hS
              refine va_calli (va_runV (As := []) (rest := []) ⟨hx, hb, hml, hown, hts⟩ (s_nextOne l dC dI kA adK adV G H q wZ wN wH wB wC wL wK wU wV PI im PM PT lS lB lE lN o0 hT hr_o0 hgz hgn hgh hgb hgc hgi hgu) (cwV 0 hts (goodIn_app (goodIn_r _ [15, 16, 17, 5] rfl (by decide +kernel)) (goodIn_ca (goodIn_r _ [11, 10, 12, 13, 14] rfl (by decide +kernel)) (bs_in _ _))) rfl rfl rfl (by decide +kernel) ⟨(Nat.le_of_ble_eq_true rfl), (Nat.le_of_ble_eq_true rfl)⟩) ⟨fun a U g mk q => by obtain ⟨q0, q1, qK, qE⟩ := q; exact ⟨q0, q1, va_K.moved (u := U) (U := U.calling g mk a) (Vm.Alike.refl U.vm) qK, EVS.blind g mk a qE⟩, gH_rc hK hT hr_o0 shm_0 rfl, fun U hU hW => ⟨rfl, hU, va_K.moved hW.alike hK, hE.call hS hFc hU hW⟩⟩ rfl rfl hl.1 rfl (lv_room (Nat.le_of_ble_eq_true rfl)) dX12_choose_100 ⟨(Nat.le_of_ble_eq_true rfl), (Nat.le_of_ble_eq_true rfl)⟩) hS (fun q _ h => hFc q h) hFc (fun r230 u t H locs ht hvm hw231 hB _ _ hS => ?_)
              obtain ⟨hT, hF1⟩ := hB
              rw [ht] at hT hF1
              have m232 := m184.kept (hF1.arr hg1 skm_39 (by decide))
              have m233 := (hF1.fld hr_o0 skm_0 (k := 42) (by decide) (by decide)).trans m185
              have hF := hF.more hF1 (by decide)
              try dsimp only at hw231
              have h234 := hw231
              refine lv_istore (lv' := [(4, .int r230), (3, .int (nI i181)), (2, .int z182), (0, .ref o0), (1, .int p0)]) hx hb dX12_choose_103 hl (by decide) rfl (fun ls hl => ?_)
              refine lv_aload_n hx hb dX12_choose_105 rfl (lv_at hl 3 rfl) ?_
              have hFc := gA_free hG hA hS
              refine va_calli (va_runV (As := []) (rest := []) ⟨hx, hb, hml, hown, hts⟩ (s_bestFarm l dC dI kA adK adV G H q wZ wN wH wB wC wL wK wU wV PI im PM PT lS lB lE lN o0 hT hr_o0 hgz hgn hgh hgb hgc hgi hgu) (cwV 0 hts (goodIn_app (goodIn_r _ [38, 39, 40, 5] rfl (by decide +kernel)) (goodIn_ca (goodIn_r _ [18, 19, 20, 21, 22, 23, 24, 25, 26, 27, 28, 29, 30, 31, 2, 3, 4, 5, 32, 33, 34, 35, 36, 37] rfl (by decide +kernel)) (bs_in _ _))) rfl rfl rfl (by decide +kernel) ⟨(Nat.le_of_ble_eq_true rfl), (Nat.le_of_ble_eq_true rfl)⟩) ⟨fun a U g mk q => by obtain ⟨q0, q1, qK, qE⟩ := q; exact ⟨q0, q1, va_K.moved (u := U) (U := U.calling g mk a) (Vm.Alike.refl U.vm) qK, EVS.blind g mk a qE⟩, gH_rc hK hT hr_o0 shm_0 rfl, fun U hU hW => ⟨rfl, hU, va_K.moved hW.alike hK, hE.call hS hFc hU hW⟩⟩ rfl rfl hl.1 rfl (lv_room (Nat.le_of_ble_eq_true rfl)) dX12_choose_106 ⟨(Nat.le_of_ble_eq_true rfl), (Nat.le_of_ble_eq_true rfl)⟩) hS (fun q _ h => hFc q h) hFc (fun r235 u t H locs ht hvm hw236 hB _ _ hS => ?_)
              obtain ⟨hT, hF1⟩ := hB
              rw [ht] at hT hF1
              have m237 := m232.kept (hF1.arr hg1 skm_39 (by decide))
              have m238 := (hF1.fld hr_o0 skm_0 (k := 42) (by decide) (by decide)).trans m233
              have hF := hF.more hF1 (by decide)
              try dsimp only at hw236
              have h239 := hw236
              refine lv_istore (lv' := [(5, .int r235), (4, .int r230), (3, .int (nI i181)), (2, .int z182), (0, .ref o0), (1, .int p0)]) hx hb dX12_choose_109 hl (by decide) rfl (fun ls hl => ?_)
              refine lv_iload hx hb dX12_choose_111 (lv_at hl 1 rfl) ?_
              refine lv_if_lt (tgt := 121) hx hb dX12_choose_113 (by decide) (fun c240 => ?_) (fun c240 => ?_)
              · have t241 : r230.toInt < 0 := ti_lt c240 rfl (by decide)
                refine lv_iload_n hx hb dX12_choose_121 rfl (lv_at hl 3 rfl) ?_
                exact W.iret (v := z182) hx hb hr (fun t ht hW => ⟨⟨z182, V183, rfl, (by exact hj186), by (try dsimp only); rw [ht]; exact ⟨hT, hF, m237⟩⟩, hS.F ht⟩) hS.2.2 dX12_choose_122
              · have t242 : 0 ≤ r230.toInt := ti_nlt c240 rfl (by decide)
                refine lv_iload hx hb dX12_choose_116 (lv_at hl 0 rfl) ?_
                refine lv_if_ge (tgt := 123) hx hb dX12_choose_118 (by decide) (fun c243 => ?_) (fun c243 => ?_)
                · have t244 : 0 ≤ r235.toInt := ti_le c243 (by decide) rfl
                  refine lv_aload_n hx hb dX12_choose_123 rfl (lv_at hl 4 rfl) ?_
                  refine tw_get hx hb hts bF_X12 hown hK hT hr_o0 shm_0 rfl 51 (by decide) (ht_at hts 11 rfl) (fun _ h9 => h9) dX12_choose_124 (fun v9 m245 h9 => ?_)
                  obtain ⟨rfl, hg246⟩ := h9 _ rfl
                  refine lv_iload hx hb dX12_choose_127 (lv_at hl 1 rfl) ?_
                  refine lv_iconst (v := 0) hx hb dX12_choose_129 (by decide) ?_
                  refine tw_zast (i := r230) (x := 0) hx hb hK hT hG hS hg246 shm_52 rfl (vin_t (a := r230.toInt) rfl (by omega) (by omega)) (gi_z (rg_t (a := 0) (by decide) (by first | decide | omega) (by first | decide | omega)) (by decide) (by decide)) dX12_choose_130 (fun H locs hT oq m247 oi hS => ?_)
                  have hF := hF.ast hg246 skm_52 oq (by decide)
                  have m248 := m237.kept (oq _ (gne hg1 hg246 (by decide)))
                  have m249 := (el_kept (oq _ (gne hr_o0 hg246 (by decide)))).trans m238
                  refine lv_aload_n hx hb dX12_choose_131 rfl (lv_at hl 4 rfl) ?_
                  refine tw_get hx hb hts bF_X12 hown hK hT hr_o0 shm_0 rfl 38 (by decide) (ht_at hts 40 rfl) (fun _ h9 => h9) dX12_choose_132 (fun v9 m250 h9 => ?_)
                  obtain ⟨rfl, hg251⟩ := h9 _ rfl
                  refine lv_iload hx hb dX12_choose_135 (lv_at hl 1 rfl) ?_
                  refine lv_iload hx hb dX12_choose_137 (lv_at hl 0 rfl) ?_
                  refine tw_iast (i := r230) (x := r235) hx hb hK hT hG hS hg1 shm_39 rfl (vin_t (a := r230.toInt) rfl (by omega) (by omega)) (gi_of (show r235.toInt = r235.toInt from rfl) (by omega) (by omega)) dX12_choose_139 (fun H locs hT oq m252 oi hS => ?_)
                  have hF := hF.ast hg1 skm_39 oq (by decide)
                  have m253 := m248.put m252 oi
                  have m254 := (el_kept (oq _ (gne hr_o0 hg1 (by decide)))).trans m249
                  refine lv_aload_n hx hb dX12_choose_140 rfl (lv_at hl 4 rfl) ?_
                  refine tw_get hx hb hts bF_X12 hown hK hT hr_o0 shm_0 rfl 46 (by decide) (ht_at hts 19 rfl) (fun _ h9 => h9) dX12_choose_141 (fun v9 m255 h9 => ?_)
                  obtain ⟨rfl, hg256⟩ := h9 _ rfl
                  refine lv_iload hx hb dX12_choose_144 (lv_at hl 0 rfl) ?_
                  refine lv_iload hx hb dX12_choose_146 (lv_at hl 1 rfl) ?_
                  refine tw_iast (i := r235) (x := r230) hx hb hK hT hG hS hg256 shm_47 rfl (vin_t (a := r235.toInt) rfl (by omega) (by omega)) (gi_of (show r230.toInt = r230.toInt from rfl) (by omega) (by omega)) dX12_choose_148 (fun H locs hT oq m257 oi hS => ?_)
                  have hF := hF.ast hg256 skm_47 oq (by decide)
                  have m258 := m253.kept (oq _ (gne hg1 hg256 (by decide)))
                  have m259 := (el_kept (oq _ (gne hr_o0 hg256 (by decide)))).trans m254
                  have m260 := (el_kept (oq _ (gne hg1 hg256 (by decide)))).trans m252
                  obtain ⟨x261, ex261⟩ : ∃ y : Int32, y = z182 + 1 := ⟨_, rfl⟩
                  refine lv_iinc (v := x261) (lv' := [(2, .int x261), (5, .int r235), (4, .int r230), (3, .int (nI i181)), (0, .ref o0), (1, .int p0)]) hx hb dX12_choose_149 hl (k := 3) rfl (by first | (rw [ex261]; done) | (rw [ex261]; rfl)) (by decide) rfl (fun ls hl => ?_)
                  refine lv_iinc (v := nI (i181 + 1)) (lv' := [(3, .int (nI (i181 + 1))), (2, .int x261), (5, .int r235), (4, .int r230), (0, .ref o0), (1, .int p0)]) hx hb dX12_choose_152 hl (k := 3) rfl (nI_add i181 1) (by decide) rfl (fun ls hl => ?_)
                  refine lv_goto (tgt := 94) hx hb dX12_choose_155 (by decide) ?_
                  exact ih223 (i181 + 1) (by omega) (by omega) x261 (cu V183 r230.toNatClampNeg r235) (zHb_cu hj186 (by have := (show r235.toInt = r235.toInt from rfl); omega)) _ _ hT hF hS m258 m259 ls (lv_sub hl [0, 1, 4, 5] rfl)
                · have t262 : r235.toInt < 0 := ti_nle c243 (by decide) rfl
                  refine lv_iload_n hx hb dX12_choose_121 rfl (lv_at hl 3 rfl) ?_
                  exact W.iret (v := z182) hx hb hr (fun t ht hW => ⟨⟨z182, V183, rfl, (by exact hj186), by (try dsimp only); rw [ht]; exact ⟨hT, hF, m237⟩⟩, hS.F ht⟩) hS.2.2 dX12_choose_122
        exact key223 (60 - 0) 0 (by omega) (Nat.le_refl _) 0 vH hzb _ _ hT hF hS m27 m28 ls (lv_sub hl [0, 1, 2, 3] rfl)
      | succ n177 ih177 =>
        intro i26 hn177 hlo178  H locs hT hF hS m27 m28 ls hl
        have hlt262 : i26 < 60 := by omega
        refine lv_iload_n hx hb dX12_choose_32 rfl (lv_at hl 0 rfl) ?_
        refine lv_aload_n hx hb dX12_choose_33 rfl (lv_at hl 1 rfl) ?_
        refine tw_getM (v := .int sn) hx hb hts bF_X12 hown hK hT hr_o0 shm_0 rfl 42 (by decide) (ht_at hts 9 rfl) (fun _ h9 => h9) m28 dX12_choose_34 ?_
        refine lv_icmp_ge (tgt := 90) hx hb dX12_choose_37 (by decide) (fun c263 => ?_) (fun c263 => ?_)
        · have t264 : sn.toInt ≤ ((i26 : Nat) : Int) := ti_le c263 rfl (nI_toInt (by omega))
          refine lv_iconst (v := 0) hx hb dX12_choose_90 (by decide) ?_
          refine lv_istore_n (lv' := [(2, .int 0), (0, .ref o0), (1, .int p0)]) hx hb dX12_choose_91 rfl hl (by decide) rfl (fun ls hl => ?_)
          refine lv_iconst (v := 0) hx hb dX12_choose_92 (by decide) ?_
          refine lv_istore_n (lv' := [(3, .int 0), (2, .int 0), (0, .ref o0), (1, .int p0)]) hx hb dX12_choose_93 rfl hl (by decide) rfl (fun ls hl => ?_)
          have key307 : ∀ (n307 i265 : Nat), i265 + n307 = 60 → 0 ≤ i265 → ∀ (z266 : Int32), ∀ (V267 : Nat → Int32), ((zHb V267 sn.toInt)) → ∀ (H : Heap) (locs : List Loc), gH (dC, dI) kA (SHm q (wP wZ wN wH wB wC wL wK wU wV) PI im PM PT lS lB lE lN) G H → gF (dC, dI) SKm G ([(0, 0), (30, 0), (31, 0), (39, 0), (47, 0), (51, 0), (52, 0)] : List (Nat × Nat)) s.heap H → va_S A s.heap H locs → ct H (q 38) 60 V267 → el H o0 (dI 15 42) = some (.int sn) → ∀ ls : Array Slot, lv_has ls 6 [(3, .int (nI i265)), (2, .int z266), (0, .ref o0), (1, .int p0)] → W p l e (headSpec w_s_chooseH ({ frames := 6, cells := 0, slots := 0, locals := 134 })).room s m #[.ref o0, .int p0] below meth c H locs 0 0 (MQ below (va_Qi (fun (r : Int32) (u : (Nat → Int32)) => (zHb u sn.toInt)) (fun (vH1 : (Nat → Int32)) (t : State) => gH (dC, dI) kA (SHm q (wP wZ wN wH wB wC wL wK wU wV) PI im PM PT lS lB lE lN) G t.heap ∧ gF (dC, dI) SKm G ([(0, 0), (30, 0), (31, 0), (39, 0), (47, 0), (51, 0), (52, 0)] : List (Nat × Nat)) s.heap t.heap ∧ ct t.heap (q 38) 60 vH1) A) #[.ref o0, .int p0] s 0 0 A) (F0 m 94 ls []) := by
            intro n307
            induction n307 with
            | zero =>
              intro i265 hn307 hlo308 z266 V267 hj270 H locs hT hF hS m268 m269 ls hl
              obtain rfl : 60 = i265 := by omega
              refine lv_iload_n hx hb dX12_choose_94 rfl (lv_at hl 0 rfl) ?_
              refine lv_iload_n hx hb dX12_choose_95 rfl (lv_at hl 3 rfl) ?_
              refine lv_icmp_ge (tgt := 158) hx hb dX12_choose_96 (by decide) (fun c309 => ?_) (fun c309 => (by exfalso; have q9 : ((60 : Nat) : Int) < p0.toInt := ti_nle c309 rfl (nI_toInt (by omega)); omega))
              have t310 : p0.toInt ≤ ((60 : Nat) : Int) := ti_le c309 rfl (nI_toInt (by omega))
              refine lv_iload_n hx hb dX12_choose_158 rfl (lv_at hl 1 rfl) ?_
              exact W.iret (v := z266) hx hb hr (fun t ht hW => ⟨⟨z266, V267, rfl, (by exact hj270), by (try dsimp only); rw [ht]; exact ⟨hT, hF, m268⟩⟩, hS.F ht⟩) hS.2.2 dX12_choose_159
            | succ n307 ih307 =>
              intro i265 hn307 hlo308 z266 V267 hj270 H locs hT hF hS m268 m269 ls hl
              have hlt310 : i265 < 60 := by omega
              refine lv_iload_n hx hb dX12_choose_94 rfl (lv_at hl 0 rfl) ?_
              refine lv_iload_n hx hb dX12_choose_95 rfl (lv_at hl 3 rfl) ?_
              refine lv_icmp_ge (tgt := 158) hx hb dX12_choose_96 (by decide) (fun c311 => ?_) (fun c311 => ?_)
              · have t312 : p0.toInt ≤ ((i265 : Nat) : Int) := ti_le c311 rfl (nI_toInt (by omega))
                refine lv_iload_n hx hb dX12_choose_158 rfl (lv_at hl 1 rfl) ?_
                exact W.iret (v := z266) hx hb hr (fun t ht hW => ⟨⟨z266, V267, rfl, (by exact hj270), by (try dsimp only); rw [ht]; exact ⟨hT, hF, m268⟩⟩, hS.F ht⟩) hS.2.2 dX12_choose_159
              · have t313 : ((i265 : Nat) : Int) < p0.toInt := ti_nle c311 rfl (nI_toInt (by omega))
                refine lv_aload_n hx hb dX12_choose_99 rfl (lv_at hl 2 rfl) ?_
                have hFc := gA_free hG hA hS
                refine va_calli (va_runV (As := []) (rest := []) ⟨hx, hb, hml, hown, hts⟩ (s_nextOne l dC dI kA adK adV G H q wZ wN wH wB wC wL wK wU wV PI im PM PT lS lB lE lN o0 hT hr_o0 hgz hgn hgh hgb hgc hgi hgu) (cwV 0 hts (goodIn_app (goodIn_r _ [15, 16, 17, 5] rfl (by decide +kernel)) (goodIn_ca (goodIn_r _ [11, 10, 12, 13, 14] rfl (by decide +kernel)) (bs_in _ _))) rfl rfl rfl (by decide +kernel) ⟨(Nat.le_of_ble_eq_true rfl), (Nat.le_of_ble_eq_true rfl)⟩) ⟨fun a U g mk q => by obtain ⟨q0, q1, qK, qE⟩ := q; exact ⟨q0, q1, va_K.moved (u := U) (U := U.calling g mk a) (Vm.Alike.refl U.vm) qK, EVS.blind g mk a qE⟩, gH_rc hK hT hr_o0 shm_0 rfl, fun U hU hW => ⟨rfl, hU, va_K.moved hW.alike hK, hE.call hS hFc hU hW⟩⟩ rfl rfl hl.1 rfl (lv_room (Nat.le_of_ble_eq_true rfl)) dX12_choose_100 ⟨(Nat.le_of_ble_eq_true rfl), (Nat.le_of_ble_eq_true rfl)⟩) hS (fun q _ h => hFc q h) hFc (fun r314 u t H locs ht hvm hw315 hB _ _ hS => ?_)
                obtain ⟨hT, hF1⟩ := hB
                rw [ht] at hT hF1
                have m316 := m268.kept (hF1.arr hg1 skm_39 (by decide))
                have m317 := (hF1.fld hr_o0 skm_0 (k := 42) (by decide) (by decide)).trans m269
                have hF := hF.more hF1 (by decide)
                try dsimp only at hw315
                have h318 := hw315
                refine lv_istore (lv' := [(4, .int r314), (3, .int (nI i265)), (2, .int z266), (0, .ref o0), (1, .int p0)]) hx hb dX12_choose_103 hl (by decide) rfl (fun ls hl => ?_)
                refine lv_aload_n hx hb dX12_choose_105 rfl (lv_at hl 3 rfl) ?_
                have hFc := gA_free hG hA hS
                refine va_calli (va_runV (As := []) (rest := []) ⟨hx, hb, hml, hown, hts⟩ (s_bestFarm l dC dI kA adK adV G H q wZ wN wH wB wC wL wK wU wV PI im PM PT lS lB lE lN o0 hT hr_o0 hgz hgn hgh hgb hgc hgi hgu) (cwV 0 hts (goodIn_app (goodIn_r _ [38, 39, 40, 5] rfl (by decide +kernel)) (goodIn_ca (goodIn_r _ [18, 19, 20, 21, 22, 23, 24, 25, 26, 27, 28, 29, 30, 31, 2, 3, 4, 5, 32, 33, 34, 35, 36, 37] rfl (by decide +kernel)) (bs_in _ _))) rfl rfl rfl (by decide +kernel) ⟨(Nat.le_of_ble_eq_true rfl), (Nat.le_of_ble_eq_true rfl)⟩) ⟨fun a U g mk q => by obtain ⟨q0, q1, qK, qE⟩ := q; exact ⟨q0, q1, va_K.moved (u := U) (U := U.calling g mk a) (Vm.Alike.refl U.vm) qK, EVS.blind g mk a qE⟩, gH_rc hK hT hr_o0 shm_0 rfl, fun U hU hW => ⟨rfl, hU, va_K.moved hW.alike hK, hE.call hS hFc hU hW⟩⟩ rfl rfl hl.1 rfl (lv_room (Nat.le_of_ble_eq_true rfl)) dX12_choose_106 ⟨(Nat.le_of_ble_eq_true rfl), (Nat.le_of_ble_eq_true rfl)⟩) hS (fun q _ h => hFc q h) hFc (fun r319 u t H locs ht hvm hw320 hB _ _ hS => ?_)
                obtain ⟨hT, hF1⟩ := hB
                rw [ht] at hT hF1
                have m321 := m316.kept (hF1.arr hg1 skm_39 (by decide))
                have m322 := (hF1.fld hr_o0 skm_0 (k := 42) (by decide) (by decide)).trans m317
                have hF := hF.more hF1 (by decide)
                try dsimp only at hw320
                have h323 := hw320
                refine lv_istore (lv' := [(5, .int r319), (4, .int r314), (3, .int (nI i265)), (2, .int z266), (0, .ref o0), (1, .int p0)]) hx hb dX12_choose_109 hl (by decide) rfl (fun ls hl => ?_)
                refine lv_iload hx hb dX12_choose_111 (lv_at hl 1 rfl) ?_
                refine lv_if_lt (tgt := 121) hx hb dX12_choose_113 (by decide) (fun c324 => ?_) (fun c324 => ?_)
                · have t325 : r314.toInt < 0 := ti_lt c324 rfl (by decide)
                  refine lv_iload_n hx hb dX12_choose_121 rfl (lv_at hl 3 rfl) ?_
                  exact W.iret (v := z266) hx hb hr (fun t ht hW => ⟨⟨z266, V267, rfl, (by exact hj270), by (try dsimp only); rw [ht]; exact ⟨hT, hF, m321⟩⟩, hS.F ht⟩) hS.2.2 dX12_choose_122
                · have t326 : 0 ≤ r314.toInt := ti_nlt c324 rfl (by decide)
                  refine lv_iload hx hb dX12_choose_116 (lv_at hl 0 rfl) ?_
                  refine lv_if_ge (tgt := 123) hx hb dX12_choose_118 (by decide) (fun c327 => ?_) (fun c327 => ?_)
                  · have t328 : 0 ≤ r319.toInt := ti_le c327 (by decide) rfl
                    refine lv_aload_n hx hb dX12_choose_123 rfl (lv_at hl 4 rfl) ?_
                    refine tw_get hx hb hts bF_X12 hown hK hT hr_o0 shm_0 rfl 51 (by decide) (ht_at hts 11 rfl) (fun _ h9 => h9) dX12_choose_124 (fun v9 m329 h9 => ?_)
                    obtain ⟨rfl, hg330⟩ := h9 _ rfl
                    refine lv_iload hx hb dX12_choose_127 (lv_at hl 1 rfl) ?_
                    refine lv_iconst (v := 0) hx hb dX12_choose_129 (by decide) ?_
                    refine tw_zast (i := r314) (x := 0) hx hb hK hT hG hS hg330 shm_52 rfl (vin_t (a := r314.toInt) rfl (by omega) (by omega)) (gi_z (rg_t (a := 0) (by decide) (by first | decide | omega) (by first | decide | omega)) (by decide) (by decide)) dX12_choose_130 (fun H locs hT oq m331 oi hS => ?_)
                    have hF := hF.ast hg330 skm_52 oq (by decide)
                    have m332 := m321.kept (oq _ (gne hg1 hg330 (by decide)))
                    have m333 := (el_kept (oq _ (gne hr_o0 hg330 (by decide)))).trans m322
                    refine lv_aload_n hx hb dX12_choose_131 rfl (lv_at hl 4 rfl) ?_
                    refine tw_get hx hb hts bF_X12 hown hK hT hr_o0 shm_0 rfl 38 (by decide) (ht_at hts 40 rfl) (fun _ h9 => h9) dX12_choose_132 (fun v9 m334 h9 => ?_)
                    obtain ⟨rfl, hg335⟩ := h9 _ rfl
                    refine lv_iload hx hb dX12_choose_135 (lv_at hl 1 rfl) ?_
                    refine lv_iload hx hb dX12_choose_137 (lv_at hl 0 rfl) ?_
                    refine tw_iast (i := r314) (x := r319) hx hb hK hT hG hS hg1 shm_39 rfl (vin_t (a := r314.toInt) rfl (by omega) (by omega)) (gi_of (show r319.toInt = r319.toInt from rfl) (by omega) (by omega)) dX12_choose_139 (fun H locs hT oq m336 oi hS => ?_)
                    have hF := hF.ast hg1 skm_39 oq (by decide)
                    have m337 := m332.put m336 oi
                    have m338 := (el_kept (oq _ (gne hr_o0 hg1 (by decide)))).trans m333
                    refine lv_aload_n hx hb dX12_choose_140 rfl (lv_at hl 4 rfl) ?_
                    refine tw_get hx hb hts bF_X12 hown hK hT hr_o0 shm_0 rfl 46 (by decide) (ht_at hts 19 rfl) (fun _ h9 => h9) dX12_choose_141 (fun v9 m339 h9 => ?_)
                    obtain ⟨rfl, hg340⟩ := h9 _ rfl
                    refine lv_iload hx hb dX12_choose_144 (lv_at hl 0 rfl) ?_
                    refine lv_iload hx hb dX12_choose_146 (lv_at hl 1 rfl) ?_
                    refine tw_iast (i := r319) (x := r314) hx hb hK hT hG hS hg340 shm_47 rfl (vin_t (a := r319.toInt) rfl (by omega) (by omega)) (gi_of (show r314.toInt = r314.toInt from rfl) (by omega) (by omega)) dX12_choose_148 (fun H locs hT oq m341 oi hS => ?_)
                    have hF := hF.ast hg340 skm_47 oq (by decide)
                    have m342 := m337.kept (oq _ (gne hg1 hg340 (by decide)))
                    have m343 := (el_kept (oq _ (gne hr_o0 hg340 (by decide)))).trans m338
                    have m344 := (el_kept (oq _ (gne hg1 hg340 (by decide)))).trans m336
                    obtain ⟨x345, ex345⟩ : ∃ y : Int32, y = z266 + 1 := ⟨_, rfl⟩
                    refine lv_iinc (v := x345) (lv' := [(2, .int x345), (5, .int r319), (4, .int r314), (3, .int (nI i265)), (0, .ref o0), (1, .int p0)]) hx hb dX12_choose_149 hl (k := 3) rfl (by first | (rw [ex345]; done) | (rw [ex345]; rfl)) (by decide) rfl (fun ls hl => ?_)
                    refine lv_iinc (v := nI (i265 + 1)) (lv' := [(3, .int (nI (i265 + 1))), (2, .int x345), (5, .int r319), (4, .int r314), (0, .ref o0), (1, .int p0)]) hx hb dX12_choose_152 hl (k := 3) rfl (nI_add i265 1) (by decide) rfl (fun ls hl => ?_)
                    refine lv_goto (tgt := 94) hx hb dX12_choose_155 (by decide) ?_
                    exact ih307 (i265 + 1) (by omega) (by omega) x345 (cu V267 r314.toNatClampNeg r319) (zHb_cu hj270 (by have := (show r319.toInt = r319.toInt from rfl); omega)) _ _ hT hF hS m342 m343 ls (lv_sub hl [0, 1, 4, 5] rfl)
                  · have t346 : r319.toInt < 0 := ti_nle c327 (by decide) rfl
                    refine lv_iload_n hx hb dX12_choose_121 rfl (lv_at hl 3 rfl) ?_
                    exact W.iret (v := z266) hx hb hr (fun t ht hW => ⟨⟨z266, V267, rfl, (by exact hj270), by (try dsimp only); rw [ht]; exact ⟨hT, hF, m321⟩⟩, hS.F ht⟩) hS.2.2 dX12_choose_122
          exact key307 (60 - 0) 0 (by omega) (Nat.le_refl _) 0 vH hzb _ _ hT hF hS m27 m28 ls (lv_sub hl [0, 1, 2, 3] rfl)
        · have t347 : ((i26 : Nat) : Int) < sn.toInt := ti_nle c263 rfl (nI_toInt (by omega))
          refine lv_aload_n hx hb dX12_choose_40 rfl (lv_at hl 1 rfl) ?_
          refine tw_get hx hb hts bF_X12 hown hK hT hr_o0 shm_0 rfl 51 (by decide) (ht_at hts 11 rfl) (fun _ h9 => h9) dX12_choose_41 (fun v9 m348 h9 => ?_)
          obtain ⟨rfl, hg349⟩ := h9 _ rfl
          refine lv_iload_n hx hb dX12_choose_44 rfl (lv_at hl 0 rfl) ?_
          refine lv_aload_n hx hb dX12_choose_45 rfl (lv_at hl 1 rfl) ?_
          refine tw_get hx hb hts bF_X12 hown hK hT hr_o0 shm_0 rfl 38 (by decide) (ht_at hts 40 rfl) (fun _ h9 => h9) dX12_choose_46 (fun v9 m350 h9 => ?_)
          obtain ⟨rfl, hg351⟩ := h9 _ rfl
          refine lv_iload_n hx hb dX12_choose_49 rfl (lv_at hl 0 rfl) ?_
          refine tw_iald (i := (nI i26)) hx hb hK hT hg1 shm_39 rfl (vp_in_nI (by omega) (by decide)) dX12_choose_50 (fun v9 m352 h9 => ?_)
          obtain ⟨x353, rfl, gx353, kx353⟩ := h9
          have cx353 := m27.at m352 (by have q9 := tn_of (show (nI i26).toInt = ((i26 : Nat) : Int) from (nI_toInt (by omega))) (by omega); omega)
          refine lv_if_ge (tgt := 70) hx hb dX12_choose_51 (by decide) (fun c354 => ?_) (fun c354 => ?_)
          · have t355 : 0 ≤ x353.toInt := ti_le c354 (by decide) rfl
            refine lv_iconst (v := 0) hx hb dX12_choose_70 (by decide) ?_
            refine tw_zast (i := (nI i26)) (x := 0) hx hb hK hT hG hS hg349 shm_52 rfl (vp_in_nI (by omega) (by decide)) (gi_z (rg_t (a := 0) (by decide) (by first | decide | omega) (by first | decide | omega)) (by decide) (by decide)) dX12_choose_71 (fun H locs hT oq m356 oi hS => ?_)
            have hF := hF.ast hg349 skm_52 oq (by decide)
            have m357 := m27.kept (oq _ (gne hg1 hg349 (by decide)))
            have m358 := (el_kept (oq _ (gne hr_o0 hg349 (by decide)))).trans m28
            have m359 := (el_kept (oq _ (gne hg1 hg349 (by decide)))).trans m352
            refine lv_aload_n hx hb dX12_choose_72 rfl (lv_at hl 1 rfl) ?_
            refine tw_get hx hb hts bF_X12 hown hK hT hr_o0 shm_0 rfl 50 (by decide) (ht_at hts 12 rfl) (fun _ h9 => h9) dX12_choose_73 (fun v9 m360 h9 => ?_)
            obtain ⟨rfl, hg361⟩ := h9 _ rfl
            refine lv_iload_n hx hb dX12_choose_76 rfl (lv_at hl 0 rfl) ?_
            refine lv_aload_n hx hb dX12_choose_77 rfl (lv_at hl 1 rfl) ?_
            refine lv_iload_n hx hb dX12_choose_78 rfl (lv_at hl 0 rfl) ?_
            refine lv_iconst (v := 4) hx hb dX12_choose_79 (by decide) ?_
            have hFc := gA_free hG hA hS
            refine va_calll (va_runV (As := [.int (nI i26), .int 4]) (rest := [.int (nI i26), .ref (q 50)]) ⟨hx, hb, hml, hown, hts⟩ (s_sumOf l dC dI kA adK adV G H q wZ wN wH wB wC wL wK wU wV PI im PM PT lS lB lE lN o0 (nI i26) 4 hT hr_o0 (rg_t (a := ((i26 : Nat) : Int)) (nI_toInt (by omega)) (by omega) (by omega)) (by assumption) hgz hgn hgh hgb hgc hgi hgu) (cwV 2 hts (goodIn_app (goodIn_r _ [96, 97, 98, 5] rfl (by decide +kernel)) (goodIn_ca (goodIn_r _ [42, 43, 44, 45, 41, 22, 23, 24, 25, 26, 27, 28, 29, 30, 31, 2, 3, 4, 5, 32, 33, 46, 47, 48, 49, 50, 51, 52, 53, 54, 55, 56, 34, 57, 58, 59, 60, 61, 62, 63, 64, 65, 66, 67, 68, 69, 70, 71, 72, 73, 74, 75, 76, 77, 78, 79, 80, 81, 82, 83, 84, 85, 86, 87, 88, 89, 90, 91, 92, 93, 94, 95] rfl (by decide +kernel)) (bs_in _ _))) rfl rfl rfl (by decide +kernel) ⟨(Nat.le_of_ble_eq_true rfl), (Nat.le_of_ble_eq_true rfl)⟩) ⟨fun a U g mk q => by obtain ⟨q0, q1, qK, qE⟩ := q; exact ⟨q0, q1, va_K.moved (u := U) (U := U.calling g mk a) (Vm.Alike.refl U.vm) qK, EVS.blind g mk a qE⟩, gH_rc hK hT hr_o0 shm_0 rfl, fun U hU hW => ⟨rfl, hU, va_K.moved hW.alike hK, hE.call hS hFc hU hW⟩⟩ rfl rfl hl.1 rfl (lv_room (Nat.le_of_ble_eq_true rfl)) dX12_choose_80 ⟨(Nat.le_of_ble_eq_true rfl), (Nat.le_of_ble_eq_true rfl)⟩) hS (fun q _ h => hFc q h) hFc (fun r362 u t H locs ht hvm hw363 hB _ _ hS => ?_)
            obtain ⟨hT, hF1⟩ := hB
            rw [ht] at hT hF1
            have m364 := m357.kept (hF1.arr hg1 skm_39 (by decide))
            have m365 := (hF1.fld hr_o0 skm_0 (k := 42) (by decide) (by decide)).trans m358
            have m366 := (el_kept (hF1.arr hg1 skm_39 (by decide))).trans m359
            have hF := hF.more hF1 (by decide)
            try dsimp only at hw363
            refine tw_last (i := (nI i26))  hx hb hK hT hG hS hg361 shm_51 rfl (vp_in_nI (by omega) (by decide)) ⟨_, rfl⟩ dX12_choose_83 (fun H locs hT oq m367 oi hS => ?_)
            have hF := hF.ast hg361 skm_51 oq (by decide)
            have m368 := m364.kept (oq _ (gne hg1 hg361 (by decide)))
            have m369 := (el_kept (oq _ (gne hr_o0 hg361 (by decide)))).trans m365
            have m370 := (el_kept (oq _ (gne hg1 hg361 (by decide)))).trans m366
            refine lv_iinc (v := nI (i26 + 1)) (lv' := [(2, .int (nI (i26 + 1))), (0, .ref o0), (1, .int p0)]) hx hb dX12_choose_84 hl (k := 0) rfl (nI_add i26 1) (by decide) rfl (fun ls hl => ?_)
            refine lv_goto (tgt := 32) hx hb dX12_choose_87 (by decide) ?_
            exact ih177 (i26 + 1) (by omega) (by omega) _ _ hT hF hS m368 m369 ls (lv_sub hl [0, 1, 2] rfl)
          · have t371 : x353.toInt < 0 := ti_nle c354 (by decide) rfl
            refine lv_aload_n hx hb dX12_choose_54 rfl (lv_at hl 1 rfl) ?_
            refine lv_iload_n hx hb dX12_choose_55 rfl (lv_at hl 0 rfl) ?_
            refine lv_bipush (v := 6) hx hb dX12_choose_56 (by decide) ?_
            have hFc := gA_free hG hA hS
            refine va_calll (va_runV (As := [.int (nI i26), .int 6]) (rest := [.int (nI i26), .ref (q 51)]) ⟨hx, hb, hml, hown, hts⟩ (s_sumOf l dC dI kA adK adV G H q wZ wN wH wB wC wL wK wU wV PI im PM PT lS lB lE lN o0 (nI i26) 6 hT hr_o0 (rg_t (a := ((i26 : Nat) : Int)) (nI_toInt (by omega)) (by omega) (by omega)) (by assumption) hgz hgn hgh hgb hgc hgi hgu) (cwV 2 hts (goodIn_app (goodIn_r _ [96, 97, 98, 5] rfl (by decide +kernel)) (goodIn_ca (goodIn_r _ [42, 43, 44, 45, 41, 22, 23, 24, 25, 26, 27, 28, 29, 30, 31, 2, 3, 4, 5, 32, 33, 46, 47, 48, 49, 50, 51, 52, 53, 54, 55, 56, 34, 57, 58, 59, 60, 61, 62, 63, 64, 65, 66, 67, 68, 69, 70, 71, 72, 73, 74, 75, 76, 77, 78, 79, 80, 81, 82, 83, 84, 85, 86, 87, 88, 89, 90, 91, 92, 93, 94, 95] rfl (by decide +kernel)) (bs_in _ _))) rfl rfl rfl (by decide +kernel) ⟨(Nat.le_of_ble_eq_true rfl), (Nat.le_of_ble_eq_true rfl)⟩) ⟨fun a U g mk q => by obtain ⟨q0, q1, qK, qE⟩ := q; exact ⟨q0, q1, va_K.moved (u := U) (U := U.calling g mk a) (Vm.Alike.refl U.vm) qK, EVS.blind g mk a qE⟩, gH_rc hK hT hr_o0 shm_0 rfl, fun U hU hW => ⟨rfl, hU, va_K.moved hW.alike hK, hE.call hS hFc hU hW⟩⟩ rfl rfl hl.1 rfl (lv_room (Nat.le_of_ble_eq_true rfl)) dX12_choose_58 ⟨(Nat.le_of_ble_eq_true rfl), (Nat.le_of_ble_eq_true rfl)⟩) hS (fun q _ h => hFc q h) hFc (fun r372 u t H locs ht hvm hw373 hB _ _ hS => ?_)
            obtain ⟨hT, hF1⟩ := hB
            rw [ht] at hT hF1
            have m374 := m27.kept (hF1.arr hg1 skm_39 (by decide))
            have m375 := (hF1.fld hr_o0 skm_0 (k := 42) (by decide) (by decide)).trans m28
            have m376 := (el_kept (hF1.arr hg1 skm_39 (by decide))).trans m352
            have hF := hF.more hF1 (by decide)
            try dsimp only at hw373
            refine lv_lconst (v := 0) hx hb dX12_choose_61 (by decide) ?_
            refine W.lcmp hx hb dX12_choose_62 ?_
            refine lv_topi (fun x377 _ => ?_)
            refine lv_if_ne (tgt := 70) hx hb dX12_choose_63 (by decide) (fun c378 => ?_) (fun c378 => ?_)
            · have t379 : x377.toInt ≠ 0 := ti_ne c378 rfl (by decide)
              refine lv_iconst (v := 0) hx hb dX12_choose_70 (by decide) ?_
              refine tw_zast (i := (nI i26)) (x := 0) hx hb hK hT hG hS hg349 shm_52 rfl (vp_in_nI (by omega) (by decide)) (gi_z (rg_t (a := 0) (by decide) (by first | decide | omega) (by first | decide | omega)) (by decide) (by decide)) dX12_choose_71 (fun H locs hT oq m380 oi hS => ?_)
              have hF := hF.ast hg349 skm_52 oq (by decide)
              have m381 := m374.kept (oq _ (gne hg1 hg349 (by decide)))
              have m382 := (el_kept (oq _ (gne hr_o0 hg349 (by decide)))).trans m375
              have m383 := (el_kept (oq _ (gne hg1 hg349 (by decide)))).trans m376
              refine lv_aload_n hx hb dX12_choose_72 rfl (lv_at hl 1 rfl) ?_
              refine tw_get hx hb hts bF_X12 hown hK hT hr_o0 shm_0 rfl 50 (by decide) (ht_at hts 12 rfl) (fun _ h9 => h9) dX12_choose_73 (fun v9 m384 h9 => ?_)
              obtain ⟨rfl, hg385⟩ := h9 _ rfl
              refine lv_iload_n hx hb dX12_choose_76 rfl (lv_at hl 0 rfl) ?_
              refine lv_aload_n hx hb dX12_choose_77 rfl (lv_at hl 1 rfl) ?_
              refine lv_iload_n hx hb dX12_choose_78 rfl (lv_at hl 0 rfl) ?_
              refine lv_iconst (v := 4) hx hb dX12_choose_79 (by decide) ?_
              have hFc := gA_free hG hA hS
              refine va_calll (va_runV (As := [.int (nI i26), .int 4]) (rest := [.int (nI i26), .ref (q 50)]) ⟨hx, hb, hml, hown, hts⟩ (s_sumOf l dC dI kA adK adV G H q wZ wN wH wB wC wL wK wU wV PI im PM PT lS lB lE lN o0 (nI i26) 4 hT hr_o0 (rg_t (a := ((i26 : Nat) : Int)) (nI_toInt (by omega)) (by omega) (by omega)) (by assumption) hgz hgn hgh hgb hgc hgi hgu) (cwV 2 hts (goodIn_app (goodIn_r _ [96, 97, 98, 5] rfl (by decide +kernel)) (goodIn_ca (goodIn_r _ [42, 43, 44, 45, 41, 22, 23, 24, 25, 26, 27, 28, 29, 30, 31, 2, 3, 4, 5, 32, 33, 46, 47, 48, 49, 50, 51, 52, 53, 54, 55, 56, 34, 57, 58, 59, 60, 61, 62, 63, 64, 65, 66, 67, 68, 69, 70, 71, 72, 73, 74, 75, 76, 77, 78, 79, 80, 81, 82, 83, 84, 85, 86, 87, 88, 89, 90, 91, 92, 93, 94, 95] rfl (by decide +kernel)) (bs_in _ _))) rfl rfl rfl (by decide +kernel) ⟨(Nat.le_of_ble_eq_true rfl), (Nat.le_of_ble_eq_true rfl)⟩) ⟨fun a U g mk q => by obtain ⟨q0, q1, qK, qE⟩ := q; exact ⟨q0, q1, va_K.moved (u := U) (U := U.calling g mk a) (Vm.Alike.refl U.vm) qK, EVS.blind g mk a qE⟩, gH_rc hK hT hr_o0 shm_0 rfl, fun U hU hW => ⟨rfl, hU, va_K.moved hW.alike hK, hE.call hS hFc hU hW⟩⟩ rfl rfl hl.1 rfl (lv_room (Nat.le_of_ble_eq_true rfl)) dX12_choose_80 ⟨(Nat.le_of_ble_eq_true rfl), (Nat.le_of_ble_eq_true rfl)⟩) hS (fun q _ h => hFc q h) hFc (fun r386 u t H locs ht hvm hw387 hB _ _ hS => ?_)
              obtain ⟨hT, hF1⟩ := hB
              rw [ht] at hT hF1
              have m388 := m381.kept (hF1.arr hg1 skm_39 (by decide))
              have m389 := (hF1.fld hr_o0 skm_0 (k := 42) (by decide) (by decide)).trans m382
              have m390 := (el_kept (hF1.arr hg1 skm_39 (by decide))).trans m383
              have hF := hF.more hF1 (by decide)
              try dsimp only at hw387
              refine tw_last (i := (nI i26))  hx hb hK hT hG hS hg385 shm_51 rfl (vp_in_nI (by omega) (by decide)) ⟨_, rfl⟩ dX12_choose_83 (fun H locs hT oq m391 oi hS => ?_)
              have hF := hF.ast hg385 skm_51 oq (by decide)
              have m392 := m388.kept (oq _ (gne hg1 hg385 (by decide)))
              have m393 := (el_kept (oq _ (gne hr_o0 hg385 (by decide)))).trans m389
              have m394 := (el_kept (oq _ (gne hg1 hg385 (by decide)))).trans m390
              refine lv_iinc (v := nI (i26 + 1)) (lv' := [(2, .int (nI (i26 + 1))), (0, .ref o0), (1, .int p0)]) hx hb dX12_choose_84 hl (k := 0) rfl (nI_add i26 1) (by decide) rfl (fun ls hl => ?_)
              refine lv_goto (tgt := 32) hx hb dX12_choose_87 (by decide) ?_
              exact ih177 (i26 + 1) (by omega) (by omega) _ _ hT hF hS m392 m393 ls (lv_sub hl [0, 1, 2] rfl)
            · have t395 : x377.toInt = 0 := ti_eq c378 rfl (by decide)
              refine lv_iconst (v := 1) hx hb dX12_choose_66 (by decide) ?_
              refine lv_goto (tgt := 71) hx hb dX12_choose_67 (by decide) ?_
              refine tw_zast (i := (nI i26)) (x := 1) hx hb hK hT hG hS hg349 shm_52 rfl (vp_in_nI (by omega) (by decide)) (gi_z (rg_t (a := 1) (by decide) (by first | decide | omega) (by first | decide | omega)) (by decide) (by decide)) dX12_choose_71 (fun H locs hT oq m396 oi hS => ?_)
              have hF := hF.ast hg349 skm_52 oq (by decide)
              have m397 := m374.kept (oq _ (gne hg1 hg349 (by decide)))
              have m398 := (el_kept (oq _ (gne hr_o0 hg349 (by decide)))).trans m375
              have m399 := (el_kept (oq _ (gne hg1 hg349 (by decide)))).trans m376
              refine lv_aload_n hx hb dX12_choose_72 rfl (lv_at hl 1 rfl) ?_
              refine tw_get hx hb hts bF_X12 hown hK hT hr_o0 shm_0 rfl 50 (by decide) (ht_at hts 12 rfl) (fun _ h9 => h9) dX12_choose_73 (fun v9 m400 h9 => ?_)
              obtain ⟨rfl, hg401⟩ := h9 _ rfl
              refine lv_iload_n hx hb dX12_choose_76 rfl (lv_at hl 0 rfl) ?_
              refine lv_aload_n hx hb dX12_choose_77 rfl (lv_at hl 1 rfl) ?_
              refine lv_iload_n hx hb dX12_choose_78 rfl (lv_at hl 0 rfl) ?_
              refine lv_iconst (v := 4) hx hb dX12_choose_79 (by decide) ?_
              have hFc := gA_free hG hA hS
              refine va_calll (va_runV (As := [.int (nI i26), .int 4]) (rest := [.int (nI i26), .ref (q 50)]) ⟨hx, hb, hml, hown, hts⟩ (s_sumOf l dC dI kA adK adV G H q wZ wN wH wB wC wL wK wU wV PI im PM PT lS lB lE lN o0 (nI i26) 4 hT hr_o0 (rg_t (a := ((i26 : Nat) : Int)) (nI_toInt (by omega)) (by omega) (by omega)) (by assumption) hgz hgn hgh hgb hgc hgi hgu) (cwV 2 hts (goodIn_app (goodIn_r _ [96, 97, 98, 5] rfl (by decide +kernel)) (goodIn_ca (goodIn_r _ [42, 43, 44, 45, 41, 22, 23, 24, 25, 26, 27, 28, 29, 30, 31, 2, 3, 4, 5, 32, 33, 46, 47, 48, 49, 50, 51, 52, 53, 54, 55, 56, 34, 57, 58, 59, 60, 61, 62, 63, 64, 65, 66, 67, 68, 69, 70, 71, 72, 73, 74, 75, 76, 77, 78, 79, 80, 81, 82, 83, 84, 85, 86, 87, 88, 89, 90, 91, 92, 93, 94, 95] rfl (by decide +kernel)) (bs_in _ _))) rfl rfl rfl (by decide +kernel) ⟨(Nat.le_of_ble_eq_true rfl), (Nat.le_of_ble_eq_true rfl)⟩) ⟨fun a U g mk q => by obtain ⟨q0, q1, qK, qE⟩ := q; exact ⟨q0, q1, va_K.moved (u := U) (U := U.calling g mk a) (Vm.Alike.refl U.vm) qK, EVS.blind g mk a qE⟩, gH_rc hK hT hr_o0 shm_0 rfl, fun U hU hW => ⟨rfl, hU, va_K.moved hW.alike hK, hE.call hS hFc hU hW⟩⟩ rfl rfl hl.1 rfl (lv_room (Nat.le_of_ble_eq_true rfl)) dX12_choose_80 ⟨(Nat.le_of_ble_eq_true rfl), (Nat.le_of_ble_eq_true rfl)⟩) hS (fun q _ h => hFc q h) hFc (fun r402 u t H locs ht hvm hw403 hB _ _ hS => ?_)
              obtain ⟨hT, hF1⟩ := hB
              rw [ht] at hT hF1
              have m404 := m397.kept (hF1.arr hg1 skm_39 (by decide))
              have m405 := (hF1.fld hr_o0 skm_0 (k := 42) (by decide) (by decide)).trans m398
              have m406 := (el_kept (hF1.arr hg1 skm_39 (by decide))).trans m399
              have hF := hF.more hF1 (by decide)
              try dsimp only at hw403
              refine tw_last (i := (nI i26))  hx hb hK hT hG hS hg401 shm_51 rfl (vp_in_nI (by omega) (by decide)) ⟨_, rfl⟩ dX12_choose_83 (fun H locs hT oq m407 oi hS => ?_)
              have hF := hF.ast hg401 skm_51 oq (by decide)
              have m408 := m404.kept (oq _ (gne hg1 hg401 (by decide)))
              have m409 := (el_kept (oq _ (gne hr_o0 hg401 (by decide)))).trans m405
              have m410 := (el_kept (oq _ (gne hg1 hg401 (by decide)))).trans m406
              refine lv_iinc (v := nI (i26 + 1)) (lv' := [(2, .int (nI (i26 + 1))), (0, .ref o0), (1, .int p0)]) hx hb dX12_choose_84 hl (k := 0) rfl (nI_add i26 1) (by decide) rfl (fun ls hl => ?_)
              refine lv_goto (tgt := 32) hx hb dX12_choose_87 (by decide) ?_
              exact ih177 (i26 + 1) (by omega) (by omega) _ _ hT hF hS m408 m409 ls (lv_sub hl [0, 1, 2] rfl)
    exact key177 (60 - 0) 0 (by omega) (Nat.le_refl _) _ _ hT hF hS m21 m20 ls (lv_sub hl [0, 1, 2] rfl)
  · have t411 : r5.toInt = 0 := ti_eq c13 rfl (by decide)
    have t412 : (0 : Int32).toInt = 0 := by decide
    have t413 : (60 : Int32).toInt = 60 := by decide
    have t414 : p0.toInt < (0 : Int32).toInt ∨ (60 : Int32).toInt < p0.toInt := hi12 c13
    refine lv_iconst (v := 1) hx hb dX12_choose_16 (by decide) ?_
    refine lv_goto (tgt := 21) hx hb dX12_choose_17 (by decide) ?_
    refine lv_iconst (v := 1) hx hb dX12_choose_21 (by decide) ?_
    have hFc := gA_free hG hA hS
    refine va_calli (va_runV (As := [.int 1, .int 1]) (rest := []) ⟨hx, hb, hml, hown, hts⟩ (s_throwsIf l dC dI kA adK adV G H q wZ wN wH wB wC wL wK wU wV PI im PM PT lS lB lE lN o0 1 1 hT hr_o0 (rg_t (a := 1) (by decide) (by first | decide | omega) (by first | decide | omega)) hgz hgn hgh hgb hgc hgi hgu) (cwV 2 hts (goodIn_app (goodIn_r _ [7, 8, 9, 5] rfl (by decide +kernel)) (goodIn_ca (goodIn_r _ [6, 1] rfl (by decide +kernel)) (bs_in _ _))) rfl rfl rfl (by decide +kernel) ⟨(Nat.le_of_ble_eq_true rfl), (Nat.le_of_ble_eq_true rfl)⟩) ⟨fun a U g mk q => by obtain ⟨q0, q1, qK, qE⟩ := q; exact ⟨q0, q1, va_K.moved (u := U) (U := U.calling g mk a) (Vm.Alike.refl U.vm) qK, EVS.blind g mk a qE⟩, gH_rc hK hT hr_o0 shm_0 rfl, fun U hU hW => ⟨rfl, hU, va_K.moved hW.alike hK, hE.call hS hFc hU hW⟩⟩ rfl rfl hl.1 rfl (lv_room (Nat.le_of_ble_eq_true rfl)) dX12_choose_22 ⟨(Nat.le_of_ble_eq_true rfl), (Nat.le_of_ble_eq_true rfl)⟩) hS (fun q _ h => hFc q h) hFc (fun r415 u t H locs ht hvm hw416 hB _ _ hS => ?_)
    obtain ⟨hT, hF1⟩ := hB
    rw [ht] at hT hF1
    have m417 := (hF1.fld hr_o0 skm_0 (k := 42) (by decide) (by decide)).trans m7
    have m418 := m8.kept (hF1.arr hg1 skm_39 (by decide))
    have hF := hF.more hF1 (by decide)
    try dsimp only at hw416
    obtain ⟨h420, hd421⟩ := hw416
    obtain rfl : (1 : Int32) = r415 := hd421.symm
    refine lv_if_eq (tgt := 30) hx hb dX12_choose_25 (by decide) (fun c422 => absurd c422 (by decide)) (fun c422 => ?_)
    refine lv_iconst (v := 0) hx hb dX12_choose_28 (by decide) ?_
    exact W.iret (v := 0) hx hb hr (fun t ht hW => ⟨⟨0, vH, rfl, (by exact hzb), by (try dsimp only); rw [ht]; exact ⟨hT, hF, m418⟩⟩, hS.F ht⟩) hS.2.2 dX12_choose_29
def w_s_harvestZ : List Cond := .code yX12_harvest cX12_harvest 6 (some .int) :: (HAppend.hAppend (α := List Cond) (β := List Cond) (γ := List Cond) [.fieldLink RX12 194 "SeaLandModel" "thrown" "I", .code yX12_hour cX12_hour 1 (some .int), .fieldLink RX12 9 "SeaLandModel" "world" "[I", .methodLink RX12 228 yX12_hour, .instanceMethod yX12_hour, .selects RX12 yX12_hour yX12_hour, .initialized RX12, .fieldLink RX12 125 "SeaLandModel" "harvested" "I", .fieldLink RX12 495 "SeaLandModel" "settlers" "I", .fieldLink RX12 101 "SeaLandModel" "holds" "[I"] bs)
