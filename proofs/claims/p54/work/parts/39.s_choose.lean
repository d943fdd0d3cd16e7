def w_s_choose : List Cond := .code yX12_choose cX12_choose 6 (some .int) :: (HAppend.hAppend (α := List Cond) (β := List Cond) (γ := List Cond) [.fieldLink RX12 194 "SeaLandModel" "thrown" "I", .code yX12_in cX12_in 3 (some .boolean), .methodLink RX12 197 yX12_in, .static yX12_in, .initialized RX12, .code yX12_throwsIf cX12_throwsIf 3 (some .boolean), .methodLink RX12 224 yX12_throwsIf, .instanceMethod yX12_throwsIf, .selects RX12 yX12_throwsIf yX12_throwsIf, .fieldLink RX12 495 "SeaLandModel" "settlers" "I", .code yX12_nextOne cX12_nextOne 3 (some .int), .fieldLink RX12 131 "SeaLandModel" "open" "[Z", .fieldLink RX12 128 "SeaLandModel" "marks" "[J", .fieldLink RX12 98 "SeaLandModel" "drawn" "[I", .methodLink RX12 508 yX12_nextOne, .instanceMethod yX12_nextOne, .selects RX12 yX12_nextOne yX12_nextOne, .code yX12_bestFarm cX12_bestFarm 3 (some .int), .fieldLink RX12 498 "SeaLandModel" "farms" "I", .fieldLink RX12 122 "SeaLandModel" "holder" "[I", .code yX12_worthOf cX12_worthOf 5 (some .int), .fieldLink RX12 113 "SeaLandModel" "farmFrom" "[I", .fieldLink RX12 116 "SeaLandModel" "farmTo" "[I", .code yX12_isIn cX12_isIn 5 (some .boolean), .methodLink RX12 207 Lib.Math.min.name, .static Lib.Math.min.name, .initialized "java/lang/Math", .code Lib.Math.min.name Lib.Math.min.code 2 (some .int), .methodLink RX12 211 Lib.Math.max.name, .static Lib.Math.max.name, .code Lib.Math.max.name Lib.Math.max.code 2 (some .int), .methodLink RX12 232 yX12_isIn, .static yX12_isIn, .fieldLink RX12 9 "SeaLandModel" "world" "[I", .methodLink RX12 505 yX12_worthOf, .instanceMethod yX12_worthOf, .selects RX12 yX12_worthOf yX12_worthOf, .methodLink RX12 511 yX12_bestFarm, .instanceMethod yX12_bestFarm, .selects RX12 yX12_bestFarm yX12_bestFarm, .fieldLink RX12 101 "SeaLandModel" "holds" "[I", .code yX12_sumOf cX12_sumOf 6 (some .long), .code yX12_looksAt cX12_looksAt 2 none, .fieldLink RX12 76 "SeaLandModel" "facts" "[J", .code yX12_acres cX12_acres 4 (some .int), .methodLink RX12 467 yX12_acres, .instanceMethod yX12_acres, .selects RX12 yX12_acres yX12_acres, .fieldLink RX12 104 "SeaLandModel" "gain" "[I", .fieldLink RX12 79 "SeaLandModel" "age" "[I", .fieldLink RX12 82 "SeaLandModel" "sons" "[I", .fieldLink RX12 85 "SeaLandModel" "coin" "[I", .fieldLink RX12 88 "SeaLandModel" "cattle" "[I", .fieldLink RX12 91 "SeaLandModel" "isKin" "[Z", .fieldLink RX12 95 "SeaLandModel" "isBoard" "[Z", .code yX12_near cX12_near 5 (some .int), .code yX12_isDike cX12_isDike 2 (some .boolean), .code yX12_of cX12_of 3 (some .int), .code yX12_at cX12_at 2 (some .int), .methodLink RX12 214 yX12_at, .static yX12_at, .methodLink RX12 217 yX12_of, .instanceMethod yX12_of, .selects RX12 yX12_of yX12_of, .methodLink RX12 272 yX12_isDike, .instanceMethod yX12_isDike, .selects RX12 yX12_isDike yX12_isDike, .code yX12_steps cX12_steps 2 (some .int), .methodLink RX12 201 Lib.Math.abs.name, .static Lib.Math.abs.name, .code Lib.Math.abs.name Lib.Math.abs.code 1 (some .int), .methodLink RX12 262 yX12_steps, .static yX12_steps, .methodLink RX12 469 yX12_near, .instanceMethod yX12_near, .selects RX12 yX12_near yX12_near, .fieldLink RX12 107 "SeaLandModel" "owes" "[I", .methodLink RX12 474 yX12_looksAt, .instanceMethod yX12_looksAt, .selects RX12 yX12_looksAt yX12_looksAt, .fieldLink RX12 42 "SeaLandModel" "lines" "[I", .fieldLink RX12 45 "SeaLandModel" "sort" "[I", .code yX12_holds cX12_holds 9 (some .boolean), .fieldLink RX12 60 "SeaLandModel" "begins" "[I", .fieldLink RX12 63 "SeaLandModel" "ends" "[I", .fieldLink RX12 66 "SeaLandModel" "step" "[I", .fieldLink RX12 72 "SeaLandModel" "value" "[J", .methodLink RX12 471 Lib.MathLoose.max_long.x, .static Lib.MathLoose.max_long.x, .code Lib.MathLoose.max_long.x Lib.MathLoose.max_long.code 4 (some .long), .fieldLink RX12 69 "SeaLandModel" "than" "[I", .methodLink RX12 478 yX12_holds, .instanceMethod yX12_holds, .selects RX12 yX12_holds yX12_holds, .fieldLink RX12 48 "SeaLandModel" "told" "[I", .methodLink RX12 480 yX12_sumOf, .instanceMethod yX12_sumOf, .selects RX12 yX12_sumOf yX12_sumOf] bs)
set_option maxHeartbeats 4000000 in
set_option maxRecDepth 100000 in
theorem s_choose (l : Launch) (dC : Nat → ClassId) (dI : Nat → Nat → Nat) (kA : Nat → ClassId) (adK adV : Nat → Nat) (G : gT) (H0 : Heap) (q : Nat → Nat) (wZ wN : Nat → Int) (wH wB wC : Int) (wL wK : Nat → Prop) (wU wV : Nat → Nat) (PI : Nat → Int → Prop) (im : Int) (PM PT : Nat → Int → Prop) (lS lB lE : Nat → Nat → Int → Prop) (lN : Nat → Int) (o0 : Nat) (p0 : Int32)  (hT : gH (dC, dI) kA (SHm q (wP wZ wN wH wB wC wL wK wU wV) PI im PM PT lS lB lE lN) G H0) (hr_o0 : G o0 = some 0) (hlaw : lawsOK lS lB lE lN) (hgz : ∀ i, 0 ≤ wZ i) (hgn : ∀ i, 6500000 ≤ wN i ∧ wN i ≤ 20200000) (hgh : 0 ≤ wH ∧ wH ≤ 40000) (hgb : 0 ≤ wB ∧ wB ≤ 3850000) (hgc : 0 ≤ wC ∧ wC ≤ 30) (hgi : 0 ≤ im ∧ im ≤ 1) (hgu : ∀ a t, G a = some (t + 1) → a = q t) : Met l yX12_choose w_s_choose ({ frames := 6, cells := 0, slots := 0, locals := 134 }) (va_Pc [.ref o0, .int p0] (fun U => U.heap = H0 ∧ va_K (dC, dI) vwCl (tyl kA) U ∧ EVS adK adV (gA G H0.size) U U.heap)) (va_Qi (fun (r : Int32) (u : Unit) => True) (fun (_ : Unit) (t : State) => gH (dC, dI) kA (SHm q (wP wZ wN wH wB wC wL wK wU wV) PI im PM PT lS lB lE lN) G t.heap ∧ gF (dC, dI) SKm G ([(0, 0), (30, 0), (31, 0), (39, 0), (47, 0), (51, 0), (52, 0)] : List (Nat × Nat)) H0 t.heap) (gA G H0.size)) 0 0 (gA G H0.size) := by
  refine Met.ofW (cc := cX12_choose) (maxL := 6) (ret := (some .int)) (by decide) rfl ?_
  intro p e s m args below meth c s₁ B hml hv
  obtain ⟨rfl, hH0, hK, hE⟩ := hv
  have hx := B.exec
  have hb := B.bytes
  have hr := B.returns
  have hts := atoms_spec (ws := w_s_choose) B.pre
  have hown : s.vm.findClass RX12 = some m.cls := findClass_of_methodNamed B.named
  have hlocks := B.notSynchronized
  subst hH0
  generalize hAe : gA G s.heap.size = A at hE ⊢
  have hA : ∀ q : Nat, s.heap.size ≤ q → A q := fun q h => by rw [← hAe]; exact Or.inr h
  have hG := gA_of hAe
  have hS : va_S A s.heap s.heap [] := va_S.rf
  have hF : gF (dC, dI) SKm G ([(0, 0), (30, 0), (31, 0), (39, 0), (47, 0), (51, 0), (52, 0)] : List (Nat × Nat)) s.heap s.heap := gF.rf
  have hl := lv_entry ([.ref o0, .int p0]) (n := 6) (Nat.le_of_ble_eq_true rfl)
  rw [lg_entry_eq]
  generalize (lg_sl ([.ref o0, .int p0]) ++ List.replicate (6 - (lg_sl ([.ref o0, .int p0])).length) Slot.unset).toArray = ls at hl ⊢
  have hl : lv_has ls 6 [(0, .ref o0), (1, .int p0)] := hl
  refine lv_aload_n hx hb dX12_choose_0 rfl (lv_at hl 0 rfl) ?_
  refine lv_iconst (v := 0) hx hb dX12_choose_1 (by decide) ?_
  refine tw_put (v := .int 0) (ty := .int) hx hb hts bF_X12 tyX12 tyX12_ok nmX12 hown hK hT hG hS hr_o0 shm_0 rfl 0 (by decide) (ht_at hts 0 rfl) (fun _ h9 => h9) rfl (by decide +kernel) rfl rfl (gl_at rfl (gi_all _)) dX12_choose_2 (fun H locs hT oq m1 oj hS => ?_)
  have hF := hF.put hr_o0 skm_0 oq oj (by decide)
  refine lv_aload_n hx hb dX12_choose_5 rfl (lv_at hl 0 rfl) ?_
  refine lv_iload_n hx hb dX12_choose_6 rfl (lv_at hl 1 rfl) ?_
  refine lv_iconst (v := 0) hx hb dX12_choose_7 (by decide) ?_
  refine lv_bipush (v := 60) hx hb dX12_choose_8 (by decide) ?_
  have hFc := gA_free hG hA hS
  refine va_calli (va_runS (As := [.int p0, .int 0, .int 60]) (rest := [.ref o0]) ⟨hx, hb, hml, hown, hts⟩ (s_in l dC dI kA adK adV G H q wZ wN wH wB wC wL wK wU wV PI im PM PT lS lB lE lN p0 0 60 hT hgz hgn hgh hgb hgc hgi hgu) (va_cwS 3 hts (goodIn_app (goodIn_r _ [3, 4, 5] rfl (by decide +kernel)) (goodIn_ca (goodIn_r _ [2] rfl (by decide +kernel)) (bs_in _ _))) rfl rfl rfl (by decide +kernel) ⟨(Nat.le_of_ble_eq_true rfl), (Nat.le_of_ble_eq_true rfl)⟩) ⟨fun a U g mk q => by obtain ⟨q0, q1, qK, qE⟩ := q; exact ⟨q0, q1, va_K.moved (u := U) (U := U.calling g mk a) (Vm.Alike.refl U.vm) qK, EVS.blind g mk a qE⟩, fun U hU hW => ⟨rfl, hU, va_K.moved hW.alike hK, hE.call hS hFc hU hW⟩⟩ rfl rfl hl.1 rfl (lv_room (Nat.le_of_ble_eq_true rfl)) dX12_choose_10 ⟨(Nat.le_of_ble_eq_true rfl), (Nat.le_of_ble_eq_true rfl)⟩) hS (fun q _ h => hFc q h) hFc (fun r2 u t H locs ht hvm hw3 hB _ _ hS => ?_)
  obtain ⟨hT, hF1⟩ := hB
  rw [ht] at hT hF1
  have m4 := (hF1.fld hr_o0 skm_0 (k := 0) (by decide) (by decide)).trans m1
  have hF := hF.more hF1 (by decide)
  try dsimp only at hw3
  obtain ⟨h5, hi6, hi7⟩ := hw3
  refine lv_if_ne (tgt := 20) hx hb dX12_choose_13 (by decide) (fun c8 => ?_) (fun c8 => ?_)
  · have t9 : r2.toInt ≠ 0 := ti_ne c8 rfl (by decide)
    have t10 : (60 : Int32).toInt = 60 := by decide
    have t11 : (0 : Int32).toInt = 0 := by decide
    have t12 : (0 : Int32).toInt ≤ p0.toInt ∧ p0.toInt ≤ (60 : Int32).toInt := hi6 ((bit_of ⟨by omega, by omega⟩).resolve_left c8)
    refine lv_iconst (v := 0) hx hb dX12_choose_20 (by decide) ?_
    refine lv_iconst (v := 1) hx hb dX12_choose_21 (by decide) ?_
    have hFc := gA_free hG hA hS
    refine va_calli (va_runV (As := [.int 0, .int 1]) (rest := []) ⟨hx, hb, hml, hown, hts⟩ (s_throwsIf l dC dI kA adK adV G H q wZ wN wH wB wC wL wK wU wV PI im PM PT lS lB lE lN o0 0 1 hT hr_o0 (rg_t (a := 0) (by decide) (by first | decide | omega) (by first | decide | omega)) hgz hgn hgh hgb hgc hgi hgu) (cwV 2 hts (goodIn_app (goodIn_r _ [7, 8, 9, 5] rfl (by decide +kernel)) (goodIn_ca (goodIn_r _ [6, 1] rfl (by decide +kernel)) (bs_in _ _))) rfl rfl rfl (by decide +kernel) ⟨(Nat.le_of_ble_eq_true rfl), (Nat.le_of_ble_eq_true rfl)⟩) ⟨fun a U g mk q => by obtain ⟨q0, q1, qK, qE⟩ := q; exact ⟨q0, q1, va_K.moved (u := U) (U := U.calling g mk a) (Vm.Alike.refl U.vm) qK, EVS.blind g mk a qE⟩, gH_rc hK hT hr_o0 shm_0 rfl, fun U hU hW => ⟨rfl, hU, va_K.moved hW.alike hK, hE.call hS hFc hU hW⟩⟩ rfl rfl hl.1 rfl (lv_room (Nat.le_of_ble_eq_true rfl)) dX12_choose_22 ⟨(Nat.le_of_ble_eq_true rfl), (Nat.le_of_ble_eq_true rfl)⟩) hS (fun q _ h => hFc q h) hFc (fun r13 u t H locs ht hvm hw14 hB _ _ hS => ?_)
    obtain ⟨hT, hF1⟩ := hB
    rw [ht] at hT hF1
    have hF := hF.more hF1 (by decide)
    try dsimp only at hw14
    obtain ⟨h16, hd17⟩ := hw14
    obtain rfl : (0 : Int32) = r13 := hd17.symm
    refine lv_if_eq (tgt := 30) hx hb dX12_choose_25 (by decide) (fun c18 => ?_) (fun c18 => absurd c18 (by decide))
    refine lv_iconst (v := 0) hx hb dX12_choose_30 (by decide) ?_
    refine lv_istore_n (lv' := [(2, .int 0), (0, .ref o0), (1, .int p0)]) hx hb dX12_choose_31 rfl hl (by decide) rfl (fun ls hl => ?_)
    have key136 : ∀ (n136 i19 : Nat), i19 + n136 = 60 → 0 ≤ i19 → ∀ (H : Heap) (locs : List Loc), gH (dC, dI) kA (SHm q (wP wZ wN wH wB wC wL wK wU wV) PI im PM PT lS lB lE lN) G H → gF (dC, dI) SKm G ([(0, 0), (30, 0), (31, 0), (39, 0), (47, 0), (51, 0), (52, 0)] : List (Nat × Nat)) s.heap H → va_S A s.heap H locs → ∀ ls : Array Slot, lv_has ls 6 [(2, .int (nI i19)), (0, .ref o0), (1, .int p0)] → W p l e (headSpec w_s_choose ({ frames := 6, cells := 0, slots := 0, locals := 134 })).room s m #[.ref o0, .int p0] below meth c H locs 0 0 (MQ below (va_Qi (fun (r : Int32) (u : Unit) => True) (fun (_ : Unit) (t : State) => gH (dC, dI) kA (SHm q (wP wZ wN wH wB wC wL wK wU wV) PI im PM PT lS lB lE lN) G t.heap ∧ gF (dC, dI) SKm G ([(0, 0), (30, 0), (31, 0), (39, 0), (47, 0), (51, 0), (52, 0)] : List (Nat × Nat)) s.heap t.heap) A) #[.ref o0, .int p0] s 0 0 A) (F0 m 32 ls []) := by
      intro n136
      induction n136 with
      | zero =>
        intro i19 hn136 hlo137  H locs hT hF hS  ls hl
        obtain rfl : 60 = i19 := by omega
        refine lv_iload_n hx hb dX12_choose_32 rfl (lv_at hl 0 rfl) ?_
        refine lv_aload_n hx hb dX12_choose_33 rfl (lv_at hl 1 rfl) ?_
        refine tw_get hx hb hts bF_X12 hown hK hT hr_o0 shm_0 rfl 42 (by decide) (ht_at hts 9 rfl) (fun _ h9 => h9) dX12_choose_34 (fun v9 m138 h9 => ?_)
        obtain ⟨x139, rfl, gx139, kx139⟩ := h9 _ rfl
        refine lv_icmp_ge (tgt := 90) hx hb dX12_choose_37 (by decide) (fun c140 => ?_) (fun c140 => (by exfalso; have q9 : ((60 : Nat) : Int) < x139.toInt := ti_nle c140 rfl (nI_toInt (by omega)); omega))
        have t141 : x139.toInt ≤ ((60 : Nat) : Int) := ti_le c140 rfl (nI_toInt (by omega))
        refine lv_iconst (v := 0) hx hb dX12_choose_90 (by decide) ?_
        refine lv_istore_n (lv' := [(2, .int 0), (0, .ref o0), (1, .int p0)]) hx hb dX12_choose_91 rfl hl (by decide) rfl (fun ls hl => ?_)
        refine lv_iconst (v := 0) hx hb dX12_choose_92 (by decide) ?_
        refine lv_istore_n (lv' := [(3, .int 0), (2, .int 0), (0, .ref o0), (1, .int p0)]) hx hb dX12_choose_93 rfl hl (by decide) rfl (fun ls hl => ?_)
        have key176 : ∀ (n176 i142 : Nat), i142 + n176 = 60 → 0 ≤ i142 → ∀ (z143 : Int32), ∀ (H : Heap) (locs : List Loc), gH (dC, dI) kA (SHm q (wP wZ wN wH wB wC wL wK wU wV) PI im PM PT lS lB lE lN) G H → gF (dC, dI) SKm G ([(0, 0), (30, 0), (31, 0), (39, 0), (47, 0), (51, 0), (52, 0)] : List (Nat × Nat)) s.heap H → va_S A s.heap H locs → el H o0 (dI 15 42) = some (.int x139) → ∀ ls : Array Slot, lv_has ls 6 [(3, .int (nI i142)), (2, .int z143), (0, .ref o0), (1, .int p0)] → W p l e (headSpec w_s_choose ({ frames := 6, cells := 0, slots := 0, locals := 134 })).room s m #[.ref o0, .int p0] below meth c H locs 0 0 (MQ below (va_Qi (fun (r : Int32) (u : Unit) => True) (fun (_ : Unit) (t : State) => gH (dC, dI) kA (SHm q (wP wZ wN wH wB wC wL wK wU wV) PI im PM PT lS lB lE lN) G t.heap ∧ gF (dC, dI) SKm G ([(0, 0), (30, 0), (31, 0), (39, 0), (47, 0), (51, 0), (52, 0)] : List (Nat × Nat)) s.heap t.heap) A) #[.ref o0, .int p0] s 0 0 A) (F0 m 94 ls []) := by
          intro n176
          induction n176 with
          | zero =>
            intro i142 hn176 hlo177 z143 H locs hT hF hS m144 ls hl
            obtain rfl : 60 = i142 := by omega
            refine lv_iload_n hx hb dX12_choose_94 rfl (lv_at hl 0 rfl) ?_
            refine lv_iload_n hx hb dX12_choose_95 rfl (lv_at hl 3 rfl) ?_
            refine lv_icmp_ge (tgt := 158) hx hb dX12_choose_96 (by decide) (fun c178 => ?_) (fun c178 => (by exfalso; have q9 : ((60 : Nat) : Int) < p0.toInt := ti_nle c178 rfl (nI_toInt (by omega)); omega))
            have t179 : p0.toInt ≤ ((60 : Nat) : Int) := ti_le c178 rfl (nI_toInt (by omega))
            refine lv_iload_n hx hb dX12_choose_158 rfl (lv_at hl 1 rfl) ?_
            exact W.iret (v := z143) hx hb hr (fun t ht hW => ⟨⟨z143, (), rfl, (by exact trivial), by (try dsimp only); rw [ht]; exact ⟨hT, hF⟩⟩, hS.F ht⟩) hS.2.2 dX12_choose_159
          | succ n176 ih176 =>
            intro i142 hn176 hlo177 z143 H locs hT hF hS m144 ls hl
            have hlt179 : i142 < 60 := by omega
            refine lv_iload_n hx hb dX12_choose_94 rfl (lv_at hl 0 rfl) ?_
            refine lv_iload_n hx hb dX12_choose_95 rfl (lv_at hl 3 rfl) ?_
            refine lv_icmp_ge (tgt := 158) hx hb dX12_choose_96 (by decide) (fun c180 => ?_) (fun c180 => ?_)
            · have t181 : p0.toInt ≤ ((i142 : Nat) : Int) := ti_le c180 rfl (nI_toInt (by omega))
              refine lv_iload_n hx hb dX12_choose_158 rfl (lv_at hl 1 rfl) ?_
              exact W.iret (v := z143) hx hb hr (fun t ht hW => ⟨⟨z143, (), rfl, (by exact trivial), by (try dsimp only); rw [ht]; exact ⟨hT, hF⟩⟩, hS.F ht⟩) hS.2.2 dX12_choose_159
            · have t182 : ((i142 : Nat) : Int) < p0.toInt := ti_nle c180 rfl (nI_toInt (by omega))
              refine lv_aload_n hx hb dX12_choose_99 rfl (lv_at hl 2 rfl) ?_
              have hFc := gA_free hG hA hS
              refine va_calli (va_runV (As := []) (rest := []) ⟨hx, hb, hml, hown, hts⟩ (s_nextOne l dC dI kA adK adV G H q wZ wN wH wB wC wL wK wU wV PI im PM PT lS lB lE lN o0 hT hr_o0 hgz hgn hgh hgb hgc hgi hgu) (cwV 0 hts (goodIn_app (goodIn_r _ [15, 16, 17, 5] rfl (by decide +kernel)) (goodIn_ca (goodIn_r _ [11, 10, 12, 13, 14] rfl (by decide +kernel)) (bs_in _ _))) rfl rfl rfl (by decide +kernel) ⟨(Nat.le_of_ble_eq_true rfl), (Nat.le_of_ble_eq_true rfl)⟩) ⟨fun a U g mk q => by obtain ⟨q0, q1, qK, qE⟩ := q; exact ⟨q0, q1, va_K.moved (u := U) (U := U.calling g mk a) (Vm.Alike.refl U.vm) qK, EVS.blind g mk a qE⟩, gH_rc hK hT hr_o0 shm_0 rfl, fun U hU hW => ⟨rfl, hU, va_K.moved hW.alike hK, hE.call hS hFc hU hW⟩⟩ rfl rfl hl.1 rfl (lv_room (Nat.le_of_ble_eq_true rfl)) dX12_choose_100 ⟨(Nat.le_of_ble_eq_true rfl), (Nat.le_of_ble_eq_true rfl)⟩) hS (fun q _ h => hFc q h) hFc (fun r183 u t H locs ht hvm hw184 hB _ _ hS => ?_)
              obtain ⟨hT, hF1⟩ := hB
              rw [ht] at hT hF1
              have m185 := (hF1.fld hr_o0 skm_0 (k := 42) (by decide) (by decide)).trans m144
              have hF := hF.more hF1 (by decide)
              try dsimp only at hw184
              have h186 := hw184
              refine lv_istore (lv' := [(4, .int r183), (3, .int (nI i142)), (2, .int z143), (0, .ref o0), (1, .int p0)]) hx hb dX12_choose_103 hl (by decide) rfl (fun ls hl => ?_)
              refine lv_aload_n hx hb dX12_choose_105 rfl (lv_at hl 3 rfl) ?_
              have hFc := gA_free hG hA hS
              refine va_calli (va_runV (As := []) (rest := []) ⟨hx, hb, hml, hown, hts⟩ (s_bestFarm l dC dI kA adK adV G H q wZ wN wH wB wC wL wK wU wV PI im PM PT lS lB lE lN o0 hT hr_o0 hgz hgn hgh hgb hgc hgi hgu) (cwV 0 hts (goodIn_app (goodIn_r _ [38, 39, 40, 5] rfl (by decide +kernel)) (goodIn_ca (goodIn_r _ [18, 19, 20, 21, 22, 23, 24, 25, 26, 27, 28, 29, 30, 31, 2, 3, 4, 5, 32, 33, 34, 35, 36, 37] rfl (by decide +kernel)) (bs_in _ _))) rfl rfl rfl (by decide +kernel) ⟨(Nat.le_of_ble_eq_true rfl), (Nat.le_of_ble_eq_true rfl)⟩) ⟨fun a U g mk q => by obtain ⟨q0, q1, qK, qE⟩ := q; exact ⟨q0, q1, va_K.moved (u := U) (U := U.calling g mk a) (Vm.Alike.refl U.vm) qK, EVS.blind g mk a qE⟩, gH_rc hK hT hr_o0 shm_0 rfl, fun U hU hW => ⟨rfl, hU, va_K.moved hW.alike hK, hE.call hS hFc hU hW⟩⟩ rfl rfl hl.1 rfl (lv_room (Nat.le_of_ble_eq_true rfl)) dX12_choose_106 ⟨(Nat.le_of_ble_eq_true rfl), (Nat.le_of_ble_eq_true rfl)⟩) hS (fun q _ h => hFc q h) hFc (fun r187 u t H locs ht hvm hw188 hB _ _ hS => ?_)
              obtain ⟨hT, hF1⟩ := hB
              rw [ht] at hT hF1
              have m189 := (hF1.fld hr_o0 skm_0 (k := 42) (by decide) (by decide)).trans m185
              have hF := hF.more hF1 (by decide)
              try dsimp only at hw188
              have h190 := hw188
              refine lv_istore (lv' := [(5, .int r187), (4, .int r183), (3, .int (nI i142)), (2, .int z143), (0, .ref o0), (1, .int p0)]) hx hb dX12_choose_109 hl (by decide) rfl (fun ls hl => ?_)
              refine lv_iload hx hb dX12_choose_111 (lv_at hl 1 rfl) ?_
              refine lv_if_lt (tgt := 121) hx hb dX12_choose_113 (by decide) (fun c191 => ?_) (fun c191 => ?_)
              · have t192 : r183.toInt < 0 := ti_lt c191 rfl (by decide)
                refine lv_iload_n hx hb dX12_choose_121 rfl (lv_at hl 3 rfl) ?_
                exact W.iret (v := z143) hx hb hr (fun t ht hW => ⟨⟨z143, (), rfl, (by exact trivial), by (try dsimp only); rw [ht]; exact ⟨hT, hF⟩⟩, hS.F ht⟩) hS.2.2 dX12_choose_122
              · have t193 : 0 ≤ r183.toInt := ti_nlt c191 rfl (by decide)
                refine lv_iload hx hb dX12_choose_116 (lv_at hl 0 rfl) ?_
                refine lv_if_ge (tgt := 123) hx hb dX12_choose_118 (by decide) (fun c194 => ?_) (fun c194 => ?_)
                · have t195 : 0 ≤ r187.toInt := ti_le c194 (by decide) rfl
                  refine lv_aload_n hx hb dX12_choose_123 rfl (lv_at hl 4 rfl) ?_
                  refine tw_get hx hb hts bF_X12 hown hK hT hr_o0 shm_0 rfl 51 (by decide) (ht_at hts 11 rfl) (fun _ h9 => h9) dX12_choose_124 (fun v9 m196 h9 => ?_)
                  obtain ⟨rfl, hg197⟩ := h9 _ rfl
                  refine lv_iload hx hb dX12_choose_127 (lv_at hl 1 rfl) ?_
                  refine lv_iconst (v := 0) hx hb dX12_choose_129 (by decide) ?_
                  refine tw_zast (i := r183) (x := 0) hx hb hK hT hG hS hg197 shm_52 rfl (vin_t (a := r183.toInt) rfl (by omega) (by omega)) (gi_z (rg_t (a := 0) (by decide) (by first | decide | omega) (by first | decide | omega)) (by decide) (by decide)) dX12_choose_130 (fun H locs hT oq m198 oi hS => ?_)
                  have hF := hF.ast hg197 skm_52 oq (by decide)
                  have m199 := (el_kept (oq _ (gne hr_o0 hg197 (by decide)))).trans m189
                  refine lv_aload_n hx hb dX12_choose_131 rfl (lv_at hl 4 rfl) ?_
                  refine tw_get hx hb hts bF_X12 hown hK hT hr_o0 shm_0 rfl 38 (by decide) (ht_at hts 40 rfl) (fun _ h9 => h9) dX12_choose_132 (fun v9 m200 h9 => ?_)
                  obtain ⟨rfl, hg201⟩ := h9 _ rfl
                  refine lv_iload hx hb dX12_choose_135 (lv_at hl 1 rfl) ?_
                  refine lv_iload hx hb dX12_choose_137 (lv_at hl 0 rfl) ?_
                  refine tw_iast (i := r183) (x := r187) hx hb hK hT hG hS hg201 shm_39 rfl (vin_t (a := r183.toInt) rfl (by omega) (by omega)) (gi_of (show r187.toInt = r187.toInt from rfl) (by omega) (by omega)) dX12_choose_139 (fun H locs hT oq m202 oi hS => ?_)
                  have hF := hF.ast hg201 skm_39 oq (by decide)
                  have m203 := (el_kept (oq _ (gne hr_o0 hg201 (by decide)))).trans m199
                  refine lv_aload_n hx hb dX12_choose_140 rfl (lv_at hl 4 rfl) ?_
                  refine tw_get hx hb hts bF_X12 hown hK hT hr_o0 shm_0 rfl 46 (by decide) (ht_at hts 19 rfl) (fun _ h9 => h9) dX12_choose_141 (fun v9 m204 h9 => ?_)
                  obtain ⟨rfl, hg205⟩ := h9 _ rfl
                  refine lv_iload hx hb dX12_choose_144 (lv_at hl 0 rfl) ?_
                  refine lv_iload hx hb dX12_choose_146 (lv_at hl 1 rfl) ?_
                  refine tw_iast (i := r187) (x := r183) hx hb hK hT hG hS hg205 shm_47 rfl (vin_t (a := r187.toInt) rfl (by omega) (by omega)) (gi_of (show r183.toInt = r183.toInt from rfl) (by omega) (by omega)) dX12_choose_148 (fun H locs hT oq m206 oi hS => ?_)
                  have hF := hF.ast hg205 skm_47 oq (by decide)
                  have m207 := (el_kept (oq _ (gne hr_o0 hg205 (by decide)))).trans m203
                  have m208 := (el_kept (oq _ (gne hg201 hg205 (by decide)))).trans m202
                  obtain ⟨x209, ex209⟩ : ∃ y : Int32, y = z143 + 1 := ⟨_, rfl⟩
                  refine lv_iinc (v := x209) (lv' := [(2, .int x209), (5, .int r187), (4, .int r183), (3, .int (nI i142)), (0, .ref o0), (1, .int p0)]) hx hb dX12_choose_149 hl (k := 3) rfl (by first | (rw [ex209]; done) | (rw [ex209]; rfl)) (by decide) rfl (fun ls hl => ?_)
                  refine lv_iinc (v := nI (i142 + 1)) (lv' := [(3, .int (nI (i142 + 1))), (2, .int x209), (5, .int r187), (4, .int r183), (0, .ref o0), (1, .int p0)]) hx hb dX12_choose_152 hl (k := 3) rfl (nI_add i142 1) (by decide) rfl (fun ls hl => ?_)
                  refine lv_goto (tgt := 94) hx hb dX12_choose_155 (by decide) ?_
                  exact ih176 (i142 + 1) (by omega) (by omega) x209 _ _ hT hF hS m207 ls (lv_sub hl [0, 1, 4, 5] rfl)
                · have t210 : r187.toInt < 0 := ti_nle c194 (by decide) rfl
                  refine lv_iload_n hx hb dX12_choose_121 rfl (lv_at hl 3 rfl) ?_
                  exact W.iret (v := z143) hx hb hr (fun t ht hW => ⟨⟨z143, (), rfl, (by exact trivial), by (try dsimp only); rw [ht]; exact ⟨hT, hF⟩⟩, hS.F ht⟩) hS.2.2 dX12_choose_122
        exact key176 (60 - 0) 0 (by omega) (Nat.le_refl _) 0 _ _ hT hF hS m138 ls (lv_sub hl [0, 1, 2, 3] rfl)
      | succ n136 ih136 =>
        intro i19 hn136 hlo137  H locs hT hF hS  ls hl
        have hlt210 : i19 < 60 := by omega
        refine lv_iload_n hx hb dX12_choose_32 rfl (lv_at hl 0 rfl) ?_
        refine lv_aload_n hx hb dX12_choose_33 rfl (lv_at hl 1 rfl) ?_
        refine tw_get hx hb hts bF_X12 hown hK hT hr_o0 shm_0 rfl 42 (by decide) (ht_at hts 9 rfl) (fun _ h9 => h9) dX12_choose_34 (fun v9 m211 h9 => ?_)
        obtain ⟨x212, rfl, gx212, kx212⟩ := h9 _ rfl
        refine lv_icmp_ge (tgt := 90) hx hb dX12_choose_37 (by decide) (fun c213 => ?_) (fun c213 => ?_)
        · have t214 : x212.toInt ≤ ((i19 : Nat) : Int) := ti_le c213 rfl (nI_toInt (by omega))
          refine lv_iconst (v := 0) hx hb dX12_choose_90 (by decide) ?_
          refine lv_istore_n (lv' := [(2, .int 0), (0, .ref o0), (1, .int p0)]) hx hb dX12_choose_91 rfl hl (by decide) rfl (fun ls hl => ?_)
          refine lv_iconst (v := 0) hx hb dX12_choose_92 (by decide) ?_
          refine lv_istore_n (lv' := [(3, .int 0), (2, .int 0), (0, .ref o0), (1, .int p0)]) hx hb dX12_choose_93 rfl hl (by decide) rfl (fun ls hl => ?_)
          have key249 : ∀ (n249 i215 : Nat), i215 + n249 = 60 → 0 ≤ i215 → ∀ (z216 : Int32), ∀ (H : Heap) (locs : List Loc), gH (dC, dI) kA (SHm q (wP wZ wN wH wB wC wL wK wU wV) PI im PM PT lS lB lE lN) G H → gF (dC, dI) SKm G ([(0, 0), (30, 0), (31, 0), (39, 0), (47, 0), (51, 0), (52, 0)] : List (Nat × Nat)) s.heap H → va_S A s.heap H locs → el H o0 (dI 15 42) = some (.int x212) → ∀ ls : Array Slot, lv_has ls 6 [(3, .int (nI i215)), (2, .int z216), (0, .ref o0), (1, .int p0)] → W p l e (headSpec w_s_choose ({ frames := 6, cells := 0, slots := 0, locals := 134 })).room s m #[.ref o0, .int p0] below meth c H locs 0 0 (MQ below (va_Qi (fun (r : Int32) (u : Unit) => True) (fun (_ : Unit) (t : State) => gH (dC, dI) kA (SHm q (wP wZ wN wH wB wC wL wK wU wV) PI im PM PT lS lB lE lN) G t.heap ∧ gF (dC, dI) SKm G ([(0, 0), (30, 0), (31, 0), (39, 0), (47, 0), (51, 0), (52, 0)] : List (Nat × Nat)) s.heap t.heap) A) #[.ref o0, .int p0] s 0 0 A) (F0 m 94 ls []) := by
            intro n249
            induction n249 with
            | zero =>
              intro i215 hn249 hlo250 z216 H locs hT hF hS m217 ls hl
              obtain rfl : 60 = i215 := by omega
              refine lv_iload_n hx hb dX12_choose_94 rfl (lv_at hl 0 rfl) ?_
              refine lv_iload_n hx hb dX12_choose_95 rfl (lv_at hl 3 rfl) ?_
              refine lv_icmp_ge (tgt := 158) hx hb dX12_choose_96 (by decide) (fun c251 => ?_) (fun c251 => (by exfalso; have q9 : ((60 : Nat) : Int) < p0.toInt := ti_nle c251 rfl (nI_toInt (by omega)); omega))
              have t252 : p0.toInt ≤ ((60 : Nat) : Int) := ti_le c251 rfl (nI_toInt (by omega))
              refine lv_iload_n hx hb dX12_choose_158 rfl (lv_at hl 1 rfl) ?_
              exact W.iret (v := z216) hx hb hr (fun t ht hW => ⟨⟨z216, (), rfl, (by exact trivial), by (try dsimp only); rw [ht]; exact ⟨hT, hF⟩⟩, hS.F ht⟩) hS.2.2 dX12_choose_159
            | succ n249 ih249 =>
              intro i215 hn249 hlo250 z216 H locs hT hF hS m217 ls hl
              have hlt252 : i215 < 60 := by omega
              refine lv_iload_n hx hb dX12_choose_94 rfl (lv_at hl 0 rfl) ?_
              refine lv_iload_n hx hb dX12_choose_95 rfl (lv_at hl 3 rfl) ?_
              refine lv_icmp_ge (tgt := 158) hx hb dX12_choose_96 (by decide) (fun c253 => ?_) (fun c253 => ?_)
              · have t254 : p0.toInt ≤ ((i215 : Nat) : Int) := ti_le c253 rfl (nI_toInt (by omega))
                refine lv_iload_n hx hb dX12_choose_158 rfl (lv_at hl 1 rfl) ?_
                exact W.iret (v := z216) hx hb hr (fun t ht hW => ⟨⟨z216, (), rfl, (by exact trivial), by (try dsimp only); rw [ht]; exact ⟨hT, hF⟩⟩, hS.F ht⟩) hS.2.2 dX12_choose_159
              · have t255 : ((i215 : Nat) : Int) < p0.toInt := ti_nle c253 rfl (nI_toInt (by omega))
                refine lv_aload_n hx hb dX12_choose_99 rfl (lv_at hl 2 rfl) ?_
                have hFc := gA_free hG hA hS
                refine va_calli (va_runV (As := []) (rest := []) ⟨hx, hb, hml, hown, hts⟩ (s_nextOne l dC dI kA adK adV G H q wZ wN wH wB wC wL wK wU wV PI im PM PT lS lB lE lN o0 hT hr_o0 hgz hgn hgh hgb hgc hgi hgu) (cwV 0 hts (goodIn_app (goodIn_r _ [15, 16, 17, 5] rfl (by decide +kernel)) (goodIn_ca (goodIn_r _ [11, 10, 12, 13, 14] rfl (by decide +kernel)) (bs_in _ _))) rfl rfl rfl (by decide +kernel) ⟨(Nat.le_of_ble_eq_true rfl), (Nat.le_of_ble_eq_true rfl)⟩) ⟨fun a U g mk q => by obtain ⟨q0, q1, qK, qE⟩ := q; exact ⟨q0, q1, va_K.moved (u := U) (U := U.calling g mk a) (Vm.Alike.refl U.vm) qK, EVS.blind g mk a qE⟩, gH_rc hK hT hr_o0 shm_0 rfl, fun U hU hW => ⟨rfl, hU, va_K.moved hW.alike hK, hE.call hS hFc hU hW⟩⟩ rfl rfl hl.1 rfl (lv_room (Nat.le_of_ble_eq_true rfl)) dX12_choose_100 ⟨(Nat.le_of_ble_eq_true rfl), (Nat.le_of_ble_eq_true rfl)⟩) hS (fun q _ h => hFc q h) hFc (fun r256 u t H locs ht hvm hw257 hB _ _ hS => ?_)
                obtain ⟨hT, hF1⟩ := hB
                rw [ht] at hT hF1
                have m258 := (hF1.fld hr_o0 skm_0 (k := 42) (by decide) (by decide)).trans m217
                have hF := hF.more hF1 (by decide)
                try dsimp only at hw257
                have h259 := hw257
                refine lv_istore (lv' := [(4, .int r256), (3, .int (nI i215)), (2, .int z216), (0, .ref o0), (1, .int p0)]) hx hb dX12_choose_103 hl (by decide) rfl (fun ls hl => ?_)
                refine lv_aload_n hx hb dX12_choose_105 rfl (lv_at hl 3 rfl) ?_
                have hFc := gA_free hG hA hS
                refine va_calli (va_runV (As := []) (rest := []) ⟨hx, hb, hml, hown, hts⟩ (s_bestFarm l dC dI kA adK adV G H q wZ wN wH wB wC wL wK wU wV PI im PM PT lS lB lE lN o0 hT hr_o0 hgz hgn hgh hgb hgc hgi hgu) (cwV 0 hts (goodIn_app (goodIn_r _ [38, 39, 40, 5] rfl (by decide +kernel)) (goodIn_ca (goodIn_r _ [18, 19, 20, 21, 22, 23, 24, 25, 26, 27, 28, 29, 30, 31, 2, 3, 4, 5, 32, 33, 34, 35, 36, 37] rfl (by decide +kernel)) (bs_in _ _))) rfl rfl rfl (by decide +kernel) ⟨(Nat.le_of_ble_eq_true rfl), (Nat.le_of_ble_eq_true rfl)⟩) ⟨fun a U g mk q => by obtain ⟨q0, q1, qK, qE⟩ := q; exact ⟨q0, q1, va_K.moved (u := U) (U := U.calling g mk a) (Vm.Alike.refl U.vm) qK, EVS.blind g mk a qE⟩, gH_rc hK hT hr_o0 shm_0 rfl, fun U hU hW => ⟨rfl, hU, va_K.moved hW.alike hK, hE.call hS hFc hU hW⟩⟩ rfl rfl hl.1 rfl (lv_room (Nat.le_of_ble_eq_true rfl)) dX12_choose_106 ⟨(Nat.le_of_ble_eq_true rfl), (Nat.le_of_ble_eq_true rfl)⟩) hS (fun q _ h => hFc q h) hFc (fun r260 u t H locs ht hvm hw261 hB _ _ hS => ?_)
                obtain ⟨hT, hF1⟩ := hB
                rw [ht] at hT hF1
                have m262 := (hF1.fld hr_o0 skm_0 (k := 42) (by decide) (by decide)).trans m258
                have hF := hF.more hF1 (by decide)
                try dsimp only at hw261
                have h263 := hw261
                refine lv_istore (lv' := [(5, .int r260), (4, .int r256), (3, .int (nI i215)), (2, .int z216), (0, .ref o0), (1, .int p0)]) hx hb dX12_choose_109 hl (by decide) rfl (fun ls hl => ?_)
                refine lv_iload hx hb dX12_choose_111 (lv_at hl 1 rfl) ?_
                refine lv_if_lt (tgt := 121) hx hb dX12_choose_113 (by decide) (fun c264 => ?_) (fun c264 => ?_)
                · have t265 : r256.toInt < 0 := ti_lt c264 rfl (by decide)
                  refine lv_iload_n hx hb dX12_choose_121 rfl (lv_at hl 3 rfl) ?_
                  exact W.iret (v := z216) hx hb hr (fun t ht hW => ⟨⟨z216, (), rfl, (by exact trivial), by (try dsimp only); rw [ht]; exact ⟨hT, hF⟩⟩, hS.F ht⟩) hS.2.2 dX12_choose_122
                · have t266 : 0 ≤ r256.toInt := ti_nlt c264 rfl (by decide)
                  refine lv_iload hx hb dX12_choose_116 (lv_at hl 0 rfl) ?_
                  refine lv_if_ge (tgt := 123) hx hb dX12_choose_118 (by decide) (fun c267 => ?_) (fun c267 => ?_)
                  · have t268 : 0 ≤ r260.toInt := ti_le c267 (by decide) rfl
                    refine lv_aload_n hx hb dX12_choose_123 rfl (lv_at hl 4 rfl) ?_
                    refine tw_get hx hb hts bF_X12 hown hK hT hr_o0 shm_0 rfl 51 (by decide) (ht_at hts 11 rfl) (fun _ h9 => h9) dX12_choose_124 (fun v9 m269 h9 => ?_)
                    obtain ⟨rfl, hg270⟩ := h9 _ rfl
                    refine lv_iload hx hb dX12_choose_127 (lv_at hl 1 rfl) ?_
                    refine lv_iconst (v := 0) hx hb dX12_choose_129 (by decide) ?_
                    refine tw_zast (i := r256) (x := 0) hx hb hK hT hG hS hg270 shm_52 rfl (vin_t (a := r256.toInt) rfl (by omega) (by omega)) (gi_z (rg_t (a := 0) (by decide) (by first | decide | omega) (by first | decide | omega)) (by decide) (by decide)) dX12_choose_130 (fun H locs hT oq m271 oi hS => ?_)
                    have hF := hF.ast hg270 skm_52 oq (by decide)
                    have m272 := (el_kept (oq _ (gne hr_o0 hg270 (by decide)))).trans m262
                    refine lv_aload_n hx hb dX12_choose_131 rfl (lv_at hl 4 rfl) ?_
                    refine tw_get hx hb hts bF_X12 hown hK hT hr_o0 shm_0 rfl 38 (by decide) (ht_at hts 40 rfl) (fun _ h9 => h9) dX12_choose_132 (fun v9 m273 h9 => ?_)
                    obtain ⟨rfl, hg274⟩ := h9 _ rfl
                    refine lv_iload hx hb dX12_choose_135 (lv_at hl 1 rfl) ?_
                    refine lv_iload hx hb dX12_choose_137 (lv_at hl 0 rfl) ?_
                    refine tw_iast (i := r256) (x := r260) hx hb hK hT hG hS hg274 shm_39 rfl (vin_t (a := r256.toInt) rfl (by omega) (by omega)) (gi_of (show r260.toInt = r260.toInt from rfl) (by omega) (by omega)) dX12_choose_139 (fun H locs hT oq m275 oi hS => ?_)
                    have hF := hF.ast hg274 skm_39 oq (by decide)
                    have m276 := (el_kept (oq _ (gne hr_o0 hg274 (by decide)))).trans m272
                    refine lv_aload_n hx hb dX12_choose_140 rfl (lv_at hl 4 rfl) ?_
                    refine tw_get hx hb hts bF_X12 hown hK hT hr_o0 shm_0 rfl 46 (by decide) (ht_at hts 19 rfl) (fun _ h9 => h9) dX12_choose_141 (fun v9 m277 h9 => ?_)
                    obtain ⟨rfl, hg278⟩ := h9 _ rfl
                    refine lv_iload hx hb dX12_choose_144 (lv_at hl 0 rfl) ?_
                    refine lv_iload hx hb dX12_choose_146 (lv_at hl 1 rfl) ?_
                    refine tw_iast (i := r260) (x := r256) hx hb hK hT hG hS hg278 shm_47 rfl (vin_t (a := r260.toInt) rfl (by omega) (by omega)) (gi_of (show r256.toInt = r256.toInt from rfl) (by omega) (by omega)) dX12_choose_148 (fun H locs hT oq m279 oi hS => ?_)
                    have hF := hF.ast hg278 skm_47 oq (by decide)
                    have m280 := (el_kept (oq _ (gne hr_o0 hg278 (by decide)))).trans m276
                    have m281 := (el_kept (oq _ (gne hg274 hg278 (by decide)))).trans m275
                    obtain ⟨x282, ex282⟩ : ∃ y : Int32, y = z216 + 1 := ⟨_, rfl⟩
                    refine lv_iinc (v := x282) (lv' := [(2, .int x282), (5, .int r260), (4, .int r256), (3, .int (nI i215)), (0, .ref o0), (1, .int p0)]) hx hb dX12_choose_149 hl (k := 3) rfl (by first | (rw [ex282]; done) | (rw [ex282]; rfl)) (by decide) rfl (fun ls hl => ?_)
                    refine lv_iinc (v := nI (i215 + 1)) (lv' := [(3, .int (nI (i215 + 1))), (2, .int x282), (5, .int r260), (4, .int r256), (0, .ref o0), (1, .int p0)]) hx hb dX12_choose_152 hl (k := 3) rfl (nI_add i215 1) (by decide) rfl (fun ls hl => ?_)
                    refine lv_goto (tgt := 94) hx hb dX12_choose_155 (by decide) ?_
                    exact ih249 (i215 + 1) (by omega) (by omega) x282 _ _ hT hF hS m280 ls (lv_sub hl [0, 1, 4, 5] rfl)
                  · have t283 : r260.toInt < 0 := ti_nle c267 (by decide) rfl
                    refine lv_iload_n hx hb dX12_choose_121 rfl (lv_at hl 3 rfl) ?_
                    exact W.iret (v := z216) hx hb hr (fun t ht hW => ⟨⟨z216, (), rfl, (by exact trivial), by (try dsimp only); rw [ht]; exact ⟨hT, hF⟩⟩, hS.F ht⟩) hS.2.2 dX12_choose_122
          exact key249 (60 - 0) 0 (by omega) (Nat.le_refl _) 0 _ _ hT hF hS m211 ls (lv_sub hl [0, 1, 2, 3] rfl)
        · have t284 : ((i19 : Nat) : Int) < x212.toInt := ti_nle c213 rfl (nI_toInt (by omega))
          refine lv_aload_n hx hb dX12_choose_40 rfl (lv_at hl 1 rfl) ?_
          refine tw_get hx hb hts bF_X12 hown hK hT hr_o0 shm_0 rfl 51 (by decide) (ht_at hts 11 rfl) (fun _ h9 => h9) dX12_choose_41 (fun v9 m285 h9 => ?_)
          obtain ⟨rfl, hg286⟩ := h9 _ rfl
          refine lv_iload_n hx hb dX12_choose_44 rfl (lv_at hl 0 rfl) ?_
          refine lv_aload_n hx hb dX12_choose_45 rfl (lv_at hl 1 rfl) ?_
          refine tw_get hx hb hts bF_X12 hown hK hT hr_o0 shm_0 rfl 38 (by decide) (ht_at hts 40 rfl) (fun _ h9 => h9) dX12_choose_46 (fun v9 m287 h9 => ?_)
          obtain ⟨rfl, hg288⟩ := h9 _ rfl
          refine lv_iload_n hx hb dX12_choose_49 rfl (lv_at hl 0 rfl) ?_
          refine tw_iald (i := (nI i19)) hx hb hK hT hg288 shm_39 rfl (vp_in_nI (by omega) (by decide)) dX12_choose_50 (fun v9 m289 h9 => ?_)
          obtain ⟨x290, rfl, gx290, kx290⟩ := h9
          have jn303 : ∀ (z299 : Int32), ((0 ≤ z299.toInt ∧ z299.toInt ≤ 1)) → ∀ (H : Heap) (locs : List Loc), gH (dC, dI) kA (SHm q (wP wZ wN wH wB wC wL wK wU wV) PI im PM PT lS lB lE lN) G H → gF (dC, dI) SKm G ([(0, 0), (30, 0), (31, 0), (39, 0), (47, 0), (51, 0), (52, 0)] : List (Nat × Nat)) s.heap H → va_S A s.heap H locs → el H o0 (dI 15 42) = some (.int x212) → el H (q 38) (nI i19).toNatClampNeg = some (.int x290) → ∀ ls : Array Slot, lv_has ls 6 [(2, .int (nI i19)), (0, .ref o0), (1, .int p0)] → W p l e (headSpec w_s_choose ({ frames := 6, cells := 0, slots := 0, locals := 134 })).room s m #[.ref o0, .int p0] below meth c H locs 0 0 (MQ below (va_Qi (fun (r : Int32) (u : Unit) => True) (fun (_ : Unit) (t : State) => gH (dC, dI) kA (SHm q (wP wZ wN wH wB wC wL wK wU wV) PI im PM PT lS lB lE lN) G t.heap ∧ gF (dC, dI) SKm G ([(0, 0), (30, 0), (31, 0), (39, 0), (47, 0), (51, 0), (52, 0)] : List (Nat × Nat)) s.heap t.heap) A) #[.ref o0, .int p0] s 0 0 A) (F0 m 71 ls [.int z299, .int (nI i19), .ref (q 51)]) := by
            intro z299 h300 H locs hT hF hS m301 m302 ls hl
            refine tw_zast (i := (nI i19)) (x := z299) hx hb hK hT hG hS hg286 shm_52 rfl (vp_in_nI (by omega) (by decide)) (gi_z (by have q8 := ti_all z299; omega) (by decide) (by decide)) dX12_choose_71 (fun H locs hT oq m304 oi hS => ?_)
            have hF := hF.ast hg286 skm_52 oq (by decide)
            have m305 := (el_kept (oq _ (gne hr_o0 hg286 (by decide)))).trans m301
            have m306 := (el_kept (oq _ (gne hg288 hg286 (by decide)))).trans m302
            refine lv_aload_n hx hb dX12_choose_72 rfl (lv_at hl 1 rfl) ?_
            refine tw_get hx hb hts bF_X12 hown hK hT hr_o0 shm_0 rfl 50 (by decide) (ht_at hts 12 rfl) (fun _ h9 => h9) dX12_choose_73 (fun v9 m307 h9 => ?_)
            obtain ⟨rfl, hg308⟩ := h9 _ rfl
            refine lv_iload_n hx hb dX12_choose_76 rfl (lv_at hl 0 rfl) ?_
            refine lv_aload_n hx hb dX12_choose_77 rfl (lv_at hl 1 rfl) ?_
            refine lv_iload_n hx hb dX12_choose_78 rfl (lv_at hl 0 rfl) ?_
            refine lv_iconst (v := 4) hx hb dX12_choose_79 (by decide) ?_
            have hFc := gA_free hG hA hS
            refine va_calll (va_runV (As := [.int (nI i19), .int 4]) (rest := [.int (nI i19), .ref (q 50)]) ⟨hx, hb, hml, hown, hts⟩ (s_sumOf l dC dI kA adK adV G H q wZ wN wH wB wC wL wK wU wV PI im PM PT lS lB lE lN o0 (nI i19) 4 hT hr_o0 (rg_t (a := ((i19 : Nat) : Int)) (nI_toInt (by omega)) (by omega) (by omega)) (by assumption) hgz hgn hgh hgb hgc hgi hgu) (cwV 2 hts (goodIn_app (goodIn_r _ [96, 97, 98, 5] rfl (by decide +kernel)) (goodIn_ca (goodIn_r _ [42, 43, 44, 45, 41, 22, 23, 24, 25, 26, 27, 28, 29, 30, 31, 2, 3, 4, 5, 32, 33, 46, 47, 48, 49, 50, 51, 52, 53, 54, 55, 56, 34, 57, 58, 59, 60, 61, 62, 63, 64, 65, 66, 67, 68, 69, 70, 71, 72, 73, 74, 75, 76, 77, 78, 79, 80, 81, 82, 83, 84, 85, 86, 87, 88, 89, 90, 91, 92, 93, 94, 95] rfl (by decide +kernel)) (bs_in _ _))) rfl rfl rfl (by decide +kernel) ⟨(Nat.le_of_ble_eq_true rfl), (Nat.le_of_ble_eq_true rfl)⟩) ⟨fun a U g mk q => by obtain ⟨q0, q1, qK, qE⟩ := q; exact ⟨q0, q1, va_K.moved (u := U) (U := U.calling g mk a) (Vm.Alike.refl U.vm) qK, EVS.blind g mk a qE⟩, gH_rc hK hT hr_o0 shm_0 rfl, fun U hU hW => ⟨rfl, hU, va_K.moved hW.alike hK, hE.call hS hFc hU hW⟩⟩ rfl rfl hl.1 rfl (lv_room (Nat.le_of_ble_eq_true rfl)) dX12_choose_80 ⟨(Nat.le_of_ble_eq_true rfl), (Nat.le_of_ble_eq_true rfl)⟩) hS (fun q _ h => hFc q h) hFc (fun r309 u t H locs ht hvm hw310 hB _ _ hS => ?_)
            obtain ⟨hT, hF1⟩ := hB
            rw [ht] at hT hF1
            have m311 := (hF1.fld hr_o0 skm_0 (k := 42) (by decide) (by decide)).trans m305
            have m312 := (el_kept (hF1.arr hg288 skm_39 (by decide))).trans m306
            have hF := hF.more hF1 (by decide)
            try dsimp only at hw310
            refine tw_last (i := (nI i19))  hx hb hK hT hG hS hg308 shm_51 rfl (vp_in_nI (by omega) (by decide)) ⟨_, rfl⟩ dX12_choose_83 (fun H locs hT oq m313 oi hS => ?_)
            have hF := hF.ast hg308 skm_51 oq (by decide)
            have m314 := (el_kept (oq _ (gne hr_o0 hg308 (by decide)))).trans m311
            have m315 := (el_kept (oq _ (gne hg288 hg308 (by decide)))).trans m312
            refine lv_iinc (v := nI (i19 + 1)) (lv' := [(2, .int (nI (i19 + 1))), (0, .ref o0), (1, .int p0)]) hx hb dX12_choose_84 hl (k := 0) rfl (nI_add i19 1) (by decide) rfl (fun ls hl => ?_)
            refine lv_goto (tgt := 32) hx hb dX12_choose_87 (by decide) ?_
            exact ih136 (i19 + 1) (by omega) (by omega) _ _ hT hF hS ls (lv_sub hl [0, 1, 2] rfl)
          refine lv_if_ge (tgt := 70) hx hb dX12_choose_51 (by decide) (fun c316 => ?_) (fun c316 => ?_)
          · have t317 : 0 ≤ x290.toInt := ti_le c316 (by decide) rfl
            refine lv_iconst (v := 0) hx hb dX12_choose_70 (by decide) ?_
            exact jn303 0 (rg_t (a := 0) (by decide) (by first | decide | omega) (by first | decide | omega)) _ _ hT hF hS m211 m289 ls (lv_sub hl [0, 1, 2] rfl)
          · have t318 : x290.toInt < 0 := ti_nle c316 (by decide) rfl
            refine lv_aload_n hx hb dX12_choose_54 rfl (lv_at hl 1 rfl) ?_
            refine lv_iload_n hx hb dX12_choose_55 rfl (lv_at hl 0 rfl) ?_
            refine lv_bipush (v := 6) hx hb dX12_choose_56 (by decide) ?_
            have hFc := gA_free hG hA hS
            refine va_calll (va_runV (As := [.int (nI i19), .int 6]) (rest := [.int (nI i19), .ref (q 51)]) ⟨hx, hb, hml, hown, hts⟩ (s_sumOf l dC dI kA adK adV G H q wZ wN wH wB wC wL wK wU wV PI im PM PT lS lB lE lN o0 (nI i19) 6 hT hr_o0 (rg_t (a := ((i19 : Nat) : Int)) (nI_toInt (by omega)) (by omega) (by omega)) (by assumption) hgz hgn hgh hgb hgc hgi hgu) (cwV 2 hts (goodIn_app (goodIn_r _ [96, 97, 98, 5] rfl (by decide +kernel)) (goodIn_ca (goodIn_r _ [42, 43, 44, 45, 41, 22, 23, 24, 25, 26, 27, 28, 29, 30, 31, 2, 3, 4, 5, 32, 33, 46, 47, 48, 49, 50, 51, 52, 53, 54, 55, 56, 34, 57, 58, 59, 60, 61, 62, 63, 64, 65, 66, 67, 68, 69, 70, 71, 72, 73, 74, 75, 76, 77, 78, 79, 80, 81, 82, 83, 84, 85, 86, 87, 88, 89, 90, 91, 92, 93, 94, 95] rfl (by decide +kernel)) (bs_in _ _))) rfl rfl rfl (by decide +kernel) ⟨(Nat.le_of_ble_eq_true rfl), (Nat.le_of_ble_eq_true rfl)⟩) ⟨fun a U g mk q => by obtain ⟨q0, q1, qK, qE⟩ := q; exact ⟨q0, q1, va_K.moved (u := U) (U := U.calling g mk a) (Vm.Alike.refl U.vm) qK, EVS.blind g mk a qE⟩, gH_rc hK hT hr_o0 shm_0 rfl, fun U hU hW => ⟨rfl, hU, va_K.moved hW.alike hK, hE.call hS hFc hU hW⟩⟩ rfl rfl hl.1 rfl (lv_room (Nat.le_of_ble_eq_true rfl)) dX12_choose_58 ⟨(Nat.le_of_ble_eq_true rfl), (Nat.le_of_ble_eq_true rfl)⟩) hS (fun q _ h => hFc q h) hFc (fun r319 u t H locs ht hvm hw320 hB _ _ hS => ?_)
            obtain ⟨hT, hF1⟩ := hB
            rw [ht] at hT hF1
            have m321 := (hF1.fld hr_o0 skm_0 (k := 42) (by decide) (by decide)).trans m211
            have m322 := (el_kept (hF1.arr hg288 skm_39 (by decide))).trans m289
            have hF := hF.more hF1 (by decide)
            try dsimp only at hw320
            refine lv_lconst (v := 0) hx hb dX12_choose_61 (by decide) ?_
            refine W.lcmp hx hb dX12_choose_62 ?_
            refine lv_topi (fun x323 _ => ?_)
            refine lv_if_ne (tgt := 70) hx hb dX12_choose_63 (by decide) (fun c324 => ?_) (fun c324 => ?_)
            · have t325 : x323.toInt ≠ 0 := ti_ne c324 rfl (by decide)
              refine lv_iconst (v := 0) hx hb dX12_choose_70 (by decide) ?_
              exact jn303 0 (rg_t (a := 0) (by decide) (by first | decide | omega) (by first | decide | omega)) _ _ hT hF hS m321 m322 ls (lv_sub hl [0, 1, 2] rfl)
            · have t326 : x323.toInt = 0 := ti_eq c324 rfl (by decide)
              refine lv_iconst (v := 1) hx hb dX12_choose_66 (by decide) ?_
              refine lv_goto (tgt := 71) hx hb dX12_choose_67 (by decide) ?_
              exact jn303 1 (rg_t (a := 1) (by decide) (by first | decide | omega) (by first | decide | omega)) _ _ hT hF hS m321 m322 ls (lv_sub hl [0, 1, 2] rfl)
    exact key136 (60 - 0) 0 (by omega) (Nat.le_refl _) _ _ hT hF hS ls (lv_sub hl [0, 1, 2] rfl)
  · have t327 : r2.toInt = 0 := ti_eq c8 rfl (by decide)
    have t328 : (60 : Int32).toInt = 60 := by decide
    have t329 : (0 : Int32).toInt = 0 := by decide
    have t330 : p0.toInt < (0 : Int32).toInt ∨ (60 : Int32).toInt < p0.toInt := hi7 c8
    refine lv_iconst (v := 1) hx hb dX12_choose_16 (by decide) ?_
    refine lv_goto (tgt := 21) hx hb dX12_choose_17 (by decide) ?_
    refine lv_iconst (v := 1) hx hb dX12_choose_21 (by decide) ?_
    have hFc := gA_free hG hA hS
    refine va_calli (va_runV (As := [.int 1, .int 1]) (rest := []) ⟨hx, hb, hml, hown, hts⟩ (s_throwsIf l dC dI kA adK adV G H q wZ wN wH wB wC wL wK wU wV PI im PM PT lS lB lE lN o0 1 1 hT hr_o0 (rg_t (a := 1) (by decide) (by first | decide | omega) (by first | decide | omega)) hgz hgn hgh hgb hgc hgi hgu) (cwV 2 hts (goodIn_app (goodIn_r _ [7, 8, 9, 5] rfl (by decide +kernel)) (goodIn_ca (goodIn_r _ [6, 1] rfl (by decide +kernel)) (bs_in _ _))) rfl rfl rfl (by decide +kernel) ⟨(Nat.le_of_ble_eq_true rfl), (Nat.le_of_ble_eq_true rfl)⟩) ⟨fun a U g mk q => by obtain ⟨q0, q1, qK, qE⟩ := q; exact ⟨q0, q1, va_K.moved (u := U) (U := U.calling g mk a) (Vm.Alike.refl U.vm) qK, EVS.blind g mk a qE⟩, gH_rc hK hT hr_o0 shm_0 rfl, fun U hU hW => ⟨rfl, hU, va_K.moved hW.alike hK, hE.call hS hFc hU hW⟩⟩ rfl rfl hl.1 rfl (lv_room (Nat.le_of_ble_eq_true rfl)) dX12_choose_22 ⟨(Nat.le_of_ble_eq_true rfl), (Nat.le_of_ble_eq_true rfl)⟩) hS (fun q _ h => hFc q h) hFc (fun r331 u t H locs ht hvm hw332 hB _ _ hS => ?_)
    obtain ⟨hT, hF1⟩ := hB
    rw [ht] at hT hF1
    have hF := hF.more hF1 (by decide)
    try dsimp only at hw332
    obtain ⟨h334, hd335⟩ := hw332
    obtain rfl : (1 : Int32) = r331 := hd335.symm
    refine lv_if_eq (tgt := 30) hx hb dX12_choose_25 (by decide) (fun c336 => absurd c336 (by decide)) (fun c336 => ?_)
    refine lv_iconst (v := 0) hx hb dX12_choose_28 (by decide) ?_
    exact W.iret (v := 0) hx hb hr (fun t ht hW => ⟨⟨0, (), rfl, (by exact trivial), by (try dsimp only); rw [ht]; exact ⟨hT, hF⟩⟩, hS.F ht⟩) hS.2.2 dX12_choose_29
