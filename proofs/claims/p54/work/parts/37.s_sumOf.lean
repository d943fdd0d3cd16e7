def w_s_sumOf : List Cond := .code yX12_sumOf cX12_sumOf 6 (some .long) :: (HAppend.hAppend (α := List Cond) (β := List Cond) (γ := List Cond) [.code yX12_looksAt cX12_looksAt 2 none, .fieldLink RX12 76 "SeaLandModel" "facts" "[J", .code yX12_acres cX12_acres 4 (some .int), .fieldLink RX12 101 "SeaLandModel" "holds" "[I", .fieldLink RX12 113 "SeaLandModel" "farmFrom" "[I", .fieldLink RX12 116 "SeaLandModel" "farmTo" "[I", .code yX12_isIn cX12_isIn 5 (some .boolean), .methodLink RX12 207 Lib.Math.min.name, .static Lib.Math.min.name, .initialized "java/lang/Math", .code Lib.Math.min.name Lib.Math.min.code 2 (some .int), .methodLink RX12 211 Lib.Math.max.name, .static Lib.Math.max.name, .code Lib.Math.max.name Lib.Math.max.code 2 (some .int), .code yX12_in cX12_in 3 (some .boolean), .methodLink RX12 197 yX12_in, .static yX12_in, .initialized RX12, .methodLink RX12 232 yX12_isIn, .static yX12_isIn, .methodLink RX12 467 yX12_acres, .instanceMethod yX12_acres, .selects RX12 yX12_acres yX12_acres, .fieldLink RX12 104 "SeaLandModel" "gain" "[I", .fieldLink RX12 79 "SeaLandModel" "age" "[I", .fieldLink RX12 82 "SeaLandModel" "sons" "[I", .fieldLink RX12 85 "SeaLandModel" "coin" "[I", .fieldLink RX12 88 "SeaLandModel" "cattle" "[I", .fieldLink RX12 91 "SeaLandModel" "isKin" "[Z", .fieldLink RX12 95 "SeaLandModel" "isBoard" "[Z", .code yX12_near cX12_near 5 (some .int), .fieldLink RX12 9 "SeaLandModel" "world" "[I", .code yX12_isDike cX12_isDike 2 (some .boolean), .code yX12_of cX12_of 3 (some .int), .code yX12_at cX12_at 2 (some .int), .methodLink RX12 214 yX12_at, .static yX12_at, .methodLink RX12 217 yX12_of, .instanceMethod yX12_of, .selects RX12 yX12_of yX12_of, .methodLink RX12 272 yX12_isDike, .instanceMethod yX12_isDike, .selects RX12 yX12_isDike yX12_isDike, .code yX12_steps cX12_steps 2 (some .int), .methodLink RX12 201 Lib.Math.abs.name, .static Lib.Math.abs.name, .code Lib.Math.abs.name Lib.Math.abs.code 1 (some .int), .methodLink RX12 262 yX12_steps, .static yX12_steps, .methodLink RX12 469 yX12_near, .instanceMethod yX12_near, .selects RX12 yX12_near yX12_near, .fieldLink RX12 107 "SeaLandModel" "owes" "[I", .methodLink RX12 474 yX12_looksAt, .instanceMethod yX12_looksAt, .selects RX12 yX12_looksAt yX12_looksAt, .fieldLink RX12 42 "SeaLandModel" "lines" "[I", .fieldLink RX12 45 "SeaLandModel" "sort" "[I", .code yX12_holds cX12_holds 9 (some .boolean), .fieldLink RX12 60 "SeaLandModel" "begins" "[I", .fieldLink RX12 63 "SeaLandModel" "ends" "[I", .fieldLink RX12 66 "SeaLandModel" "step" "[I", .fieldLink RX12 72 "SeaLandModel" "value" "[J", .methodLink RX12 471 Lib.MathLoose.max_long.x, .static Lib.MathLoose.max_long.x, .code Lib.MathLoose.max_long.x Lib.MathLoose.max_long.code 4 (some .long), .fieldLink RX12 69 "SeaLandModel" "than" "[I", .methodLink RX12 478 yX12_holds, .instanceMethod yX12_holds, .selects RX12 yX12_holds yX12_holds, .fieldLink RX12 48 "SeaLandModel" "told" "[I"] bs)
set_option maxHeartbeats 4000000 in
set_option maxRecDepth 100000 in
theorem s_sumOf (l : Launch) (dC : Nat → ClassId) (dI : Nat → Nat → Nat) (kA : Nat → ClassId) (adK adV : Nat → Nat) (G : gT) (H0 : Heap) (q : Nat → Nat) (wZ wN : Nat → Int) (wH wB wC : Int) (wL wK : Nat → Prop) (wU wV : Nat → Nat) (PI : Nat → Int → Prop) (im : Int) (PM PT : Nat → Int → Prop) (lS lB lE : Nat → Nat → Int → Prop) (lN : Nat → Int) (o0 : Nat) (pe : Int32) (so : Int32)  (hT : gH (dC, dI) kA (SHm q (wP wZ wN wH wB wC wL wK wU wV) PI im PM PT lS lB lE lN) G H0) (hr_o0 : G o0 = some 0) (hq0 : 0 ≤ pe.toInt ∧ pe.toInt ≤ 59) (hlaw : lawsOK lS lB lE lN) (hgz : ∀ i, 0 ≤ wZ i) (hgn : ∀ i, 6500000 ≤ wN i ∧ wN i ≤ 20200000) (hgh : 0 ≤ wH ∧ wH ≤ 40000) (hgb : 0 ≤ wB ∧ wB ≤ 3850000) (hgc : 0 ≤ wC ∧ wC ≤ 30) (hgi : 0 ≤ im ∧ im ≤ 1) (hgu : ∀ a t, G a = some (t + 1) → a = q t) : Met l yX12_sumOf w_s_sumOf ({ frames := 5, cells := 0, slots := 0, locals := 109 }) (va_Pc [.ref o0, .int pe, .int so] (fun U => U.heap = H0 ∧ va_K (dC, dI) vwCl (tyl kA) U ∧ EVS adK adV (gA G H0.size) U U.heap)) (va_Ql (fun (r : Int64) (u : Unit) => True) (fun (_ : Unit) (t : State) => gH (dC, dI) kA (SHm q (wP wZ wN wH wB wC wL wK wU wV) PI im PM PT lS lB lE lN) G t.heap ∧ gF (dC, dI) SKm G ([(30, 0), (31, 0)] : List (Nat × Nat)) H0 t.heap) (gA G H0.size)) 0 0 (gA G H0.size) := by
  refine Met.ofW (cc := cX12_sumOf) (maxL := 6) (ret := (some .long)) (by decide) rfl ?_
  intro p e s m args below meth c s₁ B hml hv
  obtain ⟨rfl, hH0, hK, hE⟩ := hv
  have hx := B.exec
  have hb := B.bytes
  have hr := B.returns
  have hts := atoms_spec (ws := w_s_sumOf) B.pre
  have hown : s.vm.findClass RX12 = some m.cls := findClass_of_methodNamed B.named
  have hlocks := B.notSynchronized
  subst hH0
  generalize hAe : gA G s.heap.size = A at hE ⊢
  have hA : ∀ q : Nat, s.heap.size ≤ q → A q := fun q h => by rw [← hAe]; exact Or.inr h
  have hG := gA_of hAe
  have hS : va_S A s.heap s.heap [] := va_S.rf
  have hF : gF (dC, dI) SKm G ([(30, 0), (31, 0)] : List (Nat × Nat)) s.heap s.heap := gF.rf
  have hl := lv_entry ([.ref o0, .int pe, .int so]) (n := 6) (Nat.le_of_ble_eq_true rfl)
  rw [lg_entry_eq]
  generalize (lg_sl ([.ref o0, .int pe, .int so]) ++ List.replicate (6 - (lg_sl ([.ref o0, .int pe, .int so])).length) Slot.unset).toArray = ls at hl ⊢
  have hl : lv_has ls 6 [(0, .ref o0), (1, .int pe), (2, .int so)] := hl
  refine lv_aload_n hx hb dX12_sumOf_0 rfl (lv_at hl 0 rfl) ?_
  refine lv_iload_n hx hb dX12_sumOf_1 rfl (lv_at hl 1 rfl) ?_
  have hFc := gA_free hG hA hS
  refine va_callv (va_runV (As := [.int pe]) (rest := []) ⟨hx, hb, hml, hown, hts⟩ (s_looksAt l dC dI kA adK adV G s.heap q wZ wN wH wB wC wL wK wU wV PI im PM PT lS lB lE lN o0 pe hT hr_o0 (by have q8 := ti_all pe; omega) hgz hgn hgh hgb hgc hgi hgu) (cwV 1 hts (goodIn_app (goodIn_r _ [54, 55, 56, 18] rfl (by decide +kernel)) (goodIn_ca (goodIn_r _ [1, 2, 3, 4, 5, 6, 7, 8, 9, 10, 11, 12, 13, 14, 15, 16, 17, 18, 19, 20, 21, 22, 23, 24, 25, 26, 27, 28, 29, 30, 31, 32, 33, 34, 35, 36, 37, 38, 39, 40, 41, 42, 43, 44, 45, 46, 47, 48, 49, 50, 51, 52, 53] rfl (by decide +kernel)) (bs_in _ _))) rfl rfl rfl (by decide +kernel) ⟨(Nat.le_of_ble_eq_true rfl), (Nat.le_of_ble_eq_true rfl)⟩) ⟨fun a U g mk q => by obtain ⟨q0, q1, qK, qE⟩ := q; exact ⟨q0, q1, va_K.moved (u := U) (U := U.calling g mk a) (Vm.Alike.refl U.vm) qK, EVS.blind g mk a qE⟩, gH_rc hK hT hr_o0 shm_0 rfl, fun U hU hW => ⟨rfl, hU, va_K.moved hW.alike hK, hE.call hS hFc hU hW⟩⟩ rfl rfl hl.1 rfl (lv_room (Nat.le_of_ble_eq_true rfl)) dX12_sumOf_2 ⟨(Nat.le_of_ble_eq_true rfl), (Nat.le_of_ble_eq_true rfl)⟩) hS (fun q _ h => hFc q h) hFc (fun u t H locs ht hvm hw2 hB _ _ hS => ?_)
  obtain ⟨hT, hF1⟩ := hB
  rw [ht] at hT hF1
  have hF := hF.more hF1 (by decide)
  try dsimp only at hw2
  refine lv_lconst (v := 0) hx hb dX12_sumOf_5 (by decide) ?_
  refine lv_lstore_n (lv' := [(3, .long 0), (0, .ref o0), (1, .int pe), (2, .int so)]) hx hb dX12_sumOf_6 rfl hl (by decide) rfl (fun ls hl => ?_)
  refine lv_iconst (v := 0) hx hb dX12_sumOf_7 (by decide) ?_
  refine lv_istore (lv' := [(5, .int 0), (3, .long 0), (0, .ref o0), (1, .int pe), (2, .int so)]) hx hb dX12_sumOf_8 hl (by decide) rfl (fun ls hl => ?_)
  have key36 : ∀ (n36 i3 : Nat), i3 + n36 = 20 → 0 ≤ i3 → ∀ (y4 : Int64), ∀ (H : Heap) (locs : List Loc), gH (dC, dI) kA (SHm q (wP wZ wN wH wB wC wL wK wU wV) PI im PM PT lS lB lE lN) G H → gF (dC, dI) SKm G ([(30, 0), (31, 0)] : List (Nat × Nat)) s.heap H → va_S A s.heap H locs → ∀ ls : Array Slot, lv_has ls 6 [(5, .int (nI i3)), (3, .long y4), (0, .ref o0), (1, .int pe), (2, .int so)] → W p l e (headSpec w_s_sumOf ({ frames := 5, cells := 0, slots := 0, locals := 109 })).room s m #[.ref o0, .int pe, .int so] below meth c H locs 0 0 (MQ below (va_Ql (fun (r : Int64) (u : Unit) => True) (fun (_ : Unit) (t : State) => gH (dC, dI) kA (SHm q (wP wZ wN wH wB wC wL wK wU wV) PI im PM PT lS lB lE lN) G t.heap ∧ gF (dC, dI) SKm G ([(30, 0), (31, 0)] : List (Nat × Nat)) s.heap t.heap) A) #[.ref o0, .int pe, .int so] s 0 0 A) (F0 m 10 ls []) := by
    intro n36
    induction n36 with
    | zero =>
      intro i3 hn36 hlo37 y4 H locs hT hF hS  ls hl
      obtain rfl : 20 = i3 := by omega
      refine lv_iload hx hb dX12_sumOf_10 (lv_at hl 0 rfl) ?_
      refine lv_aload_n hx hb dX12_sumOf_12 rfl (lv_at hl 2 rfl) ?_
      refine tw_get hx hb hts bF_X12 hown hK hT hr_o0 shm_0 rfl 18 (by decide) (ht_at hts 56 rfl) (fun _ h9 => h9) dX12_sumOf_13 (fun v9 m38 h9 => ?_)
      obtain ⟨rfl, hg39⟩ := h9 _ rfl
      refine lv_iconst (v := 0) hx hb dX12_sumOf_16 (by decide) ?_
      refine tw_iald (i := 0) hx hb hK hT hg39 shm_19 rfl (by unfold vp_in; decide) dX12_sumOf_17 (fun v9 m40 h9 => ?_)
      obtain ⟨x41, rfl, gx41, kx41⟩ := (gn_at h9)
      refine lv_icmp_ge (tgt := 67) hx hb dX12_sumOf_18 (by decide) (fun c42 => ?_) (fun c42 => (by exfalso; have q9 : ((20 : Nat) : Int) < x41.toInt := ti_nle c42 rfl (nI_toInt (by omega)); omega))
      have t43 : x41.toInt ≤ ((20 : Nat) : Int) := ti_le c42 rfl (nI_toInt (by omega))
      refine lv_lload_n hx hb dX12_sumOf_67 rfl (lv_at hl 1 rfl) ?_
      exact W.lret (v := y4) hx hb hr (fun t ht hW => ⟨⟨y4, (), rfl, (by exact trivial), by (try dsimp only); rw [ht]; exact ⟨hT, hF⟩⟩, hS.F ht⟩) hS.2.2 dX12_sumOf_68
    | succ n36 ih36 =>
      intro i3 hn36 hlo37 y4 H locs hT hF hS  ls hl
      have hlt43 : i3 < 20 := by omega
      refine lv_iload hx hb dX12_sumOf_10 (lv_at hl 0 rfl) ?_
      refine lv_aload_n hx hb dX12_sumOf_12 rfl (lv_at hl 2 rfl) ?_
      refine tw_get hx hb hts bF_X12 hown hK hT hr_o0 shm_0 rfl 18 (by decide) (ht_at hts 56 rfl) (fun _ h9 => h9) dX12_sumOf_13 (fun v9 m44 h9 => ?_)
      obtain ⟨rfl, hg45⟩ := h9 _ rfl
      refine lv_iconst (v := 0) hx hb dX12_sumOf_16 (by decide) ?_
      refine tw_iald (i := 0) hx hb hK hT hg45 shm_19 rfl (by unfold vp_in; decide) dX12_sumOf_17 (fun v9 m46 h9 => ?_)
      obtain ⟨x47, rfl, gx47, kx47⟩ := (gn_at h9)
      refine lv_icmp_ge (tgt := 67) hx hb dX12_sumOf_18 (by decide) (fun c48 => ?_) (fun c48 => ?_)
      · have t49 : x47.toInt ≤ ((i3 : Nat) : Int) := ti_le c48 rfl (nI_toInt (by omega))
        refine lv_lload_n hx hb dX12_sumOf_67 rfl (lv_at hl 1 rfl) ?_
        exact W.lret (v := y4) hx hb hr (fun t ht hW => ⟨⟨y4, (), rfl, (by exact trivial), by (try dsimp only); rw [ht]; exact ⟨hT, hF⟩⟩, hS.F ht⟩) hS.2.2 dX12_sumOf_68
      · have t50 : ((i3 : Nat) : Int) < x47.toInt := ti_nle c48 rfl (nI_toInt (by omega))
        refine lv_aload_n hx hb dX12_sumOf_21 rfl (lv_at hl 2 rfl) ?_
        refine tw_get hx hb hts bF_X12 hown hK hT hr_o0 shm_0 rfl 19 (by decide) (ht_at hts 57 rfl) (fun _ h9 => h9) dX12_sumOf_22 (fun v9 m51 h9 => ?_)
        obtain ⟨rfl, hg52⟩ := h9 _ rfl
        refine lv_iload hx hb dX12_sumOf_25 (lv_at hl 0 rfl) ?_
        refine tw_iald (i := (nI i3)) hx hb hK hT hg52 shm_20 rfl (vp_in_nI (by omega) (by decide)) dX12_sumOf_27 (fun v9 m53 h9 => ?_)
        obtain ⟨x54, rfl, gx54, kx54⟩ := h9
        refine lv_iload_n hx hb dX12_sumOf_28 rfl (lv_at hl 4 rfl) ?_
        refine lv_icmp_ne (tgt := 61) hx hb dX12_sumOf_29 (by decide) (fun c55 => ?_) (fun c55 => ?_)
        · have t56 : x54.toInt ≠ so.toInt := ti_ne c55 rfl rfl
          refine lv_iinc (v := nI (i3 + 1)) (lv' := [(5, .int (nI (i3 + 1))), (3, .long y4), (0, .ref o0), (1, .int pe), (2, .int so)]) hx hb dX12_sumOf_61 hl (k := 0) rfl (nI_add i3 1) (by decide) rfl (fun ls hl => ?_)
          refine lv_goto (tgt := 10) hx hb dX12_sumOf_64 (by decide) ?_
          exact ih36 (i3 + 1) (by omega) (by omega) y4 _ _ hT hF hS ls (lv_sub hl [0, 1, 2, 3, 4] rfl)
        · have t57 : x54.toInt = so.toInt := ti_eq c55 rfl rfl
          refine lv_aload_n hx hb dX12_sumOf_32 rfl (lv_at hl 2 rfl) ?_
          refine lv_iload hx hb dX12_sumOf_33 (lv_at hl 0 rfl) ?_
          have hFc := gA_free hG hA hS
          refine va_calli (va_runV (As := [.int (nI i3)]) (rest := []) ⟨hx, hb, hml, hown, hts⟩ (s_holds l dC dI kA adK adV G H q wZ wN wH wB wC wL wK wU wV PI im PM PT lS lB lE lN o0 (nI i3) hT hr_o0 (rg_t (a := ((i3 : Nat) : Int)) (nI_toInt (by omega)) (by omega) (by omega)) (by assumption) (by have q8 : x47.toInt ≤ lN 0 := (gq_at hT hg45 shm_19 (by decide) m46).2; have q9 := (show (nI i3).toInt = ((i3 : Nat) : Int) from (nI_toInt (by omega))); omega) hgz hgn hgh hgb hgc hgi hgu) (cwV 1 hts (goodIn_app (goodIn_r _ [68, 69, 70, 18] rfl (by decide +kernel)) (goodIn_ca (goodIn_r _ [59, 60, 61, 62, 63, 64, 65, 10, 66, 67, 2] rfl (by decide +kernel)) (bs_in _ _))) rfl rfl rfl (by decide +kernel) ⟨(Nat.le_of_ble_eq_true rfl), (Nat.le_of_ble_eq_true rfl)⟩) ⟨fun a U g mk q => by obtain ⟨q0, q1, qK, qE⟩ := q; exact ⟨q0, q1, va_K.moved (u := U) (U := U.calling g mk a) (Vm.Alike.refl U.vm) qK, EVS.blind g mk a qE⟩, gH_rc hK hT hr_o0 shm_0 rfl, fun U hU hW => ⟨rfl, hU, va_K.moved hW.alike hK, hE.call hS hFc hU hW⟩⟩ rfl rfl hl.1 rfl (lv_room (Nat.le_of_ble_eq_true rfl)) dX12_sumOf_35 ⟨(Nat.le_of_ble_eq_true rfl), (Nat.le_of_ble_eq_true rfl)⟩) hS (fun q _ h => hFc q h) hFc (fun r58 u t H locs ht hvm hw59 hB _ _ hS => ?_)
          obtain ⟨hT, hF1⟩ := hB
          rw [ht] at hT hF1
          have m60 := (el_kept (hF1.arr hg45 skm_19 (by decide))).trans m46
          have m61 := (el_kept (hF1.arr hg52 skm_20 (by decide))).trans m53
          have hF := hF.more hF1 (by decide)
          try dsimp only at hw59
          have h62 := hw59
          refine lv_if_eq (tgt := 61) hx hb dX12_sumOf_38 (by decide) (fun c63 => ?_) (fun c63 => ?_)
          · have t64 : r58.toInt = 0 := ti_eq c63 rfl (by decide)
            refine lv_iinc (v := nI (i3 + 1)) (lv' := [(5, .int (nI (i3 + 1))), (3, .long y4), (0, .ref o0), (1, .int pe), (2, .int so)]) hx hb dX12_sumOf_61 hl (k := 0) rfl (nI_add i3 1) (by decide) rfl (fun ls hl => ?_)
            refine lv_goto (tgt := 10) hx hb dX12_sumOf_64 (by decide) ?_
            exact ih36 (i3 + 1) (by omega) (by omega) y4 _ _ hT hF hS ls (lv_sub hl [0, 1, 2, 3, 4] rfl)
          · have t65 : r58.toInt ≠ 0 := ti_ne c63 rfl (by decide)
            refine lv_lload_n hx hb dX12_sumOf_41 rfl (lv_at hl 1 rfl) ?_
            refine lv_iload_n hx hb dX12_sumOf_42 rfl (lv_at hl 4 rfl) ?_
            refine lv_iconst (v := 5) hx hb dX12_sumOf_43 (by decide) ?_
            refine lv_icmp_ge (tgt := 58) hx hb dX12_sumOf_44 (by decide) (fun c66 => ?_) (fun c66 => ?_)
            · have t67 : 5 ≤ so.toInt := ti_le c66 (by decide) rfl
              refine lv_lconst (v := 1) hx hb dX12_sumOf_58 (by decide) ?_
              refine lv_ladd hx hb dX12_sumOf_59 ?_
              refine lv_topl (fun y68 _ => ?_)
              refine lv_lstore_n (lv' := [(3, .long y68), (5, .int (nI i3)), (0, .ref o0), (1, .int pe), (2, .int so)]) hx hb dX12_sumOf_60 rfl hl (by decide) rfl (fun ls hl => ?_)
              refine lv_iinc (v := nI (i3 + 1)) (lv' := [(5, .int (nI (i3 + 1))), (3, .long y68), (0, .ref o0), (1, .int pe), (2, .int so)]) hx hb dX12_sumOf_61 hl (k := 1) rfl (nI_add i3 1) (by decide) rfl (fun ls hl => ?_)
              refine lv_goto (tgt := 10) hx hb dX12_sumOf_64 (by decide) ?_
              exact ih36 (i3 + 1) (by omega) (by omega) y68 _ _ hT hF hS ls (lv_sub hl [0, 1, 2, 3, 4] rfl)
            · have t69 : so.toInt < 5 := ti_nle c66 (by decide) rfl
              refine lv_aload_n hx hb dX12_sumOf_47 rfl (lv_at hl 2 rfl) ?_
              refine tw_get hx hb hts bF_X12 hown hK hT hr_o0 shm_0 rfl 20 (by decide) (ht_at hts 70 rfl) (fun _ h9 => h9) dX12_sumOf_48 (fun v9 m70 h9 => ?_)
              obtain ⟨rfl, hg71⟩ := h9 _ rfl
              refine lv_iload hx hb dX12_sumOf_51 (lv_at hl 0 rfl) ?_
              refine tw_iald (i := (nI i3)) hx hb hK hT hg71 shm_21 rfl (vp_in_nI (by omega) (by decide)) dX12_sumOf_53 (fun v9 m72 h9 => ?_)
              obtain ⟨x73, rfl, gx73, kx73⟩ := h9
              refine lv_i2l (v := x73.toInt64) hx hb dX12_sumOf_54 rfl ?_
              refine lv_goto (tgt := 59) hx hb dX12_sumOf_55 (by decide) ?_
              refine lv_ladd hx hb dX12_sumOf_59 ?_
              refine lv_topl (fun y74 _ => ?_)
              refine lv_lstore_n (lv' := [(3, .long y74), (5, .int (nI i3)), (0, .ref o0), (1, .int pe), (2, .int so)]) hx hb dX12_sumOf_60 rfl hl (by decide) rfl (fun ls hl => ?_)
              refine lv_iinc (v := nI (i3 + 1)) (lv' := [(5, .int (nI (i3 + 1))), (3, .long y74), (0, .ref o0), (1, .int pe), (2, .int so)]) hx hb dX12_sumOf_61 hl (k := 1) rfl (nI_add i3 1) (by decide) rfl (fun ls hl => ?_)
              refine lv_goto (tgt := 10) hx hb dX12_sumOf_64 (by decide) ?_
              exact ih36 (i3 + 1) (by omega) (by omega) y74 _ _ hT hF hS ls (lv_sub hl [0, 1, 2, 3, 4] rfl)
  exact key36 (20 - 0) 0 (by omega) (Nat.le_refl _) 0 _ _ hT hF hS ls (lv_sub hl [0, 1, 2, 3, 4] rfl)
