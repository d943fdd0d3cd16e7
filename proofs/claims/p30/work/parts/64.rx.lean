def w_s_settlerE : List Cond := .code yX12_settler cX12_settler 9 (some .int) :: (HAppend.hAppend (α := List Cond) (β := List Cond) (γ := List Cond) [.fieldLink RX12 194 "SeaLandModel" "thrown" "I", .code yX12_in cX12_in 3 (some .boolean), .methodLink RX12 197 yX12_in, .static yX12_in, .initialized RX12, .code yX12_throwsIf cX12_throwsIf 3 (some .boolean), .methodLink RX12 224 yX12_throwsIf, .instanceMethod yX12_throwsIf, .selects RX12 yX12_throwsIf yX12_throwsIf, .constant RX12 241 100000, .constant RX12 501 999999, .fieldLink RX12 495 "SeaLandModel" "settlers" "I", .fieldLink RX12 79 "SeaLandModel" "age" "[I", .fieldLink RX12 82 "SeaLandModel" "sons" "[I", .fieldLink RX12 85 "SeaLandModel" "coin" "[I", .fieldLink RX12 88 "SeaLandModel" "cattle" "[I", .fieldLink RX12 91 "SeaLandModel" "isKin" "[Z", .fieldLink RX12 95 "SeaLandModel" "isBoard" "[Z", .fieldLink RX12 98 "SeaLandModel" "drawn" "[I", .fieldLink RX12 101 "SeaLandModel" "holds" "[I"] bs)
set_option maxHeartbeats 4000000 in
set_option maxRecDepth 100000 in
theorem s_settlerE (l : Launch) (dC : Nat → ClassId) (dI : Nat → Nat → Nat) (kA : Nat → ClassId) (adK adV : Nat → Nat) (G : gT) (H0 : Heap) (q : Nat → Nat) (wZ wN : Nat → Int) (wH wB wC : Int) (wL wK : Nat → Prop) (wU wV : Nat → Nat) (PI : Nat → Int → Prop) (im : Int) (PM PT : Nat → Int → Prop) (lS lB lE : Nat → Nat → Int → Prop) (lN : Nat → Int) (o0 : Nat) (p0 : Int32) (p1 : Int32) (p2 : Int32) (p3 : Int32) (p4 : Int32) (p5 : Int32) (p6 : Int32) (jn : Int32)  (hT : gH (dC, dI) kA (SHm q (wP wZ wN wH wB wC wL wK wU wV) PI im PM PT lS lB lE lN) G H0) (hr_o0 : G o0 = some 0) (hm_jn : el H0 o0 (dI 15 42) = some (.int jn)) (hq0 : 0 ≤ p4.toInt ∧ p4.toInt ≤ 1) (hq1 : 0 ≤ p5.toInt ∧ p5.toInt ≤ 1) (hq2 : 0 ≤ jn.toInt ∧ jn.toInt ≤ 60) (hgz : ∀ i, 0 ≤ wZ i) (hgn : ∀ i, 6500000 ≤ wN i ∧ wN i ≤ 20200000) (hgh : 0 ≤ wH ∧ wH ≤ 40000) (hgb : 0 ≤ wB ∧ wB ≤ 3850000) (hgc : 0 ≤ wC ∧ wC ≤ 30) (hgi : 0 ≤ im ∧ im ≤ 1) (hgu : ∀ a t, G a = some (t + 1) → a = q t) : Met l yX12_settler w_s_settlerE ({ frames := 1, cells := 0, slots := 0, locals := 22 }) (va_Pc [.ref o0, .int p0, .int p1, .int p2, .int p3, .int p4, .int p5, .int p6] (fun U => U.heap = H0 ∧ va_K (dC, dI) vwCl (tyl kA) U ∧ EVS adK adV (gA G H0.size) U U.heap)) (va_Qi (fun (r : Int32) (u : Int32 × Int32) => match u with | (t1, j1) => (0 ≤ r.toInt ∧ r.toInt ≤ 59) ∧ (((0 ≤ p0.toInt ∧ p0.toInt ≤ 99 ∧ 0 ≤ p1.toInt ∧ p1.toInt ≤ 20 ∧ 0 ≤ p2.toInt ∧ p2.toInt ≤ 100000 ∧ 0 ≤ p3.toInt ∧ p3.toInt ≤ 100 ∧ 0 ≤ p6.toInt ∧ p6.toInt ≤ 999999) ∧ t1.toInt = 0 ∧ jn.toInt ≤ 59 ∧ r.toInt = jn.toInt ∧ j1.toInt = jn.toInt + 1) ∨ (¬ (0 ≤ p0.toInt ∧ p0.toInt ≤ 99 ∧ 0 ≤ p1.toInt ∧ p1.toInt ≤ 20 ∧ 0 ≤ p2.toInt ∧ p2.toInt ≤ 100000 ∧ 0 ≤ p3.toInt ∧ p3.toInt ≤ 100 ∧ 0 ≤ p6.toInt ∧ p6.toInt ≤ 999999) ∧ t1.toInt = 1 ∧ j1.toInt = jn.toInt) ∨ ((0 ≤ p0.toInt ∧ p0.toInt ≤ 99 ∧ 0 ≤ p1.toInt ∧ p1.toInt ≤ 20 ∧ 0 ≤ p2.toInt ∧ p2.toInt ≤ 100000 ∧ 0 ≤ p3.toInt ∧ p3.toInt ≤ 100 ∧ 0 ≤ p6.toInt ∧ p6.toInt ≤ 999999) ∧ jn.toInt = 60 ∧ t1.toInt = 2 ∧ j1.toInt = jn.toInt))) (fun (u : Int32 × Int32) (t : State) => match u with | (t1, j1) => gH (dC, dI) kA (SHm q (wP wZ wN wH wB wC wL wK wU wV) PI im PM PT lS lB lE lN) G t.heap ∧ gF (dC, dI) SKm G ([(0, 0), (0, 42), (32, 0), (33, 0), (34, 0), (35, 0), (36, 0), (37, 0), (38, 0), (39, 0)] : List (Nat × Nat)) H0 t.heap ∧ el t.heap o0 (dI 15 0) = some (.int t1) ∧ el t.heap o0 (dI 15 42) = some (.int j1)) (gA G H0.size)) 0 0 (gA G H0.size) := by
  refine Met.ofW (cc := cX12_settler) (maxL := 9) (ret := (some .int)) (by decide) rfl ?_
  intro p e s m args below meth c s₁ B hml hv
  obtain ⟨rfl, hH0, hK, hE⟩ := hv
  have hx := B.exec
  have hb := B.bytes
  have hr := B.returns
  have hts := atoms_spec (ws := w_s_settlerE) B.pre
  have hown : s.vm.findClass RX12 = some m.cls := findClass_of_methodNamed B.named
  have hlocks := B.notSynchronized
  subst hH0
  generalize hAe : gA G s.heap.size = A at hE ⊢
  have hA : ∀ q : Nat, s.heap.size ≤ q → A q := fun q h => by rw [← hAe]; exact Or.inr h
  have hG := gA_of hAe
  have hS : va_S A s.heap s.heap [] := va_S.rf
  have hF : gF (dC, dI) SKm G ([(0, 0), (0, 42), (32, 0), (33, 0), (34, 0), (35, 0), (36, 0), (37, 0), (38, 0), (39, 0)] : List (Nat × Nat)) s.heap s.heap := gF.rf
  have hl := lv_entry ([.ref o0, .int p0, .int p1, .int p2, .int p3, .int p4, .int p5, .int p6]) (n := 9) (Nat.le_of_ble_eq_true rfl)
  rw [lg_entry_eq]
  generalize (lg_sl ([.ref o0, .int p0, .int p1, .int p2, .int p3, .int p4, .int p5, .int p6]) ++ List.replicate (9 - (lg_sl ([.ref o0, .int p0, .int p1, .int p2, .int p3, .int p4, .int p5, .int p6])).length) Slot.unset).toArray = ls at hl ⊢
  have hl : lv_has ls 9 [(0, .ref o0), (1, .int p0), (2, .int p1), (3, .int p2), (4, .int p3), (5, .int p4), (6, .int p5), (7, .int p6)] := hl
  refine lv_aload_n hx hb dX12_settler_0 rfl (lv_at hl 0 rfl) ?_
  refine lv_iconst (v := 0) hx hb dX12_settler_1 (by decide) ?_
  refine tw_put (v := .int 0) (ty := .int) hx hb hts bF_X12 tyX12 tyX12_ok nmX12 hown hK hT hG hS hr_o0 shm_0 rfl 0 (by decide) (ht_at hts 0 rfl) (fun _ h9 => h9) rfl (by decide +kernel) rfl rfl (gl_at rfl (gi_all _)) dX12_settler_2 (fun H locs hT oq m1 oj hS => ?_)
  have hF := hF.put hr_o0 skm_0 oq oj (by decide)
  have m2 := (oj 42 (by decide) (by decide)).trans hm_jn
  refine lv_aload_n hx hb dX12_settler_5 rfl (lv_at hl 0 rfl) ?_
  refine lv_iload_n hx hb dX12_settler_6 rfl (lv_at hl 1 rfl) ?_
  refine lv_iconst (v := 0) hx hb dX12_settler_7 (by decide) ?_
  refine lv_bipush (v := 99) hx hb dX12_settler_8 (by decide) ?_
  have hFc := gA_free hG hA hS
  refine va_calli (va_runS (As := [.int p0, .int 0, .int 99]) (rest := [.ref o0]) ⟨hx, hb, hml, hown, hts⟩ (s_in l dC dI kA adK adV G H q wZ wN wH wB wC wL wK wU wV PI im PM PT lS lB lE lN p0 0 99 hT hgz hgn hgh hgb hgc hgi hgu) (va_cwS 3 hts (goodIn_app (goodIn_r _ [3, 4, 5] rfl (by decide +kernel)) (goodIn_ca (goodIn_r _ [2] rfl (by decide +kernel)) (bs_in _ _))) rfl rfl rfl (by decide +kernel) ⟨(Nat.le_of_ble_eq_true rfl), (Nat.le_of_ble_eq_true rfl)⟩) ⟨fun a U g mk q => by obtain ⟨q0, q1, qK, qE⟩ := q; exact ⟨q0, q1, va_K.moved (u := U) (U := U.calling g mk a) (Vm.Alike.refl U.vm) qK, EVS.blind g mk a qE⟩, fun U hU hW => ⟨rfl, hU, va_K.moved hW.alike hK, hE.call hS hFc hU hW⟩⟩ rfl rfl hl.1 rfl (lv_room (Nat.le_of_ble_eq_true rfl)) dX12_settler_10 ⟨(Nat.le_of_ble_eq_true rfl), (Nat.le_of_ble_eq_true rfl)⟩) hS (fun q _ h => hFc q h) hFc (fun r3 u t H locs ht hvm hw4 hB _ _ hS => ?_)
  obtain ⟨hT, hF1⟩ := hB
  rw [ht] at hT hF1
  have m5 := (hF1.fld hr_o0 skm_0 (k := 42) (by decide) (by decide)).trans m2
  have m6 := (hF1.fld hr_o0 skm_0 (k := 0) (by decide) (by decide)).trans m1
  have hF := hF.more hF1 (by decide)
  try dsimp only at hw4
  obtain ⟨h7, hi8, hi9⟩ := hw4
  refine lv_if_eq (tgt := 59) hx hb dX12_settler_13 (by decide) (fun c10 => ?_) (fun c10 => ?_)
  · have t11 : r3.toInt = 0 := ti_eq c10 rfl (by decide)
    have t12 : (0 : Int32).toInt = 0 := by decide
    have t13 : (99 : Int32).toInt = 99 := by decide
    have t14 : p0.toInt < (0 : Int32).toInt ∨ (99 : Int32).toInt < p0.toInt := hi9 c10
    refine lv_iconst (v := 1) hx hb dX12_settler_59 (by decide) ?_
    refine lv_goto (tgt := 64) hx hb dX12_settler_60 (by decide) ?_
    refine lv_iconst (v := 1) hx hb dX12_settler_64 (by decide) ?_
    have hFc := gA_free hG hA hS
    refine va_calli (va_runV (As := [.int 1, .int 1]) (rest := []) ⟨hx, hb, hml, hown, hts⟩ (s_throwsIfP l dC dI kA adK adV G H q wZ wN wH wB wC wL wK wU wV PI im PM PT lS lB lE lN o0 1 1 0 hT hr_o0 m6 (rg_t (a := 1) (by decide) (by omega) (by omega)) hgz hgn hgh hgb hgc hgi hgu) (cwV 2 hts (goodIn_app (goodIn_r _ [7, 8, 9, 5] rfl (by decide +kernel)) (goodIn_ca (goodIn_r _ [6, 1] rfl (by decide +kernel)) (bs_in _ _))) rfl rfl rfl (by decide +kernel) ⟨(Nat.le_of_ble_eq_true rfl), (Nat.le_of_ble_eq_true rfl)⟩) ⟨fun a U g mk q => by obtain ⟨q0, q1, qK, qE⟩ := q; exact ⟨q0, q1, va_K.moved (u := U) (U := U.calling g mk a) (Vm.Alike.refl U.vm) qK, EVS.blind g mk a qE⟩, gH_recv hK hT hr_o0 shm_0 rfl, fun U hU hW => ⟨rfl, hU, va_K.moved hW.alike hK, hE.call hS hFc hU hW⟩⟩ rfl rfl hl.1 rfl (lv_room (Nat.le_of_ble_eq_true rfl)) dX12_settler_65 ⟨(Nat.le_of_ble_eq_true rfl), (Nat.le_of_ble_eq_true rfl)⟩) hS (fun q _ h => hFc q h) hFc (fun r15 u t H locs ht hvm hw16 hB _ _ hS => ?_)
    obtain ⟨u17, rfl⟩ : ∃ z, z = u := ⟨_, rfl⟩
    obtain ⟨hT, hF1, m18⟩ := hB
    rw [ht] at hT hF1 m18
    have m19 := (hF1.fld hr_o0 skm_0 (k := 42) (by decide) (by decide)).trans m5
    have hF := hF.more hF1 (by decide)
    try dsimp only at hw16
    obtain ⟨h21, hf22, hd23⟩ := hw16
    have t24 : (1 : Int32).toInt = 1 := by decide
    have t25 : (1 : Int32).toInt = 1 := by decide
    have t26 : (0 : Int32).toInt = 0 := by decide
    obtain rfl : (1 : Int32) = r15 := hd23.symm
    refine lv_if_ne (tgt := 93) hx hb dX12_settler_68 (by decide) (fun c27 => ?_) (fun c27 => absurd c27 (by decide))
    refine lv_iconst (v := 0) hx hb dX12_settler_93 (by decide) ?_
    exact W.iret (v := 0) hx hb hr (fun t ht hW => ⟨⟨0, (u17, jn), rfl, (by exact ⟨(rg_t (a := 0) (by decide) (by omega) (by omega)), (by have : (0 : Int32).toInt = 0 := (by decide); omega)⟩), by (try dsimp only); rw [ht]; exact ⟨hT, hF, m18, m19⟩⟩, hS.F ht⟩) hS.2.2 dX12_settler_94
  · have t28 : r3.toInt ≠ 0 := ti_ne c10 rfl (by decide)
    have t29 : (0 : Int32).toInt = 0 := by decide
    have t30 : (99 : Int32).toInt = 99 := by decide
    have t31 : (0 : Int32).toInt ≤ p0.toInt ∧ p0.toInt ≤ (99 : Int32).toInt := hi8 ((bit_of ⟨by omega, by omega⟩).resolve_left c10)
    refine lv_iload_n hx hb dX12_settler_16 rfl (lv_at hl 2 rfl) ?_
    refine lv_iconst (v := 0) hx hb dX12_settler_17 (by decide) ?_
    refine lv_bipush (v := 20) hx hb dX12_settler_18 (by decide) ?_
    have hFc := gA_free hG hA hS
    refine va_calli (va_runS (As := [.int p1, .int 0, .int 20]) (rest := [.ref o0]) ⟨hx, hb, hml, hown, hts⟩ (s_in l dC dI kA adK adV G H q wZ wN wH wB wC wL wK wU wV PI im PM PT lS lB lE lN p1 0 20 hT hgz hgn hgh hgb hgc hgi hgu) (va_cwS 3 hts (goodIn_app (goodIn_r _ [3, 4, 5] rfl (by decide +kernel)) (goodIn_ca (goodIn_r _ [2] rfl (by decide +kernel)) (bs_in _ _))) rfl rfl rfl (by decide +kernel) ⟨(Nat.le_of_ble_eq_true rfl), (Nat.le_of_ble_eq_true rfl)⟩) ⟨fun a U g mk q => by obtain ⟨q0, q1, qK, qE⟩ := q; exact ⟨q0, q1, va_K.moved (u := U) (U := U.calling g mk a) (Vm.Alike.refl U.vm) qK, EVS.blind g mk a qE⟩, fun U hU hW => ⟨rfl, hU, va_K.moved hW.alike hK, hE.call hS hFc hU hW⟩⟩ rfl rfl hl.1 rfl (lv_room (Nat.le_of_ble_eq_true rfl)) dX12_settler_20 ⟨(Nat.le_of_ble_eq_true rfl), (Nat.le_of_ble_eq_true rfl)⟩) hS (fun q _ h => hFc q h) hFc (fun r32 u t H locs ht hvm hw33 hB _ _ hS => ?_)
    obtain ⟨hT, hF1⟩ := hB
    rw [ht] at hT hF1
    have m34 := (hF1.fld hr_o0 skm_0 (k := 42) (by decide) (by decide)).trans m5
    have m35 := (hF1.fld hr_o0 skm_0 (k := 0) (by decide) (by decide)).trans m6
    have hF := hF.more hF1 (by decide)
    try dsimp only at hw33
    obtain ⟨h36, hi37, hi38⟩ := hw33
    refine lv_if_eq (tgt := 59) hx hb dX12_settler_23 (by decide) (fun c39 => ?_) (fun c39 => ?_)
    · have t40 : r32.toInt = 0 := ti_eq c39 rfl (by decide)
      have t41 : (0 : Int32).toInt = 0 := by decide
      have t42 : (20 : Int32).toInt = 20 := by decide
      have t43 : p1.toInt < (0 : Int32).toInt ∨ (20 : Int32).toInt < p1.toInt := hi38 c39
      refine lv_iconst (v := 1) hx hb dX12_settler_59 (by decide) ?_
      refine lv_goto (tgt := 64) hx hb dX12_settler_60 (by decide) ?_
      refine lv_iconst (v := 1) hx hb dX12_settler_64 (by decide) ?_
      have hFc := gA_free hG hA hS
      refine va_calli (va_runV (As := [.int 1, .int 1]) (rest := []) ⟨hx, hb, hml, hown, hts⟩ (s_throwsIfP l dC dI kA adK adV G H q wZ wN wH wB wC wL wK wU wV PI im PM PT lS lB lE lN o0 1 1 0 hT hr_o0 m35 (rg_t (a := 1) (by decide) (by omega) (by omega)) hgz hgn hgh hgb hgc hgi hgu) (cwV 2 hts (goodIn_app (goodIn_r _ [7, 8, 9, 5] rfl (by decide +kernel)) (goodIn_ca (goodIn_r _ [6, 1] rfl (by decide +kernel)) (bs_in _ _))) rfl rfl rfl (by decide +kernel) ⟨(Nat.le_of_ble_eq_true rfl), (Nat.le_of_ble_eq_true rfl)⟩) ⟨fun a U g mk q => by obtain ⟨q0, q1, qK, qE⟩ := q; exact ⟨q0, q1, va_K.moved (u := U) (U := U.calling g mk a) (Vm.Alike.refl U.vm) qK, EVS.blind g mk a qE⟩, gH_recv hK hT hr_o0 shm_0 rfl, fun U hU hW => ⟨rfl, hU, va_K.moved hW.alike hK, hE.call hS hFc hU hW⟩⟩ rfl rfl hl.1 rfl (lv_room (Nat.le_of_ble_eq_true rfl)) dX12_settler_65 ⟨(Nat.le_of_ble_eq_true rfl), (Nat.le_of_ble_eq_true rfl)⟩) hS (fun q _ h => hFc q h) hFc (fun r44 u t H locs ht hvm hw45 hB _ _ hS => ?_)
      obtain ⟨u46, rfl⟩ : ∃ z, z = u := ⟨_, rfl⟩
      obtain ⟨hT, hF1, m47⟩ := hB
      rw [ht] at hT hF1 m47
      have m48 := (hF1.fld hr_o0 skm_0 (k := 42) (by decide) (by decide)).trans m34
      have hF := hF.more hF1 (by decide)
      try dsimp only at hw45
      obtain ⟨h50, hf51, hd52⟩ := hw45
      have t53 : (1 : Int32).toInt = 1 := by decide
      have t54 : (1 : Int32).toInt = 1 := by decide
      have t55 : (0 : Int32).toInt = 0 := by decide
      obtain rfl : (1 : Int32) = r44 := hd52.symm
      refine lv_if_ne (tgt := 93) hx hb dX12_settler_68 (by decide) (fun c56 => ?_) (fun c56 => absurd c56 (by decide))
      refine lv_iconst (v := 0) hx hb dX12_settler_93 (by decide) ?_
      exact W.iret (v := 0) hx hb hr (fun t ht hW => ⟨⟨0, (u46, jn), rfl, (by exact ⟨(rg_t (a := 0) (by decide) (by omega) (by omega)), (by have : (0 : Int32).toInt = 0 := (by decide); omega)⟩), by (try dsimp only); rw [ht]; exact ⟨hT, hF, m47, m48⟩⟩, hS.F ht⟩) hS.2.2 dX12_settler_94
    · have t57 : r32.toInt ≠ 0 := ti_ne c39 rfl (by decide)
      have t58 : (0 : Int32).toInt = 0 := by decide
      have t59 : (20 : Int32).toInt = 20 := by decide
      have t60 : (0 : Int32).toInt ≤ p1.toInt ∧ p1.toInt ≤ (20 : Int32).toInt := hi37 ((bit_of ⟨by omega, by omega⟩).resolve_left c39)
      refine lv_iload_n hx hb dX12_settler_26 rfl (lv_at hl 3 rfl) ?_
      refine lv_iconst (v := 0) hx hb dX12_settler_27 (by decide) ?_
      refine lv_ldc (v := 100000) hx hb hown (ht_at hts 9 rfl) dX12_settler_28 ?_
      have hFc := gA_free hG hA hS
      refine va_calli (va_runS (As := [.int p2, .int 0, .int 100000]) (rest := [.ref o0]) ⟨hx, hb, hml, hown, hts⟩ (s_in l dC dI kA adK adV G H q wZ wN wH wB wC wL wK wU wV PI im PM PT lS lB lE lN p2 0 100000 hT hgz hgn hgh hgb hgc hgi hgu) (va_cwS 3 hts (goodIn_app (goodIn_r _ [3, 4, 5] rfl (by decide +kernel)) (goodIn_ca (goodIn_r _ [2] rfl (by decide +kernel)) (bs_in _ _))) rfl rfl rfl (by decide +kernel) ⟨(Nat.le_of_ble_eq_true rfl), (Nat.le_of_ble_eq_true rfl)⟩) ⟨fun a U g mk q => by obtain ⟨q0, q1, qK, qE⟩ := q; exact ⟨q0, q1, va_K.moved (u := U) (U := U.calling g mk a) (Vm.Alike.refl U.vm) qK, EVS.blind g mk a qE⟩, fun U hU hW => ⟨rfl, hU, va_K.moved hW.alike hK, hE.call hS hFc hU hW⟩⟩ rfl rfl hl.1 rfl (lv_room (Nat.le_of_ble_eq_true rfl)) dX12_settler_30 ⟨(Nat.le_of_ble_eq_true rfl), (Nat.le_of_ble_eq_true rfl)⟩) hS (fun q _ h => hFc q h) hFc (fun r61 u t H locs ht hvm hw62 hB _ _ hS => ?_)
      obtain ⟨hT, hF1⟩ := hB
      rw [ht] at hT hF1
      have m63 := (hF1.fld hr_o0 skm_0 (k := 42) (by decide) (by decide)).trans m34
      have m64 := (hF1.fld hr_o0 skm_0 (k := 0) (by decide) (by decide)).trans m35
      have hF := hF.more hF1 (by decide)
      try dsimp only at hw62
      obtain ⟨h65, hi66, hi67⟩ := hw62
      refine lv_if_eq (tgt := 59) hx hb dX12_settler_33 (by decide) (fun c68 => ?_) (fun c68 => ?_)
      · have t69 : r61.toInt = 0 := ti_eq c68 rfl (by decide)
        have t70 : (0 : Int32).toInt = 0 := by decide
        have t71 : (100000 : Int32).toInt = 100000 := by decide
        have t72 : p2.toInt < (0 : Int32).toInt ∨ (100000 : Int32).toInt < p2.toInt := hi67 c68
        refine lv_iconst (v := 1) hx hb dX12_settler_59 (by decide) ?_
        refine lv_goto (tgt := 64) hx hb dX12_settler_60 (by decide) ?_
        refine lv_iconst (v := 1) hx hb dX12_settler_64 (by decide) ?_
        have hFc := gA_free hG hA hS
        refine va_calli (va_runV (As := [.int 1, .int 1]) (rest := []) ⟨hx, hb, hml, hown, hts⟩ (s_throwsIfP l dC dI kA adK adV G H q wZ wN wH wB wC wL wK wU wV PI im PM PT lS lB lE lN o0 1 1 0 hT hr_o0 m64 (rg_t (a := 1) (by decide) (by omega) (by omega)) hgz hgn hgh hgb hgc hgi hgu) (cwV 2 hts (goodIn_app (goodIn_r _ [7, 8, 9, 5] rfl (by decide +kernel)) (goodIn_ca (goodIn_r _ [6, 1] rfl (by decide +kernel)) (bs_in _ _))) rfl rfl rfl (by decide +kernel) ⟨(Nat.le_of_ble_eq_true rfl), (Nat.le_of_ble_eq_true rfl)⟩) ⟨fun a U g mk q => by obtain ⟨q0, q1, qK, qE⟩ := q; exact ⟨q0, q1, va_K.moved (u := U) (U := U.calling g mk a) (Vm.Alike.refl U.vm) qK, EVS.blind g mk a qE⟩, gH_recv hK hT hr_o0 shm_0 rfl, fun U hU hW => ⟨rfl, hU, va_K.moved hW.alike hK, hE.call hS hFc hU hW⟩⟩ rfl rfl hl.1 rfl (lv_room (Nat.le_of_ble_eq_true rfl)) dX12_settler_65 ⟨(Nat.le_of_ble_eq_true rfl), (Nat.le_of_ble_eq_true rfl)⟩) hS (fun q _ h => hFc q h) hFc (fun r73 u t H locs ht hvm hw74 hB _ _ hS => ?_)
        obtain ⟨u75, rfl⟩ : ∃ z, z = u := ⟨_, rfl⟩
        obtain ⟨hT, hF1, m76⟩ := hB
        rw [ht] at hT hF1 m76
        have m77 := (hF1.fld hr_o0 skm_0 (k := 42) (by decide) (by decide)).trans m63
        have hF := hF.more hF1 (by decide)
        try dsimp only at hw74
        obtain ⟨h79, hf80, hd81⟩ := hw74
        have t82 : (1 : Int32).toInt = 1 := by decide
        have t83 : (1 : Int32).toInt = 1 := by decide
        have t84 : (0 : Int32).toInt = 0 := by decide
        obtain rfl : (1 : Int32) = r73 := hd81.symm
        refine lv_if_ne (tgt := 93) hx hb dX12_settler_68 (by decide) (fun c85 => ?_) (fun c85 => absurd c85 (by decide))
        refine lv_iconst (v := 0) hx hb dX12_settler_93 (by decide) ?_
        exact W.iret (v := 0) hx hb hr (fun t ht hW => ⟨⟨0, (u75, jn), rfl, (by exact ⟨(rg_t (a := 0) (by decide) (by omega) (by omega)), (by have : (0 : Int32).toInt = 0 := (by decide); omega)⟩), by (try dsimp only); rw [ht]; exact ⟨hT, hF, m76, m77⟩⟩, hS.F ht⟩) hS.2.2 dX12_settler_94
      · have t86 : r61.toInt ≠ 0 := ti_ne c68 rfl (by decide)
        have t87 : (0 : Int32).toInt = 0 := by decide
        have t88 : (100000 : Int32).toInt = 100000 := by decide
        have t89 : (0 : Int32).toInt ≤ p2.toInt ∧ p2.toInt ≤ (100000 : Int32).toInt := hi66 ((bit_of ⟨by omega, by omega⟩).resolve_left c68)
        refine lv_iload hx hb dX12_settler_36 (lv_at hl 4 rfl) ?_
        refine lv_iconst (v := 0) hx hb dX12_settler_38 (by decide) ?_
        refine lv_bipush (v := 100) hx hb dX12_settler_39 (by decide) ?_
        have hFc := gA_free hG hA hS
        refine va_calli (va_runS (As := [.int p3, .int 0, .int 100]) (rest := [.ref o0]) ⟨hx, hb, hml, hown, hts⟩ (s_in l dC dI kA adK adV G H q wZ wN wH wB wC wL wK wU wV PI im PM PT lS lB lE lN p3 0 100 hT hgz hgn hgh hgb hgc hgi hgu) (va_cwS 3 hts (goodIn_app (goodIn_r _ [3, 4, 5] rfl (by decide +kernel)) (goodIn_ca (goodIn_r _ [2] rfl (by decide +kernel)) (bs_in _ _))) rfl rfl rfl (by decide +kernel) ⟨(Nat.le_of_ble_eq_true rfl), (Nat.le_of_ble_eq_true rfl)⟩) ⟨fun a U g mk q => by obtain ⟨q0, q1, qK, qE⟩ := q; exact ⟨q0, q1, va_K.moved (u := U) (U := U.calling g mk a) (Vm.Alike.refl U.vm) qK, EVS.blind g mk a qE⟩, fun U hU hW => ⟨rfl, hU, va_K.moved hW.alike hK, hE.call hS hFc hU hW⟩⟩ rfl rfl hl.1 rfl (lv_room (Nat.le_of_ble_eq_true rfl)) dX12_settler_41 ⟨(Nat.le_of_ble_eq_true rfl), (Nat.le_of_ble_eq_true rfl)⟩) hS (fun q _ h => hFc q h) hFc (fun r90 u t H locs ht hvm hw91 hB _ _ hS => ?_)
        obtain ⟨hT, hF1⟩ := hB
        rw [ht] at hT hF1
        have m92 := (hF1.fld hr_o0 skm_0 (k := 42) (by decide) (by decide)).trans m63
        have m93 := (hF1.fld hr_o0 skm_0 (k := 0) (by decide) (by decide)).trans m64
        have hF := hF.more hF1 (by decide)
        try dsimp only at hw91
        obtain ⟨h94, hi95, hi96⟩ := hw91
        refine lv_if_eq (tgt := 59) hx hb dX12_settler_44 (by decide) (fun c97 => ?_) (fun c97 => ?_)
        · have t98 : r90.toInt = 0 := ti_eq c97 rfl (by decide)
          have t99 : (0 : Int32).toInt = 0 := by decide
          have t100 : (100 : Int32).toInt = 100 := by decide
          have t101 : p3.toInt < (0 : Int32).toInt ∨ (100 : Int32).toInt < p3.toInt := hi96 c97
          refine lv_iconst (v := 1) hx hb dX12_settler_59 (by decide) ?_
          refine lv_goto (tgt := 64) hx hb dX12_settler_60 (by decide) ?_
          refine lv_iconst (v := 1) hx hb dX12_settler_64 (by decide) ?_
          have hFc := gA_free hG hA hS
          refine va_calli (va_runV (As := [.int 1, .int 1]) (rest := []) ⟨hx, hb, hml, hown, hts⟩ (s_throwsIfP l dC dI kA adK adV G H q wZ wN wH wB wC wL wK wU wV PI im PM PT lS lB lE lN o0 1 1 0 hT hr_o0 m93 (rg_t (a := 1) (by decide) (by omega) (by omega)) hgz hgn hgh hgb hgc hgi hgu) (cwV 2 hts (goodIn_app (goodIn_r _ [7, 8, 9, 5] rfl (by decide +kernel)) (goodIn_ca (goodIn_r _ [6, 1] rfl (by decide +kernel)) (bs_in _ _))) rfl rfl rfl (by decide +kernel) ⟨(Nat.le_of_ble_eq_true rfl), (Nat.le_of_ble_eq_true rfl)⟩) ⟨fun a U g mk q => by obtain ⟨q0, q1, qK, qE⟩ := q; exact ⟨q0, q1, va_K.moved (u := U) (U := U.calling g mk a) (Vm.Alike.refl U.vm) qK, EVS.blind g mk a qE⟩, gH_recv hK hT hr_o0 shm_0 rfl, fun U hU hW => ⟨rfl, hU, va_K.moved hW.alike hK, hE.call hS hFc hU hW⟩⟩ rfl rfl hl.1 rfl (lv_room (Nat.le_of_ble_eq_true rfl)) dX12_settler_65 ⟨(Nat.le_of_ble_eq_true rfl), (Nat.le_of_ble_eq_true rfl)⟩) hS (fun q _ h => hFc q h) hFc (fun r102 u t H locs ht hvm hw103 hB _ _ hS => ?_)
          obtain ⟨u104, rfl⟩ : ∃ z, z = u := ⟨_, rfl⟩
          obtain ⟨hT, hF1, m105⟩ := hB
          rw [ht] at hT hF1 m105
          have m106 := (hF1.fld hr_o0 skm_0 (k := 42) (by decide) (by decide)).trans m92
          have hF := hF.more hF1 (by decide)
          try dsimp only at hw103
          obtain ⟨h108, hf109, hd110⟩ := hw103
          have t111 : (1 : Int32).toInt = 1 := by decide
          have t112 : (1 : Int32).toInt = 1 := by decide
          have t113 : (0 : Int32).toInt = 0 := by decide
          obtain rfl : (1 : Int32) = r102 := hd110.symm
          refine lv_if_ne (tgt := 93) hx hb dX12_settler_68 (by decide) (fun c114 => ?_) (fun c114 => absurd c114 (by decide))
          refine lv_iconst (v := 0) hx hb dX12_settler_93 (by decide) ?_
          exact W.iret (v := 0) hx hb hr (fun t ht hW => ⟨⟨0, (u104, jn), rfl, (by exact ⟨(rg_t (a := 0) (by decide) (by omega) (by omega)), (by have : (0 : Int32).toInt = 0 := (by decide); omega)⟩), by (try dsimp only); rw [ht]; exact ⟨hT, hF, m105, m106⟩⟩, hS.F ht⟩) hS.2.2 dX12_settler_94
        · have t115 : r90.toInt ≠ 0 := ti_ne c97 rfl (by decide)
          have t116 : (0 : Int32).toInt = 0 := by decide
          have t117 : (100 : Int32).toInt = 100 := by decide
          have t118 : (0 : Int32).toInt ≤ p3.toInt ∧ p3.toInt ≤ (100 : Int32).toInt := hi95 ((bit_of ⟨by omega, by omega⟩).resolve_left c97)
          refine lv_iload hx hb dX12_settler_47 (lv_at hl 7 rfl) ?_
          refine lv_iconst (v := 0) hx hb dX12_settler_49 (by decide) ?_
          refine lv_ldcw (v := 999999) hx hb hown (ht_at hts 10 rfl) dX12_settler_50 ?_
          have hFc := gA_free hG hA hS
          refine va_calli (va_runS (As := [.int p6, .int 0, .int 999999]) (rest := [.ref o0]) ⟨hx, hb, hml, hown, hts⟩ (s_in l dC dI kA adK adV G H q wZ wN wH wB wC wL wK wU wV PI im PM PT lS lB lE lN p6 0 999999 hT hgz hgn hgh hgb hgc hgi hgu) (va_cwS 3 hts (goodIn_app (goodIn_r _ [3, 4, 5] rfl (by decide +kernel)) (goodIn_ca (goodIn_r _ [2] rfl (by decide +kernel)) (bs_in _ _))) rfl rfl rfl (by decide +kernel) ⟨(Nat.le_of_ble_eq_true rfl), (Nat.le_of_ble_eq_true rfl)⟩) ⟨fun a U g mk q => by obtain ⟨q0, q1, qK, qE⟩ := q; exact ⟨q0, q1, va_K.moved (u := U) (U := U.calling g mk a) (Vm.Alike.refl U.vm) qK, EVS.blind g mk a qE⟩, fun U hU hW => ⟨rfl, hU, va_K.moved hW.alike hK, hE.call hS hFc hU hW⟩⟩ rfl rfl hl.1 rfl (lv_room (Nat.le_of_ble_eq_true rfl)) dX12_settler_53 ⟨(Nat.le_of_ble_eq_true rfl), (Nat.le_of_ble_eq_true rfl)⟩) hS (fun q _ h => hFc q h) hFc (fun r119 u t H locs ht hvm hw120 hB _ _ hS => ?_)
          obtain ⟨hT, hF1⟩ := hB
          rw [ht] at hT hF1
          have m121 := (hF1.fld hr_o0 skm_0 (k := 42) (by decide) (by decide)).trans m92
          have m122 := (hF1.fld hr_o0 skm_0 (k := 0) (by decide) (by decide)).trans m93
          have hF := hF.more hF1 (by decide)
          try dsimp only at hw120
          obtain ⟨h123, hi124, hi125⟩ := hw120
          refine lv_if_ne (tgt := 63) hx hb dX12_settler_56 (by decide) (fun c126 => ?_) (fun c126 => ?_)
          · have t127 : r119.toInt ≠ 0 := ti_ne c126 rfl (by decide)
            have t128 : (0 : Int32).toInt = 0 := by decide
            have t129 : (999999 : Int32).toInt = 999999 := by decide
            have t130 : (0 : Int32).toInt ≤ p6.toInt ∧ p6.toInt ≤ (999999 : Int32).toInt := hi124 ((bit_of ⟨by omega, by omega⟩).resolve_left c126)
            refine lv_iconst (v := 0) hx hb dX12_settler_63 (by decide) ?_
            refine lv_iconst (v := 1) hx hb dX12_settler_64 (by decide) ?_
            have hFc := gA_free hG hA hS
            refine va_calli (va_runV (As := [.int 0, .int 1]) (rest := []) ⟨hx, hb, hml, hown, hts⟩ (s_throwsIfP l dC dI kA adK adV G H q wZ wN wH wB wC wL wK wU wV PI im PM PT lS lB lE lN o0 0 1 0 hT hr_o0 m122 (rg_t (a := 0) (by decide) (by omega) (by omega)) hgz hgn hgh hgb hgc hgi hgu) (cwV 2 hts (goodIn_app (goodIn_r _ [7, 8, 9, 5] rfl (by decide +kernel)) (goodIn_ca (goodIn_r _ [6, 1] rfl (by decide +kernel)) (bs_in _ _))) rfl rfl rfl (by decide +kernel) ⟨(Nat.le_of_ble_eq_true rfl), (Nat.le_of_ble_eq_true rfl)⟩) ⟨fun a U g mk q => by obtain ⟨q0, q1, qK, qE⟩ := q; exact ⟨q0, q1, va_K.moved (u := U) (U := U.calling g mk a) (Vm.Alike.refl U.vm) qK, EVS.blind g mk a qE⟩, gH_recv hK hT hr_o0 shm_0 rfl, fun U hU hW => ⟨rfl, hU, va_K.moved hW.alike hK, hE.call hS hFc hU hW⟩⟩ rfl rfl hl.1 rfl (lv_room (Nat.le_of_ble_eq_true rfl)) dX12_settler_65 ⟨(Nat.le_of_ble_eq_true rfl), (Nat.le_of_ble_eq_true rfl)⟩) hS (fun q _ h => hFc q h) hFc (fun r131 u t H locs ht hvm hw132 hB _ _ hS => ?_)
            obtain ⟨u133, rfl⟩ : ∃ z, z = u := ⟨_, rfl⟩
            obtain ⟨hT, hF1, m134⟩ := hB
            rw [ht] at hT hF1 m134
            have m135 := (hF1.fld hr_o0 skm_0 (k := 42) (by decide) (by decide)).trans m121
            have hF := hF.more hF1 (by decide)
            try dsimp only at hw132
            obtain ⟨h137, hf138, hd139⟩ := hw132
            have t140 : (0 : Int32).toInt = 0 := by decide
            have t141 : (1 : Int32).toInt = 1 := by decide
            have t142 : (0 : Int32).toInt = 0 := by decide
            obtain rfl : (0 : Int32) = r131 := hd139.symm
            refine lv_if_ne (tgt := 93) hx hb dX12_settler_68 (by decide) (fun c143 => absurd c143 (by decide)) (fun c143 => ?_)
            refine lv_aload_n hx hb dX12_settler_71 rfl (lv_at hl 0 rfl) ?_
            refine lv_aload_n hx hb dX12_settler_72 rfl (lv_at hl 0 rfl) ?_
            refine tw_getM (v := .int jn) hx hb hts bF_X12 hown hK hT hr_o0 shm_0 rfl 42 (by decide) (ht_at hts 11 rfl) (fun _ h9 => h9) m135 dX12_settler_73 ?_
            refine lv_bipush (v := 60) hx hb dX12_settler_76 (by decide) ?_
            refine lv_icmp_ne (tgt := 85) hx hb dX12_settler_78 (by decide) (fun c144 => ?_) (fun c144 => ?_)
            · have t145 : jn.toInt ≠ 60 := ti_ne c144 rfl (by decide)
              refine lv_iconst (v := 0) hx hb dX12_settler_85 (by decide) ?_
              refine lv_iconst (v := 2) hx hb dX12_settler_86 (by decide) ?_
              have hFc := gA_free hG hA hS
              refine va_calli (va_runV (As := [.int 0, .int 2]) (rest := []) ⟨hx, hb, hml, hown, hts⟩ (s_throwsIfP l dC dI kA adK adV G H q wZ wN wH wB wC wL wK wU wV PI im PM PT lS lB lE lN o0 0 2 u133 hT hr_o0 m134 (rg_t (a := 0) (by decide) (by omega) (by omega)) hgz hgn hgh hgb hgc hgi hgu) (cwV 2 hts (goodIn_app (goodIn_r _ [7, 8, 9, 5] rfl (by decide +kernel)) (goodIn_ca (goodIn_r _ [6, 1] rfl (by decide +kernel)) (bs_in _ _))) rfl rfl rfl (by decide +kernel) ⟨(Nat.le_of_ble_eq_true rfl), (Nat.le_of_ble_eq_true rfl)⟩) ⟨fun a U g mk q => by obtain ⟨q0, q1, qK, qE⟩ := q; exact ⟨q0, q1, va_K.moved (u := U) (U := U.calling g mk a) (Vm.Alike.refl U.vm) qK, EVS.blind g mk a qE⟩, gH_recv hK hT hr_o0 shm_0 rfl, fun U hU hW => ⟨rfl, hU, va_K.moved hW.alike hK, hE.call hS hFc hU hW⟩⟩ rfl rfl hl.1 rfl (lv_room (Nat.le_of_ble_eq_true rfl)) dX12_settler_87 ⟨(Nat.le_of_ble_eq_true rfl), (Nat.le_of_ble_eq_true rfl)⟩) hS (fun q _ h => hFc q h) hFc (fun r146 u t H locs ht hvm hw147 hB _ _ hS => ?_)
              obtain ⟨u148, rfl⟩ : ∃ z, z = u := ⟨_, rfl⟩
              obtain ⟨hT, hF1, m149⟩ := hB
              rw [ht] at hT hF1 m149
              have m150 := (hF1.fld hr_o0 skm_0 (k := 42) (by decide) (by decide)).trans m135
              have hF := hF.more hF1 (by decide)
              try dsimp only at hw147
              obtain ⟨h152, hf153, hd154⟩ := hw147
              have t155 : (0 : Int32).toInt = 0 := by decide
              have t156 : (2 : Int32).toInt = 2 := by decide
              obtain rfl : (0 : Int32) = r146 := hd154.symm
              refine lv_if_eq (tgt := 95) hx hb dX12_settler_90 (by decide) (fun c157 => ?_) (fun c157 => absurd c157 (by decide))
              refine lv_aload_n hx hb dX12_settler_95 rfl (lv_at hl 0 rfl) ?_
              refine tw_getM (v := .int jn) hx hb hts bF_X12 hown hK hT hr_o0 shm_0 rfl 42 (by decide) (ht_at hts 11 rfl) (fun _ h9 => h9) m150 dX12_settler_96 ?_
              refine lv_istore (lv' := [(8, .int jn), (0, .ref o0), (1, .int p0), (2, .int p1), (3, .int p2), (4, .int p3), (5, .int p4), (6, .int p5), (7, .int p6)]) hx hb dX12_settler_99 hl (by decide) rfl (fun ls hl => ?_)
              refine lv_aload_n hx hb dX12_settler_101 rfl (lv_at hl 1 rfl) ?_
              refine lv_dup hx hb dX12_settler_102 rfl ?_
              refine tw_getM (v := .int jn) hx hb hts bF_X12 hown hK hT hr_o0 shm_0 rfl 42 (by decide) (ht_at hts 11 rfl) (fun _ h9 => h9) m150 dX12_settler_103 ?_
              refine lv_iconst (v := 1) hx hb dX12_settler_106 (by decide) ?_
              refine lv_iadd hx hb dX12_settler_107 ?_
              refine lv_topi (fun x158 ex158 => ?_)
              have t159 : x158.toInt = jn.toInt + 1 := ti_add ex158 rfl (by decide) (by omega) (by omega)
              refine tw_put (v := .int x158) (ty := .int) hx hb hts bF_X12 tyX12 tyX12_ok nmX12 hown hK hT hG hS hr_o0 shm_0 rfl 42 (by decide) (ht_at hts 11 rfl) (fun _ h9 => h9) rfl (by decide +kernel) rfl rfl (gl_at rfl (gi_of (show x158.toInt = x158.toInt from rfl) (by omega) (by omega))) dX12_settler_108 (fun H locs hT oq m160 oj hS => ?_)
              have hF := hF.put hr_o0 skm_0 oq oj (by decide)
              have m161 := (oj 0 (by decide) (by decide)).trans m149
              refine lv_aload_n hx hb dX12_settler_111 rfl (lv_at hl 1 rfl) ?_
              refine tw_get hx hb hts bF_X12 hown hK hT hr_o0 shm_0 rfl 31 (by decide) (ht_at hts 12 rfl) (fun _ h9 => h9) dX12_settler_112 (fun v9 m162 h9 => ?_)
              obtain ⟨rfl, hg163⟩ := h9 _ rfl
              refine lv_iload hx hb dX12_settler_115 (lv_at hl 0 rfl) ?_
              refine lv_iload_n hx hb dX12_settler_117 rfl (lv_at hl 2 rfl) ?_
              refine tw_iast (i := jn) (x := p0) hx hb hK hT hG hS hg163 shm_32 rfl (vin_t (a := jn.toInt) rfl (by omega) (by omega)) (gi_all _) dX12_settler_118 (fun H locs hT oq m164 oi hS => ?_)
              have hF := hF.ast hg163 skm_32 oq (by decide)
              have m165 := (el_kept (oq _ (gne hr_o0 hg163 (by decide)))).trans m161
              have m166 := (el_kept (oq _ (gne hr_o0 hg163 (by decide)))).trans m160
              refine lv_aload_n hx hb dX12_settler_119 rfl (lv_at hl 1 rfl) ?_
              refine tw_get hx hb hts bF_X12 hown hK hT hr_o0 shm_0 rfl 32 (by decide) (ht_at hts 13 rfl) (fun _ h9 => h9) dX12_settler_120 (fun v9 m167 h9 => ?_)
              obtain ⟨rfl, hg168⟩ := h9 _ rfl
              refine lv_iload hx hb dX12_settler_123 (lv_at hl 0 rfl) ?_
              refine lv_iload_n hx hb dX12_settler_125 rfl (lv_at hl 3 rfl) ?_
              refine tw_iast (i := jn) (x := p1) hx hb hK hT hG hS hg168 shm_33 rfl (vin_t (a := jn.toInt) rfl (by omega) (by omega)) (gi_all _) dX12_settler_126 (fun H locs hT oq m169 oi hS => ?_)
              have hF := hF.ast hg168 skm_33 oq (by decide)
              have m170 := (el_kept (oq _ (gne hr_o0 hg168 (by decide)))).trans m165
              have m171 := (el_kept (oq _ (gne hr_o0 hg168 (by decide)))).trans m166
              have m172 := (el_kept (oq _ (gne hg163 hg168 (by decide)))).trans m164
              refine lv_aload_n hx hb dX12_settler_127 rfl (lv_at hl 1 rfl) ?_
              refine tw_get hx hb hts bF_X12 hown hK hT hr_o0 shm_0 rfl 33 (by decide) (ht_at hts 14 rfl) (fun _ h9 => h9) dX12_settler_128 (fun v9 m173 h9 => ?_)
              obtain ⟨rfl, hg174⟩ := h9 _ rfl
              refine lv_iload hx hb dX12_settler_131 (lv_at hl 0 rfl) ?_
              refine lv_iload_n hx hb dX12_settler_133 rfl (lv_at hl 4 rfl) ?_
              refine tw_iast (i := jn) (x := p2) hx hb hK hT hG hS hg174 shm_34 rfl (vin_t (a := jn.toInt) rfl (by omega) (by omega)) (gi_all _) dX12_settler_134 (fun H locs hT oq m175 oi hS => ?_)
              have hF := hF.ast hg174 skm_34 oq (by decide)
              have m176 := (el_kept (oq _ (gne hr_o0 hg174 (by decide)))).trans m170
              have m177 := (el_kept (oq _ (gne hr_o0 hg174 (by decide)))).trans m171
              have m178 := (el_kept (oq _ (gne hg163 hg174 (by decide)))).trans m172
              have m179 := (el_kept (oq _ (gne hg168 hg174 (by decide)))).trans m169
              refine lv_aload_n hx hb dX12_settler_135 rfl (lv_at hl 1 rfl) ?_
              refine tw_get hx hb hts bF_X12 hown hK hT hr_o0 shm_0 rfl 34 (by decide) (ht_at hts 15 rfl) (fun _ h9 => h9) dX12_settler_136 (fun v9 m180 h9 => ?_)
              obtain ⟨rfl, hg181⟩ := h9 _ rfl
              refine lv_iload hx hb dX12_settler_139 (lv_at hl 0 rfl) ?_
              refine lv_iload hx hb dX12_settler_141 (lv_at hl 5 rfl) ?_
              refine tw_iast (i := jn) (x := p3) hx hb hK hT hG hS hg181 shm_35 rfl (vin_t (a := jn.toInt) rfl (by omega) (by omega)) (gi_all _) dX12_settler_143 (fun H locs hT oq m182 oi hS => ?_)
              have hF := hF.ast hg181 skm_35 oq (by decide)
              have m183 := (el_kept (oq _ (gne hr_o0 hg181 (by decide)))).trans m176
              have m184 := (el_kept (oq _ (gne hr_o0 hg181 (by decide)))).trans m177
              have m185 := (el_kept (oq _ (gne hg163 hg181 (by decide)))).trans m178
              have m186 := (el_kept (oq _ (gne hg168 hg181 (by decide)))).trans m179
              have m187 := (el_kept (oq _ (gne hg174 hg181 (by decide)))).trans m175
              refine lv_aload_n hx hb dX12_settler_144 rfl (lv_at hl 1 rfl) ?_
              refine tw_get hx hb hts bF_X12 hown hK hT hr_o0 shm_0 rfl 35 (by decide) (ht_at hts 16 rfl) (fun _ h9 => h9) dX12_settler_145 (fun v9 m188 h9 => ?_)
              obtain ⟨rfl, hg189⟩ := h9 _ rfl
              refine lv_iload hx hb dX12_settler_148 (lv_at hl 0 rfl) ?_
              refine lv_iload hx hb dX12_settler_150 (lv_at hl 6 rfl) ?_
              refine tw_zast (i := jn) (x := p4) hx hb hK hT hG hS hg189 shm_36 rfl (vin_t (a := jn.toInt) rfl (by omega) (by omega)) (gi_z (by have q8 := ti_all p4; omega) (by decide) (by decide)) dX12_settler_152 (fun H locs hT oq m190 oi hS => ?_)
              have hF := hF.ast hg189 skm_36 oq (by decide)
              have m191 := (el_kept (oq _ (gne hr_o0 hg189 (by decide)))).trans m183
              have m192 := (el_kept (oq _ (gne hr_o0 hg189 (by decide)))).trans m184
              have m193 := (el_kept (oq _ (gne hg163 hg189 (by decide)))).trans m185
              have m194 := (el_kept (oq _ (gne hg168 hg189 (by decide)))).trans m186
              have m195 := (el_kept (oq _ (gne hg174 hg189 (by decide)))).trans m187
              have m196 := (el_kept (oq _ (gne hg181 hg189 (by decide)))).trans m182
              refine lv_aload_n hx hb dX12_settler_153 rfl (lv_at hl 1 rfl) ?_
              refine tw_get hx hb hts bF_X12 hown hK hT hr_o0 shm_0 rfl 36 (by decide) (ht_at hts 17 rfl) (fun _ h9 => h9) dX12_settler_154 (fun v9 m197 h9 => ?_)
              obtain ⟨rfl, hg198⟩ := h9 _ rfl
              refine lv_iload hx hb dX12_settler_157 (lv_at hl 0 rfl) ?_
              refine lv_iload hx hb dX12_settler_159 (lv_at hl 7 rfl) ?_
              refine tw_zast (i := jn) (x := p5) hx hb hK hT hG hS hg198 shm_37 rfl (vin_t (a := jn.toInt) rfl (by omega) (by omega)) (gi_z (by have q8 := ti_all p5; omega) (by decide) (by decide)) dX12_settler_161 (fun H locs hT oq m199 oi hS => ?_)
              have hF := hF.ast hg198 skm_37 oq (by decide)
              have m200 := (el_kept (oq _ (gne hr_o0 hg198 (by decide)))).trans m191
              have m201 := (el_kept (oq _ (gne hr_o0 hg198 (by decide)))).trans m192
              have m202 := (el_kept (oq _ (gne hg163 hg198 (by decide)))).trans m193
              have m203 := (el_kept (oq _ (gne hg168 hg198 (by decide)))).trans m194
              have m204 := (el_kept (oq _ (gne hg174 hg198 (by decide)))).trans m195
              have m205 := (el_kept (oq _ (gne hg181 hg198 (by decide)))).trans m196
              refine lv_aload_n hx hb dX12_settler_162 rfl (lv_at hl 1 rfl) ?_
              refine tw_get hx hb hts bF_X12 hown hK hT hr_o0 shm_0 rfl 37 (by decide) (ht_at hts 18 rfl) (fun _ h9 => h9) dX12_settler_163 (fun v9 m206 h9 => ?_)
              obtain ⟨rfl, hg207⟩ := h9 _ rfl
              refine lv_iload hx hb dX12_settler_166 (lv_at hl 0 rfl) ?_
              refine lv_iload hx hb dX12_settler_168 (lv_at hl 8 rfl) ?_
              refine tw_iast (i := jn) (x := p6) hx hb hK hT hG hS hg207 shm_38 rfl (vin_t (a := jn.toInt) rfl (by omega) (by omega)) (gi_all _) dX12_settler_170 (fun H locs hT oq m208 oi hS => ?_)
              have hF := hF.ast hg207 skm_38 oq (by decide)
              have m209 := (el_kept (oq _ (gne hr_o0 hg207 (by decide)))).trans m200
              have m210 := (el_kept (oq _ (gne hr_o0 hg207 (by decide)))).trans m201
              have m211 := (el_kept (oq _ (gne hg163 hg207 (by decide)))).trans m202
              have m212 := (el_kept (oq _ (gne hg168 hg207 (by decide)))).trans m203
              have m213 := (el_kept (oq _ (gne hg174 hg207 (by decide)))).trans m204
              have m214 := (el_kept (oq _ (gne hg181 hg207 (by decide)))).trans m205
              refine lv_aload_n hx hb dX12_settler_171 rfl (lv_at hl 1 rfl) ?_
              refine tw_get hx hb hts bF_X12 hown hK hT hr_o0 shm_0 rfl 38 (by decide) (ht_at hts 19 rfl) (fun _ h9 => h9) dX12_settler_172 (fun v9 m215 h9 => ?_)
              obtain ⟨rfl, hg216⟩ := h9 _ rfl
              refine lv_iload hx hb dX12_settler_175 (lv_at hl 0 rfl) ?_
              refine lv_iconst (v := (-1)) hx hb dX12_settler_177 (by decide) ?_
              refine tw_iast (i := jn) (x := (-1)) hx hb hK hT hG hS hg216 shm_39 rfl (vin_t (a := jn.toInt) rfl (by omega) (by omega)) (gi_of (show (-1 : Int32).toInt = (-1) from (by decide)) (by omega) (by omega)) dX12_settler_178 (fun H locs hT oq m217 oi hS => ?_)
              have hF := hF.ast hg216 skm_39 oq (by decide)
              have m218 := (el_kept (oq _ (gne hr_o0 hg216 (by decide)))).trans m209
              have m219 := (el_kept (oq _ (gne hr_o0 hg216 (by decide)))).trans m210
              have m220 := (el_kept (oq _ (gne hg163 hg216 (by decide)))).trans m211
              have m221 := (el_kept (oq _ (gne hg168 hg216 (by decide)))).trans m212
              have m222 := (el_kept (oq _ (gne hg174 hg216 (by decide)))).trans m213
              have m223 := (el_kept (oq _ (gne hg181 hg216 (by decide)))).trans m214
              have m224 := (el_kept (oq _ (gne hg207 hg216 (by decide)))).trans m208
              refine lv_iload hx hb dX12_settler_179 (lv_at hl 0 rfl) ?_
              exact W.iret (v := jn) hx hb hr (fun t ht hW => ⟨⟨jn, (u148, x158), rfl, (by exact ⟨(by have q8 := ti_all jn; omega), (by omega)⟩), by (try dsimp only); rw [ht]; exact ⟨hT, hF, m218, m219⟩⟩, hS.F ht⟩) hS.2.2 dX12_settler_181
            · have t225 : jn.toInt = 60 := ti_eq c144 rfl (by decide)
              refine lv_iconst (v := 1) hx hb dX12_settler_81 (by decide) ?_
              refine lv_goto (tgt := 86) hx hb dX12_settler_82 (by decide) ?_
              refine lv_iconst (v := 2) hx hb dX12_settler_86 (by decide) ?_
              have hFc := gA_free hG hA hS
              refine va_calli (va_runV (As := [.int 1, .int 2]) (rest := []) ⟨hx, hb, hml, hown, hts⟩ (s_throwsIfP l dC dI kA adK adV G H q wZ wN wH wB wC wL wK wU wV PI im PM PT lS lB lE lN o0 1 2 u133 hT hr_o0 m134 (rg_t (a := 1) (by decide) (by omega) (by omega)) hgz hgn hgh hgb hgc hgi hgu) (cwV 2 hts (goodIn_app (goodIn_r _ [7, 8, 9, 5] rfl (by decide +kernel)) (goodIn_ca (goodIn_r _ [6, 1] rfl (by decide +kernel)) (bs_in _ _))) rfl rfl rfl (by decide +kernel) ⟨(Nat.le_of_ble_eq_true rfl), (Nat.le_of_ble_eq_true rfl)⟩) ⟨fun a U g mk q => by obtain ⟨q0, q1, qK, qE⟩ := q; exact ⟨q0, q1, va_K.moved (u := U) (U := U.calling g mk a) (Vm.Alike.refl U.vm) qK, EVS.blind g mk a qE⟩, gH_recv hK hT hr_o0 shm_0 rfl, fun U hU hW => ⟨rfl, hU, va_K.moved hW.alike hK, hE.call hS hFc hU hW⟩⟩ rfl rfl hl.1 rfl (lv_room (Nat.le_of_ble_eq_true rfl)) dX12_settler_87 ⟨(Nat.le_of_ble_eq_true rfl), (Nat.le_of_ble_eq_true rfl)⟩) hS (fun q _ h => hFc q h) hFc (fun r226 u t H locs ht hvm hw227 hB _ _ hS => ?_)
              obtain ⟨u228, rfl⟩ : ∃ z, z = u := ⟨_, rfl⟩
              obtain ⟨hT, hF1, m229⟩ := hB
              rw [ht] at hT hF1 m229
              have m230 := (hF1.fld hr_o0 skm_0 (k := 42) (by decide) (by decide)).trans m135
              have hF := hF.more hF1 (by decide)
              try dsimp only at hw227
              obtain ⟨h232, hf233, hd234⟩ := hw227
              have t235 : (1 : Int32).toInt = 1 := by decide
              have t236 : (2 : Int32).toInt = 2 := by decide
              obtain rfl : (1 : Int32) = r226 := hd234.symm
              refine lv_if_eq (tgt := 95) hx hb dX12_settler_90 (by decide) (fun c237 => absurd c237 (by decide)) (fun c237 => ?_)
              refine lv_iconst (v := 0) hx hb dX12_settler_93 (by decide) ?_
              exact W.iret (v := 0) hx hb hr (fun t ht hW => ⟨⟨0, (u228, jn), rfl, (by exact ⟨(rg_t (a := 0) (by decide) (by omega) (by omega)), (by have : (0 : Int32).toInt = 0 := (by decide); omega)⟩), by (try dsimp only); rw [ht]; exact ⟨hT, hF, m229, m230⟩⟩, hS.F ht⟩) hS.2.2 dX12_settler_94
          · have t238 : r119.toInt = 0 := ti_eq c126 rfl (by decide)
            have t239 : (0 : Int32).toInt = 0 := by decide
            have t240 : (999999 : Int32).toInt = 999999 := by decide
            have t241 : p6.toInt < (0 : Int32).toInt ∨ (999999 : Int32).toInt < p6.toInt := hi125 c126
            refine lv_iconst (v := 1) hx hb dX12_settler_59 (by decide) ?_
            refine lv_goto (tgt := 64) hx hb dX12_settler_60 (by decide) ?_
            refine lv_iconst (v := 1) hx hb dX12_settler_64 (by decide) ?_
            have hFc := gA_free hG hA hS
            refine va_calli (va_runV (As := [.int 1, .int 1]) (rest := []) ⟨hx, hb, hml, hown, hts⟩ (s_throwsIfP l dC dI kA adK adV G H q wZ wN wH wB wC wL wK wU wV PI im PM PT lS lB lE lN o0 1 1 0 hT hr_o0 m122 (rg_t (a := 1) (by decide) (by omega) (by omega)) hgz hgn hgh hgb hgc hgi hgu) (cwV 2 hts (goodIn_app (goodIn_r _ [7, 8, 9, 5] rfl (by decide +kernel)) (goodIn_ca (goodIn_r _ [6, 1] rfl (by decide +kernel)) (bs_in _ _))) rfl rfl rfl (by decide +kernel) ⟨(Nat.le_of_ble_eq_true rfl), (Nat.le_of_ble_eq_true rfl)⟩) ⟨fun a U g mk q => by obtain ⟨q0, q1, qK, qE⟩ := q; exact ⟨q0, q1, va_K.moved (u := U) (U := U.calling g mk a) (Vm.Alike.refl U.vm) qK, EVS.blind g mk a qE⟩, gH_recv hK hT hr_o0 shm_0 rfl, fun U hU hW => ⟨rfl, hU, va_K.moved hW.alike hK, hE.call hS hFc hU hW⟩⟩ rfl rfl hl.1 rfl (lv_room (Nat.le_of_ble_eq_true rfl)) dX12_settler_65 ⟨(Nat.le_of_ble_eq_true rfl), (Nat.le_of_ble_eq_true rfl)⟩) hS (fun q _ h => hFc q h) hFc (fun r242 u t H locs ht hvm hw243 hB _ _ hS => ?_)
            obtain ⟨u244, rfl⟩ : ∃ z, z = u := ⟨_, rfl⟩
            obtain ⟨hT, hF1, m245⟩ := hB
            rw [ht] at hT hF1 m245
            have m246 := (hF1.fld hr_o0 skm_0 (k := 42) (by decide) (by decide)).trans m121
            have hF := hF.more hF1 (by decide)
            try dsimp only at hw243
            obtain ⟨h248, hf249, hd250⟩ := hw243
            have t251 : (1 : Int32).toInt = 1 := by decide
            have t252 : (1 : Int32).toInt = 1 := by decide
            have t253 : (0 : Int32).toInt = 0 := by decide
            obtain rfl : (1 : Int32) = r242 := hd250.symm
            refine lv_if_ne (tgt := 93) hx hb dX12_settler_68 (by decide) (fun c254 => ?_) (fun c254 => absurd c254 (by decide))
            refine lv_iconst (v := 0) hx hb dX12_settler_93 (by decide) ?_
            exact W.iret (v := 0) hx hb hr (fun t ht hW => ⟨⟨0, (u244, jn), rfl, (by exact ⟨(rg_t (a := 0) (by decide) (by omega) (by omega)), (by have : (0 : Int32).toInt = 0 := (by decide); omega)⟩), by (try dsimp only); rw [ht]; exact ⟨hT, hF, m245, m246⟩⟩, hS.F ht⟩) hS.2.2 dX12_settler_94
