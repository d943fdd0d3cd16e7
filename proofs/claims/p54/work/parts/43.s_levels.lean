def w_s_levels : List Cond := .code yX12_levels cX12_levels 11 (some .int) :: (HAppend.hAppend (α := List Cond) (β := List Cond) (γ := List Cond) [.fieldLink RX12 194 "SeaLandModel" "thrown" "I", .code yX12_noFarm cX12_noFarm 2 (some .boolean), .fieldLink RX12 498 "SeaLandModel" "farms" "I", .code yX12_in cX12_in 3 (some .boolean), .methodLink RX12 197 yX12_in, .static yX12_in, .initialized RX12, .methodLink RX12 502 yX12_noFarm, .instanceMethod yX12_noFarm, .selects RX12 yX12_noFarm yX12_noFarm, .code yX12_throwsIf cX12_throwsIf 3 (some .boolean), .methodLink RX12 224 yX12_throwsIf, .instanceMethod yX12_throwsIf, .selects RX12 yX12_throwsIf yX12_throwsIf, .methodLink RX12 211 Lib.Math.max.name, .static Lib.Math.max.name, .initialized "java/lang/Math", .code Lib.Math.max.name Lib.Math.max.code 2 (some .int), .fieldLink RX12 113 "SeaLandModel" "farmFrom" "[I", .fieldLink RX12 116 "SeaLandModel" "farmTo" "[I", .code yX12_isIn cX12_isIn 5 (some .boolean), .methodLink RX12 207 Lib.Math.min.name, .static Lib.Math.min.name, .code Lib.Math.min.name Lib.Math.min.code 2 (some .int), .methodLink RX12 232 yX12_isIn, .static yX12_isIn, .fieldLink RX12 173 "SeaLandModel" "place" "[I", .fieldLink RX12 170 "SeaLandModel" "depth" "[I", .fieldLink RX12 119 "SeaLandModel" "crop" "[I", .code yX12_worthAt cX12_worthAt 3 (some .int), .methodLink RX12 201 Lib.Math.abs.name, .static Lib.Math.abs.name, .code Lib.Math.abs.name Lib.Math.abs.code 1 (some .int), .methodLink RX12 550 yX12_worthAt, .static yX12_worthAt, .fieldLink RX12 9 "SeaLandModel" "world" "[I", .code yX12_steps cX12_steps 2 (some .int), .methodLink RX12 262 yX12_steps, .static yX12_steps] bs)
set_option maxHeartbeats 4000000 in
set_option maxRecDepth 100000 in
theorem s_levels (l : Launch) (dC : Nat → ClassId) (dI : Nat → Nat → Nat) (kA : Nat → ClassId) (adK adV : Nat → Nat) (G : gT) (H0 : Heap) (q : Nat → Nat) (wZ wN : Nat → Int) (wH wB wC : Int) (wL wK : Nat → Prop) (wU wV : Nat → Nat) (PI : Nat → Int → Prop) (im : Int) (PM PT : Nat → Int → Prop) (lS lB lE : Nat → Nat → Int → Prop) (lN : Nat → Int) (o0 : Nat) (p0 : Int32) (p1 : Int32)  (hT : gH (dC, dI) kA (SHm q (wP wZ wN wH wB wC wL wK wU wV) PI im PM PT lS lB lE lN) G H0) (hr_o0 : G o0 = some 0) (hgz : ∀ i, 0 ≤ wZ i) (hgn : ∀ i, 6500000 ≤ wN i ∧ wN i ≤ 20200000) (hgh : 0 ≤ wH ∧ wH ≤ 40000) (hgb : 0 ≤ wB ∧ wB ≤ 3850000) (hgc : 0 ≤ wC ∧ wC ≤ 30) (hgi : 0 ≤ im ∧ im ≤ 1) (hgu : ∀ a t, G a = some (t + 1) → a = q t) : Met l yX12_levels w_s_levels ({ frames := 2, cells := 0, slots := 0, locals := 64 }) (va_Pc [.ref o0, .int p0, .int p1] (fun U => U.heap = H0 ∧ va_K (dC, dI) vwCl (tyl kA) U ∧ EVS adK adV (gA G H0.size) U U.heap)) (va_Qi (fun (r : Int32) (u : Unit) => (-1 ≤ r.toInt ∧ r.toInt ≤ 2147483647)) (fun (_ : Unit) (t : State) => gH (dC, dI) kA (SHm q (wP wZ wN wH wB wC wL wK wU wV) PI im PM PT lS lB lE lN) G t.heap ∧ gF (dC, dI) SKm G ([(0, 0), (69, 0), (70, 0)] : List (Nat × Nat)) H0 t.heap) (gA G H0.size)) 0 0 (gA G H0.size) := by
  refine Met.ofW (cc := cX12_levels) (maxL := 11) (ret := (some .int)) (by decide) rfl ?_
  intro p e s m args below meth c s₁ B hml hv
  obtain ⟨rfl, hH0, hK, hE⟩ := hv
  have hx := B.exec
  have hb := B.bytes
  have hr := B.returns
  have hts := atoms_spec (ws := w_s_levels) B.pre
  have hown : s.vm.findClass RX12 = some m.cls := findClass_of_methodNamed B.named
  have hlocks := B.notSynchronized
  subst hH0
  generalize hAe : gA G s.heap.size = A at hE ⊢
  have hA : ∀ q : Nat, s.heap.size ≤ q → A q := fun q h => by rw [← hAe]; exact Or.inr h
  have hG := gA_of hAe
  have hS : va_S A s.heap s.heap [] := va_S.rf
  have hF : gF (dC, dI) SKm G ([(0, 0), (69, 0), (70, 0)] : List (Nat × Nat)) s.heap s.heap := gF.rf
  have hl := lv_entry ([.ref o0, .int p0, .int p1]) (n := 11) (Nat.le_of_ble_eq_true rfl)
  rw [lg_entry_eq]
  generalize (lg_sl ([.ref o0, .int p0, .int p1]) ++ List.replicate (11 - (lg_sl ([.ref o0, .int p0, .int p1])).length) Slot.unset).toArray = ls at hl ⊢
  have hl : lv_has ls 11 [(0, .ref o0), (1, .int p0), (2, .int p1)] := hl
  refine lv_aload_n hx hb dX12_levels_0 rfl (lv_at hl 0 rfl) ?_
  refine lv_iconst (v := 0) hx hb dX12_levels_1 (by decide) ?_
  refine tw_put (v := .int 0) (ty := .int) hx hb hts bF_X12 tyX12 tyX12_ok nmX12 hown hK hT hG hS hr_o0 shm_0 rfl 0 (by decide) (ht_at hts 0 rfl) (fun _ h9 => h9) rfl (by decide +kernel) rfl rfl (gl_at rfl (gi_all _)) dX12_levels_2 (fun H locs hT oq m1 oj hS => ?_)
  have hF := hF.put hr_o0 skm_0 oq oj (by decide)
  refine lv_aload_n hx hb dX12_levels_5 rfl (lv_at hl 0 rfl) ?_
  refine lv_aload_n hx hb dX12_levels_6 rfl (lv_at hl 0 rfl) ?_
  refine lv_iload_n hx hb dX12_levels_7 rfl (lv_at hl 1 rfl) ?_
  have hFc := gA_free hG hA hS
  refine va_calli (va_runV (As := [.int p0]) (rest := [.ref o0]) ⟨hx, hb, hml, hown, hts⟩ (s_noFarm l dC dI kA adK adV G H q wZ wN wH wB wC wL wK wU wV PI im PM PT lS lB lE lN o0 p0 hT hr_o0 hgz hgn hgh hgb hgc hgi hgu) (cwV 1 hts (goodIn_app (goodIn_r _ [8, 9, 10, 7] rfl (by decide +kernel)) (goodIn_ca (goodIn_r _ [2, 3, 4, 5, 6, 7] rfl (by decide +kernel)) (bs_in _ _))) rfl rfl rfl (by decide +kernel) ⟨(Nat.le_of_ble_eq_true rfl), (Nat.le_of_ble_eq_true rfl)⟩) ⟨fun a U g mk q => by obtain ⟨q0, q1, qK, qE⟩ := q; exact ⟨q0, q1, va_K.moved (u := U) (U := U.calling g mk a) (Vm.Alike.refl U.vm) qK, EVS.blind g mk a qE⟩, gH_rc hK hT hr_o0 shm_0 rfl, fun U hU hW => ⟨rfl, hU, va_K.moved hW.alike hK, hE.call hS hFc hU hW⟩⟩ rfl rfl hl.1 rfl (lv_room (Nat.le_of_ble_eq_true rfl)) dX12_levels_8 ⟨(Nat.le_of_ble_eq_true rfl), (Nat.le_of_ble_eq_true rfl)⟩) hS (fun q _ h => hFc q h) hFc (fun r2 u t H locs ht hvm hw3 hB _ _ hS => ?_)
  obtain ⟨hT, hF1⟩ := hB
  rw [ht] at hT hF1
  have hF := hF.more hF1 (by decide)
  try dsimp only at hw3
  obtain ⟨h5, hi6⟩ := hw3
  refine lv_iconst (v := 1) hx hb dX12_levels_11 (by decide) ?_
  have hFc := gA_free hG hA hS
  refine va_calli (va_runV (As := [.int r2, .int 1]) (rest := []) ⟨hx, hb, hml, hown, hts⟩ (s_throwsIf l dC dI kA adK adV G H q wZ wN wH wB wC wL wK wU wV PI im PM PT lS lB lE lN o0 r2 1 hT hr_o0 (by have q8 := ti_all r2; omega) hgz hgn hgh hgb hgc hgi hgu) (cwV 2 hts (goodIn_app (goodIn_r _ [12, 13, 14, 7] rfl (by decide +kernel)) (goodIn_ca (goodIn_r _ [11, 1] rfl (by decide +kernel)) (bs_in _ _))) rfl rfl rfl (by decide +kernel) ⟨(Nat.le_of_ble_eq_true rfl), (Nat.le_of_ble_eq_true rfl)⟩) ⟨fun a U g mk q => by obtain ⟨q0, q1, qK, qE⟩ := q; exact ⟨q0, q1, va_K.moved (u := U) (U := U.calling g mk a) (Vm.Alike.refl U.vm) qK, EVS.blind g mk a qE⟩, gH_rc hK hT hr_o0 shm_0 rfl, fun U hU hW => ⟨rfl, hU, va_K.moved hW.alike hK, hE.call hS hFc hU hW⟩⟩ rfl rfl hl.1 rfl (lv_room (Nat.le_of_ble_eq_true rfl)) dX12_levels_12 ⟨(Nat.le_of_ble_eq_true rfl), (Nat.le_of_ble_eq_true rfl)⟩) hS (fun q _ h => hFc q h) hFc (fun r7 u t H locs ht hvm hw8 hB _ _ hS => ?_)
  obtain ⟨hT, hF1⟩ := hB
  rw [ht] at hT hF1
  have hF := hF.more hF1 (by decide)
  try dsimp only at hw8
  obtain ⟨h10, hd11⟩ := hw8
  obtain rfl : r2 = r7 := hd11.symm
  refine lv_if_ne (tgt := 42) hx hb dX12_levels_15 (by decide) (fun c12 => ?_) (fun c12 => ?_)
  · have t13 : r2.toInt ≠ 0 := ti_ne c12 rfl (by decide)
    refine lv_iconst (v := 0) hx hb dX12_levels_42 (by decide) ?_
    exact W.iret (v := 0) hx hb hr (fun t ht hW => ⟨⟨0, (), rfl, (by exact (rg_t (a := 0) (by decide) (by first | decide | omega) (by first | decide | omega))), by (try dsimp only); rw [ht]; exact ⟨hT, hF⟩⟩, hS.F ht⟩) hS.2.2 dX12_levels_43
  · have t14 : r2.toInt = 0 := ti_eq c12 rfl (by decide)
    have t15 : 0 ≤ p0.toInt ∧ p0.toInt ≤ 29 := hi6 c12
    refine lv_aload_n hx hb dX12_levels_18 rfl (lv_at hl 0 rfl) ?_
    refine lv_iload_n hx hb dX12_levels_19 rfl (lv_at hl 2 rfl) ?_
    refine lv_iconst (v := 0) hx hb dX12_levels_20 (by decide) ?_
    refine lv_sipush (v := 1000) hx hb dX12_levels_21 (by decide) ?_
    have hFc := gA_free hG hA hS
    refine va_calli (va_runS (As := [.int p1, .int 0, .int 1000]) (rest := [.ref o0]) ⟨hx, hb, hml, hown, hts⟩ (s_in l dC dI kA adK adV G H q wZ wN wH wB wC wL wK wU wV PI im PM PT lS lB lE lN p1 0 1000 hT hgz hgn hgh hgb hgc hgi hgu) (va_cwS 3 hts (goodIn_app (goodIn_r _ [5, 6, 7] rfl (by decide +kernel)) (goodIn_ca (goodIn_r _ [4] rfl (by decide +kernel)) (bs_in _ _))) rfl rfl rfl (by decide +kernel) ⟨(Nat.le_of_ble_eq_true rfl), (Nat.le_of_ble_eq_true rfl)⟩) ⟨fun a U g mk q => by obtain ⟨q0, q1, qK, qE⟩ := q; exact ⟨q0, q1, va_K.moved (u := U) (U := U.calling g mk a) (Vm.Alike.refl U.vm) qK, EVS.blind g mk a qE⟩, fun U hU hW => ⟨rfl, hU, va_K.moved hW.alike hK, hE.call hS hFc hU hW⟩⟩ rfl rfl hl.1 rfl (lv_room (Nat.le_of_ble_eq_true rfl)) dX12_levels_24 ⟨(Nat.le_of_ble_eq_true rfl), (Nat.le_of_ble_eq_true rfl)⟩) hS (fun q _ h => hFc q h) hFc (fun r16 u t H locs ht hvm hw17 hB _ _ hS => ?_)
    obtain ⟨hT, hF1⟩ := hB
    rw [ht] at hT hF1
    have hF := hF.more hF1 (by decide)
    try dsimp only at hw17
    obtain ⟨h18, hi19, hi20⟩ := hw17
    refine lv_if_ne (tgt := 34) hx hb dX12_levels_27 (by decide) (fun c21 => ?_) (fun c21 => ?_)
    · have t22 : r16.toInt ≠ 0 := ti_ne c21 rfl (by decide)
      have t23 : (1000 : Int32).toInt = 1000 := by decide
      have t24 : (0 : Int32).toInt = 0 := by decide
      have t25 : (0 : Int32).toInt ≤ p1.toInt ∧ p1.toInt ≤ (1000 : Int32).toInt := hi19 ((bit_of ⟨by omega, by omega⟩).resolve_left c21)
      refine lv_iconst (v := 0) hx hb dX12_levels_34 (by decide) ?_
      refine lv_iconst (v := 2) hx hb dX12_levels_35 (by decide) ?_
      have hFc := gA_free hG hA hS
      refine va_calli (va_runV (As := [.int 0, .int 2]) (rest := []) ⟨hx, hb, hml, hown, hts⟩ (s_throwsIf l dC dI kA adK adV G H q wZ wN wH wB wC wL wK wU wV PI im PM PT lS lB lE lN o0 0 2 hT hr_o0 (rg_t (a := 0) (by decide) (by first | decide | omega) (by first | decide | omega)) hgz hgn hgh hgb hgc hgi hgu) (cwV 2 hts (goodIn_app (goodIn_r _ [12, 13, 14, 7] rfl (by decide +kernel)) (goodIn_ca (goodIn_r _ [11, 1] rfl (by decide +kernel)) (bs_in _ _))) rfl rfl rfl (by decide +kernel) ⟨(Nat.le_of_ble_eq_true rfl), (Nat.le_of_ble_eq_true rfl)⟩) ⟨fun a U g mk q => by obtain ⟨q0, q1, qK, qE⟩ := q; exact ⟨q0, q1, va_K.moved (u := U) (U := U.calling g mk a) (Vm.Alike.refl U.vm) qK, EVS.blind g mk a qE⟩, gH_rc hK hT hr_o0 shm_0 rfl, fun U hU hW => ⟨rfl, hU, va_K.moved hW.alike hK, hE.call hS hFc hU hW⟩⟩ rfl rfl hl.1 rfl (lv_room (Nat.le_of_ble_eq_true rfl)) dX12_levels_36 ⟨(Nat.le_of_ble_eq_true rfl), (Nat.le_of_ble_eq_true rfl)⟩) hS (fun q _ h => hFc q h) hFc (fun r26 u t H locs ht hvm hw27 hB _ _ hS => ?_)
      obtain ⟨hT, hF1⟩ := hB
      rw [ht] at hT hF1
      have hF := hF.more hF1 (by decide)
      try dsimp only at hw27
      obtain ⟨h28, hd29⟩ := hw27
      obtain rfl : (0 : Int32) = r26 := hd29.symm
      refine lv_if_eq (tgt := 44) hx hb dX12_levels_39 (by decide) (fun c30 => ?_) (fun c30 => absurd c30 (by decide))
      refine lv_iconst (v := 0) hx hb dX12_levels_44 (by decide) ?_
      refine lv_istore_n (lv' := [(3, .int 0), (0, .ref o0), (1, .int p0), (2, .int p1)]) hx hb dX12_levels_45 rfl hl (by decide) rfl (fun ls hl => ?_)
      refine lv_iconst (v := 0) hx hb dX12_levels_46 (by decide) ?_
      refine lv_istore (lv' := [(4, .int 0), (3, .int 0), (0, .ref o0), (1, .int p0), (2, .int p1)]) hx hb dX12_levels_47 hl (by decide) rfl (fun ls hl => ?_)
      have key62 : ∀ (n62 i31 : Nat), i31 + n62 = 96 → 0 ≤ i31 → ∀ (z32 : Int32), ((0 ≤ z32.toInt ∧ z32.toInt ≤ 6)) → ∀ (H : Heap) (locs : List Loc), gH (dC, dI) kA (SHm q (wP wZ wN wH wB wC wL wK wU wV) PI im PM PT lS lB lE lN) G H → gF (dC, dI) SKm G ([(0, 0), (69, 0), (70, 0)] : List (Nat × Nat)) s.heap H → va_S A s.heap H locs → ∀ ls : Array Slot, lv_has ls 11 [(4, .int (nI i31)), (3, .int z32), (0, .ref o0), (1, .int p0), (2, .int p1)] → W p l e (headSpec w_s_levels ({ frames := 2, cells := 0, slots := 0, locals := 64 })).room s m #[.ref o0, .int p0, .int p1] below meth c H locs 0 0 (MQ below (va_Qi (fun (r : Int32) (u : Unit) => (-1 ≤ r.toInt ∧ r.toInt ≤ 2147483647)) (fun (_ : Unit) (t : State) => gH (dC, dI) kA (SHm q (wP wZ wN wH wB wC wL wK wU wV) PI im PM PT lS lB lE lN) G t.heap ∧ gF (dC, dI) SKm G ([(0, 0), (69, 0), (70, 0)] : List (Nat × Nat)) s.heap t.heap) A) #[.ref o0, .int p0, .int p1] s 0 0 A) (F0 m 49 ls []) := by
        intro n62
        induction n62 with
        | zero =>
          intro i31 hn62 hlo63 z32 h33 H locs hT hF hS  ls hl
          obtain rfl : 96 = i31 := by omega
          refine lv_iload hx hb dX12_levels_49 (lv_at hl 0 rfl) ?_
          refine lv_bipush (v := 96) hx hb dX12_levels_51 (by decide) ?_
          refine lv_icmp_ge (tgt := 102) hx hb dX12_levels_53 (by decide) (fun c64 => ?_) (fun c64 => (by exfalso; have q9 : ((96 : Nat) : Int) < 96 := ti_nle c64 (by decide) (nI_toInt (by omega)); omega))
          have t65 : 96 ≤ ((96 : Nat) : Int) := ti_le c64 (by decide) (nI_toInt (by omega))
          refine lv_iconst (v := (-1)) hx hb dX12_levels_102 (by decide) ?_
          refine lv_istore (lv' := [(4, .int (-1)), (3, .int z32), (0, .ref o0), (1, .int p0), (2, .int p1)]) hx hb dX12_levels_103 hl (by decide) rfl (fun ls hl => ?_)
          refine lv_iconst (v := 0) hx hb dX12_levels_105 (by decide) ?_
          refine lv_istore (lv' := [(5, .int 0), (4, .int (-1)), (3, .int z32), (0, .ref o0), (1, .int p0), (2, .int p1)]) hx hb dX12_levels_106 hl (by decide) rfl (fun ls hl => ?_)
          have key722 : ∀ (n722 i66 : Nat), i66 + n722 = 2147483647 → 0 ≤ i66 → ∀ (z67 : Int32), ((-1 ≤ z67.toInt ∧ z67.toInt ≤ 2147483647)) → ∀ (H : Heap) (locs : List Loc), gH (dC, dI) kA (SHm q (wP wZ wN wH wB wC wL wK wU wV) PI im PM PT lS lB lE lN) G H → gF (dC, dI) SKm G ([(0, 0), (69, 0), (70, 0)] : List (Nat × Nat)) s.heap H → va_S A s.heap H locs → ∀ ls : Array Slot, lv_has ls 11 [(5, .int (nI i66)), (4, .int z67), (3, .int z32), (0, .ref o0), (1, .int p0), (2, .int p1)] → W p l e (headSpec w_s_levels ({ frames := 2, cells := 0, slots := 0, locals := 64 })).room s m #[.ref o0, .int p0, .int p1] below meth c H locs 0 0 (MQ below (va_Qi (fun (r : Int32) (u : Unit) => (-1 ≤ r.toInt ∧ r.toInt ≤ 2147483647)) (fun (_ : Unit) (t : State) => gH (dC, dI) kA (SHm q (wP wZ wN wH wB wC wL wK wU wV) PI im PM PT lS lB lE lN) G t.heap ∧ gF (dC, dI) SKm G ([(0, 0), (69, 0), (70, 0)] : List (Nat × Nat)) s.heap t.heap) A) #[.ref o0, .int p0, .int p1] s 0 0 A) (F0 m 108 ls []) := by
            intro n722
            induction n722 with
            | zero =>
              intro i66 hn722 hlo723 z67 h68 H locs hT hF hS  ls hl
              obtain rfl : 2147483647 = i66 := by omega
              refine lv_iload hx hb dX12_levels_108 (lv_at hl 0 rfl) ?_
              refine lv_iconst (v := 1) hx hb dX12_levels_110 (by decide) ?_
              refine lv_iconst (v := 2) hx hb dX12_levels_111 (by decide) ?_
              refine lv_iload_n hx hb dX12_levels_112 rfl (lv_at hl 2 rfl) ?_
              refine lv_imul hx hb dX12_levels_113 ?_
              refine lv_topi (fun x724 ex724 => ?_)
              have t725 : x724.toInt = 2 * z32.toInt := ti_mul ex724 (by decide) rfl (by omega) (by omega)
              refine lv_ishl hx hb dX12_levels_114 ?_
              refine lv_topi (fun x726 ex726 => ?_)
              refine lv_icmp_ge (tgt := 309) hx hb dX12_levels_115 (by decide) (fun c727 => ?_) (fun c727 => (by exfalso; have q9 : ((2147483647 : Nat) : Int) < x726.toInt := ti_nle c727 rfl (nI_toInt (by omega)); have := ti_all x726; omega))
              have t728 : x726.toInt ≤ ((2147483647 : Nat) : Int) := ti_le c727 rfl (nI_toInt (by omega))
              refine lv_iload hx hb dX12_levels_309 (lv_at hl 1 rfl) ?_
              exact W.iret (v := z67) hx hb hr (fun t ht hW => ⟨⟨z67, (), rfl, (by exact (by have q8 := ti_all z67; omega)), by (try dsimp only); rw [ht]; exact ⟨hT, hF⟩⟩, hS.F ht⟩) hS.2.2 dX12_levels_311
            | succ n722 ih722 =>
              intro i66 hn722 hlo723 z67 h68 H locs hT hF hS  ls hl
              have hlt728 : i66 < 2147483647 := by omega
              refine lv_iload hx hb dX12_levels_108 (lv_at hl 0 rfl) ?_
              refine lv_iconst (v := 1) hx hb dX12_levels_110 (by decide) ?_
              refine lv_iconst (v := 2) hx hb dX12_levels_111 (by decide) ?_
              refine lv_iload_n hx hb dX12_levels_112 rfl (lv_at hl 2 rfl) ?_
              refine lv_imul hx hb dX12_levels_113 ?_
              refine lv_topi (fun x729 ex729 => ?_)
              have t730 : x729.toInt = 2 * z32.toInt := ti_mul ex729 (by decide) rfl (by omega) (by omega)
              refine lv_ishl hx hb dX12_levels_114 ?_
              refine lv_topi (fun x731 ex731 => ?_)
              refine lv_icmp_ge (tgt := 309) hx hb dX12_levels_115 (by decide) (fun c732 => ?_) (fun c732 => ?_)
              · have t733 : x731.toInt ≤ ((i66 : Nat) : Int) := ti_le c732 rfl (nI_toInt (by omega))
                refine lv_iload hx hb dX12_levels_309 (lv_at hl 1 rfl) ?_
                exact W.iret (v := z67) hx hb hr (fun t ht hW => ⟨⟨z67, (), rfl, (by exact (by have q8 := ti_all z67; omega)), by (try dsimp only); rw [ht]; exact ⟨hT, hF⟩⟩, hS.F ht⟩) hS.2.2 dX12_levels_311
              · have t734 : ((i66 : Nat) : Int) < x731.toInt := ti_nle c732 rfl (nI_toInt (by omega))
                refine lv_iconst (v := 0) hx hb dX12_levels_118 (by decide) ?_
                refine lv_istore (lv' := [(6, .int 0), (5, .int (nI i66)), (4, .int z67), (3, .int z32), (0, .ref o0), (1, .int p0), (2, .int p1)]) hx hb dX12_levels_119 hl (by decide) rfl (fun ls hl => ?_)
                refine lv_iconst (v := 1) hx hb dX12_levels_121 (by decide) ?_
                refine lv_istore (lv' := [(7, .int 1), (6, .int 0), (5, .int (nI i66)), (4, .int z67), (3, .int z32), (0, .ref o0), (1, .int p0), (2, .int p1)]) hx hb dX12_levels_122 hl (by decide) rfl (fun ls hl => ?_)
                refine lv_iconst (v := 0) hx hb dX12_levels_124 (by decide) ?_
                refine lv_istore (lv' := [(8, .int 0), (7, .int 1), (6, .int 0), (5, .int (nI i66)), (4, .int z67), (3, .int z32), (0, .ref o0), (1, .int p0), (2, .int p1)]) hx hb dX12_levels_125 hl (by decide) rfl (fun ls hl => ?_)
                have jn1342 : ∀ (z1337 : Int32), ∀ (z1339 : Int32), ∀ (z1341 : Int32), ((0 ≤ z1337.toInt ∧ z1337.toInt ≤ 6) ∧ (0 ≤ z1339.toInt ∧ z1339.toInt ≤ 1)) → ∀ (H : Heap) (locs : List Loc), gH (dC, dI) kA (SHm q (wP wZ wN wH wB wC wL wK wU wV) PI im PM PT lS lB lE lN) G H → gF (dC, dI) SKm G ([(0, 0), (69, 0), (70, 0)] : List (Nat × Nat)) s.heap H → va_S A s.heap H locs → ∀ ls : Array Slot, lv_has ls 11 [(8, .int z1337), (7, .int z1339), (6, .int z1341), (5, .int (nI i66)), (4, .int z67), (3, .int z32), (0, .ref o0), (1, .int p0), (2, .int p1)] → W p l e (headSpec w_s_levels ({ frames := 2, cells := 0, slots := 0, locals := 64 })).room s m #[.ref o0, .int p0, .int p1] below meth c H locs 0 0 (MQ below (va_Qi (fun (r : Int32) (u : Unit) => (-1 ≤ r.toInt ∧ r.toInt ≤ 2147483647)) (fun (_ : Unit) (t : State) => gH (dC, dI) kA (SHm q (wP wZ wN wH wB wC wL wK wU wV) PI im PM PT lS lB lE lN) G t.heap ∧ gF (dC, dI) SKm G ([(0, 0), (69, 0), (70, 0)] : List (Nat × Nat)) s.heap t.heap) A) #[.ref o0, .int p0, .int p1] s 0 0 A) (F0 m 289 ls []) := by
                  intro z1337 z1339 z1341 ⟨h1338, h1340⟩ H locs hT hF hS  ls hl
                  refine lv_iload hx hb dX12_levels_289 (lv_at hl 1 rfl) ?_
                  refine lv_if_eq (tgt := 303) hx hb dX12_levels_291 (by decide) (fun c1343 => ?_) (fun c1343 => ?_)
                  · have t1344 : z1339.toInt = 0 := ti_eq c1343 rfl (by decide)
                    refine lv_iinc (v := nI (i66 + 1)) (lv' := [(5, .int (nI (i66 + 1))), (8, .int z1337), (7, .int z1339), (6, .int z1341), (4, .int z67), (3, .int z32), (0, .ref o0), (1, .int p0), (2, .int p1)]) hx hb dX12_levels_303 hl (k := 3) rfl (nI_add i66 1) (by decide) rfl (fun ls hl => ?_)
                    refine lv_goto (tgt := 108) hx hb dX12_levels_306 (by decide) ?_
                    exact ih722 (i66 + 1) (by omega) (by omega) z67 (by have q8 := ti_all z67; omega) _ _ hT hF hS ls (lv_sub hl [0, 4, 5, 6, 7, 8] rfl)
                  · have t1345 : z1339.toInt ≠ 0 := ti_ne c1343 rfl (by decide)
                    refine lv_iload hx hb dX12_levels_294 (lv_at hl 4 rfl) ?_
                    refine lv_iload hx hb dX12_levels_296 (lv_at hl 2 rfl) ?_
                    refine va_mmax hx hb (hml.trans hl.1.symm) hown (ht_at hts 14 rfl) (ht_at hts 15 rfl) (ht_at hts 16 rfl) (ht_at hts 17 rfl) (Nat.le_of_ble_eq_true rfl) (Nat.le_of_ble_eq_true rfl) (Nat.le_of_ble_eq_true rfl) (Nat.le_of_ble_eq_true rfl) dX12_levels_298 ?_
                    refine lv_topi (fun x1346 ex1346 => ?_)
                    have t1347 : z67.toInt ≤ x1346.toInt ∧ z1341.toInt ≤ x1346.toInt ∧ (x1346.toInt = z67.toInt ∨ x1346.toInt = z1341.toInt) := mx_f ex1346 rfl rfl
                    refine lv_istore (lv' := [(4, .int x1346), (8, .int z1337), (7, .int z1339), (6, .int z1341), (5, .int (nI i66)), (3, .int z32), (0, .ref o0), (1, .int p0), (2, .int p1)]) hx hb dX12_levels_301 hl (by decide) rfl (fun ls hl => ?_)
                    refine lv_iinc (v := nI (i66 + 1)) (lv' := [(5, .int (nI (i66 + 1))), (4, .int x1346), (8, .int z1337), (7, .int z1339), (6, .int z1341), (3, .int z32), (0, .ref o0), (1, .int p0), (2, .int p1)]) hx hb dX12_levels_303 hl (k := 4) rfl (nI_add i66 1) (by decide) rfl (fun ls hl => ?_)
                    refine lv_goto (tgt := 108) hx hb dX12_levels_306 (by decide) ?_
                    exact ih722 (i66 + 1) (by omega) (by omega) x1346 (by have q8 := ti_all x1346; omega) _ _ hT hF hS ls (lv_sub hl [0, 1, 5, 6, 7, 8] rfl)
                have key1348 : ∀ (n1348 i735 : Nat), i735 + n1348 = 6 → 0 ≤ i735 → ∀ (z736 : Int32), ∀ (z738 : Int32), ((0 ≤ z736.toInt ∧ z736.toInt ≤ 1)) → ∀ (H : Heap) (locs : List Loc), gH (dC, dI) kA (SHm q (wP wZ wN wH wB wC wL wK wU wV) PI im PM PT lS lB lE lN) G H → gF (dC, dI) SKm G ([(0, 0), (69, 0), (70, 0)] : List (Nat × Nat)) s.heap H → va_S A s.heap H locs → ∀ ls : Array Slot, lv_has ls 11 [(8, .int (nI i735)), (7, .int z736), (6, .int z738), (5, .int (nI i66)), (4, .int z67), (3, .int z32), (0, .ref o0), (1, .int p0), (2, .int p1)] → W p l e (headSpec w_s_levels ({ frames := 2, cells := 0, slots := 0, locals := 64 })).room s m #[.ref o0, .int p0, .int p1] below meth c H locs 0 0 (MQ below (va_Qi (fun (r : Int32) (u : Unit) => (-1 ≤ r.toInt ∧ r.toInt ≤ 2147483647)) (fun (_ : Unit) (t : State) => gH (dC, dI) kA (SHm q (wP wZ wN wH wB wC wL wK wU wV) PI im PM PT lS lB lE lN) G t.heap ∧ gF (dC, dI) SKm G ([(0, 0), (69, 0), (70, 0)] : List (Nat × Nat)) s.heap t.heap) A) #[.ref o0, .int p0, .int p1] s 0 0 A) (F0 m 127 ls []) := by
                  intro n1348
                  induction n1348 with
                  | zero =>
                    intro i735 hn1348 hlo1349 z736 z738 h737 H locs hT hF hS  ls hl
                    obtain rfl : 6 = i735 := by omega
                    refine lv_iload hx hb dX12_levels_127 (lv_at hl 0 rfl) ?_
                    refine lv_iload_n hx hb dX12_levels_129 rfl (lv_at hl 5 rfl) ?_
                    refine lv_icmp_ge (tgt := 289) hx hb dX12_levels_130 (by decide) (fun c1350 => ?_) (fun c1350 => (by exfalso; have q9 : ((6 : Nat) : Int) < z32.toInt := ti_nle c1350 rfl (nI_toInt (by omega)); omega))
                    have t1351 : z32.toInt ≤ ((6 : Nat) : Int) := ti_le c1350 rfl (nI_toInt (by omega))
                    exact jn1342 (nI 6) z736 z738 ⟨(rg_t (a := ((6 : Nat) : Int)) (nI_toInt (by omega)) (by omega) (by omega)), (by have q8 := ti_all z736; omega)⟩ _ _ hT hF hS ls (lv_sub hl [0, 1, 2, 3, 4, 5, 6, 7, 8] rfl)
                  | succ n1348 ih1348 =>
                    intro i735 hn1348 hlo1349 z736 z738 h737 H locs hT hF hS  ls hl
                    have hlt1351 : i735 < 6 := by omega
                    refine lv_iload hx hb dX12_levels_127 (lv_at hl 0 rfl) ?_
                    refine lv_iload_n hx hb dX12_levels_129 rfl (lv_at hl 5 rfl) ?_
                    refine lv_icmp_ge (tgt := 289) hx hb dX12_levels_130 (by decide) (fun c1352 => ?_) (fun c1352 => ?_)
                    · have t1353 : z32.toInt ≤ ((i735 : Nat) : Int) := ti_le c1352 rfl (nI_toInt (by omega))
                      exact jn1342 (nI i735) z736 z738 ⟨(rg_t (a := ((i735 : Nat) : Int)) (nI_toInt (by omega)) (by omega) (by omega)), (by have q8 := ti_all z736; omega)⟩ _ _ hT hF hS ls (lv_sub hl [0, 1, 2, 3, 4, 5, 6, 7, 8] rfl)
                    · have t1354 : ((i735 : Nat) : Int) < z32.toInt := ti_nle c1352 rfl (nI_toInt (by omega))
                      refine lv_aload_n hx hb dX12_levels_133 rfl (lv_at hl 6 rfl) ?_
                      refine tw_get hx hb hts bF_X12 hown hK hT hr_o0 shm_0 rfl 68 (by decide) (ht_at hts 27 rfl) (fun _ h9 => h9) dX12_levels_134 (fun v9 m1355 h9 => ?_)
                      obtain ⟨rfl, hg1356⟩ := h9 _ rfl
                      refine lv_iload hx hb dX12_levels_137 (lv_at hl 0 rfl) ?_
                      refine lv_bipush (v := 40) hx hb dX12_levels_139 (by decide) ?_
                      refine lv_bipush (v := 40) hx hb dX12_levels_141 (by decide) ?_
                      refine lv_iload hx hb dX12_levels_143 (lv_at hl 3 rfl) ?_
                      refine lv_iconst (v := 2) hx hb dX12_levels_145 (by decide) ?_
                      refine lv_iload hx hb dX12_levels_146 (lv_at hl 0 rfl) ?_
                      refine lv_imul hx hb dX12_levels_148 ?_
                      refine lv_topi (fun x1357 ex1357 => ?_)
                      obtain rfl : nI (2 * i735) = x1357 := (ex1357.trans (pk_mul 2 i735)).symm
                      refine lv_ishr hx hb dX12_levels_149 ?_
                      refine lv_topi (fun x1358 ex1358 => ?_)
                      refine lv_iconst (v := 3) hx hb dX12_levels_150 (by decide) ?_
                      refine lv_iand hx hb dX12_levels_151 ?_
                      refine lv_topi (fun x1359 ex1359 => ?_)
                      refine lv_imul hx hb dX12_levels_152 ?_
                      refine lv_topi (fun x1360 ex1360 => ?_)
                      refine lv_iadd hx hb dX12_levels_153 ?_
                      refine lv_topi (fun x1361 ex1361 => ?_)
                      refine tw_iast (i := (nI i735)) (x := x1361) hx hb hK hT hG hS hg1356 shm_69 rfl (vp_in_nI (by omega) (by decide)) (gi_all _) dX12_levels_154 (fun H locs hT oq m1362 oi hS => ?_)
                      have hF := hF.ast hg1356 skm_69 oq (by decide)
                      refine lv_iload hx hb dX12_levels_155 (lv_at hl 2 rfl) ?_
                      refine lv_aload_n hx hb dX12_levels_157 rfl (lv_at hl 6 rfl) ?_
                      refine tw_get hx hb hts bF_X12 hown hK hT hr_o0 shm_0 rfl 45 (by decide) (ht_at hts 28 rfl) (fun _ h9 => h9) dX12_levels_158 (fun v9 m1363 h9 => ?_)
                      obtain ⟨rfl, hg1364⟩ := h9 _ rfl
                      refine lv_iload_n hx hb dX12_levels_161 rfl (lv_at hl 7 rfl) ?_
                      refine tw_iald (i := p0) hx hb hK hT hg1364 shm_46 rfl (vin_t (a := p0.toInt) rfl (by omega) (by omega)) dX12_levels_162 (fun v9 m1365 h9 => ?_)
                      obtain ⟨x1366, rfl, gx1366, kx1366⟩ := h9
                      refine lv_aload_n hx hb dX12_levels_163 rfl (lv_at hl 6 rfl) ?_
                      refine tw_get hx hb hts bF_X12 hown hK hT hr_o0 shm_0 rfl 68 (by decide) (ht_at hts 27 rfl) (fun _ h9 => h9) dX12_levels_164 (fun v9 m1367 h9 => ?_)
                      obtain ⟨rfl, hg1368⟩ := h9 _ rfl
                      refine lv_iload hx hb dX12_levels_167 (lv_at hl 0 rfl) ?_
                      refine tw_iald (i := (nI i735)) hx hb hK hT hg1356 shm_69 rfl (vp_in_nI (by omega) (by decide)) dX12_levels_169 (fun v9 m1369 h9 => ?_)
                      obtain ⟨x1370, rfl, gx1370, kx1370⟩ := h9
                      obtain rfl : x1361 = x1370 := (el_same m1369 m1362 rfl).symm
                      have hFc := gA_free hG hA hS
                      refine va_calli (va_runS (As := [.int x1366, .int x1361]) (rest := [.int z738]) ⟨hx, hb, hml, hown, hts⟩ (s_worthAt l dC dI kA adK adV G H q wZ wN wH wB wC wL wK wU wV PI im PM PT lS lB lE lN x1366 x1361 hT hgz hgn hgh hgb hgc hgi hgu) (va_cwS 2 hts (goodIn_app (goodIn_r _ [34, 35, 7] rfl (by decide +kernel)) (goodIn_ca (goodIn_r _ [30, 31, 32, 17, 33, 15, 16, 18] rfl (by decide +kernel)) (bs_in _ _))) rfl rfl rfl (by decide +kernel) ⟨(Nat.le_of_ble_eq_true rfl), (Nat.le_of_ble_eq_true rfl)⟩) ⟨fun a U g mk q => by obtain ⟨q0, q1, qK, qE⟩ := q; exact ⟨q0, q1, va_K.moved (u := U) (U := U.calling g mk a) (Vm.Alike.refl U.vm) qK, EVS.blind g mk a qE⟩, fun U hU hW => ⟨rfl, hU, va_K.moved hW.alike hK, hE.call hS hFc hU hW⟩⟩ rfl rfl hl.1 rfl (lv_room (Nat.le_of_ble_eq_true rfl)) dX12_levels_170 ⟨(Nat.le_of_ble_eq_true rfl), (Nat.le_of_ble_eq_true rfl)⟩) hS (fun q _ h => hFc q h) hFc (fun r1371 u t H locs ht hvm hw1372 hB _ _ hS => ?_)
                      obtain ⟨hT, hF1⟩ := hB
                      rw [ht] at hT hF1
                      have m1373 := (el_kept (hF1.arr hg1356 skm_69 (by decide))).trans m1362
                      have m1374 := (el_kept (hF1.arr hg1364 skm_46 (by decide))).trans m1365
                      have hF := hF.more hF1 (by decide)
                      try dsimp only at hw1372
                      have h1375 := hw1372
                      refine lv_iadd hx hb dX12_levels_173 ?_
                      refine lv_topi (fun x1376 ex1376 => ?_)
                      refine lv_istore (lv' := [(6, .int x1376), (8, .int (nI i735)), (7, .int z736), (5, .int (nI i66)), (4, .int z67), (3, .int z32), (0, .ref o0), (1, .int p0), (2, .int p1)]) hx hb dX12_levels_174 hl (by decide) rfl (fun ls hl => ?_)
                      refine lv_iconst (v := 0) hx hb dX12_levels_176 (by decide) ?_
                      refine lv_istore (lv' := [(9, .int 0), (6, .int x1376), (8, .int (nI i735)), (7, .int z736), (5, .int (nI i66)), (4, .int z67), (3, .int z32), (0, .ref o0), (1, .int p0), (2, .int p1)]) hx hb dX12_levels_177 hl (by decide) rfl (fun ls hl => ?_)
                      have key1443 : ∀ (n1443 i1377 : Nat), i1377 + n1443 = 5 → 0 ≤ i1377 → ∀ (z1378 : Int32), ((0 ≤ z1378.toInt ∧ z1378.toInt ≤ 1)) → ∀ (H : Heap) (locs : List Loc), gH (dC, dI) kA (SHm q (wP wZ wN wH wB wC wL wK wU wV) PI im PM PT lS lB lE lN) G H → gF (dC, dI) SKm G ([(0, 0), (69, 0), (70, 0)] : List (Nat × Nat)) s.heap H → va_S A s.heap H locs → el H (q 68) (nI i735).toNatClampNeg = some (.int x1361) → el H (q 45) p0.toNatClampNeg = some (.int x1366) → ∀ ls : Array Slot, lv_has ls 11 [(9, .int (nI i1377)), (6, .int x1376), (8, .int (nI i735)), (7, .int z1378), (5, .int (nI i66)), (4, .int z67), (3, .int z32), (0, .ref o0), (1, .int p0), (2, .int p1)] → W p l e (headSpec w_s_levels ({ frames := 2, cells := 0, slots := 0, locals := 64 })).room s m #[.ref o0, .int p0, .int p1] below meth c H locs 0 0 (MQ below (va_Qi (fun (r : Int32) (u : Unit) => (-1 ≤ r.toInt ∧ r.toInt ≤ 2147483647)) (fun (_ : Unit) (t : State) => gH (dC, dI) kA (SHm q (wP wZ wN wH wB wC wL wK wU wV) PI im PM PT lS lB lE lN) G t.heap ∧ gF (dC, dI) SKm G ([(0, 0), (69, 0), (70, 0)] : List (Nat × Nat)) s.heap t.heap) A) #[.ref o0, .int p0, .int p1] s 0 0 A) (F0 m 179 ls []) := by
                        intro n1443
                        induction n1443 with
                        | zero =>
                          intro i1377 hn1443 hlo1444 z1378 h1379 H locs hT hF hS m1380 m1381 ls hl
                          obtain rfl : 5 = i1377 := by omega
                          refine lv_iload hx hb dX12_levels_179 (lv_at hl 0 rfl) ?_
                          refine lv_iload hx hb dX12_levels_181 (lv_at hl 2 rfl) ?_
                          refine lv_icmp_ge (tgt := 283) hx hb dX12_levels_183 (by decide) (fun c1445 => ?_) (fun c1445 => (by exfalso; have q9 : ((5 : Nat) : Int) < ((i735 : Nat) : Int) := ti_nle c1445 (nI_toInt (by omega)) (nI_toInt (by omega)); omega))
                          have t1446 : ((i735 : Nat) : Int) ≤ ((5 : Nat) : Int) := ti_le c1445 (nI_toInt (by omega)) (nI_toInt (by omega))
                          refine lv_iinc (v := nI (i735 + 1)) (lv' := [(8, .int (nI (i735 + 1))), (9, .int (nI 5)), (6, .int x1376), (7, .int z1378), (5, .int (nI i66)), (4, .int z67), (3, .int z32), (0, .ref o0), (1, .int p0), (2, .int p1)]) hx hb dX12_levels_283 hl (k := 2) rfl (nI_add i735 1) (by decide) rfl (fun ls hl => ?_)
                          refine lv_goto (tgt := 127) hx hb dX12_levels_286 (by decide) ?_
                          exact ih1348 (i735 + 1) (by omega) (by omega) z1378 x1376 (by have q8 := ti_all z1378; omega) _ _ hT hF hS ls (lv_sub hl [0, 3, 2, 4, 5, 6, 7, 8, 9] rfl)
                        | succ n1443 ih1443 =>
                          intro i1377 hn1443 hlo1444 z1378 h1379 H locs hT hF hS m1380 m1381 ls hl
                          have hlt1446 : i1377 < 5 := by omega
                          refine lv_iload hx hb dX12_levels_179 (lv_at hl 0 rfl) ?_
                          refine lv_iload hx hb dX12_levels_181 (lv_at hl 2 rfl) ?_
                          refine lv_icmp_ge (tgt := 283) hx hb dX12_levels_183 (by decide) (fun c1447 => ?_) (fun c1447 => ?_)
                          · have t1448 : ((i735 : Nat) : Int) ≤ ((i1377 : Nat) : Int) := ti_le c1447 (nI_toInt (by omega)) (nI_toInt (by omega))
                            refine lv_iinc (v := nI (i735 + 1)) (lv' := [(8, .int (nI (i735 + 1))), (9, .int (nI i1377)), (6, .int x1376), (7, .int z1378), (5, .int (nI i66)), (4, .int z67), (3, .int z32), (0, .ref o0), (1, .int p0), (2, .int p1)]) hx hb dX12_levels_283 hl (k := 2) rfl (nI_add i735 1) (by decide) rfl (fun ls hl => ?_)
                            refine lv_goto (tgt := 127) hx hb dX12_levels_286 (by decide) ?_
                            exact ih1348 (i735 + 1) (by omega) (by omega) z1378 x1376 (by have q8 := ti_all z1378; omega) _ _ hT hF hS ls (lv_sub hl [0, 3, 2, 4, 5, 6, 7, 8, 9] rfl)
                          · have t1449 : ((i1377 : Nat) : Int) < ((i735 : Nat) : Int) := ti_nle c1447 (nI_toInt (by omega)) (nI_toInt (by omega))
                            refine lv_aload_n hx hb dX12_levels_186 rfl (lv_at hl 7 rfl) ?_
                            refine tw_get hx hb hts bF_X12 hown hK hT hr_o0 shm_0 rfl 1 (by decide) (ht_at hts 35 rfl) (fun _ h9 => h9) dX12_levels_187 (fun v9 m1450 h9 => ?_)
                            obtain ⟨rfl, hg1451⟩ := h9 _ rfl
                            refine lv_bipush (v := 96) hx hb dX12_levels_190 (by decide) ?_
                            refine lv_aload_n hx hb dX12_levels_192 rfl (lv_at hl 7 rfl) ?_
                            refine tw_get hx hb hts bF_X12 hown hK hT hr_o0 shm_0 rfl 69 (by decide) (ht_at hts 26 rfl) (fun _ h9 => h9) dX12_levels_193 (fun v9 m1452 h9 => ?_)
                            obtain ⟨rfl, hg1453⟩ := h9 _ rfl
                            refine lv_iload hx hb dX12_levels_196 (lv_at hl 2 rfl) ?_
                            refine tw_iald (i := (nI i735)) hx hb hK hT hg1453 shm_70 rfl (vp_in_nI (by omega) (by decide)) dX12_levels_198 (fun v9 m1454 h9 => ?_)
                            obtain ⟨x1455, rfl, gx1455, kx1455⟩ := h9
                            refine lv_iadd hx hb dX12_levels_199 ?_
                            refine lv_topi (fun x1456 ex1456 => ?_)
                            have t1457 : x1456.toInt = 96 + x1455.toInt := ti_add ex1456 (by decide) rfl (by omega) (by omega)
                            refine tw_iald (i := x1456) hx hb hK hT hg1451 shm_2 rfl (vin_t (a := x1456.toInt) rfl (by omega) (by omega)) dX12_levels_200 (fun v9 m1458 h9 => ?_)
                            obtain ⟨x1459, rfl, gx1459, kx1459⟩ := (gp_at h9 (w_hgt (by have q9 := tn_of (show x1456.toInt = x1456.toInt from rfl) (show (0 : Int) ≤ x1456.toInt from by omega); omega)))
                            refine lv_aload_n hx hb dX12_levels_201 rfl (lv_at hl 7 rfl) ?_
                            refine tw_get hx hb hts bF_X12 hown hK hT hr_o0 shm_0 rfl 68 (by decide) (ht_at hts 27 rfl) (fun _ h9 => h9) dX12_levels_202 (fun v9 m1460 h9 => ?_)
                            obtain ⟨rfl, hg1461⟩ := h9 _ rfl
                            refine lv_iload hx hb dX12_levels_205 (lv_at hl 2 rfl) ?_
                            refine tw_iald (i := (nI i735)) hx hb hK hT hg1356 shm_69 rfl (vp_in_nI (by omega) (by decide)) dX12_levels_207 (fun v9 m1462 h9 => ?_)
                            obtain ⟨x1463, rfl, gx1463, kx1463⟩ := h9
                            obtain rfl : x1361 = x1463 := (el_same m1462 m1380 rfl).symm
                            refine lv_isub hx hb dX12_levels_208 ?_
                            refine lv_topi (fun x1464 ex1464 => ?_)
                            refine lv_aload_n hx hb dX12_levels_209 rfl (lv_at hl 7 rfl) ?_
                            refine tw_get hx hb hts bF_X12 hown hK hT hr_o0 shm_0 rfl 1 (by decide) (ht_at hts 35 rfl) (fun _ h9 => h9) dX12_levels_210 (fun v9 m1465 h9 => ?_)
                            obtain ⟨rfl, hg1466⟩ := h9 _ rfl
                            refine lv_bipush (v := 96) hx hb dX12_levels_213 (by decide) ?_
                            refine lv_aload_n hx hb dX12_levels_215 rfl (lv_at hl 7 rfl) ?_
                            refine tw_get hx hb hts bF_X12 hown hK hT hr_o0 shm_0 rfl 69 (by decide) (ht_at hts 26 rfl) (fun _ h9 => h9) dX12_levels_216 (fun v9 m1467 h9 => ?_)
                            obtain ⟨rfl, hg1468⟩ := h9 _ rfl
                            refine lv_iload hx hb dX12_levels_219 (lv_at hl 0 rfl) ?_
                            refine tw_iald (i := (nI i1377)) hx hb hK hT hg1453 shm_70 rfl (vp_in_nI (by omega) (by decide)) dX12_levels_221 (fun v9 m1469 h9 => ?_)
                            obtain ⟨x1470, rfl, gx1470, kx1470⟩ := h9
                            refine lv_iadd hx hb dX12_levels_222 ?_
                            refine lv_topi (fun x1471 ex1471 => ?_)
                            have t1472 : x1471.toInt = 96 + x1470.toInt := ti_add ex1471 (by decide) rfl (by omega) (by omega)
                            refine tw_iald (i := x1471) hx hb hK hT hg1451 shm_2 rfl (vin_t (a := x1471.toInt) rfl (by omega) (by omega)) dX12_levels_223 (fun v9 m1473 h9 => ?_)
                            obtain ⟨x1474, rfl, gx1474, kx1474⟩ := (gp_at h9 (w_hgt (by have q9 := tn_of (show x1471.toInt = x1471.toInt from rfl) (show (0 : Int) ≤ x1471.toInt from by omega); omega)))
                            refine lv_isub hx hb dX12_levels_224 ?_
                            refine lv_topi (fun x1475 ex1475 => ?_)
                            refine lv_aload_n hx hb dX12_levels_225 rfl (lv_at hl 7 rfl) ?_
                            refine tw_get hx hb hts bF_X12 hown hK hT hr_o0 shm_0 rfl 68 (by decide) (ht_at hts 27 rfl) (fun _ h9 => h9) dX12_levels_226 (fun v9 m1476 h9 => ?_)
                            obtain ⟨rfl, hg1477⟩ := h9 _ rfl
                            refine lv_iload hx hb dX12_levels_229 (lv_at hl 0 rfl) ?_
                            refine tw_iald (i := (nI i1377)) hx hb hK hT hg1356 shm_69 rfl (vp_in_nI (by omega) (by decide)) dX12_levels_231 (fun v9 m1478 h9 => ?_)
                            obtain ⟨x1479, rfl, gx1479, kx1479⟩ := h9
                            refine lv_iadd hx hb dX12_levels_232 ?_
                            refine lv_topi (fun x1480 ex1480 => ?_)
                            refine lv_istore (lv' := [(10, .int x1480), (9, .int (nI i1377)), (6, .int x1376), (8, .int (nI i735)), (7, .int z1378), (5, .int (nI i66)), (4, .int z67), (3, .int z32), (0, .ref o0), (1, .int p0), (2, .int p1)]) hx hb dX12_levels_233 hl (by decide) rfl (fun ls hl => ?_)
                            refine lv_iload hx hb dX12_levels_235 (lv_at hl 4 rfl) ?_
                            refine lv_if_eq (tgt := 274) hx hb dX12_levels_237 (by decide) (fun c1481 => ?_) (fun c1481 => ?_)
                            · have t1482 : z1378.toInt = 0 := ti_eq c1481 rfl (by decide)
                              refine lv_iconst (v := 0) hx hb dX12_levels_274 (by decide) ?_
                              refine lv_istore (lv' := [(7, .int 0), (10, .int x1480), (9, .int (nI i1377)), (6, .int x1376), (8, .int (nI i735)), (5, .int (nI i66)), (4, .int z67), (3, .int z32), (0, .ref o0), (1, .int p0), (2, .int p1)]) hx hb dX12_levels_275 hl (by decide) rfl (fun ls hl => ?_)
                              refine lv_iinc (v := nI (i1377 + 1)) (lv' := [(9, .int (nI (i1377 + 1))), (7, .int 0), (10, .int x1480), (6, .int x1376), (8, .int (nI i735)), (5, .int (nI i66)), (4, .int z67), (3, .int z32), (0, .ref o0), (1, .int p0), (2, .int p1)]) hx hb dX12_levels_277 hl (k := 2) rfl (nI_add i1377 1) (by decide) rfl (fun ls hl => ?_)
                              refine lv_goto (tgt := 179) hx hb dX12_levels_280 (by decide) ?_
                              exact ih1443 (i1377 + 1) (by omega) (by omega) 0 (rg_t (a := 0) (by decide) (by first | decide | omega) (by first | decide | omega)) _ _ hT hF hS m1380 m1381 ls (lv_sub hl [0, 3, 4, 1, 5, 6, 7, 8, 9, 10] rfl)
                            · have t1483 : z1378.toInt ≠ 0 := ti_ne c1481 rfl (by decide)
                              refine lv_aload_n hx hb dX12_levels_240 rfl (lv_at hl 8 rfl) ?_
                              refine tw_get hx hb hts bF_X12 hown hK hT hr_o0 shm_0 rfl 69 (by decide) (ht_at hts 26 rfl) (fun _ h9 => h9) dX12_levels_241 (fun v9 m1484 h9 => ?_)
                              obtain ⟨rfl, hg1485⟩ := h9 _ rfl
                              refine lv_iload hx hb dX12_levels_244 (lv_at hl 3 rfl) ?_
                              refine tw_iald (i := (nI i735)) hx hb hK hT hg1453 shm_70 rfl (vp_in_nI (by omega) (by decide)) dX12_levels_246 (fun v9 m1486 h9 => ?_)
                              obtain ⟨x1487, rfl, gx1487, kx1487⟩ := h9
                              obtain rfl : x1455 = x1487 := (el_same m1486 m1454 rfl).symm
                              refine lv_aload_n hx hb dX12_levels_247 rfl (lv_at hl 8 rfl) ?_
                              refine tw_get hx hb hts bF_X12 hown hK hT hr_o0 shm_0 rfl 69 (by decide) (ht_at hts 26 rfl) (fun _ h9 => h9) dX12_levels_248 (fun v9 m1488 h9 => ?_)
                              obtain ⟨rfl, hg1489⟩ := h9 _ rfl
                              refine lv_iload hx hb dX12_levels_251 (lv_at hl 1 rfl) ?_
                              refine tw_iald (i := (nI i1377)) hx hb hK hT hg1453 shm_70 rfl (vp_in_nI (by omega) (by decide)) dX12_levels_253 (fun v9 m1490 h9 => ?_)
                              obtain ⟨x1491, rfl, gx1491, kx1491⟩ := h9
                              obtain rfl : x1470 = x1491 := (el_same m1490 m1469 rfl).symm
                              have hFc := gA_free hG hA hS
                              refine va_calli (va_runS (As := [.int x1455, .int x1470]) (rest := []) ⟨hx, hb, hml, hown, hts⟩ (s_steps l dC dI kA adK adV G H q wZ wN wH wB wC wL wK wU wV PI im PM PT lS lB lE lN x1455 x1470 hT hgz hgn hgh hgb hgc hgi hgu) (va_cwS 2 hts (goodIn_app (goodIn_r _ [38, 39, 7] rfl (by decide +kernel)) (goodIn_ca (goodIn_r _ [37, 31, 32, 17, 33] rfl (by decide +kernel)) (bs_in _ _))) rfl rfl rfl (by decide +kernel) ⟨(Nat.le_of_ble_eq_true rfl), (Nat.le_of_ble_eq_true rfl)⟩) ⟨fun a U g mk q => by obtain ⟨q0, q1, qK, qE⟩ := q; exact ⟨q0, q1, va_K.moved (u := U) (U := U.calling g mk a) (Vm.Alike.refl U.vm) qK, EVS.blind g mk a qE⟩, fun U hU hW => ⟨rfl, hU, va_K.moved hW.alike hK, hE.call hS hFc hU hW⟩⟩ rfl rfl hl.1 rfl (lv_room (Nat.le_of_ble_eq_true rfl)) dX12_levels_254 ⟨(Nat.le_of_ble_eq_true rfl), (Nat.le_of_ble_eq_true rfl)⟩) hS (fun q _ h => hFc q h) hFc (fun r1492 u t H locs ht hvm hw1493 hB _ _ hS => ?_)
                              obtain ⟨hT, hF1⟩ := hB
                              rw [ht] at hT hF1
                              have m1494 := (el_kept (hF1.arr hg1356 skm_69 (by decide))).trans m1380
                              have m1495 := (el_kept (hF1.arr hg1364 skm_46 (by decide))).trans m1381
                              have hF := hF.more hF1 (by decide)
                              try dsimp only at hw1493
                              refine lv_iconst (v := 1) hx hb dX12_levels_257 (by decide) ?_
                              refine lv_icmp_ne (tgt := 270) hx hb dX12_levels_258 (by decide) (fun c1501 => ?_) (fun c1501 => ?_)
                              · have t1502 : r1492.toInt ≠ 1 := ti_ne c1501 rfl (by decide)
                                refine lv_iconst (v := 1) hx hb dX12_levels_270 (by decide) ?_
                                refine lv_goto (tgt := 275) hx hb dX12_levels_271 (by decide) ?_
                                refine lv_istore (lv' := [(7, .int 1), (10, .int x1480), (9, .int (nI i1377)), (6, .int x1376), (8, .int (nI i735)), (5, .int (nI i66)), (4, .int z67), (3, .int z32), (0, .ref o0), (1, .int p0), (2, .int p1)]) hx hb dX12_levels_275 hl (by decide) rfl (fun ls hl => ?_)
                                refine lv_iinc (v := nI (i1377 + 1)) (lv' := [(9, .int (nI (i1377 + 1))), (7, .int 1), (10, .int x1480), (6, .int x1376), (8, .int (nI i735)), (5, .int (nI i66)), (4, .int z67), (3, .int z32), (0, .ref o0), (1, .int p0), (2, .int p1)]) hx hb dX12_levels_277 hl (k := 2) rfl (nI_add i1377 1) (by decide) rfl (fun ls hl => ?_)
                                refine lv_goto (tgt := 179) hx hb dX12_levels_280 (by decide) ?_
                                exact ih1443 (i1377 + 1) (by omega) (by omega) 1 (rg_t (a := 1) (by decide) (by first | decide | omega) (by first | decide | omega)) _ _ hT hF hS m1494 m1495 ls (lv_sub hl [0, 3, 4, 1, 5, 6, 7, 8, 9, 10] rfl)
                              · have t1503 : r1492.toInt = 1 := ti_eq c1501 rfl (by decide)
                                refine lv_iload hx hb dX12_levels_261 (lv_at hl 0 rfl) ?_
                                refine va_mabs hx hb (hml.trans hl.1.symm) hown (ht_at hts 30 rfl) (ht_at hts 31 rfl) (ht_at hts 16 rfl) (ht_at hts 32 rfl) (Nat.le_of_ble_eq_true rfl) (Nat.le_of_ble_eq_true rfl) (Nat.le_of_ble_eq_true rfl) (Nat.le_of_ble_eq_true rfl) dX12_levels_263 ?_
                                refine lv_topi (fun x1504 ex1504 => ?_)
                                refine lv_iload_n hx hb dX12_levels_266 rfl (lv_at hl 10 rfl) ?_
                                refine lv_icmp_gt (tgt := 274) hx hb dX12_levels_267 (by decide) (fun c1505 => ?_) (fun c1505 => ?_)
                                · have t1506 : p1.toInt < x1504.toInt := ti_lt c1505 rfl rfl
                                  refine lv_iconst (v := 0) hx hb dX12_levels_274 (by decide) ?_
                                  refine lv_istore (lv' := [(7, .int 0), (10, .int x1480), (9, .int (nI i1377)), (6, .int x1376), (8, .int (nI i735)), (5, .int (nI i66)), (4, .int z67), (3, .int z32), (0, .ref o0), (1, .int p0), (2, .int p1)]) hx hb dX12_levels_275 hl (by decide) rfl (fun ls hl => ?_)
                                  refine lv_iinc (v := nI (i1377 + 1)) (lv' := [(9, .int (nI (i1377 + 1))), (7, .int 0), (10, .int x1480), (6, .int x1376), (8, .int (nI i735)), (5, .int (nI i66)), (4, .int z67), (3, .int z32), (0, .ref o0), (1, .int p0), (2, .int p1)]) hx hb dX12_levels_277 hl (k := 2) rfl (nI_add i1377 1) (by decide) rfl (fun ls hl => ?_)
                                  refine lv_goto (tgt := 179) hx hb dX12_levels_280 (by decide) ?_
                                  exact ih1443 (i1377 + 1) (by omega) (by omega) 0 (rg_t (a := 0) (by decide) (by first | decide | omega) (by first | decide | omega)) _ _ hT hF hS m1494 m1495 ls (lv_sub hl [0, 3, 4, 1, 5, 6, 7, 8, 9, 10] rfl)
                                · have t1507 : x1504.toInt ≤ p1.toInt := ti_nlt c1505 rfl rfl
                                  refine lv_iconst (v := 1) hx hb dX12_levels_270 (by decide) ?_
                                  refine lv_goto (tgt := 275) hx hb dX12_levels_271 (by decide) ?_
                                  refine lv_istore (lv' := [(7, .int 1), (10, .int x1480), (9, .int (nI i1377)), (6, .int x1376), (8, .int (nI i735)), (5, .int (nI i66)), (4, .int z67), (3, .int z32), (0, .ref o0), (1, .int p0), (2, .int p1)]) hx hb dX12_levels_275 hl (by decide) rfl (fun ls hl => ?_)
                                  refine lv_iinc (v := nI (i1377 + 1)) (lv' := [(9, .int (nI (i1377 + 1))), (7, .int 1), (10, .int x1480), (6, .int x1376), (8, .int (nI i735)), (5, .int (nI i66)), (4, .int z67), (3, .int z32), (0, .ref o0), (1, .int p0), (2, .int p1)]) hx hb dX12_levels_277 hl (k := 2) rfl (nI_add i1377 1) (by decide) rfl (fun ls hl => ?_)
                                  refine lv_goto (tgt := 179) hx hb dX12_levels_280 (by decide) ?_
                                  exact ih1443 (i1377 + 1) (by omega) (by omega) 1 (rg_t (a := 1) (by decide) (by first | decide | omega) (by first | decide | omega)) _ _ hT hF hS m1494 m1495 ls (lv_sub hl [0, 3, 4, 1, 5, 6, 7, 8, 9, 10] rfl)
                      exact key1443 (5 - 0) 0 (by omega) (Nat.le_refl _) z736 (by have q8 := ti_all z736; omega) _ _ hT hF hS m1373 m1374 ls (lv_sub hl [0, 1, 2, 3, 4, 5, 6, 7, 8, 9] rfl)
                exact key1348 (6 - 0) 0 (by omega) (Nat.le_refl _) 1 0 (rg_t (a := 1) (by decide) (by first | decide | omega) (by first | decide | omega)) _ _ hT hF hS ls (lv_sub hl [0, 1, 2, 3, 4, 5, 6, 7, 8] rfl)
          exact key722 (2147483647 - 0) 0 (by omega) (Nat.le_refl _) (-1) (rg_t (a := (-1)) (by decide) (by first | decide | omega) (by first | decide | omega)) _ _ hT hF hS ls (lv_sub hl [0, 1, 2, 3, 4, 5] rfl)
        | succ n62 ih62 =>
          intro i31 hn62 hlo63 z32 h33 H locs hT hF hS  ls hl
          have hlt1507 : i31 < 96 := by omega
          refine lv_iload hx hb dX12_levels_49 (lv_at hl 0 rfl) ?_
          refine lv_bipush (v := 96) hx hb dX12_levels_51 (by decide) ?_
          refine lv_icmp_ge (tgt := 102) hx hb dX12_levels_53 (by decide) (fun c1508 => (by exfalso; have q9 : 96 ≤ ((i31 : Nat) : Int) := ti_le c1508 (by decide) (nI_toInt (by omega)); omega)) (fun c1508 => ?_)
          have t1509 : ((i31 : Nat) : Int) < 96 := ti_nle c1508 (by decide) (nI_toInt (by omega))
          refine lv_iload_n hx hb dX12_levels_56 rfl (lv_at hl 1 rfl) ?_
          refine lv_bipush (v := 6) hx hb dX12_levels_57 (by decide) ?_
          refine lv_icmp_eq (tgt := 96) hx hb dX12_levels_59 (by decide) (fun c1510 => ?_) (fun c1510 => ?_)
          · have t1511 : z32.toInt = 6 := ti_eq c1510 rfl (by decide)
            refine lv_iinc (v := nI (i31 + 1)) (lv' := [(4, .int (nI (i31 + 1))), (3, .int z32), (0, .ref o0), (1, .int p0), (2, .int p1)]) hx hb dX12_levels_96 hl (k := 0) rfl (nI_add i31 1) (by decide) rfl (fun ls hl => ?_)
            refine lv_goto (tgt := 49) hx hb dX12_levels_99 (by decide) ?_
            exact ih62 (i31 + 1) (by omega) (by omega) z32 (by have q8 := ti_all z32; omega) _ _ hT hF hS ls (lv_sub hl [0, 1, 2, 3, 4] rfl)
          · have t1512 : z32.toInt ≠ 6 := ti_ne c1510 rfl (by decide)
            refine lv_iload hx hb dX12_levels_62 (lv_at hl 0 rfl) ?_
            refine lv_aload_n hx hb dX12_levels_64 rfl (lv_at hl 2 rfl) ?_
            refine tw_get hx hb hts bF_X12 hown hK hT hr_o0 shm_0 rfl 43 (by decide) (ht_at hts 18 rfl) (fun _ h9 => h9) dX12_levels_65 (fun v9 m1513 h9 => ?_)
            obtain ⟨rfl, hg1514⟩ := h9 _ rfl
            refine lv_iload_n hx hb dX12_levels_68 rfl (lv_at hl 3 rfl) ?_
            refine tw_iald (i := p0) hx hb hK hT hg1514 shm_44 rfl (vin_t (a := p0.toInt) rfl (by omega) (by omega)) dX12_levels_69 (fun v9 m1515 h9 => ?_)
            obtain ⟨x1516, rfl, gx1516, kx1516⟩ := h9
            refine lv_aload_n hx hb dX12_levels_70 rfl (lv_at hl 2 rfl) ?_
            refine tw_get hx hb hts bF_X12 hown hK hT hr_o0 shm_0 rfl 44 (by decide) (ht_at hts 19 rfl) (fun _ h9 => h9) dX12_levels_71 (fun v9 m1517 h9 => ?_)
            obtain ⟨rfl, hg1518⟩ := h9 _ rfl
            refine lv_iload_n hx hb dX12_levels_74 rfl (lv_at hl 3 rfl) ?_
            refine tw_iald (i := p0) hx hb hK hT hg1518 shm_45 rfl (vin_t (a := p0.toInt) rfl (by omega) (by omega)) dX12_levels_75 (fun v9 m1519 h9 => ?_)
            obtain ⟨x1520, rfl, gx1520, kx1520⟩ := h9
            have hFc := gA_free hG hA hS
            refine va_calli (va_runS (As := [.int (nI i31), .int x1516, .int x1520]) (rest := []) ⟨hx, hb, hml, hown, hts⟩ (s_isIn l dC dI kA adK adV G H q wZ wN wH wB wC wL wK wU wV PI im PM PT lS lB lE lN (nI i31) x1516 x1520 hT hgz hgn hgh hgb hgc hgi hgu) (va_cwS 3 hts (goodIn_app (goodIn_r _ [25, 26, 7] rfl (by decide +kernel)) (goodIn_ca (goodIn_r _ [21, 22, 23, 17, 24, 15, 16, 18, 4, 5, 6, 7] rfl (by decide +kernel)) (bs_in _ _))) rfl rfl rfl (by decide +kernel) ⟨(Nat.le_of_ble_eq_true rfl), (Nat.le_of_ble_eq_true rfl)⟩) ⟨fun a U g mk q => by obtain ⟨q0, q1, qK, qE⟩ := q; exact ⟨q0, q1, va_K.moved (u := U) (U := U.calling g mk a) (Vm.Alike.refl U.vm) qK, EVS.blind g mk a qE⟩, fun U hU hW => ⟨rfl, hU, va_K.moved hW.alike hK, hE.call hS hFc hU hW⟩⟩ rfl rfl hl.1 rfl (lv_room (Nat.le_of_ble_eq_true rfl)) dX12_levels_76 ⟨(Nat.le_of_ble_eq_true rfl), (Nat.le_of_ble_eq_true rfl)⟩) hS (fun q _ h => hFc q h) hFc (fun r1521 u t H locs ht hvm hw1522 hB _ _ hS => ?_)
            obtain ⟨hT, hF1⟩ := hB
            rw [ht] at hT hF1
            have hF := hF.more hF1 (by decide)
            try dsimp only at hw1522
            have h1525 := hw1522
            refine lv_if_ne (tgt := 85) hx hb dX12_levels_79 (by decide) (fun c1526 => ?_) (fun c1526 => ?_)
            · have t1527 : r1521.toInt ≠ 0 := ti_ne c1526 rfl (by decide)
              refine lv_aload_n hx hb dX12_levels_85 rfl (lv_at hl 2 rfl) ?_
              refine tw_get hx hb hts bF_X12 hown hK hT hr_o0 shm_0 rfl 69 (by decide) (ht_at hts 26 rfl) (fun _ h9 => h9) dX12_levels_86 (fun v9 m1528 h9 => ?_)
              obtain ⟨rfl, hg1529⟩ := h9 _ rfl
              refine lv_iload_n hx hb dX12_levels_89 rfl (lv_at hl 1 rfl) ?_
              refine lv_iload hx hb dX12_levels_90 (lv_at hl 0 rfl) ?_
              refine tw_iast (i := z32) (x := (nI i31)) hx hb hK hT hG hS hg1529 shm_70 rfl (vin_t (a := z32.toInt) rfl (by omega) (by omega)) (gi_of (show (nI i31).toInt = ((i31 : Nat) : Int) from (nI_toInt (by omega))) (by omega) (by omega)) dX12_levels_92 (fun H locs hT oq m1530 oi hS => ?_)
              have hF := hF.ast hg1529 skm_70 oq (by decide)
              obtain ⟨x1533, ex1533⟩ : ∃ y : Int32, y = z32 + 1 := ⟨_, rfl⟩
              have t1534 : x1533.toInt = z32.toInt + 1 := ti_add ex1533 rfl (by decide) (by omega) (by omega)
              refine lv_iinc (v := x1533) (lv' := [(3, .int x1533), (4, .int (nI i31)), (0, .ref o0), (1, .int p0), (2, .int p1)]) hx hb dX12_levels_93 hl (k := 1) rfl (by first | (rw [ex1533]; done) | (rw [ex1533]; rfl)) (by decide) rfl (fun ls hl => ?_)
              refine lv_iinc (v := nI (i31 + 1)) (lv' := [(4, .int (nI (i31 + 1))), (3, .int x1533), (0, .ref o0), (1, .int p0), (2, .int p1)]) hx hb dX12_levels_96 hl (k := 1) rfl (nI_add i31 1) (by decide) rfl (fun ls hl => ?_)
              refine lv_goto (tgt := 49) hx hb dX12_levels_99 (by decide) ?_
              exact ih62 (i31 + 1) (by omega) (by omega) x1533 (by have q8 := ti_all x1533; omega) _ _ hT hF hS ls (lv_sub hl [0, 1, 2, 3, 4] rfl)
            · have t1535 : r1521.toInt = 0 := ti_eq c1526 rfl (by decide)
              refine lv_goto (tgt := 96) hx hb dX12_levels_82 (by decide) ?_
              refine lv_iinc (v := nI (i31 + 1)) (lv' := [(4, .int (nI (i31 + 1))), (3, .int z32), (0, .ref o0), (1, .int p0), (2, .int p1)]) hx hb dX12_levels_96 hl (k := 0) rfl (nI_add i31 1) (by decide) rfl (fun ls hl => ?_)
              refine lv_goto (tgt := 49) hx hb dX12_levels_99 (by decide) ?_
              exact ih62 (i31 + 1) (by omega) (by omega) z32 (by have q8 := ti_all z32; omega) _ _ hT hF hS ls (lv_sub hl [0, 1, 2, 3, 4] rfl)
      exact key62 (96 - 0) 0 (by omega) (Nat.le_refl _) 0 (rg_t (a := 0) (by decide) (by first | decide | omega) (by first | decide | omega)) _ _ hT hF hS ls (lv_sub hl [0, 1, 2, 3, 4] rfl)
    · have t1536 : r16.toInt = 0 := ti_eq c21 rfl (by decide)
      have t1537 : (1000 : Int32).toInt = 1000 := by decide
      have t1538 : (0 : Int32).toInt = 0 := by decide
      have t1539 : p1.toInt < (0 : Int32).toInt ∨ (1000 : Int32).toInt < p1.toInt := hi20 c21
      refine lv_iconst (v := 1) hx hb dX12_levels_30 (by decide) ?_
      refine lv_goto (tgt := 35) hx hb dX12_levels_31 (by decide) ?_
      refine lv_iconst (v := 2) hx hb dX12_levels_35 (by decide) ?_
      have hFc := gA_free hG hA hS
      refine va_calli (va_runV (As := [.int 1, .int 2]) (rest := []) ⟨hx, hb, hml, hown, hts⟩ (s_throwsIf l dC dI kA adK adV G H q wZ wN wH wB wC wL wK wU wV PI im PM PT lS lB lE lN o0 1 2 hT hr_o0 (rg_t (a := 1) (by decide) (by first | decide | omega) (by first | decide | omega)) hgz hgn hgh hgb hgc hgi hgu) (cwV 2 hts (goodIn_app (goodIn_r _ [12, 13, 14, 7] rfl (by decide +kernel)) (goodIn_ca (goodIn_r _ [11, 1] rfl (by decide +kernel)) (bs_in _ _))) rfl rfl rfl (by decide +kernel) ⟨(Nat.le_of_ble_eq_true rfl), (Nat.le_of_ble_eq_true rfl)⟩) ⟨fun a U g mk q => by obtain ⟨q0, q1, qK, qE⟩ := q; exact ⟨q0, q1, va_K.moved (u := U) (U := U.calling g mk a) (Vm.Alike.refl U.vm) qK, EVS.blind g mk a qE⟩, gH_rc hK hT hr_o0 shm_0 rfl, fun U hU hW => ⟨rfl, hU, va_K.moved hW.alike hK, hE.call hS hFc hU hW⟩⟩ rfl rfl hl.1 rfl (lv_room (Nat.le_of_ble_eq_true rfl)) dX12_levels_36 ⟨(Nat.le_of_ble_eq_true rfl), (Nat.le_of_ble_eq_true rfl)⟩) hS (fun q _ h => hFc q h) hFc (fun r1540 u t H locs ht hvm hw1541 hB _ _ hS => ?_)
      obtain ⟨hT, hF1⟩ := hB
      rw [ht] at hT hF1
      have hF := hF.more hF1 (by decide)
      try dsimp only at hw1541
      obtain ⟨h1542, hd1543⟩ := hw1541
      obtain rfl : (1 : Int32) = r1540 := hd1543.symm
      refine lv_if_eq (tgt := 44) hx hb dX12_levels_39 (by decide) (fun c1544 => absurd c1544 (by decide)) (fun c1544 => ?_)
      refine lv_iconst (v := 0) hx hb dX12_levels_42 (by decide) ?_
      exact W.iret (v := 0) hx hb hr (fun t ht hW => ⟨⟨0, (), rfl, (by exact (rg_t (a := 0) (by decide) (by first | decide | omega) (by first | decide | omega))), by (try dsimp only); rw [ht]; exact ⟨hT, hF⟩⟩, hS.F ht⟩) hS.2.2 dX12_levels_43
