def w_s_weather : List Cond := .code yX12_weather cX12_weather 6 (some .int) :: (HAppend.hAppend (α := List Cond) (β := List Cond) (γ := List Cond) [.fieldLink RX12 194 "SeaLandModel" "thrown" "I", .constant RX12 242 40000, .code yX12_in cX12_in 3 (some .boolean), .methodLink RX12 197 yX12_in, .static yX12_in, .initialized RX12, .code yX12_throwsIf cX12_throwsIf 3 (some .boolean), .methodLink RX12 224 yX12_throwsIf, .instanceMethod yX12_throwsIf, .selects RX12 yX12_throwsIf yX12_throwsIf, .fieldLink RX12 9 "SeaLandModel" "world" "[I", .fieldLink RX12 238 "SeaLandModel" "rows" "I"] bs)
set_option maxHeartbeats 4000000 in
set_option maxRecDepth 100000 in
theorem s_weather (l : Launch) (dC : Nat → ClassId) (dI : Nat → Nat → Nat) (kA : Nat → ClassId) (adK adV : Nat → Nat) (G : gT) (H0 : Heap) (q : Nat → Nat) (wZ wN : Nat → Int) (wH wB wC : Int) (wL wK : Nat → Prop) (wU wV : Nat → Nat) (PI : Nat → Int → Prop) (im : Int) (PM PT : Nat → Int → Prop) (lS lB lE : Nat → Nat → Int → Prop) (lN : Nat → Int) (o0 : Nat) (p0 : Int32) (p1 : Int32) (p2 : Int32)  (hT : gH (dC, dI) kA (SHm q (wP wZ wN wH wB wC wL wK wU wV) PI im PM PT lS lB lE lN) G H0) (hr_o0 : G o0 = some 0) (hq0 : 0 ≤ p0.toInt ∧ p0.toInt ≤ 1) (hgz : ∀ i, 0 ≤ wZ i) (hgn : ∀ i, 6500000 ≤ wN i ∧ wN i ≤ 20200000) (hgh : 0 ≤ wH ∧ wH ≤ 40000) (hgb : 0 ≤ wB ∧ wB ≤ 3850000) (hgc : 0 ≤ wC ∧ wC ≤ 30) (hgi : 0 ≤ im ∧ im ≤ 1) (hgu : ∀ a t, G a = some (t + 1) → a = q t) : Met l yX12_weather w_s_weather ({ frames := 1, cells := 0, slots := 0, locals := 22 }) (va_Pc [.ref o0, .int p0, .int p1, .int p2] (fun U => U.heap = H0 ∧ va_K (dC, dI) vwCl (tyl kA) U ∧ EVS adK adV (gA G H0.size) U U.heap)) (va_Qi (fun (r : Int32) (u : Unit) => (-1 ≤ r.toInt ∧ r.toInt ≤ 60)) (fun (_ : Unit) (t : State) => gH (dC, dI) kA (SHm q (wP wZ wN wH wB wC wL wK wU wV) PI im PM PT lS lB lE lN) G t.heap ∧ gF (dC, dI) SKm G ([(0, 0), (0, 9), (2, 0)] : List (Nat × Nat)) H0 t.heap) (gA G H0.size)) 0 0 (gA G H0.size) := by
  refine Met.ofW (cc := cX12_weather) (maxL := 6) (ret := (some .int)) (by decide) rfl ?_
  intro p e s m args below meth c s₁ B hml hv
  obtain ⟨rfl, hH0, hK, hE⟩ := hv
  have hx := B.exec
  have hb := B.bytes
  have hr := B.returns
  have hts := atoms_spec (ws := w_s_weather) B.pre
  have hown : s.vm.findClass RX12 = some m.cls := findClass_of_methodNamed B.named
  have hlocks := B.notSynchronized
  subst hH0
  generalize hAe : gA G s.heap.size = A at hE ⊢
  have hA : ∀ q : Nat, s.heap.size ≤ q → A q := fun q h => by rw [← hAe]; exact Or.inr h
  have hG := gA_of hAe
  have hS : va_S A s.heap s.heap [] := va_S.rf
  have hF : gF (dC, dI) SKm G ([(0, 0), (0, 9), (2, 0)] : List (Nat × Nat)) s.heap s.heap := gF.rf
  have hl := lv_entry ([.ref o0, .int p0, .int p1, .int p2]) (n := 6) (Nat.le_of_ble_eq_true rfl)
  rw [lg_entry_eq]
  generalize (lg_sl ([.ref o0, .int p0, .int p1, .int p2]) ++ List.replicate (6 - (lg_sl ([.ref o0, .int p0, .int p1, .int p2])).length) Slot.unset).toArray = ls at hl ⊢
  have hl : lv_has ls 6 [(0, .ref o0), (1, .int p0), (2, .int p1), (3, .int p2)] := hl
  refine lv_aload_n hx hb dX12_weather_0 rfl (lv_at hl 0 rfl) ?_
  refine lv_iconst (v := 0) hx hb dX12_weather_1 (by decide) ?_
  refine tw_put (v := .int 0) (ty := .int) hx hb hts bF_X12 tyX12 tyX12_ok nmX12 hown hK hT hG hS hr_o0 shm_0 rfl 0 (by decide) (ht_at hts 0 rfl) (fun _ h9 => h9) rfl (by decide +kernel) rfl rfl (gl_at rfl (gi_all _)) dX12_weather_2 (fun H locs hT oq m1 oj hS => ?_)
  have hF := hF.put hr_o0 skm_0 oq oj (by decide)
  refine lv_aload_n hx hb dX12_weather_5 rfl (lv_at hl 0 rfl) ?_
  refine lv_iload_n hx hb dX12_weather_6 rfl (lv_at hl 2 rfl) ?_
  refine lv_iconst (v := 0) hx hb dX12_weather_7 (by decide) ?_
  refine lv_ldc (v := 40000) hx hb hown (ht_at hts 1 rfl) dX12_weather_8 ?_
  have hFc := gA_free hG hA hS
  refine va_calli (va_runS (As := [.int p1, .int 0, .int 40000]) (rest := [.ref o0]) ⟨hx, hb, hml, hown, hts⟩ (s_in l dC dI kA adK adV G H q wZ wN wH wB wC wL wK wU wV PI im PM PT lS lB lE lN p1 0 40000 hT hgz hgn hgh hgb hgc hgi hgu) (va_cwS 3 hts (goodIn_app (goodIn_r _ [4, 5, 6] rfl (by decide +kernel)) (goodIn_ca (goodIn_r _ [3] rfl (by decide +kernel)) (bs_in _ _))) rfl rfl rfl (by decide +kernel) ⟨(Nat.le_of_ble_eq_true rfl), (Nat.le_of_ble_eq_true rfl)⟩) ⟨fun a U g mk q => by obtain ⟨q0, q1, qK, qE⟩ := q; exact ⟨q0, q1, va_K.moved (u := U) (U := U.calling g mk a) (Vm.Alike.refl U.vm) qK, EVS.blind g mk a qE⟩, fun U hU hW => ⟨rfl, hU, va_K.moved hW.alike hK, hE.call hS hFc hU hW⟩⟩ rfl rfl hl.1 rfl (lv_room (Nat.le_of_ble_eq_true rfl)) dX12_weather_10 ⟨(Nat.le_of_ble_eq_true rfl), (Nat.le_of_ble_eq_true rfl)⟩) hS (fun q _ h => hFc q h) hFc (fun r2 u t H locs ht hvm hw3 hB _ _ hS => ?_)
  obtain ⟨hT, hF1⟩ := hB
  rw [ht] at hT hF1
  have hF := hF.more hF1 (by decide)
  try dsimp only at hw3
  obtain ⟨h5, hi6, hi7⟩ := hw3
  refine lv_if_eq (tgt := 43) hx hb dX12_weather_13 (by decide) (fun c8 => ?_) (fun c8 => ?_)
  · have t9 : r2.toInt = 0 := ti_eq c8 rfl (by decide)
    have t10 : (40000 : Int32).toInt = 40000 := by decide
    have t11 : (0 : Int32).toInt = 0 := by decide
    have t12 : p1.toInt < (0 : Int32).toInt ∨ (40000 : Int32).toInt < p1.toInt := hi7 c8
    refine lv_iconst (v := 1) hx hb dX12_weather_43 (by decide) ?_
    refine lv_goto (tgt := 48) hx hb dX12_weather_44 (by decide) ?_
    refine lv_iconst (v := 1) hx hb dX12_weather_48 (by decide) ?_
    have hFc := gA_free hG hA hS
    refine va_calli (va_runV (As := [.int 1, .int 1]) (rest := []) ⟨hx, hb, hml, hown, hts⟩ (s_throwsIf l dC dI kA adK adV G H q wZ wN wH wB wC wL wK wU wV PI im PM PT lS lB lE lN o0 1 1 hT hr_o0 (rg_t (a := 1) (by decide) (by first | decide | omega) (by first | decide | omega)) hgz hgn hgh hgb hgc hgi hgu) (cwV 2 hts (goodIn_app (goodIn_r _ [8, 9, 10, 6] rfl (by decide +kernel)) (goodIn_ca (goodIn_r _ [7, 1] rfl (by decide +kernel)) (bs_in _ _))) rfl rfl rfl (by decide +kernel) ⟨(Nat.le_of_ble_eq_true rfl), (Nat.le_of_ble_eq_true rfl)⟩) ⟨fun a U g mk q => by obtain ⟨q0, q1, qK, qE⟩ := q; exact ⟨q0, q1, va_K.moved (u := U) (U := U.calling g mk a) (Vm.Alike.refl U.vm) qK, EVS.blind g mk a qE⟩, gH_rc hK hT hr_o0 shm_0 rfl, fun U hU hW => ⟨rfl, hU, va_K.moved hW.alike hK, hE.call hS hFc hU hW⟩⟩ rfl rfl hl.1 rfl (lv_room (Nat.le_of_ble_eq_true rfl)) dX12_weather_49 ⟨(Nat.le_of_ble_eq_true rfl), (Nat.le_of_ble_eq_true rfl)⟩) hS (fun q _ h => hFc q h) hFc (fun r13 u t H locs ht hvm hw14 hB _ _ hS => ?_)
    obtain ⟨hT, hF1⟩ := hB
    rw [ht] at hT hF1
    have hF := hF.more hF1 (by decide)
    try dsimp only at hw14
    obtain ⟨h16, hd17⟩ := hw14
    obtain rfl : (1 : Int32) = r13 := hd17.symm
    refine lv_if_eq (tgt := 57) hx hb dX12_weather_52 (by decide) (fun c18 => absurd c18 (by decide)) (fun c18 => ?_)
    refine lv_iconst (v := 0) hx hb dX12_weather_55 (by decide) ?_
    exact W.iret (v := 0) hx hb hr (fun t ht hW => ⟨⟨0, (), rfl, (by exact (rg_t (a := 0) (by decide) (by first | decide | omega) (by first | decide | omega))), by (try dsimp only); rw [ht]; exact ⟨hT, hF⟩⟩, hS.F ht⟩) hS.2.2 dX12_weather_56
  · have t19 : r2.toInt ≠ 0 := ti_ne c8 rfl (by decide)
    have t20 : (40000 : Int32).toInt = 40000 := by decide
    have t21 : (0 : Int32).toInt = 0 := by decide
    have t22 : (0 : Int32).toInt ≤ p1.toInt ∧ p1.toInt ≤ (40000 : Int32).toInt := hi6 ((bit_of ⟨by omega, by omega⟩).resolve_left c8)
    refine lv_iload_n hx hb dX12_weather_16 rfl (lv_at hl 1 rfl) ?_
    refine lv_if_eq (tgt := 33) hx hb dX12_weather_17 (by decide) (fun c23 => ?_) (fun c23 => ?_)
    · have t24 : p0.toInt = 0 := ti_eq c23 rfl (by decide)
      refine lv_iload_n hx hb dX12_weather_33 rfl (lv_at hl 3 rfl) ?_
      refine lv_iconst (v := (-1)) hx hb dX12_weather_34 (by decide) ?_
      refine lv_bipush (v := 9) hx hb dX12_weather_35 (by decide) ?_
      have hFc := gA_free hG hA hS
      refine va_calli (va_runS (As := [.int p2, .int (-1), .int 9]) (rest := [.ref o0]) ⟨hx, hb, hml, hown, hts⟩ (s_in l dC dI kA adK adV G H q wZ wN wH wB wC wL wK wU wV PI im PM PT lS lB lE lN p2 (-1) 9 hT hgz hgn hgh hgb hgc hgi hgu) (va_cwS 3 hts (goodIn_app (goodIn_r _ [4, 5, 6] rfl (by decide +kernel)) (goodIn_ca (goodIn_r _ [3] rfl (by decide +kernel)) (bs_in _ _))) rfl rfl rfl (by decide +kernel) ⟨(Nat.le_of_ble_eq_true rfl), (Nat.le_of_ble_eq_true rfl)⟩) ⟨fun a U g mk q => by obtain ⟨q0, q1, qK, qE⟩ := q; exact ⟨q0, q1, va_K.moved (u := U) (U := U.calling g mk a) (Vm.Alike.refl U.vm) qK, EVS.blind g mk a qE⟩, fun U hU hW => ⟨rfl, hU, va_K.moved hW.alike hK, hE.call hS hFc hU hW⟩⟩ rfl rfl hl.1 rfl (lv_room (Nat.le_of_ble_eq_true rfl)) dX12_weather_37 ⟨(Nat.le_of_ble_eq_true rfl), (Nat.le_of_ble_eq_true rfl)⟩) hS (fun q _ h => hFc q h) hFc (fun r25 u t H locs ht hvm hw26 hB _ _ hS => ?_)
      obtain ⟨hT, hF1⟩ := hB
      rw [ht] at hT hF1
      have hF := hF.more hF1 (by decide)
      try dsimp only at hw26
      obtain ⟨h28, hi29, hi30⟩ := hw26
      refine lv_if_ne (tgt := 47) hx hb dX12_weather_40 (by decide) (fun c31 => ?_) (fun c31 => ?_)
      · have t32 : r25.toInt ≠ 0 := ti_ne c31 rfl (by decide)
        have t33 : (9 : Int32).toInt = 9 := by decide
        have t34 : (-1 : Int32).toInt = (-1) := by decide
        have t35 : (-1 : Int32).toInt ≤ p2.toInt ∧ p2.toInt ≤ (9 : Int32).toInt := hi29 ((bit_of ⟨by omega, by omega⟩).resolve_left c31)
        refine lv_iconst (v := 0) hx hb dX12_weather_47 (by decide) ?_
        refine lv_iconst (v := 1) hx hb dX12_weather_48 (by decide) ?_
        have hFc := gA_free hG hA hS
        refine va_calli (va_runV (As := [.int 0, .int 1]) (rest := []) ⟨hx, hb, hml, hown, hts⟩ (s_throwsIf l dC dI kA adK adV G H q wZ wN wH wB wC wL wK wU wV PI im PM PT lS lB lE lN o0 0 1 hT hr_o0 (rg_t (a := 0) (by decide) (by first | decide | omega) (by first | decide | omega)) hgz hgn hgh hgb hgc hgi hgu) (cwV 2 hts (goodIn_app (goodIn_r _ [8, 9, 10, 6] rfl (by decide +kernel)) (goodIn_ca (goodIn_r _ [7, 1] rfl (by decide +kernel)) (bs_in _ _))) rfl rfl rfl (by decide +kernel) ⟨(Nat.le_of_ble_eq_true rfl), (Nat.le_of_ble_eq_true rfl)⟩) ⟨fun a U g mk q => by obtain ⟨q0, q1, qK, qE⟩ := q; exact ⟨q0, q1, va_K.moved (u := U) (U := U.calling g mk a) (Vm.Alike.refl U.vm) qK, EVS.blind g mk a qE⟩, gH_rc hK hT hr_o0 shm_0 rfl, fun U hU hW => ⟨rfl, hU, va_K.moved hW.alike hK, hE.call hS hFc hU hW⟩⟩ rfl rfl hl.1 rfl (lv_room (Nat.le_of_ble_eq_true rfl)) dX12_weather_49 ⟨(Nat.le_of_ble_eq_true rfl), (Nat.le_of_ble_eq_true rfl)⟩) hS (fun q _ h => hFc q h) hFc (fun r36 u t H locs ht hvm hw37 hB _ _ hS => ?_)
        obtain ⟨hT, hF1⟩ := hB
        rw [ht] at hT hF1
        have hF := hF.more hF1 (by decide)
        try dsimp only at hw37
        obtain ⟨h39, hd40⟩ := hw37
        obtain rfl : (0 : Int32) = r36 := hd40.symm
        refine lv_if_eq (tgt := 57) hx hb dX12_weather_52 (by decide) (fun c41 => ?_) (fun c41 => absurd c41 (by decide))
        refine lv_iload_n hx hb dX12_weather_57 rfl (lv_at hl 1 rfl) ?_
        refine lv_if_eq (tgt := 67) hx hb dX12_weather_58 (by decide) (fun c42 => ?_) (fun c42 => (by exfalso; have q9 : p0.toInt ≠ 0 := ti_ne c42 rfl (by decide); omega))
        have t43 : p0.toInt = 0 := ti_eq c42 rfl (by decide)
        refine lv_sipush (v := 1503) hx hb dX12_weather_67 (by decide) ?_
        refine lv_istore (lv' := [(4, .int 1503), (0, .ref o0), (1, .int p0), (2, .int p1), (3, .int p2)]) hx hb dX12_weather_70 hl (by decide) rfl (fun ls hl => ?_)
        refine lv_iload_n hx hb dX12_weather_72 rfl (lv_at hl 2 rfl) ?_
        refine lv_if_eq (tgt := 82) hx hb dX12_weather_73 (by decide) (fun c44 => ?_) (fun c44 => (by exfalso; have q9 : p0.toInt ≠ 0 := ti_ne c44 rfl (by decide); omega))
        have t45 : p0.toInt = 0 := ti_eq c44 rfl (by decide)
        refine lv_sipush (v := 1504) hx hb dX12_weather_82 (by decide) ?_
        refine lv_iconst (v := 2) hx hb dX12_weather_85 (by decide) ?_
        refine lv_aload_n hx hb dX12_weather_86 rfl (lv_at hl 1 rfl) ?_
        refine tw_get hx hb hts bF_X12 hown hK hT hr_o0 shm_0 rfl 1 (by decide) (ht_at hts 10 rfl) (fun _ h9 => h9) dX12_weather_87 (fun v9 m46 h9 => ?_)
        obtain ⟨rfl, hg47⟩ := h9 _ rfl
        refine lv_iload hx hb dX12_weather_90 (lv_at hl 0 rfl) ?_
        refine tw_iald (i := 1503) hx hb hK hT hg47 shm_2 rfl (by unfold vp_in; decide) dX12_weather_92 (fun v9 m48 h9 => ?_)
        obtain ⟨x49, rfl, gx49, kx49⟩ := (gp_at h9 (w_wic (by have q9 := tn_of (show (1503 : Int32).toInt = 1503 from (by decide)) (show (0 : Int) ≤ 1503 from by omega); omega)))
        refine lv_imul hx hb dX12_weather_93 ?_
        refine lv_topi (fun x50 ex50 => ?_)
        have t51 : x50.toInt = 2 * x49.toInt := ti_mul ex50 (by decide) rfl (by omega) (by omega)
        refine lv_iadd hx hb dX12_weather_94 ?_
        refine lv_topi (fun x52 ex52 => ?_)
        have t53 : x52.toInt = 1504 + x50.toInt := ti_add ex52 (by decide) rfl (by omega) (by omega)
        refine lv_istore (lv' := [(5, .int x52), (4, .int 1503), (0, .ref o0), (1, .int p0), (2, .int p1), (3, .int p2)]) hx hb dX12_weather_95 hl (by decide) rfl (fun ls hl => ?_)
        refine lv_aload_n hx hb dX12_weather_97 rfl (lv_at hl 2 rfl) ?_
        refine tw_get hx hb hts bF_X12 hown hK hT hr_o0 shm_0 rfl 1 (by decide) (ht_at hts 10 rfl) (fun _ h9 => h9) dX12_weather_98 (fun v9 m54 h9 => ?_)
        obtain ⟨rfl, hg55⟩ := h9 _ rfl
        refine lv_iload hx hb dX12_weather_101 (lv_at hl 1 rfl) ?_
        refine tw_iald (i := 1503) hx hb hK hT hg47 shm_2 rfl (by unfold vp_in; decide) dX12_weather_103 (fun v9 m56 h9 => ?_)
        obtain ⟨x57, rfl, gx57, kx57⟩ := (gp_at h9 (w_wic (by have q9 := tn_of (show (1503 : Int32).toInt = 1503 from (by decide)) (show (0 : Int) ≤ 1503 from by omega); omega)))
        obtain rfl : x49 = x57 := (el_same m56 m48 rfl).symm
        refine lv_bipush (v := 60) hx hb dX12_weather_104 (by decide) ?_
        refine lv_icmp_ne (tgt := 111) hx hb dX12_weather_106 (by decide) (fun c58 => ?_) (fun c58 => ?_)
        · have t59 : x49.toInt ≠ 60 := ti_ne c58 rfl (by decide)
          refine lv_aload_n hx hb dX12_weather_111 rfl (lv_at hl 2 rfl) ?_
          refine tw_get hx hb hts bF_X12 hown hK hT hr_o0 shm_0 rfl 1 (by decide) (ht_at hts 10 rfl) (fun _ h9 => h9) dX12_weather_112 (fun v9 m60 h9 => ?_)
          obtain ⟨rfl, hg61⟩ := h9 _ rfl
          refine lv_iload hx hb dX12_weather_115 (lv_at hl 0 rfl) ?_
          refine lv_iload_n hx hb dX12_weather_117 rfl (lv_at hl 4 rfl) ?_
          refine tw_iast (i := x52) (x := p1) hx hb hK hT hG hS hg47 shm_2 rfl (vin_t (a := x52.toInt) rfl (by omega) (by omega)) (gp_of (gi_all _) (w_fre (by have q9 := tn_of (show x52.toInt = x52.toInt from rfl) (show (0 : Int) ≤ x52.toInt from by omega); omega)) (wX_o (by have q9 := tn_of (show x52.toInt = x52.toInt from rfl) (show (0 : Int) ≤ x52.toInt from by omega); omega) (by omega))) dX12_weather_118 (fun H locs hT oq m62 oi hS => ?_)
          have hF := hF.ast hg47 skm_2 oq (by decide)
          have m63 := (oi _ (tn_ne (show (1503 : Int32).toInt = 1503 from (by decide)) (show x52.toInt = x52.toInt from rfl) (by omega) (by omega) (by omega))).trans m48
          refine lv_aload_n hx hb dX12_weather_119 rfl (lv_at hl 2 rfl) ?_
          refine tw_get hx hb hts bF_X12 hown hK hT hr_o0 shm_0 rfl 1 (by decide) (ht_at hts 10 rfl) (fun _ h9 => h9) dX12_weather_120 (fun v9 m64 h9 => ?_)
          obtain ⟨rfl, hg65⟩ := h9 _ rfl
          refine lv_iload hx hb dX12_weather_123 (lv_at hl 0 rfl) ?_
          refine lv_iconst (v := 1) hx hb dX12_weather_125 (by decide) ?_
          refine lv_iadd hx hb dX12_weather_126 ?_
          refine lv_topi (fun x66 ex66 => ?_)
          have t67 : x66.toInt = x52.toInt + 1 := ti_add ex66 rfl (by decide) (by omega) (by omega)
          refine lv_iload_n hx hb dX12_weather_127 rfl (lv_at hl 5 rfl) ?_
          refine tw_iast (i := x66) (x := p2) hx hb hK hT hG hS hg47 shm_2 rfl (vin_t (a := x66.toInt) rfl (by omega) (by omega)) (gp_of (gi_of (show p2.toInt = p2.toInt from rfl) (by omega) (by omega)) (w_wid (by have q9 := tn_of (show x66.toInt = x66.toInt from rfl) (show (0 : Int) ≤ x66.toInt from by omega); omega)) (wX_o (by have q9 := tn_of (show x66.toInt = x66.toInt from rfl) (show (0 : Int) ≤ x66.toInt from by omega); omega) (by omega))) dX12_weather_128 (fun H locs hT oq m68 oi hS => ?_)
          have hF := hF.ast hg47 skm_2 oq (by decide)
          have m69 := (oi _ (tn_ne (show (1503 : Int32).toInt = 1503 from (by decide)) (show x66.toInt = x66.toInt from rfl) (by omega) (by omega) (by omega))).trans m63
          refine lv_aload_n hx hb dX12_weather_129 rfl (lv_at hl 2 rfl) ?_
          refine tw_get hx hb hts bF_X12 hown hK hT hr_o0 shm_0 rfl 1 (by decide) (ht_at hts 10 rfl) (fun _ h9 => h9) dX12_weather_130 (fun v9 m71 h9 => ?_)
          obtain ⟨rfl, hg72⟩ := h9 _ rfl
          refine lv_iload hx hb dX12_weather_133 (lv_at hl 1 rfl) ?_
          refine lv_dup2_11 hx hb dX12_weather_135 rfl rfl ?_
          refine tw_iald (i := 1503) hx hb hK hT hg47 shm_2 rfl (by unfold vp_in; decide) dX12_weather_136 (fun v9 m73 h9 => ?_)
          obtain ⟨x74, rfl, gx74, kx74⟩ := (gp_at h9 (w_wic (by have q9 := tn_of (show (1503 : Int32).toInt = 1503 from (by decide)) (show (0 : Int) ≤ 1503 from by omega); omega)))
          obtain rfl : x49 = x74 := (el_same m73 m69 rfl).symm
          refine lv_iconst (v := 1) hx hb dX12_weather_137 (by decide) ?_
          refine lv_iadd hx hb dX12_weather_138 ?_
          refine lv_topi (fun x75 ex75 => ?_)
          have t76 : x75.toInt = x49.toInt + 1 := ti_add ex75 rfl (by decide) (by omega) (by omega)
          refine tw_iast (i := 1503) (x := x75) hx hb hK hT hG hS hg47 shm_2 rfl (by unfold vp_in; decide) (gp_of (gi_of (show x75.toInt = x75.toInt from rfl) (by omega) (by omega)) (w_wic (by have q9 := tn_of (show (1503 : Int32).toInt = 1503 from (by decide)) (show (0 : Int) ≤ 1503 from by omega); omega)) (wX_o (by have q9 := tn_of (show (1503 : Int32).toInt = 1503 from (by decide)) (show (0 : Int) ≤ 1503 from by omega); omega) (by omega))) dX12_weather_139 (fun H locs hT oq m77 oi hS => ?_)
          have hF := hF.ast hg47 skm_2 oq (by decide)
          refine lv_aload_n hx hb dX12_weather_140 rfl (lv_at hl 2 rfl) ?_
          refine lv_iconst (v := 0) hx hb dX12_weather_141 (by decide) ?_
          refine tw_put (v := .int 0) (ty := .int) hx hb hts bF_X12 tyX12 tyX12_ok nmX12 hown hK hT hG hS hr_o0 shm_0 rfl 9 (by decide) (ht_at hts 11 rfl) (fun _ h9 => h9) rfl (by decide +kernel) rfl rfl (gl_at rfl (gi_of (show (0 : Int32).toInt = 0 from (by decide)) (by first | decide | omega) (by first | decide | omega))) dX12_weather_142 (fun H locs hT oq m80 oj hS => ?_)
          have hF := hF.put hr_o0 skm_0 oq oj (by decide)
          have m83 := (el_kept (oq _ (gne hg47 hr_o0 (by decide)))).trans m77
          refine lv_aload_n hx hb dX12_weather_145 rfl (lv_at hl 2 rfl) ?_
          refine tw_get hx hb hts bF_X12 hown hK hT hr_o0 shm_0 rfl 1 (by decide) (ht_at hts 10 rfl) (fun _ h9 => h9) dX12_weather_146 (fun v9 m84 h9 => ?_)
          obtain ⟨rfl, hg85⟩ := h9 _ rfl
          refine lv_iload hx hb dX12_weather_149 (lv_at hl 1 rfl) ?_
          refine tw_iald (i := 1503) hx hb hK hT hg47 shm_2 rfl (by unfold vp_in; decide) dX12_weather_151 (fun v9 m86 h9 => ?_)
          obtain ⟨x87, rfl, gx87, kx87⟩ := (gp_at h9 (w_wic (by have q9 := tn_of (show (1503 : Int32).toInt = 1503 from (by decide)) (show (0 : Int) ≤ 1503 from by omega); omega)))
          obtain rfl : x75 = x87 := (el_same m86 m83 rfl).symm
          exact W.iret (v := x75) hx hb hr (fun t ht hW => ⟨⟨x75, (), rfl, (by exact (by have q8 := ti_all x75; omega)), by (try dsimp only); rw [ht]; exact ⟨hT, hF⟩⟩, hS.F ht⟩) hS.2.2 dX12_weather_152
        · have t88 : x49.toInt = 60 := ti_eq c58 rfl (by decide)
          refine lv_iconst (v := (-1)) hx hb dX12_weather_109 (by decide) ?_
          exact W.iret (v := (-1)) hx hb hr (fun t ht hW => ⟨⟨(-1), (), rfl, (by exact (rg_t (a := (-1)) (by decide) (by first | decide | omega) (by first | decide | omega))), by (try dsimp only); rw [ht]; exact ⟨hT, hF⟩⟩, hS.F ht⟩) hS.2.2 dX12_weather_110
      · have t89 : r25.toInt = 0 := ti_eq c31 rfl (by decide)
        have t90 : (9 : Int32).toInt = 9 := by decide
        have t91 : (-1 : Int32).toInt = (-1) := by decide
        have t92 : p2.toInt < (-1 : Int32).toInt ∨ (9 : Int32).toInt < p2.toInt := hi30 c31
        refine lv_iconst (v := 1) hx hb dX12_weather_43 (by decide) ?_
        refine lv_goto (tgt := 48) hx hb dX12_weather_44 (by decide) ?_
        refine lv_iconst (v := 1) hx hb dX12_weather_48 (by decide) ?_
        have hFc := gA_free hG hA hS
        refine va_calli (va_runV (As := [.int 1, .int 1]) (rest := []) ⟨hx, hb, hml, hown, hts⟩ (s_throwsIf l dC dI kA adK adV G H q wZ wN wH wB wC wL wK wU wV PI im PM PT lS lB lE lN o0 1 1 hT hr_o0 (rg_t (a := 1) (by decide) (by first | decide | omega) (by first | decide | omega)) hgz hgn hgh hgb hgc hgi hgu) (cwV 2 hts (goodIn_app (goodIn_r _ [8, 9, 10, 6] rfl (by decide +kernel)) (goodIn_ca (goodIn_r _ [7, 1] rfl (by decide +kernel)) (bs_in _ _))) rfl rfl rfl (by decide +kernel) ⟨(Nat.le_of_ble_eq_true rfl), (Nat.le_of_ble_eq_true rfl)⟩) ⟨fun a U g mk q => by obtain ⟨q0, q1, qK, qE⟩ := q; exact ⟨q0, q1, va_K.moved (u := U) (U := U.calling g mk a) (Vm.Alike.refl U.vm) qK, EVS.blind g mk a qE⟩, gH_rc hK hT hr_o0 shm_0 rfl, fun U hU hW => ⟨rfl, hU, va_K.moved hW.alike hK, hE.call hS hFc hU hW⟩⟩ rfl rfl hl.1 rfl (lv_room (Nat.le_of_ble_eq_true rfl)) dX12_weather_49 ⟨(Nat.le_of_ble_eq_true rfl), (Nat.le_of_ble_eq_true rfl)⟩) hS (fun q _ h => hFc q h) hFc (fun r93 u t H locs ht hvm hw94 hB _ _ hS => ?_)
        obtain ⟨hT, hF1⟩ := hB
        rw [ht] at hT hF1
        have hF := hF.more hF1 (by decide)
        try dsimp only at hw94
        obtain ⟨h96, hd97⟩ := hw94
        obtain rfl : (1 : Int32) = r93 := hd97.symm
        refine lv_if_eq (tgt := 57) hx hb dX12_weather_52 (by decide) (fun c98 => absurd c98 (by decide)) (fun c98 => ?_)
        refine lv_iconst (v := 0) hx hb dX12_weather_55 (by decide) ?_
        exact W.iret (v := 0) hx hb hr (fun t ht hW => ⟨⟨0, (), rfl, (by exact (rg_t (a := 0) (by decide) (by first | decide | omega) (by first | decide | omega))), by (try dsimp only); rw [ht]; exact ⟨hT, hF⟩⟩, hS.F ht⟩) hS.2.2 dX12_weather_56
    · have t99 : p0.toInt ≠ 0 := ti_ne c23 rfl (by decide)
      refine lv_iload_n hx hb dX12_weather_20 rfl (lv_at hl 3 rfl) ?_
      refine lv_iconst (v := 0) hx hb dX12_weather_21 (by decide) ?_
      refine lv_bipush (v := 20) hx hb dX12_weather_22 (by decide) ?_
      have hFc := gA_free hG hA hS
      refine va_calli (va_runS (As := [.int p2, .int 0, .int 20]) (rest := [.ref o0]) ⟨hx, hb, hml, hown, hts⟩ (s_in l dC dI kA adK adV G H q wZ wN wH wB wC wL wK wU wV PI im PM PT lS lB lE lN p2 0 20 hT hgz hgn hgh hgb hgc hgi hgu) (va_cwS 3 hts (goodIn_app (goodIn_r _ [4, 5, 6] rfl (by decide +kernel)) (goodIn_ca (goodIn_r _ [3] rfl (by decide +kernel)) (bs_in _ _))) rfl rfl rfl (by decide +kernel) ⟨(Nat.le_of_ble_eq_true rfl), (Nat.le_of_ble_eq_true rfl)⟩) ⟨fun a U g mk q => by obtain ⟨q0, q1, qK, qE⟩ := q; exact ⟨q0, q1, va_K.moved (u := U) (U := U.calling g mk a) (Vm.Alike.refl U.vm) qK, EVS.blind g mk a qE⟩, fun U hU hW => ⟨rfl, hU, va_K.moved hW.alike hK, hE.call hS hFc hU hW⟩⟩ rfl rfl hl.1 rfl (lv_room (Nat.le_of_ble_eq_true rfl)) dX12_weather_24 ⟨(Nat.le_of_ble_eq_true rfl), (Nat.le_of_ble_eq_true rfl)⟩) hS (fun q _ h => hFc q h) hFc (fun r100 u t H locs ht hvm hw101 hB _ _ hS => ?_)
      obtain ⟨hT, hF1⟩ := hB
      rw [ht] at hT hF1
      have hF := hF.more hF1 (by decide)
      try dsimp only at hw101
      obtain ⟨h103, hi104, hi105⟩ := hw101
      refine lv_if_ne (tgt := 47) hx hb dX12_weather_27 (by decide) (fun c106 => ?_) (fun c106 => ?_)
      · have t107 : r100.toInt ≠ 0 := ti_ne c106 rfl (by decide)
        have t108 : (20 : Int32).toInt = 20 := by decide
        have t109 : (0 : Int32).toInt = 0 := by decide
        have t110 : (0 : Int32).toInt ≤ p2.toInt ∧ p2.toInt ≤ (20 : Int32).toInt := hi104 ((bit_of ⟨by omega, by omega⟩).resolve_left c106)
        refine lv_iconst (v := 0) hx hb dX12_weather_47 (by decide) ?_
        refine lv_iconst (v := 1) hx hb dX12_weather_48 (by decide) ?_
        have hFc := gA_free hG hA hS
        refine va_calli (va_runV (As := [.int 0, .int 1]) (rest := []) ⟨hx, hb, hml, hown, hts⟩ (s_throwsIf l dC dI kA adK adV G H q wZ wN wH wB wC wL wK wU wV PI im PM PT lS lB lE lN o0 0 1 hT hr_o0 (rg_t (a := 0) (by decide) (by first | decide | omega) (by first | decide | omega)) hgz hgn hgh hgb hgc hgi hgu) (cwV 2 hts (goodIn_app (goodIn_r _ [8, 9, 10, 6] rfl (by decide +kernel)) (goodIn_ca (goodIn_r _ [7, 1] rfl (by decide +kernel)) (bs_in _ _))) rfl rfl rfl (by decide +kernel) ⟨(Nat.le_of_ble_eq_true rfl), (Nat.le_of_ble_eq_true rfl)⟩) ⟨fun a U g mk q => by obtain ⟨q0, q1, qK, qE⟩ := q; exact ⟨q0, q1, va_K.moved (u := U) (U := U.calling g mk a) (Vm.Alike.refl U.vm) qK, EVS.blind g mk a qE⟩, gH_rc hK hT hr_o0 shm_0 rfl, fun U hU hW => ⟨rfl, hU, va_K.moved hW.alike hK, hE.call hS hFc hU hW⟩⟩ rfl rfl hl.1 rfl (lv_room (Nat.le_of_ble_eq_true rfl)) dX12_weather_49 ⟨(Nat.le_of_ble_eq_true rfl), (Nat.le_of_ble_eq_true rfl)⟩) hS (fun q _ h => hFc q h) hFc (fun r111 u t H locs ht hvm hw112 hB _ _ hS => ?_)
        obtain ⟨hT, hF1⟩ := hB
        rw [ht] at hT hF1
        have hF := hF.more hF1 (by decide)
        try dsimp only at hw112
        obtain ⟨h114, hd115⟩ := hw112
        obtain rfl : (0 : Int32) = r111 := hd115.symm
        refine lv_if_eq (tgt := 57) hx hb dX12_weather_52 (by decide) (fun c116 => ?_) (fun c116 => absurd c116 (by decide))
        refine lv_iload_n hx hb dX12_weather_57 rfl (lv_at hl 1 rfl) ?_
        refine lv_if_eq (tgt := 67) hx hb dX12_weather_58 (by decide) (fun c117 => (by exfalso; have q9 : p0.toInt = 0 := ti_eq c117 rfl (by decide); omega)) (fun c117 => ?_)
        have t118 : p0.toInt ≠ 0 := ti_ne c117 rfl (by decide)
        refine lv_sipush (v := 1624) hx hb dX12_weather_61 (by decide) ?_
        refine lv_goto (tgt := 70) hx hb dX12_weather_64 (by decide) ?_
        refine lv_istore (lv' := [(4, .int 1624), (0, .ref o0), (1, .int p0), (2, .int p1), (3, .int p2)]) hx hb dX12_weather_70 hl (by decide) rfl (fun ls hl => ?_)
        refine lv_iload_n hx hb dX12_weather_72 rfl (lv_at hl 2 rfl) ?_
        refine lv_if_eq (tgt := 82) hx hb dX12_weather_73 (by decide) (fun c119 => (by exfalso; have q9 : p0.toInt = 0 := ti_eq c119 rfl (by decide); omega)) (fun c119 => ?_)
        have t120 : p0.toInt ≠ 0 := ti_ne c119 rfl (by decide)
        refine lv_sipush (v := 1625) hx hb dX12_weather_76 (by decide) ?_
        refine lv_goto (tgt := 85) hx hb dX12_weather_79 (by decide) ?_
        refine lv_iconst (v := 2) hx hb dX12_weather_85 (by decide) ?_
        refine lv_aload_n hx hb dX12_weather_86 rfl (lv_at hl 1 rfl) ?_
        refine tw_get hx hb hts bF_X12 hown hK hT hr_o0 shm_0 rfl 1 (by decide) (ht_at hts 10 rfl) (fun _ h9 => h9) dX12_weather_87 (fun v9 m121 h9 => ?_)
        obtain ⟨rfl, hg122⟩ := h9 _ rfl
        refine lv_iload hx hb dX12_weather_90 (lv_at hl 0 rfl) ?_
        refine tw_iald (i := 1624) hx hb hK hT hg122 shm_2 rfl (by unfold vp_in; decide) dX12_weather_92 (fun v9 m123 h9 => ?_)
        obtain ⟨x124, rfl, gx124, kx124⟩ := (gp_at h9 (w_rac (by have q9 := tn_of (show (1624 : Int32).toInt = 1624 from (by decide)) (show (0 : Int) ≤ 1624 from by omega); omega)))
        refine lv_imul hx hb dX12_weather_93 ?_
        refine lv_topi (fun x125 ex125 => ?_)
        have t126 : x125.toInt = 2 * x124.toInt := ti_mul ex125 (by decide) rfl (by omega) (by omega)
        refine lv_iadd hx hb dX12_weather_94 ?_
        refine lv_topi (fun x127 ex127 => ?_)
        have t128 : x127.toInt = 1625 + x125.toInt := ti_add ex127 (by decide) rfl (by omega) (by omega)
        refine lv_istore (lv' := [(5, .int x127), (4, .int 1624), (0, .ref o0), (1, .int p0), (2, .int p1), (3, .int p2)]) hx hb dX12_weather_95 hl (by decide) rfl (fun ls hl => ?_)
        refine lv_aload_n hx hb dX12_weather_97 rfl (lv_at hl 2 rfl) ?_
        refine tw_get hx hb hts bF_X12 hown hK hT hr_o0 shm_0 rfl 1 (by decide) (ht_at hts 10 rfl) (fun _ h9 => h9) dX12_weather_98 (fun v9 m129 h9 => ?_)
        obtain ⟨rfl, hg130⟩ := h9 _ rfl
        refine lv_iload hx hb dX12_weather_101 (lv_at hl 1 rfl) ?_
        refine tw_iald (i := 1624) hx hb hK hT hg122 shm_2 rfl (by unfold vp_in; decide) dX12_weather_103 (fun v9 m131 h9 => ?_)
        obtain ⟨x132, rfl, gx132, kx132⟩ := (gp_at h9 (w_rac (by have q9 := tn_of (show (1624 : Int32).toInt = 1624 from (by decide)) (show (0 : Int) ≤ 1624 from by omega); omega)))
        obtain rfl : x124 = x132 := (el_same m131 m123 rfl).symm
        refine lv_bipush (v := 60) hx hb dX12_weather_104 (by decide) ?_
        refine lv_icmp_ne (tgt := 111) hx hb dX12_weather_106 (by decide) (fun c133 => ?_) (fun c133 => ?_)
        · have t134 : x124.toInt ≠ 60 := ti_ne c133 rfl (by decide)
          refine lv_aload_n hx hb dX12_weather_111 rfl (lv_at hl 2 rfl) ?_
          refine tw_get hx hb hts bF_X12 hown hK hT hr_o0 shm_0 rfl 1 (by decide) (ht_at hts 10 rfl) (fun _ h9 => h9) dX12_weather_112 (fun v9 m135 h9 => ?_)
          obtain ⟨rfl, hg136⟩ := h9 _ rfl
          refine lv_iload hx hb dX12_weather_115 (lv_at hl 0 rfl) ?_
          refine lv_iload_n hx hb dX12_weather_117 rfl (lv_at hl 4 rfl) ?_
          refine tw_iast (i := x127) (x := p1) hx hb hK hT hG hS hg122 shm_2 rfl (vin_t (a := x127.toInt) rfl (by omega) (by omega)) (gp_of (gi_all _) (w_fre (by have q9 := tn_of (show x127.toInt = x127.toInt from rfl) (show (0 : Int) ≤ x127.toInt from by omega); omega)) (wX_o (by have q9 := tn_of (show x127.toInt = x127.toInt from rfl) (show (0 : Int) ≤ x127.toInt from by omega); omega) (by omega))) dX12_weather_118 (fun H locs hT oq m137 oi hS => ?_)
          have hF := hF.ast hg122 skm_2 oq (by decide)
          have m138 := (oi _ (tn_ne (show (1624 : Int32).toInt = 1624 from (by decide)) (show x127.toInt = x127.toInt from rfl) (by omega) (by omega) (by omega))).trans m123
          refine lv_aload_n hx hb dX12_weather_119 rfl (lv_at hl 2 rfl) ?_
          refine tw_get hx hb hts bF_X12 hown hK hT hr_o0 shm_0 rfl 1 (by decide) (ht_at hts 10 rfl) (fun _ h9 => h9) dX12_weather_120 (fun v9 m139 h9 => ?_)
          obtain ⟨rfl, hg140⟩ := h9 _ rfl
          refine lv_iload hx hb dX12_weather_123 (lv_at hl 0 rfl) ?_
          refine lv_iconst (v := 1) hx hb dX12_weather_125 (by decide) ?_
          refine lv_iadd hx hb dX12_weather_126 ?_
          refine lv_topi (fun x141 ex141 => ?_)
          have t142 : x141.toInt = x127.toInt + 1 := ti_add ex141 rfl (by decide) (by omega) (by omega)
          refine lv_iload_n hx hb dX12_weather_127 rfl (lv_at hl 5 rfl) ?_
          refine tw_iast (i := x141) (x := p2) hx hb hK hT hG hS hg122 shm_2 rfl (vin_t (a := x141.toInt) rfl (by omega) (by omega)) (gp_of (gi_of (show p2.toInt = p2.toInt from rfl) (by omega) (by omega)) (w_rai (by have q9 := tn_of (show x141.toInt = x141.toInt from rfl) (show (0 : Int) ≤ x141.toInt from by omega); omega)) (wX_o (by have q9 := tn_of (show x141.toInt = x141.toInt from rfl) (show (0 : Int) ≤ x141.toInt from by omega); omega) (by omega))) dX12_weather_128 (fun H locs hT oq m143 oi hS => ?_)
          have hF := hF.ast hg122 skm_2 oq (by decide)
          have m144 := (oi _ (tn_ne (show (1624 : Int32).toInt = 1624 from (by decide)) (show x141.toInt = x141.toInt from rfl) (by omega) (by omega) (by omega))).trans m138
          refine lv_aload_n hx hb dX12_weather_129 rfl (lv_at hl 2 rfl) ?_
          refine tw_get hx hb hts bF_X12 hown hK hT hr_o0 shm_0 rfl 1 (by decide) (ht_at hts 10 rfl) (fun _ h9 => h9) dX12_weather_130 (fun v9 m146 h9 => ?_)
          obtain ⟨rfl, hg147⟩ := h9 _ rfl
          refine lv_iload hx hb dX12_weather_133 (lv_at hl 1 rfl) ?_
          refine lv_dup2_11 hx hb dX12_weather_135 rfl rfl ?_
          refine tw_iald (i := 1624) hx hb hK hT hg122 shm_2 rfl (by unfold vp_in; decide) dX12_weather_136 (fun v9 m148 h9 => ?_)
          obtain ⟨x149, rfl, gx149, kx149⟩ := (gp_at h9 (w_rac (by have q9 := tn_of (show (1624 : Int32).toInt = 1624 from (by decide)) (show (0 : Int) ≤ 1624 from by omega); omega)))
          obtain rfl : x124 = x149 := (el_same m148 m144 rfl).symm
          refine lv_iconst (v := 1) hx hb dX12_weather_137 (by decide) ?_
          refine lv_iadd hx hb dX12_weather_138 ?_
          refine lv_topi (fun x150 ex150 => ?_)
          have t151 : x150.toInt = x124.toInt + 1 := ti_add ex150 rfl (by decide) (by omega) (by omega)
          refine tw_iast (i := 1624) (x := x150) hx hb hK hT hG hS hg122 shm_2 rfl (by unfold vp_in; decide) (gp_of (gi_of (show x150.toInt = x150.toInt from rfl) (by omega) (by omega)) (w_rac (by have q9 := tn_of (show (1624 : Int32).toInt = 1624 from (by decide)) (show (0 : Int) ≤ 1624 from by omega); omega)) (wX_o (by have q9 := tn_of (show (1624 : Int32).toInt = 1624 from (by decide)) (show (0 : Int) ≤ 1624 from by omega); omega) (by omega))) dX12_weather_139 (fun H locs hT oq m152 oi hS => ?_)
          have hF := hF.ast hg122 skm_2 oq (by decide)
          refine lv_aload_n hx hb dX12_weather_140 rfl (lv_at hl 2 rfl) ?_
          refine lv_iconst (v := 0) hx hb dX12_weather_141 (by decide) ?_
          refine tw_put (v := .int 0) (ty := .int) hx hb hts bF_X12 tyX12 tyX12_ok nmX12 hown hK hT hG hS hr_o0 shm_0 rfl 9 (by decide) (ht_at hts 11 rfl) (fun _ h9 => h9) rfl (by decide +kernel) rfl rfl (gl_at rfl (gi_of (show (0 : Int32).toInt = 0 from (by decide)) (by first | decide | omega) (by first | decide | omega))) dX12_weather_142 (fun H locs hT oq m155 oj hS => ?_)
          have hF := hF.put hr_o0 skm_0 oq oj (by decide)
          have m158 := (el_kept (oq _ (gne hg122 hr_o0 (by decide)))).trans m152
          refine lv_aload_n hx hb dX12_weather_145 rfl (lv_at hl 2 rfl) ?_
          refine tw_get hx hb hts bF_X12 hown hK hT hr_o0 shm_0 rfl 1 (by decide) (ht_at hts 10 rfl) (fun _ h9 => h9) dX12_weather_146 (fun v9 m159 h9 => ?_)
          obtain ⟨rfl, hg160⟩ := h9 _ rfl
          refine lv_iload hx hb dX12_weather_149 (lv_at hl 1 rfl) ?_
          refine tw_iald (i := 1624) hx hb hK hT hg122 shm_2 rfl (by unfold vp_in; decide) dX12_weather_151 (fun v9 m161 h9 => ?_)
          obtain ⟨x162, rfl, gx162, kx162⟩ := (gp_at h9 (w_rac (by have q9 := tn_of (show (1624 : Int32).toInt = 1624 from (by decide)) (show (0 : Int) ≤ 1624 from by omega); omega)))
          obtain rfl : x150 = x162 := (el_same m161 m158 rfl).symm
          exact W.iret (v := x150) hx hb hr (fun t ht hW => ⟨⟨x150, (), rfl, (by exact (by have q8 := ti_all x150; omega)), by (try dsimp only); rw [ht]; exact ⟨hT, hF⟩⟩, hS.F ht⟩) hS.2.2 dX12_weather_152
        · have t163 : x124.toInt = 60 := ti_eq c133 rfl (by decide)
          refine lv_iconst (v := (-1)) hx hb dX12_weather_109 (by decide) ?_
          exact W.iret (v := (-1)) hx hb hr (fun t ht hW => ⟨⟨(-1), (), rfl, (by exact (rg_t (a := (-1)) (by decide) (by first | decide | omega) (by first | decide | omega))), by (try dsimp only); rw [ht]; exact ⟨hT, hF⟩⟩, hS.F ht⟩) hS.2.2 dX12_weather_110
      · have t164 : r100.toInt = 0 := ti_eq c106 rfl (by decide)
        have t165 : (20 : Int32).toInt = 20 := by decide
        have t166 : (0 : Int32).toInt = 0 := by decide
        have t167 : p2.toInt < (0 : Int32).toInt ∨ (20 : Int32).toInt < p2.toInt := hi105 c106
        refine lv_goto (tgt := 43) hx hb dX12_weather_30 (by decide) ?_
        refine lv_iconst (v := 1) hx hb dX12_weather_43 (by decide) ?_
        refine lv_goto (tgt := 48) hx hb dX12_weather_44 (by decide) ?_
        refine lv_iconst (v := 1) hx hb dX12_weather_48 (by decide) ?_
        have hFc := gA_free hG hA hS
        refine va_calli (va_runV (As := [.int 1, .int 1]) (rest := []) ⟨hx, hb, hml, hown, hts⟩ (s_throwsIf l dC dI kA adK adV G H q wZ wN wH wB wC wL wK wU wV PI im PM PT lS lB lE lN o0 1 1 hT hr_o0 (rg_t (a := 1) (by decide) (by first | decide | omega) (by first | decide | omega)) hgz hgn hgh hgb hgc hgi hgu) (cwV 2 hts (goodIn_app (goodIn_r _ [8, 9, 10, 6] rfl (by decide +kernel)) (goodIn_ca (goodIn_r _ [7, 1] rfl (by decide +kernel)) (bs_in _ _))) rfl rfl rfl (by decide +kernel) ⟨(Nat.le_of_ble_eq_true rfl), (Nat.le_of_ble_eq_true rfl)⟩) ⟨fun a U g mk q => by obtain ⟨q0, q1, qK, qE⟩ := q; exact ⟨q0, q1, va_K.moved (u := U) (U := U.calling g mk a) (Vm.Alike.refl U.vm) qK, EVS.blind g mk a qE⟩, gH_rc hK hT hr_o0 shm_0 rfl, fun U hU hW => ⟨rfl, hU, va_K.moved hW.alike hK, hE.call hS hFc hU hW⟩⟩ rfl rfl hl.1 rfl (lv_room (Nat.le_of_ble_eq_true rfl)) dX12_weather_49 ⟨(Nat.le_of_ble_eq_true rfl), (Nat.le_of_ble_eq_true rfl)⟩) hS (fun q _ h => hFc q h) hFc (fun r168 u t H locs ht hvm hw169 hB _ _ hS => ?_)
        obtain ⟨hT, hF1⟩ := hB
        rw [ht] at hT hF1
        have hF := hF.more hF1 (by decide)
        try dsimp only at hw169
        obtain ⟨h171, hd172⟩ := hw169
        obtain rfl : (1 : Int32) = r168 := hd172.symm
        refine lv_if_eq (tgt := 57) hx hb dX12_weather_52 (by decide) (fun c173 => absurd c173 (by decide)) (fun c173 => ?_)
        refine lv_iconst (v := 0) hx hb dX12_weather_55 (by decide) ?_
        exact W.iret (v := 0) hx hb hr (fun t ht hW => ⟨⟨0, (), rfl, (by exact (rg_t (a := 0) (by decide) (by first | decide | omega) (by first | decide | omega))), by (try dsimp only); rw [ht]; exact ⟨hT, hF⟩⟩, hS.F ht⟩) hS.2.2 dX12_weather_56
def w_s_turn : List Cond := .code yX12_turn cX12_turn 4 (some .boolean) :: (HAppend.hAppend (α := List Cond) (β := List Cond) (γ := List Cond) [.fieldLink RX12 194 "SeaLandModel" "thrown" "I", .code yX12_noWork cX12_noWork 2 (some .boolean), .fieldLink RX12 9 "SeaLandModel" "world" "[I", .code yX12_in cX12_in 3 (some .boolean), .methodLink RX12 197 yX12_in, .static yX12_in, .initialized RX12, .methodLink RX12 269 yX12_noWork, .instanceMethod yX12_noWork, .selects RX12 yX12_noWork yX12_noWork, .code yX12_throwsIf cX12_throwsIf 3 (some .boolean), .methodLink RX12 224 yX12_throwsIf, .instanceMethod yX12_throwsIf, .selects RX12 yX12_throwsIf yX12_throwsIf, .code yX12_of cX12_of 3 (some .int), .code yX12_at cX12_at 2 (some .int), .methodLink RX12 214 yX12_at, .static yX12_at, .methodLink RX12 217 yX12_of, .instanceMethod yX12_of, .selects RX12 yX12_of yX12_of, .fieldLink RX12 238 "SeaLandModel" "rows" "I"] bs)
set_option maxHeartbeats 4000000 in
set_option maxRecDepth 100000 in
theorem s_turn (l : Launch) (dC : Nat → ClassId) (dI : Nat → Nat → Nat) (kA : Nat → ClassId) (adK adV : Nat → Nat) (G : gT) (H0 : Heap) (q : Nat → Nat) (wZ wN : Nat → Int) (wH wB wC : Int) (wL wK : Nat → Prop) (wU wV : Nat → Nat) (PI : Nat → Int → Prop) (im : Int) (PM PT : Nat → Int → Prop) (lS lB lE : Nat → Nat → Int → Prop) (lN : Nat → Int) (o0 : Nat) (p0 : Int32) (p1 : Int32)  (hT : gH (dC, dI) kA (SHm q (wP wZ wN wH wB wC wL wK wU wV) PI im PM PT lS lB lE lN) G H0) (hr_o0 : G o0 = some 0) (hq0 : 0 ≤ p1.toInt ∧ p1.toInt ≤ 1) (hgz : ∀ i, 0 ≤ wZ i) (hgn : ∀ i, 6500000 ≤ wN i ∧ wN i ≤ 20200000) (hgh : 0 ≤ wH ∧ wH ≤ 40000) (hgb : 0 ≤ wB ∧ wB ≤ 3850000) (hgc : 0 ≤ wC ∧ wC ≤ 30) (hgi : 0 ≤ im ∧ im ≤ 1) (hgu : ∀ a t, G a = some (t + 1) → a = q t) : Met l yX12_turn w_s_turn ({ frames := 2, cells := 0, slots := 0, locals := 43 }) (va_Pc [.ref o0, .int p0, .int p1] (fun U => U.heap = H0 ∧ va_K (dC, dI) vwCl (tyl kA) U ∧ EVS adK adV (gA G H0.size) U U.heap)) (va_Qi (fun (r : Int32) (u : Unit) => (0 ≤ r.toInt ∧ r.toInt ≤ 1)) (fun (_ : Unit) (t : State) => gH (dC, dI) kA (SHm q (wP wZ wN wH wB wC wL wK wU wV) PI im PM PT lS lB lE lN) G t.heap ∧ gF (dC, dI) SKm G ([(0, 0), (0, 9), (2, 0)] : List (Nat × Nat)) H0 t.heap) (gA G H0.size)) 0 0 (gA G H0.size) := by
  refine Met.ofW (cc := cX12_turn) (maxL := 4) (ret := (some .boolean)) (by decide) rfl ?_
  intro p e s m args below meth c s₁ B hml hv
  obtain ⟨rfl, hH0, hK, hE⟩ := hv
  have hx := B.exec
  have hb := B.bytes
  have hr := B.returns
  have hts := atoms_spec (ws := w_s_turn) B.pre
  have hown : s.vm.findClass RX12 = some m.cls := findClass_of_methodNamed B.named
  have hlocks := B.notSynchronized
  subst hH0
  generalize hAe : gA G s.heap.size = A at hE ⊢
  have hA : ∀ q : Nat, s.heap.size ≤ q → A q := fun q h => by rw [← hAe]; exact Or.inr h
  have hG := gA_of hAe
  have hS : va_S A s.heap s.heap [] := va_S.rf
  have hF : gF (dC, dI) SKm G ([(0, 0), (0, 9), (2, 0)] : List (Nat × Nat)) s.heap s.heap := gF.rf
  have hl := lv_entry ([.ref o0, .int p0, .int p1]) (n := 4) (Nat.le_of_ble_eq_true rfl)
  rw [lg_entry_eq]
  generalize (lg_sl ([.ref o0, .int p0, .int p1]) ++ List.replicate (4 - (lg_sl ([.ref o0, .int p0, .int p1])).length) Slot.unset).toArray = ls at hl ⊢
  have hl : lv_has ls 4 [(0, .ref o0), (1, .int p0), (2, .int p1)] := hl
  refine lv_aload_n hx hb dX12_turn_0 rfl (lv_at hl 0 rfl) ?_
  refine lv_iconst (v := 0) hx hb dX12_turn_1 (by decide) ?_
  refine tw_put (v := .int 0) (ty := .int) hx hb hts bF_X12 tyX12 tyX12_ok nmX12 hown hK hT hG hS hr_o0 shm_0 rfl 0 (by decide) (ht_at hts 0 rfl) (fun _ h9 => h9) rfl (by decide +kernel) rfl rfl (gl_at rfl (gi_all _)) dX12_turn_2 (fun H locs hT oq m1 oj hS => ?_)
  have hF := hF.put hr_o0 skm_0 oq oj (by decide)
  refine lv_aload_n hx hb dX12_turn_5 rfl (lv_at hl 0 rfl) ?_
  refine lv_aload_n hx hb dX12_turn_6 rfl (lv_at hl 0 rfl) ?_
  refine lv_iload_n hx hb dX12_turn_7 rfl (lv_at hl 1 rfl) ?_
  have hFc := gA_free hG hA hS
  refine va_calli (va_runV (As := [.int p0]) (rest := [.ref o0]) ⟨hx, hb, hml, hown, hts⟩ (s_noWork l dC dI kA adK adV G H q wZ wN wH wB wC wL wK wU wV PI im PM PT lS lB lE lN o0 p0 hT hr_o0 hgz hgn hgh hgb hgc hgi hgu) (cwV 1 hts (goodIn_app (goodIn_r _ [8, 9, 10, 7] rfl (by decide +kernel)) (goodIn_ca (goodIn_r _ [2, 3, 4, 5, 6, 7] rfl (by decide +kernel)) (bs_in _ _))) rfl rfl rfl (by decide +kernel) ⟨(Nat.le_of_ble_eq_true rfl), (Nat.le_of_ble_eq_true rfl)⟩) ⟨fun a U g mk q => by obtain ⟨q0, q1, qK, qE⟩ := q; exact ⟨q0, q1, va_K.moved (u := U) (U := U.calling g mk a) (Vm.Alike.refl U.vm) qK, EVS.blind g mk a qE⟩, gH_rc hK hT hr_o0 shm_0 rfl, fun U hU hW => ⟨rfl, hU, va_K.moved hW.alike hK, hE.call hS hFc hU hW⟩⟩ rfl rfl hl.1 rfl (lv_room (Nat.le_of_ble_eq_true rfl)) dX12_turn_8 ⟨(Nat.le_of_ble_eq_true rfl), (Nat.le_of_ble_eq_true rfl)⟩) hS (fun q _ h => hFc q h) hFc (fun r2 u t H locs ht hvm hw3 hB _ _ hS => ?_)
  obtain ⟨hT, hF1⟩ := hB
  rw [ht] at hT hF1
  have hF := hF.more hF1 (by decide)
  try dsimp only at hw3
  obtain ⟨h5, hi6⟩ := hw3
  refine lv_iconst (v := 1) hx hb dX12_turn_11 (by decide) ?_
  have hFc := gA_free hG hA hS
  refine va_calli (va_runV (As := [.int r2, .int 1]) (rest := []) ⟨hx, hb, hml, hown, hts⟩ (s_throwsIf l dC dI kA adK adV G H q wZ wN wH wB wC wL wK wU wV PI im PM PT lS lB lE lN o0 r2 1 hT hr_o0 (by have q8 := ti_all r2; omega) hgz hgn hgh hgb hgc hgi hgu) (cwV 2 hts (goodIn_app (goodIn_r _ [12, 13, 14, 7] rfl (by decide +kernel)) (goodIn_ca (goodIn_r _ [11, 1] rfl (by decide +kernel)) (bs_in _ _))) rfl rfl rfl (by decide +kernel) ⟨(Nat.le_of_ble_eq_true rfl), (Nat.le_of_ble_eq_true rfl)⟩) ⟨fun a U g mk q => by obtain ⟨q0, q1, qK, qE⟩ := q; exact ⟨q0, q1, va_K.moved (u := U) (U := U.calling g mk a) (Vm.Alike.refl U.vm) qK, EVS.blind g mk a qE⟩, gH_rc hK hT hr_o0 shm_0 rfl, fun U hU hW => ⟨rfl, hU, va_K.moved hW.alike hK, hE.call hS hFc hU hW⟩⟩ rfl rfl hl.1 rfl (lv_room (Nat.le_of_ble_eq_true rfl)) dX12_turn_12 ⟨(Nat.le_of_ble_eq_true rfl), (Nat.le_of_ble_eq_true rfl)⟩) hS (fun q _ h => hFc q h) hFc (fun r7 u t H locs ht hvm hw8 hB _ _ hS => ?_)
  obtain ⟨hT, hF1⟩ := hB
  rw [ht] at hT hF1
  have hF := hF.more hF1 (by decide)
  try dsimp only at hw8
  obtain ⟨h10, hd11⟩ := hw8
  obtain rfl : r2 = r7 := hd11.symm
  refine lv_if_ne (tgt := 41) hx hb dX12_turn_15 (by decide) (fun c12 => ?_) (fun c12 => ?_)
  · have t13 : r2.toInt ≠ 0 := ti_ne c12 rfl (by decide)
    refine lv_iconst (v := 0) hx hb dX12_turn_41 (by decide) ?_
    exact W.zret (v := 0) hx hb hr (by decide) (fun t ht hW => ⟨⟨0, (), rfl, (by exact (rg_t (a := 0) (by decide) (by first | decide | omega) (by first | decide | omega))), by (try dsimp only); rw [ht]; exact ⟨hT, hF⟩⟩, hS.F ht⟩) hS.2.2 dX12_turn_42
  · have t14 : r2.toInt = 0 := ti_eq c12 rfl (by decide)
    have t15 : 0 ≤ p0.toInt ∧ p0.toInt ≤ 29 ∧ p0.toInt < wC := hi6 c12
    refine lv_aload_n hx hb dX12_turn_18 rfl (lv_at hl 0 rfl) ?_
    refine lv_aload_n hx hb dX12_turn_19 rfl (lv_at hl 0 rfl) ?_
    refine lv_iload_n hx hb dX12_turn_20 rfl (lv_at hl 1 rfl) ?_
    refine lv_iconst (v := 0) hx hb dX12_turn_21 (by decide) ?_
    have hFc := gA_free hG hA hS
    refine va_calli (va_runV (As := [.int p0, .int 0]) (rest := [.ref o0]) ⟨hx, hb, hml, hown, hts⟩ (s_of0 l dC dI kA adK adV G H q wZ wN wH wB wC wL wK wU wV PI im PM PT lS lB lE lN o0 p0 hT hr_o0 (by have q8 := ti_all p0; omega) hgz hgn hgh hgb hgc hgi hgu) (cwV 2 hts (goodIn_app (goodIn_r _ [19, 20, 21, 7] rfl (by decide +kernel)) (goodIn_ca (goodIn_r _ [15, 3, 16, 17, 18, 7] rfl (by decide +kernel)) (bs_in _ _))) rfl rfl rfl (by decide +kernel) ⟨(Nat.le_of_ble_eq_true rfl), (Nat.le_of_ble_eq_true rfl)⟩) ⟨fun a U g mk q => by obtain ⟨q0, q1, qK, qE⟩ := q; exact ⟨q0, q1, va_K.moved (u := U) (U := U.calling g mk a) (Vm.Alike.refl U.vm) qK, EVS.blind g mk a qE⟩, gH_rc hK hT hr_o0 shm_0 rfl, fun U hU hW => ⟨rfl, hU, va_K.moved hW.alike hK, hE.call hS hFc hU hW⟩⟩ rfl rfl hl.1 rfl (lv_room (Nat.le_of_ble_eq_true rfl)) dX12_turn_22 ⟨(Nat.le_of_ble_eq_true rfl), (Nat.le_of_ble_eq_true rfl)⟩) hS (fun q _ h => hFc q h) hFc (fun r16 u t H locs ht hvm hw17 hB _ _ hS => ?_)
    obtain ⟨hT, hF1⟩ := hB
    rw [ht] at hT hF1
    have hF := hF.more hF1 (by decide)
    try dsimp only at hw17
    have ⟨ix18, hix18, m19⟩ := hw17
    have hg20 : G (q 1) = some 2 := gx_of hT hr_o0 shm_0 (k := 1) (by decide) rfl
    refine lv_iconst (v := 3) hx hb dX12_turn_25 (by decide) ?_
    refine lv_icmp_ge (tgt := 33) hx hb dX12_turn_26 (by decide) (fun c22 => ?_) (fun c22 => ?_)
    · have t23 : 3 ≤ r16.toInt := ti_le c22 (by decide) rfl
      refine lv_iconst (v := 0) hx hb dX12_turn_33 (by decide) ?_
      refine lv_iconst (v := 2) hx hb dX12_turn_34 (by decide) ?_
      have hFc := gA_free hG hA hS
      refine va_calli (va_runV (As := [.int 0, .int 2]) (rest := []) ⟨hx, hb, hml, hown, hts⟩ (s_throwsIf l dC dI kA adK adV G H q wZ wN wH wB wC wL wK wU wV PI im PM PT lS lB lE lN o0 0 2 hT hr_o0 (rg_t (a := 0) (by decide) (by first | decide | omega) (by first | decide | omega)) hgz hgn hgh hgb hgc hgi hgu) (cwV 2 hts (goodIn_app (goodIn_r _ [12, 13, 14, 7] rfl (by decide +kernel)) (goodIn_ca (goodIn_r _ [11, 1] rfl (by decide +kernel)) (bs_in _ _))) rfl rfl rfl (by decide +kernel) ⟨(Nat.le_of_ble_eq_true rfl), (Nat.le_of_ble_eq_true rfl)⟩) ⟨fun a U g mk q => by obtain ⟨q0, q1, qK, qE⟩ := q; exact ⟨q0, q1, va_K.moved (u := U) (U := U.calling g mk a) (Vm.Alike.refl U.vm) qK, EVS.blind g mk a qE⟩, gH_rc hK hT hr_o0 shm_0 rfl, fun U hU hW => ⟨rfl, hU, va_K.moved hW.alike hK, hE.call hS hFc hU hW⟩⟩ rfl rfl hl.1 rfl (lv_room (Nat.le_of_ble_eq_true rfl)) dX12_turn_35 ⟨(Nat.le_of_ble_eq_true rfl), (Nat.le_of_ble_eq_true rfl)⟩) hS (fun q _ h => hFc q h) hFc (fun r24 u t H locs ht hvm hw25 hB _ _ hS => ?_)
      obtain ⟨hT, hF1⟩ := hB
      rw [ht] at hT hF1
      have hF := hF.more hF1 (by decide)
      try dsimp only at hw25
      obtain ⟨h27, hd28⟩ := hw25
      obtain rfl : (0 : Int32) = r24 := hd28.symm
      refine lv_if_eq (tgt := 43) hx hb dX12_turn_38 (by decide) (fun c29 => ?_) (fun c29 => absurd c29 (by decide))
      refine lv_aload_n hx hb dX12_turn_43 rfl (lv_at hl 0 rfl) ?_
      refine lv_iload_n hx hb dX12_turn_44 rfl (lv_at hl 1 rfl) ?_
      refine lv_bipush (v := 19) hx hb dX12_turn_45 (by decide) ?_
      have hFc := gA_free hG hA hS
      refine va_calli (va_runV (As := [.int p0, .int 19]) (rest := []) ⟨hx, hb, hml, hown, hts⟩ (s_of19 l dC dI kA adK adV G H q wZ wN wH wB wC wL wK wU wV PI im PM PT lS lB lE lN o0 p0 hT hr_o0 (by have q8 := ti_all p0; omega) hgz hgn hgh hgb hgc hgi hgu) (cwV 2 hts (goodIn_app (goodIn_r _ [19, 20, 21, 7] rfl (by decide +kernel)) (goodIn_ca (goodIn_r _ [15, 3, 16, 17, 18, 7] rfl (by decide +kernel)) (bs_in _ _))) rfl rfl rfl (by decide +kernel) ⟨(Nat.le_of_ble_eq_true rfl), (Nat.le_of_ble_eq_true rfl)⟩) ⟨fun a U g mk q => by obtain ⟨q0, q1, qK, qE⟩ := q; exact ⟨q0, q1, va_K.moved (u := U) (U := U.calling g mk a) (Vm.Alike.refl U.vm) qK, EVS.blind g mk a qE⟩, gH_rc hK hT hr_o0 shm_0 rfl, fun U hU hW => ⟨rfl, hU, va_K.moved hW.alike hK, hE.call hS hFc hU hW⟩⟩ rfl rfl hl.1 rfl (lv_room (Nat.le_of_ble_eq_true rfl)) dX12_turn_47 ⟨(Nat.le_of_ble_eq_true rfl), (Nat.le_of_ble_eq_true rfl)⟩) hS (fun q _ h => hFc q h) hFc (fun r30 u t H locs ht hvm hw31 hB _ _ hS => ?_)
      obtain ⟨hT, hF1⟩ := hB
      rw [ht] at hT hF1
      have hF := hF.more hF1 (by decide)
      try dsimp only at hw31
      have ⟨ix33, hix33, m34⟩ := hw31
      refine lv_iconst (v := 1) hx hb dX12_turn_50 (by decide) ?_
      refine lv_icmp_ne (tgt := 58) hx hb dX12_turn_51 (by decide) (fun c36 => ?_) (fun c36 => ?_)
      · have t37 : r30.toInt ≠ 1 := ti_ne c36 rfl (by decide)
        refine lv_iconst (v := 0) hx hb dX12_turn_58 (by decide) ?_
        refine lv_istore_n (lv' := [(3, .int 0), (0, .ref o0), (1, .int p0), (2, .int p1)]) hx hb dX12_turn_59 rfl hl (by decide) rfl (fun ls hl => ?_)
        refine lv_aload_n hx hb dX12_turn_60 rfl (lv_at hl 1 rfl) ?_
        refine tw_get hx hb hts bF_X12 hown hK hT hr_o0 shm_0 rfl 1 (by decide) (ht_at hts 2 rfl) (fun _ h9 => h9) dX12_turn_61 (fun v9 m38 h9 => ?_)
        obtain ⟨rfl, hg39⟩ := h9 _ rfl
        refine lv_iload_n hx hb dX12_turn_64 rfl (lv_at hl 2 rfl) ?_
        refine lv_bipush (v := 19) hx hb dX12_turn_65 (by decide) ?_
        have hFc := gA_free hG hA hS
        refine va_calli (va_runS (As := [.int p0, .int 19]) (rest := [.ref (q 1)]) ⟨hx, hb, hml, hown, hts⟩ (s_at l dC dI kA adK adV G H q wZ wN wH wB wC wL wK wU wV PI im PM PT lS lB lE lN p0 19 hT (by have q8 := ti_all p0; omega) (rg_t (a := 19) (by decide) (by first | decide | omega) (by first | decide | omega)) hgz hgn hgh hgb hgc hgi hgu) (va_cwS 2 hts (goodIn_app (goodIn_r _ [17, 18, 7] rfl (by decide +kernel)) (goodIn_ca (goodIn_r _ [16] rfl (by decide +kernel)) (bs_in _ _))) rfl rfl rfl (by decide +kernel) ⟨(Nat.le_of_ble_eq_true rfl), (Nat.le_of_ble_eq_true rfl)⟩) ⟨fun a U g mk q => by obtain ⟨q0, q1, qK, qE⟩ := q; exact ⟨q0, q1, va_K.moved (u := U) (U := U.calling g mk a) (Vm.Alike.refl U.vm) qK, EVS.blind g mk a qE⟩, fun U hU hW => ⟨rfl, hU, va_K.moved hW.alike hK, hE.call hS hFc hU hW⟩⟩ rfl rfl hl.1 rfl (lv_room (Nat.le_of_ble_eq_true rfl)) dX12_turn_67 ⟨(Nat.le_of_ble_eq_true rfl), (Nat.le_of_ble_eq_true rfl)⟩) hS (fun q _ h => hFc q h) hFc (fun r40 u t H locs ht hvm hw41 hB _ _ hS => ?_)
        obtain ⟨hT, hF1⟩ := hB
        rw [ht] at hT hF1
        have hF := hF.more hF1 (by decide)
        try dsimp only at hw41
        obtain ⟨h44, hf45⟩ := hw41
        have t46 : (19 : Int32).toInt = 19 := by decide
        refine lv_iload_n hx hb dX12_turn_70 rfl (lv_at hl 3 rfl) ?_
        refine lv_if_eq (tgt := 78) hx hb dX12_turn_71 (by decide) (fun c47 => ?_) (fun c47 => ?_)
        · have t48 : p1.toInt = 0 := ti_eq c47 rfl (by decide)
          refine lv_iconst (v := 0) hx hb dX12_turn_78 (by decide) ?_
          refine tw_iast (i := r40) (x := 0) hx hb hK hT hG hS hg20 shm_2 rfl (vin_t (a := r40.toInt) rfl (by omega) (by omega)) (w_wk0 (by have q9 := tn_of (show r40.toInt = r40.toInt from rfl) (show (0 : Int) ≤ r40.toInt from by omega); omega) (wX_o (by have q9 := tn_of (show r40.toInt = r40.toInt from rfl) (show (0 : Int) ≤ r40.toInt from by omega); omega) (by omega))) dX12_turn_79 (fun H locs hT oq m49 oi hS => ?_)
          have hF := hF.ast hg20 skm_2 oq (by decide)
          refine lv_aload_n hx hb dX12_turn_80 rfl (lv_at hl 1 rfl) ?_
          refine lv_iconst (v := 0) hx hb dX12_turn_81 (by decide) ?_
          refine tw_put (v := .int 0) (ty := .int) hx hb hts bF_X12 tyX12 tyX12_ok nmX12 hown hK hT hG hS hr_o0 shm_0 rfl 9 (by decide) (ht_at hts 21 rfl) (fun _ h9 => h9) rfl (by decide +kernel) rfl rfl (gl_at rfl (gi_of (show (0 : Int32).toInt = 0 from (by decide)) (by first | decide | omega) (by first | decide | omega))) dX12_turn_82 (fun H locs hT oq m51 oj hS => ?_)
          have hF := hF.put hr_o0 skm_0 oq oj (by decide)
          refine lv_iload_n hx hb dX12_turn_85 rfl (lv_at hl 0 rfl) ?_
          refine lv_iload_n hx hb dX12_turn_86 rfl (lv_at hl 3 rfl) ?_
          refine lv_icmp_eq (tgt := 94) hx hb dX12_turn_87 (by decide) (fun c54 => ?_) (fun c54 => (by exfalso; have q9 : 0 ≠ p1.toInt := ti_ne c54 (by decide) rfl; omega))
          have t55 : 0 = p1.toInt := ti_eq c54 (by decide) rfl
          refine lv_iconst (v := 0) hx hb dX12_turn_94 (by decide) ?_
          exact W.zret (v := 0) hx hb hr (by decide) (fun t ht hW => ⟨⟨0, (), rfl, (by exact (rg_t (a := 0) (by decide) (by first | decide | omega) (by first | decide | omega))), by (try dsimp only); rw [ht]; exact ⟨hT, hF⟩⟩, hS.F ht⟩) hS.2.2 dX12_turn_95
        · have t56 : p1.toInt ≠ 0 := ti_ne c47 rfl (by decide)
          refine lv_iconst (v := 1) hx hb dX12_turn_74 (by decide) ?_
          refine lv_goto (tgt := 79) hx hb dX12_turn_75 (by decide) ?_
          refine tw_iast (i := r40) (x := 1) hx hb hK hT hG hS hg20 shm_2 rfl (vin_t (a := r40.toInt) rfl (by omega) (by omega)) (gp_of (gi_all _) (w_fre (by have q9 := tn_of (show r40.toInt = r40.toInt from rfl) (show (0 : Int) ≤ r40.toInt from by omega); omega)) (wX_o (by have q9 := tn_of (show r40.toInt = r40.toInt from rfl) (show (0 : Int) ≤ r40.toInt from by omega); omega) (by omega))) dX12_turn_79 (fun H locs hT oq m57 oi hS => ?_)
          have hF := hF.ast hg20 skm_2 oq (by decide)
          refine lv_aload_n hx hb dX12_turn_80 rfl (lv_at hl 1 rfl) ?_
          refine lv_iconst (v := 0) hx hb dX12_turn_81 (by decide) ?_
          refine tw_put (v := .int 0) (ty := .int) hx hb hts bF_X12 tyX12 tyX12_ok nmX12 hown hK hT hG hS hr_o0 shm_0 rfl 9 (by decide) (ht_at hts 21 rfl) (fun _ h9 => h9) rfl (by decide +kernel) rfl rfl (gl_at rfl (gi_of (show (0 : Int32).toInt = 0 from (by decide)) (by first | decide | omega) (by first | decide | omega))) dX12_turn_82 (fun H locs hT oq m59 oj hS => ?_)
          have hF := hF.put hr_o0 skm_0 oq oj (by decide)
          refine lv_iload_n hx hb dX12_turn_85 rfl (lv_at hl 0 rfl) ?_
          refine lv_iload_n hx hb dX12_turn_86 rfl (lv_at hl 3 rfl) ?_
          refine lv_icmp_eq (tgt := 94) hx hb dX12_turn_87 (by decide) (fun c62 => (by exfalso; have q9 : 0 = p1.toInt := ti_eq c62 (by decide) rfl; omega)) (fun c62 => ?_)
          have t63 : 0 ≠ p1.toInt := ti_ne c62 (by decide) rfl
          refine lv_iconst (v := 1) hx hb dX12_turn_90 (by decide) ?_
          refine lv_goto (tgt := 95) hx hb dX12_turn_91 (by decide) ?_
          exact W.zret (v := 1) hx hb hr (by decide) (fun t ht hW => ⟨⟨1, (), rfl, (by exact (rg_t (a := 1) (by decide) (by first | decide | omega) (by first | decide | omega))), by (try dsimp only); rw [ht]; exact ⟨hT, hF⟩⟩, hS.F ht⟩) hS.2.2 dX12_turn_95
      · have t64 : r30.toInt = 1 := ti_eq c36 rfl (by decide)
        refine lv_iconst (v := 1) hx hb dX12_turn_54 (by decide) ?_
        refine lv_goto (tgt := 59) hx hb dX12_turn_55 (by decide) ?_
        refine lv_istore_n (lv' := [(3, .int 1), (0, .ref o0), (1, .int p0), (2, .int p1)]) hx hb dX12_turn_59 rfl hl (by decide) rfl (fun ls hl => ?_)
        refine lv_aload_n hx hb dX12_turn_60 rfl (lv_at hl 1 rfl) ?_
        refine tw_get hx hb hts bF_X12 hown hK hT hr_o0 shm_0 rfl 1 (by decide) (ht_at hts 2 rfl) (fun _ h9 => h9) dX12_turn_61 (fun v9 m65 h9 => ?_)
        obtain ⟨rfl, hg66⟩ := h9 _ rfl
        refine lv_iload_n hx hb dX12_turn_64 rfl (lv_at hl 2 rfl) ?_
        refine lv_bipush (v := 19) hx hb dX12_turn_65 (by decide) ?_
        have hFc := gA_free hG hA hS
        refine va_calli (va_runS (As := [.int p0, .int 19]) (rest := [.ref (q 1)]) ⟨hx, hb, hml, hown, hts⟩ (s_at l dC dI kA adK adV G H q wZ wN wH wB wC wL wK wU wV PI im PM PT lS lB lE lN p0 19 hT (by have q8 := ti_all p0; omega) (rg_t (a := 19) (by decide) (by first | decide | omega) (by first | decide | omega)) hgz hgn hgh hgb hgc hgi hgu) (va_cwS 2 hts (goodIn_app (goodIn_r _ [17, 18, 7] rfl (by decide +kernel)) (goodIn_ca (goodIn_r _ [16] rfl (by decide +kernel)) (bs_in _ _))) rfl rfl rfl (by decide +kernel) ⟨(Nat.le_of_ble_eq_true rfl), (Nat.le_of_ble_eq_true rfl)⟩) ⟨fun a U g mk q => by obtain ⟨q0, q1, qK, qE⟩ := q; exact ⟨q0, q1, va_K.moved (u := U) (U := U.calling g mk a) (Vm.Alike.refl U.vm) qK, EVS.blind g mk a qE⟩, fun U hU hW => ⟨rfl, hU, va_K.moved hW.alike hK, hE.call hS hFc hU hW⟩⟩ rfl rfl hl.1 rfl (lv_room (Nat.le_of_ble_eq_true rfl)) dX12_turn_67 ⟨(Nat.le_of_ble_eq_true rfl), (Nat.le_of_ble_eq_true rfl)⟩) hS (fun q _ h => hFc q h) hFc (fun r67 u t H locs ht hvm hw68 hB _ _ hS => ?_)
        obtain ⟨hT, hF1⟩ := hB
        rw [ht] at hT hF1
        have hF := hF.more hF1 (by decide)
        try dsimp only at hw68
        obtain ⟨h71, hf72⟩ := hw68
        have t73 : (19 : Int32).toInt = 19 := by decide
        refine lv_iload_n hx hb dX12_turn_70 rfl (lv_at hl 3 rfl) ?_
        refine lv_if_eq (tgt := 78) hx hb dX12_turn_71 (by decide) (fun c74 => ?_) (fun c74 => ?_)
        · have t75 : p1.toInt = 0 := ti_eq c74 rfl (by decide)
          refine lv_iconst (v := 0) hx hb dX12_turn_78 (by decide) ?_
          refine tw_iast (i := r67) (x := 0) hx hb hK hT hG hS hg20 shm_2 rfl (vin_t (a := r67.toInt) rfl (by omega) (by omega)) (w_wk0 (by have q9 := tn_of (show r67.toInt = r67.toInt from rfl) (show (0 : Int) ≤ r67.toInt from by omega); omega) (wX_o (by have q9 := tn_of (show r67.toInt = r67.toInt from rfl) (show (0 : Int) ≤ r67.toInt from by omega); omega) (by omega))) dX12_turn_79 (fun H locs hT oq m76 oi hS => ?_)
          have hF := hF.ast hg20 skm_2 oq (by decide)
          refine lv_aload_n hx hb dX12_turn_80 rfl (lv_at hl 1 rfl) ?_
          refine lv_iconst (v := 0) hx hb dX12_turn_81 (by decide) ?_
          refine tw_put (v := .int 0) (ty := .int) hx hb hts bF_X12 tyX12 tyX12_ok nmX12 hown hK hT hG hS hr_o0 shm_0 rfl 9 (by decide) (ht_at hts 21 rfl) (fun _ h9 => h9) rfl (by decide +kernel) rfl rfl (gl_at rfl (gi_of (show (0 : Int32).toInt = 0 from (by decide)) (by first | decide | omega) (by first | decide | omega))) dX12_turn_82 (fun H locs hT oq m78 oj hS => ?_)
          have hF := hF.put hr_o0 skm_0 oq oj (by decide)
          refine lv_iload_n hx hb dX12_turn_85 rfl (lv_at hl 0 rfl) ?_
          refine lv_iload_n hx hb dX12_turn_86 rfl (lv_at hl 3 rfl) ?_
          refine lv_icmp_eq (tgt := 94) hx hb dX12_turn_87 (by decide) (fun c81 => (by exfalso; have q9 : 1 = p1.toInt := ti_eq c81 (by decide) rfl; omega)) (fun c81 => ?_)
          have t82 : 1 ≠ p1.toInt := ti_ne c81 (by decide) rfl
          refine lv_iconst (v := 1) hx hb dX12_turn_90 (by decide) ?_
          refine lv_goto (tgt := 95) hx hb dX12_turn_91 (by decide) ?_
          exact W.zret (v := 1) hx hb hr (by decide) (fun t ht hW => ⟨⟨1, (), rfl, (by exact (rg_t (a := 1) (by decide) (by first | decide | omega) (by first | decide | omega))), by (try dsimp only); rw [ht]; exact ⟨hT, hF⟩⟩, hS.F ht⟩) hS.2.2 dX12_turn_95
        · have t83 : p1.toInt ≠ 0 := ti_ne c74 rfl (by decide)
          refine lv_iconst (v := 1) hx hb dX12_turn_74 (by decide) ?_
          refine lv_goto (tgt := 79) hx hb dX12_turn_75 (by decide) ?_
          refine tw_iast (i := r67) (x := 1) hx hb hK hT hG hS hg20 shm_2 rfl (vin_t (a := r67.toInt) rfl (by omega) (by omega)) (gp_of (gi_all _) (w_fre (by have q9 := tn_of (show r67.toInt = r67.toInt from rfl) (show (0 : Int) ≤ r67.toInt from by omega); omega)) (wX_o (by have q9 := tn_of (show r67.toInt = r67.toInt from rfl) (show (0 : Int) ≤ r67.toInt from by omega); omega) (by omega))) dX12_turn_79 (fun H locs hT oq m84 oi hS => ?_)
          have hF := hF.ast hg20 skm_2 oq (by decide)
          refine lv_aload_n hx hb dX12_turn_80 rfl (lv_at hl 1 rfl) ?_
          refine lv_iconst (v := 0) hx hb dX12_turn_81 (by decide) ?_
          refine tw_put (v := .int 0) (ty := .int) hx hb hts bF_X12 tyX12 tyX12_ok nmX12 hown hK hT hG hS hr_o0 shm_0 rfl 9 (by decide) (ht_at hts 21 rfl) (fun _ h9 => h9) rfl (by decide +kernel) rfl rfl (gl_at rfl (gi_of (show (0 : Int32).toInt = 0 from (by decide)) (by first | decide | omega) (by first | decide | omega))) dX12_turn_82 (fun H locs hT oq m86 oj hS => ?_)
          have hF := hF.put hr_o0 skm_0 oq oj (by decide)
          refine lv_iload_n hx hb dX12_turn_85 rfl (lv_at hl 0 rfl) ?_
          refine lv_iload_n hx hb dX12_turn_86 rfl (lv_at hl 3 rfl) ?_
          refine lv_icmp_eq (tgt := 94) hx hb dX12_turn_87 (by decide) (fun c89 => ?_) (fun c89 => (by exfalso; have q9 : 1 ≠ p1.toInt := ti_ne c89 (by decide) rfl; omega))
          have t90 : 1 = p1.toInt := ti_eq c89 (by decide) rfl
          refine lv_iconst (v := 0) hx hb dX12_turn_94 (by decide) ?_
          exact W.zret (v := 0) hx hb hr (by decide) (fun t ht hW => ⟨⟨0, (), rfl, (by exact (rg_t (a := 0) (by decide) (by first | decide | omega) (by first | decide | omega))), by (try dsimp only); rw [ht]; exact ⟨hT, hF⟩⟩, hS.F ht⟩) hS.2.2 dX12_turn_95
    · have t91 : r16.toInt < 3 := ti_nle c22 (by decide) rfl
      refine lv_iconst (v := 1) hx hb dX12_turn_29 (by decide) ?_
      refine lv_goto (tgt := 34) hx hb dX12_turn_30 (by decide) ?_
      refine lv_iconst (v := 2) hx hb dX12_turn_34 (by decide) ?_
      have hFc := gA_free hG hA hS
      refine va_calli (va_runV (As := [.int 1, .int 2]) (rest := []) ⟨hx, hb, hml, hown, hts⟩ (s_throwsIf l dC dI kA adK adV G H q wZ wN wH wB wC wL wK wU wV PI im PM PT lS lB lE lN o0 1 2 hT hr_o0 (rg_t (a := 1) (by decide) (by first | decide | omega) (by first | decide | omega)) hgz hgn hgh hgb hgc hgi hgu) (cwV 2 hts (goodIn_app (goodIn_r _ [12, 13, 14, 7] rfl (by decide +kernel)) (goodIn_ca (goodIn_r _ [11, 1] rfl (by decide +kernel)) (bs_in _ _))) rfl rfl rfl (by decide +kernel) ⟨(Nat.le_of_ble_eq_true rfl), (Nat.le_of_ble_eq_true rfl)⟩) ⟨fun a U g mk q => by obtain ⟨q0, q1, qK, qE⟩ := q; exact ⟨q0, q1, va_K.moved (u := U) (U := U.calling g mk a) (Vm.Alike.refl U.vm) qK, EVS.blind g mk a qE⟩, gH_rc hK hT hr_o0 shm_0 rfl, fun U hU hW => ⟨rfl, hU, va_K.moved hW.alike hK, hE.call hS hFc hU hW⟩⟩ rfl rfl hl.1 rfl (lv_room (Nat.le_of_ble_eq_true rfl)) dX12_turn_35 ⟨(Nat.le_of_ble_eq_true rfl), (Nat.le_of_ble_eq_true rfl)⟩) hS (fun q _ h => hFc q h) hFc (fun r92 u t H locs ht hvm hw93 hB _ _ hS => ?_)
      obtain ⟨hT, hF1⟩ := hB
      rw [ht] at hT hF1
      have hF := hF.more hF1 (by decide)
      try dsimp only at hw93
      obtain ⟨h95, hd96⟩ := hw93
      obtain rfl : (1 : Int32) = r92 := hd96.symm
      refine lv_if_eq (tgt := 43) hx hb dX12_turn_38 (by decide) (fun c97 => absurd c97 (by decide)) (fun c97 => ?_)
      refine lv_iconst (v := 0) hx hb dX12_turn_41 (by decide) ?_
      exact W.zret (v := 0) hx hb hr (by decide) (fun t ht hW => ⟨⟨0, (), rfl, (by exact (rg_t (a := 0) (by decide) (by first | decide | omega) (by first | decide | omega))), by (try dsimp only); rw [ht]; exact ⟨hT, hF⟩⟩, hS.F ht⟩) hS.2.2 dX12_turn_42
def w_s_worth : List Cond := .code yX12_worth cX12_worth 2 (some .int) :: (HAppend.hAppend (α := List Cond) (β := List Cond) (γ := List Cond) [.fieldLink RX12 194 "SeaLandModel" "thrown" "I", .code yX12_noFarm cX12_noFarm 2 (some .boolean), .fieldLink RX12 498 "SeaLandModel" "farms" "I", .code yX12_in cX12_in 3 (some .boolean), .methodLink RX12 197 yX12_in, .static yX12_in, .initialized RX12, .methodLink RX12 502 yX12_noFarm, .instanceMethod yX12_noFarm, .selects RX12 yX12_noFarm yX12_noFarm, .code yX12_throwsIf cX12_throwsIf 3 (some .boolean), .methodLink RX12 224 yX12_throwsIf, .instanceMethod yX12_throwsIf, .selects RX12 yX12_throwsIf yX12_throwsIf, .code yX12_worthOf cX12_worthOf 5 (some .int), .fieldLink RX12 113 "SeaLandModel" "farmFrom" "[I", .fieldLink RX12 116 "SeaLandModel" "farmTo" "[I", .code yX12_isIn cX12_isIn 5 (some .boolean), .methodLink RX12 207 Lib.Math.min.name, .static Lib.Math.min.name, .initialized "java/lang/Math", .code Lib.Math.min.name Lib.Math.min.code 2 (some .int), .methodLink RX12 211 Lib.Math.max.name, .static Lib.Math.max.name, .code Lib.Math.max.name Lib.Math.max.code 2 (some .int), .methodLink RX12 232 yX12_isIn, .static yX12_isIn, .fieldLink RX12 9 "SeaLandModel" "world" "[I", .methodLink RX12 505 yX12_worthOf, .instanceMethod yX12_worthOf, .selects RX12 yX12_worthOf yX12_worthOf] bs)
set_option maxHeartbeats 4000000 in
set_option maxRecDepth 100000 in
theorem s_worth (l : Launch) (dC : Nat → ClassId) (dI : Nat → Nat → Nat) (kA : Nat → ClassId) (adK adV : Nat → Nat) (G : gT) (H0 : Heap) (q : Nat → Nat) (wZ wN : Nat → Int) (wH wB wC : Int) (wL wK : Nat → Prop) (wU wV : Nat → Nat) (PI : Nat → Int → Prop) (im : Int) (PM PT : Nat → Int → Prop) (lS lB lE : Nat → Nat → Int → Prop) (lN : Nat → Int) (o0 : Nat) (p0 : Int32)  (hT : gH (dC, dI) kA (SHm q (wP wZ wN wH wB wC wL wK wU wV) PI im PM PT lS lB lE lN) G H0) (hr_o0 : G o0 = some 0) (hgz : ∀ i, 0 ≤ wZ i) (hgn : ∀ i, 6500000 ≤ wN i ∧ wN i ≤ 20200000) (hgh : 0 ≤ wH ∧ wH ≤ 40000) (hgb : 0 ≤ wB ∧ wB ≤ 3850000) (hgc : 0 ≤ wC ∧ wC ≤ 30) (hgi : 0 ≤ im ∧ im ≤ 1) (hgu : ∀ a t, G a = some (t + 1) → a = q t) : Met l yX12_worth w_s_worth ({ frames := 3, cells := 0, slots := 0, locals := 88 }) (va_Pc [.ref o0, .int p0] (fun U => U.heap = H0 ∧ va_K (dC, dI) vwCl (tyl kA) U ∧ EVS adK adV (gA G H0.size) U U.heap)) (va_Qi (fun (r : Int32) (u : Unit) => True) (fun (_ : Unit) (t : State) => gH (dC, dI) kA (SHm q (wP wZ wN wH wB wC wL wK wU wV) PI im PM PT lS lB lE lN) G t.heap ∧ gF (dC, dI) SKm G ([(0, 0)] : List (Nat × Nat)) H0 t.heap) (gA G H0.size)) 0 0 (gA G H0.size) := by
  refine Met.ofW (cc := cX12_worth) (maxL := 2) (ret := (some .int)) (by decide) rfl ?_
  intro p e s m args below meth c s₁ B hml hv
  obtain ⟨rfl, hH0, hK, hE⟩ := hv
  have hx := B.exec
  have hb := B.bytes
  have hr := B.returns
  have hts := atoms_spec (ws := w_s_worth) B.pre
  have hown : s.vm.findClass RX12 = some m.cls := findClass_of_methodNamed B.named
  have hlocks := B.notSynchronized
  subst hH0
  generalize hAe : gA G s.heap.size = A at hE ⊢
  have hA : ∀ q : Nat, s.heap.size ≤ q → A q := fun q h => by rw [← hAe]; exact Or.inr h
  have hG := gA_of hAe
  have hS : va_S A s.heap s.heap [] := va_S.rf
  have hF : gF (dC, dI) SKm G ([(0, 0)] : List (Nat × Nat)) s.heap s.heap := gF.rf
  have hl := lv_entry ([.ref o0, .int p0]) (n := 2) (Nat.le_of_ble_eq_true rfl)
  rw [lg_entry_eq]
  generalize (lg_sl ([.ref o0, .int p0]) ++ List.replicate (2 - (lg_sl ([.ref o0, .int p0])).length) Slot.unset).toArray = ls at hl ⊢
  have hl : lv_has ls 2 [(0, .ref o0), (1, .int p0)] := hl
  refine lv_aload_n hx hb dX12_worth_0 rfl (lv_at hl 0 rfl) ?_
  refine lv_iconst (v := 0) hx hb dX12_worth_1 (by decide) ?_
  refine tw_put (v := .int 0) (ty := .int) hx hb hts bF_X12 tyX12 tyX12_ok nmX12 hown hK hT hG hS hr_o0 shm_0 rfl 0 (by decide) (ht_at hts 0 rfl) (fun _ h9 => h9) rfl (by decide +kernel) rfl rfl (gl_at rfl (gi_all _)) dX12_worth_2 (fun H locs hT oq m1 oj hS => ?_)
  have hF := hF.put hr_o0 skm_0 oq oj (by decide)
  refine lv_aload_n hx hb dX12_worth_5 rfl (lv_at hl 0 rfl) ?_
  refine lv_aload_n hx hb dX12_worth_6 rfl (lv_at hl 0 rfl) ?_
  refine lv_iload_n hx hb dX12_worth_7 rfl (lv_at hl 1 rfl) ?_
  have hFc := gA_free hG hA hS
  refine va_calli (va_runV (As := [.int p0]) (rest := [.ref o0]) ⟨hx, hb, hml, hown, hts⟩ (s_noFarm l dC dI kA adK adV G H q wZ wN wH wB wC wL wK wU wV PI im PM PT lS lB lE lN o0 p0 hT hr_o0 hgz hgn hgh hgb hgc hgi hgu) (cwV 1 hts (goodIn_app (goodIn_r _ [8, 9, 10, 7] rfl (by decide +kernel)) (goodIn_ca (goodIn_r _ [2, 3, 4, 5, 6, 7] rfl (by decide +kernel)) (bs_in _ _))) rfl rfl rfl (by decide +kernel) ⟨(Nat.le_of_ble_eq_true rfl), (Nat.le_of_ble_eq_true rfl)⟩) ⟨fun a U g mk q => by obtain ⟨q0, q1, qK, qE⟩ := q; exact ⟨q0, q1, va_K.moved (u := U) (U := U.calling g mk a) (Vm.Alike.refl U.vm) qK, EVS.blind g mk a qE⟩, gH_rc hK hT hr_o0 shm_0 rfl, fun U hU hW => ⟨rfl, hU, va_K.moved hW.alike hK, hE.call hS hFc hU hW⟩⟩ rfl rfl hl.1 rfl (lv_room (Nat.le_of_ble_eq_true rfl)) dX12_worth_8 ⟨(Nat.le_of_ble_eq_true rfl), (Nat.le_of_ble_eq_true rfl)⟩) hS (fun q _ h => hFc q h) hFc (fun r2 u t H locs ht hvm hw3 hB _ _ hS => ?_)
  obtain ⟨hT, hF1⟩ := hB
  rw [ht] at hT hF1
  have hF := hF.more hF1 (by decide)
  try dsimp only at hw3
  obtain ⟨h5, hi6⟩ := hw3
  refine lv_iconst (v := 1) hx hb dX12_worth_11 (by decide) ?_
  have hFc := gA_free hG hA hS
  refine va_calli (va_runV (As := [.int r2, .int 1]) (rest := []) ⟨hx, hb, hml, hown, hts⟩ (s_throwsIf l dC dI kA adK adV G H q wZ wN wH wB wC wL wK wU wV PI im PM PT lS lB lE lN o0 r2 1 hT hr_o0 (by have q8 := ti_all r2; omega) hgz hgn hgh hgb hgc hgi hgu) (cwV 2 hts (goodIn_app (goodIn_r _ [12, 13, 14, 7] rfl (by decide +kernel)) (goodIn_ca (goodIn_r _ [11, 1] rfl (by decide +kernel)) (bs_in _ _))) rfl rfl rfl (by decide +kernel) ⟨(Nat.le_of_ble_eq_true rfl), (Nat.le_of_ble_eq_true rfl)⟩) ⟨fun a U g mk q => by obtain ⟨q0, q1, qK, qE⟩ := q; exact ⟨q0, q1, va_K.moved (u := U) (U := U.calling g mk a) (Vm.Alike.refl U.vm) qK, EVS.blind g mk a qE⟩, gH_rc hK hT hr_o0 shm_0 rfl, fun U hU hW => ⟨rfl, hU, va_K.moved hW.alike hK, hE.call hS hFc hU hW⟩⟩ rfl rfl hl.1 rfl (lv_room (Nat.le_of_ble_eq_true rfl)) dX12_worth_12 ⟨(Nat.le_of_ble_eq_true rfl), (Nat.le_of_ble_eq_true rfl)⟩) hS (fun q _ h => hFc q h) hFc (fun r7 u t H locs ht hvm hw8 hB _ _ hS => ?_)
  obtain ⟨hT, hF1⟩ := hB
  rw [ht] at hT hF1
  have hF := hF.more hF1 (by decide)
  try dsimp only at hw8
  obtain ⟨h10, hd11⟩ := hw8
  obtain rfl : r2 = r7 := hd11.symm
  refine lv_if_eq (tgt := 22) hx hb dX12_worth_15 (by decide) (fun c12 => ?_) (fun c12 => ?_)
  · have t13 : r2.toInt = 0 := ti_eq c12 rfl (by decide)
    have t14 : 0 ≤ p0.toInt ∧ p0.toInt ≤ 29 := hi6 c12
    refine lv_aload_n hx hb dX12_worth_22 rfl (lv_at hl 0 rfl) ?_
    refine lv_iload_n hx hb dX12_worth_23 rfl (lv_at hl 1 rfl) ?_
    have hFc := gA_free hG hA hS
    refine va_calli (va_runV (As := [.int p0]) (rest := []) ⟨hx, hb, hml, hown, hts⟩ (s_worthOf l dC dI kA adK adV G H q wZ wN wH wB wC wL wK wU wV PI im PM PT lS lB lE lN o0 p0 hT hr_o0 (by have q8 := ti_all p0; omega) hgz hgn hgh hgb hgc hgi hgu) (cwV 1 hts (goodIn_app (goodIn_r _ [29, 30, 31, 7] rfl (by decide +kernel)) (goodIn_ca (goodIn_r _ [15, 16, 17, 18, 19, 20, 21, 22, 23, 24, 25, 4, 5, 6, 7, 26, 27, 28] rfl (by decide +kernel)) (bs_in _ _))) rfl rfl rfl (by decide +kernel) ⟨(Nat.le_of_ble_eq_true rfl), (Nat.le_of_ble_eq_true rfl)⟩) ⟨fun a U g mk q => by obtain ⟨q0, q1, qK, qE⟩ := q; exact ⟨q0, q1, va_K.moved (u := U) (U := U.calling g mk a) (Vm.Alike.refl U.vm) qK, EVS.blind g mk a qE⟩, gH_rc hK hT hr_o0 shm_0 rfl, fun U hU hW => ⟨rfl, hU, va_K.moved hW.alike hK, hE.call hS hFc hU hW⟩⟩ rfl rfl hl.1 rfl (lv_room (Nat.le_of_ble_eq_true rfl)) dX12_worth_24 ⟨(Nat.le_of_ble_eq_true rfl), (Nat.le_of_ble_eq_true rfl)⟩) hS (fun q _ h => hFc q h) hFc (fun r15 u t H locs ht hvm hw16 hB _ _ hS => ?_)
    obtain ⟨hT, hF1⟩ := hB
    rw [ht] at hT hF1
    have hF := hF.more hF1 (by decide)
    try dsimp only at hw16
    exact W.iret (v := r15) hx hb hr (fun t ht hW => ⟨⟨r15, (), rfl, (by exact trivial), by (try dsimp only); rw [ht]; exact ⟨hT, hF⟩⟩, hS.F ht⟩) hS.2.2 dX12_worth_27
  · have t17 : r2.toInt ≠ 0 := ti_ne c12 rfl (by decide)
    refine lv_iconst (v := 0) hx hb dX12_worth_18 (by decide) ?_
    refine lv_goto (tgt := 27) hx hb dX12_worth_19 (by decide) ?_
    exact W.iret (v := 0) hx hb hr (fun t ht hW => ⟨⟨0, (), rfl, (by exact trivial), by (try dsimp only); rw [ht]; exact ⟨hT, hF⟩⟩, hS.F ht⟩) hS.2.2 dX12_worth_27
def w_s_count : List Cond := .code yX12_count cX12_count 4 (some .int) :: (HAppend.hAppend (α := List Cond) (β := List Cond) (γ := List Cond) [.fieldLink RX12 194 "SeaLandModel" "thrown" "I", .code yX12_hour cX12_hour 1 (some .int), .fieldLink RX12 9 "SeaLandModel" "world" "[I", .methodLink RX12 228 yX12_hour, .instanceMethod yX12_hour, .selects RX12 yX12_hour yX12_hour, .initialized RX12, .code yX12_of cX12_of 3 (some .int), .code yX12_at cX12_at 2 (some .int), .methodLink RX12 214 yX12_at, .static yX12_at, .methodLink RX12 217 yX12_of, .instanceMethod yX12_of, .selects RX12 yX12_of yX12_of, .code yX12_sumLand cX12_sumLand 4 (some .int), .methodLink RX12 563 yX12_sumLand, .instanceMethod yX12_sumLand, .selects RX12 yX12_sumLand yX12_sumLand, .fieldLink RX12 42 "SeaLandModel" "lines" "[I", .fieldLink RX12 495 "SeaLandModel" "settlers" "I", .code yX12_holders cX12_holders 3 (some .int), .fieldLink RX12 101 "SeaLandModel" "holds" "[I", .methodLink RX12 460 yX12_holders, .instanceMethod yX12_holders, .selects RX12 yX12_holders yX12_holders, .fieldLink RX12 498 "SeaLandModel" "farms" "I", .fieldLink RX12 519 "SeaLandModel" "board" "I", .fieldLink RX12 107 "SeaLandModel" "owes" "[I", .fieldLink RX12 533 "SeaLandModel" "contracts" "I", .fieldLink RX12 238 "SeaLandModel" "rows" "I"] bs)
set_option maxHeartbeats 4000000 in
set_option maxRecDepth 100000 in
theorem s_count (l : Launch) (dC : Nat → ClassId) (dI : Nat → Nat → Nat) (kA : Nat → ClassId) (adK adV : Nat → Nat) (G : gT) (H0 : Heap) (q : Nat → Nat) (wZ wN : Nat → Int) (wH wB wC : Int) (wL wK : Nat → Prop) (wU wV : Nat → Nat) (PI : Nat → Int → Prop) (im : Int) (PM PT : Nat → Int → Prop) (lS lB lE : Nat → Nat → Int → Prop) (lN : Nat → Int) (o0 : Nat) (p0 : Int32)  (hT : gH (dC, dI) kA (SHm q (wP wZ wN wH wB wC wL wK wU wV) PI im PM PT lS lB lE lN) G H0) (hr_o0 : G o0 = some 0) (hgz : ∀ i, 0 ≤ wZ i) (hgn : ∀ i, 6500000 ≤ wN i ∧ wN i ≤ 20200000) (hgh : 0 ≤ wH ∧ wH ≤ 40000) (hgb : 0 ≤ wB ∧ wB ≤ 3850000) (hgc : 0 ≤ wC ∧ wC ≤ 30) (hgi : 0 ≤ im ∧ im ≤ 1) (hgu : ∀ a t, G a = some (t + 1) → a = q t) : Met l yX12_count w_s_count ({ frames := 2, cells := 0, slots := 0, locals := 43 }) (va_Pc [.ref o0, .int p0] (fun U => U.heap = H0 ∧ va_K (dC, dI) vwCl (tyl kA) U ∧ EVS adK adV (gA G H0.size) U U.heap)) (va_Qi (fun (r : Int32) (u : Unit) => True) (fun (_ : Unit) (t : State) => gH (dC, dI) kA (SHm q (wP wZ wN wH wB wC wL wK wU wV) PI im PM PT lS lB lE lN) G t.heap ∧ gF (dC, dI) SKm G ([(0, 0)] : List (Nat × Nat)) H0 t.heap) (gA G H0.size)) 0 0 (gA G H0.size) := by
  refine Met.ofW (cc := cX12_count) (maxL := 4) (ret := (some .int)) (by decide) rfl ?_
  intro p e s m args below meth c s₁ B hml hv
  obtain ⟨rfl, hH0, hK, hE⟩ := hv
  have hx := B.exec
  have hb := B.bytes
  have hr := B.returns
  have hts := atoms_spec (ws := w_s_count) B.pre
  have hown : s.vm.findClass RX12 = some m.cls := findClass_of_methodNamed B.named
  have hlocks := B.notSynchronized
  subst hH0
  generalize hAe : gA G s.heap.size = A at hE ⊢
  have hA : ∀ q : Nat, s.heap.size ≤ q → A q := fun q h => by rw [← hAe]; exact Or.inr h
  have hG := gA_of hAe
  have hS : va_S A s.heap s.heap [] := va_S.rf
  have hF : gF (dC, dI) SKm G ([(0, 0)] : List (Nat × Nat)) s.heap s.heap := gF.rf
  have hl := lv_entry ([.ref o0, .int p0]) (n := 4) (Nat.le_of_ble_eq_true rfl)
  rw [lg_entry_eq]
  generalize (lg_sl ([.ref o0, .int p0]) ++ List.replicate (4 - (lg_sl ([.ref o0, .int p0])).length) Slot.unset).toArray = ls at hl ⊢
  have hl : lv_has ls 4 [(0, .ref o0), (1, .int p0)] := hl
  refine lv_aload_n hx hb dX12_count_0 rfl (lv_at hl 0 rfl) ?_
  refine lv_iconst (v := 0) hx hb dX12_count_1 (by decide) ?_
  refine tw_put (v := .int 0) (ty := .int) hx hb hts bF_X12 tyX12 tyX12_ok nmX12 hown hK hT hG hS hr_o0 shm_0 rfl 0 (by decide) (ht_at hts 0 rfl) (fun _ h9 => h9) rfl (by decide +kernel) rfl rfl (gl_at rfl (gi_all _)) dX12_count_2 (fun H locs hT oq m1 oj hS => ?_)
  have hF := hF.put hr_o0 skm_0 oq oj (by decide)
  refine lv_iconst (v := 0) hx hb dX12_count_5 (by decide) ?_
  refine lv_istore_n (lv' := [(2, .int 0), (0, .ref o0), (1, .int p0)]) hx hb dX12_count_6 rfl hl (by decide) rfl (fun ls hl => ?_)
  refine lv_iload_n hx hb dX12_count_7 rfl (lv_at hl 2 rfl) ?_
  by_cases hs2 : p0 = 0
  · subst hs2
    refine lv_tableIn (x := 0) (off := 88) (tgt := 96) hx hb dX12_count_8 (by decide) (by decide) (by decide) (by decide) ?_
    refine lv_aload_n hx hb dX12_count_96 rfl (lv_at hl 1 rfl) ?_
    have hFc := gA_free hG hA hS
    refine va_calli (va_runV (As := []) (rest := []) ⟨hx, hb, hml, hown, hts⟩ (s_hour l dC dI kA adK adV G H q wZ wN wH wB wC wL wK wU wV PI im PM PT lS lB lE lN o0 hT hr_o0 hgz hgn hgh hgb hgc hgi hgu) (cwV 0 hts (goodIn_app (goodIn_r _ [4, 5, 6, 7] rfl (by decide +kernel)) (goodIn_ca (goodIn_r _ [2, 3] rfl (by decide +kernel)) (bs_in _ _))) rfl rfl rfl (by decide +kernel) ⟨(Nat.le_of_ble_eq_true rfl), (Nat.le_of_ble_eq_true rfl)⟩) ⟨fun a U g mk q => by obtain ⟨q0, q1, qK, qE⟩ := q; exact ⟨q0, q1, va_K.moved (u := U) (U := U.calling g mk a) (Vm.Alike.refl U.vm) qK, EVS.blind g mk a qE⟩, gH_rc hK hT hr_o0 shm_0 rfl, fun U hU hW => ⟨rfl, hU, va_K.moved hW.alike hK, hE.call hS hFc hU hW⟩⟩ rfl rfl hl.1 rfl (lv_room (Nat.le_of_ble_eq_true rfl)) dX12_count_97 ⟨(Nat.le_of_ble_eq_true rfl), (Nat.le_of_ble_eq_true rfl)⟩) hS (fun q _ h => hFc q h) hFc (fun r3 u t H locs ht hvm hw4 hB _ _ hS => ?_)
    obtain ⟨hT, hF1⟩ := hB
    rw [ht] at hT hF1
    have hF := hF.more hF1 (by decide)
    try dsimp only at hw4
    obtain ⟨h6, hf7⟩ := hw4
    exact W.iret (v := r3) hx hb hr (fun t ht hW => ⟨⟨r3, (), rfl, (by exact trivial), by (try dsimp only); rw [ht]; exact ⟨hT, hF⟩⟩, hS.F ht⟩) hS.2.2 dX12_count_100
  by_cases hs8 : p0 = 1
  · subst hs8
    refine lv_tableIn (x := 1) (off := 93) (tgt := 101) hx hb dX12_count_8 (by decide) (by decide) (by decide) (by decide) ?_
    refine lv_aload_n hx hb dX12_count_101 rfl (lv_at hl 1 rfl) ?_
    have hFc := gA_free hG hA hS
    refine va_calli (va_runV (As := []) (rest := []) ⟨hx, hb, hml, hown, hts⟩ (s_hour l dC dI kA adK adV G H q wZ wN wH wB wC wL wK wU wV PI im PM PT lS lB lE lN o0 hT hr_o0 hgz hgn hgh hgb hgc hgi hgu) (cwV 0 hts (goodIn_app (goodIn_r _ [4, 5, 6, 7] rfl (by decide +kernel)) (goodIn_ca (goodIn_r _ [2, 3] rfl (by decide +kernel)) (bs_in _ _))) rfl rfl rfl (by decide +kernel) ⟨(Nat.le_of_ble_eq_true rfl), (Nat.le_of_ble_eq_true rfl)⟩) ⟨fun a U g mk q => by obtain ⟨q0, q1, qK, qE⟩ := q; exact ⟨q0, q1, va_K.moved (u := U) (U := U.calling g mk a) (Vm.Alike.refl U.vm) qK, EVS.blind g mk a qE⟩, gH_rc hK hT hr_o0 shm_0 rfl, fun U hU hW => ⟨rfl, hU, va_K.moved hW.alike hK, hE.call hS hFc hU hW⟩⟩ rfl rfl hl.1 rfl (lv_room (Nat.le_of_ble_eq_true rfl)) dX12_count_102 ⟨(Nat.le_of_ble_eq_true rfl), (Nat.le_of_ble_eq_true rfl)⟩) hS (fun q _ h => hFc q h) hFc (fun r9 u t H locs ht hvm hw10 hB _ _ hS => ?_)
    obtain ⟨hT, hF1⟩ := hB
    rw [ht] at hT hF1
    have hF := hF.more hF1 (by decide)
    try dsimp only at hw10
    obtain ⟨h12, hf13⟩ := hw10
    refine lv_bipush (v := 24) hx hb dX12_count_105 (by decide) ?_
    refine lv_idiv hx hb dX12_count_107 (by decide) ?_
    refine lv_topi (fun x14 ex14 => ?_)
    have t15 : x14.toInt = r9.toInt / 24 := ti_div ex14 rfl (by decide) (by omega) (by omega)
    exact W.iret (v := x14) hx hb hr (fun t ht hW => ⟨⟨x14, (), rfl, (by exact trivial), by (try dsimp only); rw [ht]; exact ⟨hT, hF⟩⟩, hS.F ht⟩) hS.2.2 dX12_count_108
  by_cases hs16 : p0 = 2
  · subst hs16
    refine lv_tableIn (x := 2) (off := 101) (tgt := 109) hx hb dX12_count_8 (by decide) (by decide) (by decide) (by decide) ?_
    refine lv_aload_n hx hb dX12_count_109 rfl (lv_at hl 1 rfl) ?_
    refine tw_get hx hb hts bF_X12 hown hK hT hr_o0 shm_0 rfl 1 (by decide) (ht_at hts 2 rfl) (fun _ h9 => h9) dX12_count_110 (fun v9 m17 h9 => ?_)
    obtain ⟨rfl, hg18⟩ := h9 _ rfl
    refine lv_sipush (v := 1428) hx hb dX12_count_113 (by decide) ?_
    refine tw_iald (i := 1428) hx hb hK hT hg18 shm_2 rfl (by unfold vp_in; decide) dX12_count_116 (fun v9 m19 h9 => ?_)
    obtain ⟨x20, rfl, gx20, kx20⟩ := (gp_at h9 (w_wct (by have q9 := tn_of (show (1428 : Int32).toInt = 1428 from (by decide)) (show (0 : Int) ≤ 1428 from by omega); omega)))
    exact W.iret (v := x20) hx hb hr (fun t ht hW => ⟨⟨x20, (), rfl, (by exact trivial), by (try dsimp only); rw [ht]; exact ⟨hT, hF⟩⟩, hS.F ht⟩) hS.2.2 dX12_count_117
  by_cases hs21 : p0 = 3
  · subst hs21
    refine lv_tableIn (x := 3) (off := 110) (tgt := 118) hx hb dX12_count_8 (by decide) (by decide) (by decide) (by decide) ?_
    refine lv_iconst (v := 0) hx hb dX12_count_118 (by decide) ?_
    refine lv_istore_n (lv' := [(3, .int 0), (2, .int 0), (0, .ref o0), (1, .int 3)]) hx hb dX12_count_119 rfl hl (by decide) rfl (fun ls hl => ?_)
    have key47 : ∀ (n47 i22 : Nat), i22 + n47 = 30 → 0 ≤ i22 → ∀ (z23 : Int32), ∀ (H : Heap) (locs : List Loc), gH (dC, dI) kA (SHm q (wP wZ wN wH wB wC wL wK wU wV) PI im PM PT lS lB lE lN) G H → gF (dC, dI) SKm G ([(0, 0)] : List (Nat × Nat)) s.heap H → va_S A s.heap H locs → el H o0 (dI 15 0) = some (.int 0) → ∀ ls : Array Slot, lv_has ls 4 [(3, .int (nI i22)), (2, .int z23), (0, .ref o0), (1, .int 3)] → W p l e (headSpec w_s_count ({ frames := 2, cells := 0, slots := 0, locals := 43 })).room s m #[.ref o0, .int (3 : Int32)] below meth c H locs 0 0 (MQ below (va_Qi (fun (r : Int32) (u : Unit) => True) (fun (_ : Unit) (t : State) => gH (dC, dI) kA (SHm q (wP wZ wN wH wB wC wL wK wU wV) PI im PM PT lS lB lE lN) G t.heap ∧ gF (dC, dI) SKm G ([(0, 0)] : List (Nat × Nat)) s.heap t.heap) A) #[.ref o0, .int (3 : Int32)] s 0 0 A) (F0 m 120 ls []) := by
      intro n47
      induction n47 with
      | zero =>
        intro i22 hn47 hlo48 z23 H locs hT hF hS m24 ls hl
        obtain rfl : 30 = i22 := by omega
        refine lv_iload_n hx hb dX12_count_120 rfl (lv_at hl 0 rfl) ?_
        refine lv_aload_n hx hb dX12_count_121 rfl (lv_at hl 2 rfl) ?_
        refine tw_get hx hb hts bF_X12 hown hK hT hr_o0 shm_0 rfl 1 (by decide) (ht_at hts 2 rfl) (fun _ h9 => h9) dX12_count_122 (fun v9 m49 h9 => ?_)
        obtain ⟨rfl, hg50⟩ := h9 _ rfl
        refine lv_sipush (v := 1428) hx hb dX12_count_125 (by decide) ?_
        refine tw_iald (i := 1428) hx hb hK hT hg50 shm_2 rfl (by unfold vp_in; decide) dX12_count_128 (fun v9 m51 h9 => ?_)
        obtain ⟨x52, rfl, gx52, kx52⟩ := (gp_at h9 (w_wct (by have q9 := tn_of (show (1428 : Int32).toInt = 1428 from (by decide)) (show (0 : Int) ≤ 1428 from by omega); omega)))
        refine lv_icmp_ge (tgt := 156) hx hb dX12_count_129 (by decide) (fun c53 => ?_) (fun c53 => (by exfalso; have q9 : ((30 : Nat) : Int) < x52.toInt := ti_nle c53 rfl (nI_toInt (by omega)); omega))
        have t54 : x52.toInt ≤ ((30 : Nat) : Int) := ti_le c53 rfl (nI_toInt (by omega))
        refine lv_iload_n hx hb dX12_count_156 rfl (lv_at hl 1 rfl) ?_
        exact W.iret (v := z23) hx hb hr (fun t ht hW => ⟨⟨z23, (), rfl, (by exact trivial), by (try dsimp only); rw [ht]; exact ⟨hT, hF⟩⟩, hS.F ht⟩) hS.2.2 dX12_count_157
      | succ n47 ih47 =>
        intro i22 hn47 hlo48 z23 H locs hT hF hS m24 ls hl
        have hlt54 : i22 < 30 := by omega
        refine lv_iload_n hx hb dX12_count_120 rfl (lv_at hl 0 rfl) ?_
        refine lv_aload_n hx hb dX12_count_121 rfl (lv_at hl 2 rfl) ?_
        refine tw_get hx hb hts bF_X12 hown hK hT hr_o0 shm_0 rfl 1 (by decide) (ht_at hts 2 rfl) (fun _ h9 => h9) dX12_count_122 (fun v9 m55 h9 => ?_)
        obtain ⟨rfl, hg56⟩ := h9 _ rfl
        refine lv_sipush (v := 1428) hx hb dX12_count_125 (by decide) ?_
        refine tw_iald (i := 1428) hx hb hK hT hg56 shm_2 rfl (by unfold vp_in; decide) dX12_count_128 (fun v9 m57 h9 => ?_)
        obtain ⟨x58, rfl, gx58, kx58⟩ := (gp_at h9 (w_wct (by have q9 := tn_of (show (1428 : Int32).toInt = 1428 from (by decide)) (show (0 : Int) ≤ 1428 from by omega); omega)))
        refine lv_icmp_ge (tgt := 156) hx hb dX12_count_129 (by decide) (fun c59 => ?_) (fun c59 => ?_)
        · have t60 : x58.toInt ≤ ((i22 : Nat) : Int) := ti_le c59 rfl (nI_toInt (by omega))
          refine lv_iload_n hx hb dX12_count_156 rfl (lv_at hl 1 rfl) ?_
          exact W.iret (v := z23) hx hb hr (fun t ht hW => ⟨⟨z23, (), rfl, (by exact trivial), by (try dsimp only); rw [ht]; exact ⟨hT, hF⟩⟩, hS.F ht⟩) hS.2.2 dX12_count_157
        · have t61 : ((i22 : Nat) : Int) < x58.toInt := ti_nle c59 rfl (nI_toInt (by omega))
          refine lv_iload_n hx hb dX12_count_132 rfl (lv_at hl 1 rfl) ?_
          refine lv_aload_n hx hb dX12_count_133 rfl (lv_at hl 2 rfl) ?_
          refine lv_iload_n hx hb dX12_count_134 rfl (lv_at hl 0 rfl) ?_
          refine lv_iconst (v := 0) hx hb dX12_count_135 (by decide) ?_
          have hFc := gA_free hG hA hS
          refine va_calli (va_runV (As := [.int (nI i22), .int 0]) (rest := [.int z23]) ⟨hx, hb, hml, hown, hts⟩ (s_of0 l dC dI kA adK adV G H q wZ wN wH wB wC wL wK wU wV PI im PM PT lS lB lE lN o0 (nI i22) hT hr_o0 (rg_t (a := ((i22 : Nat) : Int)) (nI_toInt (by omega)) (by omega) (by omega)) hgz hgn hgh hgb hgc hgi hgu) (cwV 2 hts (goodIn_app (goodIn_r _ [12, 13, 14, 7] rfl (by decide +kernel)) (goodIn_ca (goodIn_r _ [8, 3, 9, 10, 11, 7] rfl (by decide +kernel)) (bs_in _ _))) rfl rfl rfl (by decide +kernel) ⟨(Nat.le_of_ble_eq_true rfl), (Nat.le_of_ble_eq_true rfl)⟩) ⟨fun a U g mk q => by obtain ⟨q0, q1, qK, qE⟩ := q; exact ⟨q0, q1, va_K.moved (u := U) (U := U.calling g mk a) (Vm.Alike.refl U.vm) qK, EVS.blind g mk a qE⟩, gH_rc hK hT hr_o0 shm_0 rfl, fun U hU hW => ⟨rfl, hU, va_K.moved hW.alike hK, hE.call hS hFc hU hW⟩⟩ rfl rfl hl.1 rfl (lv_room (Nat.le_of_ble_eq_true rfl)) dX12_count_136 ⟨(Nat.le_of_ble_eq_true rfl), (Nat.le_of_ble_eq_true rfl)⟩) hS (fun q _ h => hFc q h) hFc (fun r62 u t H locs ht hvm hw63 hB _ _ hS => ?_)
          obtain ⟨hT, hF1⟩ := hB
          rw [ht] at hT hF1
          have m64 := (hF1.fld hr_o0 skm_0 (k := 0) (by decide) (by decide)).trans m24
          have hF := hF.more hF1 (by decide)
          try dsimp only at hw63
          have ⟨ix66, hix66, m67⟩ := hw63
          have t68 : (nI i22).toInt = ((i22 : Nat) : Int) := nI_toInt (by omega)
          refine lv_iconst (v := 1) hx hb dX12_count_139 (by decide) ?_
          refine lv_icmp_ne (tgt := 147) hx hb dX12_count_140 (by decide) (fun c70 => ?_) (fun c70 => ?_)
          · have t71 : r62.toInt ≠ 1 := ti_ne c70 rfl (by decide)
            refine lv_iconst (v := 0) hx hb dX12_count_147 (by decide) ?_
            refine lv_iadd hx hb dX12_count_148 ?_
            refine lv_topi (fun x72 ex72 => ?_)
            have t73 : -2147483648 ≤ z23.toInt ∧ z23.toInt ≤ 2147483647 := ti_all z23
            have t74 : x72.toInt = z23.toInt + 0 := ti_add ex72 rfl (by decide) (by omega) (by omega)
            refine lv_istore_n (lv' := [(2, .int x72), (3, .int (nI i22)), (0, .ref o0), (1, .int 3)]) hx hb dX12_count_149 rfl hl (by decide) rfl (fun ls hl => ?_)
            refine lv_iinc (v := nI (i22 + 1)) (lv' := [(3, .int (nI (i22 + 1))), (2, .int x72), (0, .ref o0), (1, .int 3)]) hx hb dX12_count_150 hl (k := 1) rfl (nI_add i22 1) (by decide) rfl (fun ls hl => ?_)
            refine lv_goto (tgt := 120) hx hb dX12_count_153 (by decide) ?_
            exact ih47 (i22 + 1) (by omega) (by omega) x72 _ _ hT hF hS m64 ls (lv_sub hl [0, 1, 2, 3] rfl)
          · have t75 : r62.toInt = 1 := ti_eq c70 rfl (by decide)
            refine lv_iconst (v := 1) hx hb dX12_count_143 (by decide) ?_
            refine lv_goto (tgt := 148) hx hb dX12_count_144 (by decide) ?_
            refine lv_iadd hx hb dX12_count_148 ?_
            refine lv_topi (fun x76 ex76 => ?_)
            refine lv_istore_n (lv' := [(2, .int x76), (3, .int (nI i22)), (0, .ref o0), (1, .int 3)]) hx hb dX12_count_149 rfl hl (by decide) rfl (fun ls hl => ?_)
            refine lv_iinc (v := nI (i22 + 1)) (lv' := [(3, .int (nI (i22 + 1))), (2, .int x76), (0, .ref o0), (1, .int 3)]) hx hb dX12_count_150 hl (k := 1) rfl (nI_add i22 1) (by decide) rfl (fun ls hl => ?_)
            refine lv_goto (tgt := 120) hx hb dX12_count_153 (by decide) ?_
            exact ih47 (i22 + 1) (by omega) (by omega) x76 _ _ hT hF hS m64 ls (lv_sub hl [0, 1, 2, 3] rfl)
    exact key47 (30 - 0) 0 (by omega) (Nat.le_refl _) 0 _ _ hT hF hS m1 ls (lv_sub hl [0, 1, 2, 3] rfl)
  by_cases hs77 : p0 = 4
  · subst hs77
    refine lv_tableIn (x := 4) (off := 150) (tgt := 158) hx hb dX12_count_8 (by decide) (by decide) (by decide) (by decide) ?_
    refine lv_aload_n hx hb dX12_count_158 rfl (lv_at hl 1 rfl) ?_
    refine lv_sipush (v := 384) hx hb dX12_count_159 (by decide) ?_
    have hFc := gA_free hG hA hS
    refine va_calli (va_runV (As := [.int 384]) (rest := []) ⟨hx, hb, hml, hown, hts⟩ (s_sumLandW l dC dI kA adK adV G H q wZ wN wH wB wC wL wK wU wV PI im PM PT lS lB lE lN o0 hT hr_o0 hgz hgn hgh hgb hgc hgi hgu) (cwV 1 hts (goodIn_app (goodIn_r _ [16, 17, 18, 7] rfl (by decide +kernel)) (goodIn_ca (goodIn_r _ [15, 3] rfl (by decide +kernel)) (bs_in _ _))) rfl rfl rfl (by decide +kernel) ⟨(Nat.le_of_ble_eq_true rfl), (Nat.le_of_ble_eq_true rfl)⟩) ⟨fun a U g mk q => by obtain ⟨q0, q1, qK, qE⟩ := q; exact ⟨q0, q1, va_K.moved (u := U) (U := U.calling g mk a) (Vm.Alike.refl U.vm) qK, EVS.blind g mk a qE⟩, gH_rc hK hT hr_o0 shm_0 rfl, fun U hU hW => ⟨rfl, hU, va_K.moved hW.alike hK, hE.call hS hFc hU hW⟩⟩ rfl rfl hl.1 rfl (lv_room (Nat.le_of_ble_eq_true rfl)) dX12_count_162 ⟨(Nat.le_of_ble_eq_true rfl), (Nat.le_of_ble_eq_true rfl)⟩) hS (fun q _ h => hFc q h) hFc (fun r78 u t H locs ht hvm hw79 hB _ _ hS => ?_)
    obtain ⟨hT, hF1⟩ := hB
    rw [ht] at hT hF1
    have hF := hF.more hF1 (by decide)
    try dsimp only at hw79
    exact W.iret (v := r78) hx hb hr (fun t ht hW => ⟨⟨r78, (), rfl, (by exact trivial), by (try dsimp only); rw [ht]; exact ⟨hT, hF⟩⟩, hS.F ht⟩) hS.2.2 dX12_count_165
  by_cases hs81 : p0 = 5
  · subst hs81
    refine lv_tableIn (x := 5) (off := 158) (tgt := 166) hx hb dX12_count_8 (by decide) (by decide) (by decide) (by decide) ?_
    refine lv_aload_n hx hb dX12_count_166 rfl (lv_at hl 1 rfl) ?_
    refine lv_sipush (v := 480) hx hb dX12_count_167 (by decide) ?_
    have hFc := gA_free hG hA hS
    refine va_calli (va_runV (As := [.int 480]) (rest := []) ⟨hx, hb, hml, hown, hts⟩ (s_sumLandS l dC dI kA adK adV G H q wZ wN wH wB wC wL wK wU wV PI im PM PT lS lB lE lN o0 hT hr_o0 hgz hgn hgh hgb hgc hgi hgu) (cwV 1 hts (goodIn_app (goodIn_r _ [16, 17, 18, 7] rfl (by decide +kernel)) (goodIn_ca (goodIn_r _ [15, 3] rfl (by decide +kernel)) (bs_in _ _))) rfl rfl rfl (by decide +kernel) ⟨(Nat.le_of_ble_eq_true rfl), (Nat.le_of_ble_eq_true rfl)⟩) ⟨fun a U g mk q => by obtain ⟨q0, q1, qK, qE⟩ := q; exact ⟨q0, q1, va_K.moved (u := U) (U := U.calling g mk a) (Vm.Alike.refl U.vm) qK, EVS.blind g mk a qE⟩, gH_rc hK hT hr_o0 shm_0 rfl, fun U hU hW => ⟨rfl, hU, va_K.moved hW.alike hK, hE.call hS hFc hU hW⟩⟩ rfl rfl hl.1 rfl (lv_room (Nat.le_of_ble_eq_true rfl)) dX12_count_170 ⟨(Nat.le_of_ble_eq_true rfl), (Nat.le_of_ble_eq_true rfl)⟩) hS (fun q _ h => hFc q h) hFc (fun r82 u t H locs ht hvm hw83 hB _ _ hS => ?_)
    obtain ⟨hT, hF1⟩ := hB
    rw [ht] at hT hF1
    have hF := hF.more hF1 (by decide)
    try dsimp only at hw83
    exact W.iret (v := r82) hx hb hr (fun t ht hW => ⟨⟨r82, (), rfl, (by exact trivial), by (try dsimp only); rw [ht]; exact ⟨hT, hF⟩⟩, hS.F ht⟩) hS.2.2 dX12_count_173
  by_cases hs85 : p0 = 6
  · subst hs85
    refine lv_tableIn (x := 6) (off := 166) (tgt := 174) hx hb dX12_count_8 (by decide) (by decide) (by decide) (by decide) ?_
    refine lv_aload_n hx hb dX12_count_174 rfl (lv_at hl 1 rfl) ?_
    refine tw_get hx hb hts bF_X12 hown hK hT hr_o0 shm_0 rfl 18 (by decide) (ht_at hts 18 rfl) (fun _ h9 => h9) dX12_count_175 (fun v9 m86 h9 => ?_)
    obtain ⟨rfl, hg87⟩ := h9 _ rfl
    refine lv_iconst (v := 0) hx hb dX12_count_178 (by decide) ?_
    refine tw_iald (i := 0) hx hb hK hT hg87 shm_19 rfl (by unfold vp_in; decide) dX12_count_179 (fun v9 m88 h9 => ?_)
    obtain ⟨x89, rfl, gx89, kx89⟩ := (gn_at h9)
    exact W.iret (v := x89) hx hb hr (fun t ht hW => ⟨⟨x89, (), rfl, (by exact trivial), by (try dsimp only); rw [ht]; exact ⟨hT, hF⟩⟩, hS.F ht⟩) hS.2.2 dX12_count_180
  by_cases hs90 : p0 = 7
  · subst hs90
    refine lv_tableIn (x := 7) (off := 173) (tgt := 181) hx hb dX12_count_8 (by decide) (by decide) (by decide) (by decide) ?_
    refine lv_aload_n hx hb dX12_count_181 rfl (lv_at hl 1 rfl) ?_
    refine tw_get hx hb hts bF_X12 hown hK hT hr_o0 shm_0 rfl 42 (by decide) (ht_at hts 19 rfl) (fun _ h9 => h9) dX12_count_182 (fun v9 m91 h9 => ?_)
    obtain ⟨x92, rfl, gx92, kx92⟩ := h9 _ rfl
    exact W.iret (v := x92) hx hb hr (fun t ht hW => ⟨⟨x92, (), rfl, (by exact trivial), by (try dsimp only); rw [ht]; exact ⟨hT, hF⟩⟩, hS.F ht⟩) hS.2.2 dX12_count_185
  by_cases hs93 : p0 = 8
  · subst hs93
    refine lv_tableIn (x := 8) (off := 178) (tgt := 186) hx hb dX12_count_8 (by decide) (by decide) (by decide) (by decide) ?_
    refine lv_aload_n hx hb dX12_count_186 rfl (lv_at hl 1 rfl) ?_
    have hFc := gA_free hG hA hS
    refine va_calli (va_runV (As := []) (rest := []) ⟨hx, hb, hml, hown, hts⟩ (s_holders l dC dI kA adK adV G H q wZ wN wH wB wC wL wK wU wV PI im PM PT lS lB lE lN o0 hT hr_o0 hgz hgn hgh hgb hgc hgi hgu) (cwV 0 hts (goodIn_app (goodIn_r _ [23, 24, 25, 7] rfl (by decide +kernel)) (goodIn_ca (goodIn_r _ [21, 20, 22] rfl (by decide +kernel)) (bs_in _ _))) rfl rfl rfl (by decide +kernel) ⟨(Nat.le_of_ble_eq_true rfl), (Nat.le_of_ble_eq_true rfl)⟩) ⟨fun a U g mk q => by obtain ⟨q0, q1, qK, qE⟩ := q; exact ⟨q0, q1, va_K.moved (u := U) (U := U.calling g mk a) (Vm.Alike.refl U.vm) qK, EVS.blind g mk a qE⟩, gH_rc hK hT hr_o0 shm_0 rfl, fun U hU hW => ⟨rfl, hU, va_K.moved hW.alike hK, hE.call hS hFc hU hW⟩⟩ rfl rfl hl.1 rfl (lv_room (Nat.le_of_ble_eq_true rfl)) dX12_count_187 ⟨(Nat.le_of_ble_eq_true rfl), (Nat.le_of_ble_eq_true rfl)⟩) hS (fun q _ h => hFc q h) hFc (fun r94 u t H locs ht hvm hw95 hB _ _ hS => ?_)
    obtain ⟨hT, hF1⟩ := hB
    rw [ht] at hT hF1
    have hF := hF.more hF1 (by decide)
    try dsimp only at hw95
    exact W.iret (v := r94) hx hb hr (fun t ht hW => ⟨⟨r94, (), rfl, (by exact trivial), by (try dsimp only); rw [ht]; exact ⟨hT, hF⟩⟩, hS.F ht⟩) hS.2.2 dX12_count_190
  by_cases hs97 : p0 = 9
  · subst hs97
    refine lv_tableIn (x := 9) (off := 183) (tgt := 191) hx hb dX12_count_8 (by decide) (by decide) (by decide) (by decide) ?_
    refine lv_aload_n hx hb dX12_count_191 rfl (lv_at hl 1 rfl) ?_
    refine tw_get hx hb hts bF_X12 hown hK hT hr_o0 shm_0 rfl 47 (by decide) (ht_at hts 25 rfl) (fun _ h9 => h9) dX12_count_192 (fun v9 m98 h9 => ?_)
    obtain ⟨x99, rfl, gx99, kx99⟩ := h9 _ rfl
    exact W.iret (v := x99) hx hb hr (fun t ht hW => ⟨⟨x99, (), rfl, (by exact trivial), by (try dsimp only); rw [ht]; exact ⟨hT, hF⟩⟩, hS.F ht⟩) hS.2.2 dX12_count_195
  by_cases hs100 : p0 = 10
  · subst hs100
    refine lv_tableIn (x := 10) (off := 188) (tgt := 196) hx hb dX12_count_8 (by decide) (by decide) (by decide) (by decide) ?_
    refine lv_aload_n hx hb dX12_count_196 rfl (lv_at hl 1 rfl) ?_
    refine tw_get hx hb hts bF_X12 hown hK hT hr_o0 shm_0 rfl 48 (by decide) (ht_at hts 26 rfl) (fun _ h9 => h9) dX12_count_197 (fun v9 m101 h9 => ?_)
    obtain ⟨x102, rfl, gx102, kx102⟩ := h9 _ rfl
    exact W.iret (v := x102) hx hb hr (fun t ht hW => ⟨⟨x102, (), rfl, (by exact trivial), by (try dsimp only); rw [ht]; exact ⟨hT, hF⟩⟩, hS.F ht⟩) hS.2.2 dX12_count_200
  by_cases hs103 : p0 = 11
  · subst hs103
    refine lv_tableIn (x := 11) (off := 193) (tgt := 201) hx hb dX12_count_8 (by decide) (by decide) (by decide) (by decide) ?_
    refine lv_iconst (v := 0) hx hb dX12_count_201 (by decide) ?_
    refine lv_istore_n (lv' := [(3, .int 0), (2, .int 0), (0, .ref o0), (1, .int 11)]) hx hb dX12_count_202 rfl hl (by decide) rfl (fun ls hl => ?_)
    have key117 : ∀ (n117 i104 : Nat), i104 + n117 = 60 → 0 ≤ i104 → ∀ (z105 : Int32), ∀ (H : Heap) (locs : List Loc), gH (dC, dI) kA (SHm q (wP wZ wN wH wB wC wL wK wU wV) PI im PM PT lS lB lE lN) G H → gF (dC, dI) SKm G ([(0, 0)] : List (Nat × Nat)) s.heap H → va_S A s.heap H locs → el H o0 (dI 15 0) = some (.int 0) → ∀ ls : Array Slot, lv_has ls 4 [(3, .int (nI i104)), (2, .int z105), (0, .ref o0), (1, .int 11)] → W p l e (headSpec w_s_count ({ frames := 2, cells := 0, slots := 0, locals := 43 })).room s m #[.ref o0, .int (11 : Int32)] below meth c H locs 0 0 (MQ below (va_Qi (fun (r : Int32) (u : Unit) => True) (fun (_ : Unit) (t : State) => gH (dC, dI) kA (SHm q (wP wZ wN wH wB wC wL wK wU wV) PI im PM PT lS lB lE lN) G t.heap ∧ gF (dC, dI) SKm G ([(0, 0)] : List (Nat × Nat)) s.heap t.heap) A) #[.ref o0, .int (11 : Int32)] s 0 0 A) (F0 m 203 ls []) := by
      intro n117
      induction n117 with
      | zero =>
        intro i104 hn117 hlo118 z105 H locs hT hF hS m106 ls hl
        obtain rfl : 60 = i104 := by omega
        refine lv_iload_n hx hb dX12_count_203 rfl (lv_at hl 0 rfl) ?_
        refine lv_aload_n hx hb dX12_count_204 rfl (lv_at hl 2 rfl) ?_
        refine tw_get hx hb hts bF_X12 hown hK hT hr_o0 shm_0 rfl 42 (by decide) (ht_at hts 19 rfl) (fun _ h9 => h9) dX12_count_205 (fun v9 m119 h9 => ?_)
        obtain ⟨x120, rfl, gx120, kx120⟩ := h9 _ rfl
        refine lv_icmp_ge (tgt := 226) hx hb dX12_count_208 (by decide) (fun c121 => ?_) (fun c121 => (by exfalso; have q9 : ((60 : Nat) : Int) < x120.toInt := ti_nle c121 rfl (nI_toInt (by omega)); omega))
        have t122 : x120.toInt ≤ ((60 : Nat) : Int) := ti_le c121 rfl (nI_toInt (by omega))
        refine lv_iload_n hx hb dX12_count_226 rfl (lv_at hl 1 rfl) ?_
        exact W.iret (v := z105) hx hb hr (fun t ht hW => ⟨⟨z105, (), rfl, (by exact trivial), by (try dsimp only); rw [ht]; exact ⟨hT, hF⟩⟩, hS.F ht⟩) hS.2.2 dX12_count_227
      | succ n117 ih117 =>
        intro i104 hn117 hlo118 z105 H locs hT hF hS m106 ls hl
        have hlt122 : i104 < 60 := by omega
        refine lv_iload_n hx hb dX12_count_203 rfl (lv_at hl 0 rfl) ?_
        refine lv_aload_n hx hb dX12_count_204 rfl (lv_at hl 2 rfl) ?_
        refine tw_get hx hb hts bF_X12 hown hK hT hr_o0 shm_0 rfl 42 (by decide) (ht_at hts 19 rfl) (fun _ h9 => h9) dX12_count_205 (fun v9 m123 h9 => ?_)
        obtain ⟨x124, rfl, gx124, kx124⟩ := h9 _ rfl
        refine lv_icmp_ge (tgt := 226) hx hb dX12_count_208 (by decide) (fun c125 => ?_) (fun c125 => ?_)
        · have t126 : x124.toInt ≤ ((i104 : Nat) : Int) := ti_le c125 rfl (nI_toInt (by omega))
          refine lv_iload_n hx hb dX12_count_226 rfl (lv_at hl 1 rfl) ?_
          exact W.iret (v := z105) hx hb hr (fun t ht hW => ⟨⟨z105, (), rfl, (by exact trivial), by (try dsimp only); rw [ht]; exact ⟨hT, hF⟩⟩, hS.F ht⟩) hS.2.2 dX12_count_227
        · have t127 : ((i104 : Nat) : Int) < x124.toInt := ti_nle c125 rfl (nI_toInt (by omega))
          refine lv_iload_n hx hb dX12_count_211 rfl (lv_at hl 1 rfl) ?_
          refine lv_aload_n hx hb dX12_count_212 rfl (lv_at hl 2 rfl) ?_
          refine tw_get hx hb hts bF_X12 hown hK hT hr_o0 shm_0 rfl 40 (by decide) (ht_at hts 27 rfl) (fun _ h9 => h9) dX12_count_213 (fun v9 m128 h9 => ?_)
          obtain ⟨rfl, hg129⟩ := h9 _ rfl
          refine lv_iload_n hx hb dX12_count_216 rfl (lv_at hl 0 rfl) ?_
          refine tw_iald (i := (nI i104)) hx hb hK hT hg129 shm_41 rfl (vp_in_nI (by omega) (by decide)) dX12_count_217 (fun v9 m130 h9 => ?_)
          obtain ⟨x131, rfl, gx131, kx131⟩ := h9
          refine lv_iadd hx hb dX12_count_218 ?_
          refine lv_topi (fun x132 ex132 => ?_)
          refine lv_istore_n (lv' := [(2, .int x132), (3, .int (nI i104)), (0, .ref o0), (1, .int 11)]) hx hb dX12_count_219 rfl hl (by decide) rfl (fun ls hl => ?_)
          refine lv_iinc (v := nI (i104 + 1)) (lv' := [(3, .int (nI (i104 + 1))), (2, .int x132), (0, .ref o0), (1, .int 11)]) hx hb dX12_count_220 hl (k := 1) rfl (nI_add i104 1) (by decide) rfl (fun ls hl => ?_)
          refine lv_goto (tgt := 203) hx hb dX12_count_223 (by decide) ?_
          exact ih117 (i104 + 1) (by omega) (by omega) x132 _ _ hT hF hS m106 ls (lv_sub hl [0, 1, 2, 3] rfl)
    exact key117 (60 - 0) 0 (by omega) (Nat.le_refl _) 0 _ _ hT hF hS m1 ls (lv_sub hl [0, 1, 2, 3] rfl)
  by_cases hs133 : p0 = 12
  · subst hs133
    refine lv_tableIn (x := 12) (off := 220) (tgt := 228) hx hb dX12_count_8 (by decide) (by decide) (by decide) (by decide) ?_
    refine lv_aload_n hx hb dX12_count_228 rfl (lv_at hl 1 rfl) ?_
    refine tw_get hx hb hts bF_X12 hown hK hT hr_o0 shm_0 rfl 64 (by decide) (ht_at hts 28 rfl) (fun _ h9 => h9) dX12_count_229 (fun v9 m134 h9 => ?_)
    obtain ⟨x135, rfl, gx135, kx135⟩ := h9 _ rfl
    exact W.iret (v := x135) hx hb hr (fun t ht hW => ⟨⟨x135, (), rfl, (by exact trivial), by (try dsimp only); rw [ht]; exact ⟨hT, hF⟩⟩, hS.F ht⟩) hS.2.2 dX12_count_232
  by_cases hs136 : p0 = 13
  · subst hs136
    refine lv_tableIn (x := 13) (off := 225) (tgt := 233) hx hb dX12_count_8 (by decide) (by decide) (by decide) (by decide) ?_
    refine lv_aload_n hx hb dX12_count_233 rfl (lv_at hl 1 rfl) ?_
    refine tw_get hx hb hts bF_X12 hown hK hT hr_o0 shm_0 rfl 1 (by decide) (ht_at hts 2 rfl) (fun _ h9 => h9) dX12_count_234 (fun v9 m137 h9 => ?_)
    obtain ⟨rfl, hg138⟩ := h9 _ rfl
    refine lv_sipush (v := 1745) hx hb dX12_count_237 (by decide) ?_
    refine tw_iald (i := 1745) hx hb hK hT hg138 shm_2 rfl (by unfold vp_in; decide) dX12_count_240 (fun v9 m139 h9 => ?_)
    obtain ⟨x140, rfl, gx140, kx140⟩ := (gp_at h9 (w_fre (by have q9 := tn_of (show (1745 : Int32).toInt = 1745 from (by decide)) (show (0 : Int) ≤ 1745 from by omega); omega)))
    exact W.iret (v := x140) hx hb hr (fun t ht hW => ⟨⟨x140, (), rfl, (by exact trivial), by (try dsimp only); rw [ht]; exact ⟨hT, hF⟩⟩, hS.F ht⟩) hS.2.2 dX12_count_241
  by_cases hs141 : p0 = 14
  · subst hs141
    refine lv_tableIn (x := 14) (off := 234) (tgt := 242) hx hb dX12_count_8 (by decide) (by decide) (by decide) (by decide) ?_
    refine lv_aload_n hx hb dX12_count_242 rfl (lv_at hl 1 rfl) ?_
    refine tw_get hx hb hts bF_X12 hown hK hT hr_o0 shm_0 rfl 1 (by decide) (ht_at hts 2 rfl) (fun _ h9 => h9) dX12_count_243 (fun v9 m142 h9 => ?_)
    obtain ⟨rfl, hg143⟩ := h9 _ rfl
    refine lv_sipush (v := 1746) hx hb dX12_count_246 (by decide) ?_
    refine tw_iald (i := 1746) hx hb hK hT hg143 shm_2 rfl (by unfold vp_in; decide) dX12_count_249 (fun v9 m144 h9 => ?_)
    obtain ⟨x145, rfl, gx145, kx145⟩ := (gp_at h9 (w_fre (by have q9 := tn_of (show (1746 : Int32).toInt = 1746 from (by decide)) (show (0 : Int) ≤ 1746 from by omega); omega)))
    exact W.iret (v := x145) hx hb hr (fun t ht hW => ⟨⟨x145, (), rfl, (by exact trivial), by (try dsimp only); rw [ht]; exact ⟨hT, hF⟩⟩, hS.F ht⟩) hS.2.2 dX12_count_250
  by_cases hs146 : p0 = 15
  · subst hs146
    refine lv_tableIn (x := 15) (off := 243) (tgt := 251) hx hb dX12_count_8 (by decide) (by decide) (by decide) (by decide) ?_
    refine lv_aload_n hx hb dX12_count_251 rfl (lv_at hl 1 rfl) ?_
    refine tw_get hx hb hts bF_X12 hown hK hT hr_o0 shm_0 rfl 1 (by decide) (ht_at hts 2 rfl) (fun _ h9 => h9) dX12_count_252 (fun v9 m147 h9 => ?_)
    obtain ⟨rfl, hg148⟩ := h9 _ rfl
    refine lv_sipush (v := 1747) hx hb dX12_count_255 (by decide) ?_
    refine tw_iald (i := 1747) hx hb hK hT hg148 shm_2 rfl (by unfold vp_in; decide) dX12_count_258 (fun v9 m149 h9 => ?_)
    obtain ⟨x150, rfl, gx150, kx150⟩ := (gp_at h9 (w_fre (by have q9 := tn_of (show (1747 : Int32).toInt = 1747 from (by decide)) (show (0 : Int) ≤ 1747 from by omega); omega)))
    exact W.iret (v := x150) hx hb hr (fun t ht hW => ⟨⟨x150, (), rfl, (by exact trivial), by (try dsimp only); rw [ht]; exact ⟨hT, hF⟩⟩, hS.F ht⟩) hS.2.2 dX12_count_259
  by_cases hs151 : p0 = 16
  · subst hs151
    refine lv_tableIn (x := 16) (off := 252) (tgt := 260) hx hb dX12_count_8 (by decide) (by decide) (by decide) (by decide) ?_
    refine lv_aload_n hx hb dX12_count_260 rfl (lv_at hl 1 rfl) ?_
    refine tw_get hx hb hts bF_X12 hown hK hT hr_o0 shm_0 rfl 1 (by decide) (ht_at hts 2 rfl) (fun _ h9 => h9) dX12_count_261 (fun v9 m152 h9 => ?_)
    obtain ⟨rfl, hg153⟩ := h9 _ rfl
    refine lv_sipush (v := 1748) hx hb dX12_count_264 (by decide) ?_
    refine tw_iald (i := 1748) hx hb hK hT hg153 shm_2 rfl (by unfold vp_in; decide) dX12_count_267 (fun v9 m154 h9 => ?_)
    obtain ⟨x155, rfl, gx155, kx155⟩ := (gp_at h9 (w_fre (by have q9 := tn_of (show (1748 : Int32).toInt = 1748 from (by decide)) (show (0 : Int) ≤ 1748 from by omega); omega)))
    exact W.iret (v := x155) hx hb hr (fun t ht hW => ⟨⟨x155, (), rfl, (by exact trivial), by (try dsimp only); rw [ht]; exact ⟨hT, hF⟩⟩, hS.F ht⟩) hS.2.2 dX12_count_268
  by_cases hs156 : p0 = 17
  · subst hs156
    refine lv_tableIn (x := 17) (off := 261) (tgt := 269) hx hb dX12_count_8 (by decide) (by decide) (by decide) (by decide) ?_
    refine lv_aload_n hx hb dX12_count_269 rfl (lv_at hl 1 rfl) ?_
    refine tw_get hx hb hts bF_X12 hown hK hT hr_o0 shm_0 rfl 9 (by decide) (ht_at hts 29 rfl) (fun _ h9 => h9) dX12_count_270 (fun v9 m157 h9 => ?_)
    obtain ⟨x158, rfl, gx158, kx158⟩ := h9 _ rfl
    exact W.iret (v := x158) hx hb hr (fun t ht hW => ⟨⟨x158, (), rfl, (by exact trivial), by (try dsimp only); rw [ht]; exact ⟨hT, hF⟩⟩, hS.F ht⟩) hS.2.2 dX12_count_273
  have ho159 : p0.toInt < 0 ∨ 17 < p0.toInt := by
    by_cases hz9 : p0.toInt < 0
    · exact Or.inl hz9
    have u9 : (0 : Int) ≤ p0.toInt := Int.not_lt.mp hz9
    have u9 := ll_nx (k1 := 1) u9 hs2 (by decide) (by decide)
    have u9 := ll_nx (k1 := 2) u9 hs8 (by decide) (by decide)
    have u9 := ll_nx (k1 := 3) u9 hs16 (by decide) (by decide)
    have u9 := ll_nx (k1 := 4) u9 hs21 (by decide) (by decide)
    have u9 := ll_nx (k1 := 5) u9 hs77 (by decide) (by decide)
    have u9 := ll_nx (k1 := 6) u9 hs81 (by decide) (by decide)
    have u9 := ll_nx (k1 := 7) u9 hs85 (by decide) (by decide)
    have u9 := ll_nx (k1 := 8) u9 hs90 (by decide) (by decide)
    have u9 := ll_nx (k1 := 9) u9 hs93 (by decide) (by decide)
    have u9 := ll_nx (k1 := 10) u9 hs97 (by decide) (by decide)
    have u9 := ll_nx (k1 := 11) u9 hs100 (by decide) (by decide)
    have u9 := ll_nx (k1 := 12) u9 hs103 (by decide) (by decide)
    have u9 := ll_nx (k1 := 13) u9 hs133 (by decide) (by decide)
    have u9 := ll_nx (k1 := 14) u9 hs136 (by decide) (by decide)
    have u9 := ll_nx (k1 := 15) u9 hs141 (by decide) (by decide)
    have u9 := ll_nx (k1 := 16) u9 hs146 (by decide) (by decide)
    have u9 := ll_nx (k1 := 17) u9 hs151 (by decide) (by decide)
    have u9 := ll_nx (k1 := 18) u9 hs156 (by decide) (by decide)
    exact Or.inr (Int.lt_of_lt_of_le (by decide) u9)
  refine lv_tableOut (tgt := 274) hx hb dX12_count_8 ho159 (by decide) ?_
  refine lv_iconst (v := (-1)) hx hb dX12_count_274 (by decide) ?_
  exact W.iret (v := (-1)) hx hb hr (fun t ht hW => ⟨⟨(-1), (), rfl, (by exact trivial), by (try dsimp only); rw [ht]; exact ⟨hT, hF⟩⟩, hS.F ht⟩) hS.2.2 dX12_count_275
def w_s_seep : List Cond := .code yX12_seep cX12_seep 3 (some .int) :: (HAppend.hAppend (α := List Cond) (β := List Cond) (γ := List Cond) [.fieldLink RX12 194 "SeaLandModel" "thrown" "I", .code yX12_noWork cX12_noWork 2 (some .boolean), .fieldLink RX12 9 "SeaLandModel" "world" "[I", .code yX12_in cX12_in 3 (some .boolean), .methodLink RX12 197 yX12_in, .static yX12_in, .initialized RX12, .methodLink RX12 269 yX12_noWork, .instanceMethod yX12_noWork, .selects RX12 yX12_noWork yX12_noWork, .code yX12_throwsIf cX12_throwsIf 3 (some .boolean), .methodLink RX12 224 yX12_throwsIf, .instanceMethod yX12_throwsIf, .selects RX12 yX12_throwsIf yX12_throwsIf, .code yX12_isDike cX12_isDike 2 (some .boolean), .code yX12_of cX12_of 3 (some .int), .code yX12_at cX12_at 2 (some .int), .methodLink RX12 214 yX12_at, .static yX12_at, .methodLink RX12 217 yX12_of, .instanceMethod yX12_of, .selects RX12 yX12_of yX12_of, .methodLink RX12 272 yX12_isDike, .instanceMethod yX12_isDike, .selects RX12 yX12_isDike yX12_isDike, .code yX12_seepOf cX12_seepOf 8 (some .int), .code yX12_level cX12_level 2 (some .int), .code yX12_isLand cX12_isLand 2 (some .boolean), .methodLink RX12 235 yX12_isLand, .instanceMethod yX12_isLand, .selects RX12 yX12_isLand yX12_isLand, .code yX12_hour cX12_hour 1 (some .int), .methodLink RX12 228 yX12_hour, .instanceMethod yX12_hour, .selects RX12 yX12_hour yX12_hour, .code yX12_outside cX12_outside 4 (some .int), .methodLink RX12 247 yX12_outside, .instanceMethod yX12_outside, .selects RX12 yX12_outside yX12_outside, .methodLink RX12 285 yX12_level, .instanceMethod yX12_level, .selects RX12 yX12_level yX12_level, .methodLink RX12 211 Lib.Math.max.name, .static Lib.Math.max.name, .initialized "java/lang/Math", .code Lib.Math.max.name Lib.Math.max.code 2 (some .int), .methodLink RX12 288 yX12_seepOf, .instanceMethod yX12_seepOf, .selects RX12 yX12_seepOf yX12_seepOf] bs)
set_option maxHeartbeats 4000000 in
set_option maxRecDepth 100000 in
theorem s_seep (l : Launch) (dC : Nat → ClassId) (dI : Nat → Nat → Nat) (kA : Nat → ClassId) (adK adV : Nat → Nat) (G : gT) (H0 : Heap) (q : Nat → Nat) (wZ wN : Nat → Int) (wH wB wC : Int) (wL wK : Nat → Prop) (wU wV : Nat → Nat) (PI : Nat → Int → Prop) (im : Int) (PM PT : Nat → Int → Prop) (lS lB lE : Nat → Nat → Int → Prop) (lN : Nat → Int) (o0 : Nat) (p0 : Int32) (p1 : Int32)  (hT : gH (dC, dI) kA (SHm q (wP wZ wN wH wB wC wL wK wU wV) PI im PM PT lS lB lE lN) G H0) (hr_o0 : G o0 = some 0) (hgz : ∀ i, 0 ≤ wZ i) (hgn : ∀ i, 6500000 ≤ wN i ∧ wN i ≤ 20200000) (hgh : 0 ≤ wH ∧ wH ≤ 40000) (hgb : 0 ≤ wB ∧ wB ≤ 3850000) (hgc : 0 ≤ wC ∧ wC ≤ 30) (hgi : 0 ≤ im ∧ im ≤ 1) (hgu : ∀ a t, G a = some (t + 1) → a = q t) : Met l yX12_seep w_s_seep ({ frames := 4, cells := 0, slots := 0, locals := 93 }) (va_Pc [.ref o0, .int p0, .int p1] (fun U => U.heap = H0 ∧ va_K (dC, dI) vwCl (tyl kA) U ∧ EVS adK adV (gA G H0.size) U U.heap)) (va_Qi (fun (r : Int32) (u : Unit) => (-21474836 ≤ r.toInt ∧ r.toInt ≤ 21474836)) (fun (_ : Unit) (t : State) => gH (dC, dI) kA (SHm q (wP wZ wN wH wB wC wL wK wU wV) PI im PM PT lS lB lE lN) G t.heap ∧ gF (dC, dI) SKm G ([(0, 0)] : List (Nat × Nat)) H0 t.heap) (gA G H0.size)) 0 0 (gA G H0.size) := by
  refine Met.ofW (cc := cX12_seep) (maxL := 3) (ret := (some .int)) (by decide) rfl ?_
  intro p e s m args below meth c s₁ B hml hv
  obtain ⟨rfl, hH0, hK, hE⟩ := hv
  have hx := B.exec
  have hb := B.bytes
  have hr := B.returns
  have hts := atoms_spec (ws := w_s_seep) B.pre
  have hown : s.vm.findClass RX12 = some m.cls := findClass_of_methodNamed B.named
  have hlocks := B.notSynchronized
  subst hH0
  generalize hAe : gA G s.heap.size = A at hE ⊢
  have hA : ∀ q : Nat, s.heap.size ≤ q → A q := fun q h => by rw [← hAe]; exact Or.inr h
  have hG := gA_of hAe
  have hS : va_S A s.heap s.heap [] := va_S.rf
  have hF : gF (dC, dI) SKm G ([(0, 0)] : List (Nat × Nat)) s.heap s.heap := gF.rf
  have hl := lv_entry ([.ref o0, .int p0, .int p1]) (n := 3) (Nat.le_of_ble_eq_true rfl)
  rw [lg_entry_eq]
  generalize (lg_sl ([.ref o0, .int p0, .int p1]) ++ List.replicate (3 - (lg_sl ([.ref o0, .int p0, .int p1])).length) Slot.unset).toArray = ls at hl ⊢
  have hl : lv_has ls 3 [(0, .ref o0), (1, .int p0), (2, .int p1)] := hl
  refine lv_aload_n hx hb dX12_seep_0 rfl (lv_at hl 0 rfl) ?_
  refine lv_iconst (v := 0) hx hb dX12_seep_1 (by decide) ?_
  refine tw_put (v := .int 0) (ty := .int) hx hb hts bF_X12 tyX12 tyX12_ok nmX12 hown hK hT hG hS hr_o0 shm_0 rfl 0 (by decide) (ht_at hts 0 rfl) (fun _ h9 => h9) rfl (by decide +kernel) rfl rfl (gl_at rfl (gi_all _)) dX12_seep_2 (fun H locs hT oq m1 oj hS => ?_)
  have hF := hF.put hr_o0 skm_0 oq oj (by decide)
  refine lv_aload_n hx hb dX12_seep_5 rfl (lv_at hl 0 rfl) ?_
  refine lv_aload_n hx hb dX12_seep_6 rfl (lv_at hl 0 rfl) ?_
  refine lv_iload_n hx hb dX12_seep_7 rfl (lv_at hl 1 rfl) ?_
  have hFc := gA_free hG hA hS
  refine va_calli (va_runV (As := [.int p0]) (rest := [.ref o0]) ⟨hx, hb, hml, hown, hts⟩ (s_noWork l dC dI kA adK adV G H q wZ wN wH wB wC wL wK wU wV PI im PM PT lS lB lE lN o0 p0 hT hr_o0 hgz hgn hgh hgb hgc hgi hgu) (cwV 1 hts (goodIn_app (goodIn_r _ [8, 9, 10, 7] rfl (by decide +kernel)) (goodIn_ca (goodIn_r _ [2, 3, 4, 5, 6, 7] rfl (by decide +kernel)) (bs_in _ _))) rfl rfl rfl (by decide +kernel) ⟨(Nat.le_of_ble_eq_true rfl), (Nat.le_of_ble_eq_true rfl)⟩) ⟨fun a U g mk q => by obtain ⟨q0, q1, qK, qE⟩ := q; exact ⟨q0, q1, va_K.moved (u := U) (U := U.calling g mk a) (Vm.Alike.refl U.vm) qK, EVS.blind g mk a qE⟩, gH_rc hK hT hr_o0 shm_0 rfl, fun U hU hW => ⟨rfl, hU, va_K.moved hW.alike hK, hE.call hS hFc hU hW⟩⟩ rfl rfl hl.1 rfl (lv_room (Nat.le_of_ble_eq_true rfl)) dX12_seep_8 ⟨(Nat.le_of_ble_eq_true rfl), (Nat.le_of_ble_eq_true rfl)⟩) hS (fun q _ h => hFc q h) hFc (fun r2 u t H locs ht hvm hw3 hB _ _ hS => ?_)
  obtain ⟨hT, hF1⟩ := hB
  rw [ht] at hT hF1
  have hF := hF.more hF1 (by decide)
  try dsimp only at hw3
  obtain ⟨h5, hi6⟩ := hw3
  refine lv_iconst (v := 1) hx hb dX12_seep_11 (by decide) ?_
  have hFc := gA_free hG hA hS
  refine va_calli (va_runV (As := [.int r2, .int 1]) (rest := []) ⟨hx, hb, hml, hown, hts⟩ (s_throwsIf l dC dI kA adK adV G H q wZ wN wH wB wC wL wK wU wV PI im PM PT lS lB lE lN o0 r2 1 hT hr_o0 (by have q8 := ti_all r2; omega) hgz hgn hgh hgb hgc hgi hgu) (cwV 2 hts (goodIn_app (goodIn_r _ [12, 13, 14, 7] rfl (by decide +kernel)) (goodIn_ca (goodIn_r _ [11, 1] rfl (by decide +kernel)) (bs_in _ _))) rfl rfl rfl (by decide +kernel) ⟨(Nat.le_of_ble_eq_true rfl), (Nat.le_of_ble_eq_true rfl)⟩) ⟨fun a U g mk q => by obtain ⟨q0, q1, qK, qE⟩ := q; exact ⟨q0, q1, va_K.moved (u := U) (U := U.calling g mk a) (Vm.Alike.refl U.vm) qK, EVS.blind g mk a qE⟩, gH_rc hK hT hr_o0 shm_0 rfl, fun U hU hW => ⟨rfl, hU, va_K.moved hW.alike hK, hE.call hS hFc hU hW⟩⟩ rfl rfl hl.1 rfl (lv_room (Nat.le_of_ble_eq_true rfl)) dX12_seep_12 ⟨(Nat.le_of_ble_eq_true rfl), (Nat.le_of_ble_eq_true rfl)⟩) hS (fun q _ h => hFc q h) hFc (fun r7 u t H locs ht hvm hw8 hB _ _ hS => ?_)
  obtain ⟨hT, hF1⟩ := hB
  rw [ht] at hT hF1
  have hF := hF.more hF1 (by decide)
  try dsimp only at hw8
  obtain ⟨h10, hd11⟩ := hw8
  obtain rfl : r2 = r7 := hd11.symm
  refine lv_if_ne (tgt := 65) hx hb dX12_seep_15 (by decide) (fun c12 => ?_) (fun c12 => ?_)
  · have t13 : r2.toInt ≠ 0 := ti_ne c12 rfl (by decide)
    refine lv_iconst (v := 0) hx hb dX12_seep_65 (by decide) ?_
    exact W.iret (v := 0) hx hb hr (fun t ht hW => ⟨⟨0, (), rfl, (by exact (rg_t (a := 0) (by decide) (by first | decide | omega) (by first | decide | omega))), by (try dsimp only); rw [ht]; exact ⟨hT, hF⟩⟩, hS.F ht⟩) hS.2.2 dX12_seep_66
  · have t14 : r2.toInt = 0 := ti_eq c12 rfl (by decide)
    have t15 : 0 ≤ p0.toInt ∧ p0.toInt ≤ 29 ∧ p0.toInt < wC := hi6 c12
    refine lv_aload_n hx hb dX12_seep_18 rfl (lv_at hl 0 rfl) ?_
    refine lv_iload_n hx hb dX12_seep_19 rfl (lv_at hl 2 rfl) ?_
    refine lv_sipush (v := (-1000)) hx hb dX12_seep_20 (by decide) ?_
    refine lv_sipush (v := 1000) hx hb dX12_seep_23 (by decide) ?_
    have hFc := gA_free hG hA hS
    refine va_calli (va_runS (As := [.int p1, .int (-1000), .int 1000]) (rest := [.ref o0]) ⟨hx, hb, hml, hown, hts⟩ (s_in l dC dI kA adK adV G H q wZ wN wH wB wC wL wK wU wV PI im PM PT lS lB lE lN p1 (-1000) 1000 hT hgz hgn hgh hgb hgc hgi hgu) (va_cwS 3 hts (goodIn_app (goodIn_r _ [5, 6, 7] rfl (by decide +kernel)) (goodIn_ca (goodIn_r _ [4] rfl (by decide +kernel)) (bs_in _ _))) rfl rfl rfl (by decide +kernel) ⟨(Nat.le_of_ble_eq_true rfl), (Nat.le_of_ble_eq_true rfl)⟩) ⟨fun a U g mk q => by obtain ⟨q0, q1, qK, qE⟩ := q; exact ⟨q0, q1, va_K.moved (u := U) (U := U.calling g mk a) (Vm.Alike.refl U.vm) qK, EVS.blind g mk a qE⟩, fun U hU hW => ⟨rfl, hU, va_K.moved hW.alike hK, hE.call hS hFc hU hW⟩⟩ rfl rfl hl.1 rfl (lv_room (Nat.le_of_ble_eq_true rfl)) dX12_seep_26 ⟨(Nat.le_of_ble_eq_true rfl), (Nat.le_of_ble_eq_true rfl)⟩) hS (fun q _ h => hFc q h) hFc (fun r16 u t H locs ht hvm hw17 hB _ _ hS => ?_)
    obtain ⟨hT, hF1⟩ := hB
    rw [ht] at hT hF1
    have hF := hF.more hF1 (by decide)
    try dsimp only at hw17
    obtain ⟨h18, hi19, hi20⟩ := hw17
    refine lv_if_ne (tgt := 36) hx hb dX12_seep_29 (by decide) (fun c21 => ?_) (fun c21 => ?_)
    · have t22 : r16.toInt ≠ 0 := ti_ne c21 rfl (by decide)
      have t23 : (1000 : Int32).toInt = 1000 := by decide
      have t24 : (-1000 : Int32).toInt = (-1000) := by decide
      have t25 : (-1000 : Int32).toInt ≤ p1.toInt ∧ p1.toInt ≤ (1000 : Int32).toInt := hi19 ((bit_of ⟨by omega, by omega⟩).resolve_left c21)
      refine lv_iconst (v := 0) hx hb dX12_seep_36 (by decide) ?_
      refine lv_iconst (v := 2) hx hb dX12_seep_37 (by decide) ?_
      have hFc := gA_free hG hA hS
      refine va_calli (va_runV (As := [.int 0, .int 2]) (rest := []) ⟨hx, hb, hml, hown, hts⟩ (s_throwsIf l dC dI kA adK adV G H q wZ wN wH wB wC wL wK wU wV PI im PM PT lS lB lE lN o0 0 2 hT hr_o0 (rg_t (a := 0) (by decide) (by first | decide | omega) (by first | decide | omega)) hgz hgn hgh hgb hgc hgi hgu) (cwV 2 hts (goodIn_app (goodIn_r _ [12, 13, 14, 7] rfl (by decide +kernel)) (goodIn_ca (goodIn_r _ [11, 1] rfl (by decide +kernel)) (bs_in _ _))) rfl rfl rfl (by decide +kernel) ⟨(Nat.le_of_ble_eq_true rfl), (Nat.le_of_ble_eq_true rfl)⟩) ⟨fun a U g mk q => by obtain ⟨q0, q1, qK, qE⟩ := q; exact ⟨q0, q1, va_K.moved (u := U) (U := U.calling g mk a) (Vm.Alike.refl U.vm) qK, EVS.blind g mk a qE⟩, gH_rc hK hT hr_o0 shm_0 rfl, fun U hU hW => ⟨rfl, hU, va_K.moved hW.alike hK, hE.call hS hFc hU hW⟩⟩ rfl rfl hl.1 rfl (lv_room (Nat.le_of_ble_eq_true rfl)) dX12_seep_38 ⟨(Nat.le_of_ble_eq_true rfl), (Nat.le_of_ble_eq_true rfl)⟩) hS (fun q _ h => hFc q h) hFc (fun r26 u t H locs ht hvm hw27 hB _ _ hS => ?_)
      obtain ⟨hT, hF1⟩ := hB
      rw [ht] at hT hF1
      have hF := hF.more hF1 (by decide)
      try dsimp only at hw27
      obtain ⟨h28, hd29⟩ := hw27
      obtain rfl : (0 : Int32) = r26 := hd29.symm
      refine lv_if_ne (tgt := 65) hx hb dX12_seep_41 (by decide) (fun c30 => absurd c30 (by decide)) (fun c30 => ?_)
      refine lv_aload_n hx hb dX12_seep_44 rfl (lv_at hl 0 rfl) ?_
      refine lv_aload_n hx hb dX12_seep_45 rfl (lv_at hl 0 rfl) ?_
      refine lv_iload_n hx hb dX12_seep_46 rfl (lv_at hl 1 rfl) ?_
      have hFc := gA_free hG hA hS
      refine va_calli (va_runV (As := [.int p0]) (rest := [.ref o0]) ⟨hx, hb, hml, hown, hts⟩ (s_isDike l dC dI kA adK adV G H q wZ wN wH wB wC wL wK wU wV PI im PM PT lS lB lE lN o0 p0 hT hr_o0 (by have q8 := ti_all p0; omega) hgz hgn hgh hgb hgc hgi hgu) (cwV 1 hts (goodIn_app (goodIn_r _ [23, 24, 25, 7] rfl (by decide +kernel)) (goodIn_ca (goodIn_r _ [15, 16, 3, 17, 18, 19, 7, 20, 21, 22] rfl (by decide +kernel)) (bs_in _ _))) rfl rfl rfl (by decide +kernel) ⟨(Nat.le_of_ble_eq_true rfl), (Nat.le_of_ble_eq_true rfl)⟩) ⟨fun a U g mk q => by obtain ⟨q0, q1, qK, qE⟩ := q; exact ⟨q0, q1, va_K.moved (u := U) (U := U.calling g mk a) (Vm.Alike.refl U.vm) qK, EVS.blind g mk a qE⟩, gH_rc hK hT hr_o0 shm_0 rfl, fun U hU hW => ⟨rfl, hU, va_K.moved hW.alike hK, hE.call hS hFc hU hW⟩⟩ rfl rfl hl.1 rfl (lv_room (Nat.le_of_ble_eq_true rfl)) dX12_seep_47 ⟨(Nat.le_of_ble_eq_true rfl), (Nat.le_of_ble_eq_true rfl)⟩) hS (fun q _ h => hFc q h) hFc (fun r31 u t H locs ht hvm hw32 hB _ _ hS => ?_)
      obtain ⟨hT, hF1⟩ := hB
      rw [ht] at hT hF1
      have hF := hF.more hF1 (by decide)
      try dsimp only at hw32
      obtain ⟨h33, hi34⟩ := hw32
      refine lv_if_ne (tgt := 57) hx hb dX12_seep_50 (by decide) (fun c35 => ?_) (fun c35 => ?_)
      · have t36 : r31.toInt ≠ 0 := ti_ne c35 rfl (by decide)
        have t37 : p0.toInt < wC → wK p0.toNatClampNeg := hi34 ((bit_of ⟨by omega, by omega⟩).resolve_left c35)
        refine lv_iconst (v := 0) hx hb dX12_seep_57 (by decide) ?_
        refine lv_iconst (v := 3) hx hb dX12_seep_58 (by decide) ?_
        have hFc := gA_free hG hA hS
        refine va_calli (va_runV (As := [.int 0, .int 3]) (rest := []) ⟨hx, hb, hml, hown, hts⟩ (s_throwsIf l dC dI kA adK adV G H q wZ wN wH wB wC wL wK wU wV PI im PM PT lS lB lE lN o0 0 3 hT hr_o0 (rg_t (a := 0) (by decide) (by first | decide | omega) (by first | decide | omega)) hgz hgn hgh hgb hgc hgi hgu) (cwV 2 hts (goodIn_app (goodIn_r _ [12, 13, 14, 7] rfl (by decide +kernel)) (goodIn_ca (goodIn_r _ [11, 1] rfl (by decide +kernel)) (bs_in _ _))) rfl rfl rfl (by decide +kernel) ⟨(Nat.le_of_ble_eq_true rfl), (Nat.le_of_ble_eq_true rfl)⟩) ⟨fun a U g mk q => by obtain ⟨q0, q1, qK, qE⟩ := q; exact ⟨q0, q1, va_K.moved (u := U) (U := U.calling g mk a) (Vm.Alike.refl U.vm) qK, EVS.blind g mk a qE⟩, gH_rc hK hT hr_o0 shm_0 rfl, fun U hU hW => ⟨rfl, hU, va_K.moved hW.alike hK, hE.call hS hFc hU hW⟩⟩ rfl rfl hl.1 rfl (lv_room (Nat.le_of_ble_eq_true rfl)) dX12_seep_59 ⟨(Nat.le_of_ble_eq_true rfl), (Nat.le_of_ble_eq_true rfl)⟩) hS (fun q _ h => hFc q h) hFc (fun r38 u t H locs ht hvm hw39 hB _ _ hS => ?_)
        obtain ⟨hT, hF1⟩ := hB
        rw [ht] at hT hF1
        have hF := hF.more hF1 (by decide)
        try dsimp only at hw39
        obtain ⟨h40, hd41⟩ := hw39
        obtain rfl : (0 : Int32) = r38 := hd41.symm
        refine lv_if_eq (tgt := 67) hx hb dX12_seep_62 (by decide) (fun c42 => ?_) (fun c42 => absurd c42 (by decide))
        refine lv_aload_n hx hb dX12_seep_67 rfl (lv_at hl 0 rfl) ?_
        refine lv_iload_n hx hb dX12_seep_68 rfl (lv_at hl 1 rfl) ?_
        refine lv_iconst (v := 0) hx hb dX12_seep_69 (by decide) ?_
        have hFc := gA_free hG hA hS
        refine va_calli (va_runV (As := [.int p0, .int 0]) (rest := []) ⟨hx, hb, hml, hown, hts⟩ (s_of0 l dC dI kA adK adV G H q wZ wN wH wB wC wL wK wU wV PI im PM PT lS lB lE lN o0 p0 hT hr_o0 (by have q8 := ti_all p0; omega) hgz hgn hgh hgb hgc hgi hgu) (cwV 2 hts (goodIn_app (goodIn_r _ [20, 21, 22, 7] rfl (by decide +kernel)) (goodIn_ca (goodIn_r _ [16, 3, 17, 18, 19, 7] rfl (by decide +kernel)) (bs_in _ _))) rfl rfl rfl (by decide +kernel) ⟨(Nat.le_of_ble_eq_true rfl), (Nat.le_of_ble_eq_true rfl)⟩) ⟨fun a U g mk q => by obtain ⟨q0, q1, qK, qE⟩ := q; exact ⟨q0, q1, va_K.moved (u := U) (U := U.calling g mk a) (Vm.Alike.refl U.vm) qK, EVS.blind g mk a qE⟩, gH_rc hK hT hr_o0 shm_0 rfl, fun U hU hW => ⟨rfl, hU, va_K.moved hW.alike hK, hE.call hS hFc hU hW⟩⟩ rfl rfl hl.1 rfl (lv_room (Nat.le_of_ble_eq_true rfl)) dX12_seep_70 ⟨(Nat.le_of_ble_eq_true rfl), (Nat.le_of_ble_eq_true rfl)⟩) hS (fun q _ h => hFc q h) hFc (fun r43 u t H locs ht hvm hw44 hB _ _ hS => ?_)
        obtain ⟨hT, hF1⟩ := hB
        rw [ht] at hT hF1
        have hF := hF.more hF1 (by decide)
        try dsimp only at hw44
        have ⟨ix45, hix45, m46⟩ := hw44
        have hg47 : G (q 1) = some 2 := gx_of hT hr_o0 shm_0 (k := 1) (by decide) rfl
        refine lv_iconst (v := 1) hx hb dX12_seep_73 (by decide) ?_
        refine lv_icmp_ne (tgt := 81) hx hb dX12_seep_74 (by decide) (fun c49 => ?_) (fun c49 => ?_)
        · have t50 : r43.toInt ≠ 1 := ti_ne c49 rfl (by decide)
          refine lv_aload_n hx hb dX12_seep_81 rfl (lv_at hl 0 rfl) ?_
          refine lv_iload_n hx hb dX12_seep_82 rfl (lv_at hl 1 rfl) ?_
          refine lv_iload_n hx hb dX12_seep_83 rfl (lv_at hl 2 rfl) ?_
          have hFc := gA_free hG hA hS
          refine va_calli (va_runV (As := [.int p0, .int p1]) (rest := []) ⟨hx, hb, hml, hown, hts⟩ (s_seepOf l dC dI kA adK adV G H q wZ wN wH wB wC wL wK wU wV PI im PM PT lS lB lE lN o0 p0 p1 hT hr_o0 (by have q8 := ti_all p0; omega) hgz hgn hgh hgb hgc hgi hgu) (cwV 2 hts (goodIn_app (goodIn_r _ [47, 48, 49, 7] rfl (by decide +kernel)) (goodIn_ca (goodIn_r _ [26, 16, 3, 17, 18, 19, 7, 20, 21, 22, 27, 28, 29, 30, 31, 32, 33, 34, 35, 36, 4, 5, 6, 37, 38, 39, 40, 41, 42, 43, 44, 45, 46] rfl (by decide +kernel)) (bs_in _ _))) rfl rfl rfl (by decide +kernel) ⟨(Nat.le_of_ble_eq_true rfl), (Nat.le_of_ble_eq_true rfl)⟩) ⟨fun a U g mk q => by obtain ⟨q0, q1, qK, qE⟩ := q; exact ⟨q0, q1, va_K.moved (u := U) (U := U.calling g mk a) (Vm.Alike.refl U.vm) qK, EVS.blind g mk a qE⟩, gH_rc hK hT hr_o0 shm_0 rfl, fun U hU hW => ⟨rfl, hU, va_K.moved hW.alike hK, hE.call hS hFc hU hW⟩⟩ rfl rfl hl.1 rfl (lv_room (Nat.le_of_ble_eq_true rfl)) dX12_seep_84 ⟨(Nat.le_of_ble_eq_true rfl), (Nat.le_of_ble_eq_true rfl)⟩) hS (fun q _ h => hFc q h) hFc (fun r51 u t H locs ht hvm hw52 hB _ _ hS => ?_)
          obtain ⟨hT, hF1⟩ := hB
          rw [ht] at hT hF1
          have hF := hF.more hF1 (by decide)
          try dsimp only at hw52
          have h54 := hw52
          exact W.iret (v := r51) hx hb hr (fun t ht hW => ⟨⟨r51, (), rfl, (by exact (by have q8 := ti_all r51; omega)), by (try dsimp only); rw [ht]; exact ⟨hT, hF⟩⟩, hS.F ht⟩) hS.2.2 dX12_seep_87
        · have t55 : r43.toInt = 1 := ti_eq c49 rfl (by decide)
          refine lv_iconst (v := 0) hx hb dX12_seep_77 (by decide) ?_
          refine lv_goto (tgt := 87) hx hb dX12_seep_78 (by decide) ?_
          exact W.iret (v := 0) hx hb hr (fun t ht hW => ⟨⟨0, (), rfl, (by exact (rg_t (a := 0) (by decide) (by first | decide | omega) (by first | decide | omega))), by (try dsimp only); rw [ht]; exact ⟨hT, hF⟩⟩, hS.F ht⟩) hS.2.2 dX12_seep_87
      · have t56 : r31.toInt = 0 := ti_eq c35 rfl (by decide)
        refine lv_iconst (v := 1) hx hb dX12_seep_53 (by decide) ?_
        refine lv_goto (tgt := 58) hx hb dX12_seep_54 (by decide) ?_
        refine lv_iconst (v := 3) hx hb dX12_seep_58 (by decide) ?_
        have hFc := gA_free hG hA hS
        refine va_calli (va_runV (As := [.int 1, .int 3]) (rest := []) ⟨hx, hb, hml, hown, hts⟩ (s_throwsIf l dC dI kA adK adV G H q wZ wN wH wB wC wL wK wU wV PI im PM PT lS lB lE lN o0 1 3 hT hr_o0 (rg_t (a := 1) (by decide) (by first | decide | omega) (by first | decide | omega)) hgz hgn hgh hgb hgc hgi hgu) (cwV 2 hts (goodIn_app (goodIn_r _ [12, 13, 14, 7] rfl (by decide +kernel)) (goodIn_ca (goodIn_r _ [11, 1] rfl (by decide +kernel)) (bs_in _ _))) rfl rfl rfl (by decide +kernel) ⟨(Nat.le_of_ble_eq_true rfl), (Nat.le_of_ble_eq_true rfl)⟩) ⟨fun a U g mk q => by obtain ⟨q0, q1, qK, qE⟩ := q; exact ⟨q0, q1, va_K.moved (u := U) (U := U.calling g mk a) (Vm.Alike.refl U.vm) qK, EVS.blind g mk a qE⟩, gH_rc hK hT hr_o0 shm_0 rfl, fun U hU hW => ⟨rfl, hU, va_K.moved hW.alike hK, hE.call hS hFc hU hW⟩⟩ rfl rfl hl.1 rfl (lv_room (Nat.le_of_ble_eq_true rfl)) dX12_seep_59 ⟨(Nat.le_of_ble_eq_true rfl), (Nat.le_of_ble_eq_true rfl)⟩) hS (fun q _ h => hFc q h) hFc (fun r57 u t H locs ht hvm hw58 hB _ _ hS => ?_)
        obtain ⟨hT, hF1⟩ := hB
        rw [ht] at hT hF1
        have hF := hF.more hF1 (by decide)
        try dsimp only at hw58
        obtain ⟨h59, hd60⟩ := hw58
        obtain rfl : (1 : Int32) = r57 := hd60.symm
        refine lv_if_eq (tgt := 67) hx hb dX12_seep_62 (by decide) (fun c61 => absurd c61 (by decide)) (fun c61 => ?_)
        refine lv_iconst (v := 0) hx hb dX12_seep_65 (by decide) ?_
        exact W.iret (v := 0) hx hb hr (fun t ht hW => ⟨⟨0, (), rfl, (by exact (rg_t (a := 0) (by decide) (by first | decide | omega) (by first | decide | omega))), by (try dsimp only); rw [ht]; exact ⟨hT, hF⟩⟩, hS.F ht⟩) hS.2.2 dX12_seep_66
    · have t62 : r16.toInt = 0 := ti_eq c21 rfl (by decide)
      have t63 : (1000 : Int32).toInt = 1000 := by decide
      have t64 : (-1000 : Int32).toInt = (-1000) := by decide
      have t65 : p1.toInt < (-1000 : Int32).toInt ∨ (1000 : Int32).toInt < p1.toInt := hi20 c21
      refine lv_iconst (v := 1) hx hb dX12_seep_32 (by decide) ?_
      refine lv_goto (tgt := 37) hx hb dX12_seep_33 (by decide) ?_
      refine lv_iconst (v := 2) hx hb dX12_seep_37 (by decide) ?_
      have hFc := gA_free hG hA hS
      refine va_calli (va_runV (As := [.int 1, .int 2]) (rest := []) ⟨hx, hb, hml, hown, hts⟩ (s_throwsIf l dC dI kA adK adV G H q wZ wN wH wB wC wL wK wU wV PI im PM PT lS lB lE lN o0 1 2 hT hr_o0 (rg_t (a := 1) (by decide) (by first | decide | omega) (by first | decide | omega)) hgz hgn hgh hgb hgc hgi hgu) (cwV 2 hts (goodIn_app (goodIn_r _ [12, 13, 14, 7] rfl (by decide +kernel)) (goodIn_ca (goodIn_r _ [11, 1] rfl (by decide +kernel)) (bs_in _ _))) rfl rfl rfl (by decide +kernel) ⟨(Nat.le_of_ble_eq_true rfl), (Nat.le_of_ble_eq_true rfl)⟩) ⟨fun a U g mk q => by obtain ⟨q0, q1, qK, qE⟩ := q; exact ⟨q0, q1, va_K.moved (u := U) (U := U.calling g mk a) (Vm.Alike.refl U.vm) qK, EVS.blind g mk a qE⟩, gH_rc hK hT hr_o0 shm_0 rfl, fun U hU hW => ⟨rfl, hU, va_K.moved hW.alike hK, hE.call hS hFc hU hW⟩⟩ rfl rfl hl.1 rfl (lv_room (Nat.le_of_ble_eq_true rfl)) dX12_seep_38 ⟨(Nat.le_of_ble_eq_true rfl), (Nat.le_of_ble_eq_true rfl)⟩) hS (fun q _ h => hFc q h) hFc (fun r66 u t H locs ht hvm hw67 hB _ _ hS => ?_)
      obtain ⟨hT, hF1⟩ := hB
      rw [ht] at hT hF1
      have hF := hF.more hF1 (by decide)
      try dsimp only at hw67
      obtain ⟨h68, hd69⟩ := hw67
      obtain rfl : (1 : Int32) = r66 := hd69.symm
      refine lv_if_ne (tgt := 65) hx hb dX12_seep_41 (by decide) (fun c70 => ?_) (fun c70 => absurd c70 (by decide))
      refine lv_iconst (v := 0) hx hb dX12_seep_65 (by decide) ?_
      exact W.iret (v := 0) hx hb hr (fun t ht hW => ⟨⟨0, (), rfl, (by exact (rg_t (a := 0) (by decide) (by first | decide | omega) (by first | decide | omega))), by (try dsimp only); rw [ht]; exact ⟨hT, hF⟩⟩, hS.F ht⟩) hS.2.2 dX12_seep_66
