set_option maxHeartbeats 4000000 in
set_option maxRecDepth 100000 in
theorem c_sumThatHoldsN (l : Launch) (dC : Nat → ClassId) (dI : Nat → Nat → Nat) (kA : Nat → ClassId) (adK adV : Nat → Nat) (G : gT) (H0 : Heap) (nC nS : Int) (o0 : Nat) (p0 : Int32) (p1 : Nat)  (hT : gH (dC, dI) kA (SHc nC nS) G H0) (hr_p1 : G p1 = some 56) (hr_o0 : G o0 = some 7) (hgC : 0 ≤ nC ∧ nC ≤ 40) (hgS : 0 ≤ nS ∧ nS ≤ 60) : Met l yX4_sumThatHolds w_c_sumThatHoldsN ({ frames := 3, cells := 0, slots := 0, locals := 89 }) (va_Pc [.ref o0, .int p0, .ref p1] (fun U => U.heap = H0 ∧ va_K (dC, dI) vwCl (tyl kA) U ∧ EVC adK adV (gA G H0.size) U U.heap)) (va_Ql (fun (r : Int64) (u : Unit) => (0 ≤ r.toInt ∧ r.toInt ≤ 1999980)) (fun (_ : Unit) (t : State) => gH (dC, dI) kA (SHc nC nS) G t.heap ∧ gF (dC, dI) SKc G ([(50, 0)] : List (Nat × Nat)) H0 t.heap) (gA G H0.size)) 0 0 (gA G H0.size) := by
  refine Met.ofW (cc := cX4_sumThatHolds) (maxL := 6) (ret := (some .long)) (by decide) rfl ?_
  intro p e s m args below meth c s₁ B hml hv
  obtain ⟨rfl, hH0, hK, hE⟩ := hv
  have hx := B.exec
  have hb := B.bytes
  have hr := B.returns
  have hts := atoms_spec (ws := w_c_sumThatHoldsN) B.pre
  have hown : s.vm.findClass RX4 = some m.cls := findClass_of_methodNamed B.named
  have hlocks := B.notSynchronized
  subst hH0
  generalize hAe : gA G s.heap.size = A at hE ⊢
  have hA : ∀ q : Nat, s.heap.size ≤ q → A q := fun q h => by rw [← hAe]; exact Or.inr h
  have hG := gA_of hAe
  have hS : va_S A s.heap s.heap [] := va_S.rf
  have hF : gF (dC, dI) SKc G ([(50, 0)] : List (Nat × Nat)) s.heap s.heap := gF.rf
  have hl := lv_entry ([.ref o0, .int p0, .ref p1]) (n := 6) (Nat.le_of_ble_eq_true rfl)
  rw [lg_entry_eq]
  generalize (lg_sl ([.ref o0, .int p0, .ref p1]) ++ List.replicate (6 - (lg_sl ([.ref o0, .int p0, .ref p1])).length) Slot.unset).toArray = ls at hl ⊢
  have hl : lv_has ls 6 [(0, .ref o0), (1, .int p0), (2, .ref p1)] := hl
  refine lv_lconst (v := 0) hx hb dX4_sumThatHolds_0 (by decide) ?_
  refine lv_lstore_n (lv' := [(3, .long 0), (0, .ref o0), (1, .int p0), (2, .ref p1)]) hx hb dX4_sumThatHolds_1 rfl hl (by decide) rfl (fun ls hl => ?_)
  refine lv_iconst (v := 0) hx hb dX4_sumThatHolds_2 (by decide) ?_
  refine lv_istore (lv' := [(5, .int 0), (3, .long 0), (0, .ref o0), (1, .int p0), (2, .ref p1)]) hx hb dX4_sumThatHolds_3 hl (by decide) rfl (fun ls hl => ?_)
  have key66 : ∀ (n66 i1 : Nat), i1 + n66 = 20 → 0 ≤ i1 → ∀ (y34 : Int64), ((0 ≤ y34.toInt ∧ y34.toInt ≤ 99999 * ((i1 : Nat) : Int))) → ∀ (H : Heap) (locs : List Loc), gH (dC, dI) kA (SHc nC nS) G H → gF (dC, dI) SKc G ([(50, 0)] : List (Nat × Nat)) s.heap H → va_S A s.heap H locs → ∀ ls : Array Slot, lv_has ls 6 [(5, .int (nI i1)), (3, .long y34), (0, .ref o0), (1, .int p0), (2, .ref p1)] → W p l e (headSpec w_c_sumThatHoldsN ({ frames := 3, cells := 0, slots := 0, locals := 89 })).room s m #[.ref o0, .int p0, .ref p1] below meth c H locs 0 0 (MQ below (va_Ql (fun (r : Int64) (u : Unit) => (0 ≤ r.toInt ∧ r.toInt ≤ 1999980)) (fun (_ : Unit) (t : State) => gH (dC, dI) kA (SHc nC nS) G t.heap ∧ gF (dC, dI) SKc G ([(50, 0)] : List (Nat × Nat)) s.heap t.heap) A) #[.ref o0, .int p0, .ref p1] s 0 0 A) (F0 m 5 ls []) := by
    intro n66
    induction n66 with
    | zero =>
      intro i1 hn66 hlo67 y34 hj35 H locs hT hF hS  ls hl
      obtain rfl : 20 = i1 := by omega
      refine lv_iload hx hb dX4_sumThatHolds_5 (lv_at hl 0 rfl) ?_
      refine lv_aload_n hx hb dX4_sumThatHolds_7 rfl (lv_at hl 2 rfl) ?_
      refine tw_get hx hb hts bF2_X4 hown hK hT hr_o0 shc_7 rfl 11 (by decide) (ht_at2 hts 0 rfl) (fun _ h9 => h9) dX4_sumThatHolds_8 (fun v9 m68 h9 => ?_)
      obtain ⟨x69, rfl, gx69, kx69⟩ := h9 _ rfl
      refine lv_icmp_ge (tgt := 52) hx hb dX4_sumThatHolds_11 (by decide) (fun c70 => ?_) (fun c70 => (by exfalso; have q9 : ((20 : Nat) : Int) < x69.toInt := ti_nle c70 rfl (nI_toInt (by omega)); omega))
      have t71 : x69.toInt ≤ ((20 : Nat) : Int) := ti_le c70 rfl (nI_toInt (by omega))
      refine lv_lload_n hx hb dX4_sumThatHolds_52 rfl (lv_at hl 1 rfl) ?_
      exact W.lret (v := y34) hx hb hr (fun t ht hW => ⟨⟨y34, (), rfl, (by exact (by exact ⟨by omega, by omega⟩)), by (try dsimp only); rw [ht]; exact ⟨hT, hF⟩⟩, hS.F ht⟩) hS.2.2 dX4_sumThatHolds_53
    | succ n66 ih66 =>
      intro i1 hn66 hlo67 y34 hj35 H locs hT hF hS  ls hl
      have hlt71 : i1 < 20 := by omega
      refine lv_iload hx hb dX4_sumThatHolds_5 (lv_at hl 0 rfl) ?_
      refine lv_aload_n hx hb dX4_sumThatHolds_7 rfl (lv_at hl 2 rfl) ?_
      refine tw_get hx hb hts bF2_X4 hown hK hT hr_o0 shc_7 rfl 11 (by decide) (ht_at2 hts 0 rfl) (fun _ h9 => h9) dX4_sumThatHolds_8 (fun v9 m72 h9 => ?_)
      obtain ⟨x73, rfl, gx73, kx73⟩ := h9 _ rfl
      refine lv_icmp_ge (tgt := 52) hx hb dX4_sumThatHolds_11 (by decide) (fun c74 => ?_) (fun c74 => ?_)
      · have t75 : x73.toInt ≤ ((i1 : Nat) : Int) := ti_le c74 rfl (nI_toInt (by omega))
        refine lv_lload_n hx hb dX4_sumThatHolds_52 rfl (lv_at hl 1 rfl) ?_
        exact W.lret (v := y34) hx hb hr (fun t ht hW => ⟨⟨y34, (), rfl, (by exact (by exact ⟨by omega, by omega⟩)), by (try dsimp only); rw [ht]; exact ⟨hT, hF⟩⟩, hS.F ht⟩) hS.2.2 dX4_sumThatHolds_53
      · have t76 : ((i1 : Nat) : Int) < x73.toInt := ti_nle c74 rfl (nI_toInt (by omega))
        refine lv_aload_n hx hb dX4_sumThatHolds_14 rfl (lv_at hl 2 rfl) ?_
        refine tw_get hx hb hts bF2_X4 hown hK hT hr_o0 shc_7 rfl 2 (by decide) (ht_at2 hts 1 rfl) (fun _ h9 => h9) dX4_sumThatHolds_15 (fun v9 m77 h9 => ?_)
        obtain ⟨b78, rfl, hg79⟩ := h9 _ rfl
        refine lv_iload hx hb dX4_sumThatHolds_18 (lv_at hl 0 rfl) ?_
        refine tw_iald (i := (nI i1)) hx hb hK hT hg79 shc_42 rfl (vp_in_nI (by omega) (by decide)) dX4_sumThatHolds_20 (fun v9 m80 h9 => ?_)
        obtain ⟨x81, rfl, gx81, kx81⟩ := h9
        refine lv_iload_n hx hb dX4_sumThatHolds_21 rfl (lv_at hl 3 rfl) ?_
        have t82 : -2147483648 ≤ x81.toInt ∧ x81.toInt ≤ 2147483647 := ti_all x81
        have t83 : -2147483648 ≤ p0.toInt ∧ p0.toInt ≤ 2147483647 := ti_all p0
        refine lv_icmp_ne (tgt := 46) hx hb dX4_sumThatHolds_22 (by decide) (fun c84 => ?_) (fun c84 => ?_)
        · have t85 : x81.toInt ≠ p0.toInt := ti_ne c84 rfl rfl
          refine lv_iinc (v := nI (i1 + 1)) (lv' := [(5, .int (nI (i1 + 1))), (3, .long y34), (0, .ref o0), (1, .int p0), (2, .ref p1)]) hx hb dX4_sumThatHolds_46 hl (k := 0) rfl (nI_add i1 1) (by decide) rfl (fun ls hl => ?_)
          refine lv_goto (tgt := 5) hx hb dX4_sumThatHolds_49 (by decide) ?_
          exact ih66 (i1 + 1) (by omega) (by omega) y34 (by omega) _ _ hT hF hS ls (lv_sub hl [0, 1, 2, 3, 4] rfl)
        · have t86 : x81.toInt = p0.toInt := ti_eq c84 rfl rfl
          refine lv_aload_n hx hb dX4_sumThatHolds_25 rfl (lv_at hl 2 rfl) ?_
          refine lv_iload hx hb dX4_sumThatHolds_26 (lv_at hl 0 rfl) ?_
          refine lv_aload_n hx hb dX4_sumThatHolds_28 rfl (lv_at hl 4 rfl) ?_
          have hFc := gA_free hG hA hS
          refine va_calli (va_runV (As := [.int (nI i1), .ref p1]) (rest := []) ⟨hx, hb, hml, hown, hts⟩ (c_lineHolds l dC dI kA adK adV G H nC nS o0 (nI i1) p1 hT hr_p1 hr_o0 (rg_t (a := ((i1 : Nat) : Int)) (nI_toInt (by omega)) (by omega) (by omega)) (by omega) (by omega)) (cwV 2 hts (goodIn_app (goodIn_r _ [16, 17, 18, 15] rfl (by decide +kernel)) (goodIn_ca (goodIn_r _ [3, 4, 5, 6, 7, 8, 9, 10, 11, 12, 13, 14, 15] rfl (by decide +kernel)) (bs2_in _ _))) rfl rfl rfl (by decide +kernel) ⟨(Nat.le_of_ble_eq_true rfl), (Nat.le_of_ble_eq_true rfl)⟩) ⟨fun a U g mk q => by obtain ⟨q0, q1, qK, qE⟩ := q; exact ⟨q0, q1, va_K.moved (u := U) (U := U.calling g mk a) (Vm.Alike.refl U.vm) qK, EVC.blind g mk a qE⟩, gH_rc hK hT hr_o0 shc_7 rfl, fun U hU hW => ⟨rfl, hU, va_K.moved hW.alike hK, hE.call hS hFc hU hW⟩⟩ rfl rfl hl.1 rfl (lv_room (Nat.le_of_ble_eq_true rfl)) dX4_sumThatHolds_29 ⟨(Nat.le_of_ble_eq_true rfl), (Nat.le_of_ble_eq_true rfl)⟩) hS (fun q _ h => hFc q h) hFc (fun r87 u t H locs ht hvm hw88 hB _ _ hS => ?_)
          obtain ⟨hT, hF1⟩ := hB
          rw [ht] at hT hF1
          have hF := hF.more hF1 (by decide)
          try dsimp only at hw88
          have h92 := hw88
          refine lv_if_eq (tgt := 46) hx hb dX4_sumThatHolds_32 (by decide) (fun c93 => ?_) (fun c93 => ?_)
          · have t94 : r87.toInt = 0 := ti_eq c93 rfl (by decide)
            refine lv_iinc (v := nI (i1 + 1)) (lv' := [(5, .int (nI (i1 + 1))), (3, .long y34), (0, .ref o0), (1, .int p0), (2, .ref p1)]) hx hb dX4_sumThatHolds_46 hl (k := 0) rfl (nI_add i1 1) (by decide) rfl (fun ls hl => ?_)
            refine lv_goto (tgt := 5) hx hb dX4_sumThatHolds_49 (by decide) ?_
            exact ih66 (i1 + 1) (by omega) (by omega) y34 (by omega) _ _ hT hF hS ls (lv_sub hl [0, 1, 2, 3, 4] rfl)
          · have t95 : r87.toInt ≠ 0 := ti_ne c93 rfl (by decide)
            refine lv_lload_n hx hb dX4_sumThatHolds_35 rfl (lv_at hl 1 rfl) ?_
            refine lv_aload_n hx hb dX4_sumThatHolds_36 rfl (lv_at hl 2 rfl) ?_
            refine tw_get hx hb hts bF2_X4 hown hK hT hr_o0 shc_7 rfl 3 (by decide) (ht_at2 hts 18 rfl) (fun _ h9 => h9) dX4_sumThatHolds_37 (fun v9 m96 h9 => ?_)
            obtain ⟨b97, rfl, hg98⟩ := h9 _ rfl
            refine lv_iload hx hb dX4_sumThatHolds_40 (lv_at hl 0 rfl) ?_
            refine tw_iald (i := (nI i1)) hx hb hK hT hg98 shc_43 rfl (vp_in_nI (by omega) (by decide)) dX4_sumThatHolds_42 (fun v9 m99 h9 => ?_)
            obtain ⟨x100, rfl, gx100, kx100⟩ := h9
            refine lv_i2l (v := x100.toInt64) hx hb dX4_sumThatHolds_43 rfl ?_
            refine lv_ladd hx hb dX4_sumThatHolds_44 ?_
            refine lv_topl (fun y101 ey101 => ?_)
            have t102 : y101.toInt = y34.toInt + x100.toInt := tl_a ey101 rfl ((Int32.toInt_toInt64 _).trans rfl) (by omega) (by omega)
            refine lv_lstore_n (lv' := [(3, .long y101), (5, .int (nI i1)), (0, .ref o0), (1, .int p0), (2, .ref p1)]) hx hb dX4_sumThatHolds_45 rfl hl (by decide) rfl (fun ls hl => ?_)
            refine lv_iinc (v := nI (i1 + 1)) (lv' := [(5, .int (nI (i1 + 1))), (3, .long y101), (0, .ref o0), (1, .int p0), (2, .ref p1)]) hx hb dX4_sumThatHolds_46 hl (k := 1) rfl (nI_add i1 1) (by decide) rfl (fun ls hl => ?_)
            refine lv_goto (tgt := 5) hx hb dX4_sumThatHolds_49 (by decide) ?_
            exact ih66 (i1 + 1) (by omega) (by omega) y101 (by omega) _ _ hT hF hS ls (lv_sub hl [0, 1, 2, 3, 4] rfl)
  exact key66 (20 - 0) 0 (by omega) (Nat.le_refl _) 0 (by have y8 : (0 : Int64).toInt = 0 := (by decide); omega) _ _ hT hF hS ls (lv_sub hl [0, 1, 2, 3, 4] rfl)
def w_c_ruledN : List Cond := .code yX0_ruled cX0_ruled 2 (some .int) :: (HAppend.hAppend (α := List Cond) (β := List Cond) (γ := List Cond) [.fieldLink RX0 41 "SeaLand$Board" "force" "LSeaLand$Law;", .fieldLink RX0 33 "SeaLand$Board" "facts" "[J", .code yX4_sumThatHolds cX4_sumThatHolds 6 (some .long), .fieldLink RX4 60 "SeaLand$Law" "lines" "I", .fieldLink RX4 18 "SeaLand$Law" "kinds" "[I", .code yX4_lineHolds cX4_lineHolds 6 (some .boolean), .fieldLink RX4 33 "SeaLand$Law" "stepFrom" "[I", .fieldLink RX4 36 "SeaLand$Law" "stepTo" "[I", .fieldLink RX4 39 "SeaLand$Law" "steps" "[I", .fieldLink RX4 42 "SeaLand$Law" "stack" "[J", .code yX4_joined cX4_joined 5 (some .long), .methodLink RX4 199 Lib.MathLoose.max_long.x, .static Lib.MathLoose.max_long.x, .initialized "java/lang/Math", .code Lib.MathLoose.max_long.x Lib.MathLoose.max_long.code 4 (some .long), .methodLink RX4 195 yX4_joined, .static yX4_joined, .initialized RX4, .methodLink RX4 203 yX4_lineHolds, .instanceMethod yX4_lineHolds, .selects RX4 yX4_lineHolds yX4_lineHolds, .fieldLink RX4 21 "SeaLand$Law" "firsts" "[I", .methodLink RX0 130 yX4_sumThatHolds, .instanceMethod yX4_sumThatHolds, .selects RX4 yX4_sumThatHolds yX4_sumThatHolds] bs2)
set_option maxHeartbeats 4000000 in
set_option maxRecDepth 100000 in
theorem c_ruledN (l : Launch) (dC : Nat → ClassId) (dI : Nat → Nat → Nat) (kA : Nat → ClassId) (adK adV : Nat → Nat) (G : gT) (H0 : Heap) (nC nS : Int) (o0 : Nat) (p0 : Int32)  (hT : gH (dC, dI) kA (SHc nC nS) G H0) (hr_o0 : G o0 = some 3) (hgC : 0 ≤ nC ∧ nC ≤ 40) (hgS : 0 ≤ nS ∧ nS ≤ 60) : Met l yX0_ruled w_c_ruledN ({ frames := 4, cells := 0, slots := 0, locals := 114 }) (va_Pc [.ref o0, .int p0] (fun U => U.heap = H0 ∧ va_K (dC, dI) vwCl (tyl kA) U ∧ EVC adK adV (gA G H0.size) U U.heap)) (va_Qi (fun (r : Int32) (u : Unit) => (0 ≤ r.toInt ∧ r.toInt ≤ 1999980)) (fun (_ : Unit) (t : State) => gH (dC, dI) kA (SHc nC nS) G t.heap ∧ gF (dC, dI) SKc G ([(50, 0)] : List (Nat × Nat)) H0 t.heap) (gA G H0.size)) 0 0 (gA G H0.size) := by
  refine Met.ofW (cc := cX0_ruled) (maxL := 2) (ret := (some .int)) (by decide) rfl ?_
  intro p e s m args below meth c s₁ B hml hv
  obtain ⟨rfl, hH0, hK, hE⟩ := hv
  have hx := B.exec
  have hb := B.bytes
  have hr := B.returns
  have hts := atoms_spec (ws := w_c_ruledN) B.pre
  have hown : s.vm.findClass RX0 = some m.cls := findClass_of_methodNamed B.named
  have hlocks := B.notSynchronized
  subst hH0
  generalize hAe : gA G s.heap.size = A at hE ⊢
  have hA : ∀ q : Nat, s.heap.size ≤ q → A q := fun q h => by rw [← hAe]; exact Or.inr h
  have hG := gA_of hAe
  have hS : va_S A s.heap s.heap [] := va_S.rf
  have hF : gF (dC, dI) SKc G ([(50, 0)] : List (Nat × Nat)) s.heap s.heap := gF.rf
  have hl := lv_entry ([.ref o0, .int p0]) (n := 2) (Nat.le_of_ble_eq_true rfl)
  rw [lg_entry_eq]
  generalize (lg_sl ([.ref o0, .int p0]) ++ List.replicate (2 - (lg_sl ([.ref o0, .int p0])).length) Slot.unset).toArray = ls at hl ⊢
  have hl : lv_has ls 2 [(0, .ref o0), (1, .int p0)] := hl
  refine lv_aload_n hx hb dX0_ruled_0 rfl (lv_at hl 0 rfl) ?_
  refine tw_get hx hb hts bF2_X0 hown hK hT hr_o0 shc_3 rfl 7 (by decide) (ht_at2 hts 0 rfl) (fun _ h9 => h9) dX0_ruled_1 (fun v9 m1 h9 => ?_)
  obtain ⟨b2, rfl, hg3⟩ := h9 _ rfl
  refine lv_iload_n hx hb dX0_ruled_4 rfl (lv_at hl 1 rfl) ?_
  refine lv_aload_n hx hb dX0_ruled_5 rfl (lv_at hl 0 rfl) ?_
  refine tw_get hx hb hts bF2_X0 hown hK hT hr_o0 shc_3 rfl 5 (by decide) (ht_at2 hts 1 rfl) (fun _ h9 => h9) dX0_ruled_6 (fun v9 m4 h9 => ?_)
  obtain ⟨b5, rfl, hg6⟩ := h9 _ rfl
  have hFc := gA_free hG hA hS
  refine va_calll (va_runV (As := [.int p0, .ref b5]) (rest := []) ⟨hx, hb, hml, hown, hts⟩ (c_sumThatHoldsN l dC dI kA adK adV G s.heap nC nS b2 p0 b5 hT hg6 hg3 (by omega) (by omega)) (cwV 2 hts (goodIn_app (goodIn_r _ [23, 24, 25, 18] rfl (by decide +kernel)) (goodIn_ca (goodIn_r _ [3, 4, 5, 6, 7, 8, 9, 10, 11, 12, 13, 14, 15, 16, 17, 18, 19, 20, 21, 22] rfl (by decide +kernel)) (bs2_in _ _))) rfl rfl rfl (by decide +kernel) ⟨(Nat.le_of_ble_eq_true rfl), (Nat.le_of_ble_eq_true rfl)⟩) ⟨fun a U g mk q => by obtain ⟨q0, q1, qK, qE⟩ := q; exact ⟨q0, q1, va_K.moved (u := U) (U := U.calling g mk a) (Vm.Alike.refl U.vm) qK, EVC.blind g mk a qE⟩, gH_rc hK hT hg3 shc_7 rfl, fun U hU hW => ⟨rfl, hU, va_K.moved hW.alike hK, hE.call hS hFc hU hW⟩⟩ rfl rfl hl.1 rfl (lv_room (Nat.le_of_ble_eq_true rfl)) dX0_ruled_9 ⟨(Nat.le_of_ble_eq_true rfl), (Nat.le_of_ble_eq_true rfl)⟩) hS (fun q _ h => hFc q h) hFc (fun r7 u t H locs ht hvm hw8 hB _ _ hS => ?_)
  obtain ⟨hT, hF1⟩ := hB
  rw [ht] at hT hF1
  have hF := hF.more hF1 (by decide)
  try dsimp only at hw8
  have hf11 := hw8
  have t12 : 0 ≤ r7.toInt ∧ r7.toInt ≤ 1999980 := hf11
  refine lv_l2i (v := r7.toInt32) hx hb dX0_ruled_12 rfl ?_
  refine lv_topi (fun x13 ex13 => ?_)
  have t14 : x13.toInt = r7.toInt := tl_i ex13 rfl (by omega) (by omega)
  exact W.iret (v := x13) hx hb hr (fun t ht hW => ⟨⟨x13, (), rfl, (by exact (by have q8 := ti_all x13; omega)), by (try dsimp only); rw [ht]; exact ⟨hT, hF⟩⟩, hS.F ht⟩) hS.2.2 dX0_ruled_13
def w_c_acresOfZ : List Cond := .code yX0_acresOf cX0_acresOf 4 (some .int) :: (HAppend.hAppend (α := List Cond) (β := List Cond) (γ := List Cond) [] bs2)
set_option maxHeartbeats 4000000 in
set_option maxRecDepth 100000 in
theorem c_acresOfZ (l : Launch) (dC : Nat → ClassId) (dI : Nat → Nat → Nat) (kA : Nat → ClassId) (adK adV : Nat → Nat) (G : gT) (H0 : Heap) (nC nS : Int) (o0 : Nat) (p0 : Nat) (fmv : Int32)  (hT : gH (dC, dI) kA (SHc nC nS) G H0) (hr_p0 : G p0 = some 10) (hr_o0 : G o0 = some 3) (hm_fmv : el H0 p0 (dI 10 7) = some (.int fmv)) (hq0 : -1 ≤ fmv.toInt ∧ fmv.toInt ≤ -1) (hgC : 0 ≤ nC ∧ nC ≤ 40) (hgS : 0 ≤ nS ∧ nS ≤ 60) : Met l yX0_acresOf w_c_acresOfZ ({ frames := 0, cells := 0, slots := 0, locals := 0 }) (va_Pc [.ref o0, .ref p0] (fun U => U.heap = H0 ∧ va_K (dC, dI) vwCl (tyl kA) U ∧ EVC adK adV (gA G H0.size) U U.heap)) (va_Qi (fun (r : Int32) (u : Unit) => (0 ≤ r.toInt ∧ r.toInt ≤ 0) ∧ (r = 0)) (fun (_ : Unit) (t : State) => gH (dC, dI) kA (SHc nC nS) G t.heap ∧ gF (dC, dI) SKc G ([] : List (Nat × Nat)) H0 t.heap) (gA G H0.size)) 0 0 (gA G H0.size) := by
  refine Met.ofW (cc := cX0_acresOf) (maxL := 4) (ret := (some .int)) (by decide) rfl ?_
  intro p e s m args below meth c s₁ B hml hv
  obtain ⟨rfl, hH0, hK, hE⟩ := hv
  have hx := B.exec
  have hb := B.bytes
  have hr := B.returns
  have hts := atoms_spec (ws := w_c_acresOfZ) B.pre
  have hown : s.vm.findClass RX0 = some m.cls := findClass_of_methodNamed B.named
  have hlocks := B.notSynchronized
  subst hH0
  generalize hAe : gA G s.heap.size = A at hE ⊢
  have hA : ∀ q : Nat, s.heap.size ≤ q → A q := fun q h => by rw [← hAe]; exact Or.inr h
  have hG := gA_of hAe
  have hS : va_S A s.heap s.heap [] := va_S.rf
  have hF : gF (dC, dI) SKc G ([] : List (Nat × Nat)) s.heap s.heap := gF.rf
  have hl := lv_entry ([.ref o0, .ref p0]) (n := 4) (Nat.le_of_ble_eq_true rfl)
  rw [lg_entry_eq]
  generalize (lg_sl ([.ref o0, .ref p0]) ++ List.replicate (4 - (lg_sl ([.ref o0, .ref p0])).length) Slot.unset).toArray = ls at hl ⊢
  have hl : lv_has ls 4 [(0, .ref o0), (1, .ref p0)] := hl
  refine lv_iconst (v := 0) hx hb dX0_acresOf_0 (by decide) ?_
  refine lv_istore_n (lv' := [(2, .int 0), (0, .ref o0), (1, .ref p0)]) hx hb dX0_acresOf_1 rfl hl (by decide) rfl (fun ls hl => ?_)
  refine lv_iconst (v := 0) hx hb dX0_acresOf_2 (by decide) ?_
  refine lv_istore_n (lv' := [(3, .int 0), (2, .int 0), (0, .ref o0), (1, .ref p0)]) hx hb dX0_acresOf_3 rfl hl (by decide) rfl (fun ls hl => ?_)
  refine lv_iload_n hx hb dX0_acresOf_4 rfl (lv_at hl 0 rfl) ?_
  refine lv_bipush (v := 96) hx hb dX0_acresOf_5 (by decide) ?_
  refine lv_icmp_ge (tgt := 45) hx hb dX0_acresOf_7 (by decide) (fun c1 => absurd c1 (by decide)) (fun c1 => ?_)
  refine lv_aload_n hx hb dX0_acresOf_10 rfl (lv_at hl 3 rfl) ?_
  refine tw_getNM (v := .int fmv) hx hb hts bF2_X7 hown hK hT hr_p0 shc_10 rfl 7 (by decide) (hE.nw 61 rfl) (fun _ h9 => h9) hm_fmv dX0_acresOf_11 ?_
  refine lv_iconst (v := (-1)) hx hb dX0_acresOf_14 (by decide) ?_
  refine lv_icmp_eq (tgt := 45) hx hb dX0_acresOf_15 (by decide) (fun c2 => ?_) (fun c2 => (by exfalso; have q9 : fmv.toInt ≠ (-1) := ti_ne c2 rfl (by decide); omega))
  have t3 : fmv.toInt = (-1) := ti_eq c2 rfl (by decide)
  refine lv_iload_n hx hb dX0_acresOf_45 rfl (lv_at hl 1 rfl) ?_
  exact W.iret (v := 0) hx hb hr (fun t ht hW => ⟨⟨0, (), rfl, (by exact ⟨(rg_t (a := 0) (by decide) (by first | decide | omega) (by first | decide | omega)), rfl⟩), by (try dsimp only); rw [ht]; exact ⟨hT, hF⟩⟩, hS.F ht⟩) hS.2.2 dX0_acresOf_46
def w_c_nearOfZ : List Cond := .code yX0_nearOf cX0_nearOf 5 (some .int) :: (HAppend.hAppend (α := List Cond) (β := List Cond) (γ := List Cond) [] bs2)
set_option maxHeartbeats 4000000 in
set_option maxRecDepth 100000 in
theorem c_nearOfZ (l : Launch) (dC : Nat → ClassId) (dI : Nat → Nat → Nat) (kA : Nat → ClassId) (adK adV : Nat → Nat) (G : gT) (H0 : Heap) (nC nS : Int) (o0 : Nat) (p0 : Nat) (p1 : Nat) (fmv : Int32)  (hT : gH (dC, dI) kA (SHc nC nS) G H0) (hr_p0 : G p0 = some 10) (hr_p1 : G p1 = some 6) (hr_o0 : G o0 = some 3) (hm_fmv : el H0 p0 (dI 10 7) = some (.int fmv)) (hq0 : -1 ≤ fmv.toInt ∧ fmv.toInt ≤ -1) (hgC : 0 ≤ nC ∧ nC ≤ 40) (hgS : 0 ≤ nS ∧ nS ≤ 60) : Met l yX0_nearOf w_c_nearOfZ ({ frames := 0, cells := 0, slots := 0, locals := 0 }) (va_Pc [.ref o0, .ref p0, .ref p1] (fun U => U.heap = H0 ∧ va_K (dC, dI) vwCl (tyl kA) U ∧ EVC adK adV (gA G H0.size) U U.heap)) (va_Qi (fun (r : Int32) (u : Unit) => (99 ≤ r.toInt ∧ r.toInt ≤ 99) ∧ (r = 99)) (fun (_ : Unit) (t : State) => gH (dC, dI) kA (SHc nC nS) G t.heap ∧ gF (dC, dI) SKc G ([] : List (Nat × Nat)) H0 t.heap) (gA G H0.size)) 0 0 (gA G H0.size) := by
  refine Met.ofW (cc := cX0_nearOf) (maxL := 5) (ret := (some .int)) (by decide) rfl ?_
  intro p e s m args below meth c s₁ B hml hv
  obtain ⟨rfl, hH0, hK, hE⟩ := hv
  have hx := B.exec
  have hb := B.bytes
  have hr := B.returns
  have hts := atoms_spec (ws := w_c_nearOfZ) B.pre
  have hown : s.vm.findClass RX0 = some m.cls := findClass_of_methodNamed B.named
  have hlocks := B.notSynchronized
  subst hH0
  generalize hAe : gA G s.heap.size = A at hE ⊢
  have hA : ∀ q : Nat, s.heap.size ≤ q → A q := fun q h => by rw [← hAe]; exact Or.inr h
  have hG := gA_of hAe
  have hS : va_S A s.heap s.heap [] := va_S.rf
  have hF : gF (dC, dI) SKc G ([] : List (Nat × Nat)) s.heap s.heap := gF.rf
  have hl := lv_entry ([.ref o0, .ref p0, .ref p1]) (n := 5) (Nat.le_of_ble_eq_true rfl)
  rw [lg_entry_eq]
  generalize (lg_sl ([.ref o0, .ref p0, .ref p1]) ++ List.replicate (5 - (lg_sl ([.ref o0, .ref p0, .ref p1])).length) Slot.unset).toArray = ls at hl ⊢
  have hl : lv_has ls 5 [(0, .ref o0), (1, .ref p0), (2, .ref p1)] := hl
  refine lv_bipush (v := 99) hx hb dX0_nearOf_0 (by decide) ?_
  refine lv_istore_n (lv' := [(3, .int 99), (0, .ref o0), (1, .ref p0), (2, .ref p1)]) hx hb dX0_nearOf_2 rfl hl (by decide) rfl (fun ls hl => ?_)
  refine lv_iconst (v := 0) hx hb dX0_nearOf_3 (by decide) ?_
  refine lv_istore (lv' := [(4, .int 0), (3, .int 99), (0, .ref o0), (1, .ref p0), (2, .ref p1)]) hx hb dX0_nearOf_4 hl (by decide) rfl (fun ls hl => ?_)
  refine lv_iload hx hb dX0_nearOf_6 (lv_at hl 0 rfl) ?_
  refine lv_bipush (v := 96) hx hb dX0_nearOf_8 (by decide) ?_
  refine lv_icmp_ge (tgt := 52) hx hb dX0_nearOf_10 (by decide) (fun c1 => absurd c1 (by decide)) (fun c1 => ?_)
  refine lv_aload_n hx hb dX0_nearOf_13 rfl (lv_at hl 3 rfl) ?_
  refine tw_getNM (v := .int fmv) hx hb hts bF2_X7 hown hK hT hr_p0 shc_10 rfl 7 (by decide) (hE.nw 61 rfl) (fun _ h9 => h9) hm_fmv dX0_nearOf_14 ?_
  refine lv_iconst (v := (-1)) hx hb dX0_nearOf_17 (by decide) ?_
  refine lv_icmp_eq (tgt := 52) hx hb dX0_nearOf_18 (by decide) (fun c2 => ?_) (fun c2 => (by exfalso; have q9 : fmv.toInt ≠ (-1) := ti_ne c2 rfl (by decide); omega))
  have t3 : fmv.toInt = (-1) := ti_eq c2 rfl (by decide)
  refine lv_iload_n hx hb dX0_nearOf_52 rfl (lv_at hl 1 rfl) ?_
  exact W.iret (v := 99) hx hb hr (fun t ht hW => ⟨⟨99, (), rfl, (by exact ⟨(rg_t (a := 99) (by decide) (by first | decide | omega) (by first | decide | omega)), rfl⟩), by (try dsimp only); rw [ht]; exact ⟨hT, hF⟩⟩, hS.F ht⟩) hS.2.2 dX0_nearOf_53
def w_c_gatherFactsZ : List Cond := .code yX0_gatherFacts cX0_gatherFacts 3 none :: (HAppend.hAppend (α := List Cond) (β := List Cond) (γ := List Cond) [.fieldLink RX0 33 "SeaLand$Board" "facts" "[J", .code yX0_acresOf cX0_acresOf 4 (some .int), .methodLink RX0 98 yX0_acresOf, .instanceMethod yX0_acresOf, .selects RX0 yX0_acresOf yX0_acresOf, .initialized RX0, .code yX0_nearOf cX0_nearOf 5 (some .int), .methodLink RX0 123 yX0_nearOf, .instanceMethod yX0_nearOf, .selects RX0 yX0_nearOf yX0_nearOf] bs2)
