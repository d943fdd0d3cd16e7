def w_c_giveFarmsH : List Cond := .code yX0_giveFarms cX0_giveFarms 7 (some .int) :: (HAppend.hAppend (α := List Cond) (β := List Cond) (γ := List Cond) [.fieldLink RX0 75 "SeaLand$Board" "settled" "I", .fieldLink RX0 185 "SeaLand$Board" "holding" "I", .code yX0_firstByMark cX0_firstByMark 3 (some .int), .fieldLink RX0 37 "SeaLand$Board" "marks" "[I", .fieldLink RX0 11 "SeaLand$Board" "settlers" "[LSeaLand$Settler;", .methodLink RX0 173 yX0_firstByMark, .instanceMethod yX0_firstByMark, .selects RX0 yX0_firstByMark yX0_firstByMark, .initialized RX0, .code yX0_bestFreeFarm cX0_bestFreeFarm 6 (some .int), .fieldLink RX0 143 "SeaLand$Board" "farms" "I", .fieldLink RX0 24 "SeaLand$Board" "held" "[Z", .code yX0_worthOf cX0_worthOf 7 (some .int), .fieldLink RX0 17 "SeaLand$Board" "farmOf" "[I", .methodLink RX0 161 Lib.Math.max.name, .static Lib.Math.max.name, .initialized "java/lang/Math", .code Lib.Math.max.name Lib.Math.max.code 2 (some .int), .methodLink RX0 191 yX0_worthOf, .instanceMethod yX0_worthOf, .selects RX0 yX0_worthOf yX0_worthOf, .methodLink RX0 181 yX0_bestFreeFarm, .instanceMethod yX0_bestFreeFarm, .selects RX0 yX0_bestFreeFarm yX0_bestFreeFarm, .code yX0_gatherFacts cX0_gatherFacts 3 none, .fieldLink RX0 33 "SeaLand$Board" "facts" "[J", .code yX0_acresOf cX0_acresOf 4 (some .int), .methodLink RX0 98 yX0_acresOf, .instanceMethod yX0_acresOf, .selects RX0 yX0_acresOf yX0_acresOf, .code yX0_nearOf cX0_nearOf 5 (some .int), .code yX3_stepsToBank cX3_stepsToBank 4 (some .int), .fieldLink RX3 47 "SeaLand$Lake" "built" "I", .fieldLink RX3 27 "SeaLand$Lake" "works" "[LSeaLand$Work;", .code yX10_isBank cX10_isBank 1 (some .boolean), .fieldLink RX10 18 "SeaLand$Work" "kind" "I", .methodLink RX3 67 yX10_isBank, .instanceMethod yX10_isBank, .selects RX10 yX10_isBank yX10_isBank, .initialized RX10, .code yX11_stepsApart cX11_stepsApart 2 (some .int), .methodLink RX11 580 Lib.Math.abs.name, .static Lib.Math.abs.name, .code Lib.Math.abs.name Lib.Math.abs.code 1 (some .int), .initialized RX11, .static yX11_stepsApart, .methodLink RX3 71 Lib.Math.min.name, .static Lib.Math.min.name, .code Lib.Math.min.name Lib.Math.min.code 2 (some .int), .methodLink RX0 138 yX3_stepsToBank, .instanceMethod yX3_stepsToBank, .selects RX3 yX3_stepsToBank yX3_stepsToBank, .initialized RX3, .methodLink RX0 166 Lib.Math.min.name, .methodLink RX0 123 yX0_nearOf, .instanceMethod yX0_nearOf, .selects RX0 yX0_nearOf yX0_nearOf, .methodLink RX0 84 yX0_gatherFacts, .instanceMethod yX0_gatherFacts, .selects RX0 yX0_gatherFacts yX0_gatherFacts, .code yX0_isRuled cX0_isRuled 2 (some .boolean), .fieldLink RX0 41 "SeaLand$Board" "force" "LSeaLand$Law;", .code yX4_firstThatHolds cX4_firstThatHolds 4 (some .int), .fieldLink RX4 60 "SeaLand$Law" "lines" "I", .fieldLink RX4 18 "SeaLand$Law" "kinds" "[I", .code yX4_lineHolds cX4_lineHolds 6 (some .boolean), .fieldLink RX4 33 "SeaLand$Law" "stepFrom" "[I", .fieldLink RX4 36 "SeaLand$Law" "stepTo" "[I", .fieldLink RX4 39 "SeaLand$Law" "steps" "[I", .fieldLink RX4 42 "SeaLand$Law" "stack" "[J", .code yX4_joined cX4_joined 5 (some .long), .methodLink RX4 199 Lib.MathLoose.max_long.x, .static Lib.MathLoose.max_long.x, .code Lib.MathLoose.max_long.x Lib.MathLoose.max_long.code 4 (some .long), .methodLink RX4 195 yX4_joined, .static yX4_joined, .initialized RX4, .methodLink RX4 203 yX4_lineHolds, .instanceMethod yX4_lineHolds, .selects RX4 yX4_lineHolds yX4_lineHolds, .methodLink RX0 134 yX4_firstThatHolds, .instanceMethod yX4_firstThatHolds, .selects RX4 yX4_firstThatHolds yX4_firstThatHolds, .methodLink RX0 169 yX0_isRuled, .instanceMethod yX0_isRuled, .selects RX0 yX0_isRuled yX0_isRuled, .code yX0_ruled cX0_ruled 2 (some .int), .code yX4_sumThatHolds cX4_sumThatHolds 6 (some .long), .fieldLink RX4 21 "SeaLand$Law" "firsts" "[I", .methodLink RX0 130 yX4_sumThatHolds, .instanceMethod yX4_sumThatHolds, .selects RX4 yX4_sumThatHolds yX4_sumThatHolds, .methodLink RX0 88 yX0_ruled, .instanceMethod yX0_ruled, .selects RX0 yX0_ruled yX0_ruled] bs2)
set_option maxHeartbeats 4000000 in
set_option maxRecDepth 100000 in
theorem c_giveFarmsH (l : Launch) (dC : Nat → ClassId) (dI : Nat → Nat → Nat) (kA : Nat → ClassId) (adK adV : Nat → Nat) (G : gT) (H0 : Heap) (nC nS : Int) (o0 : Nat) (p0 : Int32) (p1 : Nat) (hd9 : Nat) (hv0 : Int32) (vh : Nat → Int32)  (hT : gH (dC, dI) kA (SHc nC nS) G H0) (hr_p1 : G p1 = some 6) (hr_o0 : G o0 = some 3) (hm_hd9 : el H0 o0 (dI 3 3) = some (.ref hd9)) (hr_hd9 : G hd9 = some 54) (hm_hv0 : el H0 o0 (dI 3 15) = some (.int hv0)) (hq0 : 0 ≤ p0.toInt ∧ p0.toInt ≤ 60) (hq1 : 0 ≤ hv0.toInt ∧ hv0.toInt ≤ 30) (hct : zct vh 30 = hv0.toInt) (hc_vh : ct H0 hd9 30 vh) (hgC : 0 ≤ nC ∧ nC ≤ 40) (hgS : 0 ≤ nS ∧ nS ≤ 60) : Met l yX0_giveFarms w_c_giveFarmsH ({ frames := 5, cells := 0, slots := 0, locals := 135 }) (va_Pc [.ref o0, .int p0, .ref p1] (fun U => U.heap = H0 ∧ va_K (dC, dI) vwCl (tyl kA) U ∧ EVC adK adV (gA G H0.size) U U.heap)) (va_Qi (fun (r : Int32) (u : Int32 × (Nat → Int32)) => match u with | (hl1, vh1) => (0 ≤ r.toInt ∧ r.toInt ≤ 60) ∧ (zct vh1 30 = hl1.toInt ∧ hv0.toInt ≤ hl1.toInt)) (fun (u : Int32 × (Nat → Int32)) (t : State) => match u with | (hl1, vh1) => gH (dC, dI) kA (SHc nC nS) G t.heap ∧ gF (dC, dI) SKc G ([(3, 15), (10, 7), (50, 0), (54, 0), (56, 0), (57, 0)] : List (Nat × Nat)) H0 t.heap ∧ el t.heap o0 (dI 3 15) = some (.int hl1) ∧ ct t.heap hd9 30 vh1) (gA G H0.size)) 0 0 (gA G H0.size) := by
  refine Met.ofW (cc := cX0_giveFarms) (maxL := 7) (ret := (some .int)) (by decide) rfl ?_
  intro p e s m args below meth c s₁ B hml hv
  obtain ⟨rfl, hH0, hK, hE⟩ := hv
  have hx := B.exec
  have hb := B.bytes
  have hr := B.returns
  have hts := atoms_spec (ws := w_c_giveFarmsH) B.pre
  have hown : s.vm.findClass RX0 = some m.cls := findClass_of_methodNamed B.named
  have hlocks := B.notSynchronized
  subst hH0
  generalize hAe : gA G s.heap.size = A at hE ⊢
  have hA : ∀ q : Nat, s.heap.size ≤ q → A q := fun q h => by rw [← hAe]; exact Or.inr h
  have hG := gA_of hAe
  have hS : va_S A s.heap s.heap [] := va_S.rf
  have hF : gF (dC, dI) SKc G ([(3, 15), (10, 7), (50, 0), (54, 0), (56, 0), (57, 0)] : List (Nat × Nat)) s.heap s.heap := gF.rf
  have hl := lv_entry ([.ref o0, .int p0, .ref p1]) (n := 7) (Nat.le_of_ble_eq_true rfl)
  rw [lg_entry_eq]
  generalize (lg_sl ([.ref o0, .int p0, .ref p1]) ++ List.replicate (7 - (lg_sl ([.ref o0, .int p0, .ref p1])).length) Slot.unset).toArray = ls at hl ⊢
  have hl : lv_has ls 7 [(0, .ref o0), (1, .int p0), (2, .ref p1)] := hl
  refine lv_iconst (v := 0) hx hb dX0_giveFarms_0 (by decide) ?_
  refine lv_istore_n (lv' := [(3, .int 0), (0, .ref o0), (1, .int p0), (2, .ref p1)]) hx hb dX0_giveFarms_1 rfl hl (by decide) rfl (fun ls hl => ?_)
  have key290 : ∀ (n290 i1 : Nat), i1 + n290 = 60 → 0 ≤ i1 → ∀ (H : Heap) (locs : List Loc), gH (dC, dI) kA (SHc nC nS) G H → gF (dC, dI) SKc G ([(3, 15), (10, 7), (50, 0), (54, 0), (56, 0), (57, 0)] : List (Nat × Nat)) s.heap H → va_S A s.heap H locs → ct H hd9 30 vh → el H o0 (dI 3 3) = some (.ref hd9) → el H o0 (dI 3 15) = some (.int hv0) → ∀ ls : Array Slot, lv_has ls 7 [(3, .int (nI i1)), (0, .ref o0), (1, .int p0), (2, .ref p1)] → W p l e (headSpec w_c_giveFarmsH ({ frames := 5, cells := 0, slots := 0, locals := 135 })).room s m #[.ref o0, .int p0, .ref p1] below meth c H locs 0 0 (MQ below (va_Qi (fun (r : Int32) (u : Int32 × (Nat → Int32)) => match u with | (hl1, vh1) => (0 ≤ r.toInt ∧ r.toInt ≤ 60) ∧ (zct vh1 30 = hl1.toInt ∧ hv0.toInt ≤ hl1.toInt)) (fun (u : Int32 × (Nat → Int32)) (t : State) => match u with | (hl1, vh1) => gH (dC, dI) kA (SHc nC nS) G t.heap ∧ gF (dC, dI) SKc G ([(3, 15), (10, 7), (50, 0), (54, 0), (56, 0), (57, 0)] : List (Nat × Nat)) s.heap t.heap ∧ el t.heap o0 (dI 3 15) = some (.int hl1) ∧ ct t.heap hd9 30 vh1) A) #[.ref o0, .int p0, .ref p1] s 0 0 A) (F0 m 2 ls []) := by
    intro n290
    induction n290 with
    | zero =>
      intro i1 hn290 hlo291  H locs hT hF hS m2 m3 m4 ls hl
      obtain rfl : 60 = i1 := by omega
      refine lv_iload_n hx hb dX0_giveFarms_2 rfl (lv_at hl 0 rfl) ?_
      refine lv_aload_n hx hb dX0_giveFarms_3 rfl (lv_at hl 1 rfl) ?_
      refine tw_get hx hb hts bF2_X0 hown hK hT hr_o0 shc_3 rfl 14 (by decide) (ht_at2 hts 0 rfl) (fun _ h9 => h9) dX0_giveFarms_4 (fun v9 m292 h9 => ?_)
      obtain ⟨x293, rfl, gx293, kx293⟩ := h9 _ rfl
      refine lv_icmp_ge (tgt := 76) hx hb dX0_giveFarms_7 (by decide) (fun c294 => ?_) (fun c294 => (by exfalso; have q9 : ((60 : Nat) : Int) < x293.toInt := ti_nle c294 rfl (nI_toInt (by omega)); omega))
      have t295 : x293.toInt ≤ ((60 : Nat) : Int) := ti_le c294 rfl (nI_toInt (by omega))
      refine lv_iconst (v := 0) hx hb dX0_giveFarms_76 (by decide) ?_
      refine lv_istore_n (lv' := [(3, .int 0), (0, .ref o0), (1, .int p0), (2, .ref p1)]) hx hb dX0_giveFarms_77 rfl hl (by decide) rfl (fun ls hl => ?_)
      refine lv_iconst (v := 0) hx hb dX0_giveFarms_78 (by decide) ?_
      refine lv_istore (lv' := [(4, .int 0), (3, .int 0), (0, .ref o0), (1, .int p0), (2, .ref p1)]) hx hb dX0_giveFarms_79 hl (by decide) rfl (fun ls hl => ?_)
      have key394 : ∀ (n394 i296 : Nat), i296 + n394 = 60 → 0 ≤ i296 → ∀ (z297 : Int32), ∀ (V299 : Nat → Int32), ((0 ≤ z297.toInt ∧ z297.toInt ≤ 60) ∧ (zct V299 30 = hv0.toInt + z297.toInt) ∧ (0 ≤ z297.toInt ∧ z297.toInt ≤ ((i296 : Nat) : Int))) → ∀ (H : Heap) (locs : List Loc), gH (dC, dI) kA (SHc nC nS) G H → gF (dC, dI) SKc G ([(3, 15), (10, 7), (50, 0), (54, 0), (56, 0), (57, 0)] : List (Nat × Nat)) s.heap H → va_S A s.heap H locs → ct H hd9 30 V299 → el H o0 (dI 3 3) = some (.ref hd9) → el H o0 (dI 3 15) = some (.int hv0) → el H o0 (dI 3 14) = some (.int x293) → ∀ ls : Array Slot, lv_has ls 7 [(4, .int (nI i296)), (3, .int z297), (0, .ref o0), (1, .int p0), (2, .ref p1)] → W p l e (headSpec w_c_giveFarmsH ({ frames := 5, cells := 0, slots := 0, locals := 135 })).room s m #[.ref o0, .int p0, .ref p1] below meth c H locs 0 0 (MQ below (va_Qi (fun (r : Int32) (u : Int32 × (Nat → Int32)) => match u with | (hl1, vh1) => (0 ≤ r.toInt ∧ r.toInt ≤ 60) ∧ (zct vh1 30 = hl1.toInt ∧ hv0.toInt ≤ hl1.toInt)) (fun (u : Int32 × (Nat → Int32)) (t : State) => match u with | (hl1, vh1) => gH (dC, dI) kA (SHc nC nS) G t.heap ∧ gF (dC, dI) SKc G ([(3, 15), (10, 7), (50, 0), (54, 0), (56, 0), (57, 0)] : List (Nat × Nat)) s.heap t.heap ∧ el t.heap o0 (dI 3 15) = some (.int hl1) ∧ ct t.heap hd9 30 vh1) A) #[.ref o0, .int p0, .ref p1] s 0 0 A) (F0 m 81 ls []) := by
        intro n394
        induction n394 with
        | zero =>
          intro i296 hn394 hlo395 z297 V299 ⟨h298, hj304, hj305⟩ H locs hT hF hS m300 m301 m302 m303 ls hl
          obtain rfl : 60 = i296 := by omega
          refine lv_iload hx hb dX0_giveFarms_81 (lv_at hl 0 rfl) ?_
          refine lv_iload_n hx hb dX0_giveFarms_83 rfl (lv_at hl 3 rfl) ?_
          refine lv_icmp_ge (tgt := 155) hx hb dX0_giveFarms_84 (by decide) (fun c396 => ?_) (fun c396 => (by exfalso; have q9 : ((60 : Nat) : Int) < p0.toInt := ti_nle c396 rfl (nI_toInt (by omega)); omega))
          have t397 : p0.toInt ≤ ((60 : Nat) : Int) := ti_le c396 rfl (nI_toInt (by omega))
          refine lv_aload_n hx hb dX0_giveFarms_155 rfl (lv_at hl 2 rfl) ?_
          refine lv_dup hx hb dX0_giveFarms_156 rfl ?_
          refine tw_getM (v := .int hv0) hx hb hts bF2_X0 hown hK hT hr_o0 shc_3 rfl 15 (by decide) (ht_at2 hts 1 rfl) (fun _ h9 => h9) m302 dX0_giveFarms_157 ?_
          refine lv_iload_n hx hb dX0_giveFarms_160 rfl (lv_at hl 1 rfl) ?_
          refine lv_iadd hx hb dX0_giveFarms_161 ?_
          refine lv_topi (fun x398 ex398 => ?_)
          have t399 : x398.toInt = hv0.toInt + z297.toInt := ti_add ex398 rfl rfl (by omega) (by omega)
          refine tw_put (v := .int x398) (ty := .int) hx hb hts bF2_X0 tyX0 tyX0_ok nmX0 hown hK hT hG hS hr_o0 shc_3 rfl 15 (by decide) (ht_at2 hts 1 rfl) (fun _ h9 => h9) rfl (by decide +kernel) rfl rfl (gl_at rfl (gi_all _)) dX0_giveFarms_162 (fun H locs hT oq m400 oj hS => ?_)
          have hF := hF.put hr_o0 skc_3 oq oj (by decide)
          have m401 := m300.kept (oq _ (gne hr_hd9 hr_o0 (by decide)))
          refine lv_iload_n hx hb dX0_giveFarms_165 rfl (lv_at hl 1 rfl) ?_
          exact W.iret (v := z297) hx hb hr (fun t ht hW => ⟨⟨z297, (x398, V299), rfl, (by exact ⟨(by have q8 := ti_all z297; omega), (by have := (show x398.toInt = x398.toInt from rfl); have := hj304; exact ⟨by omega, by omega⟩)⟩), by (try dsimp only); rw [ht]; exact ⟨hT, hF, m400, m401⟩⟩, hS.F ht⟩) hS.2.2 dX0_giveFarms_166
        | succ n394 ih394 =>
          intro i296 hn394 hlo395 z297 V299 ⟨h298, hj304, hj305⟩ H locs hT hF hS m300 m301 m302 m303 ls hl
          have hlt403 : i296 < 60 := by omega
          refine lv_iload hx hb dX0_giveFarms_81 (lv_at hl 0 rfl) ?_
          refine lv_iload_n hx hb dX0_giveFarms_83 rfl (lv_at hl 3 rfl) ?_
          refine lv_icmp_ge (tgt := 155) hx hb dX0_giveFarms_84 (by decide) (fun c404 => ?_) (fun c404 => ?_)
          · have t405 : p0.toInt ≤ ((i296 : Nat) : Int) := ti_le c404 rfl (nI_toInt (by omega))
            refine lv_aload_n hx hb dX0_giveFarms_155 rfl (lv_at hl 2 rfl) ?_
            refine lv_dup hx hb dX0_giveFarms_156 rfl ?_
            refine tw_getM (v := .int hv0) hx hb hts bF2_X0 hown hK hT hr_o0 shc_3 rfl 15 (by decide) (ht_at2 hts 1 rfl) (fun _ h9 => h9) m302 dX0_giveFarms_157 ?_
            refine lv_iload_n hx hb dX0_giveFarms_160 rfl (lv_at hl 1 rfl) ?_
            refine lv_iadd hx hb dX0_giveFarms_161 ?_
            refine lv_topi (fun x406 ex406 => ?_)
            have t407 : x406.toInt = hv0.toInt + z297.toInt := ti_add ex406 rfl rfl (by omega) (by omega)
            refine tw_put (v := .int x406) (ty := .int) hx hb hts bF2_X0 tyX0 tyX0_ok nmX0 hown hK hT hG hS hr_o0 shc_3 rfl 15 (by decide) (ht_at2 hts 1 rfl) (fun _ h9 => h9) rfl (by decide +kernel) rfl rfl (gl_at rfl (gi_all _)) dX0_giveFarms_162 (fun H locs hT oq m408 oj hS => ?_)
            have hF := hF.put hr_o0 skc_3 oq oj (by decide)
            have m409 := m300.kept (oq _ (gne hr_hd9 hr_o0 (by decide)))
            refine lv_iload_n hx hb dX0_giveFarms_165 rfl (lv_at hl 1 rfl) ?_
            exact W.iret (v := z297) hx hb hr (fun t ht hW => ⟨⟨z297, (x406, V299), rfl, (by exact ⟨(by have q8 := ti_all z297; omega), (by have := (show x406.toInt = x406.toInt from rfl); have := hj304; exact ⟨by omega, by omega⟩)⟩), by (try dsimp only); rw [ht]; exact ⟨hT, hF, m408, m409⟩⟩, hS.F ht⟩) hS.2.2 dX0_giveFarms_166
          · have t412 : ((i296 : Nat) : Int) < p0.toInt := ti_nle c404 rfl (nI_toInt (by omega))
            refine lv_aload_n hx hb dX0_giveFarms_87 rfl (lv_at hl 2 rfl) ?_
            have hFc := gA_free hG hA hS
            refine va_calli (va_runV (As := []) (rest := []) ⟨hx, hb, hml, hown, hts⟩ (c_firstByMark l dC dI kA adK adV G H nC nS o0 hT hr_o0 (by omega) (by omega)) (cwV 0 hts (goodIn_app (goodIn_r _ [6, 7, 8, 9] rfl (by decide +kernel)) (goodIn_ca (goodIn_r _ [3, 1, 4, 5] rfl (by decide +kernel)) (bs2_in _ _))) rfl rfl rfl (by decide +kernel) ⟨(Nat.le_of_ble_eq_true rfl), (Nat.le_of_ble_eq_true rfl)⟩) ⟨fun a U g mk q => by obtain ⟨q0, q1, qK, qE⟩ := q; exact ⟨q0, q1, va_K.moved (u := U) (U := U.calling g mk a) (Vm.Alike.refl U.vm) qK, EVC.blind g mk a qE⟩, gH_rc hK hT hr_o0 shc_3 rfl, fun U hU hW => ⟨rfl, hU, va_K.moved hW.alike hK, hE.call hS hFc hU hW⟩⟩ rfl rfl hl.1 rfl (lv_room (Nat.le_of_ble_eq_true rfl)) dX0_giveFarms_88 ⟨(Nat.le_of_ble_eq_true rfl), (Nat.le_of_ble_eq_true rfl)⟩) hS (fun q _ h => hFc q h) hFc (fun r413 u t H locs ht hvm hw414 hB _ _ hS => ?_)
            obtain ⟨hT, hF1⟩ := hB
            rw [ht] at hT hF1
            have m415 := m300.kept (hF1.arr hr_hd9 skc_54 (by decide))
            have m416 := (hF1.fld hr_o0 skc_3 (k := 3) (by decide) (by decide)).trans m301
            have m417 := (hF1.fld hr_o0 skc_3 (k := 15) (by decide) (by decide)).trans m302
            have m418 := (hF1.fld hr_o0 skc_3 (k := 14) (by decide) (by decide)).trans m303
            have hF := hF.more hF1 (by decide)
            try dsimp only at hw414
            obtain ⟨h419, hf420⟩ := hw414
            refine lv_istore (lv' := [(5, .int r413), (4, .int (nI i296)), (3, .int z297), (0, .ref o0), (1, .int p0), (2, .ref p1)]) hx hb dX0_giveFarms_91 hl (by decide) rfl (fun ls hl => ?_)
            refine lv_aload_n hx hb dX0_giveFarms_93 rfl (lv_at hl 3 rfl) ?_
            refine lv_aload_n hx hb dX0_giveFarms_94 rfl (lv_at hl 5 rfl) ?_
            refine tw_getN hx hb hts bF2_X3 hown hK hT hr_p1 shc_6 rfl 1 (by decide) (hE.nw 73 rfl) (fun _ h9 => h9) dX0_giveFarms_95 (fun v9 m421 h9 => ?_)
            obtain ⟨b422, rfl, hg423⟩ := h9 _ rfl
            have hFc := gA_free hG hA hS
            refine va_calli (va_runV (As := [.ref b422]) (rest := []) ⟨hx, hb, hml, hown, hts⟩ (c_bestFreeFarmH l dC dI kA adK adV G H nC nS o0 b422 hd9 V299 hT hg423 hr_o0 m416 hr_hd9 m415 (by omega) (by omega)) (cwV 1 hts (goodIn_app (goodIn_r _ [22, 23, 24, 9] rfl (by decide +kernel)) (goodIn_ca (goodIn_r _ [10, 11, 12, 13, 14, 15, 16, 17, 18, 19, 20, 21, 9] rfl (by decide +kernel)) (bs2_in _ _))) rfl rfl rfl (by decide +kernel) ⟨(Nat.le_of_ble_eq_true rfl), (Nat.le_of_ble_eq_true rfl)⟩) ⟨fun a U g mk q => by obtain ⟨q0, q1, qK, qE⟩ := q; exact ⟨q0, q1, va_K.moved (u := U) (U := U.calling g mk a) (Vm.Alike.refl U.vm) qK, EVC.blind g mk a qE⟩, gH_rc hK hT hr_o0 shc_3 rfl, fun U hU hW => ⟨rfl, hU, va_K.moved hW.alike hK, hE.call hS hFc hU hW⟩⟩ rfl rfl hl.1 rfl (lv_room (Nat.le_of_ble_eq_true rfl)) dX0_giveFarms_98 ⟨(Nat.le_of_ble_eq_true rfl), (Nat.le_of_ble_eq_true rfl)⟩) hS (fun q _ h => hFc q h) hFc (fun r424 u t H locs ht hvm hw425 hB _ _ hS => ?_)
            obtain ⟨hT, hF1⟩ := hB
            rw [ht] at hT hF1
            have m426 := m415.kept (hF1.arr hr_hd9 skc_54 (by decide))
            have m427 := (hF1.fld hr_o0 skc_3 (k := 3) (by decide) (by decide)).trans m416
            have m428 := (hF1.fld hr_o0 skc_3 (k := 15) (by decide) (by decide)).trans m417
            have m429 := (hF1.fld hr_o0 skc_3 (k := 14) (by decide) (by decide)).trans m418
            have hF := hF.more hF1 (by decide)
            try dsimp only at hw425
            obtain ⟨h431, hf432⟩ := hw425
            refine lv_istore (lv' := [(6, .int r424), (5, .int r413), (4, .int (nI i296)), (3, .int z297), (0, .ref o0), (1, .int p0), (2, .ref p1)]) hx hb dX0_giveFarms_101 hl (by decide) rfl (fun ls hl => ?_)
            refine lv_iload hx hb dX0_giveFarms_103 (lv_at hl 1 rfl) ?_
            refine lv_iconst (v := (-1)) hx hb dX0_giveFarms_105 (by decide) ?_
            refine lv_icmp_eq (tgt := 155) hx hb dX0_giveFarms_106 (by decide) (fun c433 => ?_) (fun c433 => ?_)
            · have t434 : r413.toInt = (-1) := ti_eq c433 rfl (by decide)
              refine lv_aload_n hx hb dX0_giveFarms_155 rfl (lv_at hl 4 rfl) ?_
              refine lv_dup hx hb dX0_giveFarms_156 rfl ?_
              refine tw_getM (v := .int hv0) hx hb hts bF2_X0 hown hK hT hr_o0 shc_3 rfl 15 (by decide) (ht_at2 hts 1 rfl) (fun _ h9 => h9) m428 dX0_giveFarms_157 ?_
              refine lv_iload_n hx hb dX0_giveFarms_160 rfl (lv_at hl 3 rfl) ?_
              refine lv_iadd hx hb dX0_giveFarms_161 ?_
              refine lv_topi (fun x435 ex435 => ?_)
              have t436 : x435.toInt = hv0.toInt + z297.toInt := ti_add ex435 rfl rfl (by omega) (by omega)
              refine tw_put (v := .int x435) (ty := .int) hx hb hts bF2_X0 tyX0 tyX0_ok nmX0 hown hK hT hG hS hr_o0 shc_3 rfl 15 (by decide) (ht_at2 hts 1 rfl) (fun _ h9 => h9) rfl (by decide +kernel) rfl rfl (gl_at rfl (gi_all _)) dX0_giveFarms_162 (fun H locs hT oq m437 oj hS => ?_)
              have hF := hF.put hr_o0 skc_3 oq oj (by decide)
              have m438 := m426.kept (oq _ (gne hr_hd9 hr_o0 (by decide)))
              refine lv_iload_n hx hb dX0_giveFarms_165 rfl (lv_at hl 3 rfl) ?_
              exact W.iret (v := z297) hx hb hr (fun t ht hW => ⟨⟨z297, (x435, V299), rfl, (by exact ⟨(by have q8 := ti_all z297; omega), (by have := (show x435.toInt = x435.toInt from rfl); have := hj304; exact ⟨by omega, by omega⟩)⟩), by (try dsimp only); rw [ht]; exact ⟨hT, hF, m437, m438⟩⟩, hS.F ht⟩) hS.2.2 dX0_giveFarms_166
            · have t442 : r413.toInt ≠ (-1) := ti_ne c433 rfl (by decide)
              refine lv_iload hx hb dX0_giveFarms_109 (lv_at hl 0 rfl) ?_
              refine lv_iconst (v := (-1)) hx hb dX0_giveFarms_111 (by decide) ?_
              refine lv_icmp_ne (tgt := 118) hx hb dX0_giveFarms_112 (by decide) (fun c443 => ?_) (fun c443 => ?_)
              · have t444 : r424.toInt ≠ (-1) := ti_ne c443 rfl (by decide)
                refine lv_aload_n hx hb dX0_giveFarms_118 rfl (lv_at hl 4 rfl) ?_
                refine tw_get hx hb hts bF2_X0 hown hK hT hr_o0 shc_3 rfl 6 (by decide) (ht_at2 hts 3 rfl) (fun _ h9 => h9) dX0_giveFarms_119 (fun v9 m445 h9 => ?_)
                obtain ⟨b446, rfl, hg447⟩ := h9 _ rfl
                refine lv_iload hx hb dX0_giveFarms_122 (lv_at hl 1 rfl) ?_
                refine lv_iconst (v := (-1)) hx hb dX0_giveFarms_124 (by decide) ?_
                refine tw_iast (i := r413) (x := (-1)) hx hb hK hT hG hS hg447 shc_57 rfl (vin_t (a := r413.toInt) rfl (by omega) (by omega)) (gi_all _) dX0_giveFarms_125 (fun H locs hT oq m448 oi hS => ?_)
                have hF := hF.ast hg447 skc_57 oq (by decide)
                have m449 := m426.kept (oq _ (gne hr_hd9 hg447 (by decide)))
                have m450 := (el_kept (oq _ (gne hr_o0 hg447 (by decide)))).trans m427
                have m451 := (el_kept (oq _ (gne hr_o0 hg447 (by decide)))).trans m428
                have m452 := (el_kept (oq _ (gne hr_o0 hg447 (by decide)))).trans m429
                refine lv_aload_n hx hb dX0_giveFarms_126 rfl (lv_at hl 4 rfl) ?_
                refine tw_get hx hb hts bF2_X0 hown hK hT hr_o0 shc_3 rfl 0 (by decide) (ht_at2 hts 4 rfl) (fun _ h9 => h9) dX0_giveFarms_127 (fun v9 m455 h9 => ?_)
                obtain ⟨b456, rfl, hg457⟩ := h9 _ rfl
                refine lv_iload hx hb dX0_giveFarms_130 (lv_at hl 1 rfl) ?_
                refine tw_aald (i := r413) hx hb hK hT hg457 shc_51 rfl (vin_t (a := r413.toInt) rfl (by omega) (by omega)) dX0_giveFarms_132 (fun v9 m458 h9 => ?_)
                obtain ⟨b459, rfl, hg460⟩ := (h9.1 (by have q9 := tn_of (show r413.toInt = r413.toInt from rfl) (by omega); omega))
                refine lv_iload hx hb dX0_giveFarms_133 (lv_at hl 0 rfl) ?_
                refine tw_putN (v := .int r424) (ty := .int) hx hb hts bF2_X7 tyX7 tyX7_ok nmX7 hown hK hT hG hS hg460 shc_10 rfl 7 (by decide) (hE.nw 61 rfl) (fun _ h9 => h9) rfl (by decide +kernel) rfl rfl (gl_at rfl (gi_of (show r424.toInt = r424.toInt from rfl) (by omega) (by omega))) dX0_giveFarms_135 (fun H locs hT oq m461 oj hS => ?_)
                have hF := hF.put hg460 skc_10 oq oj (by decide)
                have m462 := m449.kept (oq _ (gne hr_hd9 hg460 (by decide)))
                have m463 := (el_kept (oq _ (gne hr_o0 hg460 (by decide)))).trans m450
                have m464 := (el_kept (oq _ (gne hr_o0 hg460 (by decide)))).trans m451
                have m465 := (el_kept (oq _ (gne hr_o0 hg460 (by decide)))).trans m452
                refine lv_aload_n hx hb dX0_giveFarms_138 rfl (lv_at hl 4 rfl) ?_
                refine tw_getM (v := .ref hd9) hx hb hts bF2_X0 hown hK hT hr_o0 shc_3 rfl 3 (by decide) (ht_at2 hts 11 rfl) (fun _ h9 => h9) m463 dX0_giveFarms_139 ?_
                refine lv_iload hx hb dX0_giveFarms_142 (lv_at hl 0 rfl) ?_
                refine lv_iconst (v := 1) hx hb dX0_giveFarms_144 (by decide) ?_
                refine tw_zast (i := r424) (x := 1) hx hb hK hT hG hS hr_hd9 shc_54 rfl (vin_t (a := r424.toInt) rfl (by omega) (by omega)) (gi_z (rg_t (a := 1) (by decide) (by first | decide | omega) (by first | decide | omega)) (by decide) (by decide)) dX0_giveFarms_145 (fun H locs hT oq m471 oi hS => ?_)
                have hF := hF.ast hr_hd9 skc_54 oq (by decide)
                have m472 := m462.put (show el H hd9 _ = some (.int 1) from m471) oi
                have m473 := (el_kept (oq _ (gne hr_o0 hr_hd9 (by decide)))).trans m463
                have m474 := (el_kept (oq _ (gne hr_o0 hr_hd9 (by decide)))).trans m464
                have m475 := (el_kept (oq _ (gne hr_o0 hr_hd9 (by decide)))).trans m465
                obtain ⟨x482, ex482⟩ : ∃ y : Int32, y = z297 + 1 := ⟨_, rfl⟩
                have t483 : x482.toInt = z297.toInt + 1 := ti_add ex482 rfl (by decide) (by omega) (by omega)
                refine lv_iinc (v := x482) (lv' := [(3, .int x482), (6, .int r424), (5, .int r413), (4, .int (nI i296)), (0, .ref o0), (1, .int p0), (2, .ref p1)]) hx hb dX0_giveFarms_146 hl (k := 3) rfl (by first | (rw [ex482]; done) | (rw [ex482]; rfl)) (by decide) rfl (fun ls hl => ?_)
                refine lv_iinc (v := nI (i296 + 1)) (lv' := [(4, .int (nI (i296 + 1))), (3, .int x482), (6, .int r424), (5, .int r413), (0, .ref o0), (1, .int p0), (2, .ref p1)]) hx hb dX0_giveFarms_149 hl (k := 3) rfl (nI_add i296 1) (by decide) rfl (fun ls hl => ?_)
                refine lv_goto (tgt := 81) hx hb dX0_giveFarms_152 (by decide) ?_
                exact ih394 (i296 + 1) (by omega) (by omega) x482 (cu V299 r424.toNatClampNeg (1 : Int32)) ⟨(by have q9 := (show x482.toInt = x482.toInt from rfl); (try have q8 := ti_all x482); omega), (by have := (show x482.toInt = x482.toInt from rfl); rw [zct_1 (by exact (hf432.resolve_left (fun h8 => by omega)).2.2) (by decide) 30 (by have := tn_of (show r424.toInt = r424.toInt from rfl) (by omega); omega)]; have := hj304; omega), (by have := (show x482.toInt = x482.toInt from rfl); omega)⟩ _ _ hT hF hS m472 m473 m474 m475 ls (lv_sub hl [0, 1, 4, 5, 6] rfl)
              · have t484 : r424.toInt = (-1) := ti_eq c443 rfl (by decide)
                refine lv_goto (tgt := 155) hx hb dX0_giveFarms_115 (by decide) ?_
                refine lv_aload_n hx hb dX0_giveFarms_155 rfl (lv_at hl 4 rfl) ?_
                refine lv_dup hx hb dX0_giveFarms_156 rfl ?_
                refine tw_getM (v := .int hv0) hx hb hts bF2_X0 hown hK hT hr_o0 shc_3 rfl 15 (by decide) (ht_at2 hts 1 rfl) (fun _ h9 => h9) m428 dX0_giveFarms_157 ?_
                refine lv_iload_n hx hb dX0_giveFarms_160 rfl (lv_at hl 3 rfl) ?_
                refine lv_iadd hx hb dX0_giveFarms_161 ?_
                refine lv_topi (fun x485 ex485 => ?_)
                have t486 : x485.toInt = hv0.toInt + z297.toInt := ti_add ex485 rfl rfl (by omega) (by omega)
                refine tw_put (v := .int x485) (ty := .int) hx hb hts bF2_X0 tyX0 tyX0_ok nmX0 hown hK hT hG hS hr_o0 shc_3 rfl 15 (by decide) (ht_at2 hts 1 rfl) (fun _ h9 => h9) rfl (by decide +kernel) rfl rfl (gl_at rfl (gi_all _)) dX0_giveFarms_162 (fun H locs hT oq m487 oj hS => ?_)
                have hF := hF.put hr_o0 skc_3 oq oj (by decide)
                have m488 := m426.kept (oq _ (gne hr_hd9 hr_o0 (by decide)))
                refine lv_iload_n hx hb dX0_giveFarms_165 rfl (lv_at hl 3 rfl) ?_
                exact W.iret (v := z297) hx hb hr (fun t ht hW => ⟨⟨z297, (x485, V299), rfl, (by exact ⟨(by have q8 := ti_all z297; omega), (by have := (show x485.toInt = x485.toInt from rfl); have := hj304; exact ⟨by omega, by omega⟩)⟩), by (try dsimp only); rw [ht]; exact ⟨hT, hF, m487, m488⟩⟩, hS.F ht⟩) hS.2.2 dX0_giveFarms_166
      exact key394 (60 - 0) 0 (by omega) (Nat.le_refl _) 0 vh ⟨(by have q9 := (show (0 : Int32).toInt = 0 from (by decide)); (try have q8 := ti_all (0 : Int32)); omega), (by have z9 : (0 : Int32).toInt = 0 := (by decide); omega), (by have := (show (0 : Int32).toInt = 0 from (by decide)); omega)⟩ _ _ hT hF hS m2 m3 m4 m292 ls (lv_sub hl [0, 1, 2, 3, 4] rfl)
    | succ n290 ih290 =>
      intro i1 hn290 hlo291  H locs hT hF hS m2 m3 m4 ls hl
      have hlt491 : i1 < 60 := by omega
      refine lv_iload_n hx hb dX0_giveFarms_2 rfl (lv_at hl 0 rfl) ?_
      refine lv_aload_n hx hb dX0_giveFarms_3 rfl (lv_at hl 1 rfl) ?_
      refine tw_get hx hb hts bF2_X0 hown hK hT hr_o0 shc_3 rfl 14 (by decide) (ht_at2 hts 0 rfl) (fun _ h9 => h9) dX0_giveFarms_4 (fun v9 m492 h9 => ?_)
      obtain ⟨x493, rfl, gx493, kx493⟩ := h9 _ rfl
      refine lv_icmp_ge (tgt := 76) hx hb dX0_giveFarms_7 (by decide) (fun c494 => ?_) (fun c494 => ?_)
      · have t495 : x493.toInt ≤ ((i1 : Nat) : Int) := ti_le c494 rfl (nI_toInt (by omega))
        refine lv_iconst (v := 0) hx hb dX0_giveFarms_76 (by decide) ?_
        refine lv_istore_n (lv' := [(3, .int 0), (0, .ref o0), (1, .int p0), (2, .ref p1)]) hx hb dX0_giveFarms_77 rfl hl (by decide) rfl (fun ls hl => ?_)
        refine lv_iconst (v := 0) hx hb dX0_giveFarms_78 (by decide) ?_
        refine lv_istore (lv' := [(4, .int 0), (3, .int 0), (0, .ref o0), (1, .int p0), (2, .ref p1)]) hx hb dX0_giveFarms_79 hl (by decide) rfl (fun ls hl => ?_)
        have key594 : ∀ (n594 i496 : Nat), i496 + n594 = 60 → 0 ≤ i496 → ∀ (z497 : Int32), ∀ (V499 : Nat → Int32), ((0 ≤ z497.toInt ∧ z497.toInt ≤ 60) ∧ (zct V499 30 = hv0.toInt + z497.toInt) ∧ (0 ≤ z497.toInt ∧ z497.toInt ≤ ((i496 : Nat) : Int))) → ∀ (H : Heap) (locs : List Loc), gH (dC, dI) kA (SHc nC nS) G H → gF (dC, dI) SKc G ([(3, 15), (10, 7), (50, 0), (54, 0), (56, 0), (57, 0)] : List (Nat × Nat)) s.heap H → va_S A s.heap H locs → ct H hd9 30 V499 → el H o0 (dI 3 3) = some (.ref hd9) → el H o0 (dI 3 15) = some (.int hv0) → el H o0 (dI 3 14) = some (.int x493) → ∀ ls : Array Slot, lv_has ls 7 [(4, .int (nI i496)), (3, .int z497), (0, .ref o0), (1, .int p0), (2, .ref p1)] → W p l e (headSpec w_c_giveFarmsH ({ frames := 5, cells := 0, slots := 0, locals := 135 })).room s m #[.ref o0, .int p0, .ref p1] below meth c H locs 0 0 (MQ below (va_Qi (fun (r : Int32) (u : Int32 × (Nat → Int32)) => match u with | (hl1, vh1) => (0 ≤ r.toInt ∧ r.toInt ≤ 60) ∧ (zct vh1 30 = hl1.toInt ∧ hv0.toInt ≤ hl1.toInt)) (fun (u : Int32 × (Nat → Int32)) (t : State) => match u with | (hl1, vh1) => gH (dC, dI) kA (SHc nC nS) G t.heap ∧ gF (dC, dI) SKc G ([(3, 15), (10, 7), (50, 0), (54, 0), (56, 0), (57, 0)] : List (Nat × Nat)) s.heap t.heap ∧ el t.heap o0 (dI 3 15) = some (.int hl1) ∧ ct t.heap hd9 30 vh1) A) #[.ref o0, .int p0, .ref p1] s 0 0 A) (F0 m 81 ls []) := by
          intro n594
          induction n594 with
          | zero =>
            intro i496 hn594 hlo595 z497 V499 ⟨h498, hj504, hj505⟩ H locs hT hF hS m500 m501 m502 m503 ls hl
            obtain rfl : 60 = i496 := by omega
            refine lv_iload hx hb dX0_giveFarms_81 (lv_at hl 0 rfl) ?_
            refine lv_iload_n hx hb dX0_giveFarms_83 rfl (lv_at hl 3 rfl) ?_
            refine lv_icmp_ge (tgt := 155) hx hb dX0_giveFarms_84 (by decide) (fun c596 => ?_) (fun c596 => (by exfalso; have q9 : ((60 : Nat) : Int) < p0.toInt := ti_nle c596 rfl (nI_toInt (by omega)); omega))
            have t597 : p0.toInt ≤ ((60 : Nat) : Int) := ti_le c596 rfl (nI_toInt (by omega))
            refine lv_aload_n hx hb dX0_giveFarms_155 rfl (lv_at hl 2 rfl) ?_
            refine lv_dup hx hb dX0_giveFarms_156 rfl ?_
            refine tw_getM (v := .int hv0) hx hb hts bF2_X0 hown hK hT hr_o0 shc_3 rfl 15 (by decide) (ht_at2 hts 1 rfl) (fun _ h9 => h9) m502 dX0_giveFarms_157 ?_
            refine lv_iload_n hx hb dX0_giveFarms_160 rfl (lv_at hl 1 rfl) ?_
            refine lv_iadd hx hb dX0_giveFarms_161 ?_
            refine lv_topi (fun x598 ex598 => ?_)
            have t599 : x598.toInt = hv0.toInt + z497.toInt := ti_add ex598 rfl rfl (by omega) (by omega)
            refine tw_put (v := .int x598) (ty := .int) hx hb hts bF2_X0 tyX0 tyX0_ok nmX0 hown hK hT hG hS hr_o0 shc_3 rfl 15 (by decide) (ht_at2 hts 1 rfl) (fun _ h9 => h9) rfl (by decide +kernel) rfl rfl (gl_at rfl (gi_all _)) dX0_giveFarms_162 (fun H locs hT oq m600 oj hS => ?_)
            have hF := hF.put hr_o0 skc_3 oq oj (by decide)
            have m601 := m500.kept (oq _ (gne hr_hd9 hr_o0 (by decide)))
            refine lv_iload_n hx hb dX0_giveFarms_165 rfl (lv_at hl 1 rfl) ?_
            exact W.iret (v := z497) hx hb hr (fun t ht hW => ⟨⟨z497, (x598, V499), rfl, (by exact ⟨(by have q8 := ti_all z497; omega), (by have := (show x598.toInt = x598.toInt from rfl); have := hj504; exact ⟨by omega, by omega⟩)⟩), by (try dsimp only); rw [ht]; exact ⟨hT, hF, m600, m601⟩⟩, hS.F ht⟩) hS.2.2 dX0_giveFarms_166
          | succ n594 ih594 =>
            intro i496 hn594 hlo595 z497 V499 ⟨h498, hj504, hj505⟩ H locs hT hF hS m500 m501 m502 m503 ls hl
            have hlt603 : i496 < 60 := by omega
            refine lv_iload hx hb dX0_giveFarms_81 (lv_at hl 0 rfl) ?_
            refine lv_iload_n hx hb dX0_giveFarms_83 rfl (lv_at hl 3 rfl) ?_
            refine lv_icmp_ge (tgt := 155) hx hb dX0_giveFarms_84 (by decide) (fun c604 => ?_) (fun c604 => ?_)
            · have t605 : p0.toInt ≤ ((i496 : Nat) : Int) := ti_le c604 rfl (nI_toInt (by omega))
              refine lv_aload_n hx hb dX0_giveFarms_155 rfl (lv_at hl 2 rfl) ?_
              refine lv_dup hx hb dX0_giveFarms_156 rfl ?_
              refine tw_getM (v := .int hv0) hx hb hts bF2_X0 hown hK hT hr_o0 shc_3 rfl 15 (by decide) (ht_at2 hts 1 rfl) (fun _ h9 => h9) m502 dX0_giveFarms_157 ?_
              refine lv_iload_n hx hb dX0_giveFarms_160 rfl (lv_at hl 1 rfl) ?_
              refine lv_iadd hx hb dX0_giveFarms_161 ?_
              refine lv_topi (fun x606 ex606 => ?_)
              have t607 : x606.toInt = hv0.toInt + z497.toInt := ti_add ex606 rfl rfl (by omega) (by omega)
              refine tw_put (v := .int x606) (ty := .int) hx hb hts bF2_X0 tyX0 tyX0_ok nmX0 hown hK hT hG hS hr_o0 shc_3 rfl 15 (by decide) (ht_at2 hts 1 rfl) (fun _ h9 => h9) rfl (by decide +kernel) rfl rfl (gl_at rfl (gi_all _)) dX0_giveFarms_162 (fun H locs hT oq m608 oj hS => ?_)
              have hF := hF.put hr_o0 skc_3 oq oj (by decide)
              have m609 := m500.kept (oq _ (gne hr_hd9 hr_o0 (by decide)))
              refine lv_iload_n hx hb dX0_giveFarms_165 rfl (lv_at hl 1 rfl) ?_
              exact W.iret (v := z497) hx hb hr (fun t ht hW => ⟨⟨z497, (x606, V499), rfl, (by exact ⟨(by have q8 := ti_all z497; omega), (by have := (show x606.toInt = x606.toInt from rfl); have := hj504; exact ⟨by omega, by omega⟩)⟩), by (try dsimp only); rw [ht]; exact ⟨hT, hF, m608, m609⟩⟩, hS.F ht⟩) hS.2.2 dX0_giveFarms_166
            · have t612 : ((i496 : Nat) : Int) < p0.toInt := ti_nle c604 rfl (nI_toInt (by omega))
              refine lv_aload_n hx hb dX0_giveFarms_87 rfl (lv_at hl 2 rfl) ?_
              have hFc := gA_free hG hA hS
              refine va_calli (va_runV (As := []) (rest := []) ⟨hx, hb, hml, hown, hts⟩ (c_firstByMark l dC dI kA adK adV G H nC nS o0 hT hr_o0 (by omega) (by omega)) (cwV 0 hts (goodIn_app (goodIn_r _ [6, 7, 8, 9] rfl (by decide +kernel)) (goodIn_ca (goodIn_r _ [3, 1, 4, 5] rfl (by decide +kernel)) (bs2_in _ _))) rfl rfl rfl (by decide +kernel) ⟨(Nat.le_of_ble_eq_true rfl), (Nat.le_of_ble_eq_true rfl)⟩) ⟨fun a U g mk q => by obtain ⟨q0, q1, qK, qE⟩ := q; exact ⟨q0, q1, va_K.moved (u := U) (U := U.calling g mk a) (Vm.Alike.refl U.vm) qK, EVC.blind g mk a qE⟩, gH_rc hK hT hr_o0 shc_3 rfl, fun U hU hW => ⟨rfl, hU, va_K.moved hW.alike hK, hE.call hS hFc hU hW⟩⟩ rfl rfl hl.1 rfl (lv_room (Nat.le_of_ble_eq_true rfl)) dX0_giveFarms_88 ⟨(Nat.le_of_ble_eq_true rfl), (Nat.le_of_ble_eq_true rfl)⟩) hS (fun q _ h => hFc q h) hFc (fun r613 u t H locs ht hvm hw614 hB _ _ hS => ?_)
              obtain ⟨hT, hF1⟩ := hB
              rw [ht] at hT hF1
              have m615 := m500.kept (hF1.arr hr_hd9 skc_54 (by decide))
              have m616 := (hF1.fld hr_o0 skc_3 (k := 3) (by decide) (by decide)).trans m501
              have m617 := (hF1.fld hr_o0 skc_3 (k := 15) (by decide) (by decide)).trans m502
              have m618 := (hF1.fld hr_o0 skc_3 (k := 14) (by decide) (by decide)).trans m503
              have hF := hF.more hF1 (by decide)
              try dsimp only at hw614
              obtain ⟨h619, hf620⟩ := hw614
              refine lv_istore (lv' := [(5, .int r613), (4, .int (nI i496)), (3, .int z497), (0, .ref o0), (1, .int p0), (2, .ref p1)]) hx hb dX0_giveFarms_91 hl (by decide) rfl (fun ls hl => ?_)
              refine lv_aload_n hx hb dX0_giveFarms_93 rfl (lv_at hl 3 rfl) ?_
              refine lv_aload_n hx hb dX0_giveFarms_94 rfl (lv_at hl 5 rfl) ?_
              refine tw_getN hx hb hts bF2_X3 hown hK hT hr_p1 shc_6 rfl 1 (by decide) (hE.nw 73 rfl) (fun _ h9 => h9) dX0_giveFarms_95 (fun v9 m621 h9 => ?_)
              obtain ⟨b622, rfl, hg623⟩ := h9 _ rfl
              have hFc := gA_free hG hA hS
              refine va_calli (va_runV (As := [.ref b622]) (rest := []) ⟨hx, hb, hml, hown, hts⟩ (c_bestFreeFarmH l dC dI kA adK adV G H nC nS o0 b622 hd9 V499 hT hg623 hr_o0 m616 hr_hd9 m615 (by omega) (by omega)) (cwV 1 hts (goodIn_app (goodIn_r _ [22, 23, 24, 9] rfl (by decide +kernel)) (goodIn_ca (goodIn_r _ [10, 11, 12, 13, 14, 15, 16, 17, 18, 19, 20, 21, 9] rfl (by decide +kernel)) (bs2_in _ _))) rfl rfl rfl (by decide +kernel) ⟨(Nat.le_of_ble_eq_true rfl), (Nat.le_of_ble_eq_true rfl)⟩) ⟨fun a U g mk q => by obtain ⟨q0, q1, qK, qE⟩ := q; exact ⟨q0, q1, va_K.moved (u := U) (U := U.calling g mk a) (Vm.Alike.refl U.vm) qK, EVC.blind g mk a qE⟩, gH_rc hK hT hr_o0 shc_3 rfl, fun U hU hW => ⟨rfl, hU, va_K.moved hW.alike hK, hE.call hS hFc hU hW⟩⟩ rfl rfl hl.1 rfl (lv_room (Nat.le_of_ble_eq_true rfl)) dX0_giveFarms_98 ⟨(Nat.le_of_ble_eq_true rfl), (Nat.le_of_ble_eq_true rfl)⟩) hS (fun q _ h => hFc q h) hFc (fun r624 u t H locs ht hvm hw625 hB _ _ hS => ?_)
              obtain ⟨hT, hF1⟩ := hB
              rw [ht] at hT hF1
              have m626 := m615.kept (hF1.arr hr_hd9 skc_54 (by decide))
              have m627 := (hF1.fld hr_o0 skc_3 (k := 3) (by decide) (by decide)).trans m616
              have m628 := (hF1.fld hr_o0 skc_3 (k := 15) (by decide) (by decide)).trans m617
              have m629 := (hF1.fld hr_o0 skc_3 (k := 14) (by decide) (by decide)).trans m618
              have hF := hF.more hF1 (by decide)
              try dsimp only at hw625
              obtain ⟨h631, hf632⟩ := hw625
              refine lv_istore (lv' := [(6, .int r624), (5, .int r613), (4, .int (nI i496)), (3, .int z497), (0, .ref o0), (1, .int p0), (2, .ref p1)]) hx hb dX0_giveFarms_101 hl (by decide) rfl (fun ls hl => ?_)
              refine lv_iload hx hb dX0_giveFarms_103 (lv_at hl 1 rfl) ?_
              refine lv_iconst (v := (-1)) hx hb dX0_giveFarms_105 (by decide) ?_
              refine lv_icmp_eq (tgt := 155) hx hb dX0_giveFarms_106 (by decide) (fun c633 => ?_) (fun c633 => ?_)
              · have t634 : r613.toInt = (-1) := ti_eq c633 rfl (by decide)
                refine lv_aload_n hx hb dX0_giveFarms_155 rfl (lv_at hl 4 rfl) ?_
                refine lv_dup hx hb dX0_giveFarms_156 rfl ?_
                refine tw_getM (v := .int hv0) hx hb hts bF2_X0 hown hK hT hr_o0 shc_3 rfl 15 (by decide) (ht_at2 hts 1 rfl) (fun _ h9 => h9) m628 dX0_giveFarms_157 ?_
                refine lv_iload_n hx hb dX0_giveFarms_160 rfl (lv_at hl 3 rfl) ?_
                refine lv_iadd hx hb dX0_giveFarms_161 ?_
                refine lv_topi (fun x635 ex635 => ?_)
                have t636 : x635.toInt = hv0.toInt + z497.toInt := ti_add ex635 rfl rfl (by omega) (by omega)
                refine tw_put (v := .int x635) (ty := .int) hx hb hts bF2_X0 tyX0 tyX0_ok nmX0 hown hK hT hG hS hr_o0 shc_3 rfl 15 (by decide) (ht_at2 hts 1 rfl) (fun _ h9 => h9) rfl (by decide +kernel) rfl rfl (gl_at rfl (gi_all _)) dX0_giveFarms_162 (fun H locs hT oq m637 oj hS => ?_)
                have hF := hF.put hr_o0 skc_3 oq oj (by decide)
                have m638 := m626.kept (oq _ (gne hr_hd9 hr_o0 (by decide)))
                refine lv_iload_n hx hb dX0_giveFarms_165 rfl (lv_at hl 3 rfl) ?_
                exact W.iret (v := z497) hx hb hr (fun t ht hW => ⟨⟨z497, (x635, V499), rfl, (by exact ⟨(by have q8 := ti_all z497; omega), (by have := (show x635.toInt = x635.toInt from rfl); have := hj504; exact ⟨by omega, by omega⟩)⟩), by (try dsimp only); rw [ht]; exact ⟨hT, hF, m637, m638⟩⟩, hS.F ht⟩) hS.2.2 dX0_giveFarms_166
              · have t642 : r613.toInt ≠ (-1) := ti_ne c633 rfl (by decide)
                refine lv_iload hx hb dX0_giveFarms_109 (lv_at hl 0 rfl) ?_
                refine lv_iconst (v := (-1)) hx hb dX0_giveFarms_111 (by decide) ?_
                refine lv_icmp_ne (tgt := 118) hx hb dX0_giveFarms_112 (by decide) (fun c643 => ?_) (fun c643 => ?_)
                · have t644 : r624.toInt ≠ (-1) := ti_ne c643 rfl (by decide)
                  refine lv_aload_n hx hb dX0_giveFarms_118 rfl (lv_at hl 4 rfl) ?_
                  refine tw_get hx hb hts bF2_X0 hown hK hT hr_o0 shc_3 rfl 6 (by decide) (ht_at2 hts 3 rfl) (fun _ h9 => h9) dX0_giveFarms_119 (fun v9 m645 h9 => ?_)
                  obtain ⟨b646, rfl, hg647⟩ := h9 _ rfl
                  refine lv_iload hx hb dX0_giveFarms_122 (lv_at hl 1 rfl) ?_
                  refine lv_iconst (v := (-1)) hx hb dX0_giveFarms_124 (by decide) ?_
                  refine tw_iast (i := r613) (x := (-1)) hx hb hK hT hG hS hg647 shc_57 rfl (vin_t (a := r613.toInt) rfl (by omega) (by omega)) (gi_all _) dX0_giveFarms_125 (fun H locs hT oq m648 oi hS => ?_)
                  have hF := hF.ast hg647 skc_57 oq (by decide)
                  have m649 := m626.kept (oq _ (gne hr_hd9 hg647 (by decide)))
                  have m650 := (el_kept (oq _ (gne hr_o0 hg647 (by decide)))).trans m627
                  have m651 := (el_kept (oq _ (gne hr_o0 hg647 (by decide)))).trans m628
                  have m652 := (el_kept (oq _ (gne hr_o0 hg647 (by decide)))).trans m629
                  refine lv_aload_n hx hb dX0_giveFarms_126 rfl (lv_at hl 4 rfl) ?_
                  refine tw_get hx hb hts bF2_X0 hown hK hT hr_o0 shc_3 rfl 0 (by decide) (ht_at2 hts 4 rfl) (fun _ h9 => h9) dX0_giveFarms_127 (fun v9 m655 h9 => ?_)
                  obtain ⟨b656, rfl, hg657⟩ := h9 _ rfl
                  refine lv_iload hx hb dX0_giveFarms_130 (lv_at hl 1 rfl) ?_
                  refine tw_aald (i := r613) hx hb hK hT hg657 shc_51 rfl (vin_t (a := r613.toInt) rfl (by omega) (by omega)) dX0_giveFarms_132 (fun v9 m658 h9 => ?_)
                  obtain ⟨b659, rfl, hg660⟩ := (h9.1 (by have q9 := tn_of (show r613.toInt = r613.toInt from rfl) (by omega); omega))
                  refine lv_iload hx hb dX0_giveFarms_133 (lv_at hl 0 rfl) ?_
                  refine tw_putN (v := .int r624) (ty := .int) hx hb hts bF2_X7 tyX7 tyX7_ok nmX7 hown hK hT hG hS hg660 shc_10 rfl 7 (by decide) (hE.nw 61 rfl) (fun _ h9 => h9) rfl (by decide +kernel) rfl rfl (gl_at rfl (gi_of (show r624.toInt = r624.toInt from rfl) (by omega) (by omega))) dX0_giveFarms_135 (fun H locs hT oq m661 oj hS => ?_)
                  have hF := hF.put hg660 skc_10 oq oj (by decide)
                  have m662 := m649.kept (oq _ (gne hr_hd9 hg660 (by decide)))
                  have m663 := (el_kept (oq _ (gne hr_o0 hg660 (by decide)))).trans m650
                  have m664 := (el_kept (oq _ (gne hr_o0 hg660 (by decide)))).trans m651
                  have m665 := (el_kept (oq _ (gne hr_o0 hg660 (by decide)))).trans m652
                  refine lv_aload_n hx hb dX0_giveFarms_138 rfl (lv_at hl 4 rfl) ?_
                  refine tw_getM (v := .ref hd9) hx hb hts bF2_X0 hown hK hT hr_o0 shc_3 rfl 3 (by decide) (ht_at2 hts 11 rfl) (fun _ h9 => h9) m663 dX0_giveFarms_139 ?_
                  refine lv_iload hx hb dX0_giveFarms_142 (lv_at hl 0 rfl) ?_
                  refine lv_iconst (v := 1) hx hb dX0_giveFarms_144 (by decide) ?_
                  refine tw_zast (i := r624) (x := 1) hx hb hK hT hG hS hr_hd9 shc_54 rfl (vin_t (a := r624.toInt) rfl (by omega) (by omega)) (gi_z (rg_t (a := 1) (by decide) (by first | decide | omega) (by first | decide | omega)) (by decide) (by decide)) dX0_giveFarms_145 (fun H locs hT oq m671 oi hS => ?_)
                  have hF := hF.ast hr_hd9 skc_54 oq (by decide)
                  have m672 := m662.put (show el H hd9 _ = some (.int 1) from m671) oi
                  have m673 := (el_kept (oq _ (gne hr_o0 hr_hd9 (by decide)))).trans m663
                  have m674 := (el_kept (oq _ (gne hr_o0 hr_hd9 (by decide)))).trans m664
                  have m675 := (el_kept (oq _ (gne hr_o0 hr_hd9 (by decide)))).trans m665
                  obtain ⟨x682, ex682⟩ : ∃ y : Int32, y = z497 + 1 := ⟨_, rfl⟩
                  have t683 : x682.toInt = z497.toInt + 1 := ti_add ex682 rfl (by decide) (by omega) (by omega)
                  refine lv_iinc (v := x682) (lv' := [(3, .int x682), (6, .int r624), (5, .int r613), (4, .int (nI i496)), (0, .ref o0), (1, .int p0), (2, .ref p1)]) hx hb dX0_giveFarms_146 hl (k := 3) rfl (by first | (rw [ex682]; done) | (rw [ex682]; rfl)) (by decide) rfl (fun ls hl => ?_)
                  refine lv_iinc (v := nI (i496 + 1)) (lv' := [(4, .int (nI (i496 + 1))), (3, .int x682), (6, .int r624), (5, .int r613), (0, .ref o0), (1, .int p0), (2, .ref p1)]) hx hb dX0_giveFarms_149 hl (k := 3) rfl (nI_add i496 1) (by decide) rfl (fun ls hl => ?_)
                  refine lv_goto (tgt := 81) hx hb dX0_giveFarms_152 (by decide) ?_
                  exact ih594 (i496 + 1) (by omega) (by omega) x682 (cu V499 r624.toNatClampNeg (1 : Int32)) ⟨(by have q9 := (show x682.toInt = x682.toInt from rfl); (try have q8 := ti_all x682); omega), (by have := (show x682.toInt = x682.toInt from rfl); rw [zct_1 (by exact (hf632.resolve_left (fun h8 => by omega)).2.2) (by decide) 30 (by have := tn_of (show r624.toInt = r624.toInt from rfl) (by omega); omega)]; have := hj504; omega), (by have := (show x682.toInt = x682.toInt from rfl); omega)⟩ _ _ hT hF hS m672 m673 m674 m675 ls (lv_sub hl [0, 1, 4, 5, 6] rfl)
                · have t684 : r624.toInt = (-1) := ti_eq c643 rfl (by decide)
                  refine lv_goto (tgt := 155) hx hb dX0_giveFarms_115 (by decide) ?_
                  refine lv_aload_n hx hb dX0_giveFarms_155 rfl (lv_at hl 4 rfl) ?_
                  refine lv_dup hx hb dX0_giveFarms_156 rfl ?_
                  refine tw_getM (v := .int hv0) hx hb hts bF2_X0 hown hK hT hr_o0 shc_3 rfl 15 (by decide) (ht_at2 hts 1 rfl) (fun _ h9 => h9) m628 dX0_giveFarms_157 ?_
                  refine lv_iload_n hx hb dX0_giveFarms_160 rfl (lv_at hl 3 rfl) ?_
                  refine lv_iadd hx hb dX0_giveFarms_161 ?_
                  refine lv_topi (fun x685 ex685 => ?_)
                  have t686 : x685.toInt = hv0.toInt + z497.toInt := ti_add ex685 rfl rfl (by omega) (by omega)
                  refine tw_put (v := .int x685) (ty := .int) hx hb hts bF2_X0 tyX0 tyX0_ok nmX0 hown hK hT hG hS hr_o0 shc_3 rfl 15 (by decide) (ht_at2 hts 1 rfl) (fun _ h9 => h9) rfl (by decide +kernel) rfl rfl (gl_at rfl (gi_all _)) dX0_giveFarms_162 (fun H locs hT oq m687 oj hS => ?_)
                  have hF := hF.put hr_o0 skc_3 oq oj (by decide)
                  have m688 := m626.kept (oq _ (gne hr_hd9 hr_o0 (by decide)))
                  refine lv_iload_n hx hb dX0_giveFarms_165 rfl (lv_at hl 3 rfl) ?_
                  exact W.iret (v := z497) hx hb hr (fun t ht hW => ⟨⟨z497, (x685, V499), rfl, (by exact ⟨(by have q8 := ti_all z497; omega), (by have := (show x685.toInt = x685.toInt from rfl); have := hj504; exact ⟨by omega, by omega⟩)⟩), by (try dsimp only); rw [ht]; exact ⟨hT, hF, m687, m688⟩⟩, hS.F ht⟩) hS.2.2 dX0_giveFarms_166
        exact key594 (60 - 0) 0 (by omega) (Nat.le_refl _) 0 vh ⟨(by have q9 := (show (0 : Int32).toInt = 0 from (by decide)); (try have q8 := ti_all (0 : Int32)); omega), (by have z9 : (0 : Int32).toInt = 0 := (by decide); omega), (by have := (show (0 : Int32).toInt = 0 from (by decide)); omega)⟩ _ _ hT hF hS m2 m3 m4 m492 ls (lv_sub hl [0, 1, 2, 3, 4] rfl)
      · have t692 : ((i1 : Nat) : Int) < x493.toInt := ti_nle c494 rfl (nI_toInt (by omega))
        refine lv_aload_n hx hb dX0_giveFarms_10 rfl (lv_at hl 1 rfl) ?_
        refine lv_aload_n hx hb dX0_giveFarms_11 rfl (lv_at hl 1 rfl) ?_
        refine tw_get hx hb hts bF2_X0 hown hK hT hr_o0 shc_3 rfl 0 (by decide) (ht_at2 hts 4 rfl) (fun _ h9 => h9) dX0_giveFarms_12 (fun v9 m693 h9 => ?_)
        obtain ⟨b694, rfl, hg695⟩ := h9 _ rfl
        refine lv_iload_n hx hb dX0_giveFarms_15 rfl (lv_at hl 0 rfl) ?_
        refine tw_aald (i := (nI i1)) hx hb hK hT hg695 shc_51 rfl (vp_in_nI (by omega) (by decide)) dX0_giveFarms_16 (fun v9 m696 h9 => ?_)
        obtain ⟨b697, rfl, hg698⟩ := (h9.1 (by have q9 := tn_of (show (nI i1).toInt = ((i1 : Nat) : Int) from (nI_toInt (by omega))) (by omega); omega))
        refine lv_aload_n hx hb dX0_giveFarms_17 rfl (lv_at hl 3 rfl) ?_
        have hFc := gA_free hG hA hS
        refine va_callv (va_runV (As := [.ref b697, .ref p1]) (rest := []) ⟨hx, hb, hml, hown, hts⟩ (c_gatherFacts l dC dI kA adK adV G H nC nS o0 b697 p1 hT hg698 hr_p1 hr_o0 (by omega) (by omega)) (cwV 2 hts (goodIn_app (goodIn_r _ [58, 59, 60, 9] rfl (by decide +kernel)) (goodIn_ca (goodIn_r _ [25, 26, 27, 14, 28, 29, 30, 9, 31, 32, 33, 34, 35, 36, 37, 38, 39, 40, 41, 42, 43, 17, 44, 45, 46, 47, 48, 49, 50, 51, 52, 53, 54, 55, 56, 57] rfl (by decide +kernel)) (bs2_in _ _))) rfl rfl rfl (by decide +kernel) ⟨(Nat.le_of_ble_eq_true rfl), (Nat.le_of_ble_eq_true rfl)⟩) ⟨fun a U g mk q => by obtain ⟨q0, q1, qK, qE⟩ := q; exact ⟨q0, q1, va_K.moved (u := U) (U := U.calling g mk a) (Vm.Alike.refl U.vm) qK, EVC.blind g mk a qE⟩, gH_rc hK hT hr_o0 shc_3 rfl, fun U hU hW => ⟨rfl, hU, va_K.moved hW.alike hK, hE.call hS hFc hU hW⟩⟩ rfl rfl hl.1 rfl (lv_room (Nat.le_of_ble_eq_true rfl)) dX0_giveFarms_18 ⟨(Nat.le_of_ble_eq_true rfl), (Nat.le_of_ble_eq_true rfl)⟩) hS (fun q _ h => hFc q h) hFc (fun u t H locs ht hvm hw700 hB _ _ hS => ?_)
        obtain ⟨hT, hF1⟩ := hB
        rw [ht] at hT hF1
        have m701 := m2.kept (hF1.arr hr_hd9 skc_54 (by decide))
        have m702 := (hF1.fld hr_o0 skc_3 (k := 3) (by decide) (by decide)).trans m3
        have m703 := (hF1.fld hr_o0 skc_3 (k := 15) (by decide) (by decide)).trans m4
        have m705 := (hF1.fld hr_o0 skc_3 (k := 0) (by decide) (by decide)).trans m693
        have m706 := (el_kept (hF1.arr hg695 skc_51 (by decide))).trans m696
        have hF := hF.more hF1 (by decide)
        try dsimp only at hw700
        refine lv_aload_n hx hb dX0_giveFarms_21 rfl (lv_at hl 1 rfl) ?_
        refine tw_getM (v := .ref b694) hx hb hts bF2_X0 hown hK hT hr_o0 shc_3 rfl 0 (by decide) (ht_at2 hts 4 rfl) (fun _ h9 => h9) m705 dX0_giveFarms_22 ?_
        refine lv_iload_n hx hb dX0_giveFarms_25 rfl (lv_at hl 0 rfl) ?_
        refine tw_aald (i := (nI i1)) hx hb hK hT hg695 shc_51 rfl (vp_in_nI (by omega) (by decide)) dX0_giveFarms_26 (fun v9 m707 h9 => ?_)
        obtain ⟨b708, rfl, hg709⟩ := (h9.1 (by have q9 := tn_of (show (nI i1).toInt = ((i1 : Nat) : Int) from (nI_toInt (by omega))) (by omega); omega))
        obtain rfl : b697 = b708 := (el_sameR m707 m706 (show (nI i1).toInt = (nI i1).toInt from by have q9 := (show (nI i1).toInt = ((i1 : Nat) : Int) from (nI_toInt (by omega))); have q8 := (show (nI i1).toInt = ((i1 : Nat) : Int) from (nI_toInt (by omega))); omega)).symm
        refine tw_getN hx hb hts bF2_X7 hown hK hT hg698 shc_10 rfl 7 (by decide) (hE.nw 61 rfl) (fun _ h9 => h9) dX0_giveFarms_27 (fun v9 m710 h9 => ?_)
        obtain ⟨x711, rfl, gx711, kx711⟩ := h9 _ rfl
        refine lv_iconst (v := (-1)) hx hb dX0_giveFarms_30 (by decide) ?_
        refine lv_icmp_ne (tgt := 47) hx hb dX0_giveFarms_31 (by decide) (fun c712 => ?_) (fun c712 => ?_)
        · have t713 : x711.toInt ≠ (-1) := ti_ne c712 rfl (by decide)
          refine lv_iconst (v := 0) hx hb dX0_giveFarms_47 (by decide) ?_
          refine lv_istore (lv' := [(4, .int 0), (3, .int (nI i1)), (0, .ref o0), (1, .int p0), (2, .ref p1)]) hx hb dX0_giveFarms_48 hl (by decide) rfl (fun ls hl => ?_)
          refine lv_aload_n hx hb dX0_giveFarms_50 rfl (lv_at hl 2 rfl) ?_
          refine tw_get hx hb hts bF2_X0 hown hK hT hr_o0 shc_3 rfl 6 (by decide) (ht_at2 hts 3 rfl) (fun _ h9 => h9) dX0_giveFarms_51 (fun v9 m714 h9 => ?_)
          obtain ⟨b715, rfl, hg716⟩ := h9 _ rfl
          refine lv_iload_n hx hb dX0_giveFarms_54 rfl (lv_at hl 1 rfl) ?_
          refine lv_iload hx hb dX0_giveFarms_55 (lv_at hl 0 rfl) ?_
          refine lv_if_eq (tgt := 68) hx hb dX0_giveFarms_57 (by decide) (fun c717 => ?_) (fun c717 => absurd c717 (by decide))
          refine lv_iconst (v := (-1)) hx hb dX0_giveFarms_68 (by decide) ?_
          refine tw_iast (i := (nI i1)) (x := (-1)) hx hb hK hT hG hS hg716 shc_57 rfl (vp_in_nI (by omega) (by decide)) (gi_all _) dX0_giveFarms_69 (fun H locs hT oq m718 oi hS => ?_)
          have hF := hF.ast hg716 skc_57 oq (by decide)
          have m719 := m701.kept (oq _ (gne hr_hd9 hg716 (by decide)))
          have m720 := (el_kept (oq _ (gne hr_o0 hg716 (by decide)))).trans m702
          have m721 := (el_kept (oq _ (gne hr_o0 hg716 (by decide)))).trans m703
          refine lv_iinc (v := nI (i1 + 1)) (lv' := [(3, .int (nI (i1 + 1))), (4, .int 0), (0, .ref o0), (1, .int p0), (2, .ref p1)]) hx hb dX0_giveFarms_70 hl (k := 1) rfl (nI_add i1 1) (by decide) rfl (fun ls hl => ?_)
          refine lv_goto (tgt := 2) hx hb dX0_giveFarms_73 (by decide) ?_
          exact ih290 (i1 + 1) (by omega) (by omega) _ _ hT hF hS m719 m720 m721 ls (lv_sub hl [0, 2, 3, 4] rfl)
        · have t727 : x711.toInt = (-1) := ti_eq c712 rfl (by decide)
          refine lv_aload_n hx hb dX0_giveFarms_34 rfl (lv_at hl 1 rfl) ?_
          refine lv_bipush (v := 6) hx hb dX0_giveFarms_35 (by decide) ?_
          have hFc := gA_free hG hA hS
          refine va_calli (va_runV (As := [.int 6]) (rest := []) ⟨hx, hb, hml, hown, hts⟩ (c_isRuled l dC dI kA adK adV G H nC nS o0 6 hT hr_o0 (by omega) (by omega)) (cwV 1 hts (goodIn_app (goodIn_r _ [84, 85, 86, 9] rfl (by decide +kernel)) (goodIn_ca (goodIn_r _ [61, 62, 26, 63, 64, 65, 66, 67, 68, 69, 70, 71, 72, 73, 17, 74, 75, 76, 77, 78, 79, 80, 81, 82, 83] rfl (by decide +kernel)) (bs2_in _ _))) rfl rfl rfl (by decide +kernel) ⟨(Nat.le_of_ble_eq_true rfl), (Nat.le_of_ble_eq_true rfl)⟩) ⟨fun a U g mk q => by obtain ⟨q0, q1, qK, qE⟩ := q; exact ⟨q0, q1, va_K.moved (u := U) (U := U.calling g mk a) (Vm.Alike.refl U.vm) qK, EVC.blind g mk a qE⟩, gH_rc hK hT hr_o0 shc_3 rfl, fun U hU hW => ⟨rfl, hU, va_K.moved hW.alike hK, hE.call hS hFc hU hW⟩⟩ rfl rfl hl.1 rfl (lv_room (Nat.le_of_ble_eq_true rfl)) dX0_giveFarms_37 ⟨(Nat.le_of_ble_eq_true rfl), (Nat.le_of_ble_eq_true rfl)⟩) hS (fun q _ h => hFc q h) hFc (fun r728 u t H locs ht hvm hw729 hB _ _ hS => ?_)
          obtain ⟨hT, hF1⟩ := hB
          rw [ht] at hT hF1
          have m730 := m701.kept (hF1.arr hr_hd9 skc_54 (by decide))
          have m731 := (hF1.fld hr_o0 skc_3 (k := 3) (by decide) (by decide)).trans m702
          have m732 := (hF1.fld hr_o0 skc_3 (k := 15) (by decide) (by decide)).trans m703
          have hF := hF.more hF1 (by decide)
          try dsimp only at hw729
          have h737 := hw729
          refine lv_if_ne (tgt := 47) hx hb dX0_giveFarms_40 (by decide) (fun c738 => ?_) (fun c738 => ?_)
          · have t739 : r728.toInt ≠ 0 := ti_ne c738 rfl (by decide)
            refine lv_iconst (v := 0) hx hb dX0_giveFarms_47 (by decide) ?_
            refine lv_istore (lv' := [(4, .int 0), (3, .int (nI i1)), (0, .ref o0), (1, .int p0), (2, .ref p1)]) hx hb dX0_giveFarms_48 hl (by decide) rfl (fun ls hl => ?_)
            refine lv_aload_n hx hb dX0_giveFarms_50 rfl (lv_at hl 2 rfl) ?_
            refine tw_get hx hb hts bF2_X0 hown hK hT hr_o0 shc_3 rfl 6 (by decide) (ht_at2 hts 3 rfl) (fun _ h9 => h9) dX0_giveFarms_51 (fun v9 m740 h9 => ?_)
            obtain ⟨b741, rfl, hg742⟩ := h9 _ rfl
            refine lv_iload_n hx hb dX0_giveFarms_54 rfl (lv_at hl 1 rfl) ?_
            refine lv_iload hx hb dX0_giveFarms_55 (lv_at hl 0 rfl) ?_
            refine lv_if_eq (tgt := 68) hx hb dX0_giveFarms_57 (by decide) (fun c743 => ?_) (fun c743 => absurd c743 (by decide))
            refine lv_iconst (v := (-1)) hx hb dX0_giveFarms_68 (by decide) ?_
            refine tw_iast (i := (nI i1)) (x := (-1)) hx hb hK hT hG hS hg742 shc_57 rfl (vp_in_nI (by omega) (by decide)) (gi_all _) dX0_giveFarms_69 (fun H locs hT oq m744 oi hS => ?_)
            have hF := hF.ast hg742 skc_57 oq (by decide)
            have m745 := m730.kept (oq _ (gne hr_hd9 hg742 (by decide)))
            have m746 := (el_kept (oq _ (gne hr_o0 hg742 (by decide)))).trans m731
            have m747 := (el_kept (oq _ (gne hr_o0 hg742 (by decide)))).trans m732
            refine lv_iinc (v := nI (i1 + 1)) (lv' := [(3, .int (nI (i1 + 1))), (4, .int 0), (0, .ref o0), (1, .int p0), (2, .ref p1)]) hx hb dX0_giveFarms_70 hl (k := 1) rfl (nI_add i1 1) (by decide) rfl (fun ls hl => ?_)
            refine lv_goto (tgt := 2) hx hb dX0_giveFarms_73 (by decide) ?_
            exact ih290 (i1 + 1) (by omega) (by omega) _ _ hT hF hS m745 m746 m747 ls (lv_sub hl [0, 2, 3, 4] rfl)
          · have t753 : r728.toInt = 0 := ti_eq c738 rfl (by decide)
            refine lv_iconst (v := 1) hx hb dX0_giveFarms_43 (by decide) ?_
            refine lv_goto (tgt := 48) hx hb dX0_giveFarms_44 (by decide) ?_
            refine lv_istore (lv' := [(4, .int 1), (3, .int (nI i1)), (0, .ref o0), (1, .int p0), (2, .ref p1)]) hx hb dX0_giveFarms_48 hl (by decide) rfl (fun ls hl => ?_)
            refine lv_aload_n hx hb dX0_giveFarms_50 rfl (lv_at hl 2 rfl) ?_
            refine tw_get hx hb hts bF2_X0 hown hK hT hr_o0 shc_3 rfl 6 (by decide) (ht_at2 hts 3 rfl) (fun _ h9 => h9) dX0_giveFarms_51 (fun v9 m754 h9 => ?_)
            obtain ⟨b755, rfl, hg756⟩ := h9 _ rfl
            refine lv_iload_n hx hb dX0_giveFarms_54 rfl (lv_at hl 1 rfl) ?_
            refine lv_iload hx hb dX0_giveFarms_55 (lv_at hl 0 rfl) ?_
            refine lv_if_eq (tgt := 68) hx hb dX0_giveFarms_57 (by decide) (fun c757 => absurd c757 (by decide)) (fun c757 => ?_)
            refine lv_aload_n hx hb dX0_giveFarms_60 rfl (lv_at hl 2 rfl) ?_
            refine lv_iconst (v := 4) hx hb dX0_giveFarms_61 (by decide) ?_
            have hFc := gA_free hG hA hS
            refine va_calli (va_runV (As := [.int 4]) (rest := [.int (nI i1), .ref b755]) ⟨hx, hb, hml, hown, hts⟩ (c_ruled l dC dI kA adK adV G H nC nS o0 4 hT hr_o0 (by omega) (by omega)) (cwV 1 hts (goodIn_app (goodIn_r _ [93, 94, 95, 9] rfl (by decide +kernel)) (goodIn_ca (goodIn_r _ [87, 62, 26, 88, 64, 65, 66, 67, 68, 69, 70, 71, 72, 73, 17, 74, 75, 76, 77, 78, 79, 80, 89, 90, 91, 92] rfl (by decide +kernel)) (bs2_in _ _))) rfl rfl rfl (by decide +kernel) ⟨(Nat.le_of_ble_eq_true rfl), (Nat.le_of_ble_eq_true rfl)⟩) ⟨fun a U g mk q => by obtain ⟨q0, q1, qK, qE⟩ := q; exact ⟨q0, q1, va_K.moved (u := U) (U := U.calling g mk a) (Vm.Alike.refl U.vm) qK, EVC.blind g mk a qE⟩, gH_rc hK hT hr_o0 shc_3 rfl, fun U hU hW => ⟨rfl, hU, va_K.moved hW.alike hK, hE.call hS hFc hU hW⟩⟩ rfl rfl hl.1 rfl (lv_room (Nat.le_of_ble_eq_true rfl)) dX0_giveFarms_62 ⟨(Nat.le_of_ble_eq_true rfl), (Nat.le_of_ble_eq_true rfl)⟩) hS (fun q _ h => hFc q h) hFc (fun r758 u t H locs ht hvm hw759 hB _ _ hS => ?_)
            obtain ⟨hT, hF1⟩ := hB
            rw [ht] at hT hF1
            have m760 := m730.kept (hF1.arr hr_hd9 skc_54 (by decide))
            have m761 := (hF1.fld hr_o0 skc_3 (k := 3) (by decide) (by decide)).trans m731
            have m762 := (hF1.fld hr_o0 skc_3 (k := 15) (by decide) (by decide)).trans m732
            have hF := hF.more hF1 (by decide)
            try dsimp only at hw759
            refine lv_goto (tgt := 69) hx hb dX0_giveFarms_65 (by decide) ?_
            refine tw_iast (i := (nI i1)) (x := r758) hx hb hK hT hG hS hg756 shc_57 rfl (vp_in_nI (by omega) (by decide)) (gi_all _) dX0_giveFarms_69 (fun H locs hT oq m768 oi hS => ?_)
            have hF := hF.ast hg756 skc_57 oq (by decide)
            have m769 := m760.kept (oq _ (gne hr_hd9 hg756 (by decide)))
            have m770 := (el_kept (oq _ (gne hr_o0 hg756 (by decide)))).trans m761
            have m771 := (el_kept (oq _ (gne hr_o0 hg756 (by decide)))).trans m762
            refine lv_iinc (v := nI (i1 + 1)) (lv' := [(3, .int (nI (i1 + 1))), (4, .int 1), (0, .ref o0), (1, .int p0), (2, .ref p1)]) hx hb dX0_giveFarms_70 hl (k := 1) rfl (nI_add i1 1) (by decide) rfl (fun ls hl => ?_)
            refine lv_goto (tgt := 2) hx hb dX0_giveFarms_73 (by decide) ?_
            exact ih290 (i1 + 1) (by omega) (by omega) _ _ hT hF hS m769 m770 m771 ls (lv_sub hl [0, 2, 3, 4] rfl)
  exact key290 (60 - 0) 0 (by omega) (Nat.le_refl _) _ _ hT hF hS hc_vh hm_hd9 hm_hv0 ls (lv_sub hl [0, 1, 2, 3] rfl)
def w_c_reapZ : List Cond := .code yX0_reap cX0_reap 5 (some .int) :: (HAppend.hAppend (α := List Cond) (β := List Cond) (γ := List Cond) [.code yX3_dayNow cX3_dayNow 1 (some .int), .fieldLink RX3 32 "SeaLand$Lake" "hour" "I", .methodLink RX0 195 yX3_dayNow, .instanceMethod yX3_dayNow, .selects RX3 yX3_dayNow yX3_dayNow, .initialized RX3, .methodLink RX0 166 Lib.Math.min.name, .static Lib.Math.min.name, .initialized "java/lang/Math", .code Lib.Math.min.name Lib.Math.min.code 2 (some .int), .fieldLink RX0 28 "SeaLand$Board" "harvested" "[Z", .fieldLink RX0 75 "SeaLand$Board" "settled" "I", .code yJ7_fill_53178 cJ7_fill_53178 4 none, .methodLink RX0 55 yJ7_fill_53178, .static yJ7_fill_53178, .initialized RJ7, .fieldLink RX0 11 "SeaLand$Board" "settlers" "[LSeaLand$Settler;"] bs2)
