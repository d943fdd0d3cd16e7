def ncT : List (String × String) := (("java/lang/IndexOutOfBoundsException", "java/lang/IllegalArgumentException") :: ("java/lang/IndexOutOfBoundsException", "java/util/NoSuchElementException") :: ("java/lang/IndexOutOfBoundsException", "java/lang/IllegalStateException") :: ("java/lang/IndexOutOfBoundsException", "java/lang/UnsupportedOperationException") :: ("java/lang/IndexOutOfBoundsException", "java/lang/ClassCastException") :: ("java/lang/IllegalArgumentException", "java/lang/IndexOutOfBoundsException") :: ("java/lang/IllegalArgumentException", "java/util/NoSuchElementException") :: ("java/lang/IllegalArgumentException", "java/lang/IllegalStateException") :: ("java/lang/IllegalArgumentException", "java/lang/UnsupportedOperationException") :: ("java/lang/IllegalArgumentException", "java/lang/ClassCastException") :: ("java/util/NoSuchElementException", "java/lang/IndexOutOfBoundsException") :: ("java/util/NoSuchElementException", "java/lang/IllegalArgumentException") :: ("java/util/NoSuchElementException", "java/lang/IllegalStateException") :: ("java/util/NoSuchElementException", "java/lang/UnsupportedOperationException") :: ("java/util/NoSuchElementException", "java/lang/ClassCastException") :: ("java/lang/IllegalStateException", "java/lang/IndexOutOfBoundsException") :: ("java/lang/IllegalStateException", "java/lang/IllegalArgumentException") :: ("java/lang/IllegalStateException", "java/util/NoSuchElementException") :: ("java/lang/IllegalStateException", "java/lang/UnsupportedOperationException") :: ("java/lang/IllegalStateException", "java/lang/ClassCastException") :: ("java/lang/UnsupportedOperationException", "java/lang/IndexOutOfBoundsException") :: ("java/lang/UnsupportedOperationException", "java/lang/IllegalArgumentException") :: ("java/lang/UnsupportedOperationException", "java/util/NoSuchElementException") :: ("java/lang/UnsupportedOperationException", "java/lang/IllegalStateException") :: ("java/lang/UnsupportedOperationException", "java/lang/ClassCastException") :: ("java/lang/ClassCastException", "java/lang/IndexOutOfBoundsException") :: ("java/lang/ClassCastException", "java/lang/IllegalArgumentException") :: ("java/lang/ClassCastException", "java/util/NoSuchElementException") :: ("java/lang/ClassCastException", "java/lang/IllegalStateException") :: ("java/lang/ClassCastException", "java/lang/UnsupportedOperationException") :: [])
def NC (U : State) : Prop := ∀ q ∈ ncT, va_Nc q.1 q.2 U
theorem NC.blind {U : State} (g : JFrame) (mk : MethodId) (a : Array Value) (h : NC U) : NC (U.calling g mk a) := fun q hq => va_Nc.moved (u := U) (Vm.Alike.refl U.vm) (h q hq)
theorem NC.call {s U : State} (h : NC s) (hW : s.WarmedH U.vm) : NC U := fun q hq => va_Nc.moved hW.alike (h q hq)
def w_l_choose : List Cond := .codeWith yL_choose cL_choose 4 (some .int) [(0, 9, 12, 15)] :: (HAppend.hAppend (α := List Cond) (β := List Cond) (γ := List Cond) [.code yX11_choose cX11_choose 2 (some .int), .code yX11_within cX11_within 3 (some .boolean), .methodLink RX11 58 yX11_within, .static yX11_within, .initialized RX11, .code yX11_needNumbers cX11_needNumbers 1 none, .classLink RX11 547 "java/lang/IllegalArgumentException", .initialized "java/lang/IllegalArgumentException", .methodLink RX11 62 yX11_needNumbers, .static yX11_needNumbers, .fieldLink RX11 30 "SeaLand" "board" "LSeaLand$Board;", .fieldLink RX11 16 "SeaLand" "lake" "LSeaLand$Lake;", .code yX0_giveFarms cX0_giveFarms 7 (some .int), .fieldLink RX0 75 "SeaLand$Board" "settled" "I", .fieldLink RX0 185 "SeaLand$Board" "holding" "I", .code yX0_firstByMark cX0_firstByMark 3 (some .int), .fieldLink RX0 37 "SeaLand$Board" "marks" "[I", .fieldLink RX0 11 "SeaLand$Board" "settlers" "[LSeaLand$Settler;", .methodLink RX0 173 yX0_firstByMark, .instanceMethod yX0_firstByMark, .selects RX0 yX0_firstByMark yX0_firstByMark, .initialized RX0, .code yX0_bestFreeFarm cX0_bestFreeFarm 6 (some .int), .fieldLink RX0 143 "SeaLand$Board" "farms" "I", .fieldLink RX0 24 "SeaLand$Board" "held" "[Z", .code yX0_worthOf cX0_worthOf 7 (some .int), .fieldLink RX0 17 "SeaLand$Board" "farmOf" "[I", .methodLink RX0 161 Lib.Math.max.name, .static Lib.Math.max.name, .initialized "java/lang/Math", .code Lib.Math.max.name Lib.Math.max.code 2 (some .int), .methodLink RX0 191 yX0_worthOf, .instanceMethod yX0_worthOf, .selects RX0 yX0_worthOf yX0_worthOf, .methodLink RX0 181 yX0_bestFreeFarm, .instanceMethod yX0_bestFreeFarm, .selects RX0 yX0_bestFreeFarm yX0_bestFreeFarm, .code yX0_gatherFacts cX0_gatherFacts 3 none, .fieldLink RX0 33 "SeaLand$Board" "facts" "[J", .code yX0_acresOf cX0_acresOf 4 (some .int), .methodLink RX0 98 yX0_acresOf, .instanceMethod yX0_acresOf, .selects RX0 yX0_acresOf yX0_acresOf, .code yX0_nearOf cX0_nearOf 5 (some .int), .code yX3_stepsToBank cX3_stepsToBank 4 (some .int), .fieldLink RX3 47 "SeaLand$Lake" "built" "I", .fieldLink RX3 27 "SeaLand$Lake" "works" "[LSeaLand$Work;", .code yX10_isBank cX10_isBank 1 (some .boolean), .fieldLink RX10 18 "SeaLand$Work" "kind" "I", .methodLink RX3 67 yX10_isBank, .instanceMethod yX10_isBank, .selects RX10 yX10_isBank yX10_isBank, .initialized RX10, .code yX11_stepsApart cX11_stepsApart 2 (some .int), .methodLink RX11 580 Lib.Math.abs.name, .static Lib.Math.abs.name, .code Lib.Math.abs.name Lib.Math.abs.code 1 (some .int), .static yX11_stepsApart, .methodLink RX3 71 Lib.Math.min.name, .static Lib.Math.min.name, .code Lib.Math.min.name Lib.Math.min.code 2 (some .int), .methodLink RX0 138 yX3_stepsToBank, .instanceMethod yX3_stepsToBank, .selects RX3 yX3_stepsToBank yX3_stepsToBank, .initialized RX3, .methodLink RX0 166 Lib.Math.min.name, .methodLink RX0 123 yX0_nearOf, .instanceMethod yX0_nearOf, .selects RX0 yX0_nearOf yX0_nearOf, .methodLink RX0 84 yX0_gatherFacts, .instanceMethod yX0_gatherFacts, .selects RX0 yX0_gatherFacts yX0_gatherFacts, .code yX0_isRuled cX0_isRuled 2 (some .boolean), .fieldLink RX0 41 "SeaLand$Board" "force" "LSeaLand$Law;", .code yX4_firstThatHolds cX4_firstThatHolds 4 (some .int), .fieldLink RX4 60 "SeaLand$Law" "lines" "I", .fieldLink RX4 18 "SeaLand$Law" "kinds" "[I", .code yX4_lineHolds cX4_lineHolds 6 (some .boolean), .fieldLink RX4 33 "SeaLand$Law" "stepFrom" "[I", .fieldLink RX4 36 "SeaLand$Law" "stepTo" "[I", .fieldLink RX4 39 "SeaLand$Law" "steps" "[I", .fieldLink RX4 42 "SeaLand$Law" "stack" "[J", .code yX4_joined cX4_joined 5 (some .long), .methodLink RX4 199 Lib.MathLoose.max_long.x, .static Lib.MathLoose.max_long.x, .code Lib.MathLoose.max_long.x Lib.MathLoose.max_long.code 4 (some .long), .methodLink RX4 195 yX4_joined, .static yX4_joined, .initialized RX4, .methodLink RX4 203 yX4_lineHolds, .instanceMethod yX4_lineHolds, .selects RX4 yX4_lineHolds yX4_lineHolds, .methodLink RX0 134 yX4_firstThatHolds, .instanceMethod yX4_firstThatHolds, .selects RX4 yX4_firstThatHolds yX4_firstThatHolds, .methodLink RX0 169 yX0_isRuled, .instanceMethod yX0_isRuled, .selects RX0 yX0_isRuled yX0_isRuled, .code yX0_ruled cX0_ruled 2 (some .int), .code yX4_sumThatHolds cX4_sumThatHolds 6 (some .long), .fieldLink RX4 21 "SeaLand$Law" "firsts" "[I", .methodLink RX0 130 yX4_sumThatHolds, .instanceMethod yX4_sumThatHolds, .selects RX4 yX4_sumThatHolds yX4_sumThatHolds, .methodLink RX0 88 yX0_ruled, .instanceMethod yX0_ruled, .selects RX0 yX0_ruled yX0_ruled, .methodLink RX11 373 yX0_giveFarms, .instanceMethod yX0_giveFarms, .selects RX0 yX0_giveFarms yX0_giveFarms, .methodLink RL 120 yX11_choose, .instanceMethod yX11_choose, .selects RX11 yX11_choose yX11_choose, .classLink RL 15 "java/lang/IllegalArgumentException"] bs2)
set_option maxHeartbeats 4000000 in
set_option maxRecDepth 100000 in
theorem l_choose (l : Launch) (hlt : l.stackTraces = false) (dC : Nat → ClassId) (dI : Nat → Nat → Nat) (kA : Nat → ClassId) (adK adV : Nat → Nat) (G : gT) (H0 : Heap) (nC nS : Int) (o0 : Nat) (p1 : Int32) (ou : Nat) (hT : gH (dC, dI) kA (SHc nC nS) G H0) (hr_o0 : G o0 = some 14) (hr_ou : G ou = some 98) (hgC : 0 ≤ nC ∧ nC ≤ 40) (hgS : 0 ≤ nS ∧ nS ≤ 60) : Met l yL_choose w_l_choose ({ frames := 8, cells := 1, slots := 6, locals := 182 }) (va_Pc [.ref o0, .int p1, .ref ou] (fun U => U.heap = H0 ∧ va_K (dC, dI) vwCl (tyl kA) U ∧ EVC adK adV (gA G H0.size) U U.heap ∧ NC U)) (va_Qi (fun (r : Int32) (u : Unit) => (0 ≤ r.toInt ∧ r.toInt ≤ 1)) (fun (_ : Unit) (t : State) => gH (dC, dI) kA (SHc nC nS) G t.heap ∧ gF (dC, dI) SKc G ([(3, 15), (10, 7), (50, 0), (54, 0), (56, 0), (57, 0), (98, 0)] : List (Nat × Nat)) H0 t.heap) (gA G H0.size)) 1 6 (gA G H0.size) := by
  refine va_MetW (cc := cL_choose) (maxL := 4) (ret := (some .int)) (by decide) rfl ?_
  intro p e s m args below meth c s₁ B hml hv
  obtain ⟨rfl, hH0, hK, hE, hN⟩ := hv
  have hx := B.exec
  have hb := B.bytes
  have hr := B.returns
  have hts := atoms_spec (ws := w_l_choose) B.pre
  have hown : s.vm.findClass RL = some m.cls := findClass_of_methodNamed B.named
  have hlocks := B.notSynchronized
  have htab := vx_table (x := yL_choose) B (hts _ List.mem_cons_self)
  subst hH0
  generalize hAe : gA G s.heap.size = A at hE ⊢
  have hA : ∀ q : Nat, s.heap.size ≤ q → A q := fun q h => by rw [← hAe]; exact Or.inr h
  have hG := gA_of hAe
  have hS : va_S A s.heap s.heap [] := va_S.rf
  have hF : gF (dC, dI) SKc G ([(3, 15), (10, 7), (50, 0), (54, 0), (56, 0), (57, 0), (98, 0)] : List (Nat × Nat)) s.heap s.heap := gF.rf
  have hl := lv_entry ([.ref o0, .int p1, .ref ou]) (n := 4) (Nat.le_of_ble_eq_true rfl)
  rw [lg_entry_eq]
  generalize (lg_sl ([.ref o0, .int p1, .ref ou]) ++ List.replicate (4 - (lg_sl ([.ref o0, .int p1, .ref ou])).length) Slot.unset).toArray = ls at hl ⊢
  have hl : lv_has ls 4 [(0, .ref o0), (1, .int p1), (2, .ref ou)] := hl
  refine lv_aload_n hx hb dL_choose_0 rfl (lv_at hl 2 rfl) ?_
  refine lv_iconst (v := 0) hx hb dL_choose_1 (by decide) ?_
  refine lv_aload_n hx hb dL_choose_2 rfl (lv_at hl 0 rfl) ?_
  refine lv_iload_n hx hb dL_choose_3 rfl (lv_at hl 1 rfl) ?_
  have hFc := gA_free hG hA hS
  refine vx_calli (vx_runV (As := [.int p1]) (rest := [.int 0, .ref ou]) ⟨hx, hb, hml, hown, hts⟩ (c_choose l hlt dC dI kA adK adV G s.heap nC nS o0 p1 hT hr_o0 (by omega) (by omega)) (cwV 1 hts (goodIn_app (goodIn_r _ [111, 112, 113, 5] rfl (by decide +kernel)) (goodIn_ca (goodIn_r _ [1, 2, 3, 4, 5, 6, 7, 8, 9, 10, 11, 12, 13, 14, 15, 16, 17, 18, 19, 20, 21, 22, 23, 24, 25, 26, 27, 28, 29, 30, 31, 32, 33, 34, 35, 36, 37, 38, 39, 40, 41, 42, 43, 44, 45, 46, 47, 48, 49, 50, 51, 52, 53, 54, 55, 56, 57, 58, 59, 60, 61, 62, 63, 64, 65, 66, 67, 68, 69, 70, 71, 72, 73, 74, 75, 76, 77, 78, 79, 80, 81, 82, 83, 84, 85, 86, 87, 88, 89, 90, 91, 92, 93, 94, 95, 96, 97, 98, 99, 100, 101, 102, 103, 104, 105, 106, 107, 108, 109, 110] rfl (by decide +kernel)) (bs2_in _ _))) rfl rfl rfl (by decide +kernel) ⟨(Nat.le_of_ble_eq_true rfl), (Nat.le_of_ble_eq_true rfl)⟩) ⟨fun a U g mk q => by obtain ⟨q0, q1, qK, qE⟩ := q; exact ⟨q0, q1, va_K.moved (u := U) (U := U.calling g mk a) (Vm.Alike.refl U.vm) qK, EVC.blind g mk a qE⟩, gH_rc hK hT hr_o0 shc_14 rfl, fun U hU hW => ⟨rfl, hU, va_K.moved hW.alike hK, hE.call hS hFc hU hW⟩⟩ rfl rfl hl.1 rfl (lv_room (Nat.le_of_ble_eq_true rfl)) dL_choose_4 ⟨(Nat.le_of_ble_eq_true rfl), (Nat.le_of_ble_eq_true rfl)⟩) hS (fun q _ h => hFc q h) hFc (fun q _ h => hFc q h) (fun E ce q9 u t H locs ht hvm _ hw2 _ _ hS hce hcv hcl => ?_) (fun r1 u t H locs ht hvm hw2 hB _ _ hS => ?_)
  · obtain ⟨hw2, hTx, hFx⟩ := hw2; rw [ht] at hTx hFx
    have hT := hTx; have hF := hF.more hFx (by decide)
    subst hw2
    refine vx_catch (E := "java/lang/IllegalArgumentException") hown [] ⟨0, 9, 12, 15⟩ [] (by rw [htab]; rfl) (fun z h => absurd h List.not_mem_nil) (by decide) (by decide) (ht_at2 hts 113 rfl) (va_Nw.use rfl (hE.1.1.2.1.2.1 _ (List.mem_of_getElem? (i := 1) rfl))) hce hcv hcl ?_
    refine lv_astore_n (lv' := [(3, .ref q9), (0, .ref o0), (1, .int p1), (2, .ref ou)]) hx hb dL_choose_12 rfl hl (by decide) rfl (fun ls hl => ?_)
    refine lv_iconst (v := 1) hx hb dL_choose_13 (by decide) ?_
    exact W.iret (v := 1) hx hb hr (fun t ht hW => ⟨⟨1, (), rfl, (by exact (rg_t (a := 1) (by decide) (by first | decide | omega) (by first | decide | omega))), by (try dsimp only); rw [ht]; exact ⟨hT, hF⟩⟩, hS.F ht⟩) hS.2.2 dL_choose_14
  · obtain ⟨hT, hF1⟩ := hB
    rw [ht] at hT hF1
    have hF := hF.more hF1 (by decide)
    try dsimp only at hw2
    refine lv_i2l (v := r1.toInt64) hx hb dL_choose_7 rfl ?_
    refine tw_last (i := 0)  hx hb hK hT hG hS hr_ou shc_98 rfl (by unfold vp_in; decide) ⟨_, rfl⟩ dL_choose_8 (fun H locs hT oq m3 oi hS => ?_)
    have hF := hF.ast hr_ou skc_98 oq (by decide)
    refine lv_goto (tgt := 15) hx hb dL_choose_9 (by decide) ?_
    refine lv_iconst (v := 0) hx hb dL_choose_15 (by decide) ?_
    exact W.iret (v := 0) hx hb hr (fun t ht hW => ⟨⟨0, (), rfl, (by exact (rg_t (a := 0) (by decide) (by first | decide | omega) (by first | decide | omega))), by (try dsimp only); rw [ht]; exact ⟨hT, hF⟩⟩, hS.F ht⟩) hS.2.2 dL_choose_16
def w_l_close : List Cond := .codeWith yL_close cL_close 3 (some .int) [(0, 15, 18, 17)] :: (HAppend.hAppend (α := List Cond) (β := List Cond) (γ := List Cond) [.code yX11_close cX11_close 1 (some .boolean), .code yX11_needVote cX11_needVote 1 none, .fieldLink RX11 30 "SeaLand" "board" "LSeaLand$Board;", .classLink RX11 69 "java/lang/IllegalStateException", .initialized "java/lang/IllegalStateException", .methodLink RX11 296 yX11_needVote, .instanceMethod yX11_needVote, .selects RX11 yX11_needVote yX11_needVote, .initialized RX11, .code yX0_closeVote cX0_closeVote 3 (some .boolean), .fieldLink RX0 68 "SeaLand$Board" "yesVotes" "J", .constantLong RX0 92 100, .fieldLink RX0 72 "SeaLand$Board" "allVotes" "J", .fieldLink RX0 41 "SeaLand$Board" "force" "LSeaLand$Law;", .code yX4_lastOf cX4_lastOf 5 (some .int), .fieldLink RX4 60 "SeaLand$Law" "lines" "I", .fieldLink RX4 18 "SeaLand$Law" "kinds" "[I", .fieldLink RX4 21 "SeaLand$Law" "firsts" "[I", .methodLink RX0 94 yX4_lastOf, .instanceMethod yX4_lastOf, .selects RX4 yX4_lastOf yX4_lastOf, .initialized RX4, .fieldLink RX0 64 "SeaLand$Board" "voting" "Z", .fieldLink RX0 45 "SeaLand$Board" "proposed" "LSeaLand$Law;", .methodLink RX11 303 yX0_closeVote, .instanceMethod yX0_closeVote, .selects RX0 yX0_closeVote yX0_closeVote, .initialized RX0, .methodLink RL 94 yX11_close, .instanceMethod yX11_close, .selects RX11 yX11_close yX11_close, .classLink RL 17 "java/lang/IllegalStateException"] bs2)
set_option maxHeartbeats 4000000 in
set_option maxRecDepth 100000 in
theorem l_close (l : Launch) (hlt : l.stackTraces = false) (dC : Nat → ClassId) (dI : Nat → Nat → Nat) (kA : Nat → ClassId) (adK adV : Nat → Nat) (G : gT) (H0 : Heap) (nC nS : Int) (o0 : Nat) (ou : Nat) (hT : gH (dC, dI) kA (SHc nC nS) G H0) (hr_o0 : G o0 = some 14) (hr_ou : G ou = some 98) (hgC : 0 ≤ nC ∧ nC ≤ 40) (hgS : 0 ≤ nS ∧ nS ≤ 60) : Met l yL_close w_l_close ({ frames := 8, cells := 1, slots := 6, locals := 140 }) (va_Pc [.ref o0, .ref ou] (fun U => U.heap = H0 ∧ va_K (dC, dI) vwCl (tyl kA) U ∧ EVC adK adV (gA G H0.size) U U.heap ∧ NC U)) (va_Qi (fun (r : Int32) (u : Unit) => (0 ≤ r.toInt ∧ r.toInt ≤ 1)) (fun (_ : Unit) (t : State) => gH (dC, dI) kA (SHc nC nS) G t.heap ∧ gF (dC, dI) SKc G ([(3, 7), (3, 8), (3, 11), (98, 0)] : List (Nat × Nat)) H0 t.heap) (gA G H0.size)) 1 6 (gA G H0.size) := by
  refine va_MetW (cc := cL_close) (maxL := 3) (ret := (some .int)) (by decide) rfl ?_
  intro p e s m args below meth c s₁ B hml hv
  obtain ⟨rfl, hH0, hK, hE, hN⟩ := hv
  have hx := B.exec
  have hb := B.bytes
  have hr := B.returns
  have hts := atoms_spec (ws := w_l_close) B.pre
  have hown : s.vm.findClass RL = some m.cls := findClass_of_methodNamed B.named
  have hlocks := B.notSynchronized
  have htab := vx_table (x := yL_close) B (hts _ List.mem_cons_self)
  subst hH0
  generalize hAe : gA G s.heap.size = A at hE ⊢
  have hA : ∀ q : Nat, s.heap.size ≤ q → A q := fun q h => by rw [← hAe]; exact Or.inr h
  have hG := gA_of hAe
  have hS : va_S A s.heap s.heap [] := va_S.rf
  have hF : gF (dC, dI) SKc G ([(3, 7), (3, 8), (3, 11), (98, 0)] : List (Nat × Nat)) s.heap s.heap := gF.rf
  have hl := lv_entry ([.ref o0, .ref ou]) (n := 3) (Nat.le_of_ble_eq_true rfl)
  rw [lg_entry_eq]
  generalize (lg_sl ([.ref o0, .ref ou]) ++ List.replicate (3 - (lg_sl ([.ref o0, .ref ou])).length) Slot.unset).toArray = ls at hl ⊢
  have hl : lv_has ls 3 [(0, .ref o0), (1, .ref ou)] := hl
  refine lv_aload_n hx hb dL_close_0 rfl (lv_at hl 1 rfl) ?_
  refine lv_iconst (v := 0) hx hb dL_close_1 (by decide) ?_
  refine lv_aload_n hx hb dL_close_2 rfl (lv_at hl 0 rfl) ?_
  have hFc := gA_free hG hA hS
  refine vx_calli (vx_runV (As := []) (rest := [.int 0, .ref ou]) ⟨hx, hb, hml, hown, hts⟩ (c_close l hlt dC dI kA adK adV G s.heap nC nS o0 hT hr_o0 (by omega) (by omega)) (cwV 0 hts (goodIn_app (goodIn_r _ [29, 30, 31, 9] rfl (by decide +kernel)) (goodIn_ca (goodIn_r _ [1, 2, 3, 4, 5, 6, 7, 8, 9, 10, 11, 12, 13, 14, 15, 16, 17, 18, 19, 20, 21, 22, 23, 24, 25, 26, 27, 28] rfl (by decide +kernel)) (bs2_in _ _))) rfl rfl rfl (by decide +kernel) ⟨(Nat.le_of_ble_eq_true rfl), (Nat.le_of_ble_eq_true rfl)⟩) ⟨fun a U g mk q => by obtain ⟨q0, q1, qK, qE⟩ := q; exact ⟨q0, q1, va_K.moved (u := U) (U := U.calling g mk a) (Vm.Alike.refl U.vm) qK, EVC.blind g mk a qE⟩, gH_rc hK hT hr_o0 shc_14 rfl, fun U hU hW => ⟨rfl, hU, va_K.moved hW.alike hK, hE.call hS hFc hU hW⟩⟩ rfl rfl hl.1 rfl (lv_room (Nat.le_of_ble_eq_true rfl)) dL_close_3 ⟨(Nat.le_of_ble_eq_true rfl), (Nat.le_of_ble_eq_true rfl)⟩) hS (fun q _ h => hFc q h) hFc (fun q _ h => hFc q h) (fun E ce q9 u t H locs ht hvm _ hw2 _ _ hS hce hcv hcl => ?_) (fun r1 u t H locs ht hvm hw2 hB _ _ hS => ?_)
  · obtain ⟨hw2, hTx, hFx⟩ := hw2; rw [ht] at hTx hFx
    have hT := hTx; have hF := hF.more hFx (by decide)
    subst hw2
    refine vx_catch (E := "java/lang/IllegalStateException") hown [] ⟨0, 15, 18, 17⟩ [] (by rw [htab]; rfl) (fun z h => absurd h List.not_mem_nil) (by decide) (by decide) (ht_at2 hts 31 rfl) (va_Nw.use rfl (hE.1.1.2.1.2.1 _ (List.mem_of_getElem? (i := 3) rfl))) hce hcv hcl ?_
    refine lv_astore_n (lv' := [(2, .ref q9), (0, .ref o0), (1, .ref ou)]) hx hb dL_close_18 rfl hl (by decide) rfl (fun ls hl => ?_)
    refine lv_iconst (v := 1) hx hb dL_close_19 (by decide) ?_
    exact W.iret (v := 1) hx hb hr (fun t ht hW => ⟨⟨1, (), rfl, (by exact (rg_t (a := 1) (by decide) (by first | decide | omega) (by first | decide | omega))), by (try dsimp only); rw [ht]; exact ⟨hT, hF⟩⟩, hS.F ht⟩) hS.2.2 dL_close_20
  · obtain ⟨hT, hF1⟩ := hB
    rw [ht] at hT hF1
    have hF := hF.more hF1 (by decide)
    try dsimp only at hw2
    have h3 := hw2
    refine lv_if_eq (tgt := 13) hx hb dL_close_6 (by decide) (fun c4 => ?_) (fun c4 => ?_)
    · have t5 : r1.toInt = 0 := ti_eq c4 rfl (by decide)
      refine lv_lconst (v := 0) hx hb dL_close_13 (by decide) ?_
      refine tw_last (i := 0)  hx hb hK hT hG hS hr_ou shc_98 rfl (by unfold vp_in; decide) ⟨_, rfl⟩ dL_close_14 (fun H locs hT oq m6 oi hS => ?_)
      have hF := hF.ast hr_ou skc_98 oq (by decide)
      refine lv_goto (tgt := 21) hx hb dL_close_15 (by decide) ?_
      refine lv_iconst (v := 0) hx hb dL_close_21 (by decide) ?_
      exact W.iret (v := 0) hx hb hr (fun t ht hW => ⟨⟨0, (), rfl, (by exact (rg_t (a := 0) (by decide) (by first | decide | omega) (by first | decide | omega))), by (try dsimp only); rw [ht]; exact ⟨hT, hF⟩⟩, hS.F ht⟩) hS.2.2 dL_close_22
    · have t7 : r1.toInt ≠ 0 := ti_ne c4 rfl (by decide)
      refine lv_lconst (v := 1) hx hb dL_close_9 (by decide) ?_
      refine lv_goto (tgt := 14) hx hb dL_close_10 (by decide) ?_
      refine tw_last (i := 0)  hx hb hK hT hG hS hr_ou shc_98 rfl (by unfold vp_in; decide) ⟨_, rfl⟩ dL_close_14 (fun H locs hT oq m8 oi hS => ?_)
      have hF := hF.ast hr_ou skc_98 oq (by decide)
      refine lv_goto (tgt := 21) hx hb dL_close_15 (by decide) ?_
      refine lv_iconst (v := 0) hx hb dL_close_21 (by decide) ?_
      exact W.iret (v := 0) hx hb hr (fun t ht hW => ⟨⟨0, (), rfl, (by exact (rg_t (a := 0) (by decide) (by first | decide | omega) (by first | decide | omega))), by (try dsimp only); rw [ht]; exact ⟨hT, hF⟩⟩, hS.F ht⟩) hS.2.2 dL_close_22
def w_l_coal : List Cond := .codeWith yL_coal cL_coal 5 (some .int) [(0, 10, 13, 13), (0, 10, 17, 15), (0, 10, 21, 50)] :: (HAppend.hAppend (α := List Cond) (β := List Cond) (γ := List Cond) [.code yX11_coal cX11_coal 4 (some .int), .code yX11_workOf cX11_workOf 2 (some (.object "SeaLand$Work")), .fieldLink RX11 16 "SeaLand" "lake" "LSeaLand$Lake;", .code yX11_within cX11_within 3 (some .boolean), .methodLink RX11 58 yX11_within, .static yX11_within, .initialized RX11, .classLink RX11 557 "java/lang/IndexOutOfBoundsException", .initialized "java/lang/IndexOutOfBoundsException", .methodLink RX11 167 yX11_workOf, .instanceMethod yX11_workOf, .selects RX11 yX11_workOf yX11_workOf, .code yX11_needNumbers cX11_needNumbers 1 none, .classLink RX11 547 "java/lang/IllegalArgumentException", .initialized "java/lang/IllegalArgumentException", .methodLink RX11 62 yX11_needNumbers, .static yX11_needNumbers, .constant RX11 96 100000, .code yX11_needKind cX11_needKind 1 none, .classLink RX11 552 "java/lang/ClassCastException", .initialized "java/lang/ClassCastException", .methodLink RX11 177 yX11_needKind, .static yX11_needKind, .fieldLink RX11 23 "SeaLand" "rows" "LSeaLand$Rows;", .code yX6_forget cX6_forget 1 none, .fieldLink RX6 18 "SeaLand$Rows" "kept" "I", .fieldLink RX6 22 "SeaLand$Rows" "oldest" "I", .methodLink RX11 76 yX6_forget, .instanceMethod yX6_forget, .selects RX6 yX6_forget yX6_forget, .initialized RX6, .methodLink RL 63 yX11_coal, .instanceMethod yX11_coal, .selects RX11 yX11_coal yX11_coal, .classLink RL 13 "java/lang/IndexOutOfBoundsException", .classLink RL 15 "java/lang/IllegalArgumentException", .classLink RL 50 "java/lang/ClassCastException"] bs2)
set_option maxHeartbeats 4000000 in
set_option maxRecDepth 100000 in
theorem l_coal (l : Launch) (hlt : l.stackTraces = false) (dC : Nat → ClassId) (dI : Nat → Nat → Nat) (kA : Nat → ClassId) (adK adV : Nat → Nat) (G : gT) (H0 : Heap) (nC nS : Int) (o0 : Nat) (p1 : Int32) (p2 : Int32) (ou : Nat) (hT : gH (dC, dI) kA (SHc nC nS) G H0) (hr_o0 : G o0 = some 14) (hr_ou : G ou = some 98) (hgC : 0 ≤ nC ∧ nC ≤ 40) (hgS : 0 ≤ nS ∧ nS ≤ 60) : Met l yL_coal w_l_coal ({ frames := 8, cells := 2, slots := 12, locals := 144 }) (va_Pc [.ref o0, .int p1, .int p2, .ref ou] (fun U => U.heap = H0 ∧ va_K (dC, dI) vwCl (tyl kA) U ∧ EVC adK adV (gA G H0.size) U U.heap ∧ NC U)) (va_Qi (fun (r : Int32) (u : Unit) => (0 ≤ r.toInt ∧ r.toInt ≤ 3)) (fun (_ : Unit) (t : State) => gH (dC, dI) kA (SHc nC nS) G t.heap ∧ gF (dC, dI) SKc G ([(9, 2), (9, 3), (13, 8), (98, 0)] : List (Nat × Nat)) H0 t.heap) (gA G H0.size)) 2 12 (gA G H0.size) := by
  refine va_MetW (cc := cL_coal) (maxL := 5) (ret := (some .int)) (by decide) rfl ?_
  intro p e s m args below meth c s₁ B hml hv
  obtain ⟨rfl, hH0, hK, hE, hN⟩ := hv
  have hx := B.exec
  have hb := B.bytes
  have hr := B.returns
  have hts := atoms_spec (ws := w_l_coal) B.pre
  have hown : s.vm.findClass RL = some m.cls := findClass_of_methodNamed B.named
  have hlocks := B.notSynchronized
  have htab := vx_table (x := yL_coal) B (hts _ List.mem_cons_self)
  subst hH0
  generalize hAe : gA G s.heap.size = A at hE ⊢
  have hA : ∀ q : Nat, s.heap.size ≤ q → A q := fun q h => by rw [← hAe]; exact Or.inr h
  have hG := gA_of hAe
  have hS : va_S A s.heap s.heap [] := va_S.rf
  have hF : gF (dC, dI) SKc G ([(9, 2), (9, 3), (13, 8), (98, 0)] : List (Nat × Nat)) s.heap s.heap := gF.rf
  have hl := lv_entry ([.ref o0, .int p1, .int p2, .ref ou]) (n := 5) (Nat.le_of_ble_eq_true rfl)
  rw [lg_entry_eq]
  generalize (lg_sl ([.ref o0, .int p1, .int p2, .ref ou]) ++ List.replicate (5 - (lg_sl ([.ref o0, .int p1, .int p2, .ref ou])).length) Slot.unset).toArray = ls at hl ⊢
  have hl : lv_has ls 5 [(0, .ref o0), (1, .int p1), (2, .int p2), (3, .ref ou)] := hl
  refine lv_aload_n hx hb dL_coal_0 rfl (lv_at hl 3 rfl) ?_
  refine lv_iconst (v := 0) hx hb dL_coal_1 (by decide) ?_
  refine lv_aload_n hx hb dL_coal_2 rfl (lv_at hl 0 rfl) ?_
  refine lv_iload_n hx hb dL_coal_3 rfl (lv_at hl 1 rfl) ?_
  refine lv_iload_n hx hb dL_coal_4 rfl (lv_at hl 2 rfl) ?_
  have hFc := gA_free hG hA hS
  refine vx_calli (vx_runV (As := [.int p1, .int p2]) (rest := [.int 0, .ref ou]) ⟨hx, hb, hml, hown, hts⟩ (c_coal l hlt dC dI kA adK adV G s.heap nC nS o0 p1 p2 hT hr_o0 (by omega) (by omega)) (cwV 2 hts (goodIn_app (goodIn_r _ [32, 33, 34, 7] rfl (by decide +kernel)) (goodIn_ca (goodIn_r _ [1, 2, 3, 4, 5, 6, 7, 8, 9, 10, 11, 12, 13, 14, 15, 16, 17, 18, 19, 20, 21, 22, 23, 24, 25, 26, 27, 28, 29, 30, 31] rfl (by decide +kernel)) (bs2_in _ _))) rfl rfl rfl (by decide +kernel) ⟨(Nat.le_of_ble_eq_true rfl), (Nat.le_of_ble_eq_true rfl)⟩) ⟨fun a U g mk q => by obtain ⟨q0, q1, qK, qE⟩ := q; exact ⟨q0, q1, va_K.moved (u := U) (U := U.calling g mk a) (Vm.Alike.refl U.vm) qK, EVC.blind g mk a qE⟩, gH_rc hK hT hr_o0 shc_14 rfl, fun U hU hW => ⟨rfl, hU, va_K.moved hW.alike hK, hE.call hS hFc hU hW⟩⟩ rfl rfl hl.1 rfl (lv_room (Nat.le_of_ble_eq_true rfl)) dL_coal_5 ⟨(Nat.le_of_ble_eq_true rfl), (Nat.le_of_ble_eq_true rfl)⟩) hS (fun q _ h => hFc q h) hFc (fun q _ h => hFc q h) (fun E ce q9 u t H locs ht hvm _ hw2 _ _ hS hce hcv hcl => ?_) (fun r1 u t H locs ht hvm hw2 hB _ _ hS => ?_)
  · obtain ⟨hw2, hTx, hFx⟩ := hw2; rw [ht] at hTx hFx
    have hT := hTx; have hF := hF.more hFx (by decide)
    rcases hw2 with rfl | rfl | rfl
    · refine vx_catch (E := "java/lang/ClassCastException") hown [⟨0, 10, 13, 13⟩, ⟨0, 10, 17, 15⟩] ⟨0, 10, 21, 50⟩ [] (by rw [htab]; rfl) (fun z h => by
          simp only [List.mem_cons, List.not_mem_nil, or_false] at h
          rcases h with rfl | rfl
          · exact Or.inr ⟨by decide, "java/lang/IndexOutOfBoundsException", (ht_at2 hts 34 rfl), hN ("java/lang/ClassCastException", "java/lang/IndexOutOfBoundsException") (by decide +kernel)⟩
          · exact Or.inr ⟨by decide, "java/lang/IllegalArgumentException", (ht_at2 hts 35 rfl), hN ("java/lang/ClassCastException", "java/lang/IllegalArgumentException") (by decide +kernel)⟩) (by decide) (by decide) (ht_at2 hts 36 rfl) (va_Nw.use rfl (hE.2 _ (List.mem_of_getElem? (i := 1) rfl))) hce hcv hcl ?_
      refine lv_astore (lv' := [(4, .ref q9), (0, .ref o0), (1, .int p1), (2, .int p2), (3, .ref ou)]) hx hb dL_coal_21 hl (by decide) rfl (fun ls hl => ?_)
      refine lv_iconst (v := 3) hx hb dL_coal_23 (by decide) ?_
      exact W.iret (v := 3) hx hb hr (fun t ht hW => ⟨⟨3, (), rfl, (by exact (rg_t (a := 3) (by decide) (by first | decide | omega) (by first | decide | omega))), by (try dsimp only); rw [ht]; exact ⟨hT, hF⟩⟩, hS.F ht⟩) hS.2.2 dL_coal_24
    · refine vx_catch (E := "java/lang/IllegalArgumentException") hown [⟨0, 10, 13, 13⟩] ⟨0, 10, 17, 15⟩ [⟨0, 10, 21, 50⟩] (by rw [htab]; rfl) (fun z h => by
          simp only [List.mem_cons, List.not_mem_nil, or_false] at h
          rcases h with rfl
          · exact Or.inr ⟨by decide, "java/lang/IndexOutOfBoundsException", (ht_at2 hts 34 rfl), hN ("java/lang/IllegalArgumentException", "java/lang/IndexOutOfBoundsException") (by decide +kernel)⟩) (by decide) (by decide) (ht_at2 hts 35 rfl) (va_Nw.use rfl (hE.1.1.2.1.2.1 _ (List.mem_of_getElem? (i := 1) rfl))) hce hcv hcl ?_
      refine lv_astore (lv' := [(4, .ref q9), (0, .ref o0), (1, .int p1), (2, .int p2), (3, .ref ou)]) hx hb dL_coal_17 hl (by decide) rfl (fun ls hl => ?_)
      refine lv_iconst (v := 2) hx hb dL_coal_19 (by decide) ?_
      exact W.iret (v := 2) hx hb hr (fun t ht hW => ⟨⟨2, (), rfl, (by exact (rg_t (a := 2) (by decide) (by first | decide | omega) (by first | decide | omega))), by (try dsimp only); rw [ht]; exact ⟨hT, hF⟩⟩, hS.F ht⟩) hS.2.2 dL_coal_20
    · refine vx_catch (E := "java/lang/IndexOutOfBoundsException") hown [] ⟨0, 10, 13, 13⟩ [⟨0, 10, 17, 15⟩, ⟨0, 10, 21, 50⟩] (by rw [htab]; rfl) (fun z h => absurd h List.not_mem_nil) (by decide) (by decide) (ht_at2 hts 34 rfl) (va_Nw.use rfl (hE.1.1.2.1.2.1 _ (List.mem_of_getElem? (i := 0) rfl))) hce hcv hcl ?_
      refine lv_astore (lv' := [(4, .ref q9), (0, .ref o0), (1, .int p1), (2, .int p2), (3, .ref ou)]) hx hb dL_coal_13 hl (by decide) rfl (fun ls hl => ?_)
      refine lv_iconst (v := 1) hx hb dL_coal_15 (by decide) ?_
      exact W.iret (v := 1) hx hb hr (fun t ht hW => ⟨⟨1, (), rfl, (by exact (rg_t (a := 1) (by decide) (by first | decide | omega) (by first | decide | omega))), by (try dsimp only); rw [ht]; exact ⟨hT, hF⟩⟩, hS.F ht⟩) hS.2.2 dL_coal_16
  · obtain ⟨hT, hF1⟩ := hB
    rw [ht] at hT hF1
    have hF := hF.more hF1 (by decide)
    try dsimp only at hw2
    refine lv_i2l (v := r1.toInt64) hx hb dL_coal_8 rfl ?_
    refine tw_last (i := 0)  hx hb hK hT hG hS hr_ou shc_98 rfl (by unfold vp_in; decide) ⟨_, rfl⟩ dL_coal_9 (fun H locs hT oq m3 oi hS => ?_)
    have hF := hF.ast hr_ou skc_98 oq (by decide)
    refine lv_goto (tgt := 25) hx hb dL_coal_10 (by decide) ?_
    refine lv_iconst (v := 0) hx hb dL_coal_25 (by decide) ?_
    exact W.iret (v := 0) hx hb hr (fun t ht hW => ⟨⟨0, (), rfl, (by exact (rg_t (a := 0) (by decide) (by first | decide | omega) (by first | decide | omega))), by (try dsimp only); rw [ht]; exact ⟨hT, hF⟩⟩, hS.F ht⟩) hS.2.2 dL_coal_26
def w_l_coin : List Cond := .codeWith yL_coin cL_coin 4 (some .int) [(0, 9, 12, 15)] :: (HAppend.hAppend (α := List Cond) (β := List Cond) (γ := List Cond) [.code yX11_coin cX11_coin 2 (some .int), .constant RX11 411 1000000, .code yX11_within cX11_within 3 (some .boolean), .methodLink RX11 58 yX11_within, .static yX11_within, .initialized RX11, .code yX11_needNumbers cX11_needNumbers 1 none, .classLink RX11 547 "java/lang/IllegalArgumentException", .initialized "java/lang/IllegalArgumentException", .methodLink RX11 62 yX11_needNumbers, .static yX11_needNumbers, .fieldLink RX11 30 "SeaLand" "board" "LSeaLand$Board;", .constant RX11 413 2000000000, .methodLink RL 133 yX11_coin, .instanceMethod yX11_coin, .selects RX11 yX11_coin yX11_coin, .classLink RL 15 "java/lang/IllegalArgumentException"] bs2)
set_option maxHeartbeats 4000000 in
set_option maxRecDepth 100000 in
theorem l_coin (l : Launch) (hlt : l.stackTraces = false) (dC : Nat → ClassId) (dI : Nat → Nat → Nat) (kA : Nat → ClassId) (adK adV : Nat → Nat) (G : gT) (H0 : Heap) (nC nS : Int) (o0 : Nat) (p1 : Int32) (ou : Nat) (hT : gH (dC, dI) kA (SHc nC nS) G H0) (hr_o0 : G o0 = some 14) (hr_ou : G ou = some 98) (hgC : 0 ≤ nC ∧ nC ≤ 40) (hgS : 0 ≤ nS ∧ nS ≤ 60) : Met l yL_coin w_l_coin ({ frames := 8, cells := 1, slots := 6, locals := 141 }) (va_Pc [.ref o0, .int p1, .ref ou] (fun U => U.heap = H0 ∧ va_K (dC, dI) vwCl (tyl kA) U ∧ EVC adK adV (gA G H0.size) U U.heap ∧ NC U)) (va_Qi (fun (r : Int32) (u : Unit) => (0 ≤ r.toInt ∧ r.toInt ≤ 1)) (fun (_ : Unit) (t : State) => gH (dC, dI) kA (SHc nC nS) G t.heap ∧ gF (dC, dI) SKc G ([(3, 17), (98, 0)] : List (Nat × Nat)) H0 t.heap) (gA G H0.size)) 1 6 (gA G H0.size) := by
  refine va_MetW (cc := cL_coin) (maxL := 4) (ret := (some .int)) (by decide) rfl ?_
  intro p e s m args below meth c s₁ B hml hv
  obtain ⟨rfl, hH0, hK, hE, hN⟩ := hv
  have hx := B.exec
  have hb := B.bytes
  have hr := B.returns
  have hts := atoms_spec (ws := w_l_coin) B.pre
  have hown : s.vm.findClass RL = some m.cls := findClass_of_methodNamed B.named
  have hlocks := B.notSynchronized
  have htab := vx_table (x := yL_coin) B (hts _ List.mem_cons_self)
  subst hH0
  generalize hAe : gA G s.heap.size = A at hE ⊢
  have hA : ∀ q : Nat, s.heap.size ≤ q → A q := fun q h => by rw [← hAe]; exact Or.inr h
  have hG := gA_of hAe
  have hS : va_S A s.heap s.heap [] := va_S.rf
  have hF : gF (dC, dI) SKc G ([(3, 17), (98, 0)] : List (Nat × Nat)) s.heap s.heap := gF.rf
  have hl := lv_entry ([.ref o0, .int p1, .ref ou]) (n := 4) (Nat.le_of_ble_eq_true rfl)
  rw [lg_entry_eq]
  generalize (lg_sl ([.ref o0, .int p1, .ref ou]) ++ List.replicate (4 - (lg_sl ([.ref o0, .int p1, .ref ou])).length) Slot.unset).toArray = ls at hl ⊢
  have hl : lv_has ls 4 [(0, .ref o0), (1, .int p1), (2, .ref ou)] := hl
  refine lv_aload_n hx hb dL_coin_0 rfl (lv_at hl 2 rfl) ?_
  refine lv_iconst (v := 0) hx hb dL_coin_1 (by decide) ?_
  refine lv_aload_n hx hb dL_coin_2 rfl (lv_at hl 0 rfl) ?_
  refine lv_iload_n hx hb dL_coin_3 rfl (lv_at hl 1 rfl) ?_
  have hFc := gA_free hG hA hS
  refine vx_calli (vx_runV (As := [.int p1]) (rest := [.int 0, .ref ou]) ⟨hx, hb, hml, hown, hts⟩ (c_coin l hlt dC dI kA adK adV G s.heap nC nS o0 p1 hT hr_o0 (by omega) (by omega)) (cwV 1 hts (goodIn_app (goodIn_r _ [14, 15, 16, 6] rfl (by decide +kernel)) (goodIn_ca (goodIn_r _ [1, 2, 3, 4, 5, 6, 7, 8, 9, 10, 11, 12, 13] rfl (by decide +kernel)) (bs2_in _ _))) rfl rfl rfl (by decide +kernel) ⟨(Nat.le_of_ble_eq_true rfl), (Nat.le_of_ble_eq_true rfl)⟩) ⟨fun a U g mk q => by obtain ⟨q0, q1, qK, qE⟩ := q; exact ⟨q0, q1, va_K.moved (u := U) (U := U.calling g mk a) (Vm.Alike.refl U.vm) qK, EVC.blind g mk a qE⟩, gH_rc hK hT hr_o0 shc_14 rfl, fun U hU hW => ⟨rfl, hU, va_K.moved hW.alike hK, hE.call hS hFc hU hW⟩⟩ rfl rfl hl.1 rfl (lv_room (Nat.le_of_ble_eq_true rfl)) dL_coin_4 ⟨(Nat.le_of_ble_eq_true rfl), (Nat.le_of_ble_eq_true rfl)⟩) hS (fun q _ h => hFc q h) hFc (fun q _ h => hFc q h) (fun E ce q9 u t H locs ht hvm _ hw2 _ _ hS hce hcv hcl => ?_) (fun r1 u t H locs ht hvm hw2 hB _ _ hS => ?_)
  · obtain ⟨hw2, hTx, hFx⟩ := hw2; rw [ht] at hTx hFx
    have hT := hTx; have hF := hF.more hFx (by decide)
    subst hw2
    refine vx_catch (E := "java/lang/IllegalArgumentException") hown [] ⟨0, 9, 12, 15⟩ [] (by rw [htab]; rfl) (fun z h => absurd h List.not_mem_nil) (by decide) (by decide) (ht_at2 hts 16 rfl) (va_Nw.use rfl (hE.1.1.2.1.2.1 _ (List.mem_of_getElem? (i := 1) rfl))) hce hcv hcl ?_
    refine lv_astore_n (lv' := [(3, .ref q9), (0, .ref o0), (1, .int p1), (2, .ref ou)]) hx hb dL_coin_12 rfl hl (by decide) rfl (fun ls hl => ?_)
    refine lv_iconst (v := 1) hx hb dL_coin_13 (by decide) ?_
    exact W.iret (v := 1) hx hb hr (fun t ht hW => ⟨⟨1, (), rfl, (by exact (rg_t (a := 1) (by decide) (by first | decide | omega) (by first | decide | omega))), by (try dsimp only); rw [ht]; exact ⟨hT, hF⟩⟩, hS.F ht⟩) hS.2.2 dL_coin_14
  · obtain ⟨hT, hF1⟩ := hB
    rw [ht] at hT hF1
    have hF := hF.more hF1 (by decide)
    try dsimp only at hw2
    have h3 := hw2
    refine lv_i2l (v := r1.toInt64) hx hb dL_coin_7 rfl ?_
    refine tw_last (i := 0)  hx hb hK hT hG hS hr_ou shc_98 rfl (by unfold vp_in; decide) ⟨_, rfl⟩ dL_coin_8 (fun H locs hT oq m4 oi hS => ?_)
    have hF := hF.ast hr_ou skc_98 oq (by decide)
    refine lv_goto (tgt := 15) hx hb dL_coin_9 (by decide) ?_
    refine lv_iconst (v := 0) hx hb dL_coin_15 (by decide) ?_
    exact W.iret (v := 0) hx hb hr (fun t ht hW => ⟨⟨0, (), rfl, (by exact (rg_t (a := 0) (by decide) (by first | decide | omega) (by first | decide | omega))), by (try dsimp only); rw [ht]; exact ⟨hT, hF⟩⟩, hS.F ht⟩) hS.2.2 dL_coin_16
def w_l_come : List Cond := .codeWith yL_come cL_come 4 (some .int) [(0, 16, 19, 13)] :: (HAppend.hAppend (α := List Cond) (β := List Cond) (γ := List Cond) [.code yX11_come cX11_come 4 (some .boolean), .code yX11_settlerOf cX11_settlerOf 2 (some (.object "SeaLand$Settler")), .fieldLink RX11 30 "SeaLand" "board" "LSeaLand$Board;", .code yX11_within cX11_within 3 (some .boolean), .methodLink RX11 58 yX11_within, .static yX11_within, .initialized RX11, .classLink RX11 557 "java/lang/IndexOutOfBoundsException", .initialized "java/lang/IndexOutOfBoundsException", .methodLink RX11 292 yX11_settlerOf, .instanceMethod yX11_settlerOf, .selects RX11 yX11_settlerOf yX11_settlerOf, .methodLink RL 127 yX11_come, .instanceMethod yX11_come, .selects RX11 yX11_come yX11_come, .classLink RL 13 "java/lang/IndexOutOfBoundsException"] bs2)
set_option maxHeartbeats 4000000 in
set_option maxRecDepth 100000 in
theorem l_come (l : Launch) (hlt : l.stackTraces = false) (dC : Nat → ClassId) (dI : Nat → Nat → Nat) (kA : Nat → ClassId) (adK adV : Nat → Nat) (G : gT) (H0 : Heap) (nC nS : Int) (o0 : Nat) (p1 : Int32) (ou : Nat) (hT : gH (dC, dI) kA (SHc nC nS) G H0) (hr_o0 : G o0 = some 14) (hr_ou : G ou = some 98) (hgC : 0 ≤ nC ∧ nC ≤ 40) (hgS : 0 ≤ nS ∧ nS ≤ 60) : Met l yL_come w_l_come ({ frames := 8, cells := 1, slots := 6, locals := 144 }) (va_Pc [.ref o0, .int p1, .ref ou] (fun U => U.heap = H0 ∧ va_K (dC, dI) vwCl (tyl kA) U ∧ EVC adK adV (gA G H0.size) U U.heap ∧ NC U)) (va_Qi (fun (r : Int32) (u : Unit) => (0 ≤ r.toInt ∧ r.toInt ≤ 1)) (fun (_ : Unit) (t : State) => gH (dC, dI) kA (SHc nC nS) G t.heap ∧ gF (dC, dI) SKc G ([(10, 10), (98, 0)] : List (Nat × Nat)) H0 t.heap) (gA G H0.size)) 1 6 (gA G H0.size) := by
  refine va_MetW (cc := cL_come) (maxL := 4) (ret := (some .int)) (by decide) rfl ?_
  intro p e s m args below meth c s₁ B hml hv
  obtain ⟨rfl, hH0, hK, hE, hN⟩ := hv
  have hx := B.exec
  have hb := B.bytes
  have hr := B.returns
  have hts := atoms_spec (ws := w_l_come) B.pre
  have hown : s.vm.findClass RL = some m.cls := findClass_of_methodNamed B.named
  have hlocks := B.notSynchronized
  have htab := vx_table (x := yL_come) B (hts _ List.mem_cons_self)
  subst hH0
  generalize hAe : gA G s.heap.size = A at hE ⊢
  have hA : ∀ q : Nat, s.heap.size ≤ q → A q := fun q h => by rw [← hAe]; exact Or.inr h
  have hG := gA_of hAe
  have hS : va_S A s.heap s.heap [] := va_S.rf
  have hF : gF (dC, dI) SKc G ([(10, 10), (98, 0)] : List (Nat × Nat)) s.heap s.heap := gF.rf
  have hl := lv_entry ([.ref o0, .int p1, .ref ou]) (n := 4) (Nat.le_of_ble_eq_true rfl)
  rw [lg_entry_eq]
  generalize (lg_sl ([.ref o0, .int p1, .ref ou]) ++ List.replicate (4 - (lg_sl ([.ref o0, .int p1, .ref ou])).length) Slot.unset).toArray = ls at hl ⊢
  have hl : lv_has ls 4 [(0, .ref o0), (1, .int p1), (2, .ref ou)] := hl
  refine lv_aload_n hx hb dL_come_0 rfl (lv_at hl 2 rfl) ?_
  refine lv_iconst (v := 0) hx hb dL_come_1 (by decide) ?_
  refine lv_aload_n hx hb dL_come_2 rfl (lv_at hl 0 rfl) ?_
  refine lv_iload_n hx hb dL_come_3 rfl (lv_at hl 1 rfl) ?_
  have hFc := gA_free hG hA hS
  refine vx_calli (vx_runV (As := [.int p1]) (rest := [.int 0, .ref ou]) ⟨hx, hb, hml, hown, hts⟩ (c_come l hlt dC dI kA adK adV G s.heap nC nS o0 p1 hT hr_o0 (by omega) (by omega)) (cwV 1 hts (goodIn_app (goodIn_r _ [13, 14, 15, 7] rfl (by decide +kernel)) (goodIn_ca (goodIn_r _ [1, 2, 3, 4, 5, 6, 7, 8, 9, 10, 11, 12] rfl (by decide +kernel)) (bs2_in _ _))) rfl rfl rfl (by decide +kernel) ⟨(Nat.le_of_ble_eq_true rfl), (Nat.le_of_ble_eq_true rfl)⟩) ⟨fun a U g mk q => by obtain ⟨q0, q1, qK, qE⟩ := q; exact ⟨q0, q1, va_K.moved (u := U) (U := U.calling g mk a) (Vm.Alike.refl U.vm) qK, EVC.blind g mk a qE⟩, gH_rc hK hT hr_o0 shc_14 rfl, fun U hU hW => ⟨rfl, hU, va_K.moved hW.alike hK, hE.call hS hFc hU hW⟩⟩ rfl rfl hl.1 rfl (lv_room (Nat.le_of_ble_eq_true rfl)) dL_come_4 ⟨(Nat.le_of_ble_eq_true rfl), (Nat.le_of_ble_eq_true rfl)⟩) hS (fun q _ h => hFc q h) hFc (fun q _ h => hFc q h) (fun E ce q9 u t H locs ht hvm _ hw2 _ _ hS hce hcv hcl => ?_) (fun r1 u t H locs ht hvm hw2 hB _ _ hS => ?_)
  · obtain ⟨hw2, hTx, hFx⟩ := hw2; rw [ht] at hTx hFx
    have hT := hTx; have hF := hF.more hFx (by decide)
    subst hw2
    refine vx_catch (E := "java/lang/IndexOutOfBoundsException") hown [] ⟨0, 16, 19, 13⟩ [] (by rw [htab]; rfl) (fun z h => absurd h List.not_mem_nil) (by decide) (by decide) (ht_at2 hts 15 rfl) (va_Nw.use rfl (hE.1.1.2.1.2.1 _ (List.mem_of_getElem? (i := 0) rfl))) hce hcv hcl ?_
    refine lv_astore_n (lv' := [(3, .ref q9), (0, .ref o0), (1, .int p1), (2, .ref ou)]) hx hb dL_come_19 rfl hl (by decide) rfl (fun ls hl => ?_)
    refine lv_iconst (v := 1) hx hb dL_come_20 (by decide) ?_
    exact W.iret (v := 1) hx hb hr (fun t ht hW => ⟨⟨1, (), rfl, (by exact (rg_t (a := 1) (by decide) (by first | decide | omega) (by first | decide | omega))), by (try dsimp only); rw [ht]; exact ⟨hT, hF⟩⟩, hS.F ht⟩) hS.2.2 dL_come_21
  · obtain ⟨hT, hF1⟩ := hB
    rw [ht] at hT hF1
    have hF := hF.more hF1 (by decide)
    try dsimp only at hw2
    have h3 := hw2
    refine lv_if_eq (tgt := 14) hx hb dL_come_7 (by decide) (fun c4 => ?_) (fun c4 => ?_)
    · have t5 : r1.toInt = 0 := ti_eq c4 rfl (by decide)
      refine lv_lconst (v := 0) hx hb dL_come_14 (by decide) ?_
      refine tw_last (i := 0)  hx hb hK hT hG hS hr_ou shc_98 rfl (by unfold vp_in; decide) ⟨_, rfl⟩ dL_come_15 (fun H locs hT oq m6 oi hS => ?_)
      have hF := hF.ast hr_ou skc_98 oq (by decide)
      refine lv_goto (tgt := 22) hx hb dL_come_16 (by decide) ?_
      refine lv_iconst (v := 0) hx hb dL_come_22 (by decide) ?_
      exact W.iret (v := 0) hx hb hr (fun t ht hW => ⟨⟨0, (), rfl, (by exact (rg_t (a := 0) (by decide) (by first | decide | omega) (by first | decide | omega))), by (try dsimp only); rw [ht]; exact ⟨hT, hF⟩⟩, hS.F ht⟩) hS.2.2 dL_come_23
    · have t7 : r1.toInt ≠ 0 := ti_ne c4 rfl (by decide)
      refine lv_lconst (v := 1) hx hb dL_come_10 (by decide) ?_
      refine lv_goto (tgt := 15) hx hb dL_come_11 (by decide) ?_
      refine tw_last (i := 0)  hx hb hK hT hG hS hr_ou shc_98 rfl (by unfold vp_in; decide) ⟨_, rfl⟩ dL_come_15 (fun H locs hT oq m8 oi hS => ?_)
      have hF := hF.ast hr_ou skc_98 oq (by decide)
      refine lv_goto (tgt := 22) hx hb dL_come_16 (by decide) ?_
      refine lv_iconst (v := 0) hx hb dL_come_22 (by decide) ?_
      exact W.iret (v := 0) hx hb hr (fun t ht hW => ⟨⟨0, (), rfl, (by exact (rg_t (a := 0) (by decide) (by first | decide | omega) (by first | decide | omega))), by (try dsimp only); rw [ht]; exact ⟨hT, hF⟩⟩, hS.F ht⟩) hS.2.2 dL_come_23
def w_l_dike : List Cond := .codeWith yL_dike cL_dike 7 (some .int) [(0, 14, 17, 13), (0, 14, 21, 15), (0, 14, 25, 45)] :: (HAppend.hAppend (α := List Cond) (β := List Cond) (γ := List Cond) [.code yX11_dike cX11_dike 5 (some .int), .code yX11_needSquare cX11_needSquare 1 none, .code yX11_within cX11_within 3 (some .boolean), .methodLink RX11 58 yX11_within, .static yX11_within, .initialized RX11, .classLink RX11 557 "java/lang/IndexOutOfBoundsException", .initialized "java/lang/IndexOutOfBoundsException", .methodLink RX11 55 yX11_needSquare, .static yX11_needSquare, .code yX11_needNumbers cX11_needNumbers 1 none, .classLink RX11 547 "java/lang/IllegalArgumentException", .initialized "java/lang/IllegalArgumentException", .methodLink RX11 62 yX11_needNumbers, .static yX11_needNumbers, .code yX11_needRoomForWork cX11_needRoomForWork 1 none, .fieldLink RX11 16 "SeaLand" "lake" "LSeaLand$Lake;", .classLink RX11 345 "java/lang/UnsupportedOperationException", .initialized "java/lang/UnsupportedOperationException", .methodLink RX11 149 yX11_needRoomForWork, .instanceMethod yX11_needRoomForWork, .selects RX11 yX11_needRoomForWork yX11_needRoomForWork, .code yX3_isFreeLand cX3_isFreeLand 2 (some .boolean), .fieldLink RX3 21 "SeaLand$Lake" "ground" "LSeaLand$Ground;", .code yX3_workOn cX3_workOn 3 (some .int), .fieldLink RX3 47 "SeaLand$Lake" "built" "I", .fieldLink RX3 27 "SeaLand$Lake" "works" "[LSeaLand$Work;", .methodLink RX3 53 yX3_workOn, .instanceMethod yX3_workOn, .selects RX3 yX3_workOn yX3_workOn, .initialized RX3, .methodLink RX11 152 yX3_isFreeLand, .instanceMethod yX3_isFreeLand, .selects RX3 yX3_isFreeLand yX3_isFreeLand, .code yX3_isSeaBeside cX3_isSeaBeside 3 (some .boolean), .code yX11_stepsApart cX11_stepsApart 2 (some .int), .methodLink RX11 580 Lib.Math.abs.name, .static Lib.Math.abs.name, .initialized "java/lang/Math", .code Lib.Math.abs.name Lib.Math.abs.code 1 (some .int), .static yX11_stepsApart, .methodLink RX11 156 yX3_isSeaBeside, .instanceMethod yX3_isSeaBeside, .selects RX3 yX3_isSeaBeside yX3_isSeaBeside, .methodLink RX11 160 yX11_stepsApart, .fieldLink RX11 23 "SeaLand" "rows" "LSeaLand$Rows;", .code yX6_forget cX6_forget 1 none, .fieldLink RX6 18 "SeaLand$Rows" "kept" "I", .fieldLink RX6 22 "SeaLand$Rows" "oldest" "I", .methodLink RX11 76 yX6_forget, .instanceMethod yX6_forget, .selects RX6 yX6_forget yX6_forget, .initialized RX6, .code yX3_build cX3_build 5 (some .int), .code yX10_begin cX10_begin 5 none, .fieldLink RX10 18 "SeaLand$Work" "kind" "I", .fieldLink RX10 22 "SeaLand$Work" "square" "I", .fieldLink RX10 25 "SeaLand$Work" "to" "I", .fieldLink RX10 28 "SeaLand$Work" "size" "I", .fieldLink RX10 31 "SeaLand$Work" "width" "I", .fieldLink RX10 34 "SeaLand$Work" "layers" "I", .fieldLink RX10 37 "SeaLand$Work" "coal" "I", .fieldLink RX10 40 "SeaLand$Work" "on" "Z", .fieldLink RX10 44 "SeaLand$Work" "latest" "I", .fieldLink RX10 47 "SeaLand$Work" "total" "I", .methodLink RX3 60 yX10_begin, .instanceMethod yX10_begin, .selects RX10 yX10_begin yX10_begin, .initialized RX10, .methodLink RX11 163 yX3_build, .instanceMethod yX3_build, .selects RX3 yX3_build yX3_build, .methodLink RL 41 yX11_dike, .instanceMethod yX11_dike, .selects RX11 yX11_dike yX11_dike, .classLink RL 13 "java/lang/IndexOutOfBoundsException", .classLink RL 15 "java/lang/IllegalArgumentException", .classLink RL 45 "java/lang/UnsupportedOperationException"] bs2)
set_option maxHeartbeats 4000000 in
set_option maxRecDepth 100000 in
theorem l_dike (l : Launch) (hlt : l.stackTraces = false) (dC : Nat → ClassId) (dI : Nat → Nat → Nat) (kA : Nat → ClassId) (adK adV : Nat → Nat) (G : gT) (H0 : Heap) (nC nS : Int) (o0 : Nat) (p1 : Int32) (p2 : Int32) (p3 : Int32) (p4 : Int32) (ou : Nat) (hT : gH (dC, dI) kA (SHc nC nS) G H0) (hr_o0 : G o0 = some 14) (hr_ou : G ou = some 98) (hgC : 0 ≤ nC ∧ nC ≤ 40) (hgS : 0 ≤ nS ∧ nS ≤ 60) : Met l yL_dike w_l_dike ({ frames := 8, cells := 4, slots := 24, locals := 144 }) (va_Pc [.ref o0, .int p1, .int p2, .int p3, .int p4, .ref ou] (fun U => U.heap = H0 ∧ va_K (dC, dI) vwCl (tyl kA) U ∧ EVC adK adV (gA G H0.size) U U.heap ∧ NC U)) (va_Qi (fun (r : Int32) (u : Unit) => (0 ≤ r.toInt ∧ r.toInt ≤ 3)) (fun (_ : Unit) (t : State) => gH (dC, dI) kA (SHc nC nS) G t.heap ∧ gF (dC, dI) SKc G ([(6, 3), (9, 2), (9, 3), (13, 2), (13, 3), (13, 4), (13, 5), (13, 6), (13, 7), (13, 8), (13, 9), (13, 10), (13, 11), (98, 0)] : List (Nat × Nat)) H0 t.heap) (gA G H0.size)) 4 24 (gA G H0.size) := by
  refine va_MetW (cc := cL_dike) (maxL := 7) (ret := (some .int)) (by decide) rfl ?_
  intro p e s m args below meth c s₁ B hml hv
  obtain ⟨rfl, hH0, hK, hE, hN⟩ := hv
  have hx := B.exec
  have hb := B.bytes
  have hr := B.returns
  have hts := atoms_spec (ws := w_l_dike) B.pre
  have hown : s.vm.findClass RL = some m.cls := findClass_of_methodNamed B.named
  have hlocks := B.notSynchronized
  have htab := vx_table (x := yL_dike) B (hts _ List.mem_cons_self)
  subst hH0
  generalize hAe : gA G s.heap.size = A at hE ⊢
  have hA : ∀ q : Nat, s.heap.size ≤ q → A q := fun q h => by rw [← hAe]; exact Or.inr h
  have hG := gA_of hAe
  have hS : va_S A s.heap s.heap [] := va_S.rf
  have hF : gF (dC, dI) SKc G ([(6, 3), (9, 2), (9, 3), (13, 2), (13, 3), (13, 4), (13, 5), (13, 6), (13, 7), (13, 8), (13, 9), (13, 10), (13, 11), (98, 0)] : List (Nat × Nat)) s.heap s.heap := gF.rf
  have hl := lv_entry ([.ref o0, .int p1, .int p2, .int p3, .int p4, .ref ou]) (n := 7) (Nat.le_of_ble_eq_true rfl)
  rw [lg_entry_eq]
  generalize (lg_sl ([.ref o0, .int p1, .int p2, .int p3, .int p4, .ref ou]) ++ List.replicate (7 - (lg_sl ([.ref o0, .int p1, .int p2, .int p3, .int p4, .ref ou])).length) Slot.unset).toArray = ls at hl ⊢
  have hl : lv_has ls 7 [(0, .ref o0), (1, .int p1), (2, .int p2), (3, .int p3), (4, .int p4), (5, .ref ou)] := hl
  refine lv_aload hx hb dL_dike_0 (lv_at hl 5 rfl) ?_
  refine lv_iconst (v := 0) hx hb dL_dike_2 (by decide) ?_
  refine lv_aload_n hx hb dL_dike_3 rfl (lv_at hl 0 rfl) ?_
  refine lv_iload_n hx hb dL_dike_4 rfl (lv_at hl 1 rfl) ?_
  refine lv_iload_n hx hb dL_dike_5 rfl (lv_at hl 2 rfl) ?_
  refine lv_iload_n hx hb dL_dike_6 rfl (lv_at hl 3 rfl) ?_
  refine lv_iload hx hb dL_dike_7 (lv_at hl 4 rfl) ?_
  have hFc := gA_free hG hA hS
  refine vx_calli (vx_runV (As := [.int p1, .int p2, .int p3, .int p4]) (rest := [.int 0, .ref ou]) ⟨hx, hb, hml, hown, hts⟩ (c_dike l hlt dC dI kA adK adV G s.heap nC nS o0 p1 p2 p3 p4 hT hr_o0 (by omega) (by omega)) (cwV 4 hts (goodIn_app (goodIn_r _ [73, 74, 75, 6] rfl (by decide +kernel)) (goodIn_ca (goodIn_r _ [1, 2, 3, 4, 5, 6, 7, 8, 9, 10, 11, 12, 13, 14, 15, 16, 17, 18, 19, 20, 21, 22, 23, 24, 25, 26, 27, 28, 29, 30, 31, 32, 33, 34, 35, 36, 37, 38, 39, 40, 41, 42, 43, 44, 45, 46, 47, 48, 49, 50, 51, 52, 53, 54, 55, 56, 57, 58, 59, 60, 61, 62, 63, 64, 65, 66, 67, 68, 69, 70, 71, 72] rfl (by decide +kernel)) (bs2_in _ _))) rfl rfl rfl (by decide +kernel) ⟨(Nat.le_of_ble_eq_true rfl), (Nat.le_of_ble_eq_true rfl)⟩) ⟨fun a U g mk q => by obtain ⟨q0, q1, qK, qE⟩ := q; exact ⟨q0, q1, va_K.moved (u := U) (U := U.calling g mk a) (Vm.Alike.refl U.vm) qK, EVC.blind g mk a qE⟩, gH_rc hK hT hr_o0 shc_14 rfl, fun U hU hW => ⟨rfl, hU, va_K.moved hW.alike hK, hE.call hS hFc hU hW⟩⟩ rfl rfl hl.1 rfl (lv_room (Nat.le_of_ble_eq_true rfl)) dL_dike_9 ⟨(Nat.le_of_ble_eq_true rfl), (Nat.le_of_ble_eq_true rfl)⟩) hS (fun q _ h => hFc q h) hFc (fun q _ h => hFc q h) (fun E ce q9 u t H locs ht hvm _ hw2 _ _ hS hce hcv hcl => ?_) (fun r1 u t H locs ht hvm hw2 hB _ _ hS => ?_)
  · obtain ⟨hw2, hTx, hFx⟩ := hw2; rw [ht] at hTx hFx
    have hT := hTx; have hF := hF.more hFx (by decide)
    rcases hw2 with rfl | rfl | rfl
    · refine vx_catch (E := "java/lang/IllegalArgumentException") hown [⟨0, 14, 17, 13⟩] ⟨0, 14, 21, 15⟩ [⟨0, 14, 25, 45⟩] (by rw [htab]; rfl) (fun z h => by
          simp only [List.mem_cons, List.not_mem_nil, or_false] at h
          rcases h with rfl
          · exact Or.inr ⟨by decide, "java/lang/IndexOutOfBoundsException", (ht_at2 hts 75 rfl), hN ("java/lang/IllegalArgumentException", "java/lang/IndexOutOfBoundsException") (by decide +kernel)⟩) (by decide) (by decide) (ht_at2 hts 76 rfl) (va_Nw.use rfl (hE.1.1.2.1.2.1 _ (List.mem_of_getElem? (i := 1) rfl))) hce hcv hcl ?_
      refine lv_astore (lv' := [(6, .ref q9), (0, .ref o0), (1, .int p1), (2, .int p2), (3, .int p3), (4, .int p4), (5, .ref ou)]) hx hb dL_dike_21 hl (by decide) rfl (fun ls hl => ?_)
      refine lv_iconst (v := 2) hx hb dL_dike_23 (by decide) ?_
      exact W.iret (v := 2) hx hb hr (fun t ht hW => ⟨⟨2, (), rfl, (by exact (rg_t (a := 2) (by decide) (by first | decide | omega) (by first | decide | omega))), by (try dsimp only); rw [ht]; exact ⟨hT, hF⟩⟩, hS.F ht⟩) hS.2.2 dL_dike_24
    · refine vx_catch (E := "java/lang/IndexOutOfBoundsException") hown [] ⟨0, 14, 17, 13⟩ [⟨0, 14, 21, 15⟩, ⟨0, 14, 25, 45⟩] (by rw [htab]; rfl) (fun z h => absurd h List.not_mem_nil) (by decide) (by decide) (ht_at2 hts 75 rfl) (va_Nw.use rfl (hE.1.1.2.1.2.1 _ (List.mem_of_getElem? (i := 0) rfl))) hce hcv hcl ?_
      refine lv_astore (lv' := [(6, .ref q9), (0, .ref o0), (1, .int p1), (2, .int p2), (3, .int p3), (4, .int p4), (5, .ref ou)]) hx hb dL_dike_17 hl (by decide) rfl (fun ls hl => ?_)
      refine lv_iconst (v := 1) hx hb dL_dike_19 (by decide) ?_
      exact W.iret (v := 1) hx hb hr (fun t ht hW => ⟨⟨1, (), rfl, (by exact (rg_t (a := 1) (by decide) (by first | decide | omega) (by first | decide | omega))), by (try dsimp only); rw [ht]; exact ⟨hT, hF⟩⟩, hS.F ht⟩) hS.2.2 dL_dike_20
    · refine vx_catch (E := "java/lang/UnsupportedOperationException") hown [⟨0, 14, 17, 13⟩, ⟨0, 14, 21, 15⟩] ⟨0, 14, 25, 45⟩ [] (by rw [htab]; rfl) (fun z h => by
          simp only [List.mem_cons, List.not_mem_nil, or_false] at h
          rcases h with rfl | rfl
          · exact Or.inr ⟨by decide, "java/lang/IndexOutOfBoundsException", (ht_at2 hts 75 rfl), hN ("java/lang/UnsupportedOperationException", "java/lang/IndexOutOfBoundsException") (by decide +kernel)⟩
          · exact Or.inr ⟨by decide, "java/lang/IllegalArgumentException", (ht_at2 hts 76 rfl), hN ("java/lang/UnsupportedOperationException", "java/lang/IllegalArgumentException") (by decide +kernel)⟩) (by decide) (by decide) (ht_at2 hts 77 rfl) (va_Nw.use rfl (hE.2 _ (List.mem_of_getElem? (i := 0) rfl))) hce hcv hcl ?_
      refine lv_astore (lv' := [(6, .ref q9), (0, .ref o0), (1, .int p1), (2, .int p2), (3, .int p3), (4, .int p4), (5, .ref ou)]) hx hb dL_dike_25 hl (by decide) rfl (fun ls hl => ?_)
      refine lv_iconst (v := 3) hx hb dL_dike_27 (by decide) ?_
      exact W.iret (v := 3) hx hb hr (fun t ht hW => ⟨⟨3, (), rfl, (by exact (rg_t (a := 3) (by decide) (by first | decide | omega) (by first | decide | omega))), by (try dsimp only); rw [ht]; exact ⟨hT, hF⟩⟩, hS.F ht⟩) hS.2.2 dL_dike_28
  · obtain ⟨hT, hF1⟩ := hB
    rw [ht] at hT hF1
    have hF := hF.more hF1 (by decide)
    try dsimp only at hw2
    have h3 := hw2
    refine lv_i2l (v := r1.toInt64) hx hb dL_dike_12 rfl ?_
    refine tw_last (i := 0)  hx hb hK hT hG hS hr_ou shc_98 rfl (by unfold vp_in; decide) ⟨_, rfl⟩ dL_dike_13 (fun H locs hT oq m4 oi hS => ?_)
    have hF := hF.ast hr_ou skc_98 oq (by decide)
    refine lv_goto (tgt := 29) hx hb dL_dike_14 (by decide) ?_
    refine lv_iconst (v := 0) hx hb dL_dike_29 (by decide) ?_
    exact W.iret (v := 0) hx hb hr (fun t ht hW => ⟨⟨0, (), rfl, (by exact (rg_t (a := 0) (by decide) (by first | decide | omega) (by first | decide | omega))), by (try dsimp only); rw [ht]; exact ⟨hT, hF⟩⟩, hS.F ht⟩) hS.2.2 dL_dike_30
def w_l_farm : List Cond := .codeWith yL_farm cL_farm 5 (some .int) [(0, 10, 13, 13)] :: (HAppend.hAppend (α := List Cond) (β := List Cond) (γ := List Cond) [.code yX11_farm cX11_farm 3 (some .int), .code yX11_needSquare cX11_needSquare 1 none, .code yX11_within cX11_within 3 (some .boolean), .methodLink RX11 58 yX11_within, .static yX11_within, .initialized RX11, .classLink RX11 557 "java/lang/IndexOutOfBoundsException", .initialized "java/lang/IndexOutOfBoundsException", .methodLink RX11 55 yX11_needSquare, .static yX11_needSquare, .fieldLink RX11 30 "SeaLand" "board" "LSeaLand$Board;", .fieldLink RX11 16 "SeaLand" "lake" "LSeaLand$Lake;", .code yX0_farmMayBe cX0_farmMayBe 6 (some .boolean), .fieldLink RX0 143 "SeaLand$Board" "farms" "I", .code yX11_inRectangle cX11_inRectangle 3 (some .boolean), .code yX11_isBetween cX11_isBetween 3 (some .boolean), .methodLink RX11 588 Lib.Math.min.name, .static Lib.Math.min.name, .initialized "java/lang/Math", .code Lib.Math.min.name Lib.Math.min.code 2 (some .int), .methodLink RX11 591 Lib.Math.max.name, .static Lib.Math.max.name, .code Lib.Math.max.name Lib.Math.max.code 2 (some .int), .methodLink RX11 585 yX11_isBetween, .static yX11_isBetween, .static yX11_inRectangle, .fieldLink RX0 17 "SeaLand$Board" "farmOf" "[I", .methodLink RX11 359 yX0_farmMayBe, .instanceMethod yX0_farmMayBe, .selects RX0 yX0_farmMayBe yX0_farmMayBe, .initialized RX0, .code yX0_layOut cX0_layOut 4 (some .int), .methodLink RX11 363 yX0_layOut, .instanceMethod yX0_layOut, .selects RX0 yX0_layOut yX0_layOut, .methodLink RL 114 yX11_farm, .instanceMethod yX11_farm, .selects RX11 yX11_farm yX11_farm, .classLink RL 13 "java/lang/IndexOutOfBoundsException"] bs2)
set_option maxHeartbeats 4000000 in
set_option maxRecDepth 100000 in
theorem l_farm (l : Launch) (hlt : l.stackTraces = false) (dC : Nat → ClassId) (dI : Nat → Nat → Nat) (kA : Nat → ClassId) (adK adV : Nat → Nat) (G : gT) (H0 : Heap) (nC nS : Int) (o0 : Nat) (p1 : Int32) (p2 : Int32) (ou : Nat) (hT : gH (dC, dI) kA (SHc nC nS) G H0) (hr_o0 : G o0 = some 14) (hr_ou : G ou = some 98) (hgC : 0 ≤ nC ∧ nC ≤ 40) (hgS : 0 ≤ nS ∧ nS ≤ 60) : Met l yL_farm w_l_farm ({ frames := 8, cells := 2, slots := 12, locals := 142 }) (va_Pc [.ref o0, .int p1, .int p2, .ref ou] (fun U => U.heap = H0 ∧ va_K (dC, dI) vwCl (tyl kA) U ∧ EVC adK adV (gA G H0.size) U U.heap ∧ NC U)) (va_Qi (fun (r : Int32) (u : Unit) => (0 ≤ r.toInt ∧ r.toInt ≤ 1)) (fun (_ : Unit) (t : State) => gH (dC, dI) kA (SHc nC nS) G t.heap ∧ gF (dC, dI) SKc G ([(3, 16), (52, 0), (98, 0)] : List (Nat × Nat)) H0 t.heap) (gA G H0.size)) 2 12 (gA G H0.size) := by
  refine va_MetW (cc := cL_farm) (maxL := 5) (ret := (some .int)) (by decide) rfl ?_
  intro p e s m args below meth c s₁ B hml hv
  obtain ⟨rfl, hH0, hK, hE, hN⟩ := hv
  have hx := B.exec
  have hb := B.bytes
  have hr := B.returns
  have hts := atoms_spec (ws := w_l_farm) B.pre
  have hown : s.vm.findClass RL = some m.cls := findClass_of_methodNamed B.named
  have hlocks := B.notSynchronized
  have htab := vx_table (x := yL_farm) B (hts _ List.mem_cons_self)
  subst hH0
  generalize hAe : gA G s.heap.size = A at hE ⊢
  have hA : ∀ q : Nat, s.heap.size ≤ q → A q := fun q h => by rw [← hAe]; exact Or.inr h
  have hG := gA_of hAe
  have hS : va_S A s.heap s.heap [] := va_S.rf
  have hF : gF (dC, dI) SKc G ([(3, 16), (52, 0), (98, 0)] : List (Nat × Nat)) s.heap s.heap := gF.rf
  have hl := lv_entry ([.ref o0, .int p1, .int p2, .ref ou]) (n := 5) (Nat.le_of_ble_eq_true rfl)
  rw [lg_entry_eq]
  generalize (lg_sl ([.ref o0, .int p1, .int p2, .ref ou]) ++ List.replicate (5 - (lg_sl ([.ref o0, .int p1, .int p2, .ref ou])).length) Slot.unset).toArray = ls at hl ⊢
  have hl : lv_has ls 5 [(0, .ref o0), (1, .int p1), (2, .int p2), (3, .ref ou)] := hl
  refine lv_aload_n hx hb dL_farm_0 rfl (lv_at hl 3 rfl) ?_
  refine lv_iconst (v := 0) hx hb dL_farm_1 (by decide) ?_
  refine lv_aload_n hx hb dL_farm_2 rfl (lv_at hl 0 rfl) ?_
  refine lv_iload_n hx hb dL_farm_3 rfl (lv_at hl 1 rfl) ?_
  refine lv_iload_n hx hb dL_farm_4 rfl (lv_at hl 2 rfl) ?_
  have hFc := gA_free hG hA hS
  refine vx_calli (vx_runV (As := [.int p1, .int p2]) (rest := [.int 0, .ref ou]) ⟨hx, hb, hml, hown, hts⟩ (c_farm l hlt dC dI kA adK adV G s.heap nC nS o0 p1 p2 hT hr_o0 (by omega) (by omega)) (cwV 2 hts (goodIn_app (goodIn_r _ [36, 37, 38, 6] rfl (by decide +kernel)) (goodIn_ca (goodIn_r _ [1, 2, 3, 4, 5, 6, 7, 8, 9, 10, 11, 12, 13, 14, 15, 16, 17, 18, 19, 20, 21, 22, 23, 24, 25, 26, 27, 28, 29, 30, 31, 32, 33, 34, 35] rfl (by decide +kernel)) (bs2_in _ _))) rfl rfl rfl (by decide +kernel) ⟨(Nat.le_of_ble_eq_true rfl), (Nat.le_of_ble_eq_true rfl)⟩) ⟨fun a U g mk q => by obtain ⟨q0, q1, qK, qE⟩ := q; exact ⟨q0, q1, va_K.moved (u := U) (U := U.calling g mk a) (Vm.Alike.refl U.vm) qK, EVC.blind g mk a qE⟩, gH_rc hK hT hr_o0 shc_14 rfl, fun U hU hW => ⟨rfl, hU, va_K.moved hW.alike hK, hE.call hS hFc hU hW⟩⟩ rfl rfl hl.1 rfl (lv_room (Nat.le_of_ble_eq_true rfl)) dL_farm_5 ⟨(Nat.le_of_ble_eq_true rfl), (Nat.le_of_ble_eq_true rfl)⟩) hS (fun q _ h => hFc q h) hFc (fun q _ h => hFc q h) (fun E ce q9 u t H locs ht hvm _ hw2 _ _ hS hce hcv hcl => ?_) (fun r1 u t H locs ht hvm hw2 hB _ _ hS => ?_)
  · obtain ⟨hw2, hTx, hFx⟩ := hw2; rw [ht] at hTx hFx
    have hT := hTx; have hF := hF.more hFx (by decide)
    subst hw2
    refine vx_catch (E := "java/lang/IndexOutOfBoundsException") hown [] ⟨0, 10, 13, 13⟩ [] (by rw [htab]; rfl) (fun z h => absurd h List.not_mem_nil) (by decide) (by decide) (ht_at2 hts 38 rfl) (va_Nw.use rfl (hE.1.1.2.1.2.1 _ (List.mem_of_getElem? (i := 0) rfl))) hce hcv hcl ?_
    refine lv_astore (lv' := [(4, .ref q9), (0, .ref o0), (1, .int p1), (2, .int p2), (3, .ref ou)]) hx hb dL_farm_13 hl (by decide) rfl (fun ls hl => ?_)
    refine lv_iconst (v := 1) hx hb dL_farm_15 (by decide) ?_
    exact W.iret (v := 1) hx hb hr (fun t ht hW => ⟨⟨1, (), rfl, (by exact (rg_t (a := 1) (by decide) (by first | decide | omega) (by first | decide | omega))), by (try dsimp only); rw [ht]; exact ⟨hT, hF⟩⟩, hS.F ht⟩) hS.2.2 dL_farm_16
  · obtain ⟨hT, hF1⟩ := hB
    rw [ht] at hT hF1
    have hF := hF.more hF1 (by decide)
    try dsimp only at hw2
    have h3 := hw2
    refine lv_i2l (v := r1.toInt64) hx hb dL_farm_8 rfl ?_
    refine tw_last (i := 0)  hx hb hK hT hG hS hr_ou shc_98 rfl (by unfold vp_in; decide) ⟨_, rfl⟩ dL_farm_9 (fun H locs hT oq m4 oi hS => ?_)
    have hF := hF.ast hr_ou skc_98 oq (by decide)
    refine lv_goto (tgt := 17) hx hb dL_farm_10 (by decide) ?_
    refine lv_iconst (v := 0) hx hb dL_farm_17 (by decide) ?_
    exact W.iret (v := 0) hx hb hr (fun t ht hW => ⟨⟨0, (), rfl, (by exact (rg_t (a := 0) (by decide) (by first | decide | omega) (by first | decide | omega))), by (try dsimp only); rw [ht]; exact ⟨hT, hF⟩⟩, hS.F ht⟩) hS.2.2 dL_farm_18
def w_l_fill : List Cond := .codeWith yL_fill cL_fill 6 (some .int) [(0, 19, 22, 13), (0, 19, 26, 15)] :: (HAppend.hAppend (α := List Cond) (β := List Cond) (γ := List Cond) [.code yX11_fill cX11_fill 4 (some .boolean), .code yX11_needSquare cX11_needSquare 1 none, .code yX11_within cX11_within 3 (some .boolean), .methodLink RX11 58 yX11_within, .static yX11_within, .initialized RX11, .classLink RX11 557 "java/lang/IndexOutOfBoundsException", .initialized "java/lang/IndexOutOfBoundsException", .methodLink RX11 55 yX11_needSquare, .static yX11_needSquare, .code yX11_needNumbers cX11_needNumbers 1 none, .classLink RX11 547 "java/lang/IllegalArgumentException", .initialized "java/lang/IllegalArgumentException", .methodLink RX11 62 yX11_needNumbers, .static yX11_needNumbers, .constant RX11 96 100000, .fieldLink RX11 16 "SeaLand" "lake" "LSeaLand$Lake;", .fieldLink RX11 23 "SeaLand" "rows" "LSeaLand$Rows;", .code yX6_forget cX6_forget 1 none, .fieldLink RX6 18 "SeaLand$Rows" "kept" "I", .fieldLink RX6 22 "SeaLand$Rows" "oldest" "I", .methodLink RX11 76 yX6_forget, .instanceMethod yX6_forget, .selects RX6 yX6_forget yX6_forget, .initialized RX6, .code yX2_tellWater cX2_tellWater 4 none, .fieldLink RX2 50 "SeaLand$Ground" "toldMore" "I", .fieldLink RX2 25 "SeaLand$Ground" "water" "[I", .fieldLink RX2 28 "SeaLand$Ground" "salt" "[I", .methodLink RX11 97 yX2_tellWater, .instanceMethod yX2_tellWater, .selects RX2 yX2_tellWater yX2_tellWater, .initialized RX2, .methodLink RL 19 yX11_fill, .instanceMethod yX11_fill, .selects RX11 yX11_fill yX11_fill, .classLink RL 13 "java/lang/IndexOutOfBoundsException", .classLink RL 15 "java/lang/IllegalArgumentException"] bs2)
set_option maxHeartbeats 4000000 in
set_option maxRecDepth 100000 in
theorem l_fill (l : Launch) (hlt : l.stackTraces = false) (dC : Nat → ClassId) (dI : Nat → Nat → Nat) (kA : Nat → ClassId) (adK adV : Nat → Nat) (G : gT) (H0 : Heap) (nC nS : Int) (o0 : Nat) (p1 : Int32) (p2 : Int32) (p3 : Int32) (ou : Nat) (hT : gH (dC, dI) kA (SHc nC nS) G H0) (hr_o0 : G o0 = some 14) (hr_ou : G ou = some 98) (hgC : 0 ≤ nC ∧ nC ≤ 40) (hgS : 0 ≤ nS ∧ nS ≤ 60) : Met l yL_fill w_l_fill ({ frames := 8, cells := 2, slots := 12, locals := 143 }) (va_Pc [.ref o0, .int p1, .int p2, .int p3, .ref ou] (fun U => U.heap = H0 ∧ va_K (dC, dI) vwCl (tyl kA) U ∧ EVC adK adV (gA G H0.size) U U.heap ∧ NC U)) (va_Qi (fun (r : Int32) (u : Unit) => (0 ≤ r.toInt ∧ r.toInt ≤ 2)) (fun (_ : Unit) (t : State) => gH (dC, dI) kA (SHc nC nS) G t.heap ∧ gF (dC, dI) SKc G ([(5, 14), (9, 2), (9, 3), (29, 0), (30, 0), (98, 0)] : List (Nat × Nat)) H0 t.heap) (gA G H0.size)) 2 12 (gA G H0.size) := by
  refine va_MetW (cc := cL_fill) (maxL := 6) (ret := (some .int)) (by decide) rfl ?_
  intro p e s m args below meth c s₁ B hml hv
  obtain ⟨rfl, hH0, hK, hE, hN⟩ := hv
  have hx := B.exec
  have hb := B.bytes
  have hr := B.returns
  have hts := atoms_spec (ws := w_l_fill) B.pre
  have hown : s.vm.findClass RL = some m.cls := findClass_of_methodNamed B.named
  have hlocks := B.notSynchronized
  have htab := vx_table (x := yL_fill) B (hts _ List.mem_cons_self)
  subst hH0
  generalize hAe : gA G s.heap.size = A at hE ⊢
  have hA : ∀ q : Nat, s.heap.size ≤ q → A q := fun q h => by rw [← hAe]; exact Or.inr h
  have hG := gA_of hAe
  have hS : va_S A s.heap s.heap [] := va_S.rf
  have hF : gF (dC, dI) SKc G ([(5, 14), (9, 2), (9, 3), (29, 0), (30, 0), (98, 0)] : List (Nat × Nat)) s.heap s.heap := gF.rf
  have hl := lv_entry ([.ref o0, .int p1, .int p2, .int p3, .ref ou]) (n := 6) (Nat.le_of_ble_eq_true rfl)
  rw [lg_entry_eq]
  generalize (lg_sl ([.ref o0, .int p1, .int p2, .int p3, .ref ou]) ++ List.replicate (6 - (lg_sl ([.ref o0, .int p1, .int p2, .int p3, .ref ou])).length) Slot.unset).toArray = ls at hl ⊢
  have hl : lv_has ls 6 [(0, .ref o0), (1, .int p1), (2, .int p2), (3, .int p3), (4, .ref ou)] := hl
  refine lv_aload hx hb dL_fill_0 (lv_at hl 4 rfl) ?_
  refine lv_iconst (v := 0) hx hb dL_fill_2 (by decide) ?_
  refine lv_aload_n hx hb dL_fill_3 rfl (lv_at hl 0 rfl) ?_
  refine lv_iload_n hx hb dL_fill_4 rfl (lv_at hl 1 rfl) ?_
  refine lv_iload_n hx hb dL_fill_5 rfl (lv_at hl 2 rfl) ?_
  refine lv_iload_n hx hb dL_fill_6 rfl (lv_at hl 3 rfl) ?_
  have hFc := gA_free hG hA hS
  refine vx_calli (vx_runV (As := [.int p1, .int p2, .int p3]) (rest := [.int 0, .ref ou]) ⟨hx, hb, hml, hown, hts⟩ (c_fill l hlt dC dI kA adK adV G s.heap nC nS o0 p1 p2 p3 hT hr_o0 (by omega) (by omega)) (cwV 3 hts (goodIn_app (goodIn_r _ [34, 35, 36, 6] rfl (by decide +kernel)) (goodIn_ca (goodIn_r _ [1, 2, 3, 4, 5, 6, 7, 8, 9, 10, 11, 12, 13, 14, 15, 16, 17, 18, 19, 20, 21, 22, 23, 24, 25, 26, 27, 28, 29, 30, 31, 32, 33] rfl (by decide +kernel)) (bs2_in _ _))) rfl rfl rfl (by decide +kernel) ⟨(Nat.le_of_ble_eq_true rfl), (Nat.le_of_ble_eq_true rfl)⟩) ⟨fun a U g mk q => by obtain ⟨q0, q1, qK, qE⟩ := q; exact ⟨q0, q1, va_K.moved (u := U) (U := U.calling g mk a) (Vm.Alike.refl U.vm) qK, EVC.blind g mk a qE⟩, gH_rc hK hT hr_o0 shc_14 rfl, fun U hU hW => ⟨rfl, hU, va_K.moved hW.alike hK, hE.call hS hFc hU hW⟩⟩ rfl rfl hl.1 rfl (lv_room (Nat.le_of_ble_eq_true rfl)) dL_fill_7 ⟨(Nat.le_of_ble_eq_true rfl), (Nat.le_of_ble_eq_true rfl)⟩) hS (fun q _ h => hFc q h) hFc (fun q _ h => hFc q h) (fun E ce q9 u t H locs ht hvm _ hw2 _ _ hS hce hcv hcl => ?_) (fun r1 u t H locs ht hvm hw2 hB _ _ hS => ?_)
  · obtain ⟨hw2, hTx, hFx⟩ := hw2; rw [ht] at hTx hFx
    have hT := hTx; have hF := hF.more hFx (by decide)
    rcases hw2 with rfl | rfl
    · refine vx_catch (E := "java/lang/IllegalArgumentException") hown [⟨0, 19, 22, 13⟩] ⟨0, 19, 26, 15⟩ [] (by rw [htab]; rfl) (fun z h => by
          simp only [List.mem_cons, List.not_mem_nil, or_false] at h
          rcases h with rfl
          · exact Or.inr ⟨by decide, "java/lang/IndexOutOfBoundsException", (ht_at2 hts 36 rfl), hN ("java/lang/IllegalArgumentException", "java/lang/IndexOutOfBoundsException") (by decide +kernel)⟩) (by decide) (by decide) (ht_at2 hts 37 rfl) (va_Nw.use rfl (hE.1.1.2.1.2.1 _ (List.mem_of_getElem? (i := 1) rfl))) hce hcv hcl ?_
      refine lv_astore (lv' := [(5, .ref q9), (0, .ref o0), (1, .int p1), (2, .int p2), (3, .int p3), (4, .ref ou)]) hx hb dL_fill_26 hl (by decide) rfl (fun ls hl => ?_)
      refine lv_iconst (v := 2) hx hb dL_fill_28 (by decide) ?_
      exact W.iret (v := 2) hx hb hr (fun t ht hW => ⟨⟨2, (), rfl, (by exact (rg_t (a := 2) (by decide) (by first | decide | omega) (by first | decide | omega))), by (try dsimp only); rw [ht]; exact ⟨hT, hF⟩⟩, hS.F ht⟩) hS.2.2 dL_fill_29
    · refine vx_catch (E := "java/lang/IndexOutOfBoundsException") hown [] ⟨0, 19, 22, 13⟩ [⟨0, 19, 26, 15⟩] (by rw [htab]; rfl) (fun z h => absurd h List.not_mem_nil) (by decide) (by decide) (ht_at2 hts 36 rfl) (va_Nw.use rfl (hE.1.1.2.1.2.1 _ (List.mem_of_getElem? (i := 0) rfl))) hce hcv hcl ?_
      refine lv_astore (lv' := [(5, .ref q9), (0, .ref o0), (1, .int p1), (2, .int p2), (3, .int p3), (4, .ref ou)]) hx hb dL_fill_22 hl (by decide) rfl (fun ls hl => ?_)
      refine lv_iconst (v := 1) hx hb dL_fill_24 (by decide) ?_
      exact W.iret (v := 1) hx hb hr (fun t ht hW => ⟨⟨1, (), rfl, (by exact (rg_t (a := 1) (by decide) (by first | decide | omega) (by first | decide | omega))), by (try dsimp only); rw [ht]; exact ⟨hT, hF⟩⟩, hS.F ht⟩) hS.2.2 dL_fill_25
  · obtain ⟨hT, hF1⟩ := hB
    rw [ht] at hT hF1
    have hF := hF.more hF1 (by decide)
    try dsimp only at hw2
    have h3 := hw2
    refine lv_if_eq (tgt := 17) hx hb dL_fill_10 (by decide) (fun c4 => ?_) (fun c4 => ?_)
    · have t5 : r1.toInt = 0 := ti_eq c4 rfl (by decide)
      refine lv_lconst (v := 0) hx hb dL_fill_17 (by decide) ?_
      refine tw_last (i := 0)  hx hb hK hT hG hS hr_ou shc_98 rfl (by unfold vp_in; decide) ⟨_, rfl⟩ dL_fill_18 (fun H locs hT oq m6 oi hS => ?_)
      have hF := hF.ast hr_ou skc_98 oq (by decide)
      refine lv_goto (tgt := 30) hx hb dL_fill_19 (by decide) ?_
      refine lv_iconst (v := 0) hx hb dL_fill_30 (by decide) ?_
      exact W.iret (v := 0) hx hb hr (fun t ht hW => ⟨⟨0, (), rfl, (by exact (rg_t (a := 0) (by decide) (by first | decide | omega) (by first | decide | omega))), by (try dsimp only); rw [ht]; exact ⟨hT, hF⟩⟩, hS.F ht⟩) hS.2.2 dL_fill_31
    · have t7 : r1.toInt ≠ 0 := ti_ne c4 rfl (by decide)
      refine lv_lconst (v := 1) hx hb dL_fill_13 (by decide) ?_
      refine lv_goto (tgt := 18) hx hb dL_fill_14 (by decide) ?_
      refine tw_last (i := 0)  hx hb hK hT hG hS hr_ou shc_98 rfl (by unfold vp_in; decide) ⟨_, rfl⟩ dL_fill_18 (fun H locs hT oq m8 oi hS => ?_)
      have hF := hF.ast hr_ou skc_98 oq (by decide)
      refine lv_goto (tgt := 30) hx hb dL_fill_19 (by decide) ?_
      refine lv_iconst (v := 0) hx hb dL_fill_30 (by decide) ?_
      exact W.iret (v := 0) hx hb hr (fun t ht hW => ⟨⟨0, (), rfl, (by exact (rg_t (a := 0) (by decide) (by first | decide | omega) (by first | decide | omega))), by (try dsimp only); rw [ht]; exact ⟨hT, hF⟩⟩, hS.F ht⟩) hS.2.2 dL_fill_31
def w_l_found : List Cond := .codeWith yL_found cL_found 3 (some .int) [(0, 8, 11, 15), (0, 8, 14, 17)] :: (HAppend.hAppend (α := List Cond) (β := List Cond) (γ := List Cond) [.code yX11_found cX11_found 1 (some .int), .fieldLink RX11 30 "SeaLand" "board" "LSeaLand$Board;", .fieldLink RX11 9 "SeaLand" "tape" "[I", .fieldLink RX11 47 "SeaLand" "taped" "I", .code yX4_read cX4_read 4 (some .int), .methodLink RX4 46 Lib.Math.min.name, .static Lib.Math.min.name, .initialized "java/lang/Math", .code Lib.Math.min.name Lib.Math.min.code 2 (some .int), .code yX4_scan cX4_scan 6 none, .code yX4_thingEnd cX4_thingEnd 6 (some .int), .code yX4_isLetter cX4_isLetter 1 (some .boolean), .methodLink RX4 81 yX4_isLetter, .static yX4_isLetter, .initialized RX4, .code yX4_isDigit cX4_isDigit 1 (some .boolean), .methodLink RX4 84 yX4_isDigit, .static yX4_isDigit, .methodLink RX4 74 yX4_thingEnd, .static yX4_thingEnd, .fieldLink RX4 11 "SeaLand$Law" "things" "[I", .code yX4_thingAt cX4_thingAt 3 (some .int), .code yX4_signThing cX4_signThing 1 (some .int), .methodLink RX4 93 yX4_signThing, .static yX4_signThing, .code yX4_numberThing cX4_numberThing 5 (some .int), .methodLink RX4 90 yX4_numberThing, .static yX4_numberThing, .code yX4_wordThing cX4_wordThing 4 (some .int), .code yX4_factThing cX4_factThing 3 (some .int), .code yX4_wordIs cX4_wordIs 5 (some .boolean), .code yJ0_length_8abf5 cJ0_length_8abf5 1 (some .int), .fieldLink RJ0 9 "java/lang/String" "value" "[B", .code yJ0_coder_7d493 cJ0_coder_7d493 1 (some .byte), .fieldLink RJ0 38 "java/lang/String" "COMPACT_STRINGS" "Z", .fieldLink RJ0 15 "java/lang/String" "coder" "B", .methodLink RJ0 335 yJ0_coder_7d493, .instanceMethod yJ0_coder_7d493, .selects RJ0 yJ0_coder_7d493 yJ0_coder_7d493, .initialized RJ0, .methodLink RX4 155 yJ0_length_8abf5, .instanceMethod yJ0_length_8abf5, .selects RJ0 yJ0_length_8abf5 yJ0_length_8abf5, .code yJ0_charAt_5068e cJ0_charAt_5068e 2 (some .char), .code yJ0_isLatin1_aae02 cJ0_isLatin1_aae02 1 (some .boolean), .methodLink RJ0 492 yJ0_isLatin1_aae02, .instanceMethod yJ0_isLatin1_aae02, .selects RJ0 yJ0_isLatin1_aae02 yJ0_isLatin1_aae02, .code yJ1_charAt_3b067 cJ1_charAt_3b067 2 (some .char), .code yJ0_checkIndex_df160 cJ0_checkIndex_df160 2 none, .fieldLink RJ0 1053 "jdk/internal/util/Preconditions" "SIOOBE_FORMATTER" "Ljava/util/function/BiFunction;", .code yJ3_checkIndex_8e157 cJ3_checkIndex_8e157 3 (some .int), .methodLink RJ0 1059 yJ3_checkIndex_8e157, .static yJ3_checkIndex_8e157, .initialized RJ3, .methodLink RJ1 9 yJ0_checkIndex_df160, .static yJ0_checkIndex_df160, .methodLink RJ0 495 yJ1_charAt_3b067, .static yJ1_charAt_3b067, .initialized RJ1, .methodLink RX4 161 yJ0_charAt_5068e, .instanceMethod yJ0_charAt_5068e, .selects RJ0 yJ0_charAt_5068e yJ0_charAt_5068e, .methodLink RX4 105 yX4_wordIs, .static yX4_wordIs, .methodLink RX4 97 yX4_factThing, .static yX4_factThing, .code yX4_lineThing cX4_lineThing 4 (some .int), .methodLink RX4 100 yX4_lineThing, .static yX4_lineThing, .methodLink RX4 87 yX4_wordThing, .static yX4_wordThing, .methodLink RX4 78 yX4_thingAt, .static yX4_thingAt, .fieldLink RX4 15 "SeaLand$Law" "begins" "[I", .methodLink RX4 52 yX4_scan, .instanceMethod yX4_scan, .selects RX4 yX4_scan yX4_scan, .fieldLink RX4 56 "SeaLand$Law" "at" "I", .fieldLink RX4 60 "SeaLand$Law" "lines" "I", .fieldLink RX4 63 "SeaLand$Law" "stepped" "I", .code yX4_readLine cX4_readLine 3 (some .boolean), .code yX4_lineKind cX4_lineKind 1 (some .int), .methodLink RX4 165 yX4_lineKind, .static yX4_lineKind, .fieldLink RX4 18 "SeaLand$Law" "kinds" "[I", .fieldLink RX4 33 "SeaLand$Law" "stepFrom" "[I", .code yX4_take cX4_take 2 (some .boolean), .methodLink RX4 70 yX4_take, .instanceMethod yX4_take, .selects RX4 yX4_take yX4_take, .code yX4_readAny cX4_readAny 4 (some .boolean), .code yX4_readAll cX4_readAll 4 (some .boolean), .code yX4_readAtom cX4_readAtom 4 (some .boolean), .code yX4_readComparison cX4_readComparison 3 (some .boolean), .code yX4_readSum cX4_readSum 3 (some .boolean), .code yX4_readPart cX4_readPart 2 (some .boolean), .code yX4_addStep cX4_addStep 2 none, .fieldLink RX4 39 "SeaLand$Law" "steps" "[I", .methodLink RX4 179 yX4_addStep, .instanceMethod yX4_addStep, .selects RX4 yX4_addStep yX4_addStep, .methodLink RX4 192 yX4_readPart, .instanceMethod yX4_readPart, .selects RX4 yX4_readPart yX4_readPart, .methodLink RX4 189 yX4_readSum, .instanceMethod yX4_readSum, .selects RX4 yX4_readSum yX4_readSum, .methodLink RX4 186 yX4_readComparison, .instanceMethod yX4_readComparison, .selects RX4 yX4_readComparison yX4_readComparison, .methodLink RX4 183 yX4_readAtom, .instanceMethod yX4_readAtom, .selects RX4 yX4_readAtom yX4_readAtom, .methodLink RX4 176 yX4_readAll, .instanceMethod yX4_readAll, .selects RX4 yX4_readAll yX4_readAll, .methodLink RX4 173 yX4_readAny, .instanceMethod yX4_readAny, .selects RX4 yX4_readAny yX4_readAny, .fieldLink RX4 36 "SeaLand$Law" "stepTo" "[I", .fieldLink RX4 21 "SeaLand$Law" "firsts" "[I", .code yX4_takeNumber cX4_takeNumber 4 (some .boolean), .methodLink RX4 168 yX4_takeNumber, .instanceMethod yX4_takeNumber, .selects RX4 yX4_takeNumber yX4_takeNumber, .fieldLink RX4 24 "SeaLand$Law" "seconds" "[I", .fieldLink RX4 27 "SeaLand$Law" "froms" "[I", .fieldLink RX4 30 "SeaLand$Law" "tos" "[I", .constant RX4 172 99999, .methodLink RX4 66 yX4_readLine, .instanceMethod yX4_readLine, .selects RX4 yX4_readLine yX4_readLine, .methodLink RX11 266 yX4_read, .instanceMethod yX4_read, .selects RX4 yX4_read yX4_read, .code yX11_needNumbers cX11_needNumbers 1 none, .classLink RX11 547 "java/lang/IllegalArgumentException", .initialized "java/lang/IllegalArgumentException", .methodLink RX11 62 yX11_needNumbers, .static yX11_needNumbers, .initialized RX11, .code yX0_foundSpare cX0_foundSpare 2 (some .int), .fieldLink RX0 41 "SeaLand$Board" "force" "LSeaLand$Law;", .fieldLink RX0 48 "SeaLand$Board" "spare" "LSeaLand$Law;", .methodLink RX11 280 yX0_foundSpare, .instanceMethod yX0_foundSpare, .selects RX0 yX0_foundSpare yX0_foundSpare, .initialized RX0, .classLink RX11 69 "java/lang/IllegalStateException", .initialized "java/lang/IllegalStateException", .methodLink RL 83 yX11_found, .instanceMethod yX11_found, .selects RX11 yX11_found yX11_found, .classLink RL 15 "java/lang/IllegalArgumentException", .classLink RL 17 "java/lang/IllegalStateException"] bs2)
set_option maxHeartbeats 4000000 in
set_option maxRecDepth 100000 in
theorem l_found (l : Launch) (hlt : l.stackTraces = false) (dC : Nat → ClassId) (dI : Nat → Nat → Nat) (kA : Nat → ClassId) (adK adV : Nat → Nat) (G : gT) (H0 : Heap) (nC nS : Int) (o0 : Nat) (ou : Nat) (hT : gH (dC, dI) kA (SHc nC nS) G H0) (hr_o0 : G o0 = some 14) (hr_ou : G ou = some 98) (hgC : 0 ≤ nC ∧ nC ≤ 40) (hgS : 0 ≤ nS ∧ nS ≤ 60) : Met l yL_found w_l_found ({ frames := 28, cells := 1, slots := 6, locals := 634 }) (va_Pc [.ref o0, .ref ou] (fun U => U.heap = H0 ∧ va_K (dC, dI) vwCl (tyl kA) U ∧ EVC adK adV (gA G H0.size) U U.heap ∧ NC U)) (va_Qi (fun (r : Int32) (u : Unit) => (0 ≤ r.toInt ∧ r.toInt ≤ 2)) (fun (_ : Unit) (t : State) => gH (dC, dI) kA (SHc nC nS) G t.heap ∧ gF (dC, dI) SKc G ([(3, 7), (3, 9), (3, 10), (7, 11), (7, 12), (7, 13), (14, 7), (40, 0), (41, 0), (42, 0), (43, 0), (44, 0), (45, 0), (46, 0), (47, 0), (48, 0), (49, 0), (98, 0)] : List (Nat × Nat)) H0 t.heap) (gA G H0.size)) 1 6 (gA G H0.size) := by
  refine va_MetW (cc := cL_found) (maxL := 3) (ret := (some .int)) (by decide) rfl ?_
  intro p e s m args below meth c s₁ B hml hv
  obtain ⟨rfl, hH0, hK, hE, hN⟩ := hv
  have hx := B.exec
  have hb := B.bytes
  have hr := B.returns
  have hts := atoms_spec (ws := w_l_found) B.pre
  have hown : s.vm.findClass RL = some m.cls := findClass_of_methodNamed B.named
  have hlocks := B.notSynchronized
  have htab := vx_table (x := yL_found) B (hts _ List.mem_cons_self)
  subst hH0
  generalize hAe : gA G s.heap.size = A at hE ⊢
  have hA : ∀ q : Nat, s.heap.size ≤ q → A q := fun q h => by rw [← hAe]; exact Or.inr h
  have hG := gA_of hAe
  have hS : va_S A s.heap s.heap [] := va_S.rf
  have hF : gF (dC, dI) SKc G ([(3, 7), (3, 9), (3, 10), (7, 11), (7, 12), (7, 13), (14, 7), (40, 0), (41, 0), (42, 0), (43, 0), (44, 0), (45, 0), (46, 0), (47, 0), (48, 0), (49, 0), (98, 0)] : List (Nat × Nat)) s.heap s.heap := gF.rf
  have hl := lv_entry ([.ref o0, .ref ou]) (n := 3) (Nat.le_of_ble_eq_true rfl)
  rw [lg_entry_eq]
  generalize (lg_sl ([.ref o0, .ref ou]) ++ List.replicate (3 - (lg_sl ([.ref o0, .ref ou])).length) Slot.unset).toArray = ls at hl ⊢
  have hl : lv_has ls 3 [(0, .ref o0), (1, .ref ou)] := hl
  refine lv_aload_n hx hb dL_found_0 rfl (lv_at hl 1 rfl) ?_
  refine lv_iconst (v := 0) hx hb dL_found_1 (by decide) ?_
  refine lv_aload_n hx hb dL_found_2 rfl (lv_at hl 0 rfl) ?_
  have hFc := gA_free hG hA hS
  refine vx_calli (vx_runV (As := []) (rest := [.int 0, .ref ou]) ⟨hx, hb, hml, hown, hts⟩ (c_found l hlt dC dI kA adK adV G s.heap nC nS o0 hT hr_o0 (by omega) (by omega)) (cwV 0 hts (goodIn_app (goodIn_r _ [152, 153, 154, 142] rfl (by decide +kernel)) (goodIn_ca (goodIn_r _ [1, 2, 3, 4, 5, 6, 7, 8, 9, 10, 11, 12, 13, 14, 15, 16, 17, 18, 19, 20, 21, 22, 23, 24, 25, 26, 27, 28, 29, 30, 31, 32, 33, 34, 35, 36, 37, 38, 39, 40, 41, 42, 43, 44, 45, 46, 47, 48, 49, 50, 51, 52, 53, 54, 55, 56, 57, 58, 59, 60, 61, 62, 63, 64, 65, 66, 67, 68, 69, 70, 71, 72, 73, 74, 75, 76, 77, 78, 79, 80, 81, 82, 83, 84, 85, 86, 87, 88, 89, 90, 91, 92, 93, 94, 95, 96, 97, 98, 99, 100, 101, 102, 103, 104, 105, 106, 107, 108, 109, 110, 111, 112, 113, 114, 115, 116, 117, 118, 119, 120, 121, 122, 123, 124, 125, 126, 127, 128, 129, 130, 131, 132, 133, 134, 135, 136, 137, 138, 139, 140, 141, 142, 143, 144, 145, 146, 147, 148, 149, 150, 151] rfl (by decide +kernel)) (bs2_in _ _))) rfl rfl rfl (by decide +kernel) ⟨(Nat.le_of_ble_eq_true rfl), (Nat.le_of_ble_eq_true rfl)⟩) ⟨fun a U g mk q => by obtain ⟨q0, q1, qK, qE⟩ := q; exact ⟨q0, q1, va_K.moved (u := U) (U := U.calling g mk a) (Vm.Alike.refl U.vm) qK, EVC.blind g mk a qE⟩, gH_rc hK hT hr_o0 shc_14 rfl, fun U hU hW => ⟨rfl, hU, va_K.moved hW.alike hK, hE.call hS hFc hU hW⟩⟩ rfl rfl hl.1 rfl (lv_room (Nat.le_of_ble_eq_true rfl)) dL_found_3 ⟨(Nat.le_of_ble_eq_true rfl), (Nat.le_of_ble_eq_true rfl)⟩) hS (fun q _ h => hFc q h) hFc (fun q _ h => hFc q h) (fun E ce q9 u t H locs ht hvm _ hw2 _ _ hS hce hcv hcl => ?_) (fun r1 u t H locs ht hvm hw2 hB _ _ hS => ?_)
  · obtain ⟨hw2, hTx, hFx⟩ := hw2; rw [ht] at hTx hFx
    have hT := hTx; have hF := hF.more hFx (by decide)
    rcases hw2 with rfl | rfl
    · refine vx_catch (E := "java/lang/IllegalArgumentException") hown [] ⟨0, 8, 11, 15⟩ [⟨0, 8, 14, 17⟩] (by rw [htab]; rfl) (fun z h => absurd h List.not_mem_nil) (by decide) (by decide) (ht_at2 hts 154 rfl) (va_Nw.use rfl (hE.1.1.2.1.2.1 _ (List.mem_of_getElem? (i := 1) rfl))) hce hcv hcl ?_
      refine lv_astore_n (lv' := [(2, .ref q9), (0, .ref o0), (1, .ref ou)]) hx hb dL_found_11 rfl hl (by decide) rfl (fun ls hl => ?_)
      refine lv_iconst (v := 1) hx hb dL_found_12 (by decide) ?_
      exact W.iret (v := 1) hx hb hr (fun t ht hW => ⟨⟨1, (), rfl, (by exact (rg_t (a := 1) (by decide) (by first | decide | omega) (by first | decide | omega))), by (try dsimp only); rw [ht]; exact ⟨hT, hF⟩⟩, hS.F ht⟩) hS.2.2 dL_found_13
    · refine vx_catch (E := "java/lang/IllegalStateException") hown [⟨0, 8, 11, 15⟩] ⟨0, 8, 14, 17⟩ [] (by rw [htab]; rfl) (fun z h => by
          simp only [List.mem_cons, List.not_mem_nil, or_false] at h
          rcases h with rfl
          · exact Or.inr ⟨by decide, "java/lang/IllegalArgumentException", (ht_at2 hts 154 rfl), hN ("java/lang/IllegalStateException", "java/lang/IllegalArgumentException") (by decide +kernel)⟩) (by decide) (by decide) (ht_at2 hts 155 rfl) (va_Nw.use rfl (hE.1.1.2.1.2.1 _ (List.mem_of_getElem? (i := 3) rfl))) hce hcv hcl ?_
      refine lv_astore_n (lv' := [(2, .ref q9), (0, .ref o0), (1, .ref ou)]) hx hb dL_found_14 rfl hl (by decide) rfl (fun ls hl => ?_)
      refine lv_iconst (v := 2) hx hb dL_found_15 (by decide) ?_
      exact W.iret (v := 2) hx hb hr (fun t ht hW => ⟨⟨2, (), rfl, (by exact (rg_t (a := 2) (by decide) (by first | decide | omega) (by first | decide | omega))), by (try dsimp only); rw [ht]; exact ⟨hT, hF⟩⟩, hS.F ht⟩) hS.2.2 dL_found_16
  · obtain ⟨hT, hF1⟩ := hB
    rw [ht] at hT hF1
    have hF := hF.more hF1 (by decide)
    try dsimp only at hw2
    have h3 := hw2
    refine lv_i2l (v := r1.toInt64) hx hb dL_found_6 rfl ?_
    refine tw_last (i := 0)  hx hb hK hT hG hS hr_ou shc_98 rfl (by unfold vp_in; decide) ⟨_, rfl⟩ dL_found_7 (fun H locs hT oq m4 oi hS => ?_)
    have hF := hF.ast hr_ou skc_98 oq (by decide)
    refine lv_goto (tgt := 17) hx hb dL_found_8 (by decide) ?_
    refine lv_iconst (v := 0) hx hb dL_found_17 (by decide) ?_
    exact W.iret (v := 0) hx hb hr (fun t ht hW => ⟨⟨0, (), rfl, (by exact (rg_t (a := 0) (by decide) (by first | decide | omega) (by first | decide | omega))), by (try dsimp only); rw [ht]; exact ⟨hT, hF⟩⟩, hS.F ht⟩) hS.2.2 dL_found_18
def w_l_hours : List Cond := .codeWith yL_hours cL_hours 4 (some .int) [(0, 9, 12, 15)] :: (HAppend.hAppend (α := List Cond) (β := List Cond) (γ := List Cond) [.code yX11_hours cX11_hours 3 (some .int), .code yX11_within cX11_within 3 (some .boolean), .methodLink RX11 58 yX11_within, .static yX11_within, .initialized RX11, .code yX11_needNumbers cX11_needNumbers 1 none, .classLink RX11 547 "java/lang/IllegalArgumentException", .initialized "java/lang/IllegalArgumentException", .methodLink RX11 62 yX11_needNumbers, .static yX11_needNumbers, .fieldLink RX11 16 "SeaLand" "lake" "LSeaLand$Lake;", .constant RX11 110 40000, .code yX3_passHour cX3_passHour 3 none, .fieldLink RX3 32 "SeaLand$Lake" "hour" "I", .fieldLink RX3 12 "SeaLand$Lake" "sky" "LSeaLand$Sky;", .code yX8_outsideAt cX8_outsideAt 4 (some .int), .fieldLink RX8 9 "SeaLand$Sky" "tides" "[I", .code yJ9_floorMod_7cf53 cJ9_floorMod_7cf53 3 (some .int), .methodLink RX8 38 yJ9_floorMod_7cf53, .static yJ9_floorMod_7cf53, .initialized RJ9, .fieldLink RX8 34 "SeaLand$Sky" "storms" "I", .fieldLink RX8 15 "SeaLand$Sky" "stormFrom" "[I", .fieldLink RX8 18 "SeaLand$Sky" "stormTo" "[I", .fieldLink RX8 21 "SeaLand$Sky" "stormMore" "[I", .methodLink RX3 44 yX8_outsideAt, .instanceMethod yX8_outsideAt, .selects RX8 yX8_outsideAt yX8_outsideAt, .initialized RX8, .fieldLink RX3 21 "SeaLand$Lake" "ground" "LSeaLand$Ground;", .code yX8_rainAt cX8_rainAt 3 (some .int), .fieldLink RX8 31 "SeaLand$Sky" "rain" "LSeaLand$Tellings;", .code yX9_standingAt cX9_standingAt 5 (some .int), .fieldLink RX9 18 "SeaLand$Tellings" "told" "I", .fieldLink RX9 9 "SeaLand$Tellings" "hours" "[I", .methodLink RX8 44 yX9_standingAt, .instanceMethod yX9_standingAt, .selects RX9 yX9_standingAt yX9_standingAt, .initialized RX9, .methodLink RX3 103 yX8_rainAt, .instanceMethod yX8_rainAt, .selects RX8 yX8_rainAt yX8_rainAt, .code yX2_rainOnLand cX2_rainOnLand 3 none, .fieldLink RX2 9 "SeaLand$Ground" "isLand" "[Z", .fieldLink RX2 25 "SeaLand$Ground" "water" "[I", .fieldLink RX2 54 "SeaLand$Ground" "rained" "I", .methodLink RX3 106 yX2_rainOnLand, .instanceMethod yX2_rainOnLand, .selects RX2 yX2_rainOnLand yX2_rainOnLand, .initialized RX2, .fieldLink RX3 47 "SeaLand$Lake" "built" "I", .fieldLink RX3 27 "SeaLand$Lake" "works" "[LSeaLand$Work;", .code yX3_runSluice cX3_runSluice 5 none, .code yX2_levelOf cX2_levelOf 2 (some .int), .fieldLink RX2 15 "SeaLand$Ground" "height" "[I", .methodLink RX3 40 yX2_levelOf, .instanceMethod yX2_levelOf, .selects RX2 yX2_levelOf yX2_levelOf, .methodLink RX3 71 Lib.Math.min.name, .static Lib.Math.min.name, .initialized "java/lang/Math", .code Lib.Math.min.name Lib.Math.min.code 2 (some .int), .code yX2_giveToSea cX2_giveToSea 3 none, .fieldLink RX2 28 "SeaLand$Ground" "salt" "[I", .code yX2_saltGoingWith cX2_saltGoingWith 4 (some .int), .methodLink RX2 60 yX2_saltGoingWith, .instanceMethod yX2_saltGoingWith, .selects RX2 yX2_saltGoingWith yX2_saltGoingWith, .fieldLink RX2 64 "SeaLand$Ground" "wentOut" "I", .methodLink RX3 154 yX2_giveToSea, .instanceMethod yX2_giveToSea, .selects RX2 yX2_giveToSea yX2_giveToSea, .code yX10_moved cX10_moved 2 none, .fieldLink RX10 44 "SeaLand$Work" "latest" "I", .fieldLink RX10 47 "SeaLand$Work" "total" "I", .methodLink RX3 140 yX10_moved, .instanceMethod yX10_moved, .selects RX10 yX10_moved yX10_moved, .initialized RX10, .methodLink RX3 114 yX3_runSluice, .instanceMethod yX3_runSluice, .selects RX3 yX3_runSluice yX3_runSluice, .initialized RX3, .code yX2_runDitches cX2_runDitches 3 none, .fieldLink RX2 37 "SeaLand$Ground" "ditchTo" "[I", .fieldLink RX2 40 "SeaLand$Ground" "ditchWater" "[I", .fieldLink RX2 43 "SeaLand$Ground" "ditchSalt" "[I", .code yX2_reckonDitch cX2_reckonDitch 5 none, .fieldLink RX2 22 "SeaLand$Ground" "ditch" "[I", .code yX2_lowestDitchBeside cX2_lowestDitchBeside 4 (some .int), .code yX2_lowerDitch cX2_lowerDitch 4 (some .int), .methodLink RX2 79 yX2_levelOf, .methodLink RX2 87 yX2_lowerDitch, .instanceMethod yX2_lowerDitch, .selects RX2 yX2_lowerDitch yX2_lowerDitch, .methodLink RX2 75 yX2_lowestDitchBeside, .instanceMethod yX2_lowestDitchBeside, .selects RX2 yX2_lowestDitchBeside yX2_lowestDitchBeside, .methodLink RX2 82 Lib.Math.min.name, .methodLink RX2 71 yX2_reckonDitch, .instanceMethod yX2_reckonDitch, .selects RX2 yX2_reckonDitch yX2_reckonDitch, .methodLink RX3 117 yX2_runDitches, .instanceMethod yX2_runDitches, .selects RX2 yX2_runDitches yX2_runDitches, .code yX8_windAt cX8_windAt 4 (some .int), .fieldLink RX8 27 "SeaLand$Sky" "wind" "LSeaLand$Tellings;", .code yX9_nearestNumberBefore cX9_nearestNumberBefore 5 (some .int), .fieldLink RX9 15 "SeaLand$Tellings" "numbers" "[I", .methodLink RX8 54 yX9_nearestNumberBefore, .instanceMethod yX9_nearestNumberBefore, .selects RX9 yX9_nearestNumberBefore yX9_nearestNumberBefore, .code yX9_nearestNumberAfter cX9_nearestNumberAfter 5 (some .int), .constant RX9 22 40001, .methodLink RX8 57 yX9_nearestNumberAfter, .instanceMethod yX9_nearestNumberAfter, .selects RX9 yX9_nearestNumberAfter yX9_nearestNumberAfter, .methodLink RX8 60 Lib.Math.max.name, .static Lib.Math.max.name, .code Lib.Math.max.name Lib.Math.max.code 2 (some .int), .methodLink RX3 120 yX8_windAt, .instanceMethod yX8_windAt, .selects RX8 yX8_windAt yX8_windAt, .code yX3_runMills cX3_runMills 3 none, .code yX3_runEngine cX3_runEngine 3 none, .code yX3_liftBy cX3_liftBy 4 none, .code yX2_giveTo cX2_giveTo 5 none, .methodLink RX2 67 yX2_giveToSea, .methodLink RX3 171 yX2_giveTo, .instanceMethod yX2_giveTo, .selects RX2 yX2_giveTo yX2_giveTo, .methodLink RX3 161 yX3_liftBy, .instanceMethod yX3_liftBy, .selects RX3 yX3_liftBy yX3_liftBy, .methodLink RX3 164 yX3_runEngine, .instanceMethod yX3_runEngine, .selects RX3 yX3_runEngine yX3_runEngine, .methodLink RX3 123 yX3_runMills, .instanceMethod yX3_runMills, .selects RX3 yX3_runMills yX3_runMills, .code yX2_endDay cX2_endDay 2 none, .fieldLink RX2 31 "SeaLand$Ground" "dry" "[I", .code yX2_sinksNow cX2_sinksNow 2 (some .boolean), .fieldLink RX2 19 "SeaLand$Ground" "soil" "[I", .methodLink RX2 91 yX2_sinksNow, .instanceMethod yX2_sinksNow, .selects RX2 yX2_sinksNow yX2_sinksNow, .fieldLink RX2 34 "SeaLand$Ground" "wet" "[I", .methodLink RX3 126 yX2_endDay, .instanceMethod yX2_endDay, .selects RX2 yX2_endDay yX2_endDay, .code yX10_isBank cX10_isBank 1 (some .boolean), .fieldLink RX10 18 "SeaLand$Work" "kind" "I", .methodLink RX3 67 yX10_isBank, .instanceMethod yX10_isBank, .selects RX10 yX10_isBank yX10_isBank, .code yX3_runBank cX3_runBank 4 none, .code yX3_seepOf cX3_seepOf 5 (some .int), .methodLink RX3 97 Lib.Math.max.name, .code yX10_leakBelow cX10_leakBelow 6 (some .int), .fieldLink RX10 34 "SeaLand$Work" "layers" "I", .fieldLink RX10 9 "SeaLand$Work" "thick" "[I", .fieldLink RX10 15 "SeaLand$Work" "clay" "[I", .methodLink RX3 100 yX10_leakBelow, .instanceMethod yX10_leakBelow, .selects RX10 yX10_leakBelow yX10_leakBelow, .methodLink RX3 132 yX3_seepOf, .instanceMethod yX3_seepOf, .selects RX3 yX3_seepOf yX3_seepOf, .code yX10_breakOpen cX10_breakOpen 1 none, .fieldLink RX10 31 "SeaLand$Work" "width" "I", .methodLink RX3 143 yX10_breakOpen, .instanceMethod yX10_breakOpen, .selects RX10 yX10_breakOpen yX10_breakOpen, .code yX3_runBreach cX3_runBreach 4 none, .constantLong RX3 149 120, .code yX2_takeFromSea cX2_takeFromSea 3 none, .fieldLink RX2 57 "SeaLand$Ground" "cameIn" "I", .methodLink RX3 136 yX2_takeFromSea, .instanceMethod yX2_takeFromSea, .selects RX2 yX2_takeFromSea yX2_takeFromSea, .methodLink RX3 146 yX3_runBreach, .instanceMethod yX3_runBreach, .selects RX3 yX3_runBreach yX3_runBreach, .code yX3_crestOf cX3_crestOf 2 (some .int), .code yX10_thickness cX10_thickness 3 (some .int), .methodLink RX3 80 yX10_thickness, .instanceMethod yX10_thickness, .selects RX10 yX10_thickness yX10_thickness, .methodLink RX3 84 yX3_crestOf, .instanceMethod yX3_crestOf, .selects RX3 yX3_crestOf yX3_crestOf, .code yX10_widen cX10_widen 1 none, .code yX10_wider cX10_wider 1 (some .int), .methodLink RX10 54 Lib.Math.min.name, .methodLink RX10 50 yX10_wider, .static yX10_wider, .methodLink RX3 129 yX10_widen, .instanceMethod yX10_widen, .selects RX10 yX10_widen yX10_widen, .methodLink RX3 110 yX3_runBank, .instanceMethod yX3_runBank, .selects RX3 yX3_runBank yX3_runBank, .methodLink RX11 223 yX3_passHour, .instanceMethod yX3_passHour, .selects RX3 yX3_passHour yX3_passHour, .fieldLink RX11 23 "SeaLand" "rows" "LSeaLand$Rows;", .code yX6_write cX6_write 5 none, .fieldLink RX6 18 "SeaLand$Rows" "kept" "I", .fieldLink RX6 22 "SeaLand$Rows" "oldest" "I", .methodLink RX6 34 yX8_outsideAt, .code yX6_placeOf cX6_placeOf 3 (some .int), .methodLink RX6 40 yX6_placeOf, .instanceMethod yX6_placeOf, .selects RX6 yX6_placeOf yX6_placeOf, .initialized RX6, .fieldLink RX6 15 "SeaLand$Rows" "proof" "[I", .methodLink RX6 54 yX2_levelOf, .fieldLink RX6 9 "SeaLand$Rows" "shown" "[I", .methodLink RX11 226 yX6_write, .instanceMethod yX6_write, .selects RX6 yX6_write yX6_write, .methodLink RL 76 yX11_hours, .instanceMethod yX11_hours, .selects RX11 yX11_hours yX11_hours, .classLink RL 15 "java/lang/IllegalArgumentException"] bs2)
set_option maxHeartbeats 4000000 in
set_option maxRecDepth 100000 in
theorem l_hours (l : Launch) (hlt : l.stackTraces = false) (dC : Nat → ClassId) (dI : Nat → Nat → Nat) (kA : Nat → ClassId) (adK adV : Nat → Nat) (G : gT) (H0 : Heap) (nC nS : Int) (o0 : Nat) (p1 : Int32) (ou : Nat) (hT : gH (dC, dI) kA (SHc nC nS) G H0) (hr_o0 : G o0 = some 14) (hr_ou : G ou = some 98) (hgC : 0 ≤ nC ∧ nC ≤ 40) (hgS : 0 ≤ nS ∧ nS ≤ 60) : Met l yL_hours w_l_hours ({ frames := 8, cells := 1, slots := 6, locals := 180 }) (va_Pc [.ref o0, .int p1, .ref ou] (fun U => U.heap = H0 ∧ va_K (dC, dI) vwCl (tyl kA) U ∧ EVC adK adV (gA G H0.size) U U.heap ∧ NC U)) (va_Qi (fun (r : Int32) (u : Unit) => (0 ≤ r.toInt ∧ r.toInt ≤ 1)) (fun (_ : Unit) (t : State) => gH (dC, dI) kA (SHc nC nS) G t.heap ∧ gF (dC, dI) SKc G ([(5, 11), (5, 12), (5, 13), (6, 4), (9, 2), (9, 3), (13, 2), (13, 6), (13, 8), (13, 10), (13, 11), (26, 0), (29, 0), (30, 0), (31, 0), (32, 0), (33, 0), (34, 0), (35, 0), (38, 0), (39, 0), (98, 0)] : List (Nat × Nat)) H0 t.heap) (gA G H0.size)) 1 6 (gA G H0.size) := by
  refine va_MetW (cc := cL_hours) (maxL := 4) (ret := (some .int)) (by decide) rfl ?_
  intro p e s m args below meth c s₁ B hml hv
  obtain ⟨rfl, hH0, hK, hE, hN⟩ := hv
  have hx := B.exec
  have hb := B.bytes
  have hr := B.returns
  have hts := atoms_spec (ws := w_l_hours) B.pre
  have hown : s.vm.findClass RL = some m.cls := findClass_of_methodNamed B.named
  have hlocks := B.notSynchronized
  have htab := vx_table (x := yL_hours) B (hts _ List.mem_cons_self)
  subst hH0
  generalize hAe : gA G s.heap.size = A at hE ⊢
  have hA : ∀ q : Nat, s.heap.size ≤ q → A q := fun q h => by rw [← hAe]; exact Or.inr h
  have hG := gA_of hAe
  have hS : va_S A s.heap s.heap [] := va_S.rf
  have hF : gF (dC, dI) SKc G ([(5, 11), (5, 12), (5, 13), (6, 4), (9, 2), (9, 3), (13, 2), (13, 6), (13, 8), (13, 10), (13, 11), (26, 0), (29, 0), (30, 0), (31, 0), (32, 0), (33, 0), (34, 0), (35, 0), (38, 0), (39, 0), (98, 0)] : List (Nat × Nat)) s.heap s.heap := gF.rf
  have hl := lv_entry ([.ref o0, .int p1, .ref ou]) (n := 4) (Nat.le_of_ble_eq_true rfl)
  rw [lg_entry_eq]
  generalize (lg_sl ([.ref o0, .int p1, .ref ou]) ++ List.replicate (4 - (lg_sl ([.ref o0, .int p1, .ref ou])).length) Slot.unset).toArray = ls at hl ⊢
  have hl : lv_has ls 4 [(0, .ref o0), (1, .int p1), (2, .ref ou)] := hl
  refine lv_aload_n hx hb dL_hours_0 rfl (lv_at hl 2 rfl) ?_
  refine lv_iconst (v := 0) hx hb dL_hours_1 (by decide) ?_
  refine lv_aload_n hx hb dL_hours_2 rfl (lv_at hl 0 rfl) ?_
  refine lv_iload_n hx hb dL_hours_3 rfl (lv_at hl 1 rfl) ?_
  have hFc := gA_free hG hA hS
  refine vx_calli (vx_runV (As := [.int p1]) (rest := [.int 0, .ref ou]) ⟨hx, hb, hml, hown, hts⟩ (c_hours l hlt dC dI kA adK adV G s.heap nC nS o0 p1 hT hr_o0 (by omega) (by omega)) (cwV 1 hts (goodIn_app (goodIn_r _ [223, 224, 225, 5] rfl (by decide +kernel)) (goodIn_ca (goodIn_r _ [1, 2, 3, 4, 5, 6, 7, 8, 9, 10, 11, 12, 13, 14, 15, 16, 17, 18, 19, 20, 21, 22, 23, 24, 25, 26, 27, 28, 29, 30, 31, 32, 33, 34, 35, 36, 37, 38, 39, 40, 41, 42, 43, 44, 45, 46, 47, 48, 49, 50, 51, 52, 53, 54, 55, 56, 57, 58, 59, 60, 61, 62, 63, 64, 65, 66, 67, 68, 69, 70, 71, 72, 73, 74, 75, 76, 77, 78, 79, 80, 81, 82, 83, 84, 85, 86, 87, 88, 89, 90, 91, 92, 93, 94, 95, 96, 97, 98, 99, 100, 101, 102, 103, 104, 105, 106, 107, 108, 109, 110, 111, 112, 113, 114, 115, 116, 117, 118, 119, 120, 121, 122, 123, 124, 125, 126, 127, 128, 129, 130, 131, 132, 133, 134, 135, 136, 137, 138, 139, 140, 141, 142, 143, 144, 145, 146, 147, 148, 149, 150, 151, 152, 153, 154, 155, 156, 157, 158, 159, 160, 161, 162, 163, 164, 165, 166, 167, 168, 169, 170, 171, 172, 173, 174, 175, 176, 177, 178, 179, 180, 181, 182, 183, 184, 185, 186, 187, 188, 189, 190, 191, 192, 193, 194, 195, 196, 197, 198, 199, 200, 201, 202, 203, 204, 205, 206, 207, 208, 209, 210, 211, 212, 213, 214, 215, 216, 217, 218, 219, 220, 221, 222] rfl (by decide +kernel)) (bs2_in _ _))) rfl rfl rfl (by decide +kernel) ⟨(Nat.le_of_ble_eq_true rfl), (Nat.le_of_ble_eq_true rfl)⟩) ⟨fun a U g mk q => by obtain ⟨q0, q1, qK, qE⟩ := q; exact ⟨q0, q1, va_K.moved (u := U) (U := U.calling g mk a) (Vm.Alike.refl U.vm) qK, EVC.blind g mk a qE⟩, gH_rc hK hT hr_o0 shc_14 rfl, fun U hU hW => ⟨rfl, hU, va_K.moved hW.alike hK, hE.call hS hFc hU hW⟩⟩ rfl rfl hl.1 rfl (lv_room (Nat.le_of_ble_eq_true rfl)) dL_hours_4 ⟨(Nat.le_of_ble_eq_true rfl), (Nat.le_of_ble_eq_true rfl)⟩) hS (fun q _ h => hFc q h) hFc (fun q _ h => hFc q h) (fun E ce q9 u t H locs ht hvm _ hw2 _ _ hS hce hcv hcl => ?_) (fun r1 u t H locs ht hvm hw2 hB _ _ hS => ?_)
  · obtain ⟨hw2, hTx, hFx⟩ := hw2; rw [ht] at hTx hFx
    have hT := hTx; have hF := hF.more hFx (by decide)
    subst hw2
    refine vx_catch (E := "java/lang/IllegalArgumentException") hown [] ⟨0, 9, 12, 15⟩ [] (by rw [htab]; rfl) (fun z h => absurd h List.not_mem_nil) (by decide) (by decide) (ht_at2 hts 225 rfl) (va_Nw.use rfl (hE.1.1.2.1.2.1 _ (List.mem_of_getElem? (i := 1) rfl))) hce hcv hcl ?_
    refine lv_astore_n (lv' := [(3, .ref q9), (0, .ref o0), (1, .int p1), (2, .ref ou)]) hx hb dL_hours_12 rfl hl (by decide) rfl (fun ls hl => ?_)
    refine lv_iconst (v := 1) hx hb dL_hours_13 (by decide) ?_
    exact W.iret (v := 1) hx hb hr (fun t ht hW => ⟨⟨1, (), rfl, (by exact (rg_t (a := 1) (by decide) (by first | decide | omega) (by first | decide | omega))), by (try dsimp only); rw [ht]; exact ⟨hT, hF⟩⟩, hS.F ht⟩) hS.2.2 dL_hours_14
  · obtain ⟨hT, hF1⟩ := hB
    rw [ht] at hT hF1
    have hF := hF.more hF1 (by decide)
    try dsimp only at hw2
    have h3 := hw2
    refine lv_i2l (v := r1.toInt64) hx hb dL_hours_7 rfl ?_
    refine tw_last (i := 0)  hx hb hK hT hG hS hr_ou shc_98 rfl (by unfold vp_in; decide) ⟨_, rfl⟩ dL_hours_8 (fun H locs hT oq m4 oi hS => ?_)
    have hF := hF.ast hr_ou skc_98 oq (by decide)
    refine lv_goto (tgt := 15) hx hb dL_hours_9 (by decide) ?_
    refine lv_iconst (v := 0) hx hb dL_hours_15 (by decide) ?_
    exact W.iret (v := 0) hx hb hr (fun t ht hW => ⟨⟨0, (), rfl, (by exact (rg_t (a := 0) (by decide) (by first | decide | omega) (by first | decide | omega))), by (try dsimp only); rw [ht]; exact ⟨hT, hF⟩⟩, hS.F ht⟩) hS.2.2 dL_hours_16
def w_l_job : List Cond := .codeWith yL_job cL_job 7 (some .int) [(0, 14, 17, 15)] :: (HAppend.hAppend (α := List Cond) (β := List Cond) (γ := List Cond) [.code yX11_job cX11_job 5 (some .int), .constant RX11 411 1000000, .code yX11_within cX11_within 3 (some .boolean), .methodLink RX11 58 yX11_within, .static yX11_within, .initialized RX11, .code yX11_needNumbers cX11_needNumbers 1 none, .classLink RX11 547 "java/lang/IllegalArgumentException", .initialized "java/lang/IllegalArgumentException", .methodLink RX11 62 yX11_needNumbers, .static yX11_needNumbers, .constant RX11 96 100000, .fieldLink RX11 43 "SeaLand" "plans" "LSeaLand$Plans;", .code yX5_addJob cX5_addJob 5 (some .int), .fieldLink RX5 29 "SeaLand$Plans" "costs" "[I", .fieldLink RX5 154 "SeaLand$Plans" "jobs" "I", .fieldLink RX5 32 "SeaLand$Plans" "lasts" "[I", .fieldLink RX5 35 "SeaLand$Plans" "incomes" "[I", .fieldLink RX5 38 "SeaLand$Plans" "acres" "[I", .methodLink RX11 481 yX5_addJob, .instanceMethod yX5_addJob, .selects RX5 yX5_addJob yX5_addJob, .initialized RX5, .methodLink RL 157 yX11_job, .instanceMethod yX11_job, .selects RX11 yX11_job yX11_job, .classLink RL 15 "java/lang/IllegalArgumentException"] bs2)
set_option maxHeartbeats 4000000 in
set_option maxRecDepth 100000 in
theorem l_job (l : Launch) (hlt : l.stackTraces = false) (dC : Nat → ClassId) (dI : Nat → Nat → Nat) (kA : Nat → ClassId) (adK adV : Nat → Nat) (G : gT) (H0 : Heap) (nC nS : Int) (o0 : Nat) (p1 : Int32) (p2 : Int32) (p3 : Int32) (p4 : Int32) (ou : Nat) (hT : gH (dC, dI) kA (SHc nC nS) G H0) (hr_o0 : G o0 = some 14) (hr_ou : G ou = some 98) (hgC : 0 ≤ nC ∧ nC ≤ 40) (hgS : 0 ≤ nS ∧ nS ≤ 60) : Met l yL_job w_l_job ({ frames := 8, cells := 1, slots := 6, locals := 144 }) (va_Pc [.ref o0, .int p1, .int p2, .int p3, .int p4, .ref ou] (fun U => U.heap = H0 ∧ va_K (dC, dI) vwCl (tyl kA) U ∧ EVC adK adV (gA G H0.size) U U.heap ∧ NC U)) (va_Qi (fun (r : Int32) (u : Unit) => (0 ≤ r.toInt ∧ r.toInt ≤ 1)) (fun (_ : Unit) (t : State) => gH (dC, dI) kA (SHc nC nS) G t.heap ∧ gF (dC, dI) SKc G ([(8, 15), (63, 0), (64, 0), (65, 0), (66, 0), (98, 0)] : List (Nat × Nat)) H0 t.heap) (gA G H0.size)) 1 6 (gA G H0.size) := by
  refine va_MetW (cc := cL_job) (maxL := 7) (ret := (some .int)) (by decide) rfl ?_
  intro p e s m args below meth c s₁ B hml hv
  obtain ⟨rfl, hH0, hK, hE, hN⟩ := hv
  have hx := B.exec
  have hb := B.bytes
  have hr := B.returns
  have hts := atoms_spec (ws := w_l_job) B.pre
  have hown : s.vm.findClass RL = some m.cls := findClass_of_methodNamed B.named
  have hlocks := B.notSynchronized
  have htab := vx_table (x := yL_job) B (hts _ List.mem_cons_self)
  subst hH0
  generalize hAe : gA G s.heap.size = A at hE ⊢
  have hA : ∀ q : Nat, s.heap.size ≤ q → A q := fun q h => by rw [← hAe]; exact Or.inr h
  have hG := gA_of hAe
  have hS : va_S A s.heap s.heap [] := va_S.rf
  have hF : gF (dC, dI) SKc G ([(8, 15), (63, 0), (64, 0), (65, 0), (66, 0), (98, 0)] : List (Nat × Nat)) s.heap s.heap := gF.rf
  have hl := lv_entry ([.ref o0, .int p1, .int p2, .int p3, .int p4, .ref ou]) (n := 7) (Nat.le_of_ble_eq_true rfl)
  rw [lg_entry_eq]
  generalize (lg_sl ([.ref o0, .int p1, .int p2, .int p3, .int p4, .ref ou]) ++ List.replicate (7 - (lg_sl ([.ref o0, .int p1, .int p2, .int p3, .int p4, .ref ou])).length) Slot.unset).toArray = ls at hl ⊢
  have hl : lv_has ls 7 [(0, .ref o0), (1, .int p1), (2, .int p2), (3, .int p3), (4, .int p4), (5, .ref ou)] := hl
  refine lv_aload hx hb dL_job_0 (lv_at hl 5 rfl) ?_
  refine lv_iconst (v := 0) hx hb dL_job_2 (by decide) ?_
  refine lv_aload_n hx hb dL_job_3 rfl (lv_at hl 0 rfl) ?_
  refine lv_iload_n hx hb dL_job_4 rfl (lv_at hl 1 rfl) ?_
  refine lv_iload_n hx hb dL_job_5 rfl (lv_at hl 2 rfl) ?_
  refine lv_iload_n hx hb dL_job_6 rfl (lv_at hl 3 rfl) ?_
  refine lv_iload hx hb dL_job_7 (lv_at hl 4 rfl) ?_
  have hFc := gA_free hG hA hS
  refine vx_calli (vx_runV (As := [.int p1, .int p2, .int p3, .int p4]) (rest := [.int 0, .ref ou]) ⟨hx, hb, hml, hown, hts⟩ (c_job l hlt dC dI kA adK adV G s.heap nC nS o0 p1 p2 p3 p4 hT hr_o0 (by omega) (by omega)) (cwV 4 hts (goodIn_app (goodIn_r _ [24, 25, 26, 6] rfl (by decide +kernel)) (goodIn_ca (goodIn_r _ [1, 2, 3, 4, 5, 6, 7, 8, 9, 10, 11, 12, 13, 14, 15, 16, 17, 18, 19, 20, 21, 22, 23] rfl (by decide +kernel)) (bs2_in _ _))) rfl rfl rfl (by decide +kernel) ⟨(Nat.le_of_ble_eq_true rfl), (Nat.le_of_ble_eq_true rfl)⟩) ⟨fun a U g mk q => by obtain ⟨q0, q1, qK, qE⟩ := q; exact ⟨q0, q1, va_K.moved (u := U) (U := U.calling g mk a) (Vm.Alike.refl U.vm) qK, EVC.blind g mk a qE⟩, gH_rc hK hT hr_o0 shc_14 rfl, fun U hU hW => ⟨rfl, hU, va_K.moved hW.alike hK, hE.call hS hFc hU hW⟩⟩ rfl rfl hl.1 rfl (lv_room (Nat.le_of_ble_eq_true rfl)) dL_job_9 ⟨(Nat.le_of_ble_eq_true rfl), (Nat.le_of_ble_eq_true rfl)⟩) hS (fun q _ h => hFc q h) hFc (fun q _ h => hFc q h) (fun E ce q9 u t H locs ht hvm _ hw2 _ _ hS hce hcv hcl => ?_) (fun r1 u t H locs ht hvm hw2 hB _ _ hS => ?_)
  · obtain ⟨hw2, hTx, hFx⟩ := hw2; rw [ht] at hTx hFx
    have hT := hTx; have hF := hF.more hFx (by decide)
    subst hw2
    refine vx_catch (E := "java/lang/IllegalArgumentException") hown [] ⟨0, 14, 17, 15⟩ [] (by rw [htab]; rfl) (fun z h => absurd h List.not_mem_nil) (by decide) (by decide) (ht_at2 hts 26 rfl) (va_Nw.use rfl (hE.1.1.2.1.2.1 _ (List.mem_of_getElem? (i := 1) rfl))) hce hcv hcl ?_
    refine lv_astore (lv' := [(6, .ref q9), (0, .ref o0), (1, .int p1), (2, .int p2), (3, .int p3), (4, .int p4), (5, .ref ou)]) hx hb dL_job_17 hl (by decide) rfl (fun ls hl => ?_)
    refine lv_iconst (v := 1) hx hb dL_job_19 (by decide) ?_
    exact W.iret (v := 1) hx hb hr (fun t ht hW => ⟨⟨1, (), rfl, (by exact (rg_t (a := 1) (by decide) (by first | decide | omega) (by first | decide | omega))), by (try dsimp only); rw [ht]; exact ⟨hT, hF⟩⟩, hS.F ht⟩) hS.2.2 dL_job_20
  · obtain ⟨hT, hF1⟩ := hB
    rw [ht] at hT hF1
    have hF := hF.more hF1 (by decide)
    try dsimp only at hw2
    have h3 := hw2
    refine lv_i2l (v := r1.toInt64) hx hb dL_job_12 rfl ?_
    refine tw_last (i := 0)  hx hb hK hT hG hS hr_ou shc_98 rfl (by unfold vp_in; decide) ⟨_, rfl⟩ dL_job_13 (fun H locs hT oq m4 oi hS => ?_)
    have hF := hF.ast hr_ou skc_98 oq (by decide)
    refine lv_goto (tgt := 21) hx hb dL_job_14 (by decide) ?_
    refine lv_iconst (v := 0) hx hb dL_job_21 (by decide) ?_
    exact W.iret (v := 0) hx hb hr (fun t ht hW => ⟨⟨0, (), rfl, (by exact (rg_t (a := 0) (by decide) (by first | decide | omega) (by first | decide | omega))), by (try dsimp only); rw [ht]; exact ⟨hT, hF⟩⟩, hS.F ht⟩) hS.2.2 dL_job_22
def w_l_land : List Cond := .codeWith yL_land cL_land 8 (some .int) [(0, 16, 19, 13), (0, 16, 23, 15), (0, 16, 27, 17)] :: (HAppend.hAppend (α := List Cond) (β := List Cond) (γ := List Cond) [.code yX11_land cX11_land 8 (some .int), .code yX11_needSquare cX11_needSquare 1 none, .code yX11_within cX11_within 3 (some .boolean), .methodLink RX11 58 yX11_within, .static yX11_within, .initialized RX11, .classLink RX11 557 "java/lang/IndexOutOfBoundsException", .initialized "java/lang/IndexOutOfBoundsException", .methodLink RX11 55 yX11_needSquare, .static yX11_needSquare, .code yX11_needNumbers cX11_needNumbers 1 none, .classLink RX11 547 "java/lang/IllegalArgumentException", .initialized "java/lang/IllegalArgumentException", .methodLink RX11 62 yX11_needNumbers, .static yX11_needNumbers, .fieldLink RX11 16 "SeaLand" "lake" "LSeaLand$Lake;", .fieldLink RX11 23 "SeaLand" "rows" "LSeaLand$Rows;", .code yX6_forget cX6_forget 1 none, .fieldLink RX6 18 "SeaLand$Rows" "kept" "I", .fieldLink RX6 22 "SeaLand$Rows" "oldest" "I", .methodLink RX11 76 yX6_forget, .instanceMethod yX6_forget, .selects RX6 yX6_forget yX6_forget, .initialized RX6, .code yX11_inRectangle cX11_inRectangle 3 (some .boolean), .code yX11_isBetween cX11_isBetween 3 (some .boolean), .methodLink RX11 588 Lib.Math.min.name, .static Lib.Math.min.name, .initialized "java/lang/Math", .code Lib.Math.min.name Lib.Math.min.code 2 (some .int), .methodLink RX11 591 Lib.Math.max.name, .static Lib.Math.max.name, .code Lib.Math.max.name Lib.Math.max.code 2 (some .int), .methodLink RX11 585 yX11_isBetween, .static yX11_isBetween, .methodLink RX11 79 yX11_inRectangle, .static yX11_inRectangle, .code yX2_tellLand cX2_tellLand 5 none, .fieldLink RX2 9 "SeaLand$Ground" "isLand" "[Z", .fieldLink RX2 15 "SeaLand$Ground" "height" "[I", .fieldLink RX2 19 "SeaLand$Ground" "soil" "[I", .fieldLink RX2 22 "SeaLand$Ground" "ditch" "[I", .code yX2_tellWater cX2_tellWater 4 none, .fieldLink RX2 50 "SeaLand$Ground" "toldMore" "I", .fieldLink RX2 25 "SeaLand$Ground" "water" "[I", .fieldLink RX2 28 "SeaLand$Ground" "salt" "[I", .methodLink RX2 46 yX2_tellWater, .instanceMethod yX2_tellWater, .selects RX2 yX2_tellWater yX2_tellWater, .initialized RX2, .methodLink RX11 92 yX2_tellLand, .instanceMethod yX2_tellLand, .selects RX2 yX2_tellLand yX2_tellLand, .classLink RX11 69 "java/lang/IllegalStateException", .initialized "java/lang/IllegalStateException", .methodLink RL 7 yX11_land, .instanceMethod yX11_land, .selects RX11 yX11_land yX11_land, .classLink RL 13 "java/lang/IndexOutOfBoundsException", .classLink RL 15 "java/lang/IllegalArgumentException", .classLink RL 17 "java/lang/IllegalStateException"] bs2)
set_option maxHeartbeats 4000000 in
set_option maxRecDepth 100000 in
theorem l_land (l : Launch) (hlt : l.stackTraces = false) (dC : Nat → ClassId) (dI : Nat → Nat → Nat) (kA : Nat → ClassId) (adK adV : Nat → Nat) (G : gT) (H0 : Heap) (nC nS : Int) (o0 : Nat) (p1 : Int32) (p2 : Int32) (p3 : Int32) (p4 : Int32) (p5 : Int32) (ou : Nat) (hT : gH (dC, dI) kA (SHc nC nS) G H0) (hr_o0 : G o0 = some 14) (hr_ou : G ou = some 98) (hgC : 0 ≤ nC ∧ nC ≤ 40) (hgS : 0 ≤ nS ∧ nS ≤ 60) : Met l yL_land w_l_land ({ frames := 8, cells := 3, slots := 18, locals := 147 }) (va_Pc [.ref o0, .int p1, .int p2, .int p3, .int p4, .int p5, .ref ou] (fun U => U.heap = H0 ∧ va_K (dC, dI) vwCl (tyl kA) U ∧ EVC adK adV (gA G H0.size) U U.heap ∧ NC U)) (va_Qi (fun (r : Int32) (u : Unit) => (0 ≤ r.toInt ∧ r.toInt ≤ 3)) (fun (_ : Unit) (t : State) => gH (dC, dI) kA (SHc nC nS) G t.heap ∧ gF (dC, dI) SKc G ([(5, 14), (9, 2), (9, 3), (25, 0), (26, 0), (27, 0), (28, 0), (29, 0), (30, 0), (98, 0)] : List (Nat × Nat)) H0 t.heap) (gA G H0.size)) 3 18 (gA G H0.size) := by
  refine va_MetW (cc := cL_land) (maxL := 8) (ret := (some .int)) (by decide) rfl ?_
  intro p e s m args below meth c s₁ B hml hv
  obtain ⟨rfl, hH0, hK, hE, hN⟩ := hv
  have hx := B.exec
  have hb := B.bytes
  have hr := B.returns
  have hts := atoms_spec (ws := w_l_land) B.pre
  have hown : s.vm.findClass RL = some m.cls := findClass_of_methodNamed B.named
  have hlocks := B.notSynchronized
  have htab := vx_table (x := yL_land) B (hts _ List.mem_cons_self)
  subst hH0
  generalize hAe : gA G s.heap.size = A at hE ⊢
  have hA : ∀ q : Nat, s.heap.size ≤ q → A q := fun q h => by rw [← hAe]; exact Or.inr h
  have hG := gA_of hAe
  have hS : va_S A s.heap s.heap [] := va_S.rf
  have hF : gF (dC, dI) SKc G ([(5, 14), (9, 2), (9, 3), (25, 0), (26, 0), (27, 0), (28, 0), (29, 0), (30, 0), (98, 0)] : List (Nat × Nat)) s.heap s.heap := gF.rf
  have hl := lv_entry ([.ref o0, .int p1, .int p2, .int p3, .int p4, .int p5, .ref ou]) (n := 8) (Nat.le_of_ble_eq_true rfl)
  rw [lg_entry_eq]
  generalize (lg_sl ([.ref o0, .int p1, .int p2, .int p3, .int p4, .int p5, .ref ou]) ++ List.replicate (8 - (lg_sl ([.ref o0, .int p1, .int p2, .int p3, .int p4, .int p5, .ref ou])).length) Slot.unset).toArray = ls at hl ⊢
  have hl : lv_has ls 8 [(0, .ref o0), (1, .int p1), (2, .int p2), (3, .int p3), (4, .int p4), (5, .int p5), (6, .ref ou)] := hl
  refine lv_aload hx hb dL_land_0 (lv_at hl 6 rfl) ?_
  refine lv_iconst (v := 0) hx hb dL_land_2 (by decide) ?_
  refine lv_aload_n hx hb dL_land_3 rfl (lv_at hl 0 rfl) ?_
  refine lv_iload_n hx hb dL_land_4 rfl (lv_at hl 1 rfl) ?_
  refine lv_iload_n hx hb dL_land_5 rfl (lv_at hl 2 rfl) ?_
  refine lv_iload_n hx hb dL_land_6 rfl (lv_at hl 3 rfl) ?_
  refine lv_iload hx hb dL_land_7 (lv_at hl 4 rfl) ?_
  refine lv_iload hx hb dL_land_9 (lv_at hl 5 rfl) ?_
  have hFc := gA_free hG hA hS
  refine vx_calli (vx_runV (As := [.int p1, .int p2, .int p3, .int p4, .int p5]) (rest := [.int 0, .ref ou]) ⟨hx, hb, hml, hown, hts⟩ (c_land l hlt dC dI kA adK adV G s.heap nC nS o0 p1 p2 p3 p4 p5 hT hr_o0 (by omega) (by omega)) (cwV 5 hts (goodIn_app (goodIn_r _ [56, 57, 58, 6] rfl (by decide +kernel)) (goodIn_ca (goodIn_r _ [1, 2, 3, 4, 5, 6, 7, 8, 9, 10, 11, 12, 13, 14, 15, 16, 17, 18, 19, 20, 21, 22, 23, 24, 25, 26, 27, 28, 29, 30, 31, 32, 33, 34, 35, 36, 37, 38, 39, 40, 41, 42, 43, 44, 45, 46, 47, 48, 49, 50, 51, 52, 53, 54, 55] rfl (by decide +kernel)) (bs2_in _ _))) rfl rfl rfl (by decide +kernel) ⟨(Nat.le_of_ble_eq_true rfl), (Nat.le_of_ble_eq_true rfl)⟩) ⟨fun a U g mk q => by obtain ⟨q0, q1, qK, qE⟩ := q; exact ⟨q0, q1, va_K.moved (u := U) (U := U.calling g mk a) (Vm.Alike.refl U.vm) qK, EVC.blind g mk a qE⟩, gH_rc hK hT hr_o0 shc_14 rfl, fun U hU hW => ⟨rfl, hU, va_K.moved hW.alike hK, hE.call hS hFc hU hW⟩⟩ rfl rfl hl.1 rfl (lv_room (Nat.le_of_ble_eq_true rfl)) dL_land_11 ⟨(Nat.le_of_ble_eq_true rfl), (Nat.le_of_ble_eq_true rfl)⟩) hS (fun q _ h => hFc q h) hFc (fun q _ h => hFc q h) (fun E ce q9 u t H locs ht hvm _ hw2 _ _ hS hce hcv hcl => ?_) (fun r1 u t H locs ht hvm hw2 hB _ _ hS => ?_)
  · obtain ⟨hw2, hTx, hFx⟩ := hw2; rw [ht] at hTx hFx
    have hT := hTx; have hF := hF.more hFx (by decide)
    rcases hw2 with rfl | rfl | rfl
    · refine vx_catch (E := "java/lang/IllegalArgumentException") hown [⟨0, 16, 19, 13⟩] ⟨0, 16, 23, 15⟩ [⟨0, 16, 27, 17⟩] (by rw [htab]; rfl) (fun z h => by
          simp only [List.mem_cons, List.not_mem_nil, or_false] at h
          rcases h with rfl
          · exact Or.inr ⟨by decide, "java/lang/IndexOutOfBoundsException", (ht_at2 hts 58 rfl), hN ("java/lang/IllegalArgumentException", "java/lang/IndexOutOfBoundsException") (by decide +kernel)⟩) (by decide) (by decide) (ht_at2 hts 59 rfl) (va_Nw.use rfl (hE.1.1.2.1.2.1 _ (List.mem_of_getElem? (i := 1) rfl))) hce hcv hcl ?_
      refine lv_astore (lv' := [(7, .ref q9), (0, .ref o0), (1, .int p1), (2, .int p2), (3, .int p3), (4, .int p4), (5, .int p5), (6, .ref ou)]) hx hb dL_land_23 hl (by decide) rfl (fun ls hl => ?_)
      refine lv_iconst (v := 2) hx hb dL_land_25 (by decide) ?_
      exact W.iret (v := 2) hx hb hr (fun t ht hW => ⟨⟨2, (), rfl, (by exact (rg_t (a := 2) (by decide) (by first | decide | omega) (by first | decide | omega))), by (try dsimp only); rw [ht]; exact ⟨hT, hF⟩⟩, hS.F ht⟩) hS.2.2 dL_land_26
    · refine vx_catch (E := "java/lang/IllegalStateException") hown [⟨0, 16, 19, 13⟩, ⟨0, 16, 23, 15⟩] ⟨0, 16, 27, 17⟩ [] (by rw [htab]; rfl) (fun z h => by
          simp only [List.mem_cons, List.not_mem_nil, or_false] at h
          rcases h with rfl | rfl
          · exact Or.inr ⟨by decide, "java/lang/IndexOutOfBoundsException", (ht_at2 hts 58 rfl), hN ("java/lang/IllegalStateException", "java/lang/IndexOutOfBoundsException") (by decide +kernel)⟩
          · exact Or.inr ⟨by decide, "java/lang/IllegalArgumentException", (ht_at2 hts 59 rfl), hN ("java/lang/IllegalStateException", "java/lang/IllegalArgumentException") (by decide +kernel)⟩) (by decide) (by decide) (ht_at2 hts 60 rfl) (va_Nw.use rfl (hE.1.1.2.1.2.1 _ (List.mem_of_getElem? (i := 3) rfl))) hce hcv hcl ?_
      refine lv_astore (lv' := [(7, .ref q9), (0, .ref o0), (1, .int p1), (2, .int p2), (3, .int p3), (4, .int p4), (5, .int p5), (6, .ref ou)]) hx hb dL_land_27 hl (by decide) rfl (fun ls hl => ?_)
      refine lv_iconst (v := 3) hx hb dL_land_29 (by decide) ?_
      exact W.iret (v := 3) hx hb hr (fun t ht hW => ⟨⟨3, (), rfl, (by exact (rg_t (a := 3) (by decide) (by first | decide | omega) (by first | decide | omega))), by (try dsimp only); rw [ht]; exact ⟨hT, hF⟩⟩, hS.F ht⟩) hS.2.2 dL_land_30
    · refine vx_catch (E := "java/lang/IndexOutOfBoundsException") hown [] ⟨0, 16, 19, 13⟩ [⟨0, 16, 23, 15⟩, ⟨0, 16, 27, 17⟩] (by rw [htab]; rfl) (fun z h => absurd h List.not_mem_nil) (by decide) (by decide) (ht_at2 hts 58 rfl) (va_Nw.use rfl (hE.1.1.2.1.2.1 _ (List.mem_of_getElem? (i := 0) rfl))) hce hcv hcl ?_
      refine lv_astore (lv' := [(7, .ref q9), (0, .ref o0), (1, .int p1), (2, .int p2), (3, .int p3), (4, .int p4), (5, .int p5), (6, .ref ou)]) hx hb dL_land_19 hl (by decide) rfl (fun ls hl => ?_)
      refine lv_iconst (v := 1) hx hb dL_land_21 (by decide) ?_
      exact W.iret (v := 1) hx hb hr (fun t ht hW => ⟨⟨1, (), rfl, (by exact (rg_t (a := 1) (by decide) (by first | decide | omega) (by first | decide | omega))), by (try dsimp only); rw [ht]; exact ⟨hT, hF⟩⟩, hS.F ht⟩) hS.2.2 dL_land_22
  · obtain ⟨hT, hF1⟩ := hB
    rw [ht] at hT hF1
    have hF := hF.more hF1 (by decide)
    try dsimp only at hw2
    refine lv_i2l (v := r1.toInt64) hx hb dL_land_14 rfl ?_
    refine tw_last (i := 0)  hx hb hK hT hG hS hr_ou shc_98 rfl (by unfold vp_in; decide) ⟨_, rfl⟩ dL_land_15 (fun H locs hT oq m3 oi hS => ?_)
    have hF := hF.ast hr_ou skc_98 oq (by decide)
    refine lv_goto (tgt := 31) hx hb dL_land_16 (by decide) ?_
    refine lv_iconst (v := 0) hx hb dL_land_31 (by decide) ?_
    exact W.iret (v := 0) hx hb hr (fun t ht hW => ⟨⟨0, (), rfl, (by exact (rg_t (a := 0) (by decide) (by first | decide | omega) (by first | decide | omega))), by (try dsimp only); rw [ht]; exact ⟨hT, hF⟩⟩, hS.F ht⟩) hS.2.2 dL_land_32
def w_l_lawLevel : List Cond := .codeWith yL_lawLevel cL_lawLevel 4 (some .int) [(0, 9, 12, 13)] :: (HAppend.hAppend (α := List Cond) (β := List Cond) (γ := List Cond) [.code yX11_lawLevel cX11_lawLevel 3 (some .int), .code yX11_needSquare cX11_needSquare 1 none, .code yX11_within cX11_within 3 (some .boolean), .methodLink RX11 58 yX11_within, .static yX11_within, .initialized RX11, .classLink RX11 557 "java/lang/IndexOutOfBoundsException", .initialized "java/lang/IndexOutOfBoundsException", .methodLink RX11 55 yX11_needSquare, .static yX11_needSquare, .fieldLink RX11 16 "SeaLand" "lake" "LSeaLand$Lake;", .code yX3_dayNow cX3_dayNow 1 (some .int), .fieldLink RX3 32 "SeaLand$Lake" "hour" "I", .methodLink RX11 334 yX3_dayNow, .instanceMethod yX3_dayNow, .selects RX3 yX3_dayNow yX3_dayNow, .initialized RX3, .fieldLink RX11 30 "SeaLand" "board" "LSeaLand$Board;", .code yX4_levelFor cX4_levelFor 5 (some .int), .fieldLink RX4 60 "SeaLand$Law" "lines" "I", .fieldLink RX4 18 "SeaLand$Law" "kinds" "[I", .fieldLink RX4 27 "SeaLand$Law" "froms" "[I", .fieldLink RX4 30 "SeaLand$Law" "tos" "[I", .code yX11_inRectangle cX11_inRectangle 3 (some .boolean), .code yX11_isBetween cX11_isBetween 3 (some .boolean), .methodLink RX11 588 Lib.Math.min.name, .static Lib.Math.min.name, .initialized "java/lang/Math", .code Lib.Math.min.name Lib.Math.min.code 2 (some .int), .methodLink RX11 591 Lib.Math.max.name, .static Lib.Math.max.name, .code Lib.Math.max.name Lib.Math.max.code 2 (some .int), .methodLink RX11 585 yX11_isBetween, .static yX11_isBetween, .static yX11_inRectangle, .fieldLink RX4 24 "SeaLand$Law" "seconds" "[I", .fieldLink RX4 21 "SeaLand$Law" "firsts" "[I", .methodLink RX11 337 yX4_levelFor, .instanceMethod yX4_levelFor, .selects RX4 yX4_levelFor yX4_levelFor, .initialized RX4, .methodLink RL 104 yX11_lawLevel, .instanceMethod yX11_lawLevel, .selects RX11 yX11_lawLevel yX11_lawLevel, .classLink RL 13 "java/lang/IndexOutOfBoundsException"] bs2)
set_option maxHeartbeats 4000000 in
set_option maxRecDepth 100000 in
theorem l_lawLevel (l : Launch) (hlt : l.stackTraces = false) (dC : Nat → ClassId) (dI : Nat → Nat → Nat) (kA : Nat → ClassId) (adK adV : Nat → Nat) (G : gT) (H0 : Heap) (nC nS : Int) (o0 : Nat) (p1 : Int32) (ou : Nat) (hT : gH (dC, dI) kA (SHc nC nS) G H0) (hr_o0 : G o0 = some 14) (hr_ou : G ou = some 98) (hgC : 0 ≤ nC ∧ nC ≤ 40) (hgS : 0 ≤ nS ∧ nS ≤ 60) : Met l yL_lawLevel w_l_lawLevel ({ frames := 8, cells := 1, slots := 6, locals := 142 }) (va_Pc [.ref o0, .int p1, .ref ou] (fun U => U.heap = H0 ∧ va_K (dC, dI) vwCl (tyl kA) U ∧ EVC adK adV (gA G H0.size) U U.heap ∧ NC U)) (va_Qi (fun (r : Int32) (u : Unit) => (0 ≤ r.toInt ∧ r.toInt ≤ 1)) (fun (_ : Unit) (t : State) => gH (dC, dI) kA (SHc nC nS) G t.heap ∧ gF (dC, dI) SKc G ([(98, 0)] : List (Nat × Nat)) H0 t.heap) (gA G H0.size)) 1 6 (gA G H0.size) := by
  refine va_MetW (cc := cL_lawLevel) (maxL := 4) (ret := (some .int)) (by decide) rfl ?_
  intro p e s m args below meth c s₁ B hml hv
  obtain ⟨rfl, hH0, hK, hE, hN⟩ := hv
  have hx := B.exec
  have hb := B.bytes
  have hr := B.returns
  have hts := atoms_spec (ws := w_l_lawLevel) B.pre
  have hown : s.vm.findClass RL = some m.cls := findClass_of_methodNamed B.named
  have hlocks := B.notSynchronized
  have htab := vx_table (x := yL_lawLevel) B (hts _ List.mem_cons_self)
  subst hH0
  generalize hAe : gA G s.heap.size = A at hE ⊢
  have hA : ∀ q : Nat, s.heap.size ≤ q → A q := fun q h => by rw [← hAe]; exact Or.inr h
  have hG := gA_of hAe
  have hS : va_S A s.heap s.heap [] := va_S.rf
  have hF : gF (dC, dI) SKc G ([(98, 0)] : List (Nat × Nat)) s.heap s.heap := gF.rf
  have hl := lv_entry ([.ref o0, .int p1, .ref ou]) (n := 4) (Nat.le_of_ble_eq_true rfl)
  rw [lg_entry_eq]
  generalize (lg_sl ([.ref o0, .int p1, .ref ou]) ++ List.replicate (4 - (lg_sl ([.ref o0, .int p1, .ref ou])).length) Slot.unset).toArray = ls at hl ⊢
  have hl : lv_has ls 4 [(0, .ref o0), (1, .int p1), (2, .ref ou)] := hl
  refine lv_aload_n hx hb dL_lawLevel_0 rfl (lv_at hl 2 rfl) ?_
  refine lv_iconst (v := 0) hx hb dL_lawLevel_1 (by decide) ?_
  refine lv_aload_n hx hb dL_lawLevel_2 rfl (lv_at hl 0 rfl) ?_
  refine lv_iload_n hx hb dL_lawLevel_3 rfl (lv_at hl 1 rfl) ?_
  have hFc := gA_free hG hA hS
  refine vx_calli (vx_runV (As := [.int p1]) (rest := [.int 0, .ref ou]) ⟨hx, hb, hml, hown, hts⟩ (c_lawLevel l hlt dC dI kA adK adV G s.heap nC nS o0 p1 hT hr_o0 (by omega) (by omega)) (cwV 1 hts (goodIn_app (goodIn_r _ [42, 43, 44, 6] rfl (by decide +kernel)) (goodIn_ca (goodIn_r _ [1, 2, 3, 4, 5, 6, 7, 8, 9, 10, 11, 12, 13, 14, 15, 16, 17, 18, 19, 20, 21, 22, 23, 24, 25, 26, 27, 28, 29, 30, 31, 32, 33, 34, 35, 36, 37, 38, 39, 40, 41] rfl (by decide +kernel)) (bs2_in _ _))) rfl rfl rfl (by decide +kernel) ⟨(Nat.le_of_ble_eq_true rfl), (Nat.le_of_ble_eq_true rfl)⟩) ⟨fun a U g mk q => by obtain ⟨q0, q1, qK, qE⟩ := q; exact ⟨q0, q1, va_K.moved (u := U) (U := U.calling g mk a) (Vm.Alike.refl U.vm) qK, EVC.blind g mk a qE⟩, gH_rc hK hT hr_o0 shc_14 rfl, fun U hU hW => ⟨rfl, hU, va_K.moved hW.alike hK, hE.call hS hFc hU hW⟩⟩ rfl rfl hl.1 rfl (lv_room (Nat.le_of_ble_eq_true rfl)) dL_lawLevel_4 ⟨(Nat.le_of_ble_eq_true rfl), (Nat.le_of_ble_eq_true rfl)⟩) hS (fun q _ h => hFc q h) hFc (fun q _ h => hFc q h) (fun E ce q9 u t H locs ht hvm _ hw2 _ _ hS hce hcv hcl => ?_) (fun r1 u t H locs ht hvm hw2 hB _ _ hS => ?_)
  · obtain ⟨hw2, hTx, hFx⟩ := hw2; rw [ht] at hTx hFx
    have hT := hTx; have hF := hF.more hFx (by decide)
    subst hw2
    refine vx_catch (E := "java/lang/IndexOutOfBoundsException") hown [] ⟨0, 9, 12, 13⟩ [] (by rw [htab]; rfl) (fun z h => absurd h List.not_mem_nil) (by decide) (by decide) (ht_at2 hts 44 rfl) (va_Nw.use rfl (hE.1.1.2.1.2.1 _ (List.mem_of_getElem? (i := 0) rfl))) hce hcv hcl ?_
    refine lv_astore_n (lv' := [(3, .ref q9), (0, .ref o0), (1, .int p1), (2, .ref ou)]) hx hb dL_lawLevel_12 rfl hl (by decide) rfl (fun ls hl => ?_)
    refine lv_iconst (v := 1) hx hb dL_lawLevel_13 (by decide) ?_
    exact W.iret (v := 1) hx hb hr (fun t ht hW => ⟨⟨1, (), rfl, (by exact (rg_t (a := 1) (by decide) (by first | decide | omega) (by first | decide | omega))), by (try dsimp only); rw [ht]; exact ⟨hT, hF⟩⟩, hS.F ht⟩) hS.2.2 dL_lawLevel_14
  · obtain ⟨hT, hF1⟩ := hB
    rw [ht] at hT hF1
    have hF := hF.more hF1 (by decide)
    try dsimp only at hw2
    refine lv_i2l (v := r1.toInt64) hx hb dL_lawLevel_7 rfl ?_
    refine tw_last (i := 0)  hx hb hK hT hG hS hr_ou shc_98 rfl (by unfold vp_in; decide) ⟨_, rfl⟩ dL_lawLevel_8 (fun H locs hT oq m3 oi hS => ?_)
    have hF := hF.ast hr_ou skc_98 oq (by decide)
    refine lv_goto (tgt := 15) hx hb dL_lawLevel_9 (by decide) ?_
    refine lv_iconst (v := 0) hx hb dL_lawLevel_15 (by decide) ?_
    exact W.iret (v := 0) hx hb hr (fun t ht hW => ⟨⟨0, (), rfl, (by exact (rg_t (a := 0) (by decide) (by first | decide | omega) (by first | decide | omega))), by (try dsimp only); rw [ht]; exact ⟨hT, hF⟩⟩, hS.F ht⟩) hS.2.2 dL_lawLevel_16
def w_l_layer : List Cond := .codeWith yL_layer cL_layer 6 (some .int) [(0, 12, 15, 13), (0, 12, 19, 15), (0, 12, 23, 50)] :: (HAppend.hAppend (α := List Cond) (β := List Cond) (γ := List Cond) [.code yX11_layer cX11_layer 5 (some .int), .code yX11_workOf cX11_workOf 2 (some (.object "SeaLand$Work")), .fieldLink RX11 16 "SeaLand" "lake" "LSeaLand$Lake;", .code yX11_within cX11_within 3 (some .boolean), .methodLink RX11 58 yX11_within, .static yX11_within, .initialized RX11, .classLink RX11 557 "java/lang/IndexOutOfBoundsException", .initialized "java/lang/IndexOutOfBoundsException", .methodLink RX11 167 yX11_workOf, .instanceMethod yX11_workOf, .selects RX11 yX11_workOf yX11_workOf, .code yX11_needNumbers cX11_needNumbers 1 none, .classLink RX11 547 "java/lang/IllegalArgumentException", .initialized "java/lang/IllegalArgumentException", .methodLink RX11 62 yX11_needNumbers, .static yX11_needNumbers, .code yX10_isBank cX10_isBank 1 (some .boolean), .fieldLink RX10 18 "SeaLand$Work" "kind" "I", .methodLink RX11 171 yX10_isBank, .instanceMethod yX10_isBank, .selects RX10 yX10_isBank yX10_isBank, .initialized RX10, .code yX11_needKind cX11_needKind 1 none, .classLink RX11 552 "java/lang/ClassCastException", .initialized "java/lang/ClassCastException", .methodLink RX11 177 yX11_needKind, .static yX11_needKind, .code yX10_takesLayer cX10_takesLayer 1 (some .boolean), .fieldLink RX10 34 "SeaLand$Work" "layers" "I", .methodLink RX11 180 yX10_takesLayer, .instanceMethod yX10_takesLayer, .selects RX10 yX10_takesLayer yX10_takesLayer, .fieldLink RX11 23 "SeaLand" "rows" "LSeaLand$Rows;", .code yX6_forget cX6_forget 1 none, .fieldLink RX6 18 "SeaLand$Rows" "kept" "I", .fieldLink RX6 22 "SeaLand$Rows" "oldest" "I", .methodLink RX11 76 yX6_forget, .instanceMethod yX6_forget, .selects RX6 yX6_forget yX6_forget, .initialized RX6, .code yX10_addLayer cX10_addLayer 3 none, .fieldLink RX10 9 "SeaLand$Work" "thick" "[I", .fieldLink RX10 15 "SeaLand$Work" "clay" "[I", .methodLink RX11 183 yX10_addLayer, .instanceMethod yX10_addLayer, .selects RX10 yX10_addLayer yX10_addLayer, .methodLink RL 47 yX11_layer, .instanceMethod yX11_layer, .selects RX11 yX11_layer yX11_layer, .classLink RL 13 "java/lang/IndexOutOfBoundsException", .classLink RL 15 "java/lang/IllegalArgumentException", .classLink RL 50 "java/lang/ClassCastException"] bs2)
set_option maxHeartbeats 4000000 in
set_option maxRecDepth 100000 in
theorem l_layer (l : Launch) (hlt : l.stackTraces = false) (dC : Nat → ClassId) (dI : Nat → Nat → Nat) (kA : Nat → ClassId) (adK adV : Nat → Nat) (G : gT) (H0 : Heap) (nC nS : Int) (o0 : Nat) (p1 : Int32) (p2 : Int32) (p3 : Int32) (ou : Nat) (hT : gH (dC, dI) kA (SHc nC nS) G H0) (hr_o0 : G o0 = some 14) (hr_ou : G ou = some 98) (hgC : 0 ≤ nC ∧ nC ≤ 40) (hgS : 0 ≤ nS ∧ nS ≤ 60) : Met l yL_layer w_l_layer ({ frames := 8, cells := 2, slots := 12, locals := 145 }) (va_Pc [.ref o0, .int p1, .int p2, .int p3, .ref ou] (fun U => U.heap = H0 ∧ va_K (dC, dI) vwCl (tyl kA) U ∧ EVC adK adV (gA G H0.size) U U.heap ∧ NC U)) (va_Qi (fun (r : Int32) (u : Unit) => (0 ≤ r.toInt ∧ r.toInt ≤ 3)) (fun (_ : Unit) (t : State) => gH (dC, dI) kA (SHc nC nS) G t.heap ∧ gF (dC, dI) SKc G ([(9, 2), (9, 3), (13, 7), (36, 0), (37, 0), (98, 0)] : List (Nat × Nat)) H0 t.heap) (gA G H0.size)) 2 12 (gA G H0.size) := by
  refine va_MetW (cc := cL_layer) (maxL := 6) (ret := (some .int)) (by decide) rfl ?_
  intro p e s m args below meth c s₁ B hml hv
  obtain ⟨rfl, hH0, hK, hE, hN⟩ := hv
  have hx := B.exec
  have hb := B.bytes
  have hr := B.returns
  have hts := atoms_spec (ws := w_l_layer) B.pre
  have hown : s.vm.findClass RL = some m.cls := findClass_of_methodNamed B.named
  have hlocks := B.notSynchronized
  have htab := vx_table (x := yL_layer) B (hts _ List.mem_cons_self)
  subst hH0
  generalize hAe : gA G s.heap.size = A at hE ⊢
  have hA : ∀ q : Nat, s.heap.size ≤ q → A q := fun q h => by rw [← hAe]; exact Or.inr h
  have hG := gA_of hAe
  have hS : va_S A s.heap s.heap [] := va_S.rf
  have hF : gF (dC, dI) SKc G ([(9, 2), (9, 3), (13, 7), (36, 0), (37, 0), (98, 0)] : List (Nat × Nat)) s.heap s.heap := gF.rf
  have hl := lv_entry ([.ref o0, .int p1, .int p2, .int p3, .ref ou]) (n := 6) (Nat.le_of_ble_eq_true rfl)
  rw [lg_entry_eq]
  generalize (lg_sl ([.ref o0, .int p1, .int p2, .int p3, .ref ou]) ++ List.replicate (6 - (lg_sl ([.ref o0, .int p1, .int p2, .int p3, .ref ou])).length) Slot.unset).toArray = ls at hl ⊢
  have hl : lv_has ls 6 [(0, .ref o0), (1, .int p1), (2, .int p2), (3, .int p3), (4, .ref ou)] := hl
  refine lv_aload hx hb dL_layer_0 (lv_at hl 4 rfl) ?_
  refine lv_iconst (v := 0) hx hb dL_layer_2 (by decide) ?_
  refine lv_aload_n hx hb dL_layer_3 rfl (lv_at hl 0 rfl) ?_
  refine lv_iload_n hx hb dL_layer_4 rfl (lv_at hl 1 rfl) ?_
  refine lv_iload_n hx hb dL_layer_5 rfl (lv_at hl 2 rfl) ?_
  refine lv_iload_n hx hb dL_layer_6 rfl (lv_at hl 3 rfl) ?_
  have hFc := gA_free hG hA hS
  refine vx_calli (vx_runV (As := [.int p1, .int p2, .int p3]) (rest := [.int 0, .ref ou]) ⟨hx, hb, hml, hown, hts⟩ (c_layer l hlt dC dI kA adK adV G s.heap nC nS o0 p1 p2 p3 hT hr_o0 (by omega) (by omega)) (cwV 3 hts (goodIn_app (goodIn_r _ [48, 49, 50, 7] rfl (by decide +kernel)) (goodIn_ca (goodIn_r _ [1, 2, 3, 4, 5, 6, 7, 8, 9, 10, 11, 12, 13, 14, 15, 16, 17, 18, 19, 20, 21, 22, 23, 24, 25, 26, 27, 28, 29, 30, 31, 32, 33, 34, 35, 36, 37, 38, 39, 40, 41, 42, 43, 44, 45, 46, 47] rfl (by decide +kernel)) (bs2_in _ _))) rfl rfl rfl (by decide +kernel) ⟨(Nat.le_of_ble_eq_true rfl), (Nat.le_of_ble_eq_true rfl)⟩) ⟨fun a U g mk q => by obtain ⟨q0, q1, qK, qE⟩ := q; exact ⟨q0, q1, va_K.moved (u := U) (U := U.calling g mk a) (Vm.Alike.refl U.vm) qK, EVC.blind g mk a qE⟩, gH_rc hK hT hr_o0 shc_14 rfl, fun U hU hW => ⟨rfl, hU, va_K.moved hW.alike hK, hE.call hS hFc hU hW⟩⟩ rfl rfl hl.1 rfl (lv_room (Nat.le_of_ble_eq_true rfl)) dL_layer_7 ⟨(Nat.le_of_ble_eq_true rfl), (Nat.le_of_ble_eq_true rfl)⟩) hS (fun q _ h => hFc q h) hFc (fun q _ h => hFc q h) (fun E ce q9 u t H locs ht hvm _ hw2 _ _ hS hce hcv hcl => ?_) (fun r1 u t H locs ht hvm hw2 hB _ _ hS => ?_)
  · obtain ⟨hw2, hTx, hFx⟩ := hw2; rw [ht] at hTx hFx
    have hT := hTx; have hF := hF.more hFx (by decide)
    rcases hw2 with rfl | rfl | rfl
    · refine vx_catch (E := "java/lang/ClassCastException") hown [⟨0, 12, 15, 13⟩, ⟨0, 12, 19, 15⟩] ⟨0, 12, 23, 50⟩ [] (by rw [htab]; rfl) (fun z h => by
          simp only [List.mem_cons, List.not_mem_nil, or_false] at h
          rcases h with rfl | rfl
          · exact Or.inr ⟨by decide, "java/lang/IndexOutOfBoundsException", (ht_at2 hts 50 rfl), hN ("java/lang/ClassCastException", "java/lang/IndexOutOfBoundsException") (by decide +kernel)⟩
          · exact Or.inr ⟨by decide, "java/lang/IllegalArgumentException", (ht_at2 hts 51 rfl), hN ("java/lang/ClassCastException", "java/lang/IllegalArgumentException") (by decide +kernel)⟩) (by decide) (by decide) (ht_at2 hts 52 rfl) (va_Nw.use rfl (hE.2 _ (List.mem_of_getElem? (i := 1) rfl))) hce hcv hcl ?_
      refine lv_astore (lv' := [(5, .ref q9), (0, .ref o0), (1, .int p1), (2, .int p2), (3, .int p3), (4, .ref ou)]) hx hb dL_layer_23 hl (by decide) rfl (fun ls hl => ?_)
      refine lv_iconst (v := 3) hx hb dL_layer_25 (by decide) ?_
      exact W.iret (v := 3) hx hb hr (fun t ht hW => ⟨⟨3, (), rfl, (by exact (rg_t (a := 3) (by decide) (by first | decide | omega) (by first | decide | omega))), by (try dsimp only); rw [ht]; exact ⟨hT, hF⟩⟩, hS.F ht⟩) hS.2.2 dL_layer_26
    · refine vx_catch (E := "java/lang/IllegalArgumentException") hown [⟨0, 12, 15, 13⟩] ⟨0, 12, 19, 15⟩ [⟨0, 12, 23, 50⟩] (by rw [htab]; rfl) (fun z h => by
          simp only [List.mem_cons, List.not_mem_nil, or_false] at h
          rcases h with rfl
          · exact Or.inr ⟨by decide, "java/lang/IndexOutOfBoundsException", (ht_at2 hts 50 rfl), hN ("java/lang/IllegalArgumentException", "java/lang/IndexOutOfBoundsException") (by decide +kernel)⟩) (by decide) (by decide) (ht_at2 hts 51 rfl) (va_Nw.use rfl (hE.1.1.2.1.2.1 _ (List.mem_of_getElem? (i := 1) rfl))) hce hcv hcl ?_
      refine lv_astore (lv' := [(5, .ref q9), (0, .ref o0), (1, .int p1), (2, .int p2), (3, .int p3), (4, .ref ou)]) hx hb dL_layer_19 hl (by decide) rfl (fun ls hl => ?_)
      refine lv_iconst (v := 2) hx hb dL_layer_21 (by decide) ?_
      exact W.iret (v := 2) hx hb hr (fun t ht hW => ⟨⟨2, (), rfl, (by exact (rg_t (a := 2) (by decide) (by first | decide | omega) (by first | decide | omega))), by (try dsimp only); rw [ht]; exact ⟨hT, hF⟩⟩, hS.F ht⟩) hS.2.2 dL_layer_22
    · refine vx_catch (E := "java/lang/IndexOutOfBoundsException") hown [] ⟨0, 12, 15, 13⟩ [⟨0, 12, 19, 15⟩, ⟨0, 12, 23, 50⟩] (by rw [htab]; rfl) (fun z h => absurd h List.not_mem_nil) (by decide) (by decide) (ht_at2 hts 50 rfl) (va_Nw.use rfl (hE.1.1.2.1.2.1 _ (List.mem_of_getElem? (i := 0) rfl))) hce hcv hcl ?_
      refine lv_astore (lv' := [(5, .ref q9), (0, .ref o0), (1, .int p1), (2, .int p2), (3, .int p3), (4, .ref ou)]) hx hb dL_layer_15 hl (by decide) rfl (fun ls hl => ?_)
      refine lv_iconst (v := 1) hx hb dL_layer_17 (by decide) ?_
      exact W.iret (v := 1) hx hb hr (fun t ht hW => ⟨⟨1, (), rfl, (by exact (rg_t (a := 1) (by decide) (by first | decide | omega) (by first | decide | omega))), by (try dsimp only); rw [ht]; exact ⟨hT, hF⟩⟩, hS.F ht⟩) hS.2.2 dL_layer_18
  · obtain ⟨hT, hF1⟩ := hB
    rw [ht] at hT hF1
    have hF := hF.more hF1 (by decide)
    try dsimp only at hw2
    have h3 := hw2
    refine lv_i2l (v := r1.toInt64) hx hb dL_layer_10 rfl ?_
    refine tw_last (i := 0)  hx hb hK hT hG hS hr_ou shc_98 rfl (by unfold vp_in; decide) ⟨_, rfl⟩ dL_layer_11 (fun H locs hT oq m4 oi hS => ?_)
    have hF := hF.ast hr_ou skc_98 oq (by decide)
    refine lv_goto (tgt := 27) hx hb dL_layer_12 (by decide) ?_
    refine lv_iconst (v := 0) hx hb dL_layer_27 (by decide) ?_
    exact W.iret (v := 0) hx hb hr (fun t ht hW => ⟨⟨0, (), rfl, (by exact (rg_t (a := 0) (by decide) (by first | decide | omega) (by first | decide | omega))), by (try dsimp only); rw [ht]; exact ⟨hT, hF⟩⟩, hS.F ht⟩) hS.2.2 dL_layer_28
def w_l_levels : List Cond := .codeWith yL_levels cL_levels 5 (some .int) [(0, 10, 13, 13), (0, 10, 17, 15)] :: (HAppend.hAppend (α := List Cond) (β := List Cond) (γ := List Cond) [.code yX11_levels cX11_levels 3 (some .int), .code yX11_needFarm cX11_needFarm 2 none, .fieldLink RX11 30 "SeaLand" "board" "LSeaLand$Board;", .code yX11_within cX11_within 3 (some .boolean), .methodLink RX11 58 yX11_within, .static yX11_within, .initialized RX11, .classLink RX11 557 "java/lang/IndexOutOfBoundsException", .initialized "java/lang/IndexOutOfBoundsException", .methodLink RX11 366 yX11_needFarm, .instanceMethod yX11_needFarm, .selects RX11 yX11_needFarm yX11_needFarm, .code yX11_needNumbers cX11_needNumbers 1 none, .classLink RX11 547 "java/lang/IllegalArgumentException", .initialized "java/lang/IllegalArgumentException", .methodLink RX11 62 yX11_needNumbers, .static yX11_needNumbers, .fieldLink RX11 43 "SeaLand" "plans" "LSeaLand$Plans;", .fieldLink RX11 16 "SeaLand" "lake" "LSeaLand$Lake;", .code yX5_bestLevels cX5_bestLevels 6 (some .int), .fieldLink RX5 118 "SeaLand$Plans" "fieldCount" "I", .fieldLink RX5 23 "SeaLand$Plans" "fields" "[I", .fieldLink RX5 126 "SeaLand$Plans" "bestSum" "I", .code yX5_tryLevels cX5_tryLevels 7 none, .fieldLink RX5 26 "SeaLand$Plans" "fieldLevels" "[I", .code yX5_agreesWithEarlier cX5_agreesWithEarlier 4 (some .boolean), .code yX11_stepsApart cX11_stepsApart 2 (some .int), .methodLink RX11 580 Lib.Math.abs.name, .static Lib.Math.abs.name, .initialized "java/lang/Math", .code Lib.Math.abs.name Lib.Math.abs.code 1 (some .int), .static yX11_stepsApart, .methodLink RX5 151 Lib.Math.abs.name, .methodLink RX5 141 yX5_agreesWithEarlier, .instanceMethod yX5_agreesWithEarlier, .selects RX5 yX5_agreesWithEarlier yX5_agreesWithEarlier, .initialized RX5, .code yX5_worthOfDepth cX5_worthOfDepth 2 (some .int), .methodLink RX5 94 Lib.Math.max.name, .static Lib.Math.max.name, .code Lib.Math.max.name Lib.Math.max.code 2 (some .int), .methodLink RX5 145 yX5_worthOfDepth, .static yX5_worthOfDepth, .methodLink RX5 132 yX5_tryLevels, .instanceMethod yX5_tryLevels, .selects RX5 yX5_tryLevels yX5_tryLevels, .methodLink RX11 474 yX5_bestLevels, .instanceMethod yX5_bestLevels, .selects RX5 yX5_bestLevels yX5_bestLevels, .methodLink RL 154 yX11_levels, .instanceMethod yX11_levels, .selects RX11 yX11_levels yX11_levels, .classLink RL 13 "java/lang/IndexOutOfBoundsException", .classLink RL 15 "java/lang/IllegalArgumentException"] bs2)
set_option maxHeartbeats 4000000 in
set_option maxRecDepth 100000 in
theorem l_levels (l : Launch) (hlt : l.stackTraces = false) (dC : Nat → ClassId) (dI : Nat → Nat → Nat) (kA : Nat → ClassId) (adK adV : Nat → Nat) (G : gT) (H0 : Heap) (nC nS : Int) (o0 : Nat) (p1 : Int32) (p2 : Int32) (ou : Nat) (hT : gH (dC, dI) kA (SHc nC nS) G H0) (hr_o0 : G o0 = some 14) (hr_ou : G ou = some 98) (hgC : 0 ≤ nC ∧ nC ≤ 40) (hgS : 0 ≤ nS ∧ nS ≤ 60) : Met l yL_levels w_l_levels ({ frames := 11, cells := 2, slots := 12, locals := 287 }) (va_Pc [.ref o0, .int p1, .int p2, .ref ou] (fun U => U.heap = H0 ∧ va_K (dC, dI) vwCl (tyl kA) U ∧ EVC adK adV (gA G H0.size) U U.heap ∧ NC U)) (va_Qi (fun (r : Int32) (u : Unit) => (0 ≤ r.toInt ∧ r.toInt ≤ 2)) (fun (_ : Unit) (t : State) => gH (dC, dI) kA (SHc nC nS) G t.heap ∧ gF (dC, dI) SKc G ([(8, 13), (8, 14), (61, 0), (62, 0), (98, 0)] : List (Nat × Nat)) H0 t.heap) (gA G H0.size)) 2 12 (gA G H0.size) := by
  refine va_MetW (cc := cL_levels) (maxL := 5) (ret := (some .int)) (by decide) rfl ?_
  intro p e s m args below meth c s₁ B hml hv
  obtain ⟨rfl, hH0, hK, hE, hN⟩ := hv
  have hx := B.exec
  have hb := B.bytes
  have hr := B.returns
  have hts := atoms_spec (ws := w_l_levels) B.pre
  have hown : s.vm.findClass RL = some m.cls := findClass_of_methodNamed B.named
  have hlocks := B.notSynchronized
  have htab := vx_table (x := yL_levels) B (hts _ List.mem_cons_self)
  subst hH0
  generalize hAe : gA G s.heap.size = A at hE ⊢
  have hA : ∀ q : Nat, s.heap.size ≤ q → A q := fun q h => by rw [← hAe]; exact Or.inr h
  have hG := gA_of hAe
  have hS : va_S A s.heap s.heap [] := va_S.rf
  have hF : gF (dC, dI) SKc G ([(8, 13), (8, 14), (61, 0), (62, 0), (98, 0)] : List (Nat × Nat)) s.heap s.heap := gF.rf
  have hl := lv_entry ([.ref o0, .int p1, .int p2, .ref ou]) (n := 5) (Nat.le_of_ble_eq_true rfl)
  rw [lg_entry_eq]
  generalize (lg_sl ([.ref o0, .int p1, .int p2, .ref ou]) ++ List.replicate (5 - (lg_sl ([.ref o0, .int p1, .int p2, .ref ou])).length) Slot.unset).toArray = ls at hl ⊢
  have hl : lv_has ls 5 [(0, .ref o0), (1, .int p1), (2, .int p2), (3, .ref ou)] := hl
  refine lv_aload_n hx hb dL_levels_0 rfl (lv_at hl 3 rfl) ?_
  refine lv_iconst (v := 0) hx hb dL_levels_1 (by decide) ?_
  refine lv_aload_n hx hb dL_levels_2 rfl (lv_at hl 0 rfl) ?_
  refine lv_iload_n hx hb dL_levels_3 rfl (lv_at hl 1 rfl) ?_
  refine lv_iload_n hx hb dL_levels_4 rfl (lv_at hl 2 rfl) ?_
  have hFc := gA_free hG hA hS
  refine vx_calli (vx_runV (As := [.int p1, .int p2]) (rest := [.int 0, .ref ou]) ⟨hx, hb, hml, hown, hts⟩ (c_levels l hlt dC dI kA adK adV G s.heap nC nS o0 p1 p2 hT hr_o0 (by omega) (by omega)) (cwV 2 hts (goodIn_app (goodIn_r _ [50, 51, 52, 7] rfl (by decide +kernel)) (goodIn_ca (goodIn_r _ [1, 2, 3, 4, 5, 6, 7, 8, 9, 10, 11, 12, 13, 14, 15, 16, 17, 18, 19, 20, 21, 22, 23, 24, 25, 26, 27, 28, 29, 30, 31, 32, 33, 34, 35, 36, 37, 38, 39, 40, 41, 42, 43, 44, 45, 46, 47, 48, 49] rfl (by decide +kernel)) (bs2_in _ _))) rfl rfl rfl (by decide +kernel) ⟨(Nat.le_of_ble_eq_true rfl), (Nat.le_of_ble_eq_true rfl)⟩) ⟨fun a U g mk q => by obtain ⟨q0, q1, qK, qE⟩ := q; exact ⟨q0, q1, va_K.moved (u := U) (U := U.calling g mk a) (Vm.Alike.refl U.vm) qK, EVC.blind g mk a qE⟩, gH_rc hK hT hr_o0 shc_14 rfl, fun U hU hW => ⟨rfl, hU, va_K.moved hW.alike hK, hE.call hS hFc hU hW⟩⟩ rfl rfl hl.1 rfl (lv_room (Nat.le_of_ble_eq_true rfl)) dL_levels_5 ⟨(Nat.le_of_ble_eq_true rfl), (Nat.le_of_ble_eq_true rfl)⟩) hS (fun q _ h => hFc q h) hFc (fun q _ h => hFc q h) (fun E ce q9 u t H locs ht hvm _ hw2 _ _ hS hce hcv hcl => ?_) (fun r1 u t H locs ht hvm hw2 hB _ _ hS => ?_)
  · obtain ⟨hw2, hTx, hFx⟩ := hw2; rw [ht] at hTx hFx
    have hT := hTx; have hF := hF.more hFx (by decide)
    rcases hw2 with rfl | rfl
    · refine vx_catch (E := "java/lang/IllegalArgumentException") hown [⟨0, 10, 13, 13⟩] ⟨0, 10, 17, 15⟩ [] (by rw [htab]; rfl) (fun z h => by
          simp only [List.mem_cons, List.not_mem_nil, or_false] at h
          rcases h with rfl
          · exact Or.inr ⟨by decide, "java/lang/IndexOutOfBoundsException", (ht_at2 hts 52 rfl), hN ("java/lang/IllegalArgumentException", "java/lang/IndexOutOfBoundsException") (by decide +kernel)⟩) (by decide) (by decide) (ht_at2 hts 53 rfl) (va_Nw.use rfl (hE.1.1.2.1.2.1 _ (List.mem_of_getElem? (i := 1) rfl))) hce hcv hcl ?_
      refine lv_astore (lv' := [(4, .ref q9), (0, .ref o0), (1, .int p1), (2, .int p2), (3, .ref ou)]) hx hb dL_levels_17 hl (by decide) rfl (fun ls hl => ?_)
      refine lv_iconst (v := 2) hx hb dL_levels_19 (by decide) ?_
      exact W.iret (v := 2) hx hb hr (fun t ht hW => ⟨⟨2, (), rfl, (by exact (rg_t (a := 2) (by decide) (by first | decide | omega) (by first | decide | omega))), by (try dsimp only); rw [ht]; exact ⟨hT, hF⟩⟩, hS.F ht⟩) hS.2.2 dL_levels_20
    · refine vx_catch (E := "java/lang/IndexOutOfBoundsException") hown [] ⟨0, 10, 13, 13⟩ [⟨0, 10, 17, 15⟩] (by rw [htab]; rfl) (fun z h => absurd h List.not_mem_nil) (by decide) (by decide) (ht_at2 hts 52 rfl) (va_Nw.use rfl (hE.1.1.2.1.2.1 _ (List.mem_of_getElem? (i := 0) rfl))) hce hcv hcl ?_
      refine lv_astore (lv' := [(4, .ref q9), (0, .ref o0), (1, .int p1), (2, .int p2), (3, .ref ou)]) hx hb dL_levels_13 hl (by decide) rfl (fun ls hl => ?_)
      refine lv_iconst (v := 1) hx hb dL_levels_15 (by decide) ?_
      exact W.iret (v := 1) hx hb hr (fun t ht hW => ⟨⟨1, (), rfl, (by exact (rg_t (a := 1) (by decide) (by first | decide | omega) (by first | decide | omega))), by (try dsimp only); rw [ht]; exact ⟨hT, hF⟩⟩, hS.F ht⟩) hS.2.2 dL_levels_16
  · obtain ⟨hT, hF1⟩ := hB
    rw [ht] at hT hF1
    have hF := hF.more hF1 (by decide)
    try dsimp only at hw2
    refine lv_i2l (v := r1.toInt64) hx hb dL_levels_8 rfl ?_
    refine tw_last (i := 0)  hx hb hK hT hG hS hr_ou shc_98 rfl (by unfold vp_in; decide) ⟨_, rfl⟩ dL_levels_9 (fun H locs hT oq m3 oi hS => ?_)
    have hF := hF.ast hr_ou skc_98 oq (by decide)
    refine lv_goto (tgt := 21) hx hb dL_levels_10 (by decide) ?_
    refine lv_iconst (v := 0) hx hb dL_levels_21 (by decide) ?_
    exact W.iret (v := 0) hx hb hr (fun t ht hW => ⟨⟨0, (), rfl, (by exact (rg_t (a := 0) (by decide) (by first | decide | omega) (by first | decide | omega))), by (try dsimp only); rw [ht]; exact ⟨hT, hF⟩⟩, hS.F ht⟩) hS.2.2 dL_levels_22
def w_l_lifts : List Cond := .codeWith yL_lifts cL_lifts 7 (some .int) [(0, 14, 17, 15)] :: (HAppend.hAppend (α := List Cond) (β := List Cond) (γ := List Cond) [.code yX11_lifts cX11_lifts 5 (some .int), .code yX11_within cX11_within 3 (some .boolean), .methodLink RX11 58 yX11_within, .static yX11_within, .initialized RX11, .code yX11_needNumbers cX11_needNumbers 1 none, .classLink RX11 547 "java/lang/IllegalArgumentException", .initialized "java/lang/IllegalArgumentException", .methodLink RX11 62 yX11_needNumbers, .static yX11_needNumbers, .fieldLink RX11 43 "SeaLand" "plans" "LSeaLand$Plans;", .fieldLink RX11 16 "SeaLand" "lake" "LSeaLand$Lake;", .code yX5_leastCoal cX5_leastCoal 7 (some .int), .code yX5_gatherEngines cX5_gatherEngines 4 none, .fieldLink RX5 76 "SeaLand$Plans" "engines" "I", .fieldLink RX5 13 "SeaLand$Plans" "liftOf" "[I", .methodLink RX5 51 yX5_gatherEngines, .instanceMethod yX5_gatherEngines, .selects RX5 yX5_gatherEngines yX5_gatherEngines, .initialized RX5, .fieldLink RX5 17 "SeaLand$Plans" "leastNow" "[I", .constant RX5 55 2147483647, .code yJ7_fill_53178 cJ7_fill_53178 4 none, .methodLink RX5 56 yJ7_fill_53178, .static yJ7_fill_53178, .initialized RJ7, .code yX3_allMillsLift cX3_allMillsLift 5 (some .int), .fieldLink RX3 12 "SeaLand$Lake" "sky" "LSeaLand$Sky;", .code yX8_windAt cX8_windAt 4 (some .int), .fieldLink RX8 27 "SeaLand$Sky" "wind" "LSeaLand$Tellings;", .code yX9_standingAt cX9_standingAt 5 (some .int), .fieldLink RX9 18 "SeaLand$Tellings" "told" "I", .fieldLink RX9 9 "SeaLand$Tellings" "hours" "[I", .methodLink RX8 44 yX9_standingAt, .instanceMethod yX9_standingAt, .selects RX9 yX9_standingAt yX9_standingAt, .initialized RX9, .code yX9_nearestNumberBefore cX9_nearestNumberBefore 5 (some .int), .fieldLink RX9 15 "SeaLand$Tellings" "numbers" "[I", .methodLink RX8 54 yX9_nearestNumberBefore, .instanceMethod yX9_nearestNumberBefore, .selects RX9 yX9_nearestNumberBefore yX9_nearestNumberBefore, .code yX9_nearestNumberAfter cX9_nearestNumberAfter 5 (some .int), .constant RX9 22 40001, .methodLink RX8 57 yX9_nearestNumberAfter, .instanceMethod yX9_nearestNumberAfter, .selects RX9 yX9_nearestNumberAfter yX9_nearestNumberAfter, .methodLink RX8 60 Lib.Math.max.name, .static Lib.Math.max.name, .initialized "java/lang/Math", .code Lib.Math.max.name Lib.Math.max.code 2 (some .int), .methodLink RX3 120 yX8_windAt, .instanceMethod yX8_windAt, .selects RX8 yX8_windAt yX8_windAt, .initialized RX8, .fieldLink RX3 47 "SeaLand$Lake" "built" "I", .fieldLink RX3 27 "SeaLand$Lake" "works" "[LSeaLand$Work;", .methodLink RX5 68 yX3_allMillsLift, .instanceMethod yX3_allMillsLift, .selects RX3 yX3_allMillsLift yX3_allMillsLift, .initialized RX3, .code yX5_passPlannedHour cX5_passPlannedHour 7 none, .fieldLink RX5 20 "SeaLand$Plans" "leastThen" "[I", .methodLink RX5 94 Lib.Math.max.name, .methodLink RX5 100 arraycopyName, .native arraycopyName, .static arraycopyName, .initialized "java/lang/System", .methodLink RX5 72 yX5_passPlannedHour, .instanceMethod yX5_passPlannedHour, .selects RX5 yX5_passPlannedHour yX5_passPlannedHour, .methodLink RX11 463 yX5_leastCoal, .instanceMethod yX5_leastCoal, .selects RX5 yX5_leastCoal yX5_leastCoal, .methodLink RL 148 yX11_lifts, .instanceMethod yX11_lifts, .selects RX11 yX11_lifts yX11_lifts, .classLink RL 15 "java/lang/IllegalArgumentException"] bs2)
set_option maxHeartbeats 4000000 in
set_option maxRecDepth 100000 in
theorem l_lifts (l : Launch) (hlt : l.stackTraces = false) (dC : Nat → ClassId) (dI : Nat → Nat → Nat) (kA : Nat → ClassId) (adK adV : Nat → Nat) (G : gT) (H0 : Heap) (nC nS : Int) (o0 : Nat) (p1 : Int32) (p2 : Int32) (p3 : Int32) (p4 : Int32) (ou : Nat) (hT : gH (dC, dI) kA (SHc nC nS) G H0) (hr_o0 : G o0 = some 14) (hr_ou : G ou = some 98) (hgC : 0 ≤ nC ∧ nC ≤ 40) (hgS : 0 ≤ nS ∧ nS ≤ 60) : Met l yL_lifts w_l_lifts ({ frames := 8, cells := 1, slots := 6, locals := 144 }) (va_Pc [.ref o0, .int p1, .int p2, .int p3, .int p4, .ref ou] (fun U => U.heap = H0 ∧ va_K (dC, dI) vwCl (tyl kA) U ∧ EVC adK adV (gA G H0.size) U U.heap ∧ NC U)) (va_Qi (fun (r : Int32) (u : Unit) => (0 ≤ r.toInt ∧ r.toInt ≤ 1)) (fun (_ : Unit) (t : State) => gH (dC, dI) kA (SHc nC nS) G t.heap ∧ gF (dC, dI) SKc G ([(8, 12), (58, 0), (59, 0), (60, 0), (98, 0)] : List (Nat × Nat)) H0 t.heap) (gA G H0.size)) 1 6 (gA G H0.size) := by
  refine va_MetW (cc := cL_lifts) (maxL := 7) (ret := (some .int)) (by decide) rfl ?_
  intro p e s m args below meth c s₁ B hml hv
  obtain ⟨rfl, hH0, hK, hE, hN⟩ := hv
  have hx := B.exec
  have hb := B.bytes
  have hr := B.returns
  have hts := atoms_spec (ws := w_l_lifts) B.pre
  have hown : s.vm.findClass RL = some m.cls := findClass_of_methodNamed B.named
  have hlocks := B.notSynchronized
  have htab := vx_table (x := yL_lifts) B (hts _ List.mem_cons_self)
  subst hH0
  generalize hAe : gA G s.heap.size = A at hE ⊢
  have hA : ∀ q : Nat, s.heap.size ≤ q → A q := fun q h => by rw [← hAe]; exact Or.inr h
  have hG := gA_of hAe
  have hS : va_S A s.heap s.heap [] := va_S.rf
  have hF : gF (dC, dI) SKc G ([(8, 12), (58, 0), (59, 0), (60, 0), (98, 0)] : List (Nat × Nat)) s.heap s.heap := gF.rf
  have hl := lv_entry ([.ref o0, .int p1, .int p2, .int p3, .int p4, .ref ou]) (n := 7) (Nat.le_of_ble_eq_true rfl)
  rw [lg_entry_eq]
  generalize (lg_sl ([.ref o0, .int p1, .int p2, .int p3, .int p4, .ref ou]) ++ List.replicate (7 - (lg_sl ([.ref o0, .int p1, .int p2, .int p3, .int p4, .ref ou])).length) Slot.unset).toArray = ls at hl ⊢
  have hl : lv_has ls 7 [(0, .ref o0), (1, .int p1), (2, .int p2), (3, .int p3), (4, .int p4), (5, .ref ou)] := hl
  refine lv_aload hx hb dL_lifts_0 (lv_at hl 5 rfl) ?_
  refine lv_iconst (v := 0) hx hb dL_lifts_2 (by decide) ?_
  refine lv_aload_n hx hb dL_lifts_3 rfl (lv_at hl 0 rfl) ?_
  refine lv_iload_n hx hb dL_lifts_4 rfl (lv_at hl 1 rfl) ?_
  refine lv_iload_n hx hb dL_lifts_5 rfl (lv_at hl 2 rfl) ?_
  refine lv_iload_n hx hb dL_lifts_6 rfl (lv_at hl 3 rfl) ?_
  refine lv_iload hx hb dL_lifts_7 (lv_at hl 4 rfl) ?_
  have hFc := gA_free hG hA hS
  refine vx_calli (vx_runV (As := [.int p1, .int p2, .int p3, .int p4]) (rest := [.int 0, .ref ou]) ⟨hx, hb, hml, hown, hts⟩ (c_lifts l hlt dC dI kA adK adV G s.heap nC nS o0 p1 p2 p3 p4 hT hr_o0 (by omega) (by omega)) (cwV 4 hts (goodIn_app (goodIn_r _ [75, 76, 77, 5] rfl (by decide +kernel)) (goodIn_ca (goodIn_r _ [1, 2, 3, 4, 5, 6, 7, 8, 9, 10, 11, 12, 13, 14, 15, 16, 17, 18, 19, 20, 21, 22, 23, 24, 25, 26, 27, 28, 29, 30, 31, 32, 33, 34, 35, 36, 37, 38, 39, 40, 41, 42, 43, 44, 45, 46, 47, 48, 49, 50, 51, 52, 53, 54, 55, 56, 57, 58, 59, 60, 61, 62, 63, 64, 65, 66, 67, 68, 69, 70, 71, 72, 73, 74] rfl (by decide +kernel)) (bs2_in _ _))) rfl rfl rfl (by decide +kernel) ⟨(Nat.le_of_ble_eq_true rfl), (Nat.le_of_ble_eq_true rfl)⟩) ⟨fun a U g mk q => by obtain ⟨q0, q1, qK, qE⟩ := q; exact ⟨q0, q1, va_K.moved (u := U) (U := U.calling g mk a) (Vm.Alike.refl U.vm) qK, EVC.blind g mk a qE⟩, gH_rc hK hT hr_o0 shc_14 rfl, fun U hU hW => ⟨rfl, hU, va_K.moved hW.alike hK, hE.call hS hFc hU hW⟩⟩ rfl rfl hl.1 rfl (lv_room (Nat.le_of_ble_eq_true rfl)) dL_lifts_9 ⟨(Nat.le_of_ble_eq_true rfl), (Nat.le_of_ble_eq_true rfl)⟩) hS (fun q _ h => hFc q h) hFc (fun q _ h => hFc q h) (fun E ce q9 u t H locs ht hvm _ hw2 _ _ hS hce hcv hcl => ?_) (fun r1 u t H locs ht hvm hw2 hB _ _ hS => ?_)
  · obtain ⟨hw2, hTx, hFx⟩ := hw2; rw [ht] at hTx hFx
    have hT := hTx; have hF := hF.more hFx (by decide)
    subst hw2
    refine vx_catch (E := "java/lang/IllegalArgumentException") hown [] ⟨0, 14, 17, 15⟩ [] (by rw [htab]; rfl) (fun z h => absurd h List.not_mem_nil) (by decide) (by decide) (ht_at2 hts 77 rfl) (va_Nw.use rfl (hE.1.1.2.1.2.1 _ (List.mem_of_getElem? (i := 1) rfl))) hce hcv hcl ?_
    refine lv_astore (lv' := [(6, .ref q9), (0, .ref o0), (1, .int p1), (2, .int p2), (3, .int p3), (4, .int p4), (5, .ref ou)]) hx hb dL_lifts_17 hl (by decide) rfl (fun ls hl => ?_)
    refine lv_iconst (v := 1) hx hb dL_lifts_19 (by decide) ?_
    exact W.iret (v := 1) hx hb hr (fun t ht hW => ⟨⟨1, (), rfl, (by exact (rg_t (a := 1) (by decide) (by first | decide | omega) (by first | decide | omega))), by (try dsimp only); rw [ht]; exact ⟨hT, hF⟩⟩, hS.F ht⟩) hS.2.2 dL_lifts_20
  · obtain ⟨hT, hF1⟩ := hB
    rw [ht] at hT hF1
    have hF := hF.more hF1 (by decide)
    try dsimp only at hw2
    have h3 := hw2
    refine lv_i2l (v := r1.toInt64) hx hb dL_lifts_12 rfl ?_
    refine tw_last (i := 0)  hx hb hK hT hG hS hr_ou shc_98 rfl (by unfold vp_in; decide) ⟨_, rfl⟩ dL_lifts_13 (fun H locs hT oq m4 oi hS => ?_)
    have hF := hF.ast hr_ou skc_98 oq (by decide)
    refine lv_goto (tgt := 21) hx hb dL_lifts_14 (by decide) ?_
    refine lv_iconst (v := 0) hx hb dL_lifts_21 (by decide) ?_
    exact W.iret (v := 0) hx hb hr (fun t ht hW => ⟨⟨0, (), rfl, (by exact (rg_t (a := 0) (by decide) (by first | decide | omega) (by first | decide | omega))), by (try dsimp only); rw [ht]; exact ⟨hT, hF⟩⟩, hS.F ht⟩) hS.2.2 dL_lifts_22
def w_l_mayBuild : List Cond := .codeWith yL_mayBuild cL_mayBuild 4 (some .int) [(0, 16, 19, 13)] :: (HAppend.hAppend (α := List Cond) (β := List Cond) (γ := List Cond) [.code yX11_mayBuild cX11_mayBuild 2 (some .boolean), .code yX11_needSquare cX11_needSquare 1 none, .code yX11_within cX11_within 3 (some .boolean), .methodLink RX11 58 yX11_within, .static yX11_within, .initialized RX11, .classLink RX11 557 "java/lang/IndexOutOfBoundsException", .initialized "java/lang/IndexOutOfBoundsException", .methodLink RX11 55 yX11_needSquare, .static yX11_needSquare, .fieldLink RX11 30 "SeaLand" "board" "LSeaLand$Board;", .fieldLink RX11 16 "SeaLand" "lake" "LSeaLand$Lake;", .code yX0_buildingAllowed cX0_buildingAllowed 3 (some .boolean), .code yX3_stepsToBank cX3_stepsToBank 4 (some .int), .fieldLink RX3 47 "SeaLand$Lake" "built" "I", .fieldLink RX3 27 "SeaLand$Lake" "works" "[LSeaLand$Work;", .code yX10_isBank cX10_isBank 1 (some .boolean), .fieldLink RX10 18 "SeaLand$Work" "kind" "I", .methodLink RX3 67 yX10_isBank, .instanceMethod yX10_isBank, .selects RX10 yX10_isBank yX10_isBank, .initialized RX10, .code yX11_stepsApart cX11_stepsApart 2 (some .int), .methodLink RX11 580 Lib.Math.abs.name, .static Lib.Math.abs.name, .initialized "java/lang/Math", .code Lib.Math.abs.name Lib.Math.abs.code 1 (some .int), .static yX11_stepsApart, .methodLink RX3 71 Lib.Math.min.name, .static Lib.Math.min.name, .code Lib.Math.min.name Lib.Math.min.code 2 (some .int), .methodLink RX0 138 yX3_stepsToBank, .instanceMethod yX3_stepsToBank, .selects RX3 yX3_stepsToBank yX3_stepsToBank, .initialized RX3, .fieldLink RX0 41 "SeaLand$Board" "force" "LSeaLand$Law;", .code yX4_lastOf cX4_lastOf 5 (some .int), .fieldLink RX4 60 "SeaLand$Law" "lines" "I", .fieldLink RX4 18 "SeaLand$Law" "kinds" "[I", .fieldLink RX4 21 "SeaLand$Law" "firsts" "[I", .methodLink RX0 94 yX4_lastOf, .instanceMethod yX4_lastOf, .selects RX4 yX4_lastOf yX4_lastOf, .initialized RX4, .methodLink RX11 190 yX0_buildingAllowed, .instanceMethod yX0_buildingAllowed, .selects RX0 yX0_buildingAllowed yX0_buildingAllowed, .initialized RX0, .methodLink RL 107 yX11_mayBuild, .instanceMethod yX11_mayBuild, .selects RX11 yX11_mayBuild yX11_mayBuild, .classLink RL 13 "java/lang/IndexOutOfBoundsException"] bs2)
set_option maxHeartbeats 4000000 in
set_option maxRecDepth 100000 in
theorem l_mayBuild (l : Launch) (hlt : l.stackTraces = false) (dC : Nat → ClassId) (dI : Nat → Nat → Nat) (kA : Nat → ClassId) (adK adV : Nat → Nat) (G : gT) (H0 : Heap) (nC nS : Int) (o0 : Nat) (p1 : Int32) (ou : Nat) (hT : gH (dC, dI) kA (SHc nC nS) G H0) (hr_o0 : G o0 = some 14) (hr_ou : G ou = some 98) (hgC : 0 ≤ nC ∧ nC ≤ 40) (hgS : 0 ≤ nS ∧ nS ≤ 60) : Met l yL_mayBuild w_l_mayBuild ({ frames := 8, cells := 1, slots := 6, locals := 141 }) (va_Pc [.ref o0, .int p1, .ref ou] (fun U => U.heap = H0 ∧ va_K (dC, dI) vwCl (tyl kA) U ∧ EVC adK adV (gA G H0.size) U U.heap ∧ NC U)) (va_Qi (fun (r : Int32) (u : Unit) => (0 ≤ r.toInt ∧ r.toInt ≤ 1)) (fun (_ : Unit) (t : State) => gH (dC, dI) kA (SHc nC nS) G t.heap ∧ gF (dC, dI) SKc G ([(98, 0)] : List (Nat × Nat)) H0 t.heap) (gA G H0.size)) 1 6 (gA G H0.size) := by
  refine va_MetW (cc := cL_mayBuild) (maxL := 4) (ret := (some .int)) (by decide) rfl ?_
  intro p e s m args below meth c s₁ B hml hv
  obtain ⟨rfl, hH0, hK, hE, hN⟩ := hv
  have hx := B.exec
  have hb := B.bytes
  have hr := B.returns
  have hts := atoms_spec (ws := w_l_mayBuild) B.pre
  have hown : s.vm.findClass RL = some m.cls := findClass_of_methodNamed B.named
  have hlocks := B.notSynchronized
  have htab := vx_table (x := yL_mayBuild) B (hts _ List.mem_cons_self)
  subst hH0
  generalize hAe : gA G s.heap.size = A at hE ⊢
  have hA : ∀ q : Nat, s.heap.size ≤ q → A q := fun q h => by rw [← hAe]; exact Or.inr h
  have hG := gA_of hAe
  have hS : va_S A s.heap s.heap [] := va_S.rf
  have hF : gF (dC, dI) SKc G ([(98, 0)] : List (Nat × Nat)) s.heap s.heap := gF.rf
  have hl := lv_entry ([.ref o0, .int p1, .ref ou]) (n := 4) (Nat.le_of_ble_eq_true rfl)
  rw [lg_entry_eq]
  generalize (lg_sl ([.ref o0, .int p1, .ref ou]) ++ List.replicate (4 - (lg_sl ([.ref o0, .int p1, .ref ou])).length) Slot.unset).toArray = ls at hl ⊢
  have hl : lv_has ls 4 [(0, .ref o0), (1, .int p1), (2, .ref ou)] := hl
  refine lv_aload_n hx hb dL_mayBuild_0 rfl (lv_at hl 2 rfl) ?_
  refine lv_iconst (v := 0) hx hb dL_mayBuild_1 (by decide) ?_
  refine lv_aload_n hx hb dL_mayBuild_2 rfl (lv_at hl 0 rfl) ?_
  refine lv_iload_n hx hb dL_mayBuild_3 rfl (lv_at hl 1 rfl) ?_
  have hFc := gA_free hG hA hS
  refine vx_calli (vx_runV (As := [.int p1]) (rest := [.int 0, .ref ou]) ⟨hx, hb, hml, hown, hts⟩ (c_mayBuild l hlt dC dI kA adK adV G s.heap nC nS o0 p1 hT hr_o0 (by omega) (by omega)) (cwV 1 hts (goodIn_app (goodIn_r _ [49, 50, 51, 6] rfl (by decide +kernel)) (goodIn_ca (goodIn_r _ [1, 2, 3, 4, 5, 6, 7, 8, 9, 10, 11, 12, 13, 14, 15, 16, 17, 18, 19, 20, 21, 22, 23, 24, 25, 26, 27, 28, 29, 30, 31, 32, 33, 34, 35, 36, 37, 38, 39, 40, 41, 42, 43, 44, 45, 46, 47, 48] rfl (by decide +kernel)) (bs2_in _ _))) rfl rfl rfl (by decide +kernel) ⟨(Nat.le_of_ble_eq_true rfl), (Nat.le_of_ble_eq_true rfl)⟩) ⟨fun a U g mk q => by obtain ⟨q0, q1, qK, qE⟩ := q; exact ⟨q0, q1, va_K.moved (u := U) (U := U.calling g mk a) (Vm.Alike.refl U.vm) qK, EVC.blind g mk a qE⟩, gH_rc hK hT hr_o0 shc_14 rfl, fun U hU hW => ⟨rfl, hU, va_K.moved hW.alike hK, hE.call hS hFc hU hW⟩⟩ rfl rfl hl.1 rfl (lv_room (Nat.le_of_ble_eq_true rfl)) dL_mayBuild_4 ⟨(Nat.le_of_ble_eq_true rfl), (Nat.le_of_ble_eq_true rfl)⟩) hS (fun q _ h => hFc q h) hFc (fun q _ h => hFc q h) (fun E ce q9 u t H locs ht hvm _ hw2 _ _ hS hce hcv hcl => ?_) (fun r1 u t H locs ht hvm hw2 hB _ _ hS => ?_)
  · obtain ⟨hw2, hTx, hFx⟩ := hw2; rw [ht] at hTx hFx
    have hT := hTx; have hF := hF.more hFx (by decide)
    subst hw2
    refine vx_catch (E := "java/lang/IndexOutOfBoundsException") hown [] ⟨0, 16, 19, 13⟩ [] (by rw [htab]; rfl) (fun z h => absurd h List.not_mem_nil) (by decide) (by decide) (ht_at2 hts 51 rfl) (va_Nw.use rfl (hE.1.1.2.1.2.1 _ (List.mem_of_getElem? (i := 0) rfl))) hce hcv hcl ?_
    refine lv_astore_n (lv' := [(3, .ref q9), (0, .ref o0), (1, .int p1), (2, .ref ou)]) hx hb dL_mayBuild_19 rfl hl (by decide) rfl (fun ls hl => ?_)
    refine lv_iconst (v := 1) hx hb dL_mayBuild_20 (by decide) ?_
    exact W.iret (v := 1) hx hb hr (fun t ht hW => ⟨⟨1, (), rfl, (by exact (rg_t (a := 1) (by decide) (by first | decide | omega) (by first | decide | omega))), by (try dsimp only); rw [ht]; exact ⟨hT, hF⟩⟩, hS.F ht⟩) hS.2.2 dL_mayBuild_21
  · obtain ⟨hT, hF1⟩ := hB
    rw [ht] at hT hF1
    have hF := hF.more hF1 (by decide)
    try dsimp only at hw2
    have h3 := hw2
    refine lv_if_eq (tgt := 14) hx hb dL_mayBuild_7 (by decide) (fun c4 => ?_) (fun c4 => ?_)
    · have t5 : r1.toInt = 0 := ti_eq c4 rfl (by decide)
      refine lv_lconst (v := 0) hx hb dL_mayBuild_14 (by decide) ?_
      refine tw_last (i := 0)  hx hb hK hT hG hS hr_ou shc_98 rfl (by unfold vp_in; decide) ⟨_, rfl⟩ dL_mayBuild_15 (fun H locs hT oq m6 oi hS => ?_)
      have hF := hF.ast hr_ou skc_98 oq (by decide)
      refine lv_goto (tgt := 22) hx hb dL_mayBuild_16 (by decide) ?_
      refine lv_iconst (v := 0) hx hb dL_mayBuild_22 (by decide) ?_
      exact W.iret (v := 0) hx hb hr (fun t ht hW => ⟨⟨0, (), rfl, (by exact (rg_t (a := 0) (by decide) (by first | decide | omega) (by first | decide | omega))), by (try dsimp only); rw [ht]; exact ⟨hT, hF⟩⟩, hS.F ht⟩) hS.2.2 dL_mayBuild_23
    · have t7 : r1.toInt ≠ 0 := ti_ne c4 rfl (by decide)
      refine lv_lconst (v := 1) hx hb dL_mayBuild_10 (by decide) ?_
      refine lv_goto (tgt := 15) hx hb dL_mayBuild_11 (by decide) ?_
      refine tw_last (i := 0)  hx hb hK hT hG hS hr_ou shc_98 rfl (by unfold vp_in; decide) ⟨_, rfl⟩ dL_mayBuild_15 (fun H locs hT oq m8 oi hS => ?_)
      have hF := hF.ast hr_ou skc_98 oq (by decide)
      refine lv_goto (tgt := 22) hx hb dL_mayBuild_16 (by decide) ?_
      refine lv_iconst (v := 0) hx hb dL_mayBuild_22 (by decide) ?_
      exact W.iret (v := 0) hx hb hr (fun t ht hW => ⟨⟨0, (), rfl, (by exact (rg_t (a := 0) (by decide) (by first | decide | omega) (by first | decide | omega))), by (try dsimp only); rw [ht]; exact ⟨hT, hF⟩⟩, hS.F ht⟩) hS.2.2 dL_mayBuild_23
def w_l_measure : List Cond := .codeWith yL_measure cL_measure 5 (some .int) [(0, 17, 20, 13), (0, 17, 24, 15), (0, 17, 28, 17)] :: (HAppend.hAppend (α := List Cond) (β := List Cond) (γ := List Cond) [.code yX11_measure cX11_measure 4 (some .boolean), .code yX11_contractOf cX11_contractOf 2 (some (.object "SeaLand$Contract")), .fieldLink RX11 414 "SeaLand" "contracted" "I", .code yX11_within cX11_within 3 (some .boolean), .methodLink RX11 58 yX11_within, .static yX11_within, .initialized RX11, .fieldLink RX11 36 "SeaLand" "contracts" "[LSeaLand$Contract;", .classLink RX11 557 "java/lang/IndexOutOfBoundsException", .initialized "java/lang/IndexOutOfBoundsException", .methodLink RX11 419 yX11_contractOf, .instanceMethod yX11_contractOf, .selects RX11 yX11_contractOf yX11_contractOf, .code yX11_needNumbers cX11_needNumbers 1 none, .classLink RX11 547 "java/lang/IllegalArgumentException", .initialized "java/lang/IllegalArgumentException", .methodLink RX11 62 yX11_needNumbers, .static yX11_needNumbers, .code yX1_say cX1_say 2 none, .fieldLink RX1 28 "SeaLand$Contract" "measured" "Z", .fieldLink RX1 32 "SeaLand$Contract" "least" "I", .fieldLink RX1 25 "SeaLand$Contract" "bound" "I", .methodLink RX1 35 Lib.Math.max.name, .static Lib.Math.max.name, .initialized "java/lang/Math", .code Lib.Math.max.name Lib.Math.max.code 2 (some .int), .fieldLink RX1 10 "SeaLand$Contract" "most" "I", .methodLink RX1 41 Lib.Math.min.name, .static Lib.Math.min.name, .code Lib.Math.min.name Lib.Math.min.code 2 (some .int), .methodLink RX11 428 yX1_say, .instanceMethod yX1_say, .selects RX1 yX1_say yX1_say, .initialized RX1, .code yX1_hasSpan cX1_hasSpan 1 (some .boolean), .methodLink RX11 431 yX1_hasSpan, .instanceMethod yX1_hasSpan, .selects RX1 yX1_hasSpan yX1_hasSpan, .classLink RX11 69 "java/lang/IllegalStateException", .initialized "java/lang/IllegalStateException", .methodLink RL 139 yX11_measure, .instanceMethod yX11_measure, .selects RX11 yX11_measure yX11_measure, .classLink RL 13 "java/lang/IndexOutOfBoundsException", .classLink RL 15 "java/lang/IllegalArgumentException", .classLink RL 17 "java/lang/IllegalStateException"] bs2)
set_option maxHeartbeats 4000000 in
set_option maxRecDepth 100000 in
theorem l_measure (l : Launch) (hlt : l.stackTraces = false) (dC : Nat → ClassId) (dI : Nat → Nat → Nat) (kA : Nat → ClassId) (adK adV : Nat → Nat) (G : gT) (H0 : Heap) (nC nS : Int) (o0 : Nat) (p1 : Int32) (p2 : Int32) (ou : Nat) (hT : gH (dC, dI) kA (SHc nC nS) G H0) (hr_o0 : G o0 = some 14) (hr_ou : G ou = some 98) (hgC : 0 ≤ nC ∧ nC ≤ 40) (hgS : 0 ≤ nS ∧ nS ≤ 60) : Met l yL_measure w_l_measure ({ frames := 8, cells := 2, slots := 12, locals := 144 }) (va_Pc [.ref o0, .int p1, .int p2, .ref ou] (fun U => U.heap = H0 ∧ va_K (dC, dI) vwCl (tyl kA) U ∧ EVC adK adV (gA G H0.size) U U.heap ∧ NC U)) (va_Qi (fun (r : Int32) (u : Unit) => (0 ≤ r.toInt ∧ r.toInt ≤ 3)) (fun (_ : Unit) (t : State) => gH (dC, dI) kA (SHc nC nS) G t.heap ∧ gF (dC, dI) SKc G ([(4, 4), (4, 5), (4, 6), (98, 0)] : List (Nat × Nat)) H0 t.heap) (gA G H0.size)) 2 12 (gA G H0.size) := by
  refine va_MetW (cc := cL_measure) (maxL := 5) (ret := (some .int)) (by decide) rfl ?_
  intro p e s m args below meth c s₁ B hml hv
  obtain ⟨rfl, hH0, hK, hE, hN⟩ := hv
  have hx := B.exec
  have hb := B.bytes
  have hr := B.returns
  have hts := atoms_spec (ws := w_l_measure) B.pre
  have hown : s.vm.findClass RL = some m.cls := findClass_of_methodNamed B.named
  have hlocks := B.notSynchronized
  have htab := vx_table (x := yL_measure) B (hts _ List.mem_cons_self)
  subst hH0
  generalize hAe : gA G s.heap.size = A at hE ⊢
  have hA : ∀ q : Nat, s.heap.size ≤ q → A q := fun q h => by rw [← hAe]; exact Or.inr h
  have hG := gA_of hAe
  have hS : va_S A s.heap s.heap [] := va_S.rf
  have hF : gF (dC, dI) SKc G ([(4, 4), (4, 5), (4, 6), (98, 0)] : List (Nat × Nat)) s.heap s.heap := gF.rf
  have hl := lv_entry ([.ref o0, .int p1, .int p2, .ref ou]) (n := 5) (Nat.le_of_ble_eq_true rfl)
  rw [lg_entry_eq]
  generalize (lg_sl ([.ref o0, .int p1, .int p2, .ref ou]) ++ List.replicate (5 - (lg_sl ([.ref o0, .int p1, .int p2, .ref ou])).length) Slot.unset).toArray = ls at hl ⊢
  have hl : lv_has ls 5 [(0, .ref o0), (1, .int p1), (2, .int p2), (3, .ref ou)] := hl
  refine lv_aload_n hx hb dL_measure_0 rfl (lv_at hl 3 rfl) ?_
  refine lv_iconst (v := 0) hx hb dL_measure_1 (by decide) ?_
  refine lv_aload_n hx hb dL_measure_2 rfl (lv_at hl 0 rfl) ?_
  refine lv_iload_n hx hb dL_measure_3 rfl (lv_at hl 1 rfl) ?_
  refine lv_iload_n hx hb dL_measure_4 rfl (lv_at hl 2 rfl) ?_
  have hFc := gA_free hG hA hS
  refine vx_calli (vx_runV (As := [.int p1, .int p2]) (rest := [.int 0, .ref ou]) ⟨hx, hb, hml, hown, hts⟩ (c_measure l hlt dC dI kA adK adV G s.heap nC nS o0 p1 p2 hT hr_o0 (by omega) (by omega)) (cwV 2 hts (goodIn_app (goodIn_r _ [41, 42, 43, 7] rfl (by decide +kernel)) (goodIn_ca (goodIn_r _ [1, 2, 3, 4, 5, 6, 7, 8, 9, 10, 11, 12, 13, 14, 15, 16, 17, 18, 19, 20, 21, 22, 23, 24, 25, 26, 27, 28, 29, 30, 31, 32, 33, 34, 35, 36, 37, 38, 39, 40] rfl (by decide +kernel)) (bs2_in _ _))) rfl rfl rfl (by decide +kernel) ⟨(Nat.le_of_ble_eq_true rfl), (Nat.le_of_ble_eq_true rfl)⟩) ⟨fun a U g mk q => by obtain ⟨q0, q1, qK, qE⟩ := q; exact ⟨q0, q1, va_K.moved (u := U) (U := U.calling g mk a) (Vm.Alike.refl U.vm) qK, EVC.blind g mk a qE⟩, gH_rc hK hT hr_o0 shc_14 rfl, fun U hU hW => ⟨rfl, hU, va_K.moved hW.alike hK, hE.call hS hFc hU hW⟩⟩ rfl rfl hl.1 rfl (lv_room (Nat.le_of_ble_eq_true rfl)) dL_measure_5 ⟨(Nat.le_of_ble_eq_true rfl), (Nat.le_of_ble_eq_true rfl)⟩) hS (fun q _ h => hFc q h) hFc (fun q _ h => hFc q h) (fun E ce q9 u t H locs ht hvm _ hw2 _ _ hS hce hcv hcl => ?_) (fun r1 u t H locs ht hvm hw2 hB _ _ hS => ?_)
  · obtain ⟨hw2, hTx, hFx⟩ := hw2; rw [ht] at hTx hFx
    have hT := hTx; have hF := hF.more hFx (by decide)
    rcases hw2 with rfl | rfl | rfl
    · refine vx_catch (E := "java/lang/IllegalArgumentException") hown [⟨0, 17, 20, 13⟩] ⟨0, 17, 24, 15⟩ [⟨0, 17, 28, 17⟩] (by rw [htab]; rfl) (fun z h => by
          simp only [List.mem_cons, List.not_mem_nil, or_false] at h
          rcases h with rfl
          · exact Or.inr ⟨by decide, "java/lang/IndexOutOfBoundsException", (ht_at2 hts 43 rfl), hN ("java/lang/IllegalArgumentException", "java/lang/IndexOutOfBoundsException") (by decide +kernel)⟩) (by decide) (by decide) (ht_at2 hts 44 rfl) (va_Nw.use rfl (hE.1.1.2.1.2.1 _ (List.mem_of_getElem? (i := 1) rfl))) hce hcv hcl ?_
      refine lv_astore (lv' := [(4, .ref q9), (0, .ref o0), (1, .int p1), (2, .int p2), (3, .ref ou)]) hx hb dL_measure_24 hl (by decide) rfl (fun ls hl => ?_)
      refine lv_iconst (v := 2) hx hb dL_measure_26 (by decide) ?_
      exact W.iret (v := 2) hx hb hr (fun t ht hW => ⟨⟨2, (), rfl, (by exact (rg_t (a := 2) (by decide) (by first | decide | omega) (by first | decide | omega))), by (try dsimp only); rw [ht]; exact ⟨hT, hF⟩⟩, hS.F ht⟩) hS.2.2 dL_measure_27
    · refine vx_catch (E := "java/lang/IllegalStateException") hown [⟨0, 17, 20, 13⟩, ⟨0, 17, 24, 15⟩] ⟨0, 17, 28, 17⟩ [] (by rw [htab]; rfl) (fun z h => by
          simp only [List.mem_cons, List.not_mem_nil, or_false] at h
          rcases h with rfl | rfl
          · exact Or.inr ⟨by decide, "java/lang/IndexOutOfBoundsException", (ht_at2 hts 43 rfl), hN ("java/lang/IllegalStateException", "java/lang/IndexOutOfBoundsException") (by decide +kernel)⟩
          · exact Or.inr ⟨by decide, "java/lang/IllegalArgumentException", (ht_at2 hts 44 rfl), hN ("java/lang/IllegalStateException", "java/lang/IllegalArgumentException") (by decide +kernel)⟩) (by decide) (by decide) (ht_at2 hts 45 rfl) (va_Nw.use rfl (hE.1.1.2.1.2.1 _ (List.mem_of_getElem? (i := 3) rfl))) hce hcv hcl ?_
      refine lv_astore (lv' := [(4, .ref q9), (0, .ref o0), (1, .int p1), (2, .int p2), (3, .ref ou)]) hx hb dL_measure_28 hl (by decide) rfl (fun ls hl => ?_)
      refine lv_iconst (v := 3) hx hb dL_measure_30 (by decide) ?_
      exact W.iret (v := 3) hx hb hr (fun t ht hW => ⟨⟨3, (), rfl, (by exact (rg_t (a := 3) (by decide) (by first | decide | omega) (by first | decide | omega))), by (try dsimp only); rw [ht]; exact ⟨hT, hF⟩⟩, hS.F ht⟩) hS.2.2 dL_measure_31
    · refine vx_catch (E := "java/lang/IndexOutOfBoundsException") hown [] ⟨0, 17, 20, 13⟩ [⟨0, 17, 24, 15⟩, ⟨0, 17, 28, 17⟩] (by rw [htab]; rfl) (fun z h => absurd h List.not_mem_nil) (by decide) (by decide) (ht_at2 hts 43 rfl) (va_Nw.use rfl (hE.1.1.2.1.2.1 _ (List.mem_of_getElem? (i := 0) rfl))) hce hcv hcl ?_
      refine lv_astore (lv' := [(4, .ref q9), (0, .ref o0), (1, .int p1), (2, .int p2), (3, .ref ou)]) hx hb dL_measure_20 hl (by decide) rfl (fun ls hl => ?_)
      refine lv_iconst (v := 1) hx hb dL_measure_22 (by decide) ?_
      exact W.iret (v := 1) hx hb hr (fun t ht hW => ⟨⟨1, (), rfl, (by exact (rg_t (a := 1) (by decide) (by first | decide | omega) (by first | decide | omega))), by (try dsimp only); rw [ht]; exact ⟨hT, hF⟩⟩, hS.F ht⟩) hS.2.2 dL_measure_23
  · obtain ⟨hT, hF1⟩ := hB
    rw [ht] at hT hF1
    have hF := hF.more hF1 (by decide)
    try dsimp only at hw2
    have h3 := hw2
    refine lv_if_eq (tgt := 15) hx hb dL_measure_8 (by decide) (fun c4 => ?_) (fun c4 => ?_)
    · have t5 : r1.toInt = 0 := ti_eq c4 rfl (by decide)
      refine lv_lconst (v := 0) hx hb dL_measure_15 (by decide) ?_
      refine tw_last (i := 0)  hx hb hK hT hG hS hr_ou shc_98 rfl (by unfold vp_in; decide) ⟨_, rfl⟩ dL_measure_16 (fun H locs hT oq m6 oi hS => ?_)
      have hF := hF.ast hr_ou skc_98 oq (by decide)
      refine lv_goto (tgt := 32) hx hb dL_measure_17 (by decide) ?_
      refine lv_iconst (v := 0) hx hb dL_measure_32 (by decide) ?_
      exact W.iret (v := 0) hx hb hr (fun t ht hW => ⟨⟨0, (), rfl, (by exact (rg_t (a := 0) (by decide) (by first | decide | omega) (by first | decide | omega))), by (try dsimp only); rw [ht]; exact ⟨hT, hF⟩⟩, hS.F ht⟩) hS.2.2 dL_measure_33
    · have t7 : r1.toInt ≠ 0 := ti_ne c4 rfl (by decide)
      refine lv_lconst (v := 1) hx hb dL_measure_11 (by decide) ?_
      refine lv_goto (tgt := 16) hx hb dL_measure_12 (by decide) ?_
      refine tw_last (i := 0)  hx hb hK hT hG hS hr_ou shc_98 rfl (by unfold vp_in; decide) ⟨_, rfl⟩ dL_measure_16 (fun H locs hT oq m8 oi hS => ?_)
      have hF := hF.ast hr_ou skc_98 oq (by decide)
      refine lv_goto (tgt := 32) hx hb dL_measure_17 (by decide) ?_
      refine lv_iconst (v := 0) hx hb dL_measure_32 (by decide) ?_
      exact W.iret (v := 0) hx hb hr (fun t ht hW => ⟨⟨0, (), rfl, (by exact (rg_t (a := 0) (by decide) (by first | decide | omega) (by first | decide | omega))), by (try dsimp only); rw [ht]; exact ⟨hT, hF⟩⟩, hS.F ht⟩) hS.2.2 dL_measure_33
def w_l_mill : List Cond := .codeWith yL_mill cL_mill 7 (some .int) [(0, 14, 17, 13), (0, 14, 21, 15), (0, 14, 25, 45)] :: (HAppend.hAppend (α := List Cond) (β := List Cond) (γ := List Cond) [.code yX11_mill cX11_mill 5 (some .int), .code yX11_needSquare cX11_needSquare 1 none, .code yX11_within cX11_within 3 (some .boolean), .methodLink RX11 58 yX11_within, .static yX11_within, .initialized RX11, .classLink RX11 557 "java/lang/IndexOutOfBoundsException", .initialized "java/lang/IndexOutOfBoundsException", .methodLink RX11 55 yX11_needSquare, .static yX11_needSquare, .code yX11_needNumbers cX11_needNumbers 1 none, .classLink RX11 547 "java/lang/IllegalArgumentException", .initialized "java/lang/IllegalArgumentException", .methodLink RX11 62 yX11_needNumbers, .static yX11_needNumbers, .code yX11_needRoomForWork cX11_needRoomForWork 1 none, .fieldLink RX11 16 "SeaLand" "lake" "LSeaLand$Lake;", .classLink RX11 345 "java/lang/UnsupportedOperationException", .initialized "java/lang/UnsupportedOperationException", .methodLink RX11 149 yX11_needRoomForWork, .instanceMethod yX11_needRoomForWork, .selects RX11 yX11_needRoomForWork yX11_needRoomForWork, .code yX3_isFreeLand cX3_isFreeLand 2 (some .boolean), .fieldLink RX3 21 "SeaLand$Lake" "ground" "LSeaLand$Ground;", .code yX3_workOn cX3_workOn 3 (some .int), .fieldLink RX3 47 "SeaLand$Lake" "built" "I", .fieldLink RX3 27 "SeaLand$Lake" "works" "[LSeaLand$Work;", .methodLink RX3 53 yX3_workOn, .instanceMethod yX3_workOn, .selects RX3 yX3_workOn yX3_workOn, .initialized RX3, .methodLink RX11 152 yX3_isFreeLand, .instanceMethod yX3_isFreeLand, .selects RX3 yX3_isFreeLand yX3_isFreeLand, .code yX11_stepsApart cX11_stepsApart 2 (some .int), .methodLink RX11 580 Lib.Math.abs.name, .static Lib.Math.abs.name, .initialized "java/lang/Math", .code Lib.Math.abs.name Lib.Math.abs.code 1 (some .int), .methodLink RX11 160 yX11_stepsApart, .static yX11_stepsApart, .fieldLink RX11 30 "SeaLand" "board" "LSeaLand$Board;", .code yX0_buildingAllowed cX0_buildingAllowed 3 (some .boolean), .code yX3_stepsToBank cX3_stepsToBank 4 (some .int), .code yX10_isBank cX10_isBank 1 (some .boolean), .fieldLink RX10 18 "SeaLand$Work" "kind" "I", .methodLink RX3 67 yX10_isBank, .instanceMethod yX10_isBank, .selects RX10 yX10_isBank yX10_isBank, .initialized RX10, .methodLink RX3 71 Lib.Math.min.name, .static Lib.Math.min.name, .code Lib.Math.min.name Lib.Math.min.code 2 (some .int), .methodLink RX0 138 yX3_stepsToBank, .instanceMethod yX3_stepsToBank, .selects RX3 yX3_stepsToBank yX3_stepsToBank, .fieldLink RX0 41 "SeaLand$Board" "force" "LSeaLand$Law;", .code yX4_lastOf cX4_lastOf 5 (some .int), .fieldLink RX4 60 "SeaLand$Law" "lines" "I", .fieldLink RX4 18 "SeaLand$Law" "kinds" "[I", .fieldLink RX4 21 "SeaLand$Law" "firsts" "[I", .methodLink RX0 94 yX4_lastOf, .instanceMethod yX4_lastOf, .selects RX4 yX4_lastOf yX4_lastOf, .initialized RX4, .methodLink RX11 190 yX0_buildingAllowed, .instanceMethod yX0_buildingAllowed, .selects RX0 yX0_buildingAllowed yX0_buildingAllowed, .initialized RX0, .fieldLink RX11 23 "SeaLand" "rows" "LSeaLand$Rows;", .code yX6_forget cX6_forget 1 none, .fieldLink RX6 18 "SeaLand$Rows" "kept" "I", .fieldLink RX6 22 "SeaLand$Rows" "oldest" "I", .methodLink RX11 76 yX6_forget, .instanceMethod yX6_forget, .selects RX6 yX6_forget yX6_forget, .initialized RX6, .code yX3_build cX3_build 5 (some .int), .code yX10_begin cX10_begin 5 none, .fieldLink RX10 22 "SeaLand$Work" "square" "I", .fieldLink RX10 25 "SeaLand$Work" "to" "I", .fieldLink RX10 28 "SeaLand$Work" "size" "I", .fieldLink RX10 31 "SeaLand$Work" "width" "I", .fieldLink RX10 34 "SeaLand$Work" "layers" "I", .fieldLink RX10 37 "SeaLand$Work" "coal" "I", .fieldLink RX10 40 "SeaLand$Work" "on" "Z", .fieldLink RX10 44 "SeaLand$Work" "latest" "I", .fieldLink RX10 47 "SeaLand$Work" "total" "I", .methodLink RX3 60 yX10_begin, .instanceMethod yX10_begin, .selects RX10 yX10_begin yX10_begin, .methodLink RX11 163 yX3_build, .instanceMethod yX3_build, .selects RX3 yX3_build yX3_build, .methodLink RL 52 yX11_mill, .instanceMethod yX11_mill, .selects RX11 yX11_mill yX11_mill, .classLink RL 13 "java/lang/IndexOutOfBoundsException", .classLink RL 15 "java/lang/IllegalArgumentException", .classLink RL 45 "java/lang/UnsupportedOperationException"] bs2)
set_option maxHeartbeats 4000000 in
set_option maxRecDepth 100000 in
theorem l_mill (l : Launch) (hlt : l.stackTraces = false) (dC : Nat → ClassId) (dI : Nat → Nat → Nat) (kA : Nat → ClassId) (adK adV : Nat → Nat) (G : gT) (H0 : Heap) (nC nS : Int) (o0 : Nat) (p1 : Int32) (p2 : Int32) (p3 : Int32) (p4 : Int32) (ou : Nat) (hT : gH (dC, dI) kA (SHc nC nS) G H0) (hr_o0 : G o0 = some 14) (hq4 : 0 ≤ p4.toInt ∧ p4.toInt ≤ 1) (hr_ou : G ou = some 98) (hgC : 0 ≤ nC ∧ nC ≤ 40) (hgS : 0 ≤ nS ∧ nS ≤ 60) : Met l yL_mill w_l_mill ({ frames := 8, cells := 3, slots := 18, locals := 144 }) (va_Pc [.ref o0, .int p1, .int p2, .int p3, .int p4, .ref ou] (fun U => U.heap = H0 ∧ va_K (dC, dI) vwCl (tyl kA) U ∧ EVC adK adV (gA G H0.size) U U.heap ∧ NC U)) (va_Qi (fun (r : Int32) (u : Unit) => (0 ≤ r.toInt ∧ r.toInt ≤ 3)) (fun (_ : Unit) (t : State) => gH (dC, dI) kA (SHc nC nS) G t.heap ∧ gF (dC, dI) SKc G ([(6, 3), (9, 2), (9, 3), (13, 2), (13, 3), (13, 4), (13, 5), (13, 6), (13, 7), (13, 8), (13, 9), (13, 10), (13, 11), (98, 0)] : List (Nat × Nat)) H0 t.heap) (gA G H0.size)) 3 18 (gA G H0.size) := by
  refine va_MetW (cc := cL_mill) (maxL := 7) (ret := (some .int)) (by decide) rfl ?_
  intro p e s m args below meth c s₁ B hml hv
  obtain ⟨rfl, hH0, hK, hE, hN⟩ := hv
  have hx := B.exec
  have hb := B.bytes
  have hr := B.returns
  have hts := atoms_spec (ws := w_l_mill) B.pre
  have hown : s.vm.findClass RL = some m.cls := findClass_of_methodNamed B.named
  have hlocks := B.notSynchronized
  have htab := vx_table (x := yL_mill) B (hts _ List.mem_cons_self)
  subst hH0
  generalize hAe : gA G s.heap.size = A at hE ⊢
  have hA : ∀ q : Nat, s.heap.size ≤ q → A q := fun q h => by rw [← hAe]; exact Or.inr h
  have hG := gA_of hAe
  have hS : va_S A s.heap s.heap [] := va_S.rf
  have hF : gF (dC, dI) SKc G ([(6, 3), (9, 2), (9, 3), (13, 2), (13, 3), (13, 4), (13, 5), (13, 6), (13, 7), (13, 8), (13, 9), (13, 10), (13, 11), (98, 0)] : List (Nat × Nat)) s.heap s.heap := gF.rf
  have hl := lv_entry ([.ref o0, .int p1, .int p2, .int p3, .int p4, .ref ou]) (n := 7) (Nat.le_of_ble_eq_true rfl)
  rw [lg_entry_eq]
  generalize (lg_sl ([.ref o0, .int p1, .int p2, .int p3, .int p4, .ref ou]) ++ List.replicate (7 - (lg_sl ([.ref o0, .int p1, .int p2, .int p3, .int p4, .ref ou])).length) Slot.unset).toArray = ls at hl ⊢
  have hl : lv_has ls 7 [(0, .ref o0), (1, .int p1), (2, .int p2), (3, .int p3), (4, .int p4), (5, .ref ou)] := hl
  refine lv_aload hx hb dL_mill_0 (lv_at hl 5 rfl) ?_
  refine lv_iconst (v := 0) hx hb dL_mill_2 (by decide) ?_
  refine lv_aload_n hx hb dL_mill_3 rfl (lv_at hl 0 rfl) ?_
  refine lv_iload_n hx hb dL_mill_4 rfl (lv_at hl 1 rfl) ?_
  refine lv_iload_n hx hb dL_mill_5 rfl (lv_at hl 2 rfl) ?_
  refine lv_iload_n hx hb dL_mill_6 rfl (lv_at hl 3 rfl) ?_
  refine lv_iload hx hb dL_mill_7 (lv_at hl 4 rfl) ?_
  have hFc := gA_free hG hA hS
  refine vx_calli (vx_runV (As := [.int p1, .int p2, .int p3, .int p4]) (rest := [.int 0, .ref ou]) ⟨hx, hb, hml, hown, hts⟩ (c_mill l hlt dC dI kA adK adV G s.heap nC nS o0 p1 p2 p3 p4 hT hr_o0 (by have q8 := ti_all p4; omega) (by omega) (by omega)) (cwV 4 hts (goodIn_app (goodIn_r _ [95, 96, 97, 6] rfl (by decide +kernel)) (goodIn_ca (goodIn_r _ [1, 2, 3, 4, 5, 6, 7, 8, 9, 10, 11, 12, 13, 14, 15, 16, 17, 18, 19, 20, 21, 22, 23, 24, 25, 26, 27, 28, 29, 30, 31, 32, 33, 34, 35, 36, 37, 38, 39, 40, 41, 42, 43, 44, 45, 46, 47, 48, 49, 50, 51, 52, 53, 54, 55, 56, 57, 58, 59, 60, 61, 62, 63, 64, 65, 66, 67, 68, 69, 70, 71, 72, 73, 74, 75, 76, 77, 78, 79, 80, 81, 82, 83, 84, 85, 86, 87, 88, 89, 90, 91, 92, 93, 94] rfl (by decide +kernel)) (bs2_in _ _))) rfl rfl rfl (by decide +kernel) ⟨(Nat.le_of_ble_eq_true rfl), (Nat.le_of_ble_eq_true rfl)⟩) ⟨fun a U g mk q => by obtain ⟨q0, q1, qK, qE⟩ := q; exact ⟨q0, q1, va_K.moved (u := U) (U := U.calling g mk a) (Vm.Alike.refl U.vm) qK, EVC.blind g mk a qE⟩, gH_rc hK hT hr_o0 shc_14 rfl, fun U hU hW => ⟨rfl, hU, va_K.moved hW.alike hK, hE.call hS hFc hU hW⟩⟩ rfl rfl hl.1 rfl (lv_room (Nat.le_of_ble_eq_true rfl)) dL_mill_9 ⟨(Nat.le_of_ble_eq_true rfl), (Nat.le_of_ble_eq_true rfl)⟩) hS (fun q _ h => hFc q h) hFc (fun q _ h => hFc q h) (fun E ce q9 u t H locs ht hvm _ hw2 _ _ hS hce hcv hcl => ?_) (fun r1 u t H locs ht hvm hw2 hB _ _ hS => ?_)
  · obtain ⟨hw2, hTx, hFx⟩ := hw2; rw [ht] at hTx hFx
    have hT := hTx; have hF := hF.more hFx (by decide)
    rcases hw2 with rfl | rfl | rfl
    · refine vx_catch (E := "java/lang/IllegalArgumentException") hown [⟨0, 14, 17, 13⟩] ⟨0, 14, 21, 15⟩ [⟨0, 14, 25, 45⟩] (by rw [htab]; rfl) (fun z h => by
          simp only [List.mem_cons, List.not_mem_nil, or_false] at h
          rcases h with rfl
          · exact Or.inr ⟨by decide, "java/lang/IndexOutOfBoundsException", (ht_at2 hts 97 rfl), hN ("java/lang/IllegalArgumentException", "java/lang/IndexOutOfBoundsException") (by decide +kernel)⟩) (by decide) (by decide) (ht_at2 hts 98 rfl) (va_Nw.use rfl (hE.1.1.2.1.2.1 _ (List.mem_of_getElem? (i := 1) rfl))) hce hcv hcl ?_
      refine lv_astore (lv' := [(6, .ref q9), (0, .ref o0), (1, .int p1), (2, .int p2), (3, .int p3), (4, .int p4), (5, .ref ou)]) hx hb dL_mill_21 hl (by decide) rfl (fun ls hl => ?_)
      refine lv_iconst (v := 2) hx hb dL_mill_23 (by decide) ?_
      exact W.iret (v := 2) hx hb hr (fun t ht hW => ⟨⟨2, (), rfl, (by exact (rg_t (a := 2) (by decide) (by first | decide | omega) (by first | decide | omega))), by (try dsimp only); rw [ht]; exact ⟨hT, hF⟩⟩, hS.F ht⟩) hS.2.2 dL_mill_24
    · refine vx_catch (E := "java/lang/IndexOutOfBoundsException") hown [] ⟨0, 14, 17, 13⟩ [⟨0, 14, 21, 15⟩, ⟨0, 14, 25, 45⟩] (by rw [htab]; rfl) (fun z h => absurd h List.not_mem_nil) (by decide) (by decide) (ht_at2 hts 97 rfl) (va_Nw.use rfl (hE.1.1.2.1.2.1 _ (List.mem_of_getElem? (i := 0) rfl))) hce hcv hcl ?_
      refine lv_astore (lv' := [(6, .ref q9), (0, .ref o0), (1, .int p1), (2, .int p2), (3, .int p3), (4, .int p4), (5, .ref ou)]) hx hb dL_mill_17 hl (by decide) rfl (fun ls hl => ?_)
      refine lv_iconst (v := 1) hx hb dL_mill_19 (by decide) ?_
      exact W.iret (v := 1) hx hb hr (fun t ht hW => ⟨⟨1, (), rfl, (by exact (rg_t (a := 1) (by decide) (by first | decide | omega) (by first | decide | omega))), by (try dsimp only); rw [ht]; exact ⟨hT, hF⟩⟩, hS.F ht⟩) hS.2.2 dL_mill_20
    · refine vx_catch (E := "java/lang/UnsupportedOperationException") hown [⟨0, 14, 17, 13⟩, ⟨0, 14, 21, 15⟩] ⟨0, 14, 25, 45⟩ [] (by rw [htab]; rfl) (fun z h => by
          simp only [List.mem_cons, List.not_mem_nil, or_false] at h
          rcases h with rfl | rfl
          · exact Or.inr ⟨by decide, "java/lang/IndexOutOfBoundsException", (ht_at2 hts 97 rfl), hN ("java/lang/UnsupportedOperationException", "java/lang/IndexOutOfBoundsException") (by decide +kernel)⟩
          · exact Or.inr ⟨by decide, "java/lang/IllegalArgumentException", (ht_at2 hts 98 rfl), hN ("java/lang/UnsupportedOperationException", "java/lang/IllegalArgumentException") (by decide +kernel)⟩) (by decide) (by decide) (ht_at2 hts 99 rfl) (va_Nw.use rfl (hE.2 _ (List.mem_of_getElem? (i := 0) rfl))) hce hcv hcl ?_
      refine lv_astore (lv' := [(6, .ref q9), (0, .ref o0), (1, .int p1), (2, .int p2), (3, .int p3), (4, .int p4), (5, .ref ou)]) hx hb dL_mill_25 hl (by decide) rfl (fun ls hl => ?_)
      refine lv_iconst (v := 3) hx hb dL_mill_27 (by decide) ?_
      exact W.iret (v := 3) hx hb hr (fun t ht hW => ⟨⟨3, (), rfl, (by exact (rg_t (a := 3) (by decide) (by first | decide | omega) (by first | decide | omega))), by (try dsimp only); rw [ht]; exact ⟨hT, hF⟩⟩, hS.F ht⟩) hS.2.2 dL_mill_28
  · obtain ⟨hT, hF1⟩ := hB
    rw [ht] at hT hF1
    have hF := hF.more hF1 (by decide)
    try dsimp only at hw2
    have h3 := hw2
    refine lv_i2l (v := r1.toInt64) hx hb dL_mill_12 rfl ?_
    refine tw_last (i := 0)  hx hb hK hT hG hS hr_ou shc_98 rfl (by unfold vp_in; decide) ⟨_, rfl⟩ dL_mill_13 (fun H locs hT oq m4 oi hS => ?_)
    have hF := hF.ast hr_ou skc_98 oq (by decide)
    refine lv_goto (tgt := 29) hx hb dL_mill_14 (by decide) ?_
    refine lv_iconst (v := 0) hx hb dL_mill_29 (by decide) ?_
    exact W.iret (v := 0) hx hb hr (fun t ht hW => ⟨⟨0, (), rfl, (by exact (rg_t (a := 0) (by decide) (by first | decide | omega) (by first | decide | omega))), by (try dsimp only); rw [ht]; exact ⟨hT, hF⟩⟩, hS.F ht⟩) hS.2.2 dL_mill_30
def w_l_order : List Cond := .codeWith yL_order cL_order 5 (some .int) [(0, 10, 13, 15)] :: (HAppend.hAppend (α := List Cond) (β := List Cond) (γ := List Cond) [.code yX11_order cX11_order 3 (some .int), .constant RX11 411 1000000, .code yX11_within cX11_within 3 (some .boolean), .methodLink RX11 58 yX11_within, .static yX11_within, .initialized RX11, .code yX11_needNumbers cX11_needNumbers 1 none, .classLink RX11 547 "java/lang/IllegalArgumentException", .initialized "java/lang/IllegalArgumentException", .methodLink RX11 62 yX11_needNumbers, .static yX11_needNumbers, .fieldLink RX11 43 "SeaLand" "plans" "LSeaLand$Plans;", .code yX5_findOrder cX5_findOrder 2 none, .fieldLink RX5 157 "SeaLand$Plans" "bestLate" "I", .code yX5_tryOrders cX5_tryOrders 11 none, .fieldLink RX5 154 "SeaLand$Plans" "jobs" "I", .fieldLink RX5 41 "SeaLand$Plans" "placed" "[Z", .fieldLink RX5 29 "SeaLand$Plans" "costs" "[I", .code yX5_yearWithCost cX5_yearWithCost 5 (some .int), .methodLink RX5 164 yX5_yearWithCost, .static yX5_yearWithCost, .initialized RX5, .fieldLink RX5 32 "SeaLand$Plans" "lasts" "[I", .fieldLink RX5 45 "SeaLand$Plans" "trial" "[I", .fieldLink RX5 35 "SeaLand$Plans" "incomes" "[I", .fieldLink RX5 38 "SeaLand$Plans" "acres" "[I", .fieldLink RX5 48 "SeaLand$Plans" "best" "[I", .methodLink RX5 100 arraycopyName, .native arraycopyName, .static arraycopyName, .initialized "java/lang/System", .methodLink RX5 160 yX5_tryOrders, .instanceMethod yX5_tryOrders, .selects RX5 yX5_tryOrders yX5_tryOrders, .methodLink RX11 484 yX5_findOrder, .instanceMethod yX5_findOrder, .selects RX5 yX5_findOrder yX5_findOrder, .methodLink RL 160 yX11_order, .instanceMethod yX11_order, .selects RX11 yX11_order yX11_order, .classLink RL 15 "java/lang/IllegalArgumentException"] bs2)
set_option maxHeartbeats 4000000 in
set_option maxRecDepth 100000 in
theorem l_order (l : Launch) (hlt : l.stackTraces = false) (dC : Nat → ClassId) (dI : Nat → Nat → Nat) (kA : Nat → ClassId) (adK adV : Nat → Nat) (G : gT) (H0 : Heap) (nC nS : Int) (o0 : Nat) (p1 : Int32) (p2 : Int32) (ou : Nat) (hT : gH (dC, dI) kA (SHc nC nS) G H0) (hr_o0 : G o0 = some 14) (hr_ou : G ou = some 98) (hgC : 0 ≤ nC ∧ nC ≤ 40) (hgS : 0 ≤ nS ∧ nS ≤ 60) : Met l yL_order w_l_order ({ frames := 12, cells := 1, slots := 6, locals := 343 }) (va_Pc [.ref o0, .int p1, .int p2, .ref ou] (fun U => U.heap = H0 ∧ va_K (dC, dI) vwCl (tyl kA) U ∧ EVC adK adV (gA G H0.size) U U.heap ∧ NC U)) (va_Qi (fun (r : Int32) (u : Unit) => (0 ≤ r.toInt ∧ r.toInt ≤ 1)) (fun (_ : Unit) (t : State) => gH (dC, dI) kA (SHc nC nS) G t.heap ∧ gF (dC, dI) SKc G ([(8, 16), (67, 0), (68, 0), (69, 0), (98, 0)] : List (Nat × Nat)) H0 t.heap) (gA G H0.size)) 1 6 (gA G H0.size) := by
  refine va_MetW (cc := cL_order) (maxL := 5) (ret := (some .int)) (by decide) rfl ?_
  intro p e s m args below meth c s₁ B hml hv
  obtain ⟨rfl, hH0, hK, hE, hN⟩ := hv
  have hx := B.exec
  have hb := B.bytes
  have hr := B.returns
  have hts := atoms_spec (ws := w_l_order) B.pre
  have hown : s.vm.findClass RL = some m.cls := findClass_of_methodNamed B.named
  have hlocks := B.notSynchronized
  have htab := vx_table (x := yL_order) B (hts _ List.mem_cons_self)
  subst hH0
  generalize hAe : gA G s.heap.size = A at hE ⊢
  have hA : ∀ q : Nat, s.heap.size ≤ q → A q := fun q h => by rw [← hAe]; exact Or.inr h
  have hG := gA_of hAe
  have hS : va_S A s.heap s.heap [] := va_S.rf
  have hF : gF (dC, dI) SKc G ([(8, 16), (67, 0), (68, 0), (69, 0), (98, 0)] : List (Nat × Nat)) s.heap s.heap := gF.rf
  have hl := lv_entry ([.ref o0, .int p1, .int p2, .ref ou]) (n := 5) (Nat.le_of_ble_eq_true rfl)
  rw [lg_entry_eq]
  generalize (lg_sl ([.ref o0, .int p1, .int p2, .ref ou]) ++ List.replicate (5 - (lg_sl ([.ref o0, .int p1, .int p2, .ref ou])).length) Slot.unset).toArray = ls at hl ⊢
  have hl : lv_has ls 5 [(0, .ref o0), (1, .int p1), (2, .int p2), (3, .ref ou)] := hl
  refine lv_aload_n hx hb dL_order_0 rfl (lv_at hl 3 rfl) ?_
  refine lv_iconst (v := 0) hx hb dL_order_1 (by decide) ?_
  refine lv_aload_n hx hb dL_order_2 rfl (lv_at hl 0 rfl) ?_
  refine lv_iload_n hx hb dL_order_3 rfl (lv_at hl 1 rfl) ?_
  refine lv_iload_n hx hb dL_order_4 rfl (lv_at hl 2 rfl) ?_
  have hFc := gA_free hG hA hS
  refine vx_calli (vx_runV (As := [.int p1, .int p2]) (rest := [.int 0, .ref ou]) ⟨hx, hb, hml, hown, hts⟩ (c_order l hlt dC dI kA adK adV G s.heap nC nS o0 p1 p2 hT hr_o0 (by omega) (by omega)) (cwV 2 hts (goodIn_app (goodIn_r _ [38, 39, 40, 6] rfl (by decide +kernel)) (goodIn_ca (goodIn_r _ [1, 2, 3, 4, 5, 6, 7, 8, 9, 10, 11, 12, 13, 14, 15, 16, 17, 18, 19, 20, 21, 22, 23, 24, 25, 26, 27, 28, 29, 30, 31, 32, 33, 34, 35, 36, 37] rfl (by decide +kernel)) (bs2_in _ _))) rfl rfl rfl (by decide +kernel) ⟨(Nat.le_of_ble_eq_true rfl), (Nat.le_of_ble_eq_true rfl)⟩) ⟨fun a U g mk q => by obtain ⟨q0, q1, qK, qE⟩ := q; exact ⟨q0, q1, va_K.moved (u := U) (U := U.calling g mk a) (Vm.Alike.refl U.vm) qK, EVC.blind g mk a qE⟩, gH_rc hK hT hr_o0 shc_14 rfl, fun U hU hW => ⟨rfl, hU, va_K.moved hW.alike hK, hE.call hS hFc hU hW⟩⟩ rfl rfl hl.1 rfl (lv_room (Nat.le_of_ble_eq_true rfl)) dL_order_5 ⟨(Nat.le_of_ble_eq_true rfl), (Nat.le_of_ble_eq_true rfl)⟩) hS (fun q _ h => hFc q h) hFc (fun q _ h => hFc q h) (fun E ce q9 u t H locs ht hvm _ hw2 _ _ hS hce hcv hcl => ?_) (fun r1 u t H locs ht hvm hw2 hB _ _ hS => ?_)
  · obtain ⟨hw2, hTx, hFx⟩ := hw2; rw [ht] at hTx hFx
    have hT := hTx; have hF := hF.more hFx (by decide)
    subst hw2
    refine vx_catch (E := "java/lang/IllegalArgumentException") hown [] ⟨0, 10, 13, 15⟩ [] (by rw [htab]; rfl) (fun z h => absurd h List.not_mem_nil) (by decide) (by decide) (ht_at2 hts 40 rfl) (va_Nw.use rfl (hE.1.1.2.1.2.1 _ (List.mem_of_getElem? (i := 1) rfl))) hce hcv hcl ?_
    refine lv_astore (lv' := [(4, .ref q9), (0, .ref o0), (1, .int p1), (2, .int p2), (3, .ref ou)]) hx hb dL_order_13 hl (by decide) rfl (fun ls hl => ?_)
    refine lv_iconst (v := 1) hx hb dL_order_15 (by decide) ?_
    exact W.iret (v := 1) hx hb hr (fun t ht hW => ⟨⟨1, (), rfl, (by exact (rg_t (a := 1) (by decide) (by first | decide | omega) (by first | decide | omega))), by (try dsimp only); rw [ht]; exact ⟨hT, hF⟩⟩, hS.F ht⟩) hS.2.2 dL_order_16
  · obtain ⟨hT, hF1⟩ := hB
    rw [ht] at hT hF1
    have hF := hF.more hF1 (by decide)
    try dsimp only at hw2
    refine lv_i2l (v := r1.toInt64) hx hb dL_order_8 rfl ?_
    refine tw_last (i := 0)  hx hb hK hT hG hS hr_ou shc_98 rfl (by unfold vp_in; decide) ⟨_, rfl⟩ dL_order_9 (fun H locs hT oq m3 oi hS => ?_)
    have hF := hF.ast hr_ou skc_98 oq (by decide)
    refine lv_goto (tgt := 17) hx hb dL_order_10 (by decide) ?_
    refine lv_iconst (v := 0) hx hb dL_order_17 (by decide) ?_
    exact W.iret (v := 0) hx hb hr (fun t ht hW => ⟨⟨0, (), rfl, (by exact (rg_t (a := 0) (by decide) (by first | decide | omega) (by first | decide | omega))), by (try dsimp only); rw [ht]; exact ⟨hT, hF⟩⟩, hS.F ht⟩) hS.2.2 dL_order_18
def w_l_pay : List Cond := .codeWith yL_pay cL_pay 4 (some .int) [(0, 9, 12, 13)] :: (HAppend.hAppend (α := List Cond) (β := List Cond) (γ := List Cond) [.code yX11_pay cX11_pay 7 (some .int), .code yX11_contractOf cX11_contractOf 2 (some (.object "SeaLand$Contract")), .fieldLink RX11 414 "SeaLand" "contracted" "I", .code yX11_within cX11_within 3 (some .boolean), .methodLink RX11 58 yX11_within, .static yX11_within, .initialized RX11, .fieldLink RX11 36 "SeaLand" "contracts" "[LSeaLand$Contract;", .classLink RX11 557 "java/lang/IndexOutOfBoundsException", .initialized "java/lang/IndexOutOfBoundsException", .methodLink RX11 419 yX11_contractOf, .instanceMethod yX11_contractOf, .selects RX11 yX11_contractOf yX11_contractOf, .code yX1_hasSpan cX1_hasSpan 1 (some .boolean), .fieldLink RX1 28 "SeaLand$Contract" "measured" "Z", .fieldLink RX1 32 "SeaLand$Contract" "least" "I", .fieldLink RX1 10 "SeaLand$Contract" "most" "I", .methodLink RX11 431 yX1_hasSpan, .instanceMethod yX1_hasSpan, .selects RX1 yX1_hasSpan yX1_hasSpan, .initialized RX1, .code yX11_bankOf cX11_bankOf 3 (some (.object "SeaLand$Work")), .fieldLink RX11 16 "SeaLand" "lake" "LSeaLand$Lake;", .code yX10_isBank cX10_isBank 1 (some .boolean), .fieldLink RX10 18 "SeaLand$Work" "kind" "I", .methodLink RX11 171 yX10_isBank, .instanceMethod yX10_isBank, .selects RX10 yX10_isBank yX10_isBank, .initialized RX10, .methodLink RX11 440 yX11_bankOf, .instanceMethod yX11_bankOf, .selects RX11 yX11_bankOf yX11_bankOf, .code yX11_lessFor cX11_lessFor 4 (some .int), .methodLink RX11 444 yX11_lessFor, .instanceMethod yX11_lessFor, .selects RX11 yX11_lessFor yX11_lessFor, .fieldLink RX11 30 "SeaLand" "board" "LSeaLand$Board;", .code yX10_takesLayer cX10_takesLayer 1 (some .boolean), .fieldLink RX10 34 "SeaLand$Work" "layers" "I", .methodLink RX11 180 yX10_takesLayer, .instanceMethod yX10_takesLayer, .selects RX10 yX10_takesLayer yX10_takesLayer, .fieldLink RX11 23 "SeaLand" "rows" "LSeaLand$Rows;", .code yX6_forget cX6_forget 1 none, .fieldLink RX6 18 "SeaLand$Rows" "kept" "I", .fieldLink RX6 22 "SeaLand$Rows" "oldest" "I", .methodLink RX11 76 yX6_forget, .instanceMethod yX6_forget, .selects RX6 yX6_forget yX6_forget, .initialized RX6, .code yX10_addLayer cX10_addLayer 3 none, .fieldLink RX10 9 "SeaLand$Work" "thick" "[I", .fieldLink RX10 15 "SeaLand$Work" "clay" "[I", .methodLink RX11 183 yX10_addLayer, .instanceMethod yX10_addLayer, .selects RX10 yX10_addLayer yX10_addLayer, .methodLink RL 145 yX11_pay, .instanceMethod yX11_pay, .selects RX11 yX11_pay yX11_pay, .classLink RL 13 "java/lang/IndexOutOfBoundsException"] bs2)
set_option maxHeartbeats 4000000 in
set_option maxRecDepth 100000 in
theorem l_pay (l : Launch) (hlt : l.stackTraces = false) (dC : Nat → ClassId) (dI : Nat → Nat → Nat) (kA : Nat → ClassId) (adK adV : Nat → Nat) (G : gT) (H0 : Heap) (nC nS : Int) (o0 : Nat) (p1 : Int32) (ou : Nat) (hT : gH (dC, dI) kA (SHc nC nS) G H0) (hr_o0 : G o0 = some 14) (hr_ou : G ou = some 98) (hgC : 0 ≤ nC ∧ nC ≤ 40) (hgS : 0 ≤ nS ∧ nS ≤ 60) : Met l yL_pay w_l_pay ({ frames := 8, cells := 1, slots := 6, locals := 147 }) (va_Pc [.ref o0, .int p1, .ref ou] (fun U => U.heap = H0 ∧ va_K (dC, dI) vwCl (tyl kA) U ∧ EVC adK adV (gA G H0.size) U U.heap ∧ NC U)) (va_Qi (fun (r : Int32) (u : Unit) => (0 ≤ r.toInt ∧ r.toInt ≤ 1)) (fun (_ : Unit) (t : State) => gH (dC, dI) kA (SHc nC nS) G t.heap ∧ gF (dC, dI) SKc G ([(3, 17), (4, 7), (9, 2), (9, 3), (13, 7), (36, 0), (37, 0), (98, 0)] : List (Nat × Nat)) H0 t.heap) (gA G H0.size)) 1 6 (gA G H0.size) := by
  refine va_MetW (cc := cL_pay) (maxL := 4) (ret := (some .int)) (by decide) rfl ?_
  intro p e s m args below meth c s₁ B hml hv
  obtain ⟨rfl, hH0, hK, hE, hN⟩ := hv
  have hx := B.exec
  have hb := B.bytes
  have hr := B.returns
  have hts := atoms_spec (ws := w_l_pay) B.pre
  have hown : s.vm.findClass RL = some m.cls := findClass_of_methodNamed B.named
  have hlocks := B.notSynchronized
  have htab := vx_table (x := yL_pay) B (hts _ List.mem_cons_self)
  subst hH0
  generalize hAe : gA G s.heap.size = A at hE ⊢
  have hA : ∀ q : Nat, s.heap.size ≤ q → A q := fun q h => by rw [← hAe]; exact Or.inr h
  have hG := gA_of hAe
  have hS : va_S A s.heap s.heap [] := va_S.rf
  have hF : gF (dC, dI) SKc G ([(3, 17), (4, 7), (9, 2), (9, 3), (13, 7), (36, 0), (37, 0), (98, 0)] : List (Nat × Nat)) s.heap s.heap := gF.rf
  have hl := lv_entry ([.ref o0, .int p1, .ref ou]) (n := 4) (Nat.le_of_ble_eq_true rfl)
  rw [lg_entry_eq]
  generalize (lg_sl ([.ref o0, .int p1, .ref ou]) ++ List.replicate (4 - (lg_sl ([.ref o0, .int p1, .ref ou])).length) Slot.unset).toArray = ls at hl ⊢
  have hl : lv_has ls 4 [(0, .ref o0), (1, .int p1), (2, .ref ou)] := hl
  refine lv_aload_n hx hb dL_pay_0 rfl (lv_at hl 2 rfl) ?_
  refine lv_iconst (v := 0) hx hb dL_pay_1 (by decide) ?_
  refine lv_aload_n hx hb dL_pay_2 rfl (lv_at hl 0 rfl) ?_
  refine lv_iload_n hx hb dL_pay_3 rfl (lv_at hl 1 rfl) ?_
  have hFc := gA_free hG hA hS
  refine vx_calli (vx_runV (As := [.int p1]) (rest := [.int 0, .ref ou]) ⟨hx, hb, hml, hown, hts⟩ (c_pay l hlt dC dI kA adK adV G s.heap nC nS o0 p1 hT hr_o0 (by omega) (by omega)) (cwV 1 hts (goodIn_app (goodIn_r _ [57, 58, 59, 7] rfl (by decide +kernel)) (goodIn_ca (goodIn_r _ [1, 2, 3, 4, 5, 6, 7, 8, 9, 10, 11, 12, 13, 14, 15, 16, 17, 18, 19, 20, 21, 22, 23, 24, 25, 26, 27, 28, 29, 30, 31, 32, 33, 34, 35, 36, 37, 38, 39, 40, 41, 42, 43, 44, 45, 46, 47, 48, 49, 50, 51, 52, 53, 54, 55, 56] rfl (by decide +kernel)) (bs2_in _ _))) rfl rfl rfl (by decide +kernel) ⟨(Nat.le_of_ble_eq_true rfl), (Nat.le_of_ble_eq_true rfl)⟩) ⟨fun a U g mk q => by obtain ⟨q0, q1, qK, qE⟩ := q; exact ⟨q0, q1, va_K.moved (u := U) (U := U.calling g mk a) (Vm.Alike.refl U.vm) qK, EVC.blind g mk a qE⟩, gH_rc hK hT hr_o0 shc_14 rfl, fun U hU hW => ⟨rfl, hU, va_K.moved hW.alike hK, hE.call hS hFc hU hW⟩⟩ rfl rfl hl.1 rfl (lv_room (Nat.le_of_ble_eq_true rfl)) dL_pay_4 ⟨(Nat.le_of_ble_eq_true rfl), (Nat.le_of_ble_eq_true rfl)⟩) hS (fun q _ h => hFc q h) hFc (fun q _ h => hFc q h) (fun E ce q9 u t H locs ht hvm _ hw2 _ _ hS hce hcv hcl => ?_) (fun r1 u t H locs ht hvm hw2 hB _ _ hS => ?_)
  · obtain ⟨hw2, hTx, hFx⟩ := hw2; rw [ht] at hTx hFx
    have hT := hTx; have hF := hF.more hFx (by decide)
    subst hw2
    refine vx_catch (E := "java/lang/IndexOutOfBoundsException") hown [] ⟨0, 9, 12, 13⟩ [] (by rw [htab]; rfl) (fun z h => absurd h List.not_mem_nil) (by decide) (by decide) (ht_at2 hts 59 rfl) (va_Nw.use rfl (hE.1.1.2.1.2.1 _ (List.mem_of_getElem? (i := 0) rfl))) hce hcv hcl ?_
    refine lv_astore_n (lv' := [(3, .ref q9), (0, .ref o0), (1, .int p1), (2, .ref ou)]) hx hb dL_pay_12 rfl hl (by decide) rfl (fun ls hl => ?_)
    refine lv_iconst (v := 1) hx hb dL_pay_13 (by decide) ?_
    exact W.iret (v := 1) hx hb hr (fun t ht hW => ⟨⟨1, (), rfl, (by exact (rg_t (a := 1) (by decide) (by first | decide | omega) (by first | decide | omega))), by (try dsimp only); rw [ht]; exact ⟨hT, hF⟩⟩, hS.F ht⟩) hS.2.2 dL_pay_14
  · obtain ⟨hT, hF1⟩ := hB
    rw [ht] at hT hF1
    have hF := hF.more hF1 (by decide)
    try dsimp only at hw2
    refine lv_i2l (v := r1.toInt64) hx hb dL_pay_7 rfl ?_
    refine tw_last (i := 0)  hx hb hK hT hG hS hr_ou shc_98 rfl (by unfold vp_in; decide) ⟨_, rfl⟩ dL_pay_8 (fun H locs hT oq m3 oi hS => ?_)
    have hF := hF.ast hr_ou skc_98 oq (by decide)
    refine lv_goto (tgt := 15) hx hb dL_pay_9 (by decide) ?_
    refine lv_iconst (v := 0) hx hb dL_pay_15 (by decide) ?_
    exact W.iret (v := 0) hx hb hr (fun t ht hW => ⟨⟨0, (), rfl, (by exact (rg_t (a := 0) (by decide) (by first | decide | omega) (by first | decide | omega))), by (try dsimp only); rw [ht]; exact ⟨hT, hF⟩⟩, hS.F ht⟩) hS.2.2 dL_pay_16
def w_l_propose : List Cond := .codeWith yL_propose cL_propose 3 (some .int) [(0, 8, 11, 15), (0, 8, 14, 17)] :: (HAppend.hAppend (α := List Cond) (β := List Cond) (γ := List Cond) [.code yX11_propose cX11_propose 1 (some .int), .fieldLink RX11 30 "SeaLand" "board" "LSeaLand$Board;", .fieldLink RX11 9 "SeaLand" "tape" "[I", .fieldLink RX11 47 "SeaLand" "taped" "I", .code yX4_read cX4_read 4 (some .int), .methodLink RX4 46 Lib.Math.min.name, .static Lib.Math.min.name, .initialized "java/lang/Math", .code Lib.Math.min.name Lib.Math.min.code 2 (some .int), .code yX4_scan cX4_scan 6 none, .code yX4_thingEnd cX4_thingEnd 6 (some .int), .code yX4_isLetter cX4_isLetter 1 (some .boolean), .methodLink RX4 81 yX4_isLetter, .static yX4_isLetter, .initialized RX4, .code yX4_isDigit cX4_isDigit 1 (some .boolean), .methodLink RX4 84 yX4_isDigit, .static yX4_isDigit, .methodLink RX4 74 yX4_thingEnd, .static yX4_thingEnd, .fieldLink RX4 11 "SeaLand$Law" "things" "[I", .code yX4_thingAt cX4_thingAt 3 (some .int), .code yX4_signThing cX4_signThing 1 (some .int), .methodLink RX4 93 yX4_signThing, .static yX4_signThing, .code yX4_numberThing cX4_numberThing 5 (some .int), .methodLink RX4 90 yX4_numberThing, .static yX4_numberThing, .code yX4_wordThing cX4_wordThing 4 (some .int), .code yX4_factThing cX4_factThing 3 (some .int), .code yX4_wordIs cX4_wordIs 5 (some .boolean), .code yJ0_length_8abf5 cJ0_length_8abf5 1 (some .int), .fieldLink RJ0 9 "java/lang/String" "value" "[B", .code yJ0_coder_7d493 cJ0_coder_7d493 1 (some .byte), .fieldLink RJ0 38 "java/lang/String" "COMPACT_STRINGS" "Z", .fieldLink RJ0 15 "java/lang/String" "coder" "B", .methodLink RJ0 335 yJ0_coder_7d493, .instanceMethod yJ0_coder_7d493, .selects RJ0 yJ0_coder_7d493 yJ0_coder_7d493, .initialized RJ0, .methodLink RX4 155 yJ0_length_8abf5, .instanceMethod yJ0_length_8abf5, .selects RJ0 yJ0_length_8abf5 yJ0_length_8abf5, .code yJ0_charAt_5068e cJ0_charAt_5068e 2 (some .char), .code yJ0_isLatin1_aae02 cJ0_isLatin1_aae02 1 (some .boolean), .methodLink RJ0 492 yJ0_isLatin1_aae02, .instanceMethod yJ0_isLatin1_aae02, .selects RJ0 yJ0_isLatin1_aae02 yJ0_isLatin1_aae02, .code yJ1_charAt_3b067 cJ1_charAt_3b067 2 (some .char), .code yJ0_checkIndex_df160 cJ0_checkIndex_df160 2 none, .fieldLink RJ0 1053 "jdk/internal/util/Preconditions" "SIOOBE_FORMATTER" "Ljava/util/function/BiFunction;", .code yJ3_checkIndex_8e157 cJ3_checkIndex_8e157 3 (some .int), .methodLink RJ0 1059 yJ3_checkIndex_8e157, .static yJ3_checkIndex_8e157, .initialized RJ3, .methodLink RJ1 9 yJ0_checkIndex_df160, .static yJ0_checkIndex_df160, .methodLink RJ0 495 yJ1_charAt_3b067, .static yJ1_charAt_3b067, .initialized RJ1, .methodLink RX4 161 yJ0_charAt_5068e, .instanceMethod yJ0_charAt_5068e, .selects RJ0 yJ0_charAt_5068e yJ0_charAt_5068e, .methodLink RX4 105 yX4_wordIs, .static yX4_wordIs, .methodLink RX4 97 yX4_factThing, .static yX4_factThing, .code yX4_lineThing cX4_lineThing 4 (some .int), .methodLink RX4 100 yX4_lineThing, .static yX4_lineThing, .methodLink RX4 87 yX4_wordThing, .static yX4_wordThing, .methodLink RX4 78 yX4_thingAt, .static yX4_thingAt, .fieldLink RX4 15 "SeaLand$Law" "begins" "[I", .methodLink RX4 52 yX4_scan, .instanceMethod yX4_scan, .selects RX4 yX4_scan yX4_scan, .fieldLink RX4 56 "SeaLand$Law" "at" "I", .fieldLink RX4 60 "SeaLand$Law" "lines" "I", .fieldLink RX4 63 "SeaLand$Law" "stepped" "I", .code yX4_readLine cX4_readLine 3 (some .boolean), .code yX4_lineKind cX4_lineKind 1 (some .int), .methodLink RX4 165 yX4_lineKind, .static yX4_lineKind, .fieldLink RX4 18 "SeaLand$Law" "kinds" "[I", .fieldLink RX4 33 "SeaLand$Law" "stepFrom" "[I", .code yX4_take cX4_take 2 (some .boolean), .methodLink RX4 70 yX4_take, .instanceMethod yX4_take, .selects RX4 yX4_take yX4_take, .code yX4_readAny cX4_readAny 4 (some .boolean), .code yX4_readAll cX4_readAll 4 (some .boolean), .code yX4_readAtom cX4_readAtom 4 (some .boolean), .code yX4_readComparison cX4_readComparison 3 (some .boolean), .code yX4_readSum cX4_readSum 3 (some .boolean), .code yX4_readPart cX4_readPart 2 (some .boolean), .code yX4_addStep cX4_addStep 2 none, .fieldLink RX4 39 "SeaLand$Law" "steps" "[I", .methodLink RX4 179 yX4_addStep, .instanceMethod yX4_addStep, .selects RX4 yX4_addStep yX4_addStep, .methodLink RX4 192 yX4_readPart, .instanceMethod yX4_readPart, .selects RX4 yX4_readPart yX4_readPart, .methodLink RX4 189 yX4_readSum, .instanceMethod yX4_readSum, .selects RX4 yX4_readSum yX4_readSum, .methodLink RX4 186 yX4_readComparison, .instanceMethod yX4_readComparison, .selects RX4 yX4_readComparison yX4_readComparison, .methodLink RX4 183 yX4_readAtom, .instanceMethod yX4_readAtom, .selects RX4 yX4_readAtom yX4_readAtom, .methodLink RX4 176 yX4_readAll, .instanceMethod yX4_readAll, .selects RX4 yX4_readAll yX4_readAll, .methodLink RX4 173 yX4_readAny, .instanceMethod yX4_readAny, .selects RX4 yX4_readAny yX4_readAny, .fieldLink RX4 36 "SeaLand$Law" "stepTo" "[I", .fieldLink RX4 21 "SeaLand$Law" "firsts" "[I", .code yX4_takeNumber cX4_takeNumber 4 (some .boolean), .methodLink RX4 168 yX4_takeNumber, .instanceMethod yX4_takeNumber, .selects RX4 yX4_takeNumber yX4_takeNumber, .fieldLink RX4 24 "SeaLand$Law" "seconds" "[I", .fieldLink RX4 27 "SeaLand$Law" "froms" "[I", .fieldLink RX4 30 "SeaLand$Law" "tos" "[I", .constant RX4 172 99999, .methodLink RX4 66 yX4_readLine, .instanceMethod yX4_readLine, .selects RX4 yX4_readLine yX4_readLine, .methodLink RX11 266 yX4_read, .instanceMethod yX4_read, .selects RX4 yX4_read yX4_read, .code yX11_needNumbers cX11_needNumbers 1 none, .classLink RX11 547 "java/lang/IllegalArgumentException", .initialized "java/lang/IllegalArgumentException", .methodLink RX11 62 yX11_needNumbers, .static yX11_needNumbers, .initialized RX11, .code yX0_proposeSpare cX0_proposeSpare 3 (some .int), .fieldLink RX0 45 "SeaLand$Board" "proposed" "LSeaLand$Law;", .fieldLink RX0 48 "SeaLand$Board" "spare" "LSeaLand$Law;", .fieldLink RX0 64 "SeaLand$Board" "voting" "Z", .fieldLink RX0 68 "SeaLand$Board" "yesVotes" "J", .fieldLink RX0 72 "SeaLand$Board" "allVotes" "J", .fieldLink RX0 75 "SeaLand$Board" "settled" "I", .fieldLink RX0 11 "SeaLand$Board" "settlers" "[LSeaLand$Settler;", .methodLink RX11 289 yX0_proposeSpare, .instanceMethod yX0_proposeSpare, .selects RX0 yX0_proposeSpare yX0_proposeSpare, .initialized RX0, .classLink RX11 69 "java/lang/IllegalStateException", .initialized "java/lang/IllegalStateException", .methodLink RL 87 yX11_propose, .instanceMethod yX11_propose, .selects RX11 yX11_propose yX11_propose, .classLink RL 15 "java/lang/IllegalArgumentException", .classLink RL 17 "java/lang/IllegalStateException"] bs2)
set_option maxHeartbeats 4000000 in
set_option maxRecDepth 100000 in
theorem l_propose (l : Launch) (hlt : l.stackTraces = false) (dC : Nat → ClassId) (dI : Nat → Nat → Nat) (kA : Nat → ClassId) (adK adV : Nat → Nat) (G : gT) (H0 : Heap) (nC nS : Int) (o0 : Nat) (ou : Nat) (hT : gH (dC, dI) kA (SHc nC nS) G H0) (hr_o0 : G o0 = some 14) (hr_ou : G ou = some 98) (hgC : 0 ≤ nC ∧ nC ≤ 40) (hgS : 0 ≤ nS ∧ nS ≤ 60) : Met l yL_propose w_l_propose ({ frames := 28, cells := 1, slots := 6, locals := 634 }) (va_Pc [.ref o0, .ref ou] (fun U => U.heap = H0 ∧ va_K (dC, dI) vwCl (tyl kA) U ∧ EVC adK adV (gA G H0.size) U U.heap ∧ NC U)) (va_Qi (fun (r : Int32) (u : Unit) => (0 ≤ r.toInt ∧ r.toInt ≤ 2)) (fun (_ : Unit) (t : State) => gH (dC, dI) kA (SHc nC nS) G t.heap ∧ gF (dC, dI) SKc G ([(3, 8), (3, 9), (3, 10), (3, 11), (3, 12), (3, 13), (7, 11), (7, 12), (7, 13), (10, 11), (14, 7), (40, 0), (41, 0), (42, 0), (43, 0), (44, 0), (45, 0), (46, 0), (47, 0), (48, 0), (49, 0), (98, 0)] : List (Nat × Nat)) H0 t.heap) (gA G H0.size)) 1 6 (gA G H0.size) := by
  refine va_MetW (cc := cL_propose) (maxL := 3) (ret := (some .int)) (by decide) rfl ?_
  intro p e s m args below meth c s₁ B hml hv
  obtain ⟨rfl, hH0, hK, hE, hN⟩ := hv
  have hx := B.exec
  have hb := B.bytes
  have hr := B.returns
  have hts := atoms_spec (ws := w_l_propose) B.pre
  have hown : s.vm.findClass RL = some m.cls := findClass_of_methodNamed B.named
  have hlocks := B.notSynchronized
  have htab := vx_table (x := yL_propose) B (hts _ List.mem_cons_self)
  subst hH0
  generalize hAe : gA G s.heap.size = A at hE ⊢
  have hA : ∀ q : Nat, s.heap.size ≤ q → A q := fun q h => by rw [← hAe]; exact Or.inr h
  have hG := gA_of hAe
  have hS : va_S A s.heap s.heap [] := va_S.rf
  have hF : gF (dC, dI) SKc G ([(3, 8), (3, 9), (3, 10), (3, 11), (3, 12), (3, 13), (7, 11), (7, 12), (7, 13), (10, 11), (14, 7), (40, 0), (41, 0), (42, 0), (43, 0), (44, 0), (45, 0), (46, 0), (47, 0), (48, 0), (49, 0), (98, 0)] : List (Nat × Nat)) s.heap s.heap := gF.rf
  have hl := lv_entry ([.ref o0, .ref ou]) (n := 3) (Nat.le_of_ble_eq_true rfl)
  rw [lg_entry_eq]
  generalize (lg_sl ([.ref o0, .ref ou]) ++ List.replicate (3 - (lg_sl ([.ref o0, .ref ou])).length) Slot.unset).toArray = ls at hl ⊢
  have hl : lv_has ls 3 [(0, .ref o0), (1, .ref ou)] := hl
  refine lv_aload_n hx hb dL_propose_0 rfl (lv_at hl 1 rfl) ?_
  refine lv_iconst (v := 0) hx hb dL_propose_1 (by decide) ?_
  refine lv_aload_n hx hb dL_propose_2 rfl (lv_at hl 0 rfl) ?_
  have hFc := gA_free hG hA hS
  refine vx_calli (vx_runV (As := []) (rest := [.int 0, .ref ou]) ⟨hx, hb, hml, hown, hts⟩ (c_propose l hlt dC dI kA adK adV G s.heap nC nS o0 hT hr_o0 (by omega) (by omega)) (cwV 0 hts (goodIn_app (goodIn_r _ [157, 158, 159, 142] rfl (by decide +kernel)) (goodIn_ca (goodIn_r _ [1, 2, 3, 4, 5, 6, 7, 8, 9, 10, 11, 12, 13, 14, 15, 16, 17, 18, 19, 20, 21, 22, 23, 24, 25, 26, 27, 28, 29, 30, 31, 32, 33, 34, 35, 36, 37, 38, 39, 40, 41, 42, 43, 44, 45, 46, 47, 48, 49, 50, 51, 52, 53, 54, 55, 56, 57, 58, 59, 60, 61, 62, 63, 64, 65, 66, 67, 68, 69, 70, 71, 72, 73, 74, 75, 76, 77, 78, 79, 80, 81, 82, 83, 84, 85, 86, 87, 88, 89, 90, 91, 92, 93, 94, 95, 96, 97, 98, 99, 100, 101, 102, 103, 104, 105, 106, 107, 108, 109, 110, 111, 112, 113, 114, 115, 116, 117, 118, 119, 120, 121, 122, 123, 124, 125, 126, 127, 128, 129, 130, 131, 132, 133, 134, 135, 136, 137, 138, 139, 140, 141, 142, 143, 144, 145, 146, 147, 148, 149, 150, 151, 152, 153, 154, 155, 156] rfl (by decide +kernel)) (bs2_in _ _))) rfl rfl rfl (by decide +kernel) ⟨(Nat.le_of_ble_eq_true rfl), (Nat.le_of_ble_eq_true rfl)⟩) ⟨fun a U g mk q => by obtain ⟨q0, q1, qK, qE⟩ := q; exact ⟨q0, q1, va_K.moved (u := U) (U := U.calling g mk a) (Vm.Alike.refl U.vm) qK, EVC.blind g mk a qE⟩, gH_rc hK hT hr_o0 shc_14 rfl, fun U hU hW => ⟨rfl, hU, va_K.moved hW.alike hK, hE.call hS hFc hU hW⟩⟩ rfl rfl hl.1 rfl (lv_room (Nat.le_of_ble_eq_true rfl)) dL_propose_3 ⟨(Nat.le_of_ble_eq_true rfl), (Nat.le_of_ble_eq_true rfl)⟩) hS (fun q _ h => hFc q h) hFc (fun q _ h => hFc q h) (fun E ce q9 u t H locs ht hvm _ hw2 _ _ hS hce hcv hcl => ?_) (fun r1 u t H locs ht hvm hw2 hB _ _ hS => ?_)
  · obtain ⟨hw2, hTx, hFx⟩ := hw2; rw [ht] at hTx hFx
    have hT := hTx; have hF := hF.more hFx (by decide)
    rcases hw2 with rfl | rfl
    · refine vx_catch (E := "java/lang/IllegalArgumentException") hown [] ⟨0, 8, 11, 15⟩ [⟨0, 8, 14, 17⟩] (by rw [htab]; rfl) (fun z h => absurd h List.not_mem_nil) (by decide) (by decide) (ht_at2 hts 159 rfl) (va_Nw.use rfl (hE.1.1.2.1.2.1 _ (List.mem_of_getElem? (i := 1) rfl))) hce hcv hcl ?_
      refine lv_astore_n (lv' := [(2, .ref q9), (0, .ref o0), (1, .ref ou)]) hx hb dL_propose_11 rfl hl (by decide) rfl (fun ls hl => ?_)
      refine lv_iconst (v := 1) hx hb dL_propose_12 (by decide) ?_
      exact W.iret (v := 1) hx hb hr (fun t ht hW => ⟨⟨1, (), rfl, (by exact (rg_t (a := 1) (by decide) (by first | decide | omega) (by first | decide | omega))), by (try dsimp only); rw [ht]; exact ⟨hT, hF⟩⟩, hS.F ht⟩) hS.2.2 dL_propose_13
    · refine vx_catch (E := "java/lang/IllegalStateException") hown [⟨0, 8, 11, 15⟩] ⟨0, 8, 14, 17⟩ [] (by rw [htab]; rfl) (fun z h => by
          simp only [List.mem_cons, List.not_mem_nil, or_false] at h
          rcases h with rfl
          · exact Or.inr ⟨by decide, "java/lang/IllegalArgumentException", (ht_at2 hts 159 rfl), hN ("java/lang/IllegalStateException", "java/lang/IllegalArgumentException") (by decide +kernel)⟩) (by decide) (by decide) (ht_at2 hts 160 rfl) (va_Nw.use rfl (hE.1.1.2.1.2.1 _ (List.mem_of_getElem? (i := 3) rfl))) hce hcv hcl ?_
      refine lv_astore_n (lv' := [(2, .ref q9), (0, .ref o0), (1, .ref ou)]) hx hb dL_propose_14 rfl hl (by decide) rfl (fun ls hl => ?_)
      refine lv_iconst (v := 2) hx hb dL_propose_15 (by decide) ?_
      exact W.iret (v := 2) hx hb hr (fun t ht hW => ⟨⟨2, (), rfl, (by exact (rg_t (a := 2) (by decide) (by first | decide | omega) (by first | decide | omega))), by (try dsimp only); rw [ht]; exact ⟨hT, hF⟩⟩, hS.F ht⟩) hS.2.2 dL_propose_16
  · obtain ⟨hT, hF1⟩ := hB
    rw [ht] at hT hF1
    have hF := hF.more hF1 (by decide)
    try dsimp only at hw2
    have h3 := hw2
    refine lv_i2l (v := r1.toInt64) hx hb dL_propose_6 rfl ?_
    refine tw_last (i := 0)  hx hb hK hT hG hS hr_ou shc_98 rfl (by unfold vp_in; decide) ⟨_, rfl⟩ dL_propose_7 (fun H locs hT oq m4 oi hS => ?_)
    have hF := hF.ast hr_ou skc_98 oq (by decide)
    refine lv_goto (tgt := 17) hx hb dL_propose_8 (by decide) ?_
    refine lv_iconst (v := 0) hx hb dL_propose_17 (by decide) ?_
    exact W.iret (v := 0) hx hb hr (fun t ht hW => ⟨⟨0, (), rfl, (by exact (rg_t (a := 0) (by decide) (by first | decide | omega) (by first | decide | omega))), by (try dsimp only); rw [ht]; exact ⟨hT, hF⟩⟩, hS.F ht⟩) hS.2.2 dL_propose_18
def w_l_row : List Cond := .codeWith yL_row cL_row 5 (some .int) [(0, 10, 13, 13), (0, 10, 17, 39)] :: (HAppend.hAppend (α := List Cond) (β := List Cond) (γ := List Cond) [.code yX11_row cX11_row 3 (some .int), .code yX11_needSquare cX11_needSquare 1 none, .code yX11_within cX11_within 3 (some .boolean), .methodLink RX11 58 yX11_within, .static yX11_within, .initialized RX11, .classLink RX11 557 "java/lang/IndexOutOfBoundsException", .initialized "java/lang/IndexOutOfBoundsException", .methodLink RX11 55 yX11_needSquare, .static yX11_needSquare, .code yX11_needRow cX11_needRow 2 none, .fieldLink RX11 23 "SeaLand" "rows" "LSeaLand$Rows;", .classLink RX11 134 "java/util/NoSuchElementException", .initialized "java/util/NoSuchElementException", .methodLink RX11 493 yX11_needRow, .instanceMethod yX11_needRow, .selects RX11 yX11_needRow yX11_needRow, .code yX6_placeOf cX6_placeOf 3 (some .int), .fieldLink RX6 22 "SeaLand$Rows" "oldest" "I", .methodLink RX11 499 yX6_placeOf, .instanceMethod yX6_placeOf, .selects RX6 yX6_placeOf yX6_placeOf, .initialized RX6, .methodLink RL 163 yX11_row, .instanceMethod yX11_row, .selects RX11 yX11_row yX11_row, .classLink RL 13 "java/lang/IndexOutOfBoundsException", .classLink RL 39 "java/util/NoSuchElementException"] bs2)
set_option maxHeartbeats 4000000 in
set_option maxRecDepth 100000 in
theorem l_row (l : Launch) (hlt : l.stackTraces = false) (dC : Nat → ClassId) (dI : Nat → Nat → Nat) (kA : Nat → ClassId) (adK adV : Nat → Nat) (G : gT) (H0 : Heap) (nC nS : Int) (o0 : Nat) (p1 : Int32) (p2 : Int32) (ou : Nat) (hT : gH (dC, dI) kA (SHc nC nS) G H0) (hr_o0 : G o0 = some 14) (hr_ou : G ou = some 98) (hgC : 0 ≤ nC ∧ nC ≤ 40) (hgS : 0 ≤ nS ∧ nS ≤ 60) : Met l yL_row w_l_row ({ frames := 8, cells := 2, slots := 12, locals := 143 }) (va_Pc [.ref o0, .int p1, .int p2, .ref ou] (fun U => U.heap = H0 ∧ va_K (dC, dI) vwCl (tyl kA) U ∧ EVC adK adV (gA G H0.size) U U.heap ∧ NC U)) (va_Qi (fun (r : Int32) (u : Unit) => (0 ≤ r.toInt ∧ r.toInt ≤ 2)) (fun (_ : Unit) (t : State) => gH (dC, dI) kA (SHc nC nS) G t.heap ∧ gF (dC, dI) SKc G ([(98, 0)] : List (Nat × Nat)) H0 t.heap) (gA G H0.size)) 2 12 (gA G H0.size) := by
  refine va_MetW (cc := cL_row) (maxL := 5) (ret := (some .int)) (by decide) rfl ?_
  intro p e s m args below meth c s₁ B hml hv
  obtain ⟨rfl, hH0, hK, hE, hN⟩ := hv
  have hx := B.exec
  have hb := B.bytes
  have hr := B.returns
  have hts := atoms_spec (ws := w_l_row) B.pre
  have hown : s.vm.findClass RL = some m.cls := findClass_of_methodNamed B.named
  have hlocks := B.notSynchronized
  have htab := vx_table (x := yL_row) B (hts _ List.mem_cons_self)
  subst hH0
  generalize hAe : gA G s.heap.size = A at hE ⊢
  have hA : ∀ q : Nat, s.heap.size ≤ q → A q := fun q h => by rw [← hAe]; exact Or.inr h
  have hG := gA_of hAe
  have hS : va_S A s.heap s.heap [] := va_S.rf
  have hF : gF (dC, dI) SKc G ([(98, 0)] : List (Nat × Nat)) s.heap s.heap := gF.rf
  have hl := lv_entry ([.ref o0, .int p1, .int p2, .ref ou]) (n := 5) (Nat.le_of_ble_eq_true rfl)
  rw [lg_entry_eq]
  generalize (lg_sl ([.ref o0, .int p1, .int p2, .ref ou]) ++ List.replicate (5 - (lg_sl ([.ref o0, .int p1, .int p2, .ref ou])).length) Slot.unset).toArray = ls at hl ⊢
  have hl : lv_has ls 5 [(0, .ref o0), (1, .int p1), (2, .int p2), (3, .ref ou)] := hl
  refine lv_aload_n hx hb dL_row_0 rfl (lv_at hl 3 rfl) ?_
  refine lv_iconst (v := 0) hx hb dL_row_1 (by decide) ?_
  refine lv_aload_n hx hb dL_row_2 rfl (lv_at hl 0 rfl) ?_
  refine lv_iload_n hx hb dL_row_3 rfl (lv_at hl 1 rfl) ?_
  refine lv_iload_n hx hb dL_row_4 rfl (lv_at hl 2 rfl) ?_
  have hFc := gA_free hG hA hS
  refine vx_calli (vx_runV (As := [.int p1, .int p2]) (rest := [.int 0, .ref ou]) ⟨hx, hb, hml, hown, hts⟩ (c_row l hlt dC dI kA adK adV G s.heap nC nS o0 p1 p2 hT hr_o0 (by omega) (by omega)) (cwV 2 hts (goodIn_app (goodIn_r _ [24, 25, 26, 6] rfl (by decide +kernel)) (goodIn_ca (goodIn_r _ [1, 2, 3, 4, 5, 6, 7, 8, 9, 10, 11, 12, 13, 14, 15, 16, 17, 18, 19, 20, 21, 22, 23] rfl (by decide +kernel)) (bs2_in _ _))) rfl rfl rfl (by decide +kernel) ⟨(Nat.le_of_ble_eq_true rfl), (Nat.le_of_ble_eq_true rfl)⟩) ⟨fun a U g mk q => by obtain ⟨q0, q1, qK, qE⟩ := q; exact ⟨q0, q1, va_K.moved (u := U) (U := U.calling g mk a) (Vm.Alike.refl U.vm) qK, EVC.blind g mk a qE⟩, gH_rc hK hT hr_o0 shc_14 rfl, fun U hU hW => ⟨rfl, hU, va_K.moved hW.alike hK, hE.call hS hFc hU hW⟩⟩ rfl rfl hl.1 rfl (lv_room (Nat.le_of_ble_eq_true rfl)) dL_row_5 ⟨(Nat.le_of_ble_eq_true rfl), (Nat.le_of_ble_eq_true rfl)⟩) hS (fun q _ h => hFc q h) hFc (fun q _ h => hFc q h) (fun E ce q9 u t H locs ht hvm _ hw2 _ _ hS hce hcv hcl => ?_) (fun r1 u t H locs ht hvm hw2 hB _ _ hS => ?_)
  · obtain ⟨hw2, hTx, hFx⟩ := hw2; rw [ht] at hTx hFx
    have hT := hTx; have hF := hF.more hFx (by decide)
    rcases hw2 with rfl | rfl
    · refine vx_catch (E := "java/lang/IndexOutOfBoundsException") hown [] ⟨0, 10, 13, 13⟩ [⟨0, 10, 17, 39⟩] (by rw [htab]; rfl) (fun z h => absurd h List.not_mem_nil) (by decide) (by decide) (ht_at2 hts 26 rfl) (va_Nw.use rfl (hE.1.1.2.1.2.1 _ (List.mem_of_getElem? (i := 0) rfl))) hce hcv hcl ?_
      refine lv_astore (lv' := [(4, .ref q9), (0, .ref o0), (1, .int p1), (2, .int p2), (3, .ref ou)]) hx hb dL_row_13 hl (by decide) rfl (fun ls hl => ?_)
      refine lv_iconst (v := 1) hx hb dL_row_15 (by decide) ?_
      exact W.iret (v := 1) hx hb hr (fun t ht hW => ⟨⟨1, (), rfl, (by exact (rg_t (a := 1) (by decide) (by first | decide | omega) (by first | decide | omega))), by (try dsimp only); rw [ht]; exact ⟨hT, hF⟩⟩, hS.F ht⟩) hS.2.2 dL_row_16
    · refine vx_catch (E := "java/util/NoSuchElementException") hown [⟨0, 10, 13, 13⟩] ⟨0, 10, 17, 39⟩ [] (by rw [htab]; rfl) (fun z h => by
          simp only [List.mem_cons, List.not_mem_nil, or_false] at h
          rcases h with rfl
          · exact Or.inr ⟨by decide, "java/lang/IndexOutOfBoundsException", (ht_at2 hts 26 rfl), hN ("java/util/NoSuchElementException", "java/lang/IndexOutOfBoundsException") (by decide +kernel)⟩) (by decide) (by decide) (ht_at2 hts 27 rfl) (va_Nw.use rfl (hE.1.1.2.1.2.1 _ (List.mem_of_getElem? (i := 2) rfl))) hce hcv hcl ?_
      refine lv_astore (lv' := [(4, .ref q9), (0, .ref o0), (1, .int p1), (2, .int p2), (3, .ref ou)]) hx hb dL_row_17 hl (by decide) rfl (fun ls hl => ?_)
      refine lv_iconst (v := 2) hx hb dL_row_19 (by decide) ?_
      exact W.iret (v := 2) hx hb hr (fun t ht hW => ⟨⟨2, (), rfl, (by exact (rg_t (a := 2) (by decide) (by first | decide | omega) (by first | decide | omega))), by (try dsimp only); rw [ht]; exact ⟨hT, hF⟩⟩, hS.F ht⟩) hS.2.2 dL_row_20
  · obtain ⟨hT, hF1⟩ := hB
    rw [ht] at hT hF1
    have hF := hF.more hF1 (by decide)
    try dsimp only at hw2
    refine lv_i2l (v := r1.toInt64) hx hb dL_row_8 rfl ?_
    refine tw_last (i := 0)  hx hb hK hT hG hS hr_ou shc_98 rfl (by unfold vp_in; decide) ⟨_, rfl⟩ dL_row_9 (fun H locs hT oq m3 oi hS => ?_)
    have hF := hF.ast hr_ou skc_98 oq (by decide)
    refine lv_goto (tgt := 21) hx hb dL_row_10 (by decide) ?_
    refine lv_iconst (v := 0) hx hb dL_row_21 (by decide) ?_
    exact W.iret (v := 0) hx hb hr (fun t ht hW => ⟨⟨0, (), rfl, (by exact (rg_t (a := 0) (by decide) (by first | decide | omega) (by first | decide | omega))), by (try dsimp only); rw [ht]; exact ⟨hT, hF⟩⟩, hS.F ht⟩) hS.2.2 dL_row_22
def w_l_rules : List Cond := .codeWith yL_rules cL_rules 5 (some .int) [(0, 10, 13, 13), (0, 10, 17, 39)] :: (HAppend.hAppend (α := List Cond) (β := List Cond) (γ := List Cond) [.code yX11_rules cX11_rules 4 (some .int), .code yX11_settlerOf cX11_settlerOf 2 (some (.object "SeaLand$Settler")), .fieldLink RX11 30 "SeaLand" "board" "LSeaLand$Board;", .code yX11_within cX11_within 3 (some .boolean), .methodLink RX11 58 yX11_within, .static yX11_within, .initialized RX11, .classLink RX11 557 "java/lang/IndexOutOfBoundsException", .initialized "java/lang/IndexOutOfBoundsException", .methodLink RX11 292 yX11_settlerOf, .instanceMethod yX11_settlerOf, .selects RX11 yX11_settlerOf yX11_settlerOf, .fieldLink RX11 16 "SeaLand" "lake" "LSeaLand$Lake;", .code yX0_gatherFacts cX0_gatherFacts 3 none, .fieldLink RX0 33 "SeaLand$Board" "facts" "[J", .code yX0_acresOf cX0_acresOf 4 (some .int), .fieldLink RX0 17 "SeaLand$Board" "farmOf" "[I", .methodLink RX0 98 yX0_acresOf, .instanceMethod yX0_acresOf, .selects RX0 yX0_acresOf yX0_acresOf, .initialized RX0, .code yX0_nearOf cX0_nearOf 5 (some .int), .code yX3_stepsToBank cX3_stepsToBank 4 (some .int), .fieldLink RX3 47 "SeaLand$Lake" "built" "I", .fieldLink RX3 27 "SeaLand$Lake" "works" "[LSeaLand$Work;", .code yX10_isBank cX10_isBank 1 (some .boolean), .fieldLink RX10 18 "SeaLand$Work" "kind" "I", .methodLink RX3 67 yX10_isBank, .instanceMethod yX10_isBank, .selects RX10 yX10_isBank yX10_isBank, .initialized RX10, .code yX11_stepsApart cX11_stepsApart 2 (some .int), .methodLink RX11 580 Lib.Math.abs.name, .static Lib.Math.abs.name, .initialized "java/lang/Math", .code Lib.Math.abs.name Lib.Math.abs.code 1 (some .int), .static yX11_stepsApart, .methodLink RX3 71 Lib.Math.min.name, .static Lib.Math.min.name, .code Lib.Math.min.name Lib.Math.min.code 2 (some .int), .methodLink RX0 138 yX3_stepsToBank, .instanceMethod yX3_stepsToBank, .selects RX3 yX3_stepsToBank yX3_stepsToBank, .initialized RX3, .methodLink RX0 166 Lib.Math.min.name, .methodLink RX0 123 yX0_nearOf, .instanceMethod yX0_nearOf, .selects RX0 yX0_nearOf yX0_nearOf, .methodLink RX11 306 yX0_gatherFacts, .instanceMethod yX0_gatherFacts, .selects RX0 yX0_gatherFacts yX0_gatherFacts, .code yX0_duesAndGain cX0_duesAndGain 3 (some .int), .fieldLink RX0 41 "SeaLand$Board" "force" "LSeaLand$Law;", .code yX4_sumThatHolds cX4_sumThatHolds 6 (some .long), .fieldLink RX4 60 "SeaLand$Law" "lines" "I", .fieldLink RX4 18 "SeaLand$Law" "kinds" "[I", .code yX4_lineHolds cX4_lineHolds 6 (some .boolean), .fieldLink RX4 33 "SeaLand$Law" "stepFrom" "[I", .fieldLink RX4 36 "SeaLand$Law" "stepTo" "[I", .fieldLink RX4 39 "SeaLand$Law" "steps" "[I", .fieldLink RX4 42 "SeaLand$Law" "stack" "[J", .code yX4_joined cX4_joined 5 (some .long), .methodLink RX4 199 Lib.MathLoose.max_long.x, .static Lib.MathLoose.max_long.x, .code Lib.MathLoose.max_long.x Lib.MathLoose.max_long.code 4 (some .long), .methodLink RX4 195 yX4_joined, .static yX4_joined, .initialized RX4, .methodLink RX4 203 yX4_lineHolds, .instanceMethod yX4_lineHolds, .selects RX4 yX4_lineHolds yX4_lineHolds, .fieldLink RX4 21 "SeaLand$Law" "firsts" "[I", .methodLink RX0 130 yX4_sumThatHolds, .instanceMethod yX4_sumThatHolds, .selects RX4 yX4_sumThatHolds yX4_sumThatHolds, .constantLong RX0 92 100, .methodLink RX11 310 yX0_duesAndGain, .instanceMethod yX0_duesAndGain, .selects RX0 yX0_duesAndGain yX0_duesAndGain, .code yX0_ruled cX0_ruled 2 (some .int), .methodLink RX11 313 yX0_ruled, .instanceMethod yX0_ruled, .selects RX0 yX0_ruled yX0_ruled, .code yX0_isRuled cX0_isRuled 2 (some .boolean), .code yX4_firstThatHolds cX4_firstThatHolds 4 (some .int), .methodLink RX0 134 yX4_firstThatHolds, .instanceMethod yX4_firstThatHolds, .selects RX4 yX4_firstThatHolds yX4_firstThatHolds, .methodLink RX11 316 yX0_isRuled, .instanceMethod yX0_isRuled, .selects RX0 yX0_isRuled yX0_isRuled, .classLink RX11 134 "java/util/NoSuchElementException", .initialized "java/util/NoSuchElementException", .methodLink RL 98 yX11_rules, .instanceMethod yX11_rules, .selects RX11 yX11_rules yX11_rules, .classLink RL 13 "java/lang/IndexOutOfBoundsException", .classLink RL 39 "java/util/NoSuchElementException"] bs2)
set_option maxHeartbeats 4000000 in
set_option maxRecDepth 100000 in
theorem l_rules (l : Launch) (hlt : l.stackTraces = false) (dC : Nat → ClassId) (dI : Nat → Nat → Nat) (kA : Nat → ClassId) (adK adV : Nat → Nat) (G : gT) (H0 : Heap) (nC nS : Int) (o0 : Nat) (p1 : Int32) (p2 : Int32) (ou : Nat) (hT : gH (dC, dI) kA (SHc nC nS) G H0) (hr_o0 : G o0 = some 14) (hr_ou : G ou = some 98) (hgC : 0 ≤ nC ∧ nC ≤ 40) (hgS : 0 ≤ nS ∧ nS ≤ 60) : Met l yL_rules w_l_rules ({ frames := 8, cells := 2, slots := 12, locals := 159 }) (va_Pc [.ref o0, .int p1, .int p2, .ref ou] (fun U => U.heap = H0 ∧ va_K (dC, dI) vwCl (tyl kA) U ∧ EVC adK adV (gA G H0.size) U U.heap ∧ NC U)) (va_Qi (fun (r : Int32) (u : Unit) => (0 ≤ r.toInt ∧ r.toInt ≤ 2)) (fun (_ : Unit) (t : State) => gH (dC, dI) kA (SHc nC nS) G t.heap ∧ gF (dC, dI) SKc G ([(50, 0), (56, 0), (98, 0)] : List (Nat × Nat)) H0 t.heap) (gA G H0.size)) 2 12 (gA G H0.size) := by
  refine va_MetW (cc := cL_rules) (maxL := 5) (ret := (some .int)) (by decide) rfl ?_
  intro p e s m args below meth c s₁ B hml hv
  obtain ⟨rfl, hH0, hK, hE, hN⟩ := hv
  have hx := B.exec
  have hb := B.bytes
  have hr := B.returns
  have hts := atoms_spec (ws := w_l_rules) B.pre
  have hown : s.vm.findClass RL = some m.cls := findClass_of_methodNamed B.named
  have hlocks := B.notSynchronized
  have htab := vx_table (x := yL_rules) B (hts _ List.mem_cons_self)
  subst hH0
  generalize hAe : gA G s.heap.size = A at hE ⊢
  have hA : ∀ q : Nat, s.heap.size ≤ q → A q := fun q h => by rw [← hAe]; exact Or.inr h
  have hG := gA_of hAe
  have hS : va_S A s.heap s.heap [] := va_S.rf
  have hF : gF (dC, dI) SKc G ([(50, 0), (56, 0), (98, 0)] : List (Nat × Nat)) s.heap s.heap := gF.rf
  have hl := lv_entry ([.ref o0, .int p1, .int p2, .ref ou]) (n := 5) (Nat.le_of_ble_eq_true rfl)
  rw [lg_entry_eq]
  generalize (lg_sl ([.ref o0, .int p1, .int p2, .ref ou]) ++ List.replicate (5 - (lg_sl ([.ref o0, .int p1, .int p2, .ref ou])).length) Slot.unset).toArray = ls at hl ⊢
  have hl : lv_has ls 5 [(0, .ref o0), (1, .int p1), (2, .int p2), (3, .ref ou)] := hl
  refine lv_aload_n hx hb dL_rules_0 rfl (lv_at hl 3 rfl) ?_
  refine lv_iconst (v := 0) hx hb dL_rules_1 (by decide) ?_
  refine lv_aload_n hx hb dL_rules_2 rfl (lv_at hl 0 rfl) ?_
  refine lv_iload_n hx hb dL_rules_3 rfl (lv_at hl 1 rfl) ?_
  refine lv_iload_n hx hb dL_rules_4 rfl (lv_at hl 2 rfl) ?_
  have hFc := gA_free hG hA hS
  refine vx_calli (vx_runV (As := [.int p1, .int p2]) (rest := [.int 0, .ref ou]) ⟨hx, hb, hml, hown, hts⟩ (c_rules l hlt dC dI kA adK adV G s.heap nC nS o0 p1 p2 hT hr_o0 (by omega) (by omega)) (cwV 2 hts (goodIn_app (goodIn_r _ [94, 95, 96, 7] rfl (by decide +kernel)) (goodIn_ca (goodIn_r _ [1, 2, 3, 4, 5, 6, 7, 8, 9, 10, 11, 12, 13, 14, 15, 16, 17, 18, 19, 20, 21, 22, 23, 24, 25, 26, 27, 28, 29, 30, 31, 32, 33, 34, 35, 36, 37, 38, 39, 40, 41, 42, 43, 44, 45, 46, 47, 48, 49, 50, 51, 52, 53, 54, 55, 56, 57, 58, 59, 60, 61, 62, 63, 64, 65, 66, 67, 68, 69, 70, 71, 72, 73, 74, 75, 76, 77, 78, 79, 80, 81, 82, 83, 84, 85, 86, 87, 88, 89, 90, 91, 92, 93] rfl (by decide +kernel)) (bs2_in _ _))) rfl rfl rfl (by decide +kernel) ⟨(Nat.le_of_ble_eq_true rfl), (Nat.le_of_ble_eq_true rfl)⟩) ⟨fun a U g mk q => by obtain ⟨q0, q1, qK, qE⟩ := q; exact ⟨q0, q1, va_K.moved (u := U) (U := U.calling g mk a) (Vm.Alike.refl U.vm) qK, EVC.blind g mk a qE⟩, gH_rc hK hT hr_o0 shc_14 rfl, fun U hU hW => ⟨rfl, hU, va_K.moved hW.alike hK, hE.call hS hFc hU hW⟩⟩ rfl rfl hl.1 rfl (lv_room (Nat.le_of_ble_eq_true rfl)) dL_rules_5 ⟨(Nat.le_of_ble_eq_true rfl), (Nat.le_of_ble_eq_true rfl)⟩) hS (fun q _ h => hFc q h) hFc (fun q _ h => hFc q h) (fun E ce q9 u t H locs ht hvm _ hw2 _ _ hS hce hcv hcl => ?_) (fun r1 u t H locs ht hvm hw2 hB _ _ hS => ?_)
  · obtain ⟨hw2, hTx, hFx⟩ := hw2; rw [ht] at hTx hFx
    have hT := hTx; have hF := hF.more hFx (by decide)
    rcases hw2 with rfl | rfl
    · refine vx_catch (E := "java/lang/IndexOutOfBoundsException") hown [] ⟨0, 10, 13, 13⟩ [⟨0, 10, 17, 39⟩] (by rw [htab]; rfl) (fun z h => absurd h List.not_mem_nil) (by decide) (by decide) (ht_at2 hts 96 rfl) (va_Nw.use rfl (hE.1.1.2.1.2.1 _ (List.mem_of_getElem? (i := 0) rfl))) hce hcv hcl ?_
      refine lv_astore (lv' := [(4, .ref q9), (0, .ref o0), (1, .int p1), (2, .int p2), (3, .ref ou)]) hx hb dL_rules_13 hl (by decide) rfl (fun ls hl => ?_)
      refine lv_iconst (v := 1) hx hb dL_rules_15 (by decide) ?_
      exact W.iret (v := 1) hx hb hr (fun t ht hW => ⟨⟨1, (), rfl, (by exact (rg_t (a := 1) (by decide) (by first | decide | omega) (by first | decide | omega))), by (try dsimp only); rw [ht]; exact ⟨hT, hF⟩⟩, hS.F ht⟩) hS.2.2 dL_rules_16
    · refine vx_catch (E := "java/util/NoSuchElementException") hown [⟨0, 10, 13, 13⟩] ⟨0, 10, 17, 39⟩ [] (by rw [htab]; rfl) (fun z h => by
          simp only [List.mem_cons, List.not_mem_nil, or_false] at h
          rcases h with rfl
          · exact Or.inr ⟨by decide, "java/lang/IndexOutOfBoundsException", (ht_at2 hts 96 rfl), hN ("java/util/NoSuchElementException", "java/lang/IndexOutOfBoundsException") (by decide +kernel)⟩) (by decide) (by decide) (ht_at2 hts 97 rfl) (va_Nw.use rfl (hE.1.1.2.1.2.1 _ (List.mem_of_getElem? (i := 2) rfl))) hce hcv hcl ?_
      refine lv_astore (lv' := [(4, .ref q9), (0, .ref o0), (1, .int p1), (2, .int p2), (3, .ref ou)]) hx hb dL_rules_17 hl (by decide) rfl (fun ls hl => ?_)
      refine lv_iconst (v := 2) hx hb dL_rules_19 (by decide) ?_
      exact W.iret (v := 2) hx hb hr (fun t ht hW => ⟨⟨2, (), rfl, (by exact (rg_t (a := 2) (by decide) (by first | decide | omega) (by first | decide | omega))), by (try dsimp only); rw [ht]; exact ⟨hT, hF⟩⟩, hS.F ht⟩) hS.2.2 dL_rules_20
  · obtain ⟨hT, hF1⟩ := hB
    rw [ht] at hT hF1
    have hF := hF.more hF1 (by decide)
    try dsimp only at hw2
    refine lv_i2l (v := r1.toInt64) hx hb dL_rules_8 rfl ?_
    refine tw_last (i := 0)  hx hb hK hT hG hS hr_ou shc_98 rfl (by unfold vp_in; decide) ⟨_, rfl⟩ dL_rules_9 (fun H locs hT oq m3 oi hS => ?_)
    have hF := hF.ast hr_ou skc_98 oq (by decide)
    refine lv_goto (tgt := 21) hx hb dL_rules_10 (by decide) ?_
    refine lv_iconst (v := 0) hx hb dL_rules_21 (by decide) ?_
    exact W.iret (v := 0) hx hb hr (fun t ht hW => ⟨⟨0, (), rfl, (by exact (rg_t (a := 0) (by decide) (by first | decide | omega) (by first | decide | omega))), by (try dsimp only); rw [ht]; exact ⟨hT, hF⟩⟩, hS.F ht⟩) hS.2.2 dL_rules_22
def w_l_seep : List Cond := .codeWith yL_seep cL_seep 5 (some .int) [(0, 10, 13, 13), (0, 10, 17, 15), (0, 10, 21, 50)] :: (HAppend.hAppend (α := List Cond) (β := List Cond) (γ := List Cond) [.code yX11_seep cX11_seep 4 (some .int), .code yX11_workOf cX11_workOf 2 (some (.object "SeaLand$Work")), .fieldLink RX11 16 "SeaLand" "lake" "LSeaLand$Lake;", .code yX11_within cX11_within 3 (some .boolean), .methodLink RX11 58 yX11_within, .static yX11_within, .initialized RX11, .classLink RX11 557 "java/lang/IndexOutOfBoundsException", .initialized "java/lang/IndexOutOfBoundsException", .methodLink RX11 167 yX11_workOf, .instanceMethod yX11_workOf, .selects RX11 yX11_workOf yX11_workOf, .code yX11_needNumbers cX11_needNumbers 1 none, .classLink RX11 547 "java/lang/IllegalArgumentException", .initialized "java/lang/IllegalArgumentException", .methodLink RX11 62 yX11_needNumbers, .static yX11_needNumbers, .code yX10_isBank cX10_isBank 1 (some .boolean), .fieldLink RX10 18 "SeaLand$Work" "kind" "I", .methodLink RX11 171 yX10_isBank, .instanceMethod yX10_isBank, .selects RX10 yX10_isBank yX10_isBank, .initialized RX10, .code yX11_needKind cX11_needKind 1 none, .classLink RX11 552 "java/lang/ClassCastException", .initialized "java/lang/ClassCastException", .methodLink RX11 177 yX11_needKind, .static yX11_needKind, .code yX3_seepOf cX3_seepOf 5 (some .int), .fieldLink RX3 21 "SeaLand$Lake" "ground" "LSeaLand$Ground;", .code yX2_levelOf cX2_levelOf 2 (some .int), .fieldLink RX2 15 "SeaLand$Ground" "height" "[I", .fieldLink RX2 25 "SeaLand$Ground" "water" "[I", .methodLink RX3 40 yX2_levelOf, .instanceMethod yX2_levelOf, .selects RX2 yX2_levelOf yX2_levelOf, .initialized RX2, .methodLink RX3 97 Lib.Math.max.name, .static Lib.Math.max.name, .initialized "java/lang/Math", .code Lib.Math.max.name Lib.Math.max.code 2 (some .int), .code yX10_leakBelow cX10_leakBelow 6 (some .int), .fieldLink RX10 34 "SeaLand$Work" "layers" "I", .fieldLink RX10 9 "SeaLand$Work" "thick" "[I", .fieldLink RX10 15 "SeaLand$Work" "clay" "[I", .methodLink RX3 100 yX10_leakBelow, .instanceMethod yX10_leakBelow, .selects RX10 yX10_leakBelow yX10_leakBelow, .methodLink RX11 219 yX3_seepOf, .instanceMethod yX3_seepOf, .selects RX3 yX3_seepOf yX3_seepOf, .initialized RX3, .methodLink RL 69 yX11_seep, .instanceMethod yX11_seep, .selects RX11 yX11_seep yX11_seep, .classLink RL 13 "java/lang/IndexOutOfBoundsException", .classLink RL 15 "java/lang/IllegalArgumentException", .classLink RL 50 "java/lang/ClassCastException"] bs2)
set_option maxHeartbeats 4000000 in
set_option maxRecDepth 100000 in
theorem l_seep (l : Launch) (hlt : l.stackTraces = false) (dC : Nat → ClassId) (dI : Nat → Nat → Nat) (kA : Nat → ClassId) (adK adV : Nat → Nat) (G : gT) (H0 : Heap) (nC nS : Int) (o0 : Nat) (p1 : Int32) (p2 : Int32) (ou : Nat) (hT : gH (dC, dI) kA (SHc nC nS) G H0) (hr_o0 : G o0 = some 14) (hr_ou : G ou = some 98) (hgC : 0 ≤ nC ∧ nC ≤ 40) (hgS : 0 ≤ nS ∧ nS ≤ 60) : Met l yL_seep w_l_seep ({ frames := 8, cells := 2, slots := 12, locals := 144 }) (va_Pc [.ref o0, .int p1, .int p2, .ref ou] (fun U => U.heap = H0 ∧ va_K (dC, dI) vwCl (tyl kA) U ∧ EVC adK adV (gA G H0.size) U U.heap ∧ NC U)) (va_Qi (fun (r : Int32) (u : Unit) => (0 ≤ r.toInt ∧ r.toInt ≤ 3)) (fun (_ : Unit) (t : State) => gH (dC, dI) kA (SHc nC nS) G t.heap ∧ gF (dC, dI) SKc G ([(98, 0)] : List (Nat × Nat)) H0 t.heap) (gA G H0.size)) 2 12 (gA G H0.size) := by
  refine va_MetW (cc := cL_seep) (maxL := 5) (ret := (some .int)) (by decide) rfl ?_
  intro p e s m args below meth c s₁ B hml hv
  obtain ⟨rfl, hH0, hK, hE, hN⟩ := hv
  have hx := B.exec
  have hb := B.bytes
  have hr := B.returns
  have hts := atoms_spec (ws := w_l_seep) B.pre
  have hown : s.vm.findClass RL = some m.cls := findClass_of_methodNamed B.named
  have hlocks := B.notSynchronized
  have htab := vx_table (x := yL_seep) B (hts _ List.mem_cons_self)
  subst hH0
  generalize hAe : gA G s.heap.size = A at hE ⊢
  have hA : ∀ q : Nat, s.heap.size ≤ q → A q := fun q h => by rw [← hAe]; exact Or.inr h
  have hG := gA_of hAe
  have hS : va_S A s.heap s.heap [] := va_S.rf
  have hF : gF (dC, dI) SKc G ([(98, 0)] : List (Nat × Nat)) s.heap s.heap := gF.rf
  have hl := lv_entry ([.ref o0, .int p1, .int p2, .ref ou]) (n := 5) (Nat.le_of_ble_eq_true rfl)
  rw [lg_entry_eq]
  generalize (lg_sl ([.ref o0, .int p1, .int p2, .ref ou]) ++ List.replicate (5 - (lg_sl ([.ref o0, .int p1, .int p2, .ref ou])).length) Slot.unset).toArray = ls at hl ⊢
  have hl : lv_has ls 5 [(0, .ref o0), (1, .int p1), (2, .int p2), (3, .ref ou)] := hl
  refine lv_aload_n hx hb dL_seep_0 rfl (lv_at hl 3 rfl) ?_
  refine lv_iconst (v := 0) hx hb dL_seep_1 (by decide) ?_
  refine lv_aload_n hx hb dL_seep_2 rfl (lv_at hl 0 rfl) ?_
  refine lv_iload_n hx hb dL_seep_3 rfl (lv_at hl 1 rfl) ?_
  refine lv_iload_n hx hb dL_seep_4 rfl (lv_at hl 2 rfl) ?_
  have hFc := gA_free hG hA hS
  refine vx_calli (vx_runV (As := [.int p1, .int p2]) (rest := [.int 0, .ref ou]) ⟨hx, hb, hml, hown, hts⟩ (c_seep l hlt dC dI kA adK adV G s.heap nC nS o0 p1 p2 hT hr_o0 (by omega) (by omega)) (cwV 2 hts (goodIn_app (goodIn_r _ [53, 54, 55, 7] rfl (by decide +kernel)) (goodIn_ca (goodIn_r _ [1, 2, 3, 4, 5, 6, 7, 8, 9, 10, 11, 12, 13, 14, 15, 16, 17, 18, 19, 20, 21, 22, 23, 24, 25, 26, 27, 28, 29, 30, 31, 32, 33, 34, 35, 36, 37, 38, 39, 40, 41, 42, 43, 44, 45, 46, 47, 48, 49, 50, 51, 52] rfl (by decide +kernel)) (bs2_in _ _))) rfl rfl rfl (by decide +kernel) ⟨(Nat.le_of_ble_eq_true rfl), (Nat.le_of_ble_eq_true rfl)⟩) ⟨fun a U g mk q => by obtain ⟨q0, q1, qK, qE⟩ := q; exact ⟨q0, q1, va_K.moved (u := U) (U := U.calling g mk a) (Vm.Alike.refl U.vm) qK, EVC.blind g mk a qE⟩, gH_rc hK hT hr_o0 shc_14 rfl, fun U hU hW => ⟨rfl, hU, va_K.moved hW.alike hK, hE.call hS hFc hU hW⟩⟩ rfl rfl hl.1 rfl (lv_room (Nat.le_of_ble_eq_true rfl)) dL_seep_5 ⟨(Nat.le_of_ble_eq_true rfl), (Nat.le_of_ble_eq_true rfl)⟩) hS (fun q _ h => hFc q h) hFc (fun q _ h => hFc q h) (fun E ce q9 u t H locs ht hvm _ hw2 _ _ hS hce hcv hcl => ?_) (fun r1 u t H locs ht hvm hw2 hB _ _ hS => ?_)
  · obtain ⟨hw2, hTx, hFx⟩ := hw2; rw [ht] at hTx hFx
    have hT := hTx; have hF := hF.more hFx (by decide)
    rcases hw2 with rfl | rfl | rfl
    · refine vx_catch (E := "java/lang/ClassCastException") hown [⟨0, 10, 13, 13⟩, ⟨0, 10, 17, 15⟩] ⟨0, 10, 21, 50⟩ [] (by rw [htab]; rfl) (fun z h => by
          simp only [List.mem_cons, List.not_mem_nil, or_false] at h
          rcases h with rfl | rfl
          · exact Or.inr ⟨by decide, "java/lang/IndexOutOfBoundsException", (ht_at2 hts 55 rfl), hN ("java/lang/ClassCastException", "java/lang/IndexOutOfBoundsException") (by decide +kernel)⟩
          · exact Or.inr ⟨by decide, "java/lang/IllegalArgumentException", (ht_at2 hts 56 rfl), hN ("java/lang/ClassCastException", "java/lang/IllegalArgumentException") (by decide +kernel)⟩) (by decide) (by decide) (ht_at2 hts 57 rfl) (va_Nw.use rfl (hE.2 _ (List.mem_of_getElem? (i := 1) rfl))) hce hcv hcl ?_
      refine lv_astore (lv' := [(4, .ref q9), (0, .ref o0), (1, .int p1), (2, .int p2), (3, .ref ou)]) hx hb dL_seep_21 hl (by decide) rfl (fun ls hl => ?_)
      refine lv_iconst (v := 3) hx hb dL_seep_23 (by decide) ?_
      exact W.iret (v := 3) hx hb hr (fun t ht hW => ⟨⟨3, (), rfl, (by exact (rg_t (a := 3) (by decide) (by first | decide | omega) (by first | decide | omega))), by (try dsimp only); rw [ht]; exact ⟨hT, hF⟩⟩, hS.F ht⟩) hS.2.2 dL_seep_24
    · refine vx_catch (E := "java/lang/IllegalArgumentException") hown [⟨0, 10, 13, 13⟩] ⟨0, 10, 17, 15⟩ [⟨0, 10, 21, 50⟩] (by rw [htab]; rfl) (fun z h => by
          simp only [List.mem_cons, List.not_mem_nil, or_false] at h
          rcases h with rfl
          · exact Or.inr ⟨by decide, "java/lang/IndexOutOfBoundsException", (ht_at2 hts 55 rfl), hN ("java/lang/IllegalArgumentException", "java/lang/IndexOutOfBoundsException") (by decide +kernel)⟩) (by decide) (by decide) (ht_at2 hts 56 rfl) (va_Nw.use rfl (hE.1.1.2.1.2.1 _ (List.mem_of_getElem? (i := 1) rfl))) hce hcv hcl ?_
      refine lv_astore (lv' := [(4, .ref q9), (0, .ref o0), (1, .int p1), (2, .int p2), (3, .ref ou)]) hx hb dL_seep_17 hl (by decide) rfl (fun ls hl => ?_)
      refine lv_iconst (v := 2) hx hb dL_seep_19 (by decide) ?_
      exact W.iret (v := 2) hx hb hr (fun t ht hW => ⟨⟨2, (), rfl, (by exact (rg_t (a := 2) (by decide) (by first | decide | omega) (by first | decide | omega))), by (try dsimp only); rw [ht]; exact ⟨hT, hF⟩⟩, hS.F ht⟩) hS.2.2 dL_seep_20
    · refine vx_catch (E := "java/lang/IndexOutOfBoundsException") hown [] ⟨0, 10, 13, 13⟩ [⟨0, 10, 17, 15⟩, ⟨0, 10, 21, 50⟩] (by rw [htab]; rfl) (fun z h => absurd h List.not_mem_nil) (by decide) (by decide) (ht_at2 hts 55 rfl) (va_Nw.use rfl (hE.1.1.2.1.2.1 _ (List.mem_of_getElem? (i := 0) rfl))) hce hcv hcl ?_
      refine lv_astore (lv' := [(4, .ref q9), (0, .ref o0), (1, .int p1), (2, .int p2), (3, .ref ou)]) hx hb dL_seep_13 hl (by decide) rfl (fun ls hl => ?_)
      refine lv_iconst (v := 1) hx hb dL_seep_15 (by decide) ?_
      exact W.iret (v := 1) hx hb hr (fun t ht hW => ⟨⟨1, (), rfl, (by exact (rg_t (a := 1) (by decide) (by first | decide | omega) (by first | decide | omega))), by (try dsimp only); rw [ht]; exact ⟨hT, hF⟩⟩, hS.F ht⟩) hS.2.2 dL_seep_16
  · obtain ⟨hT, hF1⟩ := hB
    rw [ht] at hT hF1
    have hF := hF.more hF1 (by decide)
    try dsimp only at hw2
    have h3 := hw2
    refine lv_i2l (v := r1.toInt64) hx hb dL_seep_8 rfl ?_
    refine tw_last (i := 0)  hx hb hK hT hG hS hr_ou shc_98 rfl (by unfold vp_in; decide) ⟨_, rfl⟩ dL_seep_9 (fun H locs hT oq m4 oi hS => ?_)
    have hF := hF.ast hr_ou skc_98 oq (by decide)
    refine lv_goto (tgt := 25) hx hb dL_seep_10 (by decide) ?_
    refine lv_iconst (v := 0) hx hb dL_seep_25 (by decide) ?_
    exact W.iret (v := 0) hx hb hr (fun t ht hW => ⟨⟨0, (), rfl, (by exact (rg_t (a := 0) (by decide) (by first | decide | omega) (by first | decide | omega))), by (try dsimp only); rw [ht]; exact ⟨hT, hF⟩⟩, hS.F ht⟩) hS.2.2 dL_seep_26
def w_l_shut : List Cond := .codeWith yL_shut cL_shut 4 (some .int) [(0, 16, 19, 13), (0, 16, 22, 50)] :: (HAppend.hAppend (α := List Cond) (β := List Cond) (γ := List Cond) [.code yX11_shut cX11_shut 3 (some .boolean), .code yX11_workOf cX11_workOf 2 (some (.object "SeaLand$Work")), .fieldLink RX11 16 "SeaLand" "lake" "LSeaLand$Lake;", .code yX11_within cX11_within 3 (some .boolean), .methodLink RX11 58 yX11_within, .static yX11_within, .initialized RX11, .classLink RX11 557 "java/lang/IndexOutOfBoundsException", .initialized "java/lang/IndexOutOfBoundsException", .methodLink RX11 167 yX11_workOf, .instanceMethod yX11_workOf, .selects RX11 yX11_workOf yX11_workOf, .code yX11_needKind cX11_needKind 1 none, .classLink RX11 552 "java/lang/ClassCastException", .initialized "java/lang/ClassCastException", .methodLink RX11 177 yX11_needKind, .static yX11_needKind, .fieldLink RX11 23 "SeaLand" "rows" "LSeaLand$Rows;", .code yX6_forget cX6_forget 1 none, .fieldLink RX6 18 "SeaLand$Rows" "kept" "I", .fieldLink RX6 22 "SeaLand$Rows" "oldest" "I", .methodLink RX11 76 yX6_forget, .instanceMethod yX6_forget, .selects RX6 yX6_forget yX6_forget, .initialized RX6, .methodLink RL 72 yX11_shut, .instanceMethod yX11_shut, .selects RX11 yX11_shut yX11_shut, .classLink RL 13 "java/lang/IndexOutOfBoundsException", .classLink RL 50 "java/lang/ClassCastException"] bs2)
set_option maxHeartbeats 4000000 in
set_option maxRecDepth 100000 in
theorem l_shut (l : Launch) (hlt : l.stackTraces = false) (dC : Nat → ClassId) (dI : Nat → Nat → Nat) (kA : Nat → ClassId) (adK adV : Nat → Nat) (G : gT) (H0 : Heap) (nC nS : Int) (o0 : Nat) (p1 : Int32) (ou : Nat) (hT : gH (dC, dI) kA (SHc nC nS) G H0) (hr_o0 : G o0 = some 14) (hr_ou : G ou = some 98) (hgC : 0 ≤ nC ∧ nC ≤ 40) (hgS : 0 ≤ nS ∧ nS ≤ 60) : Met l yL_shut w_l_shut ({ frames := 8, cells := 2, slots := 12, locals := 143 }) (va_Pc [.ref o0, .int p1, .ref ou] (fun U => U.heap = H0 ∧ va_K (dC, dI) vwCl (tyl kA) U ∧ EVC adK adV (gA G H0.size) U U.heap ∧ NC U)) (va_Qi (fun (r : Int32) (u : Unit) => (0 ≤ r.toInt ∧ r.toInt ≤ 2)) (fun (_ : Unit) (t : State) => gH (dC, dI) kA (SHc nC nS) G t.heap ∧ gF (dC, dI) SKc G ([(9, 2), (9, 3), (13, 2), (98, 0)] : List (Nat × Nat)) H0 t.heap) (gA G H0.size)) 2 12 (gA G H0.size) := by
  refine va_MetW (cc := cL_shut) (maxL := 4) (ret := (some .int)) (by decide) rfl ?_
  intro p e s m args below meth c s₁ B hml hv
  obtain ⟨rfl, hH0, hK, hE, hN⟩ := hv
  have hx := B.exec
  have hb := B.bytes
  have hr := B.returns
  have hts := atoms_spec (ws := w_l_shut) B.pre
  have hown : s.vm.findClass RL = some m.cls := findClass_of_methodNamed B.named
  have hlocks := B.notSynchronized
  have htab := vx_table (x := yL_shut) B (hts _ List.mem_cons_self)
  subst hH0
  generalize hAe : gA G s.heap.size = A at hE ⊢
  have hA : ∀ q : Nat, s.heap.size ≤ q → A q := fun q h => by rw [← hAe]; exact Or.inr h
  have hG := gA_of hAe
  have hS : va_S A s.heap s.heap [] := va_S.rf
  have hF : gF (dC, dI) SKc G ([(9, 2), (9, 3), (13, 2), (98, 0)] : List (Nat × Nat)) s.heap s.heap := gF.rf
  have hl := lv_entry ([.ref o0, .int p1, .ref ou]) (n := 4) (Nat.le_of_ble_eq_true rfl)
  rw [lg_entry_eq]
  generalize (lg_sl ([.ref o0, .int p1, .ref ou]) ++ List.replicate (4 - (lg_sl ([.ref o0, .int p1, .ref ou])).length) Slot.unset).toArray = ls at hl ⊢
  have hl : lv_has ls 4 [(0, .ref o0), (1, .int p1), (2, .ref ou)] := hl
  refine lv_aload_n hx hb dL_shut_0 rfl (lv_at hl 2 rfl) ?_
  refine lv_iconst (v := 0) hx hb dL_shut_1 (by decide) ?_
  refine lv_aload_n hx hb dL_shut_2 rfl (lv_at hl 0 rfl) ?_
  refine lv_iload_n hx hb dL_shut_3 rfl (lv_at hl 1 rfl) ?_
  have hFc := gA_free hG hA hS
  refine vx_calli (vx_runV (As := [.int p1]) (rest := [.int 0, .ref ou]) ⟨hx, hb, hml, hown, hts⟩ (c_shut l hlt dC dI kA adK adV G s.heap nC nS o0 p1 hT hr_o0 (by omega) (by omega)) (cwV 1 hts (goodIn_app (goodIn_r _ [26, 27, 28, 7] rfl (by decide +kernel)) (goodIn_ca (goodIn_r _ [1, 2, 3, 4, 5, 6, 7, 8, 9, 10, 11, 12, 13, 14, 15, 16, 17, 18, 19, 20, 21, 22, 23, 24, 25] rfl (by decide +kernel)) (bs2_in _ _))) rfl rfl rfl (by decide +kernel) ⟨(Nat.le_of_ble_eq_true rfl), (Nat.le_of_ble_eq_true rfl)⟩) ⟨fun a U g mk q => by obtain ⟨q0, q1, qK, qE⟩ := q; exact ⟨q0, q1, va_K.moved (u := U) (U := U.calling g mk a) (Vm.Alike.refl U.vm) qK, EVC.blind g mk a qE⟩, gH_rc hK hT hr_o0 shc_14 rfl, fun U hU hW => ⟨rfl, hU, va_K.moved hW.alike hK, hE.call hS hFc hU hW⟩⟩ rfl rfl hl.1 rfl (lv_room (Nat.le_of_ble_eq_true rfl)) dL_shut_4 ⟨(Nat.le_of_ble_eq_true rfl), (Nat.le_of_ble_eq_true rfl)⟩) hS (fun q _ h => hFc q h) hFc (fun q _ h => hFc q h) (fun E ce q9 u t H locs ht hvm _ hw2 _ _ hS hce hcv hcl => ?_) (fun r1 u t H locs ht hvm hw2 hB _ _ hS => ?_)
  · obtain ⟨hw2, hTx, hFx⟩ := hw2; rw [ht] at hTx hFx
    have hT := hTx; have hF := hF.more hFx (by decide)
    rcases hw2 with rfl | rfl
    · refine vx_catch (E := "java/lang/ClassCastException") hown [⟨0, 16, 19, 13⟩] ⟨0, 16, 22, 50⟩ [] (by rw [htab]; rfl) (fun z h => by
          simp only [List.mem_cons, List.not_mem_nil, or_false] at h
          rcases h with rfl
          · exact Or.inr ⟨by decide, "java/lang/IndexOutOfBoundsException", (ht_at2 hts 28 rfl), hN ("java/lang/ClassCastException", "java/lang/IndexOutOfBoundsException") (by decide +kernel)⟩) (by decide) (by decide) (ht_at2 hts 29 rfl) (va_Nw.use rfl (hE.2 _ (List.mem_of_getElem? (i := 1) rfl))) hce hcv hcl ?_
      refine lv_astore_n (lv' := [(3, .ref q9), (0, .ref o0), (1, .int p1), (2, .ref ou)]) hx hb dL_shut_22 rfl hl (by decide) rfl (fun ls hl => ?_)
      refine lv_iconst (v := 2) hx hb dL_shut_23 (by decide) ?_
      exact W.iret (v := 2) hx hb hr (fun t ht hW => ⟨⟨2, (), rfl, (by exact (rg_t (a := 2) (by decide) (by first | decide | omega) (by first | decide | omega))), by (try dsimp only); rw [ht]; exact ⟨hT, hF⟩⟩, hS.F ht⟩) hS.2.2 dL_shut_24
    · refine vx_catch (E := "java/lang/IndexOutOfBoundsException") hown [] ⟨0, 16, 19, 13⟩ [⟨0, 16, 22, 50⟩] (by rw [htab]; rfl) (fun z h => absurd h List.not_mem_nil) (by decide) (by decide) (ht_at2 hts 28 rfl) (va_Nw.use rfl (hE.1.1.2.1.2.1 _ (List.mem_of_getElem? (i := 0) rfl))) hce hcv hcl ?_
      refine lv_astore_n (lv' := [(3, .ref q9), (0, .ref o0), (1, .int p1), (2, .ref ou)]) hx hb dL_shut_19 rfl hl (by decide) rfl (fun ls hl => ?_)
      refine lv_iconst (v := 1) hx hb dL_shut_20 (by decide) ?_
      exact W.iret (v := 1) hx hb hr (fun t ht hW => ⟨⟨1, (), rfl, (by exact (rg_t (a := 1) (by decide) (by first | decide | omega) (by first | decide | omega))), by (try dsimp only); rw [ht]; exact ⟨hT, hF⟩⟩, hS.F ht⟩) hS.2.2 dL_shut_21
  · obtain ⟨hT, hF1⟩ := hB
    rw [ht] at hT hF1
    have hF := hF.more hF1 (by decide)
    try dsimp only at hw2
    have h3 := hw2
    refine lv_if_eq (tgt := 14) hx hb dL_shut_7 (by decide) (fun c4 => (by exfalso; have q9 : r1.toInt = 0 := ti_eq c4 rfl (by decide); omega)) (fun c4 => ?_)
    have t5 : r1.toInt ≠ 0 := ti_ne c4 rfl (by decide)
    refine lv_lconst (v := 1) hx hb dL_shut_10 (by decide) ?_
    refine lv_goto (tgt := 15) hx hb dL_shut_11 (by decide) ?_
    refine tw_last (i := 0)  hx hb hK hT hG hS hr_ou shc_98 rfl (by unfold vp_in; decide) ⟨_, rfl⟩ dL_shut_15 (fun H locs hT oq m6 oi hS => ?_)
    have hF := hF.ast hr_ou skc_98 oq (by decide)
    refine lv_goto (tgt := 25) hx hb dL_shut_16 (by decide) ?_
    refine lv_iconst (v := 0) hx hb dL_shut_25 (by decide) ?_
    exact W.iret (v := 0) hx hb hr (fun t ht hW => ⟨⟨0, (), rfl, (by exact (rg_t (a := 0) (by decide) (by first | decide | omega) (by first | decide | omega))), by (try dsimp only); rw [ht]; exact ⟨hT, hF⟩⟩, hS.F ht⟩) hS.2.2 dL_shut_26
def w_l_sky : List Cond := .codeWith yL_sky cL_sky 5 (some .int) [(0, 10, 13, 39)] :: (HAppend.hAppend (α := List Cond) (β := List Cond) (γ := List Cond) [.code yX11_sky cX11_sky 3 (some .int), .constant RX11 110 40000, .code yX11_within cX11_within 3 (some .boolean), .methodLink RX11 58 yX11_within, .static yX11_within, .initialized RX11, .classLink RX11 134 "java/util/NoSuchElementException", .initialized "java/util/NoSuchElementException", .fieldLink RX11 16 "SeaLand" "lake" "LSeaLand$Lake;", .code yX8_rainAt cX8_rainAt 3 (some .int), .fieldLink RX8 31 "SeaLand$Sky" "rain" "LSeaLand$Tellings;", .code yX9_standingAt cX9_standingAt 5 (some .int), .fieldLink RX9 18 "SeaLand$Tellings" "told" "I", .fieldLink RX9 9 "SeaLand$Tellings" "hours" "[I", .methodLink RX8 44 yX9_standingAt, .instanceMethod yX9_standingAt, .selects RX9 yX9_standingAt yX9_standingAt, .initialized RX9, .methodLink RX11 146 yX8_rainAt, .instanceMethod yX8_rainAt, .selects RX8 yX8_rainAt yX8_rainAt, .initialized RX8, .code yX8_windAt cX8_windAt 4 (some .int), .fieldLink RX8 27 "SeaLand$Sky" "wind" "LSeaLand$Tellings;", .code yX9_nearestNumberBefore cX9_nearestNumberBefore 5 (some .int), .fieldLink RX9 15 "SeaLand$Tellings" "numbers" "[I", .methodLink RX8 54 yX9_nearestNumberBefore, .instanceMethod yX9_nearestNumberBefore, .selects RX9 yX9_nearestNumberBefore yX9_nearestNumberBefore, .code yX9_nearestNumberAfter cX9_nearestNumberAfter 5 (some .int), .constant RX9 22 40001, .methodLink RX8 57 yX9_nearestNumberAfter, .instanceMethod yX9_nearestNumberAfter, .selects RX9 yX9_nearestNumberAfter yX9_nearestNumberAfter, .methodLink RX8 60 Lib.Math.max.name, .static Lib.Math.max.name, .initialized "java/lang/Math", .code Lib.Math.max.name Lib.Math.max.code 2 (some .int), .methodLink RX11 143 yX8_windAt, .instanceMethod yX8_windAt, .selects RX8 yX8_windAt yX8_windAt, .code yX8_outsideAt cX8_outsideAt 4 (some .int), .fieldLink RX8 9 "SeaLand$Sky" "tides" "[I", .code yJ9_floorMod_7cf53 cJ9_floorMod_7cf53 3 (some .int), .methodLink RX8 38 yJ9_floorMod_7cf53, .static yJ9_floorMod_7cf53, .initialized RJ9, .fieldLink RX8 34 "SeaLand$Sky" "storms" "I", .fieldLink RX8 15 "SeaLand$Sky" "stormFrom" "[I", .fieldLink RX8 18 "SeaLand$Sky" "stormTo" "[I", .fieldLink RX8 21 "SeaLand$Sky" "stormMore" "[I", .methodLink RX11 139 yX8_outsideAt, .instanceMethod yX8_outsideAt, .selects RX8 yX8_outsideAt yX8_outsideAt, .methodLink RL 35 yX11_sky, .instanceMethod yX11_sky, .selects RX11 yX11_sky yX11_sky, .classLink RL 39 "java/util/NoSuchElementException"] bs2)
set_option maxHeartbeats 4000000 in
set_option maxRecDepth 100000 in
theorem l_sky (l : Launch) (hlt : l.stackTraces = false) (dC : Nat → ClassId) (dI : Nat → Nat → Nat) (kA : Nat → ClassId) (adK adV : Nat → Nat) (G : gT) (H0 : Heap) (nC nS : Int) (o0 : Nat) (p1 : Int32) (p2 : Int32) (ou : Nat) (hT : gH (dC, dI) kA (SHc nC nS) G H0) (hr_o0 : G o0 = some 14) (hr_ou : G ou = some 98) (hgC : 0 ≤ nC ∧ nC ≤ 40) (hgS : 0 ≤ nS ∧ nS ≤ 60) : Met l yL_sky w_l_sky ({ frames := 7, cells := 1, slots := 6, locals := 122 }) (va_Pc [.ref o0, .int p1, .int p2, .ref ou] (fun U => U.heap = H0 ∧ va_K (dC, dI) vwCl (tyl kA) U ∧ EVC adK adV (gA G H0.size) U U.heap ∧ NC U)) (va_Qi (fun (r : Int32) (u : Unit) => (0 ≤ r.toInt ∧ r.toInt ≤ 1)) (fun (_ : Unit) (t : State) => gH (dC, dI) kA (SHc nC nS) G t.heap ∧ gF (dC, dI) SKc G ([(98, 0)] : List (Nat × Nat)) H0 t.heap) (gA G H0.size)) 1 6 (gA G H0.size) := by
  refine va_MetW (cc := cL_sky) (maxL := 5) (ret := (some .int)) (by decide) rfl ?_
  intro p e s m args below meth c s₁ B hml hv
  obtain ⟨rfl, hH0, hK, hE, hN⟩ := hv
  have hx := B.exec
  have hb := B.bytes
  have hr := B.returns
  have hts := atoms_spec (ws := w_l_sky) B.pre
  have hown : s.vm.findClass RL = some m.cls := findClass_of_methodNamed B.named
  have hlocks := B.notSynchronized
  have htab := vx_table (x := yL_sky) B (hts _ List.mem_cons_self)
  subst hH0
  generalize hAe : gA G s.heap.size = A at hE ⊢
  have hA : ∀ q : Nat, s.heap.size ≤ q → A q := fun q h => by rw [← hAe]; exact Or.inr h
  have hG := gA_of hAe
  have hS : va_S A s.heap s.heap [] := va_S.rf
  have hF : gF (dC, dI) SKc G ([(98, 0)] : List (Nat × Nat)) s.heap s.heap := gF.rf
  have hl := lv_entry ([.ref o0, .int p1, .int p2, .ref ou]) (n := 5) (Nat.le_of_ble_eq_true rfl)
  rw [lg_entry_eq]
  generalize (lg_sl ([.ref o0, .int p1, .int p2, .ref ou]) ++ List.replicate (5 - (lg_sl ([.ref o0, .int p1, .int p2, .ref ou])).length) Slot.unset).toArray = ls at hl ⊢
  have hl : lv_has ls 5 [(0, .ref o0), (1, .int p1), (2, .int p2), (3, .ref ou)] := hl
  refine lv_aload_n hx hb dL_sky_0 rfl (lv_at hl 3 rfl) ?_
  refine lv_iconst (v := 0) hx hb dL_sky_1 (by decide) ?_
  refine lv_aload_n hx hb dL_sky_2 rfl (lv_at hl 0 rfl) ?_
  refine lv_iload_n hx hb dL_sky_3 rfl (lv_at hl 1 rfl) ?_
  refine lv_iload_n hx hb dL_sky_4 rfl (lv_at hl 2 rfl) ?_
  have hFc := gA_free hG hA hS
  refine vx_calli (vx_runV (As := [.int p1, .int p2]) (rest := [.int 0, .ref ou]) ⟨hx, hb, hml, hown, hts⟩ (c_sky l hlt dC dI kA adK adV G s.heap nC nS o0 p1 p2 hT hr_o0 (by omega) (by omega)) (cwV 2 hts (goodIn_app (goodIn_r _ [55, 56, 57, 6] rfl (by decide +kernel)) (goodIn_ca (goodIn_r _ [1, 2, 3, 4, 5, 6, 7, 8, 9, 10, 11, 12, 13, 14, 15, 16, 17, 18, 19, 20, 21, 22, 23, 24, 25, 26, 27, 28, 29, 30, 31, 32, 33, 34, 35, 36, 37, 38, 39, 40, 41, 42, 43, 44, 45, 46, 47, 48, 49, 50, 51, 52, 53, 54] rfl (by decide +kernel)) (bs2_in _ _))) rfl rfl rfl (by decide +kernel) ⟨(Nat.le_of_ble_eq_true rfl), (Nat.le_of_ble_eq_true rfl)⟩) ⟨fun a U g mk q => by obtain ⟨q0, q1, qK, qE⟩ := q; exact ⟨q0, q1, va_K.moved (u := U) (U := U.calling g mk a) (Vm.Alike.refl U.vm) qK, EVC.blind g mk a qE⟩, gH_rc hK hT hr_o0 shc_14 rfl, fun U hU hW => ⟨rfl, hU, va_K.moved hW.alike hK, hE.call hS hFc hU hW⟩⟩ rfl rfl hl.1 rfl (lv_room (Nat.le_of_ble_eq_true rfl)) dL_sky_5 ⟨(Nat.le_of_ble_eq_true rfl), (Nat.le_of_ble_eq_true rfl)⟩) hS (fun q _ h => hFc q h) hFc (fun q _ h => hFc q h) (fun E ce q9 u t H locs ht hvm _ hw2 _ _ hS hce hcv hcl => ?_) (fun r1 u t H locs ht hvm hw2 hB _ _ hS => ?_)
  · obtain ⟨hw2, hTx, hFx⟩ := hw2; rw [ht] at hTx hFx
    have hT := hTx; have hF := hF.more hFx (by decide)
    subst hw2
    refine vx_catch (E := "java/util/NoSuchElementException") hown [] ⟨0, 10, 13, 39⟩ [] (by rw [htab]; rfl) (fun z h => absurd h List.not_mem_nil) (by decide) (by decide) (ht_at2 hts 57 rfl) (va_Nw.use rfl (hE.1.1.2.1.2.1 _ (List.mem_of_getElem? (i := 2) rfl))) hce hcv hcl ?_
    refine lv_astore (lv' := [(4, .ref q9), (0, .ref o0), (1, .int p1), (2, .int p2), (3, .ref ou)]) hx hb dL_sky_13 hl (by decide) rfl (fun ls hl => ?_)
    refine lv_iconst (v := 1) hx hb dL_sky_15 (by decide) ?_
    exact W.iret (v := 1) hx hb hr (fun t ht hW => ⟨⟨1, (), rfl, (by exact (rg_t (a := 1) (by decide) (by first | decide | omega) (by first | decide | omega))), by (try dsimp only); rw [ht]; exact ⟨hT, hF⟩⟩, hS.F ht⟩) hS.2.2 dL_sky_16
  · obtain ⟨hT, hF1⟩ := hB
    rw [ht] at hT hF1
    have hF := hF.more hF1 (by decide)
    try dsimp only at hw2
    refine lv_i2l (v := r1.toInt64) hx hb dL_sky_8 rfl ?_
    refine tw_last (i := 0)  hx hb hK hT hG hS hr_ou shc_98 rfl (by unfold vp_in; decide) ⟨_, rfl⟩ dL_sky_9 (fun H locs hT oq m3 oi hS => ?_)
    have hF := hF.ast hr_ou skc_98 oq (by decide)
    refine lv_goto (tgt := 17) hx hb dL_sky_10 (by decide) ?_
    refine lv_iconst (v := 0) hx hb dL_sky_17 (by decide) ?_
    exact W.iret (v := 0) hx hb hr (fun t ht hW => ⟨⟨0, (), rfl, (by exact (rg_t (a := 0) (by decide) (by first | decide | omega) (by first | decide | omega))), by (try dsimp only); rw [ht]; exact ⟨hT, hF⟩⟩, hS.F ht⟩) hS.2.2 dL_sky_18
def w_l_sluice : List Cond := .codeWith yL_sluice cL_sluice 6 (some .int) [(0, 12, 15, 13), (0, 12, 19, 15), (0, 12, 23, 45)] :: (HAppend.hAppend (α := List Cond) (β := List Cond) (γ := List Cond) [.code yX11_sluice cX11_sluice 4 (some .int), .code yX11_needSquare cX11_needSquare 1 none, .code yX11_within cX11_within 3 (some .boolean), .methodLink RX11 58 yX11_within, .static yX11_within, .initialized RX11, .classLink RX11 557 "java/lang/IndexOutOfBoundsException", .initialized "java/lang/IndexOutOfBoundsException", .methodLink RX11 55 yX11_needSquare, .static yX11_needSquare, .code yX11_needNumbers cX11_needNumbers 1 none, .classLink RX11 547 "java/lang/IllegalArgumentException", .initialized "java/lang/IllegalArgumentException", .methodLink RX11 62 yX11_needNumbers, .static yX11_needNumbers, .code yX11_needRoomForWork cX11_needRoomForWork 1 none, .fieldLink RX11 16 "SeaLand" "lake" "LSeaLand$Lake;", .classLink RX11 345 "java/lang/UnsupportedOperationException", .initialized "java/lang/UnsupportedOperationException", .methodLink RX11 149 yX11_needRoomForWork, .instanceMethod yX11_needRoomForWork, .selects RX11 yX11_needRoomForWork yX11_needRoomForWork, .code yX3_isFreeLand cX3_isFreeLand 2 (some .boolean), .fieldLink RX3 21 "SeaLand$Lake" "ground" "LSeaLand$Ground;", .code yX3_workOn cX3_workOn 3 (some .int), .fieldLink RX3 47 "SeaLand$Lake" "built" "I", .fieldLink RX3 27 "SeaLand$Lake" "works" "[LSeaLand$Work;", .methodLink RX3 53 yX3_workOn, .instanceMethod yX3_workOn, .selects RX3 yX3_workOn yX3_workOn, .initialized RX3, .methodLink RX11 152 yX3_isFreeLand, .instanceMethod yX3_isFreeLand, .selects RX3 yX3_isFreeLand yX3_isFreeLand, .code yX3_isSeaBeside cX3_isSeaBeside 3 (some .boolean), .code yX11_stepsApart cX11_stepsApart 2 (some .int), .methodLink RX11 580 Lib.Math.abs.name, .static Lib.Math.abs.name, .initialized "java/lang/Math", .code Lib.Math.abs.name Lib.Math.abs.code 1 (some .int), .static yX11_stepsApart, .methodLink RX11 156 yX3_isSeaBeside, .instanceMethod yX3_isSeaBeside, .selects RX3 yX3_isSeaBeside yX3_isSeaBeside, .fieldLink RX11 23 "SeaLand" "rows" "LSeaLand$Rows;", .code yX6_forget cX6_forget 1 none, .fieldLink RX6 18 "SeaLand$Rows" "kept" "I", .fieldLink RX6 22 "SeaLand$Rows" "oldest" "I", .methodLink RX11 76 yX6_forget, .instanceMethod yX6_forget, .selects RX6 yX6_forget yX6_forget, .initialized RX6, .code yX3_build cX3_build 5 (some .int), .code yX10_begin cX10_begin 5 none, .fieldLink RX10 18 "SeaLand$Work" "kind" "I", .fieldLink RX10 22 "SeaLand$Work" "square" "I", .fieldLink RX10 25 "SeaLand$Work" "to" "I", .fieldLink RX10 28 "SeaLand$Work" "size" "I", .fieldLink RX10 31 "SeaLand$Work" "width" "I", .fieldLink RX10 34 "SeaLand$Work" "layers" "I", .fieldLink RX10 37 "SeaLand$Work" "coal" "I", .fieldLink RX10 40 "SeaLand$Work" "on" "Z", .fieldLink RX10 44 "SeaLand$Work" "latest" "I", .fieldLink RX10 47 "SeaLand$Work" "total" "I", .methodLink RX3 60 yX10_begin, .instanceMethod yX10_begin, .selects RX10 yX10_begin yX10_begin, .initialized RX10, .methodLink RX11 163 yX3_build, .instanceMethod yX3_build, .selects RX3 yX3_build yX3_build, .methodLink RL 56 yX11_sluice, .instanceMethod yX11_sluice, .selects RX11 yX11_sluice yX11_sluice, .classLink RL 13 "java/lang/IndexOutOfBoundsException", .classLink RL 15 "java/lang/IllegalArgumentException", .classLink RL 45 "java/lang/UnsupportedOperationException"] bs2)
set_option maxHeartbeats 4000000 in
set_option maxRecDepth 100000 in
theorem l_sluice (l : Launch) (hlt : l.stackTraces = false) (dC : Nat → ClassId) (dI : Nat → Nat → Nat) (kA : Nat → ClassId) (adK adV : Nat → Nat) (G : gT) (H0 : Heap) (nC nS : Int) (o0 : Nat) (p1 : Int32) (p2 : Int32) (p3 : Int32) (ou : Nat) (hT : gH (dC, dI) kA (SHc nC nS) G H0) (hr_o0 : G o0 = some 14) (hr_ou : G ou = some 98) (hgC : 0 ≤ nC ∧ nC ≤ 40) (hgS : 0 ≤ nS ∧ nS ≤ 60) : Met l yL_sluice w_l_sluice ({ frames := 8, cells := 3, slots := 18, locals := 143 }) (va_Pc [.ref o0, .int p1, .int p2, .int p3, .ref ou] (fun U => U.heap = H0 ∧ va_K (dC, dI) vwCl (tyl kA) U ∧ EVC adK adV (gA G H0.size) U U.heap ∧ NC U)) (va_Qi (fun (r : Int32) (u : Unit) => (0 ≤ r.toInt ∧ r.toInt ≤ 3)) (fun (_ : Unit) (t : State) => gH (dC, dI) kA (SHc nC nS) G t.heap ∧ gF (dC, dI) SKc G ([(6, 3), (9, 2), (9, 3), (13, 2), (13, 3), (13, 4), (13, 5), (13, 6), (13, 7), (13, 8), (13, 9), (13, 10), (13, 11), (98, 0)] : List (Nat × Nat)) H0 t.heap) (gA G H0.size)) 3 18 (gA G H0.size) := by
  refine va_MetW (cc := cL_sluice) (maxL := 6) (ret := (some .int)) (by decide) rfl ?_
  intro p e s m args below meth c s₁ B hml hv
  obtain ⟨rfl, hH0, hK, hE, hN⟩ := hv
  have hx := B.exec
  have hb := B.bytes
  have hr := B.returns
  have hts := atoms_spec (ws := w_l_sluice) B.pre
  have hown : s.vm.findClass RL = some m.cls := findClass_of_methodNamed B.named
  have hlocks := B.notSynchronized
  have htab := vx_table (x := yL_sluice) B (hts _ List.mem_cons_self)
  subst hH0
  generalize hAe : gA G s.heap.size = A at hE ⊢
  have hA : ∀ q : Nat, s.heap.size ≤ q → A q := fun q h => by rw [← hAe]; exact Or.inr h
  have hG := gA_of hAe
  have hS : va_S A s.heap s.heap [] := va_S.rf
  have hF : gF (dC, dI) SKc G ([(6, 3), (9, 2), (9, 3), (13, 2), (13, 3), (13, 4), (13, 5), (13, 6), (13, 7), (13, 8), (13, 9), (13, 10), (13, 11), (98, 0)] : List (Nat × Nat)) s.heap s.heap := gF.rf
  have hl := lv_entry ([.ref o0, .int p1, .int p2, .int p3, .ref ou]) (n := 6) (Nat.le_of_ble_eq_true rfl)
  rw [lg_entry_eq]
  generalize (lg_sl ([.ref o0, .int p1, .int p2, .int p3, .ref ou]) ++ List.replicate (6 - (lg_sl ([.ref o0, .int p1, .int p2, .int p3, .ref ou])).length) Slot.unset).toArray = ls at hl ⊢
  have hl : lv_has ls 6 [(0, .ref o0), (1, .int p1), (2, .int p2), (3, .int p3), (4, .ref ou)] := hl
  refine lv_aload hx hb dL_sluice_0 (lv_at hl 4 rfl) ?_
  refine lv_iconst (v := 0) hx hb dL_sluice_2 (by decide) ?_
  refine lv_aload_n hx hb dL_sluice_3 rfl (lv_at hl 0 rfl) ?_
  refine lv_iload_n hx hb dL_sluice_4 rfl (lv_at hl 1 rfl) ?_
  refine lv_iload_n hx hb dL_sluice_5 rfl (lv_at hl 2 rfl) ?_
  refine lv_iload_n hx hb dL_sluice_6 rfl (lv_at hl 3 rfl) ?_
  have hFc := gA_free hG hA hS
  refine vx_calli (vx_runV (As := [.int p1, .int p2, .int p3]) (rest := [.int 0, .ref ou]) ⟨hx, hb, hml, hown, hts⟩ (c_sluice l hlt dC dI kA adK adV G s.heap nC nS o0 p1 p2 p3 hT hr_o0 (by omega) (by omega)) (cwV 3 hts (goodIn_app (goodIn_r _ [72, 73, 74, 6] rfl (by decide +kernel)) (goodIn_ca (goodIn_r _ [1, 2, 3, 4, 5, 6, 7, 8, 9, 10, 11, 12, 13, 14, 15, 16, 17, 18, 19, 20, 21, 22, 23, 24, 25, 26, 27, 28, 29, 30, 31, 32, 33, 34, 35, 36, 37, 38, 39, 40, 41, 42, 43, 44, 45, 46, 47, 48, 49, 50, 51, 52, 53, 54, 55, 56, 57, 58, 59, 60, 61, 62, 63, 64, 65, 66, 67, 68, 69, 70, 71] rfl (by decide +kernel)) (bs2_in _ _))) rfl rfl rfl (by decide +kernel) ⟨(Nat.le_of_ble_eq_true rfl), (Nat.le_of_ble_eq_true rfl)⟩) ⟨fun a U g mk q => by obtain ⟨q0, q1, qK, qE⟩ := q; exact ⟨q0, q1, va_K.moved (u := U) (U := U.calling g mk a) (Vm.Alike.refl U.vm) qK, EVC.blind g mk a qE⟩, gH_rc hK hT hr_o0 shc_14 rfl, fun U hU hW => ⟨rfl, hU, va_K.moved hW.alike hK, hE.call hS hFc hU hW⟩⟩ rfl rfl hl.1 rfl (lv_room (Nat.le_of_ble_eq_true rfl)) dL_sluice_7 ⟨(Nat.le_of_ble_eq_true rfl), (Nat.le_of_ble_eq_true rfl)⟩) hS (fun q _ h => hFc q h) hFc (fun q _ h => hFc q h) (fun E ce q9 u t H locs ht hvm _ hw2 _ _ hS hce hcv hcl => ?_) (fun r1 u t H locs ht hvm hw2 hB _ _ hS => ?_)
  · obtain ⟨hw2, hTx, hFx⟩ := hw2; rw [ht] at hTx hFx
    have hT := hTx; have hF := hF.more hFx (by decide)
    rcases hw2 with rfl | rfl | rfl
    · refine vx_catch (E := "java/lang/IllegalArgumentException") hown [⟨0, 12, 15, 13⟩] ⟨0, 12, 19, 15⟩ [⟨0, 12, 23, 45⟩] (by rw [htab]; rfl) (fun z h => by
          simp only [List.mem_cons, List.not_mem_nil, or_false] at h
          rcases h with rfl
          · exact Or.inr ⟨by decide, "java/lang/IndexOutOfBoundsException", (ht_at2 hts 74 rfl), hN ("java/lang/IllegalArgumentException", "java/lang/IndexOutOfBoundsException") (by decide +kernel)⟩) (by decide) (by decide) (ht_at2 hts 75 rfl) (va_Nw.use rfl (hE.1.1.2.1.2.1 _ (List.mem_of_getElem? (i := 1) rfl))) hce hcv hcl ?_
      refine lv_astore (lv' := [(5, .ref q9), (0, .ref o0), (1, .int p1), (2, .int p2), (3, .int p3), (4, .ref ou)]) hx hb dL_sluice_19 hl (by decide) rfl (fun ls hl => ?_)
      refine lv_iconst (v := 2) hx hb dL_sluice_21 (by decide) ?_
      exact W.iret (v := 2) hx hb hr (fun t ht hW => ⟨⟨2, (), rfl, (by exact (rg_t (a := 2) (by decide) (by first | decide | omega) (by first | decide | omega))), by (try dsimp only); rw [ht]; exact ⟨hT, hF⟩⟩, hS.F ht⟩) hS.2.2 dL_sluice_22
    · refine vx_catch (E := "java/lang/IndexOutOfBoundsException") hown [] ⟨0, 12, 15, 13⟩ [⟨0, 12, 19, 15⟩, ⟨0, 12, 23, 45⟩] (by rw [htab]; rfl) (fun z h => absurd h List.not_mem_nil) (by decide) (by decide) (ht_at2 hts 74 rfl) (va_Nw.use rfl (hE.1.1.2.1.2.1 _ (List.mem_of_getElem? (i := 0) rfl))) hce hcv hcl ?_
      refine lv_astore (lv' := [(5, .ref q9), (0, .ref o0), (1, .int p1), (2, .int p2), (3, .int p3), (4, .ref ou)]) hx hb dL_sluice_15 hl (by decide) rfl (fun ls hl => ?_)
      refine lv_iconst (v := 1) hx hb dL_sluice_17 (by decide) ?_
      exact W.iret (v := 1) hx hb hr (fun t ht hW => ⟨⟨1, (), rfl, (by exact (rg_t (a := 1) (by decide) (by first | decide | omega) (by first | decide | omega))), by (try dsimp only); rw [ht]; exact ⟨hT, hF⟩⟩, hS.F ht⟩) hS.2.2 dL_sluice_18
    · refine vx_catch (E := "java/lang/UnsupportedOperationException") hown [⟨0, 12, 15, 13⟩, ⟨0, 12, 19, 15⟩] ⟨0, 12, 23, 45⟩ [] (by rw [htab]; rfl) (fun z h => by
          simp only [List.mem_cons, List.not_mem_nil, or_false] at h
          rcases h with rfl | rfl
          · exact Or.inr ⟨by decide, "java/lang/IndexOutOfBoundsException", (ht_at2 hts 74 rfl), hN ("java/lang/UnsupportedOperationException", "java/lang/IndexOutOfBoundsException") (by decide +kernel)⟩
          · exact Or.inr ⟨by decide, "java/lang/IllegalArgumentException", (ht_at2 hts 75 rfl), hN ("java/lang/UnsupportedOperationException", "java/lang/IllegalArgumentException") (by decide +kernel)⟩) (by decide) (by decide) (ht_at2 hts 76 rfl) (va_Nw.use rfl (hE.2 _ (List.mem_of_getElem? (i := 0) rfl))) hce hcv hcl ?_
      refine lv_astore (lv' := [(5, .ref q9), (0, .ref o0), (1, .int p1), (2, .int p2), (3, .int p3), (4, .ref ou)]) hx hb dL_sluice_23 hl (by decide) rfl (fun ls hl => ?_)
      refine lv_iconst (v := 3) hx hb dL_sluice_25 (by decide) ?_
      exact W.iret (v := 3) hx hb hr (fun t ht hW => ⟨⟨3, (), rfl, (by exact (rg_t (a := 3) (by decide) (by first | decide | omega) (by first | decide | omega))), by (try dsimp only); rw [ht]; exact ⟨hT, hF⟩⟩, hS.F ht⟩) hS.2.2 dL_sluice_26
  · obtain ⟨hT, hF1⟩ := hB
    rw [ht] at hT hF1
    have hF := hF.more hF1 (by decide)
    try dsimp only at hw2
    have h3 := hw2
    refine lv_i2l (v := r1.toInt64) hx hb dL_sluice_10 rfl ?_
    refine tw_last (i := 0)  hx hb hK hT hG hS hr_ou shc_98 rfl (by unfold vp_in; decide) ⟨_, rfl⟩ dL_sluice_11 (fun H locs hT oq m4 oi hS => ?_)
    have hF := hF.ast hr_ou skc_98 oq (by decide)
    refine lv_goto (tgt := 27) hx hb dL_sluice_12 (by decide) ?_
    refine lv_iconst (v := 0) hx hb dL_sluice_27 (by decide) ?_
    exact W.iret (v := 0) hx hb hr (fun t ht hW => ⟨⟨0, (), rfl, (by exact (rg_t (a := 0) (by decide) (by first | decide | omega) (by first | decide | omega))), by (try dsimp only); rw [ht]; exact ⟨hT, hF⟩⟩, hS.F ht⟩) hS.2.2 dL_sluice_28
def w_l_soonest : List Cond := .codeWith yL_soonest cL_soonest 6 (some .int) [(0, 12, 15, 13), (0, 12, 19, 15), (0, 12, 23, 50)] :: (HAppend.hAppend (α := List Cond) (β := List Cond) (γ := List Cond) [.code yX11_soonest cX11_soonest 5 (some .int), .code yX11_workOf cX11_workOf 2 (some (.object "SeaLand$Work")), .fieldLink RX11 16 "SeaLand" "lake" "LSeaLand$Lake;", .code yX11_within cX11_within 3 (some .boolean), .methodLink RX11 58 yX11_within, .static yX11_within, .initialized RX11, .classLink RX11 557 "java/lang/IndexOutOfBoundsException", .initialized "java/lang/IndexOutOfBoundsException", .methodLink RX11 167 yX11_workOf, .instanceMethod yX11_workOf, .selects RX11 yX11_workOf yX11_workOf, .code yX11_needNumbers cX11_needNumbers 1 none, .classLink RX11 547 "java/lang/IllegalArgumentException", .initialized "java/lang/IllegalArgumentException", .methodLink RX11 62 yX11_needNumbers, .static yX11_needNumbers, .code yX11_needKind cX11_needKind 1 none, .classLink RX11 552 "java/lang/ClassCastException", .initialized "java/lang/ClassCastException", .methodLink RX11 177 yX11_needKind, .static yX11_needKind, .fieldLink RX11 43 "SeaLand" "plans" "LSeaLand$Plans;", .code yX5_closingHour cX5_closingHour 8 (some .int), .code yX8_outsideAt cX8_outsideAt 4 (some .int), .fieldLink RX8 9 "SeaLand$Sky" "tides" "[I", .code yJ9_floorMod_7cf53 cJ9_floorMod_7cf53 3 (some .int), .methodLink RX8 38 yJ9_floorMod_7cf53, .static yJ9_floorMod_7cf53, .initialized RJ9, .fieldLink RX8 34 "SeaLand$Sky" "storms" "I", .fieldLink RX8 15 "SeaLand$Sky" "stormFrom" "[I", .fieldLink RX8 18 "SeaLand$Sky" "stormTo" "[I", .fieldLink RX8 21 "SeaLand$Sky" "stormMore" "[I", .methodLink RX5 110 yX8_outsideAt, .instanceMethod yX8_outsideAt, .selects RX8 yX8_outsideAt yX8_outsideAt, .initialized RX8, .code yX10_wider cX10_wider 1 (some .int), .methodLink RX10 54 Lib.Math.min.name, .static Lib.Math.min.name, .initialized "java/lang/Math", .code Lib.Math.min.name Lib.Math.min.code 2 (some .int), .methodLink RX5 115 yX10_wider, .static yX10_wider, .initialized RX10, .methodLink RX11 470 yX5_closingHour, .instanceMethod yX5_closingHour, .selects RX5 yX5_closingHour yX5_closingHour, .initialized RX5, .methodLink RL 151 yX11_soonest, .instanceMethod yX11_soonest, .selects RX11 yX11_soonest yX11_soonest, .classLink RL 13 "java/lang/IndexOutOfBoundsException", .classLink RL 15 "java/lang/IllegalArgumentException", .classLink RL 50 "java/lang/ClassCastException"] bs2)
set_option maxHeartbeats 4000000 in
set_option maxRecDepth 100000 in
theorem l_soonest (l : Launch) (hlt : l.stackTraces = false) (dC : Nat → ClassId) (dI : Nat → Nat → Nat) (kA : Nat → ClassId) (adK adV : Nat → Nat) (G : gT) (H0 : Heap) (nC nS : Int) (o0 : Nat) (p1 : Int32) (p2 : Int32) (p3 : Int32) (ou : Nat) (hT : gH (dC, dI) kA (SHc nC nS) G H0) (hr_o0 : G o0 = some 14) (hr_ou : G ou = some 98) (hgC : 0 ≤ nC ∧ nC ≤ 40) (hgS : 0 ≤ nS ∧ nS ≤ 60) : Met l yL_soonest w_l_soonest ({ frames := 8, cells := 2, slots := 12, locals := 145 }) (va_Pc [.ref o0, .int p1, .int p2, .int p3, .ref ou] (fun U => U.heap = H0 ∧ va_K (dC, dI) vwCl (tyl kA) U ∧ EVC adK adV (gA G H0.size) U U.heap ∧ NC U)) (va_Qi (fun (r : Int32) (u : Unit) => (0 ≤ r.toInt ∧ r.toInt ≤ 3)) (fun (_ : Unit) (t : State) => gH (dC, dI) kA (SHc nC nS) G t.heap ∧ gF (dC, dI) SKc G ([(98, 0)] : List (Nat × Nat)) H0 t.heap) (gA G H0.size)) 2 12 (gA G H0.size) := by
  refine va_MetW (cc := cL_soonest) (maxL := 6) (ret := (some .int)) (by decide) rfl ?_
  intro p e s m args below meth c s₁ B hml hv
  obtain ⟨rfl, hH0, hK, hE, hN⟩ := hv
  have hx := B.exec
  have hb := B.bytes
  have hr := B.returns
  have hts := atoms_spec (ws := w_l_soonest) B.pre
  have hown : s.vm.findClass RL = some m.cls := findClass_of_methodNamed B.named
  have hlocks := B.notSynchronized
  have htab := vx_table (x := yL_soonest) B (hts _ List.mem_cons_self)
  subst hH0
  generalize hAe : gA G s.heap.size = A at hE ⊢
  have hA : ∀ q : Nat, s.heap.size ≤ q → A q := fun q h => by rw [← hAe]; exact Or.inr h
  have hG := gA_of hAe
  have hS : va_S A s.heap s.heap [] := va_S.rf
  have hF : gF (dC, dI) SKc G ([(98, 0)] : List (Nat × Nat)) s.heap s.heap := gF.rf
  have hl := lv_entry ([.ref o0, .int p1, .int p2, .int p3, .ref ou]) (n := 6) (Nat.le_of_ble_eq_true rfl)
  rw [lg_entry_eq]
  generalize (lg_sl ([.ref o0, .int p1, .int p2, .int p3, .ref ou]) ++ List.replicate (6 - (lg_sl ([.ref o0, .int p1, .int p2, .int p3, .ref ou])).length) Slot.unset).toArray = ls at hl ⊢
  have hl : lv_has ls 6 [(0, .ref o0), (1, .int p1), (2, .int p2), (3, .int p3), (4, .ref ou)] := hl
  refine lv_aload hx hb dL_soonest_0 (lv_at hl 4 rfl) ?_
  refine lv_iconst (v := 0) hx hb dL_soonest_2 (by decide) ?_
  refine lv_aload_n hx hb dL_soonest_3 rfl (lv_at hl 0 rfl) ?_
  refine lv_iload_n hx hb dL_soonest_4 rfl (lv_at hl 1 rfl) ?_
  refine lv_iload_n hx hb dL_soonest_5 rfl (lv_at hl 2 rfl) ?_
  refine lv_iload_n hx hb dL_soonest_6 rfl (lv_at hl 3 rfl) ?_
  have hFc := gA_free hG hA hS
  refine vx_calli (vx_runV (As := [.int p1, .int p2, .int p3]) (rest := [.int 0, .ref ou]) ⟨hx, hb, hml, hown, hts⟩ (c_soonest l hlt dC dI kA adK adV G s.heap nC nS o0 p1 p2 p3 hT hr_o0 (by omega) (by omega)) (cwV 3 hts (goodIn_app (goodIn_r _ [51, 52, 53, 7] rfl (by decide +kernel)) (goodIn_ca (goodIn_r _ [1, 2, 3, 4, 5, 6, 7, 8, 9, 10, 11, 12, 13, 14, 15, 16, 17, 18, 19, 20, 21, 22, 23, 24, 25, 26, 27, 28, 29, 30, 31, 32, 33, 34, 35, 36, 37, 38, 39, 40, 41, 42, 43, 44, 45, 46, 47, 48, 49, 50] rfl (by decide +kernel)) (bs2_in _ _))) rfl rfl rfl (by decide +kernel) ⟨(Nat.le_of_ble_eq_true rfl), (Nat.le_of_ble_eq_true rfl)⟩) ⟨fun a U g mk q => by obtain ⟨q0, q1, qK, qE⟩ := q; exact ⟨q0, q1, va_K.moved (u := U) (U := U.calling g mk a) (Vm.Alike.refl U.vm) qK, EVC.blind g mk a qE⟩, gH_rc hK hT hr_o0 shc_14 rfl, fun U hU hW => ⟨rfl, hU, va_K.moved hW.alike hK, hE.call hS hFc hU hW⟩⟩ rfl rfl hl.1 rfl (lv_room (Nat.le_of_ble_eq_true rfl)) dL_soonest_7 ⟨(Nat.le_of_ble_eq_true rfl), (Nat.le_of_ble_eq_true rfl)⟩) hS (fun q _ h => hFc q h) hFc (fun q _ h => hFc q h) (fun E ce q9 u t H locs ht hvm _ hw2 _ _ hS hce hcv hcl => ?_) (fun r1 u t H locs ht hvm hw2 hB _ _ hS => ?_)
  · obtain ⟨hw2, hTx, hFx⟩ := hw2; rw [ht] at hTx hFx
    have hT := hTx; have hF := hF.more hFx (by decide)
    rcases hw2 with rfl | rfl | rfl
    · refine vx_catch (E := "java/lang/ClassCastException") hown [⟨0, 12, 15, 13⟩, ⟨0, 12, 19, 15⟩] ⟨0, 12, 23, 50⟩ [] (by rw [htab]; rfl) (fun z h => by
          simp only [List.mem_cons, List.not_mem_nil, or_false] at h
          rcases h with rfl | rfl
          · exact Or.inr ⟨by decide, "java/lang/IndexOutOfBoundsException", (ht_at2 hts 53 rfl), hN ("java/lang/ClassCastException", "java/lang/IndexOutOfBoundsException") (by decide +kernel)⟩
          · exact Or.inr ⟨by decide, "java/lang/IllegalArgumentException", (ht_at2 hts 54 rfl), hN ("java/lang/ClassCastException", "java/lang/IllegalArgumentException") (by decide +kernel)⟩) (by decide) (by decide) (ht_at2 hts 55 rfl) (va_Nw.use rfl (hE.2 _ (List.mem_of_getElem? (i := 1) rfl))) hce hcv hcl ?_
      refine lv_astore (lv' := [(5, .ref q9), (0, .ref o0), (1, .int p1), (2, .int p2), (3, .int p3), (4, .ref ou)]) hx hb dL_soonest_23 hl (by decide) rfl (fun ls hl => ?_)
      refine lv_iconst (v := 3) hx hb dL_soonest_25 (by decide) ?_
      exact W.iret (v := 3) hx hb hr (fun t ht hW => ⟨⟨3, (), rfl, (by exact (rg_t (a := 3) (by decide) (by first | decide | omega) (by first | decide | omega))), by (try dsimp only); rw [ht]; exact ⟨hT, hF⟩⟩, hS.F ht⟩) hS.2.2 dL_soonest_26
    · refine vx_catch (E := "java/lang/IllegalArgumentException") hown [⟨0, 12, 15, 13⟩] ⟨0, 12, 19, 15⟩ [⟨0, 12, 23, 50⟩] (by rw [htab]; rfl) (fun z h => by
          simp only [List.mem_cons, List.not_mem_nil, or_false] at h
          rcases h with rfl
          · exact Or.inr ⟨by decide, "java/lang/IndexOutOfBoundsException", (ht_at2 hts 53 rfl), hN ("java/lang/IllegalArgumentException", "java/lang/IndexOutOfBoundsException") (by decide +kernel)⟩) (by decide) (by decide) (ht_at2 hts 54 rfl) (va_Nw.use rfl (hE.1.1.2.1.2.1 _ (List.mem_of_getElem? (i := 1) rfl))) hce hcv hcl ?_
      refine lv_astore (lv' := [(5, .ref q9), (0, .ref o0), (1, .int p1), (2, .int p2), (3, .int p3), (4, .ref ou)]) hx hb dL_soonest_19 hl (by decide) rfl (fun ls hl => ?_)
      refine lv_iconst (v := 2) hx hb dL_soonest_21 (by decide) ?_
      exact W.iret (v := 2) hx hb hr (fun t ht hW => ⟨⟨2, (), rfl, (by exact (rg_t (a := 2) (by decide) (by first | decide | omega) (by first | decide | omega))), by (try dsimp only); rw [ht]; exact ⟨hT, hF⟩⟩, hS.F ht⟩) hS.2.2 dL_soonest_22
    · refine vx_catch (E := "java/lang/IndexOutOfBoundsException") hown [] ⟨0, 12, 15, 13⟩ [⟨0, 12, 19, 15⟩, ⟨0, 12, 23, 50⟩] (by rw [htab]; rfl) (fun z h => absurd h List.not_mem_nil) (by decide) (by decide) (ht_at2 hts 53 rfl) (va_Nw.use rfl (hE.1.1.2.1.2.1 _ (List.mem_of_getElem? (i := 0) rfl))) hce hcv hcl ?_
      refine lv_astore (lv' := [(5, .ref q9), (0, .ref o0), (1, .int p1), (2, .int p2), (3, .int p3), (4, .ref ou)]) hx hb dL_soonest_15 hl (by decide) rfl (fun ls hl => ?_)
      refine lv_iconst (v := 1) hx hb dL_soonest_17 (by decide) ?_
      exact W.iret (v := 1) hx hb hr (fun t ht hW => ⟨⟨1, (), rfl, (by exact (rg_t (a := 1) (by decide) (by first | decide | omega) (by first | decide | omega))), by (try dsimp only); rw [ht]; exact ⟨hT, hF⟩⟩, hS.F ht⟩) hS.2.2 dL_soonest_18
  · obtain ⟨hT, hF1⟩ := hB
    rw [ht] at hT hF1
    have hF := hF.more hF1 (by decide)
    try dsimp only at hw2
    have h3 := hw2
    refine lv_i2l (v := r1.toInt64) hx hb dL_soonest_10 rfl ?_
    refine tw_last (i := 0)  hx hb hK hT hG hS hr_ou shc_98 rfl (by unfold vp_in; decide) ⟨_, rfl⟩ dL_soonest_11 (fun H locs hT oq m4 oi hS => ?_)
    have hF := hF.ast hr_ou skc_98 oq (by decide)
    refine lv_goto (tgt := 27) hx hb dL_soonest_12 (by decide) ?_
    refine lv_iconst (v := 0) hx hb dL_soonest_27 (by decide) ?_
    exact W.iret (v := 0) hx hb hr (fun t ht hW => ⟨⟨0, (), rfl, (by exact (rg_t (a := 0) (by decide) (by first | decide | omega) (by first | decide | omega))), by (try dsimp only); rw [ht]; exact ⟨hT, hF⟩⟩, hS.F ht⟩) hS.2.2 dL_soonest_28
def w_l_sow : List Cond := .codeWith yL_sow cL_sow 5 (some .int) [(0, 17, 20, 13), (0, 17, 24, 15)] :: (HAppend.hAppend (α := List Cond) (β := List Cond) (γ := List Cond) [.code yX11_sow cX11_sow 4 (some .boolean), .code yX11_needFarm cX11_needFarm 2 none, .fieldLink RX11 30 "SeaLand" "board" "LSeaLand$Board;", .code yX11_within cX11_within 3 (some .boolean), .methodLink RX11 58 yX11_within, .static yX11_within, .initialized RX11, .classLink RX11 557 "java/lang/IndexOutOfBoundsException", .initialized "java/lang/IndexOutOfBoundsException", .methodLink RX11 366 yX11_needFarm, .instanceMethod yX11_needFarm, .selects RX11 yX11_needFarm yX11_needFarm, .code yX11_needNumbers cX11_needNumbers 1 none, .classLink RX11 547 "java/lang/IllegalArgumentException", .initialized "java/lang/IllegalArgumentException", .methodLink RX11 62 yX11_needNumbers, .static yX11_needNumbers, .methodLink RL 123 yX11_sow, .instanceMethod yX11_sow, .selects RX11 yX11_sow yX11_sow, .classLink RL 13 "java/lang/IndexOutOfBoundsException", .classLink RL 15 "java/lang/IllegalArgumentException"] bs2)
set_option maxHeartbeats 4000000 in
set_option maxRecDepth 100000 in
theorem l_sow (l : Launch) (hlt : l.stackTraces = false) (dC : Nat → ClassId) (dI : Nat → Nat → Nat) (kA : Nat → ClassId) (adK adV : Nat → Nat) (G : gT) (H0 : Heap) (nC nS : Int) (o0 : Nat) (p1 : Int32) (p2 : Int32) (ou : Nat) (hT : gH (dC, dI) kA (SHc nC nS) G H0) (hr_o0 : G o0 = some 14) (hr_ou : G ou = some 98) (hgC : 0 ≤ nC ∧ nC ≤ 40) (hgS : 0 ≤ nS ∧ nS ≤ 60) : Met l yL_sow w_l_sow ({ frames := 8, cells := 2, slots := 12, locals := 144 }) (va_Pc [.ref o0, .int p1, .int p2, .ref ou] (fun U => U.heap = H0 ∧ va_K (dC, dI) vwCl (tyl kA) U ∧ EVC adK adV (gA G H0.size) U U.heap ∧ NC U)) (va_Qi (fun (r : Int32) (u : Unit) => (0 ≤ r.toInt ∧ r.toInt ≤ 2)) (fun (_ : Unit) (t : State) => gH (dC, dI) kA (SHc nC nS) G t.heap ∧ gF (dC, dI) SKc G ([(53, 0), (98, 0)] : List (Nat × Nat)) H0 t.heap) (gA G H0.size)) 2 12 (gA G H0.size) := by
  refine va_MetW (cc := cL_sow) (maxL := 5) (ret := (some .int)) (by decide) rfl ?_
  intro p e s m args below meth c s₁ B hml hv
  obtain ⟨rfl, hH0, hK, hE, hN⟩ := hv
  have hx := B.exec
  have hb := B.bytes
  have hr := B.returns
  have hts := atoms_spec (ws := w_l_sow) B.pre
  have hown : s.vm.findClass RL = some m.cls := findClass_of_methodNamed B.named
  have hlocks := B.notSynchronized
  have htab := vx_table (x := yL_sow) B (hts _ List.mem_cons_self)
  subst hH0
  generalize hAe : gA G s.heap.size = A at hE ⊢
  have hA : ∀ q : Nat, s.heap.size ≤ q → A q := fun q h => by rw [← hAe]; exact Or.inr h
  have hG := gA_of hAe
  have hS : va_S A s.heap s.heap [] := va_S.rf
  have hF : gF (dC, dI) SKc G ([(53, 0), (98, 0)] : List (Nat × Nat)) s.heap s.heap := gF.rf
  have hl := lv_entry ([.ref o0, .int p1, .int p2, .ref ou]) (n := 5) (Nat.le_of_ble_eq_true rfl)
  rw [lg_entry_eq]
  generalize (lg_sl ([.ref o0, .int p1, .int p2, .ref ou]) ++ List.replicate (5 - (lg_sl ([.ref o0, .int p1, .int p2, .ref ou])).length) Slot.unset).toArray = ls at hl ⊢
  have hl : lv_has ls 5 [(0, .ref o0), (1, .int p1), (2, .int p2), (3, .ref ou)] := hl
  refine lv_aload_n hx hb dL_sow_0 rfl (lv_at hl 3 rfl) ?_
  refine lv_iconst (v := 0) hx hb dL_sow_1 (by decide) ?_
  refine lv_aload_n hx hb dL_sow_2 rfl (lv_at hl 0 rfl) ?_
  refine lv_iload_n hx hb dL_sow_3 rfl (lv_at hl 1 rfl) ?_
  refine lv_iload_n hx hb dL_sow_4 rfl (lv_at hl 2 rfl) ?_
  have hFc := gA_free hG hA hS
  refine vx_calli (vx_runV (As := [.int p1, .int p2]) (rest := [.int 0, .ref ou]) ⟨hx, hb, hml, hown, hts⟩ (c_sow l hlt dC dI kA adK adV G s.heap nC nS o0 p1 p2 hT hr_o0 (by omega) (by omega)) (cwV 2 hts (goodIn_app (goodIn_r _ [18, 19, 20, 7] rfl (by decide +kernel)) (goodIn_ca (goodIn_r _ [1, 2, 3, 4, 5, 6, 7, 8, 9, 10, 11, 12, 13, 14, 15, 16, 17] rfl (by decide +kernel)) (bs2_in _ _))) rfl rfl rfl (by decide +kernel) ⟨(Nat.le_of_ble_eq_true rfl), (Nat.le_of_ble_eq_true rfl)⟩) ⟨fun a U g mk q => by obtain ⟨q0, q1, qK, qE⟩ := q; exact ⟨q0, q1, va_K.moved (u := U) (U := U.calling g mk a) (Vm.Alike.refl U.vm) qK, EVC.blind g mk a qE⟩, gH_rc hK hT hr_o0 shc_14 rfl, fun U hU hW => ⟨rfl, hU, va_K.moved hW.alike hK, hE.call hS hFc hU hW⟩⟩ rfl rfl hl.1 rfl (lv_room (Nat.le_of_ble_eq_true rfl)) dL_sow_5 ⟨(Nat.le_of_ble_eq_true rfl), (Nat.le_of_ble_eq_true rfl)⟩) hS (fun q _ h => hFc q h) hFc (fun q _ h => hFc q h) (fun E ce q9 u t H locs ht hvm _ hw2 _ _ hS hce hcv hcl => ?_) (fun r1 u t H locs ht hvm hw2 hB _ _ hS => ?_)
  · obtain ⟨hw2, hTx, hFx⟩ := hw2; rw [ht] at hTx hFx
    have hT := hTx; have hF := hF.more hFx (by decide)
    rcases hw2 with rfl | rfl
    · refine vx_catch (E := "java/lang/IllegalArgumentException") hown [⟨0, 17, 20, 13⟩] ⟨0, 17, 24, 15⟩ [] (by rw [htab]; rfl) (fun z h => by
          simp only [List.mem_cons, List.not_mem_nil, or_false] at h
          rcases h with rfl
          · exact Or.inr ⟨by decide, "java/lang/IndexOutOfBoundsException", (ht_at2 hts 20 rfl), hN ("java/lang/IllegalArgumentException", "java/lang/IndexOutOfBoundsException") (by decide +kernel)⟩) (by decide) (by decide) (ht_at2 hts 21 rfl) (va_Nw.use rfl (hE.1.1.2.1.2.1 _ (List.mem_of_getElem? (i := 1) rfl))) hce hcv hcl ?_
      refine lv_astore (lv' := [(4, .ref q9), (0, .ref o0), (1, .int p1), (2, .int p2), (3, .ref ou)]) hx hb dL_sow_24 hl (by decide) rfl (fun ls hl => ?_)
      refine lv_iconst (v := 2) hx hb dL_sow_26 (by decide) ?_
      exact W.iret (v := 2) hx hb hr (fun t ht hW => ⟨⟨2, (), rfl, (by exact (rg_t (a := 2) (by decide) (by first | decide | omega) (by first | decide | omega))), by (try dsimp only); rw [ht]; exact ⟨hT, hF⟩⟩, hS.F ht⟩) hS.2.2 dL_sow_27
    · refine vx_catch (E := "java/lang/IndexOutOfBoundsException") hown [] ⟨0, 17, 20, 13⟩ [⟨0, 17, 24, 15⟩] (by rw [htab]; rfl) (fun z h => absurd h List.not_mem_nil) (by decide) (by decide) (ht_at2 hts 20 rfl) (va_Nw.use rfl (hE.1.1.2.1.2.1 _ (List.mem_of_getElem? (i := 0) rfl))) hce hcv hcl ?_
      refine lv_astore (lv' := [(4, .ref q9), (0, .ref o0), (1, .int p1), (2, .int p2), (3, .ref ou)]) hx hb dL_sow_20 hl (by decide) rfl (fun ls hl => ?_)
      refine lv_iconst (v := 1) hx hb dL_sow_22 (by decide) ?_
      exact W.iret (v := 1) hx hb hr (fun t ht hW => ⟨⟨1, (), rfl, (by exact (rg_t (a := 1) (by decide) (by first | decide | omega) (by first | decide | omega))), by (try dsimp only); rw [ht]; exact ⟨hT, hF⟩⟩, hS.F ht⟩) hS.2.2 dL_sow_23
  · obtain ⟨hT, hF1⟩ := hB
    rw [ht] at hT hF1
    have hF := hF.more hF1 (by decide)
    try dsimp only at hw2
    have h3 := hw2
    refine lv_if_eq (tgt := 15) hx hb dL_sow_8 (by decide) (fun c4 => ?_) (fun c4 => ?_)
    · have t5 : r1.toInt = 0 := ti_eq c4 rfl (by decide)
      refine lv_lconst (v := 0) hx hb dL_sow_15 (by decide) ?_
      refine tw_last (i := 0)  hx hb hK hT hG hS hr_ou shc_98 rfl (by unfold vp_in; decide) ⟨_, rfl⟩ dL_sow_16 (fun H locs hT oq m6 oi hS => ?_)
      have hF := hF.ast hr_ou skc_98 oq (by decide)
      refine lv_goto (tgt := 28) hx hb dL_sow_17 (by decide) ?_
      refine lv_iconst (v := 0) hx hb dL_sow_28 (by decide) ?_
      exact W.iret (v := 0) hx hb hr (fun t ht hW => ⟨⟨0, (), rfl, (by exact (rg_t (a := 0) (by decide) (by first | decide | omega) (by first | decide | omega))), by (try dsimp only); rw [ht]; exact ⟨hT, hF⟩⟩, hS.F ht⟩) hS.2.2 dL_sow_29
    · have t7 : r1.toInt ≠ 0 := ti_ne c4 rfl (by decide)
      refine lv_lconst (v := 1) hx hb dL_sow_11 (by decide) ?_
      refine lv_goto (tgt := 16) hx hb dL_sow_12 (by decide) ?_
      refine tw_last (i := 0)  hx hb hK hT hG hS hr_ou shc_98 rfl (by unfold vp_in; decide) ⟨_, rfl⟩ dL_sow_16 (fun H locs hT oq m8 oi hS => ?_)
      have hF := hF.ast hr_ou skc_98 oq (by decide)
      refine lv_goto (tgt := 28) hx hb dL_sow_17 (by decide) ?_
      refine lv_iconst (v := 0) hx hb dL_sow_28 (by decide) ?_
      exact W.iret (v := 0) hx hb hr (fun t ht hW => ⟨⟨0, (), rfl, (by exact (rg_t (a := 0) (by decide) (by first | decide | omega) (by first | decide | omega))), by (try dsimp only); rw [ht]; exact ⟨hT, hF⟩⟩, hS.F ht⟩) hS.2.2 dL_sow_29
def w_l_square : List Cond := .codeWith yL_square cL_square 5 (some .int) [(0, 10, 13, 13), (0, 10, 17, 39)] :: (HAppend.hAppend (α := List Cond) (β := List Cond) (γ := List Cond) [.code yX11_square cX11_square 4 (some .int), .code yX11_needSquare cX11_needSquare 1 none, .code yX11_within cX11_within 3 (some .boolean), .methodLink RX11 58 yX11_within, .static yX11_within, .initialized RX11, .classLink RX11 557 "java/lang/IndexOutOfBoundsException", .initialized "java/lang/IndexOutOfBoundsException", .methodLink RX11 55 yX11_needSquare, .static yX11_needSquare, .fieldLink RX11 16 "SeaLand" "lake" "LSeaLand$Lake;", .code yX3_levelNow cX3_levelNow 2 (some .int), .fieldLink RX3 21 "SeaLand$Lake" "ground" "LSeaLand$Ground;", .fieldLink RX3 12 "SeaLand$Lake" "sky" "LSeaLand$Sky;", .fieldLink RX3 32 "SeaLand$Lake" "hour" "I", .code yX8_outsideAt cX8_outsideAt 4 (some .int), .fieldLink RX8 9 "SeaLand$Sky" "tides" "[I", .code yJ9_floorMod_7cf53 cJ9_floorMod_7cf53 3 (some .int), .methodLink RX8 38 yJ9_floorMod_7cf53, .static yJ9_floorMod_7cf53, .initialized RJ9, .fieldLink RX8 34 "SeaLand$Sky" "storms" "I", .fieldLink RX8 15 "SeaLand$Sky" "stormFrom" "[I", .fieldLink RX8 18 "SeaLand$Sky" "stormTo" "[I", .fieldLink RX8 21 "SeaLand$Sky" "stormMore" "[I", .methodLink RX3 44 yX8_outsideAt, .instanceMethod yX8_outsideAt, .selects RX8 yX8_outsideAt yX8_outsideAt, .initialized RX8, .code yX2_levelOf cX2_levelOf 2 (some .int), .fieldLink RX2 15 "SeaLand$Ground" "height" "[I", .fieldLink RX2 25 "SeaLand$Ground" "water" "[I", .methodLink RX3 40 yX2_levelOf, .instanceMethod yX2_levelOf, .selects RX2 yX2_levelOf yX2_levelOf, .initialized RX2, .methodLink RX11 245 yX3_levelNow, .instanceMethod yX3_levelNow, .selects RX3 yX3_levelNow yX3_levelNow, .initialized RX3, .fieldLink RX11 30 "SeaLand" "board" "LSeaLand$Board;", .code yX3_workOn cX3_workOn 3 (some .int), .fieldLink RX3 47 "SeaLand$Lake" "built" "I", .fieldLink RX3 27 "SeaLand$Lake" "works" "[LSeaLand$Work;", .methodLink RX11 257 yX3_workOn, .instanceMethod yX3_workOn, .selects RX3 yX3_workOn yX3_workOn, .classLink RX11 134 "java/util/NoSuchElementException", .initialized "java/util/NoSuchElementException", .methodLink RL 80 yX11_square, .instanceMethod yX11_square, .selects RX11 yX11_square yX11_square, .classLink RL 13 "java/lang/IndexOutOfBoundsException", .classLink RL 39 "java/util/NoSuchElementException"] bs2)
set_option maxHeartbeats 4000000 in
set_option maxRecDepth 100000 in
theorem l_square (l : Launch) (hlt : l.stackTraces = false) (dC : Nat → ClassId) (dI : Nat → Nat → Nat) (kA : Nat → ClassId) (adK adV : Nat → Nat) (G : gT) (H0 : Heap) (nC nS : Int) (o0 : Nat) (p1 : Int32) (p2 : Int32) (ou : Nat) (hT : gH (dC, dI) kA (SHc nC nS) G H0) (hr_o0 : G o0 = some 14) (hr_ou : G ou = some 98) (hgC : 0 ≤ nC ∧ nC ≤ 40) (hgS : 0 ≤ nS ∧ nS ≤ 60) : Met l yL_square w_l_square ({ frames := 8, cells := 2, slots := 12, locals := 143 }) (va_Pc [.ref o0, .int p1, .int p2, .ref ou] (fun U => U.heap = H0 ∧ va_K (dC, dI) vwCl (tyl kA) U ∧ EVC adK adV (gA G H0.size) U U.heap ∧ NC U)) (va_Qi (fun (r : Int32) (u : Unit) => (0 ≤ r.toInt ∧ r.toInt ≤ 2)) (fun (_ : Unit) (t : State) => gH (dC, dI) kA (SHc nC nS) G t.heap ∧ gF (dC, dI) SKc G ([(98, 0)] : List (Nat × Nat)) H0 t.heap) (gA G H0.size)) 2 12 (gA G H0.size) := by
  refine va_MetW (cc := cL_square) (maxL := 5) (ret := (some .int)) (by decide) rfl ?_
  intro p e s m args below meth c s₁ B hml hv
  obtain ⟨rfl, hH0, hK, hE, hN⟩ := hv
  have hx := B.exec
  have hb := B.bytes
  have hr := B.returns
  have hts := atoms_spec (ws := w_l_square) B.pre
  have hown : s.vm.findClass RL = some m.cls := findClass_of_methodNamed B.named
  have hlocks := B.notSynchronized
  have htab := vx_table (x := yL_square) B (hts _ List.mem_cons_self)
  subst hH0
  generalize hAe : gA G s.heap.size = A at hE ⊢
  have hA : ∀ q : Nat, s.heap.size ≤ q → A q := fun q h => by rw [← hAe]; exact Or.inr h
  have hG := gA_of hAe
  have hS : va_S A s.heap s.heap [] := va_S.rf
  have hF : gF (dC, dI) SKc G ([(98, 0)] : List (Nat × Nat)) s.heap s.heap := gF.rf
  have hl := lv_entry ([.ref o0, .int p1, .int p2, .ref ou]) (n := 5) (Nat.le_of_ble_eq_true rfl)
  rw [lg_entry_eq]
  generalize (lg_sl ([.ref o0, .int p1, .int p2, .ref ou]) ++ List.replicate (5 - (lg_sl ([.ref o0, .int p1, .int p2, .ref ou])).length) Slot.unset).toArray = ls at hl ⊢
  have hl : lv_has ls 5 [(0, .ref o0), (1, .int p1), (2, .int p2), (3, .ref ou)] := hl
  refine lv_aload_n hx hb dL_square_0 rfl (lv_at hl 3 rfl) ?_
  refine lv_iconst (v := 0) hx hb dL_square_1 (by decide) ?_
  refine lv_aload_n hx hb dL_square_2 rfl (lv_at hl 0 rfl) ?_
  refine lv_iload_n hx hb dL_square_3 rfl (lv_at hl 1 rfl) ?_
  refine lv_iload_n hx hb dL_square_4 rfl (lv_at hl 2 rfl) ?_
  have hFc := gA_free hG hA hS
  refine vx_calli (vx_runV (As := [.int p1, .int p2]) (rest := [.int 0, .ref ou]) ⟨hx, hb, hml, hown, hts⟩ (c_square l hlt dC dI kA adK adV G s.heap nC nS o0 p1 p2 hT hr_o0 (by omega) (by omega)) (cwV 2 hts (goodIn_app (goodIn_r _ [50, 51, 52, 6] rfl (by decide +kernel)) (goodIn_ca (goodIn_r _ [1, 2, 3, 4, 5, 6, 7, 8, 9, 10, 11, 12, 13, 14, 15, 16, 17, 18, 19, 20, 21, 22, 23, 24, 25, 26, 27, 28, 29, 30, 31, 32, 33, 34, 35, 36, 37, 38, 39, 40, 41, 42, 43, 44, 45, 46, 47, 48, 49] rfl (by decide +kernel)) (bs2_in _ _))) rfl rfl rfl (by decide +kernel) ⟨(Nat.le_of_ble_eq_true rfl), (Nat.le_of_ble_eq_true rfl)⟩) ⟨fun a U g mk q => by obtain ⟨q0, q1, qK, qE⟩ := q; exact ⟨q0, q1, va_K.moved (u := U) (U := U.calling g mk a) (Vm.Alike.refl U.vm) qK, EVC.blind g mk a qE⟩, gH_rc hK hT hr_o0 shc_14 rfl, fun U hU hW => ⟨rfl, hU, va_K.moved hW.alike hK, hE.call hS hFc hU hW⟩⟩ rfl rfl hl.1 rfl (lv_room (Nat.le_of_ble_eq_true rfl)) dL_square_5 ⟨(Nat.le_of_ble_eq_true rfl), (Nat.le_of_ble_eq_true rfl)⟩) hS (fun q _ h => hFc q h) hFc (fun q _ h => hFc q h) (fun E ce q9 u t H locs ht hvm _ hw2 _ _ hS hce hcv hcl => ?_) (fun r1 u t H locs ht hvm hw2 hB _ _ hS => ?_)
  · obtain ⟨hw2, hTx, hFx⟩ := hw2; rw [ht] at hTx hFx
    have hT := hTx; have hF := hF.more hFx (by decide)
    rcases hw2 with rfl | rfl
    · refine vx_catch (E := "java/lang/IndexOutOfBoundsException") hown [] ⟨0, 10, 13, 13⟩ [⟨0, 10, 17, 39⟩] (by rw [htab]; rfl) (fun z h => absurd h List.not_mem_nil) (by decide) (by decide) (ht_at2 hts 52 rfl) (va_Nw.use rfl (hE.1.1.2.1.2.1 _ (List.mem_of_getElem? (i := 0) rfl))) hce hcv hcl ?_
      refine lv_astore (lv' := [(4, .ref q9), (0, .ref o0), (1, .int p1), (2, .int p2), (3, .ref ou)]) hx hb dL_square_13 hl (by decide) rfl (fun ls hl => ?_)
      refine lv_iconst (v := 1) hx hb dL_square_15 (by decide) ?_
      exact W.iret (v := 1) hx hb hr (fun t ht hW => ⟨⟨1, (), rfl, (by exact (rg_t (a := 1) (by decide) (by first | decide | omega) (by first | decide | omega))), by (try dsimp only); rw [ht]; exact ⟨hT, hF⟩⟩, hS.F ht⟩) hS.2.2 dL_square_16
    · refine vx_catch (E := "java/util/NoSuchElementException") hown [⟨0, 10, 13, 13⟩] ⟨0, 10, 17, 39⟩ [] (by rw [htab]; rfl) (fun z h => by
          simp only [List.mem_cons, List.not_mem_nil, or_false] at h
          rcases h with rfl
          · exact Or.inr ⟨by decide, "java/lang/IndexOutOfBoundsException", (ht_at2 hts 52 rfl), hN ("java/util/NoSuchElementException", "java/lang/IndexOutOfBoundsException") (by decide +kernel)⟩) (by decide) (by decide) (ht_at2 hts 53 rfl) (va_Nw.use rfl (hE.1.1.2.1.2.1 _ (List.mem_of_getElem? (i := 2) rfl))) hce hcv hcl ?_
      refine lv_astore (lv' := [(4, .ref q9), (0, .ref o0), (1, .int p1), (2, .int p2), (3, .ref ou)]) hx hb dL_square_17 hl (by decide) rfl (fun ls hl => ?_)
      refine lv_iconst (v := 2) hx hb dL_square_19 (by decide) ?_
      exact W.iret (v := 2) hx hb hr (fun t ht hW => ⟨⟨2, (), rfl, (by exact (rg_t (a := 2) (by decide) (by first | decide | omega) (by first | decide | omega))), by (try dsimp only); rw [ht]; exact ⟨hT, hF⟩⟩, hS.F ht⟩) hS.2.2 dL_square_20
  · obtain ⟨hT, hF1⟩ := hB
    rw [ht] at hT hF1
    have hF := hF.more hF1 (by decide)
    try dsimp only at hw2
    refine lv_i2l (v := r1.toInt64) hx hb dL_square_8 rfl ?_
    refine tw_last (i := 0)  hx hb hK hT hG hS hr_ou shc_98 rfl (by unfold vp_in; decide) ⟨_, rfl⟩ dL_square_9 (fun H locs hT oq m3 oi hS => ?_)
    have hF := hF.ast hr_ou skc_98 oq (by decide)
    refine lv_goto (tgt := 21) hx hb dL_square_10 (by decide) ?_
    refine lv_iconst (v := 0) hx hb dL_square_21 (by decide) ?_
    exact W.iret (v := 0) hx hb hr (fun t ht hW => ⟨⟨0, (), rfl, (by exact (rg_t (a := 0) (by decide) (by first | decide | omega) (by first | decide | omega))), by (try dsimp only); rw [ht]; exact ⟨hT, hF⟩⟩, hS.F ht⟩) hS.2.2 dL_square_22
def w_l_storm : List Cond := .codeWith yL_storm cL_storm 6 (some .int) [(0, 12, 15, 15)] :: (HAppend.hAppend (α := List Cond) (β := List Cond) (γ := List Cond) [.code yX11_storm cX11_storm 4 (some .int), .code yX11_needNumbers cX11_needNumbers 1 none, .classLink RX11 547 "java/lang/IllegalArgumentException", .initialized "java/lang/IllegalArgumentException", .methodLink RX11 62 yX11_needNumbers, .static yX11_needNumbers, .initialized RX11, .constant RX11 110 40000, .code yX11_within cX11_within 3 (some .boolean), .methodLink RX11 58 yX11_within, .static yX11_within, .fieldLink RX11 16 "SeaLand" "lake" "LSeaLand$Lake;", .fieldLink RX11 23 "SeaLand" "rows" "LSeaLand$Rows;", .code yX6_forget cX6_forget 1 none, .fieldLink RX6 18 "SeaLand$Rows" "kept" "I", .fieldLink RX6 22 "SeaLand$Rows" "oldest" "I", .methodLink RX11 76 yX6_forget, .instanceMethod yX6_forget, .selects RX6 yX6_forget yX6_forget, .initialized RX6, .code yX8_tellStorm cX8_tellStorm 4 (some .int), .fieldLink RX8 15 "SeaLand$Sky" "stormFrom" "[I", .fieldLink RX8 34 "SeaLand$Sky" "storms" "I", .fieldLink RX8 18 "SeaLand$Sky" "stormTo" "[I", .fieldLink RX8 21 "SeaLand$Sky" "stormMore" "[I", .methodLink RX11 114 yX8_tellStorm, .instanceMethod yX8_tellStorm, .selects RX8 yX8_tellStorm yX8_tellStorm, .initialized RX8, .methodLink RL 27 yX11_storm, .instanceMethod yX11_storm, .selects RX11 yX11_storm yX11_storm, .classLink RL 15 "java/lang/IllegalArgumentException"] bs2)
set_option maxHeartbeats 4000000 in
set_option maxRecDepth 100000 in
theorem l_storm (l : Launch) (hlt : l.stackTraces = false) (dC : Nat → ClassId) (dI : Nat → Nat → Nat) (kA : Nat → ClassId) (adK adV : Nat → Nat) (G : gT) (H0 : Heap) (nC nS : Int) (o0 : Nat) (p1 : Int32) (p2 : Int32) (p3 : Int32) (ou : Nat) (hT : gH (dC, dI) kA (SHc nC nS) G H0) (hr_o0 : G o0 = some 14) (hr_ou : G ou = some 98) (hgC : 0 ≤ nC ∧ nC ≤ 40) (hgS : 0 ≤ nS ∧ nS ≤ 60) : Met l yL_storm w_l_storm ({ frames := 8, cells := 1, slots := 6, locals := 143 }) (va_Pc [.ref o0, .int p1, .int p2, .int p3, .ref ou] (fun U => U.heap = H0 ∧ va_K (dC, dI) vwCl (tyl kA) U ∧ EVC adK adV (gA G H0.size) U U.heap ∧ NC U)) (va_Qi (fun (r : Int32) (u : Unit) => (0 ≤ r.toInt ∧ r.toInt ≤ 1)) (fun (_ : Unit) (t : State) => gH (dC, dI) kA (SHc nC nS) G t.heap ∧ gF (dC, dI) SKc G ([(9, 2), (9, 3), (11, 6), (20, 0), (21, 0), (22, 0), (98, 0)] : List (Nat × Nat)) H0 t.heap) (gA G H0.size)) 1 6 (gA G H0.size) := by
  refine va_MetW (cc := cL_storm) (maxL := 6) (ret := (some .int)) (by decide) rfl ?_
  intro p e s m args below meth c s₁ B hml hv
  obtain ⟨rfl, hH0, hK, hE, hN⟩ := hv
  have hx := B.exec
  have hb := B.bytes
  have hr := B.returns
  have hts := atoms_spec (ws := w_l_storm) B.pre
  have hown : s.vm.findClass RL = some m.cls := findClass_of_methodNamed B.named
  have hlocks := B.notSynchronized
  have htab := vx_table (x := yL_storm) B (hts _ List.mem_cons_self)
  subst hH0
  generalize hAe : gA G s.heap.size = A at hE ⊢
  have hA : ∀ q : Nat, s.heap.size ≤ q → A q := fun q h => by rw [← hAe]; exact Or.inr h
  have hG := gA_of hAe
  have hS : va_S A s.heap s.heap [] := va_S.rf
  have hF : gF (dC, dI) SKc G ([(9, 2), (9, 3), (11, 6), (20, 0), (21, 0), (22, 0), (98, 0)] : List (Nat × Nat)) s.heap s.heap := gF.rf
  have hl := lv_entry ([.ref o0, .int p1, .int p2, .int p3, .ref ou]) (n := 6) (Nat.le_of_ble_eq_true rfl)
  rw [lg_entry_eq]
  generalize (lg_sl ([.ref o0, .int p1, .int p2, .int p3, .ref ou]) ++ List.replicate (6 - (lg_sl ([.ref o0, .int p1, .int p2, .int p3, .ref ou])).length) Slot.unset).toArray = ls at hl ⊢
  have hl : lv_has ls 6 [(0, .ref o0), (1, .int p1), (2, .int p2), (3, .int p3), (4, .ref ou)] := hl
  refine lv_aload hx hb dL_storm_0 (lv_at hl 4 rfl) ?_
  refine lv_iconst (v := 0) hx hb dL_storm_2 (by decide) ?_
  refine lv_aload_n hx hb dL_storm_3 rfl (lv_at hl 0 rfl) ?_
  refine lv_iload_n hx hb dL_storm_4 rfl (lv_at hl 1 rfl) ?_
  refine lv_iload_n hx hb dL_storm_5 rfl (lv_at hl 2 rfl) ?_
  refine lv_iload_n hx hb dL_storm_6 rfl (lv_at hl 3 rfl) ?_
  have hFc := gA_free hG hA hS
  refine vx_calli (vx_runV (As := [.int p1, .int p2, .int p3]) (rest := [.int 0, .ref ou]) ⟨hx, hb, hml, hown, hts⟩ (c_storm l hlt dC dI kA adK adV G s.heap nC nS o0 p1 p2 p3 hT hr_o0 (by omega) (by omega)) (cwV 3 hts (goodIn_app (goodIn_r _ [30, 31, 32, 7] rfl (by decide +kernel)) (goodIn_ca (goodIn_r _ [1, 2, 3, 4, 5, 6, 7, 8, 9, 10, 11, 12, 13, 14, 15, 16, 17, 18, 19, 20, 21, 22, 23, 24, 25, 26, 27, 28, 29] rfl (by decide +kernel)) (bs2_in _ _))) rfl rfl rfl (by decide +kernel) ⟨(Nat.le_of_ble_eq_true rfl), (Nat.le_of_ble_eq_true rfl)⟩) ⟨fun a U g mk q => by obtain ⟨q0, q1, qK, qE⟩ := q; exact ⟨q0, q1, va_K.moved (u := U) (U := U.calling g mk a) (Vm.Alike.refl U.vm) qK, EVC.blind g mk a qE⟩, gH_rc hK hT hr_o0 shc_14 rfl, fun U hU hW => ⟨rfl, hU, va_K.moved hW.alike hK, hE.call hS hFc hU hW⟩⟩ rfl rfl hl.1 rfl (lv_room (Nat.le_of_ble_eq_true rfl)) dL_storm_7 ⟨(Nat.le_of_ble_eq_true rfl), (Nat.le_of_ble_eq_true rfl)⟩) hS (fun q _ h => hFc q h) hFc (fun q _ h => hFc q h) (fun E ce q9 u t H locs ht hvm _ hw2 _ _ hS hce hcv hcl => ?_) (fun r1 u t H locs ht hvm hw2 hB _ _ hS => ?_)
  · obtain ⟨hw2, hTx, hFx⟩ := hw2; rw [ht] at hTx hFx
    have hT := hTx; have hF := hF.more hFx (by decide)
    subst hw2
    refine vx_catch (E := "java/lang/IllegalArgumentException") hown [] ⟨0, 12, 15, 15⟩ [] (by rw [htab]; rfl) (fun z h => absurd h List.not_mem_nil) (by decide) (by decide) (ht_at2 hts 32 rfl) (va_Nw.use rfl (hE.1.1.2.1.2.1 _ (List.mem_of_getElem? (i := 1) rfl))) hce hcv hcl ?_
    refine lv_astore (lv' := [(5, .ref q9), (0, .ref o0), (1, .int p1), (2, .int p2), (3, .int p3), (4, .ref ou)]) hx hb dL_storm_15 hl (by decide) rfl (fun ls hl => ?_)
    refine lv_iconst (v := 1) hx hb dL_storm_17 (by decide) ?_
    exact W.iret (v := 1) hx hb hr (fun t ht hW => ⟨⟨1, (), rfl, (by exact (rg_t (a := 1) (by decide) (by first | decide | omega) (by first | decide | omega))), by (try dsimp only); rw [ht]; exact ⟨hT, hF⟩⟩, hS.F ht⟩) hS.2.2 dL_storm_18
  · obtain ⟨hT, hF1⟩ := hB
    rw [ht] at hT hF1
    have hF := hF.more hF1 (by decide)
    try dsimp only at hw2
    have h3 := hw2
    refine lv_i2l (v := r1.toInt64) hx hb dL_storm_10 rfl ?_
    refine tw_last (i := 0)  hx hb hK hT hG hS hr_ou shc_98 rfl (by unfold vp_in; decide) ⟨_, rfl⟩ dL_storm_11 (fun H locs hT oq m4 oi hS => ?_)
    have hF := hF.ast hr_ou skc_98 oq (by decide)
    refine lv_goto (tgt := 19) hx hb dL_storm_12 (by decide) ?_
    refine lv_iconst (v := 0) hx hb dL_storm_19 (by decide) ?_
    exact W.iret (v := 0) hx hb hr (fun t ht hW => ⟨⟨0, (), rfl, (by exact (rg_t (a := 0) (by decide) (by first | decide | omega) (by first | decide | omega))), by (try dsimp only); rw [ht]; exact ⟨hT, hF⟩⟩, hS.F ht⟩) hS.2.2 dL_storm_20
def w_l_tear : List Cond := .codeWith yL_tear cL_tear 6 (some .int) [(0, 12, 15, 13), (0, 12, 19, 39)] :: (HAppend.hAppend (α := List Cond) (β := List Cond) (γ := List Cond) [.code yX11_tear cX11_tear 5 (some .int), .code yX11_needSquare cX11_needSquare 1 none, .code yX11_within cX11_within 3 (some .boolean), .methodLink RX11 58 yX11_within, .static yX11_within, .initialized RX11, .classLink RX11 557 "java/lang/IndexOutOfBoundsException", .initialized "java/lang/IndexOutOfBoundsException", .methodLink RX11 55 yX11_needSquare, .static yX11_needSquare, .code yX11_needRow cX11_needRow 2 none, .fieldLink RX11 23 "SeaLand" "rows" "LSeaLand$Rows;", .classLink RX11 134 "java/util/NoSuchElementException", .initialized "java/util/NoSuchElementException", .methodLink RX11 493 yX11_needRow, .instanceMethod yX11_needRow, .selects RX11 yX11_needRow yX11_needRow, .code yX6_placeOf cX6_placeOf 3 (some .int), .fieldLink RX6 22 "SeaLand$Rows" "oldest" "I", .methodLink RX11 499 yX6_placeOf, .instanceMethod yX6_placeOf, .selects RX6 yX6_placeOf yX6_placeOf, .initialized RX6, .methodLink RL 166 yX11_tear, .instanceMethod yX11_tear, .selects RX11 yX11_tear yX11_tear, .classLink RL 13 "java/lang/IndexOutOfBoundsException", .classLink RL 39 "java/util/NoSuchElementException"] bs2)
set_option maxHeartbeats 4000000 in
set_option maxRecDepth 100000 in
theorem l_tear (l : Launch) (hlt : l.stackTraces = false) (dC : Nat → ClassId) (dI : Nat → Nat → Nat) (kA : Nat → ClassId) (adK adV : Nat → Nat) (G : gT) (H0 : Heap) (nC nS : Int) (o0 : Nat) (p1 : Int32) (p2 : Int32) (p3 : Int32) (ou : Nat) (hT : gH (dC, dI) kA (SHc nC nS) G H0) (hr_o0 : G o0 = some 14) (hr_ou : G ou = some 98) (hgC : 0 ≤ nC ∧ nC ≤ 40) (hgS : 0 ≤ nS ∧ nS ≤ 60) : Met l yL_tear w_l_tear ({ frames := 8, cells := 2, slots := 12, locals := 145 }) (va_Pc [.ref o0, .int p1, .int p2, .int p3, .ref ou] (fun U => U.heap = H0 ∧ va_K (dC, dI) vwCl (tyl kA) U ∧ EVC adK adV (gA G H0.size) U U.heap ∧ NC U)) (va_Qi (fun (r : Int32) (u : Unit) => (0 ≤ r.toInt ∧ r.toInt ≤ 2)) (fun (_ : Unit) (t : State) => gH (dC, dI) kA (SHc nC nS) G t.heap ∧ gF (dC, dI) SKc G ([(38, 0), (98, 0)] : List (Nat × Nat)) H0 t.heap) (gA G H0.size)) 2 12 (gA G H0.size) := by
  refine va_MetW (cc := cL_tear) (maxL := 6) (ret := (some .int)) (by decide) rfl ?_
  intro p e s m args below meth c s₁ B hml hv
  obtain ⟨rfl, hH0, hK, hE, hN⟩ := hv
  have hx := B.exec
  have hb := B.bytes
  have hr := B.returns
  have hts := atoms_spec (ws := w_l_tear) B.pre
  have hown : s.vm.findClass RL = some m.cls := findClass_of_methodNamed B.named
  have hlocks := B.notSynchronized
  have htab := vx_table (x := yL_tear) B (hts _ List.mem_cons_self)
  subst hH0
  generalize hAe : gA G s.heap.size = A at hE ⊢
  have hA : ∀ q : Nat, s.heap.size ≤ q → A q := fun q h => by rw [← hAe]; exact Or.inr h
  have hG := gA_of hAe
  have hS : va_S A s.heap s.heap [] := va_S.rf
  have hF : gF (dC, dI) SKc G ([(38, 0), (98, 0)] : List (Nat × Nat)) s.heap s.heap := gF.rf
  have hl := lv_entry ([.ref o0, .int p1, .int p2, .int p3, .ref ou]) (n := 6) (Nat.le_of_ble_eq_true rfl)
  rw [lg_entry_eq]
  generalize (lg_sl ([.ref o0, .int p1, .int p2, .int p3, .ref ou]) ++ List.replicate (6 - (lg_sl ([.ref o0, .int p1, .int p2, .int p3, .ref ou])).length) Slot.unset).toArray = ls at hl ⊢
  have hl : lv_has ls 6 [(0, .ref o0), (1, .int p1), (2, .int p2), (3, .int p3), (4, .ref ou)] := hl
  refine lv_aload hx hb dL_tear_0 (lv_at hl 4 rfl) ?_
  refine lv_iconst (v := 0) hx hb dL_tear_2 (by decide) ?_
  refine lv_aload_n hx hb dL_tear_3 rfl (lv_at hl 0 rfl) ?_
  refine lv_iload_n hx hb dL_tear_4 rfl (lv_at hl 1 rfl) ?_
  refine lv_iload_n hx hb dL_tear_5 rfl (lv_at hl 2 rfl) ?_
  refine lv_iload_n hx hb dL_tear_6 rfl (lv_at hl 3 rfl) ?_
  have hFc := gA_free hG hA hS
  refine vx_calli (vx_runV (As := [.int p1, .int p2, .int p3]) (rest := [.int 0, .ref ou]) ⟨hx, hb, hml, hown, hts⟩ (c_tear l hlt dC dI kA adK adV G s.heap nC nS o0 p1 p2 p3 hT hr_o0 (by omega) (by omega)) (cwV 3 hts (goodIn_app (goodIn_r _ [24, 25, 26, 6] rfl (by decide +kernel)) (goodIn_ca (goodIn_r _ [1, 2, 3, 4, 5, 6, 7, 8, 9, 10, 11, 12, 13, 14, 15, 16, 17, 18, 19, 20, 21, 22, 23] rfl (by decide +kernel)) (bs2_in _ _))) rfl rfl rfl (by decide +kernel) ⟨(Nat.le_of_ble_eq_true rfl), (Nat.le_of_ble_eq_true rfl)⟩) ⟨fun a U g mk q => by obtain ⟨q0, q1, qK, qE⟩ := q; exact ⟨q0, q1, va_K.moved (u := U) (U := U.calling g mk a) (Vm.Alike.refl U.vm) qK, EVC.blind g mk a qE⟩, gH_rc hK hT hr_o0 shc_14 rfl, fun U hU hW => ⟨rfl, hU, va_K.moved hW.alike hK, hE.call hS hFc hU hW⟩⟩ rfl rfl hl.1 rfl (lv_room (Nat.le_of_ble_eq_true rfl)) dL_tear_7 ⟨(Nat.le_of_ble_eq_true rfl), (Nat.le_of_ble_eq_true rfl)⟩) hS (fun q _ h => hFc q h) hFc (fun q _ h => hFc q h) (fun E ce q9 u t H locs ht hvm _ hw2 _ _ hS hce hcv hcl => ?_) (fun r1 u t H locs ht hvm hw2 hB _ _ hS => ?_)
  · obtain ⟨hw2, hTx, hFx⟩ := hw2; rw [ht] at hTx hFx
    have hT := hTx; have hF := hF.more hFx (by decide)
    rcases hw2 with rfl | rfl
    · refine vx_catch (E := "java/lang/IndexOutOfBoundsException") hown [] ⟨0, 12, 15, 13⟩ [⟨0, 12, 19, 39⟩] (by rw [htab]; rfl) (fun z h => absurd h List.not_mem_nil) (by decide) (by decide) (ht_at2 hts 26 rfl) (va_Nw.use rfl (hE.1.1.2.1.2.1 _ (List.mem_of_getElem? (i := 0) rfl))) hce hcv hcl ?_
      refine lv_astore (lv' := [(5, .ref q9), (0, .ref o0), (1, .int p1), (2, .int p2), (3, .int p3), (4, .ref ou)]) hx hb dL_tear_15 hl (by decide) rfl (fun ls hl => ?_)
      refine lv_iconst (v := 1) hx hb dL_tear_17 (by decide) ?_
      exact W.iret (v := 1) hx hb hr (fun t ht hW => ⟨⟨1, (), rfl, (by exact (rg_t (a := 1) (by decide) (by first | decide | omega) (by first | decide | omega))), by (try dsimp only); rw [ht]; exact ⟨hT, hF⟩⟩, hS.F ht⟩) hS.2.2 dL_tear_18
    · refine vx_catch (E := "java/util/NoSuchElementException") hown [⟨0, 12, 15, 13⟩] ⟨0, 12, 19, 39⟩ [] (by rw [htab]; rfl) (fun z h => by
          simp only [List.mem_cons, List.not_mem_nil, or_false] at h
          rcases h with rfl
          · exact Or.inr ⟨by decide, "java/lang/IndexOutOfBoundsException", (ht_at2 hts 26 rfl), hN ("java/util/NoSuchElementException", "java/lang/IndexOutOfBoundsException") (by decide +kernel)⟩) (by decide) (by decide) (ht_at2 hts 27 rfl) (va_Nw.use rfl (hE.1.1.2.1.2.1 _ (List.mem_of_getElem? (i := 2) rfl))) hce hcv hcl ?_
      refine lv_astore (lv' := [(5, .ref q9), (0, .ref o0), (1, .int p1), (2, .int p2), (3, .int p3), (4, .ref ou)]) hx hb dL_tear_19 hl (by decide) rfl (fun ls hl => ?_)
      refine lv_iconst (v := 2) hx hb dL_tear_21 (by decide) ?_
      exact W.iret (v := 2) hx hb hr (fun t ht hW => ⟨⟨2, (), rfl, (by exact (rg_t (a := 2) (by decide) (by first | decide | omega) (by first | decide | omega))), by (try dsimp only); rw [ht]; exact ⟨hT, hF⟩⟩, hS.F ht⟩) hS.2.2 dL_tear_22
  · obtain ⟨hT, hF1⟩ := hB
    rw [ht] at hT hF1
    have hF := hF.more hF1 (by decide)
    try dsimp only at hw2
    refine lv_i2l (v := r1.toInt64) hx hb dL_tear_10 rfl ?_
    refine tw_last (i := 0)  hx hb hK hT hG hS hr_ou shc_98 rfl (by unfold vp_in; decide) ⟨_, rfl⟩ dL_tear_11 (fun H locs hT oq m3 oi hS => ?_)
    have hF := hF.ast hr_ou skc_98 oq (by decide)
    refine lv_goto (tgt := 23) hx hb dL_tear_12 (by decide) ?_
    refine lv_iconst (v := 0) hx hb dL_tear_23 (by decide) ?_
    exact W.iret (v := 0) hx hb hr (fun t ht hW => ⟨⟨0, (), rfl, (by exact (rg_t (a := 0) (by decide) (by first | decide | omega) (by first | decide | omega))), by (try dsimp only); rw [ht]; exact ⟨hT, hF⟩⟩, hS.F ht⟩) hS.2.2 dL_tear_24
def w_l_tide : List Cond := .codeWith yL_tide cL_tide 4 (some .int) [(0, 6, 9, 15)] :: (HAppend.hAppend (α := List Cond) (β := List Cond) (γ := List Cond) [.code yX11_tide cX11_tide 3 none, .code yX11_within cX11_within 3 (some .boolean), .methodLink RX11 58 yX11_within, .static yX11_within, .initialized RX11, .code yX11_needNumbers cX11_needNumbers 1 none, .classLink RX11 547 "java/lang/IllegalArgumentException", .initialized "java/lang/IllegalArgumentException", .methodLink RX11 62 yX11_needNumbers, .static yX11_needNumbers, .fieldLink RX11 23 "SeaLand" "rows" "LSeaLand$Rows;", .code yX6_forget cX6_forget 1 none, .fieldLink RX6 18 "SeaLand$Rows" "kept" "I", .fieldLink RX6 22 "SeaLand$Rows" "oldest" "I", .methodLink RX11 76 yX6_forget, .instanceMethod yX6_forget, .selects RX6 yX6_forget yX6_forget, .initialized RX6, .fieldLink RX11 16 "SeaLand" "lake" "LSeaLand$Lake;", .methodLink RL 23 yX11_tide, .instanceMethod yX11_tide, .selects RX11 yX11_tide yX11_tide, .classLink RL 15 "java/lang/IllegalArgumentException"] bs2)
set_option maxHeartbeats 4000000 in
set_option maxRecDepth 100000 in
theorem l_tide (l : Launch) (hlt : l.stackTraces = false) (dC : Nat → ClassId) (dI : Nat → Nat → Nat) (kA : Nat → ClassId) (adK adV : Nat → Nat) (G : gT) (H0 : Heap) (nC nS : Int) (o0 : Nat) (p1 : Int32) (p2 : Int32) (hT : gH (dC, dI) kA (SHc nC nS) G H0) (hr_o0 : G o0 = some 14) (hgC : 0 ≤ nC ∧ nC ≤ 40) (hgS : 0 ≤ nS ∧ nS ≤ 60) : Met l yL_tide w_l_tide ({ frames := 8, cells := 1, slots := 6, locals := 142 }) (va_Pc [.ref o0, .int p1, .int p2] (fun U => U.heap = H0 ∧ va_K (dC, dI) vwCl (tyl kA) U ∧ EVC adK adV (gA G H0.size) U U.heap ∧ NC U)) (va_Qi (fun (r : Int32) (u : Unit) => (0 ≤ r.toInt ∧ r.toInt ≤ 1)) (fun (_ : Unit) (t : State) => gH (dC, dI) kA (SHc nC nS) G t.heap ∧ gF (dC, dI) SKc G ([(9, 2), (9, 3), (19, 0)] : List (Nat × Nat)) H0 t.heap) (gA G H0.size)) 1 6 (gA G H0.size) := by
  refine va_MetW (cc := cL_tide) (maxL := 4) (ret := (some .int)) (by decide) rfl ?_
  intro p e s m args below meth c s₁ B hml hv
  obtain ⟨rfl, hH0, hK, hE, hN⟩ := hv
  have hx := B.exec
  have hb := B.bytes
  have hr := B.returns
  have hts := atoms_spec (ws := w_l_tide) B.pre
  have hown : s.vm.findClass RL = some m.cls := findClass_of_methodNamed B.named
  have hlocks := B.notSynchronized
  have htab := vx_table (x := yL_tide) B (hts _ List.mem_cons_self)
  subst hH0
  generalize hAe : gA G s.heap.size = A at hE ⊢
  have hA : ∀ q : Nat, s.heap.size ≤ q → A q := fun q h => by rw [← hAe]; exact Or.inr h
  have hG := gA_of hAe
  have hS : va_S A s.heap s.heap [] := va_S.rf
  have hF : gF (dC, dI) SKc G ([(9, 2), (9, 3), (19, 0)] : List (Nat × Nat)) s.heap s.heap := gF.rf
  have hl := lv_entry ([.ref o0, .int p1, .int p2]) (n := 4) (Nat.le_of_ble_eq_true rfl)
  rw [lg_entry_eq]
  generalize (lg_sl ([.ref o0, .int p1, .int p2]) ++ List.replicate (4 - (lg_sl ([.ref o0, .int p1, .int p2])).length) Slot.unset).toArray = ls at hl ⊢
  have hl : lv_has ls 4 [(0, .ref o0), (1, .int p1), (2, .int p2)] := hl
  refine lv_aload_n hx hb dL_tide_0 rfl (lv_at hl 0 rfl) ?_
  refine lv_iload_n hx hb dL_tide_1 rfl (lv_at hl 1 rfl) ?_
  refine lv_iload_n hx hb dL_tide_2 rfl (lv_at hl 2 rfl) ?_
  have hFc := gA_free hG hA hS
  refine vx_callv (vx_runV (As := [.int p1, .int p2]) (rest := []) ⟨hx, hb, hml, hown, hts⟩ (c_tide l hlt dC dI kA adK adV G s.heap nC nS o0 p1 p2 hT hr_o0 (by omega) (by omega)) (cwV 2 hts (goodIn_app (goodIn_r _ [20, 21, 22, 5] rfl (by decide +kernel)) (goodIn_ca (goodIn_r _ [1, 2, 3, 4, 5, 6, 7, 8, 9, 10, 11, 12, 13, 14, 15, 16, 17, 18, 19] rfl (by decide +kernel)) (bs2_in _ _))) rfl rfl rfl (by decide +kernel) ⟨(Nat.le_of_ble_eq_true rfl), (Nat.le_of_ble_eq_true rfl)⟩) ⟨fun a U g mk q => by obtain ⟨q0, q1, qK, qE⟩ := q; exact ⟨q0, q1, va_K.moved (u := U) (U := U.calling g mk a) (Vm.Alike.refl U.vm) qK, EVC.blind g mk a qE⟩, gH_rc hK hT hr_o0 shc_14 rfl, fun U hU hW => ⟨rfl, hU, va_K.moved hW.alike hK, hE.call hS hFc hU hW⟩⟩ rfl rfl hl.1 rfl (lv_room (Nat.le_of_ble_eq_true rfl)) dL_tide_3 ⟨(Nat.le_of_ble_eq_true rfl), (Nat.le_of_ble_eq_true rfl)⟩) hS (fun q _ h => hFc q h) hFc (fun q _ h => hFc q h) (fun E ce q9 u t H locs ht hvm _ hw2 _ _ hS hce hcv hcl => ?_) (fun u t H locs ht hvm hw2 hB _ _ hS => ?_)
  · obtain ⟨hw2, hTx, hFx⟩ := hw2; rw [ht] at hTx hFx
    have hT := hTx; have hF := hF.more hFx (by decide)
    subst hw2
    refine vx_catch (E := "java/lang/IllegalArgumentException") hown [] ⟨0, 6, 9, 15⟩ [] (by rw [htab]; rfl) (fun z h => absurd h List.not_mem_nil) (by decide) (by decide) (ht_at2 hts 22 rfl) (va_Nw.use rfl (hE.1.1.2.1.2.1 _ (List.mem_of_getElem? (i := 1) rfl))) hce hcv hcl ?_
    refine lv_astore_n (lv' := [(3, .ref q9), (0, .ref o0), (1, .int p1), (2, .int p2)]) hx hb dL_tide_9 rfl hl (by decide) rfl (fun ls hl => ?_)
    refine lv_iconst (v := 1) hx hb dL_tide_10 (by decide) ?_
    exact W.iret (v := 1) hx hb hr (fun t ht hW => ⟨⟨1, (), rfl, (by exact (rg_t (a := 1) (by decide) (by first | decide | omega) (by first | decide | omega))), by (try dsimp only); rw [ht]; exact ⟨hT, hF⟩⟩, hS.F ht⟩) hS.2.2 dL_tide_11
  · obtain ⟨hT, hF1⟩ := hB
    rw [ht] at hT hF1
    have hF := hF.more hF1 (by decide)
    try dsimp only at hw2
    refine lv_goto (tgt := 12) hx hb dL_tide_6 (by decide) ?_
    refine lv_iconst (v := 0) hx hb dL_tide_12 (by decide) ?_
    exact W.iret (v := 0) hx hb hr (fun t ht hW => ⟨⟨0, (), rfl, (by exact (rg_t (a := 0) (by decide) (by first | decide | omega) (by first | decide | omega))), by (try dsimp only); rw [ht]; exact ⟨hT, hF⟩⟩, hS.F ht⟩) hS.2.2 dL_tide_13
def w_l_turn : List Cond := .codeWith yL_turn cL_turn 5 (some .int) [(0, 17, 20, 13), (0, 17, 24, 50)] :: (HAppend.hAppend (α := List Cond) (β := List Cond) (γ := List Cond) [.code yX11_turn cX11_turn 5 (some .boolean), .code yX11_workOf cX11_workOf 2 (some (.object "SeaLand$Work")), .fieldLink RX11 16 "SeaLand" "lake" "LSeaLand$Lake;", .code yX11_within cX11_within 3 (some .boolean), .methodLink RX11 58 yX11_within, .static yX11_within, .initialized RX11, .classLink RX11 557 "java/lang/IndexOutOfBoundsException", .initialized "java/lang/IndexOutOfBoundsException", .methodLink RX11 167 yX11_workOf, .instanceMethod yX11_workOf, .selects RX11 yX11_workOf yX11_workOf, .code yX11_needKind cX11_needKind 1 none, .methodLink RX11 177 yX11_needKind, .static yX11_needKind, .fieldLink RX11 23 "SeaLand" "rows" "LSeaLand$Rows;", .code yX6_forget cX6_forget 1 none, .fieldLink RX6 18 "SeaLand$Rows" "kept" "I", .fieldLink RX6 22 "SeaLand$Rows" "oldest" "I", .methodLink RX11 76 yX6_forget, .instanceMethod yX6_forget, .selects RX6 yX6_forget yX6_forget, .initialized RX6, .classLink RX11 552 "java/lang/ClassCastException", .initialized "java/lang/ClassCastException", .methodLink RL 59 yX11_turn, .instanceMethod yX11_turn, .selects RX11 yX11_turn yX11_turn, .classLink RL 13 "java/lang/IndexOutOfBoundsException", .classLink RL 50 "java/lang/ClassCastException"] bs2)
set_option maxHeartbeats 4000000 in
set_option maxRecDepth 100000 in
theorem l_turn (l : Launch) (hlt : l.stackTraces = false) (dC : Nat → ClassId) (dI : Nat → Nat → Nat) (kA : Nat → ClassId) (adK adV : Nat → Nat) (G : gT) (H0 : Heap) (nC nS : Int) (o0 : Nat) (p1 : Int32) (p2 : Int32) (ou : Nat) (hT : gH (dC, dI) kA (SHc nC nS) G H0) (hr_o0 : G o0 = some 14) (hq2 : 0 ≤ p2.toInt ∧ p2.toInt ≤ 1) (hr_ou : G ou = some 98) (hgC : 0 ≤ nC ∧ nC ≤ 40) (hgS : 0 ≤ nS ∧ nS ≤ 60) : Met l yL_turn w_l_turn ({ frames := 8, cells := 2, slots := 12, locals := 145 }) (va_Pc [.ref o0, .int p1, .int p2, .ref ou] (fun U => U.heap = H0 ∧ va_K (dC, dI) vwCl (tyl kA) U ∧ EVC adK adV (gA G H0.size) U U.heap ∧ NC U)) (va_Qi (fun (r : Int32) (u : Unit) => (0 ≤ r.toInt ∧ r.toInt ≤ 2)) (fun (_ : Unit) (t : State) => gH (dC, dI) kA (SHc nC nS) G t.heap ∧ gF (dC, dI) SKc G ([(9, 2), (9, 3), (13, 9), (98, 0)] : List (Nat × Nat)) H0 t.heap) (gA G H0.size)) 2 12 (gA G H0.size) := by
  refine va_MetW (cc := cL_turn) (maxL := 5) (ret := (some .int)) (by decide) rfl ?_
  intro p e s m args below meth c s₁ B hml hv
  obtain ⟨rfl, hH0, hK, hE, hN⟩ := hv
  have hx := B.exec
  have hb := B.bytes
  have hr := B.returns
  have hts := atoms_spec (ws := w_l_turn) B.pre
  have hown : s.vm.findClass RL = some m.cls := findClass_of_methodNamed B.named
  have hlocks := B.notSynchronized
  have htab := vx_table (x := yL_turn) B (hts _ List.mem_cons_self)
  subst hH0
  generalize hAe : gA G s.heap.size = A at hE ⊢
  have hA : ∀ q : Nat, s.heap.size ≤ q → A q := fun q h => by rw [← hAe]; exact Or.inr h
  have hG := gA_of hAe
  have hS : va_S A s.heap s.heap [] := va_S.rf
  have hF : gF (dC, dI) SKc G ([(9, 2), (9, 3), (13, 9), (98, 0)] : List (Nat × Nat)) s.heap s.heap := gF.rf
  have hl := lv_entry ([.ref o0, .int p1, .int p2, .ref ou]) (n := 5) (Nat.le_of_ble_eq_true rfl)
  rw [lg_entry_eq]
  generalize (lg_sl ([.ref o0, .int p1, .int p2, .ref ou]) ++ List.replicate (5 - (lg_sl ([.ref o0, .int p1, .int p2, .ref ou])).length) Slot.unset).toArray = ls at hl ⊢
  have hl : lv_has ls 5 [(0, .ref o0), (1, .int p1), (2, .int p2), (3, .ref ou)] := hl
  refine lv_aload_n hx hb dL_turn_0 rfl (lv_at hl 3 rfl) ?_
  refine lv_iconst (v := 0) hx hb dL_turn_1 (by decide) ?_
  refine lv_aload_n hx hb dL_turn_2 rfl (lv_at hl 0 rfl) ?_
  refine lv_iload_n hx hb dL_turn_3 rfl (lv_at hl 1 rfl) ?_
  refine lv_iload_n hx hb dL_turn_4 rfl (lv_at hl 2 rfl) ?_
  have hFc := gA_free hG hA hS
  refine vx_calli (vx_runV (As := [.int p1, .int p2]) (rest := [.int 0, .ref ou]) ⟨hx, hb, hml, hown, hts⟩ (c_turn l hlt dC dI kA adK adV G s.heap nC nS o0 p1 p2 hT hr_o0 (by have q8 := ti_all p2; omega) (by omega) (by omega)) (cwV 2 hts (goodIn_app (goodIn_r _ [26, 27, 28, 7] rfl (by decide +kernel)) (goodIn_ca (goodIn_r _ [1, 2, 3, 4, 5, 6, 7, 8, 9, 10, 11, 12, 13, 14, 15, 16, 17, 18, 19, 20, 21, 22, 23, 24, 25] rfl (by decide +kernel)) (bs2_in _ _))) rfl rfl rfl (by decide +kernel) ⟨(Nat.le_of_ble_eq_true rfl), (Nat.le_of_ble_eq_true rfl)⟩) ⟨fun a U g mk q => by obtain ⟨q0, q1, qK, qE⟩ := q; exact ⟨q0, q1, va_K.moved (u := U) (U := U.calling g mk a) (Vm.Alike.refl U.vm) qK, EVC.blind g mk a qE⟩, gH_rc hK hT hr_o0 shc_14 rfl, fun U hU hW => ⟨rfl, hU, va_K.moved hW.alike hK, hE.call hS hFc hU hW⟩⟩ rfl rfl hl.1 rfl (lv_room (Nat.le_of_ble_eq_true rfl)) dL_turn_5 ⟨(Nat.le_of_ble_eq_true rfl), (Nat.le_of_ble_eq_true rfl)⟩) hS (fun q _ h => hFc q h) hFc (fun q _ h => hFc q h) (fun E ce q9 u t H locs ht hvm _ hw2 _ _ hS hce hcv hcl => ?_) (fun r1 u t H locs ht hvm hw2 hB _ _ hS => ?_)
  · obtain ⟨hw2, hTx, hFx⟩ := hw2; rw [ht] at hTx hFx
    have hT := hTx; have hF := hF.more hFx (by decide)
    rcases hw2 with rfl | rfl
    · refine vx_catch (E := "java/lang/ClassCastException") hown [⟨0, 17, 20, 13⟩] ⟨0, 17, 24, 50⟩ [] (by rw [htab]; rfl) (fun z h => by
          simp only [List.mem_cons, List.not_mem_nil, or_false] at h
          rcases h with rfl
          · exact Or.inr ⟨by decide, "java/lang/IndexOutOfBoundsException", (ht_at2 hts 28 rfl), hN ("java/lang/ClassCastException", "java/lang/IndexOutOfBoundsException") (by decide +kernel)⟩) (by decide) (by decide) (ht_at2 hts 29 rfl) (va_Nw.use rfl (hE.2 _ (List.mem_of_getElem? (i := 1) rfl))) hce hcv hcl ?_
      refine lv_astore (lv' := [(4, .ref q9), (0, .ref o0), (1, .int p1), (2, .int p2), (3, .ref ou)]) hx hb dL_turn_24 hl (by decide) rfl (fun ls hl => ?_)
      refine lv_iconst (v := 2) hx hb dL_turn_26 (by decide) ?_
      exact W.iret (v := 2) hx hb hr (fun t ht hW => ⟨⟨2, (), rfl, (by exact (rg_t (a := 2) (by decide) (by first | decide | omega) (by first | decide | omega))), by (try dsimp only); rw [ht]; exact ⟨hT, hF⟩⟩, hS.F ht⟩) hS.2.2 dL_turn_27
    · refine vx_catch (E := "java/lang/IndexOutOfBoundsException") hown [] ⟨0, 17, 20, 13⟩ [⟨0, 17, 24, 50⟩] (by rw [htab]; rfl) (fun z h => absurd h List.not_mem_nil) (by decide) (by decide) (ht_at2 hts 28 rfl) (va_Nw.use rfl (hE.1.1.2.1.2.1 _ (List.mem_of_getElem? (i := 0) rfl))) hce hcv hcl ?_
      refine lv_astore (lv' := [(4, .ref q9), (0, .ref o0), (1, .int p1), (2, .int p2), (3, .ref ou)]) hx hb dL_turn_20 hl (by decide) rfl (fun ls hl => ?_)
      refine lv_iconst (v := 1) hx hb dL_turn_22 (by decide) ?_
      exact W.iret (v := 1) hx hb hr (fun t ht hW => ⟨⟨1, (), rfl, (by exact (rg_t (a := 1) (by decide) (by first | decide | omega) (by first | decide | omega))), by (try dsimp only); rw [ht]; exact ⟨hT, hF⟩⟩, hS.F ht⟩) hS.2.2 dL_turn_23
  · obtain ⟨hT, hF1⟩ := hB
    rw [ht] at hT hF1
    have hF := hF.more hF1 (by decide)
    try dsimp only at hw2
    have h3 := hw2
    refine lv_if_eq (tgt := 15) hx hb dL_turn_8 (by decide) (fun c4 => ?_) (fun c4 => ?_)
    · have t5 : r1.toInt = 0 := ti_eq c4 rfl (by decide)
      refine lv_lconst (v := 0) hx hb dL_turn_15 (by decide) ?_
      refine tw_last (i := 0)  hx hb hK hT hG hS hr_ou shc_98 rfl (by unfold vp_in; decide) ⟨_, rfl⟩ dL_turn_16 (fun H locs hT oq m6 oi hS => ?_)
      have hF := hF.ast hr_ou skc_98 oq (by decide)
      refine lv_goto (tgt := 28) hx hb dL_turn_17 (by decide) ?_
      refine lv_iconst (v := 0) hx hb dL_turn_28 (by decide) ?_
      exact W.iret (v := 0) hx hb hr (fun t ht hW => ⟨⟨0, (), rfl, (by exact (rg_t (a := 0) (by decide) (by first | decide | omega) (by first | decide | omega))), by (try dsimp only); rw [ht]; exact ⟨hT, hF⟩⟩, hS.F ht⟩) hS.2.2 dL_turn_29
    · have t7 : r1.toInt ≠ 0 := ti_ne c4 rfl (by decide)
      refine lv_lconst (v := 1) hx hb dL_turn_11 (by decide) ?_
      refine lv_goto (tgt := 16) hx hb dL_turn_12 (by decide) ?_
      refine tw_last (i := 0)  hx hb hK hT hG hS hr_ou shc_98 rfl (by unfold vp_in; decide) ⟨_, rfl⟩ dL_turn_16 (fun H locs hT oq m8 oi hS => ?_)
      have hF := hF.ast hr_ou skc_98 oq (by decide)
      refine lv_goto (tgt := 28) hx hb dL_turn_17 (by decide) ?_
      refine lv_iconst (v := 0) hx hb dL_turn_28 (by decide) ?_
      exact W.iret (v := 0) hx hb hr (fun t ht hW => ⟨⟨0, (), rfl, (by exact (rg_t (a := 0) (by decide) (by first | decide | omega) (by first | decide | omega))), by (try dsimp only); rw [ht]; exact ⟨hT, hF⟩⟩, hS.F ht⟩) hS.2.2 dL_turn_29
def w_l_vote : List Cond := .codeWith yL_vote cL_vote 5 (some .int) [(0, 10, 13, 13), (0, 10, 17, 17)] :: (HAppend.hAppend (α := List Cond) (β := List Cond) (γ := List Cond) [.code yX11_vote cX11_vote 4 (some .int), .code yX11_settlerOf cX11_settlerOf 2 (some (.object "SeaLand$Settler")), .fieldLink RX11 30 "SeaLand" "board" "LSeaLand$Board;", .code yX11_within cX11_within 3 (some .boolean), .methodLink RX11 58 yX11_within, .static yX11_within, .initialized RX11, .classLink RX11 557 "java/lang/IndexOutOfBoundsException", .initialized "java/lang/IndexOutOfBoundsException", .methodLink RX11 292 yX11_settlerOf, .instanceMethod yX11_settlerOf, .selects RX11 yX11_settlerOf yX11_settlerOf, .code yX11_needVote cX11_needVote 1 none, .classLink RX11 69 "java/lang/IllegalStateException", .initialized "java/lang/IllegalStateException", .methodLink RX11 296 yX11_needVote, .instanceMethod yX11_needVote, .selects RX11 yX11_needVote yX11_needVote, .fieldLink RX11 16 "SeaLand" "lake" "LSeaLand$Lake;", .code yX0_hear cX0_hear 5 (some .int), .code yX0_gatherFacts cX0_gatherFacts 3 none, .fieldLink RX0 33 "SeaLand$Board" "facts" "[J", .code yX0_acresOf cX0_acresOf 4 (some .int), .fieldLink RX0 17 "SeaLand$Board" "farmOf" "[I", .methodLink RX0 98 yX0_acresOf, .instanceMethod yX0_acresOf, .selects RX0 yX0_acresOf yX0_acresOf, .initialized RX0, .code yX0_nearOf cX0_nearOf 5 (some .int), .code yX3_stepsToBank cX3_stepsToBank 4 (some .int), .fieldLink RX3 47 "SeaLand$Lake" "built" "I", .fieldLink RX3 27 "SeaLand$Lake" "works" "[LSeaLand$Work;", .code yX10_isBank cX10_isBank 1 (some .boolean), .fieldLink RX10 18 "SeaLand$Work" "kind" "I", .methodLink RX3 67 yX10_isBank, .instanceMethod yX10_isBank, .selects RX10 yX10_isBank yX10_isBank, .initialized RX10, .code yX11_stepsApart cX11_stepsApart 2 (some .int), .methodLink RX11 580 Lib.Math.abs.name, .static Lib.Math.abs.name, .initialized "java/lang/Math", .code Lib.Math.abs.name Lib.Math.abs.code 1 (some .int), .static yX11_stepsApart, .methodLink RX3 71 Lib.Math.min.name, .static Lib.Math.min.name, .code Lib.Math.min.name Lib.Math.min.code 2 (some .int), .methodLink RX0 138 yX3_stepsToBank, .instanceMethod yX3_stepsToBank, .selects RX3 yX3_stepsToBank yX3_stepsToBank, .initialized RX3, .methodLink RX0 166 Lib.Math.min.name, .methodLink RX0 123 yX0_nearOf, .instanceMethod yX0_nearOf, .selects RX0 yX0_nearOf yX0_nearOf, .methodLink RX0 84 yX0_gatherFacts, .instanceMethod yX0_gatherFacts, .selects RX0 yX0_gatherFacts yX0_gatherFacts, .code yX0_ruled cX0_ruled 2 (some .int), .fieldLink RX0 41 "SeaLand$Board" "force" "LSeaLand$Law;", .code yX4_sumThatHolds cX4_sumThatHolds 6 (some .long), .fieldLink RX4 60 "SeaLand$Law" "lines" "I", .fieldLink RX4 18 "SeaLand$Law" "kinds" "[I", .code yX4_lineHolds cX4_lineHolds 6 (some .boolean), .fieldLink RX4 33 "SeaLand$Law" "stepFrom" "[I", .fieldLink RX4 36 "SeaLand$Law" "stepTo" "[I", .fieldLink RX4 39 "SeaLand$Law" "steps" "[I", .fieldLink RX4 42 "SeaLand$Law" "stack" "[J", .code yX4_joined cX4_joined 5 (some .long), .methodLink RX4 199 Lib.MathLoose.max_long.x, .static Lib.MathLoose.max_long.x, .code Lib.MathLoose.max_long.x Lib.MathLoose.max_long.code 4 (some .long), .methodLink RX4 195 yX4_joined, .static yX4_joined, .initialized RX4, .methodLink RX4 203 yX4_lineHolds, .instanceMethod yX4_lineHolds, .selects RX4 yX4_lineHolds yX4_lineHolds, .fieldLink RX4 21 "SeaLand$Law" "firsts" "[I", .methodLink RX0 130 yX4_sumThatHolds, .instanceMethod yX4_sumThatHolds, .selects RX4 yX4_sumThatHolds yX4_sumThatHolds, .methodLink RX0 88 yX0_ruled, .instanceMethod yX0_ruled, .selects RX0 yX0_ruled yX0_ruled, .fieldLink RX0 72 "SeaLand$Board" "allVotes" "J", .fieldLink RX0 68 "SeaLand$Board" "yesVotes" "J", .methodLink RX11 299 yX0_hear, .instanceMethod yX0_hear, .selects RX0 yX0_hear yX0_hear, .methodLink RL 90 yX11_vote, .instanceMethod yX11_vote, .selects RX11 yX11_vote yX11_vote, .classLink RL 13 "java/lang/IndexOutOfBoundsException", .classLink RL 17 "java/lang/IllegalStateException"] bs2)
set_option maxHeartbeats 4000000 in
set_option maxRecDepth 100000 in
theorem l_vote (l : Launch) (hlt : l.stackTraces = false) (dC : Nat → ClassId) (dI : Nat → Nat → Nat) (kA : Nat → ClassId) (adK adV : Nat → Nat) (G : gT) (H0 : Heap) (nC nS : Int) (o0 : Nat) (p1 : Int32) (p2 : Int32) (ou : Nat) (hT : gH (dC, dI) kA (SHc nC nS) G H0) (hr_o0 : G o0 = some 14) (hq2 : 0 ≤ p2.toInt ∧ p2.toInt ≤ 1) (hr_ou : G ou = some 98) (hgC : 0 ≤ nC ∧ nC ≤ 40) (hgS : 0 ≤ nS ∧ nS ≤ 60) : Met l yL_vote w_l_vote ({ frames := 8, cells := 2, slots := 12, locals := 182 }) (va_Pc [.ref o0, .int p1, .int p2, .ref ou] (fun U => U.heap = H0 ∧ va_K (dC, dI) vwCl (tyl kA) U ∧ EVC adK adV (gA G H0.size) U U.heap ∧ NC U)) (va_Qi (fun (r : Int32) (u : Unit) => (0 ≤ r.toInt ∧ r.toInt ≤ 2)) (fun (_ : Unit) (t : State) => gH (dC, dI) kA (SHc nC nS) G t.heap ∧ gF (dC, dI) SKc G ([(3, 12), (3, 13), (10, 11), (50, 0), (56, 0), (98, 0)] : List (Nat × Nat)) H0 t.heap) (gA G H0.size)) 2 12 (gA G H0.size) := by
  refine va_MetW (cc := cL_vote) (maxL := 5) (ret := (some .int)) (by decide) rfl ?_
  intro p e s m args below meth c s₁ B hml hv
  obtain ⟨rfl, hH0, hK, hE, hN⟩ := hv
  have hx := B.exec
  have hb := B.bytes
  have hr := B.returns
  have hts := atoms_spec (ws := w_l_vote) B.pre
  have hown : s.vm.findClass RL = some m.cls := findClass_of_methodNamed B.named
  have hlocks := B.notSynchronized
  have htab := vx_table (x := yL_vote) B (hts _ List.mem_cons_self)
  subst hH0
  generalize hAe : gA G s.heap.size = A at hE ⊢
  have hA : ∀ q : Nat, s.heap.size ≤ q → A q := fun q h => by rw [← hAe]; exact Or.inr h
  have hG := gA_of hAe
  have hS : va_S A s.heap s.heap [] := va_S.rf
  have hF : gF (dC, dI) SKc G ([(3, 12), (3, 13), (10, 11), (50, 0), (56, 0), (98, 0)] : List (Nat × Nat)) s.heap s.heap := gF.rf
  have hl := lv_entry ([.ref o0, .int p1, .int p2, .ref ou]) (n := 5) (Nat.le_of_ble_eq_true rfl)
  rw [lg_entry_eq]
  generalize (lg_sl ([.ref o0, .int p1, .int p2, .ref ou]) ++ List.replicate (5 - (lg_sl ([.ref o0, .int p1, .int p2, .ref ou])).length) Slot.unset).toArray = ls at hl ⊢
  have hl : lv_has ls 5 [(0, .ref o0), (1, .int p1), (2, .int p2), (3, .ref ou)] := hl
  refine lv_aload_n hx hb dL_vote_0 rfl (lv_at hl 3 rfl) ?_
  refine lv_iconst (v := 0) hx hb dL_vote_1 (by decide) ?_
  refine lv_aload_n hx hb dL_vote_2 rfl (lv_at hl 0 rfl) ?_
  refine lv_iload_n hx hb dL_vote_3 rfl (lv_at hl 1 rfl) ?_
  refine lv_iload_n hx hb dL_vote_4 rfl (lv_at hl 2 rfl) ?_
  have hFc := gA_free hG hA hS
  refine vx_calli (vx_runV (As := [.int p1, .int p2]) (rest := [.int 0, .ref ou]) ⟨hx, hb, hml, hown, hts⟩ (c_vote l hlt dC dI kA adK adV G s.heap nC nS o0 p1 p2 hT hr_o0 (by have q8 := ti_all p2; omega) (by omega) (by omega)) (cwV 2 hts (goodIn_app (goodIn_r _ [91, 92, 93, 7] rfl (by decide +kernel)) (goodIn_ca (goodIn_r _ [1, 2, 3, 4, 5, 6, 7, 8, 9, 10, 11, 12, 13, 14, 15, 16, 17, 18, 19, 20, 21, 22, 23, 24, 25, 26, 27, 28, 29, 30, 31, 32, 33, 34, 35, 36, 37, 38, 39, 40, 41, 42, 43, 44, 45, 46, 47, 48, 49, 50, 51, 52, 53, 54, 55, 56, 57, 58, 59, 60, 61, 62, 63, 64, 65, 66, 67, 68, 69, 70, 71, 72, 73, 74, 75, 76, 77, 78, 79, 80, 81, 82, 83, 84, 85, 86, 87, 88, 89, 90] rfl (by decide +kernel)) (bs2_in _ _))) rfl rfl rfl (by decide +kernel) ⟨(Nat.le_of_ble_eq_true rfl), (Nat.le_of_ble_eq_true rfl)⟩) ⟨fun a U g mk q => by obtain ⟨q0, q1, qK, qE⟩ := q; exact ⟨q0, q1, va_K.moved (u := U) (U := U.calling g mk a) (Vm.Alike.refl U.vm) qK, EVC.blind g mk a qE⟩, gH_rc hK hT hr_o0 shc_14 rfl, fun U hU hW => ⟨rfl, hU, va_K.moved hW.alike hK, hE.call hS hFc hU hW⟩⟩ rfl rfl hl.1 rfl (lv_room (Nat.le_of_ble_eq_true rfl)) dL_vote_5 ⟨(Nat.le_of_ble_eq_true rfl), (Nat.le_of_ble_eq_true rfl)⟩) hS (fun q _ h => hFc q h) hFc (fun q _ h => hFc q h) (fun E ce q9 u t H locs ht hvm _ hw2 _ _ hS hce hcv hcl => ?_) (fun r1 u t H locs ht hvm hw2 hB _ _ hS => ?_)
  · obtain ⟨hw2, hTx, hFx⟩ := hw2; rw [ht] at hTx hFx
    have hT := hTx; have hF := hF.more hFx (by decide)
    rcases hw2 with rfl | rfl
    · refine vx_catch (E := "java/lang/IllegalStateException") hown [⟨0, 10, 13, 13⟩] ⟨0, 10, 17, 17⟩ [] (by rw [htab]; rfl) (fun z h => by
          simp only [List.mem_cons, List.not_mem_nil, or_false] at h
          rcases h with rfl
          · exact Or.inr ⟨by decide, "java/lang/IndexOutOfBoundsException", (ht_at2 hts 93 rfl), hN ("java/lang/IllegalStateException", "java/lang/IndexOutOfBoundsException") (by decide +kernel)⟩) (by decide) (by decide) (ht_at2 hts 94 rfl) (va_Nw.use rfl (hE.1.1.2.1.2.1 _ (List.mem_of_getElem? (i := 3) rfl))) hce hcv hcl ?_
      refine lv_astore (lv' := [(4, .ref q9), (0, .ref o0), (1, .int p1), (2, .int p2), (3, .ref ou)]) hx hb dL_vote_17 hl (by decide) rfl (fun ls hl => ?_)
      refine lv_iconst (v := 2) hx hb dL_vote_19 (by decide) ?_
      exact W.iret (v := 2) hx hb hr (fun t ht hW => ⟨⟨2, (), rfl, (by exact (rg_t (a := 2) (by decide) (by first | decide | omega) (by first | decide | omega))), by (try dsimp only); rw [ht]; exact ⟨hT, hF⟩⟩, hS.F ht⟩) hS.2.2 dL_vote_20
    · refine vx_catch (E := "java/lang/IndexOutOfBoundsException") hown [] ⟨0, 10, 13, 13⟩ [⟨0, 10, 17, 17⟩] (by rw [htab]; rfl) (fun z h => absurd h List.not_mem_nil) (by decide) (by decide) (ht_at2 hts 93 rfl) (va_Nw.use rfl (hE.1.1.2.1.2.1 _ (List.mem_of_getElem? (i := 0) rfl))) hce hcv hcl ?_
      refine lv_astore (lv' := [(4, .ref q9), (0, .ref o0), (1, .int p1), (2, .int p2), (3, .ref ou)]) hx hb dL_vote_13 hl (by decide) rfl (fun ls hl => ?_)
      refine lv_iconst (v := 1) hx hb dL_vote_15 (by decide) ?_
      exact W.iret (v := 1) hx hb hr (fun t ht hW => ⟨⟨1, (), rfl, (by exact (rg_t (a := 1) (by decide) (by first | decide | omega) (by first | decide | omega))), by (try dsimp only); rw [ht]; exact ⟨hT, hF⟩⟩, hS.F ht⟩) hS.2.2 dL_vote_16
  · obtain ⟨hT, hF1⟩ := hB
    rw [ht] at hT hF1
    have hF := hF.more hF1 (by decide)
    try dsimp only at hw2
    refine lv_i2l (v := r1.toInt64) hx hb dL_vote_8 rfl ?_
    refine tw_last (i := 0)  hx hb hK hT hG hS hr_ou shc_98 rfl (by unfold vp_in; decide) ⟨_, rfl⟩ dL_vote_9 (fun H locs hT oq m3 oi hS => ?_)
    have hF := hF.ast hr_ou skc_98 oq (by decide)
    refine lv_goto (tgt := 21) hx hb dL_vote_10 (by decide) ?_
    refine lv_iconst (v := 0) hx hb dL_vote_21 (by decide) ?_
    exact W.iret (v := 0) hx hb hr (fun t ht hW => ⟨⟨0, (), rfl, (by exact (rg_t (a := 0) (by decide) (by first | decide | omega) (by first | decide | omega))), by (try dsimp only); rw [ht]; exact ⟨hT, hF⟩⟩, hS.F ht⟩) hS.2.2 dL_vote_22
def w_l_weather : List Cond := .codeWith yL_weather cL_weather 6 (some .int) [(0, 12, 15, 15)] :: (HAppend.hAppend (α := List Cond) (β := List Cond) (γ := List Cond) [.code yX11_weather cX11_weather 5 (some .int), .constant RX11 110 40000, .code yX11_within cX11_within 3 (some .boolean), .methodLink RX11 58 yX11_within, .static yX11_within, .initialized RX11, .code yX11_needNumbers cX11_needNumbers 1 none, .classLink RX11 547 "java/lang/IllegalArgumentException", .initialized "java/lang/IllegalArgumentException", .methodLink RX11 62 yX11_needNumbers, .static yX11_needNumbers, .fieldLink RX11 16 "SeaLand" "lake" "LSeaLand$Lake;", .fieldLink RX11 23 "SeaLand" "rows" "LSeaLand$Rows;", .code yX6_forget cX6_forget 1 none, .fieldLink RX6 18 "SeaLand$Rows" "kept" "I", .fieldLink RX6 22 "SeaLand$Rows" "oldest" "I", .methodLink RX11 76 yX6_forget, .instanceMethod yX6_forget, .selects RX6 yX6_forget yX6_forget, .initialized RX6, .code yX9_tell cX9_tell 4 (some .int), .fieldLink RX9 18 "SeaLand$Tellings" "told" "I", .fieldLink RX9 9 "SeaLand$Tellings" "hours" "[I", .fieldLink RX9 15 "SeaLand$Tellings" "numbers" "[I", .methodLink RX11 130 yX9_tell, .instanceMethod yX9_tell, .selects RX9 yX9_tell yX9_tell, .initialized RX9, .methodLink RL 31 yX11_weather, .instanceMethod yX11_weather, .selects RX11 yX11_weather yX11_weather, .classLink RL 15 "java/lang/IllegalArgumentException"] bs2)
set_option maxHeartbeats 4000000 in
set_option maxRecDepth 100000 in
theorem l_weather (l : Launch) (hlt : l.stackTraces = false) (dC : Nat → ClassId) (dI : Nat → Nat → Nat) (kA : Nat → ClassId) (adK adV : Nat → Nat) (G : gT) (H0 : Heap) (nC nS : Int) (o0 : Nat) (p1 : Int32) (p2 : Int32) (p3 : Int32) (ou : Nat) (hT : gH (dC, dI) kA (SHc nC nS) G H0) (hr_o0 : G o0 = some 14) (hq1 : 0 ≤ p1.toInt ∧ p1.toInt ≤ 1) (hr_ou : G ou = some 98) (hgC : 0 ≤ nC ∧ nC ≤ 40) (hgS : 0 ≤ nS ∧ nS ≤ 60) : Met l yL_weather w_l_weather ({ frames := 8, cells := 1, slots := 6, locals := 144 }) (va_Pc [.ref o0, .int p1, .int p2, .int p3, .ref ou] (fun U => U.heap = H0 ∧ va_K (dC, dI) vwCl (tyl kA) U ∧ EVC adK adV (gA G H0.size) U U.heap ∧ NC U)) (va_Qi (fun (r : Int32) (u : Unit) => (0 ≤ r.toInt ∧ r.toInt ≤ 1)) (fun (_ : Unit) (t : State) => gH (dC, dI) kA (SHc nC nS) G t.heap ∧ gF (dC, dI) SKc G ([(9, 2), (9, 3), (12, 2), (23, 0), (24, 0), (98, 0)] : List (Nat × Nat)) H0 t.heap) (gA G H0.size)) 1 6 (gA G H0.size) := by
  refine va_MetW (cc := cL_weather) (maxL := 6) (ret := (some .int)) (by decide) rfl ?_
  intro p e s m args below meth c s₁ B hml hv
  obtain ⟨rfl, hH0, hK, hE, hN⟩ := hv
  have hx := B.exec
  have hb := B.bytes
  have hr := B.returns
  have hts := atoms_spec (ws := w_l_weather) B.pre
  have hown : s.vm.findClass RL = some m.cls := findClass_of_methodNamed B.named
  have hlocks := B.notSynchronized
  have htab := vx_table (x := yL_weather) B (hts _ List.mem_cons_self)
  subst hH0
  generalize hAe : gA G s.heap.size = A at hE ⊢
  have hA : ∀ q : Nat, s.heap.size ≤ q → A q := fun q h => by rw [← hAe]; exact Or.inr h
  have hG := gA_of hAe
  have hS : va_S A s.heap s.heap [] := va_S.rf
  have hF : gF (dC, dI) SKc G ([(9, 2), (9, 3), (12, 2), (23, 0), (24, 0), (98, 0)] : List (Nat × Nat)) s.heap s.heap := gF.rf
  have hl := lv_entry ([.ref o0, .int p1, .int p2, .int p3, .ref ou]) (n := 6) (Nat.le_of_ble_eq_true rfl)
  rw [lg_entry_eq]
  generalize (lg_sl ([.ref o0, .int p1, .int p2, .int p3, .ref ou]) ++ List.replicate (6 - (lg_sl ([.ref o0, .int p1, .int p2, .int p3, .ref ou])).length) Slot.unset).toArray = ls at hl ⊢
  have hl : lv_has ls 6 [(0, .ref o0), (1, .int p1), (2, .int p2), (3, .int p3), (4, .ref ou)] := hl
  refine lv_aload hx hb dL_weather_0 (lv_at hl 4 rfl) ?_
  refine lv_iconst (v := 0) hx hb dL_weather_2 (by decide) ?_
  refine lv_aload_n hx hb dL_weather_3 rfl (lv_at hl 0 rfl) ?_
  refine lv_iload_n hx hb dL_weather_4 rfl (lv_at hl 1 rfl) ?_
  refine lv_iload_n hx hb dL_weather_5 rfl (lv_at hl 2 rfl) ?_
  refine lv_iload_n hx hb dL_weather_6 rfl (lv_at hl 3 rfl) ?_
  have hFc := gA_free hG hA hS
  refine vx_calli (vx_runV (As := [.int p1, .int p2, .int p3]) (rest := [.int 0, .ref ou]) ⟨hx, hb, hml, hown, hts⟩ (c_weather l hlt dC dI kA adK adV G s.heap nC nS o0 p1 p2 p3 hT hr_o0 (by have q8 := ti_all p1; omega) (by omega) (by omega)) (cwV 3 hts (goodIn_app (goodIn_r _ [29, 30, 31, 6] rfl (by decide +kernel)) (goodIn_ca (goodIn_r _ [1, 2, 3, 4, 5, 6, 7, 8, 9, 10, 11, 12, 13, 14, 15, 16, 17, 18, 19, 20, 21, 22, 23, 24, 25, 26, 27, 28] rfl (by decide +kernel)) (bs2_in _ _))) rfl rfl rfl (by decide +kernel) ⟨(Nat.le_of_ble_eq_true rfl), (Nat.le_of_ble_eq_true rfl)⟩) ⟨fun a U g mk q => by obtain ⟨q0, q1, qK, qE⟩ := q; exact ⟨q0, q1, va_K.moved (u := U) (U := U.calling g mk a) (Vm.Alike.refl U.vm) qK, EVC.blind g mk a qE⟩, gH_rc hK hT hr_o0 shc_14 rfl, fun U hU hW => ⟨rfl, hU, va_K.moved hW.alike hK, hE.call hS hFc hU hW⟩⟩ rfl rfl hl.1 rfl (lv_room (Nat.le_of_ble_eq_true rfl)) dL_weather_7 ⟨(Nat.le_of_ble_eq_true rfl), (Nat.le_of_ble_eq_true rfl)⟩) hS (fun q _ h => hFc q h) hFc (fun q _ h => hFc q h) (fun E ce q9 u t H locs ht hvm _ hw2 _ _ hS hce hcv hcl => ?_) (fun r1 u t H locs ht hvm hw2 hB _ _ hS => ?_)
  · obtain ⟨hw2, hTx, hFx⟩ := hw2; rw [ht] at hTx hFx
    have hT := hTx; have hF := hF.more hFx (by decide)
    subst hw2
    refine vx_catch (E := "java/lang/IllegalArgumentException") hown [] ⟨0, 12, 15, 15⟩ [] (by rw [htab]; rfl) (fun z h => absurd h List.not_mem_nil) (by decide) (by decide) (ht_at2 hts 31 rfl) (va_Nw.use rfl (hE.1.1.2.1.2.1 _ (List.mem_of_getElem? (i := 1) rfl))) hce hcv hcl ?_
    refine lv_astore (lv' := [(5, .ref q9), (0, .ref o0), (1, .int p1), (2, .int p2), (3, .int p3), (4, .ref ou)]) hx hb dL_weather_15 hl (by decide) rfl (fun ls hl => ?_)
    refine lv_iconst (v := 1) hx hb dL_weather_17 (by decide) ?_
    exact W.iret (v := 1) hx hb hr (fun t ht hW => ⟨⟨1, (), rfl, (by exact (rg_t (a := 1) (by decide) (by first | decide | omega) (by first | decide | omega))), by (try dsimp only); rw [ht]; exact ⟨hT, hF⟩⟩, hS.F ht⟩) hS.2.2 dL_weather_18
  · obtain ⟨hT, hF1⟩ := hB
    rw [ht] at hT hF1
    have hF := hF.more hF1 (by decide)
    try dsimp only at hw2
    have h3 := hw2
    refine lv_i2l (v := r1.toInt64) hx hb dL_weather_10 rfl ?_
    refine tw_last (i := 0)  hx hb hK hT hG hS hr_ou shc_98 rfl (by unfold vp_in; decide) ⟨_, rfl⟩ dL_weather_11 (fun H locs hT oq m4 oi hS => ?_)
    have hF := hF.ast hr_ou skc_98 oq (by decide)
    refine lv_goto (tgt := 19) hx hb dL_weather_12 (by decide) ?_
    refine lv_iconst (v := 0) hx hb dL_weather_19 (by decide) ?_
    exact W.iret (v := 0) hx hb hr (fun t ht hW => ⟨⟨0, (), rfl, (by exact (rg_t (a := 0) (by decide) (by first | decide | omega) (by first | decide | omega))), by (try dsimp only); rw [ht]; exact ⟨hT, hF⟩⟩, hS.F ht⟩) hS.2.2 dL_weather_20
def w_l_who : List Cond := .codeWith yL_who cL_who 5 (some .int) [(0, 10, 13, 13), (0, 10, 17, 39)] :: (HAppend.hAppend (α := List Cond) (β := List Cond) (γ := List Cond) [.code yX11_who cX11_who 4 (some .int), .code yX11_settlerOf cX11_settlerOf 2 (some (.object "SeaLand$Settler")), .fieldLink RX11 30 "SeaLand" "board" "LSeaLand$Board;", .code yX11_within cX11_within 3 (some .boolean), .methodLink RX11 58 yX11_within, .static yX11_within, .initialized RX11, .classLink RX11 557 "java/lang/IndexOutOfBoundsException", .initialized "java/lang/IndexOutOfBoundsException", .methodLink RX11 292 yX11_settlerOf, .instanceMethod yX11_settlerOf, .selects RX11 yX11_settlerOf yX11_settlerOf, .code yX0_acresOf cX0_acresOf 4 (some .int), .fieldLink RX0 17 "SeaLand$Board" "farmOf" "[I", .methodLink RX11 399 yX0_acresOf, .instanceMethod yX0_acresOf, .selects RX0 yX0_acresOf yX0_acresOf, .initialized RX0, .fieldLink RX11 16 "SeaLand" "lake" "LSeaLand$Lake;", .code yX0_nearOf cX0_nearOf 5 (some .int), .code yX3_stepsToBank cX3_stepsToBank 4 (some .int), .fieldLink RX3 47 "SeaLand$Lake" "built" "I", .fieldLink RX3 27 "SeaLand$Lake" "works" "[LSeaLand$Work;", .code yX10_isBank cX10_isBank 1 (some .boolean), .fieldLink RX10 18 "SeaLand$Work" "kind" "I", .methodLink RX3 67 yX10_isBank, .instanceMethod yX10_isBank, .selects RX10 yX10_isBank yX10_isBank, .initialized RX10, .code yX11_stepsApart cX11_stepsApart 2 (some .int), .methodLink RX11 580 Lib.Math.abs.name, .static Lib.Math.abs.name, .initialized "java/lang/Math", .code Lib.Math.abs.name Lib.Math.abs.code 1 (some .int), .static yX11_stepsApart, .methodLink RX3 71 Lib.Math.min.name, .static Lib.Math.min.name, .code Lib.Math.min.name Lib.Math.min.code 2 (some .int), .methodLink RX0 138 yX3_stepsToBank, .instanceMethod yX3_stepsToBank, .selects RX3 yX3_stepsToBank yX3_stepsToBank, .initialized RX3, .methodLink RX0 166 Lib.Math.min.name, .methodLink RX11 402 yX0_nearOf, .instanceMethod yX0_nearOf, .selects RX0 yX0_nearOf yX0_nearOf, .classLink RX11 134 "java/util/NoSuchElementException", .initialized "java/util/NoSuchElementException", .methodLink RL 130 yX11_who, .instanceMethod yX11_who, .selects RX11 yX11_who yX11_who, .classLink RL 13 "java/lang/IndexOutOfBoundsException", .classLink RL 39 "java/util/NoSuchElementException"] bs2)
set_option maxHeartbeats 4000000 in
set_option maxRecDepth 100000 in
theorem l_who (l : Launch) (hlt : l.stackTraces = false) (dC : Nat → ClassId) (dI : Nat → Nat → Nat) (kA : Nat → ClassId) (adK adV : Nat → Nat) (G : gT) (H0 : Heap) (nC nS : Int) (o0 : Nat) (p1 : Int32) (p2 : Int32) (ou : Nat) (hT : gH (dC, dI) kA (SHc nC nS) G H0) (hr_o0 : G o0 = some 14) (hr_ou : G ou = some 98) (hgC : 0 ≤ nC ∧ nC ≤ 40) (hgS : 0 ≤ nS ∧ nS ≤ 60) : Met l yL_who w_l_who ({ frames := 8, cells := 2, slots := 12, locals := 144 }) (va_Pc [.ref o0, .int p1, .int p2, .ref ou] (fun U => U.heap = H0 ∧ va_K (dC, dI) vwCl (tyl kA) U ∧ EVC adK adV (gA G H0.size) U U.heap ∧ NC U)) (va_Qi (fun (r : Int32) (u : Unit) => (0 ≤ r.toInt ∧ r.toInt ≤ 2)) (fun (_ : Unit) (t : State) => gH (dC, dI) kA (SHc nC nS) G t.heap ∧ gF (dC, dI) SKc G ([(98, 0)] : List (Nat × Nat)) H0 t.heap) (gA G H0.size)) 2 12 (gA G H0.size) := by
  refine va_MetW (cc := cL_who) (maxL := 5) (ret := (some .int)) (by decide) rfl ?_
  intro p e s m args below meth c s₁ B hml hv
  obtain ⟨rfl, hH0, hK, hE, hN⟩ := hv
  have hx := B.exec
  have hb := B.bytes
  have hr := B.returns
  have hts := atoms_spec (ws := w_l_who) B.pre
  have hown : s.vm.findClass RL = some m.cls := findClass_of_methodNamed B.named
  have hlocks := B.notSynchronized
  have htab := vx_table (x := yL_who) B (hts _ List.mem_cons_self)
  subst hH0
  generalize hAe : gA G s.heap.size = A at hE ⊢
  have hA : ∀ q : Nat, s.heap.size ≤ q → A q := fun q h => by rw [← hAe]; exact Or.inr h
  have hG := gA_of hAe
  have hS : va_S A s.heap s.heap [] := va_S.rf
  have hF : gF (dC, dI) SKc G ([(98, 0)] : List (Nat × Nat)) s.heap s.heap := gF.rf
  have hl := lv_entry ([.ref o0, .int p1, .int p2, .ref ou]) (n := 5) (Nat.le_of_ble_eq_true rfl)
  rw [lg_entry_eq]
  generalize (lg_sl ([.ref o0, .int p1, .int p2, .ref ou]) ++ List.replicate (5 - (lg_sl ([.ref o0, .int p1, .int p2, .ref ou])).length) Slot.unset).toArray = ls at hl ⊢
  have hl : lv_has ls 5 [(0, .ref o0), (1, .int p1), (2, .int p2), (3, .ref ou)] := hl
  refine lv_aload_n hx hb dL_who_0 rfl (lv_at hl 3 rfl) ?_
  refine lv_iconst (v := 0) hx hb dL_who_1 (by decide) ?_
  refine lv_aload_n hx hb dL_who_2 rfl (lv_at hl 0 rfl) ?_
  refine lv_iload_n hx hb dL_who_3 rfl (lv_at hl 1 rfl) ?_
  refine lv_iload_n hx hb dL_who_4 rfl (lv_at hl 2 rfl) ?_
  have hFc := gA_free hG hA hS
  refine vx_calli (vx_runV (As := [.int p1, .int p2]) (rest := [.int 0, .ref ou]) ⟨hx, hb, hml, hown, hts⟩ (c_who l hlt dC dI kA adK adV G s.heap nC nS o0 p1 p2 hT hr_o0 (by omega) (by omega)) (cwV 2 hts (goodIn_app (goodIn_r _ [49, 50, 51, 7] rfl (by decide +kernel)) (goodIn_ca (goodIn_r _ [1, 2, 3, 4, 5, 6, 7, 8, 9, 10, 11, 12, 13, 14, 15, 16, 17, 18, 19, 20, 21, 22, 23, 24, 25, 26, 27, 28, 29, 30, 31, 32, 33, 34, 35, 36, 37, 38, 39, 40, 41, 42, 43, 44, 45, 46, 47, 48] rfl (by decide +kernel)) (bs2_in _ _))) rfl rfl rfl (by decide +kernel) ⟨(Nat.le_of_ble_eq_true rfl), (Nat.le_of_ble_eq_true rfl)⟩) ⟨fun a U g mk q => by obtain ⟨q0, q1, qK, qE⟩ := q; exact ⟨q0, q1, va_K.moved (u := U) (U := U.calling g mk a) (Vm.Alike.refl U.vm) qK, EVC.blind g mk a qE⟩, gH_rc hK hT hr_o0 shc_14 rfl, fun U hU hW => ⟨rfl, hU, va_K.moved hW.alike hK, hE.call hS hFc hU hW⟩⟩ rfl rfl hl.1 rfl (lv_room (Nat.le_of_ble_eq_true rfl)) dL_who_5 ⟨(Nat.le_of_ble_eq_true rfl), (Nat.le_of_ble_eq_true rfl)⟩) hS (fun q _ h => hFc q h) hFc (fun q _ h => hFc q h) (fun E ce q9 u t H locs ht hvm _ hw2 _ _ hS hce hcv hcl => ?_) (fun r1 u t H locs ht hvm hw2 hB _ _ hS => ?_)
  · obtain ⟨hw2, hTx, hFx⟩ := hw2; rw [ht] at hTx hFx
    have hT := hTx; have hF := hF.more hFx (by decide)
    rcases hw2 with rfl | rfl
    · refine vx_catch (E := "java/lang/IndexOutOfBoundsException") hown [] ⟨0, 10, 13, 13⟩ [⟨0, 10, 17, 39⟩] (by rw [htab]; rfl) (fun z h => absurd h List.not_mem_nil) (by decide) (by decide) (ht_at2 hts 51 rfl) (va_Nw.use rfl (hE.1.1.2.1.2.1 _ (List.mem_of_getElem? (i := 0) rfl))) hce hcv hcl ?_
      refine lv_astore (lv' := [(4, .ref q9), (0, .ref o0), (1, .int p1), (2, .int p2), (3, .ref ou)]) hx hb dL_who_13 hl (by decide) rfl (fun ls hl => ?_)
      refine lv_iconst (v := 1) hx hb dL_who_15 (by decide) ?_
      exact W.iret (v := 1) hx hb hr (fun t ht hW => ⟨⟨1, (), rfl, (by exact (rg_t (a := 1) (by decide) (by first | decide | omega) (by first | decide | omega))), by (try dsimp only); rw [ht]; exact ⟨hT, hF⟩⟩, hS.F ht⟩) hS.2.2 dL_who_16
    · refine vx_catch (E := "java/util/NoSuchElementException") hown [⟨0, 10, 13, 13⟩] ⟨0, 10, 17, 39⟩ [] (by rw [htab]; rfl) (fun z h => by
          simp only [List.mem_cons, List.not_mem_nil, or_false] at h
          rcases h with rfl
          · exact Or.inr ⟨by decide, "java/lang/IndexOutOfBoundsException", (ht_at2 hts 51 rfl), hN ("java/util/NoSuchElementException", "java/lang/IndexOutOfBoundsException") (by decide +kernel)⟩) (by decide) (by decide) (ht_at2 hts 52 rfl) (va_Nw.use rfl (hE.1.1.2.1.2.1 _ (List.mem_of_getElem? (i := 2) rfl))) hce hcv hcl ?_
      refine lv_astore (lv' := [(4, .ref q9), (0, .ref o0), (1, .int p1), (2, .int p2), (3, .ref ou)]) hx hb dL_who_17 hl (by decide) rfl (fun ls hl => ?_)
      refine lv_iconst (v := 2) hx hb dL_who_19 (by decide) ?_
      exact W.iret (v := 2) hx hb hr (fun t ht hW => ⟨⟨2, (), rfl, (by exact (rg_t (a := 2) (by decide) (by first | decide | omega) (by first | decide | omega))), by (try dsimp only); rw [ht]; exact ⟨hT, hF⟩⟩, hS.F ht⟩) hS.2.2 dL_who_20
  · obtain ⟨hT, hF1⟩ := hB
    rw [ht] at hT hF1
    have hF := hF.more hF1 (by decide)
    try dsimp only at hw2
    refine lv_i2l (v := r1.toInt64) hx hb dL_who_8 rfl ?_
    refine tw_last (i := 0)  hx hb hK hT hG hS hr_ou shc_98 rfl (by unfold vp_in; decide) ⟨_, rfl⟩ dL_who_9 (fun H locs hT oq m3 oi hS => ?_)
    have hF := hF.ast hr_ou skc_98 oq (by decide)
    refine lv_goto (tgt := 21) hx hb dL_who_10 (by decide) ?_
    refine lv_iconst (v := 0) hx hb dL_who_21 (by decide) ?_
    exact W.iret (v := 0) hx hb hr (fun t ht hW => ⟨⟨0, (), rfl, (by exact (rg_t (a := 0) (by decide) (by first | decide | omega) (by first | decide | omega))), by (try dsimp only); rw [ht]; exact ⟨hT, hF⟩⟩, hS.F ht⟩) hS.2.2 dL_who_22
def w_l_why : List Cond := .codeWith yL_why cL_why 5 (some .int) [(0, 10, 13, 13), (0, 10, 17, 39)] :: (HAppend.hAppend (α := List Cond) (β := List Cond) (γ := List Cond) [.code yX11_why cX11_why 4 (some .int), .code yX11_settlerOf cX11_settlerOf 2 (some (.object "SeaLand$Settler")), .fieldLink RX11 30 "SeaLand" "board" "LSeaLand$Board;", .code yX11_within cX11_within 3 (some .boolean), .methodLink RX11 58 yX11_within, .static yX11_within, .initialized RX11, .classLink RX11 557 "java/lang/IndexOutOfBoundsException", .initialized "java/lang/IndexOutOfBoundsException", .methodLink RX11 292 yX11_settlerOf, .instanceMethod yX11_settlerOf, .selects RX11 yX11_settlerOf yX11_settlerOf, .fieldLink RX11 16 "SeaLand" "lake" "LSeaLand$Lake;", .code yX0_gatherFacts cX0_gatherFacts 3 none, .fieldLink RX0 33 "SeaLand$Board" "facts" "[J", .code yX0_acresOf cX0_acresOf 4 (some .int), .fieldLink RX0 17 "SeaLand$Board" "farmOf" "[I", .methodLink RX0 98 yX0_acresOf, .instanceMethod yX0_acresOf, .selects RX0 yX0_acresOf yX0_acresOf, .initialized RX0, .code yX0_nearOf cX0_nearOf 5 (some .int), .code yX3_stepsToBank cX3_stepsToBank 4 (some .int), .fieldLink RX3 47 "SeaLand$Lake" "built" "I", .fieldLink RX3 27 "SeaLand$Lake" "works" "[LSeaLand$Work;", .code yX10_isBank cX10_isBank 1 (some .boolean), .fieldLink RX10 18 "SeaLand$Work" "kind" "I", .methodLink RX3 67 yX10_isBank, .instanceMethod yX10_isBank, .selects RX10 yX10_isBank yX10_isBank, .initialized RX10, .code yX11_stepsApart cX11_stepsApart 2 (some .int), .methodLink RX11 580 Lib.Math.abs.name, .static Lib.Math.abs.name, .initialized "java/lang/Math", .code Lib.Math.abs.name Lib.Math.abs.code 1 (some .int), .static yX11_stepsApart, .methodLink RX3 71 Lib.Math.min.name, .static Lib.Math.min.name, .code Lib.Math.min.name Lib.Math.min.code 2 (some .int), .methodLink RX0 138 yX3_stepsToBank, .instanceMethod yX3_stepsToBank, .selects RX3 yX3_stepsToBank yX3_stepsToBank, .initialized RX3, .methodLink RX0 166 Lib.Math.min.name, .methodLink RX0 123 yX0_nearOf, .instanceMethod yX0_nearOf, .selects RX0 yX0_nearOf yX0_nearOf, .methodLink RX11 306 yX0_gatherFacts, .instanceMethod yX0_gatherFacts, .selects RX0 yX0_gatherFacts yX0_gatherFacts, .code yX4_firstThatHolds cX4_firstThatHolds 4 (some .int), .fieldLink RX4 60 "SeaLand$Law" "lines" "I", .fieldLink RX4 18 "SeaLand$Law" "kinds" "[I", .code yX4_lineHolds cX4_lineHolds 6 (some .boolean), .fieldLink RX4 33 "SeaLand$Law" "stepFrom" "[I", .fieldLink RX4 36 "SeaLand$Law" "stepTo" "[I", .fieldLink RX4 39 "SeaLand$Law" "steps" "[I", .fieldLink RX4 42 "SeaLand$Law" "stack" "[J", .code yX4_joined cX4_joined 5 (some .long), .methodLink RX4 199 Lib.MathLoose.max_long.x, .static Lib.MathLoose.max_long.x, .code Lib.MathLoose.max_long.x Lib.MathLoose.max_long.code 4 (some .long), .methodLink RX4 195 yX4_joined, .static yX4_joined, .initialized RX4, .methodLink RX4 203 yX4_lineHolds, .instanceMethod yX4_lineHolds, .selects RX4 yX4_lineHolds yX4_lineHolds, .methodLink RX11 330 yX4_firstThatHolds, .instanceMethod yX4_firstThatHolds, .selects RX4 yX4_firstThatHolds yX4_firstThatHolds, .classLink RX11 134 "java/util/NoSuchElementException", .initialized "java/util/NoSuchElementException", .methodLink RL 101 yX11_why, .instanceMethod yX11_why, .selects RX11 yX11_why yX11_why, .classLink RL 13 "java/lang/IndexOutOfBoundsException", .classLink RL 39 "java/util/NoSuchElementException"] bs2)
set_option maxHeartbeats 4000000 in
set_option maxRecDepth 100000 in
theorem l_why (l : Launch) (hlt : l.stackTraces = false) (dC : Nat → ClassId) (dI : Nat → Nat → Nat) (kA : Nat → ClassId) (adK adV : Nat → Nat) (G : gT) (H0 : Heap) (nC nS : Int) (o0 : Nat) (p1 : Int32) (p2 : Int32) (ou : Nat) (hT : gH (dC, dI) kA (SHc nC nS) G H0) (hr_o0 : G o0 = some 14) (hr_ou : G ou = some 98) (hgC : 0 ≤ nC ∧ nC ≤ 40) (hgS : 0 ≤ nS ∧ nS ≤ 60) : Met l yL_why w_l_why ({ frames := 8, cells := 2, slots := 12, locals := 153 }) (va_Pc [.ref o0, .int p1, .int p2, .ref ou] (fun U => U.heap = H0 ∧ va_K (dC, dI) vwCl (tyl kA) U ∧ EVC adK adV (gA G H0.size) U U.heap ∧ NC U)) (va_Qi (fun (r : Int32) (u : Unit) => (0 ≤ r.toInt ∧ r.toInt ≤ 2)) (fun (_ : Unit) (t : State) => gH (dC, dI) kA (SHc nC nS) G t.heap ∧ gF (dC, dI) SKc G ([(50, 0), (56, 0), (98, 0)] : List (Nat × Nat)) H0 t.heap) (gA G H0.size)) 2 12 (gA G H0.size) := by
  refine va_MetW (cc := cL_why) (maxL := 5) (ret := (some .int)) (by decide) rfl ?_
  intro p e s m args below meth c s₁ B hml hv
  obtain ⟨rfl, hH0, hK, hE, hN⟩ := hv
  have hx := B.exec
  have hb := B.bytes
  have hr := B.returns
  have hts := atoms_spec (ws := w_l_why) B.pre
  have hown : s.vm.findClass RL = some m.cls := findClass_of_methodNamed B.named
  have hlocks := B.notSynchronized
  have htab := vx_table (x := yL_why) B (hts _ List.mem_cons_self)
  subst hH0
  generalize hAe : gA G s.heap.size = A at hE ⊢
  have hA : ∀ q : Nat, s.heap.size ≤ q → A q := fun q h => by rw [← hAe]; exact Or.inr h
  have hG := gA_of hAe
  have hS : va_S A s.heap s.heap [] := va_S.rf
  have hF : gF (dC, dI) SKc G ([(50, 0), (56, 0), (98, 0)] : List (Nat × Nat)) s.heap s.heap := gF.rf
  have hl := lv_entry ([.ref o0, .int p1, .int p2, .ref ou]) (n := 5) (Nat.le_of_ble_eq_true rfl)
  rw [lg_entry_eq]
  generalize (lg_sl ([.ref o0, .int p1, .int p2, .ref ou]) ++ List.replicate (5 - (lg_sl ([.ref o0, .int p1, .int p2, .ref ou])).length) Slot.unset).toArray = ls at hl ⊢
  have hl : lv_has ls 5 [(0, .ref o0), (1, .int p1), (2, .int p2), (3, .ref ou)] := hl
  refine lv_aload_n hx hb dL_why_0 rfl (lv_at hl 3 rfl) ?_
  refine lv_iconst (v := 0) hx hb dL_why_1 (by decide) ?_
  refine lv_aload_n hx hb dL_why_2 rfl (lv_at hl 0 rfl) ?_
  refine lv_iload_n hx hb dL_why_3 rfl (lv_at hl 1 rfl) ?_
  refine lv_iload_n hx hb dL_why_4 rfl (lv_at hl 2 rfl) ?_
  have hFc := gA_free hG hA hS
  refine vx_calli (vx_runV (As := [.int p1, .int p2]) (rest := [.int 0, .ref ou]) ⟨hx, hb, hml, hown, hts⟩ (c_why l hlt dC dI kA adK adV G s.heap nC nS o0 p1 p2 hT hr_o0 (by omega) (by omega)) (cwV 2 hts (goodIn_app (goodIn_r _ [75, 76, 77, 7] rfl (by decide +kernel)) (goodIn_ca (goodIn_r _ [1, 2, 3, 4, 5, 6, 7, 8, 9, 10, 11, 12, 13, 14, 15, 16, 17, 18, 19, 20, 21, 22, 23, 24, 25, 26, 27, 28, 29, 30, 31, 32, 33, 34, 35, 36, 37, 38, 39, 40, 41, 42, 43, 44, 45, 46, 47, 48, 49, 50, 51, 52, 53, 54, 55, 56, 57, 58, 59, 60, 61, 62, 63, 64, 65, 66, 67, 68, 69, 70, 71, 72, 73, 74] rfl (by decide +kernel)) (bs2_in _ _))) rfl rfl rfl (by decide +kernel) ⟨(Nat.le_of_ble_eq_true rfl), (Nat.le_of_ble_eq_true rfl)⟩) ⟨fun a U g mk q => by obtain ⟨q0, q1, qK, qE⟩ := q; exact ⟨q0, q1, va_K.moved (u := U) (U := U.calling g mk a) (Vm.Alike.refl U.vm) qK, EVC.blind g mk a qE⟩, gH_rc hK hT hr_o0 shc_14 rfl, fun U hU hW => ⟨rfl, hU, va_K.moved hW.alike hK, hE.call hS hFc hU hW⟩⟩ rfl rfl hl.1 rfl (lv_room (Nat.le_of_ble_eq_true rfl)) dL_why_5 ⟨(Nat.le_of_ble_eq_true rfl), (Nat.le_of_ble_eq_true rfl)⟩) hS (fun q _ h => hFc q h) hFc (fun q _ h => hFc q h) (fun E ce q9 u t H locs ht hvm _ hw2 _ _ hS hce hcv hcl => ?_) (fun r1 u t H locs ht hvm hw2 hB _ _ hS => ?_)
  · obtain ⟨hw2, hTx, hFx⟩ := hw2; rw [ht] at hTx hFx
    have hT := hTx; have hF := hF.more hFx (by decide)
    rcases hw2 with rfl | rfl
    · refine vx_catch (E := "java/lang/IndexOutOfBoundsException") hown [] ⟨0, 10, 13, 13⟩ [⟨0, 10, 17, 39⟩] (by rw [htab]; rfl) (fun z h => absurd h List.not_mem_nil) (by decide) (by decide) (ht_at2 hts 77 rfl) (va_Nw.use rfl (hE.1.1.2.1.2.1 _ (List.mem_of_getElem? (i := 0) rfl))) hce hcv hcl ?_
      refine lv_astore (lv' := [(4, .ref q9), (0, .ref o0), (1, .int p1), (2, .int p2), (3, .ref ou)]) hx hb dL_why_13 hl (by decide) rfl (fun ls hl => ?_)
      refine lv_iconst (v := 1) hx hb dL_why_15 (by decide) ?_
      exact W.iret (v := 1) hx hb hr (fun t ht hW => ⟨⟨1, (), rfl, (by exact (rg_t (a := 1) (by decide) (by first | decide | omega) (by first | decide | omega))), by (try dsimp only); rw [ht]; exact ⟨hT, hF⟩⟩, hS.F ht⟩) hS.2.2 dL_why_16
    · refine vx_catch (E := "java/util/NoSuchElementException") hown [⟨0, 10, 13, 13⟩] ⟨0, 10, 17, 39⟩ [] (by rw [htab]; rfl) (fun z h => by
          simp only [List.mem_cons, List.not_mem_nil, or_false] at h
          rcases h with rfl
          · exact Or.inr ⟨by decide, "java/lang/IndexOutOfBoundsException", (ht_at2 hts 77 rfl), hN ("java/util/NoSuchElementException", "java/lang/IndexOutOfBoundsException") (by decide +kernel)⟩) (by decide) (by decide) (ht_at2 hts 78 rfl) (va_Nw.use rfl (hE.1.1.2.1.2.1 _ (List.mem_of_getElem? (i := 2) rfl))) hce hcv hcl ?_
      refine lv_astore (lv' := [(4, .ref q9), (0, .ref o0), (1, .int p1), (2, .int p2), (3, .ref ou)]) hx hb dL_why_17 hl (by decide) rfl (fun ls hl => ?_)
      refine lv_iconst (v := 2) hx hb dL_why_19 (by decide) ?_
      exact W.iret (v := 2) hx hb hr (fun t ht hW => ⟨⟨2, (), rfl, (by exact (rg_t (a := 2) (by decide) (by first | decide | omega) (by first | decide | omega))), by (try dsimp only); rw [ht]; exact ⟨hT, hF⟩⟩, hS.F ht⟩) hS.2.2 dL_why_20
  · obtain ⟨hT, hF1⟩ := hB
    rw [ht] at hT hF1
    have hF := hF.more hF1 (by decide)
    try dsimp only at hw2
    have h3 := hw2
    refine lv_i2l (v := r1.toInt64) hx hb dL_why_8 rfl ?_
    refine tw_last (i := 0)  hx hb hK hT hG hS hr_ou shc_98 rfl (by unfold vp_in; decide) ⟨_, rfl⟩ dL_why_9 (fun H locs hT oq m4 oi hS => ?_)
    have hF := hF.ast hr_ou skc_98 oq (by decide)
    refine lv_goto (tgt := 21) hx hb dL_why_10 (by decide) ?_
    refine lv_iconst (v := 0) hx hb dL_why_21 (by decide) ?_
    exact W.iret (v := 0) hx hb hr (fun t ht hW => ⟨⟨0, (), rfl, (by exact (rg_t (a := 0) (by decide) (by first | decide | omega) (by first | decide | omega))), by (try dsimp only); rw [ht]; exact ⟨hT, hF⟩⟩, hS.F ht⟩) hS.2.2 dL_why_22
def w_l_work : List Cond := .codeWith yL_work cL_work 5 (some .int) [(0, 10, 13, 13), (0, 10, 17, 39)] :: (HAppend.hAppend (α := List Cond) (β := List Cond) (γ := List Cond) [.code yX11_work cX11_work 4 (some .int), .code yX11_workOf cX11_workOf 2 (some (.object "SeaLand$Work")), .fieldLink RX11 16 "SeaLand" "lake" "LSeaLand$Lake;", .code yX11_within cX11_within 3 (some .boolean), .methodLink RX11 58 yX11_within, .static yX11_within, .initialized RX11, .classLink RX11 557 "java/lang/IndexOutOfBoundsException", .initialized "java/lang/IndexOutOfBoundsException", .methodLink RX11 167 yX11_workOf, .instanceMethod yX11_workOf, .selects RX11 yX11_workOf yX11_workOf, .code yX3_sizeOf cX3_sizeOf 2 (some .int), .code yX3_crestOf cX3_crestOf 2 (some .int), .fieldLink RX3 21 "SeaLand$Lake" "ground" "LSeaLand$Ground;", .code yX10_thickness cX10_thickness 3 (some .int), .fieldLink RX10 34 "SeaLand$Work" "layers" "I", .fieldLink RX10 9 "SeaLand$Work" "thick" "[I", .methodLink RX3 80 yX10_thickness, .instanceMethod yX10_thickness, .selects RX10 yX10_thickness yX10_thickness, .initialized RX10, .methodLink RX3 84 yX3_crestOf, .instanceMethod yX3_crestOf, .selects RX3 yX3_crestOf yX3_crestOf, .initialized RX3, .methodLink RX11 213 yX3_sizeOf, .instanceMethod yX3_sizeOf, .selects RX3 yX3_sizeOf yX3_sizeOf, .code yX10_isBank cX10_isBank 1 (some .boolean), .fieldLink RX10 18 "SeaLand$Work" "kind" "I", .methodLink RX11 171 yX10_isBank, .instanceMethod yX10_isBank, .selects RX10 yX10_isBank yX10_isBank, .classLink RX11 134 "java/util/NoSuchElementException", .initialized "java/util/NoSuchElementException", .methodLink RL 66 yX11_work, .instanceMethod yX11_work, .selects RX11 yX11_work yX11_work, .classLink RL 13 "java/lang/IndexOutOfBoundsException", .classLink RL 39 "java/util/NoSuchElementException"] bs2)
set_option maxHeartbeats 4000000 in
set_option maxRecDepth 100000 in
theorem l_work (l : Launch) (hlt : l.stackTraces = false) (dC : Nat → ClassId) (dI : Nat → Nat → Nat) (kA : Nat → ClassId) (adK adV : Nat → Nat) (G : gT) (H0 : Heap) (nC nS : Int) (o0 : Nat) (p1 : Int32) (p2 : Int32) (ou : Nat) (hT : gH (dC, dI) kA (SHc nC nS) G H0) (hr_o0 : G o0 = some 14) (hr_ou : G ou = some 98) (hgC : 0 ≤ nC ∧ nC ≤ 40) (hgS : 0 ≤ nS ∧ nS ≤ 60) : Met l yL_work w_l_work ({ frames := 8, cells := 2, slots := 12, locals := 144 }) (va_Pc [.ref o0, .int p1, .int p2, .ref ou] (fun U => U.heap = H0 ∧ va_K (dC, dI) vwCl (tyl kA) U ∧ EVC adK adV (gA G H0.size) U U.heap ∧ NC U)) (va_Qi (fun (r : Int32) (u : Unit) => (0 ≤ r.toInt ∧ r.toInt ≤ 2)) (fun (_ : Unit) (t : State) => gH (dC, dI) kA (SHc nC nS) G t.heap ∧ gF (dC, dI) SKc G ([(98, 0)] : List (Nat × Nat)) H0 t.heap) (gA G H0.size)) 2 12 (gA G H0.size) := by
  refine va_MetW (cc := cL_work) (maxL := 5) (ret := (some .int)) (by decide) rfl ?_
  intro p e s m args below meth c s₁ B hml hv
  obtain ⟨rfl, hH0, hK, hE, hN⟩ := hv
  have hx := B.exec
  have hb := B.bytes
  have hr := B.returns
  have hts := atoms_spec (ws := w_l_work) B.pre
  have hown : s.vm.findClass RL = some m.cls := findClass_of_methodNamed B.named
  have hlocks := B.notSynchronized
  have htab := vx_table (x := yL_work) B (hts _ List.mem_cons_self)
  subst hH0
  generalize hAe : gA G s.heap.size = A at hE ⊢
  have hA : ∀ q : Nat, s.heap.size ≤ q → A q := fun q h => by rw [← hAe]; exact Or.inr h
  have hG := gA_of hAe
  have hS : va_S A s.heap s.heap [] := va_S.rf
  have hF : gF (dC, dI) SKc G ([(98, 0)] : List (Nat × Nat)) s.heap s.heap := gF.rf
  have hl := lv_entry ([.ref o0, .int p1, .int p2, .ref ou]) (n := 5) (Nat.le_of_ble_eq_true rfl)
  rw [lg_entry_eq]
  generalize (lg_sl ([.ref o0, .int p1, .int p2, .ref ou]) ++ List.replicate (5 - (lg_sl ([.ref o0, .int p1, .int p2, .ref ou])).length) Slot.unset).toArray = ls at hl ⊢
  have hl : lv_has ls 5 [(0, .ref o0), (1, .int p1), (2, .int p2), (3, .ref ou)] := hl
  refine lv_aload_n hx hb dL_work_0 rfl (lv_at hl 3 rfl) ?_
  refine lv_iconst (v := 0) hx hb dL_work_1 (by decide) ?_
  refine lv_aload_n hx hb dL_work_2 rfl (lv_at hl 0 rfl) ?_
  refine lv_iload_n hx hb dL_work_3 rfl (lv_at hl 1 rfl) ?_
  refine lv_iload_n hx hb dL_work_4 rfl (lv_at hl 2 rfl) ?_
  have hFc := gA_free hG hA hS
  refine vx_calli (vx_runV (As := [.int p1, .int p2]) (rest := [.int 0, .ref ou]) ⟨hx, hb, hml, hown, hts⟩ (c_work l hlt dC dI kA adK adV G s.heap nC nS o0 p1 p2 hT hr_o0 (by omega) (by omega)) (cwV 2 hts (goodIn_app (goodIn_r _ [37, 38, 39, 7] rfl (by decide +kernel)) (goodIn_ca (goodIn_r _ [1, 2, 3, 4, 5, 6, 7, 8, 9, 10, 11, 12, 13, 14, 15, 16, 17, 18, 19, 20, 21, 22, 23, 24, 25, 26, 27, 28, 29, 30, 31, 32, 33, 34, 35, 36] rfl (by decide +kernel)) (bs2_in _ _))) rfl rfl rfl (by decide +kernel) ⟨(Nat.le_of_ble_eq_true rfl), (Nat.le_of_ble_eq_true rfl)⟩) ⟨fun a U g mk q => by obtain ⟨q0, q1, qK, qE⟩ := q; exact ⟨q0, q1, va_K.moved (u := U) (U := U.calling g mk a) (Vm.Alike.refl U.vm) qK, EVC.blind g mk a qE⟩, gH_rc hK hT hr_o0 shc_14 rfl, fun U hU hW => ⟨rfl, hU, va_K.moved hW.alike hK, hE.call hS hFc hU hW⟩⟩ rfl rfl hl.1 rfl (lv_room (Nat.le_of_ble_eq_true rfl)) dL_work_5 ⟨(Nat.le_of_ble_eq_true rfl), (Nat.le_of_ble_eq_true rfl)⟩) hS (fun q _ h => hFc q h) hFc (fun q _ h => hFc q h) (fun E ce q9 u t H locs ht hvm _ hw2 _ _ hS hce hcv hcl => ?_) (fun r1 u t H locs ht hvm hw2 hB _ _ hS => ?_)
  · obtain ⟨hw2, hTx, hFx⟩ := hw2; rw [ht] at hTx hFx
    have hT := hTx; have hF := hF.more hFx (by decide)
    rcases hw2 with rfl | rfl
    · refine vx_catch (E := "java/lang/IndexOutOfBoundsException") hown [] ⟨0, 10, 13, 13⟩ [⟨0, 10, 17, 39⟩] (by rw [htab]; rfl) (fun z h => absurd h List.not_mem_nil) (by decide) (by decide) (ht_at2 hts 39 rfl) (va_Nw.use rfl (hE.1.1.2.1.2.1 _ (List.mem_of_getElem? (i := 0) rfl))) hce hcv hcl ?_
      refine lv_astore (lv' := [(4, .ref q9), (0, .ref o0), (1, .int p1), (2, .int p2), (3, .ref ou)]) hx hb dL_work_13 hl (by decide) rfl (fun ls hl => ?_)
      refine lv_iconst (v := 1) hx hb dL_work_15 (by decide) ?_
      exact W.iret (v := 1) hx hb hr (fun t ht hW => ⟨⟨1, (), rfl, (by exact (rg_t (a := 1) (by decide) (by first | decide | omega) (by first | decide | omega))), by (try dsimp only); rw [ht]; exact ⟨hT, hF⟩⟩, hS.F ht⟩) hS.2.2 dL_work_16
    · refine vx_catch (E := "java/util/NoSuchElementException") hown [⟨0, 10, 13, 13⟩] ⟨0, 10, 17, 39⟩ [] (by rw [htab]; rfl) (fun z h => by
          simp only [List.mem_cons, List.not_mem_nil, or_false] at h
          rcases h with rfl
          · exact Or.inr ⟨by decide, "java/lang/IndexOutOfBoundsException", (ht_at2 hts 39 rfl), hN ("java/util/NoSuchElementException", "java/lang/IndexOutOfBoundsException") (by decide +kernel)⟩) (by decide) (by decide) (ht_at2 hts 40 rfl) (va_Nw.use rfl (hE.1.1.2.1.2.1 _ (List.mem_of_getElem? (i := 2) rfl))) hce hcv hcl ?_
      refine lv_astore (lv' := [(4, .ref q9), (0, .ref o0), (1, .int p1), (2, .int p2), (3, .ref ou)]) hx hb dL_work_17 hl (by decide) rfl (fun ls hl => ?_)
      refine lv_iconst (v := 2) hx hb dL_work_19 (by decide) ?_
      exact W.iret (v := 2) hx hb hr (fun t ht hW => ⟨⟨2, (), rfl, (by exact (rg_t (a := 2) (by decide) (by first | decide | omega) (by first | decide | omega))), by (try dsimp only); rw [ht]; exact ⟨hT, hF⟩⟩, hS.F ht⟩) hS.2.2 dL_work_20
  · obtain ⟨hT, hF1⟩ := hB
    rw [ht] at hT hF1
    have hF := hF.more hF1 (by decide)
    try dsimp only at hw2
    refine lv_i2l (v := r1.toInt64) hx hb dL_work_8 rfl ?_
    refine tw_last (i := 0)  hx hb hK hT hG hS hr_ou shc_98 rfl (by unfold vp_in; decide) ⟨_, rfl⟩ dL_work_9 (fun H locs hT oq m3 oi hS => ?_)
    have hF := hF.ast hr_ou skc_98 oq (by decide)
    refine lv_goto (tgt := 21) hx hb dL_work_10 (by decide) ?_
    refine lv_iconst (v := 0) hx hb dL_work_21 (by decide) ?_
    exact W.iret (v := 0) hx hb hr (fun t ht hW => ⟨⟨0, (), rfl, (by exact (rg_t (a := 0) (by decide) (by first | decide | omega) (by first | decide | omega))), by (try dsimp only); rw [ht]; exact ⟨hT, hF⟩⟩, hS.F ht⟩) hS.2.2 dL_work_22
def w_l_worth : List Cond := .codeWith yL_worth cL_worth 4 (some .int) [(0, 9, 12, 13)] :: (HAppend.hAppend (α := List Cond) (β := List Cond) (γ := List Cond) [.code yX11_worth cX11_worth 2 (some .int), .code yX11_needFarm cX11_needFarm 2 none, .fieldLink RX11 30 "SeaLand" "board" "LSeaLand$Board;", .code yX11_within cX11_within 3 (some .boolean), .methodLink RX11 58 yX11_within, .static yX11_within, .initialized RX11, .classLink RX11 557 "java/lang/IndexOutOfBoundsException", .initialized "java/lang/IndexOutOfBoundsException", .methodLink RX11 366 yX11_needFarm, .instanceMethod yX11_needFarm, .selects RX11 yX11_needFarm yX11_needFarm, .fieldLink RX11 16 "SeaLand" "lake" "LSeaLand$Lake;", .code yX0_worthOf cX0_worthOf 7 (some .int), .fieldLink RX0 17 "SeaLand$Board" "farmOf" "[I", .methodLink RX0 161 Lib.Math.max.name, .static Lib.Math.max.name, .initialized "java/lang/Math", .code Lib.Math.max.name Lib.Math.max.code 2 (some .int), .methodLink RX11 369 yX0_worthOf, .instanceMethod yX0_worthOf, .selects RX0 yX0_worthOf yX0_worthOf, .initialized RX0, .methodLink RL 117 yX11_worth, .instanceMethod yX11_worth, .selects RX11 yX11_worth yX11_worth, .classLink RL 13 "java/lang/IndexOutOfBoundsException"] bs2)
set_option maxHeartbeats 4000000 in
set_option maxRecDepth 100000 in
theorem l_worth (l : Launch) (hlt : l.stackTraces = false) (dC : Nat → ClassId) (dI : Nat → Nat → Nat) (kA : Nat → ClassId) (adK adV : Nat → Nat) (G : gT) (H0 : Heap) (nC nS : Int) (o0 : Nat) (p1 : Int32) (ou : Nat) (hT : gH (dC, dI) kA (SHc nC nS) G H0) (hr_o0 : G o0 = some 14) (hr_ou : G ou = some 98) (hgC : 0 ≤ nC ∧ nC ≤ 40) (hgS : 0 ≤ nS ∧ nS ≤ 60) : Met l yL_worth w_l_worth ({ frames := 8, cells := 1, slots := 6, locals := 142 }) (va_Pc [.ref o0, .int p1, .ref ou] (fun U => U.heap = H0 ∧ va_K (dC, dI) vwCl (tyl kA) U ∧ EVC adK adV (gA G H0.size) U U.heap ∧ NC U)) (va_Qi (fun (r : Int32) (u : Unit) => (0 ≤ r.toInt ∧ r.toInt ≤ 1)) (fun (_ : Unit) (t : State) => gH (dC, dI) kA (SHc nC nS) G t.heap ∧ gF (dC, dI) SKc G ([(98, 0)] : List (Nat × Nat)) H0 t.heap) (gA G H0.size)) 1 6 (gA G H0.size) := by
  refine va_MetW (cc := cL_worth) (maxL := 4) (ret := (some .int)) (by decide) rfl ?_
  intro p e s m args below meth c s₁ B hml hv
  obtain ⟨rfl, hH0, hK, hE, hN⟩ := hv
  have hx := B.exec
  have hb := B.bytes
  have hr := B.returns
  have hts := atoms_spec (ws := w_l_worth) B.pre
  have hown : s.vm.findClass RL = some m.cls := findClass_of_methodNamed B.named
  have hlocks := B.notSynchronized
  have htab := vx_table (x := yL_worth) B (hts _ List.mem_cons_self)
  subst hH0
  generalize hAe : gA G s.heap.size = A at hE ⊢
  have hA : ∀ q : Nat, s.heap.size ≤ q → A q := fun q h => by rw [← hAe]; exact Or.inr h
  have hG := gA_of hAe
  have hS : va_S A s.heap s.heap [] := va_S.rf
  have hF : gF (dC, dI) SKc G ([(98, 0)] : List (Nat × Nat)) s.heap s.heap := gF.rf
  have hl := lv_entry ([.ref o0, .int p1, .ref ou]) (n := 4) (Nat.le_of_ble_eq_true rfl)
  rw [lg_entry_eq]
  generalize (lg_sl ([.ref o0, .int p1, .ref ou]) ++ List.replicate (4 - (lg_sl ([.ref o0, .int p1, .ref ou])).length) Slot.unset).toArray = ls at hl ⊢
  have hl : lv_has ls 4 [(0, .ref o0), (1, .int p1), (2, .ref ou)] := hl
  refine lv_aload_n hx hb dL_worth_0 rfl (lv_at hl 2 rfl) ?_
  refine lv_iconst (v := 0) hx hb dL_worth_1 (by decide) ?_
  refine lv_aload_n hx hb dL_worth_2 rfl (lv_at hl 0 rfl) ?_
  refine lv_iload_n hx hb dL_worth_3 rfl (lv_at hl 1 rfl) ?_
  have hFc := gA_free hG hA hS
  refine vx_calli (vx_runV (As := [.int p1]) (rest := [.int 0, .ref ou]) ⟨hx, hb, hml, hown, hts⟩ (c_worth l hlt dC dI kA adK adV G s.heap nC nS o0 p1 hT hr_o0 (by omega) (by omega)) (cwV 1 hts (goodIn_app (goodIn_r _ [24, 25, 26, 7] rfl (by decide +kernel)) (goodIn_ca (goodIn_r _ [1, 2, 3, 4, 5, 6, 7, 8, 9, 10, 11, 12, 13, 14, 15, 16, 17, 18, 19, 20, 21, 22, 23] rfl (by decide +kernel)) (bs2_in _ _))) rfl rfl rfl (by decide +kernel) ⟨(Nat.le_of_ble_eq_true rfl), (Nat.le_of_ble_eq_true rfl)⟩) ⟨fun a U g mk q => by obtain ⟨q0, q1, qK, qE⟩ := q; exact ⟨q0, q1, va_K.moved (u := U) (U := U.calling g mk a) (Vm.Alike.refl U.vm) qK, EVC.blind g mk a qE⟩, gH_rc hK hT hr_o0 shc_14 rfl, fun U hU hW => ⟨rfl, hU, va_K.moved hW.alike hK, hE.call hS hFc hU hW⟩⟩ rfl rfl hl.1 rfl (lv_room (Nat.le_of_ble_eq_true rfl)) dL_worth_4 ⟨(Nat.le_of_ble_eq_true rfl), (Nat.le_of_ble_eq_true rfl)⟩) hS (fun q _ h => hFc q h) hFc (fun q _ h => hFc q h) (fun E ce q9 u t H locs ht hvm _ hw2 _ _ hS hce hcv hcl => ?_) (fun r1 u t H locs ht hvm hw2 hB _ _ hS => ?_)
  · obtain ⟨hw2, hTx, hFx⟩ := hw2; rw [ht] at hTx hFx
    have hT := hTx; have hF := hF.more hFx (by decide)
    subst hw2
    refine vx_catch (E := "java/lang/IndexOutOfBoundsException") hown [] ⟨0, 9, 12, 13⟩ [] (by rw [htab]; rfl) (fun z h => absurd h List.not_mem_nil) (by decide) (by decide) (ht_at2 hts 26 rfl) (va_Nw.use rfl (hE.1.1.2.1.2.1 _ (List.mem_of_getElem? (i := 0) rfl))) hce hcv hcl ?_
    refine lv_astore_n (lv' := [(3, .ref q9), (0, .ref o0), (1, .int p1), (2, .ref ou)]) hx hb dL_worth_12 rfl hl (by decide) rfl (fun ls hl => ?_)
    refine lv_iconst (v := 1) hx hb dL_worth_13 (by decide) ?_
    exact W.iret (v := 1) hx hb hr (fun t ht hW => ⟨⟨1, (), rfl, (by exact (rg_t (a := 1) (by decide) (by first | decide | omega) (by first | decide | omega))), by (try dsimp only); rw [ht]; exact ⟨hT, hF⟩⟩, hS.F ht⟩) hS.2.2 dL_worth_14
  · obtain ⟨hT, hF1⟩ := hB
    rw [ht] at hT hF1
    have hF := hF.more hF1 (by decide)
    try dsimp only at hw2
    refine lv_i2l (v := r1.toInt64) hx hb dL_worth_7 rfl ?_
    refine tw_last (i := 0)  hx hb hK hT hG hS hr_ou shc_98 rfl (by unfold vp_in; decide) ⟨_, rfl⟩ dL_worth_8 (fun H locs hT oq m3 oi hS => ?_)
    have hF := hF.ast hr_ou skc_98 oq (by decide)
    refine lv_goto (tgt := 15) hx hb dL_worth_9 (by decide) ?_
    refine lv_iconst (v := 0) hx hb dL_worth_15 (by decide) ?_
    exact W.iret (v := 0) hx hb hr (fun t ht hW => ⟨⟨0, (), rfl, (by exact (rg_t (a := 0) (by decide) (by first | decide | omega) (by first | decide | omega))), by (try dsimp only); rw [ht]; exact ⟨hT, hF⟩⟩, hS.F ht⟩) hS.2.2 dL_worth_16
def w_l_yards : List Cond := .codeWith yL_yards cL_yards 5 (some .int) [(0, 10, 13, 13)] :: (HAppend.hAppend (α := List Cond) (β := List Cond) (γ := List Cond) [.code yX11_yards cX11_yards 4 (some .int), .code yX11_contractOf cX11_contractOf 2 (some (.object "SeaLand$Contract")), .fieldLink RX11 414 "SeaLand" "contracted" "I", .code yX11_within cX11_within 3 (some .boolean), .methodLink RX11 58 yX11_within, .static yX11_within, .initialized RX11, .fieldLink RX11 36 "SeaLand" "contracts" "[LSeaLand$Contract;", .classLink RX11 557 "java/lang/IndexOutOfBoundsException", .initialized "java/lang/IndexOutOfBoundsException", .methodLink RX11 419 yX11_contractOf, .instanceMethod yX11_contractOf, .selects RX11 yX11_contractOf yX11_contractOf, .code yX1_hasSpan cX1_hasSpan 1 (some .boolean), .fieldLink RX1 28 "SeaLand$Contract" "measured" "Z", .fieldLink RX1 32 "SeaLand$Contract" "least" "I", .fieldLink RX1 10 "SeaLand$Contract" "most" "I", .methodLink RX11 431 yX1_hasSpan, .instanceMethod yX1_hasSpan, .selects RX1 yX1_hasSpan yX1_hasSpan, .initialized RX1, .methodLink RL 142 yX11_yards, .instanceMethod yX11_yards, .selects RX11 yX11_yards yX11_yards, .classLink RL 13 "java/lang/IndexOutOfBoundsException"] bs2)
set_option maxHeartbeats 4000000 in
set_option maxRecDepth 100000 in
theorem l_yards (l : Launch) (hlt : l.stackTraces = false) (dC : Nat → ClassId) (dI : Nat → Nat → Nat) (kA : Nat → ClassId) (adK adV : Nat → Nat) (G : gT) (H0 : Heap) (nC nS : Int) (o0 : Nat) (p1 : Int32) (p2 : Int32) (ou : Nat) (hT : gH (dC, dI) kA (SHc nC nS) G H0) (hr_o0 : G o0 = some 14) (hq2 : 0 ≤ p2.toInt ∧ p2.toInt ≤ 1) (hr_ou : G ou = some 98) (hgC : 0 ≤ nC ∧ nC ≤ 40) (hgS : 0 ≤ nS ∧ nS ≤ 60) : Met l yL_yards w_l_yards ({ frames := 8, cells := 1, slots := 6, locals := 144 }) (va_Pc [.ref o0, .int p1, .int p2, .ref ou] (fun U => U.heap = H0 ∧ va_K (dC, dI) vwCl (tyl kA) U ∧ EVC adK adV (gA G H0.size) U U.heap ∧ NC U)) (va_Qi (fun (r : Int32) (u : Unit) => (0 ≤ r.toInt ∧ r.toInt ≤ 1)) (fun (_ : Unit) (t : State) => gH (dC, dI) kA (SHc nC nS) G t.heap ∧ gF (dC, dI) SKc G ([(98, 0)] : List (Nat × Nat)) H0 t.heap) (gA G H0.size)) 1 6 (gA G H0.size) := by
  refine va_MetW (cc := cL_yards) (maxL := 5) (ret := (some .int)) (by decide) rfl ?_
  intro p e s m args below meth c s₁ B hml hv
  obtain ⟨rfl, hH0, hK, hE, hN⟩ := hv
  have hx := B.exec
  have hb := B.bytes
  have hr := B.returns
  have hts := atoms_spec (ws := w_l_yards) B.pre
  have hown : s.vm.findClass RL = some m.cls := findClass_of_methodNamed B.named
  have hlocks := B.notSynchronized
  have htab := vx_table (x := yL_yards) B (hts _ List.mem_cons_self)
  subst hH0
  generalize hAe : gA G s.heap.size = A at hE ⊢
  have hA : ∀ q : Nat, s.heap.size ≤ q → A q := fun q h => by rw [← hAe]; exact Or.inr h
  have hG := gA_of hAe
  have hS : va_S A s.heap s.heap [] := va_S.rf
  have hF : gF (dC, dI) SKc G ([(98, 0)] : List (Nat × Nat)) s.heap s.heap := gF.rf
  have hl := lv_entry ([.ref o0, .int p1, .int p2, .ref ou]) (n := 5) (Nat.le_of_ble_eq_true rfl)
  rw [lg_entry_eq]
  generalize (lg_sl ([.ref o0, .int p1, .int p2, .ref ou]) ++ List.replicate (5 - (lg_sl ([.ref o0, .int p1, .int p2, .ref ou])).length) Slot.unset).toArray = ls at hl ⊢
  have hl : lv_has ls 5 [(0, .ref o0), (1, .int p1), (2, .int p2), (3, .ref ou)] := hl
  refine lv_aload_n hx hb dL_yards_0 rfl (lv_at hl 3 rfl) ?_
  refine lv_iconst (v := 0) hx hb dL_yards_1 (by decide) ?_
  refine lv_aload_n hx hb dL_yards_2 rfl (lv_at hl 0 rfl) ?_
  refine lv_iload_n hx hb dL_yards_3 rfl (lv_at hl 1 rfl) ?_
  refine lv_iload_n hx hb dL_yards_4 rfl (lv_at hl 2 rfl) ?_
  have hFc := gA_free hG hA hS
  refine vx_calli (vx_runV (As := [.int p1, .int p2]) (rest := [.int 0, .ref ou]) ⟨hx, hb, hml, hown, hts⟩ (c_yards l hlt dC dI kA adK adV G s.heap nC nS o0 p1 p2 hT hr_o0 (by have q8 := ti_all p2; omega) (by omega) (by omega)) (cwV 2 hts (goodIn_app (goodIn_r _ [22, 23, 24, 7] rfl (by decide +kernel)) (goodIn_ca (goodIn_r _ [1, 2, 3, 4, 5, 6, 7, 8, 9, 10, 11, 12, 13, 14, 15, 16, 17, 18, 19, 20, 21] rfl (by decide +kernel)) (bs2_in _ _))) rfl rfl rfl (by decide +kernel) ⟨(Nat.le_of_ble_eq_true rfl), (Nat.le_of_ble_eq_true rfl)⟩) ⟨fun a U g mk q => by obtain ⟨q0, q1, qK, qE⟩ := q; exact ⟨q0, q1, va_K.moved (u := U) (U := U.calling g mk a) (Vm.Alike.refl U.vm) qK, EVC.blind g mk a qE⟩, gH_rc hK hT hr_o0 shc_14 rfl, fun U hU hW => ⟨rfl, hU, va_K.moved hW.alike hK, hE.call hS hFc hU hW⟩⟩ rfl rfl hl.1 rfl (lv_room (Nat.le_of_ble_eq_true rfl)) dL_yards_5 ⟨(Nat.le_of_ble_eq_true rfl), (Nat.le_of_ble_eq_true rfl)⟩) hS (fun q _ h => hFc q h) hFc (fun q _ h => hFc q h) (fun E ce q9 u t H locs ht hvm _ hw2 _ _ hS hce hcv hcl => ?_) (fun r1 u t H locs ht hvm hw2 hB _ _ hS => ?_)
  · obtain ⟨hw2, hTx, hFx⟩ := hw2; rw [ht] at hTx hFx
    have hT := hTx; have hF := hF.more hFx (by decide)
    subst hw2
    refine vx_catch (E := "java/lang/IndexOutOfBoundsException") hown [] ⟨0, 10, 13, 13⟩ [] (by rw [htab]; rfl) (fun z h => absurd h List.not_mem_nil) (by decide) (by decide) (ht_at2 hts 24 rfl) (va_Nw.use rfl (hE.1.1.2.1.2.1 _ (List.mem_of_getElem? (i := 0) rfl))) hce hcv hcl ?_
    refine lv_astore (lv' := [(4, .ref q9), (0, .ref o0), (1, .int p1), (2, .int p2), (3, .ref ou)]) hx hb dL_yards_13 hl (by decide) rfl (fun ls hl => ?_)
    refine lv_iconst (v := 1) hx hb dL_yards_15 (by decide) ?_
    exact W.iret (v := 1) hx hb hr (fun t ht hW => ⟨⟨1, (), rfl, (by exact (rg_t (a := 1) (by decide) (by first | decide | omega) (by first | decide | omega))), by (try dsimp only); rw [ht]; exact ⟨hT, hF⟩⟩, hS.F ht⟩) hS.2.2 dL_yards_16
  · obtain ⟨hT, hF1⟩ := hB
    rw [ht] at hT hF1
    have hF := hF.more hF1 (by decide)
    try dsimp only at hw2
    refine lv_i2l (v := r1.toInt64) hx hb dL_yards_8 rfl ?_
    refine tw_last (i := 0)  hx hb hK hT hG hS hr_ou shc_98 rfl (by unfold vp_in; decide) ⟨_, rfl⟩ dL_yards_9 (fun H locs hT oq m3 oi hS => ?_)
    have hF := hF.ast hr_ou skc_98 oq (by decide)
    refine lv_goto (tgt := 17) hx hb dL_yards_10 (by decide) ?_
    refine lv_iconst (v := 0) hx hb dL_yards_17 (by decide) ?_
    exact W.iret (v := 0) hx hb hr (fun t ht hW => ⟨⟨0, (), rfl, (by exact (rg_t (a := 0) (by decide) (by first | decide | omega) (by first | decide | omega))), by (try dsimp only); rw [ht]; exact ⟨hT, hF⟩⟩, hS.F ht⟩) hS.2.2 dL_yards_18
