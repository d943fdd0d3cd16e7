def w_l_settler : List Cond := .codeWith yL_settler cL_settler 10 (some .int) [(0, 20, 23, 15), (0, 20, 27, 45)] :: (HAppend.hAppend (α := List Cond) (β := List Cond) (γ := List Cond) [.code yX11_settler cX11_settler 8 (some .int), .code yX11_within cX11_within 3 (some .boolean), .methodLink RX11 58 yX11_within, .static yX11_within, .initialized RX11, .code yX11_needNumbers cX11_needNumbers 1 none, .classLink RX11 547 "java/lang/IllegalArgumentException", .initialized "java/lang/IllegalArgumentException", .methodLink RX11 62 yX11_needNumbers, .static yX11_needNumbers, .constant RX11 96 100000, .constant RX11 341 999999, .fieldLink RX11 30 "SeaLand" "board" "LSeaLand$Board;", .classLink RX11 350 RX7, .instantiable RX7 12, .initialized RX7, .code yX7_init cX7_init 8 none, .methodLink RX7 3 objectInit, .instanceMethod objectInit, .code objectInit ⟨#[0xb1]⟩ 1 none, .fieldLink RX7 9 "SeaLand$Settler" "farm" "I", .fieldLink RX7 15 "SeaLand$Settler" "age" "I", .fieldLink RX7 18 "SeaLand$Settler" "sons" "I", .fieldLink RX7 21 "SeaLand$Settler" "coin" "I", .fieldLink RX7 24 "SeaLand$Settler" "cattle" "I", .fieldLink RX7 27 "SeaLand$Settler" "kin" "Z", .fieldLink RX7 31 "SeaLand$Settler" "board" "Z", .fieldLink RX7 34 "SeaLand$Settler" "drawn" "I", .methodLink RX11 352 yX7_init, .instanceMethod yX7_init, .code yX0_settle cX0_settle 2 (some .int), .fieldLink RX0 11 "SeaLand$Board" "settlers" "[LSeaLand$Settler;", .fieldLink RX0 75 "SeaLand$Board" "settled" "I", .methodLink RX11 355 yX0_settle, .instanceMethod yX0_settle, .selects RX0 yX0_settle yX0_settle, .initialized RX0, .classLink RX11 345 "java/lang/UnsupportedOperationException", .initialized "java/lang/UnsupportedOperationException", .methodLink RL 110 yX11_settler, .instanceMethod yX11_settler, .selects RX11 yX11_settler yX11_settler, .classLink RL 15 "java/lang/IllegalArgumentException", .classLink RL 45 "java/lang/UnsupportedOperationException"] bs2)
set_option maxHeartbeats 4000000 in
set_option maxRecDepth 100000 in
theorem l_settler (l : Launch) (hlt : l.stackTraces = false) (dC : Nat → ClassId) (dI : Nat → Nat → Nat) (kA : Nat → ClassId) (adK adV : Nat → Nat) (G : gT) (H0 : Heap) (nC nS : Int) (o0 : Nat) (p1 : Int32) (p2 : Int32) (p3 : Int32) (p4 : Int32) (p5 : Int32) (p6 : Int32) (p7 : Int32) (ou : Nat) (wa : Nat) (bo : Nat) (hT : gH (dC, dI) kA (SHc nC nS) G H0) (hr_o0 : G o0 = some 14) (hq5 : 0 ≤ p5.toInt ∧ p5.toInt ≤ 1) (hq6 : 0 ≤ p6.toInt ∧ p6.toInt ≤ 1) (hr_ou : G ou = some 98) (hu_o0 : ∀ b, G b = some 3 → b = bo) (hu_a0 : ∀ b, G b = some 51 → b = wa) (hgC : 0 ≤ nC ∧ nC ≤ 40) (hgS : 0 ≤ nS ∧ nS ≤ 60) : Met l yL_settler w_l_settler ({ frames := 8, cells := 1, slots := 12, locals := 147 }) (va_Pc [.ref o0, .int p1, .int p2, .int p3, .int p4, .int p5, .int p6, .int p7, .ref ou] (fun U => U.heap = H0 ∧ va_K (dC, dI) vwCl (tyl kA) U ∧ EVC adK adV (gA G H0.size) U U.heap ∧ NC U ∧ AO U)) (va_Qi (fun (r : Int32) (u : gT × Int × Int) => (0 ≤ r.toInt ∧ r.toInt ≤ 2)) (fun (u : gT × Int × Int) (t : State) => match u with | (G1, n1, n2) => gH (dC, dI) kA (SHc n1 n2) G1 t.heap ∧ gF (dC, dI) SKc G ([(3, 14), (10, 0), (10, 1), (10, 2), (10, 3), (10, 4), (10, 5), (10, 6), (10, 7), (51, 0), (98, 0)] : List (Nat × Nat)) H0 t.heap ∧ gZ ([10] : List Nat) H0.size G G1 ∧ (0 ≤ n1 ∧ n1 ≤ 40) ∧ (0 ≤ n2 ∧ n2 ≤ 60)) (gA G H0.size)) 1 12 (gA G H0.size) := by
  refine va_MetW (cc := cL_settler) (maxL := 10) (ret := (some .int)) (by decide) rfl ?_
  intro p e s m args below meth c s₁ B hml hv
  obtain ⟨rfl, hH0, hK, hE, hN, hAO⟩ := hv
  have hx := B.exec
  have hb := B.bytes
  have hr := B.returns
  have hts := atoms_spec (ws := w_l_settler) B.pre
  have hown : s.vm.findClass RL = some m.cls := findClass_of_methodNamed B.named
  have hlocks := B.notSynchronized
  have htab := vx_table (x := yL_settler) B (hts _ List.mem_cons_self)
  subst hH0
  generalize hAe : gA G s.heap.size = A at hE ⊢
  have hA : ∀ q : Nat, s.heap.size ≤ q → A q := fun q h => by rw [← hAe]; exact Or.inr h
  have hG := gA_of hAe
  have hS : va_S A s.heap s.heap [] := va_S.rf
  have hF : gF (dC, dI) SKc G ([(3, 14), (10, 0), (10, 1), (10, 2), (10, 3), (10, 4), (10, 5), (10, 6), (10, 7), (51, 0), (98, 0)] : List (Nat × Nat)) s.heap s.heap := gF.rf
  have hl := lv_entry ([.ref o0, .int p1, .int p2, .int p3, .int p4, .int p5, .int p6, .int p7, .ref ou]) (n := 10) (Nat.le_of_ble_eq_true rfl)
  rw [lg_entry_eq]
  generalize (lg_sl ([.ref o0, .int p1, .int p2, .int p3, .int p4, .int p5, .int p6, .int p7, .ref ou]) ++ List.replicate (10 - (lg_sl ([.ref o0, .int p1, .int p2, .int p3, .int p4, .int p5, .int p6, .int p7, .ref ou])).length) Slot.unset).toArray = ls at hl ⊢
  have hl : lv_has ls 10 [(0, .ref o0), (1, .int p1), (2, .int p2), (3, .int p3), (4, .int p4), (5, .int p5), (6, .int p6), (7, .int p7), (8, .ref ou)] := hl
  have hG0 := hG
  have hZ : gZ ([10] : List Nat) s.heap.size G G := gZ.rf hT
  refine lv_aload hx hb dL_settler_0 (lv_at hl 8 rfl) ?_
  refine lv_iconst (v := 0) hx hb dL_settler_2 (by decide) ?_
  refine lv_aload_n hx hb dL_settler_3 rfl (lv_at hl 0 rfl) ?_
  refine lv_iload_n hx hb dL_settler_4 rfl (lv_at hl 1 rfl) ?_
  refine lv_iload_n hx hb dL_settler_5 rfl (lv_at hl 2 rfl) ?_
  refine lv_iload_n hx hb dL_settler_6 rfl (lv_at hl 3 rfl) ?_
  refine lv_iload hx hb dL_settler_7 (lv_at hl 4 rfl) ?_
  refine lv_iload hx hb dL_settler_9 (lv_at hl 5 rfl) ?_
  refine lv_iload hx hb dL_settler_11 (lv_at hl 6 rfl) ?_
  refine lv_iload hx hb dL_settler_13 (lv_at hl 7 rfl) ?_
  have hFc := gA_free hG hA hS
  refine vx_calli (vx_runV (As := [.int p1, .int p2, .int p3, .int p4, .int p5, .int p6, .int p7]) (rest := [.int 0, .ref ou]) ⟨hx, hb, hml, hown, hts⟩ (c_settler l hlt dC dI kA adK adV G s.heap nC nS o0 p1 p2 p3 p4 p5 p6 p7 wa bo hT hr_o0 (by have q8 := ti_all p5; omega) (by have q8 := ti_all p6; omega) hu_o0 hu_a0 (by omega) (by omega)) (cwV 7 hts (goodIn_app (goodIn_r _ [40, 41, 42, 5] rfl (by decide +kernel)) (goodIn_ca (goodIn_r _ [1, 2, 3, 4, 5, 6, 7, 8, 9, 10, 11, 12, 13, 14, 15, 16, 17, 18, 19, 20, 21, 22, 23, 24, 25, 26, 27, 28, 29, 30, 31, 32, 33, 34, 35, 36, 37, 38, 39] rfl (by decide +kernel)) (bs2_in _ _))) rfl rfl rfl (by decide +kernel) ⟨(Nat.le_of_ble_eq_true rfl), (Nat.le_of_ble_eq_true rfl)⟩) ⟨fun a U g mk q => by obtain ⟨q0, q1, qK, qE⟩ := q; exact ⟨q0, q1, va_K.moved (u := U) (U := U.calling g mk a) (Vm.Alike.refl U.vm) qK, EVC.blind g mk a qE⟩, gH_rc hK hT hr_o0 shc_14 rfl, fun U hU hW => ⟨rfl, hU, va_K.moved hW.alike hK, hE.call hS hFc hU hW⟩⟩ rfl rfl hl.1 rfl (lv_room (Nat.le_of_ble_eq_true rfl)) dL_settler_15 ⟨(Nat.le_of_ble_eq_true rfl), (Nat.le_of_ble_eq_true rfl)⟩) hS (fun q _ h => hFc q h) hFc (fun q _ h => hFc q h) (fun E ce q9 u t H locs ht hvm _ hw2 _ _ hS hce hcv hcl => ?_) (fun r1 u t H locs ht hvm hw2 hB _ _ hS => ?_)
  · obtain ⟨hw2, hTx, hFx⟩ := hw2; rw [ht] at hTx hFx
    have hT := hTx; have hF := hF.more (hFx.sub hZ.1) (by decide)
    rcases hw2 with rfl | rfl
    · refine vx_catch (E := "java/lang/IllegalArgumentException") hown [] ⟨0, 20, 23, 15⟩ [⟨0, 20, 27, 45⟩] (by rw [htab]; rfl) (fun z h => absurd h List.not_mem_nil) (by decide) (by decide) (ht_at2 hts 42 rfl) (va_Nw.use rfl (hE.1.1.2.1.2.1 _ (List.mem_of_getElem? (i := 1) rfl))) hce hcv hcl ?_
      refine lv_astore (lv' := [(9, .ref q9), (0, .ref o0), (1, .int p1), (2, .int p2), (3, .int p3), (4, .int p4), (5, .int p5), (6, .int p6), (7, .int p7), (8, .ref ou)]) hx hb dL_settler_23 hl (by decide) rfl (fun ls hl => ?_)
      refine lv_iconst (v := 1) hx hb dL_settler_25 (by decide) ?_
      exact W.iret (v := 1) hx hb hr (fun t ht hW => ⟨⟨1, (G, nC, nS), rfl, (by exact (rg_t (a := 1) (by decide) (by first | decide | omega) (by first | decide | omega))), by (try dsimp only); rw [ht]; exact ⟨hT, hF, hZ, (by omega), (by omega)⟩⟩, hS.F ht⟩) hS.2.2 dL_settler_26
    · refine vx_catch (E := "java/lang/UnsupportedOperationException") hown [⟨0, 20, 23, 15⟩] ⟨0, 20, 27, 45⟩ [] (by rw [htab]; rfl) (fun z h => by
          simp only [List.mem_cons, List.not_mem_nil, or_false] at h
          rcases h with rfl
          · exact Or.inr ⟨by decide, "java/lang/IllegalArgumentException", (ht_at2 hts 42 rfl), hN ("java/lang/UnsupportedOperationException", "java/lang/IllegalArgumentException") (by decide +kernel)⟩) (by decide) (by decide) (ht_at2 hts 43 rfl) (va_Nw.use rfl (hE.2 _ (List.mem_of_getElem? (i := 0) rfl))) hce hcv hcl ?_
      refine lv_astore (lv' := [(9, .ref q9), (0, .ref o0), (1, .int p1), (2, .int p2), (3, .int p3), (4, .int p4), (5, .int p5), (6, .int p6), (7, .int p7), (8, .ref ou)]) hx hb dL_settler_27 hl (by decide) rfl (fun ls hl => ?_)
      refine lv_iconst (v := 2) hx hb dL_settler_29 (by decide) ?_
      exact W.iret (v := 2) hx hb hr (fun t ht hW => ⟨⟨2, (G, nC, nS), rfl, (by exact (rg_t (a := 2) (by decide) (by first | decide | omega) (by first | decide | omega))), by (try dsimp only); rw [ht]; exact ⟨hT, hF, hZ, (by omega), (by omega)⟩⟩, hS.F ht⟩) hS.2.2 dL_settler_30
  · obtain ⟨G1, n1, n2⟩ := u; obtain ⟨hT, hF1, hZ1, hn1, hn2⟩ := hB; rw [ht] at hT hF1
    have hF := hF.more hF1 (by decide)
    have hZ := hZ1
    have hG := hZ.A hG0 hA
    have hg3 := hZ.1 _ _ hr_o0
    have hg4 := hZ.1 _ _ hr_ou
    have t5 : 0 ≤ r1.toInt ∧ r1.toInt ≤ 59 := hw2
    refine lv_i2l (v := r1.toInt64) hx hb dL_settler_18 rfl ?_
    refine tw_last (i := 0)  hx hb hK hT hG hS hg4 shc_98 rfl (by unfold vp_in; decide) ⟨_, rfl⟩ dL_settler_19 (fun H locs hT oq m6 oi hS => ?_)
    have hF := gF.astX hZ.1 hF hg4 skc_98 oq (by decide)
    refine lv_goto (tgt := 31) hx hb dL_settler_20 (by decide) ?_
    refine lv_iconst (v := 0) hx hb dL_settler_31 (by decide) ?_
    exact W.iret (v := 0) hx hb hr (fun t ht hW => ⟨⟨0, (G1, n1, n2), rfl, (by exact (rg_t (a := 0) (by decide) (by first | decide | omega) (by first | decide | omega))), by (try dsimp only); rw [ht]; exact ⟨hT, hF, hZ, (by omega), (by omega)⟩⟩, hS.F ht⟩) hS.2.2 dL_settler_32
def w_l_contract : List Cond := .codeWith yL_contract cL_contract 7 (some .int) [(0, 14, 17, 13), (0, 14, 21, 15), (0, 14, 25, 50)] :: (HAppend.hAppend (α := List Cond) (β := List Cond) (γ := List Cond) [.code yX11_contract cX11_contract 6 (some .int), .code yX11_workOf cX11_workOf 2 (some (.object "SeaLand$Work")), .fieldLink RX11 16 "SeaLand" "lake" "LSeaLand$Lake;", .code yX11_within cX11_within 3 (some .boolean), .methodLink RX11 58 yX11_within, .static yX11_within, .initialized RX11, .classLink RX11 557 "java/lang/IndexOutOfBoundsException", .initialized "java/lang/IndexOutOfBoundsException", .methodLink RX11 167 yX11_workOf, .instanceMethod yX11_workOf, .selects RX11 yX11_workOf yX11_workOf, .code yX11_needNumbers cX11_needNumbers 1 none, .classLink RX11 547 "java/lang/IllegalArgumentException", .initialized "java/lang/IllegalArgumentException", .methodLink RX11 62 yX11_needNumbers, .static yX11_needNumbers, .code yX10_isBank cX10_isBank 1 (some .boolean), .fieldLink RX10 18 "SeaLand$Work" "kind" "I", .methodLink RX11 171 yX10_isBank, .instanceMethod yX10_isBank, .selects RX10 yX10_isBank yX10_isBank, .initialized RX10, .code yX11_needKind cX11_needKind 1 none, .classLink RX11 552 "java/lang/ClassCastException", .initialized "java/lang/ClassCastException", .methodLink RX11 177 yX11_needKind, .static yX11_needKind, .fieldLink RX11 414 "SeaLand" "contracted" "I", .fieldLink RX11 36 "SeaLand" "contracts" "[LSeaLand$Contract;", .classLink RX11 34 RX1, .instantiable RX1 8, .initialized RX1, .code yX1_init cX1_init 5 none, .methodLink RX1 1 objectInit, .instanceMethod objectInit, .code objectInit ⟨#[0xb1]⟩ 1 none, .constant RX1 9 2147483647, .fieldLink RX1 10 "SeaLand$Contract" "most" "I", .fieldLink RX1 16 "SeaLand$Contract" "work" "I", .fieldLink RX1 19 "SeaLand$Contract" "clay" "I", .fieldLink RX1 22 "SeaLand$Contract" "price" "I", .fieldLink RX1 25 "SeaLand$Contract" "bound" "I", .methodLink RX11 417 yX1_init, .instanceMethod yX1_init, .methodLink RL 136 yX11_contract, .instanceMethod yX11_contract, .selects RX11 yX11_contract yX11_contract, .classLink RL 13 "java/lang/IndexOutOfBoundsException", .classLink RL 15 "java/lang/IllegalArgumentException", .classLink RL 50 "java/lang/ClassCastException"] bs2)
set_option maxHeartbeats 4000000 in
set_option maxRecDepth 100000 in
theorem l_contract (l : Launch) (hlt : l.stackTraces = false) (dC : Nat → ClassId) (dI : Nat → Nat → Nat) (kA : Nat → ClassId) (adK adV : Nat → Nat) (G : gT) (H0 : Heap) (nC nS : Int) (o0 : Nat) (p1 : Int32) (p2 : Int32) (p3 : Int32) (p4 : Int32) (ou : Nat) (wa : Nat) (hT : gH (dC, dI) kA (SHc nC nS) G H0) (hr_o0 : G o0 = some 14) (hr_ou : G ou = some 98) (hu_o0 : ∀ b, G b = some 14 → b = o0) (hu_a0 : ∀ b, G b = some 17 → b = wa) (hgC : 0 ≤ nC ∧ nC ≤ 40) (hgS : 0 ≤ nS ∧ nS ≤ 60) : Met l yL_contract w_l_contract ({ frames := 8, cells := 2, slots := 14, locals := 146 }) (va_Pc [.ref o0, .int p1, .int p2, .int p3, .int p4, .ref ou] (fun U => U.heap = H0 ∧ va_K (dC, dI) vwCl (tyl kA) U ∧ EVC adK adV (gA G H0.size) U U.heap ∧ NC U ∧ AO U)) (va_Qi (fun (r : Int32) (u : gT × Int × Int) => (0 ≤ r.toInt ∧ r.toInt ≤ 3)) (fun (u : gT × Int × Int) (t : State) => match u with | (G1, n1, n2) => gH (dC, dI) kA (SHc n1 n2) G1 t.heap ∧ gF (dC, dI) SKc G ([(4, 0), (4, 1), (4, 2), (4, 3), (4, 6), (14, 8), (17, 0), (98, 0)] : List (Nat × Nat)) H0 t.heap ∧ gZ ([4] : List Nat) H0.size G G1 ∧ (0 ≤ n1 ∧ n1 ≤ 40) ∧ (0 ≤ n2 ∧ n2 ≤ 60)) (gA G H0.size)) 2 14 (gA G H0.size) := by
  refine va_MetW (cc := cL_contract) (maxL := 7) (ret := (some .int)) (by decide) rfl ?_
  intro p e s m args below meth c s₁ B hml hv
  obtain ⟨rfl, hH0, hK, hE, hN, hAO⟩ := hv
  have hx := B.exec
  have hb := B.bytes
  have hr := B.returns
  have hts := atoms_spec (ws := w_l_contract) B.pre
  have hown : s.vm.findClass RL = some m.cls := findClass_of_methodNamed B.named
  have hlocks := B.notSynchronized
  have htab := vx_table (x := yL_contract) B (hts _ List.mem_cons_self)
  subst hH0
  generalize hAe : gA G s.heap.size = A at hE ⊢
  have hA : ∀ q : Nat, s.heap.size ≤ q → A q := fun q h => by rw [← hAe]; exact Or.inr h
  have hG := gA_of hAe
  have hS : va_S A s.heap s.heap [] := va_S.rf
  have hF : gF (dC, dI) SKc G ([(4, 0), (4, 1), (4, 2), (4, 3), (4, 6), (14, 8), (17, 0), (98, 0)] : List (Nat × Nat)) s.heap s.heap := gF.rf
  have hl := lv_entry ([.ref o0, .int p1, .int p2, .int p3, .int p4, .ref ou]) (n := 7) (Nat.le_of_ble_eq_true rfl)
  rw [lg_entry_eq]
  generalize (lg_sl ([.ref o0, .int p1, .int p2, .int p3, .int p4, .ref ou]) ++ List.replicate (7 - (lg_sl ([.ref o0, .int p1, .int p2, .int p3, .int p4, .ref ou])).length) Slot.unset).toArray = ls at hl ⊢
  have hl : lv_has ls 7 [(0, .ref o0), (1, .int p1), (2, .int p2), (3, .int p3), (4, .int p4), (5, .ref ou)] := hl
  have hG0 := hG
  have hZ : gZ ([4] : List Nat) s.heap.size G G := gZ.rf hT
  refine lv_aload hx hb dL_contract_0 (lv_at hl 5 rfl) ?_
  refine lv_iconst (v := 0) hx hb dL_contract_2 (by decide) ?_
  refine lv_aload_n hx hb dL_contract_3 rfl (lv_at hl 0 rfl) ?_
  refine lv_iload_n hx hb dL_contract_4 rfl (lv_at hl 1 rfl) ?_
  refine lv_iload_n hx hb dL_contract_5 rfl (lv_at hl 2 rfl) ?_
  refine lv_iload_n hx hb dL_contract_6 rfl (lv_at hl 3 rfl) ?_
  refine lv_iload hx hb dL_contract_7 (lv_at hl 4 rfl) ?_
  have hFc := gA_free hG hA hS
  refine vx_calli (vx_runV (As := [.int p1, .int p2, .int p3, .int p4]) (rest := [.int 0, .ref ou]) ⟨hx, hb, hml, hown, hts⟩ (c_contract l hlt dC dI kA adK adV G s.heap nC nS o0 p1 p2 p3 p4 wa hT hr_o0 hu_o0 hu_a0 (by omega) (by omega)) (cwV 4 hts (goodIn_app (goodIn_r _ [46, 47, 48, 7] rfl (by decide +kernel)) (goodIn_ca (goodIn_r _ [1, 2, 3, 4, 5, 6, 7, 8, 9, 10, 11, 12, 13, 14, 15, 16, 17, 18, 19, 20, 21, 22, 23, 24, 25, 26, 27, 28, 29, 30, 31, 32, 33, 34, 35, 36, 37, 38, 39, 40, 41, 42, 43, 44, 45] rfl (by decide +kernel)) (bs2_in _ _))) rfl rfl rfl (by decide +kernel) ⟨(Nat.le_of_ble_eq_true rfl), (Nat.le_of_ble_eq_true rfl)⟩) ⟨fun a U g mk q => by obtain ⟨q0, q1, qK, qE⟩ := q; exact ⟨q0, q1, va_K.moved (u := U) (U := U.calling g mk a) (Vm.Alike.refl U.vm) qK, EVC.blind g mk a qE⟩, gH_rc hK hT hr_o0 shc_14 rfl, fun U hU hW => ⟨rfl, hU, va_K.moved hW.alike hK, hE.call hS hFc hU hW⟩⟩ rfl rfl hl.1 rfl (lv_room (Nat.le_of_ble_eq_true rfl)) dL_contract_9 ⟨(Nat.le_of_ble_eq_true rfl), (Nat.le_of_ble_eq_true rfl)⟩) hS (fun q _ h => hFc q h) hFc (fun q _ h => hFc q h) (fun E ce q9 u t H locs ht hvm _ hw2 _ _ hS hce hcv hcl => ?_) (fun r1 u t H locs ht hvm hw2 hB _ _ hS => ?_)
  · obtain ⟨hw2, hTx, hFx⟩ := hw2; rw [ht] at hTx hFx
    have hT := hTx; have hF := hF.more (hFx.sub hZ.1) (by decide)
    rcases hw2 with rfl | rfl | rfl
    · refine vx_catch (E := "java/lang/ClassCastException") hown [⟨0, 14, 17, 13⟩, ⟨0, 14, 21, 15⟩] ⟨0, 14, 25, 50⟩ [] (by rw [htab]; rfl) (fun z h => by
          simp only [List.mem_cons, List.not_mem_nil, or_false] at h
          rcases h with rfl | rfl
          · exact Or.inr ⟨by decide, "java/lang/IndexOutOfBoundsException", (ht_at2 hts 48 rfl), hN ("java/lang/ClassCastException", "java/lang/IndexOutOfBoundsException") (by decide +kernel)⟩
          · exact Or.inr ⟨by decide, "java/lang/IllegalArgumentException", (ht_at2 hts 49 rfl), hN ("java/lang/ClassCastException", "java/lang/IllegalArgumentException") (by decide +kernel)⟩) (by decide) (by decide) (ht_at2 hts 50 rfl) (va_Nw.use rfl (hE.2 _ (List.mem_of_getElem? (i := 1) rfl))) hce hcv hcl ?_
      refine lv_astore (lv' := [(6, .ref q9), (0, .ref o0), (1, .int p1), (2, .int p2), (3, .int p3), (4, .int p4), (5, .ref ou)]) hx hb dL_contract_25 hl (by decide) rfl (fun ls hl => ?_)
      refine lv_iconst (v := 3) hx hb dL_contract_27 (by decide) ?_
      exact W.iret (v := 3) hx hb hr (fun t ht hW => ⟨⟨3, (G, nC, nS), rfl, (by exact (rg_t (a := 3) (by decide) (by first | decide | omega) (by first | decide | omega))), by (try dsimp only); rw [ht]; exact ⟨hT, hF, hZ, (by omega), (by omega)⟩⟩, hS.F ht⟩) hS.2.2 dL_contract_28
    · refine vx_catch (E := "java/lang/IllegalArgumentException") hown [⟨0, 14, 17, 13⟩] ⟨0, 14, 21, 15⟩ [⟨0, 14, 25, 50⟩] (by rw [htab]; rfl) (fun z h => by
          simp only [List.mem_cons, List.not_mem_nil, or_false] at h
          rcases h with rfl
          · exact Or.inr ⟨by decide, "java/lang/IndexOutOfBoundsException", (ht_at2 hts 48 rfl), hN ("java/lang/IllegalArgumentException", "java/lang/IndexOutOfBoundsException") (by decide +kernel)⟩) (by decide) (by decide) (ht_at2 hts 49 rfl) (va_Nw.use rfl (hE.1.1.2.1.2.1 _ (List.mem_of_getElem? (i := 1) rfl))) hce hcv hcl ?_
      refine lv_astore (lv' := [(6, .ref q9), (0, .ref o0), (1, .int p1), (2, .int p2), (3, .int p3), (4, .int p4), (5, .ref ou)]) hx hb dL_contract_21 hl (by decide) rfl (fun ls hl => ?_)
      refine lv_iconst (v := 2) hx hb dL_contract_23 (by decide) ?_
      exact W.iret (v := 2) hx hb hr (fun t ht hW => ⟨⟨2, (G, nC, nS), rfl, (by exact (rg_t (a := 2) (by decide) (by first | decide | omega) (by first | decide | omega))), by (try dsimp only); rw [ht]; exact ⟨hT, hF, hZ, (by omega), (by omega)⟩⟩, hS.F ht⟩) hS.2.2 dL_contract_24
    · refine vx_catch (E := "java/lang/IndexOutOfBoundsException") hown [] ⟨0, 14, 17, 13⟩ [⟨0, 14, 21, 15⟩, ⟨0, 14, 25, 50⟩] (by rw [htab]; rfl) (fun z h => absurd h List.not_mem_nil) (by decide) (by decide) (ht_at2 hts 48 rfl) (va_Nw.use rfl (hE.1.1.2.1.2.1 _ (List.mem_of_getElem? (i := 0) rfl))) hce hcv hcl ?_
      refine lv_astore (lv' := [(6, .ref q9), (0, .ref o0), (1, .int p1), (2, .int p2), (3, .int p3), (4, .int p4), (5, .ref ou)]) hx hb dL_contract_17 hl (by decide) rfl (fun ls hl => ?_)
      refine lv_iconst (v := 1) hx hb dL_contract_19 (by decide) ?_
      exact W.iret (v := 1) hx hb hr (fun t ht hW => ⟨⟨1, (G, nC, nS), rfl, (by exact (rg_t (a := 1) (by decide) (by first | decide | omega) (by first | decide | omega))), by (try dsimp only); rw [ht]; exact ⟨hT, hF, hZ, (by omega), (by omega)⟩⟩, hS.F ht⟩) hS.2.2 dL_contract_20
  · obtain ⟨G1, n1, n2⟩ := u; obtain ⟨hT, hF1, hZ1, hn1, hn2⟩ := hB; rw [ht] at hT hF1
    have hF := hF.more hF1 (by decide)
    have hZ := hZ1
    have hG := hZ.A hG0 hA
    have hg3 := hZ.1 _ _ hr_o0
    have hg4 := hZ.1 _ _ hr_ou
    have t5 : -1 ≤ r1.toInt ∧ r1.toInt ≤ 39 := hw2
    refine lv_i2l (v := r1.toInt64) hx hb dL_contract_12 rfl ?_
    refine tw_last (i := 0)  hx hb hK hT hG hS hg4 shc_98 rfl (by unfold vp_in; decide) ⟨_, rfl⟩ dL_contract_13 (fun H locs hT oq m6 oi hS => ?_)
    have hF := gF.astX hZ.1 hF hg4 skc_98 oq (by decide)
    refine lv_goto (tgt := 29) hx hb dL_contract_14 (by decide) ?_
    refine lv_iconst (v := 0) hx hb dL_contract_29 (by decide) ?_
    exact W.iret (v := 0) hx hb hr (fun t ht hW => ⟨⟨0, (G1, n1, n2), rfl, (by exact (rg_t (a := 0) (by decide) (by first | decide | omega) (by first | decide | omega))), by (try dsimp only); rw [ht]; exact ⟨hT, hF, hZ, (by omega), (by omega)⟩⟩, hS.F ht⟩) hS.2.2 dL_contract_30
