theorem vin_div4 {i : Nat} {x : Int32} (hi : i < 20) (e : x = nI i / 4) : vp_in x 5 := by
  rw [e, show (4 : Int32) = nI 4 from rfl, pk_div (by omega) (by decide) (by decide)]
  exact vp_in_nI (by omega) (by decide)
def T_feed (p0 p1 p2 p3 p4 : Int32) : Int32 × Int32 := (0, 20)
def w_l_choose : List Cond := .codeWith yL_choose cL_choose 4 (some .int) [(0, 9, 12, 15)] :: ([.code yX11_choose cX11_choose 2 (some .int), .code yX11_within cX11_within 3 (some .boolean), .methodLink RX11 58 yX11_within, .static yX11_within, .initialized RX11, .code yX11_needNumbers cX11_needNumbers 1 none, .methodLink RX11 62 yX11_needNumbers, .static yX11_needNumbers, .fieldLink RX11 30 "SeaLand" "board" "LSeaLand$Board;", .fieldLink RX11 16 "SeaLand" "lake" "LSeaLand$Lake;", .code yX0_giveFarms cX0_giveFarms 7 (some .int), .fieldLink RX0 75 "SeaLand$Board" "settled" "I", .fieldLink RX0 185 "SeaLand$Board" "holding" "I", .code yX0_firstByMark cX0_firstByMark 3 (some .int), .methodLink RX0 173 yX0_firstByMark, .instanceMethod yX0_firstByMark, .selects RX0 yX0_firstByMark yX0_firstByMark, .initialized RX0, .code yX0_bestFreeFarm cX0_bestFreeFarm 6 (some .int), .fieldLink RX0 143 "SeaLand$Board" "farms" "I", .methodLink RX0 181 yX0_bestFreeFarm, .instanceMethod yX0_bestFreeFarm, .selects RX0 yX0_bestFreeFarm yX0_bestFreeFarm, .methodLink RX11 373 yX0_giveFarms, .instanceMethod yX0_giveFarms, .selects RX0 yX0_giveFarms yX0_giveFarms, .classLink RX11 547 "java/lang/IllegalArgumentException", .initialized "java/lang/IllegalArgumentException", .methodLink RL 120 yX11_choose, .instanceMethod yX11_choose, .selects RX11 yX11_choose yX11_choose, .classLink RL 15 "java/lang/IllegalArgumentException"] ++ bs)
set_option maxHeartbeats 4000000 in
set_option maxRecDepth 100000 in
theorem l_choose (l : Launch) (hlt : l.stackTraces = false) (dC : Nat → ClassId) (dI : Nat → Nat → Nat) (a : Nat → Nat) (k : Nat → ClassId) (o0 : Nat) (ko : ClassId) (fo : Nat → Int64) (p0 : Int32) (sz : Nat) : Met l yL_choose w_l_choose ({ frames := 8, cells := 1, slots := 6, locals := 141 }) (va_Pc [.ref (a 0), .int p0, .ref o0] (fun U => U.heap.size = sz ∧ va_P (dC, dI) vwCl [(a 0, .inr (14, [.ref (a 1), .ref (a 2), .ref (a 27), .ref (a 30), .ref (a 74), .ref (a 75), .null, .int 0, .int 0])), (a 30, .inr (3, [.ref (a 31), .ref (a 32), .ref (a 33), .ref (a 34), .ref (a 35), .ref (a 36), .ref (a 37), .ref (a 38), .ref (a 50), .ref (a 62), .int (-1), .int 0, .long 0, .long 0, .int 0, .int 0, .int 0, .int 0])), (a 2, .inr (6, [.ref (a 3), .ref (a 14), .ref (a 26), .int 0, .int 0])), (o0, .inl (ko, 1, .inr (.inl fo)))] U.heap ∧ va_K (dC, dI) vwCl [(ko, .long)] U ∧ va_D (fun _ => True) [(a 0, .inr (14, [.ref (a 1), .ref (a 2), .ref (a 27), .ref (a 30), .ref (a 74), .ref (a 75), .null, .int 0, .int 0])), (a 30, .inr (3, [.ref (a 31), .ref (a 32), .ref (a 33), .ref (a 34), .ref (a 35), .ref (a 36), .ref (a 37), .ref (a 38), .ref (a 50), .ref (a 62), .int (-1), .int 0, .long 0, .long 0, .int 0, .int 0, .int 0, .int 0])), (a 2, .inr (6, [.ref (a 3), .ref (a 14), .ref (a 26), .int 0, .int 0])), (o0, .inl (ko, 1, .inr (.inl fo)))] ∧ EV (va_A [(a 0, .inr (14, [.ref (a 1), .ref (a 2), .ref (a 27), .ref (a 30), .ref (a 74), .ref (a 75), .null, .int 0, .int 0])), (a 30, .inr (3, [.ref (a 31), .ref (a 32), .ref (a 33), .ref (a 34), .ref (a 35), .ref (a 36), .ref (a 37), .ref (a 38), .ref (a 50), .ref (a 62), .int (-1), .int 0, .long 0, .long 0, .int 0, .int 0, .int 0, .int 0])), (a 2, .inr (6, [.ref (a 3), .ref (a 14), .ref (a 26), .int 0, .int 0])), (o0, .inl (ko, 1, .inr (.inl fo)))] sz) U U.heap ∧ NC U)) (va_Qi (fun (r : Int32) (u : Nat → Int64) => r = (T_choose p0).1 ∧ ((T_choose p0).1 = 0 → u 0 = (T_choose p0).2.toInt64)) (fun (fu : Nat → Int64) (t : State) => va_P (dC, dI) vwCl [(o0, .inl (ko, 1, .inr (.inl fu)))] t.heap ∧ va_D (va_A [(a 0, .inr (14, [.ref (a 1), .ref (a 2), .ref (a 27), .ref (a 30), .ref (a 74), .ref (a 75), .null, .int 0, .int 0])), (a 30, .inr (3, [.ref (a 31), .ref (a 32), .ref (a 33), .ref (a 34), .ref (a 35), .ref (a 36), .ref (a 37), .ref (a 38), .ref (a 50), .ref (a 62), .int (-1), .int 0, .long 0, .long 0, .int 0, .int 0, .int 0, .int 0])), (a 2, .inr (6, [.ref (a 3), .ref (a 14), .ref (a 26), .int 0, .int 0])), (o0, .inl (ko, 1, .inr (.inl fo)))] sz) [(o0, .inl (ko, 1, .inr (.inl fu)))]) (va_A [(a 0, .inr (14, [.ref (a 1), .ref (a 2), .ref (a 27), .ref (a 30), .ref (a 74), .ref (a 75), .null, .int 0, .int 0])), (a 30, .inr (3, [.ref (a 31), .ref (a 32), .ref (a 33), .ref (a 34), .ref (a 35), .ref (a 36), .ref (a 37), .ref (a 38), .ref (a 50), .ref (a 62), .int (-1), .int 0, .long 0, .long 0, .int 0, .int 0, .int 0, .int 0])), (a 2, .inr (6, [.ref (a 3), .ref (a 14), .ref (a 26), .int 0, .int 0])), (o0, .inl (ko, 1, .inr (.inl fo)))] sz)) 1 6 (va_A [(a 0, .inr (14, [.ref (a 1), .ref (a 2), .ref (a 27), .ref (a 30), .ref (a 74), .ref (a 75), .null, .int 0, .int 0])), (a 30, .inr (3, [.ref (a 31), .ref (a 32), .ref (a 33), .ref (a 34), .ref (a 35), .ref (a 36), .ref (a 37), .ref (a 38), .ref (a 50), .ref (a 62), .int (-1), .int 0, .long 0, .long 0, .int 0, .int 0, .int 0, .int 0])), (a 2, .inr (6, [.ref (a 3), .ref (a 14), .ref (a 26), .int 0, .int 0])), (o0, .inl (ko, 1, .inr (.inl fo)))] sz) := by
  refine va_MetW (cc := cL_choose) (maxL := 4) (ret := (some .int)) (hh := [(0, 9, 12, 15)]) (by decide) rfl ?_
  intro p e s m args below meth c s₁ B hml hv
  obtain ⟨rfl, hsz, hP, hK, hD0, hE, hN⟩ := hv
  have hx := B.exec
  have hb := B.bytes
  have hr := B.returns
  have hts := atoms_spec (ws := w_l_choose) B.pre
  have hown : s.vm.findClass RL = some m.cls := findClass_of_methodNamed B.named
  have hlocks := B.notSynchronized
  have htab := vx_table (x := yL_choose) B (hts _ List.mem_cons_self)
  subst hsz
  have hD := hD0.self (sz := s.heap.size)
  generalize hAe : va_A [(a 0, .inr (14, [.ref (a 1), .ref (a 2), .ref (a 27), .ref (a 30), .ref (a 74), .ref (a 75), .null, .int 0, .int 0])), (a 30, .inr (3, [.ref (a 31), .ref (a 32), .ref (a 33), .ref (a 34), .ref (a 35), .ref (a 36), .ref (a 37), .ref (a 38), .ref (a 50), .ref (a 62), .int (-1), .int 0, .long 0, .long 0, .int 0, .int 0, .int 0, .int 0])), (a 2, .inr (6, [.ref (a 3), .ref (a 14), .ref (a 26), .int 0, .int 0])), (o0, .inl (ko, 1, .inr (.inl fo)))] s.heap.size = A at hD hE ⊢
  have hA : ∀ q : Nat, s.heap.size ≤ q → A q := fun q h => by rw [← hAe]; exact Or.inr h
  have hS : va_S A s.heap s.heap [] := va_S.rf
  have hP : va_P (dC, dI) vwCl [(a 0, .inr (14, [.ref (a 1), .ref (a 2), .ref (a 27), .ref (a 30), .ref (a 74), .ref (a 75), .null, .int 0, .int 0])), (a 30, .inr (3, [.ref (a 31), .ref (a 32), .ref (a 33), .ref (a 34), .ref (a 35), .ref (a 36), .ref (a 37), .ref (a 38), .ref (a 50), .ref (a 62), .int (-1), .int 0, .long 0, .long 0, .int 0, .int 0, .int 0, .int 0])), (a 2, .inr (6, [.ref (a 3), .ref (a 14), .ref (a 26), .int 0, .int 0])), (o0, .inl (ko, 1, .inr (.inl fo)))] s.heap := hP
  have hl := lv_entry ([.ref (a 0), .int p0, .ref o0]) (n := 4) (Nat.le_of_ble_eq_true rfl)
  rw [lg_entry_eq]
  generalize (lg_sl ([.ref (a 0), .int p0, .ref o0]) ++ List.replicate (4 - (lg_sl ([.ref (a 0), .int p0, .ref o0])).length) Slot.unset).toArray = ls at hl ⊢
  have hl : lv_has ls 4 [(0, .ref (a 0)), (1, .int p0), (2, .ref o0)] := hl
  refine lv_aload_n hx hb dL_choose_0 rfl (lv_at hl 2 rfl) ?_
  refine lv_iconst (v := 0) hx hb dL_choose_1 (by decide) ?_
  refine lv_aload_n hx hb dL_choose_2 rfl (lv_at hl 0 rfl) ?_
  refine lv_iload_n hx hb dL_choose_3 rfl (lv_at hl 1 rfl) ?_
  have hPc := hP.sub (ws' := [(a 0, .inr (14, [.ref (a 1), .ref (a 2), .ref (a 27), .ref (a 30), .ref (a 74), .ref (a 75), .null, .int 0, .int 0])), (a 30, .inr (3, [.ref (a 31), .ref (a 32), .ref (a 33), .ref (a 34), .ref (a 35), .ref (a 36), .ref (a 37), .ref (a 38), .ref (a 50), .ref (a 62), .int (-1), .int 0, .long 0, .long 0, .int 0, .int 0, .int 0, .int 0])), (a 2, .inr (6, [.ref (a 3), .ref (a 14), .ref (a 26), .int 0, .int 0]))]) [0, 1, 2] rfl
  have hDc := hD.sub (ws' := [(a 0, .inr (14, [.ref (a 1), .ref (a 2), .ref (a 27), .ref (a 30), .ref (a 74), .ref (a 75), .null, .int 0, .int 0])), (a 30, .inr (3, [.ref (a 31), .ref (a 32), .ref (a 33), .ref (a 34), .ref (a 35), .ref (a 36), .ref (a 37), .ref (a 38), .ref (a 50), .ref (a 62), .int (-1), .int 0, .long 0, .long 0, .int 0, .int 0, .int 0, .int 0])), (a 2, .inr (6, [.ref (a 3), .ref (a 14), .ref (a 26), .int 0, .int 0]))]) [0, 1, 2] (by decide) rfl
  have hKc := hK.sub (tys' := []) [] rfl
  have hFc := va_free (wc := [(a 0, .inr (14, [.ref (a 1), .ref (a 2), .ref (a 27), .ref (a 30), .ref (a 74), .ref (a 75), .null, .int 0, .int 0])), (a 30, .inr (3, [.ref (a 31), .ref (a 32), .ref (a 33), .ref (a 34), .ref (a 35), .ref (a 36), .ref (a 37), .ref (a 38), .ref (a 50), .ref (a 62), .int (-1), .int 0, .long 0, .long 0, .int 0, .int 0, .int 0, .int 0])), (a 2, .inr (6, [.ref (a 3), .ref (a 14), .ref (a 26), .int 0, .int 0]))]) hD hS hA [0, 1, 2] rfl
  refine vx_calli (vx_runV (As := [.int p0]) (rest := [.int 0, .ref o0]) ⟨hx, hb, hml, hown, hts⟩ (x_choose l hlt dC dI a k p0 s.heap.size ) (cwV 1 hts (goodIn_app (goodIn_r _ [29, 30, 31, 5] (by decide +kernel) (by decide +kernel)) (goodIn_ca (goodIn_r _ [1, 2, 3, 4, 5, 6, 7, 8, 9, 10, 11, 12, 13, 14, 15, 16, 17, 18, 19, 20, 21, 22, 23, 24, 25, 26, 27, 28] (by decide +kernel) (by decide +kernel)) (bs_in _ _))) rfl rfl rfl (by decide +kernel) ⟨(Nat.le_of_ble_eq_true rfl), (Nat.le_of_ble_eq_true rfl)⟩) ⟨fun a U g mk q => by obtain ⟨q0, q1, qP, qK, qD, qE⟩ := q; exact ⟨q0, q1, qP, va_K.moved (u := U) (U := U.calling g mk a) (Vm.Alike.refl U.vm) qK, qD, EV.blind g mk a qE⟩, va_recv hKc hPc (ci := 14) (q0 := 0) rfl rfl, fun U hU hW => ⟨rfl, by rw [hU], by rw [hU]; exact hPc, va_K.moved hW.alike hKc, hDc.weaken (fun _ _ _ _ => trivial), hE.call hS hFc hU hW⟩⟩ rfl rfl hl.1 rfl (lv_room (Nat.le_of_ble_eq_true rfl)) dL_choose_4 ⟨(Nat.le_of_ble_eq_true rfl), (Nat.le_of_ble_eq_true rfl)⟩) hS (fun q _ h => hFc q h) hFc (fun q _ h => hFc q h) (fun E ce q9 u t H1 locs ht hvm _ hw3 hz1 hk1 hS hce hcv hcl => ?_) (fun r2 u t H1 locs ht hvm hw3 hB hz1 hk1 hS => ?_)
  · obtain ⟨rfl, hk4⟩ := hw3
    have hP1 : va_P (dC, dI) vwCl [] H1 := nilP
    have hD1 : va_D (va_A [(a 0, .inr (14, [.ref (a 1), .ref (a 2), .ref (a 27), .ref (a 30), .ref (a 74), .ref (a 75), .null, .int 0, .int 0])), (a 30, .inr (3, [.ref (a 31), .ref (a 32), .ref (a 33), .ref (a 34), .ref (a 35), .ref (a 36), .ref (a 37), .ref (a 38), .ref (a 50), .ref (a 62), .int (-1), .int 0, .long 0, .long 0, .int 0, .int 0, .int 0, .int 0])), (a 2, .inr (6, [.ref (a 3), .ref (a 14), .ref (a 26), .int 0, .int 0]))] s.heap.size) [] := nilD
    obtain ⟨hP, hD⟩ := va_join (wr := [(o0, .inl (ko, 1, .inr (.inl fo)))]) (w1 := []) hP hD [0, 1, 2] [3] rfl rfl (by decide) (by decide) hk1 hFc hP1 hD1
    generalize H1 = H at hP hS hce ⊢
    have hP : va_P (dC, dI) vwCl [(o0, .inl (ko, 1, .inr (.inl fo)))] H := hP
    have hD : va_D A [(o0, .inl (ko, 1, .inr (.inl fo)))] := hD
    refine vx_catch (E := "java/lang/IllegalArgumentException") hown [] ⟨0, 9, 12, 15⟩ [] (by rw [htab]; rfl) (fun z h => absurd h List.not_mem_nil) (by decide) (by decide) (ht_at hts 31 rfl) (va_Nw.use rfl (hE.2.1.2.1 _ (List.mem_of_getElem? (i := 1) rfl))) hce hcv hcl ?_
    refine lv_astore_n (lv' := [(3, .ref q9), (0, .ref (a 0)), (1, .int p0), (2, .ref o0)]) hx hb dL_choose_12 rfl hl (by decide) rfl (fun ls hl => ?_)
    refine lv_iconst (v := 1) hx hb dL_choose_13 (by decide) ?_
    exact W.iret (v := 1) hx hb hr (fun t ht hW => ⟨⟨1, fo, rfl, (by exact ⟨hk4.symm, fun h => absurd (h.symm.trans hk4) (by decide)⟩), by rw [ht]; exact hP.sub (ws' := [(o0, .inl (ko, 1, .inr (.inl fo)))]) [0] rfl, hD.sub (ws' := [(o0, .inl (ko, 1, .inr (.inl fo)))]) [0] (by decide) rfl⟩, hS.F ht⟩) hS.2.2 dL_choose_14
  · have hP1 : va_P (dC, dI) vwCl [] H1 := nilP
    have hD1 : va_D (va_A [(a 0, .inr (14, [.ref (a 1), .ref (a 2), .ref (a 27), .ref (a 30), .ref (a 74), .ref (a 75), .null, .int 0, .int 0])), (a 30, .inr (3, [.ref (a 31), .ref (a 32), .ref (a 33), .ref (a 34), .ref (a 35), .ref (a 36), .ref (a 37), .ref (a 38), .ref (a 50), .ref (a 62), .int (-1), .int 0, .long 0, .long 0, .int 0, .int 0, .int 0, .int 0])), (a 2, .inr (6, [.ref (a 3), .ref (a 14), .ref (a 26), .int 0, .int 0]))] s.heap.size) [] := nilD
    have hK := hK
    obtain ⟨hP, hD⟩ := va_join (wr := [(o0, .inl (ko, 1, .inr (.inl fo)))]) (w1 := []) hP hD [0, 1, 2] [3] rfl rfl (by decide) (by decide) hk1 hFc hP1 hD1
    generalize H1 = H at hP hS ⊢
    have hP : va_P (dC, dI) vwCl [(o0, .inl (ko, 1, .inr (.inl fo)))] H := hP
    have hD : va_D A [(o0, .inl (ko, 1, .inr (.inl fo)))] := hD
    refine lv_i2l (v := r2.toInt64) hx hb dL_choose_7 rfl ?_
    refine va_last hx hb hK hP hD hS 0 0 rfl rfl (by unfold vp_in; decide) dL_choose_8 (fun H locs hP hD hS => ?_)
    have hP : va_P (dC, dI) vwCl [(o0, .inl (ko, 1, .inr (.inl (vp_updL fo (0 : Int32).toNatClampNeg r2.toInt64))))] H := hP
    have hD : va_D A [(o0, .inl (ko, 1, .inr (.inl (vp_updL fo (0 : Int32).toNatClampNeg r2.toInt64))))] := hD
    refine lv_goto (tgt := 15) hx hb dL_choose_9 (by decide) ?_
    refine lv_iconst (v := 0) hx hb dL_choose_15 (by decide) ?_
    exact W.iret (v := 0) hx hb hr (fun t ht hW => ⟨⟨0, (vp_updL fo (0 : Int32).toNatClampNeg r2.toInt64), rfl, (by exact ⟨hw3.2.symm, fun _ => by simp only [vp_updL, sb_cl0, if_pos]; rw [hw3.1]⟩), by rw [ht]; exact hP.sub (ws' := [(o0, .inl (ko, 1, .inr (.inl (vp_updL fo (0 : Int32).toNatClampNeg r2.toInt64))))]) [0] rfl, hD.sub (ws' := [(o0, .inl (ko, 1, .inr (.inl (vp_updL fo (0 : Int32).toNatClampNeg r2.toInt64))))]) [0] (by decide) rfl⟩, hS.F ht⟩) hS.2.2 dL_choose_16
def w_l_order : List Cond := .codeWith yL_order cL_order 5 (some .int) [(0, 10, 13, 15)] :: ([.code yX11_order cX11_order 3 (some .int), .constant RX11 411 1000000, .code yX11_within cX11_within 3 (some .boolean), .methodLink RX11 58 yX11_within, .static yX11_within, .initialized RX11, .code yX11_needNumbers cX11_needNumbers 1 none, .methodLink RX11 62 yX11_needNumbers, .static yX11_needNumbers, .fieldLink RX11 43 "SeaLand" "plans" "LSeaLand$Plans;", .code yX5_findOrder cX5_findOrder 2 none, .fieldLink RX5 157 "SeaLand$Plans" "bestLate" "I", .code yX5_tryOrders cX5_tryOrders 11 none, .fieldLink RX5 154 "SeaLand$Plans" "jobs" "I", .fieldLink RX5 45 "SeaLand$Plans" "trial" "[I", .fieldLink RX5 48 "SeaLand$Plans" "best" "[I", .methodLink RX5 100 arraycopyName, .native arraycopyName, .static arraycopyName, .initialized "java/lang/System", .methodLink RX5 160 yX5_tryOrders, .instanceMethod yX5_tryOrders, .selects RX5 yX5_tryOrders yX5_tryOrders, .initialized RX5, .methodLink RX11 484 yX5_findOrder, .instanceMethod yX5_findOrder, .selects RX5 yX5_findOrder yX5_findOrder, .classLink RX11 547 "java/lang/IllegalArgumentException", .initialized "java/lang/IllegalArgumentException", .methodLink RL 160 yX11_order, .instanceMethod yX11_order, .selects RX11 yX11_order yX11_order, .classLink RL 15 "java/lang/IllegalArgumentException"] ++ bs)
set_option maxHeartbeats 4000000 in
set_option maxRecDepth 100000 in
theorem l_order (l : Launch) (hlt : l.stackTraces = false) (dC : Nat → ClassId) (dI : Nat → Nat → Nat) (a : Nat → Nat) (k : Nat → ClassId) (o0 : Nat) (ko : ClassId) (fo : Nat → Int64) (p0 p1 : Int32) (sz : Nat) : Met l yL_order w_l_order ({ frames := 8, cells := 1, slots := 6, locals := 142 }) (va_Pc [.ref (a 0), .int p0, .int p1, .ref o0] (fun U => U.heap.size = sz ∧ va_P (dC, dI) vwCl [(a 0, .inr (14, [.ref (a 1), .ref (a 2), .ref (a 27), .ref (a 30), .ref (a 74), .ref (a 75), .null, .int 0, .int 0])), (a 75, .inr (8, [.ref (a 76), .ref (a 77), .ref (a 78), .ref (a 79), .ref (a 80), .ref (a 81), .ref (a 82), .ref (a 83), .ref (a 84), .ref (a 85), .ref (a 86), .ref (a 87), .int 0, .int 0, .int 0, .int 0, .int 0])), (a 86, .inl ((k 86), 7, .inl (fun _ => 0))), (a 87, .inl ((k 87), 7, .inl (fun _ => 0))), (o0, .inl (ko, 1, .inr (.inl fo)))] U.heap ∧ va_K (dC, dI) vwCl [((k 86), .int), ((k 87), .int), (ko, .long)] U ∧ va_D (fun _ => True) [(a 0, .inr (14, [.ref (a 1), .ref (a 2), .ref (a 27), .ref (a 30), .ref (a 74), .ref (a 75), .null, .int 0, .int 0])), (a 75, .inr (8, [.ref (a 76), .ref (a 77), .ref (a 78), .ref (a 79), .ref (a 80), .ref (a 81), .ref (a 82), .ref (a 83), .ref (a 84), .ref (a 85), .ref (a 86), .ref (a 87), .int 0, .int 0, .int 0, .int 0, .int 0])), (a 86, .inl ((k 86), 7, .inl (fun _ => 0))), (a 87, .inl ((k 87), 7, .inl (fun _ => 0))), (o0, .inl (ko, 1, .inr (.inl fo)))] ∧ EV (va_A [(a 0, .inr (14, [.ref (a 1), .ref (a 2), .ref (a 27), .ref (a 30), .ref (a 74), .ref (a 75), .null, .int 0, .int 0])), (a 75, .inr (8, [.ref (a 76), .ref (a 77), .ref (a 78), .ref (a 79), .ref (a 80), .ref (a 81), .ref (a 82), .ref (a 83), .ref (a 84), .ref (a 85), .ref (a 86), .ref (a 87), .int 0, .int 0, .int 0, .int 0, .int 0])), (a 86, .inl ((k 86), 7, .inl (fun _ => 0))), (a 87, .inl ((k 87), 7, .inl (fun _ => 0))), (o0, .inl (ko, 1, .inr (.inl fo)))] sz) U U.heap ∧ NC U)) (va_Qi (fun (r : Int32) (u : Nat → Int64) => r = (T_order p0 p1).1 ∧ ((T_order p0 p1).1 = 0 → u 0 = (T_order p0 p1).2.toInt64)) (fun (fu : Nat → Int64) (t : State) => va_P (dC, dI) vwCl [(o0, .inl (ko, 1, .inr (.inl fu)))] t.heap ∧ va_D (va_A [(a 0, .inr (14, [.ref (a 1), .ref (a 2), .ref (a 27), .ref (a 30), .ref (a 74), .ref (a 75), .null, .int 0, .int 0])), (a 75, .inr (8, [.ref (a 76), .ref (a 77), .ref (a 78), .ref (a 79), .ref (a 80), .ref (a 81), .ref (a 82), .ref (a 83), .ref (a 84), .ref (a 85), .ref (a 86), .ref (a 87), .int 0, .int 0, .int 0, .int 0, .int 0])), (a 86, .inl ((k 86), 7, .inl (fun _ => 0))), (a 87, .inl ((k 87), 7, .inl (fun _ => 0))), (o0, .inl (ko, 1, .inr (.inl fo)))] sz) [(o0, .inl (ko, 1, .inr (.inl fu)))]) (va_A [(a 0, .inr (14, [.ref (a 1), .ref (a 2), .ref (a 27), .ref (a 30), .ref (a 74), .ref (a 75), .null, .int 0, .int 0])), (a 75, .inr (8, [.ref (a 76), .ref (a 77), .ref (a 78), .ref (a 79), .ref (a 80), .ref (a 81), .ref (a 82), .ref (a 83), .ref (a 84), .ref (a 85), .ref (a 86), .ref (a 87), .int 0, .int 0, .int 0, .int 0, .int 0])), (a 86, .inl ((k 86), 7, .inl (fun _ => 0))), (a 87, .inl ((k 87), 7, .inl (fun _ => 0))), (o0, .inl (ko, 1, .inr (.inl fo)))] sz)) 1 6 (va_A [(a 0, .inr (14, [.ref (a 1), .ref (a 2), .ref (a 27), .ref (a 30), .ref (a 74), .ref (a 75), .null, .int 0, .int 0])), (a 75, .inr (8, [.ref (a 76), .ref (a 77), .ref (a 78), .ref (a 79), .ref (a 80), .ref (a 81), .ref (a 82), .ref (a 83), .ref (a 84), .ref (a 85), .ref (a 86), .ref (a 87), .int 0, .int 0, .int 0, .int 0, .int 0])), (a 86, .inl ((k 86), 7, .inl (fun _ => 0))), (a 87, .inl ((k 87), 7, .inl (fun _ => 0))), (o0, .inl (ko, 1, .inr (.inl fo)))] sz) := by
  refine va_MetW (cc := cL_order) (maxL := 5) (ret := (some .int)) (hh := [(0, 10, 13, 15)]) (by decide) rfl ?_
  intro p e s m args below meth c s₁ B hml hv
  obtain ⟨rfl, hsz, hP, hK, hD0, hE, hN⟩ := hv
  have hx := B.exec
  have hb := B.bytes
  have hr := B.returns
  have hts := atoms_spec (ws := w_l_order) B.pre
  have hown : s.vm.findClass RL = some m.cls := findClass_of_methodNamed B.named
  have hlocks := B.notSynchronized
  have htab := vx_table (x := yL_order) B (hts _ List.mem_cons_self)
  subst hsz
  have hD := hD0.self (sz := s.heap.size)
  generalize hAe : va_A [(a 0, .inr (14, [.ref (a 1), .ref (a 2), .ref (a 27), .ref (a 30), .ref (a 74), .ref (a 75), .null, .int 0, .int 0])), (a 75, .inr (8, [.ref (a 76), .ref (a 77), .ref (a 78), .ref (a 79), .ref (a 80), .ref (a 81), .ref (a 82), .ref (a 83), .ref (a 84), .ref (a 85), .ref (a 86), .ref (a 87), .int 0, .int 0, .int 0, .int 0, .int 0])), (a 86, .inl ((k 86), 7, .inl (fun _ => 0))), (a 87, .inl ((k 87), 7, .inl (fun _ => 0))), (o0, .inl (ko, 1, .inr (.inl fo)))] s.heap.size = A at hD hE ⊢
  have hA : ∀ q : Nat, s.heap.size ≤ q → A q := fun q h => by rw [← hAe]; exact Or.inr h
  have hS : va_S A s.heap s.heap [] := va_S.rf
  have hP : va_P (dC, dI) vwCl [(a 0, .inr (14, [.ref (a 1), .ref (a 2), .ref (a 27), .ref (a 30), .ref (a 74), .ref (a 75), .null, .int 0, .int 0])), (a 75, .inr (8, [.ref (a 76), .ref (a 77), .ref (a 78), .ref (a 79), .ref (a 80), .ref (a 81), .ref (a 82), .ref (a 83), .ref (a 84), .ref (a 85), .ref (a 86), .ref (a 87), .int 0, .int 0, .int 0, .int 0, .int 0])), (a 86, .inl ((k 86), 7, .inl (fun _ => 0))), (a 87, .inl ((k 87), 7, .inl (fun _ => 0))), (o0, .inl (ko, 1, .inr (.inl fo)))] s.heap := hP
  have hl := lv_entry ([.ref (a 0), .int p0, .int p1, .ref o0]) (n := 5) (Nat.le_of_ble_eq_true rfl)
  rw [lg_entry_eq]
  generalize (lg_sl ([.ref (a 0), .int p0, .int p1, .ref o0]) ++ List.replicate (5 - (lg_sl ([.ref (a 0), .int p0, .int p1, .ref o0])).length) Slot.unset).toArray = ls at hl ⊢
  have hl : lv_has ls 5 [(0, .ref (a 0)), (1, .int p0), (2, .int p1), (3, .ref o0)] := hl
  refine lv_aload_n hx hb dL_order_0 rfl (lv_at hl 3 rfl) ?_
  refine lv_iconst (v := 0) hx hb dL_order_1 (by decide) ?_
  refine lv_aload_n hx hb dL_order_2 rfl (lv_at hl 0 rfl) ?_
  refine lv_iload_n hx hb dL_order_3 rfl (lv_at hl 1 rfl) ?_
  refine lv_iload_n hx hb dL_order_4 rfl (lv_at hl 2 rfl) ?_
  have hPc := hP.sub (ws' := [(a 0, .inr (14, [.ref (a 1), .ref (a 2), .ref (a 27), .ref (a 30), .ref (a 74), .ref (a 75), .null, .int 0, .int 0])), (a 75, .inr (8, [.ref (a 76), .ref (a 77), .ref (a 78), .ref (a 79), .ref (a 80), .ref (a 81), .ref (a 82), .ref (a 83), .ref (a 84), .ref (a 85), .ref (a 86), .ref (a 87), .int 0, .int 0, .int 0, .int 0, .int 0])), (a 86, .inl ((k 86), 7, .inl (fun _ => 0))), (a 87, .inl ((k 87), 7, .inl (fun _ => 0)))]) [0, 1, 2, 3] rfl
  have hDc := hD.sub (ws' := [(a 0, .inr (14, [.ref (a 1), .ref (a 2), .ref (a 27), .ref (a 30), .ref (a 74), .ref (a 75), .null, .int 0, .int 0])), (a 75, .inr (8, [.ref (a 76), .ref (a 77), .ref (a 78), .ref (a 79), .ref (a 80), .ref (a 81), .ref (a 82), .ref (a 83), .ref (a 84), .ref (a 85), .ref (a 86), .ref (a 87), .int 0, .int 0, .int 0, .int 0, .int 0])), (a 86, .inl ((k 86), 7, .inl (fun _ => 0))), (a 87, .inl ((k 87), 7, .inl (fun _ => 0)))]) [0, 1, 2, 3] (by decide) rfl
  have hKc := hK.sub (tys' := [((k 86), .int), ((k 87), .int)]) [0, 1] rfl
  have hFc := va_free (wc := [(a 0, .inr (14, [.ref (a 1), .ref (a 2), .ref (a 27), .ref (a 30), .ref (a 74), .ref (a 75), .null, .int 0, .int 0])), (a 75, .inr (8, [.ref (a 76), .ref (a 77), .ref (a 78), .ref (a 79), .ref (a 80), .ref (a 81), .ref (a 82), .ref (a 83), .ref (a 84), .ref (a 85), .ref (a 86), .ref (a 87), .int 0, .int 0, .int 0, .int 0, .int 0])), (a 86, .inl ((k 86), 7, .inl (fun _ => 0))), (a 87, .inl ((k 87), 7, .inl (fun _ => 0)))]) hD hS hA [0, 1, 2, 3] rfl
  refine vx_calli (vx_runV (As := [.int p0, .int p1]) (rest := [.int 0, .ref o0]) ⟨hx, hb, hml, hown, hts⟩ (x_order l hlt dC dI a k p0 p1 s.heap.size ) (cwV 2 hts (goodIn_app (goodIn_r _ [30, 31, 32, 6] (by decide +kernel) (by decide +kernel)) (goodIn_ca (goodIn_r _ [1, 2, 3, 4, 5, 6, 7, 8, 9, 10, 11, 12, 13, 14, 15, 16, 17, 18, 19, 20, 21, 22, 23, 24, 25, 26, 27, 28, 29] (by decide +kernel) (by decide +kernel)) (bs_in _ _))) rfl rfl rfl (by decide +kernel) ⟨(Nat.le_of_ble_eq_true rfl), (Nat.le_of_ble_eq_true rfl)⟩) ⟨fun a U g mk q => by obtain ⟨q0, q1, qP, qK, qD, qE⟩ := q; exact ⟨q0, q1, qP, va_K.moved (u := U) (U := U.calling g mk a) (Vm.Alike.refl U.vm) qK, qD, EV.blind g mk a qE⟩, va_recv hKc hPc (ci := 14) (q0 := 0) rfl rfl, fun U hU hW => ⟨rfl, by rw [hU], by rw [hU]; exact hPc, va_K.moved hW.alike hKc, hDc.weaken (fun _ _ _ _ => trivial), hE.call hS hFc hU hW⟩⟩ rfl rfl hl.1 rfl (lv_room (Nat.le_of_ble_eq_true rfl)) dL_order_5 ⟨(Nat.le_of_ble_eq_true rfl), (Nat.le_of_ble_eq_true rfl)⟩) hS (fun q _ h => hFc q h) hFc (fun q _ h => hFc q h) (fun E ce q9 u t H1 locs ht hvm _ hw3 hz1 hk1 hS hce hcv hcl => ?_) (fun r2 u t H1 locs ht hvm hw3 hB hz1 hk1 hS => ?_)
  · obtain ⟨rfl, hk4⟩ := hw3
    have hP1 : va_P (dC, dI) vwCl [] H1 := nilP
    have hD1 : va_D (va_A [(a 0, .inr (14, [.ref (a 1), .ref (a 2), .ref (a 27), .ref (a 30), .ref (a 74), .ref (a 75), .null, .int 0, .int 0])), (a 75, .inr (8, [.ref (a 76), .ref (a 77), .ref (a 78), .ref (a 79), .ref (a 80), .ref (a 81), .ref (a 82), .ref (a 83), .ref (a 84), .ref (a 85), .ref (a 86), .ref (a 87), .int 0, .int 0, .int 0, .int 0, .int 0])), (a 86, .inl ((k 86), 7, .inl (fun _ => 0))), (a 87, .inl ((k 87), 7, .inl (fun _ => 0)))] s.heap.size) [] := nilD
    obtain ⟨hP, hD⟩ := va_join (wr := [(o0, .inl (ko, 1, .inr (.inl fo)))]) (w1 := []) hP hD [0, 1, 2, 3] [4] rfl rfl (by decide) (by decide) hk1 hFc hP1 hD1
    generalize H1 = H at hP hS hce ⊢
    have hP : va_P (dC, dI) vwCl [(o0, .inl (ko, 1, .inr (.inl fo)))] H := hP
    have hD : va_D A [(o0, .inl (ko, 1, .inr (.inl fo)))] := hD
    refine vx_catch (E := "java/lang/IllegalArgumentException") hown [] ⟨0, 10, 13, 15⟩ [] (by rw [htab]; rfl) (fun z h => absurd h List.not_mem_nil) (by decide) (by decide) (ht_at hts 32 rfl) (va_Nw.use rfl (hE.2.1.2.1 _ (List.mem_of_getElem? (i := 1) rfl))) hce hcv hcl ?_
    refine lv_astore (lv' := [(4, .ref q9), (0, .ref (a 0)), (1, .int p0), (2, .int p1), (3, .ref o0)]) hx hb dL_order_13 hl (by decide) rfl (fun ls hl => ?_)
    refine lv_iconst (v := 1) hx hb dL_order_15 (by decide) ?_
    exact W.iret (v := 1) hx hb hr (fun t ht hW => ⟨⟨1, fo, rfl, (by exact ⟨hk4.symm, fun h => absurd (h.symm.trans hk4) (by decide)⟩), by rw [ht]; exact hP.sub (ws' := [(o0, .inl (ko, 1, .inr (.inl fo)))]) [0] rfl, hD.sub (ws' := [(o0, .inl (ko, 1, .inr (.inl fo)))]) [0] (by decide) rfl⟩, hS.F ht⟩) hS.2.2 dL_order_16
  · have hP1 : va_P (dC, dI) vwCl [] H1 := nilP
    have hD1 : va_D (va_A [(a 0, .inr (14, [.ref (a 1), .ref (a 2), .ref (a 27), .ref (a 30), .ref (a 74), .ref (a 75), .null, .int 0, .int 0])), (a 75, .inr (8, [.ref (a 76), .ref (a 77), .ref (a 78), .ref (a 79), .ref (a 80), .ref (a 81), .ref (a 82), .ref (a 83), .ref (a 84), .ref (a 85), .ref (a 86), .ref (a 87), .int 0, .int 0, .int 0, .int 0, .int 0])), (a 86, .inl ((k 86), 7, .inl (fun _ => 0))), (a 87, .inl ((k 87), 7, .inl (fun _ => 0)))] s.heap.size) [] := nilD
    have hK := hK
    obtain ⟨hP, hD⟩ := va_join (wr := [(o0, .inl (ko, 1, .inr (.inl fo)))]) (w1 := []) hP hD [0, 1, 2, 3] [4] rfl rfl (by decide) (by decide) hk1 hFc hP1 hD1
    generalize H1 = H at hP hS ⊢
    have hP : va_P (dC, dI) vwCl [(o0, .inl (ko, 1, .inr (.inl fo)))] H := hP
    have hD : va_D A [(o0, .inl (ko, 1, .inr (.inl fo)))] := hD
    refine lv_i2l (v := r2.toInt64) hx hb dL_order_8 rfl ?_
    refine va_last hx hb hK hP hD hS 0 2 rfl rfl (by unfold vp_in; decide) dL_order_9 (fun H locs hP hD hS => ?_)
    have hP : va_P (dC, dI) vwCl [(o0, .inl (ko, 1, .inr (.inl (vp_updL fo (0 : Int32).toNatClampNeg r2.toInt64))))] H := hP
    have hD : va_D A [(o0, .inl (ko, 1, .inr (.inl (vp_updL fo (0 : Int32).toNatClampNeg r2.toInt64))))] := hD
    refine lv_goto (tgt := 17) hx hb dL_order_10 (by decide) ?_
    refine lv_iconst (v := 0) hx hb dL_order_17 (by decide) ?_
    exact W.iret (v := 0) hx hb hr (fun t ht hW => ⟨⟨0, (vp_updL fo (0 : Int32).toNatClampNeg r2.toInt64), rfl, (by exact ⟨hw3.2.symm, fun _ => by simp only [vp_updL, sb_cl0, if_pos]; rw [hw3.1]⟩), by rw [ht]; exact hP.sub (ws' := [(o0, .inl (ko, 1, .inr (.inl (vp_updL fo (0 : Int32).toNatClampNeg r2.toInt64))))]) [0] rfl, hD.sub (ws' := [(o0, .inl (ko, 1, .inr (.inl (vp_updL fo (0 : Int32).toNatClampNeg r2.toInt64))))]) [0] (by decide) rfl⟩, hS.F ht⟩) hS.2.2 dL_order_18
def w_x_feedOne0 : List Cond := .code yX11_feedOne cX11_feedOne 3 none :: ([.fieldLink RX11 9 "SeaLand" "tape" "[I", .fieldLink RX11 47 "SeaLand" "taped" "I"] ++ bs)
set_option maxHeartbeats 4000000 in
set_option maxRecDepth 100000 in
theorem x_feedOne0 (l : Launch) (dC : Nat → ClassId) (dI : Nat → Nat → Nat) (a : Nat → Nat) (k : Nat → ClassId) (f : Nat → Int32) (n : Int32) (sz : Nat) : Met l yX11_feedOne w_x_feedOne0 ({ frames := 0, cells := 0, slots := 0, locals := 0 }) (va_Pc [.ref (a 0), .int n] (fun U => U.heap.size = sz ∧ va_P (dC, dI) vwCl [(a 0, .inr (14, [.ref (a 1), .ref (a 2), .ref (a 27), .ref (a 30), .ref (a 74), .ref (a 75), .null, .int 0, .int 0])), (a 1, .inl ((k 1), 400, .inl f))] U.heap ∧ va_K (dC, dI) vwCl [((k 1), .int)] U ∧ va_D (fun _ => True) [(a 0, .inr (14, [.ref (a 1), .ref (a 2), .ref (a 27), .ref (a 30), .ref (a 74), .ref (a 75), .null, .int 0, .int 0])), (a 1, .inl ((k 1), 400, .inl f))] ∧ EV (va_A [(a 0, .inr (14, [.ref (a 1), .ref (a 2), .ref (a 27), .ref (a 30), .ref (a 74), .ref (a 75), .null, .int 0, .int 0])), (a 1, .inl ((k 1), 400, .inl f))] sz) U U.heap)) (va_Qv (fun (u : Nat → Int32) => True) (fun (g : Nat → Int32) (t : State) => va_P (dC, dI) vwCl [(a 0, .inr (14, [.ref (a 1), .ref (a 2), .ref (a 27), .ref (a 30), .ref (a 74), .ref (a 75), .null, .int 4, .int 0])), (a 1, .inl ((k 1), 400, .inl g))] t.heap ∧ va_D (va_A [(a 0, .inr (14, [.ref (a 1), .ref (a 2), .ref (a 27), .ref (a 30), .ref (a 74), .ref (a 75), .null, .int 0, .int 0])), (a 1, .inl ((k 1), 400, .inl f))] sz) [(a 0, .inr (14, [.ref (a 1), .ref (a 2), .ref (a 27), .ref (a 30), .ref (a 74), .ref (a 75), .null, .int 4, .int 0])), (a 1, .inl ((k 1), 400, .inl g))]) (va_A [(a 0, .inr (14, [.ref (a 1), .ref (a 2), .ref (a 27), .ref (a 30), .ref (a 74), .ref (a 75), .null, .int 0, .int 0])), (a 1, .inl ((k 1), 400, .inl f))] sz)) 0 0 (va_A [(a 0, .inr (14, [.ref (a 1), .ref (a 2), .ref (a 27), .ref (a 30), .ref (a 74), .ref (a 75), .null, .int 0, .int 0])), (a 1, .inl ((k 1), 400, .inl f))] sz) := by
  refine Met.ofW (cc := cX11_feedOne) (maxL := 3) (ret := none) (by decide) rfl ?_
  intro p e s m args below meth c s₁ B hml hv
  obtain ⟨rfl, hsz, hP, hK, hD0, hE⟩ := hv
  have hx := B.exec
  have hb := B.bytes
  have hr := B.returns
  have hts := atoms_spec (ws := w_x_feedOne0) B.pre
  have hown : s.vm.findClass RX11 = some m.cls := findClass_of_methodNamed B.named
  have hlocks := B.notSynchronized
  subst hsz
  have hD := hD0.self (sz := s.heap.size)
  generalize hAe : va_A [(a 0, .inr (14, [.ref (a 1), .ref (a 2), .ref (a 27), .ref (a 30), .ref (a 74), .ref (a 75), .null, .int 0, .int 0])), (a 1, .inl ((k 1), 400, .inl f))] s.heap.size = A at hD hE ⊢
  have hA : ∀ q : Nat, s.heap.size ≤ q → A q := fun q h => by rw [← hAe]; exact Or.inr h
  have hS : va_S A s.heap s.heap [] := va_S.rf
  have hP : va_P (dC, dI) vwCl [(a 0, .inr (14, [.ref (a 1), .ref (a 2), .ref (a 27), .ref (a 30), .ref (a 74), .ref (a 75), .null, .int 0, .int 0])), (a 1, .inl ((k 1), 400, .inl f))] s.heap := hP
  have hl := lv_entry ([.ref (a 0), .int n]) (n := 3) (Nat.le_of_ble_eq_true rfl)
  rw [lg_entry_eq]
  generalize (lg_sl ([.ref (a 0), .int n]) ++ List.replicate (3 - (lg_sl ([.ref (a 0), .int n])).length) Slot.unset).toArray = ls at hl ⊢
  have hl : lv_has ls 3 [(0, .ref (a 0)), (1, .int n)] := hl
  refine lv_bipush (v := 24) hx hb dX11_feedOne_0 (by decide) ?_
  refine lv_istore_n (lv' := [(2, .int 24), (0, .ref (a 0)), (1, .int n)]) hx hb dX11_feedOne_2 rfl hl (by decide) rfl (fun ls hl => ?_)
  refine lv_iload_n hx hb dX11_feedOne_3 rfl (lv_at hl 0 rfl) ?_
  refine lv_if_lt (tgt := 39) hx hb dX11_feedOne_4 (by decide) (fun c1 => absurd c1 (by decide)) (fun c1 => ?_)
  refine lv_aload_n hx hb dX11_feedOne_7 rfl (lv_at hl 1 rfl) ?_
  refine va_get (D := (dC, dI)) (ci := 14) (v := .ref (a 1)) (C := RX11) (T := TX11) (N := 9) hx hb hts bF_X11 hown hK hP 0 rfl rfl 0 (by decide) (ht_at hts 0 rfl) (fun _ h9 => h9) rfl dX11_feedOne_8 ?_
  refine lv_aload_n hx hb dX11_feedOne_11 rfl (lv_at hl 1 rfl) ?_
  refine va_get (D := (dC, dI)) (ci := 14) (v := .int 0) (C := RX11) (T := TX11) (N := 9) hx hb hts bF_X11 hown hK hP 0 rfl rfl 7 (by decide) (ht_at hts 1 rfl) (fun _ h9 => h9) rfl dX11_feedOne_12 ?_
  refine lv_iload_n hx hb dX11_feedOne_15 rfl (lv_at hl 2 rfl) ?_
  refine lv_iload_n hx hb dX11_feedOne_16 rfl (lv_at hl 0 rfl) ?_
  refine lv_iushr hx hb dX11_feedOne_17 rfl ?_
  refine lv_topi (fun x2 ex2 => ?_)
  refine lv_sipush (v := 255) hx hb dX11_feedOne_18 (by decide) ?_
  refine lv_iand hx hb dX11_feedOne_21 ?_
  refine lv_topi (fun x3 ex3 => ?_)
  refine va_iast hx hb hK hP hD hS 1 0 rfl rfl (by unfold vp_in; decide) dX11_feedOne_22 (fun H locs hP hD hS => ?_)
  have hP : va_P (dC, dI) vwCl [(a 0, .inr (14, [.ref (a 1), .ref (a 2), .ref (a 27), .ref (a 30), .ref (a 74), .ref (a 75), .null, .int 0, .int 0])), (a 1, .inl ((k 1), 400, .inl (upd f (0 : Int32).toNatClampNeg x3)))] H := hP
  have hD : va_D A [(a 0, .inr (14, [.ref (a 1), .ref (a 2), .ref (a 27), .ref (a 30), .ref (a 74), .ref (a 75), .null, .int 0, .int 0])), (a 1, .inl ((k 1), 400, .inl (upd f (0 : Int32).toNatClampNeg x3)))] := hD
  refine lv_aload_n hx hb dX11_feedOne_23 rfl (lv_at hl 1 rfl) ?_
  refine lv_dup hx hb dX11_feedOne_24 rfl ?_
  refine va_get (D := (dC, dI)) (ci := 14) (v := .int 0) (C := RX11) (T := TX11) (N := 9) hx hb hts bF_X11 hown hK hP 0 rfl rfl 7 (by decide) (ht_at hts 1 rfl) (fun _ h9 => h9) rfl dX11_feedOne_25 ?_
  refine lv_iconst (v := 1) hx hb dX11_feedOne_28 (by decide) ?_
  refine lv_iadd hx hb dX11_feedOne_29 ?_
  refine lv_topi (fun x4 ex4 => ?_)
  obtain rfl : x4 = 1 := ex4.trans (by decide)
  refine va_put (D := (dC, dI)) (ci := 14) (v := .int 1) (ty := .int) (C := RX11) (T := TX11) (N := 9) hx hb hts bF_X11 tyX11 tyX11_ok nmX11 hown hK hP hD hS 0 rfl rfl 7 (by decide) (ht_at hts 1 rfl) (fun _ h9 => h9) rfl (by decide +kernel) rfl rfl (Nat.le_of_ble_eq_true rfl) dX11_feedOne_30 (fun H locs hP hD hS => ?_)
  have hP : va_P (dC, dI) vwCl [(a 0, .inr (14, [.ref (a 1), .ref (a 2), .ref (a 27), .ref (a 30), .ref (a 74), .ref (a 75), .null, .int 1, .int 0])), (a 1, .inl ((k 1), 400, .inl (upd f (0 : Int32).toNatClampNeg x3)))] H := hP
  have hD : va_D A [(a 0, .inr (14, [.ref (a 1), .ref (a 2), .ref (a 27), .ref (a 30), .ref (a 74), .ref (a 75), .null, .int 1, .int 0])), (a 1, .inl ((k 1), 400, .inl (upd f (0 : Int32).toNatClampNeg x3)))] := hD
  refine lv_iinc (v := 16) (lv' := [(2, .int 16), (0, .ref (a 0)), (1, .int n)]) hx hb dX11_feedOne_33 hl (k := 0) rfl (by decide) (by decide) rfl (fun ls hl => ?_)
  refine lv_goto (tgt := 3) hx hb dX11_feedOne_36 (by decide) ?_
  refine lv_iload_n hx hb dX11_feedOne_3 rfl (lv_at hl 0 rfl) ?_
  refine lv_if_lt (tgt := 39) hx hb dX11_feedOne_4 (by decide) (fun c5 => absurd c5 (by decide)) (fun c5 => ?_)
  refine lv_aload_n hx hb dX11_feedOne_7 rfl (lv_at hl 1 rfl) ?_
  refine va_get (D := (dC, dI)) (ci := 14) (v := .ref (a 1)) (C := RX11) (T := TX11) (N := 9) hx hb hts bF_X11 hown hK hP 0 rfl rfl 0 (by decide) (ht_at hts 0 rfl) (fun _ h9 => h9) rfl dX11_feedOne_8 ?_
  refine lv_aload_n hx hb dX11_feedOne_11 rfl (lv_at hl 1 rfl) ?_
  refine va_get (D := (dC, dI)) (ci := 14) (v := .int 1) (C := RX11) (T := TX11) (N := 9) hx hb hts bF_X11 hown hK hP 0 rfl rfl 7 (by decide) (ht_at hts 1 rfl) (fun _ h9 => h9) rfl dX11_feedOne_12 ?_
  refine lv_iload_n hx hb dX11_feedOne_15 rfl (lv_at hl 2 rfl) ?_
  refine lv_iload_n hx hb dX11_feedOne_16 rfl (lv_at hl 0 rfl) ?_
  refine lv_iushr hx hb dX11_feedOne_17 rfl ?_
  refine lv_topi (fun x6 ex6 => ?_)
  refine lv_sipush (v := 255) hx hb dX11_feedOne_18 (by decide) ?_
  refine lv_iand hx hb dX11_feedOne_21 ?_
  refine lv_topi (fun x7 ex7 => ?_)
  refine va_iast hx hb hK hP hD hS 1 0 rfl rfl (by unfold vp_in; decide) dX11_feedOne_22 (fun H locs hP hD hS => ?_)
  have hP : va_P (dC, dI) vwCl [(a 0, .inr (14, [.ref (a 1), .ref (a 2), .ref (a 27), .ref (a 30), .ref (a 74), .ref (a 75), .null, .int 1, .int 0])), (a 1, .inl ((k 1), 400, .inl (upd (upd f (0 : Int32).toNatClampNeg x3) (1 : Int32).toNatClampNeg x7)))] H := hP
  have hD : va_D A [(a 0, .inr (14, [.ref (a 1), .ref (a 2), .ref (a 27), .ref (a 30), .ref (a 74), .ref (a 75), .null, .int 1, .int 0])), (a 1, .inl ((k 1), 400, .inl (upd (upd f (0 : Int32).toNatClampNeg x3) (1 : Int32).toNatClampNeg x7)))] := hD
  refine lv_aload_n hx hb dX11_feedOne_23 rfl (lv_at hl 1 rfl) ?_
  refine lv_dup hx hb dX11_feedOne_24 rfl ?_
  refine va_get (D := (dC, dI)) (ci := 14) (v := .int 1) (C := RX11) (T := TX11) (N := 9) hx hb hts bF_X11 hown hK hP 0 rfl rfl 7 (by decide) (ht_at hts 1 rfl) (fun _ h9 => h9) rfl dX11_feedOne_25 ?_
  refine lv_iconst (v := 1) hx hb dX11_feedOne_28 (by decide) ?_
  refine lv_iadd hx hb dX11_feedOne_29 ?_
  refine lv_topi (fun x8 ex8 => ?_)
  obtain rfl : x8 = 2 := ex8.trans (by decide)
  refine va_put (D := (dC, dI)) (ci := 14) (v := .int 2) (ty := .int) (C := RX11) (T := TX11) (N := 9) hx hb hts bF_X11 tyX11 tyX11_ok nmX11 hown hK hP hD hS 0 rfl rfl 7 (by decide) (ht_at hts 1 rfl) (fun _ h9 => h9) rfl (by decide +kernel) rfl rfl (Nat.le_of_ble_eq_true rfl) dX11_feedOne_30 (fun H locs hP hD hS => ?_)
  have hP : va_P (dC, dI) vwCl [(a 0, .inr (14, [.ref (a 1), .ref (a 2), .ref (a 27), .ref (a 30), .ref (a 74), .ref (a 75), .null, .int 2, .int 0])), (a 1, .inl ((k 1), 400, .inl (upd (upd f (0 : Int32).toNatClampNeg x3) (1 : Int32).toNatClampNeg x7)))] H := hP
  have hD : va_D A [(a 0, .inr (14, [.ref (a 1), .ref (a 2), .ref (a 27), .ref (a 30), .ref (a 74), .ref (a 75), .null, .int 2, .int 0])), (a 1, .inl ((k 1), 400, .inl (upd (upd f (0 : Int32).toNatClampNeg x3) (1 : Int32).toNatClampNeg x7)))] := hD
  refine lv_iinc (v := 8) (lv' := [(2, .int 8), (0, .ref (a 0)), (1, .int n)]) hx hb dX11_feedOne_33 hl (k := 0) rfl (by decide) (by decide) rfl (fun ls hl => ?_)
  refine lv_goto (tgt := 3) hx hb dX11_feedOne_36 (by decide) ?_
  refine lv_iload_n hx hb dX11_feedOne_3 rfl (lv_at hl 0 rfl) ?_
  refine lv_if_lt (tgt := 39) hx hb dX11_feedOne_4 (by decide) (fun c9 => absurd c9 (by decide)) (fun c9 => ?_)
  refine lv_aload_n hx hb dX11_feedOne_7 rfl (lv_at hl 1 rfl) ?_
  refine va_get (D := (dC, dI)) (ci := 14) (v := .ref (a 1)) (C := RX11) (T := TX11) (N := 9) hx hb hts bF_X11 hown hK hP 0 rfl rfl 0 (by decide) (ht_at hts 0 rfl) (fun _ h9 => h9) rfl dX11_feedOne_8 ?_
  refine lv_aload_n hx hb dX11_feedOne_11 rfl (lv_at hl 1 rfl) ?_
  refine va_get (D := (dC, dI)) (ci := 14) (v := .int 2) (C := RX11) (T := TX11) (N := 9) hx hb hts bF_X11 hown hK hP 0 rfl rfl 7 (by decide) (ht_at hts 1 rfl) (fun _ h9 => h9) rfl dX11_feedOne_12 ?_
  refine lv_iload_n hx hb dX11_feedOne_15 rfl (lv_at hl 2 rfl) ?_
  refine lv_iload_n hx hb dX11_feedOne_16 rfl (lv_at hl 0 rfl) ?_
  refine lv_iushr hx hb dX11_feedOne_17 rfl ?_
  refine lv_topi (fun x10 ex10 => ?_)
  refine lv_sipush (v := 255) hx hb dX11_feedOne_18 (by decide) ?_
  refine lv_iand hx hb dX11_feedOne_21 ?_
  refine lv_topi (fun x11 ex11 => ?_)
  refine va_iast hx hb hK hP hD hS 1 0 rfl rfl (by unfold vp_in; decide) dX11_feedOne_22 (fun H locs hP hD hS => ?_)
  have hP : va_P (dC, dI) vwCl [(a 0, .inr (14, [.ref (a 1), .ref (a 2), .ref (a 27), .ref (a 30), .ref (a 74), .ref (a 75), .null, .int 2, .int 0])), (a 1, .inl ((k 1), 400, .inl (upd (upd (upd f (0 : Int32).toNatClampNeg x3) (1 : Int32).toNatClampNeg x7) (2 : Int32).toNatClampNeg x11)))] H := hP
  have hD : va_D A [(a 0, .inr (14, [.ref (a 1), .ref (a 2), .ref (a 27), .ref (a 30), .ref (a 74), .ref (a 75), .null, .int 2, .int 0])), (a 1, .inl ((k 1), 400, .inl (upd (upd (upd f (0 : Int32).toNatClampNeg x3) (1 : Int32).toNatClampNeg x7) (2 : Int32).toNatClampNeg x11)))] := hD
  refine lv_aload_n hx hb dX11_feedOne_23 rfl (lv_at hl 1 rfl) ?_
  refine lv_dup hx hb dX11_feedOne_24 rfl ?_
  refine va_get (D := (dC, dI)) (ci := 14) (v := .int 2) (C := RX11) (T := TX11) (N := 9) hx hb hts bF_X11 hown hK hP 0 rfl rfl 7 (by decide) (ht_at hts 1 rfl) (fun _ h9 => h9) rfl dX11_feedOne_25 ?_
  refine lv_iconst (v := 1) hx hb dX11_feedOne_28 (by decide) ?_
  refine lv_iadd hx hb dX11_feedOne_29 ?_
  refine lv_topi (fun x12 ex12 => ?_)
  obtain rfl : x12 = 3 := ex12.trans (by decide)
  refine va_put (D := (dC, dI)) (ci := 14) (v := .int 3) (ty := .int) (C := RX11) (T := TX11) (N := 9) hx hb hts bF_X11 tyX11 tyX11_ok nmX11 hown hK hP hD hS 0 rfl rfl 7 (by decide) (ht_at hts 1 rfl) (fun _ h9 => h9) rfl (by decide +kernel) rfl rfl (Nat.le_of_ble_eq_true rfl) dX11_feedOne_30 (fun H locs hP hD hS => ?_)
  have hP : va_P (dC, dI) vwCl [(a 0, .inr (14, [.ref (a 1), .ref (a 2), .ref (a 27), .ref (a 30), .ref (a 74), .ref (a 75), .null, .int 3, .int 0])), (a 1, .inl ((k 1), 400, .inl (upd (upd (upd f (0 : Int32).toNatClampNeg x3) (1 : Int32).toNatClampNeg x7) (2 : Int32).toNatClampNeg x11)))] H := hP
  have hD : va_D A [(a 0, .inr (14, [.ref (a 1), .ref (a 2), .ref (a 27), .ref (a 30), .ref (a 74), .ref (a 75), .null, .int 3, .int 0])), (a 1, .inl ((k 1), 400, .inl (upd (upd (upd f (0 : Int32).toNatClampNeg x3) (1 : Int32).toNatClampNeg x7) (2 : Int32).toNatClampNeg x11)))] := hD
  refine lv_iinc (v := 0) (lv' := [(2, .int 0), (0, .ref (a 0)), (1, .int n)]) hx hb dX11_feedOne_33 hl (k := 0) rfl (by decide) (by decide) rfl (fun ls hl => ?_)
  refine lv_goto (tgt := 3) hx hb dX11_feedOne_36 (by decide) ?_
  refine lv_iload_n hx hb dX11_feedOne_3 rfl (lv_at hl 0 rfl) ?_
  refine lv_if_lt (tgt := 39) hx hb dX11_feedOne_4 (by decide) (fun c13 => absurd c13 (by decide)) (fun c13 => ?_)
  refine lv_aload_n hx hb dX11_feedOne_7 rfl (lv_at hl 1 rfl) ?_
  refine va_get (D := (dC, dI)) (ci := 14) (v := .ref (a 1)) (C := RX11) (T := TX11) (N := 9) hx hb hts bF_X11 hown hK hP 0 rfl rfl 0 (by decide) (ht_at hts 0 rfl) (fun _ h9 => h9) rfl dX11_feedOne_8 ?_
  refine lv_aload_n hx hb dX11_feedOne_11 rfl (lv_at hl 1 rfl) ?_
  refine va_get (D := (dC, dI)) (ci := 14) (v := .int 3) (C := RX11) (T := TX11) (N := 9) hx hb hts bF_X11 hown hK hP 0 rfl rfl 7 (by decide) (ht_at hts 1 rfl) (fun _ h9 => h9) rfl dX11_feedOne_12 ?_
  refine lv_iload_n hx hb dX11_feedOne_15 rfl (lv_at hl 2 rfl) ?_
  refine lv_iload_n hx hb dX11_feedOne_16 rfl (lv_at hl 0 rfl) ?_
  refine lv_iushr hx hb dX11_feedOne_17 rfl ?_
  refine lv_topi (fun x14 ex14 => ?_)
  refine lv_sipush (v := 255) hx hb dX11_feedOne_18 (by decide) ?_
  refine lv_iand hx hb dX11_feedOne_21 ?_
  refine lv_topi (fun x15 ex15 => ?_)
  refine va_iast hx hb hK hP hD hS 1 0 rfl rfl (by unfold vp_in; decide) dX11_feedOne_22 (fun H locs hP hD hS => ?_)
  have hP : va_P (dC, dI) vwCl [(a 0, .inr (14, [.ref (a 1), .ref (a 2), .ref (a 27), .ref (a 30), .ref (a 74), .ref (a 75), .null, .int 3, .int 0])), (a 1, .inl ((k 1), 400, .inl (upd (upd (upd (upd f (0 : Int32).toNatClampNeg x3) (1 : Int32).toNatClampNeg x7) (2 : Int32).toNatClampNeg x11) (3 : Int32).toNatClampNeg x15)))] H := hP
  have hD : va_D A [(a 0, .inr (14, [.ref (a 1), .ref (a 2), .ref (a 27), .ref (a 30), .ref (a 74), .ref (a 75), .null, .int 3, .int 0])), (a 1, .inl ((k 1), 400, .inl (upd (upd (upd (upd f (0 : Int32).toNatClampNeg x3) (1 : Int32).toNatClampNeg x7) (2 : Int32).toNatClampNeg x11) (3 : Int32).toNatClampNeg x15)))] := hD
  refine lv_aload_n hx hb dX11_feedOne_23 rfl (lv_at hl 1 rfl) ?_
  refine lv_dup hx hb dX11_feedOne_24 rfl ?_
  refine va_get (D := (dC, dI)) (ci := 14) (v := .int 3) (C := RX11) (T := TX11) (N := 9) hx hb hts bF_X11 hown hK hP 0 rfl rfl 7 (by decide) (ht_at hts 1 rfl) (fun _ h9 => h9) rfl dX11_feedOne_25 ?_
  refine lv_iconst (v := 1) hx hb dX11_feedOne_28 (by decide) ?_
  refine lv_iadd hx hb dX11_feedOne_29 ?_
  refine lv_topi (fun x16 ex16 => ?_)
  obtain rfl : x16 = 4 := ex16.trans (by decide)
  refine va_put (D := (dC, dI)) (ci := 14) (v := .int 4) (ty := .int) (C := RX11) (T := TX11) (N := 9) hx hb hts bF_X11 tyX11 tyX11_ok nmX11 hown hK hP hD hS 0 rfl rfl 7 (by decide) (ht_at hts 1 rfl) (fun _ h9 => h9) rfl (by decide +kernel) rfl rfl (Nat.le_of_ble_eq_true rfl) dX11_feedOne_30 (fun H locs hP hD hS => ?_)
  have hP : va_P (dC, dI) vwCl [(a 0, .inr (14, [.ref (a 1), .ref (a 2), .ref (a 27), .ref (a 30), .ref (a 74), .ref (a 75), .null, .int 4, .int 0])), (a 1, .inl ((k 1), 400, .inl (upd (upd (upd (upd f (0 : Int32).toNatClampNeg x3) (1 : Int32).toNatClampNeg x7) (2 : Int32).toNatClampNeg x11) (3 : Int32).toNatClampNeg x15)))] H := hP
  have hD : va_D A [(a 0, .inr (14, [.ref (a 1), .ref (a 2), .ref (a 27), .ref (a 30), .ref (a 74), .ref (a 75), .null, .int 4, .int 0])), (a 1, .inl ((k 1), 400, .inl (upd (upd (upd (upd f (0 : Int32).toNatClampNeg x3) (1 : Int32).toNatClampNeg x7) (2 : Int32).toNatClampNeg x11) (3 : Int32).toNatClampNeg x15)))] := hD
  refine lv_iinc (v := (-8)) (lv' := [(2, .int (-8)), (0, .ref (a 0)), (1, .int n)]) hx hb dX11_feedOne_33 hl (k := 0) rfl (by decide) (by decide) rfl (fun ls hl => ?_)
  refine lv_goto (tgt := 3) hx hb dX11_feedOne_36 (by decide) ?_
  refine lv_iload_n hx hb dX11_feedOne_3 rfl (lv_at hl 0 rfl) ?_
  refine lv_if_lt (tgt := 39) hx hb dX11_feedOne_4 (by decide) (fun c17 => ?_) (fun c17 => absurd c17 (by decide))
  exact W.vret hx hb hr (fun t ht hW => ⟨⟨(upd (upd (upd (upd f (0 : Int32).toNatClampNeg x3) (1 : Int32).toNatClampNeg x7) (2 : Int32).toNatClampNeg x11) (3 : Int32).toNatClampNeg x15), rfl, (by trivial), by rw [ht]; exact hP.sub (ws' := [(a 0, .inr (14, [.ref (a 1), .ref (a 2), .ref (a 27), .ref (a 30), .ref (a 74), .ref (a 75), .null, .int 4, .int 0])), (a 1, .inl ((k 1), 400, .inl (upd (upd (upd (upd f (0 : Int32).toNatClampNeg x3) (1 : Int32).toNatClampNeg x7) (2 : Int32).toNatClampNeg x11) (3 : Int32).toNatClampNeg x15)))]) [0, 1] rfl, hD.sub (ws' := [(a 0, .inr (14, [.ref (a 1), .ref (a 2), .ref (a 27), .ref (a 30), .ref (a 74), .ref (a 75), .null, .int 4, .int 0])), (a 1, .inl ((k 1), 400, .inl (upd (upd (upd (upd f (0 : Int32).toNatClampNeg x3) (1 : Int32).toNatClampNeg x7) (2 : Int32).toNatClampNeg x11) (3 : Int32).toNatClampNeg x15)))]) [0, 1] (by decide) rfl⟩, hS.F ht⟩) hS.2.2 dX11_feedOne_39
def w_x_feedOne4 : List Cond := .code yX11_feedOne cX11_feedOne 3 none :: ([.fieldLink RX11 9 "SeaLand" "tape" "[I", .fieldLink RX11 47 "SeaLand" "taped" "I"] ++ bs)
set_option maxHeartbeats 4000000 in
set_option maxRecDepth 100000 in
theorem x_feedOne4 (l : Launch) (dC : Nat → ClassId) (dI : Nat → Nat → Nat) (a : Nat → Nat) (k : Nat → ClassId) (f : Nat → Int32) (n : Int32) (sz : Nat) : Met l yX11_feedOne w_x_feedOne4 ({ frames := 0, cells := 0, slots := 0, locals := 0 }) (va_Pc [.ref (a 0), .int n] (fun U => U.heap.size = sz ∧ va_P (dC, dI) vwCl [(a 0, .inr (14, [.ref (a 1), .ref (a 2), .ref (a 27), .ref (a 30), .ref (a 74), .ref (a 75), .null, .int 4, .int 0])), (a 1, .inl ((k 1), 400, .inl f))] U.heap ∧ va_K (dC, dI) vwCl [((k 1), .int)] U ∧ va_D (fun _ => True) [(a 0, .inr (14, [.ref (a 1), .ref (a 2), .ref (a 27), .ref (a 30), .ref (a 74), .ref (a 75), .null, .int 4, .int 0])), (a 1, .inl ((k 1), 400, .inl f))] ∧ EV (va_A [(a 0, .inr (14, [.ref (a 1), .ref (a 2), .ref (a 27), .ref (a 30), .ref (a 74), .ref (a 75), .null, .int 4, .int 0])), (a 1, .inl ((k 1), 400, .inl f))] sz) U U.heap)) (va_Qv (fun (u : Nat → Int32) => True) (fun (g : Nat → Int32) (t : State) => va_P (dC, dI) vwCl [(a 0, .inr (14, [.ref (a 1), .ref (a 2), .ref (a 27), .ref (a 30), .ref (a 74), .ref (a 75), .null, .int 8, .int 0])), (a 1, .inl ((k 1), 400, .inl g))] t.heap ∧ va_D (va_A [(a 0, .inr (14, [.ref (a 1), .ref (a 2), .ref (a 27), .ref (a 30), .ref (a 74), .ref (a 75), .null, .int 4, .int 0])), (a 1, .inl ((k 1), 400, .inl f))] sz) [(a 0, .inr (14, [.ref (a 1), .ref (a 2), .ref (a 27), .ref (a 30), .ref (a 74), .ref (a 75), .null, .int 8, .int 0])), (a 1, .inl ((k 1), 400, .inl g))]) (va_A [(a 0, .inr (14, [.ref (a 1), .ref (a 2), .ref (a 27), .ref (a 30), .ref (a 74), .ref (a 75), .null, .int 4, .int 0])), (a 1, .inl ((k 1), 400, .inl f))] sz)) 0 0 (va_A [(a 0, .inr (14, [.ref (a 1), .ref (a 2), .ref (a 27), .ref (a 30), .ref (a 74), .ref (a 75), .null, .int 4, .int 0])), (a 1, .inl ((k 1), 400, .inl f))] sz) := by
  refine Met.ofW (cc := cX11_feedOne) (maxL := 3) (ret := none) (by decide) rfl ?_
  intro p e s m args below meth c s₁ B hml hv
  obtain ⟨rfl, hsz, hP, hK, hD0, hE⟩ := hv
  have hx := B.exec
  have hb := B.bytes
  have hr := B.returns
  have hts := atoms_spec (ws := w_x_feedOne4) B.pre
  have hown : s.vm.findClass RX11 = some m.cls := findClass_of_methodNamed B.named
  have hlocks := B.notSynchronized
  subst hsz
  have hD := hD0.self (sz := s.heap.size)
  generalize hAe : va_A [(a 0, .inr (14, [.ref (a 1), .ref (a 2), .ref (a 27), .ref (a 30), .ref (a 74), .ref (a 75), .null, .int 4, .int 0])), (a 1, .inl ((k 1), 400, .inl f))] s.heap.size = A at hD hE ⊢
  have hA : ∀ q : Nat, s.heap.size ≤ q → A q := fun q h => by rw [← hAe]; exact Or.inr h
  have hS : va_S A s.heap s.heap [] := va_S.rf
  have hP : va_P (dC, dI) vwCl [(a 0, .inr (14, [.ref (a 1), .ref (a 2), .ref (a 27), .ref (a 30), .ref (a 74), .ref (a 75), .null, .int 4, .int 0])), (a 1, .inl ((k 1), 400, .inl f))] s.heap := hP
  have hl := lv_entry ([.ref (a 0), .int n]) (n := 3) (Nat.le_of_ble_eq_true rfl)
  rw [lg_entry_eq]
  generalize (lg_sl ([.ref (a 0), .int n]) ++ List.replicate (3 - (lg_sl ([.ref (a 0), .int n])).length) Slot.unset).toArray = ls at hl ⊢
  have hl : lv_has ls 3 [(0, .ref (a 0)), (1, .int n)] := hl
  refine lv_bipush (v := 24) hx hb dX11_feedOne_0 (by decide) ?_
  refine lv_istore_n (lv' := [(2, .int 24), (0, .ref (a 0)), (1, .int n)]) hx hb dX11_feedOne_2 rfl hl (by decide) rfl (fun ls hl => ?_)
  refine lv_iload_n hx hb dX11_feedOne_3 rfl (lv_at hl 0 rfl) ?_
  refine lv_if_lt (tgt := 39) hx hb dX11_feedOne_4 (by decide) (fun c1 => absurd c1 (by decide)) (fun c1 => ?_)
  refine lv_aload_n hx hb dX11_feedOne_7 rfl (lv_at hl 1 rfl) ?_
  refine va_get (D := (dC, dI)) (ci := 14) (v := .ref (a 1)) (C := RX11) (T := TX11) (N := 9) hx hb hts bF_X11 hown hK hP 0 rfl rfl 0 (by decide) (ht_at hts 0 rfl) (fun _ h9 => h9) rfl dX11_feedOne_8 ?_
  refine lv_aload_n hx hb dX11_feedOne_11 rfl (lv_at hl 1 rfl) ?_
  refine va_get (D := (dC, dI)) (ci := 14) (v := .int 4) (C := RX11) (T := TX11) (N := 9) hx hb hts bF_X11 hown hK hP 0 rfl rfl 7 (by decide) (ht_at hts 1 rfl) (fun _ h9 => h9) rfl dX11_feedOne_12 ?_
  refine lv_iload_n hx hb dX11_feedOne_15 rfl (lv_at hl 2 rfl) ?_
  refine lv_iload_n hx hb dX11_feedOne_16 rfl (lv_at hl 0 rfl) ?_
  refine lv_iushr hx hb dX11_feedOne_17 rfl ?_
  refine lv_topi (fun x2 ex2 => ?_)
  refine lv_sipush (v := 255) hx hb dX11_feedOne_18 (by decide) ?_
  refine lv_iand hx hb dX11_feedOne_21 ?_
  refine lv_topi (fun x3 ex3 => ?_)
  refine va_iast hx hb hK hP hD hS 1 0 rfl rfl (by unfold vp_in; decide) dX11_feedOne_22 (fun H locs hP hD hS => ?_)
  have hP : va_P (dC, dI) vwCl [(a 0, .inr (14, [.ref (a 1), .ref (a 2), .ref (a 27), .ref (a 30), .ref (a 74), .ref (a 75), .null, .int 4, .int 0])), (a 1, .inl ((k 1), 400, .inl (upd f (4 : Int32).toNatClampNeg x3)))] H := hP
  have hD : va_D A [(a 0, .inr (14, [.ref (a 1), .ref (a 2), .ref (a 27), .ref (a 30), .ref (a 74), .ref (a 75), .null, .int 4, .int 0])), (a 1, .inl ((k 1), 400, .inl (upd f (4 : Int32).toNatClampNeg x3)))] := hD
  refine lv_aload_n hx hb dX11_feedOne_23 rfl (lv_at hl 1 rfl) ?_
  refine lv_dup hx hb dX11_feedOne_24 rfl ?_
  refine va_get (D := (dC, dI)) (ci := 14) (v := .int 4) (C := RX11) (T := TX11) (N := 9) hx hb hts bF_X11 hown hK hP 0 rfl rfl 7 (by decide) (ht_at hts 1 rfl) (fun _ h9 => h9) rfl dX11_feedOne_25 ?_
  refine lv_iconst (v := 1) hx hb dX11_feedOne_28 (by decide) ?_
  refine lv_iadd hx hb dX11_feedOne_29 ?_
  refine lv_topi (fun x4 ex4 => ?_)
  obtain rfl : x4 = 5 := ex4.trans (by decide)
  refine va_put (D := (dC, dI)) (ci := 14) (v := .int 5) (ty := .int) (C := RX11) (T := TX11) (N := 9) hx hb hts bF_X11 tyX11 tyX11_ok nmX11 hown hK hP hD hS 0 rfl rfl 7 (by decide) (ht_at hts 1 rfl) (fun _ h9 => h9) rfl (by decide +kernel) rfl rfl (Nat.le_of_ble_eq_true rfl) dX11_feedOne_30 (fun H locs hP hD hS => ?_)
  have hP : va_P (dC, dI) vwCl [(a 0, .inr (14, [.ref (a 1), .ref (a 2), .ref (a 27), .ref (a 30), .ref (a 74), .ref (a 75), .null, .int 5, .int 0])), (a 1, .inl ((k 1), 400, .inl (upd f (4 : Int32).toNatClampNeg x3)))] H := hP
  have hD : va_D A [(a 0, .inr (14, [.ref (a 1), .ref (a 2), .ref (a 27), .ref (a 30), .ref (a 74), .ref (a 75), .null, .int 5, .int 0])), (a 1, .inl ((k 1), 400, .inl (upd f (4 : Int32).toNatClampNeg x3)))] := hD
  refine lv_iinc (v := 16) (lv' := [(2, .int 16), (0, .ref (a 0)), (1, .int n)]) hx hb dX11_feedOne_33 hl (k := 0) rfl (by decide) (by decide) rfl (fun ls hl => ?_)
  refine lv_goto (tgt := 3) hx hb dX11_feedOne_36 (by decide) ?_
  refine lv_iload_n hx hb dX11_feedOne_3 rfl (lv_at hl 0 rfl) ?_
  refine lv_if_lt (tgt := 39) hx hb dX11_feedOne_4 (by decide) (fun c5 => absurd c5 (by decide)) (fun c5 => ?_)
  refine lv_aload_n hx hb dX11_feedOne_7 rfl (lv_at hl 1 rfl) ?_
  refine va_get (D := (dC, dI)) (ci := 14) (v := .ref (a 1)) (C := RX11) (T := TX11) (N := 9) hx hb hts bF_X11 hown hK hP 0 rfl rfl 0 (by decide) (ht_at hts 0 rfl) (fun _ h9 => h9) rfl dX11_feedOne_8 ?_
  refine lv_aload_n hx hb dX11_feedOne_11 rfl (lv_at hl 1 rfl) ?_
  refine va_get (D := (dC, dI)) (ci := 14) (v := .int 5) (C := RX11) (T := TX11) (N := 9) hx hb hts bF_X11 hown hK hP 0 rfl rfl 7 (by decide) (ht_at hts 1 rfl) (fun _ h9 => h9) rfl dX11_feedOne_12 ?_
  refine lv_iload_n hx hb dX11_feedOne_15 rfl (lv_at hl 2 rfl) ?_
  refine lv_iload_n hx hb dX11_feedOne_16 rfl (lv_at hl 0 rfl) ?_
  refine lv_iushr hx hb dX11_feedOne_17 rfl ?_
  refine lv_topi (fun x6 ex6 => ?_)
  refine lv_sipush (v := 255) hx hb dX11_feedOne_18 (by decide) ?_
  refine lv_iand hx hb dX11_feedOne_21 ?_
  refine lv_topi (fun x7 ex7 => ?_)
  refine va_iast hx hb hK hP hD hS 1 0 rfl rfl (by unfold vp_in; decide) dX11_feedOne_22 (fun H locs hP hD hS => ?_)
  have hP : va_P (dC, dI) vwCl [(a 0, .inr (14, [.ref (a 1), .ref (a 2), .ref (a 27), .ref (a 30), .ref (a 74), .ref (a 75), .null, .int 5, .int 0])), (a 1, .inl ((k 1), 400, .inl (upd (upd f (4 : Int32).toNatClampNeg x3) (5 : Int32).toNatClampNeg x7)))] H := hP
  have hD : va_D A [(a 0, .inr (14, [.ref (a 1), .ref (a 2), .ref (a 27), .ref (a 30), .ref (a 74), .ref (a 75), .null, .int 5, .int 0])), (a 1, .inl ((k 1), 400, .inl (upd (upd f (4 : Int32).toNatClampNeg x3) (5 : Int32).toNatClampNeg x7)))] := hD
  refine lv_aload_n hx hb dX11_feedOne_23 rfl (lv_at hl 1 rfl) ?_
  refine lv_dup hx hb dX11_feedOne_24 rfl ?_
  refine va_get (D := (dC, dI)) (ci := 14) (v := .int 5) (C := RX11) (T := TX11) (N := 9) hx hb hts bF_X11 hown hK hP 0 rfl rfl 7 (by decide) (ht_at hts 1 rfl) (fun _ h9 => h9) rfl dX11_feedOne_25 ?_
  refine lv_iconst (v := 1) hx hb dX11_feedOne_28 (by decide) ?_
  refine lv_iadd hx hb dX11_feedOne_29 ?_
  refine lv_topi (fun x8 ex8 => ?_)
  obtain rfl : x8 = 6 := ex8.trans (by decide)
  refine va_put (D := (dC, dI)) (ci := 14) (v := .int 6) (ty := .int) (C := RX11) (T := TX11) (N := 9) hx hb hts bF_X11 tyX11 tyX11_ok nmX11 hown hK hP hD hS 0 rfl rfl 7 (by decide) (ht_at hts 1 rfl) (fun _ h9 => h9) rfl (by decide +kernel) rfl rfl (Nat.le_of_ble_eq_true rfl) dX11_feedOne_30 (fun H locs hP hD hS => ?_)
  have hP : va_P (dC, dI) vwCl [(a 0, .inr (14, [.ref (a 1), .ref (a 2), .ref (a 27), .ref (a 30), .ref (a 74), .ref (a 75), .null, .int 6, .int 0])), (a 1, .inl ((k 1), 400, .inl (upd (upd f (4 : Int32).toNatClampNeg x3) (5 : Int32).toNatClampNeg x7)))] H := hP
  have hD : va_D A [(a 0, .inr (14, [.ref (a 1), .ref (a 2), .ref (a 27), .ref (a 30), .ref (a 74), .ref (a 75), .null, .int 6, .int 0])), (a 1, .inl ((k 1), 400, .inl (upd (upd f (4 : Int32).toNatClampNeg x3) (5 : Int32).toNatClampNeg x7)))] := hD
  refine lv_iinc (v := 8) (lv' := [(2, .int 8), (0, .ref (a 0)), (1, .int n)]) hx hb dX11_feedOne_33 hl (k := 0) rfl (by decide) (by decide) rfl (fun ls hl => ?_)
  refine lv_goto (tgt := 3) hx hb dX11_feedOne_36 (by decide) ?_
  refine lv_iload_n hx hb dX11_feedOne_3 rfl (lv_at hl 0 rfl) ?_
  refine lv_if_lt (tgt := 39) hx hb dX11_feedOne_4 (by decide) (fun c9 => absurd c9 (by decide)) (fun c9 => ?_)
  refine lv_aload_n hx hb dX11_feedOne_7 rfl (lv_at hl 1 rfl) ?_
  refine va_get (D := (dC, dI)) (ci := 14) (v := .ref (a 1)) (C := RX11) (T := TX11) (N := 9) hx hb hts bF_X11 hown hK hP 0 rfl rfl 0 (by decide) (ht_at hts 0 rfl) (fun _ h9 => h9) rfl dX11_feedOne_8 ?_
  refine lv_aload_n hx hb dX11_feedOne_11 rfl (lv_at hl 1 rfl) ?_
  refine va_get (D := (dC, dI)) (ci := 14) (v := .int 6) (C := RX11) (T := TX11) (N := 9) hx hb hts bF_X11 hown hK hP 0 rfl rfl 7 (by decide) (ht_at hts 1 rfl) (fun _ h9 => h9) rfl dX11_feedOne_12 ?_
  refine lv_iload_n hx hb dX11_feedOne_15 rfl (lv_at hl 2 rfl) ?_
  refine lv_iload_n hx hb dX11_feedOne_16 rfl (lv_at hl 0 rfl) ?_
  refine lv_iushr hx hb dX11_feedOne_17 rfl ?_
  refine lv_topi (fun x10 ex10 => ?_)
  refine lv_sipush (v := 255) hx hb dX11_feedOne_18 (by decide) ?_
  refine lv_iand hx hb dX11_feedOne_21 ?_
  refine lv_topi (fun x11 ex11 => ?_)
  refine va_iast hx hb hK hP hD hS 1 0 rfl rfl (by unfold vp_in; decide) dX11_feedOne_22 (fun H locs hP hD hS => ?_)
  have hP : va_P (dC, dI) vwCl [(a 0, .inr (14, [.ref (a 1), .ref (a 2), .ref (a 27), .ref (a 30), .ref (a 74), .ref (a 75), .null, .int 6, .int 0])), (a 1, .inl ((k 1), 400, .inl (upd (upd (upd f (4 : Int32).toNatClampNeg x3) (5 : Int32).toNatClampNeg x7) (6 : Int32).toNatClampNeg x11)))] H := hP
  have hD : va_D A [(a 0, .inr (14, [.ref (a 1), .ref (a 2), .ref (a 27), .ref (a 30), .ref (a 74), .ref (a 75), .null, .int 6, .int 0])), (a 1, .inl ((k 1), 400, .inl (upd (upd (upd f (4 : Int32).toNatClampNeg x3) (5 : Int32).toNatClampNeg x7) (6 : Int32).toNatClampNeg x11)))] := hD
  refine lv_aload_n hx hb dX11_feedOne_23 rfl (lv_at hl 1 rfl) ?_
  refine lv_dup hx hb dX11_feedOne_24 rfl ?_
  refine va_get (D := (dC, dI)) (ci := 14) (v := .int 6) (C := RX11) (T := TX11) (N := 9) hx hb hts bF_X11 hown hK hP 0 rfl rfl 7 (by decide) (ht_at hts 1 rfl) (fun _ h9 => h9) rfl dX11_feedOne_25 ?_
  refine lv_iconst (v := 1) hx hb dX11_feedOne_28 (by decide) ?_
  refine lv_iadd hx hb dX11_feedOne_29 ?_
  refine lv_topi (fun x12 ex12 => ?_)
  obtain rfl : x12 = 7 := ex12.trans (by decide)
  refine va_put (D := (dC, dI)) (ci := 14) (v := .int 7) (ty := .int) (C := RX11) (T := TX11) (N := 9) hx hb hts bF_X11 tyX11 tyX11_ok nmX11 hown hK hP hD hS 0 rfl rfl 7 (by decide) (ht_at hts 1 rfl) (fun _ h9 => h9) rfl (by decide +kernel) rfl rfl (Nat.le_of_ble_eq_true rfl) dX11_feedOne_30 (fun H locs hP hD hS => ?_)
  have hP : va_P (dC, dI) vwCl [(a 0, .inr (14, [.ref (a 1), .ref (a 2), .ref (a 27), .ref (a 30), .ref (a 74), .ref (a 75), .null, .int 7, .int 0])), (a 1, .inl ((k 1), 400, .inl (upd (upd (upd f (4 : Int32).toNatClampNeg x3) (5 : Int32).toNatClampNeg x7) (6 : Int32).toNatClampNeg x11)))] H := hP
  have hD : va_D A [(a 0, .inr (14, [.ref (a 1), .ref (a 2), .ref (a 27), .ref (a 30), .ref (a 74), .ref (a 75), .null, .int 7, .int 0])), (a 1, .inl ((k 1), 400, .inl (upd (upd (upd f (4 : Int32).toNatClampNeg x3) (5 : Int32).toNatClampNeg x7) (6 : Int32).toNatClampNeg x11)))] := hD
  refine lv_iinc (v := 0) (lv' := [(2, .int 0), (0, .ref (a 0)), (1, .int n)]) hx hb dX11_feedOne_33 hl (k := 0) rfl (by decide) (by decide) rfl (fun ls hl => ?_)
  refine lv_goto (tgt := 3) hx hb dX11_feedOne_36 (by decide) ?_
  refine lv_iload_n hx hb dX11_feedOne_3 rfl (lv_at hl 0 rfl) ?_
  refine lv_if_lt (tgt := 39) hx hb dX11_feedOne_4 (by decide) (fun c13 => absurd c13 (by decide)) (fun c13 => ?_)
  refine lv_aload_n hx hb dX11_feedOne_7 rfl (lv_at hl 1 rfl) ?_
  refine va_get (D := (dC, dI)) (ci := 14) (v := .ref (a 1)) (C := RX11) (T := TX11) (N := 9) hx hb hts bF_X11 hown hK hP 0 rfl rfl 0 (by decide) (ht_at hts 0 rfl) (fun _ h9 => h9) rfl dX11_feedOne_8 ?_
  refine lv_aload_n hx hb dX11_feedOne_11 rfl (lv_at hl 1 rfl) ?_
  refine va_get (D := (dC, dI)) (ci := 14) (v := .int 7) (C := RX11) (T := TX11) (N := 9) hx hb hts bF_X11 hown hK hP 0 rfl rfl 7 (by decide) (ht_at hts 1 rfl) (fun _ h9 => h9) rfl dX11_feedOne_12 ?_
  refine lv_iload_n hx hb dX11_feedOne_15 rfl (lv_at hl 2 rfl) ?_
  refine lv_iload_n hx hb dX11_feedOne_16 rfl (lv_at hl 0 rfl) ?_
  refine lv_iushr hx hb dX11_feedOne_17 rfl ?_
  refine lv_topi (fun x14 ex14 => ?_)
  refine lv_sipush (v := 255) hx hb dX11_feedOne_18 (by decide) ?_
  refine lv_iand hx hb dX11_feedOne_21 ?_
  refine lv_topi (fun x15 ex15 => ?_)
  refine va_iast hx hb hK hP hD hS 1 0 rfl rfl (by unfold vp_in; decide) dX11_feedOne_22 (fun H locs hP hD hS => ?_)
  have hP : va_P (dC, dI) vwCl [(a 0, .inr (14, [.ref (a 1), .ref (a 2), .ref (a 27), .ref (a 30), .ref (a 74), .ref (a 75), .null, .int 7, .int 0])), (a 1, .inl ((k 1), 400, .inl (upd (upd (upd (upd f (4 : Int32).toNatClampNeg x3) (5 : Int32).toNatClampNeg x7) (6 : Int32).toNatClampNeg x11) (7 : Int32).toNatClampNeg x15)))] H := hP
  have hD : va_D A [(a 0, .inr (14, [.ref (a 1), .ref (a 2), .ref (a 27), .ref (a 30), .ref (a 74), .ref (a 75), .null, .int 7, .int 0])), (a 1, .inl ((k 1), 400, .inl (upd (upd (upd (upd f (4 : Int32).toNatClampNeg x3) (5 : Int32).toNatClampNeg x7) (6 : Int32).toNatClampNeg x11) (7 : Int32).toNatClampNeg x15)))] := hD
  refine lv_aload_n hx hb dX11_feedOne_23 rfl (lv_at hl 1 rfl) ?_
  refine lv_dup hx hb dX11_feedOne_24 rfl ?_
  refine va_get (D := (dC, dI)) (ci := 14) (v := .int 7) (C := RX11) (T := TX11) (N := 9) hx hb hts bF_X11 hown hK hP 0 rfl rfl 7 (by decide) (ht_at hts 1 rfl) (fun _ h9 => h9) rfl dX11_feedOne_25 ?_
  refine lv_iconst (v := 1) hx hb dX11_feedOne_28 (by decide) ?_
  refine lv_iadd hx hb dX11_feedOne_29 ?_
  refine lv_topi (fun x16 ex16 => ?_)
  obtain rfl : x16 = 8 := ex16.trans (by decide)
  refine va_put (D := (dC, dI)) (ci := 14) (v := .int 8) (ty := .int) (C := RX11) (T := TX11) (N := 9) hx hb hts bF_X11 tyX11 tyX11_ok nmX11 hown hK hP hD hS 0 rfl rfl 7 (by decide) (ht_at hts 1 rfl) (fun _ h9 => h9) rfl (by decide +kernel) rfl rfl (Nat.le_of_ble_eq_true rfl) dX11_feedOne_30 (fun H locs hP hD hS => ?_)
  have hP : va_P (dC, dI) vwCl [(a 0, .inr (14, [.ref (a 1), .ref (a 2), .ref (a 27), .ref (a 30), .ref (a 74), .ref (a 75), .null, .int 8, .int 0])), (a 1, .inl ((k 1), 400, .inl (upd (upd (upd (upd f (4 : Int32).toNatClampNeg x3) (5 : Int32).toNatClampNeg x7) (6 : Int32).toNatClampNeg x11) (7 : Int32).toNatClampNeg x15)))] H := hP
  have hD : va_D A [(a 0, .inr (14, [.ref (a 1), .ref (a 2), .ref (a 27), .ref (a 30), .ref (a 74), .ref (a 75), .null, .int 8, .int 0])), (a 1, .inl ((k 1), 400, .inl (upd (upd (upd (upd f (4 : Int32).toNatClampNeg x3) (5 : Int32).toNatClampNeg x7) (6 : Int32).toNatClampNeg x11) (7 : Int32).toNatClampNeg x15)))] := hD
  refine lv_iinc (v := (-8)) (lv' := [(2, .int (-8)), (0, .ref (a 0)), (1, .int n)]) hx hb dX11_feedOne_33 hl (k := 0) rfl (by decide) (by decide) rfl (fun ls hl => ?_)
  refine lv_goto (tgt := 3) hx hb dX11_feedOne_36 (by decide) ?_
  refine lv_iload_n hx hb dX11_feedOne_3 rfl (lv_at hl 0 rfl) ?_
  refine lv_if_lt (tgt := 39) hx hb dX11_feedOne_4 (by decide) (fun c17 => ?_) (fun c17 => absurd c17 (by decide))
  exact W.vret hx hb hr (fun t ht hW => ⟨⟨(upd (upd (upd (upd f (4 : Int32).toNatClampNeg x3) (5 : Int32).toNatClampNeg x7) (6 : Int32).toNatClampNeg x11) (7 : Int32).toNatClampNeg x15), rfl, (by trivial), by rw [ht]; exact hP.sub (ws' := [(a 0, .inr (14, [.ref (a 1), .ref (a 2), .ref (a 27), .ref (a 30), .ref (a 74), .ref (a 75), .null, .int 8, .int 0])), (a 1, .inl ((k 1), 400, .inl (upd (upd (upd (upd f (4 : Int32).toNatClampNeg x3) (5 : Int32).toNatClampNeg x7) (6 : Int32).toNatClampNeg x11) (7 : Int32).toNatClampNeg x15)))]) [0, 1] rfl, hD.sub (ws' := [(a 0, .inr (14, [.ref (a 1), .ref (a 2), .ref (a 27), .ref (a 30), .ref (a 74), .ref (a 75), .null, .int 8, .int 0])), (a 1, .inl ((k 1), 400, .inl (upd (upd (upd (upd f (4 : Int32).toNatClampNeg x3) (5 : Int32).toNatClampNeg x7) (6 : Int32).toNatClampNeg x11) (7 : Int32).toNatClampNeg x15)))]) [0, 1] (by decide) rfl⟩, hS.F ht⟩) hS.2.2 dX11_feedOne_39
def w_x_feedOne8 : List Cond := .code yX11_feedOne cX11_feedOne 3 none :: ([.fieldLink RX11 9 "SeaLand" "tape" "[I", .fieldLink RX11 47 "SeaLand" "taped" "I"] ++ bs)
set_option maxHeartbeats 4000000 in
set_option maxRecDepth 100000 in
theorem x_feedOne8 (l : Launch) (dC : Nat → ClassId) (dI : Nat → Nat → Nat) (a : Nat → Nat) (k : Nat → ClassId) (f : Nat → Int32) (n : Int32) (sz : Nat) : Met l yX11_feedOne w_x_feedOne8 ({ frames := 0, cells := 0, slots := 0, locals := 0 }) (va_Pc [.ref (a 0), .int n] (fun U => U.heap.size = sz ∧ va_P (dC, dI) vwCl [(a 0, .inr (14, [.ref (a 1), .ref (a 2), .ref (a 27), .ref (a 30), .ref (a 74), .ref (a 75), .null, .int 8, .int 0])), (a 1, .inl ((k 1), 400, .inl f))] U.heap ∧ va_K (dC, dI) vwCl [((k 1), .int)] U ∧ va_D (fun _ => True) [(a 0, .inr (14, [.ref (a 1), .ref (a 2), .ref (a 27), .ref (a 30), .ref (a 74), .ref (a 75), .null, .int 8, .int 0])), (a 1, .inl ((k 1), 400, .inl f))] ∧ EV (va_A [(a 0, .inr (14, [.ref (a 1), .ref (a 2), .ref (a 27), .ref (a 30), .ref (a 74), .ref (a 75), .null, .int 8, .int 0])), (a 1, .inl ((k 1), 400, .inl f))] sz) U U.heap)) (va_Qv (fun (u : Nat → Int32) => True) (fun (g : Nat → Int32) (t : State) => va_P (dC, dI) vwCl [(a 0, .inr (14, [.ref (a 1), .ref (a 2), .ref (a 27), .ref (a 30), .ref (a 74), .ref (a 75), .null, .int 12, .int 0])), (a 1, .inl ((k 1), 400, .inl g))] t.heap ∧ va_D (va_A [(a 0, .inr (14, [.ref (a 1), .ref (a 2), .ref (a 27), .ref (a 30), .ref (a 74), .ref (a 75), .null, .int 8, .int 0])), (a 1, .inl ((k 1), 400, .inl f))] sz) [(a 0, .inr (14, [.ref (a 1), .ref (a 2), .ref (a 27), .ref (a 30), .ref (a 74), .ref (a 75), .null, .int 12, .int 0])), (a 1, .inl ((k 1), 400, .inl g))]) (va_A [(a 0, .inr (14, [.ref (a 1), .ref (a 2), .ref (a 27), .ref (a 30), .ref (a 74), .ref (a 75), .null, .int 8, .int 0])), (a 1, .inl ((k 1), 400, .inl f))] sz)) 0 0 (va_A [(a 0, .inr (14, [.ref (a 1), .ref (a 2), .ref (a 27), .ref (a 30), .ref (a 74), .ref (a 75), .null, .int 8, .int 0])), (a 1, .inl ((k 1), 400, .inl f))] sz) := by
  refine Met.ofW (cc := cX11_feedOne) (maxL := 3) (ret := none) (by decide) rfl ?_
  intro p e s m args below meth c s₁ B hml hv
  obtain ⟨rfl, hsz, hP, hK, hD0, hE⟩ := hv
  have hx := B.exec
  have hb := B.bytes
  have hr := B.returns
  have hts := atoms_spec (ws := w_x_feedOne8) B.pre
  have hown : s.vm.findClass RX11 = some m.cls := findClass_of_methodNamed B.named
  have hlocks := B.notSynchronized
  subst hsz
  have hD := hD0.self (sz := s.heap.size)
  generalize hAe : va_A [(a 0, .inr (14, [.ref (a 1), .ref (a 2), .ref (a 27), .ref (a 30), .ref (a 74), .ref (a 75), .null, .int 8, .int 0])), (a 1, .inl ((k 1), 400, .inl f))] s.heap.size = A at hD hE ⊢
  have hA : ∀ q : Nat, s.heap.size ≤ q → A q := fun q h => by rw [← hAe]; exact Or.inr h
  have hS : va_S A s.heap s.heap [] := va_S.rf
  have hP : va_P (dC, dI) vwCl [(a 0, .inr (14, [.ref (a 1), .ref (a 2), .ref (a 27), .ref (a 30), .ref (a 74), .ref (a 75), .null, .int 8, .int 0])), (a 1, .inl ((k 1), 400, .inl f))] s.heap := hP
  have hl := lv_entry ([.ref (a 0), .int n]) (n := 3) (Nat.le_of_ble_eq_true rfl)
  rw [lg_entry_eq]
  generalize (lg_sl ([.ref (a 0), .int n]) ++ List.replicate (3 - (lg_sl ([.ref (a 0), .int n])).length) Slot.unset).toArray = ls at hl ⊢
  have hl : lv_has ls 3 [(0, .ref (a 0)), (1, .int n)] := hl
  refine lv_bipush (v := 24) hx hb dX11_feedOne_0 (by decide) ?_
  refine lv_istore_n (lv' := [(2, .int 24), (0, .ref (a 0)), (1, .int n)]) hx hb dX11_feedOne_2 rfl hl (by decide) rfl (fun ls hl => ?_)
  refine lv_iload_n hx hb dX11_feedOne_3 rfl (lv_at hl 0 rfl) ?_
  refine lv_if_lt (tgt := 39) hx hb dX11_feedOne_4 (by decide) (fun c1 => absurd c1 (by decide)) (fun c1 => ?_)
  refine lv_aload_n hx hb dX11_feedOne_7 rfl (lv_at hl 1 rfl) ?_
  refine va_get (D := (dC, dI)) (ci := 14) (v := .ref (a 1)) (C := RX11) (T := TX11) (N := 9) hx hb hts bF_X11 hown hK hP 0 rfl rfl 0 (by decide) (ht_at hts 0 rfl) (fun _ h9 => h9) rfl dX11_feedOne_8 ?_
  refine lv_aload_n hx hb dX11_feedOne_11 rfl (lv_at hl 1 rfl) ?_
  refine va_get (D := (dC, dI)) (ci := 14) (v := .int 8) (C := RX11) (T := TX11) (N := 9) hx hb hts bF_X11 hown hK hP 0 rfl rfl 7 (by decide) (ht_at hts 1 rfl) (fun _ h9 => h9) rfl dX11_feedOne_12 ?_
  refine lv_iload_n hx hb dX11_feedOne_15 rfl (lv_at hl 2 rfl) ?_
  refine lv_iload_n hx hb dX11_feedOne_16 rfl (lv_at hl 0 rfl) ?_
  refine lv_iushr hx hb dX11_feedOne_17 rfl ?_
  refine lv_topi (fun x2 ex2 => ?_)
  refine lv_sipush (v := 255) hx hb dX11_feedOne_18 (by decide) ?_
  refine lv_iand hx hb dX11_feedOne_21 ?_
  refine lv_topi (fun x3 ex3 => ?_)
  refine va_iast hx hb hK hP hD hS 1 0 rfl rfl (by unfold vp_in; decide) dX11_feedOne_22 (fun H locs hP hD hS => ?_)
  have hP : va_P (dC, dI) vwCl [(a 0, .inr (14, [.ref (a 1), .ref (a 2), .ref (a 27), .ref (a 30), .ref (a 74), .ref (a 75), .null, .int 8, .int 0])), (a 1, .inl ((k 1), 400, .inl (upd f (8 : Int32).toNatClampNeg x3)))] H := hP
  have hD : va_D A [(a 0, .inr (14, [.ref (a 1), .ref (a 2), .ref (a 27), .ref (a 30), .ref (a 74), .ref (a 75), .null, .int 8, .int 0])), (a 1, .inl ((k 1), 400, .inl (upd f (8 : Int32).toNatClampNeg x3)))] := hD
  refine lv_aload_n hx hb dX11_feedOne_23 rfl (lv_at hl 1 rfl) ?_
  refine lv_dup hx hb dX11_feedOne_24 rfl ?_
  refine va_get (D := (dC, dI)) (ci := 14) (v := .int 8) (C := RX11) (T := TX11) (N := 9) hx hb hts bF_X11 hown hK hP 0 rfl rfl 7 (by decide) (ht_at hts 1 rfl) (fun _ h9 => h9) rfl dX11_feedOne_25 ?_
  refine lv_iconst (v := 1) hx hb dX11_feedOne_28 (by decide) ?_
  refine lv_iadd hx hb dX11_feedOne_29 ?_
  refine lv_topi (fun x4 ex4 => ?_)
  obtain rfl : x4 = 9 := ex4.trans (by decide)
  refine va_put (D := (dC, dI)) (ci := 14) (v := .int 9) (ty := .int) (C := RX11) (T := TX11) (N := 9) hx hb hts bF_X11 tyX11 tyX11_ok nmX11 hown hK hP hD hS 0 rfl rfl 7 (by decide) (ht_at hts 1 rfl) (fun _ h9 => h9) rfl (by decide +kernel) rfl rfl (Nat.le_of_ble_eq_true rfl) dX11_feedOne_30 (fun H locs hP hD hS => ?_)
  have hP : va_P (dC, dI) vwCl [(a 0, .inr (14, [.ref (a 1), .ref (a 2), .ref (a 27), .ref (a 30), .ref (a 74), .ref (a 75), .null, .int 9, .int 0])), (a 1, .inl ((k 1), 400, .inl (upd f (8 : Int32).toNatClampNeg x3)))] H := hP
  have hD : va_D A [(a 0, .inr (14, [.ref (a 1), .ref (a 2), .ref (a 27), .ref (a 30), .ref (a 74), .ref (a 75), .null, .int 9, .int 0])), (a 1, .inl ((k 1), 400, .inl (upd f (8 : Int32).toNatClampNeg x3)))] := hD
  refine lv_iinc (v := 16) (lv' := [(2, .int 16), (0, .ref (a 0)), (1, .int n)]) hx hb dX11_feedOne_33 hl (k := 0) rfl (by decide) (by decide) rfl (fun ls hl => ?_)
  refine lv_goto (tgt := 3) hx hb dX11_feedOne_36 (by decide) ?_
  refine lv_iload_n hx hb dX11_feedOne_3 rfl (lv_at hl 0 rfl) ?_
  refine lv_if_lt (tgt := 39) hx hb dX11_feedOne_4 (by decide) (fun c5 => absurd c5 (by decide)) (fun c5 => ?_)
  refine lv_aload_n hx hb dX11_feedOne_7 rfl (lv_at hl 1 rfl) ?_
  refine va_get (D := (dC, dI)) (ci := 14) (v := .ref (a 1)) (C := RX11) (T := TX11) (N := 9) hx hb hts bF_X11 hown hK hP 0 rfl rfl 0 (by decide) (ht_at hts 0 rfl) (fun _ h9 => h9) rfl dX11_feedOne_8 ?_
  refine lv_aload_n hx hb dX11_feedOne_11 rfl (lv_at hl 1 rfl) ?_
  refine va_get (D := (dC, dI)) (ci := 14) (v := .int 9) (C := RX11) (T := TX11) (N := 9) hx hb hts bF_X11 hown hK hP 0 rfl rfl 7 (by decide) (ht_at hts 1 rfl) (fun _ h9 => h9) rfl dX11_feedOne_12 ?_
  refine lv_iload_n hx hb dX11_feedOne_15 rfl (lv_at hl 2 rfl) ?_
  refine lv_iload_n hx hb dX11_feedOne_16 rfl (lv_at hl 0 rfl) ?_
  refine lv_iushr hx hb dX11_feedOne_17 rfl ?_
  refine lv_topi (fun x6 ex6 => ?_)
  refine lv_sipush (v := 255) hx hb dX11_feedOne_18 (by decide) ?_
  refine lv_iand hx hb dX11_feedOne_21 ?_
  refine lv_topi (fun x7 ex7 => ?_)
  refine va_iast hx hb hK hP hD hS 1 0 rfl rfl (by unfold vp_in; decide) dX11_feedOne_22 (fun H locs hP hD hS => ?_)
  have hP : va_P (dC, dI) vwCl [(a 0, .inr (14, [.ref (a 1), .ref (a 2), .ref (a 27), .ref (a 30), .ref (a 74), .ref (a 75), .null, .int 9, .int 0])), (a 1, .inl ((k 1), 400, .inl (upd (upd f (8 : Int32).toNatClampNeg x3) (9 : Int32).toNatClampNeg x7)))] H := hP
  have hD : va_D A [(a 0, .inr (14, [.ref (a 1), .ref (a 2), .ref (a 27), .ref (a 30), .ref (a 74), .ref (a 75), .null, .int 9, .int 0])), (a 1, .inl ((k 1), 400, .inl (upd (upd f (8 : Int32).toNatClampNeg x3) (9 : Int32).toNatClampNeg x7)))] := hD
  refine lv_aload_n hx hb dX11_feedOne_23 rfl (lv_at hl 1 rfl) ?_
  refine lv_dup hx hb dX11_feedOne_24 rfl ?_
  refine va_get (D := (dC, dI)) (ci := 14) (v := .int 9) (C := RX11) (T := TX11) (N := 9) hx hb hts bF_X11 hown hK hP 0 rfl rfl 7 (by decide) (ht_at hts 1 rfl) (fun _ h9 => h9) rfl dX11_feedOne_25 ?_
  refine lv_iconst (v := 1) hx hb dX11_feedOne_28 (by decide) ?_
  refine lv_iadd hx hb dX11_feedOne_29 ?_
  refine lv_topi (fun x8 ex8 => ?_)
  obtain rfl : x8 = 10 := ex8.trans (by decide)
  refine va_put (D := (dC, dI)) (ci := 14) (v := .int 10) (ty := .int) (C := RX11) (T := TX11) (N := 9) hx hb hts bF_X11 tyX11 tyX11_ok nmX11 hown hK hP hD hS 0 rfl rfl 7 (by decide) (ht_at hts 1 rfl) (fun _ h9 => h9) rfl (by decide +kernel) rfl rfl (Nat.le_of_ble_eq_true rfl) dX11_feedOne_30 (fun H locs hP hD hS => ?_)
  have hP : va_P (dC, dI) vwCl [(a 0, .inr (14, [.ref (a 1), .ref (a 2), .ref (a 27), .ref (a 30), .ref (a 74), .ref (a 75), .null, .int 10, .int 0])), (a 1, .inl ((k 1), 400, .inl (upd (upd f (8 : Int32).toNatClampNeg x3) (9 : Int32).toNatClampNeg x7)))] H := hP
  have hD : va_D A [(a 0, .inr (14, [.ref (a 1), .ref (a 2), .ref (a 27), .ref (a 30), .ref (a 74), .ref (a 75), .null, .int 10, .int 0])), (a 1, .inl ((k 1), 400, .inl (upd (upd f (8 : Int32).toNatClampNeg x3) (9 : Int32).toNatClampNeg x7)))] := hD
  refine lv_iinc (v := 8) (lv' := [(2, .int 8), (0, .ref (a 0)), (1, .int n)]) hx hb dX11_feedOne_33 hl (k := 0) rfl (by decide) (by decide) rfl (fun ls hl => ?_)
  refine lv_goto (tgt := 3) hx hb dX11_feedOne_36 (by decide) ?_
  refine lv_iload_n hx hb dX11_feedOne_3 rfl (lv_at hl 0 rfl) ?_
  refine lv_if_lt (tgt := 39) hx hb dX11_feedOne_4 (by decide) (fun c9 => absurd c9 (by decide)) (fun c9 => ?_)
  refine lv_aload_n hx hb dX11_feedOne_7 rfl (lv_at hl 1 rfl) ?_
  refine va_get (D := (dC, dI)) (ci := 14) (v := .ref (a 1)) (C := RX11) (T := TX11) (N := 9) hx hb hts bF_X11 hown hK hP 0 rfl rfl 0 (by decide) (ht_at hts 0 rfl) (fun _ h9 => h9) rfl dX11_feedOne_8 ?_
  refine lv_aload_n hx hb dX11_feedOne_11 rfl (lv_at hl 1 rfl) ?_
  refine va_get (D := (dC, dI)) (ci := 14) (v := .int 10) (C := RX11) (T := TX11) (N := 9) hx hb hts bF_X11 hown hK hP 0 rfl rfl 7 (by decide) (ht_at hts 1 rfl) (fun _ h9 => h9) rfl dX11_feedOne_12 ?_
  refine lv_iload_n hx hb dX11_feedOne_15 rfl (lv_at hl 2 rfl) ?_
  refine lv_iload_n hx hb dX11_feedOne_16 rfl (lv_at hl 0 rfl) ?_
  refine lv_iushr hx hb dX11_feedOne_17 rfl ?_
  refine lv_topi (fun x10 ex10 => ?_)
  refine lv_sipush (v := 255) hx hb dX11_feedOne_18 (by decide) ?_
  refine lv_iand hx hb dX11_feedOne_21 ?_
  refine lv_topi (fun x11 ex11 => ?_)
  refine va_iast hx hb hK hP hD hS 1 0 rfl rfl (by unfold vp_in; decide) dX11_feedOne_22 (fun H locs hP hD hS => ?_)
  have hP : va_P (dC, dI) vwCl [(a 0, .inr (14, [.ref (a 1), .ref (a 2), .ref (a 27), .ref (a 30), .ref (a 74), .ref (a 75), .null, .int 10, .int 0])), (a 1, .inl ((k 1), 400, .inl (upd (upd (upd f (8 : Int32).toNatClampNeg x3) (9 : Int32).toNatClampNeg x7) (10 : Int32).toNatClampNeg x11)))] H := hP
  have hD : va_D A [(a 0, .inr (14, [.ref (a 1), .ref (a 2), .ref (a 27), .ref (a 30), .ref (a 74), .ref (a 75), .null, .int 10, .int 0])), (a 1, .inl ((k 1), 400, .inl (upd (upd (upd f (8 : Int32).toNatClampNeg x3) (9 : Int32).toNatClampNeg x7) (10 : Int32).toNatClampNeg x11)))] := hD
  refine lv_aload_n hx hb dX11_feedOne_23 rfl (lv_at hl 1 rfl) ?_
  refine lv_dup hx hb dX11_feedOne_24 rfl ?_
  refine va_get (D := (dC, dI)) (ci := 14) (v := .int 10) (C := RX11) (T := TX11) (N := 9) hx hb hts bF_X11 hown hK hP 0 rfl rfl 7 (by decide) (ht_at hts 1 rfl) (fun _ h9 => h9) rfl dX11_feedOne_25 ?_
  refine lv_iconst (v := 1) hx hb dX11_feedOne_28 (by decide) ?_
  refine lv_iadd hx hb dX11_feedOne_29 ?_
  refine lv_topi (fun x12 ex12 => ?_)
  obtain rfl : x12 = 11 := ex12.trans (by decide)
  refine va_put (D := (dC, dI)) (ci := 14) (v := .int 11) (ty := .int) (C := RX11) (T := TX11) (N := 9) hx hb hts bF_X11 tyX11 tyX11_ok nmX11 hown hK hP hD hS 0 rfl rfl 7 (by decide) (ht_at hts 1 rfl) (fun _ h9 => h9) rfl (by decide +kernel) rfl rfl (Nat.le_of_ble_eq_true rfl) dX11_feedOne_30 (fun H locs hP hD hS => ?_)
  have hP : va_P (dC, dI) vwCl [(a 0, .inr (14, [.ref (a 1), .ref (a 2), .ref (a 27), .ref (a 30), .ref (a 74), .ref (a 75), .null, .int 11, .int 0])), (a 1, .inl ((k 1), 400, .inl (upd (upd (upd f (8 : Int32).toNatClampNeg x3) (9 : Int32).toNatClampNeg x7) (10 : Int32).toNatClampNeg x11)))] H := hP
  have hD : va_D A [(a 0, .inr (14, [.ref (a 1), .ref (a 2), .ref (a 27), .ref (a 30), .ref (a 74), .ref (a 75), .null, .int 11, .int 0])), (a 1, .inl ((k 1), 400, .inl (upd (upd (upd f (8 : Int32).toNatClampNeg x3) (9 : Int32).toNatClampNeg x7) (10 : Int32).toNatClampNeg x11)))] := hD
  refine lv_iinc (v := 0) (lv' := [(2, .int 0), (0, .ref (a 0)), (1, .int n)]) hx hb dX11_feedOne_33 hl (k := 0) rfl (by decide) (by decide) rfl (fun ls hl => ?_)
  refine lv_goto (tgt := 3) hx hb dX11_feedOne_36 (by decide) ?_
  refine lv_iload_n hx hb dX11_feedOne_3 rfl (lv_at hl 0 rfl) ?_
  refine lv_if_lt (tgt := 39) hx hb dX11_feedOne_4 (by decide) (fun c13 => absurd c13 (by decide)) (fun c13 => ?_)
  refine lv_aload_n hx hb dX11_feedOne_7 rfl (lv_at hl 1 rfl) ?_
  refine va_get (D := (dC, dI)) (ci := 14) (v := .ref (a 1)) (C := RX11) (T := TX11) (N := 9) hx hb hts bF_X11 hown hK hP 0 rfl rfl 0 (by decide) (ht_at hts 0 rfl) (fun _ h9 => h9) rfl dX11_feedOne_8 ?_
  refine lv_aload_n hx hb dX11_feedOne_11 rfl (lv_at hl 1 rfl) ?_
  refine va_get (D := (dC, dI)) (ci := 14) (v := .int 11) (C := RX11) (T := TX11) (N := 9) hx hb hts bF_X11 hown hK hP 0 rfl rfl 7 (by decide) (ht_at hts 1 rfl) (fun _ h9 => h9) rfl dX11_feedOne_12 ?_
  refine lv_iload_n hx hb dX11_feedOne_15 rfl (lv_at hl 2 rfl) ?_
  refine lv_iload_n hx hb dX11_feedOne_16 rfl (lv_at hl 0 rfl) ?_
  refine lv_iushr hx hb dX11_feedOne_17 rfl ?_
  refine lv_topi (fun x14 ex14 => ?_)
  refine lv_sipush (v := 255) hx hb dX11_feedOne_18 (by decide) ?_
  refine lv_iand hx hb dX11_feedOne_21 ?_
  refine lv_topi (fun x15 ex15 => ?_)
  refine va_iast hx hb hK hP hD hS 1 0 rfl rfl (by unfold vp_in; decide) dX11_feedOne_22 (fun H locs hP hD hS => ?_)
  have hP : va_P (dC, dI) vwCl [(a 0, .inr (14, [.ref (a 1), .ref (a 2), .ref (a 27), .ref (a 30), .ref (a 74), .ref (a 75), .null, .int 11, .int 0])), (a 1, .inl ((k 1), 400, .inl (upd (upd (upd (upd f (8 : Int32).toNatClampNeg x3) (9 : Int32).toNatClampNeg x7) (10 : Int32).toNatClampNeg x11) (11 : Int32).toNatClampNeg x15)))] H := hP
  have hD : va_D A [(a 0, .inr (14, [.ref (a 1), .ref (a 2), .ref (a 27), .ref (a 30), .ref (a 74), .ref (a 75), .null, .int 11, .int 0])), (a 1, .inl ((k 1), 400, .inl (upd (upd (upd (upd f (8 : Int32).toNatClampNeg x3) (9 : Int32).toNatClampNeg x7) (10 : Int32).toNatClampNeg x11) (11 : Int32).toNatClampNeg x15)))] := hD
  refine lv_aload_n hx hb dX11_feedOne_23 rfl (lv_at hl 1 rfl) ?_
  refine lv_dup hx hb dX11_feedOne_24 rfl ?_
  refine va_get (D := (dC, dI)) (ci := 14) (v := .int 11) (C := RX11) (T := TX11) (N := 9) hx hb hts bF_X11 hown hK hP 0 rfl rfl 7 (by decide) (ht_at hts 1 rfl) (fun _ h9 => h9) rfl dX11_feedOne_25 ?_
  refine lv_iconst (v := 1) hx hb dX11_feedOne_28 (by decide) ?_
  refine lv_iadd hx hb dX11_feedOne_29 ?_
  refine lv_topi (fun x16 ex16 => ?_)
  obtain rfl : x16 = 12 := ex16.trans (by decide)
  refine va_put (D := (dC, dI)) (ci := 14) (v := .int 12) (ty := .int) (C := RX11) (T := TX11) (N := 9) hx hb hts bF_X11 tyX11 tyX11_ok nmX11 hown hK hP hD hS 0 rfl rfl 7 (by decide) (ht_at hts 1 rfl) (fun _ h9 => h9) rfl (by decide +kernel) rfl rfl (Nat.le_of_ble_eq_true rfl) dX11_feedOne_30 (fun H locs hP hD hS => ?_)
  have hP : va_P (dC, dI) vwCl [(a 0, .inr (14, [.ref (a 1), .ref (a 2), .ref (a 27), .ref (a 30), .ref (a 74), .ref (a 75), .null, .int 12, .int 0])), (a 1, .inl ((k 1), 400, .inl (upd (upd (upd (upd f (8 : Int32).toNatClampNeg x3) (9 : Int32).toNatClampNeg x7) (10 : Int32).toNatClampNeg x11) (11 : Int32).toNatClampNeg x15)))] H := hP
  have hD : va_D A [(a 0, .inr (14, [.ref (a 1), .ref (a 2), .ref (a 27), .ref (a 30), .ref (a 74), .ref (a 75), .null, .int 12, .int 0])), (a 1, .inl ((k 1), 400, .inl (upd (upd (upd (upd f (8 : Int32).toNatClampNeg x3) (9 : Int32).toNatClampNeg x7) (10 : Int32).toNatClampNeg x11) (11 : Int32).toNatClampNeg x15)))] := hD
  refine lv_iinc (v := (-8)) (lv' := [(2, .int (-8)), (0, .ref (a 0)), (1, .int n)]) hx hb dX11_feedOne_33 hl (k := 0) rfl (by decide) (by decide) rfl (fun ls hl => ?_)
  refine lv_goto (tgt := 3) hx hb dX11_feedOne_36 (by decide) ?_
  refine lv_iload_n hx hb dX11_feedOne_3 rfl (lv_at hl 0 rfl) ?_
  refine lv_if_lt (tgt := 39) hx hb dX11_feedOne_4 (by decide) (fun c17 => ?_) (fun c17 => absurd c17 (by decide))
  exact W.vret hx hb hr (fun t ht hW => ⟨⟨(upd (upd (upd (upd f (8 : Int32).toNatClampNeg x3) (9 : Int32).toNatClampNeg x7) (10 : Int32).toNatClampNeg x11) (11 : Int32).toNatClampNeg x15), rfl, (by trivial), by rw [ht]; exact hP.sub (ws' := [(a 0, .inr (14, [.ref (a 1), .ref (a 2), .ref (a 27), .ref (a 30), .ref (a 74), .ref (a 75), .null, .int 12, .int 0])), (a 1, .inl ((k 1), 400, .inl (upd (upd (upd (upd f (8 : Int32).toNatClampNeg x3) (9 : Int32).toNatClampNeg x7) (10 : Int32).toNatClampNeg x11) (11 : Int32).toNatClampNeg x15)))]) [0, 1] rfl, hD.sub (ws' := [(a 0, .inr (14, [.ref (a 1), .ref (a 2), .ref (a 27), .ref (a 30), .ref (a 74), .ref (a 75), .null, .int 12, .int 0])), (a 1, .inl ((k 1), 400, .inl (upd (upd (upd (upd f (8 : Int32).toNatClampNeg x3) (9 : Int32).toNatClampNeg x7) (10 : Int32).toNatClampNeg x11) (11 : Int32).toNatClampNeg x15)))]) [0, 1] (by decide) rfl⟩, hS.F ht⟩) hS.2.2 dX11_feedOne_39
def w_x_feedOne12 : List Cond := .code yX11_feedOne cX11_feedOne 3 none :: ([.fieldLink RX11 9 "SeaLand" "tape" "[I", .fieldLink RX11 47 "SeaLand" "taped" "I"] ++ bs)
set_option maxHeartbeats 4000000 in
set_option maxRecDepth 100000 in
theorem x_feedOne12 (l : Launch) (dC : Nat → ClassId) (dI : Nat → Nat → Nat) (a : Nat → Nat) (k : Nat → ClassId) (f : Nat → Int32) (n : Int32) (sz : Nat) : Met l yX11_feedOne w_x_feedOne12 ({ frames := 0, cells := 0, slots := 0, locals := 0 }) (va_Pc [.ref (a 0), .int n] (fun U => U.heap.size = sz ∧ va_P (dC, dI) vwCl [(a 0, .inr (14, [.ref (a 1), .ref (a 2), .ref (a 27), .ref (a 30), .ref (a 74), .ref (a 75), .null, .int 12, .int 0])), (a 1, .inl ((k 1), 400, .inl f))] U.heap ∧ va_K (dC, dI) vwCl [((k 1), .int)] U ∧ va_D (fun _ => True) [(a 0, .inr (14, [.ref (a 1), .ref (a 2), .ref (a 27), .ref (a 30), .ref (a 74), .ref (a 75), .null, .int 12, .int 0])), (a 1, .inl ((k 1), 400, .inl f))] ∧ EV (va_A [(a 0, .inr (14, [.ref (a 1), .ref (a 2), .ref (a 27), .ref (a 30), .ref (a 74), .ref (a 75), .null, .int 12, .int 0])), (a 1, .inl ((k 1), 400, .inl f))] sz) U U.heap)) (va_Qv (fun (u : Nat → Int32) => True) (fun (g : Nat → Int32) (t : State) => va_P (dC, dI) vwCl [(a 0, .inr (14, [.ref (a 1), .ref (a 2), .ref (a 27), .ref (a 30), .ref (a 74), .ref (a 75), .null, .int 16, .int 0])), (a 1, .inl ((k 1), 400, .inl g))] t.heap ∧ va_D (va_A [(a 0, .inr (14, [.ref (a 1), .ref (a 2), .ref (a 27), .ref (a 30), .ref (a 74), .ref (a 75), .null, .int 12, .int 0])), (a 1, .inl ((k 1), 400, .inl f))] sz) [(a 0, .inr (14, [.ref (a 1), .ref (a 2), .ref (a 27), .ref (a 30), .ref (a 74), .ref (a 75), .null, .int 16, .int 0])), (a 1, .inl ((k 1), 400, .inl g))]) (va_A [(a 0, .inr (14, [.ref (a 1), .ref (a 2), .ref (a 27), .ref (a 30), .ref (a 74), .ref (a 75), .null, .int 12, .int 0])), (a 1, .inl ((k 1), 400, .inl f))] sz)) 0 0 (va_A [(a 0, .inr (14, [.ref (a 1), .ref (a 2), .ref (a 27), .ref (a 30), .ref (a 74), .ref (a 75), .null, .int 12, .int 0])), (a 1, .inl ((k 1), 400, .inl f))] sz) := by
  refine Met.ofW (cc := cX11_feedOne) (maxL := 3) (ret := none) (by decide) rfl ?_
  intro p e s m args below meth c s₁ B hml hv
  obtain ⟨rfl, hsz, hP, hK, hD0, hE⟩ := hv
  have hx := B.exec
  have hb := B.bytes
  have hr := B.returns
  have hts := atoms_spec (ws := w_x_feedOne12) B.pre
  have hown : s.vm.findClass RX11 = some m.cls := findClass_of_methodNamed B.named
  have hlocks := B.notSynchronized
  subst hsz
  have hD := hD0.self (sz := s.heap.size)
  generalize hAe : va_A [(a 0, .inr (14, [.ref (a 1), .ref (a 2), .ref (a 27), .ref (a 30), .ref (a 74), .ref (a 75), .null, .int 12, .int 0])), (a 1, .inl ((k 1), 400, .inl f))] s.heap.size = A at hD hE ⊢
  have hA : ∀ q : Nat, s.heap.size ≤ q → A q := fun q h => by rw [← hAe]; exact Or.inr h
  have hS : va_S A s.heap s.heap [] := va_S.rf
  have hP : va_P (dC, dI) vwCl [(a 0, .inr (14, [.ref (a 1), .ref (a 2), .ref (a 27), .ref (a 30), .ref (a 74), .ref (a 75), .null, .int 12, .int 0])), (a 1, .inl ((k 1), 400, .inl f))] s.heap := hP
  have hl := lv_entry ([.ref (a 0), .int n]) (n := 3) (Nat.le_of_ble_eq_true rfl)
  rw [lg_entry_eq]
  generalize (lg_sl ([.ref (a 0), .int n]) ++ List.replicate (3 - (lg_sl ([.ref (a 0), .int n])).length) Slot.unset).toArray = ls at hl ⊢
  have hl : lv_has ls 3 [(0, .ref (a 0)), (1, .int n)] := hl
  refine lv_bipush (v := 24) hx hb dX11_feedOne_0 (by decide) ?_
  refine lv_istore_n (lv' := [(2, .int 24), (0, .ref (a 0)), (1, .int n)]) hx hb dX11_feedOne_2 rfl hl (by decide) rfl (fun ls hl => ?_)
  refine lv_iload_n hx hb dX11_feedOne_3 rfl (lv_at hl 0 rfl) ?_
  refine lv_if_lt (tgt := 39) hx hb dX11_feedOne_4 (by decide) (fun c1 => absurd c1 (by decide)) (fun c1 => ?_)
  refine lv_aload_n hx hb dX11_feedOne_7 rfl (lv_at hl 1 rfl) ?_
  refine va_get (D := (dC, dI)) (ci := 14) (v := .ref (a 1)) (C := RX11) (T := TX11) (N := 9) hx hb hts bF_X11 hown hK hP 0 rfl rfl 0 (by decide) (ht_at hts 0 rfl) (fun _ h9 => h9) rfl dX11_feedOne_8 ?_
  refine lv_aload_n hx hb dX11_feedOne_11 rfl (lv_at hl 1 rfl) ?_
  refine va_get (D := (dC, dI)) (ci := 14) (v := .int 12) (C := RX11) (T := TX11) (N := 9) hx hb hts bF_X11 hown hK hP 0 rfl rfl 7 (by decide) (ht_at hts 1 rfl) (fun _ h9 => h9) rfl dX11_feedOne_12 ?_
  refine lv_iload_n hx hb dX11_feedOne_15 rfl (lv_at hl 2 rfl) ?_
  refine lv_iload_n hx hb dX11_feedOne_16 rfl (lv_at hl 0 rfl) ?_
  refine lv_iushr hx hb dX11_feedOne_17 rfl ?_
  refine lv_topi (fun x2 ex2 => ?_)
  refine lv_sipush (v := 255) hx hb dX11_feedOne_18 (by decide) ?_
  refine lv_iand hx hb dX11_feedOne_21 ?_
  refine lv_topi (fun x3 ex3 => ?_)
  refine va_iast hx hb hK hP hD hS 1 0 rfl rfl (by unfold vp_in; decide) dX11_feedOne_22 (fun H locs hP hD hS => ?_)
  have hP : va_P (dC, dI) vwCl [(a 0, .inr (14, [.ref (a 1), .ref (a 2), .ref (a 27), .ref (a 30), .ref (a 74), .ref (a 75), .null, .int 12, .int 0])), (a 1, .inl ((k 1), 400, .inl (upd f (12 : Int32).toNatClampNeg x3)))] H := hP
  have hD : va_D A [(a 0, .inr (14, [.ref (a 1), .ref (a 2), .ref (a 27), .ref (a 30), .ref (a 74), .ref (a 75), .null, .int 12, .int 0])), (a 1, .inl ((k 1), 400, .inl (upd f (12 : Int32).toNatClampNeg x3)))] := hD
  refine lv_aload_n hx hb dX11_feedOne_23 rfl (lv_at hl 1 rfl) ?_
  refine lv_dup hx hb dX11_feedOne_24 rfl ?_
  refine va_get (D := (dC, dI)) (ci := 14) (v := .int 12) (C := RX11) (T := TX11) (N := 9) hx hb hts bF_X11 hown hK hP 0 rfl rfl 7 (by decide) (ht_at hts 1 rfl) (fun _ h9 => h9) rfl dX11_feedOne_25 ?_
  refine lv_iconst (v := 1) hx hb dX11_feedOne_28 (by decide) ?_
  refine lv_iadd hx hb dX11_feedOne_29 ?_
  refine lv_topi (fun x4 ex4 => ?_)
  obtain rfl : x4 = 13 := ex4.trans (by decide)
  refine va_put (D := (dC, dI)) (ci := 14) (v := .int 13) (ty := .int) (C := RX11) (T := TX11) (N := 9) hx hb hts bF_X11 tyX11 tyX11_ok nmX11 hown hK hP hD hS 0 rfl rfl 7 (by decide) (ht_at hts 1 rfl) (fun _ h9 => h9) rfl (by decide +kernel) rfl rfl (Nat.le_of_ble_eq_true rfl) dX11_feedOne_30 (fun H locs hP hD hS => ?_)
  have hP : va_P (dC, dI) vwCl [(a 0, .inr (14, [.ref (a 1), .ref (a 2), .ref (a 27), .ref (a 30), .ref (a 74), .ref (a 75), .null, .int 13, .int 0])), (a 1, .inl ((k 1), 400, .inl (upd f (12 : Int32).toNatClampNeg x3)))] H := hP
  have hD : va_D A [(a 0, .inr (14, [.ref (a 1), .ref (a 2), .ref (a 27), .ref (a 30), .ref (a 74), .ref (a 75), .null, .int 13, .int 0])), (a 1, .inl ((k 1), 400, .inl (upd f (12 : Int32).toNatClampNeg x3)))] := hD
  refine lv_iinc (v := 16) (lv' := [(2, .int 16), (0, .ref (a 0)), (1, .int n)]) hx hb dX11_feedOne_33 hl (k := 0) rfl (by decide) (by decide) rfl (fun ls hl => ?_)
  refine lv_goto (tgt := 3) hx hb dX11_feedOne_36 (by decide) ?_
  refine lv_iload_n hx hb dX11_feedOne_3 rfl (lv_at hl 0 rfl) ?_
  refine lv_if_lt (tgt := 39) hx hb dX11_feedOne_4 (by decide) (fun c5 => absurd c5 (by decide)) (fun c5 => ?_)
  refine lv_aload_n hx hb dX11_feedOne_7 rfl (lv_at hl 1 rfl) ?_
  refine va_get (D := (dC, dI)) (ci := 14) (v := .ref (a 1)) (C := RX11) (T := TX11) (N := 9) hx hb hts bF_X11 hown hK hP 0 rfl rfl 0 (by decide) (ht_at hts 0 rfl) (fun _ h9 => h9) rfl dX11_feedOne_8 ?_
  refine lv_aload_n hx hb dX11_feedOne_11 rfl (lv_at hl 1 rfl) ?_
  refine va_get (D := (dC, dI)) (ci := 14) (v := .int 13) (C := RX11) (T := TX11) (N := 9) hx hb hts bF_X11 hown hK hP 0 rfl rfl 7 (by decide) (ht_at hts 1 rfl) (fun _ h9 => h9) rfl dX11_feedOne_12 ?_
  refine lv_iload_n hx hb dX11_feedOne_15 rfl (lv_at hl 2 rfl) ?_
  refine lv_iload_n hx hb dX11_feedOne_16 rfl (lv_at hl 0 rfl) ?_
  refine lv_iushr hx hb dX11_feedOne_17 rfl ?_
  refine lv_topi (fun x6 ex6 => ?_)
  refine lv_sipush (v := 255) hx hb dX11_feedOne_18 (by decide) ?_
  refine lv_iand hx hb dX11_feedOne_21 ?_
  refine lv_topi (fun x7 ex7 => ?_)
  refine va_iast hx hb hK hP hD hS 1 0 rfl rfl (by unfold vp_in; decide) dX11_feedOne_22 (fun H locs hP hD hS => ?_)
  have hP : va_P (dC, dI) vwCl [(a 0, .inr (14, [.ref (a 1), .ref (a 2), .ref (a 27), .ref (a 30), .ref (a 74), .ref (a 75), .null, .int 13, .int 0])), (a 1, .inl ((k 1), 400, .inl (upd (upd f (12 : Int32).toNatClampNeg x3) (13 : Int32).toNatClampNeg x7)))] H := hP
  have hD : va_D A [(a 0, .inr (14, [.ref (a 1), .ref (a 2), .ref (a 27), .ref (a 30), .ref (a 74), .ref (a 75), .null, .int 13, .int 0])), (a 1, .inl ((k 1), 400, .inl (upd (upd f (12 : Int32).toNatClampNeg x3) (13 : Int32).toNatClampNeg x7)))] := hD
  refine lv_aload_n hx hb dX11_feedOne_23 rfl (lv_at hl 1 rfl) ?_
  refine lv_dup hx hb dX11_feedOne_24 rfl ?_
  refine va_get (D := (dC, dI)) (ci := 14) (v := .int 13) (C := RX11) (T := TX11) (N := 9) hx hb hts bF_X11 hown hK hP 0 rfl rfl 7 (by decide) (ht_at hts 1 rfl) (fun _ h9 => h9) rfl dX11_feedOne_25 ?_
  refine lv_iconst (v := 1) hx hb dX11_feedOne_28 (by decide) ?_
  refine lv_iadd hx hb dX11_feedOne_29 ?_
  refine lv_topi (fun x8 ex8 => ?_)
  obtain rfl : x8 = 14 := ex8.trans (by decide)
  refine va_put (D := (dC, dI)) (ci := 14) (v := .int 14) (ty := .int) (C := RX11) (T := TX11) (N := 9) hx hb hts bF_X11 tyX11 tyX11_ok nmX11 hown hK hP hD hS 0 rfl rfl 7 (by decide) (ht_at hts 1 rfl) (fun _ h9 => h9) rfl (by decide +kernel) rfl rfl (Nat.le_of_ble_eq_true rfl) dX11_feedOne_30 (fun H locs hP hD hS => ?_)
  have hP : va_P (dC, dI) vwCl [(a 0, .inr (14, [.ref (a 1), .ref (a 2), .ref (a 27), .ref (a 30), .ref (a 74), .ref (a 75), .null, .int 14, .int 0])), (a 1, .inl ((k 1), 400, .inl (upd (upd f (12 : Int32).toNatClampNeg x3) (13 : Int32).toNatClampNeg x7)))] H := hP
  have hD : va_D A [(a 0, .inr (14, [.ref (a 1), .ref (a 2), .ref (a 27), .ref (a 30), .ref (a 74), .ref (a 75), .null, .int 14, .int 0])), (a 1, .inl ((k 1), 400, .inl (upd (upd f (12 : Int32).toNatClampNeg x3) (13 : Int32).toNatClampNeg x7)))] := hD
  refine lv_iinc (v := 8) (lv' := [(2, .int 8), (0, .ref (a 0)), (1, .int n)]) hx hb dX11_feedOne_33 hl (k := 0) rfl (by decide) (by decide) rfl (fun ls hl => ?_)
  refine lv_goto (tgt := 3) hx hb dX11_feedOne_36 (by decide) ?_
  refine lv_iload_n hx hb dX11_feedOne_3 rfl (lv_at hl 0 rfl) ?_
  refine lv_if_lt (tgt := 39) hx hb dX11_feedOne_4 (by decide) (fun c9 => absurd c9 (by decide)) (fun c9 => ?_)
  refine lv_aload_n hx hb dX11_feedOne_7 rfl (lv_at hl 1 rfl) ?_
  refine va_get (D := (dC, dI)) (ci := 14) (v := .ref (a 1)) (C := RX11) (T := TX11) (N := 9) hx hb hts bF_X11 hown hK hP 0 rfl rfl 0 (by decide) (ht_at hts 0 rfl) (fun _ h9 => h9) rfl dX11_feedOne_8 ?_
  refine lv_aload_n hx hb dX11_feedOne_11 rfl (lv_at hl 1 rfl) ?_
  refine va_get (D := (dC, dI)) (ci := 14) (v := .int 14) (C := RX11) (T := TX11) (N := 9) hx hb hts bF_X11 hown hK hP 0 rfl rfl 7 (by decide) (ht_at hts 1 rfl) (fun _ h9 => h9) rfl dX11_feedOne_12 ?_
  refine lv_iload_n hx hb dX11_feedOne_15 rfl (lv_at hl 2 rfl) ?_
  refine lv_iload_n hx hb dX11_feedOne_16 rfl (lv_at hl 0 rfl) ?_
  refine lv_iushr hx hb dX11_feedOne_17 rfl ?_
  refine lv_topi (fun x10 ex10 => ?_)
  refine lv_sipush (v := 255) hx hb dX11_feedOne_18 (by decide) ?_
  refine lv_iand hx hb dX11_feedOne_21 ?_
  refine lv_topi (fun x11 ex11 => ?_)
  refine va_iast hx hb hK hP hD hS 1 0 rfl rfl (by unfold vp_in; decide) dX11_feedOne_22 (fun H locs hP hD hS => ?_)
  have hP : va_P (dC, dI) vwCl [(a 0, .inr (14, [.ref (a 1), .ref (a 2), .ref (a 27), .ref (a 30), .ref (a 74), .ref (a 75), .null, .int 14, .int 0])), (a 1, .inl ((k 1), 400, .inl (upd (upd (upd f (12 : Int32).toNatClampNeg x3) (13 : Int32).toNatClampNeg x7) (14 : Int32).toNatClampNeg x11)))] H := hP
  have hD : va_D A [(a 0, .inr (14, [.ref (a 1), .ref (a 2), .ref (a 27), .ref (a 30), .ref (a 74), .ref (a 75), .null, .int 14, .int 0])), (a 1, .inl ((k 1), 400, .inl (upd (upd (upd f (12 : Int32).toNatClampNeg x3) (13 : Int32).toNatClampNeg x7) (14 : Int32).toNatClampNeg x11)))] := hD
  refine lv_aload_n hx hb dX11_feedOne_23 rfl (lv_at hl 1 rfl) ?_
  refine lv_dup hx hb dX11_feedOne_24 rfl ?_
  refine va_get (D := (dC, dI)) (ci := 14) (v := .int 14) (C := RX11) (T := TX11) (N := 9) hx hb hts bF_X11 hown hK hP 0 rfl rfl 7 (by decide) (ht_at hts 1 rfl) (fun _ h9 => h9) rfl dX11_feedOne_25 ?_
  refine lv_iconst (v := 1) hx hb dX11_feedOne_28 (by decide) ?_
  refine lv_iadd hx hb dX11_feedOne_29 ?_
  refine lv_topi (fun x12 ex12 => ?_)
  obtain rfl : x12 = 15 := ex12.trans (by decide)
  refine va_put (D := (dC, dI)) (ci := 14) (v := .int 15) (ty := .int) (C := RX11) (T := TX11) (N := 9) hx hb hts bF_X11 tyX11 tyX11_ok nmX11 hown hK hP hD hS 0 rfl rfl 7 (by decide) (ht_at hts 1 rfl) (fun _ h9 => h9) rfl (by decide +kernel) rfl rfl (Nat.le_of_ble_eq_true rfl) dX11_feedOne_30 (fun H locs hP hD hS => ?_)
  have hP : va_P (dC, dI) vwCl [(a 0, .inr (14, [.ref (a 1), .ref (a 2), .ref (a 27), .ref (a 30), .ref (a 74), .ref (a 75), .null, .int 15, .int 0])), (a 1, .inl ((k 1), 400, .inl (upd (upd (upd f (12 : Int32).toNatClampNeg x3) (13 : Int32).toNatClampNeg x7) (14 : Int32).toNatClampNeg x11)))] H := hP
  have hD : va_D A [(a 0, .inr (14, [.ref (a 1), .ref (a 2), .ref (a 27), .ref (a 30), .ref (a 74), .ref (a 75), .null, .int 15, .int 0])), (a 1, .inl ((k 1), 400, .inl (upd (upd (upd f (12 : Int32).toNatClampNeg x3) (13 : Int32).toNatClampNeg x7) (14 : Int32).toNatClampNeg x11)))] := hD
  refine lv_iinc (v := 0) (lv' := [(2, .int 0), (0, .ref (a 0)), (1, .int n)]) hx hb dX11_feedOne_33 hl (k := 0) rfl (by decide) (by decide) rfl (fun ls hl => ?_)
  refine lv_goto (tgt := 3) hx hb dX11_feedOne_36 (by decide) ?_
  refine lv_iload_n hx hb dX11_feedOne_3 rfl (lv_at hl 0 rfl) ?_
  refine lv_if_lt (tgt := 39) hx hb dX11_feedOne_4 (by decide) (fun c13 => absurd c13 (by decide)) (fun c13 => ?_)
  refine lv_aload_n hx hb dX11_feedOne_7 rfl (lv_at hl 1 rfl) ?_
  refine va_get (D := (dC, dI)) (ci := 14) (v := .ref (a 1)) (C := RX11) (T := TX11) (N := 9) hx hb hts bF_X11 hown hK hP 0 rfl rfl 0 (by decide) (ht_at hts 0 rfl) (fun _ h9 => h9) rfl dX11_feedOne_8 ?_
  refine lv_aload_n hx hb dX11_feedOne_11 rfl (lv_at hl 1 rfl) ?_
  refine va_get (D := (dC, dI)) (ci := 14) (v := .int 15) (C := RX11) (T := TX11) (N := 9) hx hb hts bF_X11 hown hK hP 0 rfl rfl 7 (by decide) (ht_at hts 1 rfl) (fun _ h9 => h9) rfl dX11_feedOne_12 ?_
  refine lv_iload_n hx hb dX11_feedOne_15 rfl (lv_at hl 2 rfl) ?_
  refine lv_iload_n hx hb dX11_feedOne_16 rfl (lv_at hl 0 rfl) ?_
  refine lv_iushr hx hb dX11_feedOne_17 rfl ?_
  refine lv_topi (fun x14 ex14 => ?_)
  refine lv_sipush (v := 255) hx hb dX11_feedOne_18 (by decide) ?_
  refine lv_iand hx hb dX11_feedOne_21 ?_
  refine lv_topi (fun x15 ex15 => ?_)
  refine va_iast hx hb hK hP hD hS 1 0 rfl rfl (by unfold vp_in; decide) dX11_feedOne_22 (fun H locs hP hD hS => ?_)
  have hP : va_P (dC, dI) vwCl [(a 0, .inr (14, [.ref (a 1), .ref (a 2), .ref (a 27), .ref (a 30), .ref (a 74), .ref (a 75), .null, .int 15, .int 0])), (a 1, .inl ((k 1), 400, .inl (upd (upd (upd (upd f (12 : Int32).toNatClampNeg x3) (13 : Int32).toNatClampNeg x7) (14 : Int32).toNatClampNeg x11) (15 : Int32).toNatClampNeg x15)))] H := hP
  have hD : va_D A [(a 0, .inr (14, [.ref (a 1), .ref (a 2), .ref (a 27), .ref (a 30), .ref (a 74), .ref (a 75), .null, .int 15, .int 0])), (a 1, .inl ((k 1), 400, .inl (upd (upd (upd (upd f (12 : Int32).toNatClampNeg x3) (13 : Int32).toNatClampNeg x7) (14 : Int32).toNatClampNeg x11) (15 : Int32).toNatClampNeg x15)))] := hD
  refine lv_aload_n hx hb dX11_feedOne_23 rfl (lv_at hl 1 rfl) ?_
  refine lv_dup hx hb dX11_feedOne_24 rfl ?_
  refine va_get (D := (dC, dI)) (ci := 14) (v := .int 15) (C := RX11) (T := TX11) (N := 9) hx hb hts bF_X11 hown hK hP 0 rfl rfl 7 (by decide) (ht_at hts 1 rfl) (fun _ h9 => h9) rfl dX11_feedOne_25 ?_
  refine lv_iconst (v := 1) hx hb dX11_feedOne_28 (by decide) ?_
  refine lv_iadd hx hb dX11_feedOne_29 ?_
  refine lv_topi (fun x16 ex16 => ?_)
  obtain rfl : x16 = 16 := ex16.trans (by decide)
  refine va_put (D := (dC, dI)) (ci := 14) (v := .int 16) (ty := .int) (C := RX11) (T := TX11) (N := 9) hx hb hts bF_X11 tyX11 tyX11_ok nmX11 hown hK hP hD hS 0 rfl rfl 7 (by decide) (ht_at hts 1 rfl) (fun _ h9 => h9) rfl (by decide +kernel) rfl rfl (Nat.le_of_ble_eq_true rfl) dX11_feedOne_30 (fun H locs hP hD hS => ?_)
  have hP : va_P (dC, dI) vwCl [(a 0, .inr (14, [.ref (a 1), .ref (a 2), .ref (a 27), .ref (a 30), .ref (a 74), .ref (a 75), .null, .int 16, .int 0])), (a 1, .inl ((k 1), 400, .inl (upd (upd (upd (upd f (12 : Int32).toNatClampNeg x3) (13 : Int32).toNatClampNeg x7) (14 : Int32).toNatClampNeg x11) (15 : Int32).toNatClampNeg x15)))] H := hP
  have hD : va_D A [(a 0, .inr (14, [.ref (a 1), .ref (a 2), .ref (a 27), .ref (a 30), .ref (a 74), .ref (a 75), .null, .int 16, .int 0])), (a 1, .inl ((k 1), 400, .inl (upd (upd (upd (upd f (12 : Int32).toNatClampNeg x3) (13 : Int32).toNatClampNeg x7) (14 : Int32).toNatClampNeg x11) (15 : Int32).toNatClampNeg x15)))] := hD
  refine lv_iinc (v := (-8)) (lv' := [(2, .int (-8)), (0, .ref (a 0)), (1, .int n)]) hx hb dX11_feedOne_33 hl (k := 0) rfl (by decide) (by decide) rfl (fun ls hl => ?_)
  refine lv_goto (tgt := 3) hx hb dX11_feedOne_36 (by decide) ?_
  refine lv_iload_n hx hb dX11_feedOne_3 rfl (lv_at hl 0 rfl) ?_
  refine lv_if_lt (tgt := 39) hx hb dX11_feedOne_4 (by decide) (fun c17 => ?_) (fun c17 => absurd c17 (by decide))
  exact W.vret hx hb hr (fun t ht hW => ⟨⟨(upd (upd (upd (upd f (12 : Int32).toNatClampNeg x3) (13 : Int32).toNatClampNeg x7) (14 : Int32).toNatClampNeg x11) (15 : Int32).toNatClampNeg x15), rfl, (by trivial), by rw [ht]; exact hP.sub (ws' := [(a 0, .inr (14, [.ref (a 1), .ref (a 2), .ref (a 27), .ref (a 30), .ref (a 74), .ref (a 75), .null, .int 16, .int 0])), (a 1, .inl ((k 1), 400, .inl (upd (upd (upd (upd f (12 : Int32).toNatClampNeg x3) (13 : Int32).toNatClampNeg x7) (14 : Int32).toNatClampNeg x11) (15 : Int32).toNatClampNeg x15)))]) [0, 1] rfl, hD.sub (ws' := [(a 0, .inr (14, [.ref (a 1), .ref (a 2), .ref (a 27), .ref (a 30), .ref (a 74), .ref (a 75), .null, .int 16, .int 0])), (a 1, .inl ((k 1), 400, .inl (upd (upd (upd (upd f (12 : Int32).toNatClampNeg x3) (13 : Int32).toNatClampNeg x7) (14 : Int32).toNatClampNeg x11) (15 : Int32).toNatClampNeg x15)))]) [0, 1] (by decide) rfl⟩, hS.F ht⟩) hS.2.2 dX11_feedOne_39
def w_x_feedOne16 : List Cond := .code yX11_feedOne cX11_feedOne 3 none :: ([.fieldLink RX11 9 "SeaLand" "tape" "[I", .fieldLink RX11 47 "SeaLand" "taped" "I"] ++ bs)
set_option maxHeartbeats 4000000 in
set_option maxRecDepth 100000 in
theorem x_feedOne16 (l : Launch) (dC : Nat → ClassId) (dI : Nat → Nat → Nat) (a : Nat → Nat) (k : Nat → ClassId) (f : Nat → Int32) (n : Int32) (sz : Nat) : Met l yX11_feedOne w_x_feedOne16 ({ frames := 0, cells := 0, slots := 0, locals := 0 }) (va_Pc [.ref (a 0), .int n] (fun U => U.heap.size = sz ∧ va_P (dC, dI) vwCl [(a 0, .inr (14, [.ref (a 1), .ref (a 2), .ref (a 27), .ref (a 30), .ref (a 74), .ref (a 75), .null, .int 16, .int 0])), (a 1, .inl ((k 1), 400, .inl f))] U.heap ∧ va_K (dC, dI) vwCl [((k 1), .int)] U ∧ va_D (fun _ => True) [(a 0, .inr (14, [.ref (a 1), .ref (a 2), .ref (a 27), .ref (a 30), .ref (a 74), .ref (a 75), .null, .int 16, .int 0])), (a 1, .inl ((k 1), 400, .inl f))] ∧ EV (va_A [(a 0, .inr (14, [.ref (a 1), .ref (a 2), .ref (a 27), .ref (a 30), .ref (a 74), .ref (a 75), .null, .int 16, .int 0])), (a 1, .inl ((k 1), 400, .inl f))] sz) U U.heap)) (va_Qv (fun (u : Nat → Int32) => True) (fun (g : Nat → Int32) (t : State) => va_P (dC, dI) vwCl [(a 0, .inr (14, [.ref (a 1), .ref (a 2), .ref (a 27), .ref (a 30), .ref (a 74), .ref (a 75), .null, .int 20, .int 0])), (a 1, .inl ((k 1), 400, .inl g))] t.heap ∧ va_D (va_A [(a 0, .inr (14, [.ref (a 1), .ref (a 2), .ref (a 27), .ref (a 30), .ref (a 74), .ref (a 75), .null, .int 16, .int 0])), (a 1, .inl ((k 1), 400, .inl f))] sz) [(a 0, .inr (14, [.ref (a 1), .ref (a 2), .ref (a 27), .ref (a 30), .ref (a 74), .ref (a 75), .null, .int 20, .int 0])), (a 1, .inl ((k 1), 400, .inl g))]) (va_A [(a 0, .inr (14, [.ref (a 1), .ref (a 2), .ref (a 27), .ref (a 30), .ref (a 74), .ref (a 75), .null, .int 16, .int 0])), (a 1, .inl ((k 1), 400, .inl f))] sz)) 0 0 (va_A [(a 0, .inr (14, [.ref (a 1), .ref (a 2), .ref (a 27), .ref (a 30), .ref (a 74), .ref (a 75), .null, .int 16, .int 0])), (a 1, .inl ((k 1), 400, .inl f))] sz) := by
  refine Met.ofW (cc := cX11_feedOne) (maxL := 3) (ret := none) (by decide) rfl ?_
  intro p e s m args below meth c s₁ B hml hv
  obtain ⟨rfl, hsz, hP, hK, hD0, hE⟩ := hv
  have hx := B.exec
  have hb := B.bytes
  have hr := B.returns
  have hts := atoms_spec (ws := w_x_feedOne16) B.pre
  have hown : s.vm.findClass RX11 = some m.cls := findClass_of_methodNamed B.named
  have hlocks := B.notSynchronized
  subst hsz
  have hD := hD0.self (sz := s.heap.size)
  generalize hAe : va_A [(a 0, .inr (14, [.ref (a 1), .ref (a 2), .ref (a 27), .ref (a 30), .ref (a 74), .ref (a 75), .null, .int 16, .int 0])), (a 1, .inl ((k 1), 400, .inl f))] s.heap.size = A at hD hE ⊢
  have hA : ∀ q : Nat, s.heap.size ≤ q → A q := fun q h => by rw [← hAe]; exact Or.inr h
  have hS : va_S A s.heap s.heap [] := va_S.rf
  have hP : va_P (dC, dI) vwCl [(a 0, .inr (14, [.ref (a 1), .ref (a 2), .ref (a 27), .ref (a 30), .ref (a 74), .ref (a 75), .null, .int 16, .int 0])), (a 1, .inl ((k 1), 400, .inl f))] s.heap := hP
  have hl := lv_entry ([.ref (a 0), .int n]) (n := 3) (Nat.le_of_ble_eq_true rfl)
  rw [lg_entry_eq]
  generalize (lg_sl ([.ref (a 0), .int n]) ++ List.replicate (3 - (lg_sl ([.ref (a 0), .int n])).length) Slot.unset).toArray = ls at hl ⊢
  have hl : lv_has ls 3 [(0, .ref (a 0)), (1, .int n)] := hl
  refine lv_bipush (v := 24) hx hb dX11_feedOne_0 (by decide) ?_
  refine lv_istore_n (lv' := [(2, .int 24), (0, .ref (a 0)), (1, .int n)]) hx hb dX11_feedOne_2 rfl hl (by decide) rfl (fun ls hl => ?_)
  refine lv_iload_n hx hb dX11_feedOne_3 rfl (lv_at hl 0 rfl) ?_
  refine lv_if_lt (tgt := 39) hx hb dX11_feedOne_4 (by decide) (fun c1 => absurd c1 (by decide)) (fun c1 => ?_)
  refine lv_aload_n hx hb dX11_feedOne_7 rfl (lv_at hl 1 rfl) ?_
  refine va_get (D := (dC, dI)) (ci := 14) (v := .ref (a 1)) (C := RX11) (T := TX11) (N := 9) hx hb hts bF_X11 hown hK hP 0 rfl rfl 0 (by decide) (ht_at hts 0 rfl) (fun _ h9 => h9) rfl dX11_feedOne_8 ?_
  refine lv_aload_n hx hb dX11_feedOne_11 rfl (lv_at hl 1 rfl) ?_
  refine va_get (D := (dC, dI)) (ci := 14) (v := .int 16) (C := RX11) (T := TX11) (N := 9) hx hb hts bF_X11 hown hK hP 0 rfl rfl 7 (by decide) (ht_at hts 1 rfl) (fun _ h9 => h9) rfl dX11_feedOne_12 ?_
  refine lv_iload_n hx hb dX11_feedOne_15 rfl (lv_at hl 2 rfl) ?_
  refine lv_iload_n hx hb dX11_feedOne_16 rfl (lv_at hl 0 rfl) ?_
  refine lv_iushr hx hb dX11_feedOne_17 rfl ?_
  refine lv_topi (fun x2 ex2 => ?_)
  refine lv_sipush (v := 255) hx hb dX11_feedOne_18 (by decide) ?_
  refine lv_iand hx hb dX11_feedOne_21 ?_
  refine lv_topi (fun x3 ex3 => ?_)
  refine va_iast hx hb hK hP hD hS 1 0 rfl rfl (by unfold vp_in; decide) dX11_feedOne_22 (fun H locs hP hD hS => ?_)
  have hP : va_P (dC, dI) vwCl [(a 0, .inr (14, [.ref (a 1), .ref (a 2), .ref (a 27), .ref (a 30), .ref (a 74), .ref (a 75), .null, .int 16, .int 0])), (a 1, .inl ((k 1), 400, .inl (upd f (16 : Int32).toNatClampNeg x3)))] H := hP
  have hD : va_D A [(a 0, .inr (14, [.ref (a 1), .ref (a 2), .ref (a 27), .ref (a 30), .ref (a 74), .ref (a 75), .null, .int 16, .int 0])), (a 1, .inl ((k 1), 400, .inl (upd f (16 : Int32).toNatClampNeg x3)))] := hD
  refine lv_aload_n hx hb dX11_feedOne_23 rfl (lv_at hl 1 rfl) ?_
  refine lv_dup hx hb dX11_feedOne_24 rfl ?_
  refine va_get (D := (dC, dI)) (ci := 14) (v := .int 16) (C := RX11) (T := TX11) (N := 9) hx hb hts bF_X11 hown hK hP 0 rfl rfl 7 (by decide) (ht_at hts 1 rfl) (fun _ h9 => h9) rfl dX11_feedOne_25 ?_
  refine lv_iconst (v := 1) hx hb dX11_feedOne_28 (by decide) ?_
  refine lv_iadd hx hb dX11_feedOne_29 ?_
  refine lv_topi (fun x4 ex4 => ?_)
  obtain rfl : x4 = 17 := ex4.trans (by decide)
  refine va_put (D := (dC, dI)) (ci := 14) (v := .int 17) (ty := .int) (C := RX11) (T := TX11) (N := 9) hx hb hts bF_X11 tyX11 tyX11_ok nmX11 hown hK hP hD hS 0 rfl rfl 7 (by decide) (ht_at hts 1 rfl) (fun _ h9 => h9) rfl (by decide +kernel) rfl rfl (Nat.le_of_ble_eq_true rfl) dX11_feedOne_30 (fun H locs hP hD hS => ?_)
  have hP : va_P (dC, dI) vwCl [(a 0, .inr (14, [.ref (a 1), .ref (a 2), .ref (a 27), .ref (a 30), .ref (a 74), .ref (a 75), .null, .int 17, .int 0])), (a 1, .inl ((k 1), 400, .inl (upd f (16 : Int32).toNatClampNeg x3)))] H := hP
  have hD : va_D A [(a 0, .inr (14, [.ref (a 1), .ref (a 2), .ref (a 27), .ref (a 30), .ref (a 74), .ref (a 75), .null, .int 17, .int 0])), (a 1, .inl ((k 1), 400, .inl (upd f (16 : Int32).toNatClampNeg x3)))] := hD
  refine lv_iinc (v := 16) (lv' := [(2, .int 16), (0, .ref (a 0)), (1, .int n)]) hx hb dX11_feedOne_33 hl (k := 0) rfl (by decide) (by decide) rfl (fun ls hl => ?_)
  refine lv_goto (tgt := 3) hx hb dX11_feedOne_36 (by decide) ?_
  refine lv_iload_n hx hb dX11_feedOne_3 rfl (lv_at hl 0 rfl) ?_
  refine lv_if_lt (tgt := 39) hx hb dX11_feedOne_4 (by decide) (fun c5 => absurd c5 (by decide)) (fun c5 => ?_)
  refine lv_aload_n hx hb dX11_feedOne_7 rfl (lv_at hl 1 rfl) ?_
  refine va_get (D := (dC, dI)) (ci := 14) (v := .ref (a 1)) (C := RX11) (T := TX11) (N := 9) hx hb hts bF_X11 hown hK hP 0 rfl rfl 0 (by decide) (ht_at hts 0 rfl) (fun _ h9 => h9) rfl dX11_feedOne_8 ?_
  refine lv_aload_n hx hb dX11_feedOne_11 rfl (lv_at hl 1 rfl) ?_
  refine va_get (D := (dC, dI)) (ci := 14) (v := .int 17) (C := RX11) (T := TX11) (N := 9) hx hb hts bF_X11 hown hK hP 0 rfl rfl 7 (by decide) (ht_at hts 1 rfl) (fun _ h9 => h9) rfl dX11_feedOne_12 ?_
  refine lv_iload_n hx hb dX11_feedOne_15 rfl (lv_at hl 2 rfl) ?_
  refine lv_iload_n hx hb dX11_feedOne_16 rfl (lv_at hl 0 rfl) ?_
  refine lv_iushr hx hb dX11_feedOne_17 rfl ?_
  refine lv_topi (fun x6 ex6 => ?_)
  refine lv_sipush (v := 255) hx hb dX11_feedOne_18 (by decide) ?_
  refine lv_iand hx hb dX11_feedOne_21 ?_
  refine lv_topi (fun x7 ex7 => ?_)
  refine va_iast hx hb hK hP hD hS 1 0 rfl rfl (by unfold vp_in; decide) dX11_feedOne_22 (fun H locs hP hD hS => ?_)
  have hP : va_P (dC, dI) vwCl [(a 0, .inr (14, [.ref (a 1), .ref (a 2), .ref (a 27), .ref (a 30), .ref (a 74), .ref (a 75), .null, .int 17, .int 0])), (a 1, .inl ((k 1), 400, .inl (upd (upd f (16 : Int32).toNatClampNeg x3) (17 : Int32).toNatClampNeg x7)))] H := hP
  have hD : va_D A [(a 0, .inr (14, [.ref (a 1), .ref (a 2), .ref (a 27), .ref (a 30), .ref (a 74), .ref (a 75), .null, .int 17, .int 0])), (a 1, .inl ((k 1), 400, .inl (upd (upd f (16 : Int32).toNatClampNeg x3) (17 : Int32).toNatClampNeg x7)))] := hD
  refine lv_aload_n hx hb dX11_feedOne_23 rfl (lv_at hl 1 rfl) ?_
  refine lv_dup hx hb dX11_feedOne_24 rfl ?_
  refine va_get (D := (dC, dI)) (ci := 14) (v := .int 17) (C := RX11) (T := TX11) (N := 9) hx hb hts bF_X11 hown hK hP 0 rfl rfl 7 (by decide) (ht_at hts 1 rfl) (fun _ h9 => h9) rfl dX11_feedOne_25 ?_
  refine lv_iconst (v := 1) hx hb dX11_feedOne_28 (by decide) ?_
  refine lv_iadd hx hb dX11_feedOne_29 ?_
  refine lv_topi (fun x8 ex8 => ?_)
  obtain rfl : x8 = 18 := ex8.trans (by decide)
  refine va_put (D := (dC, dI)) (ci := 14) (v := .int 18) (ty := .int) (C := RX11) (T := TX11) (N := 9) hx hb hts bF_X11 tyX11 tyX11_ok nmX11 hown hK hP hD hS 0 rfl rfl 7 (by decide) (ht_at hts 1 rfl) (fun _ h9 => h9) rfl (by decide +kernel) rfl rfl (Nat.le_of_ble_eq_true rfl) dX11_feedOne_30 (fun H locs hP hD hS => ?_)
  have hP : va_P (dC, dI) vwCl [(a 0, .inr (14, [.ref (a 1), .ref (a 2), .ref (a 27), .ref (a 30), .ref (a 74), .ref (a 75), .null, .int 18, .int 0])), (a 1, .inl ((k 1), 400, .inl (upd (upd f (16 : Int32).toNatClampNeg x3) (17 : Int32).toNatClampNeg x7)))] H := hP
  have hD : va_D A [(a 0, .inr (14, [.ref (a 1), .ref (a 2), .ref (a 27), .ref (a 30), .ref (a 74), .ref (a 75), .null, .int 18, .int 0])), (a 1, .inl ((k 1), 400, .inl (upd (upd f (16 : Int32).toNatClampNeg x3) (17 : Int32).toNatClampNeg x7)))] := hD
  refine lv_iinc (v := 8) (lv' := [(2, .int 8), (0, .ref (a 0)), (1, .int n)]) hx hb dX11_feedOne_33 hl (k := 0) rfl (by decide) (by decide) rfl (fun ls hl => ?_)
  refine lv_goto (tgt := 3) hx hb dX11_feedOne_36 (by decide) ?_
  refine lv_iload_n hx hb dX11_feedOne_3 rfl (lv_at hl 0 rfl) ?_
  refine lv_if_lt (tgt := 39) hx hb dX11_feedOne_4 (by decide) (fun c9 => absurd c9 (by decide)) (fun c9 => ?_)
  refine lv_aload_n hx hb dX11_feedOne_7 rfl (lv_at hl 1 rfl) ?_
  refine va_get (D := (dC, dI)) (ci := 14) (v := .ref (a 1)) (C := RX11) (T := TX11) (N := 9) hx hb hts bF_X11 hown hK hP 0 rfl rfl 0 (by decide) (ht_at hts 0 rfl) (fun _ h9 => h9) rfl dX11_feedOne_8 ?_
  refine lv_aload_n hx hb dX11_feedOne_11 rfl (lv_at hl 1 rfl) ?_
  refine va_get (D := (dC, dI)) (ci := 14) (v := .int 18) (C := RX11) (T := TX11) (N := 9) hx hb hts bF_X11 hown hK hP 0 rfl rfl 7 (by decide) (ht_at hts 1 rfl) (fun _ h9 => h9) rfl dX11_feedOne_12 ?_
  refine lv_iload_n hx hb dX11_feedOne_15 rfl (lv_at hl 2 rfl) ?_
  refine lv_iload_n hx hb dX11_feedOne_16 rfl (lv_at hl 0 rfl) ?_
  refine lv_iushr hx hb dX11_feedOne_17 rfl ?_
  refine lv_topi (fun x10 ex10 => ?_)
  refine lv_sipush (v := 255) hx hb dX11_feedOne_18 (by decide) ?_
  refine lv_iand hx hb dX11_feedOne_21 ?_
  refine lv_topi (fun x11 ex11 => ?_)
  refine va_iast hx hb hK hP hD hS 1 0 rfl rfl (by unfold vp_in; decide) dX11_feedOne_22 (fun H locs hP hD hS => ?_)
  have hP : va_P (dC, dI) vwCl [(a 0, .inr (14, [.ref (a 1), .ref (a 2), .ref (a 27), .ref (a 30), .ref (a 74), .ref (a 75), .null, .int 18, .int 0])), (a 1, .inl ((k 1), 400, .inl (upd (upd (upd f (16 : Int32).toNatClampNeg x3) (17 : Int32).toNatClampNeg x7) (18 : Int32).toNatClampNeg x11)))] H := hP
  have hD : va_D A [(a 0, .inr (14, [.ref (a 1), .ref (a 2), .ref (a 27), .ref (a 30), .ref (a 74), .ref (a 75), .null, .int 18, .int 0])), (a 1, .inl ((k 1), 400, .inl (upd (upd (upd f (16 : Int32).toNatClampNeg x3) (17 : Int32).toNatClampNeg x7) (18 : Int32).toNatClampNeg x11)))] := hD
  refine lv_aload_n hx hb dX11_feedOne_23 rfl (lv_at hl 1 rfl) ?_
  refine lv_dup hx hb dX11_feedOne_24 rfl ?_
  refine va_get (D := (dC, dI)) (ci := 14) (v := .int 18) (C := RX11) (T := TX11) (N := 9) hx hb hts bF_X11 hown hK hP 0 rfl rfl 7 (by decide) (ht_at hts 1 rfl) (fun _ h9 => h9) rfl dX11_feedOne_25 ?_
  refine lv_iconst (v := 1) hx hb dX11_feedOne_28 (by decide) ?_
  refine lv_iadd hx hb dX11_feedOne_29 ?_
  refine lv_topi (fun x12 ex12 => ?_)
  obtain rfl : x12 = 19 := ex12.trans (by decide)
  refine va_put (D := (dC, dI)) (ci := 14) (v := .int 19) (ty := .int) (C := RX11) (T := TX11) (N := 9) hx hb hts bF_X11 tyX11 tyX11_ok nmX11 hown hK hP hD hS 0 rfl rfl 7 (by decide) (ht_at hts 1 rfl) (fun _ h9 => h9) rfl (by decide +kernel) rfl rfl (Nat.le_of_ble_eq_true rfl) dX11_feedOne_30 (fun H locs hP hD hS => ?_)
  have hP : va_P (dC, dI) vwCl [(a 0, .inr (14, [.ref (a 1), .ref (a 2), .ref (a 27), .ref (a 30), .ref (a 74), .ref (a 75), .null, .int 19, .int 0])), (a 1, .inl ((k 1), 400, .inl (upd (upd (upd f (16 : Int32).toNatClampNeg x3) (17 : Int32).toNatClampNeg x7) (18 : Int32).toNatClampNeg x11)))] H := hP
  have hD : va_D A [(a 0, .inr (14, [.ref (a 1), .ref (a 2), .ref (a 27), .ref (a 30), .ref (a 74), .ref (a 75), .null, .int 19, .int 0])), (a 1, .inl ((k 1), 400, .inl (upd (upd (upd f (16 : Int32).toNatClampNeg x3) (17 : Int32).toNatClampNeg x7) (18 : Int32).toNatClampNeg x11)))] := hD
  refine lv_iinc (v := 0) (lv' := [(2, .int 0), (0, .ref (a 0)), (1, .int n)]) hx hb dX11_feedOne_33 hl (k := 0) rfl (by decide) (by decide) rfl (fun ls hl => ?_)
  refine lv_goto (tgt := 3) hx hb dX11_feedOne_36 (by decide) ?_
  refine lv_iload_n hx hb dX11_feedOne_3 rfl (lv_at hl 0 rfl) ?_
  refine lv_if_lt (tgt := 39) hx hb dX11_feedOne_4 (by decide) (fun c13 => absurd c13 (by decide)) (fun c13 => ?_)
  refine lv_aload_n hx hb dX11_feedOne_7 rfl (lv_at hl 1 rfl) ?_
  refine va_get (D := (dC, dI)) (ci := 14) (v := .ref (a 1)) (C := RX11) (T := TX11) (N := 9) hx hb hts bF_X11 hown hK hP 0 rfl rfl 0 (by decide) (ht_at hts 0 rfl) (fun _ h9 => h9) rfl dX11_feedOne_8 ?_
  refine lv_aload_n hx hb dX11_feedOne_11 rfl (lv_at hl 1 rfl) ?_
  refine va_get (D := (dC, dI)) (ci := 14) (v := .int 19) (C := RX11) (T := TX11) (N := 9) hx hb hts bF_X11 hown hK hP 0 rfl rfl 7 (by decide) (ht_at hts 1 rfl) (fun _ h9 => h9) rfl dX11_feedOne_12 ?_
  refine lv_iload_n hx hb dX11_feedOne_15 rfl (lv_at hl 2 rfl) ?_
  refine lv_iload_n hx hb dX11_feedOne_16 rfl (lv_at hl 0 rfl) ?_
  refine lv_iushr hx hb dX11_feedOne_17 rfl ?_
  refine lv_topi (fun x14 ex14 => ?_)
  refine lv_sipush (v := 255) hx hb dX11_feedOne_18 (by decide) ?_
  refine lv_iand hx hb dX11_feedOne_21 ?_
  refine lv_topi (fun x15 ex15 => ?_)
  refine va_iast hx hb hK hP hD hS 1 0 rfl rfl (by unfold vp_in; decide) dX11_feedOne_22 (fun H locs hP hD hS => ?_)
  have hP : va_P (dC, dI) vwCl [(a 0, .inr (14, [.ref (a 1), .ref (a 2), .ref (a 27), .ref (a 30), .ref (a 74), .ref (a 75), .null, .int 19, .int 0])), (a 1, .inl ((k 1), 400, .inl (upd (upd (upd (upd f (16 : Int32).toNatClampNeg x3) (17 : Int32).toNatClampNeg x7) (18 : Int32).toNatClampNeg x11) (19 : Int32).toNatClampNeg x15)))] H := hP
  have hD : va_D A [(a 0, .inr (14, [.ref (a 1), .ref (a 2), .ref (a 27), .ref (a 30), .ref (a 74), .ref (a 75), .null, .int 19, .int 0])), (a 1, .inl ((k 1), 400, .inl (upd (upd (upd (upd f (16 : Int32).toNatClampNeg x3) (17 : Int32).toNatClampNeg x7) (18 : Int32).toNatClampNeg x11) (19 : Int32).toNatClampNeg x15)))] := hD
  refine lv_aload_n hx hb dX11_feedOne_23 rfl (lv_at hl 1 rfl) ?_
  refine lv_dup hx hb dX11_feedOne_24 rfl ?_
  refine va_get (D := (dC, dI)) (ci := 14) (v := .int 19) (C := RX11) (T := TX11) (N := 9) hx hb hts bF_X11 hown hK hP 0 rfl rfl 7 (by decide) (ht_at hts 1 rfl) (fun _ h9 => h9) rfl dX11_feedOne_25 ?_
  refine lv_iconst (v := 1) hx hb dX11_feedOne_28 (by decide) ?_
  refine lv_iadd hx hb dX11_feedOne_29 ?_
  refine lv_topi (fun x16 ex16 => ?_)
  obtain rfl : x16 = 20 := ex16.trans (by decide)
  refine va_put (D := (dC, dI)) (ci := 14) (v := .int 20) (ty := .int) (C := RX11) (T := TX11) (N := 9) hx hb hts bF_X11 tyX11 tyX11_ok nmX11 hown hK hP hD hS 0 rfl rfl 7 (by decide) (ht_at hts 1 rfl) (fun _ h9 => h9) rfl (by decide +kernel) rfl rfl (Nat.le_of_ble_eq_true rfl) dX11_feedOne_30 (fun H locs hP hD hS => ?_)
  have hP : va_P (dC, dI) vwCl [(a 0, .inr (14, [.ref (a 1), .ref (a 2), .ref (a 27), .ref (a 30), .ref (a 74), .ref (a 75), .null, .int 20, .int 0])), (a 1, .inl ((k 1), 400, .inl (upd (upd (upd (upd f (16 : Int32).toNatClampNeg x3) (17 : Int32).toNatClampNeg x7) (18 : Int32).toNatClampNeg x11) (19 : Int32).toNatClampNeg x15)))] H := hP
  have hD : va_D A [(a 0, .inr (14, [.ref (a 1), .ref (a 2), .ref (a 27), .ref (a 30), .ref (a 74), .ref (a 75), .null, .int 20, .int 0])), (a 1, .inl ((k 1), 400, .inl (upd (upd (upd (upd f (16 : Int32).toNatClampNeg x3) (17 : Int32).toNatClampNeg x7) (18 : Int32).toNatClampNeg x11) (19 : Int32).toNatClampNeg x15)))] := hD
  refine lv_iinc (v := (-8)) (lv' := [(2, .int (-8)), (0, .ref (a 0)), (1, .int n)]) hx hb dX11_feedOne_33 hl (k := 0) rfl (by decide) (by decide) rfl (fun ls hl => ?_)
  refine lv_goto (tgt := 3) hx hb dX11_feedOne_36 (by decide) ?_
  refine lv_iload_n hx hb dX11_feedOne_3 rfl (lv_at hl 0 rfl) ?_
  refine lv_if_lt (tgt := 39) hx hb dX11_feedOne_4 (by decide) (fun c17 => ?_) (fun c17 => absurd c17 (by decide))
  exact W.vret hx hb hr (fun t ht hW => ⟨⟨(upd (upd (upd (upd f (16 : Int32).toNatClampNeg x3) (17 : Int32).toNatClampNeg x7) (18 : Int32).toNatClampNeg x11) (19 : Int32).toNatClampNeg x15), rfl, (by trivial), by rw [ht]; exact hP.sub (ws' := [(a 0, .inr (14, [.ref (a 1), .ref (a 2), .ref (a 27), .ref (a 30), .ref (a 74), .ref (a 75), .null, .int 20, .int 0])), (a 1, .inl ((k 1), 400, .inl (upd (upd (upd (upd f (16 : Int32).toNatClampNeg x3) (17 : Int32).toNatClampNeg x7) (18 : Int32).toNatClampNeg x11) (19 : Int32).toNatClampNeg x15)))]) [0, 1] rfl, hD.sub (ws' := [(a 0, .inr (14, [.ref (a 1), .ref (a 2), .ref (a 27), .ref (a 30), .ref (a 74), .ref (a 75), .null, .int 20, .int 0])), (a 1, .inl ((k 1), 400, .inl (upd (upd (upd (upd f (16 : Int32).toNatClampNeg x3) (17 : Int32).toNatClampNeg x7) (18 : Int32).toNatClampNeg x11) (19 : Int32).toNatClampNeg x15)))]) [0, 1] (by decide) rfl⟩, hS.F ht⟩) hS.2.2 dX11_feedOne_39
def w_x_feed : List Cond := .code yX11_feed cX11_feed 6 (some .int) :: ([.fieldLink RX11 47 "SeaLand" "taped" "I", .code yX11_feedOne cX11_feedOne 3 none, .fieldLink RX11 9 "SeaLand" "tape" "[I", .methodLink RX11 51 yX11_feedOne, .instanceMethod yX11_feedOne, .selects RX11 yX11_feedOne yX11_feedOne, .initialized RX11] ++ bs)
set_option maxHeartbeats 4000000 in
set_option maxRecDepth 100000 in
theorem x_feed (l : Launch) (dC : Nat → ClassId) (dI : Nat → Nat → Nat) (a : Nat → Nat) (k : Nat → ClassId) (p0 p1 p2 p3 p4 : Int32) (sz : Nat) : Met l yX11_feed w_x_feed ({ frames := 1, cells := 0, slots := 0, locals := 22 }) (va_Pc [.ref (a 0), .int p0, .int p1, .int p2, .int p3, .int p4] (fun U => U.heap.size = sz ∧ va_P (dC, dI) vwCl [(a 0, .inr (14, [.ref (a 1), .ref (a 2), .ref (a 27), .ref (a 30), .ref (a 74), .ref (a 75), .null, .int 0, .int 0])), (a 1, .inl ((k 1), 400, .inl (fun _ => 0)))] U.heap ∧ va_K (dC, dI) vwCl [((k 1), .int)] U ∧ va_D (fun _ => True) [(a 0, .inr (14, [.ref (a 1), .ref (a 2), .ref (a 27), .ref (a 30), .ref (a 74), .ref (a 75), .null, .int 0, .int 0])), (a 1, .inl ((k 1), 400, .inl (fun _ => 0)))] ∧ EV (va_A [(a 0, .inr (14, [.ref (a 1), .ref (a 2), .ref (a 27), .ref (a 30), .ref (a 74), .ref (a 75), .null, .int 0, .int 0])), (a 1, .inl ((k 1), 400, .inl (fun _ => 0)))] sz) U U.heap)) (va_Qi (fun (r : Int32) (u : Unit) => r = 20) (fun (_ : Unit) (_ : State) => True) (va_A [(a 0, .inr (14, [.ref (a 1), .ref (a 2), .ref (a 27), .ref (a 30), .ref (a 74), .ref (a 75), .null, .int 0, .int 0])), (a 1, .inl ((k 1), 400, .inl (fun _ => 0)))] sz)) 0 0 (va_A [(a 0, .inr (14, [.ref (a 1), .ref (a 2), .ref (a 27), .ref (a 30), .ref (a 74), .ref (a 75), .null, .int 0, .int 0])), (a 1, .inl ((k 1), 400, .inl (fun _ => 0)))] sz) := by
  refine Met.ofW (cc := cX11_feed) (maxL := 6) (ret := (some .int)) (by decide) rfl ?_
  intro p e s m args below meth c s₁ B hml hv
  obtain ⟨rfl, hsz, hP, hK, hD0, hE⟩ := hv
  have hx := B.exec
  have hb := B.bytes
  have hr := B.returns
  have hts := atoms_spec (ws := w_x_feed) B.pre
  have hown : s.vm.findClass RX11 = some m.cls := findClass_of_methodNamed B.named
  have hlocks := B.notSynchronized
  subst hsz
  have hD := hD0.self (sz := s.heap.size)
  generalize hAe : va_A [(a 0, .inr (14, [.ref (a 1), .ref (a 2), .ref (a 27), .ref (a 30), .ref (a 74), .ref (a 75), .null, .int 0, .int 0])), (a 1, .inl ((k 1), 400, .inl (fun _ => 0)))] s.heap.size = A at hD hE ⊢
  have hA : ∀ q : Nat, s.heap.size ≤ q → A q := fun q h => by rw [← hAe]; exact Or.inr h
  have hS : va_S A s.heap s.heap [] := va_S.rf
  have hP : va_P (dC, dI) vwCl [(a 0, .inr (14, [.ref (a 1), .ref (a 2), .ref (a 27), .ref (a 30), .ref (a 74), .ref (a 75), .null, .int 0, .int 0])), (a 1, .inl ((k 1), 400, .inl (fun _ => 0)))] s.heap := hP
  have hl := lv_entry ([.ref (a 0), .int p0, .int p1, .int p2, .int p3, .int p4]) (n := 6) (Nat.le_of_ble_eq_true rfl)
  rw [lg_entry_eq]
  generalize (lg_sl ([.ref (a 0), .int p0, .int p1, .int p2, .int p3, .int p4]) ++ List.replicate (6 - (lg_sl ([.ref (a 0), .int p0, .int p1, .int p2, .int p3, .int p4])).length) Slot.unset).toArray = ls at hl ⊢
  have hl : lv_has ls 6 [(0, .ref (a 0)), (1, .int p0), (2, .int p1), (3, .int p2), (4, .int p3), (5, .int p4)] := hl
  refine lv_aload_n hx hb dX11_feed_0 rfl (lv_at hl 0 rfl) ?_
  refine va_get (D := (dC, dI)) (ci := 14) (v := .int 0) (C := RX11) (T := TX11) (N := 9) hx hb hts bF_X11 hown hK hP 0 rfl rfl 7 (by decide) (ht_at hts 0 rfl) (fun _ h9 => h9) rfl dX11_feed_1 ?_
  refine lv_bipush (v := 20) hx hb dX11_feed_4 (by decide) ?_
  refine lv_iadd hx hb dX11_feed_6 ?_
  refine lv_topi (fun x1 ex1 => ?_)
  obtain rfl : x1 = 20 := ex1.trans (by decide)
  refine lv_sipush (v := 400) hx hb dX11_feed_7 (by decide) ?_
  refine lv_icmp_le (tgt := 15) hx hb dX11_feed_10 (by decide) (fun c2 => ?_) (fun c2 => absurd c2 (by decide))
  refine lv_aload_n hx hb dX11_feed_15 rfl (lv_at hl 0 rfl) ?_
  refine lv_iload_n hx hb dX11_feed_16 rfl (lv_at hl 1 rfl) ?_
  have hPc := hP.sub (ws' := [(a 0, .inr (14, [.ref (a 1), .ref (a 2), .ref (a 27), .ref (a 30), .ref (a 74), .ref (a 75), .null, .int 0, .int 0])), (a 1, .inl ((k 1), 400, .inl (fun _ => 0)))]) [0, 1] rfl
  have hDc := hD.sub (ws' := [(a 0, .inr (14, [.ref (a 1), .ref (a 2), .ref (a 27), .ref (a 30), .ref (a 74), .ref (a 75), .null, .int 0, .int 0])), (a 1, .inl ((k 1), 400, .inl (fun _ => 0)))]) [0, 1] (by decide) rfl
  have hKc := hK.sub (tys' := [((k 1), .int)]) [0] rfl
  have hFc := va_free (wc := [(a 0, .inr (14, [.ref (a 1), .ref (a 2), .ref (a 27), .ref (a 30), .ref (a 74), .ref (a 75), .null, .int 0, .int 0])), (a 1, .inl ((k 1), 400, .inl (fun _ => 0)))]) hD hS hA [0, 1] rfl
  refine va_callv (va_runV (As := [.int p0]) (rest := []) ⟨hx, hb, hml, hown, hts⟩ (x_feedOne0 l dC dI a k (fun _ => 0) p0 s.heap.size ) (cwV 1 hts (goodIn_app (goodIn_r _ [4, 5, 6, 7] (by decide +kernel) (by decide +kernel)) (goodIn_ca (goodIn_r _ [2, 3, 1] (by decide +kernel) (by decide +kernel)) (bs_in _ _))) rfl rfl rfl (by decide +kernel) ⟨(Nat.le_of_ble_eq_true rfl), (Nat.le_of_ble_eq_true rfl)⟩) ⟨fun a U g mk q => by obtain ⟨q0, q1, qP, qK, qD, qE⟩ := q; exact ⟨q0, q1, qP, va_K.moved (u := U) (U := U.calling g mk a) (Vm.Alike.refl U.vm) qK, qD, EV.blind g mk a qE⟩, va_recv hKc hPc (ci := 14) (q0 := 0) rfl rfl, fun U hU hW => ⟨rfl, by rw [hU], by rw [hU]; exact hPc, va_K.moved hW.alike hKc, hDc.weaken (fun _ _ _ _ => trivial), hE.call hS hFc hU hW⟩⟩ rfl rfl hl.1 rfl (lv_room (Nat.le_of_ble_eq_true rfl)) dX11_feed_17 ⟨(Nat.le_of_ble_eq_true rfl), (Nat.le_of_ble_eq_true rfl)⟩) hS (fun q _ h => hFc q h) hFc (fun u t H1 locs ht hvm hw5 hB hz1 hk1 hS => ?_)
  obtain ⟨g6, rfl⟩ : ∃ z, z = u := ⟨_, rfl⟩
  obtain ⟨hP1, hD1⟩ := hB
  rw [ht] at hP1
  obtain ⟨hP, hD⟩ := va_join (wr := []) (w1 := [(a 0, .inr (14, [.ref (a 1), .ref (a 2), .ref (a 27), .ref (a 30), .ref (a 74), .ref (a 75), .null, .int 4, .int 0])), (a 1, .inl ((k 1), 400, .inl g6))]) hP hD [0, 1] [] rfl rfl (by decide) (by decide) hk1 hFc hP1 hD1
  generalize H1 = H at hP hS ⊢
  have hP : va_P (dC, dI) vwCl [(a 0, .inr (14, [.ref (a 1), .ref (a 2), .ref (a 27), .ref (a 30), .ref (a 74), .ref (a 75), .null, .int 4, .int 0])), (a 1, .inl ((k 1), 400, .inl g6))] H := hP
  have hD : va_D A [(a 0, .inr (14, [.ref (a 1), .ref (a 2), .ref (a 27), .ref (a 30), .ref (a 74), .ref (a 75), .null, .int 4, .int 0])), (a 1, .inl ((k 1), 400, .inl g6))] := hD
  try dsimp only at hw5
  refine lv_aload_n hx hb dX11_feed_20 rfl (lv_at hl 0 rfl) ?_
  refine lv_iload_n hx hb dX11_feed_21 rfl (lv_at hl 2 rfl) ?_
  have hPc := hP.sub (ws' := [(a 0, .inr (14, [.ref (a 1), .ref (a 2), .ref (a 27), .ref (a 30), .ref (a 74), .ref (a 75), .null, .int 4, .int 0])), (a 1, .inl ((k 1), 400, .inl g6))]) [0, 1] rfl
  have hDc := hD.sub (ws' := [(a 0, .inr (14, [.ref (a 1), .ref (a 2), .ref (a 27), .ref (a 30), .ref (a 74), .ref (a 75), .null, .int 4, .int 0])), (a 1, .inl ((k 1), 400, .inl g6))]) [0, 1] (by decide) rfl
  have hKc := hK.sub (tys' := [((k 1), .int)]) [0] rfl
  have hFc := va_free (wc := [(a 0, .inr (14, [.ref (a 1), .ref (a 2), .ref (a 27), .ref (a 30), .ref (a 74), .ref (a 75), .null, .int 4, .int 0])), (a 1, .inl ((k 1), 400, .inl g6))]) hD hS hA [0, 1] rfl
  refine va_callv (va_runV (As := [.int p1]) (rest := []) ⟨hx, hb, hml, hown, hts⟩ (x_feedOne4 l dC dI a k g6 p1 H.size ) (cwV 1 hts (goodIn_app (goodIn_r _ [4, 5, 6, 7] (by decide +kernel) (by decide +kernel)) (goodIn_ca (goodIn_r _ [2, 3, 1] (by decide +kernel) (by decide +kernel)) (bs_in _ _))) rfl rfl rfl (by decide +kernel) ⟨(Nat.le_of_ble_eq_true rfl), (Nat.le_of_ble_eq_true rfl)⟩) ⟨fun a U g mk q => by obtain ⟨q0, q1, qP, qK, qD, qE⟩ := q; exact ⟨q0, q1, qP, va_K.moved (u := U) (U := U.calling g mk a) (Vm.Alike.refl U.vm) qK, qD, EV.blind g mk a qE⟩, va_recv hKc hPc (ci := 14) (q0 := 0) rfl rfl, fun U hU hW => ⟨rfl, by rw [hU], by rw [hU]; exact hPc, va_K.moved hW.alike hKc, hDc.weaken (fun _ _ _ _ => trivial), hE.call hS hFc hU hW⟩⟩ rfl rfl hl.1 rfl (lv_room (Nat.le_of_ble_eq_true rfl)) dX11_feed_22 ⟨(Nat.le_of_ble_eq_true rfl), (Nat.le_of_ble_eq_true rfl)⟩) hS (fun q _ h => hFc q h) hFc (fun u t H1 locs ht hvm hw9 hB hz1 hk1 hS => ?_)
  obtain ⟨g10, rfl⟩ : ∃ z, z = u := ⟨_, rfl⟩
  obtain ⟨hP1, hD1⟩ := hB
  rw [ht] at hP1
  obtain ⟨hP, hD⟩ := va_join (wr := []) (w1 := [(a 0, .inr (14, [.ref (a 1), .ref (a 2), .ref (a 27), .ref (a 30), .ref (a 74), .ref (a 75), .null, .int 8, .int 0])), (a 1, .inl ((k 1), 400, .inl g10))]) hP hD [0, 1] [] rfl rfl (by decide) (by decide) hk1 hFc hP1 hD1
  generalize H1 = H at hP hS ⊢
  have hP : va_P (dC, dI) vwCl [(a 0, .inr (14, [.ref (a 1), .ref (a 2), .ref (a 27), .ref (a 30), .ref (a 74), .ref (a 75), .null, .int 8, .int 0])), (a 1, .inl ((k 1), 400, .inl g10))] H := hP
  have hD : va_D A [(a 0, .inr (14, [.ref (a 1), .ref (a 2), .ref (a 27), .ref (a 30), .ref (a 74), .ref (a 75), .null, .int 8, .int 0])), (a 1, .inl ((k 1), 400, .inl g10))] := hD
  try dsimp only at hw9
  refine lv_aload_n hx hb dX11_feed_25 rfl (lv_at hl 0 rfl) ?_
  refine lv_iload_n hx hb dX11_feed_26 rfl (lv_at hl 3 rfl) ?_
  have hPc := hP.sub (ws' := [(a 0, .inr (14, [.ref (a 1), .ref (a 2), .ref (a 27), .ref (a 30), .ref (a 74), .ref (a 75), .null, .int 8, .int 0])), (a 1, .inl ((k 1), 400, .inl g10))]) [0, 1] rfl
  have hDc := hD.sub (ws' := [(a 0, .inr (14, [.ref (a 1), .ref (a 2), .ref (a 27), .ref (a 30), .ref (a 74), .ref (a 75), .null, .int 8, .int 0])), (a 1, .inl ((k 1), 400, .inl g10))]) [0, 1] (by decide) rfl
  have hKc := hK.sub (tys' := [((k 1), .int)]) [0] rfl
  have hFc := va_free (wc := [(a 0, .inr (14, [.ref (a 1), .ref (a 2), .ref (a 27), .ref (a 30), .ref (a 74), .ref (a 75), .null, .int 8, .int 0])), (a 1, .inl ((k 1), 400, .inl g10))]) hD hS hA [0, 1] rfl
  refine va_callv (va_runV (As := [.int p2]) (rest := []) ⟨hx, hb, hml, hown, hts⟩ (x_feedOne8 l dC dI a k g10 p2 H.size ) (cwV 1 hts (goodIn_app (goodIn_r _ [4, 5, 6, 7] (by decide +kernel) (by decide +kernel)) (goodIn_ca (goodIn_r _ [2, 3, 1] (by decide +kernel) (by decide +kernel)) (bs_in _ _))) rfl rfl rfl (by decide +kernel) ⟨(Nat.le_of_ble_eq_true rfl), (Nat.le_of_ble_eq_true rfl)⟩) ⟨fun a U g mk q => by obtain ⟨q0, q1, qP, qK, qD, qE⟩ := q; exact ⟨q0, q1, qP, va_K.moved (u := U) (U := U.calling g mk a) (Vm.Alike.refl U.vm) qK, qD, EV.blind g mk a qE⟩, va_recv hKc hPc (ci := 14) (q0 := 0) rfl rfl, fun U hU hW => ⟨rfl, by rw [hU], by rw [hU]; exact hPc, va_K.moved hW.alike hKc, hDc.weaken (fun _ _ _ _ => trivial), hE.call hS hFc hU hW⟩⟩ rfl rfl hl.1 rfl (lv_room (Nat.le_of_ble_eq_true rfl)) dX11_feed_27 ⟨(Nat.le_of_ble_eq_true rfl), (Nat.le_of_ble_eq_true rfl)⟩) hS (fun q _ h => hFc q h) hFc (fun u t H1 locs ht hvm hw13 hB hz1 hk1 hS => ?_)
  obtain ⟨g14, rfl⟩ : ∃ z, z = u := ⟨_, rfl⟩
  obtain ⟨hP1, hD1⟩ := hB
  rw [ht] at hP1
  obtain ⟨hP, hD⟩ := va_join (wr := []) (w1 := [(a 0, .inr (14, [.ref (a 1), .ref (a 2), .ref (a 27), .ref (a 30), .ref (a 74), .ref (a 75), .null, .int 12, .int 0])), (a 1, .inl ((k 1), 400, .inl g14))]) hP hD [0, 1] [] rfl rfl (by decide) (by decide) hk1 hFc hP1 hD1
  generalize H1 = H at hP hS ⊢
  have hP : va_P (dC, dI) vwCl [(a 0, .inr (14, [.ref (a 1), .ref (a 2), .ref (a 27), .ref (a 30), .ref (a 74), .ref (a 75), .null, .int 12, .int 0])), (a 1, .inl ((k 1), 400, .inl g14))] H := hP
  have hD : va_D A [(a 0, .inr (14, [.ref (a 1), .ref (a 2), .ref (a 27), .ref (a 30), .ref (a 74), .ref (a 75), .null, .int 12, .int 0])), (a 1, .inl ((k 1), 400, .inl g14))] := hD
  try dsimp only at hw13
  refine lv_aload_n hx hb dX11_feed_30 rfl (lv_at hl 0 rfl) ?_
  refine lv_iload hx hb dX11_feed_31 (lv_at hl 4 rfl) ?_
  have hPc := hP.sub (ws' := [(a 0, .inr (14, [.ref (a 1), .ref (a 2), .ref (a 27), .ref (a 30), .ref (a 74), .ref (a 75), .null, .int 12, .int 0])), (a 1, .inl ((k 1), 400, .inl g14))]) [0, 1] rfl
  have hDc := hD.sub (ws' := [(a 0, .inr (14, [.ref (a 1), .ref (a 2), .ref (a 27), .ref (a 30), .ref (a 74), .ref (a 75), .null, .int 12, .int 0])), (a 1, .inl ((k 1), 400, .inl g14))]) [0, 1] (by decide) rfl
  have hKc := hK.sub (tys' := [((k 1), .int)]) [0] rfl
  have hFc := va_free (wc := [(a 0, .inr (14, [.ref (a 1), .ref (a 2), .ref (a 27), .ref (a 30), .ref (a 74), .ref (a 75), .null, .int 12, .int 0])), (a 1, .inl ((k 1), 400, .inl g14))]) hD hS hA [0, 1] rfl
  refine va_callv (va_runV (As := [.int p3]) (rest := []) ⟨hx, hb, hml, hown, hts⟩ (x_feedOne12 l dC dI a k g14 p3 H.size ) (cwV 1 hts (goodIn_app (goodIn_r _ [4, 5, 6, 7] (by decide +kernel) (by decide +kernel)) (goodIn_ca (goodIn_r _ [2, 3, 1] (by decide +kernel) (by decide +kernel)) (bs_in _ _))) rfl rfl rfl (by decide +kernel) ⟨(Nat.le_of_ble_eq_true rfl), (Nat.le_of_ble_eq_true rfl)⟩) ⟨fun a U g mk q => by obtain ⟨q0, q1, qP, qK, qD, qE⟩ := q; exact ⟨q0, q1, qP, va_K.moved (u := U) (U := U.calling g mk a) (Vm.Alike.refl U.vm) qK, qD, EV.blind g mk a qE⟩, va_recv hKc hPc (ci := 14) (q0 := 0) rfl rfl, fun U hU hW => ⟨rfl, by rw [hU], by rw [hU]; exact hPc, va_K.moved hW.alike hKc, hDc.weaken (fun _ _ _ _ => trivial), hE.call hS hFc hU hW⟩⟩ rfl rfl hl.1 rfl (lv_room (Nat.le_of_ble_eq_true rfl)) dX11_feed_33 ⟨(Nat.le_of_ble_eq_true rfl), (Nat.le_of_ble_eq_true rfl)⟩) hS (fun q _ h => hFc q h) hFc (fun u t H1 locs ht hvm hw17 hB hz1 hk1 hS => ?_)
  obtain ⟨g18, rfl⟩ : ∃ z, z = u := ⟨_, rfl⟩
  obtain ⟨hP1, hD1⟩ := hB
  rw [ht] at hP1
  obtain ⟨hP, hD⟩ := va_join (wr := []) (w1 := [(a 0, .inr (14, [.ref (a 1), .ref (a 2), .ref (a 27), .ref (a 30), .ref (a 74), .ref (a 75), .null, .int 16, .int 0])), (a 1, .inl ((k 1), 400, .inl g18))]) hP hD [0, 1] [] rfl rfl (by decide) (by decide) hk1 hFc hP1 hD1
  generalize H1 = H at hP hS ⊢
  have hP : va_P (dC, dI) vwCl [(a 0, .inr (14, [.ref (a 1), .ref (a 2), .ref (a 27), .ref (a 30), .ref (a 74), .ref (a 75), .null, .int 16, .int 0])), (a 1, .inl ((k 1), 400, .inl g18))] H := hP
  have hD : va_D A [(a 0, .inr (14, [.ref (a 1), .ref (a 2), .ref (a 27), .ref (a 30), .ref (a 74), .ref (a 75), .null, .int 16, .int 0])), (a 1, .inl ((k 1), 400, .inl g18))] := hD
  try dsimp only at hw17
  refine lv_aload_n hx hb dX11_feed_36 rfl (lv_at hl 0 rfl) ?_
  refine lv_iload hx hb dX11_feed_37 (lv_at hl 5 rfl) ?_
  have hPc := hP.sub (ws' := [(a 0, .inr (14, [.ref (a 1), .ref (a 2), .ref (a 27), .ref (a 30), .ref (a 74), .ref (a 75), .null, .int 16, .int 0])), (a 1, .inl ((k 1), 400, .inl g18))]) [0, 1] rfl
  have hDc := hD.sub (ws' := [(a 0, .inr (14, [.ref (a 1), .ref (a 2), .ref (a 27), .ref (a 30), .ref (a 74), .ref (a 75), .null, .int 16, .int 0])), (a 1, .inl ((k 1), 400, .inl g18))]) [0, 1] (by decide) rfl
  have hKc := hK.sub (tys' := [((k 1), .int)]) [0] rfl
  have hFc := va_free (wc := [(a 0, .inr (14, [.ref (a 1), .ref (a 2), .ref (a 27), .ref (a 30), .ref (a 74), .ref (a 75), .null, .int 16, .int 0])), (a 1, .inl ((k 1), 400, .inl g18))]) hD hS hA [0, 1] rfl
  refine va_callv (va_runV (As := [.int p4]) (rest := []) ⟨hx, hb, hml, hown, hts⟩ (x_feedOne16 l dC dI a k g18 p4 H.size ) (cwV 1 hts (goodIn_app (goodIn_r _ [4, 5, 6, 7] (by decide +kernel) (by decide +kernel)) (goodIn_ca (goodIn_r _ [2, 3, 1] (by decide +kernel) (by decide +kernel)) (bs_in _ _))) rfl rfl rfl (by decide +kernel) ⟨(Nat.le_of_ble_eq_true rfl), (Nat.le_of_ble_eq_true rfl)⟩) ⟨fun a U g mk q => by obtain ⟨q0, q1, qP, qK, qD, qE⟩ := q; exact ⟨q0, q1, qP, va_K.moved (u := U) (U := U.calling g mk a) (Vm.Alike.refl U.vm) qK, qD, EV.blind g mk a qE⟩, va_recv hKc hPc (ci := 14) (q0 := 0) rfl rfl, fun U hU hW => ⟨rfl, by rw [hU], by rw [hU]; exact hPc, va_K.moved hW.alike hKc, hDc.weaken (fun _ _ _ _ => trivial), hE.call hS hFc hU hW⟩⟩ rfl rfl hl.1 rfl (lv_room (Nat.le_of_ble_eq_true rfl)) dX11_feed_39 ⟨(Nat.le_of_ble_eq_true rfl), (Nat.le_of_ble_eq_true rfl)⟩) hS (fun q _ h => hFc q h) hFc (fun u t H1 locs ht hvm hw21 hB hz1 hk1 hS => ?_)
  obtain ⟨g22, rfl⟩ : ∃ z, z = u := ⟨_, rfl⟩
  obtain ⟨hP1, hD1⟩ := hB
  rw [ht] at hP1
  obtain ⟨hP, hD⟩ := va_join (wr := []) (w1 := [(a 0, .inr (14, [.ref (a 1), .ref (a 2), .ref (a 27), .ref (a 30), .ref (a 74), .ref (a 75), .null, .int 20, .int 0])), (a 1, .inl ((k 1), 400, .inl g22))]) hP hD [0, 1] [] rfl rfl (by decide) (by decide) hk1 hFc hP1 hD1
  generalize H1 = H at hP hS ⊢
  have hP : va_P (dC, dI) vwCl [(a 0, .inr (14, [.ref (a 1), .ref (a 2), .ref (a 27), .ref (a 30), .ref (a 74), .ref (a 75), .null, .int 20, .int 0])), (a 1, .inl ((k 1), 400, .inl g22))] H := hP
  have hD : va_D A [(a 0, .inr (14, [.ref (a 1), .ref (a 2), .ref (a 27), .ref (a 30), .ref (a 74), .ref (a 75), .null, .int 20, .int 0])), (a 1, .inl ((k 1), 400, .inl g22))] := hD
  try dsimp only at hw21
  refine lv_aload_n hx hb dX11_feed_42 rfl (lv_at hl 0 rfl) ?_
  refine va_get (D := (dC, dI)) (ci := 14) (v := .int 20) (C := RX11) (T := TX11) (N := 9) hx hb hts bF_X11 hown hK hP 0 rfl rfl 7 (by decide) (ht_at hts 0 rfl) (fun _ h9 => h9) rfl dX11_feed_43 ?_
  exact W.iret (v := 20) hx hb hr (fun t ht hW => ⟨⟨20, (), rfl, (by rfl), trivial⟩, hS.F ht⟩) hS.2.2 dX11_feed_46
def w_m_feed : List Cond := .code yX12_feed cX12_feed 7 (some .int) :: ([.fieldLink RX12 194 "SeaLandModel" "thrown" "I", .fieldLink RX12 332 "SeaLandModel" "taped" "I", .fieldLink RX12 39 "SeaLandModel" "five" "[I", .fieldLink RX12 31 "SeaLandModel" "tape" "[B"] ++ bs)
set_option maxHeartbeats 4000000 in
set_option maxRecDepth 100000 in
theorem m_feed (l : Launch) (dC : Nat → ClassId) (dI : Nat → Nat → Nat) (h0 : Nat) (q : Nat → Nat) (cm : Nat → ClassId) (p0 p1 p2 p3 p4 : Int32) (sz : Nat) : Met l yX12_feed w_m_feed ({ frames := 0, cells := 0, slots := 0, locals := 0 }) (va_Pc [.ref h0, .int p0, .int p1, .int p2, .int p3, .int p4] (fun U => U.heap.size = sz ∧ va_P (dC, dI) vwCl [(h0, .inr (15, mF q 0)), (q 10, .inl ((cm 10), 400, .inl (fun _ => 0))), (q 17, .inl ((cm 17), 5, .inl (fun _ => 0)))] U.heap ∧ va_K (dC, dI) vwCl [((cm 10), .byte), ((cm 17), .int)] U ∧ va_D (fun _ => True) [(h0, .inr (15, mF q 0)), (q 10, .inl ((cm 10), 400, .inl (fun _ => 0))), (q 17, .inl ((cm 17), 5, .inl (fun _ => 0)))])) (va_Qi (fun (r : Int32) (u : List Value) => u[0]? = some (.int (T_feed p0 p1 p2 p3 p4).1) ∧ ((T_feed p0 p1 p2 p3 p4).1 = 0 → r = (T_feed p0 p1 p2 p3 p4).2)) (fun (fs : List Value) (t : State) => va_P (dC, dI) vwCl [(h0, .inr (15, fs))] t.heap ∧ va_D (va_A [(h0, .inr (15, mF q 0)), (q 10, .inl ((cm 10), 400, .inl (fun _ => 0))), (q 17, .inl ((cm 17), 5, .inl (fun _ => 0)))] sz) [(h0, .inr (15, fs))]) (va_A [(h0, .inr (15, mF q 0)), (q 10, .inl ((cm 10), 400, .inl (fun _ => 0))), (q 17, .inl ((cm 17), 5, .inl (fun _ => 0)))] sz)) 0 0 (va_A [(h0, .inr (15, mF q 0)), (q 10, .inl ((cm 10), 400, .inl (fun _ => 0))), (q 17, .inl ((cm 17), 5, .inl (fun _ => 0)))] sz) := by
  refine Met.ofW (cc := cX12_feed) (maxL := 7) (ret := (some .int)) (by decide) rfl ?_
  intro p e s m args below meth c s₁ B hml hv
  obtain ⟨rfl, hsz, hP, hK, hD0⟩ := hv
  have hx := B.exec
  have hb := B.bytes
  have hr := B.returns
  have hts := atoms_spec (ws := w_m_feed) B.pre
  have hown : s.vm.findClass RX12 = some m.cls := findClass_of_methodNamed B.named
  have hlocks := B.notSynchronized
  subst hsz
  have hD := hD0.self (sz := s.heap.size)
  generalize hAe : va_A [(h0, .inr (15, mF q 0)), (q 10, .inl ((cm 10), 400, .inl (fun _ => 0))), (q 17, .inl ((cm 17), 5, .inl (fun _ => 0)))] s.heap.size = A at hD ⊢
  have hA : ∀ q : Nat, s.heap.size ≤ q → A q := fun q h => by rw [← hAe]; exact Or.inr h
  have hS : va_S A s.heap s.heap [] := va_S.rf
  have hP : va_P (dC, dI) vwCl [(h0, .inr (15, mF q 0)), (q 10, .inl ((cm 10), 400, .inl (fun _ => 0))), (q 17, .inl ((cm 17), 5, .inl (fun _ => 0)))] s.heap := hP
  have hl := lv_entry ([.ref h0, .int p0, .int p1, .int p2, .int p3, .int p4]) (n := 7) (Nat.le_of_ble_eq_true rfl)
  rw [lg_entry_eq]
  generalize (lg_sl ([.ref h0, .int p0, .int p1, .int p2, .int p3, .int p4]) ++ List.replicate (7 - (lg_sl ([.ref h0, .int p0, .int p1, .int p2, .int p3, .int p4])).length) Slot.unset).toArray = ls at hl ⊢
  have hl : lv_has ls 7 [(0, .ref h0), (1, .int p0), (2, .int p1), (3, .int p2), (4, .int p3), (5, .int p4)] := hl
  refine lv_aload_n hx hb dX12_feed_0 rfl (lv_at hl 0 rfl) ?_
  refine lv_iconst (v := 0) hx hb dX12_feed_1 (by decide) ?_
  refine va_put (D := (dC, dI)) (ci := 15) (v := .int 0) (ty := .int) (C := RX12) (T := TX12) (N := 78) hx hb hts bF_X12 tyX12 tyX12_ok nmX12 hown hK hP hD hS 0 rfl rfl 0 (by decide) (ht_at hts 0 rfl) (fun _ h9 => h9) rfl (by decide +kernel) rfl rfl (Nat.le_of_ble_eq_true rfl) dX12_feed_2 (fun H locs hP hD hS => ?_)
  have hP : va_P (dC, dI) vwCl [(h0, .inr (15, mF q 0)), (q 10, .inl ((cm 10), 400, .inl (fun _ => 0))), (q 17, .inl ((cm 17), 5, .inl (fun _ => 0)))] H := hP
  have hD : va_D A [(h0, .inr (15, mF q 0)), (q 10, .inl ((cm 10), 400, .inl (fun _ => 0))), (q 17, .inl ((cm 17), 5, .inl (fun _ => 0)))] := hD
  refine lv_aload_n hx hb dX12_feed_5 rfl (lv_at hl 0 rfl) ?_
  refine va_get (D := (dC, dI)) (ci := 15) (v := .int 0) (C := RX12) (T := TX12) (N := 78) hx hb hts bF_X12 hown hK hP 0 rfl rfl 11 (by decide) (ht_at hts 1 rfl) (fun _ h9 => h9) rfl dX12_feed_6 ?_
  refine lv_bipush (v := 20) hx hb dX12_feed_9 (by decide) ?_
  refine lv_iadd hx hb dX12_feed_11 ?_
  refine lv_topi (fun x1 ex1 => ?_)
  obtain rfl : x1 = 20 := ex1.trans (by decide)
  refine lv_sipush (v := 400) hx hb dX12_feed_12 (by decide) ?_
  refine lv_icmp_le (tgt := 20) hx hb dX12_feed_15 (by decide) (fun c2 => ?_) (fun c2 => absurd c2 (by decide))
  refine lv_aload_n hx hb dX12_feed_20 rfl (lv_at hl 0 rfl) ?_
  refine va_get (D := (dC, dI)) (ci := 15) (v := .ref (q 17)) (C := RX12) (T := TX12) (N := 78) hx hb hts bF_X12 hown hK hP 0 rfl rfl 17 (by decide) (ht_at hts 2 rfl) (fun _ h9 => h9) rfl dX12_feed_21 ?_
  refine lv_iconst (v := 0) hx hb dX12_feed_24 (by decide) ?_
  refine lv_iload_n hx hb dX12_feed_25 rfl (lv_at hl 1 rfl) ?_
  refine va_iast hx hb hK hP hD hS 2 1 rfl rfl (by unfold vp_in; decide) dX12_feed_26 (fun H locs hP hD hS => ?_)
  have hP : va_P (dC, dI) vwCl [(h0, .inr (15, mF q 0)), (q 10, .inl ((cm 10), 400, .inl (fun _ => 0))), (q 17, .inl ((cm 17), 5, .inl (upd (fun _ => 0) (0 : Int32).toNatClampNeg p0)))] H := hP
  have hD : va_D A [(h0, .inr (15, mF q 0)), (q 10, .inl ((cm 10), 400, .inl (fun _ => 0))), (q 17, .inl ((cm 17), 5, .inl (upd (fun _ => 0) (0 : Int32).toNatClampNeg p0)))] := hD
  refine lv_aload_n hx hb dX12_feed_27 rfl (lv_at hl 0 rfl) ?_
  refine va_get (D := (dC, dI)) (ci := 15) (v := .ref (q 17)) (C := RX12) (T := TX12) (N := 78) hx hb hts bF_X12 hown hK hP 0 rfl rfl 17 (by decide) (ht_at hts 2 rfl) (fun _ h9 => h9) rfl dX12_feed_28 ?_
  refine lv_iconst (v := 1) hx hb dX12_feed_31 (by decide) ?_
  refine lv_iload_n hx hb dX12_feed_32 rfl (lv_at hl 2 rfl) ?_
  refine va_iast hx hb hK hP hD hS 2 1 rfl rfl (by unfold vp_in; decide) dX12_feed_33 (fun H locs hP hD hS => ?_)
  have hP : va_P (dC, dI) vwCl [(h0, .inr (15, mF q 0)), (q 10, .inl ((cm 10), 400, .inl (fun _ => 0))), (q 17, .inl ((cm 17), 5, .inl (upd (upd (fun _ => 0) (0 : Int32).toNatClampNeg p0) (1 : Int32).toNatClampNeg p1)))] H := hP
  have hD : va_D A [(h0, .inr (15, mF q 0)), (q 10, .inl ((cm 10), 400, .inl (fun _ => 0))), (q 17, .inl ((cm 17), 5, .inl (upd (upd (fun _ => 0) (0 : Int32).toNatClampNeg p0) (1 : Int32).toNatClampNeg p1)))] := hD
  refine lv_aload_n hx hb dX12_feed_34 rfl (lv_at hl 0 rfl) ?_
  refine va_get (D := (dC, dI)) (ci := 15) (v := .ref (q 17)) (C := RX12) (T := TX12) (N := 78) hx hb hts bF_X12 hown hK hP 0 rfl rfl 17 (by decide) (ht_at hts 2 rfl) (fun _ h9 => h9) rfl dX12_feed_35 ?_
  refine lv_iconst (v := 2) hx hb dX12_feed_38 (by decide) ?_
  refine lv_iload_n hx hb dX12_feed_39 rfl (lv_at hl 3 rfl) ?_
  refine va_iast hx hb hK hP hD hS 2 1 rfl rfl (by unfold vp_in; decide) dX12_feed_40 (fun H locs hP hD hS => ?_)
  have hP : va_P (dC, dI) vwCl [(h0, .inr (15, mF q 0)), (q 10, .inl ((cm 10), 400, .inl (fun _ => 0))), (q 17, .inl ((cm 17), 5, .inl (upd (upd (upd (fun _ => 0) (0 : Int32).toNatClampNeg p0) (1 : Int32).toNatClampNeg p1) (2 : Int32).toNatClampNeg p2)))] H := hP
  have hD : va_D A [(h0, .inr (15, mF q 0)), (q 10, .inl ((cm 10), 400, .inl (fun _ => 0))), (q 17, .inl ((cm 17), 5, .inl (upd (upd (upd (fun _ => 0) (0 : Int32).toNatClampNeg p0) (1 : Int32).toNatClampNeg p1) (2 : Int32).toNatClampNeg p2)))] := hD
  refine lv_aload_n hx hb dX12_feed_41 rfl (lv_at hl 0 rfl) ?_
  refine va_get (D := (dC, dI)) (ci := 15) (v := .ref (q 17)) (C := RX12) (T := TX12) (N := 78) hx hb hts bF_X12 hown hK hP 0 rfl rfl 17 (by decide) (ht_at hts 2 rfl) (fun _ h9 => h9) rfl dX12_feed_42 ?_
  refine lv_iconst (v := 3) hx hb dX12_feed_45 (by decide) ?_
  refine lv_iload hx hb dX12_feed_46 (lv_at hl 4 rfl) ?_
  refine va_iast hx hb hK hP hD hS 2 1 rfl rfl (by unfold vp_in; decide) dX12_feed_48 (fun H locs hP hD hS => ?_)
  have hP : va_P (dC, dI) vwCl [(h0, .inr (15, mF q 0)), (q 10, .inl ((cm 10), 400, .inl (fun _ => 0))), (q 17, .inl ((cm 17), 5, .inl (upd (upd (upd (upd (fun _ => 0) (0 : Int32).toNatClampNeg p0) (1 : Int32).toNatClampNeg p1) (2 : Int32).toNatClampNeg p2) (3 : Int32).toNatClampNeg p3)))] H := hP
  have hD : va_D A [(h0, .inr (15, mF q 0)), (q 10, .inl ((cm 10), 400, .inl (fun _ => 0))), (q 17, .inl ((cm 17), 5, .inl (upd (upd (upd (upd (fun _ => 0) (0 : Int32).toNatClampNeg p0) (1 : Int32).toNatClampNeg p1) (2 : Int32).toNatClampNeg p2) (3 : Int32).toNatClampNeg p3)))] := hD
  refine lv_aload_n hx hb dX12_feed_49 rfl (lv_at hl 0 rfl) ?_
  refine va_get (D := (dC, dI)) (ci := 15) (v := .ref (q 17)) (C := RX12) (T := TX12) (N := 78) hx hb hts bF_X12 hown hK hP 0 rfl rfl 17 (by decide) (ht_at hts 2 rfl) (fun _ h9 => h9) rfl dX12_feed_50 ?_
  refine lv_iconst (v := 4) hx hb dX12_feed_53 (by decide) ?_
  refine lv_iload hx hb dX12_feed_54 (lv_at hl 5 rfl) ?_
  refine va_iast hx hb hK hP hD hS 2 1 rfl rfl (by unfold vp_in; decide) dX12_feed_56 (fun H locs hP hD hS => ?_)
  have hP : va_P (dC, dI) vwCl [(h0, .inr (15, mF q 0)), (q 10, .inl ((cm 10), 400, .inl (fun _ => 0))), (q 17, .inl ((cm 17), 5, .inl (upd (upd (upd (upd (upd (fun _ => 0) (0 : Int32).toNatClampNeg p0) (1 : Int32).toNatClampNeg p1) (2 : Int32).toNatClampNeg p2) (3 : Int32).toNatClampNeg p3) (4 : Int32).toNatClampNeg p4)))] H := hP
  have hD : va_D A [(h0, .inr (15, mF q 0)), (q 10, .inl ((cm 10), 400, .inl (fun _ => 0))), (q 17, .inl ((cm 17), 5, .inl (upd (upd (upd (upd (upd (fun _ => 0) (0 : Int32).toNatClampNeg p0) (1 : Int32).toNatClampNeg p1) (2 : Int32).toNatClampNeg p2) (3 : Int32).toNatClampNeg p3) (4 : Int32).toNatClampNeg p4)))] := hD
  refine lv_iconst (v := 0) hx hb dX12_feed_57 (by decide) ?_
  refine lv_istore (lv' := [(6, .int 0), (0, .ref h0), (1, .int p0), (2, .int p1), (3, .int p2), (4, .int p3), (5, .int p4)]) hx hb dX12_feed_58 hl (by decide) rfl (fun ls hl => ?_)
  have key3 : ∀ (n3 i : Nat), i + n3 = 20 → ∀ (g f5 : Nat → Int32), ∀ (H : Heap) (locs : List Loc), va_P (dC, dI) vwCl [(h0, .inr (15, mF q 0)), (q 10, .inl ((cm 10), 400, .inl g)), (q 17, .inl ((cm 17), 5, .inl f5))] H → va_D A [(h0, .inr (15, mF q 0)), (q 10, .inl ((cm 10), 400, .inl g)), (q 17, .inl ((cm 17), 5, .inl f5))] → va_S A s.heap H locs → ∀ ls : Array Slot, lv_has ls 7 [(6, .int (nI i)), (0, .ref h0)] → W p l e (headSpec w_m_feed ({ frames := 0, cells := 0, slots := 0, locals := 0 })).room s m #[.ref h0, .int p0, .int p1, .int p2, .int p3, .int p4] below meth c H locs 0 0 (MQ below (va_Qi (fun (r : Int32) (u : List Value) => u[0]? = some (.int (T_feed p0 p1 p2 p3 p4).1) ∧ ((T_feed p0 p1 p2 p3 p4).1 = 0 → r = (T_feed p0 p1 p2 p3 p4).2)) (fun (fs : List Value) (t : State) => va_P (dC, dI) vwCl [(h0, .inr (15, fs))] t.heap ∧ va_D A [(h0, .inr (15, fs))]) A) #[.ref h0, .int p0, .int p1, .int p2, .int p3, .int p4] s 0 0 A) (F0 m 60 ls []) := by
    intro n3
    induction n3 with
    | zero =>
      intro i hn3 g f5 H locs hP hD hS ls hl
      obtain rfl : 20 = i := by omega
      refine lv_iload hx hb dX12_feed_60 (lv_at hl 0 rfl) ?_
      refine lv_bipush (v := 20) hx hb dX12_feed_62 (by decide) ?_
      refine lv_icmp_ge (tgt := 106) hx hb dX12_feed_64 (by decide) (fun c4 => ?_) (fun c4 => absurd c4 (by decide))
      refine lv_aload_n hx hb dX12_feed_106 rfl (lv_at hl 1 rfl) ?_
      refine lv_dup hx hb dX12_feed_107 rfl ?_
      refine va_get (D := (dC, dI)) (ci := 15) (v := .int 0) (C := RX12) (T := TX12) (N := 78) hx hb hts bF_X12 hown hK hP 0 rfl rfl 11 (by decide) (ht_at hts 1 rfl) (fun _ h9 => h9) rfl dX12_feed_108 ?_
      refine lv_bipush (v := 20) hx hb dX12_feed_111 (by decide) ?_
      refine lv_iadd hx hb dX12_feed_113 ?_
      refine lv_topi (fun x5 ex5 => ?_)
      obtain rfl : x5 = 20 := ex5.trans (by decide)
      refine va_put (D := (dC, dI)) (ci := 15) (v := .int 20) (ty := .int) (C := RX12) (T := TX12) (N := 78) hx hb hts bF_X12 tyX12 tyX12_ok nmX12 hown hK hP hD hS 0 rfl rfl 11 (by decide) (ht_at hts 1 rfl) (fun _ h9 => h9) rfl (by decide +kernel) rfl rfl (Nat.le_of_ble_eq_true rfl) dX12_feed_114 (fun H locs hP hD hS => ?_)
      have hP : va_P (dC, dI) vwCl [(h0, .inr (15, (.int 0 :: .ref (q 1) :: .ref (q 2) :: .int 0 :: .ref (q 4) :: .ref (q 5) :: .ref (q 6) :: .ref (q 7) :: .ref (q 8) :: .int 0 :: .ref (q 10) :: .int 20 :: .int 0 :: .int 0 :: .int 0 :: .int 0 :: .int (-1) :: .ref (q 17) :: .ref (q 18) :: .ref (q 19) :: .ref (q 20) :: .ref (q 21) :: .ref (q 22) :: .ref (q 23) :: .ref (q 24) :: .ref (q 25) :: .ref (q 26) :: .ref (q 27) :: .int 0 :: .ref (q 29) :: .ref (q 30) :: .ref (q 31) :: .ref (q 32) :: .ref (q 33) :: .ref (q 34) :: .ref (q 35) :: .ref (q 36) :: .ref (q 37) :: .ref (q 38) :: .ref (q 39) :: .ref (q 40) :: .ref (q 41) :: .int 0 :: .ref (q 43) :: .ref (q 44) :: .ref (q 45) :: .ref (q 46) :: .int 0 :: .int 0 :: .int (-1) :: .ref (q 50) :: .ref (q 51) :: .int 0 :: .long 0 :: .long 0 :: .ref (q 55) :: .ref (q 56) :: .ref (q 57) :: .ref (q 58) :: .ref (q 59) :: .ref (q 60) :: .ref (q 61) :: .ref (q 62) :: .ref (q 63) :: .int 0 :: .ref (q 65) :: .ref (q 66) :: .ref (q 67) :: .ref (q 68) :: .ref (q 69) :: .ref (q 70) :: .ref (q 71) :: .ref (q 72) :: .ref (q 73) :: .int 0 :: .ref (q 75) :: .ref (q 76) :: .int 0 :: []))), (q 10, .inl ((cm 10), 400, .inl g)), (q 17, .inl ((cm 17), 5, .inl f5))] H := hP
      have hD : va_D A [(h0, .inr (15, (.int 0 :: .ref (q 1) :: .ref (q 2) :: .int 0 :: .ref (q 4) :: .ref (q 5) :: .ref (q 6) :: .ref (q 7) :: .ref (q 8) :: .int 0 :: .ref (q 10) :: .int 20 :: .int 0 :: .int 0 :: .int 0 :: .int 0 :: .int (-1) :: .ref (q 17) :: .ref (q 18) :: .ref (q 19) :: .ref (q 20) :: .ref (q 21) :: .ref (q 22) :: .ref (q 23) :: .ref (q 24) :: .ref (q 25) :: .ref (q 26) :: .ref (q 27) :: .int 0 :: .ref (q 29) :: .ref (q 30) :: .ref (q 31) :: .ref (q 32) :: .ref (q 33) :: .ref (q 34) :: .ref (q 35) :: .ref (q 36) :: .ref (q 37) :: .ref (q 38) :: .ref (q 39) :: .ref (q 40) :: .ref (q 41) :: .int 0 :: .ref (q 43) :: .ref (q 44) :: .ref (q 45) :: .ref (q 46) :: .int 0 :: .int 0 :: .int (-1) :: .ref (q 50) :: .ref (q 51) :: .int 0 :: .long 0 :: .long 0 :: .ref (q 55) :: .ref (q 56) :: .ref (q 57) :: .ref (q 58) :: .ref (q 59) :: .ref (q 60) :: .ref (q 61) :: .ref (q 62) :: .ref (q 63) :: .int 0 :: .ref (q 65) :: .ref (q 66) :: .ref (q 67) :: .ref (q 68) :: .ref (q 69) :: .ref (q 70) :: .ref (q 71) :: .ref (q 72) :: .ref (q 73) :: .int 0 :: .ref (q 75) :: .ref (q 76) :: .int 0 :: []))), (q 10, .inl ((cm 10), 400, .inl g)), (q 17, .inl ((cm 17), 5, .inl f5))] := hD
      refine lv_aload_n hx hb dX12_feed_117 rfl (lv_at hl 1 rfl) ?_
      refine va_get (D := (dC, dI)) (ci := 15) (v := .int 20) (C := RX12) (T := TX12) (N := 78) hx hb hts bF_X12 hown hK hP 0 rfl rfl 11 (by decide) (ht_at hts 1 rfl) (fun _ h9 => h9) rfl dX12_feed_118 ?_
      exact W.iret (v := 20) hx hb hr (fun t ht hW => ⟨⟨20, (.int 0 :: .ref (q 1) :: .ref (q 2) :: .int 0 :: .ref (q 4) :: .ref (q 5) :: .ref (q 6) :: .ref (q 7) :: .ref (q 8) :: .int 0 :: .ref (q 10) :: .int 20 :: .int 0 :: .int 0 :: .int 0 :: .int 0 :: .int (-1) :: .ref (q 17) :: .ref (q 18) :: .ref (q 19) :: .ref (q 20) :: .ref (q 21) :: .ref (q 22) :: .ref (q 23) :: .ref (q 24) :: .ref (q 25) :: .ref (q 26) :: .ref (q 27) :: .int 0 :: .ref (q 29) :: .ref (q 30) :: .ref (q 31) :: .ref (q 32) :: .ref (q 33) :: .ref (q 34) :: .ref (q 35) :: .ref (q 36) :: .ref (q 37) :: .ref (q 38) :: .ref (q 39) :: .ref (q 40) :: .ref (q 41) :: .int 0 :: .ref (q 43) :: .ref (q 44) :: .ref (q 45) :: .ref (q 46) :: .int 0 :: .int 0 :: .int (-1) :: .ref (q 50) :: .ref (q 51) :: .int 0 :: .long 0 :: .long 0 :: .ref (q 55) :: .ref (q 56) :: .ref (q 57) :: .ref (q 58) :: .ref (q 59) :: .ref (q 60) :: .ref (q 61) :: .ref (q 62) :: .ref (q 63) :: .int 0 :: .ref (q 65) :: .ref (q 66) :: .ref (q 67) :: .ref (q 68) :: .ref (q 69) :: .ref (q 70) :: .ref (q 71) :: .ref (q 72) :: .ref (q 73) :: .int 0 :: .ref (q 75) :: .ref (q 76) :: .int 0 :: []), rfl, (by unfold T_feed; (first | exact ⟨rfl, fun _ => rfl⟩ | exact ⟨rfl, fun h => absurd h (by decide)⟩)), by rw [ht]; exact hP.sub (ws' := [(h0, .inr (15, (.int 0 :: .ref (q 1) :: .ref (q 2) :: .int 0 :: .ref (q 4) :: .ref (q 5) :: .ref (q 6) :: .ref (q 7) :: .ref (q 8) :: .int 0 :: .ref (q 10) :: .int 20 :: .int 0 :: .int 0 :: .int 0 :: .int 0 :: .int (-1) :: .ref (q 17) :: .ref (q 18) :: .ref (q 19) :: .ref (q 20) :: .ref (q 21) :: .ref (q 22) :: .ref (q 23) :: .ref (q 24) :: .ref (q 25) :: .ref (q 26) :: .ref (q 27) :: .int 0 :: .ref (q 29) :: .ref (q 30) :: .ref (q 31) :: .ref (q 32) :: .ref (q 33) :: .ref (q 34) :: .ref (q 35) :: .ref (q 36) :: .ref (q 37) :: .ref (q 38) :: .ref (q 39) :: .ref (q 40) :: .ref (q 41) :: .int 0 :: .ref (q 43) :: .ref (q 44) :: .ref (q 45) :: .ref (q 46) :: .int 0 :: .int 0 :: .int (-1) :: .ref (q 50) :: .ref (q 51) :: .int 0 :: .long 0 :: .long 0 :: .ref (q 55) :: .ref (q 56) :: .ref (q 57) :: .ref (q 58) :: .ref (q 59) :: .ref (q 60) :: .ref (q 61) :: .ref (q 62) :: .ref (q 63) :: .int 0 :: .ref (q 65) :: .ref (q 66) :: .ref (q 67) :: .ref (q 68) :: .ref (q 69) :: .ref (q 70) :: .ref (q 71) :: .ref (q 72) :: .ref (q 73) :: .int 0 :: .ref (q 75) :: .ref (q 76) :: .int 0 :: [])))]) [0] rfl, hD.sub (ws' := [(h0, .inr (15, (.int 0 :: .ref (q 1) :: .ref (q 2) :: .int 0 :: .ref (q 4) :: .ref (q 5) :: .ref (q 6) :: .ref (q 7) :: .ref (q 8) :: .int 0 :: .ref (q 10) :: .int 20 :: .int 0 :: .int 0 :: .int 0 :: .int 0 :: .int (-1) :: .ref (q 17) :: .ref (q 18) :: .ref (q 19) :: .ref (q 20) :: .ref (q 21) :: .ref (q 22) :: .ref (q 23) :: .ref (q 24) :: .ref (q 25) :: .ref (q 26) :: .ref (q 27) :: .int 0 :: .ref (q 29) :: .ref (q 30) :: .ref (q 31) :: .ref (q 32) :: .ref (q 33) :: .ref (q 34) :: .ref (q 35) :: .ref (q 36) :: .ref (q 37) :: .ref (q 38) :: .ref (q 39) :: .ref (q 40) :: .ref (q 41) :: .int 0 :: .ref (q 43) :: .ref (q 44) :: .ref (q 45) :: .ref (q 46) :: .int 0 :: .int 0 :: .int (-1) :: .ref (q 50) :: .ref (q 51) :: .int 0 :: .long 0 :: .long 0 :: .ref (q 55) :: .ref (q 56) :: .ref (q 57) :: .ref (q 58) :: .ref (q 59) :: .ref (q 60) :: .ref (q 61) :: .ref (q 62) :: .ref (q 63) :: .int 0 :: .ref (q 65) :: .ref (q 66) :: .ref (q 67) :: .ref (q 68) :: .ref (q 69) :: .ref (q 70) :: .ref (q 71) :: .ref (q 72) :: .ref (q 73) :: .int 0 :: .ref (q 75) :: .ref (q 76) :: .int 0 :: [])))]) [0] (by decide) rfl⟩, hS.F ht⟩) hS.2.2 dX12_feed_121
    | succ n3 ih3 =>
      intro i hn3 g f5 H locs hP hD hS ls hl
      have hlt6 : i < 20 := by omega
      refine lv_iload hx hb dX12_feed_60 (lv_at hl 0 rfl) ?_
      refine lv_bipush (v := 20) hx hb dX12_feed_62 (by decide) ?_
      refine lv_icmp_ge (tgt := 106) hx hb dX12_feed_64 (by decide) (fun c7 => absurd c7 (nI_ge (b := 20) hlt6 (by decide))) (fun c7 => ?_)
      refine lv_aload_n hx hb dX12_feed_67 rfl (lv_at hl 1 rfl) ?_
      refine va_get (D := (dC, dI)) (ci := 15) (v := .ref (q 10)) (C := RX12) (T := TX12) (N := 78) hx hb hts bF_X12 hown hK hP 0 rfl rfl 10 (by decide) (ht_at hts 3 rfl) (fun _ h9 => h9) rfl dX12_feed_68 ?_
      refine lv_aload_n hx hb dX12_feed_71 rfl (lv_at hl 1 rfl) ?_
      refine va_get (D := (dC, dI)) (ci := 15) (v := .int 0) (C := RX12) (T := TX12) (N := 78) hx hb hts bF_X12 hown hK hP 0 rfl rfl 11 (by decide) (ht_at hts 1 rfl) (fun _ h9 => h9) rfl dX12_feed_72 ?_
      refine lv_iload hx hb dX12_feed_75 (lv_at hl 0 rfl) ?_
      refine lv_iadd hx hb dX12_feed_77 ?_
      refine lv_topi (fun x8 ex8 => ?_)
      refine lv_aload_n hx hb dX12_feed_78 rfl (lv_at hl 1 rfl) ?_
      refine va_get (D := (dC, dI)) (ci := 15) (v := .ref (q 17)) (C := RX12) (T := TX12) (N := 78) hx hb hts bF_X12 hown hK hP 0 rfl rfl 17 (by decide) (ht_at hts 2 rfl) (fun _ h9 => h9) rfl dX12_feed_79 ?_
      refine lv_iload hx hb dX12_feed_82 (lv_at hl 0 rfl) ?_
      refine lv_iconst (v := 4) hx hb dX12_feed_84 (by decide) ?_
      refine lv_idiv hx hb dX12_feed_85 (by decide) ?_
      refine lv_topi (fun x9 ex9 => ?_)
      refine va_iald hx hb hK hP 2 1 rfl rfl (vin_div4 hlt6 ex9) dX12_feed_86 ?_
      refine lv_topi (fun x10 ex10 => ?_)
      refine lv_bipush (v := 24) hx hb dX12_feed_87 (by decide) ?_
      refine lv_bipush (v := 8) hx hb dX12_feed_89 (by decide) ?_
      refine lv_iload hx hb dX12_feed_91 (lv_at hl 0 rfl) ?_
      refine lv_iconst (v := 4) hx hb dX12_feed_93 (by decide) ?_
      refine lv_irem hx hb dX12_feed_94 (by decide) ?_
      refine lv_topi (fun x11 ex11 => ?_)
      refine lv_imul hx hb dX12_feed_95 ?_
      refine lv_topi (fun x12 ex12 => ?_)
      refine lv_isub hx hb dX12_feed_96 ?_
      refine lv_topi (fun x13 ex13 => ?_)
      refine lv_ishr hx hb dX12_feed_97 ?_
      refine lv_topi (fun x14 ex14 => ?_)
      refine lv_i2b (v := x14.toInt8.toInt32) hx hb dX12_feed_98 rfl ?_
      refine va_bast hx hb hK hP hD hS 1 0 rfl rfl (by rw [ex8]; exact vin_ni (c := 0) (by omega) (by decide)) dX12_feed_99 (fun H locs hP hD hS => ?_)
      have hP : va_P (dC, dI) vwCl [(h0, .inr (15, mF q 0)), (q 10, .inl ((cm 10), 400, .inl (upd g x8.toNatClampNeg (vp_nar .byte x14.toInt8.toInt32)))), (q 17, .inl ((cm 17), 5, .inl f5))] H := hP
      have hD : va_D A [(h0, .inr (15, mF q 0)), (q 10, .inl ((cm 10), 400, .inl (upd g x8.toNatClampNeg (vp_nar .byte x14.toInt8.toInt32)))), (q 17, .inl ((cm 17), 5, .inl f5))] := hD
      obtain ⟨x15, ex15⟩ : ∃ y : Int32, y = (nI i) + 1 := ⟨_, rfl⟩
      refine lv_iinc (v := x15) (lv' := [(6, .int x15), (0, .ref h0)]) hx hb dX12_feed_100 hl (k := 0) rfl (by rw [ex15]; rfl) (by decide) rfl (fun ls hl => ?_)
      refine lv_goto (tgt := 60) hx hb dX12_feed_103 (by decide) ?_
      obtain rfl : x15 = nI (i + 1) := ex15.trans (nI_1 i)
      exact ih3 (i + 1) (by omega) (upd g x8.toNatClampNeg (vp_nar .byte x14.toInt8.toInt32)) f5 _ _ (hP.sub [0, 1, 2] rfl) (hD.sub [0, 1, 2] (by decide) rfl) hS ls (lv_sub hl [0, 1] rfl)
  exact key3 20 0 (by decide) (fun _ => 0) (upd (upd (upd (upd (upd (fun _ => 0) (0 : Int32).toNatClampNeg p0) (1 : Int32).toNatClampNeg p1) (2 : Int32).toNatClampNeg p2) (3 : Int32).toNatClampNeg p3) (4 : Int32).toNatClampNeg p4) _ _ (hP.sub [0, 1, 2] rfl) (hD.sub [0, 1, 2] (by decide) rfl) hS ls (lv_sub hl [0, 1] rfl)
