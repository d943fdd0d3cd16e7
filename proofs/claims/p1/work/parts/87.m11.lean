def w_law_46 : List Cond := .initialized RL :: ([.codeWith yL_order cL_order 5 (some .int) [(0, 10, 13, 15)], .code yX11_order cX11_order 3 (some .int), .constant RX11 411 1000000, .code yX11_within cX11_within 3 (some .boolean), .methodLink RX11 58 yX11_within, .static yX11_within, .initialized RX11, .code yX11_needNumbers cX11_needNumbers 1 none, .methodLink RX11 62 yX11_needNumbers, .static yX11_needNumbers, .fieldLink RX11 43 "SeaLand" "plans" "LSeaLand$Plans;", .code yX5_findOrder cX5_findOrder 2 none, .fieldLink RX5 157 "SeaLand$Plans" "bestLate" "I", .code yX5_tryOrders cX5_tryOrders 11 none, .fieldLink RX5 154 "SeaLand$Plans" "jobs" "I", .fieldLink RX5 45 "SeaLand$Plans" "trial" "[I", .fieldLink RX5 48 "SeaLand$Plans" "best" "[I", .methodLink RX5 100 arraycopyName, .native arraycopyName, .static arraycopyName, .initialized "java/lang/System", .methodLink RX5 160 yX5_tryOrders, .instanceMethod yX5_tryOrders, .selects RX5 yX5_tryOrders yX5_tryOrders, .initialized RX5, .methodLink RX11 484 yX5_findOrder, .instanceMethod yX5_findOrder, .selects RX5 yX5_findOrder yX5_findOrder, .classLink RX11 547 "java/lang/IllegalArgumentException", .initialized "java/lang/IllegalArgumentException", .methodLink RL 160 yX11_order, .instanceMethod yX11_order, .selects RX11 yX11_order yX11_order, .classLink RL 15 "java/lang/IllegalArgumentException", .methodLink RL 332 yL_order, .static yL_order, .initialized RL, .code yX12_order cX12_order 3 (some .int), .fieldLink RX12 194 "SeaLandModel" "thrown" "I", .constant RX12 536 1000000, .code yX12_in cX12_in 3 (some .boolean), .methodLink RX12 197 yX12_in, .static yX12_in, .initialized RX12, .code yX12_throwsIf cX12_throwsIf 3 (some .boolean), .methodLink RX12 224 yX12_throwsIf, .instanceMethod yX12_throwsIf, .selects RX12 yX12_throwsIf yX12_throwsIf, .fieldLink RX12 556 "SeaLandModel" "lateness" "I", .code yX12_orders cX12_orders 10 none, .fieldLink RX12 553 "SeaLandModel" "jobs" "I", .methodLink RX12 559 yX12_orders, .instanceMethod yX12_orders, .selects RX12 yX12_orders yX12_orders, .methodLink RL 334 yX12_order, .instanceMethod yX12_order, .selects RX12 yX12_order yX12_order, .code yX12_thrown cX12_thrown 1 (some .int), .methodLink RL 187 yX12_thrown, .instanceMethod yX12_thrown, .selects RX12 yX12_thrown yX12_thrown] ++ bs)
set_option maxRecDepth 100000 in
theorem wm_46 : ∀ w ∈ w_law_46, w ∈ lw_tbl := lw_ins wl_110 (lw_cons wl_1927 (lw_cons wl_1931 (lw_cons wl_1760 (lw_cons wl_902 (lw_cons wl_900 (lw_cons wl_901 (lw_cons wl_111 (lw_cons wl_918 (lw_cons wl_916 (lw_cons wl_917 (lw_cons wl_593 (lw_cons wl_1935 (lw_cons wl_551 (lw_cons wl_1939 (lw_cons wl_549 (lw_cons wl_543 (lw_cons wl_544 (lw_cons wl_1876 (lw_cons wl_759 (lw_cons wl_758 (lw_cons wl_140 (lw_cons wl_1936 (lw_cons wl_1938 (lw_cons wl_42 (lw_cons wl_121 (lw_cons wl_1932 (lw_cons wl_1933 (lw_cons wl_1934 (lw_cons wl_919 (lw_cons wl_129 (lw_cons wl_1928 (lw_cons wl_1929 (lw_cons wl_1930 (lw_cons wl_891 (lw_cons wl_1925 (lw_cons wl_1926 (lw_cons wl_110 (lw_cons wl_2743 (lw_cons wl_1969 (lw_cons wl_2688 (lw_cons wl_2217 (lw_cons wl_2215 (lw_cons wl_2216 (lw_cons wl_122 (lw_cons wl_2221 (lw_cons wl_2218 (lw_cons wl_2220 (lw_cons wl_44 (lw_cons wl_2046 (lw_cons wl_2747 (lw_cons wl_2043 (lw_cons wl_2744 (lw_cons wl_2746 (lw_cons wl_108 (lw_cons wl_2740 (lw_cons wl_2741 (lw_cons wl_2742 (lw_cons wl_2207 (lw_cons wl_2204 (lw_cons wl_2205 (lw_cons wl_2206 lw_nil)))))))))))))))))))))))))))))))))))))))))))))))))))))))))))))
set_option maxHeartbeats 4000000 in
set_option maxRecDepth 100000 in
/-- order -/
theorem law_46 {p : Program} {e : Env} {s : State} {m : MethodId} {below : List Frame} {meth : Method} {c : Code} (l : Launch) (hlt : l.stackTraces = false) {b : Nat} {xs : Nat → Int32} {A : Nat → Prop} (hx : p.tables.exec = Jvm.exec) (hb : c.code = code) (hr : meth.sig.returnType = ret) (hml : c.maxLocals = 7) (hown : s.vm.findClass RL = some m.cls) (hts : ∀ w ∈ w_law_46, w.before #[Value.ref b] s = true) (hX : va_X b 8 xs s s.heap) (hbl : b < s.heap.size) (hbA : ¬ A b) (hlocks : meth.locks = false) (hE : EV A s s.heap) (hN : NC s) (hA : ∀ q : Nat, s.heap.size ≤ q → A q) (hAi : ∀ q : Nat, A q → s.heap.size ≤ q) {dC : Nat → ClassId} {dI : Nat → Nat → Nat} (a : Nat → Nat) (k : Nat → ClassId) (h0 : Nat) (q : Nat → Nat) (cm : Nat → ClassId) (o0 : Nat) (ko : ClassId) (H : Heap) (locs : List Loc) (hK : va_K (dC, dI) vwCl [((k 86), .int), ((k 87), .int), (ko, .long)] s) (hP : va_P (dC, dI) vwCl [(a 0, .inr (14, [.ref (a 1), .ref (a 2), .ref (a 27), .ref (a 30), .ref (a 74), .ref (a 75), .null, .int 0, .int 0])), (a 75, .inr (8, [.ref (a 76), .ref (a 77), .ref (a 78), .ref (a 79), .ref (a 80), .ref (a 81), .ref (a 82), .ref (a 83), .ref (a 84), .ref (a 85), .ref (a 86), .ref (a 87), .int 0, .int 0, .int 0, .int 0, .int 0])), (a 86, .inl ((k 86), 7, .inl (fun _ => 0))), (a 87, .inl ((k 87), 7, .inl (fun _ => 0))), (o0, .inl (ko, 1, .inr (.inl (fun _ => 0)))), (h0, .inr (15, mF q 0))] H) (hD : va_D A [(a 0, .inr (14, [.ref (a 1), .ref (a 2), .ref (a 27), .ref (a 30), .ref (a 74), .ref (a 75), .null, .int 0, .int 0])), (a 75, .inr (8, [.ref (a 76), .ref (a 77), .ref (a 78), .ref (a 79), .ref (a 80), .ref (a 81), .ref (a 82), .ref (a 83), .ref (a 84), .ref (a 85), .ref (a 86), .ref (a 87), .int 0, .int 0, .int 0, .int 0, .int 0])), (a 86, .inl ((k 86), 7, .inl (fun _ => 0))), (a 87, .inl ((k 87), 7, .inl (fun _ => 0))), (o0, .inl (ko, 1, .inr (.inl (fun _ => 0)))), (h0, .inr (15, mF q 0))]) (hS : va_S A s.heap H locs) (ls : Array Slot) (hl : lv_has ls 7 [(0, .ref b), (1, .ref (a 0)), (2, .ref h0), (3, .ref o0), (4, .int 0)]) : W p l e room_1 s m #[Value.ref b] below meth c H locs 238 27427 (lw_Z below #[Value.ref b] s) (F0 m 3469 ls []) := by
  refine lv_aload_n hx hb dL_law_3469 rfl (lv_at hl 1 rfl) ?_
  refine lv_aload_n hx hb dL_law_3470 rfl (lv_at hl 0 rfl) ?_
  refine lv_iload hx hb dL_law_3471 (lv_at hl 4 rfl) ?_
  refine lv_iconst (v := 1) hx hb dL_law_3473 (by decide) ?_
  refine lv_iadd hx hb dL_law_3474 ?_
  refine lv_topi (fun x1 ex1 => ?_)
  obtain rfl : x1 = 1 := ex1.trans (by decide)
  refine va_sld hx hb hX hbl hbA hS (i := 1) (by unfold vp_in; decide) dL_law_3475 ?_
  refine lv_topi (fun x2 ex2 => ?_)
  obtain rfl : xs 1 = x2 := (ex2).symm
  refine lv_aload_n hx hb dL_law_3476 rfl (lv_at hl 0 rfl) ?_
  refine lv_iload hx hb dL_law_3477 (lv_at hl 4 rfl) ?_
  refine lv_iconst (v := 2) hx hb dL_law_3479 (by decide) ?_
  refine lv_iadd hx hb dL_law_3480 ?_
  refine lv_topi (fun x3 ex3 => ?_)
  obtain rfl : x3 = 2 := ex3.trans (by decide)
  refine va_sld hx hb hX hbl hbA hS (i := 2) (by unfold vp_in; decide) dL_law_3481 ?_
  refine lv_topi (fun x4 ex4 => ?_)
  obtain rfl : xs 2 = x4 := (ex4).symm
  refine lv_aload_n hx hb dL_law_3482 rfl (lv_at hl 3 rfl) ?_
  have hPc := hP.sub (ws' := [(a 0, .inr (14, [.ref (a 1), .ref (a 2), .ref (a 27), .ref (a 30), .ref (a 74), .ref (a 75), .null, .int 0, .int 0])), (a 75, .inr (8, [.ref (a 76), .ref (a 77), .ref (a 78), .ref (a 79), .ref (a 80), .ref (a 81), .ref (a 82), .ref (a 83), .ref (a 84), .ref (a 85), .ref (a 86), .ref (a 87), .int 0, .int 0, .int 0, .int 0, .int 0])), (a 86, .inl ((k 86), 7, .inl (fun _ => 0))), (a 87, .inl ((k 87), 7, .inl (fun _ => 0))), (o0, .inl (ko, 1, .inr (.inl (fun _ => 0))))]) [0, 1, 2, 3, 4] rfl
  have hDc := hD.sub (ws' := [(a 0, .inr (14, [.ref (a 1), .ref (a 2), .ref (a 27), .ref (a 30), .ref (a 74), .ref (a 75), .null, .int 0, .int 0])), (a 75, .inr (8, [.ref (a 76), .ref (a 77), .ref (a 78), .ref (a 79), .ref (a 80), .ref (a 81), .ref (a 82), .ref (a 83), .ref (a 84), .ref (a 85), .ref (a 86), .ref (a 87), .int 0, .int 0, .int 0, .int 0, .int 0])), (a 86, .inl ((k 86), 7, .inl (fun _ => 0))), (a 87, .inl ((k 87), 7, .inl (fun _ => 0))), (o0, .inl (ko, 1, .inr (.inl (fun _ => 0))))]) [0, 1, 2, 3, 4] (by decide) rfl
  have hKc := hK.sub (tys' := [((k 86), .int), ((k 87), .int), (ko, .long)]) [0, 1, 2] rfl
  have hFc := va_free (wc := [(a 0, .inr (14, [.ref (a 1), .ref (a 2), .ref (a 27), .ref (a 30), .ref (a 74), .ref (a 75), .null, .int 0, .int 0])), (a 75, .inr (8, [.ref (a 76), .ref (a 77), .ref (a 78), .ref (a 79), .ref (a 80), .ref (a 81), .ref (a 82), .ref (a 83), .ref (a 84), .ref (a 85), .ref (a 86), .ref (a 87), .int 0, .int 0, .int 0, .int 0, .int 0])), (a 86, .inl ((k 86), 7, .inl (fun _ => 0))), (a 87, .inl ((k 87), 7, .inl (fun _ => 0))), (o0, .inl (ko, 1, .inr (.inl (fun _ => 0))))]) hD hS hA [0, 1, 2, 3, 4] rfl
  refine va_calli (vx_runSW (As := [.ref (a 0), .int (xs 1), .int (xs 2), .ref o0]) (rest := []) ⟨hx, hb, hml, hown, hts⟩ (l_order l hlt dC dI a k o0 ko (fun _ => 0) (xs 1) (xs 2) H.size ) (vx_cwSW 4 hts (goodIn_app (goodIn_r _ [35, 36, 37] (by decide +kernel) (by decide +kernel)) (goodIn_ca (goodIn_r _ [1, 2, 3, 4, 5, 6, 7, 8, 9, 10, 11, 12, 13, 14, 15, 16, 17, 18, 19, 20, 21, 22, 23, 24, 25, 26, 27, 28, 29, 30, 31, 32, 33, 34] (by decide +kernel) (by decide +kernel)) (bs_in _ _))) rfl rfl rfl (by decide +kernel) ⟨(Nat.le_of_ble_eq_true rfl), (Nat.le_of_ble_eq_true rfl)⟩) ⟨fun a U g mk q => by obtain ⟨q0, q1, qP, qK, qD, qE, qN⟩ := q; exact ⟨q0, q1, qP, va_K.moved (u := U) (U := U.calling g mk a) (Vm.Alike.refl U.vm) qK, qD, EV.blind g mk a qE, NC.blind g mk a qN⟩, fun U hU hW => ⟨rfl, by rw [hU], by rw [hU]; exact hPc, va_K.moved hW.alike hKc, hDc.weaken (fun _ _ _ _ => trivial), hE.call hS hFc hU hW, hN.call hW⟩⟩ rfl rfl hl.1 rfl (lv_room (Nat.le_of_ble_eq_true rfl)) dL_law_3483 ⟨(Nat.le_of_ble_eq_true rfl), (Nat.le_of_ble_eq_true rfl)⟩) hS (fun q _ h => hFc q h) hFc (fun r6 u t H1 locs ht hvm hw7 hB hz1 hk1 hS => ?_)
  obtain ⟨fu8, rfl⟩ : ∃ z, z = u := ⟨_, rfl⟩
  obtain ⟨hP1, hD1⟩ := hB
  rw [ht] at hP1
  obtain ⟨hP, hD⟩ := va_join (wr := [(h0, .inr (15, mF q 0))]) (w1 := [(o0, .inl (ko, 1, .inr (.inl fu8)))]) hP hD [0, 1, 2, 3, 4] [5] rfl rfl (by decide) (by decide) hk1 hFc hP1 hD1
  generalize H1 = H at hP hS ⊢
  have hP : va_P (dC, dI) vwCl [(h0, .inr (15, mF q 0)), (o0, .inl (ko, 1, .inr (.inl fu8)))] H := hP
  have hD : va_D A [(h0, .inr (15, mF q 0)), (o0, .inl (ko, 1, .inr (.inl fu8)))] := hD
  try dsimp only at hw7
  obtain rfl : (T_order (xs 1) (xs 2)).1 = r6 := hw7.1.symm
  refine lv_istore (lv' := [(5, .int ((T_order (xs 1) (xs 2)).1)), (0, .ref b), (1, .ref (a 0)), (2, .ref h0), (3, .ref o0), (4, .int 0)]) hx hb dL_law_3486 hl (by decide) rfl (fun ls hl => ?_)
  refine lv_aload_n hx hb dL_law_3488 rfl (lv_at hl 3 rfl) ?_
  refine lv_aload_n hx hb dL_law_3489 rfl (lv_at hl 1 rfl) ?_
  refine lv_iload hx hb dL_law_3490 (lv_at hl 5 rfl) ?_
  refine lv_iconst (v := 1) hx hb dL_law_3492 (by decide) ?_
  refine lv_iadd hx hb dL_law_3493 ?_
  refine lv_topi (fun x9 ex9 => ?_)
  obtain rfl : x9 = 1 := ex9.trans (by decide)
  refine va_sld hx hb hX hbl hbA hS (i := 1) (by unfold vp_in; decide) dL_law_3494 ?_
  refine lv_topi (fun x10 ex10 => ?_)
  obtain rfl : xs 1 = x10 := (ex10).symm
  refine lv_aload_n hx hb dL_law_3495 rfl (lv_at hl 1 rfl) ?_
  refine lv_iload hx hb dL_law_3496 (lv_at hl 5 rfl) ?_
  refine lv_iconst (v := 2) hx hb dL_law_3498 (by decide) ?_
  refine lv_iadd hx hb dL_law_3499 ?_
  refine lv_topi (fun x11 ex11 => ?_)
  obtain rfl : x11 = 2 := ex11.trans (by decide)
  refine va_sld hx hb hX hbl hbA hS (i := 2) (by unfold vp_in; decide) dL_law_3500 ?_
  refine lv_topi (fun x12 ex12 => ?_)
  obtain rfl : xs 2 = x12 := (ex12).symm
  have hPc := hP.sub (ws' := [(h0, .inr (15, mF q 0))]) [0] rfl
  have hDc := hD.sub (ws' := [(h0, .inr (15, mF q 0))]) [0] (by decide) rfl
  have hKc := hK.sub (tys' := []) [] rfl
  have hFc := va_free (wc := [(h0, .inr (15, mF q 0))]) hD hS hA [0] rfl
  refine va_calli (va_runV (As := [.int (xs 1), .int (xs 2)]) (rest := []) ⟨hx, hb, hml, hown, hts⟩ (m_order l dC dI h0 q cm (xs 1) (xs 2) H.size ) (cwV 2 hts (goodIn_app (goodIn_r _ [55, 56, 57, 44] (by decide +kernel) (by decide +kernel)) (goodIn_ca (goodIn_r _ [38, 39, 40, 41, 42, 43, 44, 45, 46, 47, 48, 49, 50, 51, 52, 53, 54] (by decide +kernel) (by decide +kernel)) (bs_in _ _))) rfl rfl rfl (by decide +kernel) ⟨(Nat.le_of_ble_eq_true rfl), (Nat.le_of_ble_eq_true rfl)⟩) ⟨fun a U g mk q => by obtain ⟨q0, q1, qP, qK, qD⟩ := q; exact ⟨q0, q1, qP, va_K.moved (u := U) (U := U.calling g mk a) (Vm.Alike.refl U.vm) qK, qD⟩, va_recv hKc hPc (ci := 15) (q0 := 0) rfl rfl, fun U hU hW => ⟨rfl, by rw [hU], by rw [hU]; exact hPc, va_K.moved hW.alike hKc, hDc.weaken (fun _ _ _ _ => trivial)⟩⟩ rfl rfl hl.1 rfl (lv_room (Nat.le_of_ble_eq_true rfl)) dL_law_3501 ⟨(Nat.le_of_ble_eq_true rfl), (Nat.le_of_ble_eq_true rfl)⟩) hS (fun q _ h => hFc q h) hFc (fun r14 u t H1 locs ht hvm hw15 hB hz1 hk1 hS => ?_)
  obtain ⟨fs16, rfl⟩ : ∃ z, z = u := ⟨_, rfl⟩
  obtain ⟨hP1, hD1⟩ := hB
  rw [ht] at hP1
  obtain ⟨hP, hD⟩ := va_join (wr := [(o0, .inl (ko, 1, .inr (.inl fu8)))]) (w1 := [(h0, .inr (15, fs16))]) hP hD [0] [1] rfl rfl (by decide) (by decide) hk1 hFc hP1 hD1
  generalize H1 = H at hP hS ⊢
  have hP : va_P (dC, dI) vwCl [(o0, .inl (ko, 1, .inr (.inl fu8))), (h0, .inr (15, fs16))] H := hP
  have hD : va_D A [(o0, .inl (ko, 1, .inr (.inl fu8))), (h0, .inr (15, fs16))] := hD
  try dsimp only at hw15
  refine lv_istore (lv' := [(6, .int r14), (5, .int ((T_order (xs 1) (xs 2)).1)), (0, .ref b), (1, .ref (a 0)), (2, .ref h0), (3, .ref o0), (4, .int 0)]) hx hb dL_law_3504 hl (by decide) rfl (fun ls hl => ?_)
  refine lv_aload_n hx hb dL_law_3506 rfl (lv_at hl 4 rfl) ?_
  have hPc := hP.sub (ws' := [(h0, .inr (15, fs16))]) [1] rfl
  have hDc := hD.sub (ws' := [(h0, .inr (15, fs16))]) [1] (by decide) rfl
  have hKc := hK.sub (tys' := []) [] rfl
  have hFc := va_free (wc := [(h0, .inr (15, fs16))]) hD hS hA [1] rfl
  refine va_calli (va_runV (As := []) (rest := []) ⟨hx, hb, hml, hown, hts⟩ (m_thrown l dC dI h0 fs16 ((T_order (xs 1) (xs 2)).1) H.size hw15.1) (cwV 0 hts (goodIn_app (goodIn_r _ [59, 60, 61, 44] (by decide +kernel) (by decide +kernel)) (goodIn_ca (goodIn_r _ [58, 39] (by decide +kernel) (by decide +kernel)) (bs_in _ _))) rfl rfl rfl (by decide +kernel) ⟨(Nat.le_of_ble_eq_true rfl), (Nat.le_of_ble_eq_true rfl)⟩) ⟨fun a U g mk q => by obtain ⟨q0, q1, qP, qK, qD⟩ := q; exact ⟨q0, q1, qP, va_K.moved (u := U) (U := U.calling g mk a) (Vm.Alike.refl U.vm) qK, qD⟩, va_recv hKc hPc (ci := 15) (q0 := 0) rfl rfl, fun U hU hW => ⟨rfl, by rw [hU], by rw [hU]; exact hPc, va_K.moved hW.alike hKc, hDc.weaken (fun _ _ _ _ => trivial)⟩⟩ rfl rfl hl.1 rfl (lv_room (Nat.le_of_ble_eq_true rfl)) dL_law_3507 ⟨(Nat.le_of_ble_eq_true rfl), (Nat.le_of_ble_eq_true rfl)⟩) hS (fun q _ h => hFc q h) hFc (fun r18 u t H1 locs ht hvm hw19 hB hz1 hk1 hS => ?_)
  have hP1 : va_P (dC, dI) vwCl [] H1 := nilP
  have hD1 : va_D (va_A [(h0, .inr (15, fs16))] H.size) [] := nilD
  have hK := hK
  obtain ⟨hP, hD⟩ := va_join (wr := [(o0, .inl (ko, 1, .inr (.inl fu8)))]) (w1 := []) hP hD [1] [0] rfl rfl (by decide) (by decide) hk1 hFc hP1 hD1
  generalize H1 = H at hP hS ⊢
  have hP : va_P (dC, dI) vwCl [(o0, .inl (ko, 1, .inr (.inl fu8)))] H := hP
  have hD : va_D A [(o0, .inl (ko, 1, .inr (.inl fu8)))] := hD
  try dsimp only at hw19
  obtain rfl : (T_order (xs 1) (xs 2)).1 = r18 := hw19.symm
  refine lv_iload hx hb dL_law_3510 (lv_at hl 1 rfl) ?_
  refine lv_icmp_eq (tgt := 3517) hx hb dL_law_3512 (by decide) (fun c20 => ?_) (fun c20 => absurd rfl c20)
  refine lv_iload hx hb dL_law_3517 (lv_at hl 1 rfl) ?_
  refine lv_if_ne (tgt := 3534) hx hb dL_law_3519 (by decide) (fun c21 => ?_) (fun c21 => ?_)
  · refine lv_goto (tgt := 3762) hx hb dL_law_3534 (by decide) ?_
    exact law_tail hx hb hr hlocks hX hbl hbA hAi hS (Nat.le_of_ble_eq_true rfl) (Nat.le_of_ble_eq_true rfl) ls (lv_sub hl [2, 6] rfl)
  · refine lv_aload_n hx hb dL_law_3522 rfl (lv_at hl 5 rfl) ?_
    refine lv_iconst (v := 0) hx hb dL_law_3523 (by decide) ?_
    refine va_lald hx hb hK hP 0 2 rfl rfl (by unfold vp_in; decide) dL_law_3524 ?_
    refine lv_iload hx hb dL_law_3525 (lv_at hl 0 rfl) ?_
    refine lv_i2l (v := r14.toInt64) hx hb dL_law_3527 rfl ?_
    refine W.lcmp hx hb dL_law_3528 ?_
    refine lv_topi (fun x22 ex22 => ?_)
    obtain rfl : x22 = 0 := ex22.trans (by rw [show fu8 (0 : Int32).toNatClampNeg = (T_order (xs 1) (xs 2)).2.toInt64 from hw7.2 c21, hw15.2 c21]; exact lg_cmp_self _)
    refine lv_if_eq (tgt := 3534) hx hb dL_law_3529 (by decide) (fun c23 => ?_) (fun c23 => absurd c23 (by decide))
    refine lv_goto (tgt := 3762) hx hb dL_law_3534 (by decide) ?_
    exact law_tail hx hb hr hlocks hX hbl hbA hAi hS (Nat.le_of_ble_eq_true rfl) (Nat.le_of_ble_eq_true rfl) ls (lv_sub hl [2, 6] rfl)
def w_law_47 : List Cond := .initialized RL :: ([.code yX11_jobs cX11_jobs 2 (some .int), .fieldLink RX11 43 "SeaLand" "plans" "LSeaLand$Plans;", .methodLink RL 335 yX11_jobs, .instanceMethod yX11_jobs, .selects RX11 yX11_jobs yX11_jobs, .initialized RX11, .code yX12_jobs cX12_jobs 2 (some .int), .fieldLink RX12 194 "SeaLandModel" "thrown" "I", .fieldLink RX12 553 "SeaLandModel" "jobs" "I", .methodLink RL 338 yX12_jobs, .instanceMethod yX12_jobs, .selects RX12 yX12_jobs yX12_jobs, .initialized RX12] ++ bs)
set_option maxRecDepth 100000 in
theorem wm_47 : ∀ w ∈ w_law_47, w ∈ lw_tbl := lw_ins wl_110 (lw_cons wl_732 (lw_cons wl_593 (lw_cons wl_729 (lw_cons wl_730 (lw_cons wl_731 (lw_cons wl_111 (lw_cons wl_2751 (lw_cons wl_1969 (lw_cons wl_2043 (lw_cons wl_2748 (lw_cons wl_2749 (lw_cons wl_2750 (lw_cons wl_122 lw_nil)))))))))))))
set_option maxHeartbeats 4000000 in
set_option maxRecDepth 100000 in
/-- jobs -/
theorem law_47 {p : Program} {e : Env} {s : State} {m : MethodId} {below : List Frame} {meth : Method} {c : Code} (l : Launch) (hlt : l.stackTraces = false) {b : Nat} {xs : Nat → Int32} {A : Nat → Prop} (hx : p.tables.exec = Jvm.exec) (hb : c.code = code) (hr : meth.sig.returnType = ret) (hml : c.maxLocals = 7) (hown : s.vm.findClass RL = some m.cls) (hts : ∀ w ∈ w_law_47, w.before #[Value.ref b] s = true) (hX : va_X b 8 xs s s.heap) (hbl : b < s.heap.size) (hbA : ¬ A b) (hlocks : meth.locks = false) (hE : EV A s s.heap) (hN : NC s) (hA : ∀ q : Nat, s.heap.size ≤ q → A q) (hAi : ∀ q : Nat, A q → s.heap.size ≤ q) {dC : Nat → ClassId} {dI : Nat → Nat → Nat} (a : Nat → Nat) (k : Nat → ClassId) (h0 : Nat) (q : Nat → Nat) (cm : Nat → ClassId) (o0 : Nat) (ko : ClassId) (H : Heap) (locs : List Loc) (hK : va_K (dC, dI) vwCl [(ko, .long)] s) (hP : va_P (dC, dI) vwCl [(a 0, .inr (14, [.ref (a 1), .ref (a 2), .ref (a 27), .ref (a 30), .ref (a 74), .ref (a 75), .null, .int 0, .int 0])), (a 75, .inr (8, [.ref (a 76), .ref (a 77), .ref (a 78), .ref (a 79), .ref (a 80), .ref (a 81), .ref (a 82), .ref (a 83), .ref (a 84), .ref (a 85), .ref (a 86), .ref (a 87), .int 0, .int 0, .int 0, .int 0, .int 0])), (o0, .inl (ko, 1, .inr (.inl (fun _ => 0)))), (h0, .inr (15, mF q 0))] H) (hD : va_D A [(a 0, .inr (14, [.ref (a 1), .ref (a 2), .ref (a 27), .ref (a 30), .ref (a 74), .ref (a 75), .null, .int 0, .int 0])), (a 75, .inr (8, [.ref (a 76), .ref (a 77), .ref (a 78), .ref (a 79), .ref (a 80), .ref (a 81), .ref (a 82), .ref (a 83), .ref (a 84), .ref (a 85), .ref (a 86), .ref (a 87), .int 0, .int 0, .int 0, .int 0, .int 0])), (o0, .inl (ko, 1, .inr (.inl (fun _ => 0)))), (h0, .inr (15, mF q 0))]) (hS : va_S A s.heap H locs) (ls : Array Slot) (hl : lv_has ls 7 [(0, .ref b), (1, .ref (a 0)), (2, .ref h0), (3, .ref o0), (4, .int 0)]) : W p l e room_1 s m #[Value.ref b] below meth c H locs 238 27427 (lw_Z below #[Value.ref b] s) (F0 m 3537 ls []) := by
  refine lv_aload_n hx hb dL_law_3537 rfl (lv_at hl 1 rfl) ?_
  have hPc := hP.sub (ws' := [(a 0, .inr (14, [.ref (a 1), .ref (a 2), .ref (a 27), .ref (a 30), .ref (a 74), .ref (a 75), .null, .int 0, .int 0])), (a 75, .inr (8, [.ref (a 76), .ref (a 77), .ref (a 78), .ref (a 79), .ref (a 80), .ref (a 81), .ref (a 82), .ref (a 83), .ref (a 84), .ref (a 85), .ref (a 86), .ref (a 87), .int 0, .int 0, .int 0, .int 0, .int 0]))]) [0, 1] rfl
  have hDc := hD.sub (ws' := [(a 0, .inr (14, [.ref (a 1), .ref (a 2), .ref (a 27), .ref (a 30), .ref (a 74), .ref (a 75), .null, .int 0, .int 0])), (a 75, .inr (8, [.ref (a 76), .ref (a 77), .ref (a 78), .ref (a 79), .ref (a 80), .ref (a 81), .ref (a 82), .ref (a 83), .ref (a 84), .ref (a 85), .ref (a 86), .ref (a 87), .int 0, .int 0, .int 0, .int 0, .int 0]))]) [0, 1] (by decide) rfl
  have hKc := hK.sub (tys' := []) [] rfl
  have hFc := va_free (wc := [(a 0, .inr (14, [.ref (a 1), .ref (a 2), .ref (a 27), .ref (a 30), .ref (a 74), .ref (a 75), .null, .int 0, .int 0])), (a 75, .inr (8, [.ref (a 76), .ref (a 77), .ref (a 78), .ref (a 79), .ref (a 80), .ref (a 81), .ref (a 82), .ref (a 83), .ref (a 84), .ref (a 85), .ref (a 86), .ref (a 87), .int 0, .int 0, .int 0, .int 0, .int 0]))]) hD hS hA [0, 1] rfl
  refine va_calli (va_runV (As := []) (rest := []) ⟨hx, hb, hml, hown, hts⟩ (x_jobs l dC dI a k H.size ) (cwV 0 hts (goodIn_app (goodIn_r _ [3, 4, 5, 6] (by decide +kernel) (by decide +kernel)) (goodIn_ca (goodIn_r _ [1, 2] (by decide +kernel) (by decide +kernel)) (bs_in _ _))) rfl rfl rfl (by decide +kernel) ⟨(Nat.le_of_ble_eq_true rfl), (Nat.le_of_ble_eq_true rfl)⟩) ⟨fun a U g mk q => by obtain ⟨q0, q1, qP, qK, qD, qE⟩ := q; exact ⟨q0, q1, qP, va_K.moved (u := U) (U := U.calling g mk a) (Vm.Alike.refl U.vm) qK, qD, EV.blind g mk a qE⟩, va_recv hKc hPc (ci := 14) (q0 := 0) rfl rfl, fun U hU hW => ⟨rfl, by rw [hU], by rw [hU]; exact hPc, va_K.moved hW.alike hKc, hDc.weaken (fun _ _ _ _ => trivial), hE.call hS hFc hU hW⟩⟩ rfl rfl hl.1 rfl (lv_room (Nat.le_of_ble_eq_true rfl)) dL_law_3538 ⟨(Nat.le_of_ble_eq_true rfl), (Nat.le_of_ble_eq_true rfl)⟩) hS (fun q _ h => hFc q h) hFc (fun r2 u t H1 locs ht hvm hw3 hB hz1 hk1 hS => ?_)
  have hP1 : va_P (dC, dI) vwCl [] H1 := nilP
  have hD1 : va_D (va_A [(a 0, .inr (14, [.ref (a 1), .ref (a 2), .ref (a 27), .ref (a 30), .ref (a 74), .ref (a 75), .null, .int 0, .int 0])), (a 75, .inr (8, [.ref (a 76), .ref (a 77), .ref (a 78), .ref (a 79), .ref (a 80), .ref (a 81), .ref (a 82), .ref (a 83), .ref (a 84), .ref (a 85), .ref (a 86), .ref (a 87), .int 0, .int 0, .int 0, .int 0, .int 0]))] H.size) [] := nilD
  have hK := hK
  obtain ⟨hP, hD⟩ := va_join (wr := [(o0, .inl (ko, 1, .inr (.inl (fun _ => 0)))), (h0, .inr (15, mF q 0))]) (w1 := []) hP hD [0, 1] [2, 3] rfl rfl (by decide) (by decide) hk1 hFc hP1 hD1
  generalize H1 = H at hP hS ⊢
  have hP : va_P (dC, dI) vwCl [(o0, .inl (ko, 1, .inr (.inl (fun _ => 0)))), (h0, .inr (15, mF q 0))] H := hP
  have hD : va_D A [(o0, .inl (ko, 1, .inr (.inl (fun _ => 0)))), (h0, .inr (15, mF q 0))] := hD
  try dsimp only at hw3
  refine lv_aload_n hx hb dL_law_3541 rfl (lv_at hl 2 rfl) ?_
  have hPc := hP.sub (ws' := [(h0, .inr (15, mF q 0))]) [1] rfl
  have hDc := hD.sub (ws' := [(h0, .inr (15, mF q 0))]) [1] (by decide) rfl
  have hKc := hK.sub (tys' := []) [] rfl
  have hFc := va_free (wc := [(h0, .inr (15, mF q 0))]) hD hS hA [1] rfl
  refine va_calli (va_runV (As := []) (rest := [.int r2]) ⟨hx, hb, hml, hown, hts⟩ (m_jobs l dC dI h0 q cm H.size ) (cwV 0 hts (goodIn_app (goodIn_r _ [10, 11, 12, 13] (by decide +kernel) (by decide +kernel)) (goodIn_ca (goodIn_r _ [7, 8, 9] (by decide +kernel) (by decide +kernel)) (bs_in _ _))) rfl rfl rfl (by decide +kernel) ⟨(Nat.le_of_ble_eq_true rfl), (Nat.le_of_ble_eq_true rfl)⟩) ⟨fun a U g mk q => by obtain ⟨q0, q1, qP, qK, qD⟩ := q; exact ⟨q0, q1, qP, va_K.moved (u := U) (U := U.calling g mk a) (Vm.Alike.refl U.vm) qK, qD⟩, va_recv hKc hPc (ci := 15) (q0 := 0) rfl rfl, fun U hU hW => ⟨rfl, by rw [hU], by rw [hU]; exact hPc, va_K.moved hW.alike hKc, hDc.weaken (fun _ _ _ _ => trivial)⟩⟩ rfl rfl hl.1 rfl (lv_room (Nat.le_of_ble_eq_true rfl)) dL_law_3542 ⟨(Nat.le_of_ble_eq_true rfl), (Nat.le_of_ble_eq_true rfl)⟩) hS (fun q _ h => hFc q h) hFc (fun r5 u t H1 locs ht hvm hw6 hB hz1 hk1 hS => ?_)
  obtain ⟨fs7, rfl⟩ : ∃ z, z = u := ⟨_, rfl⟩
  obtain ⟨hP1, hD1⟩ := hB
  rw [ht] at hP1
  obtain ⟨hP, hD⟩ := va_join (wr := [(o0, .inl (ko, 1, .inr (.inl (fun _ => 0))))]) (w1 := [(h0, .inr (15, fs7))]) hP hD [1] [0] rfl rfl (by decide) (by decide) hk1 hFc hP1 hD1
  generalize H1 = H at hP hS ⊢
  have hP : va_P (dC, dI) vwCl [(o0, .inl (ko, 1, .inr (.inl (fun _ => 0)))), (h0, .inr (15, fs7))] H := hP
  have hD : va_D A [(o0, .inl (ko, 1, .inr (.inl (fun _ => 0)))), (h0, .inr (15, fs7))] := hD
  try dsimp only at hw6
  refine lv_icmp_eq (tgt := 3762) hx hb dL_law_3545 (by decide) (fun c8 => ?_) (fun c8 => absurd (hw3.1.trans (hw6.2 hw3.2).symm) c8)
  exact law_tail hx hb hr hlocks hX hbl hbA hAi hS (Nat.le_of_ble_eq_true rfl) (Nat.le_of_ble_eq_true rfl) ls (lv_sub hl [0, 4] rfl)
def w_law_48 : List Cond := .initialized RL :: ([.codeWith yL_row cL_row 5 (some .int) [(0, 10, 13, 13), (0, 10, 17, 39)], .code yX11_row cX11_row 3 (some .int), .code yX11_needSquare cX11_needSquare 1 none, .code yX11_within cX11_within 3 (some .boolean), .methodLink RX11 58 yX11_within, .static yX11_within, .initialized RX11, .classLink RX11 557 "java/lang/IndexOutOfBoundsException", .initialized "java/lang/IndexOutOfBoundsException", .methodLink RX11 55 yX11_needSquare, .static yX11_needSquare, .code yX11_needRow cX11_needRow 2 none, .fieldLink RX11 23 "SeaLand" "rows" "LSeaLand$Rows;", .classLink RX11 134 "java/util/NoSuchElementException", .initialized "java/util/NoSuchElementException", .methodLink RX11 493 yX11_needRow, .instanceMethod yX11_needRow, .selects RX11 yX11_needRow yX11_needRow, .methodLink RL 163 yX11_row, .instanceMethod yX11_row, .selects RX11 yX11_row yX11_row, .classLink RL 13 "java/lang/IndexOutOfBoundsException", .classLink RL 39 "java/util/NoSuchElementException", .methodLink RL 339 yL_row, .static yL_row, .initialized RL, .code yX12_row cX12_row 3 (some .int), .fieldLink RX12 194 "SeaLandModel" "thrown" "I", .code yX12_noSquare cX12_noSquare 1 (some .boolean), .code yX12_in cX12_in 3 (some .boolean), .methodLink RX12 197 yX12_in, .static yX12_in, .initialized RX12, .methodLink RX12 220 yX12_noSquare, .static yX12_noSquare, .code yX12_throwsIf cX12_throwsIf 3 (some .boolean), .methodLink RX12 224 yX12_throwsIf, .instanceMethod yX12_throwsIf, .selects RX12 yX12_throwsIf yX12_throwsIf, .fieldLink RX12 238 "SeaLandModel" "rows" "I", .methodLink RL 341 yX12_row, .instanceMethod yX12_row, .selects RX12 yX12_row yX12_row, .code yX12_thrown cX12_thrown 1 (some .int), .methodLink RL 187 yX12_thrown, .instanceMethod yX12_thrown, .selects RX12 yX12_thrown yX12_thrown] ++ bs)
set_option maxRecDepth 100000 in
theorem wm_48 : ∀ w ∈ w_law_48, w ∈ lw_tbl := lw_ins wl_110 (lw_cons wl_1945 (lw_cons wl_1949 (lw_cons wl_899 (lw_cons wl_902 (lw_cons wl_900 (lw_cons wl_901 (lw_cons wl_111 (lw_cons wl_903 (lw_cons wl_126 (lw_cons wl_897 (lw_cons wl_898 (lw_cons wl_1953 (lw_cons wl_590 (lw_cons wl_1016 (lw_cons wl_132 (lw_cons wl_1950 (lw_cons wl_1952 (lw_cons wl_43 (lw_cons wl_1946 (lw_cons wl_1947 (lw_cons wl_1948 (lw_cons wl_811 (lw_cons wl_1011 (lw_cons wl_1943 (lw_cons wl_1944 (lw_cons wl_110 (lw_cons wl_2414 (lw_cons wl_1969 (lw_cons wl_2214 (lw_cons wl_2217 (lw_cons wl_2215 (lw_cons wl_2216 (lw_cons wl_122 (lw_cons wl_2212 (lw_cons wl_2213 (lw_cons wl_2221 (lw_cons wl_2218 (lw_cons wl_2220 (lw_cons wl_44 (lw_cons wl_1978 (lw_cons wl_2411 (lw_cons wl_2412 (lw_cons wl_2413 (lw_cons wl_2207 (lw_cons wl_2204 (lw_cons wl_2205 (lw_cons wl_2206 lw_nil)))))))))))))))))))))))))))))))))))))))))))))))
set_option maxHeartbeats 4000000 in
set_option maxRecDepth 100000 in
/-- row -/
theorem law_48 {p : Program} {e : Env} {s : State} {m : MethodId} {below : List Frame} {meth : Method} {c : Code} (l : Launch) (hlt : l.stackTraces = false) {b : Nat} {xs : Nat → Int32} {A : Nat → Prop} (hx : p.tables.exec = Jvm.exec) (hb : c.code = code) (hr : meth.sig.returnType = ret) (hml : c.maxLocals = 7) (hown : s.vm.findClass RL = some m.cls) (hts : ∀ w ∈ w_law_48, w.before #[Value.ref b] s = true) (hX : va_X b 8 xs s s.heap) (hbl : b < s.heap.size) (hbA : ¬ A b) (hlocks : meth.locks = false) (hE : EV A s s.heap) (hN : NC s) (hA : ∀ q : Nat, s.heap.size ≤ q → A q) (hAi : ∀ q : Nat, A q → s.heap.size ≤ q) {dC : Nat → ClassId} {dI : Nat → Nat → Nat} (a : Nat → Nat) (k : Nat → ClassId) (h0 : Nat) (q : Nat → Nat) (cm : Nat → ClassId) (o0 : Nat) (ko : ClassId) (H : Heap) (locs : List Loc) (hK : va_K (dC, dI) vwCl [(ko, .long)] s) (hP : va_P (dC, dI) vwCl [(a 0, .inr (14, [.ref (a 1), .ref (a 2), .ref (a 27), .ref (a 30), .ref (a 74), .ref (a 75), .null, .int 0, .int 0])), (a 27, .inr (9, [.ref (a 28), .ref (a 29), .int 0, .int 0])), (o0, .inl (ko, 1, .inr (.inl (fun _ => 0)))), (h0, .inr (15, mF q 0))] H) (hD : va_D A [(a 0, .inr (14, [.ref (a 1), .ref (a 2), .ref (a 27), .ref (a 30), .ref (a 74), .ref (a 75), .null, .int 0, .int 0])), (a 27, .inr (9, [.ref (a 28), .ref (a 29), .int 0, .int 0])), (o0, .inl (ko, 1, .inr (.inl (fun _ => 0)))), (h0, .inr (15, mF q 0))]) (hS : va_S A s.heap H locs) (ls : Array Slot) (hl : lv_has ls 7 [(0, .ref b), (1, .ref (a 0)), (2, .ref h0), (3, .ref o0), (4, .int 0)]) : W p l e room_1 s m #[Value.ref b] below meth c H locs 238 27427 (lw_Z below #[Value.ref b] s) (F0 m 3550 ls []) := by
  refine lv_aload_n hx hb dL_law_3550 rfl (lv_at hl 1 rfl) ?_
  refine lv_aload_n hx hb dL_law_3551 rfl (lv_at hl 0 rfl) ?_
  refine lv_iload hx hb dL_law_3552 (lv_at hl 4 rfl) ?_
  refine lv_iconst (v := 1) hx hb dL_law_3554 (by decide) ?_
  refine lv_iadd hx hb dL_law_3555 ?_
  refine lv_topi (fun x1 ex1 => ?_)
  obtain rfl : x1 = 1 := ex1.trans (by decide)
  refine va_sld hx hb hX hbl hbA hS (i := 1) (by unfold vp_in; decide) dL_law_3556 ?_
  refine lv_topi (fun x2 ex2 => ?_)
  obtain rfl : xs 1 = x2 := (ex2).symm
  refine lv_aload_n hx hb dL_law_3557 rfl (lv_at hl 0 rfl) ?_
  refine lv_iload hx hb dL_law_3558 (lv_at hl 4 rfl) ?_
  refine lv_iconst (v := 2) hx hb dL_law_3560 (by decide) ?_
  refine lv_iadd hx hb dL_law_3561 ?_
  refine lv_topi (fun x3 ex3 => ?_)
  obtain rfl : x3 = 2 := ex3.trans (by decide)
  refine va_sld hx hb hX hbl hbA hS (i := 2) (by unfold vp_in; decide) dL_law_3562 ?_
  refine lv_topi (fun x4 ex4 => ?_)
  obtain rfl : xs 2 = x4 := (ex4).symm
  refine lv_aload_n hx hb dL_law_3563 rfl (lv_at hl 3 rfl) ?_
  have hPc := hP.sub (ws' := [(a 0, .inr (14, [.ref (a 1), .ref (a 2), .ref (a 27), .ref (a 30), .ref (a 74), .ref (a 75), .null, .int 0, .int 0])), (a 27, .inr (9, [.ref (a 28), .ref (a 29), .int 0, .int 0])), (o0, .inl (ko, 1, .inr (.inl (fun _ => 0))))]) [0, 1, 2] rfl
  have hDc := hD.sub (ws' := [(a 0, .inr (14, [.ref (a 1), .ref (a 2), .ref (a 27), .ref (a 30), .ref (a 74), .ref (a 75), .null, .int 0, .int 0])), (a 27, .inr (9, [.ref (a 28), .ref (a 29), .int 0, .int 0])), (o0, .inl (ko, 1, .inr (.inl (fun _ => 0))))]) [0, 1, 2] (by decide) rfl
  have hKc := hK.sub (tys' := [(ko, .long)]) [0] rfl
  have hFc := va_free (wc := [(a 0, .inr (14, [.ref (a 1), .ref (a 2), .ref (a 27), .ref (a 30), .ref (a 74), .ref (a 75), .null, .int 0, .int 0])), (a 27, .inr (9, [.ref (a 28), .ref (a 29), .int 0, .int 0])), (o0, .inl (ko, 1, .inr (.inl (fun _ => 0))))]) hD hS hA [0, 1, 2] rfl
  refine va_calli (vx_runSW (As := [.ref (a 0), .int (xs 1), .int (xs 2), .ref o0]) (rest := []) ⟨hx, hb, hml, hown, hts⟩ (l_row l hlt dC dI a k o0 ko (fun _ => 0) (xs 1) (xs 2) H.size ) (vx_cwSW 4 hts (goodIn_app (goodIn_r _ [24, 25, 26] (by decide +kernel) (by decide +kernel)) (goodIn_ca (goodIn_r _ [1, 2, 3, 4, 5, 6, 7, 8, 9, 10, 11, 12, 13, 14, 15, 16, 17, 18, 19, 20, 21, 22, 23] (by decide +kernel) (by decide +kernel)) (bs_in _ _))) rfl rfl rfl (by decide +kernel) ⟨(Nat.le_of_ble_eq_true rfl), (Nat.le_of_ble_eq_true rfl)⟩) ⟨fun a U g mk q => by obtain ⟨q0, q1, qP, qK, qD, qE, qN⟩ := q; exact ⟨q0, q1, qP, va_K.moved (u := U) (U := U.calling g mk a) (Vm.Alike.refl U.vm) qK, qD, EV.blind g mk a qE, NC.blind g mk a qN⟩, fun U hU hW => ⟨rfl, by rw [hU], by rw [hU]; exact hPc, va_K.moved hW.alike hKc, hDc.weaken (fun _ _ _ _ => trivial), hE.call hS hFc hU hW, hN.call hW⟩⟩ rfl rfl hl.1 rfl (lv_room (Nat.le_of_ble_eq_true rfl)) dL_law_3564 ⟨(Nat.le_of_ble_eq_true rfl), (Nat.le_of_ble_eq_true rfl)⟩) hS (fun q _ h => hFc q h) hFc (fun r6 u t H1 locs ht hvm hw7 hB hz1 hk1 hS => ?_)
  obtain ⟨fu8, rfl⟩ : ∃ z, z = u := ⟨_, rfl⟩
  obtain ⟨hP1, hD1⟩ := hB
  rw [ht] at hP1
  obtain ⟨hP, hD⟩ := va_join (wr := [(h0, .inr (15, mF q 0))]) (w1 := [(o0, .inl (ko, 1, .inr (.inl fu8)))]) hP hD [0, 1, 2] [3] rfl rfl (by decide) (by decide) hk1 hFc hP1 hD1
  generalize H1 = H at hP hS ⊢
  have hP : va_P (dC, dI) vwCl [(h0, .inr (15, mF q 0)), (o0, .inl (ko, 1, .inr (.inl fu8)))] H := hP
  have hD : va_D A [(h0, .inr (15, mF q 0)), (o0, .inl (ko, 1, .inr (.inl fu8)))] := hD
  try dsimp only at hw7
  obtain rfl : (T_row (xs 1) (xs 2)).1 = r6 := hw7.1.symm
  refine lv_istore (lv' := [(5, .int ((T_row (xs 1) (xs 2)).1)), (0, .ref b), (1, .ref (a 0)), (2, .ref h0), (3, .ref o0), (4, .int 0)]) hx hb dL_law_3567 hl (by decide) rfl (fun ls hl => ?_)
  refine lv_aload_n hx hb dL_law_3569 rfl (lv_at hl 3 rfl) ?_
  refine lv_aload_n hx hb dL_law_3570 rfl (lv_at hl 1 rfl) ?_
  refine lv_iload hx hb dL_law_3571 (lv_at hl 5 rfl) ?_
  refine lv_iconst (v := 1) hx hb dL_law_3573 (by decide) ?_
  refine lv_iadd hx hb dL_law_3574 ?_
  refine lv_topi (fun x9 ex9 => ?_)
  obtain rfl : x9 = 1 := ex9.trans (by decide)
  refine va_sld hx hb hX hbl hbA hS (i := 1) (by unfold vp_in; decide) dL_law_3575 ?_
  refine lv_topi (fun x10 ex10 => ?_)
  obtain rfl : xs 1 = x10 := (ex10).symm
  refine lv_aload_n hx hb dL_law_3576 rfl (lv_at hl 1 rfl) ?_
  refine lv_iload hx hb dL_law_3577 (lv_at hl 5 rfl) ?_
  refine lv_iconst (v := 2) hx hb dL_law_3579 (by decide) ?_
  refine lv_iadd hx hb dL_law_3580 ?_
  refine lv_topi (fun x11 ex11 => ?_)
  obtain rfl : x11 = 2 := ex11.trans (by decide)
  refine va_sld hx hb hX hbl hbA hS (i := 2) (by unfold vp_in; decide) dL_law_3581 ?_
  refine lv_topi (fun x12 ex12 => ?_)
  obtain rfl : xs 2 = x12 := (ex12).symm
  have hPc := hP.sub (ws' := [(h0, .inr (15, mF q 0))]) [0] rfl
  have hDc := hD.sub (ws' := [(h0, .inr (15, mF q 0))]) [0] (by decide) rfl
  have hKc := hK.sub (tys' := []) [] rfl
  have hFc := va_free (wc := [(h0, .inr (15, mF q 0))]) hD hS hA [0] rfl
  refine va_calli (va_runV (As := [.int (xs 1), .int (xs 2)]) (rest := []) ⟨hx, hb, hml, hown, hts⟩ (m_row l dC dI h0 q cm (xs 1) (xs 2) H.size ) (cwV 2 hts (goodIn_app (goodIn_r _ [41, 42, 43, 33] (by decide +kernel) (by decide +kernel)) (goodIn_ca (goodIn_r _ [27, 28, 29, 30, 31, 32, 33, 34, 35, 36, 37, 38, 39, 40] (by decide +kernel) (by decide +kernel)) (bs_in _ _))) rfl rfl rfl (by decide +kernel) ⟨(Nat.le_of_ble_eq_true rfl), (Nat.le_of_ble_eq_true rfl)⟩) ⟨fun a U g mk q => by obtain ⟨q0, q1, qP, qK, qD⟩ := q; exact ⟨q0, q1, qP, va_K.moved (u := U) (U := U.calling g mk a) (Vm.Alike.refl U.vm) qK, qD⟩, va_recv hKc hPc (ci := 15) (q0 := 0) rfl rfl, fun U hU hW => ⟨rfl, by rw [hU], by rw [hU]; exact hPc, va_K.moved hW.alike hKc, hDc.weaken (fun _ _ _ _ => trivial)⟩⟩ rfl rfl hl.1 rfl (lv_room (Nat.le_of_ble_eq_true rfl)) dL_law_3582 ⟨(Nat.le_of_ble_eq_true rfl), (Nat.le_of_ble_eq_true rfl)⟩) hS (fun q _ h => hFc q h) hFc (fun r14 u t H1 locs ht hvm hw15 hB hz1 hk1 hS => ?_)
  obtain ⟨fs16, rfl⟩ : ∃ z, z = u := ⟨_, rfl⟩
  obtain ⟨hP1, hD1⟩ := hB
  rw [ht] at hP1
  obtain ⟨hP, hD⟩ := va_join (wr := [(o0, .inl (ko, 1, .inr (.inl fu8)))]) (w1 := [(h0, .inr (15, fs16))]) hP hD [0] [1] rfl rfl (by decide) (by decide) hk1 hFc hP1 hD1
  generalize H1 = H at hP hS ⊢
  have hP : va_P (dC, dI) vwCl [(o0, .inl (ko, 1, .inr (.inl fu8))), (h0, .inr (15, fs16))] H := hP
  have hD : va_D A [(o0, .inl (ko, 1, .inr (.inl fu8))), (h0, .inr (15, fs16))] := hD
  try dsimp only at hw15
  refine lv_istore (lv' := [(6, .int r14), (5, .int ((T_row (xs 1) (xs 2)).1)), (0, .ref b), (1, .ref (a 0)), (2, .ref h0), (3, .ref o0), (4, .int 0)]) hx hb dL_law_3585 hl (by decide) rfl (fun ls hl => ?_)
  refine lv_aload_n hx hb dL_law_3587 rfl (lv_at hl 4 rfl) ?_
  have hPc := hP.sub (ws' := [(h0, .inr (15, fs16))]) [1] rfl
  have hDc := hD.sub (ws' := [(h0, .inr (15, fs16))]) [1] (by decide) rfl
  have hKc := hK.sub (tys' := []) [] rfl
  have hFc := va_free (wc := [(h0, .inr (15, fs16))]) hD hS hA [1] rfl
  refine va_calli (va_runV (As := []) (rest := []) ⟨hx, hb, hml, hown, hts⟩ (m_thrown l dC dI h0 fs16 ((T_row (xs 1) (xs 2)).1) H.size hw15.1) (cwV 0 hts (goodIn_app (goodIn_r _ [45, 46, 47, 33] (by decide +kernel) (by decide +kernel)) (goodIn_ca (goodIn_r _ [44, 28] (by decide +kernel) (by decide +kernel)) (bs_in _ _))) rfl rfl rfl (by decide +kernel) ⟨(Nat.le_of_ble_eq_true rfl), (Nat.le_of_ble_eq_true rfl)⟩) ⟨fun a U g mk q => by obtain ⟨q0, q1, qP, qK, qD⟩ := q; exact ⟨q0, q1, qP, va_K.moved (u := U) (U := U.calling g mk a) (Vm.Alike.refl U.vm) qK, qD⟩, va_recv hKc hPc (ci := 15) (q0 := 0) rfl rfl, fun U hU hW => ⟨rfl, by rw [hU], by rw [hU]; exact hPc, va_K.moved hW.alike hKc, hDc.weaken (fun _ _ _ _ => trivial)⟩⟩ rfl rfl hl.1 rfl (lv_room (Nat.le_of_ble_eq_true rfl)) dL_law_3588 ⟨(Nat.le_of_ble_eq_true rfl), (Nat.le_of_ble_eq_true rfl)⟩) hS (fun q _ h => hFc q h) hFc (fun r18 u t H1 locs ht hvm hw19 hB hz1 hk1 hS => ?_)
  have hP1 : va_P (dC, dI) vwCl [] H1 := nilP
  have hD1 : va_D (va_A [(h0, .inr (15, fs16))] H.size) [] := nilD
  have hK := hK
  obtain ⟨hP, hD⟩ := va_join (wr := [(o0, .inl (ko, 1, .inr (.inl fu8)))]) (w1 := []) hP hD [1] [0] rfl rfl (by decide) (by decide) hk1 hFc hP1 hD1
  generalize H1 = H at hP hS ⊢
  have hP : va_P (dC, dI) vwCl [(o0, .inl (ko, 1, .inr (.inl fu8)))] H := hP
  have hD : va_D A [(o0, .inl (ko, 1, .inr (.inl fu8)))] := hD
  try dsimp only at hw19
  obtain rfl : (T_row (xs 1) (xs 2)).1 = r18 := hw19.symm
  refine lv_iload hx hb dL_law_3591 (lv_at hl 1 rfl) ?_
  refine lv_icmp_eq (tgt := 3598) hx hb dL_law_3593 (by decide) (fun c20 => ?_) (fun c20 => absurd rfl c20)
  refine lv_iload hx hb dL_law_3598 (lv_at hl 1 rfl) ?_
  refine lv_if_ne (tgt := 3615) hx hb dL_law_3600 (by decide) (fun c21 => ?_) (fun c21 => ?_)
  · refine lv_goto (tgt := 3762) hx hb dL_law_3615 (by decide) ?_
    exact law_tail hx hb hr hlocks hX hbl hbA hAi hS (Nat.le_of_ble_eq_true rfl) (Nat.le_of_ble_eq_true rfl) ls (lv_sub hl [2, 6] rfl)
  · refine lv_aload_n hx hb dL_law_3603 rfl (lv_at hl 5 rfl) ?_
    refine lv_iconst (v := 0) hx hb dL_law_3604 (by decide) ?_
    refine va_lald hx hb hK hP 0 0 rfl rfl (by unfold vp_in; decide) dL_law_3605 ?_
    refine lv_iload hx hb dL_law_3606 (lv_at hl 0 rfl) ?_
    refine lv_i2l (v := r14.toInt64) hx hb dL_law_3608 rfl ?_
    refine W.lcmp hx hb dL_law_3609 ?_
    refine lv_topi (fun x22 ex22 => ?_)
    obtain rfl : x22 = 0 := ex22.trans (by rw [show fu8 (0 : Int32).toNatClampNeg = (T_row (xs 1) (xs 2)).2.toInt64 from hw7.2 c21, hw15.2 c21]; exact lg_cmp_self _)
    refine lv_if_eq (tgt := 3615) hx hb dL_law_3610 (by decide) (fun c23 => ?_) (fun c23 => absurd c23 (by decide))
    refine lv_goto (tgt := 3762) hx hb dL_law_3615 (by decide) ?_
    exact law_tail hx hb hr hlocks hX hbl hbA hAi hS (Nat.le_of_ble_eq_true rfl) (Nat.le_of_ble_eq_true rfl) ls (lv_sub hl [2, 6] rfl)
def w_law_49 : List Cond := .initialized RL :: ([.codeWith yL_tear cL_tear 6 (some .int) [(0, 12, 15, 13), (0, 12, 19, 39)], .code yX11_tear cX11_tear 5 (some .int), .code yX11_needSquare cX11_needSquare 1 none, .code yX11_within cX11_within 3 (some .boolean), .methodLink RX11 58 yX11_within, .static yX11_within, .initialized RX11, .classLink RX11 557 "java/lang/IndexOutOfBoundsException", .initialized "java/lang/IndexOutOfBoundsException", .methodLink RX11 55 yX11_needSquare, .static yX11_needSquare, .code yX11_needRow cX11_needRow 2 none, .fieldLink RX11 23 "SeaLand" "rows" "LSeaLand$Rows;", .classLink RX11 134 "java/util/NoSuchElementException", .initialized "java/util/NoSuchElementException", .methodLink RX11 493 yX11_needRow, .instanceMethod yX11_needRow, .selects RX11 yX11_needRow yX11_needRow, .methodLink RL 166 yX11_tear, .instanceMethod yX11_tear, .selects RX11 yX11_tear yX11_tear, .classLink RL 13 "java/lang/IndexOutOfBoundsException", .classLink RL 39 "java/util/NoSuchElementException", .methodLink RL 342 yL_tear, .static yL_tear, .initialized RL, .code yX12_tear cX12_tear 4 (some .int), .fieldLink RX12 194 "SeaLandModel" "thrown" "I", .code yX12_noSquare cX12_noSquare 1 (some .boolean), .code yX12_in cX12_in 3 (some .boolean), .methodLink RX12 197 yX12_in, .static yX12_in, .initialized RX12, .methodLink RX12 220 yX12_noSquare, .static yX12_noSquare, .code yX12_throwsIf cX12_throwsIf 3 (some .boolean), .methodLink RX12 224 yX12_throwsIf, .instanceMethod yX12_throwsIf, .selects RX12 yX12_throwsIf yX12_throwsIf, .fieldLink RX12 238 "SeaLandModel" "rows" "I", .methodLink RL 344 yX12_tear, .instanceMethod yX12_tear, .selects RX12 yX12_tear yX12_tear, .code yX12_thrown cX12_thrown 1 (some .int), .methodLink RL 187 yX12_thrown, .instanceMethod yX12_thrown, .selects RX12 yX12_thrown yX12_thrown] ++ bs)
set_option maxRecDepth 100000 in
theorem wm_49 : ∀ w ∈ w_law_49, w ∈ lw_tbl := lw_ins wl_110 (lw_cons wl_1958 (lw_cons wl_1962 (lw_cons wl_899 (lw_cons wl_902 (lw_cons wl_900 (lw_cons wl_901 (lw_cons wl_111 (lw_cons wl_903 (lw_cons wl_126 (lw_cons wl_897 (lw_cons wl_898 (lw_cons wl_1953 (lw_cons wl_590 (lw_cons wl_1016 (lw_cons wl_132 (lw_cons wl_1950 (lw_cons wl_1952 (lw_cons wl_43 (lw_cons wl_1959 (lw_cons wl_1960 (lw_cons wl_1961 (lw_cons wl_811 (lw_cons wl_1011 (lw_cons wl_1956 (lw_cons wl_1957 (lw_cons wl_110 (lw_cons wl_2418 (lw_cons wl_1969 (lw_cons wl_2214 (lw_cons wl_2217 (lw_cons wl_2215 (lw_cons wl_2216 (lw_cons wl_122 (lw_cons wl_2212 (lw_cons wl_2213 (lw_cons wl_2221 (lw_cons wl_2218 (lw_cons wl_2220 (lw_cons wl_44 (lw_cons wl_1978 (lw_cons wl_2415 (lw_cons wl_2416 (lw_cons wl_2417 (lw_cons wl_2207 (lw_cons wl_2204 (lw_cons wl_2205 (lw_cons wl_2206 lw_nil)))))))))))))))))))))))))))))))))))))))))))))))
set_option maxHeartbeats 4000000 in
set_option maxRecDepth 100000 in
/-- tear -/
theorem law_49 {p : Program} {e : Env} {s : State} {m : MethodId} {below : List Frame} {meth : Method} {c : Code} (l : Launch) (hlt : l.stackTraces = false) {b : Nat} {xs : Nat → Int32} {A : Nat → Prop} (hx : p.tables.exec = Jvm.exec) (hb : c.code = code) (hr : meth.sig.returnType = ret) (hml : c.maxLocals = 7) (hown : s.vm.findClass RL = some m.cls) (hts : ∀ w ∈ w_law_49, w.before #[Value.ref b] s = true) (hX : va_X b 8 xs s s.heap) (hbl : b < s.heap.size) (hbA : ¬ A b) (hlocks : meth.locks = false) (hE : EV A s s.heap) (hN : NC s) (hA : ∀ q : Nat, s.heap.size ≤ q → A q) (hAi : ∀ q : Nat, A q → s.heap.size ≤ q) {dC : Nat → ClassId} {dI : Nat → Nat → Nat} (a : Nat → Nat) (k : Nat → ClassId) (h0 : Nat) (q : Nat → Nat) (cm : Nat → ClassId) (o0 : Nat) (ko : ClassId) (H : Heap) (locs : List Loc) (hK : va_K (dC, dI) vwCl [(ko, .long)] s) (hP : va_P (dC, dI) vwCl [(a 0, .inr (14, [.ref (a 1), .ref (a 2), .ref (a 27), .ref (a 30), .ref (a 74), .ref (a 75), .null, .int 0, .int 0])), (a 27, .inr (9, [.ref (a 28), .ref (a 29), .int 0, .int 0])), (o0, .inl (ko, 1, .inr (.inl (fun _ => 0)))), (h0, .inr (15, mF q 0))] H) (hD : va_D A [(a 0, .inr (14, [.ref (a 1), .ref (a 2), .ref (a 27), .ref (a 30), .ref (a 74), .ref (a 75), .null, .int 0, .int 0])), (a 27, .inr (9, [.ref (a 28), .ref (a 29), .int 0, .int 0])), (o0, .inl (ko, 1, .inr (.inl (fun _ => 0)))), (h0, .inr (15, mF q 0))]) (hS : va_S A s.heap H locs) (ls : Array Slot) (hl : lv_has ls 7 [(0, .ref b), (1, .ref (a 0)), (2, .ref h0), (3, .ref o0), (4, .int 0)]) : W p l e room_1 s m #[Value.ref b] below meth c H locs 238 27427 (lw_Z below #[Value.ref b] s) (F0 m 3618 ls []) := by
  refine lv_aload_n hx hb dL_law_3618 rfl (lv_at hl 1 rfl) ?_
  refine lv_aload_n hx hb dL_law_3619 rfl (lv_at hl 0 rfl) ?_
  refine lv_iload hx hb dL_law_3620 (lv_at hl 4 rfl) ?_
  refine lv_iconst (v := 1) hx hb dL_law_3622 (by decide) ?_
  refine lv_iadd hx hb dL_law_3623 ?_
  refine lv_topi (fun x1 ex1 => ?_)
  obtain rfl : x1 = 1 := ex1.trans (by decide)
  refine va_sld hx hb hX hbl hbA hS (i := 1) (by unfold vp_in; decide) dL_law_3624 ?_
  refine lv_topi (fun x2 ex2 => ?_)
  obtain rfl : xs 1 = x2 := (ex2).symm
  refine lv_aload_n hx hb dL_law_3625 rfl (lv_at hl 0 rfl) ?_
  refine lv_iload hx hb dL_law_3626 (lv_at hl 4 rfl) ?_
  refine lv_iconst (v := 2) hx hb dL_law_3628 (by decide) ?_
  refine lv_iadd hx hb dL_law_3629 ?_
  refine lv_topi (fun x3 ex3 => ?_)
  obtain rfl : x3 = 2 := ex3.trans (by decide)
  refine va_sld hx hb hX hbl hbA hS (i := 2) (by unfold vp_in; decide) dL_law_3630 ?_
  refine lv_topi (fun x4 ex4 => ?_)
  obtain rfl : xs 2 = x4 := (ex4).symm
  refine lv_aload_n hx hb dL_law_3631 rfl (lv_at hl 0 rfl) ?_
  refine lv_iload hx hb dL_law_3632 (lv_at hl 4 rfl) ?_
  refine lv_iconst (v := 3) hx hb dL_law_3634 (by decide) ?_
  refine lv_iadd hx hb dL_law_3635 ?_
  refine lv_topi (fun x5 ex5 => ?_)
  obtain rfl : x5 = 3 := ex5.trans (by decide)
  refine va_sld hx hb hX hbl hbA hS (i := 3) (by unfold vp_in; decide) dL_law_3636 ?_
  refine lv_topi (fun x6 ex6 => ?_)
  obtain rfl : xs 3 = x6 := (ex6).symm
  refine lv_aload_n hx hb dL_law_3637 rfl (lv_at hl 3 rfl) ?_
  have hPc := hP.sub (ws' := [(a 0, .inr (14, [.ref (a 1), .ref (a 2), .ref (a 27), .ref (a 30), .ref (a 74), .ref (a 75), .null, .int 0, .int 0])), (a 27, .inr (9, [.ref (a 28), .ref (a 29), .int 0, .int 0])), (o0, .inl (ko, 1, .inr (.inl (fun _ => 0))))]) [0, 1, 2] rfl
  have hDc := hD.sub (ws' := [(a 0, .inr (14, [.ref (a 1), .ref (a 2), .ref (a 27), .ref (a 30), .ref (a 74), .ref (a 75), .null, .int 0, .int 0])), (a 27, .inr (9, [.ref (a 28), .ref (a 29), .int 0, .int 0])), (o0, .inl (ko, 1, .inr (.inl (fun _ => 0))))]) [0, 1, 2] (by decide) rfl
  have hKc := hK.sub (tys' := [(ko, .long)]) [0] rfl
  have hFc := va_free (wc := [(a 0, .inr (14, [.ref (a 1), .ref (a 2), .ref (a 27), .ref (a 30), .ref (a 74), .ref (a 75), .null, .int 0, .int 0])), (a 27, .inr (9, [.ref (a 28), .ref (a 29), .int 0, .int 0])), (o0, .inl (ko, 1, .inr (.inl (fun _ => 0))))]) hD hS hA [0, 1, 2] rfl
  refine va_calli (vx_runSW (As := [.ref (a 0), .int (xs 1), .int (xs 2), .int (xs 3), .ref o0]) (rest := []) ⟨hx, hb, hml, hown, hts⟩ (l_tear l hlt dC dI a k o0 ko (fun _ => 0) (xs 1) (xs 2) (xs 3) H.size ) (vx_cwSW 5 hts (goodIn_app (goodIn_r _ [24, 25, 26] (by decide +kernel) (by decide +kernel)) (goodIn_ca (goodIn_r _ [1, 2, 3, 4, 5, 6, 7, 8, 9, 10, 11, 12, 13, 14, 15, 16, 17, 18, 19, 20, 21, 22, 23] (by decide +kernel) (by decide +kernel)) (bs_in _ _))) rfl rfl rfl (by decide +kernel) ⟨(Nat.le_of_ble_eq_true rfl), (Nat.le_of_ble_eq_true rfl)⟩) ⟨fun a U g mk q => by obtain ⟨q0, q1, qP, qK, qD, qE, qN⟩ := q; exact ⟨q0, q1, qP, va_K.moved (u := U) (U := U.calling g mk a) (Vm.Alike.refl U.vm) qK, qD, EV.blind g mk a qE, NC.blind g mk a qN⟩, fun U hU hW => ⟨rfl, by rw [hU], by rw [hU]; exact hPc, va_K.moved hW.alike hKc, hDc.weaken (fun _ _ _ _ => trivial), hE.call hS hFc hU hW, hN.call hW⟩⟩ rfl rfl hl.1 rfl (lv_room (Nat.le_of_ble_eq_true rfl)) dL_law_3638 ⟨(Nat.le_of_ble_eq_true rfl), (Nat.le_of_ble_eq_true rfl)⟩) hS (fun q _ h => hFc q h) hFc (fun r8 u t H1 locs ht hvm hw9 hB hz1 hk1 hS => ?_)
  obtain ⟨fu10, rfl⟩ : ∃ z, z = u := ⟨_, rfl⟩
  obtain ⟨hP1, hD1⟩ := hB
  rw [ht] at hP1
  obtain ⟨hP, hD⟩ := va_join (wr := [(h0, .inr (15, mF q 0))]) (w1 := [(o0, .inl (ko, 1, .inr (.inl fu10)))]) hP hD [0, 1, 2] [3] rfl rfl (by decide) (by decide) hk1 hFc hP1 hD1
  generalize H1 = H at hP hS ⊢
  have hP : va_P (dC, dI) vwCl [(h0, .inr (15, mF q 0)), (o0, .inl (ko, 1, .inr (.inl fu10)))] H := hP
  have hD : va_D A [(h0, .inr (15, mF q 0)), (o0, .inl (ko, 1, .inr (.inl fu10)))] := hD
  try dsimp only at hw9
  obtain rfl : (T_tear (xs 1) (xs 2) (xs 3)).1 = r8 := hw9.1.symm
  refine lv_istore (lv' := [(5, .int ((T_tear (xs 1) (xs 2) (xs 3)).1)), (0, .ref b), (1, .ref (a 0)), (2, .ref h0), (3, .ref o0), (4, .int 0)]) hx hb dL_law_3641 hl (by decide) rfl (fun ls hl => ?_)
  refine lv_aload_n hx hb dL_law_3643 rfl (lv_at hl 3 rfl) ?_
  refine lv_aload_n hx hb dL_law_3644 rfl (lv_at hl 1 rfl) ?_
  refine lv_iload hx hb dL_law_3645 (lv_at hl 5 rfl) ?_
  refine lv_iconst (v := 1) hx hb dL_law_3647 (by decide) ?_
  refine lv_iadd hx hb dL_law_3648 ?_
  refine lv_topi (fun x11 ex11 => ?_)
  obtain rfl : x11 = 1 := ex11.trans (by decide)
  refine va_sld hx hb hX hbl hbA hS (i := 1) (by unfold vp_in; decide) dL_law_3649 ?_
  refine lv_topi (fun x12 ex12 => ?_)
  obtain rfl : xs 1 = x12 := (ex12).symm
  refine lv_aload_n hx hb dL_law_3650 rfl (lv_at hl 1 rfl) ?_
  refine lv_iload hx hb dL_law_3651 (lv_at hl 5 rfl) ?_
  refine lv_iconst (v := 2) hx hb dL_law_3653 (by decide) ?_
  refine lv_iadd hx hb dL_law_3654 ?_
  refine lv_topi (fun x13 ex13 => ?_)
  obtain rfl : x13 = 2 := ex13.trans (by decide)
  refine va_sld hx hb hX hbl hbA hS (i := 2) (by unfold vp_in; decide) dL_law_3655 ?_
  refine lv_topi (fun x14 ex14 => ?_)
  obtain rfl : xs 2 = x14 := (ex14).symm
  refine lv_aload_n hx hb dL_law_3656 rfl (lv_at hl 1 rfl) ?_
  refine lv_iload hx hb dL_law_3657 (lv_at hl 5 rfl) ?_
  refine lv_iconst (v := 3) hx hb dL_law_3659 (by decide) ?_
  refine lv_iadd hx hb dL_law_3660 ?_
  refine lv_topi (fun x15 ex15 => ?_)
  obtain rfl : x15 = 3 := ex15.trans (by decide)
  refine va_sld hx hb hX hbl hbA hS (i := 3) (by unfold vp_in; decide) dL_law_3661 ?_
  refine lv_topi (fun x16 ex16 => ?_)
  obtain rfl : xs 3 = x16 := (ex16).symm
  have hPc := hP.sub (ws' := [(h0, .inr (15, mF q 0))]) [0] rfl
  have hDc := hD.sub (ws' := [(h0, .inr (15, mF q 0))]) [0] (by decide) rfl
  have hKc := hK.sub (tys' := []) [] rfl
  have hFc := va_free (wc := [(h0, .inr (15, mF q 0))]) hD hS hA [0] rfl
  refine va_calli (va_runV (As := [.int (xs 1), .int (xs 2), .int (xs 3)]) (rest := []) ⟨hx, hb, hml, hown, hts⟩ (m_tear l dC dI h0 q cm (xs 1) (xs 2) (xs 3) H.size ) (cwV 3 hts (goodIn_app (goodIn_r _ [41, 42, 43, 33] (by decide +kernel) (by decide +kernel)) (goodIn_ca (goodIn_r _ [27, 28, 29, 30, 31, 32, 33, 34, 35, 36, 37, 38, 39, 40] (by decide +kernel) (by decide +kernel)) (bs_in _ _))) rfl rfl rfl (by decide +kernel) ⟨(Nat.le_of_ble_eq_true rfl), (Nat.le_of_ble_eq_true rfl)⟩) ⟨fun a U g mk q => by obtain ⟨q0, q1, qP, qK, qD⟩ := q; exact ⟨q0, q1, qP, va_K.moved (u := U) (U := U.calling g mk a) (Vm.Alike.refl U.vm) qK, qD⟩, va_recv hKc hPc (ci := 15) (q0 := 0) rfl rfl, fun U hU hW => ⟨rfl, by rw [hU], by rw [hU]; exact hPc, va_K.moved hW.alike hKc, hDc.weaken (fun _ _ _ _ => trivial)⟩⟩ rfl rfl hl.1 rfl (lv_room (Nat.le_of_ble_eq_true rfl)) dL_law_3662 ⟨(Nat.le_of_ble_eq_true rfl), (Nat.le_of_ble_eq_true rfl)⟩) hS (fun q _ h => hFc q h) hFc (fun r18 u t H1 locs ht hvm hw19 hB hz1 hk1 hS => ?_)
  obtain ⟨fs20, rfl⟩ : ∃ z, z = u := ⟨_, rfl⟩
  obtain ⟨hP1, hD1⟩ := hB
  rw [ht] at hP1
  obtain ⟨hP, hD⟩ := va_join (wr := [(o0, .inl (ko, 1, .inr (.inl fu10)))]) (w1 := [(h0, .inr (15, fs20))]) hP hD [0] [1] rfl rfl (by decide) (by decide) hk1 hFc hP1 hD1
  generalize H1 = H at hP hS ⊢
  have hP : va_P (dC, dI) vwCl [(o0, .inl (ko, 1, .inr (.inl fu10))), (h0, .inr (15, fs20))] H := hP
  have hD : va_D A [(o0, .inl (ko, 1, .inr (.inl fu10))), (h0, .inr (15, fs20))] := hD
  try dsimp only at hw19
  refine lv_istore (lv' := [(6, .int r18), (5, .int ((T_tear (xs 1) (xs 2) (xs 3)).1)), (0, .ref b), (1, .ref (a 0)), (2, .ref h0), (3, .ref o0), (4, .int 0)]) hx hb dL_law_3665 hl (by decide) rfl (fun ls hl => ?_)
  refine lv_aload_n hx hb dL_law_3667 rfl (lv_at hl 4 rfl) ?_
  have hPc := hP.sub (ws' := [(h0, .inr (15, fs20))]) [1] rfl
  have hDc := hD.sub (ws' := [(h0, .inr (15, fs20))]) [1] (by decide) rfl
  have hKc := hK.sub (tys' := []) [] rfl
  have hFc := va_free (wc := [(h0, .inr (15, fs20))]) hD hS hA [1] rfl
  refine va_calli (va_runV (As := []) (rest := []) ⟨hx, hb, hml, hown, hts⟩ (m_thrown l dC dI h0 fs20 ((T_tear (xs 1) (xs 2) (xs 3)).1) H.size hw19.1) (cwV 0 hts (goodIn_app (goodIn_r _ [45, 46, 47, 33] (by decide +kernel) (by decide +kernel)) (goodIn_ca (goodIn_r _ [44, 28] (by decide +kernel) (by decide +kernel)) (bs_in _ _))) rfl rfl rfl (by decide +kernel) ⟨(Nat.le_of_ble_eq_true rfl), (Nat.le_of_ble_eq_true rfl)⟩) ⟨fun a U g mk q => by obtain ⟨q0, q1, qP, qK, qD⟩ := q; exact ⟨q0, q1, qP, va_K.moved (u := U) (U := U.calling g mk a) (Vm.Alike.refl U.vm) qK, qD⟩, va_recv hKc hPc (ci := 15) (q0 := 0) rfl rfl, fun U hU hW => ⟨rfl, by rw [hU], by rw [hU]; exact hPc, va_K.moved hW.alike hKc, hDc.weaken (fun _ _ _ _ => trivial)⟩⟩ rfl rfl hl.1 rfl (lv_room (Nat.le_of_ble_eq_true rfl)) dL_law_3668 ⟨(Nat.le_of_ble_eq_true rfl), (Nat.le_of_ble_eq_true rfl)⟩) hS (fun q _ h => hFc q h) hFc (fun r22 u t H1 locs ht hvm hw23 hB hz1 hk1 hS => ?_)
  have hP1 : va_P (dC, dI) vwCl [] H1 := nilP
  have hD1 : va_D (va_A [(h0, .inr (15, fs20))] H.size) [] := nilD
  have hK := hK
  obtain ⟨hP, hD⟩ := va_join (wr := [(o0, .inl (ko, 1, .inr (.inl fu10)))]) (w1 := []) hP hD [1] [0] rfl rfl (by decide) (by decide) hk1 hFc hP1 hD1
  generalize H1 = H at hP hS ⊢
  have hP : va_P (dC, dI) vwCl [(o0, .inl (ko, 1, .inr (.inl fu10)))] H := hP
  have hD : va_D A [(o0, .inl (ko, 1, .inr (.inl fu10)))] := hD
  try dsimp only at hw23
  obtain rfl : (T_tear (xs 1) (xs 2) (xs 3)).1 = r22 := hw23.symm
  refine lv_iload hx hb dL_law_3671 (lv_at hl 1 rfl) ?_
  refine lv_icmp_eq (tgt := 3678) hx hb dL_law_3673 (by decide) (fun c24 => ?_) (fun c24 => absurd rfl c24)
  refine lv_iload hx hb dL_law_3678 (lv_at hl 1 rfl) ?_
  refine lv_if_ne (tgt := 3695) hx hb dL_law_3680 (by decide) (fun c25 => ?_) (fun c25 => ?_)
  · refine lv_goto (tgt := 3762) hx hb dL_law_3695 (by decide) ?_
    exact law_tail hx hb hr hlocks hX hbl hbA hAi hS (Nat.le_of_ble_eq_true rfl) (Nat.le_of_ble_eq_true rfl) ls (lv_sub hl [2, 6] rfl)
  · refine lv_aload_n hx hb dL_law_3683 rfl (lv_at hl 5 rfl) ?_
    refine lv_iconst (v := 0) hx hb dL_law_3684 (by decide) ?_
    refine va_lald hx hb hK hP 0 0 rfl rfl (by unfold vp_in; decide) dL_law_3685 ?_
    refine lv_iload hx hb dL_law_3686 (lv_at hl 0 rfl) ?_
    refine lv_i2l (v := r18.toInt64) hx hb dL_law_3688 rfl ?_
    refine W.lcmp hx hb dL_law_3689 ?_
    refine lv_topi (fun x26 ex26 => ?_)
    obtain rfl : x26 = 0 := ex26.trans (by rw [show fu10 (0 : Int32).toNatClampNeg = (T_tear (xs 1) (xs 2) (xs 3)).2.toInt64 from hw9.2 c25, hw19.2 c25]; exact lg_cmp_self _)
    refine lv_if_eq (tgt := 3695) hx hb dL_law_3690 (by decide) (fun c27 => ?_) (fun c27 => absurd c27 (by decide))
    refine lv_goto (tgt := 3762) hx hb dL_law_3695 (by decide) ?_
    exact law_tail hx hb hr hlocks hX hbl hbA hAi hS (Nat.le_of_ble_eq_true rfl) (Nat.le_of_ble_eq_true rfl) ls (lv_sub hl [2, 6] rfl)
