def w_law_16 : List Cond := .initialized RL :: ([.codeWith yL_shut cL_shut 4 (some .int) [(0, 16, 19, 13), (0, 16, 22, 50)], .code yX11_shut cX11_shut 3 (some .boolean), .code yX11_workOf cX11_workOf 2 (some (.object "SeaLand$Work")), .fieldLink RX11 16 "SeaLand" "lake" "LSeaLand$Lake;", .code yX11_within cX11_within 3 (some .boolean), .methodLink RX11 58 yX11_within, .static yX11_within, .initialized RX11, .classLink RX11 557 "java/lang/IndexOutOfBoundsException", .initialized "java/lang/IndexOutOfBoundsException", .methodLink RX11 167 yX11_workOf, .instanceMethod yX11_workOf, .selects RX11 yX11_workOf yX11_workOf, .methodLink RL 72 yX11_shut, .instanceMethod yX11_shut, .selects RX11 yX11_shut yX11_shut, .classLink RL 13 "java/lang/IndexOutOfBoundsException", .methodLink RL 236 yL_shut, .static yL_shut, .initialized RL, .code yX12_shut cX12_shut 2 (some .boolean), .fieldLink RX12 194 "SeaLandModel" "thrown" "I", .code yX12_noWork cX12_noWork 2 (some .boolean), .fieldLink RX12 9 "SeaLandModel" "world" "[I", .code yX12_in cX12_in 3 (some .boolean), .methodLink RX12 197 yX12_in, .static yX12_in, .initialized RX12, .methodLink RX12 269 yX12_noWork, .instanceMethod yX12_noWork, .selects RX12 yX12_noWork yX12_noWork, .code yX12_throwsIf cX12_throwsIf 3 (some .boolean), .methodLink RX12 224 yX12_throwsIf, .instanceMethod yX12_throwsIf, .selects RX12 yX12_throwsIf yX12_throwsIf, .methodLink RL 239 yX12_shut, .instanceMethod yX12_shut, .selects RX12 yX12_shut yX12_shut, .code yX12_thrown cX12_thrown 1 (some .int), .methodLink RL 187 yX12_thrown, .instanceMethod yX12_thrown, .selects RX12 yX12_thrown yX12_thrown] ++ bs)
set_option maxRecDepth 100000 in
theorem wm_16 : ∀ w ∈ w_law_16, w ∈ lw_tbl := lw_ins wl_110 (lw_cons wl_1229 (lw_cons wl_1233 (lw_cons wl_1134 (lw_cons wl_589 (lw_cons wl_902 (lw_cons wl_900 (lw_cons wl_901 (lw_cons wl_111 (lw_cons wl_903 (lw_cons wl_126 (lw_cons wl_1131 (lw_cons wl_1133 (lw_cons wl_8 (lw_cons wl_1230 (lw_cons wl_1231 (lw_cons wl_1232 (lw_cons wl_811 (lw_cons wl_1227 (lw_cons wl_1228 (lw_cons wl_110 (lw_cons wl_2363 (lw_cons wl_1969 (lw_cons wl_2307 (lw_cons wl_1970 (lw_cons wl_2217 (lw_cons wl_2215 (lw_cons wl_2216 (lw_cons wl_122 (lw_cons wl_2304 (lw_cons wl_2306 (lw_cons wl_55 (lw_cons wl_2221 (lw_cons wl_2218 (lw_cons wl_2220 (lw_cons wl_44 (lw_cons wl_2360 (lw_cons wl_2361 (lw_cons wl_2362 (lw_cons wl_2207 (lw_cons wl_2204 (lw_cons wl_2205 (lw_cons wl_2206 lw_nil))))))))))))))))))))))))))))))))))))))))))
set_option maxHeartbeats 4000000 in
set_option maxRecDepth 100000 in
/-- shut -/
theorem law_16 {p : Program} {e : Env} {s : State} {m : MethodId} {below : List Frame} {meth : Method} {c : Code} (l : Launch) (hlt : l.stackTraces = false) {b : Nat} {xs : Nat → Int32} {A : Nat → Prop} (hx : p.tables.exec = Jvm.exec) (hb : c.code = code) (hr : meth.sig.returnType = ret) (hml : c.maxLocals = 7) (hown : s.vm.findClass RL = some m.cls) (hts : ∀ w ∈ w_law_16, w.before #[Value.ref b] s = true) (hX : va_X b 8 xs s s.heap) (hbl : b < s.heap.size) (hbA : ¬ A b) (hlocks : meth.locks = false) (hE : EV A s s.heap) (hN : NC s) (hA : ∀ q : Nat, s.heap.size ≤ q → A q) (hAi : ∀ q : Nat, A q → s.heap.size ≤ q) {dC : Nat → ClassId} {dI : Nat → Nat → Nat} (a : Nat → Nat) (k : Nat → ClassId) (h0 : Nat) (q : Nat → Nat) (cm : Nat → ClassId) (o0 : Nat) (ko : ClassId) (H : Heap) (locs : List Loc) (hK : va_K (dC, dI) vwCl [(ko, .long), ((cm 1), .int)] s) (hP : va_P (dC, dI) vwCl [(a 0, .inr (14, [.ref (a 1), .ref (a 2), .ref (a 27), .ref (a 30), .ref (a 74), .ref (a 75), .null, .int 0, .int 0])), (a 2, .inr (6, [.ref (a 3), .ref (a 14), .ref (a 26), .int 0, .int 0])), (o0, .inl (ko, 1, .inr (.inl (fun _ => 0)))), (h0, .inr (15, mF q 0)), (q 1, .inl ((cm 1), 1749, .inl (fun _ => 0)))] H) (hD : va_D A [(a 0, .inr (14, [.ref (a 1), .ref (a 2), .ref (a 27), .ref (a 30), .ref (a 74), .ref (a 75), .null, .int 0, .int 0])), (a 2, .inr (6, [.ref (a 3), .ref (a 14), .ref (a 26), .int 0, .int 0])), (o0, .inl (ko, 1, .inr (.inl (fun _ => 0)))), (h0, .inr (15, mF q 0)), (q 1, .inl ((cm 1), 1749, .inl (fun _ => 0)))]) (hS : va_S A s.heap H locs) (ls : Array Slot) (hl : lv_has ls 7 [(0, .ref b), (1, .ref (a 0)), (2, .ref h0), (3, .ref o0), (4, .int 0)]) : W p l e room_1 s m #[Value.ref b] below meth c H locs 238 27427 (lw_Z below #[Value.ref b] s) (F0 m 1508 ls []) := by
  refine lv_aload_n hx hb dL_law_1508 rfl (lv_at hl 1 rfl) ?_
  refine lv_aload_n hx hb dL_law_1509 rfl (lv_at hl 0 rfl) ?_
  refine lv_iload hx hb dL_law_1510 (lv_at hl 4 rfl) ?_
  refine lv_iconst (v := 1) hx hb dL_law_1512 (by decide) ?_
  refine lv_iadd hx hb dL_law_1513 ?_
  refine lv_topi (fun x1 ex1 => ?_)
  obtain rfl : x1 = 1 := ex1.trans (by decide)
  refine va_sld hx hb hX hbl hbA hS (i := 1) (by unfold vp_in; decide) dL_law_1514 ?_
  refine lv_topi (fun x2 ex2 => ?_)
  obtain rfl : xs 1 = x2 := (ex2).symm
  refine lv_aload_n hx hb dL_law_1515 rfl (lv_at hl 3 rfl) ?_
  have hPc := hP.sub (ws' := [(a 0, .inr (14, [.ref (a 1), .ref (a 2), .ref (a 27), .ref (a 30), .ref (a 74), .ref (a 75), .null, .int 0, .int 0])), (a 2, .inr (6, [.ref (a 3), .ref (a 14), .ref (a 26), .int 0, .int 0])), (o0, .inl (ko, 1, .inr (.inl (fun _ => 0))))]) [0, 1, 2] rfl
  have hDc := hD.sub (ws' := [(a 0, .inr (14, [.ref (a 1), .ref (a 2), .ref (a 27), .ref (a 30), .ref (a 74), .ref (a 75), .null, .int 0, .int 0])), (a 2, .inr (6, [.ref (a 3), .ref (a 14), .ref (a 26), .int 0, .int 0])), (o0, .inl (ko, 1, .inr (.inl (fun _ => 0))))]) [0, 1, 2] (by decide) rfl
  have hKc := hK.sub (tys' := [(ko, .long)]) [0] rfl
  have hFc := va_free (wc := [(a 0, .inr (14, [.ref (a 1), .ref (a 2), .ref (a 27), .ref (a 30), .ref (a 74), .ref (a 75), .null, .int 0, .int 0])), (a 2, .inr (6, [.ref (a 3), .ref (a 14), .ref (a 26), .int 0, .int 0])), (o0, .inl (ko, 1, .inr (.inl (fun _ => 0))))]) hD hS hA [0, 1, 2] rfl
  refine va_calli (vx_runSW (As := [.ref (a 0), .int (xs 1), .ref o0]) (rest := []) ⟨hx, hb, hml, hown, hts⟩ (l_shut l hlt dC dI a k o0 ko (fun _ => 0) (xs 1) H.size ) (vx_cwSW 3 hts (goodIn_app (goodIn_r _ [18, 19, 20] (by decide +kernel) (by decide +kernel)) (goodIn_ca (goodIn_r _ [1, 2, 3, 4, 5, 6, 7, 8, 9, 10, 11, 12, 13, 14, 15, 16, 17] (by decide +kernel) (by decide +kernel)) (bs_in _ _))) rfl rfl rfl (by decide +kernel) ⟨(Nat.le_of_ble_eq_true rfl), (Nat.le_of_ble_eq_true rfl)⟩) ⟨fun a U g mk q => by obtain ⟨q0, q1, qP, qK, qD, qE, qN⟩ := q; exact ⟨q0, q1, qP, va_K.moved (u := U) (U := U.calling g mk a) (Vm.Alike.refl U.vm) qK, qD, EV.blind g mk a qE, NC.blind g mk a qN⟩, fun U hU hW => ⟨rfl, by rw [hU], by rw [hU]; exact hPc, va_K.moved hW.alike hKc, hDc.weaken (fun _ _ _ _ => trivial), hE.call hS hFc hU hW, hN.call hW⟩⟩ rfl rfl hl.1 rfl (lv_room (Nat.le_of_ble_eq_true rfl)) dL_law_1516 ⟨(Nat.le_of_ble_eq_true rfl), (Nat.le_of_ble_eq_true rfl)⟩) hS (fun q _ h => hFc q h) hFc (fun r4 u t H1 locs ht hvm hw5 hB hz1 hk1 hS => ?_)
  obtain ⟨fu6, rfl⟩ : ∃ z, z = u := ⟨_, rfl⟩
  obtain ⟨hP1, hD1⟩ := hB
  rw [ht] at hP1
  obtain ⟨hP, hD⟩ := va_join (wr := [(h0, .inr (15, mF q 0)), (q 1, .inl ((cm 1), 1749, .inl (fun _ => 0)))]) (w1 := [(o0, .inl (ko, 1, .inr (.inl fu6)))]) hP hD [0, 1, 2] [3, 4] rfl rfl (by decide) (by decide) hk1 hFc hP1 hD1
  generalize H1 = H at hP hS ⊢
  have hP : va_P (dC, dI) vwCl [(h0, .inr (15, mF q 0)), (q 1, .inl ((cm 1), 1749, .inl (fun _ => 0))), (o0, .inl (ko, 1, .inr (.inl fu6)))] H := hP
  have hD : va_D A [(h0, .inr (15, mF q 0)), (q 1, .inl ((cm 1), 1749, .inl (fun _ => 0))), (o0, .inl (ko, 1, .inr (.inl fu6)))] := hD
  try dsimp only at hw5
  obtain rfl : 1 = r4 := hw5.symm
  refine lv_istore (lv' := [(5, .int 1), (0, .ref b), (1, .ref (a 0)), (2, .ref h0), (3, .ref o0), (4, .int 0)]) hx hb dL_law_1519 hl (by decide) rfl (fun ls hl => ?_)
  refine lv_aload_n hx hb dL_law_1521 rfl (lv_at hl 3 rfl) ?_
  refine lv_aload_n hx hb dL_law_1522 rfl (lv_at hl 1 rfl) ?_
  refine lv_iload hx hb dL_law_1523 (lv_at hl 5 rfl) ?_
  refine lv_iconst (v := 1) hx hb dL_law_1525 (by decide) ?_
  refine lv_iadd hx hb dL_law_1526 ?_
  refine lv_topi (fun x7 ex7 => ?_)
  obtain rfl : x7 = 1 := ex7.trans (by decide)
  refine va_sld hx hb hX hbl hbA hS (i := 1) (by unfold vp_in; decide) dL_law_1527 ?_
  refine lv_topi (fun x8 ex8 => ?_)
  obtain rfl : xs 1 = x8 := (ex8).symm
  have hPc := hP.sub (ws' := [(h0, .inr (15, mF q 0)), (q 1, .inl ((cm 1), 1749, .inl (fun _ => 0)))]) [0, 1] rfl
  have hDc := hD.sub (ws' := [(h0, .inr (15, mF q 0)), (q 1, .inl ((cm 1), 1749, .inl (fun _ => 0)))]) [0, 1] (by decide) rfl
  have hKc := hK.sub (tys' := [((cm 1), .int)]) [1] rfl
  have hFc := va_free (wc := [(h0, .inr (15, mF q 0)), (q 1, .inl ((cm 1), 1749, .inl (fun _ => 0)))]) hD hS hA [0, 1] rfl
  refine va_calli (va_runV (As := [.int (xs 1)]) (rest := []) ⟨hx, hb, hml, hown, hts⟩ (m_shut l dC dI h0 q cm (xs 1) H.size ) (cwV 1 hts (goodIn_app (goodIn_r _ [36, 37, 38, 28] (by decide +kernel) (by decide +kernel)) (goodIn_ca (goodIn_r _ [21, 22, 23, 24, 25, 26, 27, 28, 29, 30, 31, 32, 33, 34, 35] (by decide +kernel) (by decide +kernel)) (bs_in _ _))) rfl rfl rfl (by decide +kernel) ⟨(Nat.le_of_ble_eq_true rfl), (Nat.le_of_ble_eq_true rfl)⟩) ⟨fun a U g mk q => by obtain ⟨q0, q1, qP, qK, qD⟩ := q; exact ⟨q0, q1, qP, va_K.moved (u := U) (U := U.calling g mk a) (Vm.Alike.refl U.vm) qK, qD⟩, va_recv hKc hPc (ci := 15) (q0 := 0) rfl rfl, fun U hU hW => ⟨rfl, by rw [hU], by rw [hU]; exact hPc, va_K.moved hW.alike hKc, hDc.weaken (fun _ _ _ _ => trivial)⟩⟩ rfl rfl hl.1 rfl (lv_room (Nat.le_of_ble_eq_true rfl)) dL_law_1528 ⟨(Nat.le_of_ble_eq_true rfl), (Nat.le_of_ble_eq_true rfl)⟩) hS (fun q _ h => hFc q h) hFc (fun r10 u t H1 locs ht hvm hw11 hB hz1 hk1 hS => ?_)
  obtain ⟨fs12, rfl⟩ : ∃ z, z = u := ⟨_, rfl⟩
  obtain ⟨hP1, hD1⟩ := hB
  rw [ht] at hP1
  obtain ⟨hP, hD⟩ := va_join (wr := [(o0, .inl (ko, 1, .inr (.inl fu6)))]) (w1 := [(h0, .inr (15, fs12))]) hP hD [0, 1] [2] rfl rfl (by decide) (by decide) hk1 hFc hP1 hD1
  generalize H1 = H at hP hS ⊢
  have hP : va_P (dC, dI) vwCl [(o0, .inl (ko, 1, .inr (.inl fu6))), (h0, .inr (15, fs12))] H := hP
  have hD : va_D A [(o0, .inl (ko, 1, .inr (.inl fu6))), (h0, .inr (15, fs12))] := hD
  try dsimp only at hw11
  refine lv_istore (lv' := [(6, .int r10), (5, .int 1), (0, .ref b), (1, .ref (a 0)), (2, .ref h0), (3, .ref o0), (4, .int 0)]) hx hb dL_law_1531 hl (by decide) rfl (fun ls hl => ?_)
  refine lv_aload_n hx hb dL_law_1533 rfl (lv_at hl 4 rfl) ?_
  have hPc := hP.sub (ws' := [(h0, .inr (15, fs12))]) [1] rfl
  have hDc := hD.sub (ws' := [(h0, .inr (15, fs12))]) [1] (by decide) rfl
  have hKc := hK.sub (tys' := []) [] rfl
  have hFc := va_free (wc := [(h0, .inr (15, fs12))]) hD hS hA [1] rfl
  refine va_calli (va_runV (As := []) (rest := []) ⟨hx, hb, hml, hown, hts⟩ (m_thrown l dC dI h0 fs12 1 H.size hw11) (cwV 0 hts (goodIn_app (goodIn_r _ [40, 41, 42, 28] (by decide +kernel) (by decide +kernel)) (goodIn_ca (goodIn_r _ [39, 22] (by decide +kernel) (by decide +kernel)) (bs_in _ _))) rfl rfl rfl (by decide +kernel) ⟨(Nat.le_of_ble_eq_true rfl), (Nat.le_of_ble_eq_true rfl)⟩) ⟨fun a U g mk q => by obtain ⟨q0, q1, qP, qK, qD⟩ := q; exact ⟨q0, q1, qP, va_K.moved (u := U) (U := U.calling g mk a) (Vm.Alike.refl U.vm) qK, qD⟩, va_recv hKc hPc (ci := 15) (q0 := 0) rfl rfl, fun U hU hW => ⟨rfl, by rw [hU], by rw [hU]; exact hPc, va_K.moved hW.alike hKc, hDc.weaken (fun _ _ _ _ => trivial)⟩⟩ rfl rfl hl.1 rfl (lv_room (Nat.le_of_ble_eq_true rfl)) dL_law_1534 ⟨(Nat.le_of_ble_eq_true rfl), (Nat.le_of_ble_eq_true rfl)⟩) hS (fun q _ h => hFc q h) hFc (fun r14 u t H1 locs ht hvm hw15 hB hz1 hk1 hS => ?_)
  have hP1 : va_P (dC, dI) vwCl [] H1 := nilP
  have hD1 : va_D (va_A [(h0, .inr (15, fs12))] H.size) [] := nilD
  have hK := hK
  obtain ⟨hP, hD⟩ := va_join (wr := [(o0, .inl (ko, 1, .inr (.inl fu6)))]) (w1 := []) hP hD [1] [0] rfl rfl (by decide) (by decide) hk1 hFc hP1 hD1
  generalize H1 = H at hP hS ⊢
  have hP : va_P (dC, dI) vwCl [(o0, .inl (ko, 1, .inr (.inl fu6)))] H := hP
  have hD : va_D A [(o0, .inl (ko, 1, .inr (.inl fu6)))] := hD
  try dsimp only at hw15
  obtain rfl : 1 = r14 := hw15.symm
  refine lv_iload hx hb dL_law_1537 (lv_at hl 1 rfl) ?_
  refine lv_icmp_eq (tgt := 1544) hx hb dL_law_1539 (by decide) (fun c16 => ?_) (fun c16 => absurd c16 (by decide))
  refine lv_iload hx hb dL_law_1544 (lv_at hl 1 rfl) ?_
  refine lv_if_ne (tgt := 1568) hx hb dL_law_1546 (by decide) (fun c17 => ?_) (fun c17 => absurd c17 (by decide))
  refine lv_goto (tgt := 3762) hx hb dL_law_1568 (by decide) ?_
  exact law_tail hx hb hr hlocks hX hbl hbA hAi hS (Nat.le_of_ble_eq_true rfl) (Nat.le_of_ble_eq_true rfl) ls (lv_sub hl [2, 6] rfl)
