def w_law_40 : List Cond := .initialized RL :: ([.codeWith yL_yards cL_yards 5 (some .int) [(0, 10, 13, 13)], .code yX11_yards cX11_yards 4 (some .int), .code yX11_contractOf cX11_contractOf 2 (some (.object "SeaLand$Contract")), .fieldLink RX11 414 "SeaLand" "contracted" "I", .code yX11_within cX11_within 3 (some .boolean), .methodLink RX11 58 yX11_within, .static yX11_within, .initialized RX11, .classLink RX11 557 "java/lang/IndexOutOfBoundsException", .initialized "java/lang/IndexOutOfBoundsException", .methodLink RX11 419 yX11_contractOf, .instanceMethod yX11_contractOf, .selects RX11 yX11_contractOf yX11_contractOf, .methodLink RL 142 yX11_yards, .instanceMethod yX11_yards, .selects RX11 yX11_yards yX11_yards, .classLink RL 13 "java/lang/IndexOutOfBoundsException", .methodLink RL 314 yL_yards, .static yL_yards, .initialized RL, .code yX12_yards cX12_yards 3 (some .int), .fieldLink RX12 194 "SeaLandModel" "thrown" "I", .code yX12_noContract cX12_noContract 2 (some .boolean), .fieldLink RX12 533 "SeaLandModel" "contracts" "I", .code yX12_in cX12_in 3 (some .boolean), .methodLink RX12 197 yX12_in, .static yX12_in, .initialized RX12, .methodLink RX12 539 yX12_noContract, .instanceMethod yX12_noContract, .selects RX12 yX12_noContract yX12_noContract, .code yX12_throwsIf cX12_throwsIf 3 (some .boolean), .methodLink RX12 224 yX12_throwsIf, .instanceMethod yX12_throwsIf, .selects RX12 yX12_throwsIf yX12_throwsIf, .methodLink RL 316 yX12_yards, .instanceMethod yX12_yards, .selects RX12 yX12_yards yX12_yards, .code yX12_thrown cX12_thrown 1 (some .int), .methodLink RL 187 yX12_thrown, .instanceMethod yX12_thrown, .selects RX12 yX12_thrown yX12_thrown] ++ bs)
set_option maxRecDepth 100000 in
theorem wm_40 : ∀ w ∈ w_law_40, w ∈ lw_tbl := lw_ins (List.mem_of_getElem? (i := 110) (by decide +kernel)) (lw_in _ (1830 :: 1834 :: 1815 :: 596 :: 902 :: 900 :: 901 :: 111 :: 903 :: 126 :: 1812 :: 1814 :: 35 :: 1831 :: 1832 :: 1833 :: 811 :: 1828 :: 1829 :: 110 :: 2710 :: 1969 :: 2702 :: 2033 :: 2217 :: 2215 :: 2216 :: 122 :: 2699 :: 2701 :: 106 :: 2221 :: 2218 :: 2220 :: 44 :: 2707 :: 2708 :: 2709 :: 2207 :: 2204 :: 2205 :: 2206 :: []) (by decide +kernel))
set_option maxHeartbeats 4000000 in
set_option maxRecDepth 100000 in
/-- yards -/
theorem law_40 {p : Program} {e : Env} {s : State} {m : MethodId} {below : List Frame} {meth : Method} {c : Code} (l : Launch) (hlt : l.stackTraces = false) {b : Nat} {xs : Nat → Int32} {A : Nat → Prop} (hx : p.tables.exec = Jvm.exec) (hb : c.code = code) (hr : meth.sig.returnType = ret) (hml : c.maxLocals = 7) (hown : s.vm.findClass RL = some m.cls) (hts : ∀ w ∈ w_law_40, w.before #[Value.ref b] s = true) (hX : va_X b 8 xs s s.heap) (hbl : b < s.heap.size) (hbA : ¬ A b) (hlocks : meth.locks = false) (hE : EV A s s.heap) (hN : NC s) (hA : ∀ q : Nat, s.heap.size ≤ q → A q) (hAi : ∀ q : Nat, A q → s.heap.size ≤ q) {dC : Nat → ClassId} {dI : Nat → Nat → Nat} (a : Nat → Nat) (k : Nat → ClassId) (h0 : Nat) (q : Nat → Nat) (cm : Nat → ClassId) (o0 : Nat) (ko : ClassId) (H : Heap) (locs : List Loc) (hK : va_K (dC, dI) vwCl [(ko, .long)] s) (hP : va_P (dC, dI) vwCl [(a 0, .inr (14, [.ref (a 1), .ref (a 2), .ref (a 27), .ref (a 30), .ref (a 74), .ref (a 75), .null, .int 0, .int 0])), (o0, .inl (ko, 1, .inr (.inl (fun _ => 0)))), (h0, .inr (15, mF q 0))] H) (hD : va_D A [(a 0, .inr (14, [.ref (a 1), .ref (a 2), .ref (a 27), .ref (a 30), .ref (a 74), .ref (a 75), .null, .int 0, .int 0])), (o0, .inl (ko, 1, .inr (.inl (fun _ => 0)))), (h0, .inr (15, mF q 0))]) (hS : va_S A s.heap H locs) (ls : Array Slot) (hl : lv_has ls 7 [(0, .ref b), (1, .ref (a 0)), (2, .ref h0), (3, .ref o0), (4, .int 0)]) : W p l e room_1 s m #[Value.ref b] below meth c H locs 238 27427 (lw_Z below #[Value.ref b] s) (F0 m 2997 ls []) := by
  refine lv_aload_n hx hb dL_law_2997 rfl (lv_at hl 1 rfl) ?_
  refine lv_aload_n hx hb dL_law_2998 rfl (lv_at hl 0 rfl) ?_
  refine lv_iload hx hb dL_law_2999 (lv_at hl 4 rfl) ?_
  refine lv_iconst (v := 1) hx hb dL_law_3001 (by decide) ?_
  refine lv_iadd hx hb dL_law_3002 ?_
  refine lv_topi (fun x1 ex1 => ?_)
  obtain rfl : x1 = 1 := ex1.trans (by decide)
  refine va_sld hx hb hX hbl hbA hS (i := 1) (by unfold vp_in; decide) dL_law_3003 ?_
  refine lv_topi (fun x2 ex2 => ?_)
  obtain rfl : xs 1 = x2 := (ex2).symm
  refine lv_aload_n hx hb dL_law_3004 rfl (lv_at hl 0 rfl) ?_
  refine lv_iload hx hb dL_law_3005 (lv_at hl 4 rfl) ?_
  refine lv_iconst (v := 2) hx hb dL_law_3007 (by decide) ?_
  refine lv_iadd hx hb dL_law_3008 ?_
  refine lv_topi (fun x3 ex3 => ?_)
  obtain rfl : x3 = 2 := ex3.trans (by decide)
  refine va_sld hx hb hX hbl hbA hS (i := 2) (by unfold vp_in; decide) dL_law_3009 ?_
  refine lv_topi (fun x4 ex4 => ?_)
  obtain rfl : xs 2 = x4 := (ex4).symm
  refine lv_if_eq (tgt := 3017) hx hb dL_law_3010 (by decide) (fun c5 => ?_) (fun c5 => ?_)
  · refine lv_iconst (v := 0) hx hb dL_law_3017 (by decide) ?_
    refine lv_aload_n hx hb dL_law_3018 rfl (lv_at hl 3 rfl) ?_
    have hPc := hP.sub (ws' := [(a 0, .inr (14, [.ref (a 1), .ref (a 2), .ref (a 27), .ref (a 30), .ref (a 74), .ref (a 75), .null, .int 0, .int 0])), (o0, .inl (ko, 1, .inr (.inl (fun _ => 0))))]) [0, 1] rfl
    have hDc := hD.sub (ws' := [(a 0, .inr (14, [.ref (a 1), .ref (a 2), .ref (a 27), .ref (a 30), .ref (a 74), .ref (a 75), .null, .int 0, .int 0])), (o0, .inl (ko, 1, .inr (.inl (fun _ => 0))))]) [0, 1] (by decide) rfl
    have hKc := hK.sub (tys' := [(ko, .long)]) [0] rfl
    have hFc := va_free (wc := [(a 0, .inr (14, [.ref (a 1), .ref (a 2), .ref (a 27), .ref (a 30), .ref (a 74), .ref (a 75), .null, .int 0, .int 0])), (o0, .inl (ko, 1, .inr (.inl (fun _ => 0))))]) hD hS hA [0, 1] rfl
    refine va_calli (vx_runSW (As := [.ref (a 0), .int (xs 1), .int 0, .ref o0]) (rest := []) ⟨hx, hb, hml, hown, hts⟩ (l_yards l hlt dC dI a k o0 ko (fun _ => 0) (xs 1) 0 H.size ) (vx_cwSW 4 hts (goodIn_app (goodIn_r _ [18, 19, 20] (by decide +kernel) (by decide +kernel)) (goodIn_ca (goodIn_r _ [1, 2, 3, 4, 5, 6, 7, 8, 9, 10, 11, 12, 13, 14, 15, 16, 17] (by decide +kernel) (by decide +kernel)) (bs_in _ _))) rfl rfl rfl (by decide +kernel) ⟨(Nat.le_of_ble_eq_true rfl), (Nat.le_of_ble_eq_true rfl)⟩) ⟨fun a U g mk q => by obtain ⟨q0, q1, qP, qK, qD, qE, qN⟩ := q; exact ⟨q0, q1, qP, va_K.moved (u := U) (U := U.calling g mk a) (Vm.Alike.refl U.vm) qK, qD, EV.blind g mk a qE, NC.blind g mk a qN⟩, fun U hU hW => ⟨rfl, by rw [hU], by rw [hU]; exact hPc, va_K.moved hW.alike hKc, hDc.weaken (fun _ _ _ _ => trivial), hE.call hS hFc hU hW, hN.call hW⟩⟩ rfl rfl hl.1 rfl (lv_room (Nat.le_of_ble_eq_true rfl)) dL_law_3019 ⟨(Nat.le_of_ble_eq_true rfl), (Nat.le_of_ble_eq_true rfl)⟩) hS (fun q _ h => hFc q h) hFc (fun r7 u t H1 locs ht hvm hw8 hB hz1 hk1 hS => ?_)
    obtain ⟨fu9, rfl⟩ : ∃ z, z = u := ⟨_, rfl⟩
    obtain ⟨hP1, hD1⟩ := hB
    rw [ht] at hP1
    obtain ⟨hP, hD⟩ := va_join (wr := [(h0, .inr (15, mF q 0))]) (w1 := [(o0, .inl (ko, 1, .inr (.inl fu9)))]) hP hD [0, 1] [2] rfl rfl (by decide) (by decide) hk1 hFc hP1 hD1
    generalize H1 = H at hP hS ⊢
    have hP : va_P (dC, dI) vwCl [(h0, .inr (15, mF q 0)), (o0, .inl (ko, 1, .inr (.inl fu9)))] H := hP
    have hD : va_D A [(h0, .inr (15, mF q 0)), (o0, .inl (ko, 1, .inr (.inl fu9)))] := hD
    try dsimp only at hw8
    obtain rfl : 1 = r7 := hw8.symm
    refine lv_istore (lv' := [(5, .int 1), (0, .ref b), (1, .ref (a 0)), (2, .ref h0), (3, .ref o0), (4, .int 0)]) hx hb dL_law_3022 hl (by decide) rfl (fun ls hl => ?_)
    refine lv_aload_n hx hb dL_law_3024 rfl (lv_at hl 3 rfl) ?_
    refine lv_aload_n hx hb dL_law_3025 rfl (lv_at hl 1 rfl) ?_
    refine lv_iload hx hb dL_law_3026 (lv_at hl 5 rfl) ?_
    refine lv_iconst (v := 1) hx hb dL_law_3028 (by decide) ?_
    refine lv_iadd hx hb dL_law_3029 ?_
    refine lv_topi (fun x10 ex10 => ?_)
    obtain rfl : x10 = 1 := ex10.trans (by decide)
    refine va_sld hx hb hX hbl hbA hS (i := 1) (by unfold vp_in; decide) dL_law_3030 ?_
    refine lv_topi (fun x11 ex11 => ?_)
    obtain rfl : xs 1 = x11 := (ex11).symm
    refine lv_aload_n hx hb dL_law_3031 rfl (lv_at hl 1 rfl) ?_
    refine lv_iload hx hb dL_law_3032 (lv_at hl 5 rfl) ?_
    refine lv_iconst (v := 2) hx hb dL_law_3034 (by decide) ?_
    refine lv_iadd hx hb dL_law_3035 ?_
    refine lv_topi (fun x12 ex12 => ?_)
    obtain rfl : x12 = 2 := ex12.trans (by decide)
    refine va_sld hx hb hX hbl hbA hS (i := 2) (by unfold vp_in; decide) dL_law_3036 ?_
    refine lv_topi (fun x13 ex13 => ?_)
    obtain rfl : xs 2 = x13 := (ex13).symm
    refine lv_if_eq (tgt := 3044) hx hb dL_law_3037 (by decide) (fun c14 => ?_) (fun c14 => absurd c5 c14)
    refine lv_iconst (v := 0) hx hb dL_law_3044 (by decide) ?_
    have hPc := hP.sub (ws' := [(h0, .inr (15, mF q 0))]) [0] rfl
    have hDc := hD.sub (ws' := [(h0, .inr (15, mF q 0))]) [0] (by decide) rfl
    have hKc := hK.sub (tys' := []) [] rfl
    have hFc := va_free (wc := [(h0, .inr (15, mF q 0))]) hD hS hA [0] rfl
    refine va_calli (va_runV (As := [.int (xs 1), .int 0]) (rest := []) ⟨hx, hb, hml, hown, hts⟩ (m_yards l dC dI h0 q cm (xs 1) 0 H.size ) (cwV 2 hts (goodIn_app (goodIn_r _ [36, 37, 38, 28] (by decide +kernel) (by decide +kernel)) (goodIn_ca (goodIn_r _ [21, 22, 23, 24, 25, 26, 27, 28, 29, 30, 31, 32, 33, 34, 35] (by decide +kernel) (by decide +kernel)) (bs_in _ _))) rfl rfl rfl (by decide +kernel) ⟨(Nat.le_of_ble_eq_true rfl), (Nat.le_of_ble_eq_true rfl)⟩) ⟨fun a U g mk q => by obtain ⟨q0, q1, qP, qK, qD⟩ := q; exact ⟨q0, q1, qP, va_K.moved (u := U) (U := U.calling g mk a) (Vm.Alike.refl U.vm) qK, qD⟩, va_recv hKc hPc (ci := 15) (q0 := 0) rfl rfl, fun U hU hW => ⟨rfl, by rw [hU], by rw [hU]; exact hPc, va_K.moved hW.alike hKc, hDc.weaken (fun _ _ _ _ => trivial)⟩⟩ rfl rfl hl.1 rfl (lv_room (Nat.le_of_ble_eq_true rfl)) dL_law_3045 ⟨(Nat.le_of_ble_eq_true rfl), (Nat.le_of_ble_eq_true rfl)⟩) hS (fun q _ h => hFc q h) hFc (fun r16 u t H1 locs ht hvm hw17 hB hz1 hk1 hS => ?_)
    obtain ⟨fs18, rfl⟩ : ∃ z, z = u := ⟨_, rfl⟩
    obtain ⟨hP1, hD1⟩ := hB
    rw [ht] at hP1
    obtain ⟨hP, hD⟩ := va_join (wr := [(o0, .inl (ko, 1, .inr (.inl fu9)))]) (w1 := [(h0, .inr (15, fs18))]) hP hD [0] [1] rfl rfl (by decide) (by decide) hk1 hFc hP1 hD1
    generalize H1 = H at hP hS ⊢
    have hP : va_P (dC, dI) vwCl [(o0, .inl (ko, 1, .inr (.inl fu9))), (h0, .inr (15, fs18))] H := hP
    have hD : va_D A [(o0, .inl (ko, 1, .inr (.inl fu9))), (h0, .inr (15, fs18))] := hD
    try dsimp only at hw17
    refine lv_istore (lv' := [(6, .int r16), (5, .int 1), (0, .ref b), (1, .ref (a 0)), (2, .ref h0), (3, .ref o0), (4, .int 0)]) hx hb dL_law_3048 hl (by decide) rfl (fun ls hl => ?_)
    refine lv_aload_n hx hb dL_law_3050 rfl (lv_at hl 4 rfl) ?_
    have hPc := hP.sub (ws' := [(h0, .inr (15, fs18))]) [1] rfl
    have hDc := hD.sub (ws' := [(h0, .inr (15, fs18))]) [1] (by decide) rfl
    have hKc := hK.sub (tys' := []) [] rfl
    have hFc := va_free (wc := [(h0, .inr (15, fs18))]) hD hS hA [1] rfl
    refine va_calli (va_runV (As := []) (rest := []) ⟨hx, hb, hml, hown, hts⟩ (m_thrown l dC dI h0 fs18 1 H.size hw17) (cwV 0 hts (goodIn_app (goodIn_r _ [40, 41, 42, 28] (by decide +kernel) (by decide +kernel)) (goodIn_ca (goodIn_r _ [39, 22] (by decide +kernel) (by decide +kernel)) (bs_in _ _))) rfl rfl rfl (by decide +kernel) ⟨(Nat.le_of_ble_eq_true rfl), (Nat.le_of_ble_eq_true rfl)⟩) ⟨fun a U g mk q => by obtain ⟨q0, q1, qP, qK, qD⟩ := q; exact ⟨q0, q1, qP, va_K.moved (u := U) (U := U.calling g mk a) (Vm.Alike.refl U.vm) qK, qD⟩, va_recv hKc hPc (ci := 15) (q0 := 0) rfl rfl, fun U hU hW => ⟨rfl, by rw [hU], by rw [hU]; exact hPc, va_K.moved hW.alike hKc, hDc.weaken (fun _ _ _ _ => trivial)⟩⟩ rfl rfl hl.1 rfl (lv_room (Nat.le_of_ble_eq_true rfl)) dL_law_3051 ⟨(Nat.le_of_ble_eq_true rfl), (Nat.le_of_ble_eq_true rfl)⟩) hS (fun q _ h => hFc q h) hFc (fun r20 u t H1 locs ht hvm hw21 hB hz1 hk1 hS => ?_)
    have hP1 : va_P (dC, dI) vwCl [] H1 := nilP
    have hD1 : va_D (va_A [(h0, .inr (15, fs18))] H.size) [] := nilD
    have hK := hK
    obtain ⟨hP, hD⟩ := va_join (wr := [(o0, .inl (ko, 1, .inr (.inl fu9)))]) (w1 := []) hP hD [1] [0] rfl rfl (by decide) (by decide) hk1 hFc hP1 hD1
    generalize H1 = H at hP hS ⊢
    have hP : va_P (dC, dI) vwCl [(o0, .inl (ko, 1, .inr (.inl fu9)))] H := hP
    have hD : va_D A [(o0, .inl (ko, 1, .inr (.inl fu9)))] := hD
    try dsimp only at hw21
    obtain rfl : 1 = r20 := hw21.symm
    refine lv_iload hx hb dL_law_3054 (lv_at hl 1 rfl) ?_
    refine lv_icmp_eq (tgt := 3061) hx hb dL_law_3056 (by decide) (fun c22 => ?_) (fun c22 => absurd c22 (by decide))
    refine lv_iload hx hb dL_law_3061 (lv_at hl 1 rfl) ?_
    refine lv_if_ne (tgt := 3078) hx hb dL_law_3063 (by decide) (fun c23 => ?_) (fun c23 => absurd c23 (by decide))
    refine lv_goto (tgt := 3762) hx hb dL_law_3078 (by decide) ?_
    exact law_tail hx hb hr hlocks hX hbl hbA hAi hS (Nat.le_of_ble_eq_true rfl) (Nat.le_of_ble_eq_true rfl) ls (lv_sub hl [2, 6] rfl)
  · refine lv_iconst (v := 1) hx hb dL_law_3013 (by decide) ?_
    refine lv_goto (tgt := 3018) hx hb dL_law_3014 (by decide) ?_
    refine lv_aload_n hx hb dL_law_3018 rfl (lv_at hl 3 rfl) ?_
    have hPc := hP.sub (ws' := [(a 0, .inr (14, [.ref (a 1), .ref (a 2), .ref (a 27), .ref (a 30), .ref (a 74), .ref (a 75), .null, .int 0, .int 0])), (o0, .inl (ko, 1, .inr (.inl (fun _ => 0))))]) [0, 1] rfl
    have hDc := hD.sub (ws' := [(a 0, .inr (14, [.ref (a 1), .ref (a 2), .ref (a 27), .ref (a 30), .ref (a 74), .ref (a 75), .null, .int 0, .int 0])), (o0, .inl (ko, 1, .inr (.inl (fun _ => 0))))]) [0, 1] (by decide) rfl
    have hKc := hK.sub (tys' := [(ko, .long)]) [0] rfl
    have hFc := va_free (wc := [(a 0, .inr (14, [.ref (a 1), .ref (a 2), .ref (a 27), .ref (a 30), .ref (a 74), .ref (a 75), .null, .int 0, .int 0])), (o0, .inl (ko, 1, .inr (.inl (fun _ => 0))))]) hD hS hA [0, 1] rfl
    refine va_calli (vx_runSW (As := [.ref (a 0), .int (xs 1), .int 1, .ref o0]) (rest := []) ⟨hx, hb, hml, hown, hts⟩ (l_yards l hlt dC dI a k o0 ko (fun _ => 0) (xs 1) 1 H.size ) (vx_cwSW 4 hts (goodIn_app (goodIn_r _ [18, 19, 20] (by decide +kernel) (by decide +kernel)) (goodIn_ca (goodIn_r _ [1, 2, 3, 4, 5, 6, 7, 8, 9, 10, 11, 12, 13, 14, 15, 16, 17] (by decide +kernel) (by decide +kernel)) (bs_in _ _))) rfl rfl rfl (by decide +kernel) ⟨(Nat.le_of_ble_eq_true rfl), (Nat.le_of_ble_eq_true rfl)⟩) ⟨fun a U g mk q => by obtain ⟨q0, q1, qP, qK, qD, qE, qN⟩ := q; exact ⟨q0, q1, qP, va_K.moved (u := U) (U := U.calling g mk a) (Vm.Alike.refl U.vm) qK, qD, EV.blind g mk a qE, NC.blind g mk a qN⟩, fun U hU hW => ⟨rfl, by rw [hU], by rw [hU]; exact hPc, va_K.moved hW.alike hKc, hDc.weaken (fun _ _ _ _ => trivial), hE.call hS hFc hU hW, hN.call hW⟩⟩ rfl rfl hl.1 rfl (lv_room (Nat.le_of_ble_eq_true rfl)) dL_law_3019 ⟨(Nat.le_of_ble_eq_true rfl), (Nat.le_of_ble_eq_true rfl)⟩) hS (fun q _ h => hFc q h) hFc (fun r25 u t H1 locs ht hvm hw26 hB hz1 hk1 hS => ?_)
    obtain ⟨fu27, rfl⟩ : ∃ z, z = u := ⟨_, rfl⟩
    obtain ⟨hP1, hD1⟩ := hB
    rw [ht] at hP1
    obtain ⟨hP, hD⟩ := va_join (wr := [(h0, .inr (15, mF q 0))]) (w1 := [(o0, .inl (ko, 1, .inr (.inl fu27)))]) hP hD [0, 1] [2] rfl rfl (by decide) (by decide) hk1 hFc hP1 hD1
    generalize H1 = H at hP hS ⊢
    have hP : va_P (dC, dI) vwCl [(h0, .inr (15, mF q 0)), (o0, .inl (ko, 1, .inr (.inl fu27)))] H := hP
    have hD : va_D A [(h0, .inr (15, mF q 0)), (o0, .inl (ko, 1, .inr (.inl fu27)))] := hD
    try dsimp only at hw26
    obtain rfl : 1 = r25 := hw26.symm
    refine lv_istore (lv' := [(5, .int 1), (0, .ref b), (1, .ref (a 0)), (2, .ref h0), (3, .ref o0), (4, .int 0)]) hx hb dL_law_3022 hl (by decide) rfl (fun ls hl => ?_)
    refine lv_aload_n hx hb dL_law_3024 rfl (lv_at hl 3 rfl) ?_
    refine lv_aload_n hx hb dL_law_3025 rfl (lv_at hl 1 rfl) ?_
    refine lv_iload hx hb dL_law_3026 (lv_at hl 5 rfl) ?_
    refine lv_iconst (v := 1) hx hb dL_law_3028 (by decide) ?_
    refine lv_iadd hx hb dL_law_3029 ?_
    refine lv_topi (fun x28 ex28 => ?_)
    obtain rfl : x28 = 1 := ex28.trans (by decide)
    refine va_sld hx hb hX hbl hbA hS (i := 1) (by unfold vp_in; decide) dL_law_3030 ?_
    refine lv_topi (fun x29 ex29 => ?_)
    obtain rfl : xs 1 = x29 := (ex29).symm
    refine lv_aload_n hx hb dL_law_3031 rfl (lv_at hl 1 rfl) ?_
    refine lv_iload hx hb dL_law_3032 (lv_at hl 5 rfl) ?_
    refine lv_iconst (v := 2) hx hb dL_law_3034 (by decide) ?_
    refine lv_iadd hx hb dL_law_3035 ?_
    refine lv_topi (fun x30 ex30 => ?_)
    obtain rfl : x30 = 2 := ex30.trans (by decide)
    refine va_sld hx hb hX hbl hbA hS (i := 2) (by unfold vp_in; decide) dL_law_3036 ?_
    refine lv_topi (fun x31 ex31 => ?_)
    obtain rfl : xs 2 = x31 := (ex31).symm
    refine lv_if_eq (tgt := 3044) hx hb dL_law_3037 (by decide) (fun c32 => absurd c32 c5) (fun c32 => ?_)
    refine lv_iconst (v := 1) hx hb dL_law_3040 (by decide) ?_
    refine lv_goto (tgt := 3045) hx hb dL_law_3041 (by decide) ?_
    have hPc := hP.sub (ws' := [(h0, .inr (15, mF q 0))]) [0] rfl
    have hDc := hD.sub (ws' := [(h0, .inr (15, mF q 0))]) [0] (by decide) rfl
    have hKc := hK.sub (tys' := []) [] rfl
    have hFc := va_free (wc := [(h0, .inr (15, mF q 0))]) hD hS hA [0] rfl
    refine va_calli (va_runV (As := [.int (xs 1), .int 1]) (rest := []) ⟨hx, hb, hml, hown, hts⟩ (m_yards l dC dI h0 q cm (xs 1) 1 H.size ) (cwV 2 hts (goodIn_app (goodIn_r _ [36, 37, 38, 28] (by decide +kernel) (by decide +kernel)) (goodIn_ca (goodIn_r _ [21, 22, 23, 24, 25, 26, 27, 28, 29, 30, 31, 32, 33, 34, 35] (by decide +kernel) (by decide +kernel)) (bs_in _ _))) rfl rfl rfl (by decide +kernel) ⟨(Nat.le_of_ble_eq_true rfl), (Nat.le_of_ble_eq_true rfl)⟩) ⟨fun a U g mk q => by obtain ⟨q0, q1, qP, qK, qD⟩ := q; exact ⟨q0, q1, qP, va_K.moved (u := U) (U := U.calling g mk a) (Vm.Alike.refl U.vm) qK, qD⟩, va_recv hKc hPc (ci := 15) (q0 := 0) rfl rfl, fun U hU hW => ⟨rfl, by rw [hU], by rw [hU]; exact hPc, va_K.moved hW.alike hKc, hDc.weaken (fun _ _ _ _ => trivial)⟩⟩ rfl rfl hl.1 rfl (lv_room (Nat.le_of_ble_eq_true rfl)) dL_law_3045 ⟨(Nat.le_of_ble_eq_true rfl), (Nat.le_of_ble_eq_true rfl)⟩) hS (fun q _ h => hFc q h) hFc (fun r34 u t H1 locs ht hvm hw35 hB hz1 hk1 hS => ?_)
    obtain ⟨fs36, rfl⟩ : ∃ z, z = u := ⟨_, rfl⟩
    obtain ⟨hP1, hD1⟩ := hB
    rw [ht] at hP1
    obtain ⟨hP, hD⟩ := va_join (wr := [(o0, .inl (ko, 1, .inr (.inl fu27)))]) (w1 := [(h0, .inr (15, fs36))]) hP hD [0] [1] rfl rfl (by decide) (by decide) hk1 hFc hP1 hD1
    generalize H1 = H at hP hS ⊢
    have hP : va_P (dC, dI) vwCl [(o0, .inl (ko, 1, .inr (.inl fu27))), (h0, .inr (15, fs36))] H := hP
    have hD : va_D A [(o0, .inl (ko, 1, .inr (.inl fu27))), (h0, .inr (15, fs36))] := hD
    try dsimp only at hw35
    refine lv_istore (lv' := [(6, .int r34), (5, .int 1), (0, .ref b), (1, .ref (a 0)), (2, .ref h0), (3, .ref o0), (4, .int 0)]) hx hb dL_law_3048 hl (by decide) rfl (fun ls hl => ?_)
    refine lv_aload_n hx hb dL_law_3050 rfl (lv_at hl 4 rfl) ?_
    have hPc := hP.sub (ws' := [(h0, .inr (15, fs36))]) [1] rfl
    have hDc := hD.sub (ws' := [(h0, .inr (15, fs36))]) [1] (by decide) rfl
    have hKc := hK.sub (tys' := []) [] rfl
    have hFc := va_free (wc := [(h0, .inr (15, fs36))]) hD hS hA [1] rfl
    refine va_calli (va_runV (As := []) (rest := []) ⟨hx, hb, hml, hown, hts⟩ (m_thrown l dC dI h0 fs36 1 H.size hw35) (cwV 0 hts (goodIn_app (goodIn_r _ [40, 41, 42, 28] (by decide +kernel) (by decide +kernel)) (goodIn_ca (goodIn_r _ [39, 22] (by decide +kernel) (by decide +kernel)) (bs_in _ _))) rfl rfl rfl (by decide +kernel) ⟨(Nat.le_of_ble_eq_true rfl), (Nat.le_of_ble_eq_true rfl)⟩) ⟨fun a U g mk q => by obtain ⟨q0, q1, qP, qK, qD⟩ := q; exact ⟨q0, q1, qP, va_K.moved (u := U) (U := U.calling g mk a) (Vm.Alike.refl U.vm) qK, qD⟩, va_recv hKc hPc (ci := 15) (q0 := 0) rfl rfl, fun U hU hW => ⟨rfl, by rw [hU], by rw [hU]; exact hPc, va_K.moved hW.alike hKc, hDc.weaken (fun _ _ _ _ => trivial)⟩⟩ rfl rfl hl.1 rfl (lv_room (Nat.le_of_ble_eq_true rfl)) dL_law_3051 ⟨(Nat.le_of_ble_eq_true rfl), (Nat.le_of_ble_eq_true rfl)⟩) hS (fun q _ h => hFc q h) hFc (fun r38 u t H1 locs ht hvm hw39 hB hz1 hk1 hS => ?_)
    have hP1 : va_P (dC, dI) vwCl [] H1 := nilP
    have hD1 : va_D (va_A [(h0, .inr (15, fs36))] H.size) [] := nilD
    have hK := hK
    obtain ⟨hP, hD⟩ := va_join (wr := [(o0, .inl (ko, 1, .inr (.inl fu27)))]) (w1 := []) hP hD [1] [0] rfl rfl (by decide) (by decide) hk1 hFc hP1 hD1
    generalize H1 = H at hP hS ⊢
    have hP : va_P (dC, dI) vwCl [(o0, .inl (ko, 1, .inr (.inl fu27)))] H := hP
    have hD : va_D A [(o0, .inl (ko, 1, .inr (.inl fu27)))] := hD
    try dsimp only at hw39
    obtain rfl : 1 = r38 := hw39.symm
    refine lv_iload hx hb dL_law_3054 (lv_at hl 1 rfl) ?_
    refine lv_icmp_eq (tgt := 3061) hx hb dL_law_3056 (by decide) (fun c40 => ?_) (fun c40 => absurd c40 (by decide))
    refine lv_iload hx hb dL_law_3061 (lv_at hl 1 rfl) ?_
    refine lv_if_ne (tgt := 3078) hx hb dL_law_3063 (by decide) (fun c41 => ?_) (fun c41 => absurd c41 (by decide))
    refine lv_goto (tgt := 3762) hx hb dL_law_3078 (by decide) ?_
    exact law_tail hx hb hr hlocks hX hbl hbA hAi hS (Nat.le_of_ble_eq_true rfl) (Nat.le_of_ble_eq_true rfl) ls (lv_sub hl [2, 6] rfl)
def w_law_41 : List Cond := .initialized RL :: ([.codeWith yL_pay cL_pay 4 (some .int) [(0, 9, 12, 13)], .code yX11_pay cX11_pay 7 (some .int), .code yX11_contractOf cX11_contractOf 2 (some (.object "SeaLand$Contract")), .fieldLink RX11 414 "SeaLand" "contracted" "I", .code yX11_within cX11_within 3 (some .boolean), .methodLink RX11 58 yX11_within, .static yX11_within, .initialized RX11, .classLink RX11 557 "java/lang/IndexOutOfBoundsException", .initialized "java/lang/IndexOutOfBoundsException", .methodLink RX11 419 yX11_contractOf, .instanceMethod yX11_contractOf, .selects RX11 yX11_contractOf yX11_contractOf, .methodLink RL 145 yX11_pay, .instanceMethod yX11_pay, .selects RX11 yX11_pay yX11_pay, .classLink RL 13 "java/lang/IndexOutOfBoundsException", .methodLink RL 317 yL_pay, .static yL_pay, .initialized RL, .code yX12_pay cX12_pay 7 (some .int), .fieldLink RX12 194 "SeaLandModel" "thrown" "I", .code yX12_noContract cX12_noContract 2 (some .boolean), .fieldLink RX12 533 "SeaLandModel" "contracts" "I", .code yX12_in cX12_in 3 (some .boolean), .methodLink RX12 197 yX12_in, .static yX12_in, .initialized RX12, .methodLink RX12 539 yX12_noContract, .instanceMethod yX12_noContract, .selects RX12 yX12_noContract yX12_noContract, .code yX12_throwsIf cX12_throwsIf 3 (some .boolean), .methodLink RX12 224 yX12_throwsIf, .instanceMethod yX12_throwsIf, .selects RX12 yX12_throwsIf yX12_throwsIf, .methodLink RL 319 yX12_pay, .instanceMethod yX12_pay, .selects RX12 yX12_pay yX12_pay, .code yX12_thrown cX12_thrown 1 (some .int), .methodLink RL 187 yX12_thrown, .instanceMethod yX12_thrown, .selects RX12 yX12_thrown yX12_thrown] ++ bs)
set_option maxRecDepth 100000 in
theorem wm_41 : ∀ w ∈ w_law_41, w ∈ lw_tbl := lw_ins (List.mem_of_getElem? (i := 110) (by decide +kernel)) (lw_in _ (1837 :: 1841 :: 1815 :: 596 :: 902 :: 900 :: 901 :: 111 :: 903 :: 126 :: 1812 :: 1814 :: 35 :: 1838 :: 1839 :: 1840 :: 811 :: 1835 :: 1836 :: 110 :: 2714 :: 1969 :: 2702 :: 2033 :: 2217 :: 2215 :: 2216 :: 122 :: 2699 :: 2701 :: 106 :: 2221 :: 2218 :: 2220 :: 44 :: 2711 :: 2712 :: 2713 :: 2207 :: 2204 :: 2205 :: 2206 :: []) (by decide +kernel))
set_option maxHeartbeats 4000000 in
set_option maxRecDepth 100000 in
/-- pay -/
theorem law_41 {p : Program} {e : Env} {s : State} {m : MethodId} {below : List Frame} {meth : Method} {c : Code} (l : Launch) (hlt : l.stackTraces = false) {b : Nat} {xs : Nat → Int32} {A : Nat → Prop} (hx : p.tables.exec = Jvm.exec) (hb : c.code = code) (hr : meth.sig.returnType = ret) (hml : c.maxLocals = 7) (hown : s.vm.findClass RL = some m.cls) (hts : ∀ w ∈ w_law_41, w.before #[Value.ref b] s = true) (hX : va_X b 8 xs s s.heap) (hbl : b < s.heap.size) (hbA : ¬ A b) (hlocks : meth.locks = false) (hE : EV A s s.heap) (hN : NC s) (hA : ∀ q : Nat, s.heap.size ≤ q → A q) (hAi : ∀ q : Nat, A q → s.heap.size ≤ q) {dC : Nat → ClassId} {dI : Nat → Nat → Nat} (a : Nat → Nat) (k : Nat → ClassId) (h0 : Nat) (q : Nat → Nat) (cm : Nat → ClassId) (o0 : Nat) (ko : ClassId) (H : Heap) (locs : List Loc) (hK : va_K (dC, dI) vwCl [(ko, .long)] s) (hP : va_P (dC, dI) vwCl [(a 0, .inr (14, [.ref (a 1), .ref (a 2), .ref (a 27), .ref (a 30), .ref (a 74), .ref (a 75), .null, .int 0, .int 0])), (o0, .inl (ko, 1, .inr (.inl (fun _ => 0)))), (h0, .inr (15, mF q 0))] H) (hD : va_D A [(a 0, .inr (14, [.ref (a 1), .ref (a 2), .ref (a 27), .ref (a 30), .ref (a 74), .ref (a 75), .null, .int 0, .int 0])), (o0, .inl (ko, 1, .inr (.inl (fun _ => 0)))), (h0, .inr (15, mF q 0))]) (hS : va_S A s.heap H locs) (ls : Array Slot) (hl : lv_has ls 7 [(0, .ref b), (1, .ref (a 0)), (2, .ref h0), (3, .ref o0), (4, .int 0)]) : W p l e room_1 s m #[Value.ref b] below meth c H locs 238 27427 (lw_Z below #[Value.ref b] s) (F0 m 3081 ls []) := by
  refine lv_aload_n hx hb dL_law_3081 rfl (lv_at hl 1 rfl) ?_
  refine lv_aload_n hx hb dL_law_3082 rfl (lv_at hl 0 rfl) ?_
  refine lv_iload hx hb dL_law_3083 (lv_at hl 4 rfl) ?_
  refine lv_iconst (v := 1) hx hb dL_law_3085 (by decide) ?_
  refine lv_iadd hx hb dL_law_3086 ?_
  refine lv_topi (fun x1 ex1 => ?_)
  obtain rfl : x1 = 1 := ex1.trans (by decide)
  refine va_sld hx hb hX hbl hbA hS (i := 1) (by unfold vp_in; decide) dL_law_3087 ?_
  refine lv_topi (fun x2 ex2 => ?_)
  obtain rfl : xs 1 = x2 := (ex2).symm
  refine lv_aload_n hx hb dL_law_3088 rfl (lv_at hl 3 rfl) ?_
  have hPc := hP.sub (ws' := [(a 0, .inr (14, [.ref (a 1), .ref (a 2), .ref (a 27), .ref (a 30), .ref (a 74), .ref (a 75), .null, .int 0, .int 0])), (o0, .inl (ko, 1, .inr (.inl (fun _ => 0))))]) [0, 1] rfl
  have hDc := hD.sub (ws' := [(a 0, .inr (14, [.ref (a 1), .ref (a 2), .ref (a 27), .ref (a 30), .ref (a 74), .ref (a 75), .null, .int 0, .int 0])), (o0, .inl (ko, 1, .inr (.inl (fun _ => 0))))]) [0, 1] (by decide) rfl
  have hKc := hK.sub (tys' := [(ko, .long)]) [0] rfl
  have hFc := va_free (wc := [(a 0, .inr (14, [.ref (a 1), .ref (a 2), .ref (a 27), .ref (a 30), .ref (a 74), .ref (a 75), .null, .int 0, .int 0])), (o0, .inl (ko, 1, .inr (.inl (fun _ => 0))))]) hD hS hA [0, 1] rfl
  refine va_calli (vx_runSW (As := [.ref (a 0), .int (xs 1), .ref o0]) (rest := []) ⟨hx, hb, hml, hown, hts⟩ (l_pay l hlt dC dI a k o0 ko (fun _ => 0) (xs 1) H.size ) (vx_cwSW 3 hts (goodIn_app (goodIn_r _ [18, 19, 20] (by decide +kernel) (by decide +kernel)) (goodIn_ca (goodIn_r _ [1, 2, 3, 4, 5, 6, 7, 8, 9, 10, 11, 12, 13, 14, 15, 16, 17] (by decide +kernel) (by decide +kernel)) (bs_in _ _))) rfl rfl rfl (by decide +kernel) ⟨(Nat.le_of_ble_eq_true rfl), (Nat.le_of_ble_eq_true rfl)⟩) ⟨fun a U g mk q => by obtain ⟨q0, q1, qP, qK, qD, qE, qN⟩ := q; exact ⟨q0, q1, qP, va_K.moved (u := U) (U := U.calling g mk a) (Vm.Alike.refl U.vm) qK, qD, EV.blind g mk a qE, NC.blind g mk a qN⟩, fun U hU hW => ⟨rfl, by rw [hU], by rw [hU]; exact hPc, va_K.moved hW.alike hKc, hDc.weaken (fun _ _ _ _ => trivial), hE.call hS hFc hU hW, hN.call hW⟩⟩ rfl rfl hl.1 rfl (lv_room (Nat.le_of_ble_eq_true rfl)) dL_law_3089 ⟨(Nat.le_of_ble_eq_true rfl), (Nat.le_of_ble_eq_true rfl)⟩) hS (fun q _ h => hFc q h) hFc (fun r4 u t H1 locs ht hvm hw5 hB hz1 hk1 hS => ?_)
  obtain ⟨fu6, rfl⟩ : ∃ z, z = u := ⟨_, rfl⟩
  obtain ⟨hP1, hD1⟩ := hB
  rw [ht] at hP1
  obtain ⟨hP, hD⟩ := va_join (wr := [(h0, .inr (15, mF q 0))]) (w1 := [(o0, .inl (ko, 1, .inr (.inl fu6)))]) hP hD [0, 1] [2] rfl rfl (by decide) (by decide) hk1 hFc hP1 hD1
  generalize H1 = H at hP hS ⊢
  have hP : va_P (dC, dI) vwCl [(h0, .inr (15, mF q 0)), (o0, .inl (ko, 1, .inr (.inl fu6)))] H := hP
  have hD : va_D A [(h0, .inr (15, mF q 0)), (o0, .inl (ko, 1, .inr (.inl fu6)))] := hD
  try dsimp only at hw5
  obtain rfl : 1 = r4 := hw5.symm
  refine lv_istore (lv' := [(5, .int 1), (0, .ref b), (1, .ref (a 0)), (2, .ref h0), (3, .ref o0), (4, .int 0)]) hx hb dL_law_3092 hl (by decide) rfl (fun ls hl => ?_)
  refine lv_aload_n hx hb dL_law_3094 rfl (lv_at hl 3 rfl) ?_
  refine lv_aload_n hx hb dL_law_3095 rfl (lv_at hl 1 rfl) ?_
  refine lv_iload hx hb dL_law_3096 (lv_at hl 5 rfl) ?_
  refine lv_iconst (v := 1) hx hb dL_law_3098 (by decide) ?_
  refine lv_iadd hx hb dL_law_3099 ?_
  refine lv_topi (fun x7 ex7 => ?_)
  obtain rfl : x7 = 1 := ex7.trans (by decide)
  refine va_sld hx hb hX hbl hbA hS (i := 1) (by unfold vp_in; decide) dL_law_3100 ?_
  refine lv_topi (fun x8 ex8 => ?_)
  obtain rfl : xs 1 = x8 := (ex8).symm
  have hPc := hP.sub (ws' := [(h0, .inr (15, mF q 0))]) [0] rfl
  have hDc := hD.sub (ws' := [(h0, .inr (15, mF q 0))]) [0] (by decide) rfl
  have hKc := hK.sub (tys' := []) [] rfl
  have hFc := va_free (wc := [(h0, .inr (15, mF q 0))]) hD hS hA [0] rfl
  refine va_calli (va_runV (As := [.int (xs 1)]) (rest := []) ⟨hx, hb, hml, hown, hts⟩ (m_pay l dC dI h0 q cm (xs 1) H.size ) (cwV 1 hts (goodIn_app (goodIn_r _ [36, 37, 38, 28] (by decide +kernel) (by decide +kernel)) (goodIn_ca (goodIn_r _ [21, 22, 23, 24, 25, 26, 27, 28, 29, 30, 31, 32, 33, 34, 35] (by decide +kernel) (by decide +kernel)) (bs_in _ _))) rfl rfl rfl (by decide +kernel) ⟨(Nat.le_of_ble_eq_true rfl), (Nat.le_of_ble_eq_true rfl)⟩) ⟨fun a U g mk q => by obtain ⟨q0, q1, qP, qK, qD⟩ := q; exact ⟨q0, q1, qP, va_K.moved (u := U) (U := U.calling g mk a) (Vm.Alike.refl U.vm) qK, qD⟩, va_recv hKc hPc (ci := 15) (q0 := 0) rfl rfl, fun U hU hW => ⟨rfl, by rw [hU], by rw [hU]; exact hPc, va_K.moved hW.alike hKc, hDc.weaken (fun _ _ _ _ => trivial)⟩⟩ rfl rfl hl.1 rfl (lv_room (Nat.le_of_ble_eq_true rfl)) dL_law_3101 ⟨(Nat.le_of_ble_eq_true rfl), (Nat.le_of_ble_eq_true rfl)⟩) hS (fun q _ h => hFc q h) hFc (fun r10 u t H1 locs ht hvm hw11 hB hz1 hk1 hS => ?_)
  obtain ⟨fs12, rfl⟩ : ∃ z, z = u := ⟨_, rfl⟩
  obtain ⟨hP1, hD1⟩ := hB
  rw [ht] at hP1
  obtain ⟨hP, hD⟩ := va_join (wr := [(o0, .inl (ko, 1, .inr (.inl fu6)))]) (w1 := [(h0, .inr (15, fs12))]) hP hD [0] [1] rfl rfl (by decide) (by decide) hk1 hFc hP1 hD1
  generalize H1 = H at hP hS ⊢
  have hP : va_P (dC, dI) vwCl [(o0, .inl (ko, 1, .inr (.inl fu6))), (h0, .inr (15, fs12))] H := hP
  have hD : va_D A [(o0, .inl (ko, 1, .inr (.inl fu6))), (h0, .inr (15, fs12))] := hD
  try dsimp only at hw11
  refine lv_istore (lv' := [(6, .int r10), (5, .int 1), (0, .ref b), (1, .ref (a 0)), (2, .ref h0), (3, .ref o0), (4, .int 0)]) hx hb dL_law_3104 hl (by decide) rfl (fun ls hl => ?_)
  refine lv_aload_n hx hb dL_law_3106 rfl (lv_at hl 4 rfl) ?_
  have hPc := hP.sub (ws' := [(h0, .inr (15, fs12))]) [1] rfl
  have hDc := hD.sub (ws' := [(h0, .inr (15, fs12))]) [1] (by decide) rfl
  have hKc := hK.sub (tys' := []) [] rfl
  have hFc := va_free (wc := [(h0, .inr (15, fs12))]) hD hS hA [1] rfl
  refine va_calli (va_runV (As := []) (rest := []) ⟨hx, hb, hml, hown, hts⟩ (m_thrown l dC dI h0 fs12 1 H.size hw11) (cwV 0 hts (goodIn_app (goodIn_r _ [40, 41, 42, 28] (by decide +kernel) (by decide +kernel)) (goodIn_ca (goodIn_r _ [39, 22] (by decide +kernel) (by decide +kernel)) (bs_in _ _))) rfl rfl rfl (by decide +kernel) ⟨(Nat.le_of_ble_eq_true rfl), (Nat.le_of_ble_eq_true rfl)⟩) ⟨fun a U g mk q => by obtain ⟨q0, q1, qP, qK, qD⟩ := q; exact ⟨q0, q1, qP, va_K.moved (u := U) (U := U.calling g mk a) (Vm.Alike.refl U.vm) qK, qD⟩, va_recv hKc hPc (ci := 15) (q0 := 0) rfl rfl, fun U hU hW => ⟨rfl, by rw [hU], by rw [hU]; exact hPc, va_K.moved hW.alike hKc, hDc.weaken (fun _ _ _ _ => trivial)⟩⟩ rfl rfl hl.1 rfl (lv_room (Nat.le_of_ble_eq_true rfl)) dL_law_3107 ⟨(Nat.le_of_ble_eq_true rfl), (Nat.le_of_ble_eq_true rfl)⟩) hS (fun q _ h => hFc q h) hFc (fun r14 u t H1 locs ht hvm hw15 hB hz1 hk1 hS => ?_)
  have hP1 : va_P (dC, dI) vwCl [] H1 := nilP
  have hD1 : va_D (va_A [(h0, .inr (15, fs12))] H.size) [] := nilD
  have hK := hK
  obtain ⟨hP, hD⟩ := va_join (wr := [(o0, .inl (ko, 1, .inr (.inl fu6)))]) (w1 := []) hP hD [1] [0] rfl rfl (by decide) (by decide) hk1 hFc hP1 hD1
  generalize H1 = H at hP hS ⊢
  have hP : va_P (dC, dI) vwCl [(o0, .inl (ko, 1, .inr (.inl fu6)))] H := hP
  have hD : va_D A [(o0, .inl (ko, 1, .inr (.inl fu6)))] := hD
  try dsimp only at hw15
  obtain rfl : 1 = r14 := hw15.symm
  refine lv_iload hx hb dL_law_3110 (lv_at hl 1 rfl) ?_
  refine lv_icmp_eq (tgt := 3117) hx hb dL_law_3112 (by decide) (fun c16 => ?_) (fun c16 => absurd c16 (by decide))
  refine lv_iload hx hb dL_law_3117 (lv_at hl 1 rfl) ?_
  refine lv_if_ne (tgt := 3134) hx hb dL_law_3119 (by decide) (fun c17 => ?_) (fun c17 => absurd c17 (by decide))
  refine lv_goto (tgt := 3762) hx hb dL_law_3134 (by decide) ?_
  exact law_tail hx hb hr hlocks hX hbl hbA hAi hS (Nat.le_of_ble_eq_true rfl) (Nat.le_of_ble_eq_true rfl) ls (lv_sub hl [2, 6] rfl)
def w_law_42 : List Cond := .initialized RL :: ([.codeWith yL_lifts cL_lifts 7 (some .int) [(0, 14, 17, 15)], .code yX11_lifts cX11_lifts 5 (some .int), .code yX11_within cX11_within 3 (some .boolean), .methodLink RX11 58 yX11_within, .static yX11_within, .initialized RX11, .code yX11_needNumbers cX11_needNumbers 1 none, .methodLink RX11 62 yX11_needNumbers, .static yX11_needNumbers, .fieldLink RX11 43 "SeaLand" "plans" "LSeaLand$Plans;", .fieldLink RX11 16 "SeaLand" "lake" "LSeaLand$Lake;", .code yX5_leastCoal cX5_leastCoal 7 (some .int), .code yX5_gatherEngines cX5_gatherEngines 4 none, .fieldLink RX5 76 "SeaLand$Plans" "engines" "I", .fieldLink RX5 13 "SeaLand$Plans" "liftOf" "[I", .methodLink RX5 51 yX5_gatherEngines, .instanceMethod yX5_gatherEngines, .selects RX5 yX5_gatherEngines yX5_gatherEngines, .initialized RX5, .fieldLink RX5 17 "SeaLand$Plans" "leastNow" "[I", .constant RX5 55 2147483647, .code yJ7_fill_53178 cJ7_fill_53178 4 none, .methodLink RX5 56 yJ7_fill_53178, .static yJ7_fill_53178, .initialized RJ7, .code yX3_allMillsLift cX3_allMillsLift 5 (some .int), .fieldLink RX3 12 "SeaLand$Lake" "sky" "LSeaLand$Sky;", .code yX8_windAt cX8_windAt 4 (some .int), .fieldLink RX8 27 "SeaLand$Sky" "wind" "LSeaLand$Tellings;", .code yX9_standingAt cX9_standingAt 5 (some .int), .fieldLink RX9 18 "SeaLand$Tellings" "told" "I", .methodLink RX8 44 yX9_standingAt, .instanceMethod yX9_standingAt, .selects RX9 yX9_standingAt yX9_standingAt, .initialized RX9, .methodLink RX3 120 yX8_windAt, .instanceMethod yX8_windAt, .selects RX8 yX8_windAt yX8_windAt, .initialized RX8, .fieldLink RX3 47 "SeaLand$Lake" "built" "I", .methodLink RX5 68 yX3_allMillsLift, .instanceMethod yX3_allMillsLift, .selects RX3 yX3_allMillsLift yX3_allMillsLift, .initialized RX3, .code yX5_passPlannedHour cX5_passPlannedHour 7 none, .fieldLink RX5 20 "SeaLand$Plans" "leastThen" "[I", .methodLink RX5 100 arraycopyName, .native arraycopyName, .static arraycopyName, .initialized "java/lang/System", .methodLink RX5 94 Lib.Math.max.name, .static Lib.Math.max.name, .initialized "java/lang/Math", .code Lib.Math.max.name Lib.Math.max.code 2 (some .int), .methodLink RX5 72 yX5_passPlannedHour, .instanceMethod yX5_passPlannedHour, .selects RX5 yX5_passPlannedHour yX5_passPlannedHour, .methodLink RX11 463 yX5_leastCoal, .instanceMethod yX5_leastCoal, .selects RX5 yX5_leastCoal yX5_leastCoal, .classLink RX11 547 "java/lang/IllegalArgumentException", .initialized "java/lang/IllegalArgumentException", .methodLink RL 148 yX11_lifts, .instanceMethod yX11_lifts, .selects RX11 yX11_lifts yX11_lifts, .classLink RL 15 "java/lang/IllegalArgumentException", .methodLink RL 320 yL_lifts, .static yL_lifts, .initialized RL, .code yX12_lifts_ cX12_lifts_ 13 (some .int), .fieldLink RX12 194 "SeaLandModel" "thrown" "I", .code yX12_in cX12_in 3 (some .boolean), .methodLink RX12 197 yX12_in, .static yX12_in, .initialized RX12, .code yX12_throwsIf cX12_throwsIf 3 (some .boolean), .methodLink RX12 224 yX12_throwsIf, .instanceMethod yX12_throwsIf, .selects RX12 yX12_throwsIf yX12_throwsIf, .fieldLink RX12 9 "SeaLandModel" "world" "[I", .constant RX12 538 1000000000, .fieldLink RX12 161 "SeaLandModel" "best" "[I", .methodLink RX12 207 Lib.Math.min.name, .static Lib.Math.min.name, .code Lib.Math.min.name Lib.Math.min.code 2 (some .int), .code yJ6_bitCount_0f7a4 cJ6_bitCount_0f7a4 1 (some .int), .constant RJ6 265 1431655765, .constant RJ6 266 858993459, .constant RJ6 267 252645135, .methodLink RX12 545 yJ6_bitCount_0f7a4, .static yJ6_bitCount_0f7a4, .initialized RJ6, .fieldLink RX12 164 "SeaLandModel" "next" "[I", .methodLink RX12 211 Lib.Math.max.name, .methodLink RL 322 yX12_lifts_, .instanceMethod yX12_lifts_, .selects RX12 yX12_lifts_ yX12_lifts_, .code yX12_thrown cX12_thrown 1 (some .int), .methodLink RL 187 yX12_thrown, .instanceMethod yX12_thrown, .selects RX12 yX12_thrown yX12_thrown] ++ bs)
set_option maxRecDepth 100000 in
theorem wm_42 : ∀ w ∈ w_law_42, w ∈ lw_tbl := lw_ins (List.mem_of_getElem? (i := 110) (by decide +kernel)) (lw_in _ (1852 :: 1856 :: 902 :: 900 :: 901 :: 111 :: 918 :: 916 :: 917 :: 593 :: 589 :: 1860 :: 1864 :: 546 :: 533 :: 1861 :: 1863 :: 38 :: 121 :: 534 :: 1865 :: 455 :: 1866 :: 454 :: 120 :: 1870 :: 343 :: 1042 :: 187 :: 1046 :: 172 :: 1043 :: 1044 :: 1045 :: 114 :: 1311 :: 1040 :: 1041 :: 113 :: 355 :: 1867 :: 1868 :: 1869 :: 112 :: 1874 :: 535 :: 1876 :: 759 :: 758 :: 140 :: 1875 :: 959 :: 131 :: 960 :: 1871 :: 1873 :: 39 :: 1857 :: 1858 :: 1859 :: 919 :: 129 :: 1853 :: 1854 :: 1855 :: 891 :: 1850 :: 1851 :: 110 :: 2718 :: 1969 :: 2217 :: 2215 :: 2216 :: 122 :: 2221 :: 2218 :: 2220 :: 44 :: 1970 :: 2694 :: 2034 :: 2229 :: 645 :: 646 :: 2721 :: 2722 :: 2723 :: 2724 :: 2719 :: 2720 :: 141 :: 2035 :: 2230 :: 2715 :: 2716 :: 2717 :: 2207 :: 2204 :: 2205 :: 2206 :: []) (by decide +kernel))
set_option maxHeartbeats 4000000 in
set_option maxRecDepth 100000 in
/-- lifts -/
theorem law_42 {p : Program} {e : Env} {s : State} {m : MethodId} {below : List Frame} {meth : Method} {c : Code} (l : Launch) (hlt : l.stackTraces = false) {b : Nat} {xs : Nat → Int32} {A : Nat → Prop} (hx : p.tables.exec = Jvm.exec) (hb : c.code = code) (hr : meth.sig.returnType = ret) (hml : c.maxLocals = 7) (hown : s.vm.findClass RL = some m.cls) (hts : ∀ w ∈ w_law_42, w.before #[Value.ref b] s = true) (hX : va_X b 8 xs s s.heap) (hbl : b < s.heap.size) (hbA : ¬ A b) (hlocks : meth.locks = false) (hE : EV A s s.heap) (hN : NC s) (hA : ∀ q : Nat, s.heap.size ≤ q → A q) (hAi : ∀ q : Nat, A q → s.heap.size ≤ q) {dC : Nat → ClassId} {dI : Nat → Nat → Nat} (a : Nat → Nat) (k : Nat → ClassId) (h0 : Nat) (q : Nat → Nat) (cm : Nat → ClassId) (o0 : Nat) (ko : ClassId) (H : Heap) (locs : List Loc) (hK : va_K (dC, dI) vwCl [((k 76), .int), ((k 77), .int), ((k 78), .int), (ko, .long), ((cm 1), .int), ((cm 65), .int), ((cm 66), .int)] s) (hP : va_P (dC, dI) vwCl [(a 0, .inr (14, [.ref (a 1), .ref (a 2), .ref (a 27), .ref (a 30), .ref (a 74), .ref (a 75), .null, .int 0, .int 0])), (a 75, .inr (8, [.ref (a 76), .ref (a 77), .ref (a 78), .ref (a 79), .ref (a 80), .ref (a 81), .ref (a 82), .ref (a 83), .ref (a 84), .ref (a 85), .ref (a 86), .ref (a 87), .int 0, .int 0, .int 0, .int 0, .int 0])), (a 76, .inl ((k 76), 6, .inl (fun _ => 0))), (a 77, .inl ((k 77), 121, .inl (fun _ => 0))), (a 78, .inl ((k 78), 121, .inl (fun _ => 0))), (a 2, .inr (6, [.ref (a 3), .ref (a 14), .ref (a 26), .int 0, .int 0])), (a 3, .inr (11, [.ref (a 4), .ref (a 5), .ref (a 6), .ref (a 7), .ref (a 8), .ref (a 11), .int 0])), (a 8, .inr (12, [.ref (a 9), .ref (a 10), .int 0])), (o0, .inl (ko, 1, .inr (.inl (fun _ => 0)))), (h0, .inr (15, mF q 0)), (q 1, .inl ((cm 1), 1749, .inl (fun _ => 0))), (q 65, .inl ((cm 65), 1001, .inl (fun _ => 0))), (q 66, .inl ((cm 66), 1001, .inl (fun _ => 0)))] H) (hD : va_D A [(a 0, .inr (14, [.ref (a 1), .ref (a 2), .ref (a 27), .ref (a 30), .ref (a 74), .ref (a 75), .null, .int 0, .int 0])), (a 75, .inr (8, [.ref (a 76), .ref (a 77), .ref (a 78), .ref (a 79), .ref (a 80), .ref (a 81), .ref (a 82), .ref (a 83), .ref (a 84), .ref (a 85), .ref (a 86), .ref (a 87), .int 0, .int 0, .int 0, .int 0, .int 0])), (a 76, .inl ((k 76), 6, .inl (fun _ => 0))), (a 77, .inl ((k 77), 121, .inl (fun _ => 0))), (a 78, .inl ((k 78), 121, .inl (fun _ => 0))), (a 2, .inr (6, [.ref (a 3), .ref (a 14), .ref (a 26), .int 0, .int 0])), (a 3, .inr (11, [.ref (a 4), .ref (a 5), .ref (a 6), .ref (a 7), .ref (a 8), .ref (a 11), .int 0])), (a 8, .inr (12, [.ref (a 9), .ref (a 10), .int 0])), (o0, .inl (ko, 1, .inr (.inl (fun _ => 0)))), (h0, .inr (15, mF q 0)), (q 1, .inl ((cm 1), 1749, .inl (fun _ => 0))), (q 65, .inl ((cm 65), 1001, .inl (fun _ => 0))), (q 66, .inl ((cm 66), 1001, .inl (fun _ => 0)))]) (hS : va_S A s.heap H locs) (ls : Array Slot) (hl : lv_has ls 7 [(0, .ref b), (1, .ref (a 0)), (2, .ref h0), (3, .ref o0), (4, .int 0)]) : W p l e room_1 s m #[Value.ref b] below meth c H locs 238 27427 (lw_Z below #[Value.ref b] s) (F0 m 3137 ls []) := by
  refine lv_aload_n hx hb dL_law_3137 rfl (lv_at hl 1 rfl) ?_
  refine lv_aload_n hx hb dL_law_3138 rfl (lv_at hl 0 rfl) ?_
  refine lv_iload hx hb dL_law_3139 (lv_at hl 4 rfl) ?_
  refine lv_iconst (v := 1) hx hb dL_law_3141 (by decide) ?_
  refine lv_iadd hx hb dL_law_3142 ?_
  refine lv_topi (fun x1 ex1 => ?_)
  obtain rfl : x1 = 1 := ex1.trans (by decide)
  refine va_sld hx hb hX hbl hbA hS (i := 1) (by unfold vp_in; decide) dL_law_3143 ?_
  refine lv_topi (fun x2 ex2 => ?_)
  obtain rfl : xs 1 = x2 := (ex2).symm
  refine lv_aload_n hx hb dL_law_3144 rfl (lv_at hl 0 rfl) ?_
  refine lv_iload hx hb dL_law_3145 (lv_at hl 4 rfl) ?_
  refine lv_iconst (v := 2) hx hb dL_law_3147 (by decide) ?_
  refine lv_iadd hx hb dL_law_3148 ?_
  refine lv_topi (fun x3 ex3 => ?_)
  obtain rfl : x3 = 2 := ex3.trans (by decide)
  refine va_sld hx hb hX hbl hbA hS (i := 2) (by unfold vp_in; decide) dL_law_3149 ?_
  refine lv_topi (fun x4 ex4 => ?_)
  obtain rfl : xs 2 = x4 := (ex4).symm
  refine lv_aload_n hx hb dL_law_3150 rfl (lv_at hl 0 rfl) ?_
  refine lv_iload hx hb dL_law_3151 (lv_at hl 4 rfl) ?_
  refine lv_iconst (v := 3) hx hb dL_law_3153 (by decide) ?_
  refine lv_iadd hx hb dL_law_3154 ?_
  refine lv_topi (fun x5 ex5 => ?_)
  obtain rfl : x5 = 3 := ex5.trans (by decide)
  refine va_sld hx hb hX hbl hbA hS (i := 3) (by unfold vp_in; decide) dL_law_3155 ?_
  refine lv_topi (fun x6 ex6 => ?_)
  obtain rfl : xs 3 = x6 := (ex6).symm
  refine lv_aload_n hx hb dL_law_3156 rfl (lv_at hl 0 rfl) ?_
  refine lv_iload hx hb dL_law_3157 (lv_at hl 4 rfl) ?_
  refine lv_iconst (v := 4) hx hb dL_law_3159 (by decide) ?_
  refine lv_iadd hx hb dL_law_3160 ?_
  refine lv_topi (fun x7 ex7 => ?_)
  obtain rfl : x7 = 4 := ex7.trans (by decide)
  refine va_sld hx hb hX hbl hbA hS (i := 4) (by unfold vp_in; decide) dL_law_3161 ?_
  refine lv_topi (fun x8 ex8 => ?_)
  obtain rfl : xs 4 = x8 := (ex8).symm
  refine lv_aload_n hx hb dL_law_3162 rfl (lv_at hl 3 rfl) ?_
  have hPc := hP.sub (ws' := [(a 0, .inr (14, [.ref (a 1), .ref (a 2), .ref (a 27), .ref (a 30), .ref (a 74), .ref (a 75), .null, .int 0, .int 0])), (a 75, .inr (8, [.ref (a 76), .ref (a 77), .ref (a 78), .ref (a 79), .ref (a 80), .ref (a 81), .ref (a 82), .ref (a 83), .ref (a 84), .ref (a 85), .ref (a 86), .ref (a 87), .int 0, .int 0, .int 0, .int 0, .int 0])), (a 76, .inl ((k 76), 6, .inl (fun _ => 0))), (a 77, .inl ((k 77), 121, .inl (fun _ => 0))), (a 78, .inl ((k 78), 121, .inl (fun _ => 0))), (a 2, .inr (6, [.ref (a 3), .ref (a 14), .ref (a 26), .int 0, .int 0])), (a 3, .inr (11, [.ref (a 4), .ref (a 5), .ref (a 6), .ref (a 7), .ref (a 8), .ref (a 11), .int 0])), (a 8, .inr (12, [.ref (a 9), .ref (a 10), .int 0])), (o0, .inl (ko, 1, .inr (.inl (fun _ => 0))))]) [0, 1, 2, 3, 4, 5, 6, 7, 8] rfl
  have hDc := hD.sub (ws' := [(a 0, .inr (14, [.ref (a 1), .ref (a 2), .ref (a 27), .ref (a 30), .ref (a 74), .ref (a 75), .null, .int 0, .int 0])), (a 75, .inr (8, [.ref (a 76), .ref (a 77), .ref (a 78), .ref (a 79), .ref (a 80), .ref (a 81), .ref (a 82), .ref (a 83), .ref (a 84), .ref (a 85), .ref (a 86), .ref (a 87), .int 0, .int 0, .int 0, .int 0, .int 0])), (a 76, .inl ((k 76), 6, .inl (fun _ => 0))), (a 77, .inl ((k 77), 121, .inl (fun _ => 0))), (a 78, .inl ((k 78), 121, .inl (fun _ => 0))), (a 2, .inr (6, [.ref (a 3), .ref (a 14), .ref (a 26), .int 0, .int 0])), (a 3, .inr (11, [.ref (a 4), .ref (a 5), .ref (a 6), .ref (a 7), .ref (a 8), .ref (a 11), .int 0])), (a 8, .inr (12, [.ref (a 9), .ref (a 10), .int 0])), (o0, .inl (ko, 1, .inr (.inl (fun _ => 0))))]) [0, 1, 2, 3, 4, 5, 6, 7, 8] (by decide) rfl
  have hKc := hK.sub (tys' := [((k 76), .int), ((k 77), .int), ((k 78), .int), (ko, .long)]) [0, 1, 2, 3] rfl
  have hFc := va_free (wc := [(a 0, .inr (14, [.ref (a 1), .ref (a 2), .ref (a 27), .ref (a 30), .ref (a 74), .ref (a 75), .null, .int 0, .int 0])), (a 75, .inr (8, [.ref (a 76), .ref (a 77), .ref (a 78), .ref (a 79), .ref (a 80), .ref (a 81), .ref (a 82), .ref (a 83), .ref (a 84), .ref (a 85), .ref (a 86), .ref (a 87), .int 0, .int 0, .int 0, .int 0, .int 0])), (a 76, .inl ((k 76), 6, .inl (fun _ => 0))), (a 77, .inl ((k 77), 121, .inl (fun _ => 0))), (a 78, .inl ((k 78), 121, .inl (fun _ => 0))), (a 2, .inr (6, [.ref (a 3), .ref (a 14), .ref (a 26), .int 0, .int 0])), (a 3, .inr (11, [.ref (a 4), .ref (a 5), .ref (a 6), .ref (a 7), .ref (a 8), .ref (a 11), .int 0])), (a 8, .inr (12, [.ref (a 9), .ref (a 10), .int 0])), (o0, .inl (ko, 1, .inr (.inl (fun _ => 0))))]) hD hS hA [0, 1, 2, 3, 4, 5, 6, 7, 8] rfl
  refine va_calli (vx_runSW (As := [.ref (a 0), .int (xs 1), .int (xs 2), .int (xs 3), .int (xs 4), .ref o0]) (rest := []) ⟨hx, hb, hml, hown, hts⟩ (l_lifts l hlt dC dI a k o0 ko (fun _ => 0) (xs 1) (xs 2) (xs 3) (xs 4) H.size ) (vx_cwSW 6 hts (goodIn_app (goodIn_r _ [67, 68, 69] (by decide +kernel) (by decide +kernel)) (goodIn_ca (goodIn_r _ [1, 2, 3, 4, 5, 6, 7, 8, 9, 10, 11, 12, 13, 14, 15, 16, 17, 18, 19, 20, 21, 22, 23, 24, 25, 26, 27, 28, 29, 30, 31, 32, 33, 34, 35, 36, 37, 38, 39, 40, 41, 42, 43, 44, 45, 46, 47, 48, 49, 50, 51, 52, 53, 54, 55, 56, 57, 58, 59, 60, 61, 62, 63, 64, 65, 66] (by decide +kernel) (by decide +kernel)) (bs_in _ _))) rfl rfl rfl (by decide +kernel) ⟨(Nat.le_of_ble_eq_true rfl), (Nat.le_of_ble_eq_true rfl)⟩) ⟨fun a U g mk q => by obtain ⟨q0, q1, qP, qK, qD, qE, qN⟩ := q; exact ⟨q0, q1, qP, va_K.moved (u := U) (U := U.calling g mk a) (Vm.Alike.refl U.vm) qK, qD, EV.blind g mk a qE, NC.blind g mk a qN⟩, fun U hU hW => ⟨rfl, by rw [hU], by rw [hU]; exact hPc, va_K.moved hW.alike hKc, hDc.weaken (fun _ _ _ _ => trivial), hE.call hS hFc hU hW, hN.call hW⟩⟩ rfl rfl hl.1 rfl (lv_room (Nat.le_of_ble_eq_true rfl)) dL_law_3163 ⟨(Nat.le_of_ble_eq_true rfl), (Nat.le_of_ble_eq_true rfl)⟩) hS (fun q _ h => hFc q h) hFc (fun r10 u t H1 locs ht hvm hw11 hB hz1 hk1 hS => ?_)
  obtain ⟨fu12, rfl⟩ : ∃ z, z = u := ⟨_, rfl⟩
  obtain ⟨hP1, hD1⟩ := hB
  rw [ht] at hP1
  obtain ⟨hP, hD⟩ := va_join (wr := [(h0, .inr (15, mF q 0)), (q 1, .inl ((cm 1), 1749, .inl (fun _ => 0))), (q 65, .inl ((cm 65), 1001, .inl (fun _ => 0))), (q 66, .inl ((cm 66), 1001, .inl (fun _ => 0)))]) (w1 := [(o0, .inl (ko, 1, .inr (.inl fu12)))]) hP hD [0, 1, 2, 3, 4, 5, 6, 7, 8] [9, 10, 11, 12] rfl rfl (by decide) (by decide) hk1 hFc hP1 hD1
  generalize H1 = H at hP hS ⊢
  have hP : va_P (dC, dI) vwCl [(h0, .inr (15, mF q 0)), (q 1, .inl ((cm 1), 1749, .inl (fun _ => 0))), (q 65, .inl ((cm 65), 1001, .inl (fun _ => 0))), (q 66, .inl ((cm 66), 1001, .inl (fun _ => 0))), (o0, .inl (ko, 1, .inr (.inl fu12)))] H := hP
  have hD : va_D A [(h0, .inr (15, mF q 0)), (q 1, .inl ((cm 1), 1749, .inl (fun _ => 0))), (q 65, .inl ((cm 65), 1001, .inl (fun _ => 0))), (q 66, .inl ((cm 66), 1001, .inl (fun _ => 0))), (o0, .inl (ko, 1, .inr (.inl fu12)))] := hD
  try dsimp only at hw11
  obtain rfl : (T_lifts (xs 1) (xs 2) (xs 3) (xs 4)).1 = r10 := hw11.1.symm
  refine lv_istore (lv' := [(5, .int ((T_lifts (xs 1) (xs 2) (xs 3) (xs 4)).1)), (0, .ref b), (1, .ref (a 0)), (2, .ref h0), (3, .ref o0), (4, .int 0)]) hx hb dL_law_3166 hl (by decide) rfl (fun ls hl => ?_)
  refine lv_aload_n hx hb dL_law_3168 rfl (lv_at hl 3 rfl) ?_
  refine lv_aload_n hx hb dL_law_3169 rfl (lv_at hl 1 rfl) ?_
  refine lv_iload hx hb dL_law_3170 (lv_at hl 5 rfl) ?_
  refine lv_iconst (v := 1) hx hb dL_law_3172 (by decide) ?_
  refine lv_iadd hx hb dL_law_3173 ?_
  refine lv_topi (fun x13 ex13 => ?_)
  obtain rfl : x13 = 1 := ex13.trans (by decide)
  refine va_sld hx hb hX hbl hbA hS (i := 1) (by unfold vp_in; decide) dL_law_3174 ?_
  refine lv_topi (fun x14 ex14 => ?_)
  obtain rfl : xs 1 = x14 := (ex14).symm
  refine lv_aload_n hx hb dL_law_3175 rfl (lv_at hl 1 rfl) ?_
  refine lv_iload hx hb dL_law_3176 (lv_at hl 5 rfl) ?_
  refine lv_iconst (v := 2) hx hb dL_law_3178 (by decide) ?_
  refine lv_iadd hx hb dL_law_3179 ?_
  refine lv_topi (fun x15 ex15 => ?_)
  obtain rfl : x15 = 2 := ex15.trans (by decide)
  refine va_sld hx hb hX hbl hbA hS (i := 2) (by unfold vp_in; decide) dL_law_3180 ?_
  refine lv_topi (fun x16 ex16 => ?_)
  obtain rfl : xs 2 = x16 := (ex16).symm
  refine lv_aload_n hx hb dL_law_3181 rfl (lv_at hl 1 rfl) ?_
  refine lv_iload hx hb dL_law_3182 (lv_at hl 5 rfl) ?_
  refine lv_iconst (v := 3) hx hb dL_law_3184 (by decide) ?_
  refine lv_iadd hx hb dL_law_3185 ?_
  refine lv_topi (fun x17 ex17 => ?_)
  obtain rfl : x17 = 3 := ex17.trans (by decide)
  refine va_sld hx hb hX hbl hbA hS (i := 3) (by unfold vp_in; decide) dL_law_3186 ?_
  refine lv_topi (fun x18 ex18 => ?_)
  obtain rfl : xs 3 = x18 := (ex18).symm
  refine lv_aload_n hx hb dL_law_3187 rfl (lv_at hl 1 rfl) ?_
  refine lv_iload hx hb dL_law_3188 (lv_at hl 5 rfl) ?_
  refine lv_iconst (v := 4) hx hb dL_law_3190 (by decide) ?_
  refine lv_iadd hx hb dL_law_3191 ?_
  refine lv_topi (fun x19 ex19 => ?_)
  obtain rfl : x19 = 4 := ex19.trans (by decide)
  refine va_sld hx hb hX hbl hbA hS (i := 4) (by unfold vp_in; decide) dL_law_3192 ?_
  refine lv_topi (fun x20 ex20 => ?_)
  obtain rfl : xs 4 = x20 := (ex20).symm
  have hPc := hP.sub (ws' := [(h0, .inr (15, mF q 0)), (q 1, .inl ((cm 1), 1749, .inl (fun _ => 0))), (q 65, .inl ((cm 65), 1001, .inl (fun _ => 0))), (q 66, .inl ((cm 66), 1001, .inl (fun _ => 0)))]) [0, 1, 2, 3] rfl
  have hDc := hD.sub (ws' := [(h0, .inr (15, mF q 0)), (q 1, .inl ((cm 1), 1749, .inl (fun _ => 0))), (q 65, .inl ((cm 65), 1001, .inl (fun _ => 0))), (q 66, .inl ((cm 66), 1001, .inl (fun _ => 0)))]) [0, 1, 2, 3] (by decide) rfl
  have hKc := hK.sub (tys' := [((cm 1), .int), ((cm 65), .int), ((cm 66), .int)]) [4, 5, 6] rfl
  have hFc := va_free (wc := [(h0, .inr (15, mF q 0)), (q 1, .inl ((cm 1), 1749, .inl (fun _ => 0))), (q 65, .inl ((cm 65), 1001, .inl (fun _ => 0))), (q 66, .inl ((cm 66), 1001, .inl (fun _ => 0)))]) hD hS hA [0, 1, 2, 3] rfl
  refine va_calli (va_runV (As := [.int (xs 1), .int (xs 2), .int (xs 3), .int (xs 4)]) (rest := []) ⟨hx, hb, hml, hown, hts⟩ (m_lifts l dC dI h0 q cm (xs 1) (xs 2) (xs 3) (xs 4) H.size ) (cwV 4 hts (goodIn_app (goodIn_r _ [95, 96, 97, 75] (by decide +kernel) (by decide +kernel)) (goodIn_ca (goodIn_r _ [70, 71, 72, 73, 74, 75, 76, 77, 78, 79, 80, 81, 82, 83, 84, 53, 85, 86, 87, 88, 89, 90, 91, 92, 93, 94, 52, 54] (by decide +kernel) (by decide +kernel)) (bs_in _ _))) rfl rfl rfl (by decide +kernel) ⟨(Nat.le_of_ble_eq_true rfl), (Nat.le_of_ble_eq_true rfl)⟩) ⟨fun a U g mk q => by obtain ⟨q0, q1, qP, qK, qD⟩ := q; exact ⟨q0, q1, qP, va_K.moved (u := U) (U := U.calling g mk a) (Vm.Alike.refl U.vm) qK, qD⟩, va_recv hKc hPc (ci := 15) (q0 := 0) rfl rfl, fun U hU hW => ⟨rfl, by rw [hU], by rw [hU]; exact hPc, va_K.moved hW.alike hKc, hDc.weaken (fun _ _ _ _ => trivial)⟩⟩ rfl rfl hl.1 rfl (lv_room (Nat.le_of_ble_eq_true rfl)) dL_law_3193 ⟨(Nat.le_of_ble_eq_true rfl), (Nat.le_of_ble_eq_true rfl)⟩) hS (fun q _ h => hFc q h) hFc (fun r22 u t H1 locs ht hvm hw23 hB hz1 hk1 hS => ?_)
  obtain ⟨fs24, rfl⟩ : ∃ z, z = u := ⟨_, rfl⟩
  obtain ⟨hP1, hD1⟩ := hB
  rw [ht] at hP1
  obtain ⟨hP, hD⟩ := va_join (wr := [(o0, .inl (ko, 1, .inr (.inl fu12)))]) (w1 := [(h0, .inr (15, fs24))]) hP hD [0, 1, 2, 3] [4] rfl rfl (by decide) (by decide) hk1 hFc hP1 hD1
  generalize H1 = H at hP hS ⊢
  have hP : va_P (dC, dI) vwCl [(o0, .inl (ko, 1, .inr (.inl fu12))), (h0, .inr (15, fs24))] H := hP
  have hD : va_D A [(o0, .inl (ko, 1, .inr (.inl fu12))), (h0, .inr (15, fs24))] := hD
  try dsimp only at hw23
  refine lv_istore (lv' := [(6, .int r22), (5, .int ((T_lifts (xs 1) (xs 2) (xs 3) (xs 4)).1)), (0, .ref b), (1, .ref (a 0)), (2, .ref h0), (3, .ref o0), (4, .int 0)]) hx hb dL_law_3196 hl (by decide) rfl (fun ls hl => ?_)
  refine lv_aload_n hx hb dL_law_3198 rfl (lv_at hl 4 rfl) ?_
  have hPc := hP.sub (ws' := [(h0, .inr (15, fs24))]) [1] rfl
  have hDc := hD.sub (ws' := [(h0, .inr (15, fs24))]) [1] (by decide) rfl
  have hKc := hK.sub (tys' := []) [] rfl
  have hFc := va_free (wc := [(h0, .inr (15, fs24))]) hD hS hA [1] rfl
  refine va_calli (va_runV (As := []) (rest := []) ⟨hx, hb, hml, hown, hts⟩ (m_thrown l dC dI h0 fs24 ((T_lifts (xs 1) (xs 2) (xs 3) (xs 4)).1) H.size hw23.1) (cwV 0 hts (goodIn_app (goodIn_r _ [99, 100, 101, 75] (by decide +kernel) (by decide +kernel)) (goodIn_ca (goodIn_r _ [98, 71] (by decide +kernel) (by decide +kernel)) (bs_in _ _))) rfl rfl rfl (by decide +kernel) ⟨(Nat.le_of_ble_eq_true rfl), (Nat.le_of_ble_eq_true rfl)⟩) ⟨fun a U g mk q => by obtain ⟨q0, q1, qP, qK, qD⟩ := q; exact ⟨q0, q1, qP, va_K.moved (u := U) (U := U.calling g mk a) (Vm.Alike.refl U.vm) qK, qD⟩, va_recv hKc hPc (ci := 15) (q0 := 0) rfl rfl, fun U hU hW => ⟨rfl, by rw [hU], by rw [hU]; exact hPc, va_K.moved hW.alike hKc, hDc.weaken (fun _ _ _ _ => trivial)⟩⟩ rfl rfl hl.1 rfl (lv_room (Nat.le_of_ble_eq_true rfl)) dL_law_3199 ⟨(Nat.le_of_ble_eq_true rfl), (Nat.le_of_ble_eq_true rfl)⟩) hS (fun q _ h => hFc q h) hFc (fun r26 u t H1 locs ht hvm hw27 hB hz1 hk1 hS => ?_)
  have hP1 : va_P (dC, dI) vwCl [] H1 := nilP
  have hD1 : va_D (va_A [(h0, .inr (15, fs24))] H.size) [] := nilD
  have hK := hK
  obtain ⟨hP, hD⟩ := va_join (wr := [(o0, .inl (ko, 1, .inr (.inl fu12)))]) (w1 := []) hP hD [1] [0] rfl rfl (by decide) (by decide) hk1 hFc hP1 hD1
  generalize H1 = H at hP hS ⊢
  have hP : va_P (dC, dI) vwCl [(o0, .inl (ko, 1, .inr (.inl fu12)))] H := hP
  have hD : va_D A [(o0, .inl (ko, 1, .inr (.inl fu12)))] := hD
  try dsimp only at hw27
  obtain rfl : (T_lifts (xs 1) (xs 2) (xs 3) (xs 4)).1 = r26 := hw27.symm
  refine lv_iload hx hb dL_law_3202 (lv_at hl 1 rfl) ?_
  refine lv_icmp_eq (tgt := 3209) hx hb dL_law_3204 (by decide) (fun c28 => ?_) (fun c28 => absurd rfl c28)
  refine lv_iload hx hb dL_law_3209 (lv_at hl 1 rfl) ?_
  refine lv_if_ne (tgt := 3226) hx hb dL_law_3211 (by decide) (fun c29 => ?_) (fun c29 => ?_)
  · refine lv_goto (tgt := 3762) hx hb dL_law_3226 (by decide) ?_
    exact law_tail hx hb hr hlocks hX hbl hbA hAi hS (Nat.le_of_ble_eq_true rfl) (Nat.le_of_ble_eq_true rfl) ls (lv_sub hl [2, 6] rfl)
  · refine lv_aload_n hx hb dL_law_3214 rfl (lv_at hl 5 rfl) ?_
    refine lv_iconst (v := 0) hx hb dL_law_3215 (by decide) ?_
    refine va_lald hx hb hK hP 0 3 rfl rfl (by unfold vp_in; decide) dL_law_3216 ?_
    refine lv_iload hx hb dL_law_3217 (lv_at hl 0 rfl) ?_
    refine lv_i2l (v := r22.toInt64) hx hb dL_law_3219 rfl ?_
    refine W.lcmp hx hb dL_law_3220 ?_
    refine lv_topi (fun x30 ex30 => ?_)
    obtain rfl : x30 = 0 := ex30.trans (by rw [show fu12 (0 : Int32).toNatClampNeg = (T_lifts (xs 1) (xs 2) (xs 3) (xs 4)).2.toInt64 from hw11.2 c29, hw23.2 c29]; exact lg_cmp_self _)
    refine lv_if_eq (tgt := 3226) hx hb dL_law_3221 (by decide) (fun c31 => ?_) (fun c31 => absurd c31 (by decide))
    refine lv_goto (tgt := 3762) hx hb dL_law_3226 (by decide) ?_
    exact law_tail hx hb hr hlocks hX hbl hbA hAi hS (Nat.le_of_ble_eq_true rfl) (Nat.le_of_ble_eq_true rfl) ls (lv_sub hl [2, 6] rfl)
def w_law_43 : List Cond := .initialized RL :: ([.codeWith yL_soonest cL_soonest 6 (some .int) [(0, 12, 15, 13), (0, 12, 19, 15), (0, 12, 23, 50)], .code yX11_soonest cX11_soonest 5 (some .int), .code yX11_workOf cX11_workOf 2 (some (.object "SeaLand$Work")), .fieldLink RX11 16 "SeaLand" "lake" "LSeaLand$Lake;", .code yX11_within cX11_within 3 (some .boolean), .methodLink RX11 58 yX11_within, .static yX11_within, .initialized RX11, .classLink RX11 557 "java/lang/IndexOutOfBoundsException", .initialized "java/lang/IndexOutOfBoundsException", .methodLink RX11 167 yX11_workOf, .instanceMethod yX11_workOf, .selects RX11 yX11_workOf yX11_workOf, .methodLink RL 151 yX11_soonest, .instanceMethod yX11_soonest, .selects RX11 yX11_soonest yX11_soonest, .classLink RL 13 "java/lang/IndexOutOfBoundsException", .methodLink RL 323 yL_soonest, .static yL_soonest, .initialized RL, .code yX12_soonest cX12_soonest 9 (some .int), .fieldLink RX12 194 "SeaLandModel" "thrown" "I", .code yX12_noWork cX12_noWork 2 (some .boolean), .fieldLink RX12 9 "SeaLandModel" "world" "[I", .code yX12_in cX12_in 3 (some .boolean), .methodLink RX12 197 yX12_in, .static yX12_in, .initialized RX12, .methodLink RX12 269 yX12_noWork, .instanceMethod yX12_noWork, .selects RX12 yX12_noWork yX12_noWork, .code yX12_throwsIf cX12_throwsIf 3 (some .boolean), .methodLink RX12 224 yX12_throwsIf, .instanceMethod yX12_throwsIf, .selects RX12 yX12_throwsIf yX12_throwsIf, .methodLink RL 325 yX12_soonest, .instanceMethod yX12_soonest, .selects RX12 yX12_soonest yX12_soonest, .code yX12_thrown cX12_thrown 1 (some .int), .methodLink RL 187 yX12_thrown, .instanceMethod yX12_thrown, .selects RX12 yX12_thrown yX12_thrown] ++ bs)
set_option maxRecDepth 100000 in
theorem wm_43 : ∀ w ∈ w_law_43, w ∈ lw_tbl := lw_ins (List.mem_of_getElem? (i := 110) (by decide +kernel)) (lw_in _ (1879 :: 1883 :: 1134 :: 589 :: 902 :: 900 :: 901 :: 111 :: 903 :: 126 :: 1131 :: 1133 :: 8 :: 1880 :: 1881 :: 1882 :: 811 :: 1877 :: 1878 :: 110 :: 2728 :: 1969 :: 2307 :: 1970 :: 2217 :: 2215 :: 2216 :: 122 :: 2304 :: 2306 :: 55 :: 2221 :: 2218 :: 2220 :: 44 :: 2725 :: 2726 :: 2727 :: 2207 :: 2204 :: 2205 :: 2206 :: []) (by decide +kernel))
set_option maxHeartbeats 4000000 in
set_option maxRecDepth 100000 in
/-- soonest -/
theorem law_43 {p : Program} {e : Env} {s : State} {m : MethodId} {below : List Frame} {meth : Method} {c : Code} (l : Launch) (hlt : l.stackTraces = false) {b : Nat} {xs : Nat → Int32} {A : Nat → Prop} (hx : p.tables.exec = Jvm.exec) (hb : c.code = code) (hr : meth.sig.returnType = ret) (hml : c.maxLocals = 7) (hown : s.vm.findClass RL = some m.cls) (hts : ∀ w ∈ w_law_43, w.before #[Value.ref b] s = true) (hX : va_X b 8 xs s s.heap) (hbl : b < s.heap.size) (hbA : ¬ A b) (hlocks : meth.locks = false) (hE : EV A s s.heap) (hN : NC s) (hA : ∀ q : Nat, s.heap.size ≤ q → A q) (hAi : ∀ q : Nat, A q → s.heap.size ≤ q) {dC : Nat → ClassId} {dI : Nat → Nat → Nat} (a : Nat → Nat) (k : Nat → ClassId) (h0 : Nat) (q : Nat → Nat) (cm : Nat → ClassId) (o0 : Nat) (ko : ClassId) (H : Heap) (locs : List Loc) (hK : va_K (dC, dI) vwCl [(ko, .long), ((cm 1), .int)] s) (hP : va_P (dC, dI) vwCl [(a 0, .inr (14, [.ref (a 1), .ref (a 2), .ref (a 27), .ref (a 30), .ref (a 74), .ref (a 75), .null, .int 0, .int 0])), (a 2, .inr (6, [.ref (a 3), .ref (a 14), .ref (a 26), .int 0, .int 0])), (o0, .inl (ko, 1, .inr (.inl (fun _ => 0)))), (h0, .inr (15, mF q 0)), (q 1, .inl ((cm 1), 1749, .inl (fun _ => 0)))] H) (hD : va_D A [(a 0, .inr (14, [.ref (a 1), .ref (a 2), .ref (a 27), .ref (a 30), .ref (a 74), .ref (a 75), .null, .int 0, .int 0])), (a 2, .inr (6, [.ref (a 3), .ref (a 14), .ref (a 26), .int 0, .int 0])), (o0, .inl (ko, 1, .inr (.inl (fun _ => 0)))), (h0, .inr (15, mF q 0)), (q 1, .inl ((cm 1), 1749, .inl (fun _ => 0)))]) (hS : va_S A s.heap H locs) (ls : Array Slot) (hl : lv_has ls 7 [(0, .ref b), (1, .ref (a 0)), (2, .ref h0), (3, .ref o0), (4, .int 0)]) : W p l e room_1 s m #[Value.ref b] below meth c H locs 238 27427 (lw_Z below #[Value.ref b] s) (F0 m 3229 ls []) := by
  refine lv_aload_n hx hb dL_law_3229 rfl (lv_at hl 1 rfl) ?_
  refine lv_aload_n hx hb dL_law_3230 rfl (lv_at hl 0 rfl) ?_
  refine lv_iload hx hb dL_law_3231 (lv_at hl 4 rfl) ?_
  refine lv_iconst (v := 1) hx hb dL_law_3233 (by decide) ?_
  refine lv_iadd hx hb dL_law_3234 ?_
  refine lv_topi (fun x1 ex1 => ?_)
  obtain rfl : x1 = 1 := ex1.trans (by decide)
  refine va_sld hx hb hX hbl hbA hS (i := 1) (by unfold vp_in; decide) dL_law_3235 ?_
  refine lv_topi (fun x2 ex2 => ?_)
  obtain rfl : xs 1 = x2 := (ex2).symm
  refine lv_aload_n hx hb dL_law_3236 rfl (lv_at hl 0 rfl) ?_
  refine lv_iload hx hb dL_law_3237 (lv_at hl 4 rfl) ?_
  refine lv_iconst (v := 2) hx hb dL_law_3239 (by decide) ?_
  refine lv_iadd hx hb dL_law_3240 ?_
  refine lv_topi (fun x3 ex3 => ?_)
  obtain rfl : x3 = 2 := ex3.trans (by decide)
  refine va_sld hx hb hX hbl hbA hS (i := 2) (by unfold vp_in; decide) dL_law_3241 ?_
  refine lv_topi (fun x4 ex4 => ?_)
  obtain rfl : xs 2 = x4 := (ex4).symm
  refine lv_aload_n hx hb dL_law_3242 rfl (lv_at hl 0 rfl) ?_
  refine lv_iload hx hb dL_law_3243 (lv_at hl 4 rfl) ?_
  refine lv_iconst (v := 3) hx hb dL_law_3245 (by decide) ?_
  refine lv_iadd hx hb dL_law_3246 ?_
  refine lv_topi (fun x5 ex5 => ?_)
  obtain rfl : x5 = 3 := ex5.trans (by decide)
  refine va_sld hx hb hX hbl hbA hS (i := 3) (by unfold vp_in; decide) dL_law_3247 ?_
  refine lv_topi (fun x6 ex6 => ?_)
  obtain rfl : xs 3 = x6 := (ex6).symm
  refine lv_aload_n hx hb dL_law_3248 rfl (lv_at hl 3 rfl) ?_
  have hPc := hP.sub (ws' := [(a 0, .inr (14, [.ref (a 1), .ref (a 2), .ref (a 27), .ref (a 30), .ref (a 74), .ref (a 75), .null, .int 0, .int 0])), (a 2, .inr (6, [.ref (a 3), .ref (a 14), .ref (a 26), .int 0, .int 0])), (o0, .inl (ko, 1, .inr (.inl (fun _ => 0))))]) [0, 1, 2] rfl
  have hDc := hD.sub (ws' := [(a 0, .inr (14, [.ref (a 1), .ref (a 2), .ref (a 27), .ref (a 30), .ref (a 74), .ref (a 75), .null, .int 0, .int 0])), (a 2, .inr (6, [.ref (a 3), .ref (a 14), .ref (a 26), .int 0, .int 0])), (o0, .inl (ko, 1, .inr (.inl (fun _ => 0))))]) [0, 1, 2] (by decide) rfl
  have hKc := hK.sub (tys' := [(ko, .long)]) [0] rfl
  have hFc := va_free (wc := [(a 0, .inr (14, [.ref (a 1), .ref (a 2), .ref (a 27), .ref (a 30), .ref (a 74), .ref (a 75), .null, .int 0, .int 0])), (a 2, .inr (6, [.ref (a 3), .ref (a 14), .ref (a 26), .int 0, .int 0])), (o0, .inl (ko, 1, .inr (.inl (fun _ => 0))))]) hD hS hA [0, 1, 2] rfl
  refine va_calli (vx_runSW (As := [.ref (a 0), .int (xs 1), .int (xs 2), .int (xs 3), .ref o0]) (rest := []) ⟨hx, hb, hml, hown, hts⟩ (l_soonest l hlt dC dI a k o0 ko (fun _ => 0) (xs 1) (xs 2) (xs 3) H.size ) (vx_cwSW 5 hts (goodIn_app (goodIn_r _ [18, 19, 20] (by decide +kernel) (by decide +kernel)) (goodIn_ca (goodIn_r _ [1, 2, 3, 4, 5, 6, 7, 8, 9, 10, 11, 12, 13, 14, 15, 16, 17] (by decide +kernel) (by decide +kernel)) (bs_in _ _))) rfl rfl rfl (by decide +kernel) ⟨(Nat.le_of_ble_eq_true rfl), (Nat.le_of_ble_eq_true rfl)⟩) ⟨fun a U g mk q => by obtain ⟨q0, q1, qP, qK, qD, qE, qN⟩ := q; exact ⟨q0, q1, qP, va_K.moved (u := U) (U := U.calling g mk a) (Vm.Alike.refl U.vm) qK, qD, EV.blind g mk a qE, NC.blind g mk a qN⟩, fun U hU hW => ⟨rfl, by rw [hU], by rw [hU]; exact hPc, va_K.moved hW.alike hKc, hDc.weaken (fun _ _ _ _ => trivial), hE.call hS hFc hU hW, hN.call hW⟩⟩ rfl rfl hl.1 rfl (lv_room (Nat.le_of_ble_eq_true rfl)) dL_law_3249 ⟨(Nat.le_of_ble_eq_true rfl), (Nat.le_of_ble_eq_true rfl)⟩) hS (fun q _ h => hFc q h) hFc (fun r8 u t H1 locs ht hvm hw9 hB hz1 hk1 hS => ?_)
  obtain ⟨fu10, rfl⟩ : ∃ z, z = u := ⟨_, rfl⟩
  obtain ⟨hP1, hD1⟩ := hB
  rw [ht] at hP1
  obtain ⟨hP, hD⟩ := va_join (wr := [(h0, .inr (15, mF q 0)), (q 1, .inl ((cm 1), 1749, .inl (fun _ => 0)))]) (w1 := [(o0, .inl (ko, 1, .inr (.inl fu10)))]) hP hD [0, 1, 2] [3, 4] rfl rfl (by decide) (by decide) hk1 hFc hP1 hD1
  generalize H1 = H at hP hS ⊢
  have hP : va_P (dC, dI) vwCl [(h0, .inr (15, mF q 0)), (q 1, .inl ((cm 1), 1749, .inl (fun _ => 0))), (o0, .inl (ko, 1, .inr (.inl fu10)))] H := hP
  have hD : va_D A [(h0, .inr (15, mF q 0)), (q 1, .inl ((cm 1), 1749, .inl (fun _ => 0))), (o0, .inl (ko, 1, .inr (.inl fu10)))] := hD
  try dsimp only at hw9
  obtain rfl : 1 = r8 := hw9.symm
  refine lv_istore (lv' := [(5, .int 1), (0, .ref b), (1, .ref (a 0)), (2, .ref h0), (3, .ref o0), (4, .int 0)]) hx hb dL_law_3252 hl (by decide) rfl (fun ls hl => ?_)
  refine lv_aload_n hx hb dL_law_3254 rfl (lv_at hl 3 rfl) ?_
  refine lv_aload_n hx hb dL_law_3255 rfl (lv_at hl 1 rfl) ?_
  refine lv_iload hx hb dL_law_3256 (lv_at hl 5 rfl) ?_
  refine lv_iconst (v := 1) hx hb dL_law_3258 (by decide) ?_
  refine lv_iadd hx hb dL_law_3259 ?_
  refine lv_topi (fun x11 ex11 => ?_)
  obtain rfl : x11 = 1 := ex11.trans (by decide)
  refine va_sld hx hb hX hbl hbA hS (i := 1) (by unfold vp_in; decide) dL_law_3260 ?_
  refine lv_topi (fun x12 ex12 => ?_)
  obtain rfl : xs 1 = x12 := (ex12).symm
  refine lv_aload_n hx hb dL_law_3261 rfl (lv_at hl 1 rfl) ?_
  refine lv_iload hx hb dL_law_3262 (lv_at hl 5 rfl) ?_
  refine lv_iconst (v := 2) hx hb dL_law_3264 (by decide) ?_
  refine lv_iadd hx hb dL_law_3265 ?_
  refine lv_topi (fun x13 ex13 => ?_)
  obtain rfl : x13 = 2 := ex13.trans (by decide)
  refine va_sld hx hb hX hbl hbA hS (i := 2) (by unfold vp_in; decide) dL_law_3266 ?_
  refine lv_topi (fun x14 ex14 => ?_)
  obtain rfl : xs 2 = x14 := (ex14).symm
  refine lv_aload_n hx hb dL_law_3267 rfl (lv_at hl 1 rfl) ?_
  refine lv_iload hx hb dL_law_3268 (lv_at hl 5 rfl) ?_
  refine lv_iconst (v := 3) hx hb dL_law_3270 (by decide) ?_
  refine lv_iadd hx hb dL_law_3271 ?_
  refine lv_topi (fun x15 ex15 => ?_)
  obtain rfl : x15 = 3 := ex15.trans (by decide)
  refine va_sld hx hb hX hbl hbA hS (i := 3) (by unfold vp_in; decide) dL_law_3272 ?_
  refine lv_topi (fun x16 ex16 => ?_)
  obtain rfl : xs 3 = x16 := (ex16).symm
  have hPc := hP.sub (ws' := [(h0, .inr (15, mF q 0)), (q 1, .inl ((cm 1), 1749, .inl (fun _ => 0)))]) [0, 1] rfl
  have hDc := hD.sub (ws' := [(h0, .inr (15, mF q 0)), (q 1, .inl ((cm 1), 1749, .inl (fun _ => 0)))]) [0, 1] (by decide) rfl
  have hKc := hK.sub (tys' := [((cm 1), .int)]) [1] rfl
  have hFc := va_free (wc := [(h0, .inr (15, mF q 0)), (q 1, .inl ((cm 1), 1749, .inl (fun _ => 0)))]) hD hS hA [0, 1] rfl
  refine va_calli (va_runV (As := [.int (xs 1), .int (xs 2), .int (xs 3)]) (rest := []) ⟨hx, hb, hml, hown, hts⟩ (m_soonest l dC dI h0 q cm (xs 1) (xs 2) (xs 3) H.size ) (cwV 3 hts (goodIn_app (goodIn_r _ [36, 37, 38, 28] (by decide +kernel) (by decide +kernel)) (goodIn_ca (goodIn_r _ [21, 22, 23, 24, 25, 26, 27, 28, 29, 30, 31, 32, 33, 34, 35] (by decide +kernel) (by decide +kernel)) (bs_in _ _))) rfl rfl rfl (by decide +kernel) ⟨(Nat.le_of_ble_eq_true rfl), (Nat.le_of_ble_eq_true rfl)⟩) ⟨fun a U g mk q => by obtain ⟨q0, q1, qP, qK, qD⟩ := q; exact ⟨q0, q1, qP, va_K.moved (u := U) (U := U.calling g mk a) (Vm.Alike.refl U.vm) qK, qD⟩, va_recv hKc hPc (ci := 15) (q0 := 0) rfl rfl, fun U hU hW => ⟨rfl, by rw [hU], by rw [hU]; exact hPc, va_K.moved hW.alike hKc, hDc.weaken (fun _ _ _ _ => trivial)⟩⟩ rfl rfl hl.1 rfl (lv_room (Nat.le_of_ble_eq_true rfl)) dL_law_3273 ⟨(Nat.le_of_ble_eq_true rfl), (Nat.le_of_ble_eq_true rfl)⟩) hS (fun q _ h => hFc q h) hFc (fun r18 u t H1 locs ht hvm hw19 hB hz1 hk1 hS => ?_)
  obtain ⟨fs20, rfl⟩ : ∃ z, z = u := ⟨_, rfl⟩
  obtain ⟨hP1, hD1⟩ := hB
  rw [ht] at hP1
  obtain ⟨hP, hD⟩ := va_join (wr := [(o0, .inl (ko, 1, .inr (.inl fu10)))]) (w1 := [(h0, .inr (15, fs20))]) hP hD [0, 1] [2] rfl rfl (by decide) (by decide) hk1 hFc hP1 hD1
  generalize H1 = H at hP hS ⊢
  have hP : va_P (dC, dI) vwCl [(o0, .inl (ko, 1, .inr (.inl fu10))), (h0, .inr (15, fs20))] H := hP
  have hD : va_D A [(o0, .inl (ko, 1, .inr (.inl fu10))), (h0, .inr (15, fs20))] := hD
  try dsimp only at hw19
  refine lv_istore (lv' := [(6, .int r18), (5, .int 1), (0, .ref b), (1, .ref (a 0)), (2, .ref h0), (3, .ref o0), (4, .int 0)]) hx hb dL_law_3276 hl (by decide) rfl (fun ls hl => ?_)
  refine lv_aload_n hx hb dL_law_3278 rfl (lv_at hl 4 rfl) ?_
  have hPc := hP.sub (ws' := [(h0, .inr (15, fs20))]) [1] rfl
  have hDc := hD.sub (ws' := [(h0, .inr (15, fs20))]) [1] (by decide) rfl
  have hKc := hK.sub (tys' := []) [] rfl
  have hFc := va_free (wc := [(h0, .inr (15, fs20))]) hD hS hA [1] rfl
  refine va_calli (va_runV (As := []) (rest := []) ⟨hx, hb, hml, hown, hts⟩ (m_thrown l dC dI h0 fs20 1 H.size hw19) (cwV 0 hts (goodIn_app (goodIn_r _ [40, 41, 42, 28] (by decide +kernel) (by decide +kernel)) (goodIn_ca (goodIn_r _ [39, 22] (by decide +kernel) (by decide +kernel)) (bs_in _ _))) rfl rfl rfl (by decide +kernel) ⟨(Nat.le_of_ble_eq_true rfl), (Nat.le_of_ble_eq_true rfl)⟩) ⟨fun a U g mk q => by obtain ⟨q0, q1, qP, qK, qD⟩ := q; exact ⟨q0, q1, qP, va_K.moved (u := U) (U := U.calling g mk a) (Vm.Alike.refl U.vm) qK, qD⟩, va_recv hKc hPc (ci := 15) (q0 := 0) rfl rfl, fun U hU hW => ⟨rfl, by rw [hU], by rw [hU]; exact hPc, va_K.moved hW.alike hKc, hDc.weaken (fun _ _ _ _ => trivial)⟩⟩ rfl rfl hl.1 rfl (lv_room (Nat.le_of_ble_eq_true rfl)) dL_law_3279 ⟨(Nat.le_of_ble_eq_true rfl), (Nat.le_of_ble_eq_true rfl)⟩) hS (fun q _ h => hFc q h) hFc (fun r22 u t H1 locs ht hvm hw23 hB hz1 hk1 hS => ?_)
  have hP1 : va_P (dC, dI) vwCl [] H1 := nilP
  have hD1 : va_D (va_A [(h0, .inr (15, fs20))] H.size) [] := nilD
  have hK := hK
  obtain ⟨hP, hD⟩ := va_join (wr := [(o0, .inl (ko, 1, .inr (.inl fu10)))]) (w1 := []) hP hD [1] [0] rfl rfl (by decide) (by decide) hk1 hFc hP1 hD1
  generalize H1 = H at hP hS ⊢
  have hP : va_P (dC, dI) vwCl [(o0, .inl (ko, 1, .inr (.inl fu10)))] H := hP
  have hD : va_D A [(o0, .inl (ko, 1, .inr (.inl fu10)))] := hD
  try dsimp only at hw23
  obtain rfl : 1 = r22 := hw23.symm
  refine lv_iload hx hb dL_law_3282 (lv_at hl 1 rfl) ?_
  refine lv_icmp_eq (tgt := 3289) hx hb dL_law_3284 (by decide) (fun c24 => ?_) (fun c24 => absurd c24 (by decide))
  refine lv_iload hx hb dL_law_3289 (lv_at hl 1 rfl) ?_
  refine lv_if_ne (tgt := 3306) hx hb dL_law_3291 (by decide) (fun c25 => ?_) (fun c25 => absurd c25 (by decide))
  refine lv_goto (tgt := 3762) hx hb dL_law_3306 (by decide) ?_
  exact law_tail hx hb hr hlocks hX hbl hbA hAi hS (Nat.le_of_ble_eq_true rfl) (Nat.le_of_ble_eq_true rfl) ls (lv_sub hl [2, 6] rfl)
def w_law_44 : List Cond := .initialized RL :: ([.codeWith yL_levels cL_levels 5 (some .int) [(0, 10, 13, 13), (0, 10, 17, 15)], .code yX11_levels cX11_levels 3 (some .int), .code yX11_needFarm cX11_needFarm 2 none, .fieldLink RX11 30 "SeaLand" "board" "LSeaLand$Board;", .code yX11_within cX11_within 3 (some .boolean), .methodLink RX11 58 yX11_within, .static yX11_within, .initialized RX11, .classLink RX11 557 "java/lang/IndexOutOfBoundsException", .initialized "java/lang/IndexOutOfBoundsException", .methodLink RX11 366 yX11_needFarm, .instanceMethod yX11_needFarm, .selects RX11 yX11_needFarm yX11_needFarm, .methodLink RL 154 yX11_levels, .instanceMethod yX11_levels, .selects RX11 yX11_levels yX11_levels, .classLink RL 13 "java/lang/IndexOutOfBoundsException", .methodLink RL 326 yL_levels, .static yL_levels, .initialized RL, .code yX12_levels cX12_levels 11 (some .int), .fieldLink RX12 194 "SeaLandModel" "thrown" "I", .code yX12_noFarm cX12_noFarm 2 (some .boolean), .fieldLink RX12 498 "SeaLandModel" "farms" "I", .code yX12_in cX12_in 3 (some .boolean), .methodLink RX12 197 yX12_in, .static yX12_in, .initialized RX12, .methodLink RX12 502 yX12_noFarm, .instanceMethod yX12_noFarm, .selects RX12 yX12_noFarm yX12_noFarm, .code yX12_throwsIf cX12_throwsIf 3 (some .boolean), .methodLink RX12 224 yX12_throwsIf, .instanceMethod yX12_throwsIf, .selects RX12 yX12_throwsIf yX12_throwsIf, .methodLink RL 328 yX12_levels, .instanceMethod yX12_levels, .selects RX12 yX12_levels yX12_levels, .code yX12_thrown cX12_thrown 1 (some .int), .methodLink RL 187 yX12_thrown, .instanceMethod yX12_thrown, .selects RX12 yX12_thrown yX12_thrown] ++ bs)
set_option maxRecDepth 100000 in
theorem wm_44 : ∀ w ∈ w_law_44, w ∈ lw_tbl := lw_ins (List.mem_of_getElem? (i := 110) (by decide +kernel)) (lw_in _ (1892 :: 1896 :: 1702 :: 591 :: 902 :: 900 :: 901 :: 111 :: 903 :: 126 :: 1699 :: 1701 :: 32 :: 1893 :: 1894 :: 1895 :: 811 :: 1890 :: 1891 :: 110 :: 2732 :: 1969 :: 2627 :: 2016 :: 2217 :: 2215 :: 2216 :: 122 :: 2624 :: 2626 :: 101 :: 2221 :: 2218 :: 2220 :: 44 :: 2729 :: 2730 :: 2731 :: 2207 :: 2204 :: 2205 :: 2206 :: []) (by decide +kernel))
set_option maxHeartbeats 4000000 in
set_option maxRecDepth 100000 in
/-- levels -/
theorem law_44 {p : Program} {e : Env} {s : State} {m : MethodId} {below : List Frame} {meth : Method} {c : Code} (l : Launch) (hlt : l.stackTraces = false) {b : Nat} {xs : Nat → Int32} {A : Nat → Prop} (hx : p.tables.exec = Jvm.exec) (hb : c.code = code) (hr : meth.sig.returnType = ret) (hml : c.maxLocals = 7) (hown : s.vm.findClass RL = some m.cls) (hts : ∀ w ∈ w_law_44, w.before #[Value.ref b] s = true) (hX : va_X b 8 xs s s.heap) (hbl : b < s.heap.size) (hbA : ¬ A b) (hlocks : meth.locks = false) (hE : EV A s s.heap) (hN : NC s) (hA : ∀ q : Nat, s.heap.size ≤ q → A q) (hAi : ∀ q : Nat, A q → s.heap.size ≤ q) {dC : Nat → ClassId} {dI : Nat → Nat → Nat} (a : Nat → Nat) (k : Nat → ClassId) (h0 : Nat) (q : Nat → Nat) (cm : Nat → ClassId) (o0 : Nat) (ko : ClassId) (H : Heap) (locs : List Loc) (hK : va_K (dC, dI) vwCl [(ko, .long)] s) (hP : va_P (dC, dI) vwCl [(a 0, .inr (14, [.ref (a 1), .ref (a 2), .ref (a 27), .ref (a 30), .ref (a 74), .ref (a 75), .null, .int 0, .int 0])), (a 30, .inr (3, [.ref (a 31), .ref (a 32), .ref (a 33), .ref (a 34), .ref (a 35), .ref (a 36), .ref (a 37), .ref (a 38), .ref (a 50), .ref (a 62), .int (-1), .int 0, .long 0, .long 0, .int 0, .int 0, .int 0, .int 0])), (o0, .inl (ko, 1, .inr (.inl (fun _ => 0)))), (h0, .inr (15, mF q 0))] H) (hD : va_D A [(a 0, .inr (14, [.ref (a 1), .ref (a 2), .ref (a 27), .ref (a 30), .ref (a 74), .ref (a 75), .null, .int 0, .int 0])), (a 30, .inr (3, [.ref (a 31), .ref (a 32), .ref (a 33), .ref (a 34), .ref (a 35), .ref (a 36), .ref (a 37), .ref (a 38), .ref (a 50), .ref (a 62), .int (-1), .int 0, .long 0, .long 0, .int 0, .int 0, .int 0, .int 0])), (o0, .inl (ko, 1, .inr (.inl (fun _ => 0)))), (h0, .inr (15, mF q 0))]) (hS : va_S A s.heap H locs) (ls : Array Slot) (hl : lv_has ls 7 [(0, .ref b), (1, .ref (a 0)), (2, .ref h0), (3, .ref o0), (4, .int 0)]) : W p l e room_1 s m #[Value.ref b] below meth c H locs 238 27427 (lw_Z below #[Value.ref b] s) (F0 m 3309 ls []) := by
  refine lv_aload_n hx hb dL_law_3309 rfl (lv_at hl 1 rfl) ?_
  refine lv_aload_n hx hb dL_law_3310 rfl (lv_at hl 0 rfl) ?_
  refine lv_iload hx hb dL_law_3311 (lv_at hl 4 rfl) ?_
  refine lv_iconst (v := 1) hx hb dL_law_3313 (by decide) ?_
  refine lv_iadd hx hb dL_law_3314 ?_
  refine lv_topi (fun x1 ex1 => ?_)
  obtain rfl : x1 = 1 := ex1.trans (by decide)
  refine va_sld hx hb hX hbl hbA hS (i := 1) (by unfold vp_in; decide) dL_law_3315 ?_
  refine lv_topi (fun x2 ex2 => ?_)
  obtain rfl : xs 1 = x2 := (ex2).symm
  refine lv_aload_n hx hb dL_law_3316 rfl (lv_at hl 0 rfl) ?_
  refine lv_iload hx hb dL_law_3317 (lv_at hl 4 rfl) ?_
  refine lv_iconst (v := 2) hx hb dL_law_3319 (by decide) ?_
  refine lv_iadd hx hb dL_law_3320 ?_
  refine lv_topi (fun x3 ex3 => ?_)
  obtain rfl : x3 = 2 := ex3.trans (by decide)
  refine va_sld hx hb hX hbl hbA hS (i := 2) (by unfold vp_in; decide) dL_law_3321 ?_
  refine lv_topi (fun x4 ex4 => ?_)
  obtain rfl : xs 2 = x4 := (ex4).symm
  refine lv_aload_n hx hb dL_law_3322 rfl (lv_at hl 3 rfl) ?_
  have hPc := hP.sub (ws' := [(a 0, .inr (14, [.ref (a 1), .ref (a 2), .ref (a 27), .ref (a 30), .ref (a 74), .ref (a 75), .null, .int 0, .int 0])), (a 30, .inr (3, [.ref (a 31), .ref (a 32), .ref (a 33), .ref (a 34), .ref (a 35), .ref (a 36), .ref (a 37), .ref (a 38), .ref (a 50), .ref (a 62), .int (-1), .int 0, .long 0, .long 0, .int 0, .int 0, .int 0, .int 0])), (o0, .inl (ko, 1, .inr (.inl (fun _ => 0))))]) [0, 1, 2] rfl
  have hDc := hD.sub (ws' := [(a 0, .inr (14, [.ref (a 1), .ref (a 2), .ref (a 27), .ref (a 30), .ref (a 74), .ref (a 75), .null, .int 0, .int 0])), (a 30, .inr (3, [.ref (a 31), .ref (a 32), .ref (a 33), .ref (a 34), .ref (a 35), .ref (a 36), .ref (a 37), .ref (a 38), .ref (a 50), .ref (a 62), .int (-1), .int 0, .long 0, .long 0, .int 0, .int 0, .int 0, .int 0])), (o0, .inl (ko, 1, .inr (.inl (fun _ => 0))))]) [0, 1, 2] (by decide) rfl
  have hKc := hK.sub (tys' := [(ko, .long)]) [0] rfl
  have hFc := va_free (wc := [(a 0, .inr (14, [.ref (a 1), .ref (a 2), .ref (a 27), .ref (a 30), .ref (a 74), .ref (a 75), .null, .int 0, .int 0])), (a 30, .inr (3, [.ref (a 31), .ref (a 32), .ref (a 33), .ref (a 34), .ref (a 35), .ref (a 36), .ref (a 37), .ref (a 38), .ref (a 50), .ref (a 62), .int (-1), .int 0, .long 0, .long 0, .int 0, .int 0, .int 0, .int 0])), (o0, .inl (ko, 1, .inr (.inl (fun _ => 0))))]) hD hS hA [0, 1, 2] rfl
  refine va_calli (vx_runSW (As := [.ref (a 0), .int (xs 1), .int (xs 2), .ref o0]) (rest := []) ⟨hx, hb, hml, hown, hts⟩ (l_levels l hlt dC dI a k o0 ko (fun _ => 0) (xs 1) (xs 2) H.size ) (vx_cwSW 4 hts (goodIn_app (goodIn_r _ [18, 19, 20] (by decide +kernel) (by decide +kernel)) (goodIn_ca (goodIn_r _ [1, 2, 3, 4, 5, 6, 7, 8, 9, 10, 11, 12, 13, 14, 15, 16, 17] (by decide +kernel) (by decide +kernel)) (bs_in _ _))) rfl rfl rfl (by decide +kernel) ⟨(Nat.le_of_ble_eq_true rfl), (Nat.le_of_ble_eq_true rfl)⟩) ⟨fun a U g mk q => by obtain ⟨q0, q1, qP, qK, qD, qE, qN⟩ := q; exact ⟨q0, q1, qP, va_K.moved (u := U) (U := U.calling g mk a) (Vm.Alike.refl U.vm) qK, qD, EV.blind g mk a qE, NC.blind g mk a qN⟩, fun U hU hW => ⟨rfl, by rw [hU], by rw [hU]; exact hPc, va_K.moved hW.alike hKc, hDc.weaken (fun _ _ _ _ => trivial), hE.call hS hFc hU hW, hN.call hW⟩⟩ rfl rfl hl.1 rfl (lv_room (Nat.le_of_ble_eq_true rfl)) dL_law_3323 ⟨(Nat.le_of_ble_eq_true rfl), (Nat.le_of_ble_eq_true rfl)⟩) hS (fun q _ h => hFc q h) hFc (fun r6 u t H1 locs ht hvm hw7 hB hz1 hk1 hS => ?_)
  obtain ⟨fu8, rfl⟩ : ∃ z, z = u := ⟨_, rfl⟩
  obtain ⟨hP1, hD1⟩ := hB
  rw [ht] at hP1
  obtain ⟨hP, hD⟩ := va_join (wr := [(h0, .inr (15, mF q 0))]) (w1 := [(o0, .inl (ko, 1, .inr (.inl fu8)))]) hP hD [0, 1, 2] [3] rfl rfl (by decide) (by decide) hk1 hFc hP1 hD1
  generalize H1 = H at hP hS ⊢
  have hP : va_P (dC, dI) vwCl [(h0, .inr (15, mF q 0)), (o0, .inl (ko, 1, .inr (.inl fu8)))] H := hP
  have hD : va_D A [(h0, .inr (15, mF q 0)), (o0, .inl (ko, 1, .inr (.inl fu8)))] := hD
  try dsimp only at hw7
  obtain rfl : 1 = r6 := hw7.symm
  refine lv_istore (lv' := [(5, .int 1), (0, .ref b), (1, .ref (a 0)), (2, .ref h0), (3, .ref o0), (4, .int 0)]) hx hb dL_law_3326 hl (by decide) rfl (fun ls hl => ?_)
  refine lv_aload_n hx hb dL_law_3328 rfl (lv_at hl 3 rfl) ?_
  refine lv_aload_n hx hb dL_law_3329 rfl (lv_at hl 1 rfl) ?_
  refine lv_iload hx hb dL_law_3330 (lv_at hl 5 rfl) ?_
  refine lv_iconst (v := 1) hx hb dL_law_3332 (by decide) ?_
  refine lv_iadd hx hb dL_law_3333 ?_
  refine lv_topi (fun x9 ex9 => ?_)
  obtain rfl : x9 = 1 := ex9.trans (by decide)
  refine va_sld hx hb hX hbl hbA hS (i := 1) (by unfold vp_in; decide) dL_law_3334 ?_
  refine lv_topi (fun x10 ex10 => ?_)
  obtain rfl : xs 1 = x10 := (ex10).symm
  refine lv_aload_n hx hb dL_law_3335 rfl (lv_at hl 1 rfl) ?_
  refine lv_iload hx hb dL_law_3336 (lv_at hl 5 rfl) ?_
  refine lv_iconst (v := 2) hx hb dL_law_3338 (by decide) ?_
  refine lv_iadd hx hb dL_law_3339 ?_
  refine lv_topi (fun x11 ex11 => ?_)
  obtain rfl : x11 = 2 := ex11.trans (by decide)
  refine va_sld hx hb hX hbl hbA hS (i := 2) (by unfold vp_in; decide) dL_law_3340 ?_
  refine lv_topi (fun x12 ex12 => ?_)
  obtain rfl : xs 2 = x12 := (ex12).symm
  have hPc := hP.sub (ws' := [(h0, .inr (15, mF q 0))]) [0] rfl
  have hDc := hD.sub (ws' := [(h0, .inr (15, mF q 0))]) [0] (by decide) rfl
  have hKc := hK.sub (tys' := []) [] rfl
  have hFc := va_free (wc := [(h0, .inr (15, mF q 0))]) hD hS hA [0] rfl
  refine va_calli (va_runV (As := [.int (xs 1), .int (xs 2)]) (rest := []) ⟨hx, hb, hml, hown, hts⟩ (m_levels l dC dI h0 q cm (xs 1) (xs 2) H.size ) (cwV 2 hts (goodIn_app (goodIn_r _ [36, 37, 38, 28] (by decide +kernel) (by decide +kernel)) (goodIn_ca (goodIn_r _ [21, 22, 23, 24, 25, 26, 27, 28, 29, 30, 31, 32, 33, 34, 35] (by decide +kernel) (by decide +kernel)) (bs_in _ _))) rfl rfl rfl (by decide +kernel) ⟨(Nat.le_of_ble_eq_true rfl), (Nat.le_of_ble_eq_true rfl)⟩) ⟨fun a U g mk q => by obtain ⟨q0, q1, qP, qK, qD⟩ := q; exact ⟨q0, q1, qP, va_K.moved (u := U) (U := U.calling g mk a) (Vm.Alike.refl U.vm) qK, qD⟩, va_recv hKc hPc (ci := 15) (q0 := 0) rfl rfl, fun U hU hW => ⟨rfl, by rw [hU], by rw [hU]; exact hPc, va_K.moved hW.alike hKc, hDc.weaken (fun _ _ _ _ => trivial)⟩⟩ rfl rfl hl.1 rfl (lv_room (Nat.le_of_ble_eq_true rfl)) dL_law_3341 ⟨(Nat.le_of_ble_eq_true rfl), (Nat.le_of_ble_eq_true rfl)⟩) hS (fun q _ h => hFc q h) hFc (fun r14 u t H1 locs ht hvm hw15 hB hz1 hk1 hS => ?_)
  obtain ⟨fs16, rfl⟩ : ∃ z, z = u := ⟨_, rfl⟩
  obtain ⟨hP1, hD1⟩ := hB
  rw [ht] at hP1
  obtain ⟨hP, hD⟩ := va_join (wr := [(o0, .inl (ko, 1, .inr (.inl fu8)))]) (w1 := [(h0, .inr (15, fs16))]) hP hD [0] [1] rfl rfl (by decide) (by decide) hk1 hFc hP1 hD1
  generalize H1 = H at hP hS ⊢
  have hP : va_P (dC, dI) vwCl [(o0, .inl (ko, 1, .inr (.inl fu8))), (h0, .inr (15, fs16))] H := hP
  have hD : va_D A [(o0, .inl (ko, 1, .inr (.inl fu8))), (h0, .inr (15, fs16))] := hD
  try dsimp only at hw15
  refine lv_istore (lv' := [(6, .int r14), (5, .int 1), (0, .ref b), (1, .ref (a 0)), (2, .ref h0), (3, .ref o0), (4, .int 0)]) hx hb dL_law_3344 hl (by decide) rfl (fun ls hl => ?_)
  refine lv_aload_n hx hb dL_law_3346 rfl (lv_at hl 4 rfl) ?_
  have hPc := hP.sub (ws' := [(h0, .inr (15, fs16))]) [1] rfl
  have hDc := hD.sub (ws' := [(h0, .inr (15, fs16))]) [1] (by decide) rfl
  have hKc := hK.sub (tys' := []) [] rfl
  have hFc := va_free (wc := [(h0, .inr (15, fs16))]) hD hS hA [1] rfl
  refine va_calli (va_runV (As := []) (rest := []) ⟨hx, hb, hml, hown, hts⟩ (m_thrown l dC dI h0 fs16 1 H.size hw15) (cwV 0 hts (goodIn_app (goodIn_r _ [40, 41, 42, 28] (by decide +kernel) (by decide +kernel)) (goodIn_ca (goodIn_r _ [39, 22] (by decide +kernel) (by decide +kernel)) (bs_in _ _))) rfl rfl rfl (by decide +kernel) ⟨(Nat.le_of_ble_eq_true rfl), (Nat.le_of_ble_eq_true rfl)⟩) ⟨fun a U g mk q => by obtain ⟨q0, q1, qP, qK, qD⟩ := q; exact ⟨q0, q1, qP, va_K.moved (u := U) (U := U.calling g mk a) (Vm.Alike.refl U.vm) qK, qD⟩, va_recv hKc hPc (ci := 15) (q0 := 0) rfl rfl, fun U hU hW => ⟨rfl, by rw [hU], by rw [hU]; exact hPc, va_K.moved hW.alike hKc, hDc.weaken (fun _ _ _ _ => trivial)⟩⟩ rfl rfl hl.1 rfl (lv_room (Nat.le_of_ble_eq_true rfl)) dL_law_3347 ⟨(Nat.le_of_ble_eq_true rfl), (Nat.le_of_ble_eq_true rfl)⟩) hS (fun q _ h => hFc q h) hFc (fun r18 u t H1 locs ht hvm hw19 hB hz1 hk1 hS => ?_)
  have hP1 : va_P (dC, dI) vwCl [] H1 := nilP
  have hD1 : va_D (va_A [(h0, .inr (15, fs16))] H.size) [] := nilD
  have hK := hK
  obtain ⟨hP, hD⟩ := va_join (wr := [(o0, .inl (ko, 1, .inr (.inl fu8)))]) (w1 := []) hP hD [1] [0] rfl rfl (by decide) (by decide) hk1 hFc hP1 hD1
  generalize H1 = H at hP hS ⊢
  have hP : va_P (dC, dI) vwCl [(o0, .inl (ko, 1, .inr (.inl fu8)))] H := hP
  have hD : va_D A [(o0, .inl (ko, 1, .inr (.inl fu8)))] := hD
  try dsimp only at hw19
  obtain rfl : 1 = r18 := hw19.symm
  refine lv_iload hx hb dL_law_3350 (lv_at hl 1 rfl) ?_
  refine lv_icmp_eq (tgt := 3357) hx hb dL_law_3352 (by decide) (fun c20 => ?_) (fun c20 => absurd c20 (by decide))
  refine lv_iload hx hb dL_law_3357 (lv_at hl 1 rfl) ?_
  refine lv_if_ne (tgt := 3374) hx hb dL_law_3359 (by decide) (fun c21 => ?_) (fun c21 => absurd c21 (by decide))
  refine lv_goto (tgt := 3762) hx hb dL_law_3374 (by decide) ?_
  exact law_tail hx hb hr hlocks hX hbl hbA hAi hS (Nat.le_of_ble_eq_true rfl) (Nat.le_of_ble_eq_true rfl) ls (lv_sub hl [2, 6] rfl)
def w_law_45 : List Cond := .initialized RL :: ([.codeWith yL_job cL_job 7 (some .int) [(0, 14, 17, 15)], .code yX11_job cX11_job 5 (some .int), .constant RX11 411 1000000, .code yX11_within cX11_within 3 (some .boolean), .methodLink RX11 58 yX11_within, .static yX11_within, .initialized RX11, .constant RX11 96 100000, .code yX11_needNumbers cX11_needNumbers 1 none, .methodLink RX11 62 yX11_needNumbers, .static yX11_needNumbers, .fieldLink RX11 43 "SeaLand" "plans" "LSeaLand$Plans;", .code yX5_addJob cX5_addJob 5 (some .int), .fieldLink RX5 29 "SeaLand$Plans" "costs" "[I", .fieldLink RX5 154 "SeaLand$Plans" "jobs" "I", .fieldLink RX5 32 "SeaLand$Plans" "lasts" "[I", .fieldLink RX5 35 "SeaLand$Plans" "incomes" "[I", .fieldLink RX5 38 "SeaLand$Plans" "acres" "[I", .methodLink RX11 481 yX5_addJob, .instanceMethod yX5_addJob, .selects RX5 yX5_addJob yX5_addJob, .initialized RX5, .classLink RX11 547 "java/lang/IllegalArgumentException", .initialized "java/lang/IllegalArgumentException", .methodLink RL 157 yX11_job, .instanceMethod yX11_job, .selects RX11 yX11_job yX11_job, .classLink RL 15 "java/lang/IllegalArgumentException", .methodLink RL 329 yL_job, .static yL_job, .initialized RL, .code yX12_job cX12_job 5 (some .int), .fieldLink RX12 194 "SeaLandModel" "thrown" "I", .constant RX12 536 1000000, .code yX12_in cX12_in 3 (some .boolean), .methodLink RX12 197 yX12_in, .static yX12_in, .initialized RX12, .constant RX12 241 100000, .code yX12_throwsIf cX12_throwsIf 3 (some .boolean), .methodLink RX12 224 yX12_throwsIf, .instanceMethod yX12_throwsIf, .selects RX12 yX12_throwsIf yX12_throwsIf, .fieldLink RX12 553 "SeaLandModel" "jobs" "I", .fieldLink RX12 176 "SeaLandModel" "jCost" "[I", .fieldLink RX12 179 "SeaLandModel" "jYears" "[I", .fieldLink RX12 182 "SeaLandModel" "jBrings" "[I", .fieldLink RX12 185 "SeaLandModel" "jAcres" "[I", .methodLink RL 331 yX12_job, .instanceMethod yX12_job, .selects RX12 yX12_job yX12_job, .code yX12_thrown cX12_thrown 1 (some .int), .methodLink RL 187 yX12_thrown, .instanceMethod yX12_thrown, .selects RX12 yX12_thrown yX12_thrown] ++ bs)
set_option maxRecDepth 100000 in
theorem wm_45 : ∀ w ∈ w_law_45, w ∈ lw_tbl := lw_ins (List.mem_of_getElem? (i := 110) (by decide +kernel)) (lw_in _ (1916 :: 1920 :: 1760 :: 902 :: 900 :: 901 :: 111 :: 976 :: 918 :: 916 :: 917 :: 593 :: 1924 :: 538 :: 549 :: 539 :: 540 :: 541 :: 1921 :: 1922 :: 1923 :: 121 :: 919 :: 129 :: 1917 :: 1918 :: 1919 :: 891 :: 1914 :: 1915 :: 110 :: 2739 :: 1969 :: 2688 :: 2217 :: 2215 :: 2216 :: 122 :: 2239 :: 2221 :: 2218 :: 2220 :: 44 :: 2043 :: 2039 :: 2040 :: 2041 :: 2042 :: 2736 :: 2737 :: 2738 :: 2207 :: 2204 :: 2205 :: 2206 :: []) (by decide +kernel))
set_option maxHeartbeats 4000000 in
set_option maxRecDepth 100000 in
/-- job -/
theorem law_45 {p : Program} {e : Env} {s : State} {m : MethodId} {below : List Frame} {meth : Method} {c : Code} (l : Launch) (hlt : l.stackTraces = false) {b : Nat} {xs : Nat → Int32} {A : Nat → Prop} (hx : p.tables.exec = Jvm.exec) (hb : c.code = code) (hr : meth.sig.returnType = ret) (hml : c.maxLocals = 7) (hown : s.vm.findClass RL = some m.cls) (hts : ∀ w ∈ w_law_45, w.before #[Value.ref b] s = true) (hX : va_X b 8 xs s s.heap) (hbl : b < s.heap.size) (hbA : ¬ A b) (hlocks : meth.locks = false) (hE : EV A s s.heap) (hN : NC s) (hA : ∀ q : Nat, s.heap.size ≤ q → A q) (hAi : ∀ q : Nat, A q → s.heap.size ≤ q) {dC : Nat → ClassId} {dI : Nat → Nat → Nat} (a : Nat → Nat) (k : Nat → ClassId) (h0 : Nat) (q : Nat → Nat) (cm : Nat → ClassId) (o0 : Nat) (ko : ClassId) (H : Heap) (locs : List Loc) (hK : va_K (dC, dI) vwCl [((k 81), .int), ((k 82), .int), ((k 83), .int), ((k 84), .int), (ko, .long), ((cm 70), .int), ((cm 71), .int), ((cm 72), .int), ((cm 73), .int)] s) (hP : va_P (dC, dI) vwCl [(a 0, .inr (14, [.ref (a 1), .ref (a 2), .ref (a 27), .ref (a 30), .ref (a 74), .ref (a 75), .null, .int 0, .int 0])), (a 75, .inr (8, [.ref (a 76), .ref (a 77), .ref (a 78), .ref (a 79), .ref (a 80), .ref (a 81), .ref (a 82), .ref (a 83), .ref (a 84), .ref (a 85), .ref (a 86), .ref (a 87), .int 0, .int 0, .int 0, .int 0, .int 0])), (a 81, .inl ((k 81), 7, .inl (fun _ => 0))), (a 82, .inl ((k 82), 7, .inl (fun _ => 0))), (a 83, .inl ((k 83), 7, .inl (fun _ => 0))), (a 84, .inl ((k 84), 7, .inl (fun _ => 0))), (o0, .inl (ko, 1, .inr (.inl (fun _ => 0)))), (h0, .inr (15, mF q 0)), (q 70, .inl ((cm 70), 7, .inl (fun _ => 0))), (q 71, .inl ((cm 71), 7, .inl (fun _ => 0))), (q 72, .inl ((cm 72), 7, .inl (fun _ => 0))), (q 73, .inl ((cm 73), 7, .inl (fun _ => 0)))] H) (hD : va_D A [(a 0, .inr (14, [.ref (a 1), .ref (a 2), .ref (a 27), .ref (a 30), .ref (a 74), .ref (a 75), .null, .int 0, .int 0])), (a 75, .inr (8, [.ref (a 76), .ref (a 77), .ref (a 78), .ref (a 79), .ref (a 80), .ref (a 81), .ref (a 82), .ref (a 83), .ref (a 84), .ref (a 85), .ref (a 86), .ref (a 87), .int 0, .int 0, .int 0, .int 0, .int 0])), (a 81, .inl ((k 81), 7, .inl (fun _ => 0))), (a 82, .inl ((k 82), 7, .inl (fun _ => 0))), (a 83, .inl ((k 83), 7, .inl (fun _ => 0))), (a 84, .inl ((k 84), 7, .inl (fun _ => 0))), (o0, .inl (ko, 1, .inr (.inl (fun _ => 0)))), (h0, .inr (15, mF q 0)), (q 70, .inl ((cm 70), 7, .inl (fun _ => 0))), (q 71, .inl ((cm 71), 7, .inl (fun _ => 0))), (q 72, .inl ((cm 72), 7, .inl (fun _ => 0))), (q 73, .inl ((cm 73), 7, .inl (fun _ => 0)))]) (hS : va_S A s.heap H locs) (ls : Array Slot) (hl : lv_has ls 7 [(0, .ref b), (1, .ref (a 0)), (2, .ref h0), (3, .ref o0), (4, .int 0)]) : W p l e room_1 s m #[Value.ref b] below meth c H locs 238 27427 (lw_Z below #[Value.ref b] s) (F0 m 3377 ls []) := by
  refine lv_aload_n hx hb dL_law_3377 rfl (lv_at hl 1 rfl) ?_
  refine lv_aload_n hx hb dL_law_3378 rfl (lv_at hl 0 rfl) ?_
  refine lv_iload hx hb dL_law_3379 (lv_at hl 4 rfl) ?_
  refine lv_iconst (v := 1) hx hb dL_law_3381 (by decide) ?_
  refine lv_iadd hx hb dL_law_3382 ?_
  refine lv_topi (fun x1 ex1 => ?_)
  obtain rfl : x1 = 1 := ex1.trans (by decide)
  refine va_sld hx hb hX hbl hbA hS (i := 1) (by unfold vp_in; decide) dL_law_3383 ?_
  refine lv_topi (fun x2 ex2 => ?_)
  obtain rfl : xs 1 = x2 := (ex2).symm
  refine lv_aload_n hx hb dL_law_3384 rfl (lv_at hl 0 rfl) ?_
  refine lv_iload hx hb dL_law_3385 (lv_at hl 4 rfl) ?_
  refine lv_iconst (v := 2) hx hb dL_law_3387 (by decide) ?_
  refine lv_iadd hx hb dL_law_3388 ?_
  refine lv_topi (fun x3 ex3 => ?_)
  obtain rfl : x3 = 2 := ex3.trans (by decide)
  refine va_sld hx hb hX hbl hbA hS (i := 2) (by unfold vp_in; decide) dL_law_3389 ?_
  refine lv_topi (fun x4 ex4 => ?_)
  obtain rfl : xs 2 = x4 := (ex4).symm
  refine lv_aload_n hx hb dL_law_3390 rfl (lv_at hl 0 rfl) ?_
  refine lv_iload hx hb dL_law_3391 (lv_at hl 4 rfl) ?_
  refine lv_iconst (v := 3) hx hb dL_law_3393 (by decide) ?_
  refine lv_iadd hx hb dL_law_3394 ?_
  refine lv_topi (fun x5 ex5 => ?_)
  obtain rfl : x5 = 3 := ex5.trans (by decide)
  refine va_sld hx hb hX hbl hbA hS (i := 3) (by unfold vp_in; decide) dL_law_3395 ?_
  refine lv_topi (fun x6 ex6 => ?_)
  obtain rfl : xs 3 = x6 := (ex6).symm
  refine lv_aload_n hx hb dL_law_3396 rfl (lv_at hl 0 rfl) ?_
  refine lv_iload hx hb dL_law_3397 (lv_at hl 4 rfl) ?_
  refine lv_iconst (v := 4) hx hb dL_law_3399 (by decide) ?_
  refine lv_iadd hx hb dL_law_3400 ?_
  refine lv_topi (fun x7 ex7 => ?_)
  obtain rfl : x7 = 4 := ex7.trans (by decide)
  refine va_sld hx hb hX hbl hbA hS (i := 4) (by unfold vp_in; decide) dL_law_3401 ?_
  refine lv_topi (fun x8 ex8 => ?_)
  obtain rfl : xs 4 = x8 := (ex8).symm
  refine lv_aload_n hx hb dL_law_3402 rfl (lv_at hl 3 rfl) ?_
  have hPc := hP.sub (ws' := [(a 0, .inr (14, [.ref (a 1), .ref (a 2), .ref (a 27), .ref (a 30), .ref (a 74), .ref (a 75), .null, .int 0, .int 0])), (a 75, .inr (8, [.ref (a 76), .ref (a 77), .ref (a 78), .ref (a 79), .ref (a 80), .ref (a 81), .ref (a 82), .ref (a 83), .ref (a 84), .ref (a 85), .ref (a 86), .ref (a 87), .int 0, .int 0, .int 0, .int 0, .int 0])), (a 81, .inl ((k 81), 7, .inl (fun _ => 0))), (a 82, .inl ((k 82), 7, .inl (fun _ => 0))), (a 83, .inl ((k 83), 7, .inl (fun _ => 0))), (a 84, .inl ((k 84), 7, .inl (fun _ => 0))), (o0, .inl (ko, 1, .inr (.inl (fun _ => 0))))]) [0, 1, 2, 3, 4, 5, 6] rfl
  have hDc := hD.sub (ws' := [(a 0, .inr (14, [.ref (a 1), .ref (a 2), .ref (a 27), .ref (a 30), .ref (a 74), .ref (a 75), .null, .int 0, .int 0])), (a 75, .inr (8, [.ref (a 76), .ref (a 77), .ref (a 78), .ref (a 79), .ref (a 80), .ref (a 81), .ref (a 82), .ref (a 83), .ref (a 84), .ref (a 85), .ref (a 86), .ref (a 87), .int 0, .int 0, .int 0, .int 0, .int 0])), (a 81, .inl ((k 81), 7, .inl (fun _ => 0))), (a 82, .inl ((k 82), 7, .inl (fun _ => 0))), (a 83, .inl ((k 83), 7, .inl (fun _ => 0))), (a 84, .inl ((k 84), 7, .inl (fun _ => 0))), (o0, .inl (ko, 1, .inr (.inl (fun _ => 0))))]) [0, 1, 2, 3, 4, 5, 6] (by decide) rfl
  have hKc := hK.sub (tys' := [((k 81), .int), ((k 82), .int), ((k 83), .int), ((k 84), .int), (ko, .long)]) [0, 1, 2, 3, 4] rfl
  have hFc := va_free (wc := [(a 0, .inr (14, [.ref (a 1), .ref (a 2), .ref (a 27), .ref (a 30), .ref (a 74), .ref (a 75), .null, .int 0, .int 0])), (a 75, .inr (8, [.ref (a 76), .ref (a 77), .ref (a 78), .ref (a 79), .ref (a 80), .ref (a 81), .ref (a 82), .ref (a 83), .ref (a 84), .ref (a 85), .ref (a 86), .ref (a 87), .int 0, .int 0, .int 0, .int 0, .int 0])), (a 81, .inl ((k 81), 7, .inl (fun _ => 0))), (a 82, .inl ((k 82), 7, .inl (fun _ => 0))), (a 83, .inl ((k 83), 7, .inl (fun _ => 0))), (a 84, .inl ((k 84), 7, .inl (fun _ => 0))), (o0, .inl (ko, 1, .inr (.inl (fun _ => 0))))]) hD hS hA [0, 1, 2, 3, 4, 5, 6] rfl
  refine va_calli (vx_runSW (As := [.ref (a 0), .int (xs 1), .int (xs 2), .int (xs 3), .int (xs 4), .ref o0]) (rest := []) ⟨hx, hb, hml, hown, hts⟩ (l_job l hlt dC dI a k o0 ko (fun _ => 0) (xs 1) (xs 2) (xs 3) (xs 4) H.size ) (vx_cwSW 6 hts (goodIn_app (goodIn_r _ [29, 30, 31] (by decide +kernel) (by decide +kernel)) (goodIn_ca (goodIn_r _ [1, 2, 3, 4, 5, 6, 7, 8, 9, 10, 11, 12, 13, 14, 15, 16, 17, 18, 19, 20, 21, 22, 23, 24, 25, 26, 27, 28] (by decide +kernel) (by decide +kernel)) (bs_in _ _))) rfl rfl rfl (by decide +kernel) ⟨(Nat.le_of_ble_eq_true rfl), (Nat.le_of_ble_eq_true rfl)⟩) ⟨fun a U g mk q => by obtain ⟨q0, q1, qP, qK, qD, qE, qN⟩ := q; exact ⟨q0, q1, qP, va_K.moved (u := U) (U := U.calling g mk a) (Vm.Alike.refl U.vm) qK, qD, EV.blind g mk a qE, NC.blind g mk a qN⟩, fun U hU hW => ⟨rfl, by rw [hU], by rw [hU]; exact hPc, va_K.moved hW.alike hKc, hDc.weaken (fun _ _ _ _ => trivial), hE.call hS hFc hU hW, hN.call hW⟩⟩ rfl rfl hl.1 rfl (lv_room (Nat.le_of_ble_eq_true rfl)) dL_law_3403 ⟨(Nat.le_of_ble_eq_true rfl), (Nat.le_of_ble_eq_true rfl)⟩) hS (fun q _ h => hFc q h) hFc (fun r10 u t H1 locs ht hvm hw11 hB hz1 hk1 hS => ?_)
  obtain ⟨fu12, rfl⟩ : ∃ z, z = u := ⟨_, rfl⟩
  obtain ⟨hP1, hD1⟩ := hB
  rw [ht] at hP1
  obtain ⟨hP, hD⟩ := va_join (wr := [(h0, .inr (15, mF q 0)), (q 70, .inl ((cm 70), 7, .inl (fun _ => 0))), (q 71, .inl ((cm 71), 7, .inl (fun _ => 0))), (q 72, .inl ((cm 72), 7, .inl (fun _ => 0))), (q 73, .inl ((cm 73), 7, .inl (fun _ => 0)))]) (w1 := [(o0, .inl (ko, 1, .inr (.inl fu12)))]) hP hD [0, 1, 2, 3, 4, 5, 6] [7, 8, 9, 10, 11] rfl rfl (by decide) (by decide) hk1 hFc hP1 hD1
  generalize H1 = H at hP hS ⊢
  have hP : va_P (dC, dI) vwCl [(h0, .inr (15, mF q 0)), (q 70, .inl ((cm 70), 7, .inl (fun _ => 0))), (q 71, .inl ((cm 71), 7, .inl (fun _ => 0))), (q 72, .inl ((cm 72), 7, .inl (fun _ => 0))), (q 73, .inl ((cm 73), 7, .inl (fun _ => 0))), (o0, .inl (ko, 1, .inr (.inl fu12)))] H := hP
  have hD : va_D A [(h0, .inr (15, mF q 0)), (q 70, .inl ((cm 70), 7, .inl (fun _ => 0))), (q 71, .inl ((cm 71), 7, .inl (fun _ => 0))), (q 72, .inl ((cm 72), 7, .inl (fun _ => 0))), (q 73, .inl ((cm 73), 7, .inl (fun _ => 0))), (o0, .inl (ko, 1, .inr (.inl fu12)))] := hD
  try dsimp only at hw11
  obtain rfl : (T_job (xs 1) (xs 2) (xs 3) (xs 4)).1 = r10 := hw11.1.symm
  refine lv_istore (lv' := [(5, .int ((T_job (xs 1) (xs 2) (xs 3) (xs 4)).1)), (0, .ref b), (1, .ref (a 0)), (2, .ref h0), (3, .ref o0), (4, .int 0)]) hx hb dL_law_3406 hl (by decide) rfl (fun ls hl => ?_)
  refine lv_aload_n hx hb dL_law_3408 rfl (lv_at hl 3 rfl) ?_
  refine lv_aload_n hx hb dL_law_3409 rfl (lv_at hl 1 rfl) ?_
  refine lv_iload hx hb dL_law_3410 (lv_at hl 5 rfl) ?_
  refine lv_iconst (v := 1) hx hb dL_law_3412 (by decide) ?_
  refine lv_iadd hx hb dL_law_3413 ?_
  refine lv_topi (fun x13 ex13 => ?_)
  obtain rfl : x13 = 1 := ex13.trans (by decide)
  refine va_sld hx hb hX hbl hbA hS (i := 1) (by unfold vp_in; decide) dL_law_3414 ?_
  refine lv_topi (fun x14 ex14 => ?_)
  obtain rfl : xs 1 = x14 := (ex14).symm
  refine lv_aload_n hx hb dL_law_3415 rfl (lv_at hl 1 rfl) ?_
  refine lv_iload hx hb dL_law_3416 (lv_at hl 5 rfl) ?_
  refine lv_iconst (v := 2) hx hb dL_law_3418 (by decide) ?_
  refine lv_iadd hx hb dL_law_3419 ?_
  refine lv_topi (fun x15 ex15 => ?_)
  obtain rfl : x15 = 2 := ex15.trans (by decide)
  refine va_sld hx hb hX hbl hbA hS (i := 2) (by unfold vp_in; decide) dL_law_3420 ?_
  refine lv_topi (fun x16 ex16 => ?_)
  obtain rfl : xs 2 = x16 := (ex16).symm
  refine lv_aload_n hx hb dL_law_3421 rfl (lv_at hl 1 rfl) ?_
  refine lv_iload hx hb dL_law_3422 (lv_at hl 5 rfl) ?_
  refine lv_iconst (v := 3) hx hb dL_law_3424 (by decide) ?_
  refine lv_iadd hx hb dL_law_3425 ?_
  refine lv_topi (fun x17 ex17 => ?_)
  obtain rfl : x17 = 3 := ex17.trans (by decide)
  refine va_sld hx hb hX hbl hbA hS (i := 3) (by unfold vp_in; decide) dL_law_3426 ?_
  refine lv_topi (fun x18 ex18 => ?_)
  obtain rfl : xs 3 = x18 := (ex18).symm
  refine lv_aload_n hx hb dL_law_3427 rfl (lv_at hl 1 rfl) ?_
  refine lv_iload hx hb dL_law_3428 (lv_at hl 5 rfl) ?_
  refine lv_iconst (v := 4) hx hb dL_law_3430 (by decide) ?_
  refine lv_iadd hx hb dL_law_3431 ?_
  refine lv_topi (fun x19 ex19 => ?_)
  obtain rfl : x19 = 4 := ex19.trans (by decide)
  refine va_sld hx hb hX hbl hbA hS (i := 4) (by unfold vp_in; decide) dL_law_3432 ?_
  refine lv_topi (fun x20 ex20 => ?_)
  obtain rfl : xs 4 = x20 := (ex20).symm
  have hPc := hP.sub (ws' := [(h0, .inr (15, mF q 0)), (q 70, .inl ((cm 70), 7, .inl (fun _ => 0))), (q 71, .inl ((cm 71), 7, .inl (fun _ => 0))), (q 72, .inl ((cm 72), 7, .inl (fun _ => 0))), (q 73, .inl ((cm 73), 7, .inl (fun _ => 0)))]) [0, 1, 2, 3, 4] rfl
  have hDc := hD.sub (ws' := [(h0, .inr (15, mF q 0)), (q 70, .inl ((cm 70), 7, .inl (fun _ => 0))), (q 71, .inl ((cm 71), 7, .inl (fun _ => 0))), (q 72, .inl ((cm 72), 7, .inl (fun _ => 0))), (q 73, .inl ((cm 73), 7, .inl (fun _ => 0)))]) [0, 1, 2, 3, 4] (by decide) rfl
  have hKc := hK.sub (tys' := [((cm 70), .int), ((cm 71), .int), ((cm 72), .int), ((cm 73), .int)]) [5, 6, 7, 8] rfl
  have hFc := va_free (wc := [(h0, .inr (15, mF q 0)), (q 70, .inl ((cm 70), 7, .inl (fun _ => 0))), (q 71, .inl ((cm 71), 7, .inl (fun _ => 0))), (q 72, .inl ((cm 72), 7, .inl (fun _ => 0))), (q 73, .inl ((cm 73), 7, .inl (fun _ => 0)))]) hD hS hA [0, 1, 2, 3, 4] rfl
  refine va_calli (va_runV (As := [.int (xs 1), .int (xs 2), .int (xs 3), .int (xs 4)]) (rest := []) ⟨hx, hb, hml, hown, hts⟩ (m_job l dC dI h0 q cm (xs 1) (xs 2) (xs 3) (xs 4) H.size ) (cwV 4 hts (goodIn_app (goodIn_r _ [49, 50, 51, 38] (by decide +kernel) (by decide +kernel)) (goodIn_ca (goodIn_r _ [32, 33, 34, 35, 36, 37, 38, 39, 40, 41, 42, 43, 44, 45, 46, 47, 48] (by decide +kernel) (by decide +kernel)) (bs_in _ _))) rfl rfl rfl (by decide +kernel) ⟨(Nat.le_of_ble_eq_true rfl), (Nat.le_of_ble_eq_true rfl)⟩) ⟨fun a U g mk q => by obtain ⟨q0, q1, qP, qK, qD⟩ := q; exact ⟨q0, q1, qP, va_K.moved (u := U) (U := U.calling g mk a) (Vm.Alike.refl U.vm) qK, qD⟩, va_recv hKc hPc (ci := 15) (q0 := 0) rfl rfl, fun U hU hW => ⟨rfl, by rw [hU], by rw [hU]; exact hPc, va_K.moved hW.alike hKc, hDc.weaken (fun _ _ _ _ => trivial)⟩⟩ rfl rfl hl.1 rfl (lv_room (Nat.le_of_ble_eq_true rfl)) dL_law_3433 ⟨(Nat.le_of_ble_eq_true rfl), (Nat.le_of_ble_eq_true rfl)⟩) hS (fun q _ h => hFc q h) hFc (fun r22 u t H1 locs ht hvm hw23 hB hz1 hk1 hS => ?_)
  obtain ⟨fs24, rfl⟩ : ∃ z, z = u := ⟨_, rfl⟩
  obtain ⟨hP1, hD1⟩ := hB
  rw [ht] at hP1
  obtain ⟨hP, hD⟩ := va_join (wr := [(o0, .inl (ko, 1, .inr (.inl fu12)))]) (w1 := [(h0, .inr (15, fs24))]) hP hD [0, 1, 2, 3, 4] [5] rfl rfl (by decide) (by decide) hk1 hFc hP1 hD1
  generalize H1 = H at hP hS ⊢
  have hP : va_P (dC, dI) vwCl [(o0, .inl (ko, 1, .inr (.inl fu12))), (h0, .inr (15, fs24))] H := hP
  have hD : va_D A [(o0, .inl (ko, 1, .inr (.inl fu12))), (h0, .inr (15, fs24))] := hD
  try dsimp only at hw23
  refine lv_istore (lv' := [(6, .int r22), (5, .int ((T_job (xs 1) (xs 2) (xs 3) (xs 4)).1)), (0, .ref b), (1, .ref (a 0)), (2, .ref h0), (3, .ref o0), (4, .int 0)]) hx hb dL_law_3436 hl (by decide) rfl (fun ls hl => ?_)
  refine lv_aload_n hx hb dL_law_3438 rfl (lv_at hl 4 rfl) ?_
  have hPc := hP.sub (ws' := [(h0, .inr (15, fs24))]) [1] rfl
  have hDc := hD.sub (ws' := [(h0, .inr (15, fs24))]) [1] (by decide) rfl
  have hKc := hK.sub (tys' := []) [] rfl
  have hFc := va_free (wc := [(h0, .inr (15, fs24))]) hD hS hA [1] rfl
  refine va_calli (va_runV (As := []) (rest := []) ⟨hx, hb, hml, hown, hts⟩ (m_thrown l dC dI h0 fs24 ((T_job (xs 1) (xs 2) (xs 3) (xs 4)).1) H.size hw23.1) (cwV 0 hts (goodIn_app (goodIn_r _ [53, 54, 55, 38] (by decide +kernel) (by decide +kernel)) (goodIn_ca (goodIn_r _ [52, 33] (by decide +kernel) (by decide +kernel)) (bs_in _ _))) rfl rfl rfl (by decide +kernel) ⟨(Nat.le_of_ble_eq_true rfl), (Nat.le_of_ble_eq_true rfl)⟩) ⟨fun a U g mk q => by obtain ⟨q0, q1, qP, qK, qD⟩ := q; exact ⟨q0, q1, qP, va_K.moved (u := U) (U := U.calling g mk a) (Vm.Alike.refl U.vm) qK, qD⟩, va_recv hKc hPc (ci := 15) (q0 := 0) rfl rfl, fun U hU hW => ⟨rfl, by rw [hU], by rw [hU]; exact hPc, va_K.moved hW.alike hKc, hDc.weaken (fun _ _ _ _ => trivial)⟩⟩ rfl rfl hl.1 rfl (lv_room (Nat.le_of_ble_eq_true rfl)) dL_law_3439 ⟨(Nat.le_of_ble_eq_true rfl), (Nat.le_of_ble_eq_true rfl)⟩) hS (fun q _ h => hFc q h) hFc (fun r26 u t H1 locs ht hvm hw27 hB hz1 hk1 hS => ?_)
  have hP1 : va_P (dC, dI) vwCl [] H1 := nilP
  have hD1 : va_D (va_A [(h0, .inr (15, fs24))] H.size) [] := nilD
  have hK := hK
  obtain ⟨hP, hD⟩ := va_join (wr := [(o0, .inl (ko, 1, .inr (.inl fu12)))]) (w1 := []) hP hD [1] [0] rfl rfl (by decide) (by decide) hk1 hFc hP1 hD1
  generalize H1 = H at hP hS ⊢
  have hP : va_P (dC, dI) vwCl [(o0, .inl (ko, 1, .inr (.inl fu12)))] H := hP
  have hD : va_D A [(o0, .inl (ko, 1, .inr (.inl fu12)))] := hD
  try dsimp only at hw27
  obtain rfl : (T_job (xs 1) (xs 2) (xs 3) (xs 4)).1 = r26 := hw27.symm
  refine lv_iload hx hb dL_law_3442 (lv_at hl 1 rfl) ?_
  refine lv_icmp_eq (tgt := 3449) hx hb dL_law_3444 (by decide) (fun c28 => ?_) (fun c28 => absurd rfl c28)
  refine lv_iload hx hb dL_law_3449 (lv_at hl 1 rfl) ?_
  refine lv_if_ne (tgt := 3466) hx hb dL_law_3451 (by decide) (fun c29 => ?_) (fun c29 => ?_)
  · refine lv_goto (tgt := 3762) hx hb dL_law_3466 (by decide) ?_
    exact law_tail hx hb hr hlocks hX hbl hbA hAi hS (Nat.le_of_ble_eq_true rfl) (Nat.le_of_ble_eq_true rfl) ls (lv_sub hl [2, 6] rfl)
  · refine lv_aload_n hx hb dL_law_3454 rfl (lv_at hl 5 rfl) ?_
    refine lv_iconst (v := 0) hx hb dL_law_3455 (by decide) ?_
    refine va_lald hx hb hK hP 0 4 rfl rfl (by unfold vp_in; decide) dL_law_3456 ?_
    refine lv_iload hx hb dL_law_3457 (lv_at hl 0 rfl) ?_
    refine lv_i2l (v := r22.toInt64) hx hb dL_law_3459 rfl ?_
    refine W.lcmp hx hb dL_law_3460 ?_
    refine lv_topi (fun x30 ex30 => ?_)
    obtain rfl : x30 = 0 := ex30.trans (by rw [show fu12 (0 : Int32).toNatClampNeg = (T_job (xs 1) (xs 2) (xs 3) (xs 4)).2.toInt64 from hw11.2 c29, hw23.2 c29]; exact lg_cmp_self _)
    refine lv_if_eq (tgt := 3466) hx hb dL_law_3461 (by decide) (fun c31 => ?_) (fun c31 => absurd c31 (by decide))
    refine lv_goto (tgt := 3762) hx hb dL_law_3466 (by decide) ?_
    exact law_tail hx hb hr hlocks hX hbl hbA hAi hS (Nat.le_of_ble_eq_true rfl) (Nat.le_of_ble_eq_true rfl) ls (lv_sub hl [2, 6] rfl)
def w_law_46 : List Cond := .initialized RL :: ([.codeWith yL_order cL_order 5 (some .int) [(0, 10, 13, 15)], .code yX11_order cX11_order 3 (some .int), .constant RX11 411 1000000, .code yX11_within cX11_within 3 (some .boolean), .methodLink RX11 58 yX11_within, .static yX11_within, .initialized RX11, .code yX11_needNumbers cX11_needNumbers 1 none, .methodLink RX11 62 yX11_needNumbers, .static yX11_needNumbers, .fieldLink RX11 43 "SeaLand" "plans" "LSeaLand$Plans;", .code yX5_findOrder cX5_findOrder 2 none, .fieldLink RX5 157 "SeaLand$Plans" "bestLate" "I", .code yX5_tryOrders cX5_tryOrders 11 none, .fieldLink RX5 154 "SeaLand$Plans" "jobs" "I", .fieldLink RX5 45 "SeaLand$Plans" "trial" "[I", .fieldLink RX5 48 "SeaLand$Plans" "best" "[I", .methodLink RX5 100 arraycopyName, .native arraycopyName, .static arraycopyName, .initialized "java/lang/System", .methodLink RX5 160 yX5_tryOrders, .instanceMethod yX5_tryOrders, .selects RX5 yX5_tryOrders yX5_tryOrders, .initialized RX5, .methodLink RX11 484 yX5_findOrder, .instanceMethod yX5_findOrder, .selects RX5 yX5_findOrder yX5_findOrder, .classLink RX11 547 "java/lang/IllegalArgumentException", .initialized "java/lang/IllegalArgumentException", .methodLink RL 160 yX11_order, .instanceMethod yX11_order, .selects RX11 yX11_order yX11_order, .classLink RL 15 "java/lang/IllegalArgumentException", .methodLink RL 332 yL_order, .static yL_order, .initialized RL, .code yX12_order cX12_order 3 (some .int), .fieldLink RX12 194 "SeaLandModel" "thrown" "I", .constant RX12 536 1000000, .code yX12_in cX12_in 3 (some .boolean), .methodLink RX12 197 yX12_in, .static yX12_in, .initialized RX12, .code yX12_throwsIf cX12_throwsIf 3 (some .boolean), .methodLink RX12 224 yX12_throwsIf, .instanceMethod yX12_throwsIf, .selects RX12 yX12_throwsIf yX12_throwsIf, .fieldLink RX12 556 "SeaLandModel" "lateness" "I", .code yX12_orders cX12_orders 10 none, .fieldLink RX12 553 "SeaLandModel" "jobs" "I", .methodLink RX12 559 yX12_orders, .instanceMethod yX12_orders, .selects RX12 yX12_orders yX12_orders, .methodLink RL 334 yX12_order, .instanceMethod yX12_order, .selects RX12 yX12_order yX12_order, .code yX12_thrown cX12_thrown 1 (some .int), .methodLink RL 187 yX12_thrown, .instanceMethod yX12_thrown, .selects RX12 yX12_thrown yX12_thrown] ++ bs)
set_option maxRecDepth 100000 in
theorem wm_46 : ∀ w ∈ w_law_46, w ∈ lw_tbl := lw_ins (List.mem_of_getElem? (i := 110) (by decide +kernel)) (lw_in _ (1927 :: 1931 :: 1760 :: 902 :: 900 :: 901 :: 111 :: 918 :: 916 :: 917 :: 593 :: 1935 :: 551 :: 1939 :: 549 :: 543 :: 544 :: 1876 :: 759 :: 758 :: 140 :: 1936 :: 1938 :: 42 :: 121 :: 1932 :: 1933 :: 1934 :: 919 :: 129 :: 1928 :: 1929 :: 1930 :: 891 :: 1925 :: 1926 :: 110 :: 2743 :: 1969 :: 2688 :: 2217 :: 2215 :: 2216 :: 122 :: 2221 :: 2218 :: 2220 :: 44 :: 2046 :: 2747 :: 2043 :: 2744 :: 2746 :: 108 :: 2740 :: 2741 :: 2742 :: 2207 :: 2204 :: 2205 :: 2206 :: []) (by decide +kernel))
set_option maxHeartbeats 4000000 in
set_option maxRecDepth 100000 in
/-- order -/
theorem law_46 {p : Program} {e : Env} {s : State} {m : MethodId} {below : List Frame} {meth : Method} {c : Code} (l : Launch) (hlt : l.stackTraces = false) {b : Nat} {xs : Nat → Int32} {A : Nat → Prop} (hx : p.tables.exec = Jvm.exec) (hb : c.code = code) (hr : meth.sig.returnType = ret) (hml : c.maxLocals = 7) (hown : s.vm.findClass RL = some m.cls) (hts : ∀ w ∈ w_law_46, w.before #[Value.ref b] s = true) (hX : va_X b 8 xs s s.heap) (hbl : b < s.heap.size) (hbA : ¬ A b) (hlocks : meth.locks = false) (hE : EV A s s.heap) (hN : NC s) (hA : ∀ q : Nat, s.heap.size ≤ q → A q) (hAi : ∀ q : Nat, A q → s.heap.size ≤ q) {dC : Nat → ClassId} {dI : Nat → Nat → Nat} (a : Nat → Nat) (k : Nat → ClassId) (h0 : Nat) (q : Nat → Nat) (cm : Nat → ClassId) (o0 : Nat) (ko : ClassId) (H : Heap) (locs : List Loc) (hK : va_K (dC, dI) vwCl [((k 86), .int), ((k 87), .int), (ko, .long)] s) (hP : va_P (dC, dI) vwCl [(a 0, .inr (14, [.ref (a 1), .ref (a 2), .ref (a 27), .ref (a 30), .ref (a 74), .ref (a 75), .null, .int 0, .int 0])), (a 75, .inr (8, [.ref (a 76), .ref (a 77), .ref (a 78), .ref (a 79), .ref (a 80), .ref (a 81), .ref (a 82), .ref (a 83), .ref (a 84), .ref (a 85), .ref (a 86), .ref (a 87), .int 0, .int 0, .int 0, .int 0, .int 0])), (a 86, .inl ((k 86), 7, .inl (fun _ => 0))), (a 87, .inl ((k 87), 7, .inl (fun _ => 0))), (o0, .inl (ko, 1, .inr (.inl (fun _ => 0)))), (h0, .inr (15, mF q 0))] H) (hD : va_D A [(a 0, .inr (14, [.ref (a 1), .ref (a 2), .ref (a 27), .ref (a 30), .ref (a 74), .ref (a 75), .null, .int 0, .int 0])), (a 75, .inr (8, [.ref (a 76), .ref (a 77), .ref (a 78), .ref (a 79), .ref (a 80), .ref (a 81), .ref (a 82), .ref (a 83), .ref (a 84), .ref (a 85), .ref (a 86), .ref (a 87), .int 0, .int 0, .int 0, .int 0, .int 0])), (a 86, .inl ((k 86), 7, .inl (fun _ => 0))), (a 87, .inl ((k 87), 7, .inl (fun _ => 0))), (o0, .inl (ko, 1, .inr (.inl (fun _ => 0)))), (h0, .inr (15, mF q 0))]) (hS : va_S A s.heap H locs) (ls : Array Slot) (hl : lv_has ls 7 [(0, .ref b), (1, .ref (a 0)), (2, .ref h0), (3, .ref o0), (4, .int 0)]) : W p l e room_1 s m #[Value.ref b] below meth c H locs 238 27427 (lw_Z below #[Value.ref b] s) (F0 m 3469 ls []) := by
  refine lv_aload_n hx hb dL_law_3469 rfl (lv_at hl 1 rfl) ?_
  refine lv_aload_n hx hb dL_law_3470 rfl (lv_at hl 0 rfl) ?_
  refine lv_iload hx hb dL_law_3471 (lv_at hl 4 rfl) ?_
  refine lv_iconst (v := 1) hx hb dL_law_3473 (by decide) ?_
  refine lv_iadd hx hb dL_law_3474 ?_
  refine lv_topi (fun x1 ex1 => ?_)
  obtain rfl : x1 = 1 := ex1.trans (by decide)
  refine va_sld hx hb hX hbl hbA hS (i := 1) (by unfold vp_in; decide) dL_law_3475 ?_
  refine lv_topi (fun x2 ex2 => ?_)
  obtain rfl : xs 1 = x2 := (ex2).symm
  refine lv_aload_n hx hb dL_law_3476 rfl (lv_at hl 0 rfl) ?_
  refine lv_iload hx hb dL_law_3477 (lv_at hl 4 rfl) ?_
  refine lv_iconst (v := 2) hx hb dL_law_3479 (by decide) ?_
  refine lv_iadd hx hb dL_law_3480 ?_
  refine lv_topi (fun x3 ex3 => ?_)
  obtain rfl : x3 = 2 := ex3.trans (by decide)
  refine va_sld hx hb hX hbl hbA hS (i := 2) (by unfold vp_in; decide) dL_law_3481 ?_
  refine lv_topi (fun x4 ex4 => ?_)
  obtain rfl : xs 2 = x4 := (ex4).symm
  refine lv_aload_n hx hb dL_law_3482 rfl (lv_at hl 3 rfl) ?_
  have hPc := hP.sub (ws' := [(a 0, .inr (14, [.ref (a 1), .ref (a 2), .ref (a 27), .ref (a 30), .ref (a 74), .ref (a 75), .null, .int 0, .int 0])), (a 75, .inr (8, [.ref (a 76), .ref (a 77), .ref (a 78), .ref (a 79), .ref (a 80), .ref (a 81), .ref (a 82), .ref (a 83), .ref (a 84), .ref (a 85), .ref (a 86), .ref (a 87), .int 0, .int 0, .int 0, .int 0, .int 0])), (a 86, .inl ((k 86), 7, .inl (fun _ => 0))), (a 87, .inl ((k 87), 7, .inl (fun _ => 0))), (o0, .inl (ko, 1, .inr (.inl (fun _ => 0))))]) [0, 1, 2, 3, 4] rfl
  have hDc := hD.sub (ws' := [(a 0, .inr (14, [.ref (a 1), .ref (a 2), .ref (a 27), .ref (a 30), .ref (a 74), .ref (a 75), .null, .int 0, .int 0])), (a 75, .inr (8, [.ref (a 76), .ref (a 77), .ref (a 78), .ref (a 79), .ref (a 80), .ref (a 81), .ref (a 82), .ref (a 83), .ref (a 84), .ref (a 85), .ref (a 86), .ref (a 87), .int 0, .int 0, .int 0, .int 0, .int 0])), (a 86, .inl ((k 86), 7, .inl (fun _ => 0))), (a 87, .inl ((k 87), 7, .inl (fun _ => 0))), (o0, .inl (ko, 1, .inr (.inl (fun _ => 0))))]) [0, 1, 2, 3, 4] (by decide) rfl
  have hKc := hK.sub (tys' := [((k 86), .int), ((k 87), .int), (ko, .long)]) [0, 1, 2] rfl
  have hFc := va_free (wc := [(a 0, .inr (14, [.ref (a 1), .ref (a 2), .ref (a 27), .ref (a 30), .ref (a 74), .ref (a 75), .null, .int 0, .int 0])), (a 75, .inr (8, [.ref (a 76), .ref (a 77), .ref (a 78), .ref (a 79), .ref (a 80), .ref (a 81), .ref (a 82), .ref (a 83), .ref (a 84), .ref (a 85), .ref (a 86), .ref (a 87), .int 0, .int 0, .int 0, .int 0, .int 0])), (a 86, .inl ((k 86), 7, .inl (fun _ => 0))), (a 87, .inl ((k 87), 7, .inl (fun _ => 0))), (o0, .inl (ko, 1, .inr (.inl (fun _ => 0))))]) hD hS hA [0, 1, 2, 3, 4] rfl
  refine va_calli (vx_runSW (As := [.ref (a 0), .int (xs 1), .int (xs 2), .ref o0]) (rest := []) ⟨hx, hb, hml, hown, hts⟩ (l_order l hlt dC dI a k o0 ko (fun _ => 0) (xs 1) (xs 2) H.size ) (vx_cwSW 4 hts (goodIn_app (goodIn_r _ [35, 36, 37] (by decide +kernel) (by decide +kernel)) (goodIn_ca (goodIn_r _ [1, 2, 3, 4, 5, 6, 7, 8, 9, 10, 11, 12, 13, 14, 15, 16, 17, 18, 19, 20, 21, 22, 23, 24, 25, 26, 27, 28, 29, 30, 31, 32, 33, 34] (by decide +kernel) (by decide +kernel)) (bs_in _ _))) rfl rfl rfl (by decide +kernel) ⟨(Nat.le_of_ble_eq_true rfl), (Nat.le_of_ble_eq_true rfl)⟩) ⟨fun a U g mk q => by obtain ⟨q0, q1, qP, qK, qD, qE, qN⟩ := q; exact ⟨q0, q1, qP, va_K.moved (u := U) (U := U.calling g mk a) (Vm.Alike.refl U.vm) qK, qD, EV.blind g mk a qE, NC.blind g mk a qN⟩, fun U hU hW => ⟨rfl, by rw [hU], by rw [hU]; exact hPc, va_K.moved hW.alike hKc, hDc.weaken (fun _ _ _ _ => trivial), hE.call hS hFc hU hW, hN.call hW⟩⟩ rfl rfl hl.1 rfl (lv_room (Nat.le_of_ble_eq_true rfl)) dL_law_3483 ⟨(Nat.le_of_ble_eq_true rfl), (Nat.le_of_ble_eq_true rfl)⟩) hS (fun q _ h => hFc q h) hFc (fun r6 u t H1 locs ht hvm hw7 hB hz1 hk1 hS => ?_)
  obtain ⟨fu8, rfl⟩ : ∃ z, z = u := ⟨_, rfl⟩
  obtain ⟨hP1, hD1⟩ := hB
  rw [ht] at hP1
  obtain ⟨hP, hD⟩ := va_join (wr := [(h0, .inr (15, mF q 0))]) (w1 := [(o0, .inl (ko, 1, .inr (.inl fu8)))]) hP hD [0, 1, 2, 3, 4] [5] rfl rfl (by decide) (by decide) hk1 hFc hP1 hD1
  generalize H1 = H at hP hS ⊢
  have hP : va_P (dC, dI) vwCl [(h0, .inr (15, mF q 0)), (o0, .inl (ko, 1, .inr (.inl fu8)))] H := hP
  have hD : va_D A [(h0, .inr (15, mF q 0)), (o0, .inl (ko, 1, .inr (.inl fu8)))] := hD
  try dsimp only at hw7
  obtain rfl : (T_order (xs 1) (xs 2)).1 = r6 := hw7.1.symm
  refine lv_istore (lv' := [(5, .int ((T_order (xs 1) (xs 2)).1)), (0, .ref b), (1, .ref (a 0)), (2, .ref h0), (3, .ref o0), (4, .int 0)]) hx hb dL_law_3486 hl (by decide) rfl (fun ls hl => ?_)
  refine lv_aload_n hx hb dL_law_3488 rfl (lv_at hl 3 rfl) ?_
  refine lv_aload_n hx hb dL_law_3489 rfl (lv_at hl 1 rfl) ?_
  refine lv_iload hx hb dL_law_3490 (lv_at hl 5 rfl) ?_
  refine lv_iconst (v := 1) hx hb dL_law_3492 (by decide) ?_
  refine lv_iadd hx hb dL_law_3493 ?_
  refine lv_topi (fun x9 ex9 => ?_)
  obtain rfl : x9 = 1 := ex9.trans (by decide)
  refine va_sld hx hb hX hbl hbA hS (i := 1) (by unfold vp_in; decide) dL_law_3494 ?_
  refine lv_topi (fun x10 ex10 => ?_)
  obtain rfl : xs 1 = x10 := (ex10).symm
  refine lv_aload_n hx hb dL_law_3495 rfl (lv_at hl 1 rfl) ?_
  refine lv_iload hx hb dL_law_3496 (lv_at hl 5 rfl) ?_
  refine lv_iconst (v := 2) hx hb dL_law_3498 (by decide) ?_
  refine lv_iadd hx hb dL_law_3499 ?_
  refine lv_topi (fun x11 ex11 => ?_)
  obtain rfl : x11 = 2 := ex11.trans (by decide)
  refine va_sld hx hb hX hbl hbA hS (i := 2) (by unfold vp_in; decide) dL_law_3500 ?_
  refine lv_topi (fun x12 ex12 => ?_)
  obtain rfl : xs 2 = x12 := (ex12).symm
  have hPc := hP.sub (ws' := [(h0, .inr (15, mF q 0))]) [0] rfl
  have hDc := hD.sub (ws' := [(h0, .inr (15, mF q 0))]) [0] (by decide) rfl
  have hKc := hK.sub (tys' := []) [] rfl
  have hFc := va_free (wc := [(h0, .inr (15, mF q 0))]) hD hS hA [0] rfl
  refine va_calli (va_runV (As := [.int (xs 1), .int (xs 2)]) (rest := []) ⟨hx, hb, hml, hown, hts⟩ (m_order l dC dI h0 q cm (xs 1) (xs 2) H.size ) (cwV 2 hts (goodIn_app (goodIn_r _ [55, 56, 57, 44] (by decide +kernel) (by decide +kernel)) (goodIn_ca (goodIn_r _ [38, 39, 40, 41, 42, 43, 44, 45, 46, 47, 48, 49, 50, 51, 52, 53, 54] (by decide +kernel) (by decide +kernel)) (bs_in _ _))) rfl rfl rfl (by decide +kernel) ⟨(Nat.le_of_ble_eq_true rfl), (Nat.le_of_ble_eq_true rfl)⟩) ⟨fun a U g mk q => by obtain ⟨q0, q1, qP, qK, qD⟩ := q; exact ⟨q0, q1, qP, va_K.moved (u := U) (U := U.calling g mk a) (Vm.Alike.refl U.vm) qK, qD⟩, va_recv hKc hPc (ci := 15) (q0 := 0) rfl rfl, fun U hU hW => ⟨rfl, by rw [hU], by rw [hU]; exact hPc, va_K.moved hW.alike hKc, hDc.weaken (fun _ _ _ _ => trivial)⟩⟩ rfl rfl hl.1 rfl (lv_room (Nat.le_of_ble_eq_true rfl)) dL_law_3501 ⟨(Nat.le_of_ble_eq_true rfl), (Nat.le_of_ble_eq_true rfl)⟩) hS (fun q _ h => hFc q h) hFc (fun r14 u t H1 locs ht hvm hw15 hB hz1 hk1 hS => ?_)
  obtain ⟨fs16, rfl⟩ : ∃ z, z = u := ⟨_, rfl⟩
  obtain ⟨hP1, hD1⟩ := hB
  rw [ht] at hP1
  obtain ⟨hP, hD⟩ := va_join (wr := [(o0, .inl (ko, 1, .inr (.inl fu8)))]) (w1 := [(h0, .inr (15, fs16))]) hP hD [0] [1] rfl rfl (by decide) (by decide) hk1 hFc hP1 hD1
  generalize H1 = H at hP hS ⊢
  have hP : va_P (dC, dI) vwCl [(o0, .inl (ko, 1, .inr (.inl fu8))), (h0, .inr (15, fs16))] H := hP
  have hD : va_D A [(o0, .inl (ko, 1, .inr (.inl fu8))), (h0, .inr (15, fs16))] := hD
  try dsimp only at hw15
  refine lv_istore (lv' := [(6, .int r14), (5, .int ((T_order (xs 1) (xs 2)).1)), (0, .ref b), (1, .ref (a 0)), (2, .ref h0), (3, .ref o0), (4, .int 0)]) hx hb dL_law_3504 hl (by decide) rfl (fun ls hl => ?_)
  refine lv_aload_n hx hb dL_law_3506 rfl (lv_at hl 4 rfl) ?_
  have hPc := hP.sub (ws' := [(h0, .inr (15, fs16))]) [1] rfl
  have hDc := hD.sub (ws' := [(h0, .inr (15, fs16))]) [1] (by decide) rfl
  have hKc := hK.sub (tys' := []) [] rfl
  have hFc := va_free (wc := [(h0, .inr (15, fs16))]) hD hS hA [1] rfl
  refine va_calli (va_runV (As := []) (rest := []) ⟨hx, hb, hml, hown, hts⟩ (m_thrown l dC dI h0 fs16 ((T_order (xs 1) (xs 2)).1) H.size hw15.1) (cwV 0 hts (goodIn_app (goodIn_r _ [59, 60, 61, 44] (by decide +kernel) (by decide +kernel)) (goodIn_ca (goodIn_r _ [58, 39] (by decide +kernel) (by decide +kernel)) (bs_in _ _))) rfl rfl rfl (by decide +kernel) ⟨(Nat.le_of_ble_eq_true rfl), (Nat.le_of_ble_eq_true rfl)⟩) ⟨fun a U g mk q => by obtain ⟨q0, q1, qP, qK, qD⟩ := q; exact ⟨q0, q1, qP, va_K.moved (u := U) (U := U.calling g mk a) (Vm.Alike.refl U.vm) qK, qD⟩, va_recv hKc hPc (ci := 15) (q0 := 0) rfl rfl, fun U hU hW => ⟨rfl, by rw [hU], by rw [hU]; exact hPc, va_K.moved hW.alike hKc, hDc.weaken (fun _ _ _ _ => trivial)⟩⟩ rfl rfl hl.1 rfl (lv_room (Nat.le_of_ble_eq_true rfl)) dL_law_3507 ⟨(Nat.le_of_ble_eq_true rfl), (Nat.le_of_ble_eq_true rfl)⟩) hS (fun q _ h => hFc q h) hFc (fun r18 u t H1 locs ht hvm hw19 hB hz1 hk1 hS => ?_)
  have hP1 : va_P (dC, dI) vwCl [] H1 := nilP
  have hD1 : va_D (va_A [(h0, .inr (15, fs16))] H.size) [] := nilD
  have hK := hK
  obtain ⟨hP, hD⟩ := va_join (wr := [(o0, .inl (ko, 1, .inr (.inl fu8)))]) (w1 := []) hP hD [1] [0] rfl rfl (by decide) (by decide) hk1 hFc hP1 hD1
  generalize H1 = H at hP hS ⊢
  have hP : va_P (dC, dI) vwCl [(o0, .inl (ko, 1, .inr (.inl fu8)))] H := hP
  have hD : va_D A [(o0, .inl (ko, 1, .inr (.inl fu8)))] := hD
  try dsimp only at hw19
  obtain rfl : (T_order (xs 1) (xs 2)).1 = r18 := hw19.symm
  refine lv_iload hx hb dL_law_3510 (lv_at hl 1 rfl) ?_
  refine lv_icmp_eq (tgt := 3517) hx hb dL_law_3512 (by decide) (fun c20 => ?_) (fun c20 => absurd rfl c20)
  refine lv_iload hx hb dL_law_3517 (lv_at hl 1 rfl) ?_
  refine lv_if_ne (tgt := 3534) hx hb dL_law_3519 (by decide) (fun c21 => ?_) (fun c21 => ?_)
  · refine lv_goto (tgt := 3762) hx hb dL_law_3534 (by decide) ?_
    exact law_tail hx hb hr hlocks hX hbl hbA hAi hS (Nat.le_of_ble_eq_true rfl) (Nat.le_of_ble_eq_true rfl) ls (lv_sub hl [2, 6] rfl)
  · refine lv_aload_n hx hb dL_law_3522 rfl (lv_at hl 5 rfl) ?_
    refine lv_iconst (v := 0) hx hb dL_law_3523 (by decide) ?_
    refine va_lald hx hb hK hP 0 2 rfl rfl (by unfold vp_in; decide) dL_law_3524 ?_
    refine lv_iload hx hb dL_law_3525 (lv_at hl 0 rfl) ?_
    refine lv_i2l (v := r14.toInt64) hx hb dL_law_3527 rfl ?_
    refine W.lcmp hx hb dL_law_3528 ?_
    refine lv_topi (fun x22 ex22 => ?_)
    obtain rfl : x22 = 0 := ex22.trans (by rw [show fu8 (0 : Int32).toNatClampNeg = (T_order (xs 1) (xs 2)).2.toInt64 from hw7.2 c21, hw15.2 c21]; exact lg_cmp_self _)
    refine lv_if_eq (tgt := 3534) hx hb dL_law_3529 (by decide) (fun c23 => ?_) (fun c23 => absurd c23 (by decide))
    refine lv_goto (tgt := 3762) hx hb dL_law_3534 (by decide) ?_
    exact law_tail hx hb hr hlocks hX hbl hbA hAi hS (Nat.le_of_ble_eq_true rfl) (Nat.le_of_ble_eq_true rfl) ls (lv_sub hl [2, 6] rfl)
def w_law_47 : List Cond := .initialized RL :: ([.code yX11_jobs cX11_jobs 2 (some .int), .fieldLink RX11 43 "SeaLand" "plans" "LSeaLand$Plans;", .methodLink RL 335 yX11_jobs, .instanceMethod yX11_jobs, .selects RX11 yX11_jobs yX11_jobs, .initialized RX11, .code yX12_jobs cX12_jobs 2 (some .int), .fieldLink RX12 194 "SeaLandModel" "thrown" "I", .fieldLink RX12 553 "SeaLandModel" "jobs" "I", .methodLink RL 338 yX12_jobs, .instanceMethod yX12_jobs, .selects RX12 yX12_jobs yX12_jobs, .initialized RX12] ++ bs)
set_option maxRecDepth 100000 in
theorem wm_47 : ∀ w ∈ w_law_47, w ∈ lw_tbl := lw_ins (List.mem_of_getElem? (i := 110) (by decide +kernel)) (lw_in _ [732, 593, 729, 730, 731, 111, 2751, 1969, 2043, 2748, 2749, 2750, 122] (by decide +kernel))
set_option maxHeartbeats 4000000 in
set_option maxRecDepth 100000 in
/-- jobs -/
theorem law_47 {p : Program} {e : Env} {s : State} {m : MethodId} {below : List Frame} {meth : Method} {c : Code} (l : Launch) (hlt : l.stackTraces = false) {b : Nat} {xs : Nat → Int32} {A : Nat → Prop} (hx : p.tables.exec = Jvm.exec) (hb : c.code = code) (hr : meth.sig.returnType = ret) (hml : c.maxLocals = 7) (hown : s.vm.findClass RL = some m.cls) (hts : ∀ w ∈ w_law_47, w.before #[Value.ref b] s = true) (hX : va_X b 8 xs s s.heap) (hbl : b < s.heap.size) (hbA : ¬ A b) (hlocks : meth.locks = false) (hE : EV A s s.heap) (hN : NC s) (hA : ∀ q : Nat, s.heap.size ≤ q → A q) (hAi : ∀ q : Nat, A q → s.heap.size ≤ q) {dC : Nat → ClassId} {dI : Nat → Nat → Nat} (a : Nat → Nat) (k : Nat → ClassId) (h0 : Nat) (q : Nat → Nat) (cm : Nat → ClassId) (o0 : Nat) (ko : ClassId) (H : Heap) (locs : List Loc) (hK : va_K (dC, dI) vwCl [(ko, .long)] s) (hP : va_P (dC, dI) vwCl [(a 0, .inr (14, [.ref (a 1), .ref (a 2), .ref (a 27), .ref (a 30), .ref (a 74), .ref (a 75), .null, .int 0, .int 0])), (a 75, .inr (8, [.ref (a 76), .ref (a 77), .ref (a 78), .ref (a 79), .ref (a 80), .ref (a 81), .ref (a 82), .ref (a 83), .ref (a 84), .ref (a 85), .ref (a 86), .ref (a 87), .int 0, .int 0, .int 0, .int 0, .int 0])), (o0, .inl (ko, 1, .inr (.inl (fun _ => 0)))), (h0, .inr (15, mF q 0))] H) (hD : va_D A [(a 0, .inr (14, [.ref (a 1), .ref (a 2), .ref (a 27), .ref (a 30), .ref (a 74), .ref (a 75), .null, .int 0, .int 0])), (a 75, .inr (8, [.ref (a 76), .ref (a 77), .ref (a 78), .ref (a 79), .ref (a 80), .ref (a 81), .ref (a 82), .ref (a 83), .ref (a 84), .ref (a 85), .ref (a 86), .ref (a 87), .int 0, .int 0, .int 0, .int 0, .int 0])), (o0, .inl (ko, 1, .inr (.inl (fun _ => 0)))), (h0, .inr (15, mF q 0))]) (hS : va_S A s.heap H locs) (ls : Array Slot) (hl : lv_has ls 7 [(0, .ref b), (1, .ref (a 0)), (2, .ref h0), (3, .ref o0), (4, .int 0)]) : W p l e room_1 s m #[Value.ref b] below meth c H locs 238 27427 (lw_Z below #[Value.ref b] s) (F0 m 3537 ls []) := by
  refine lv_aload_n hx hb dL_law_3537 rfl (lv_at hl 1 rfl) ?_
  have hPc := hP.sub (ws' := [(a 0, .inr (14, [.ref (a 1), .ref (a 2), .ref (a 27), .ref (a 30), .ref (a 74), .ref (a 75), .null, .int 0, .int 0])), (a 75, .inr (8, [.ref (a 76), .ref (a 77), .ref (a 78), .ref (a 79), .ref (a 80), .ref (a 81), .ref (a 82), .ref (a 83), .ref (a 84), .ref (a 85), .ref (a 86), .ref (a 87), .int 0, .int 0, .int 0, .int 0, .int 0]))]) [0, 1] rfl
  have hDc := hD.sub (ws' := [(a 0, .inr (14, [.ref (a 1), .ref (a 2), .ref (a 27), .ref (a 30), .ref (a 74), .ref (a 75), .null, .int 0, .int 0])), (a 75, .inr (8, [.ref (a 76), .ref (a 77), .ref (a 78), .ref (a 79), .ref (a 80), .ref (a 81), .ref (a 82), .ref (a 83), .ref (a 84), .ref (a 85), .ref (a 86), .ref (a 87), .int 0, .int 0, .int 0, .int 0, .int 0]))]) [0, 1] (by decide) rfl
  have hKc := hK.sub (tys' := []) [] rfl
  have hFc := va_free (wc := [(a 0, .inr (14, [.ref (a 1), .ref (a 2), .ref (a 27), .ref (a 30), .ref (a 74), .ref (a 75), .null, .int 0, .int 0])), (a 75, .inr (8, [.ref (a 76), .ref (a 77), .ref (a 78), .ref (a 79), .ref (a 80), .ref (a 81), .ref (a 82), .ref (a 83), .ref (a 84), .ref (a 85), .ref (a 86), .ref (a 87), .int 0, .int 0, .int 0, .int 0, .int 0]))]) hD hS hA [0, 1] rfl
  refine va_calli (va_runV (As := []) (rest := []) ⟨hx, hb, hml, hown, hts⟩ (x_jobs l dC dI a k H.size ) (cwV 0 hts (goodIn_app (goodIn_r _ [3, 4, 5, 6] (by decide +kernel) (by decide +kernel)) (goodIn_ca (goodIn_r _ [1, 2] (by decide +kernel) (by decide +kernel)) (bs_in _ _))) rfl rfl rfl (by decide +kernel) ⟨(Nat.le_of_ble_eq_true rfl), (Nat.le_of_ble_eq_true rfl)⟩) ⟨fun a U g mk q => by obtain ⟨q0, q1, qP, qK, qD, qE⟩ := q; exact ⟨q0, q1, qP, va_K.moved (u := U) (U := U.calling g mk a) (Vm.Alike.refl U.vm) qK, qD, EV.blind g mk a qE⟩, va_recv hKc hPc (ci := 14) (q0 := 0) rfl rfl, fun U hU hW => ⟨rfl, by rw [hU], by rw [hU]; exact hPc, va_K.moved hW.alike hKc, hDc.weaken (fun _ _ _ _ => trivial), hE.call hS hFc hU hW⟩⟩ rfl rfl hl.1 rfl (lv_room (Nat.le_of_ble_eq_true rfl)) dL_law_3538 ⟨(Nat.le_of_ble_eq_true rfl), (Nat.le_of_ble_eq_true rfl)⟩) hS (fun q _ h => hFc q h) hFc (fun r2 u t H1 locs ht hvm hw3 hB hz1 hk1 hS => ?_)
  have hP1 : va_P (dC, dI) vwCl [] H1 := nilP
  have hD1 : va_D (va_A [(a 0, .inr (14, [.ref (a 1), .ref (a 2), .ref (a 27), .ref (a 30), .ref (a 74), .ref (a 75), .null, .int 0, .int 0])), (a 75, .inr (8, [.ref (a 76), .ref (a 77), .ref (a 78), .ref (a 79), .ref (a 80), .ref (a 81), .ref (a 82), .ref (a 83), .ref (a 84), .ref (a 85), .ref (a 86), .ref (a 87), .int 0, .int 0, .int 0, .int 0, .int 0]))] H.size) [] := nilD
  have hK := hK
  obtain ⟨hP, hD⟩ := va_join (wr := [(o0, .inl (ko, 1, .inr (.inl (fun _ => 0)))), (h0, .inr (15, mF q 0))]) (w1 := []) hP hD [0, 1] [2, 3] rfl rfl (by decide) (by decide) hk1 hFc hP1 hD1
  generalize H1 = H at hP hS ⊢
  have hP : va_P (dC, dI) vwCl [(o0, .inl (ko, 1, .inr (.inl (fun _ => 0)))), (h0, .inr (15, mF q 0))] H := hP
  have hD : va_D A [(o0, .inl (ko, 1, .inr (.inl (fun _ => 0)))), (h0, .inr (15, mF q 0))] := hD
  try dsimp only at hw3
  refine lv_aload_n hx hb dL_law_3541 rfl (lv_at hl 2 rfl) ?_
  have hPc := hP.sub (ws' := [(h0, .inr (15, mF q 0))]) [1] rfl
  have hDc := hD.sub (ws' := [(h0, .inr (15, mF q 0))]) [1] (by decide) rfl
  have hKc := hK.sub (tys' := []) [] rfl
  have hFc := va_free (wc := [(h0, .inr (15, mF q 0))]) hD hS hA [1] rfl
  refine va_calli (va_runV (As := []) (rest := [.int r2]) ⟨hx, hb, hml, hown, hts⟩ (m_jobs l dC dI h0 q cm H.size ) (cwV 0 hts (goodIn_app (goodIn_r _ [10, 11, 12, 13] (by decide +kernel) (by decide +kernel)) (goodIn_ca (goodIn_r _ [7, 8, 9] (by decide +kernel) (by decide +kernel)) (bs_in _ _))) rfl rfl rfl (by decide +kernel) ⟨(Nat.le_of_ble_eq_true rfl), (Nat.le_of_ble_eq_true rfl)⟩) ⟨fun a U g mk q => by obtain ⟨q0, q1, qP, qK, qD⟩ := q; exact ⟨q0, q1, qP, va_K.moved (u := U) (U := U.calling g mk a) (Vm.Alike.refl U.vm) qK, qD⟩, va_recv hKc hPc (ci := 15) (q0 := 0) rfl rfl, fun U hU hW => ⟨rfl, by rw [hU], by rw [hU]; exact hPc, va_K.moved hW.alike hKc, hDc.weaken (fun _ _ _ _ => trivial)⟩⟩ rfl rfl hl.1 rfl (lv_room (Nat.le_of_ble_eq_true rfl)) dL_law_3542 ⟨(Nat.le_of_ble_eq_true rfl), (Nat.le_of_ble_eq_true rfl)⟩) hS (fun q _ h => hFc q h) hFc (fun r5 u t H1 locs ht hvm hw6 hB hz1 hk1 hS => ?_)
  obtain ⟨fs7, rfl⟩ : ∃ z, z = u := ⟨_, rfl⟩
  obtain ⟨hP1, hD1⟩ := hB
  rw [ht] at hP1
  obtain ⟨hP, hD⟩ := va_join (wr := [(o0, .inl (ko, 1, .inr (.inl (fun _ => 0))))]) (w1 := [(h0, .inr (15, fs7))]) hP hD [1] [0] rfl rfl (by decide) (by decide) hk1 hFc hP1 hD1
  generalize H1 = H at hP hS ⊢
  have hP : va_P (dC, dI) vwCl [(o0, .inl (ko, 1, .inr (.inl (fun _ => 0)))), (h0, .inr (15, fs7))] H := hP
  have hD : va_D A [(o0, .inl (ko, 1, .inr (.inl (fun _ => 0)))), (h0, .inr (15, fs7))] := hD
  try dsimp only at hw6
  refine lv_icmp_eq (tgt := 3762) hx hb dL_law_3545 (by decide) (fun c8 => ?_) (fun c8 => absurd (hw3.1.trans (hw6.2 hw3.2).symm) c8)
  exact law_tail hx hb hr hlocks hX hbl hbA hAi hS (Nat.le_of_ble_eq_true rfl) (Nat.le_of_ble_eq_true rfl) ls (lv_sub hl [0, 4] rfl)
