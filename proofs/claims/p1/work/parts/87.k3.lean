def w_law_24 : List Cond := .initialized RL :: ([.codeWith yL_rules cL_rules 5 (some .int) [(0, 10, 13, 13), (0, 10, 17, 39)], .code yX11_rules cX11_rules 4 (some .int), .code yX11_settlerOf cX11_settlerOf 2 (some (.object "SeaLand$Settler")), .fieldLink RX11 30 "SeaLand" "board" "LSeaLand$Board;", .code yX11_within cX11_within 3 (some .boolean), .methodLink RX11 58 yX11_within, .static yX11_within, .initialized RX11, .classLink RX11 557 "java/lang/IndexOutOfBoundsException", .initialized "java/lang/IndexOutOfBoundsException", .methodLink RX11 292 yX11_settlerOf, .instanceMethod yX11_settlerOf, .selects RX11 yX11_settlerOf yX11_settlerOf, .methodLink RL 98 yX11_rules, .instanceMethod yX11_rules, .selects RX11 yX11_rules yX11_rules, .classLink RL 13 "java/lang/IndexOutOfBoundsException", .methodLink RL 263 yL_rules, .static yL_rules, .initialized RL, .code yX12_rules cX12_rules 3 (some .int), .fieldLink RX12 194 "SeaLandModel" "thrown" "I", .code yX12_nobody cX12_nobody 2 (some .boolean), .fieldLink RX12 495 "SeaLandModel" "settlers" "I", .code yX12_in cX12_in 3 (some .boolean), .methodLink RX12 197 yX12_in, .static yX12_in, .initialized RX12, .methodLink RX12 486 yX12_nobody, .instanceMethod yX12_nobody, .selects RX12 yX12_nobody yX12_nobody, .code yX12_throwsIf cX12_throwsIf 3 (some .boolean), .methodLink RX12 224 yX12_throwsIf, .instanceMethod yX12_throwsIf, .selects RX12 yX12_throwsIf yX12_throwsIf, .methodLink RL 265 yX12_rules, .instanceMethod yX12_rules, .selects RX12 yX12_rules yX12_rules, .code yX12_thrown cX12_thrown 1 (some .int), .methodLink RL 187 yX12_thrown, .instanceMethod yX12_thrown, .selects RX12 yX12_thrown yX12_thrown] ++ bs)
set_option maxRecDepth 100000 in
theorem wm_24 : ∀ w ∈ w_law_24, w ∈ lw_tbl := lw_ins (List.mem_of_getElem? (i := 110) (by decide +kernel)) (lw_in _ (1569 :: 1573 :: 1545 :: 591 :: 902 :: 900 :: 901 :: 111 :: 903 :: 126 :: 1542 :: 1544 :: 30 :: 1570 :: 1571 :: 1572 :: 811 :: 1567 :: 1568 :: 110 :: 2568 :: 1969 :: 2572 :: 2011 :: 2217 :: 2215 :: 2216 :: 122 :: 2569 :: 2571 :: 94 :: 2221 :: 2218 :: 2220 :: 44 :: 2565 :: 2566 :: 2567 :: 2207 :: 2204 :: 2205 :: 2206 :: []) (by decide +kernel))
set_option maxHeartbeats 4000000 in
set_option maxRecDepth 100000 in
/-- rules -/
theorem law_24 {p : Program} {e : Env} {s : State} {m : MethodId} {below : List Frame} {meth : Method} {c : Code} (l : Launch) (hlt : l.stackTraces = false) {b : Nat} {xs : Nat → Int32} {A : Nat → Prop} (hx : p.tables.exec = Jvm.exec) (hb : c.code = code) (hr : meth.sig.returnType = ret) (hml : c.maxLocals = 7) (hown : s.vm.findClass RL = some m.cls) (hts : ∀ w ∈ w_law_24, w.before #[Value.ref b] s = true) (hX : va_X b 8 xs s s.heap) (hbl : b < s.heap.size) (hbA : ¬ A b) (hlocks : meth.locks = false) (hE : EV A s s.heap) (hN : NC s) (hA : ∀ q : Nat, s.heap.size ≤ q → A q) (hAi : ∀ q : Nat, A q → s.heap.size ≤ q) {dC : Nat → ClassId} {dI : Nat → Nat → Nat} (a : Nat → Nat) (k : Nat → ClassId) (h0 : Nat) (q : Nat → Nat) (cm : Nat → ClassId) (o0 : Nat) (ko : ClassId) (H : Heap) (locs : List Loc) (hK : va_K (dC, dI) vwCl [(ko, .long)] s) (hP : va_P (dC, dI) vwCl [(a 0, .inr (14, [.ref (a 1), .ref (a 2), .ref (a 27), .ref (a 30), .ref (a 74), .ref (a 75), .null, .int 0, .int 0])), (a 30, .inr (3, [.ref (a 31), .ref (a 32), .ref (a 33), .ref (a 34), .ref (a 35), .ref (a 36), .ref (a 37), .ref (a 38), .ref (a 50), .ref (a 62), .int (-1), .int 0, .long 0, .long 0, .int 0, .int 0, .int 0, .int 0])), (o0, .inl (ko, 1, .inr (.inl (fun _ => 0)))), (h0, .inr (15, mF q 0))] H) (hD : va_D A [(a 0, .inr (14, [.ref (a 1), .ref (a 2), .ref (a 27), .ref (a 30), .ref (a 74), .ref (a 75), .null, .int 0, .int 0])), (a 30, .inr (3, [.ref (a 31), .ref (a 32), .ref (a 33), .ref (a 34), .ref (a 35), .ref (a 36), .ref (a 37), .ref (a 38), .ref (a 50), .ref (a 62), .int (-1), .int 0, .long 0, .long 0, .int 0, .int 0, .int 0, .int 0])), (o0, .inl (ko, 1, .inr (.inl (fun _ => 0)))), (h0, .inr (15, mF q 0))]) (hS : va_S A s.heap H locs) (ls : Array Slot) (hl : lv_has ls 7 [(0, .ref b), (1, .ref (a 0)), (2, .ref h0), (3, .ref o0), (4, .int 0)]) : W p l e room_1 s m #[Value.ref b] below meth c H locs 238 27427 (lw_Z below #[Value.ref b] s) (F0 m 1931 ls []) := by
  refine lv_aload_n hx hb dL_law_1931 rfl (lv_at hl 1 rfl) ?_
  refine lv_aload_n hx hb dL_law_1932 rfl (lv_at hl 0 rfl) ?_
  refine lv_iload hx hb dL_law_1933 (lv_at hl 4 rfl) ?_
  refine lv_iconst (v := 1) hx hb dL_law_1935 (by decide) ?_
  refine lv_iadd hx hb dL_law_1936 ?_
  refine lv_topi (fun x1 ex1 => ?_)
  obtain rfl : x1 = 1 := ex1.trans (by decide)
  refine va_sld hx hb hX hbl hbA hS (i := 1) (by unfold vp_in; decide) dL_law_1937 ?_
  refine lv_topi (fun x2 ex2 => ?_)
  obtain rfl : xs 1 = x2 := (ex2).symm
  refine lv_aload_n hx hb dL_law_1938 rfl (lv_at hl 0 rfl) ?_
  refine lv_iload hx hb dL_law_1939 (lv_at hl 4 rfl) ?_
  refine lv_iconst (v := 2) hx hb dL_law_1941 (by decide) ?_
  refine lv_iadd hx hb dL_law_1942 ?_
  refine lv_topi (fun x3 ex3 => ?_)
  obtain rfl : x3 = 2 := ex3.trans (by decide)
  refine va_sld hx hb hX hbl hbA hS (i := 2) (by unfold vp_in; decide) dL_law_1943 ?_
  refine lv_topi (fun x4 ex4 => ?_)
  obtain rfl : xs 2 = x4 := (ex4).symm
  refine lv_aload_n hx hb dL_law_1944 rfl (lv_at hl 3 rfl) ?_
  have hPc := hP.sub (ws' := [(a 0, .inr (14, [.ref (a 1), .ref (a 2), .ref (a 27), .ref (a 30), .ref (a 74), .ref (a 75), .null, .int 0, .int 0])), (a 30, .inr (3, [.ref (a 31), .ref (a 32), .ref (a 33), .ref (a 34), .ref (a 35), .ref (a 36), .ref (a 37), .ref (a 38), .ref (a 50), .ref (a 62), .int (-1), .int 0, .long 0, .long 0, .int 0, .int 0, .int 0, .int 0])), (o0, .inl (ko, 1, .inr (.inl (fun _ => 0))))]) [0, 1, 2] rfl
  have hDc := hD.sub (ws' := [(a 0, .inr (14, [.ref (a 1), .ref (a 2), .ref (a 27), .ref (a 30), .ref (a 74), .ref (a 75), .null, .int 0, .int 0])), (a 30, .inr (3, [.ref (a 31), .ref (a 32), .ref (a 33), .ref (a 34), .ref (a 35), .ref (a 36), .ref (a 37), .ref (a 38), .ref (a 50), .ref (a 62), .int (-1), .int 0, .long 0, .long 0, .int 0, .int 0, .int 0, .int 0])), (o0, .inl (ko, 1, .inr (.inl (fun _ => 0))))]) [0, 1, 2] (by decide) rfl
  have hKc := hK.sub (tys' := [(ko, .long)]) [0] rfl
  have hFc := va_free (wc := [(a 0, .inr (14, [.ref (a 1), .ref (a 2), .ref (a 27), .ref (a 30), .ref (a 74), .ref (a 75), .null, .int 0, .int 0])), (a 30, .inr (3, [.ref (a 31), .ref (a 32), .ref (a 33), .ref (a 34), .ref (a 35), .ref (a 36), .ref (a 37), .ref (a 38), .ref (a 50), .ref (a 62), .int (-1), .int 0, .long 0, .long 0, .int 0, .int 0, .int 0, .int 0])), (o0, .inl (ko, 1, .inr (.inl (fun _ => 0))))]) hD hS hA [0, 1, 2] rfl
  refine va_calli (vx_runSW (As := [.ref (a 0), .int (xs 1), .int (xs 2), .ref o0]) (rest := []) ⟨hx, hb, hml, hown, hts⟩ (l_rules l hlt dC dI a k o0 ko (fun _ => 0) (xs 1) (xs 2) H.size ) (vx_cwSW 4 hts (goodIn_app (goodIn_r _ [18, 19, 20] (by decide +kernel) (by decide +kernel)) (goodIn_ca (goodIn_r _ [1, 2, 3, 4, 5, 6, 7, 8, 9, 10, 11, 12, 13, 14, 15, 16, 17] (by decide +kernel) (by decide +kernel)) (bs_in _ _))) rfl rfl rfl (by decide +kernel) ⟨(Nat.le_of_ble_eq_true rfl), (Nat.le_of_ble_eq_true rfl)⟩) ⟨fun a U g mk q => by obtain ⟨q0, q1, qP, qK, qD, qE, qN⟩ := q; exact ⟨q0, q1, qP, va_K.moved (u := U) (U := U.calling g mk a) (Vm.Alike.refl U.vm) qK, qD, EV.blind g mk a qE, NC.blind g mk a qN⟩, fun U hU hW => ⟨rfl, by rw [hU], by rw [hU]; exact hPc, va_K.moved hW.alike hKc, hDc.weaken (fun _ _ _ _ => trivial), hE.call hS hFc hU hW, hN.call hW⟩⟩ rfl rfl hl.1 rfl (lv_room (Nat.le_of_ble_eq_true rfl)) dL_law_1945 ⟨(Nat.le_of_ble_eq_true rfl), (Nat.le_of_ble_eq_true rfl)⟩) hS (fun q _ h => hFc q h) hFc (fun r6 u t H1 locs ht hvm hw7 hB hz1 hk1 hS => ?_)
  obtain ⟨fu8, rfl⟩ : ∃ z, z = u := ⟨_, rfl⟩
  obtain ⟨hP1, hD1⟩ := hB
  rw [ht] at hP1
  obtain ⟨hP, hD⟩ := va_join (wr := [(h0, .inr (15, mF q 0))]) (w1 := [(o0, .inl (ko, 1, .inr (.inl fu8)))]) hP hD [0, 1, 2] [3] rfl rfl (by decide) (by decide) hk1 hFc hP1 hD1
  generalize H1 = H at hP hS ⊢
  have hP : va_P (dC, dI) vwCl [(h0, .inr (15, mF q 0)), (o0, .inl (ko, 1, .inr (.inl fu8)))] H := hP
  have hD : va_D A [(h0, .inr (15, mF q 0)), (o0, .inl (ko, 1, .inr (.inl fu8)))] := hD
  try dsimp only at hw7
  obtain rfl : 1 = r6 := hw7.symm
  refine lv_istore (lv' := [(5, .int 1), (0, .ref b), (1, .ref (a 0)), (2, .ref h0), (3, .ref o0), (4, .int 0)]) hx hb dL_law_1948 hl (by decide) rfl (fun ls hl => ?_)
  refine lv_aload_n hx hb dL_law_1950 rfl (lv_at hl 3 rfl) ?_
  refine lv_aload_n hx hb dL_law_1951 rfl (lv_at hl 1 rfl) ?_
  refine lv_iload hx hb dL_law_1952 (lv_at hl 5 rfl) ?_
  refine lv_iconst (v := 1) hx hb dL_law_1954 (by decide) ?_
  refine lv_iadd hx hb dL_law_1955 ?_
  refine lv_topi (fun x9 ex9 => ?_)
  obtain rfl : x9 = 1 := ex9.trans (by decide)
  refine va_sld hx hb hX hbl hbA hS (i := 1) (by unfold vp_in; decide) dL_law_1956 ?_
  refine lv_topi (fun x10 ex10 => ?_)
  obtain rfl : xs 1 = x10 := (ex10).symm
  refine lv_aload_n hx hb dL_law_1957 rfl (lv_at hl 1 rfl) ?_
  refine lv_iload hx hb dL_law_1958 (lv_at hl 5 rfl) ?_
  refine lv_iconst (v := 2) hx hb dL_law_1960 (by decide) ?_
  refine lv_iadd hx hb dL_law_1961 ?_
  refine lv_topi (fun x11 ex11 => ?_)
  obtain rfl : x11 = 2 := ex11.trans (by decide)
  refine va_sld hx hb hX hbl hbA hS (i := 2) (by unfold vp_in; decide) dL_law_1962 ?_
  refine lv_topi (fun x12 ex12 => ?_)
  obtain rfl : xs 2 = x12 := (ex12).symm
  have hPc := hP.sub (ws' := [(h0, .inr (15, mF q 0))]) [0] rfl
  have hDc := hD.sub (ws' := [(h0, .inr (15, mF q 0))]) [0] (by decide) rfl
  have hKc := hK.sub (tys' := []) [] rfl
  have hFc := va_free (wc := [(h0, .inr (15, mF q 0))]) hD hS hA [0] rfl
  refine va_calli (va_runV (As := [.int (xs 1), .int (xs 2)]) (rest := []) ⟨hx, hb, hml, hown, hts⟩ (m_rules l dC dI h0 q cm (xs 1) (xs 2) H.size ) (cwV 2 hts (goodIn_app (goodIn_r _ [36, 37, 38, 28] (by decide +kernel) (by decide +kernel)) (goodIn_ca (goodIn_r _ [21, 22, 23, 24, 25, 26, 27, 28, 29, 30, 31, 32, 33, 34, 35] (by decide +kernel) (by decide +kernel)) (bs_in _ _))) rfl rfl rfl (by decide +kernel) ⟨(Nat.le_of_ble_eq_true rfl), (Nat.le_of_ble_eq_true rfl)⟩) ⟨fun a U g mk q => by obtain ⟨q0, q1, qP, qK, qD⟩ := q; exact ⟨q0, q1, qP, va_K.moved (u := U) (U := U.calling g mk a) (Vm.Alike.refl U.vm) qK, qD⟩, va_recv hKc hPc (ci := 15) (q0 := 0) rfl rfl, fun U hU hW => ⟨rfl, by rw [hU], by rw [hU]; exact hPc, va_K.moved hW.alike hKc, hDc.weaken (fun _ _ _ _ => trivial)⟩⟩ rfl rfl hl.1 rfl (lv_room (Nat.le_of_ble_eq_true rfl)) dL_law_1963 ⟨(Nat.le_of_ble_eq_true rfl), (Nat.le_of_ble_eq_true rfl)⟩) hS (fun q _ h => hFc q h) hFc (fun r14 u t H1 locs ht hvm hw15 hB hz1 hk1 hS => ?_)
  obtain ⟨fs16, rfl⟩ : ∃ z, z = u := ⟨_, rfl⟩
  obtain ⟨hP1, hD1⟩ := hB
  rw [ht] at hP1
  obtain ⟨hP, hD⟩ := va_join (wr := [(o0, .inl (ko, 1, .inr (.inl fu8)))]) (w1 := [(h0, .inr (15, fs16))]) hP hD [0] [1] rfl rfl (by decide) (by decide) hk1 hFc hP1 hD1
  generalize H1 = H at hP hS ⊢
  have hP : va_P (dC, dI) vwCl [(o0, .inl (ko, 1, .inr (.inl fu8))), (h0, .inr (15, fs16))] H := hP
  have hD : va_D A [(o0, .inl (ko, 1, .inr (.inl fu8))), (h0, .inr (15, fs16))] := hD
  try dsimp only at hw15
  refine lv_istore (lv' := [(6, .int r14), (5, .int 1), (0, .ref b), (1, .ref (a 0)), (2, .ref h0), (3, .ref o0), (4, .int 0)]) hx hb dL_law_1966 hl (by decide) rfl (fun ls hl => ?_)
  refine lv_aload_n hx hb dL_law_1968 rfl (lv_at hl 4 rfl) ?_
  have hPc := hP.sub (ws' := [(h0, .inr (15, fs16))]) [1] rfl
  have hDc := hD.sub (ws' := [(h0, .inr (15, fs16))]) [1] (by decide) rfl
  have hKc := hK.sub (tys' := []) [] rfl
  have hFc := va_free (wc := [(h0, .inr (15, fs16))]) hD hS hA [1] rfl
  refine va_calli (va_runV (As := []) (rest := []) ⟨hx, hb, hml, hown, hts⟩ (m_thrown l dC dI h0 fs16 1 H.size hw15) (cwV 0 hts (goodIn_app (goodIn_r _ [40, 41, 42, 28] (by decide +kernel) (by decide +kernel)) (goodIn_ca (goodIn_r _ [39, 22] (by decide +kernel) (by decide +kernel)) (bs_in _ _))) rfl rfl rfl (by decide +kernel) ⟨(Nat.le_of_ble_eq_true rfl), (Nat.le_of_ble_eq_true rfl)⟩) ⟨fun a U g mk q => by obtain ⟨q0, q1, qP, qK, qD⟩ := q; exact ⟨q0, q1, qP, va_K.moved (u := U) (U := U.calling g mk a) (Vm.Alike.refl U.vm) qK, qD⟩, va_recv hKc hPc (ci := 15) (q0 := 0) rfl rfl, fun U hU hW => ⟨rfl, by rw [hU], by rw [hU]; exact hPc, va_K.moved hW.alike hKc, hDc.weaken (fun _ _ _ _ => trivial)⟩⟩ rfl rfl hl.1 rfl (lv_room (Nat.le_of_ble_eq_true rfl)) dL_law_1969 ⟨(Nat.le_of_ble_eq_true rfl), (Nat.le_of_ble_eq_true rfl)⟩) hS (fun q _ h => hFc q h) hFc (fun r18 u t H1 locs ht hvm hw19 hB hz1 hk1 hS => ?_)
  have hP1 : va_P (dC, dI) vwCl [] H1 := nilP
  have hD1 : va_D (va_A [(h0, .inr (15, fs16))] H.size) [] := nilD
  have hK := hK
  obtain ⟨hP, hD⟩ := va_join (wr := [(o0, .inl (ko, 1, .inr (.inl fu8)))]) (w1 := []) hP hD [1] [0] rfl rfl (by decide) (by decide) hk1 hFc hP1 hD1
  generalize H1 = H at hP hS ⊢
  have hP : va_P (dC, dI) vwCl [(o0, .inl (ko, 1, .inr (.inl fu8)))] H := hP
  have hD : va_D A [(o0, .inl (ko, 1, .inr (.inl fu8)))] := hD
  try dsimp only at hw19
  obtain rfl : 1 = r18 := hw19.symm
  refine lv_iload hx hb dL_law_1972 (lv_at hl 1 rfl) ?_
  refine lv_icmp_eq (tgt := 1979) hx hb dL_law_1974 (by decide) (fun c20 => ?_) (fun c20 => absurd c20 (by decide))
  refine lv_iload hx hb dL_law_1979 (lv_at hl 1 rfl) ?_
  refine lv_if_ne (tgt := 1996) hx hb dL_law_1981 (by decide) (fun c21 => ?_) (fun c21 => absurd c21 (by decide))
  refine lv_goto (tgt := 3762) hx hb dL_law_1996 (by decide) ?_
  exact law_tail hx hb hr hlocks hX hbl hbA hAi hS (Nat.le_of_ble_eq_true rfl) (Nat.le_of_ble_eq_true rfl) ls (lv_sub hl [2, 6] rfl)
def w_law_25 : List Cond := .initialized RL :: ([.codeWith yL_why cL_why 5 (some .int) [(0, 10, 13, 13), (0, 10, 17, 39)], .code yX11_why cX11_why 4 (some .int), .code yX11_settlerOf cX11_settlerOf 2 (some (.object "SeaLand$Settler")), .fieldLink RX11 30 "SeaLand" "board" "LSeaLand$Board;", .code yX11_within cX11_within 3 (some .boolean), .methodLink RX11 58 yX11_within, .static yX11_within, .initialized RX11, .classLink RX11 557 "java/lang/IndexOutOfBoundsException", .initialized "java/lang/IndexOutOfBoundsException", .methodLink RX11 292 yX11_settlerOf, .instanceMethod yX11_settlerOf, .selects RX11 yX11_settlerOf yX11_settlerOf, .methodLink RL 101 yX11_why, .instanceMethod yX11_why, .selects RX11 yX11_why yX11_why, .classLink RL 13 "java/lang/IndexOutOfBoundsException", .methodLink RL 266 yL_why, .static yL_why, .initialized RL, .code yX12_why cX12_why 4 (some .int), .fieldLink RX12 194 "SeaLandModel" "thrown" "I", .code yX12_nobody cX12_nobody 2 (some .boolean), .fieldLink RX12 495 "SeaLandModel" "settlers" "I", .code yX12_in cX12_in 3 (some .boolean), .methodLink RX12 197 yX12_in, .static yX12_in, .initialized RX12, .methodLink RX12 486 yX12_nobody, .instanceMethod yX12_nobody, .selects RX12 yX12_nobody yX12_nobody, .code yX12_throwsIf cX12_throwsIf 3 (some .boolean), .methodLink RX12 224 yX12_throwsIf, .instanceMethod yX12_throwsIf, .selects RX12 yX12_throwsIf yX12_throwsIf, .methodLink RL 268 yX12_why, .instanceMethod yX12_why, .selects RX12 yX12_why yX12_why, .code yX12_thrown cX12_thrown 1 (some .int), .methodLink RL 187 yX12_thrown, .instanceMethod yX12_thrown, .selects RX12 yX12_thrown yX12_thrown] ++ bs)
set_option maxRecDepth 100000 in
theorem wm_25 : ∀ w ∈ w_law_25, w ∈ lw_tbl := lw_ins (List.mem_of_getElem? (i := 110) (by decide +kernel)) (lw_in _ (1581 :: 1585 :: 1545 :: 591 :: 902 :: 900 :: 901 :: 111 :: 903 :: 126 :: 1542 :: 1544 :: 30 :: 1582 :: 1583 :: 1584 :: 811 :: 1579 :: 1580 :: 110 :: 2602 :: 1969 :: 2572 :: 2011 :: 2217 :: 2215 :: 2216 :: 122 :: 2569 :: 2571 :: 94 :: 2221 :: 2218 :: 2220 :: 44 :: 2599 :: 2600 :: 2601 :: 2207 :: 2204 :: 2205 :: 2206 :: []) (by decide +kernel))
set_option maxHeartbeats 4000000 in
set_option maxRecDepth 100000 in
/-- why -/
theorem law_25 {p : Program} {e : Env} {s : State} {m : MethodId} {below : List Frame} {meth : Method} {c : Code} (l : Launch) (hlt : l.stackTraces = false) {b : Nat} {xs : Nat → Int32} {A : Nat → Prop} (hx : p.tables.exec = Jvm.exec) (hb : c.code = code) (hr : meth.sig.returnType = ret) (hml : c.maxLocals = 7) (hown : s.vm.findClass RL = some m.cls) (hts : ∀ w ∈ w_law_25, w.before #[Value.ref b] s = true) (hX : va_X b 8 xs s s.heap) (hbl : b < s.heap.size) (hbA : ¬ A b) (hlocks : meth.locks = false) (hE : EV A s s.heap) (hN : NC s) (hA : ∀ q : Nat, s.heap.size ≤ q → A q) (hAi : ∀ q : Nat, A q → s.heap.size ≤ q) {dC : Nat → ClassId} {dI : Nat → Nat → Nat} (a : Nat → Nat) (k : Nat → ClassId) (h0 : Nat) (q : Nat → Nat) (cm : Nat → ClassId) (o0 : Nat) (ko : ClassId) (H : Heap) (locs : List Loc) (hK : va_K (dC, dI) vwCl [(ko, .long)] s) (hP : va_P (dC, dI) vwCl [(a 0, .inr (14, [.ref (a 1), .ref (a 2), .ref (a 27), .ref (a 30), .ref (a 74), .ref (a 75), .null, .int 0, .int 0])), (a 30, .inr (3, [.ref (a 31), .ref (a 32), .ref (a 33), .ref (a 34), .ref (a 35), .ref (a 36), .ref (a 37), .ref (a 38), .ref (a 50), .ref (a 62), .int (-1), .int 0, .long 0, .long 0, .int 0, .int 0, .int 0, .int 0])), (o0, .inl (ko, 1, .inr (.inl (fun _ => 0)))), (h0, .inr (15, mF q 0))] H) (hD : va_D A [(a 0, .inr (14, [.ref (a 1), .ref (a 2), .ref (a 27), .ref (a 30), .ref (a 74), .ref (a 75), .null, .int 0, .int 0])), (a 30, .inr (3, [.ref (a 31), .ref (a 32), .ref (a 33), .ref (a 34), .ref (a 35), .ref (a 36), .ref (a 37), .ref (a 38), .ref (a 50), .ref (a 62), .int (-1), .int 0, .long 0, .long 0, .int 0, .int 0, .int 0, .int 0])), (o0, .inl (ko, 1, .inr (.inl (fun _ => 0)))), (h0, .inr (15, mF q 0))]) (hS : va_S A s.heap H locs) (ls : Array Slot) (hl : lv_has ls 7 [(0, .ref b), (1, .ref (a 0)), (2, .ref h0), (3, .ref o0), (4, .int 0)]) : W p l e room_1 s m #[Value.ref b] below meth c H locs 238 27427 (lw_Z below #[Value.ref b] s) (F0 m 1999 ls []) := by
  refine lv_aload_n hx hb dL_law_1999 rfl (lv_at hl 1 rfl) ?_
  refine lv_aload_n hx hb dL_law_2000 rfl (lv_at hl 0 rfl) ?_
  refine lv_iload hx hb dL_law_2001 (lv_at hl 4 rfl) ?_
  refine lv_iconst (v := 1) hx hb dL_law_2003 (by decide) ?_
  refine lv_iadd hx hb dL_law_2004 ?_
  refine lv_topi (fun x1 ex1 => ?_)
  obtain rfl : x1 = 1 := ex1.trans (by decide)
  refine va_sld hx hb hX hbl hbA hS (i := 1) (by unfold vp_in; decide) dL_law_2005 ?_
  refine lv_topi (fun x2 ex2 => ?_)
  obtain rfl : xs 1 = x2 := (ex2).symm
  refine lv_aload_n hx hb dL_law_2006 rfl (lv_at hl 0 rfl) ?_
  refine lv_iload hx hb dL_law_2007 (lv_at hl 4 rfl) ?_
  refine lv_iconst (v := 2) hx hb dL_law_2009 (by decide) ?_
  refine lv_iadd hx hb dL_law_2010 ?_
  refine lv_topi (fun x3 ex3 => ?_)
  obtain rfl : x3 = 2 := ex3.trans (by decide)
  refine va_sld hx hb hX hbl hbA hS (i := 2) (by unfold vp_in; decide) dL_law_2011 ?_
  refine lv_topi (fun x4 ex4 => ?_)
  obtain rfl : xs 2 = x4 := (ex4).symm
  refine lv_aload_n hx hb dL_law_2012 rfl (lv_at hl 3 rfl) ?_
  have hPc := hP.sub (ws' := [(a 0, .inr (14, [.ref (a 1), .ref (a 2), .ref (a 27), .ref (a 30), .ref (a 74), .ref (a 75), .null, .int 0, .int 0])), (a 30, .inr (3, [.ref (a 31), .ref (a 32), .ref (a 33), .ref (a 34), .ref (a 35), .ref (a 36), .ref (a 37), .ref (a 38), .ref (a 50), .ref (a 62), .int (-1), .int 0, .long 0, .long 0, .int 0, .int 0, .int 0, .int 0])), (o0, .inl (ko, 1, .inr (.inl (fun _ => 0))))]) [0, 1, 2] rfl
  have hDc := hD.sub (ws' := [(a 0, .inr (14, [.ref (a 1), .ref (a 2), .ref (a 27), .ref (a 30), .ref (a 74), .ref (a 75), .null, .int 0, .int 0])), (a 30, .inr (3, [.ref (a 31), .ref (a 32), .ref (a 33), .ref (a 34), .ref (a 35), .ref (a 36), .ref (a 37), .ref (a 38), .ref (a 50), .ref (a 62), .int (-1), .int 0, .long 0, .long 0, .int 0, .int 0, .int 0, .int 0])), (o0, .inl (ko, 1, .inr (.inl (fun _ => 0))))]) [0, 1, 2] (by decide) rfl
  have hKc := hK.sub (tys' := [(ko, .long)]) [0] rfl
  have hFc := va_free (wc := [(a 0, .inr (14, [.ref (a 1), .ref (a 2), .ref (a 27), .ref (a 30), .ref (a 74), .ref (a 75), .null, .int 0, .int 0])), (a 30, .inr (3, [.ref (a 31), .ref (a 32), .ref (a 33), .ref (a 34), .ref (a 35), .ref (a 36), .ref (a 37), .ref (a 38), .ref (a 50), .ref (a 62), .int (-1), .int 0, .long 0, .long 0, .int 0, .int 0, .int 0, .int 0])), (o0, .inl (ko, 1, .inr (.inl (fun _ => 0))))]) hD hS hA [0, 1, 2] rfl
  refine va_calli (vx_runSW (As := [.ref (a 0), .int (xs 1), .int (xs 2), .ref o0]) (rest := []) ⟨hx, hb, hml, hown, hts⟩ (l_why l hlt dC dI a k o0 ko (fun _ => 0) (xs 1) (xs 2) H.size ) (vx_cwSW 4 hts (goodIn_app (goodIn_r _ [18, 19, 20] (by decide +kernel) (by decide +kernel)) (goodIn_ca (goodIn_r _ [1, 2, 3, 4, 5, 6, 7, 8, 9, 10, 11, 12, 13, 14, 15, 16, 17] (by decide +kernel) (by decide +kernel)) (bs_in _ _))) rfl rfl rfl (by decide +kernel) ⟨(Nat.le_of_ble_eq_true rfl), (Nat.le_of_ble_eq_true rfl)⟩) ⟨fun a U g mk q => by obtain ⟨q0, q1, qP, qK, qD, qE, qN⟩ := q; exact ⟨q0, q1, qP, va_K.moved (u := U) (U := U.calling g mk a) (Vm.Alike.refl U.vm) qK, qD, EV.blind g mk a qE, NC.blind g mk a qN⟩, fun U hU hW => ⟨rfl, by rw [hU], by rw [hU]; exact hPc, va_K.moved hW.alike hKc, hDc.weaken (fun _ _ _ _ => trivial), hE.call hS hFc hU hW, hN.call hW⟩⟩ rfl rfl hl.1 rfl (lv_room (Nat.le_of_ble_eq_true rfl)) dL_law_2013 ⟨(Nat.le_of_ble_eq_true rfl), (Nat.le_of_ble_eq_true rfl)⟩) hS (fun q _ h => hFc q h) hFc (fun r6 u t H1 locs ht hvm hw7 hB hz1 hk1 hS => ?_)
  obtain ⟨fu8, rfl⟩ : ∃ z, z = u := ⟨_, rfl⟩
  obtain ⟨hP1, hD1⟩ := hB
  rw [ht] at hP1
  obtain ⟨hP, hD⟩ := va_join (wr := [(h0, .inr (15, mF q 0))]) (w1 := [(o0, .inl (ko, 1, .inr (.inl fu8)))]) hP hD [0, 1, 2] [3] rfl rfl (by decide) (by decide) hk1 hFc hP1 hD1
  generalize H1 = H at hP hS ⊢
  have hP : va_P (dC, dI) vwCl [(h0, .inr (15, mF q 0)), (o0, .inl (ko, 1, .inr (.inl fu8)))] H := hP
  have hD : va_D A [(h0, .inr (15, mF q 0)), (o0, .inl (ko, 1, .inr (.inl fu8)))] := hD
  try dsimp only at hw7
  obtain rfl : 1 = r6 := hw7.symm
  refine lv_istore (lv' := [(5, .int 1), (0, .ref b), (1, .ref (a 0)), (2, .ref h0), (3, .ref o0), (4, .int 0)]) hx hb dL_law_2016 hl (by decide) rfl (fun ls hl => ?_)
  refine lv_aload_n hx hb dL_law_2018 rfl (lv_at hl 3 rfl) ?_
  refine lv_aload_n hx hb dL_law_2019 rfl (lv_at hl 1 rfl) ?_
  refine lv_iload hx hb dL_law_2020 (lv_at hl 5 rfl) ?_
  refine lv_iconst (v := 1) hx hb dL_law_2022 (by decide) ?_
  refine lv_iadd hx hb dL_law_2023 ?_
  refine lv_topi (fun x9 ex9 => ?_)
  obtain rfl : x9 = 1 := ex9.trans (by decide)
  refine va_sld hx hb hX hbl hbA hS (i := 1) (by unfold vp_in; decide) dL_law_2024 ?_
  refine lv_topi (fun x10 ex10 => ?_)
  obtain rfl : xs 1 = x10 := (ex10).symm
  refine lv_aload_n hx hb dL_law_2025 rfl (lv_at hl 1 rfl) ?_
  refine lv_iload hx hb dL_law_2026 (lv_at hl 5 rfl) ?_
  refine lv_iconst (v := 2) hx hb dL_law_2028 (by decide) ?_
  refine lv_iadd hx hb dL_law_2029 ?_
  refine lv_topi (fun x11 ex11 => ?_)
  obtain rfl : x11 = 2 := ex11.trans (by decide)
  refine va_sld hx hb hX hbl hbA hS (i := 2) (by unfold vp_in; decide) dL_law_2030 ?_
  refine lv_topi (fun x12 ex12 => ?_)
  obtain rfl : xs 2 = x12 := (ex12).symm
  have hPc := hP.sub (ws' := [(h0, .inr (15, mF q 0))]) [0] rfl
  have hDc := hD.sub (ws' := [(h0, .inr (15, mF q 0))]) [0] (by decide) rfl
  have hKc := hK.sub (tys' := []) [] rfl
  have hFc := va_free (wc := [(h0, .inr (15, mF q 0))]) hD hS hA [0] rfl
  refine va_calli (va_runV (As := [.int (xs 1), .int (xs 2)]) (rest := []) ⟨hx, hb, hml, hown, hts⟩ (m_why l dC dI h0 q cm (xs 1) (xs 2) H.size ) (cwV 2 hts (goodIn_app (goodIn_r _ [36, 37, 38, 28] (by decide +kernel) (by decide +kernel)) (goodIn_ca (goodIn_r _ [21, 22, 23, 24, 25, 26, 27, 28, 29, 30, 31, 32, 33, 34, 35] (by decide +kernel) (by decide +kernel)) (bs_in _ _))) rfl rfl rfl (by decide +kernel) ⟨(Nat.le_of_ble_eq_true rfl), (Nat.le_of_ble_eq_true rfl)⟩) ⟨fun a U g mk q => by obtain ⟨q0, q1, qP, qK, qD⟩ := q; exact ⟨q0, q1, qP, va_K.moved (u := U) (U := U.calling g mk a) (Vm.Alike.refl U.vm) qK, qD⟩, va_recv hKc hPc (ci := 15) (q0 := 0) rfl rfl, fun U hU hW => ⟨rfl, by rw [hU], by rw [hU]; exact hPc, va_K.moved hW.alike hKc, hDc.weaken (fun _ _ _ _ => trivial)⟩⟩ rfl rfl hl.1 rfl (lv_room (Nat.le_of_ble_eq_true rfl)) dL_law_2031 ⟨(Nat.le_of_ble_eq_true rfl), (Nat.le_of_ble_eq_true rfl)⟩) hS (fun q _ h => hFc q h) hFc (fun r14 u t H1 locs ht hvm hw15 hB hz1 hk1 hS => ?_)
  obtain ⟨fs16, rfl⟩ : ∃ z, z = u := ⟨_, rfl⟩
  obtain ⟨hP1, hD1⟩ := hB
  rw [ht] at hP1
  obtain ⟨hP, hD⟩ := va_join (wr := [(o0, .inl (ko, 1, .inr (.inl fu8)))]) (w1 := [(h0, .inr (15, fs16))]) hP hD [0] [1] rfl rfl (by decide) (by decide) hk1 hFc hP1 hD1
  generalize H1 = H at hP hS ⊢
  have hP : va_P (dC, dI) vwCl [(o0, .inl (ko, 1, .inr (.inl fu8))), (h0, .inr (15, fs16))] H := hP
  have hD : va_D A [(o0, .inl (ko, 1, .inr (.inl fu8))), (h0, .inr (15, fs16))] := hD
  try dsimp only at hw15
  refine lv_istore (lv' := [(6, .int r14), (5, .int 1), (0, .ref b), (1, .ref (a 0)), (2, .ref h0), (3, .ref o0), (4, .int 0)]) hx hb dL_law_2034 hl (by decide) rfl (fun ls hl => ?_)
  refine lv_aload_n hx hb dL_law_2036 rfl (lv_at hl 4 rfl) ?_
  have hPc := hP.sub (ws' := [(h0, .inr (15, fs16))]) [1] rfl
  have hDc := hD.sub (ws' := [(h0, .inr (15, fs16))]) [1] (by decide) rfl
  have hKc := hK.sub (tys' := []) [] rfl
  have hFc := va_free (wc := [(h0, .inr (15, fs16))]) hD hS hA [1] rfl
  refine va_calli (va_runV (As := []) (rest := []) ⟨hx, hb, hml, hown, hts⟩ (m_thrown l dC dI h0 fs16 1 H.size hw15) (cwV 0 hts (goodIn_app (goodIn_r _ [40, 41, 42, 28] (by decide +kernel) (by decide +kernel)) (goodIn_ca (goodIn_r _ [39, 22] (by decide +kernel) (by decide +kernel)) (bs_in _ _))) rfl rfl rfl (by decide +kernel) ⟨(Nat.le_of_ble_eq_true rfl), (Nat.le_of_ble_eq_true rfl)⟩) ⟨fun a U g mk q => by obtain ⟨q0, q1, qP, qK, qD⟩ := q; exact ⟨q0, q1, qP, va_K.moved (u := U) (U := U.calling g mk a) (Vm.Alike.refl U.vm) qK, qD⟩, va_recv hKc hPc (ci := 15) (q0 := 0) rfl rfl, fun U hU hW => ⟨rfl, by rw [hU], by rw [hU]; exact hPc, va_K.moved hW.alike hKc, hDc.weaken (fun _ _ _ _ => trivial)⟩⟩ rfl rfl hl.1 rfl (lv_room (Nat.le_of_ble_eq_true rfl)) dL_law_2037 ⟨(Nat.le_of_ble_eq_true rfl), (Nat.le_of_ble_eq_true rfl)⟩) hS (fun q _ h => hFc q h) hFc (fun r18 u t H1 locs ht hvm hw19 hB hz1 hk1 hS => ?_)
  have hP1 : va_P (dC, dI) vwCl [] H1 := nilP
  have hD1 : va_D (va_A [(h0, .inr (15, fs16))] H.size) [] := nilD
  have hK := hK
  obtain ⟨hP, hD⟩ := va_join (wr := [(o0, .inl (ko, 1, .inr (.inl fu8)))]) (w1 := []) hP hD [1] [0] rfl rfl (by decide) (by decide) hk1 hFc hP1 hD1
  generalize H1 = H at hP hS ⊢
  have hP : va_P (dC, dI) vwCl [(o0, .inl (ko, 1, .inr (.inl fu8)))] H := hP
  have hD : va_D A [(o0, .inl (ko, 1, .inr (.inl fu8)))] := hD
  try dsimp only at hw19
  obtain rfl : 1 = r18 := hw19.symm
  refine lv_iload hx hb dL_law_2040 (lv_at hl 1 rfl) ?_
  refine lv_icmp_eq (tgt := 2047) hx hb dL_law_2042 (by decide) (fun c20 => ?_) (fun c20 => absurd c20 (by decide))
  refine lv_iload hx hb dL_law_2047 (lv_at hl 1 rfl) ?_
  refine lv_if_ne (tgt := 2064) hx hb dL_law_2049 (by decide) (fun c21 => ?_) (fun c21 => absurd c21 (by decide))
  refine lv_goto (tgt := 3762) hx hb dL_law_2064 (by decide) ?_
  exact law_tail hx hb hr hlocks hX hbl hbA hAi hS (Nat.le_of_ble_eq_true rfl) (Nat.le_of_ble_eq_true rfl) ls (lv_sub hl [2, 6] rfl)
def w_law_26 : List Cond := .initialized RL :: ([.codeWith yL_lawLevel cL_lawLevel 4 (some .int) [(0, 9, 12, 13)], .code yX11_lawLevel cX11_lawLevel 3 (some .int), .code yX11_needSquare cX11_needSquare 1 none, .code yX11_within cX11_within 3 (some .boolean), .methodLink RX11 58 yX11_within, .static yX11_within, .initialized RX11, .classLink RX11 557 "java/lang/IndexOutOfBoundsException", .initialized "java/lang/IndexOutOfBoundsException", .methodLink RX11 55 yX11_needSquare, .static yX11_needSquare, .fieldLink RX11 16 "SeaLand" "lake" "LSeaLand$Lake;", .code yX3_dayNow cX3_dayNow 1 (some .int), .fieldLink RX3 32 "SeaLand$Lake" "hour" "I", .methodLink RX11 334 yX3_dayNow, .instanceMethod yX3_dayNow, .selects RX3 yX3_dayNow yX3_dayNow, .initialized RX3, .fieldLink RX11 30 "SeaLand" "board" "LSeaLand$Board;", .code yX4_levelFor cX4_levelFor 5 (some .int), .fieldLink RX4 60 "SeaLand$Law" "lines" "I", .methodLink RX11 337 yX4_levelFor, .instanceMethod yX4_levelFor, .selects RX4 yX4_levelFor yX4_levelFor, .initialized RX4, .methodLink RL 104 yX11_lawLevel, .instanceMethod yX11_lawLevel, .selects RX11 yX11_lawLevel yX11_lawLevel, .classLink RL 13 "java/lang/IndexOutOfBoundsException", .methodLink RL 269 yL_lawLevel, .static yL_lawLevel, .initialized RL, .code yX12_lawLevel cX12_lawLevel 4 (some .int), .fieldLink RX12 194 "SeaLandModel" "thrown" "I", .code yX12_noSquare cX12_noSquare 1 (some .boolean), .code yX12_in cX12_in 3 (some .boolean), .methodLink RX12 197 yX12_in, .static yX12_in, .initialized RX12, .methodLink RX12 220 yX12_noSquare, .static yX12_noSquare, .code yX12_throwsIf cX12_throwsIf 3 (some .boolean), .methodLink RX12 224 yX12_throwsIf, .instanceMethod yX12_throwsIf, .selects RX12 yX12_throwsIf yX12_throwsIf, .fieldLink RX12 42 "SeaLandModel" "lines" "[I", .methodLink RL 271 yX12_lawLevel, .instanceMethod yX12_lawLevel, .selects RX12 yX12_lawLevel yX12_lawLevel, .code yX12_thrown cX12_thrown 1 (some .int), .methodLink RL 187 yX12_thrown, .instanceMethod yX12_thrown, .selects RX12 yX12_thrown yX12_thrown] ++ bs)
set_option maxRecDepth 100000 in
theorem wm_26 : ∀ w ∈ w_law_26, w ∈ lw_tbl := lw_ins (List.mem_of_getElem? (i := 110) (by decide +kernel)) (lw_in _ (1590 :: 1594 :: 899 :: 902 :: 900 :: 901 :: 111 :: 903 :: 126 :: 897 :: 898 :: 589 :: 643 :: 357 :: 787 :: 641 :: 642 :: 112 :: 591 :: 1598 :: 418 :: 1595 :: 1596 :: 1597 :: 119 :: 1591 :: 1592 :: 1593 :: 811 :: 1588 :: 1589 :: 110 :: 2606 :: 1969 :: 2214 :: 2217 :: 2215 :: 2216 :: 122 :: 2212 :: 2213 :: 2221 :: 2218 :: 2220 :: 44 :: 1987 :: 2603 :: 2604 :: 2605 :: 2207 :: 2204 :: 2205 :: 2206 :: []) (by decide +kernel))
set_option maxHeartbeats 4000000 in
set_option maxRecDepth 100000 in
/-- lawLevel -/
theorem law_26 {p : Program} {e : Env} {s : State} {m : MethodId} {below : List Frame} {meth : Method} {c : Code} (l : Launch) (hlt : l.stackTraces = false) {b : Nat} {xs : Nat → Int32} {A : Nat → Prop} (hx : p.tables.exec = Jvm.exec) (hb : c.code = code) (hr : meth.sig.returnType = ret) (hml : c.maxLocals = 7) (hown : s.vm.findClass RL = some m.cls) (hts : ∀ w ∈ w_law_26, w.before #[Value.ref b] s = true) (hX : va_X b 8 xs s s.heap) (hbl : b < s.heap.size) (hbA : ¬ A b) (hlocks : meth.locks = false) (hE : EV A s s.heap) (hN : NC s) (hA : ∀ q : Nat, s.heap.size ≤ q → A q) (hAi : ∀ q : Nat, A q → s.heap.size ≤ q) {dC : Nat → ClassId} {dI : Nat → Nat → Nat} (a : Nat → Nat) (k : Nat → ClassId) (h0 : Nat) (q : Nat → Nat) (cm : Nat → ClassId) (o0 : Nat) (ko : ClassId) (H : Heap) (locs : List Loc) (hK : va_K (dC, dI) vwCl [(ko, .long), ((cm 18), .int)] s) (hP : va_P (dC, dI) vwCl [(a 0, .inr (14, [.ref (a 1), .ref (a 2), .ref (a 27), .ref (a 30), .ref (a 74), .ref (a 75), .null, .int 0, .int 0])), (a 2, .inr (6, [.ref (a 3), .ref (a 14), .ref (a 26), .int 0, .int 0])), (a 30, .inr (3, [.ref (a 31), .ref (a 32), .ref (a 33), .ref (a 34), .ref (a 35), .ref (a 36), .ref (a 37), .ref (a 38), .ref (a 50), .ref (a 62), .int (-1), .int 0, .long 0, .long 0, .int 0, .int 0, .int 0, .int 0])), (a 38, .inr (7, [.ref (a 39), .ref (a 40), .ref (a 41), .ref (a 42), .ref (a 43), .ref (a 44), .ref (a 45), .ref (a 46), .ref (a 47), .ref (a 48), .ref (a 49), .int 0, .int 0, .int 0])), (o0, .inl (ko, 1, .inr (.inl (fun _ => 0)))), (h0, .inr (15, mF q 0)), (q 18, .inl ((cm 18), 3, .inl (fun _ => 0)))] H) (hD : va_D A [(a 0, .inr (14, [.ref (a 1), .ref (a 2), .ref (a 27), .ref (a 30), .ref (a 74), .ref (a 75), .null, .int 0, .int 0])), (a 2, .inr (6, [.ref (a 3), .ref (a 14), .ref (a 26), .int 0, .int 0])), (a 30, .inr (3, [.ref (a 31), .ref (a 32), .ref (a 33), .ref (a 34), .ref (a 35), .ref (a 36), .ref (a 37), .ref (a 38), .ref (a 50), .ref (a 62), .int (-1), .int 0, .long 0, .long 0, .int 0, .int 0, .int 0, .int 0])), (a 38, .inr (7, [.ref (a 39), .ref (a 40), .ref (a 41), .ref (a 42), .ref (a 43), .ref (a 44), .ref (a 45), .ref (a 46), .ref (a 47), .ref (a 48), .ref (a 49), .int 0, .int 0, .int 0])), (o0, .inl (ko, 1, .inr (.inl (fun _ => 0)))), (h0, .inr (15, mF q 0)), (q 18, .inl ((cm 18), 3, .inl (fun _ => 0)))]) (hS : va_S A s.heap H locs) (ls : Array Slot) (hl : lv_has ls 7 [(0, .ref b), (1, .ref (a 0)), (2, .ref h0), (3, .ref o0), (4, .int 0)]) : W p l e room_1 s m #[Value.ref b] below meth c H locs 238 27427 (lw_Z below #[Value.ref b] s) (F0 m 2067 ls []) := by
  refine lv_aload_n hx hb dL_law_2067 rfl (lv_at hl 1 rfl) ?_
  refine lv_aload_n hx hb dL_law_2068 rfl (lv_at hl 0 rfl) ?_
  refine lv_iload hx hb dL_law_2069 (lv_at hl 4 rfl) ?_
  refine lv_iconst (v := 1) hx hb dL_law_2071 (by decide) ?_
  refine lv_iadd hx hb dL_law_2072 ?_
  refine lv_topi (fun x1 ex1 => ?_)
  obtain rfl : x1 = 1 := ex1.trans (by decide)
  refine va_sld hx hb hX hbl hbA hS (i := 1) (by unfold vp_in; decide) dL_law_2073 ?_
  refine lv_topi (fun x2 ex2 => ?_)
  obtain rfl : xs 1 = x2 := (ex2).symm
  refine lv_aload_n hx hb dL_law_2074 rfl (lv_at hl 3 rfl) ?_
  have hPc := hP.sub (ws' := [(a 0, .inr (14, [.ref (a 1), .ref (a 2), .ref (a 27), .ref (a 30), .ref (a 74), .ref (a 75), .null, .int 0, .int 0])), (a 2, .inr (6, [.ref (a 3), .ref (a 14), .ref (a 26), .int 0, .int 0])), (a 30, .inr (3, [.ref (a 31), .ref (a 32), .ref (a 33), .ref (a 34), .ref (a 35), .ref (a 36), .ref (a 37), .ref (a 38), .ref (a 50), .ref (a 62), .int (-1), .int 0, .long 0, .long 0, .int 0, .int 0, .int 0, .int 0])), (a 38, .inr (7, [.ref (a 39), .ref (a 40), .ref (a 41), .ref (a 42), .ref (a 43), .ref (a 44), .ref (a 45), .ref (a 46), .ref (a 47), .ref (a 48), .ref (a 49), .int 0, .int 0, .int 0])), (o0, .inl (ko, 1, .inr (.inl (fun _ => 0))))]) [0, 1, 2, 3, 4] rfl
  have hDc := hD.sub (ws' := [(a 0, .inr (14, [.ref (a 1), .ref (a 2), .ref (a 27), .ref (a 30), .ref (a 74), .ref (a 75), .null, .int 0, .int 0])), (a 2, .inr (6, [.ref (a 3), .ref (a 14), .ref (a 26), .int 0, .int 0])), (a 30, .inr (3, [.ref (a 31), .ref (a 32), .ref (a 33), .ref (a 34), .ref (a 35), .ref (a 36), .ref (a 37), .ref (a 38), .ref (a 50), .ref (a 62), .int (-1), .int 0, .long 0, .long 0, .int 0, .int 0, .int 0, .int 0])), (a 38, .inr (7, [.ref (a 39), .ref (a 40), .ref (a 41), .ref (a 42), .ref (a 43), .ref (a 44), .ref (a 45), .ref (a 46), .ref (a 47), .ref (a 48), .ref (a 49), .int 0, .int 0, .int 0])), (o0, .inl (ko, 1, .inr (.inl (fun _ => 0))))]) [0, 1, 2, 3, 4] (by decide) rfl
  have hKc := hK.sub (tys' := [(ko, .long)]) [0] rfl
  have hFc := va_free (wc := [(a 0, .inr (14, [.ref (a 1), .ref (a 2), .ref (a 27), .ref (a 30), .ref (a 74), .ref (a 75), .null, .int 0, .int 0])), (a 2, .inr (6, [.ref (a 3), .ref (a 14), .ref (a 26), .int 0, .int 0])), (a 30, .inr (3, [.ref (a 31), .ref (a 32), .ref (a 33), .ref (a 34), .ref (a 35), .ref (a 36), .ref (a 37), .ref (a 38), .ref (a 50), .ref (a 62), .int (-1), .int 0, .long 0, .long 0, .int 0, .int 0, .int 0, .int 0])), (a 38, .inr (7, [.ref (a 39), .ref (a 40), .ref (a 41), .ref (a 42), .ref (a 43), .ref (a 44), .ref (a 45), .ref (a 46), .ref (a 47), .ref (a 48), .ref (a 49), .int 0, .int 0, .int 0])), (o0, .inl (ko, 1, .inr (.inl (fun _ => 0))))]) hD hS hA [0, 1, 2, 3, 4] rfl
  refine va_calli (vx_runSW (As := [.ref (a 0), .int (xs 1), .ref o0]) (rest := []) ⟨hx, hb, hml, hown, hts⟩ (l_lawLevel l hlt dC dI a k o0 ko (fun _ => 0) (xs 1) H.size ) (vx_cwSW 3 hts (goodIn_app (goodIn_r _ [30, 31, 32] (by decide +kernel) (by decide +kernel)) (goodIn_ca (goodIn_r _ [1, 2, 3, 4, 5, 6, 7, 8, 9, 10, 11, 12, 13, 14, 15, 16, 17, 18, 19, 20, 21, 22, 23, 24, 25, 26, 27, 28, 29] (by decide +kernel) (by decide +kernel)) (bs_in _ _))) rfl rfl rfl (by decide +kernel) ⟨(Nat.le_of_ble_eq_true rfl), (Nat.le_of_ble_eq_true rfl)⟩) ⟨fun a U g mk q => by obtain ⟨q0, q1, qP, qK, qD, qE, qN⟩ := q; exact ⟨q0, q1, qP, va_K.moved (u := U) (U := U.calling g mk a) (Vm.Alike.refl U.vm) qK, qD, EV.blind g mk a qE, NC.blind g mk a qN⟩, fun U hU hW => ⟨rfl, by rw [hU], by rw [hU]; exact hPc, va_K.moved hW.alike hKc, hDc.weaken (fun _ _ _ _ => trivial), hE.call hS hFc hU hW, hN.call hW⟩⟩ rfl rfl hl.1 rfl (lv_room (Nat.le_of_ble_eq_true rfl)) dL_law_2075 ⟨(Nat.le_of_ble_eq_true rfl), (Nat.le_of_ble_eq_true rfl)⟩) hS (fun q _ h => hFc q h) hFc (fun r4 u t H1 locs ht hvm hw5 hB hz1 hk1 hS => ?_)
  obtain ⟨fu6, rfl⟩ : ∃ z, z = u := ⟨_, rfl⟩
  obtain ⟨hP1, hD1⟩ := hB
  rw [ht] at hP1
  obtain ⟨hP, hD⟩ := va_join (wr := [(h0, .inr (15, mF q 0)), (q 18, .inl ((cm 18), 3, .inl (fun _ => 0)))]) (w1 := [(o0, .inl (ko, 1, .inr (.inl fu6)))]) hP hD [0, 1, 2, 3, 4] [5, 6] rfl rfl (by decide) (by decide) hk1 hFc hP1 hD1
  generalize H1 = H at hP hS ⊢
  have hP : va_P (dC, dI) vwCl [(h0, .inr (15, mF q 0)), (q 18, .inl ((cm 18), 3, .inl (fun _ => 0))), (o0, .inl (ko, 1, .inr (.inl fu6)))] H := hP
  have hD : va_D A [(h0, .inr (15, mF q 0)), (q 18, .inl ((cm 18), 3, .inl (fun _ => 0))), (o0, .inl (ko, 1, .inr (.inl fu6)))] := hD
  try dsimp only at hw5
  obtain rfl : (T_lawLevel (xs 1)).1 = r4 := hw5.1.symm
  refine lv_istore (lv' := [(5, .int ((T_lawLevel (xs 1)).1)), (0, .ref b), (1, .ref (a 0)), (2, .ref h0), (3, .ref o0), (4, .int 0)]) hx hb dL_law_2078 hl (by decide) rfl (fun ls hl => ?_)
  refine lv_aload_n hx hb dL_law_2080 rfl (lv_at hl 3 rfl) ?_
  refine lv_aload_n hx hb dL_law_2081 rfl (lv_at hl 1 rfl) ?_
  refine lv_iload hx hb dL_law_2082 (lv_at hl 5 rfl) ?_
  refine lv_iconst (v := 1) hx hb dL_law_2084 (by decide) ?_
  refine lv_iadd hx hb dL_law_2085 ?_
  refine lv_topi (fun x7 ex7 => ?_)
  obtain rfl : x7 = 1 := ex7.trans (by decide)
  refine va_sld hx hb hX hbl hbA hS (i := 1) (by unfold vp_in; decide) dL_law_2086 ?_
  refine lv_topi (fun x8 ex8 => ?_)
  obtain rfl : xs 1 = x8 := (ex8).symm
  have hPc := hP.sub (ws' := [(h0, .inr (15, mF q 0)), (q 18, .inl ((cm 18), 3, .inl (fun _ => 0)))]) [0, 1] rfl
  have hDc := hD.sub (ws' := [(h0, .inr (15, mF q 0)), (q 18, .inl ((cm 18), 3, .inl (fun _ => 0)))]) [0, 1] (by decide) rfl
  have hKc := hK.sub (tys' := [((cm 18), .int)]) [1] rfl
  have hFc := va_free (wc := [(h0, .inr (15, mF q 0)), (q 18, .inl ((cm 18), 3, .inl (fun _ => 0)))]) hD hS hA [0, 1] rfl
  refine va_calli (va_runV (As := [.int (xs 1)]) (rest := []) ⟨hx, hb, hml, hown, hts⟩ (m_lawLevel l dC dI h0 q cm (xs 1) H.size ) (cwV 1 hts (goodIn_app (goodIn_r _ [47, 48, 49, 39] (by decide +kernel) (by decide +kernel)) (goodIn_ca (goodIn_r _ [33, 34, 35, 36, 37, 38, 39, 40, 41, 42, 43, 44, 45, 46] (by decide +kernel) (by decide +kernel)) (bs_in _ _))) rfl rfl rfl (by decide +kernel) ⟨(Nat.le_of_ble_eq_true rfl), (Nat.le_of_ble_eq_true rfl)⟩) ⟨fun a U g mk q => by obtain ⟨q0, q1, qP, qK, qD⟩ := q; exact ⟨q0, q1, qP, va_K.moved (u := U) (U := U.calling g mk a) (Vm.Alike.refl U.vm) qK, qD⟩, va_recv hKc hPc (ci := 15) (q0 := 0) rfl rfl, fun U hU hW => ⟨rfl, by rw [hU], by rw [hU]; exact hPc, va_K.moved hW.alike hKc, hDc.weaken (fun _ _ _ _ => trivial)⟩⟩ rfl rfl hl.1 rfl (lv_room (Nat.le_of_ble_eq_true rfl)) dL_law_2087 ⟨(Nat.le_of_ble_eq_true rfl), (Nat.le_of_ble_eq_true rfl)⟩) hS (fun q _ h => hFc q h) hFc (fun r10 u t H1 locs ht hvm hw11 hB hz1 hk1 hS => ?_)
  obtain ⟨fs12, rfl⟩ : ∃ z, z = u := ⟨_, rfl⟩
  obtain ⟨hP1, hD1⟩ := hB
  rw [ht] at hP1
  obtain ⟨hP, hD⟩ := va_join (wr := [(o0, .inl (ko, 1, .inr (.inl fu6)))]) (w1 := [(h0, .inr (15, fs12))]) hP hD [0, 1] [2] rfl rfl (by decide) (by decide) hk1 hFc hP1 hD1
  generalize H1 = H at hP hS ⊢
  have hP : va_P (dC, dI) vwCl [(o0, .inl (ko, 1, .inr (.inl fu6))), (h0, .inr (15, fs12))] H := hP
  have hD : va_D A [(o0, .inl (ko, 1, .inr (.inl fu6))), (h0, .inr (15, fs12))] := hD
  try dsimp only at hw11
  refine lv_istore (lv' := [(6, .int r10), (5, .int ((T_lawLevel (xs 1)).1)), (0, .ref b), (1, .ref (a 0)), (2, .ref h0), (3, .ref o0), (4, .int 0)]) hx hb dL_law_2090 hl (by decide) rfl (fun ls hl => ?_)
  refine lv_aload_n hx hb dL_law_2092 rfl (lv_at hl 4 rfl) ?_
  have hPc := hP.sub (ws' := [(h0, .inr (15, fs12))]) [1] rfl
  have hDc := hD.sub (ws' := [(h0, .inr (15, fs12))]) [1] (by decide) rfl
  have hKc := hK.sub (tys' := []) [] rfl
  have hFc := va_free (wc := [(h0, .inr (15, fs12))]) hD hS hA [1] rfl
  refine va_calli (va_runV (As := []) (rest := []) ⟨hx, hb, hml, hown, hts⟩ (m_thrown l dC dI h0 fs12 ((T_lawLevel (xs 1)).1) H.size hw11.1) (cwV 0 hts (goodIn_app (goodIn_r _ [51, 52, 53, 39] (by decide +kernel) (by decide +kernel)) (goodIn_ca (goodIn_r _ [50, 34] (by decide +kernel) (by decide +kernel)) (bs_in _ _))) rfl rfl rfl (by decide +kernel) ⟨(Nat.le_of_ble_eq_true rfl), (Nat.le_of_ble_eq_true rfl)⟩) ⟨fun a U g mk q => by obtain ⟨q0, q1, qP, qK, qD⟩ := q; exact ⟨q0, q1, qP, va_K.moved (u := U) (U := U.calling g mk a) (Vm.Alike.refl U.vm) qK, qD⟩, va_recv hKc hPc (ci := 15) (q0 := 0) rfl rfl, fun U hU hW => ⟨rfl, by rw [hU], by rw [hU]; exact hPc, va_K.moved hW.alike hKc, hDc.weaken (fun _ _ _ _ => trivial)⟩⟩ rfl rfl hl.1 rfl (lv_room (Nat.le_of_ble_eq_true rfl)) dL_law_2093 ⟨(Nat.le_of_ble_eq_true rfl), (Nat.le_of_ble_eq_true rfl)⟩) hS (fun q _ h => hFc q h) hFc (fun r14 u t H1 locs ht hvm hw15 hB hz1 hk1 hS => ?_)
  have hP1 : va_P (dC, dI) vwCl [] H1 := nilP
  have hD1 : va_D (va_A [(h0, .inr (15, fs12))] H.size) [] := nilD
  have hK := hK
  obtain ⟨hP, hD⟩ := va_join (wr := [(o0, .inl (ko, 1, .inr (.inl fu6)))]) (w1 := []) hP hD [1] [0] rfl rfl (by decide) (by decide) hk1 hFc hP1 hD1
  generalize H1 = H at hP hS ⊢
  have hP : va_P (dC, dI) vwCl [(o0, .inl (ko, 1, .inr (.inl fu6)))] H := hP
  have hD : va_D A [(o0, .inl (ko, 1, .inr (.inl fu6)))] := hD
  try dsimp only at hw15
  obtain rfl : (T_lawLevel (xs 1)).1 = r14 := hw15.symm
  refine lv_iload hx hb dL_law_2096 (lv_at hl 1 rfl) ?_
  refine lv_icmp_eq (tgt := 2103) hx hb dL_law_2098 (by decide) (fun c16 => ?_) (fun c16 => absurd rfl c16)
  refine lv_iload hx hb dL_law_2103 (lv_at hl 1 rfl) ?_
  refine lv_if_ne (tgt := 2120) hx hb dL_law_2105 (by decide) (fun c17 => ?_) (fun c17 => ?_)
  · refine lv_goto (tgt := 3762) hx hb dL_law_2120 (by decide) ?_
    exact law_tail hx hb hr hlocks hX hbl hbA hAi hS (Nat.le_of_ble_eq_true rfl) (Nat.le_of_ble_eq_true rfl) ls (lv_sub hl [2, 6] rfl)
  · refine lv_aload_n hx hb dL_law_2108 rfl (lv_at hl 5 rfl) ?_
    refine lv_iconst (v := 0) hx hb dL_law_2109 (by decide) ?_
    refine va_lald hx hb hK hP 0 0 rfl rfl (by unfold vp_in; decide) dL_law_2110 ?_
    refine lv_iload hx hb dL_law_2111 (lv_at hl 0 rfl) ?_
    refine lv_i2l (v := r10.toInt64) hx hb dL_law_2113 rfl ?_
    refine W.lcmp hx hb dL_law_2114 ?_
    refine lv_topi (fun x18 ex18 => ?_)
    obtain rfl : x18 = 0 := ex18.trans (by rw [show fu6 (0 : Int32).toNatClampNeg = (T_lawLevel (xs 1)).2.toInt64 from hw5.2 c17, hw11.2 c17]; exact lg_cmp_self _)
    refine lv_if_eq (tgt := 2120) hx hb dL_law_2115 (by decide) (fun c19 => ?_) (fun c19 => absurd c19 (by decide))
    refine lv_goto (tgt := 3762) hx hb dL_law_2120 (by decide) ?_
    exact law_tail hx hb hr hlocks hX hbl hbA hAi hS (Nat.le_of_ble_eq_true rfl) (Nat.le_of_ble_eq_true rfl) ls (lv_sub hl [2, 6] rfl)
def w_law_27 : List Cond := .initialized RL :: ([.codeWith yL_mayBuild cL_mayBuild 4 (some .int) [(0, 16, 19, 13)], .code yX11_mayBuild cX11_mayBuild 2 (some .boolean), .code yX11_needSquare cX11_needSquare 1 none, .code yX11_within cX11_within 3 (some .boolean), .methodLink RX11 58 yX11_within, .static yX11_within, .initialized RX11, .classLink RX11 557 "java/lang/IndexOutOfBoundsException", .initialized "java/lang/IndexOutOfBoundsException", .methodLink RX11 55 yX11_needSquare, .static yX11_needSquare, .fieldLink RX11 30 "SeaLand" "board" "LSeaLand$Board;", .fieldLink RX11 16 "SeaLand" "lake" "LSeaLand$Lake;", .code yX0_buildingAllowed cX0_buildingAllowed 3 (some .boolean), .code yX3_stepsToBank cX3_stepsToBank 4 (some .int), .fieldLink RX3 47 "SeaLand$Lake" "built" "I", .methodLink RX0 138 yX3_stepsToBank, .instanceMethod yX3_stepsToBank, .selects RX3 yX3_stepsToBank yX3_stepsToBank, .initialized RX3, .fieldLink RX0 41 "SeaLand$Board" "force" "LSeaLand$Law;", .code yX4_lastOf cX4_lastOf 5 (some .int), .fieldLink RX4 60 "SeaLand$Law" "lines" "I", .methodLink RX0 94 yX4_lastOf, .instanceMethod yX4_lastOf, .selects RX4 yX4_lastOf yX4_lastOf, .initialized RX4, .methodLink RX11 190 yX0_buildingAllowed, .instanceMethod yX0_buildingAllowed, .selects RX0 yX0_buildingAllowed yX0_buildingAllowed, .initialized RX0, .methodLink RL 107 yX11_mayBuild, .instanceMethod yX11_mayBuild, .selects RX11 yX11_mayBuild yX11_mayBuild, .classLink RL 13 "java/lang/IndexOutOfBoundsException", .methodLink RL 272 yL_mayBuild, .static yL_mayBuild, .initialized RL, .code yX12_mayBuild cX12_mayBuild 2 (some .boolean), .fieldLink RX12 194 "SeaLandModel" "thrown" "I", .code yX12_noSquare cX12_noSquare 1 (some .boolean), .code yX12_in cX12_in 3 (some .boolean), .methodLink RX12 197 yX12_in, .static yX12_in, .initialized RX12, .methodLink RX12 220 yX12_noSquare, .static yX12_noSquare, .code yX12_throwsIf cX12_throwsIf 3 (some .boolean), .methodLink RX12 224 yX12_throwsIf, .instanceMethod yX12_throwsIf, .selects RX12 yX12_throwsIf yX12_throwsIf, .code yX12_mayBuildOn cX12_mayBuildOn 5 (some .boolean), .code yX12_lastOf cX12_lastOf 5 (some .int), .fieldLink RX12 42 "SeaLandModel" "lines" "[I", .methodLink RX12 492 yX12_lastOf, .instanceMethod yX12_lastOf, .selects RX12 yX12_lastOf yX12_lastOf, .fieldLink RX12 9 "SeaLandModel" "world" "[I", .methodLink RX12 279 yX12_mayBuildOn, .instanceMethod yX12_mayBuildOn, .selects RX12 yX12_mayBuildOn yX12_mayBuildOn, .methodLink RL 274 yX12_mayBuild, .instanceMethod yX12_mayBuild, .selects RX12 yX12_mayBuild yX12_mayBuild, .code yX12_thrown cX12_thrown 1 (some .int), .methodLink RL 187 yX12_thrown, .instanceMethod yX12_thrown, .selects RX12 yX12_thrown yX12_thrown] ++ bs)
set_option maxRecDepth 100000 in
theorem wm_27 : ∀ w ∈ w_law_27, w ∈ lw_tbl := lw_ins (List.mem_of_getElem? (i := 110) (by decide +kernel)) (lw_in _ (1602 :: 1606 :: 899 :: 902 :: 900 :: 901 :: 111 :: 903 :: 126 :: 897 :: 898 :: 591 :: 589 :: 1161 :: 673 :: 355 :: 670 :: 671 :: 672 :: 112 :: 469 :: 1165 :: 418 :: 1162 :: 1163 :: 1164 :: 119 :: 1158 :: 1159 :: 1160 :: 118 :: 1603 :: 1604 :: 1605 :: 811 :: 1600 :: 1601 :: 110 :: 2610 :: 1969 :: 2214 :: 2217 :: 2215 :: 2216 :: 122 :: 2212 :: 2213 :: 2221 :: 2218 :: 2220 :: 44 :: 2323 :: 2327 :: 1987 :: 2324 :: 2326 :: 59 :: 1970 :: 2320 :: 2322 :: 58 :: 2607 :: 2608 :: 2609 :: 2207 :: 2204 :: 2205 :: 2206 :: []) (by decide +kernel))
set_option maxHeartbeats 4000000 in
set_option maxRecDepth 100000 in
/-- mayBuild -/
theorem law_27 {p : Program} {e : Env} {s : State} {m : MethodId} {below : List Frame} {meth : Method} {c : Code} (l : Launch) (hlt : l.stackTraces = false) {b : Nat} {xs : Nat → Int32} {A : Nat → Prop} (hx : p.tables.exec = Jvm.exec) (hb : c.code = code) (hr : meth.sig.returnType = ret) (hml : c.maxLocals = 7) (hown : s.vm.findClass RL = some m.cls) (hts : ∀ w ∈ w_law_27, w.before #[Value.ref b] s = true) (hX : va_X b 8 xs s s.heap) (hbl : b < s.heap.size) (hbA : ¬ A b) (hlocks : meth.locks = false) (hE : EV A s s.heap) (hN : NC s) (hA : ∀ q : Nat, s.heap.size ≤ q → A q) (hAi : ∀ q : Nat, A q → s.heap.size ≤ q) {dC : Nat → ClassId} {dI : Nat → Nat → Nat} (a : Nat → Nat) (k : Nat → ClassId) (h0 : Nat) (q : Nat → Nat) (cm : Nat → ClassId) (o0 : Nat) (ko : ClassId) (H : Heap) (locs : List Loc) (hK : va_K (dC, dI) vwCl [(ko, .long), ((cm 1), .int), ((cm 18), .int)] s) (hP : va_P (dC, dI) vwCl [(a 0, .inr (14, [.ref (a 1), .ref (a 2), .ref (a 27), .ref (a 30), .ref (a 74), .ref (a 75), .null, .int 0, .int 0])), (a 2, .inr (6, [.ref (a 3), .ref (a 14), .ref (a 26), .int 0, .int 0])), (a 30, .inr (3, [.ref (a 31), .ref (a 32), .ref (a 33), .ref (a 34), .ref (a 35), .ref (a 36), .ref (a 37), .ref (a 38), .ref (a 50), .ref (a 62), .int (-1), .int 0, .long 0, .long 0, .int 0, .int 0, .int 0, .int 0])), (a 38, .inr (7, [.ref (a 39), .ref (a 40), .ref (a 41), .ref (a 42), .ref (a 43), .ref (a 44), .ref (a 45), .ref (a 46), .ref (a 47), .ref (a 48), .ref (a 49), .int 0, .int 0, .int 0])), (o0, .inl (ko, 1, .inr (.inl (fun _ => 0)))), (h0, .inr (15, mF q 0)), (q 1, .inl ((cm 1), 1749, .inl (fun _ => 0))), (q 18, .inl ((cm 18), 3, .inl (fun _ => 0)))] H) (hD : va_D A [(a 0, .inr (14, [.ref (a 1), .ref (a 2), .ref (a 27), .ref (a 30), .ref (a 74), .ref (a 75), .null, .int 0, .int 0])), (a 2, .inr (6, [.ref (a 3), .ref (a 14), .ref (a 26), .int 0, .int 0])), (a 30, .inr (3, [.ref (a 31), .ref (a 32), .ref (a 33), .ref (a 34), .ref (a 35), .ref (a 36), .ref (a 37), .ref (a 38), .ref (a 50), .ref (a 62), .int (-1), .int 0, .long 0, .long 0, .int 0, .int 0, .int 0, .int 0])), (a 38, .inr (7, [.ref (a 39), .ref (a 40), .ref (a 41), .ref (a 42), .ref (a 43), .ref (a 44), .ref (a 45), .ref (a 46), .ref (a 47), .ref (a 48), .ref (a 49), .int 0, .int 0, .int 0])), (o0, .inl (ko, 1, .inr (.inl (fun _ => 0)))), (h0, .inr (15, mF q 0)), (q 1, .inl ((cm 1), 1749, .inl (fun _ => 0))), (q 18, .inl ((cm 18), 3, .inl (fun _ => 0)))]) (hS : va_S A s.heap H locs) (ls : Array Slot) (hl : lv_has ls 7 [(0, .ref b), (1, .ref (a 0)), (2, .ref h0), (3, .ref o0), (4, .int 0)]) : W p l e room_1 s m #[Value.ref b] below meth c H locs 238 27427 (lw_Z below #[Value.ref b] s) (F0 m 2123 ls []) := by
  refine lv_aload_n hx hb dL_law_2123 rfl (lv_at hl 1 rfl) ?_
  refine lv_aload_n hx hb dL_law_2124 rfl (lv_at hl 0 rfl) ?_
  refine lv_iload hx hb dL_law_2125 (lv_at hl 4 rfl) ?_
  refine lv_iconst (v := 1) hx hb dL_law_2127 (by decide) ?_
  refine lv_iadd hx hb dL_law_2128 ?_
  refine lv_topi (fun x1 ex1 => ?_)
  obtain rfl : x1 = 1 := ex1.trans (by decide)
  refine va_sld hx hb hX hbl hbA hS (i := 1) (by unfold vp_in; decide) dL_law_2129 ?_
  refine lv_topi (fun x2 ex2 => ?_)
  obtain rfl : xs 1 = x2 := (ex2).symm
  refine lv_aload_n hx hb dL_law_2130 rfl (lv_at hl 3 rfl) ?_
  have hPc := hP.sub (ws' := [(a 0, .inr (14, [.ref (a 1), .ref (a 2), .ref (a 27), .ref (a 30), .ref (a 74), .ref (a 75), .null, .int 0, .int 0])), (a 2, .inr (6, [.ref (a 3), .ref (a 14), .ref (a 26), .int 0, .int 0])), (a 30, .inr (3, [.ref (a 31), .ref (a 32), .ref (a 33), .ref (a 34), .ref (a 35), .ref (a 36), .ref (a 37), .ref (a 38), .ref (a 50), .ref (a 62), .int (-1), .int 0, .long 0, .long 0, .int 0, .int 0, .int 0, .int 0])), (a 38, .inr (7, [.ref (a 39), .ref (a 40), .ref (a 41), .ref (a 42), .ref (a 43), .ref (a 44), .ref (a 45), .ref (a 46), .ref (a 47), .ref (a 48), .ref (a 49), .int 0, .int 0, .int 0])), (o0, .inl (ko, 1, .inr (.inl (fun _ => 0))))]) [0, 1, 2, 3, 4] rfl
  have hDc := hD.sub (ws' := [(a 0, .inr (14, [.ref (a 1), .ref (a 2), .ref (a 27), .ref (a 30), .ref (a 74), .ref (a 75), .null, .int 0, .int 0])), (a 2, .inr (6, [.ref (a 3), .ref (a 14), .ref (a 26), .int 0, .int 0])), (a 30, .inr (3, [.ref (a 31), .ref (a 32), .ref (a 33), .ref (a 34), .ref (a 35), .ref (a 36), .ref (a 37), .ref (a 38), .ref (a 50), .ref (a 62), .int (-1), .int 0, .long 0, .long 0, .int 0, .int 0, .int 0, .int 0])), (a 38, .inr (7, [.ref (a 39), .ref (a 40), .ref (a 41), .ref (a 42), .ref (a 43), .ref (a 44), .ref (a 45), .ref (a 46), .ref (a 47), .ref (a 48), .ref (a 49), .int 0, .int 0, .int 0])), (o0, .inl (ko, 1, .inr (.inl (fun _ => 0))))]) [0, 1, 2, 3, 4] (by decide) rfl
  have hKc := hK.sub (tys' := [(ko, .long)]) [0] rfl
  have hFc := va_free (wc := [(a 0, .inr (14, [.ref (a 1), .ref (a 2), .ref (a 27), .ref (a 30), .ref (a 74), .ref (a 75), .null, .int 0, .int 0])), (a 2, .inr (6, [.ref (a 3), .ref (a 14), .ref (a 26), .int 0, .int 0])), (a 30, .inr (3, [.ref (a 31), .ref (a 32), .ref (a 33), .ref (a 34), .ref (a 35), .ref (a 36), .ref (a 37), .ref (a 38), .ref (a 50), .ref (a 62), .int (-1), .int 0, .long 0, .long 0, .int 0, .int 0, .int 0, .int 0])), (a 38, .inr (7, [.ref (a 39), .ref (a 40), .ref (a 41), .ref (a 42), .ref (a 43), .ref (a 44), .ref (a 45), .ref (a 46), .ref (a 47), .ref (a 48), .ref (a 49), .int 0, .int 0, .int 0])), (o0, .inl (ko, 1, .inr (.inl (fun _ => 0))))]) hD hS hA [0, 1, 2, 3, 4] rfl
  refine va_calli (vx_runSW (As := [.ref (a 0), .int (xs 1), .ref o0]) (rest := []) ⟨hx, hb, hml, hown, hts⟩ (l_mayBuild l hlt dC dI a k o0 ko (fun _ => 0) (xs 1) H.size ) (vx_cwSW 3 hts (goodIn_app (goodIn_r _ [36, 37, 38] (by decide +kernel) (by decide +kernel)) (goodIn_ca (goodIn_r _ [1, 2, 3, 4, 5, 6, 7, 8, 9, 10, 11, 12, 13, 14, 15, 16, 17, 18, 19, 20, 21, 22, 23, 24, 25, 26, 27, 28, 29, 30, 31, 32, 33, 34, 35] (by decide +kernel) (by decide +kernel)) (bs_in _ _))) rfl rfl rfl (by decide +kernel) ⟨(Nat.le_of_ble_eq_true rfl), (Nat.le_of_ble_eq_true rfl)⟩) ⟨fun a U g mk q => by obtain ⟨q0, q1, qP, qK, qD, qE, qN⟩ := q; exact ⟨q0, q1, qP, va_K.moved (u := U) (U := U.calling g mk a) (Vm.Alike.refl U.vm) qK, qD, EV.blind g mk a qE, NC.blind g mk a qN⟩, fun U hU hW => ⟨rfl, by rw [hU], by rw [hU]; exact hPc, va_K.moved hW.alike hKc, hDc.weaken (fun _ _ _ _ => trivial), hE.call hS hFc hU hW, hN.call hW⟩⟩ rfl rfl hl.1 rfl (lv_room (Nat.le_of_ble_eq_true rfl)) dL_law_2131 ⟨(Nat.le_of_ble_eq_true rfl), (Nat.le_of_ble_eq_true rfl)⟩) hS (fun q _ h => hFc q h) hFc (fun r4 u t H1 locs ht hvm hw5 hB hz1 hk1 hS => ?_)
  obtain ⟨fu6, rfl⟩ : ∃ z, z = u := ⟨_, rfl⟩
  obtain ⟨hP1, hD1⟩ := hB
  rw [ht] at hP1
  obtain ⟨hP, hD⟩ := va_join (wr := [(h0, .inr (15, mF q 0)), (q 1, .inl ((cm 1), 1749, .inl (fun _ => 0))), (q 18, .inl ((cm 18), 3, .inl (fun _ => 0)))]) (w1 := [(o0, .inl (ko, 1, .inr (.inl fu6)))]) hP hD [0, 1, 2, 3, 4] [5, 6, 7] rfl rfl (by decide) (by decide) hk1 hFc hP1 hD1
  generalize H1 = H at hP hS ⊢
  have hP : va_P (dC, dI) vwCl [(h0, .inr (15, mF q 0)), (q 1, .inl ((cm 1), 1749, .inl (fun _ => 0))), (q 18, .inl ((cm 18), 3, .inl (fun _ => 0))), (o0, .inl (ko, 1, .inr (.inl fu6)))] H := hP
  have hD : va_D A [(h0, .inr (15, mF q 0)), (q 1, .inl ((cm 1), 1749, .inl (fun _ => 0))), (q 18, .inl ((cm 18), 3, .inl (fun _ => 0))), (o0, .inl (ko, 1, .inr (.inl fu6)))] := hD
  try dsimp only at hw5
  obtain rfl : (T_mayBuild (xs 1)).1 = r4 := hw5.1.symm
  refine lv_istore (lv' := [(5, .int ((T_mayBuild (xs 1)).1)), (0, .ref b), (1, .ref (a 0)), (2, .ref h0), (3, .ref o0), (4, .int 0)]) hx hb dL_law_2134 hl (by decide) rfl (fun ls hl => ?_)
  refine lv_aload_n hx hb dL_law_2136 rfl (lv_at hl 3 rfl) ?_
  refine lv_aload_n hx hb dL_law_2137 rfl (lv_at hl 1 rfl) ?_
  refine lv_iload hx hb dL_law_2138 (lv_at hl 5 rfl) ?_
  refine lv_iconst (v := 1) hx hb dL_law_2140 (by decide) ?_
  refine lv_iadd hx hb dL_law_2141 ?_
  refine lv_topi (fun x7 ex7 => ?_)
  obtain rfl : x7 = 1 := ex7.trans (by decide)
  refine va_sld hx hb hX hbl hbA hS (i := 1) (by unfold vp_in; decide) dL_law_2142 ?_
  refine lv_topi (fun x8 ex8 => ?_)
  obtain rfl : xs 1 = x8 := (ex8).symm
  have hPc := hP.sub (ws' := [(h0, .inr (15, mF q 0)), (q 1, .inl ((cm 1), 1749, .inl (fun _ => 0))), (q 18, .inl ((cm 18), 3, .inl (fun _ => 0)))]) [0, 1, 2] rfl
  have hDc := hD.sub (ws' := [(h0, .inr (15, mF q 0)), (q 1, .inl ((cm 1), 1749, .inl (fun _ => 0))), (q 18, .inl ((cm 18), 3, .inl (fun _ => 0)))]) [0, 1, 2] (by decide) rfl
  have hKc := hK.sub (tys' := [((cm 1), .int), ((cm 18), .int)]) [1, 2] rfl
  have hFc := va_free (wc := [(h0, .inr (15, mF q 0)), (q 1, .inl ((cm 1), 1749, .inl (fun _ => 0))), (q 18, .inl ((cm 18), 3, .inl (fun _ => 0)))]) hD hS hA [0, 1, 2] rfl
  refine va_calli (va_runV (As := [.int (xs 1)]) (rest := []) ⟨hx, hb, hml, hown, hts⟩ (m_mayBuild l dC dI h0 q cm (xs 1) H.size ) (cwV 1 hts (goodIn_app (goodIn_r _ [62, 63, 64, 45] (by decide +kernel) (by decide +kernel)) (goodIn_ca (goodIn_r _ [39, 40, 41, 42, 43, 44, 45, 46, 47, 48, 49, 50, 51, 52, 53, 54, 55, 56, 57, 58, 59, 60, 61] (by decide +kernel) (by decide +kernel)) (bs_in _ _))) rfl rfl rfl (by decide +kernel) ⟨(Nat.le_of_ble_eq_true rfl), (Nat.le_of_ble_eq_true rfl)⟩) ⟨fun a U g mk q => by obtain ⟨q0, q1, qP, qK, qD⟩ := q; exact ⟨q0, q1, qP, va_K.moved (u := U) (U := U.calling g mk a) (Vm.Alike.refl U.vm) qK, qD⟩, va_recv hKc hPc (ci := 15) (q0 := 0) rfl rfl, fun U hU hW => ⟨rfl, by rw [hU], by rw [hU]; exact hPc, va_K.moved hW.alike hKc, hDc.weaken (fun _ _ _ _ => trivial)⟩⟩ rfl rfl hl.1 rfl (lv_room (Nat.le_of_ble_eq_true rfl)) dL_law_2143 ⟨(Nat.le_of_ble_eq_true rfl), (Nat.le_of_ble_eq_true rfl)⟩) hS (fun q _ h => hFc q h) hFc (fun r10 u t H1 locs ht hvm hw11 hB hz1 hk1 hS => ?_)
  obtain ⟨fs12, rfl⟩ : ∃ z, z = u := ⟨_, rfl⟩
  obtain ⟨hP1, hD1⟩ := hB
  rw [ht] at hP1
  obtain ⟨hP, hD⟩ := va_join (wr := [(o0, .inl (ko, 1, .inr (.inl fu6)))]) (w1 := [(h0, .inr (15, fs12))]) hP hD [0, 1, 2] [3] rfl rfl (by decide) (by decide) hk1 hFc hP1 hD1
  generalize H1 = H at hP hS ⊢
  have hP : va_P (dC, dI) vwCl [(o0, .inl (ko, 1, .inr (.inl fu6))), (h0, .inr (15, fs12))] H := hP
  have hD : va_D A [(o0, .inl (ko, 1, .inr (.inl fu6))), (h0, .inr (15, fs12))] := hD
  try dsimp only at hw11
  refine lv_istore (lv' := [(6, .int r10), (5, .int ((T_mayBuild (xs 1)).1)), (0, .ref b), (1, .ref (a 0)), (2, .ref h0), (3, .ref o0), (4, .int 0)]) hx hb dL_law_2146 hl (by decide) rfl (fun ls hl => ?_)
  refine lv_aload_n hx hb dL_law_2148 rfl (lv_at hl 4 rfl) ?_
  have hPc := hP.sub (ws' := [(h0, .inr (15, fs12))]) [1] rfl
  have hDc := hD.sub (ws' := [(h0, .inr (15, fs12))]) [1] (by decide) rfl
  have hKc := hK.sub (tys' := []) [] rfl
  have hFc := va_free (wc := [(h0, .inr (15, fs12))]) hD hS hA [1] rfl
  refine va_calli (va_runV (As := []) (rest := []) ⟨hx, hb, hml, hown, hts⟩ (m_thrown l dC dI h0 fs12 ((T_mayBuild (xs 1)).1) H.size hw11.1) (cwV 0 hts (goodIn_app (goodIn_r _ [66, 67, 68, 45] (by decide +kernel) (by decide +kernel)) (goodIn_ca (goodIn_r _ [65, 40] (by decide +kernel) (by decide +kernel)) (bs_in _ _))) rfl rfl rfl (by decide +kernel) ⟨(Nat.le_of_ble_eq_true rfl), (Nat.le_of_ble_eq_true rfl)⟩) ⟨fun a U g mk q => by obtain ⟨q0, q1, qP, qK, qD⟩ := q; exact ⟨q0, q1, qP, va_K.moved (u := U) (U := U.calling g mk a) (Vm.Alike.refl U.vm) qK, qD⟩, va_recv hKc hPc (ci := 15) (q0 := 0) rfl rfl, fun U hU hW => ⟨rfl, by rw [hU], by rw [hU]; exact hPc, va_K.moved hW.alike hKc, hDc.weaken (fun _ _ _ _ => trivial)⟩⟩ rfl rfl hl.1 rfl (lv_room (Nat.le_of_ble_eq_true rfl)) dL_law_2149 ⟨(Nat.le_of_ble_eq_true rfl), (Nat.le_of_ble_eq_true rfl)⟩) hS (fun q _ h => hFc q h) hFc (fun r14 u t H1 locs ht hvm hw15 hB hz1 hk1 hS => ?_)
  have hP1 : va_P (dC, dI) vwCl [] H1 := nilP
  have hD1 : va_D (va_A [(h0, .inr (15, fs12))] H.size) [] := nilD
  have hK := hK
  obtain ⟨hP, hD⟩ := va_join (wr := [(o0, .inl (ko, 1, .inr (.inl fu6)))]) (w1 := []) hP hD [1] [0] rfl rfl (by decide) (by decide) hk1 hFc hP1 hD1
  generalize H1 = H at hP hS ⊢
  have hP : va_P (dC, dI) vwCl [(o0, .inl (ko, 1, .inr (.inl fu6)))] H := hP
  have hD : va_D A [(o0, .inl (ko, 1, .inr (.inl fu6)))] := hD
  try dsimp only at hw15
  obtain rfl : (T_mayBuild (xs 1)).1 = r14 := hw15.symm
  refine lv_iload hx hb dL_law_2152 (lv_at hl 1 rfl) ?_
  refine lv_icmp_eq (tgt := 2159) hx hb dL_law_2154 (by decide) (fun c16 => ?_) (fun c16 => absurd rfl c16)
  refine lv_iload hx hb dL_law_2159 (lv_at hl 1 rfl) ?_
  refine lv_if_ne (tgt := 2183) hx hb dL_law_2161 (by decide) (fun c17 => ?_) (fun c17 => ?_)
  · refine lv_goto (tgt := 3762) hx hb dL_law_2183 (by decide) ?_
    exact law_tail hx hb hr hlocks hX hbl hbA hAi hS (Nat.le_of_ble_eq_true rfl) (Nat.le_of_ble_eq_true rfl) ls (lv_sub hl [2, 6] rfl)
  · obtain rfl : 1 = r10 := ((hw11.2 c17).trans (V_mayBuild c17)).symm
    refine lv_aload_n hx hb dL_law_2164 rfl (lv_at hl 5 rfl) ?_
    refine lv_iconst (v := 0) hx hb dL_law_2165 (by decide) ?_
    refine va_lald hx hb hK hP 0 0 rfl rfl (by unfold vp_in; decide) dL_law_2166 ?_
    refine lv_iload hx hb dL_law_2167 (lv_at hl 0 rfl) ?_
    refine lv_if_eq (tgt := 2176) hx hb dL_law_2169 (by decide) (fun c18 => absurd c18 (by decide)) (fun c18 => ?_)
    refine lv_lconst (v := 1) hx hb dL_law_2172 (by decide) ?_
    refine lv_goto (tgt := 2177) hx hb dL_law_2173 (by decide) ?_
    refine W.lcmp hx hb dL_law_2177 ?_
    refine lv_topi (fun x19 ex19 => ?_)
    obtain rfl : x19 = 0 := ex19.trans (by rw [show fu6 (0 : Int32).toNatClampNeg = (T_mayBuild (xs 1)).2.toInt64 from hw5.2 c17, V_mayBuild c17]; first | rfl | decide)
    refine lv_if_eq (tgt := 2183) hx hb dL_law_2178 (by decide) (fun c20 => ?_) (fun c20 => absurd c20 (by decide))
    refine lv_goto (tgt := 3762) hx hb dL_law_2183 (by decide) ?_
    exact law_tail hx hb hr hlocks hX hbl hbA hAi hS (Nat.le_of_ble_eq_true rfl) (Nat.le_of_ble_eq_true rfl) ls (lv_sub hl [2, 6] rfl)
def w_law_28 : List Cond := .initialized RL :: ([.codeWith yL_settler cL_settler 10 (some .int) [(0, 20, 23, 15), (0, 20, 27, 45)], .code yX11_settler cX11_settler 8 (some .int), .code yX11_within cX11_within 3 (some .boolean), .methodLink RX11 58 yX11_within, .static yX11_within, .initialized RX11, .constant RX11 96 100000, .constant RX11 341 999999, .code yX11_needNumbers cX11_needNumbers 1 none, .methodLink RX11 62 yX11_needNumbers, .static yX11_needNumbers, .fieldLink RX11 30 "SeaLand" "board" "LSeaLand$Board;", .classLink RX11 350 RX7, .instantiable RX7 12, .initialized RX7, .code yX7_init cX7_init 8 none, .methodLink RX7 3 objectInit, .instanceMethod objectInit, .code objectInit ⟨#[0xb1]⟩ 1 none, .fieldLink RX7 9 "SeaLand$Settler" "farm" "I", .fieldLink RX7 15 "SeaLand$Settler" "age" "I", .fieldLink RX7 18 "SeaLand$Settler" "sons" "I", .fieldLink RX7 21 "SeaLand$Settler" "coin" "I", .fieldLink RX7 24 "SeaLand$Settler" "cattle" "I", .fieldLink RX7 27 "SeaLand$Settler" "kin" "Z", .fieldLink RX7 31 "SeaLand$Settler" "board" "Z", .fieldLink RX7 34 "SeaLand$Settler" "drawn" "I", .methodLink RX11 352 yX7_init, .instanceMethod yX7_init, .code yX0_settle cX0_settle 2 (some .int), .fieldLink RX0 11 "SeaLand$Board" "settlers" "[LSeaLand$Settler;", .fieldLink RX0 75 "SeaLand$Board" "settled" "I", .methodLink RX11 355 yX0_settle, .instanceMethod yX0_settle, .selects RX0 yX0_settle yX0_settle, .initialized RX0, .classLink RX11 547 "java/lang/IllegalArgumentException", .initialized "java/lang/IllegalArgumentException", .methodLink RL 110 yX11_settler, .instanceMethod yX11_settler, .selects RX11 yX11_settler yX11_settler, .classLink RL 15 "java/lang/IllegalArgumentException", .methodLink RL 275 yL_settler, .static yL_settler, .initialized RL, .code yX12_settler cX12_settler 9 (some .int), .fieldLink RX12 194 "SeaLandModel" "thrown" "I", .code yX12_in cX12_in 3 (some .boolean), .methodLink RX12 197 yX12_in, .static yX12_in, .initialized RX12, .constant RX12 241 100000, .constant RX12 501 999999, .code yX12_throwsIf cX12_throwsIf 3 (some .boolean), .methodLink RX12 224 yX12_throwsIf, .instanceMethod yX12_throwsIf, .selects RX12 yX12_throwsIf yX12_throwsIf, .fieldLink RX12 495 "SeaLandModel" "settlers" "I", .fieldLink RX12 79 "SeaLandModel" "age" "[I", .fieldLink RX12 82 "SeaLandModel" "sons" "[I", .fieldLink RX12 85 "SeaLandModel" "coin" "[I", .fieldLink RX12 88 "SeaLandModel" "cattle" "[I", .fieldLink RX12 91 "SeaLandModel" "isKin" "[Z", .fieldLink RX12 95 "SeaLandModel" "isBoard" "[Z", .fieldLink RX12 98 "SeaLandModel" "drawn" "[I", .fieldLink RX12 101 "SeaLandModel" "holds" "[I", .methodLink RL 278 yX12_settler, .instanceMethod yX12_settler, .selects RX12 yX12_settler yX12_settler, .code yX12_thrown cX12_thrown 1 (some .int), .methodLink RL 187 yX12_thrown, .instanceMethod yX12_thrown, .selects RX12 yX12_thrown yX12_thrown] ++ bs)
set_option maxRecDepth 100000 in
theorem wm_28 : ∀ w ∈ w_law_28, w ∈ lw_tbl := lw_ins (List.mem_of_getElem? (i := 110) (by decide +kernel)) (lw_in _ (1609 :: 1613 :: 902 :: 900 :: 901 :: 111 :: 976 :: 1614 :: 918 :: 916 :: 917 :: 591 :: 1616 :: 1617 :: 138 :: 1620 :: 1621 :: 148 :: 149 :: 1637 :: 1622 :: 1624 :: 1634 :: 1626 :: 1628 :: 1630 :: 1632 :: 1618 :: 1619 :: 1675 :: 456 :: 480 :: 1672 :: 1673 :: 1674 :: 118 :: 919 :: 129 :: 1610 :: 1611 :: 1612 :: 891 :: 1607 :: 1608 :: 110 :: 2614 :: 1969 :: 2217 :: 2215 :: 2216 :: 122 :: 2239 :: 2615 :: 2221 :: 2218 :: 2220 :: 44 :: 2011 :: 2000 :: 2001 :: 2002 :: 2003 :: 2004 :: 2005 :: 2006 :: 2007 :: 2611 :: 2612 :: 2613 :: 2207 :: 2204 :: 2205 :: 2206 :: []) (by decide +kernel))
set_option maxHeartbeats 4000000 in
set_option maxRecDepth 100000 in
/-- settler -/
theorem law_28 {p : Program} {e : Env} {s : State} {m : MethodId} {below : List Frame} {meth : Method} {c : Code} (l : Launch) (hlt : l.stackTraces = false) {b : Nat} {xs : Nat → Int32} {A : Nat → Prop} (hx : p.tables.exec = Jvm.exec) (hb : c.code = code) (hr : meth.sig.returnType = ret) (hml : c.maxLocals = 7) (hown : s.vm.findClass RL = some m.cls) (hts : ∀ w ∈ w_law_28, w.before #[Value.ref b] s = true) (hX : va_X b 8 xs s s.heap) (hbl : b < s.heap.size) (hbA : ¬ A b) (hlocks : meth.locks = false) (hE : EV A s s.heap) (hN : NC s) (hA : ∀ q : Nat, s.heap.size ≤ q → A q) (hAi : ∀ q : Nat, A q → s.heap.size ≤ q) {dC : Nat → ClassId} {dI : Nat → Nat → Nat} (a : Nat → Nat) (k : Nat → ClassId) (h0 : Nat) (q : Nat → Nat) (cm : Nat → ClassId) (o0 : Nat) (ko : ClassId) (H : Heap) (locs : List Loc) (hK : va_K (dC, dI) vwCl [((k 31), (.object "SeaLand$Settler")), (ko, .long), ((cm 31), .int), ((cm 32), .int), ((cm 33), .int), ((cm 34), .int), ((cm 35), .boolean), ((cm 36), .boolean), ((cm 37), .int), ((cm 38), .int)] s) (hP : va_P (dC, dI) vwCl [(a 0, .inr (14, [.ref (a 1), .ref (a 2), .ref (a 27), .ref (a 30), .ref (a 74), .ref (a 75), .null, .int 0, .int 0])), (a 30, .inr (3, [.ref (a 31), .ref (a 32), .ref (a 33), .ref (a 34), .ref (a 35), .ref (a 36), .ref (a 37), .ref (a 38), .ref (a 50), .ref (a 62), .int (-1), .int 0, .long 0, .long 0, .int 0, .int 0, .int 0, .int 0])), (a 31, .inl ((k 31), 60, .inr (.inr (.inr (.inr (fun _ => none)))))), (o0, .inl (ko, 1, .inr (.inl (fun _ => 0)))), (h0, .inr (15, mF q 0)), (q 31, .inl ((cm 31), 60, .inl (fun _ => 0))), (q 32, .inl ((cm 32), 60, .inl (fun _ => 0))), (q 33, .inl ((cm 33), 60, .inl (fun _ => 0))), (q 34, .inl ((cm 34), 60, .inl (fun _ => 0))), (q 35, .inl ((cm 35), 60, .inl (fun _ => 0))), (q 36, .inl ((cm 36), 60, .inl (fun _ => 0))), (q 37, .inl ((cm 37), 60, .inl (fun _ => 0))), (q 38, .inl ((cm 38), 60, .inl (fun _ => 0)))] H) (hD : va_D A [(a 0, .inr (14, [.ref (a 1), .ref (a 2), .ref (a 27), .ref (a 30), .ref (a 74), .ref (a 75), .null, .int 0, .int 0])), (a 30, .inr (3, [.ref (a 31), .ref (a 32), .ref (a 33), .ref (a 34), .ref (a 35), .ref (a 36), .ref (a 37), .ref (a 38), .ref (a 50), .ref (a 62), .int (-1), .int 0, .long 0, .long 0, .int 0, .int 0, .int 0, .int 0])), (a 31, .inl ((k 31), 60, .inr (.inr (.inr (.inr (fun _ => none)))))), (o0, .inl (ko, 1, .inr (.inl (fun _ => 0)))), (h0, .inr (15, mF q 0)), (q 31, .inl ((cm 31), 60, .inl (fun _ => 0))), (q 32, .inl ((cm 32), 60, .inl (fun _ => 0))), (q 33, .inl ((cm 33), 60, .inl (fun _ => 0))), (q 34, .inl ((cm 34), 60, .inl (fun _ => 0))), (q 35, .inl ((cm 35), 60, .inl (fun _ => 0))), (q 36, .inl ((cm 36), 60, .inl (fun _ => 0))), (q 37, .inl ((cm 37), 60, .inl (fun _ => 0))), (q 38, .inl ((cm 38), 60, .inl (fun _ => 0)))]) (hS : va_S A s.heap H locs) (ls : Array Slot) (hl : lv_has ls 7 [(0, .ref b), (1, .ref (a 0)), (2, .ref h0), (3, .ref o0), (4, .int 0)]) : W p l e room_1 s m #[Value.ref b] below meth c H locs 238 27427 (lw_Z below #[Value.ref b] s) (F0 m 2186 ls []) := by
  refine lv_aload_n hx hb dL_law_2186 rfl (lv_at hl 1 rfl) ?_
  refine lv_aload_n hx hb dL_law_2187 rfl (lv_at hl 0 rfl) ?_
  refine lv_iload hx hb dL_law_2188 (lv_at hl 4 rfl) ?_
  refine lv_iconst (v := 1) hx hb dL_law_2190 (by decide) ?_
  refine lv_iadd hx hb dL_law_2191 ?_
  refine lv_topi (fun x1 ex1 => ?_)
  obtain rfl : x1 = 1 := ex1.trans (by decide)
  refine va_sld hx hb hX hbl hbA hS (i := 1) (by unfold vp_in; decide) dL_law_2192 ?_
  refine lv_topi (fun x2 ex2 => ?_)
  obtain rfl : xs 1 = x2 := (ex2).symm
  refine lv_aload_n hx hb dL_law_2193 rfl (lv_at hl 0 rfl) ?_
  refine lv_iload hx hb dL_law_2194 (lv_at hl 4 rfl) ?_
  refine lv_iconst (v := 2) hx hb dL_law_2196 (by decide) ?_
  refine lv_iadd hx hb dL_law_2197 ?_
  refine lv_topi (fun x3 ex3 => ?_)
  obtain rfl : x3 = 2 := ex3.trans (by decide)
  refine va_sld hx hb hX hbl hbA hS (i := 2) (by unfold vp_in; decide) dL_law_2198 ?_
  refine lv_topi (fun x4 ex4 => ?_)
  obtain rfl : xs 2 = x4 := (ex4).symm
  refine lv_aload_n hx hb dL_law_2199 rfl (lv_at hl 0 rfl) ?_
  refine lv_iload hx hb dL_law_2200 (lv_at hl 4 rfl) ?_
  refine lv_iconst (v := 3) hx hb dL_law_2202 (by decide) ?_
  refine lv_iadd hx hb dL_law_2203 ?_
  refine lv_topi (fun x5 ex5 => ?_)
  obtain rfl : x5 = 3 := ex5.trans (by decide)
  refine va_sld hx hb hX hbl hbA hS (i := 3) (by unfold vp_in; decide) dL_law_2204 ?_
  refine lv_topi (fun x6 ex6 => ?_)
  obtain rfl : xs 3 = x6 := (ex6).symm
  refine lv_aload_n hx hb dL_law_2205 rfl (lv_at hl 0 rfl) ?_
  refine lv_iload hx hb dL_law_2206 (lv_at hl 4 rfl) ?_
  refine lv_iconst (v := 4) hx hb dL_law_2208 (by decide) ?_
  refine lv_iadd hx hb dL_law_2209 ?_
  refine lv_topi (fun x7 ex7 => ?_)
  obtain rfl : x7 = 4 := ex7.trans (by decide)
  refine va_sld hx hb hX hbl hbA hS (i := 4) (by unfold vp_in; decide) dL_law_2210 ?_
  refine lv_topi (fun x8 ex8 => ?_)
  obtain rfl : xs 4 = x8 := (ex8).symm
  refine lv_aload_n hx hb dL_law_2211 rfl (lv_at hl 0 rfl) ?_
  refine lv_iload hx hb dL_law_2212 (lv_at hl 4 rfl) ?_
  refine lv_iconst (v := 5) hx hb dL_law_2214 (by decide) ?_
  refine lv_iadd hx hb dL_law_2215 ?_
  refine lv_topi (fun x9 ex9 => ?_)
  obtain rfl : x9 = 5 := ex9.trans (by decide)
  refine va_sld hx hb hX hbl hbA hS (i := 5) (by unfold vp_in; decide) dL_law_2216 ?_
  refine lv_topi (fun x10 ex10 => ?_)
  obtain rfl : xs 5 = x10 := (ex10).symm
  refine lv_if_eq (tgt := 2224) hx hb dL_law_2217 (by decide) (fun c11 => ?_) (fun c11 => ?_)
  · refine lv_iconst (v := 0) hx hb dL_law_2224 (by decide) ?_
    refine lv_aload_n hx hb dL_law_2225 rfl (lv_at hl 0 rfl) ?_
    refine lv_iload hx hb dL_law_2226 (lv_at hl 4 rfl) ?_
    refine lv_bipush (v := 6) hx hb dL_law_2228 (by decide) ?_
    refine lv_iadd hx hb dL_law_2230 ?_
    refine lv_topi (fun x12 ex12 => ?_)
    obtain rfl : x12 = 6 := ex12.trans (by decide)
    refine va_sld hx hb hX hbl hbA hS (i := 6) (by unfold vp_in; decide) dL_law_2231 ?_
    refine lv_topi (fun x13 ex13 => ?_)
    obtain rfl : xs 6 = x13 := (ex13).symm
    refine lv_if_eq (tgt := 2239) hx hb dL_law_2232 (by decide) (fun c14 => ?_) (fun c14 => ?_)
    · refine lv_iconst (v := 0) hx hb dL_law_2239 (by decide) ?_
      refine lv_aload_n hx hb dL_law_2240 rfl (lv_at hl 0 rfl) ?_
      refine lv_iload hx hb dL_law_2241 (lv_at hl 4 rfl) ?_
      refine lv_bipush (v := 7) hx hb dL_law_2243 (by decide) ?_
      refine lv_iadd hx hb dL_law_2245 ?_
      refine lv_topi (fun x15 ex15 => ?_)
      obtain rfl : x15 = 7 := ex15.trans (by decide)
      refine va_sld hx hb hX hbl hbA hS (i := 7) (by unfold vp_in; decide) dL_law_2246 ?_
      refine lv_topi (fun x16 ex16 => ?_)
      obtain rfl : xs 7 = x16 := (ex16).symm
      refine lv_aload_n hx hb dL_law_2247 rfl (lv_at hl 3 rfl) ?_
      have hPc := hP.sub (ws' := [(a 0, .inr (14, [.ref (a 1), .ref (a 2), .ref (a 27), .ref (a 30), .ref (a 74), .ref (a 75), .null, .int 0, .int 0])), (a 30, .inr (3, [.ref (a 31), .ref (a 32), .ref (a 33), .ref (a 34), .ref (a 35), .ref (a 36), .ref (a 37), .ref (a 38), .ref (a 50), .ref (a 62), .int (-1), .int 0, .long 0, .long 0, .int 0, .int 0, .int 0, .int 0])), (a 31, .inl ((k 31), 60, .inr (.inr (.inr (.inr (fun _ => none)))))), (o0, .inl (ko, 1, .inr (.inl (fun _ => 0))))]) [0, 1, 2, 3] rfl
      have hDc := hD.sub (ws' := [(a 0, .inr (14, [.ref (a 1), .ref (a 2), .ref (a 27), .ref (a 30), .ref (a 74), .ref (a 75), .null, .int 0, .int 0])), (a 30, .inr (3, [.ref (a 31), .ref (a 32), .ref (a 33), .ref (a 34), .ref (a 35), .ref (a 36), .ref (a 37), .ref (a 38), .ref (a 50), .ref (a 62), .int (-1), .int 0, .long 0, .long 0, .int 0, .int 0, .int 0, .int 0])), (a 31, .inl ((k 31), 60, .inr (.inr (.inr (.inr (fun _ => none)))))), (o0, .inl (ko, 1, .inr (.inl (fun _ => 0))))]) [0, 1, 2, 3] (by decide) rfl
      have hKc := hK.sub (tys' := [((k 31), (.object "SeaLand$Settler")), (ko, .long)]) [0, 1] rfl
      have hFc := va_free (wc := [(a 0, .inr (14, [.ref (a 1), .ref (a 2), .ref (a 27), .ref (a 30), .ref (a 74), .ref (a 75), .null, .int 0, .int 0])), (a 30, .inr (3, [.ref (a 31), .ref (a 32), .ref (a 33), .ref (a 34), .ref (a 35), .ref (a 36), .ref (a 37), .ref (a 38), .ref (a 50), .ref (a 62), .int (-1), .int 0, .long 0, .long 0, .int 0, .int 0, .int 0, .int 0])), (a 31, .inl ((k 31), 60, .inr (.inr (.inr (.inr (fun _ => none)))))), (o0, .inl (ko, 1, .inr (.inl (fun _ => 0))))]) hD hS hA [0, 1, 2, 3] rfl
      refine va_calli (vx_runSW (As := [.ref (a 0), .int (xs 1), .int (xs 2), .int (xs 3), .int (xs 4), .int 0, .int 0, .int (xs 7), .ref o0]) (rest := []) ⟨hx, hb, hml, hown, hts⟩ (l_settler l hlt dC dI a k o0 ko (fun _ => 0) (xs 1) (xs 2) (xs 3) (xs 4) 0 0 (xs 7) H.size rfl rfl rfl rfl) (vx_cwSW 9 hts (goodIn_app (goodIn_r _ [43, 44, 45] (by decide +kernel) (by decide +kernel)) (goodIn_ca (goodIn_r _ [1, 2, 3, 4, 5, 6, 7, 8, 9, 10, 11, 12, 13, 14, 15, 16, 17, 18, 19, 20, 21, 22, 23, 24, 25, 26, 27, 28, 29, 30, 31, 32, 33, 34, 35, 36, 37, 38, 39, 40, 41, 42] (by decide +kernel) (by decide +kernel)) (bs_in _ _))) rfl rfl rfl (by decide +kernel) ⟨(Nat.le_of_ble_eq_true rfl), (Nat.le_of_ble_eq_true rfl)⟩) ⟨fun a U g mk q => by obtain ⟨q0, q1, qP, qK, qD, qE, qN⟩ := q; exact ⟨q0, q1, qP, va_K.moved (u := U) (U := U.calling g mk a) (Vm.Alike.refl U.vm) qK, qD, EV.blind g mk a qE, NC.blind g mk a qN⟩, fun U hU hW => ⟨rfl, by rw [hU], by rw [hU]; exact hPc, va_K.moved hW.alike hKc, hDc.weaken (fun _ _ _ _ => trivial), hE.call hS hFc hU hW, hN.call hW⟩⟩ rfl rfl hl.1 rfl (lv_room (Nat.le_of_ble_eq_true rfl)) dL_law_2248 ⟨(Nat.le_of_ble_eq_true rfl), (Nat.le_of_ble_eq_true rfl)⟩) hS (fun q _ h => hFc q h) hFc (fun r18 u t H1 locs ht hvm hw19 hB hz1 hk1 hS => ?_)
      obtain ⟨fu20, rfl⟩ : ∃ z, z = u := ⟨_, rfl⟩
      obtain ⟨hP1, hD1⟩ := hB
      rw [ht] at hP1
      obtain ⟨hP, hD⟩ := va_join (wr := [(h0, .inr (15, mF q 0)), (q 31, .inl ((cm 31), 60, .inl (fun _ => 0))), (q 32, .inl ((cm 32), 60, .inl (fun _ => 0))), (q 33, .inl ((cm 33), 60, .inl (fun _ => 0))), (q 34, .inl ((cm 34), 60, .inl (fun _ => 0))), (q 35, .inl ((cm 35), 60, .inl (fun _ => 0))), (q 36, .inl ((cm 36), 60, .inl (fun _ => 0))), (q 37, .inl ((cm 37), 60, .inl (fun _ => 0))), (q 38, .inl ((cm 38), 60, .inl (fun _ => 0)))]) (w1 := [(o0, .inl (ko, 1, .inr (.inl fu20)))]) hP hD [0, 1, 2, 3] [4, 5, 6, 7, 8, 9, 10, 11, 12] rfl rfl (by decide) (by decide) hk1 hFc hP1 hD1
      generalize H1 = H at hP hS ⊢
      have hP : va_P (dC, dI) vwCl [(h0, .inr (15, mF q 0)), (q 31, .inl ((cm 31), 60, .inl (fun _ => 0))), (q 32, .inl ((cm 32), 60, .inl (fun _ => 0))), (q 33, .inl ((cm 33), 60, .inl (fun _ => 0))), (q 34, .inl ((cm 34), 60, .inl (fun _ => 0))), (q 35, .inl ((cm 35), 60, .inl (fun _ => 0))), (q 36, .inl ((cm 36), 60, .inl (fun _ => 0))), (q 37, .inl ((cm 37), 60, .inl (fun _ => 0))), (q 38, .inl ((cm 38), 60, .inl (fun _ => 0))), (o0, .inl (ko, 1, .inr (.inl fu20)))] H := hP
      have hD : va_D A [(h0, .inr (15, mF q 0)), (q 31, .inl ((cm 31), 60, .inl (fun _ => 0))), (q 32, .inl ((cm 32), 60, .inl (fun _ => 0))), (q 33, .inl ((cm 33), 60, .inl (fun _ => 0))), (q 34, .inl ((cm 34), 60, .inl (fun _ => 0))), (q 35, .inl ((cm 35), 60, .inl (fun _ => 0))), (q 36, .inl ((cm 36), 60, .inl (fun _ => 0))), (q 37, .inl ((cm 37), 60, .inl (fun _ => 0))), (q 38, .inl ((cm 38), 60, .inl (fun _ => 0))), (o0, .inl (ko, 1, .inr (.inl fu20)))] := hD
      try dsimp only at hw19
      obtain rfl : (T_settler (xs 1) (xs 2) (xs 3) (xs 4) 0 0 (xs 7)).1 = r18 := hw19.1.symm
      refine lv_istore (lv' := [(5, .int ((T_settler (xs 1) (xs 2) (xs 3) (xs 4) 0 0 (xs 7)).1)), (0, .ref b), (1, .ref (a 0)), (2, .ref h0), (3, .ref o0), (4, .int 0)]) hx hb dL_law_2251 hl (by decide) rfl (fun ls hl => ?_)
      refine lv_aload_n hx hb dL_law_2253 rfl (lv_at hl 3 rfl) ?_
      refine lv_aload_n hx hb dL_law_2254 rfl (lv_at hl 1 rfl) ?_
      refine lv_iload hx hb dL_law_2255 (lv_at hl 5 rfl) ?_
      refine lv_iconst (v := 1) hx hb dL_law_2257 (by decide) ?_
      refine lv_iadd hx hb dL_law_2258 ?_
      refine lv_topi (fun x21 ex21 => ?_)
      obtain rfl : x21 = 1 := ex21.trans (by decide)
      refine va_sld hx hb hX hbl hbA hS (i := 1) (by unfold vp_in; decide) dL_law_2259 ?_
      refine lv_topi (fun x22 ex22 => ?_)
      obtain rfl : xs 1 = x22 := (ex22).symm
      refine lv_aload_n hx hb dL_law_2260 rfl (lv_at hl 1 rfl) ?_
      refine lv_iload hx hb dL_law_2261 (lv_at hl 5 rfl) ?_
      refine lv_iconst (v := 2) hx hb dL_law_2263 (by decide) ?_
      refine lv_iadd hx hb dL_law_2264 ?_
      refine lv_topi (fun x23 ex23 => ?_)
      obtain rfl : x23 = 2 := ex23.trans (by decide)
      refine va_sld hx hb hX hbl hbA hS (i := 2) (by unfold vp_in; decide) dL_law_2265 ?_
      refine lv_topi (fun x24 ex24 => ?_)
      obtain rfl : xs 2 = x24 := (ex24).symm
      refine lv_aload_n hx hb dL_law_2266 rfl (lv_at hl 1 rfl) ?_
      refine lv_iload hx hb dL_law_2267 (lv_at hl 5 rfl) ?_
      refine lv_iconst (v := 3) hx hb dL_law_2269 (by decide) ?_
      refine lv_iadd hx hb dL_law_2270 ?_
      refine lv_topi (fun x25 ex25 => ?_)
      obtain rfl : x25 = 3 := ex25.trans (by decide)
      refine va_sld hx hb hX hbl hbA hS (i := 3) (by unfold vp_in; decide) dL_law_2271 ?_
      refine lv_topi (fun x26 ex26 => ?_)
      obtain rfl : xs 3 = x26 := (ex26).symm
      refine lv_aload_n hx hb dL_law_2272 rfl (lv_at hl 1 rfl) ?_
      refine lv_iload hx hb dL_law_2273 (lv_at hl 5 rfl) ?_
      refine lv_iconst (v := 4) hx hb dL_law_2275 (by decide) ?_
      refine lv_iadd hx hb dL_law_2276 ?_
      refine lv_topi (fun x27 ex27 => ?_)
      obtain rfl : x27 = 4 := ex27.trans (by decide)
      refine va_sld hx hb hX hbl hbA hS (i := 4) (by unfold vp_in; decide) dL_law_2277 ?_
      refine lv_topi (fun x28 ex28 => ?_)
      obtain rfl : xs 4 = x28 := (ex28).symm
      refine lv_aload_n hx hb dL_law_2278 rfl (lv_at hl 1 rfl) ?_
      refine lv_iload hx hb dL_law_2279 (lv_at hl 5 rfl) ?_
      refine lv_iconst (v := 5) hx hb dL_law_2281 (by decide) ?_
      refine lv_iadd hx hb dL_law_2282 ?_
      refine lv_topi (fun x29 ex29 => ?_)
      obtain rfl : x29 = 5 := ex29.trans (by decide)
      refine va_sld hx hb hX hbl hbA hS (i := 5) (by unfold vp_in; decide) dL_law_2283 ?_
      refine lv_topi (fun x30 ex30 => ?_)
      obtain rfl : xs 5 = x30 := (ex30).symm
      refine lv_if_eq (tgt := 2291) hx hb dL_law_2284 (by decide) (fun c31 => ?_) (fun c31 => absurd c11 c31)
      refine lv_iconst (v := 0) hx hb dL_law_2291 (by decide) ?_
      refine lv_aload_n hx hb dL_law_2292 rfl (lv_at hl 1 rfl) ?_
      refine lv_iload hx hb dL_law_2293 (lv_at hl 5 rfl) ?_
      refine lv_bipush (v := 6) hx hb dL_law_2295 (by decide) ?_
      refine lv_iadd hx hb dL_law_2297 ?_
      refine lv_topi (fun x32 ex32 => ?_)
      obtain rfl : x32 = 6 := ex32.trans (by decide)
      refine va_sld hx hb hX hbl hbA hS (i := 6) (by unfold vp_in; decide) dL_law_2298 ?_
      refine lv_topi (fun x33 ex33 => ?_)
      obtain rfl : xs 6 = x33 := (ex33).symm
      refine lv_if_eq (tgt := 2306) hx hb dL_law_2299 (by decide) (fun c34 => ?_) (fun c34 => absurd c14 c34)
      refine lv_iconst (v := 0) hx hb dL_law_2306 (by decide) ?_
      refine lv_aload_n hx hb dL_law_2307 rfl (lv_at hl 1 rfl) ?_
      refine lv_iload hx hb dL_law_2308 (lv_at hl 5 rfl) ?_
      refine lv_bipush (v := 7) hx hb dL_law_2310 (by decide) ?_
      refine lv_iadd hx hb dL_law_2312 ?_
      refine lv_topi (fun x35 ex35 => ?_)
      obtain rfl : x35 = 7 := ex35.trans (by decide)
      refine va_sld hx hb hX hbl hbA hS (i := 7) (by unfold vp_in; decide) dL_law_2313 ?_
      refine lv_topi (fun x36 ex36 => ?_)
      obtain rfl : xs 7 = x36 := (ex36).symm
      have hPc := hP.sub (ws' := [(h0, .inr (15, mF q 0)), (q 31, .inl ((cm 31), 60, .inl (fun _ => 0))), (q 32, .inl ((cm 32), 60, .inl (fun _ => 0))), (q 33, .inl ((cm 33), 60, .inl (fun _ => 0))), (q 34, .inl ((cm 34), 60, .inl (fun _ => 0))), (q 35, .inl ((cm 35), 60, .inl (fun _ => 0))), (q 36, .inl ((cm 36), 60, .inl (fun _ => 0))), (q 37, .inl ((cm 37), 60, .inl (fun _ => 0))), (q 38, .inl ((cm 38), 60, .inl (fun _ => 0)))]) [0, 1, 2, 3, 4, 5, 6, 7, 8] rfl
      have hDc := hD.sub (ws' := [(h0, .inr (15, mF q 0)), (q 31, .inl ((cm 31), 60, .inl (fun _ => 0))), (q 32, .inl ((cm 32), 60, .inl (fun _ => 0))), (q 33, .inl ((cm 33), 60, .inl (fun _ => 0))), (q 34, .inl ((cm 34), 60, .inl (fun _ => 0))), (q 35, .inl ((cm 35), 60, .inl (fun _ => 0))), (q 36, .inl ((cm 36), 60, .inl (fun _ => 0))), (q 37, .inl ((cm 37), 60, .inl (fun _ => 0))), (q 38, .inl ((cm 38), 60, .inl (fun _ => 0)))]) [0, 1, 2, 3, 4, 5, 6, 7, 8] (by decide) rfl
      have hKc := hK.sub (tys' := [((cm 31), .int), ((cm 32), .int), ((cm 33), .int), ((cm 34), .int), ((cm 35), .boolean), ((cm 36), .boolean), ((cm 37), .int), ((cm 38), .int)]) [2, 3, 4, 5, 6, 7, 8, 9] rfl
      have hFc := va_free (wc := [(h0, .inr (15, mF q 0)), (q 31, .inl ((cm 31), 60, .inl (fun _ => 0))), (q 32, .inl ((cm 32), 60, .inl (fun _ => 0))), (q 33, .inl ((cm 33), 60, .inl (fun _ => 0))), (q 34, .inl ((cm 34), 60, .inl (fun _ => 0))), (q 35, .inl ((cm 35), 60, .inl (fun _ => 0))), (q 36, .inl ((cm 36), 60, .inl (fun _ => 0))), (q 37, .inl ((cm 37), 60, .inl (fun _ => 0))), (q 38, .inl ((cm 38), 60, .inl (fun _ => 0)))]) hD hS hA [0, 1, 2, 3, 4, 5, 6, 7, 8] rfl
      refine va_calli (va_runV (As := [.int (xs 1), .int (xs 2), .int (xs 3), .int (xs 4), .int 0, .int 0, .int (xs 7)]) (rest := []) ⟨hx, hb, hml, hown, hts⟩ (m_settler l dC dI h0 q cm (xs 1) (xs 2) (xs 3) (xs 4) 0 0 (xs 7) H.size ) (cwV 7 hts (goodIn_app (goodIn_r _ [67, 68, 69, 51] (by decide +kernel) (by decide +kernel)) (goodIn_ca (goodIn_r _ [46, 47, 48, 49, 50, 51, 52, 53, 54, 55, 56, 57, 58, 59, 60, 61, 62, 63, 64, 65, 66] (by decide +kernel) (by decide +kernel)) (bs_in _ _))) rfl rfl rfl (by decide +kernel) ⟨(Nat.le_of_ble_eq_true rfl), (Nat.le_of_ble_eq_true rfl)⟩) ⟨fun a U g mk q => by obtain ⟨q0, q1, qP, qK, qD⟩ := q; exact ⟨q0, q1, qP, va_K.moved (u := U) (U := U.calling g mk a) (Vm.Alike.refl U.vm) qK, qD⟩, va_recv hKc hPc (ci := 15) (q0 := 0) rfl rfl, fun U hU hW => ⟨rfl, by rw [hU], by rw [hU]; exact hPc, va_K.moved hW.alike hKc, hDc.weaken (fun _ _ _ _ => trivial)⟩⟩ rfl rfl hl.1 rfl (lv_room (Nat.le_of_ble_eq_true rfl)) dL_law_2314 ⟨(Nat.le_of_ble_eq_true rfl), (Nat.le_of_ble_eq_true rfl)⟩) hS (fun q _ h => hFc q h) hFc (fun r38 u t H1 locs ht hvm hw39 hB hz1 hk1 hS => ?_)
      obtain ⟨fs40, rfl⟩ : ∃ z, z = u := ⟨_, rfl⟩
      obtain ⟨hP1, hD1⟩ := hB
      rw [ht] at hP1
      obtain ⟨hP, hD⟩ := va_join (wr := [(o0, .inl (ko, 1, .inr (.inl fu20)))]) (w1 := [(h0, .inr (15, fs40))]) hP hD [0, 1, 2, 3, 4, 5, 6, 7, 8] [9] rfl rfl (by decide) (by decide) hk1 hFc hP1 hD1
      generalize H1 = H at hP hS ⊢
      have hP : va_P (dC, dI) vwCl [(o0, .inl (ko, 1, .inr (.inl fu20))), (h0, .inr (15, fs40))] H := hP
      have hD : va_D A [(o0, .inl (ko, 1, .inr (.inl fu20))), (h0, .inr (15, fs40))] := hD
      try dsimp only at hw39
      refine lv_istore (lv' := [(6, .int r38), (5, .int ((T_settler (xs 1) (xs 2) (xs 3) (xs 4) 0 0 (xs 7)).1)), (0, .ref b), (1, .ref (a 0)), (2, .ref h0), (3, .ref o0), (4, .int 0)]) hx hb dL_law_2317 hl (by decide) rfl (fun ls hl => ?_)
      refine lv_aload_n hx hb dL_law_2319 rfl (lv_at hl 4 rfl) ?_
      have hPc := hP.sub (ws' := [(h0, .inr (15, fs40))]) [1] rfl
      have hDc := hD.sub (ws' := [(h0, .inr (15, fs40))]) [1] (by decide) rfl
      have hKc := hK.sub (tys' := []) [] rfl
      have hFc := va_free (wc := [(h0, .inr (15, fs40))]) hD hS hA [1] rfl
      refine va_calli (va_runV (As := []) (rest := []) ⟨hx, hb, hml, hown, hts⟩ (m_thrown l dC dI h0 fs40 ((T_settler (xs 1) (xs 2) (xs 3) (xs 4) 0 0 (xs 7)).1) H.size hw39.1) (cwV 0 hts (goodIn_app (goodIn_r _ [71, 72, 73, 51] (by decide +kernel) (by decide +kernel)) (goodIn_ca (goodIn_r _ [70, 47] (by decide +kernel) (by decide +kernel)) (bs_in _ _))) rfl rfl rfl (by decide +kernel) ⟨(Nat.le_of_ble_eq_true rfl), (Nat.le_of_ble_eq_true rfl)⟩) ⟨fun a U g mk q => by obtain ⟨q0, q1, qP, qK, qD⟩ := q; exact ⟨q0, q1, qP, va_K.moved (u := U) (U := U.calling g mk a) (Vm.Alike.refl U.vm) qK, qD⟩, va_recv hKc hPc (ci := 15) (q0 := 0) rfl rfl, fun U hU hW => ⟨rfl, by rw [hU], by rw [hU]; exact hPc, va_K.moved hW.alike hKc, hDc.weaken (fun _ _ _ _ => trivial)⟩⟩ rfl rfl hl.1 rfl (lv_room (Nat.le_of_ble_eq_true rfl)) dL_law_2320 ⟨(Nat.le_of_ble_eq_true rfl), (Nat.le_of_ble_eq_true rfl)⟩) hS (fun q _ h => hFc q h) hFc (fun r42 u t H1 locs ht hvm hw43 hB hz1 hk1 hS => ?_)
      have hP1 : va_P (dC, dI) vwCl [] H1 := nilP
      have hD1 : va_D (va_A [(h0, .inr (15, fs40))] H.size) [] := nilD
      have hK := hK
      obtain ⟨hP, hD⟩ := va_join (wr := [(o0, .inl (ko, 1, .inr (.inl fu20)))]) (w1 := []) hP hD [1] [0] rfl rfl (by decide) (by decide) hk1 hFc hP1 hD1
      generalize H1 = H at hP hS ⊢
      have hP : va_P (dC, dI) vwCl [(o0, .inl (ko, 1, .inr (.inl fu20)))] H := hP
      have hD : va_D A [(o0, .inl (ko, 1, .inr (.inl fu20)))] := hD
      try dsimp only at hw43
      obtain rfl : (T_settler (xs 1) (xs 2) (xs 3) (xs 4) 0 0 (xs 7)).1 = r42 := hw43.symm
      refine lv_iload hx hb dL_law_2323 (lv_at hl 1 rfl) ?_
      refine lv_icmp_eq (tgt := 2330) hx hb dL_law_2325 (by decide) (fun c44 => ?_) (fun c44 => absurd rfl c44)
      refine lv_iload hx hb dL_law_2330 (lv_at hl 1 rfl) ?_
      refine lv_if_ne (tgt := 2347) hx hb dL_law_2332 (by decide) (fun c45 => ?_) (fun c45 => ?_)
      · refine lv_goto (tgt := 3762) hx hb dL_law_2347 (by decide) ?_
        exact law_tail hx hb hr hlocks hX hbl hbA hAi hS (Nat.le_of_ble_eq_true rfl) (Nat.le_of_ble_eq_true rfl) ls (lv_sub hl [2, 6] rfl)
      · refine lv_aload_n hx hb dL_law_2335 rfl (lv_at hl 5 rfl) ?_
        refine lv_iconst (v := 0) hx hb dL_law_2336 (by decide) ?_
        refine va_lald hx hb hK hP 0 1 rfl rfl (by unfold vp_in; decide) dL_law_2337 ?_
        refine lv_iload hx hb dL_law_2338 (lv_at hl 0 rfl) ?_
        refine lv_i2l (v := r38.toInt64) hx hb dL_law_2340 rfl ?_
        refine W.lcmp hx hb dL_law_2341 ?_
        refine lv_topi (fun x46 ex46 => ?_)
        obtain rfl : x46 = 0 := ex46.trans (by rw [show fu20 (0 : Int32).toNatClampNeg = (T_settler (xs 1) (xs 2) (xs 3) (xs 4) 0 0 (xs 7)).2.toInt64 from hw19.2 c45, hw39.2 c45]; exact lg_cmp_self _)
        refine lv_if_eq (tgt := 2347) hx hb dL_law_2342 (by decide) (fun c47 => ?_) (fun c47 => absurd c47 (by decide))
        refine lv_goto (tgt := 3762) hx hb dL_law_2347 (by decide) ?_
        exact law_tail hx hb hr hlocks hX hbl hbA hAi hS (Nat.le_of_ble_eq_true rfl) (Nat.le_of_ble_eq_true rfl) ls (lv_sub hl [2, 6] rfl)
    · refine lv_iconst (v := 1) hx hb dL_law_2235 (by decide) ?_
      refine lv_goto (tgt := 2240) hx hb dL_law_2236 (by decide) ?_
      refine lv_aload_n hx hb dL_law_2240 rfl (lv_at hl 0 rfl) ?_
      refine lv_iload hx hb dL_law_2241 (lv_at hl 4 rfl) ?_
      refine lv_bipush (v := 7) hx hb dL_law_2243 (by decide) ?_
      refine lv_iadd hx hb dL_law_2245 ?_
      refine lv_topi (fun x48 ex48 => ?_)
      obtain rfl : x48 = 7 := ex48.trans (by decide)
      refine va_sld hx hb hX hbl hbA hS (i := 7) (by unfold vp_in; decide) dL_law_2246 ?_
      refine lv_topi (fun x49 ex49 => ?_)
      obtain rfl : xs 7 = x49 := (ex49).symm
      refine lv_aload_n hx hb dL_law_2247 rfl (lv_at hl 3 rfl) ?_
      have hPc := hP.sub (ws' := [(a 0, .inr (14, [.ref (a 1), .ref (a 2), .ref (a 27), .ref (a 30), .ref (a 74), .ref (a 75), .null, .int 0, .int 0])), (a 30, .inr (3, [.ref (a 31), .ref (a 32), .ref (a 33), .ref (a 34), .ref (a 35), .ref (a 36), .ref (a 37), .ref (a 38), .ref (a 50), .ref (a 62), .int (-1), .int 0, .long 0, .long 0, .int 0, .int 0, .int 0, .int 0])), (a 31, .inl ((k 31), 60, .inr (.inr (.inr (.inr (fun _ => none)))))), (o0, .inl (ko, 1, .inr (.inl (fun _ => 0))))]) [0, 1, 2, 3] rfl
      have hDc := hD.sub (ws' := [(a 0, .inr (14, [.ref (a 1), .ref (a 2), .ref (a 27), .ref (a 30), .ref (a 74), .ref (a 75), .null, .int 0, .int 0])), (a 30, .inr (3, [.ref (a 31), .ref (a 32), .ref (a 33), .ref (a 34), .ref (a 35), .ref (a 36), .ref (a 37), .ref (a 38), .ref (a 50), .ref (a 62), .int (-1), .int 0, .long 0, .long 0, .int 0, .int 0, .int 0, .int 0])), (a 31, .inl ((k 31), 60, .inr (.inr (.inr (.inr (fun _ => none)))))), (o0, .inl (ko, 1, .inr (.inl (fun _ => 0))))]) [0, 1, 2, 3] (by decide) rfl
      have hKc := hK.sub (tys' := [((k 31), (.object "SeaLand$Settler")), (ko, .long)]) [0, 1] rfl
      have hFc := va_free (wc := [(a 0, .inr (14, [.ref (a 1), .ref (a 2), .ref (a 27), .ref (a 30), .ref (a 74), .ref (a 75), .null, .int 0, .int 0])), (a 30, .inr (3, [.ref (a 31), .ref (a 32), .ref (a 33), .ref (a 34), .ref (a 35), .ref (a 36), .ref (a 37), .ref (a 38), .ref (a 50), .ref (a 62), .int (-1), .int 0, .long 0, .long 0, .int 0, .int 0, .int 0, .int 0])), (a 31, .inl ((k 31), 60, .inr (.inr (.inr (.inr (fun _ => none)))))), (o0, .inl (ko, 1, .inr (.inl (fun _ => 0))))]) hD hS hA [0, 1, 2, 3] rfl
      refine va_calli (vx_runSW (As := [.ref (a 0), .int (xs 1), .int (xs 2), .int (xs 3), .int (xs 4), .int 0, .int 1, .int (xs 7), .ref o0]) (rest := []) ⟨hx, hb, hml, hown, hts⟩ (l_settler l hlt dC dI a k o0 ko (fun _ => 0) (xs 1) (xs 2) (xs 3) (xs 4) 0 1 (xs 7) H.size rfl rfl rfl rfl) (vx_cwSW 9 hts (goodIn_app (goodIn_r _ [43, 44, 45] (by decide +kernel) (by decide +kernel)) (goodIn_ca (goodIn_r _ [1, 2, 3, 4, 5, 6, 7, 8, 9, 10, 11, 12, 13, 14, 15, 16, 17, 18, 19, 20, 21, 22, 23, 24, 25, 26, 27, 28, 29, 30, 31, 32, 33, 34, 35, 36, 37, 38, 39, 40, 41, 42] (by decide +kernel) (by decide +kernel)) (bs_in _ _))) rfl rfl rfl (by decide +kernel) ⟨(Nat.le_of_ble_eq_true rfl), (Nat.le_of_ble_eq_true rfl)⟩) ⟨fun a U g mk q => by obtain ⟨q0, q1, qP, qK, qD, qE, qN⟩ := q; exact ⟨q0, q1, qP, va_K.moved (u := U) (U := U.calling g mk a) (Vm.Alike.refl U.vm) qK, qD, EV.blind g mk a qE, NC.blind g mk a qN⟩, fun U hU hW => ⟨rfl, by rw [hU], by rw [hU]; exact hPc, va_K.moved hW.alike hKc, hDc.weaken (fun _ _ _ _ => trivial), hE.call hS hFc hU hW, hN.call hW⟩⟩ rfl rfl hl.1 rfl (lv_room (Nat.le_of_ble_eq_true rfl)) dL_law_2248 ⟨(Nat.le_of_ble_eq_true rfl), (Nat.le_of_ble_eq_true rfl)⟩) hS (fun q _ h => hFc q h) hFc (fun r51 u t H1 locs ht hvm hw52 hB hz1 hk1 hS => ?_)
      obtain ⟨fu53, rfl⟩ : ∃ z, z = u := ⟨_, rfl⟩
      obtain ⟨hP1, hD1⟩ := hB
      rw [ht] at hP1
      obtain ⟨hP, hD⟩ := va_join (wr := [(h0, .inr (15, mF q 0)), (q 31, .inl ((cm 31), 60, .inl (fun _ => 0))), (q 32, .inl ((cm 32), 60, .inl (fun _ => 0))), (q 33, .inl ((cm 33), 60, .inl (fun _ => 0))), (q 34, .inl ((cm 34), 60, .inl (fun _ => 0))), (q 35, .inl ((cm 35), 60, .inl (fun _ => 0))), (q 36, .inl ((cm 36), 60, .inl (fun _ => 0))), (q 37, .inl ((cm 37), 60, .inl (fun _ => 0))), (q 38, .inl ((cm 38), 60, .inl (fun _ => 0)))]) (w1 := [(o0, .inl (ko, 1, .inr (.inl fu53)))]) hP hD [0, 1, 2, 3] [4, 5, 6, 7, 8, 9, 10, 11, 12] rfl rfl (by decide) (by decide) hk1 hFc hP1 hD1
      generalize H1 = H at hP hS ⊢
      have hP : va_P (dC, dI) vwCl [(h0, .inr (15, mF q 0)), (q 31, .inl ((cm 31), 60, .inl (fun _ => 0))), (q 32, .inl ((cm 32), 60, .inl (fun _ => 0))), (q 33, .inl ((cm 33), 60, .inl (fun _ => 0))), (q 34, .inl ((cm 34), 60, .inl (fun _ => 0))), (q 35, .inl ((cm 35), 60, .inl (fun _ => 0))), (q 36, .inl ((cm 36), 60, .inl (fun _ => 0))), (q 37, .inl ((cm 37), 60, .inl (fun _ => 0))), (q 38, .inl ((cm 38), 60, .inl (fun _ => 0))), (o0, .inl (ko, 1, .inr (.inl fu53)))] H := hP
      have hD : va_D A [(h0, .inr (15, mF q 0)), (q 31, .inl ((cm 31), 60, .inl (fun _ => 0))), (q 32, .inl ((cm 32), 60, .inl (fun _ => 0))), (q 33, .inl ((cm 33), 60, .inl (fun _ => 0))), (q 34, .inl ((cm 34), 60, .inl (fun _ => 0))), (q 35, .inl ((cm 35), 60, .inl (fun _ => 0))), (q 36, .inl ((cm 36), 60, .inl (fun _ => 0))), (q 37, .inl ((cm 37), 60, .inl (fun _ => 0))), (q 38, .inl ((cm 38), 60, .inl (fun _ => 0))), (o0, .inl (ko, 1, .inr (.inl fu53)))] := hD
      try dsimp only at hw52
      obtain rfl : (T_settler (xs 1) (xs 2) (xs 3) (xs 4) 0 1 (xs 7)).1 = r51 := hw52.1.symm
      refine lv_istore (lv' := [(5, .int ((T_settler (xs 1) (xs 2) (xs 3) (xs 4) 0 1 (xs 7)).1)), (0, .ref b), (1, .ref (a 0)), (2, .ref h0), (3, .ref o0), (4, .int 0)]) hx hb dL_law_2251 hl (by decide) rfl (fun ls hl => ?_)
      refine lv_aload_n hx hb dL_law_2253 rfl (lv_at hl 3 rfl) ?_
      refine lv_aload_n hx hb dL_law_2254 rfl (lv_at hl 1 rfl) ?_
      refine lv_iload hx hb dL_law_2255 (lv_at hl 5 rfl) ?_
      refine lv_iconst (v := 1) hx hb dL_law_2257 (by decide) ?_
      refine lv_iadd hx hb dL_law_2258 ?_
      refine lv_topi (fun x54 ex54 => ?_)
      obtain rfl : x54 = 1 := ex54.trans (by decide)
      refine va_sld hx hb hX hbl hbA hS (i := 1) (by unfold vp_in; decide) dL_law_2259 ?_
      refine lv_topi (fun x55 ex55 => ?_)
      obtain rfl : xs 1 = x55 := (ex55).symm
      refine lv_aload_n hx hb dL_law_2260 rfl (lv_at hl 1 rfl) ?_
      refine lv_iload hx hb dL_law_2261 (lv_at hl 5 rfl) ?_
      refine lv_iconst (v := 2) hx hb dL_law_2263 (by decide) ?_
      refine lv_iadd hx hb dL_law_2264 ?_
      refine lv_topi (fun x56 ex56 => ?_)
      obtain rfl : x56 = 2 := ex56.trans (by decide)
      refine va_sld hx hb hX hbl hbA hS (i := 2) (by unfold vp_in; decide) dL_law_2265 ?_
      refine lv_topi (fun x57 ex57 => ?_)
      obtain rfl : xs 2 = x57 := (ex57).symm
      refine lv_aload_n hx hb dL_law_2266 rfl (lv_at hl 1 rfl) ?_
      refine lv_iload hx hb dL_law_2267 (lv_at hl 5 rfl) ?_
      refine lv_iconst (v := 3) hx hb dL_law_2269 (by decide) ?_
      refine lv_iadd hx hb dL_law_2270 ?_
      refine lv_topi (fun x58 ex58 => ?_)
      obtain rfl : x58 = 3 := ex58.trans (by decide)
      refine va_sld hx hb hX hbl hbA hS (i := 3) (by unfold vp_in; decide) dL_law_2271 ?_
      refine lv_topi (fun x59 ex59 => ?_)
      obtain rfl : xs 3 = x59 := (ex59).symm
      refine lv_aload_n hx hb dL_law_2272 rfl (lv_at hl 1 rfl) ?_
      refine lv_iload hx hb dL_law_2273 (lv_at hl 5 rfl) ?_
      refine lv_iconst (v := 4) hx hb dL_law_2275 (by decide) ?_
      refine lv_iadd hx hb dL_law_2276 ?_
      refine lv_topi (fun x60 ex60 => ?_)
      obtain rfl : x60 = 4 := ex60.trans (by decide)
      refine va_sld hx hb hX hbl hbA hS (i := 4) (by unfold vp_in; decide) dL_law_2277 ?_
      refine lv_topi (fun x61 ex61 => ?_)
      obtain rfl : xs 4 = x61 := (ex61).symm
      refine lv_aload_n hx hb dL_law_2278 rfl (lv_at hl 1 rfl) ?_
      refine lv_iload hx hb dL_law_2279 (lv_at hl 5 rfl) ?_
      refine lv_iconst (v := 5) hx hb dL_law_2281 (by decide) ?_
      refine lv_iadd hx hb dL_law_2282 ?_
      refine lv_topi (fun x62 ex62 => ?_)
      obtain rfl : x62 = 5 := ex62.trans (by decide)
      refine va_sld hx hb hX hbl hbA hS (i := 5) (by unfold vp_in; decide) dL_law_2283 ?_
      refine lv_topi (fun x63 ex63 => ?_)
      obtain rfl : xs 5 = x63 := (ex63).symm
      refine lv_if_eq (tgt := 2291) hx hb dL_law_2284 (by decide) (fun c64 => ?_) (fun c64 => absurd c11 c64)
      refine lv_iconst (v := 0) hx hb dL_law_2291 (by decide) ?_
      refine lv_aload_n hx hb dL_law_2292 rfl (lv_at hl 1 rfl) ?_
      refine lv_iload hx hb dL_law_2293 (lv_at hl 5 rfl) ?_
      refine lv_bipush (v := 6) hx hb dL_law_2295 (by decide) ?_
      refine lv_iadd hx hb dL_law_2297 ?_
      refine lv_topi (fun x65 ex65 => ?_)
      obtain rfl : x65 = 6 := ex65.trans (by decide)
      refine va_sld hx hb hX hbl hbA hS (i := 6) (by unfold vp_in; decide) dL_law_2298 ?_
      refine lv_topi (fun x66 ex66 => ?_)
      obtain rfl : xs 6 = x66 := (ex66).symm
      refine lv_if_eq (tgt := 2306) hx hb dL_law_2299 (by decide) (fun c67 => absurd c67 c14) (fun c67 => ?_)
      refine lv_iconst (v := 1) hx hb dL_law_2302 (by decide) ?_
      refine lv_goto (tgt := 2307) hx hb dL_law_2303 (by decide) ?_
      refine lv_aload_n hx hb dL_law_2307 rfl (lv_at hl 1 rfl) ?_
      refine lv_iload hx hb dL_law_2308 (lv_at hl 5 rfl) ?_
      refine lv_bipush (v := 7) hx hb dL_law_2310 (by decide) ?_
      refine lv_iadd hx hb dL_law_2312 ?_
      refine lv_topi (fun x68 ex68 => ?_)
      obtain rfl : x68 = 7 := ex68.trans (by decide)
      refine va_sld hx hb hX hbl hbA hS (i := 7) (by unfold vp_in; decide) dL_law_2313 ?_
      refine lv_topi (fun x69 ex69 => ?_)
      obtain rfl : xs 7 = x69 := (ex69).symm
      have hPc := hP.sub (ws' := [(h0, .inr (15, mF q 0)), (q 31, .inl ((cm 31), 60, .inl (fun _ => 0))), (q 32, .inl ((cm 32), 60, .inl (fun _ => 0))), (q 33, .inl ((cm 33), 60, .inl (fun _ => 0))), (q 34, .inl ((cm 34), 60, .inl (fun _ => 0))), (q 35, .inl ((cm 35), 60, .inl (fun _ => 0))), (q 36, .inl ((cm 36), 60, .inl (fun _ => 0))), (q 37, .inl ((cm 37), 60, .inl (fun _ => 0))), (q 38, .inl ((cm 38), 60, .inl (fun _ => 0)))]) [0, 1, 2, 3, 4, 5, 6, 7, 8] rfl
      have hDc := hD.sub (ws' := [(h0, .inr (15, mF q 0)), (q 31, .inl ((cm 31), 60, .inl (fun _ => 0))), (q 32, .inl ((cm 32), 60, .inl (fun _ => 0))), (q 33, .inl ((cm 33), 60, .inl (fun _ => 0))), (q 34, .inl ((cm 34), 60, .inl (fun _ => 0))), (q 35, .inl ((cm 35), 60, .inl (fun _ => 0))), (q 36, .inl ((cm 36), 60, .inl (fun _ => 0))), (q 37, .inl ((cm 37), 60, .inl (fun _ => 0))), (q 38, .inl ((cm 38), 60, .inl (fun _ => 0)))]) [0, 1, 2, 3, 4, 5, 6, 7, 8] (by decide) rfl
      have hKc := hK.sub (tys' := [((cm 31), .int), ((cm 32), .int), ((cm 33), .int), ((cm 34), .int), ((cm 35), .boolean), ((cm 36), .boolean), ((cm 37), .int), ((cm 38), .int)]) [2, 3, 4, 5, 6, 7, 8, 9] rfl
      have hFc := va_free (wc := [(h0, .inr (15, mF q 0)), (q 31, .inl ((cm 31), 60, .inl (fun _ => 0))), (q 32, .inl ((cm 32), 60, .inl (fun _ => 0))), (q 33, .inl ((cm 33), 60, .inl (fun _ => 0))), (q 34, .inl ((cm 34), 60, .inl (fun _ => 0))), (q 35, .inl ((cm 35), 60, .inl (fun _ => 0))), (q 36, .inl ((cm 36), 60, .inl (fun _ => 0))), (q 37, .inl ((cm 37), 60, .inl (fun _ => 0))), (q 38, .inl ((cm 38), 60, .inl (fun _ => 0)))]) hD hS hA [0, 1, 2, 3, 4, 5, 6, 7, 8] rfl
      refine va_calli (va_runV (As := [.int (xs 1), .int (xs 2), .int (xs 3), .int (xs 4), .int 0, .int 1, .int (xs 7)]) (rest := []) ⟨hx, hb, hml, hown, hts⟩ (m_settler l dC dI h0 q cm (xs 1) (xs 2) (xs 3) (xs 4) 0 1 (xs 7) H.size ) (cwV 7 hts (goodIn_app (goodIn_r _ [67, 68, 69, 51] (by decide +kernel) (by decide +kernel)) (goodIn_ca (goodIn_r _ [46, 47, 48, 49, 50, 51, 52, 53, 54, 55, 56, 57, 58, 59, 60, 61, 62, 63, 64, 65, 66] (by decide +kernel) (by decide +kernel)) (bs_in _ _))) rfl rfl rfl (by decide +kernel) ⟨(Nat.le_of_ble_eq_true rfl), (Nat.le_of_ble_eq_true rfl)⟩) ⟨fun a U g mk q => by obtain ⟨q0, q1, qP, qK, qD⟩ := q; exact ⟨q0, q1, qP, va_K.moved (u := U) (U := U.calling g mk a) (Vm.Alike.refl U.vm) qK, qD⟩, va_recv hKc hPc (ci := 15) (q0 := 0) rfl rfl, fun U hU hW => ⟨rfl, by rw [hU], by rw [hU]; exact hPc, va_K.moved hW.alike hKc, hDc.weaken (fun _ _ _ _ => trivial)⟩⟩ rfl rfl hl.1 rfl (lv_room (Nat.le_of_ble_eq_true rfl)) dL_law_2314 ⟨(Nat.le_of_ble_eq_true rfl), (Nat.le_of_ble_eq_true rfl)⟩) hS (fun q _ h => hFc q h) hFc (fun r71 u t H1 locs ht hvm hw72 hB hz1 hk1 hS => ?_)
      obtain ⟨fs73, rfl⟩ : ∃ z, z = u := ⟨_, rfl⟩
      obtain ⟨hP1, hD1⟩ := hB
      rw [ht] at hP1
      obtain ⟨hP, hD⟩ := va_join (wr := [(o0, .inl (ko, 1, .inr (.inl fu53)))]) (w1 := [(h0, .inr (15, fs73))]) hP hD [0, 1, 2, 3, 4, 5, 6, 7, 8] [9] rfl rfl (by decide) (by decide) hk1 hFc hP1 hD1
      generalize H1 = H at hP hS ⊢
      have hP : va_P (dC, dI) vwCl [(o0, .inl (ko, 1, .inr (.inl fu53))), (h0, .inr (15, fs73))] H := hP
      have hD : va_D A [(o0, .inl (ko, 1, .inr (.inl fu53))), (h0, .inr (15, fs73))] := hD
      try dsimp only at hw72
      refine lv_istore (lv' := [(6, .int r71), (5, .int ((T_settler (xs 1) (xs 2) (xs 3) (xs 4) 0 1 (xs 7)).1)), (0, .ref b), (1, .ref (a 0)), (2, .ref h0), (3, .ref o0), (4, .int 0)]) hx hb dL_law_2317 hl (by decide) rfl (fun ls hl => ?_)
      refine lv_aload_n hx hb dL_law_2319 rfl (lv_at hl 4 rfl) ?_
      have hPc := hP.sub (ws' := [(h0, .inr (15, fs73))]) [1] rfl
      have hDc := hD.sub (ws' := [(h0, .inr (15, fs73))]) [1] (by decide) rfl
      have hKc := hK.sub (tys' := []) [] rfl
      have hFc := va_free (wc := [(h0, .inr (15, fs73))]) hD hS hA [1] rfl
      refine va_calli (va_runV (As := []) (rest := []) ⟨hx, hb, hml, hown, hts⟩ (m_thrown l dC dI h0 fs73 ((T_settler (xs 1) (xs 2) (xs 3) (xs 4) 0 1 (xs 7)).1) H.size hw72.1) (cwV 0 hts (goodIn_app (goodIn_r _ [71, 72, 73, 51] (by decide +kernel) (by decide +kernel)) (goodIn_ca (goodIn_r _ [70, 47] (by decide +kernel) (by decide +kernel)) (bs_in _ _))) rfl rfl rfl (by decide +kernel) ⟨(Nat.le_of_ble_eq_true rfl), (Nat.le_of_ble_eq_true rfl)⟩) ⟨fun a U g mk q => by obtain ⟨q0, q1, qP, qK, qD⟩ := q; exact ⟨q0, q1, qP, va_K.moved (u := U) (U := U.calling g mk a) (Vm.Alike.refl U.vm) qK, qD⟩, va_recv hKc hPc (ci := 15) (q0 := 0) rfl rfl, fun U hU hW => ⟨rfl, by rw [hU], by rw [hU]; exact hPc, va_K.moved hW.alike hKc, hDc.weaken (fun _ _ _ _ => trivial)⟩⟩ rfl rfl hl.1 rfl (lv_room (Nat.le_of_ble_eq_true rfl)) dL_law_2320 ⟨(Nat.le_of_ble_eq_true rfl), (Nat.le_of_ble_eq_true rfl)⟩) hS (fun q _ h => hFc q h) hFc (fun r75 u t H1 locs ht hvm hw76 hB hz1 hk1 hS => ?_)
      have hP1 : va_P (dC, dI) vwCl [] H1 := nilP
      have hD1 : va_D (va_A [(h0, .inr (15, fs73))] H.size) [] := nilD
      have hK := hK
      obtain ⟨hP, hD⟩ := va_join (wr := [(o0, .inl (ko, 1, .inr (.inl fu53)))]) (w1 := []) hP hD [1] [0] rfl rfl (by decide) (by decide) hk1 hFc hP1 hD1
      generalize H1 = H at hP hS ⊢
      have hP : va_P (dC, dI) vwCl [(o0, .inl (ko, 1, .inr (.inl fu53)))] H := hP
      have hD : va_D A [(o0, .inl (ko, 1, .inr (.inl fu53)))] := hD
      try dsimp only at hw76
      obtain rfl : (T_settler (xs 1) (xs 2) (xs 3) (xs 4) 0 1 (xs 7)).1 = r75 := hw76.symm
      refine lv_iload hx hb dL_law_2323 (lv_at hl 1 rfl) ?_
      refine lv_icmp_eq (tgt := 2330) hx hb dL_law_2325 (by decide) (fun c77 => ?_) (fun c77 => absurd rfl c77)
      refine lv_iload hx hb dL_law_2330 (lv_at hl 1 rfl) ?_
      refine lv_if_ne (tgt := 2347) hx hb dL_law_2332 (by decide) (fun c78 => ?_) (fun c78 => ?_)
      · refine lv_goto (tgt := 3762) hx hb dL_law_2347 (by decide) ?_
        exact law_tail hx hb hr hlocks hX hbl hbA hAi hS (Nat.le_of_ble_eq_true rfl) (Nat.le_of_ble_eq_true rfl) ls (lv_sub hl [2, 6] rfl)
      · refine lv_aload_n hx hb dL_law_2335 rfl (lv_at hl 5 rfl) ?_
        refine lv_iconst (v := 0) hx hb dL_law_2336 (by decide) ?_
        refine va_lald hx hb hK hP 0 1 rfl rfl (by unfold vp_in; decide) dL_law_2337 ?_
        refine lv_iload hx hb dL_law_2338 (lv_at hl 0 rfl) ?_
        refine lv_i2l (v := r71.toInt64) hx hb dL_law_2340 rfl ?_
        refine W.lcmp hx hb dL_law_2341 ?_
        refine lv_topi (fun x79 ex79 => ?_)
        obtain rfl : x79 = 0 := ex79.trans (by rw [show fu53 (0 : Int32).toNatClampNeg = (T_settler (xs 1) (xs 2) (xs 3) (xs 4) 0 1 (xs 7)).2.toInt64 from hw52.2 c78, hw72.2 c78]; exact lg_cmp_self _)
        refine lv_if_eq (tgt := 2347) hx hb dL_law_2342 (by decide) (fun c80 => ?_) (fun c80 => absurd c80 (by decide))
        refine lv_goto (tgt := 3762) hx hb dL_law_2347 (by decide) ?_
        exact law_tail hx hb hr hlocks hX hbl hbA hAi hS (Nat.le_of_ble_eq_true rfl) (Nat.le_of_ble_eq_true rfl) ls (lv_sub hl [2, 6] rfl)
  · refine lv_iconst (v := 1) hx hb dL_law_2220 (by decide) ?_
    refine lv_goto (tgt := 2225) hx hb dL_law_2221 (by decide) ?_
    refine lv_aload_n hx hb dL_law_2225 rfl (lv_at hl 0 rfl) ?_
    refine lv_iload hx hb dL_law_2226 (lv_at hl 4 rfl) ?_
    refine lv_bipush (v := 6) hx hb dL_law_2228 (by decide) ?_
    refine lv_iadd hx hb dL_law_2230 ?_
    refine lv_topi (fun x81 ex81 => ?_)
    obtain rfl : x81 = 6 := ex81.trans (by decide)
    refine va_sld hx hb hX hbl hbA hS (i := 6) (by unfold vp_in; decide) dL_law_2231 ?_
    refine lv_topi (fun x82 ex82 => ?_)
    obtain rfl : xs 6 = x82 := (ex82).symm
    refine lv_if_eq (tgt := 2239) hx hb dL_law_2232 (by decide) (fun c83 => ?_) (fun c83 => ?_)
    · refine lv_iconst (v := 0) hx hb dL_law_2239 (by decide) ?_
      refine lv_aload_n hx hb dL_law_2240 rfl (lv_at hl 0 rfl) ?_
      refine lv_iload hx hb dL_law_2241 (lv_at hl 4 rfl) ?_
      refine lv_bipush (v := 7) hx hb dL_law_2243 (by decide) ?_
      refine lv_iadd hx hb dL_law_2245 ?_
      refine lv_topi (fun x84 ex84 => ?_)
      obtain rfl : x84 = 7 := ex84.trans (by decide)
      refine va_sld hx hb hX hbl hbA hS (i := 7) (by unfold vp_in; decide) dL_law_2246 ?_
      refine lv_topi (fun x85 ex85 => ?_)
      obtain rfl : xs 7 = x85 := (ex85).symm
      refine lv_aload_n hx hb dL_law_2247 rfl (lv_at hl 3 rfl) ?_
      have hPc := hP.sub (ws' := [(a 0, .inr (14, [.ref (a 1), .ref (a 2), .ref (a 27), .ref (a 30), .ref (a 74), .ref (a 75), .null, .int 0, .int 0])), (a 30, .inr (3, [.ref (a 31), .ref (a 32), .ref (a 33), .ref (a 34), .ref (a 35), .ref (a 36), .ref (a 37), .ref (a 38), .ref (a 50), .ref (a 62), .int (-1), .int 0, .long 0, .long 0, .int 0, .int 0, .int 0, .int 0])), (a 31, .inl ((k 31), 60, .inr (.inr (.inr (.inr (fun _ => none)))))), (o0, .inl (ko, 1, .inr (.inl (fun _ => 0))))]) [0, 1, 2, 3] rfl
      have hDc := hD.sub (ws' := [(a 0, .inr (14, [.ref (a 1), .ref (a 2), .ref (a 27), .ref (a 30), .ref (a 74), .ref (a 75), .null, .int 0, .int 0])), (a 30, .inr (3, [.ref (a 31), .ref (a 32), .ref (a 33), .ref (a 34), .ref (a 35), .ref (a 36), .ref (a 37), .ref (a 38), .ref (a 50), .ref (a 62), .int (-1), .int 0, .long 0, .long 0, .int 0, .int 0, .int 0, .int 0])), (a 31, .inl ((k 31), 60, .inr (.inr (.inr (.inr (fun _ => none)))))), (o0, .inl (ko, 1, .inr (.inl (fun _ => 0))))]) [0, 1, 2, 3] (by decide) rfl
      have hKc := hK.sub (tys' := [((k 31), (.object "SeaLand$Settler")), (ko, .long)]) [0, 1] rfl
      have hFc := va_free (wc := [(a 0, .inr (14, [.ref (a 1), .ref (a 2), .ref (a 27), .ref (a 30), .ref (a 74), .ref (a 75), .null, .int 0, .int 0])), (a 30, .inr (3, [.ref (a 31), .ref (a 32), .ref (a 33), .ref (a 34), .ref (a 35), .ref (a 36), .ref (a 37), .ref (a 38), .ref (a 50), .ref (a 62), .int (-1), .int 0, .long 0, .long 0, .int 0, .int 0, .int 0, .int 0])), (a 31, .inl ((k 31), 60, .inr (.inr (.inr (.inr (fun _ => none)))))), (o0, .inl (ko, 1, .inr (.inl (fun _ => 0))))]) hD hS hA [0, 1, 2, 3] rfl
      refine va_calli (vx_runSW (As := [.ref (a 0), .int (xs 1), .int (xs 2), .int (xs 3), .int (xs 4), .int 1, .int 0, .int (xs 7), .ref o0]) (rest := []) ⟨hx, hb, hml, hown, hts⟩ (l_settler l hlt dC dI a k o0 ko (fun _ => 0) (xs 1) (xs 2) (xs 3) (xs 4) 1 0 (xs 7) H.size rfl rfl rfl rfl) (vx_cwSW 9 hts (goodIn_app (goodIn_r _ [43, 44, 45] (by decide +kernel) (by decide +kernel)) (goodIn_ca (goodIn_r _ [1, 2, 3, 4, 5, 6, 7, 8, 9, 10, 11, 12, 13, 14, 15, 16, 17, 18, 19, 20, 21, 22, 23, 24, 25, 26, 27, 28, 29, 30, 31, 32, 33, 34, 35, 36, 37, 38, 39, 40, 41, 42] (by decide +kernel) (by decide +kernel)) (bs_in _ _))) rfl rfl rfl (by decide +kernel) ⟨(Nat.le_of_ble_eq_true rfl), (Nat.le_of_ble_eq_true rfl)⟩) ⟨fun a U g mk q => by obtain ⟨q0, q1, qP, qK, qD, qE, qN⟩ := q; exact ⟨q0, q1, qP, va_K.moved (u := U) (U := U.calling g mk a) (Vm.Alike.refl U.vm) qK, qD, EV.blind g mk a qE, NC.blind g mk a qN⟩, fun U hU hW => ⟨rfl, by rw [hU], by rw [hU]; exact hPc, va_K.moved hW.alike hKc, hDc.weaken (fun _ _ _ _ => trivial), hE.call hS hFc hU hW, hN.call hW⟩⟩ rfl rfl hl.1 rfl (lv_room (Nat.le_of_ble_eq_true rfl)) dL_law_2248 ⟨(Nat.le_of_ble_eq_true rfl), (Nat.le_of_ble_eq_true rfl)⟩) hS (fun q _ h => hFc q h) hFc (fun r87 u t H1 locs ht hvm hw88 hB hz1 hk1 hS => ?_)
      obtain ⟨fu89, rfl⟩ : ∃ z, z = u := ⟨_, rfl⟩
      obtain ⟨hP1, hD1⟩ := hB
      rw [ht] at hP1
      obtain ⟨hP, hD⟩ := va_join (wr := [(h0, .inr (15, mF q 0)), (q 31, .inl ((cm 31), 60, .inl (fun _ => 0))), (q 32, .inl ((cm 32), 60, .inl (fun _ => 0))), (q 33, .inl ((cm 33), 60, .inl (fun _ => 0))), (q 34, .inl ((cm 34), 60, .inl (fun _ => 0))), (q 35, .inl ((cm 35), 60, .inl (fun _ => 0))), (q 36, .inl ((cm 36), 60, .inl (fun _ => 0))), (q 37, .inl ((cm 37), 60, .inl (fun _ => 0))), (q 38, .inl ((cm 38), 60, .inl (fun _ => 0)))]) (w1 := [(o0, .inl (ko, 1, .inr (.inl fu89)))]) hP hD [0, 1, 2, 3] [4, 5, 6, 7, 8, 9, 10, 11, 12] rfl rfl (by decide) (by decide) hk1 hFc hP1 hD1
      generalize H1 = H at hP hS ⊢
      have hP : va_P (dC, dI) vwCl [(h0, .inr (15, mF q 0)), (q 31, .inl ((cm 31), 60, .inl (fun _ => 0))), (q 32, .inl ((cm 32), 60, .inl (fun _ => 0))), (q 33, .inl ((cm 33), 60, .inl (fun _ => 0))), (q 34, .inl ((cm 34), 60, .inl (fun _ => 0))), (q 35, .inl ((cm 35), 60, .inl (fun _ => 0))), (q 36, .inl ((cm 36), 60, .inl (fun _ => 0))), (q 37, .inl ((cm 37), 60, .inl (fun _ => 0))), (q 38, .inl ((cm 38), 60, .inl (fun _ => 0))), (o0, .inl (ko, 1, .inr (.inl fu89)))] H := hP
      have hD : va_D A [(h0, .inr (15, mF q 0)), (q 31, .inl ((cm 31), 60, .inl (fun _ => 0))), (q 32, .inl ((cm 32), 60, .inl (fun _ => 0))), (q 33, .inl ((cm 33), 60, .inl (fun _ => 0))), (q 34, .inl ((cm 34), 60, .inl (fun _ => 0))), (q 35, .inl ((cm 35), 60, .inl (fun _ => 0))), (q 36, .inl ((cm 36), 60, .inl (fun _ => 0))), (q 37, .inl ((cm 37), 60, .inl (fun _ => 0))), (q 38, .inl ((cm 38), 60, .inl (fun _ => 0))), (o0, .inl (ko, 1, .inr (.inl fu89)))] := hD
      try dsimp only at hw88
      obtain rfl : (T_settler (xs 1) (xs 2) (xs 3) (xs 4) 1 0 (xs 7)).1 = r87 := hw88.1.symm
      refine lv_istore (lv' := [(5, .int ((T_settler (xs 1) (xs 2) (xs 3) (xs 4) 1 0 (xs 7)).1)), (0, .ref b), (1, .ref (a 0)), (2, .ref h0), (3, .ref o0), (4, .int 0)]) hx hb dL_law_2251 hl (by decide) rfl (fun ls hl => ?_)
      refine lv_aload_n hx hb dL_law_2253 rfl (lv_at hl 3 rfl) ?_
      refine lv_aload_n hx hb dL_law_2254 rfl (lv_at hl 1 rfl) ?_
      refine lv_iload hx hb dL_law_2255 (lv_at hl 5 rfl) ?_
      refine lv_iconst (v := 1) hx hb dL_law_2257 (by decide) ?_
      refine lv_iadd hx hb dL_law_2258 ?_
      refine lv_topi (fun x90 ex90 => ?_)
      obtain rfl : x90 = 1 := ex90.trans (by decide)
      refine va_sld hx hb hX hbl hbA hS (i := 1) (by unfold vp_in; decide) dL_law_2259 ?_
      refine lv_topi (fun x91 ex91 => ?_)
      obtain rfl : xs 1 = x91 := (ex91).symm
      refine lv_aload_n hx hb dL_law_2260 rfl (lv_at hl 1 rfl) ?_
      refine lv_iload hx hb dL_law_2261 (lv_at hl 5 rfl) ?_
      refine lv_iconst (v := 2) hx hb dL_law_2263 (by decide) ?_
      refine lv_iadd hx hb dL_law_2264 ?_
      refine lv_topi (fun x92 ex92 => ?_)
      obtain rfl : x92 = 2 := ex92.trans (by decide)
      refine va_sld hx hb hX hbl hbA hS (i := 2) (by unfold vp_in; decide) dL_law_2265 ?_
      refine lv_topi (fun x93 ex93 => ?_)
      obtain rfl : xs 2 = x93 := (ex93).symm
      refine lv_aload_n hx hb dL_law_2266 rfl (lv_at hl 1 rfl) ?_
      refine lv_iload hx hb dL_law_2267 (lv_at hl 5 rfl) ?_
      refine lv_iconst (v := 3) hx hb dL_law_2269 (by decide) ?_
      refine lv_iadd hx hb dL_law_2270 ?_
      refine lv_topi (fun x94 ex94 => ?_)
      obtain rfl : x94 = 3 := ex94.trans (by decide)
      refine va_sld hx hb hX hbl hbA hS (i := 3) (by unfold vp_in; decide) dL_law_2271 ?_
      refine lv_topi (fun x95 ex95 => ?_)
      obtain rfl : xs 3 = x95 := (ex95).symm
      refine lv_aload_n hx hb dL_law_2272 rfl (lv_at hl 1 rfl) ?_
      refine lv_iload hx hb dL_law_2273 (lv_at hl 5 rfl) ?_
      refine lv_iconst (v := 4) hx hb dL_law_2275 (by decide) ?_
      refine lv_iadd hx hb dL_law_2276 ?_
      refine lv_topi (fun x96 ex96 => ?_)
      obtain rfl : x96 = 4 := ex96.trans (by decide)
      refine va_sld hx hb hX hbl hbA hS (i := 4) (by unfold vp_in; decide) dL_law_2277 ?_
      refine lv_topi (fun x97 ex97 => ?_)
      obtain rfl : xs 4 = x97 := (ex97).symm
      refine lv_aload_n hx hb dL_law_2278 rfl (lv_at hl 1 rfl) ?_
      refine lv_iload hx hb dL_law_2279 (lv_at hl 5 rfl) ?_
      refine lv_iconst (v := 5) hx hb dL_law_2281 (by decide) ?_
      refine lv_iadd hx hb dL_law_2282 ?_
      refine lv_topi (fun x98 ex98 => ?_)
      obtain rfl : x98 = 5 := ex98.trans (by decide)
      refine va_sld hx hb hX hbl hbA hS (i := 5) (by unfold vp_in; decide) dL_law_2283 ?_
      refine lv_topi (fun x99 ex99 => ?_)
      obtain rfl : xs 5 = x99 := (ex99).symm
      refine lv_if_eq (tgt := 2291) hx hb dL_law_2284 (by decide) (fun c100 => absurd c100 c11) (fun c100 => ?_)
      refine lv_iconst (v := 1) hx hb dL_law_2287 (by decide) ?_
      refine lv_goto (tgt := 2292) hx hb dL_law_2288 (by decide) ?_
      refine lv_aload_n hx hb dL_law_2292 rfl (lv_at hl 1 rfl) ?_
      refine lv_iload hx hb dL_law_2293 (lv_at hl 5 rfl) ?_
      refine lv_bipush (v := 6) hx hb dL_law_2295 (by decide) ?_
      refine lv_iadd hx hb dL_law_2297 ?_
      refine lv_topi (fun x101 ex101 => ?_)
      obtain rfl : x101 = 6 := ex101.trans (by decide)
      refine va_sld hx hb hX hbl hbA hS (i := 6) (by unfold vp_in; decide) dL_law_2298 ?_
      refine lv_topi (fun x102 ex102 => ?_)
      obtain rfl : xs 6 = x102 := (ex102).symm
      refine lv_if_eq (tgt := 2306) hx hb dL_law_2299 (by decide) (fun c103 => ?_) (fun c103 => absurd c83 c103)
      refine lv_iconst (v := 0) hx hb dL_law_2306 (by decide) ?_
      refine lv_aload_n hx hb dL_law_2307 rfl (lv_at hl 1 rfl) ?_
      refine lv_iload hx hb dL_law_2308 (lv_at hl 5 rfl) ?_
      refine lv_bipush (v := 7) hx hb dL_law_2310 (by decide) ?_
      refine lv_iadd hx hb dL_law_2312 ?_
      refine lv_topi (fun x104 ex104 => ?_)
      obtain rfl : x104 = 7 := ex104.trans (by decide)
      refine va_sld hx hb hX hbl hbA hS (i := 7) (by unfold vp_in; decide) dL_law_2313 ?_
      refine lv_topi (fun x105 ex105 => ?_)
      obtain rfl : xs 7 = x105 := (ex105).symm
      have hPc := hP.sub (ws' := [(h0, .inr (15, mF q 0)), (q 31, .inl ((cm 31), 60, .inl (fun _ => 0))), (q 32, .inl ((cm 32), 60, .inl (fun _ => 0))), (q 33, .inl ((cm 33), 60, .inl (fun _ => 0))), (q 34, .inl ((cm 34), 60, .inl (fun _ => 0))), (q 35, .inl ((cm 35), 60, .inl (fun _ => 0))), (q 36, .inl ((cm 36), 60, .inl (fun _ => 0))), (q 37, .inl ((cm 37), 60, .inl (fun _ => 0))), (q 38, .inl ((cm 38), 60, .inl (fun _ => 0)))]) [0, 1, 2, 3, 4, 5, 6, 7, 8] rfl
      have hDc := hD.sub (ws' := [(h0, .inr (15, mF q 0)), (q 31, .inl ((cm 31), 60, .inl (fun _ => 0))), (q 32, .inl ((cm 32), 60, .inl (fun _ => 0))), (q 33, .inl ((cm 33), 60, .inl (fun _ => 0))), (q 34, .inl ((cm 34), 60, .inl (fun _ => 0))), (q 35, .inl ((cm 35), 60, .inl (fun _ => 0))), (q 36, .inl ((cm 36), 60, .inl (fun _ => 0))), (q 37, .inl ((cm 37), 60, .inl (fun _ => 0))), (q 38, .inl ((cm 38), 60, .inl (fun _ => 0)))]) [0, 1, 2, 3, 4, 5, 6, 7, 8] (by decide) rfl
      have hKc := hK.sub (tys' := [((cm 31), .int), ((cm 32), .int), ((cm 33), .int), ((cm 34), .int), ((cm 35), .boolean), ((cm 36), .boolean), ((cm 37), .int), ((cm 38), .int)]) [2, 3, 4, 5, 6, 7, 8, 9] rfl
      have hFc := va_free (wc := [(h0, .inr (15, mF q 0)), (q 31, .inl ((cm 31), 60, .inl (fun _ => 0))), (q 32, .inl ((cm 32), 60, .inl (fun _ => 0))), (q 33, .inl ((cm 33), 60, .inl (fun _ => 0))), (q 34, .inl ((cm 34), 60, .inl (fun _ => 0))), (q 35, .inl ((cm 35), 60, .inl (fun _ => 0))), (q 36, .inl ((cm 36), 60, .inl (fun _ => 0))), (q 37, .inl ((cm 37), 60, .inl (fun _ => 0))), (q 38, .inl ((cm 38), 60, .inl (fun _ => 0)))]) hD hS hA [0, 1, 2, 3, 4, 5, 6, 7, 8] rfl
      refine va_calli (va_runV (As := [.int (xs 1), .int (xs 2), .int (xs 3), .int (xs 4), .int 1, .int 0, .int (xs 7)]) (rest := []) ⟨hx, hb, hml, hown, hts⟩ (m_settler l dC dI h0 q cm (xs 1) (xs 2) (xs 3) (xs 4) 1 0 (xs 7) H.size ) (cwV 7 hts (goodIn_app (goodIn_r _ [67, 68, 69, 51] (by decide +kernel) (by decide +kernel)) (goodIn_ca (goodIn_r _ [46, 47, 48, 49, 50, 51, 52, 53, 54, 55, 56, 57, 58, 59, 60, 61, 62, 63, 64, 65, 66] (by decide +kernel) (by decide +kernel)) (bs_in _ _))) rfl rfl rfl (by decide +kernel) ⟨(Nat.le_of_ble_eq_true rfl), (Nat.le_of_ble_eq_true rfl)⟩) ⟨fun a U g mk q => by obtain ⟨q0, q1, qP, qK, qD⟩ := q; exact ⟨q0, q1, qP, va_K.moved (u := U) (U := U.calling g mk a) (Vm.Alike.refl U.vm) qK, qD⟩, va_recv hKc hPc (ci := 15) (q0 := 0) rfl rfl, fun U hU hW => ⟨rfl, by rw [hU], by rw [hU]; exact hPc, va_K.moved hW.alike hKc, hDc.weaken (fun _ _ _ _ => trivial)⟩⟩ rfl rfl hl.1 rfl (lv_room (Nat.le_of_ble_eq_true rfl)) dL_law_2314 ⟨(Nat.le_of_ble_eq_true rfl), (Nat.le_of_ble_eq_true rfl)⟩) hS (fun q _ h => hFc q h) hFc (fun r107 u t H1 locs ht hvm hw108 hB hz1 hk1 hS => ?_)
      obtain ⟨fs109, rfl⟩ : ∃ z, z = u := ⟨_, rfl⟩
      obtain ⟨hP1, hD1⟩ := hB
      rw [ht] at hP1
      obtain ⟨hP, hD⟩ := va_join (wr := [(o0, .inl (ko, 1, .inr (.inl fu89)))]) (w1 := [(h0, .inr (15, fs109))]) hP hD [0, 1, 2, 3, 4, 5, 6, 7, 8] [9] rfl rfl (by decide) (by decide) hk1 hFc hP1 hD1
      generalize H1 = H at hP hS ⊢
      have hP : va_P (dC, dI) vwCl [(o0, .inl (ko, 1, .inr (.inl fu89))), (h0, .inr (15, fs109))] H := hP
      have hD : va_D A [(o0, .inl (ko, 1, .inr (.inl fu89))), (h0, .inr (15, fs109))] := hD
      try dsimp only at hw108
      refine lv_istore (lv' := [(6, .int r107), (5, .int ((T_settler (xs 1) (xs 2) (xs 3) (xs 4) 1 0 (xs 7)).1)), (0, .ref b), (1, .ref (a 0)), (2, .ref h0), (3, .ref o0), (4, .int 0)]) hx hb dL_law_2317 hl (by decide) rfl (fun ls hl => ?_)
      refine lv_aload_n hx hb dL_law_2319 rfl (lv_at hl 4 rfl) ?_
      have hPc := hP.sub (ws' := [(h0, .inr (15, fs109))]) [1] rfl
      have hDc := hD.sub (ws' := [(h0, .inr (15, fs109))]) [1] (by decide) rfl
      have hKc := hK.sub (tys' := []) [] rfl
      have hFc := va_free (wc := [(h0, .inr (15, fs109))]) hD hS hA [1] rfl
      refine va_calli (va_runV (As := []) (rest := []) ⟨hx, hb, hml, hown, hts⟩ (m_thrown l dC dI h0 fs109 ((T_settler (xs 1) (xs 2) (xs 3) (xs 4) 1 0 (xs 7)).1) H.size hw108.1) (cwV 0 hts (goodIn_app (goodIn_r _ [71, 72, 73, 51] (by decide +kernel) (by decide +kernel)) (goodIn_ca (goodIn_r _ [70, 47] (by decide +kernel) (by decide +kernel)) (bs_in _ _))) rfl rfl rfl (by decide +kernel) ⟨(Nat.le_of_ble_eq_true rfl), (Nat.le_of_ble_eq_true rfl)⟩) ⟨fun a U g mk q => by obtain ⟨q0, q1, qP, qK, qD⟩ := q; exact ⟨q0, q1, qP, va_K.moved (u := U) (U := U.calling g mk a) (Vm.Alike.refl U.vm) qK, qD⟩, va_recv hKc hPc (ci := 15) (q0 := 0) rfl rfl, fun U hU hW => ⟨rfl, by rw [hU], by rw [hU]; exact hPc, va_K.moved hW.alike hKc, hDc.weaken (fun _ _ _ _ => trivial)⟩⟩ rfl rfl hl.1 rfl (lv_room (Nat.le_of_ble_eq_true rfl)) dL_law_2320 ⟨(Nat.le_of_ble_eq_true rfl), (Nat.le_of_ble_eq_true rfl)⟩) hS (fun q _ h => hFc q h) hFc (fun r111 u t H1 locs ht hvm hw112 hB hz1 hk1 hS => ?_)
      have hP1 : va_P (dC, dI) vwCl [] H1 := nilP
      have hD1 : va_D (va_A [(h0, .inr (15, fs109))] H.size) [] := nilD
      have hK := hK
      obtain ⟨hP, hD⟩ := va_join (wr := [(o0, .inl (ko, 1, .inr (.inl fu89)))]) (w1 := []) hP hD [1] [0] rfl rfl (by decide) (by decide) hk1 hFc hP1 hD1
      generalize H1 = H at hP hS ⊢
      have hP : va_P (dC, dI) vwCl [(o0, .inl (ko, 1, .inr (.inl fu89)))] H := hP
      have hD : va_D A [(o0, .inl (ko, 1, .inr (.inl fu89)))] := hD
      try dsimp only at hw112
      obtain rfl : (T_settler (xs 1) (xs 2) (xs 3) (xs 4) 1 0 (xs 7)).1 = r111 := hw112.symm
      refine lv_iload hx hb dL_law_2323 (lv_at hl 1 rfl) ?_
      refine lv_icmp_eq (tgt := 2330) hx hb dL_law_2325 (by decide) (fun c113 => ?_) (fun c113 => absurd rfl c113)
      refine lv_iload hx hb dL_law_2330 (lv_at hl 1 rfl) ?_
      refine lv_if_ne (tgt := 2347) hx hb dL_law_2332 (by decide) (fun c114 => ?_) (fun c114 => ?_)
      · refine lv_goto (tgt := 3762) hx hb dL_law_2347 (by decide) ?_
        exact law_tail hx hb hr hlocks hX hbl hbA hAi hS (Nat.le_of_ble_eq_true rfl) (Nat.le_of_ble_eq_true rfl) ls (lv_sub hl [2, 6] rfl)
      · refine lv_aload_n hx hb dL_law_2335 rfl (lv_at hl 5 rfl) ?_
        refine lv_iconst (v := 0) hx hb dL_law_2336 (by decide) ?_
        refine va_lald hx hb hK hP 0 1 rfl rfl (by unfold vp_in; decide) dL_law_2337 ?_
        refine lv_iload hx hb dL_law_2338 (lv_at hl 0 rfl) ?_
        refine lv_i2l (v := r107.toInt64) hx hb dL_law_2340 rfl ?_
        refine W.lcmp hx hb dL_law_2341 ?_
        refine lv_topi (fun x115 ex115 => ?_)
        obtain rfl : x115 = 0 := ex115.trans (by rw [show fu89 (0 : Int32).toNatClampNeg = (T_settler (xs 1) (xs 2) (xs 3) (xs 4) 1 0 (xs 7)).2.toInt64 from hw88.2 c114, hw108.2 c114]; exact lg_cmp_self _)
        refine lv_if_eq (tgt := 2347) hx hb dL_law_2342 (by decide) (fun c116 => ?_) (fun c116 => absurd c116 (by decide))
        refine lv_goto (tgt := 3762) hx hb dL_law_2347 (by decide) ?_
        exact law_tail hx hb hr hlocks hX hbl hbA hAi hS (Nat.le_of_ble_eq_true rfl) (Nat.le_of_ble_eq_true rfl) ls (lv_sub hl [2, 6] rfl)
    · refine lv_iconst (v := 1) hx hb dL_law_2235 (by decide) ?_
      refine lv_goto (tgt := 2240) hx hb dL_law_2236 (by decide) ?_
      refine lv_aload_n hx hb dL_law_2240 rfl (lv_at hl 0 rfl) ?_
      refine lv_iload hx hb dL_law_2241 (lv_at hl 4 rfl) ?_
      refine lv_bipush (v := 7) hx hb dL_law_2243 (by decide) ?_
      refine lv_iadd hx hb dL_law_2245 ?_
      refine lv_topi (fun x117 ex117 => ?_)
      obtain rfl : x117 = 7 := ex117.trans (by decide)
      refine va_sld hx hb hX hbl hbA hS (i := 7) (by unfold vp_in; decide) dL_law_2246 ?_
      refine lv_topi (fun x118 ex118 => ?_)
      obtain rfl : xs 7 = x118 := (ex118).symm
      refine lv_aload_n hx hb dL_law_2247 rfl (lv_at hl 3 rfl) ?_
      have hPc := hP.sub (ws' := [(a 0, .inr (14, [.ref (a 1), .ref (a 2), .ref (a 27), .ref (a 30), .ref (a 74), .ref (a 75), .null, .int 0, .int 0])), (a 30, .inr (3, [.ref (a 31), .ref (a 32), .ref (a 33), .ref (a 34), .ref (a 35), .ref (a 36), .ref (a 37), .ref (a 38), .ref (a 50), .ref (a 62), .int (-1), .int 0, .long 0, .long 0, .int 0, .int 0, .int 0, .int 0])), (a 31, .inl ((k 31), 60, .inr (.inr (.inr (.inr (fun _ => none)))))), (o0, .inl (ko, 1, .inr (.inl (fun _ => 0))))]) [0, 1, 2, 3] rfl
      have hDc := hD.sub (ws' := [(a 0, .inr (14, [.ref (a 1), .ref (a 2), .ref (a 27), .ref (a 30), .ref (a 74), .ref (a 75), .null, .int 0, .int 0])), (a 30, .inr (3, [.ref (a 31), .ref (a 32), .ref (a 33), .ref (a 34), .ref (a 35), .ref (a 36), .ref (a 37), .ref (a 38), .ref (a 50), .ref (a 62), .int (-1), .int 0, .long 0, .long 0, .int 0, .int 0, .int 0, .int 0])), (a 31, .inl ((k 31), 60, .inr (.inr (.inr (.inr (fun _ => none)))))), (o0, .inl (ko, 1, .inr (.inl (fun _ => 0))))]) [0, 1, 2, 3] (by decide) rfl
      have hKc := hK.sub (tys' := [((k 31), (.object "SeaLand$Settler")), (ko, .long)]) [0, 1] rfl
      have hFc := va_free (wc := [(a 0, .inr (14, [.ref (a 1), .ref (a 2), .ref (a 27), .ref (a 30), .ref (a 74), .ref (a 75), .null, .int 0, .int 0])), (a 30, .inr (3, [.ref (a 31), .ref (a 32), .ref (a 33), .ref (a 34), .ref (a 35), .ref (a 36), .ref (a 37), .ref (a 38), .ref (a 50), .ref (a 62), .int (-1), .int 0, .long 0, .long 0, .int 0, .int 0, .int 0, .int 0])), (a 31, .inl ((k 31), 60, .inr (.inr (.inr (.inr (fun _ => none)))))), (o0, .inl (ko, 1, .inr (.inl (fun _ => 0))))]) hD hS hA [0, 1, 2, 3] rfl
      refine va_calli (vx_runSW (As := [.ref (a 0), .int (xs 1), .int (xs 2), .int (xs 3), .int (xs 4), .int 1, .int 1, .int (xs 7), .ref o0]) (rest := []) ⟨hx, hb, hml, hown, hts⟩ (l_settler l hlt dC dI a k o0 ko (fun _ => 0) (xs 1) (xs 2) (xs 3) (xs 4) 1 1 (xs 7) H.size rfl rfl rfl rfl) (vx_cwSW 9 hts (goodIn_app (goodIn_r _ [43, 44, 45] (by decide +kernel) (by decide +kernel)) (goodIn_ca (goodIn_r _ [1, 2, 3, 4, 5, 6, 7, 8, 9, 10, 11, 12, 13, 14, 15, 16, 17, 18, 19, 20, 21, 22, 23, 24, 25, 26, 27, 28, 29, 30, 31, 32, 33, 34, 35, 36, 37, 38, 39, 40, 41, 42] (by decide +kernel) (by decide +kernel)) (bs_in _ _))) rfl rfl rfl (by decide +kernel) ⟨(Nat.le_of_ble_eq_true rfl), (Nat.le_of_ble_eq_true rfl)⟩) ⟨fun a U g mk q => by obtain ⟨q0, q1, qP, qK, qD, qE, qN⟩ := q; exact ⟨q0, q1, qP, va_K.moved (u := U) (U := U.calling g mk a) (Vm.Alike.refl U.vm) qK, qD, EV.blind g mk a qE, NC.blind g mk a qN⟩, fun U hU hW => ⟨rfl, by rw [hU], by rw [hU]; exact hPc, va_K.moved hW.alike hKc, hDc.weaken (fun _ _ _ _ => trivial), hE.call hS hFc hU hW, hN.call hW⟩⟩ rfl rfl hl.1 rfl (lv_room (Nat.le_of_ble_eq_true rfl)) dL_law_2248 ⟨(Nat.le_of_ble_eq_true rfl), (Nat.le_of_ble_eq_true rfl)⟩) hS (fun q _ h => hFc q h) hFc (fun r120 u t H1 locs ht hvm hw121 hB hz1 hk1 hS => ?_)
      obtain ⟨fu122, rfl⟩ : ∃ z, z = u := ⟨_, rfl⟩
      obtain ⟨hP1, hD1⟩ := hB
      rw [ht] at hP1
      obtain ⟨hP, hD⟩ := va_join (wr := [(h0, .inr (15, mF q 0)), (q 31, .inl ((cm 31), 60, .inl (fun _ => 0))), (q 32, .inl ((cm 32), 60, .inl (fun _ => 0))), (q 33, .inl ((cm 33), 60, .inl (fun _ => 0))), (q 34, .inl ((cm 34), 60, .inl (fun _ => 0))), (q 35, .inl ((cm 35), 60, .inl (fun _ => 0))), (q 36, .inl ((cm 36), 60, .inl (fun _ => 0))), (q 37, .inl ((cm 37), 60, .inl (fun _ => 0))), (q 38, .inl ((cm 38), 60, .inl (fun _ => 0)))]) (w1 := [(o0, .inl (ko, 1, .inr (.inl fu122)))]) hP hD [0, 1, 2, 3] [4, 5, 6, 7, 8, 9, 10, 11, 12] rfl rfl (by decide) (by decide) hk1 hFc hP1 hD1
      generalize H1 = H at hP hS ⊢
      have hP : va_P (dC, dI) vwCl [(h0, .inr (15, mF q 0)), (q 31, .inl ((cm 31), 60, .inl (fun _ => 0))), (q 32, .inl ((cm 32), 60, .inl (fun _ => 0))), (q 33, .inl ((cm 33), 60, .inl (fun _ => 0))), (q 34, .inl ((cm 34), 60, .inl (fun _ => 0))), (q 35, .inl ((cm 35), 60, .inl (fun _ => 0))), (q 36, .inl ((cm 36), 60, .inl (fun _ => 0))), (q 37, .inl ((cm 37), 60, .inl (fun _ => 0))), (q 38, .inl ((cm 38), 60, .inl (fun _ => 0))), (o0, .inl (ko, 1, .inr (.inl fu122)))] H := hP
      have hD : va_D A [(h0, .inr (15, mF q 0)), (q 31, .inl ((cm 31), 60, .inl (fun _ => 0))), (q 32, .inl ((cm 32), 60, .inl (fun _ => 0))), (q 33, .inl ((cm 33), 60, .inl (fun _ => 0))), (q 34, .inl ((cm 34), 60, .inl (fun _ => 0))), (q 35, .inl ((cm 35), 60, .inl (fun _ => 0))), (q 36, .inl ((cm 36), 60, .inl (fun _ => 0))), (q 37, .inl ((cm 37), 60, .inl (fun _ => 0))), (q 38, .inl ((cm 38), 60, .inl (fun _ => 0))), (o0, .inl (ko, 1, .inr (.inl fu122)))] := hD
      try dsimp only at hw121
      obtain rfl : (T_settler (xs 1) (xs 2) (xs 3) (xs 4) 1 1 (xs 7)).1 = r120 := hw121.1.symm
      refine lv_istore (lv' := [(5, .int ((T_settler (xs 1) (xs 2) (xs 3) (xs 4) 1 1 (xs 7)).1)), (0, .ref b), (1, .ref (a 0)), (2, .ref h0), (3, .ref o0), (4, .int 0)]) hx hb dL_law_2251 hl (by decide) rfl (fun ls hl => ?_)
      refine lv_aload_n hx hb dL_law_2253 rfl (lv_at hl 3 rfl) ?_
      refine lv_aload_n hx hb dL_law_2254 rfl (lv_at hl 1 rfl) ?_
      refine lv_iload hx hb dL_law_2255 (lv_at hl 5 rfl) ?_
      refine lv_iconst (v := 1) hx hb dL_law_2257 (by decide) ?_
      refine lv_iadd hx hb dL_law_2258 ?_
      refine lv_topi (fun x123 ex123 => ?_)
      obtain rfl : x123 = 1 := ex123.trans (by decide)
      refine va_sld hx hb hX hbl hbA hS (i := 1) (by unfold vp_in; decide) dL_law_2259 ?_
      refine lv_topi (fun x124 ex124 => ?_)
      obtain rfl : xs 1 = x124 := (ex124).symm
      refine lv_aload_n hx hb dL_law_2260 rfl (lv_at hl 1 rfl) ?_
      refine lv_iload hx hb dL_law_2261 (lv_at hl 5 rfl) ?_
      refine lv_iconst (v := 2) hx hb dL_law_2263 (by decide) ?_
      refine lv_iadd hx hb dL_law_2264 ?_
      refine lv_topi (fun x125 ex125 => ?_)
      obtain rfl : x125 = 2 := ex125.trans (by decide)
      refine va_sld hx hb hX hbl hbA hS (i := 2) (by unfold vp_in; decide) dL_law_2265 ?_
      refine lv_topi (fun x126 ex126 => ?_)
      obtain rfl : xs 2 = x126 := (ex126).symm
      refine lv_aload_n hx hb dL_law_2266 rfl (lv_at hl 1 rfl) ?_
      refine lv_iload hx hb dL_law_2267 (lv_at hl 5 rfl) ?_
      refine lv_iconst (v := 3) hx hb dL_law_2269 (by decide) ?_
      refine lv_iadd hx hb dL_law_2270 ?_
      refine lv_topi (fun x127 ex127 => ?_)
      obtain rfl : x127 = 3 := ex127.trans (by decide)
      refine va_sld hx hb hX hbl hbA hS (i := 3) (by unfold vp_in; decide) dL_law_2271 ?_
      refine lv_topi (fun x128 ex128 => ?_)
      obtain rfl : xs 3 = x128 := (ex128).symm
      refine lv_aload_n hx hb dL_law_2272 rfl (lv_at hl 1 rfl) ?_
      refine lv_iload hx hb dL_law_2273 (lv_at hl 5 rfl) ?_
      refine lv_iconst (v := 4) hx hb dL_law_2275 (by decide) ?_
      refine lv_iadd hx hb dL_law_2276 ?_
      refine lv_topi (fun x129 ex129 => ?_)
      obtain rfl : x129 = 4 := ex129.trans (by decide)
      refine va_sld hx hb hX hbl hbA hS (i := 4) (by unfold vp_in; decide) dL_law_2277 ?_
      refine lv_topi (fun x130 ex130 => ?_)
      obtain rfl : xs 4 = x130 := (ex130).symm
      refine lv_aload_n hx hb dL_law_2278 rfl (lv_at hl 1 rfl) ?_
      refine lv_iload hx hb dL_law_2279 (lv_at hl 5 rfl) ?_
      refine lv_iconst (v := 5) hx hb dL_law_2281 (by decide) ?_
      refine lv_iadd hx hb dL_law_2282 ?_
      refine lv_topi (fun x131 ex131 => ?_)
      obtain rfl : x131 = 5 := ex131.trans (by decide)
      refine va_sld hx hb hX hbl hbA hS (i := 5) (by unfold vp_in; decide) dL_law_2283 ?_
      refine lv_topi (fun x132 ex132 => ?_)
      obtain rfl : xs 5 = x132 := (ex132).symm
      refine lv_if_eq (tgt := 2291) hx hb dL_law_2284 (by decide) (fun c133 => absurd c133 c11) (fun c133 => ?_)
      refine lv_iconst (v := 1) hx hb dL_law_2287 (by decide) ?_
      refine lv_goto (tgt := 2292) hx hb dL_law_2288 (by decide) ?_
      refine lv_aload_n hx hb dL_law_2292 rfl (lv_at hl 1 rfl) ?_
      refine lv_iload hx hb dL_law_2293 (lv_at hl 5 rfl) ?_
      refine lv_bipush (v := 6) hx hb dL_law_2295 (by decide) ?_
      refine lv_iadd hx hb dL_law_2297 ?_
      refine lv_topi (fun x134 ex134 => ?_)
      obtain rfl : x134 = 6 := ex134.trans (by decide)
      refine va_sld hx hb hX hbl hbA hS (i := 6) (by unfold vp_in; decide) dL_law_2298 ?_
      refine lv_topi (fun x135 ex135 => ?_)
      obtain rfl : xs 6 = x135 := (ex135).symm
      refine lv_if_eq (tgt := 2306) hx hb dL_law_2299 (by decide) (fun c136 => absurd c136 c83) (fun c136 => ?_)
      refine lv_iconst (v := 1) hx hb dL_law_2302 (by decide) ?_
      refine lv_goto (tgt := 2307) hx hb dL_law_2303 (by decide) ?_
      refine lv_aload_n hx hb dL_law_2307 rfl (lv_at hl 1 rfl) ?_
      refine lv_iload hx hb dL_law_2308 (lv_at hl 5 rfl) ?_
      refine lv_bipush (v := 7) hx hb dL_law_2310 (by decide) ?_
      refine lv_iadd hx hb dL_law_2312 ?_
      refine lv_topi (fun x137 ex137 => ?_)
      obtain rfl : x137 = 7 := ex137.trans (by decide)
      refine va_sld hx hb hX hbl hbA hS (i := 7) (by unfold vp_in; decide) dL_law_2313 ?_
      refine lv_topi (fun x138 ex138 => ?_)
      obtain rfl : xs 7 = x138 := (ex138).symm
      have hPc := hP.sub (ws' := [(h0, .inr (15, mF q 0)), (q 31, .inl ((cm 31), 60, .inl (fun _ => 0))), (q 32, .inl ((cm 32), 60, .inl (fun _ => 0))), (q 33, .inl ((cm 33), 60, .inl (fun _ => 0))), (q 34, .inl ((cm 34), 60, .inl (fun _ => 0))), (q 35, .inl ((cm 35), 60, .inl (fun _ => 0))), (q 36, .inl ((cm 36), 60, .inl (fun _ => 0))), (q 37, .inl ((cm 37), 60, .inl (fun _ => 0))), (q 38, .inl ((cm 38), 60, .inl (fun _ => 0)))]) [0, 1, 2, 3, 4, 5, 6, 7, 8] rfl
      have hDc := hD.sub (ws' := [(h0, .inr (15, mF q 0)), (q 31, .inl ((cm 31), 60, .inl (fun _ => 0))), (q 32, .inl ((cm 32), 60, .inl (fun _ => 0))), (q 33, .inl ((cm 33), 60, .inl (fun _ => 0))), (q 34, .inl ((cm 34), 60, .inl (fun _ => 0))), (q 35, .inl ((cm 35), 60, .inl (fun _ => 0))), (q 36, .inl ((cm 36), 60, .inl (fun _ => 0))), (q 37, .inl ((cm 37), 60, .inl (fun _ => 0))), (q 38, .inl ((cm 38), 60, .inl (fun _ => 0)))]) [0, 1, 2, 3, 4, 5, 6, 7, 8] (by decide) rfl
      have hKc := hK.sub (tys' := [((cm 31), .int), ((cm 32), .int), ((cm 33), .int), ((cm 34), .int), ((cm 35), .boolean), ((cm 36), .boolean), ((cm 37), .int), ((cm 38), .int)]) [2, 3, 4, 5, 6, 7, 8, 9] rfl
      have hFc := va_free (wc := [(h0, .inr (15, mF q 0)), (q 31, .inl ((cm 31), 60, .inl (fun _ => 0))), (q 32, .inl ((cm 32), 60, .inl (fun _ => 0))), (q 33, .inl ((cm 33), 60, .inl (fun _ => 0))), (q 34, .inl ((cm 34), 60, .inl (fun _ => 0))), (q 35, .inl ((cm 35), 60, .inl (fun _ => 0))), (q 36, .inl ((cm 36), 60, .inl (fun _ => 0))), (q 37, .inl ((cm 37), 60, .inl (fun _ => 0))), (q 38, .inl ((cm 38), 60, .inl (fun _ => 0)))]) hD hS hA [0, 1, 2, 3, 4, 5, 6, 7, 8] rfl
      refine va_calli (va_runV (As := [.int (xs 1), .int (xs 2), .int (xs 3), .int (xs 4), .int 1, .int 1, .int (xs 7)]) (rest := []) ⟨hx, hb, hml, hown, hts⟩ (m_settler l dC dI h0 q cm (xs 1) (xs 2) (xs 3) (xs 4) 1 1 (xs 7) H.size ) (cwV 7 hts (goodIn_app (goodIn_r _ [67, 68, 69, 51] (by decide +kernel) (by decide +kernel)) (goodIn_ca (goodIn_r _ [46, 47, 48, 49, 50, 51, 52, 53, 54, 55, 56, 57, 58, 59, 60, 61, 62, 63, 64, 65, 66] (by decide +kernel) (by decide +kernel)) (bs_in _ _))) rfl rfl rfl (by decide +kernel) ⟨(Nat.le_of_ble_eq_true rfl), (Nat.le_of_ble_eq_true rfl)⟩) ⟨fun a U g mk q => by obtain ⟨q0, q1, qP, qK, qD⟩ := q; exact ⟨q0, q1, qP, va_K.moved (u := U) (U := U.calling g mk a) (Vm.Alike.refl U.vm) qK, qD⟩, va_recv hKc hPc (ci := 15) (q0 := 0) rfl rfl, fun U hU hW => ⟨rfl, by rw [hU], by rw [hU]; exact hPc, va_K.moved hW.alike hKc, hDc.weaken (fun _ _ _ _ => trivial)⟩⟩ rfl rfl hl.1 rfl (lv_room (Nat.le_of_ble_eq_true rfl)) dL_law_2314 ⟨(Nat.le_of_ble_eq_true rfl), (Nat.le_of_ble_eq_true rfl)⟩) hS (fun q _ h => hFc q h) hFc (fun r140 u t H1 locs ht hvm hw141 hB hz1 hk1 hS => ?_)
      obtain ⟨fs142, rfl⟩ : ∃ z, z = u := ⟨_, rfl⟩
      obtain ⟨hP1, hD1⟩ := hB
      rw [ht] at hP1
      obtain ⟨hP, hD⟩ := va_join (wr := [(o0, .inl (ko, 1, .inr (.inl fu122)))]) (w1 := [(h0, .inr (15, fs142))]) hP hD [0, 1, 2, 3, 4, 5, 6, 7, 8] [9] rfl rfl (by decide) (by decide) hk1 hFc hP1 hD1
      generalize H1 = H at hP hS ⊢
      have hP : va_P (dC, dI) vwCl [(o0, .inl (ko, 1, .inr (.inl fu122))), (h0, .inr (15, fs142))] H := hP
      have hD : va_D A [(o0, .inl (ko, 1, .inr (.inl fu122))), (h0, .inr (15, fs142))] := hD
      try dsimp only at hw141
      refine lv_istore (lv' := [(6, .int r140), (5, .int ((T_settler (xs 1) (xs 2) (xs 3) (xs 4) 1 1 (xs 7)).1)), (0, .ref b), (1, .ref (a 0)), (2, .ref h0), (3, .ref o0), (4, .int 0)]) hx hb dL_law_2317 hl (by decide) rfl (fun ls hl => ?_)
      refine lv_aload_n hx hb dL_law_2319 rfl (lv_at hl 4 rfl) ?_
      have hPc := hP.sub (ws' := [(h0, .inr (15, fs142))]) [1] rfl
      have hDc := hD.sub (ws' := [(h0, .inr (15, fs142))]) [1] (by decide) rfl
      have hKc := hK.sub (tys' := []) [] rfl
      have hFc := va_free (wc := [(h0, .inr (15, fs142))]) hD hS hA [1] rfl
      refine va_calli (va_runV (As := []) (rest := []) ⟨hx, hb, hml, hown, hts⟩ (m_thrown l dC dI h0 fs142 ((T_settler (xs 1) (xs 2) (xs 3) (xs 4) 1 1 (xs 7)).1) H.size hw141.1) (cwV 0 hts (goodIn_app (goodIn_r _ [71, 72, 73, 51] (by decide +kernel) (by decide +kernel)) (goodIn_ca (goodIn_r _ [70, 47] (by decide +kernel) (by decide +kernel)) (bs_in _ _))) rfl rfl rfl (by decide +kernel) ⟨(Nat.le_of_ble_eq_true rfl), (Nat.le_of_ble_eq_true rfl)⟩) ⟨fun a U g mk q => by obtain ⟨q0, q1, qP, qK, qD⟩ := q; exact ⟨q0, q1, qP, va_K.moved (u := U) (U := U.calling g mk a) (Vm.Alike.refl U.vm) qK, qD⟩, va_recv hKc hPc (ci := 15) (q0 := 0) rfl rfl, fun U hU hW => ⟨rfl, by rw [hU], by rw [hU]; exact hPc, va_K.moved hW.alike hKc, hDc.weaken (fun _ _ _ _ => trivial)⟩⟩ rfl rfl hl.1 rfl (lv_room (Nat.le_of_ble_eq_true rfl)) dL_law_2320 ⟨(Nat.le_of_ble_eq_true rfl), (Nat.le_of_ble_eq_true rfl)⟩) hS (fun q _ h => hFc q h) hFc (fun r144 u t H1 locs ht hvm hw145 hB hz1 hk1 hS => ?_)
      have hP1 : va_P (dC, dI) vwCl [] H1 := nilP
      have hD1 : va_D (va_A [(h0, .inr (15, fs142))] H.size) [] := nilD
      have hK := hK
      obtain ⟨hP, hD⟩ := va_join (wr := [(o0, .inl (ko, 1, .inr (.inl fu122)))]) (w1 := []) hP hD [1] [0] rfl rfl (by decide) (by decide) hk1 hFc hP1 hD1
      generalize H1 = H at hP hS ⊢
      have hP : va_P (dC, dI) vwCl [(o0, .inl (ko, 1, .inr (.inl fu122)))] H := hP
      have hD : va_D A [(o0, .inl (ko, 1, .inr (.inl fu122)))] := hD
      try dsimp only at hw145
      obtain rfl : (T_settler (xs 1) (xs 2) (xs 3) (xs 4) 1 1 (xs 7)).1 = r144 := hw145.symm
      refine lv_iload hx hb dL_law_2323 (lv_at hl 1 rfl) ?_
      refine lv_icmp_eq (tgt := 2330) hx hb dL_law_2325 (by decide) (fun c146 => ?_) (fun c146 => absurd rfl c146)
      refine lv_iload hx hb dL_law_2330 (lv_at hl 1 rfl) ?_
      refine lv_if_ne (tgt := 2347) hx hb dL_law_2332 (by decide) (fun c147 => ?_) (fun c147 => ?_)
      · refine lv_goto (tgt := 3762) hx hb dL_law_2347 (by decide) ?_
        exact law_tail hx hb hr hlocks hX hbl hbA hAi hS (Nat.le_of_ble_eq_true rfl) (Nat.le_of_ble_eq_true rfl) ls (lv_sub hl [2, 6] rfl)
      · refine lv_aload_n hx hb dL_law_2335 rfl (lv_at hl 5 rfl) ?_
        refine lv_iconst (v := 0) hx hb dL_law_2336 (by decide) ?_
        refine va_lald hx hb hK hP 0 1 rfl rfl (by unfold vp_in; decide) dL_law_2337 ?_
        refine lv_iload hx hb dL_law_2338 (lv_at hl 0 rfl) ?_
        refine lv_i2l (v := r140.toInt64) hx hb dL_law_2340 rfl ?_
        refine W.lcmp hx hb dL_law_2341 ?_
        refine lv_topi (fun x148 ex148 => ?_)
        obtain rfl : x148 = 0 := ex148.trans (by rw [show fu122 (0 : Int32).toNatClampNeg = (T_settler (xs 1) (xs 2) (xs 3) (xs 4) 1 1 (xs 7)).2.toInt64 from hw121.2 c147, hw141.2 c147]; exact lg_cmp_self _)
        refine lv_if_eq (tgt := 2347) hx hb dL_law_2342 (by decide) (fun c149 => ?_) (fun c149 => absurd c149 (by decide))
        refine lv_goto (tgt := 3762) hx hb dL_law_2347 (by decide) ?_
        exact law_tail hx hb hr hlocks hX hbl hbA hAi hS (Nat.le_of_ble_eq_true rfl) (Nat.le_of_ble_eq_true rfl) ls (lv_sub hl [2, 6] rfl)
def w_law_29 : List Cond := .initialized RL :: ([.codeWith yL_farm cL_farm 5 (some .int) [(0, 10, 13, 13)], .code yX11_farm cX11_farm 3 (some .int), .code yX11_needSquare cX11_needSquare 1 none, .code yX11_within cX11_within 3 (some .boolean), .methodLink RX11 58 yX11_within, .static yX11_within, .initialized RX11, .classLink RX11 557 "java/lang/IndexOutOfBoundsException", .initialized "java/lang/IndexOutOfBoundsException", .methodLink RX11 55 yX11_needSquare, .static yX11_needSquare, .fieldLink RX11 30 "SeaLand" "board" "LSeaLand$Board;", .fieldLink RX11 16 "SeaLand" "lake" "LSeaLand$Lake;", .code yX0_farmMayBe cX0_farmMayBe 6 (some .boolean), .fieldLink RX0 143 "SeaLand$Board" "farms" "I", .code yX11_inRectangle cX11_inRectangle 3 (some .boolean), .code yX11_isBetween cX11_isBetween 3 (some .boolean), .methodLink RX11 588 Lib.Math.min.name, .static Lib.Math.min.name, .initialized "java/lang/Math", .code Lib.Math.min.name Lib.Math.min.code 2 (some .int), .methodLink RX11 591 Lib.Math.max.name, .static Lib.Math.max.name, .code Lib.Math.max.name Lib.Math.max.code 2 (some .int), .methodLink RX11 585 yX11_isBetween, .static yX11_isBetween, .static yX11_inRectangle, .methodLink RX11 359 yX0_farmMayBe, .instanceMethod yX0_farmMayBe, .selects RX0 yX0_farmMayBe yX0_farmMayBe, .initialized RX0, .methodLink RL 114 yX11_farm, .instanceMethod yX11_farm, .selects RX11 yX11_farm yX11_farm, .classLink RL 13 "java/lang/IndexOutOfBoundsException", .methodLink RL 279 yL_farm, .static yL_farm, .initialized RL, .code yX12_farm cX12_farm 4 (some .int), .fieldLink RX12 194 "SeaLandModel" "thrown" "I", .code yX12_noSquare cX12_noSquare 1 (some .boolean), .code yX12_in cX12_in 3 (some .boolean), .methodLink RX12 197 yX12_in, .static yX12_in, .initialized RX12, .methodLink RX12 220 yX12_noSquare, .static yX12_noSquare, .code yX12_throwsIf cX12_throwsIf 3 (some .boolean), .methodLink RX12 224 yX12_throwsIf, .instanceMethod yX12_throwsIf, .selects RX12 yX12_throwsIf yX12_throwsIf, .fieldLink RX12 498 "SeaLandModel" "farms" "I", .code yX12_isIn cX12_isIn 5 (some .boolean), .methodLink RX12 207 Lib.Math.min.name, .methodLink RX12 211 Lib.Math.max.name, .methodLink RX12 232 yX12_isIn, .static yX12_isIn, .code yX12_isLand cX12_isLand 2 (some .boolean), .fieldLink RX12 9 "SeaLandModel" "world" "[I", .methodLink RX12 235 yX12_isLand, .instanceMethod yX12_isLand, .selects RX12 yX12_isLand yX12_isLand, .methodLink RL 281 yX12_farm, .instanceMethod yX12_farm, .selects RX12 yX12_farm yX12_farm, .code yX12_thrown cX12_thrown 1 (some .int), .methodLink RL 187 yX12_thrown, .instanceMethod yX12_thrown, .selects RX12 yX12_thrown yX12_thrown] ++ bs)
set_option maxRecDepth 100000 in
theorem wm_29 : ∀ w ∈ w_law_29, w ∈ lw_tbl := lw_ins (List.mem_of_getElem? (i := 110) (by decide +kernel)) (lw_in _ (1678 :: 1682 :: 899 :: 902 :: 900 :: 901 :: 111 :: 903 :: 126 :: 897 :: 898 :: 591 :: 589 :: 1686 :: 484 :: 953 :: 956 :: 957 :: 645 :: 131 :: 646 :: 958 :: 959 :: 960 :: 954 :: 955 :: 952 :: 1683 :: 1684 :: 1685 :: 118 :: 1679 :: 1680 :: 1681 :: 811 :: 1676 :: 1677 :: 110 :: 2619 :: 1969 :: 2214 :: 2217 :: 2215 :: 2216 :: 122 :: 2212 :: 2213 :: 2221 :: 2218 :: 2220 :: 44 :: 2016 :: 2228 :: 2229 :: 2230 :: 2226 :: 2227 :: 2234 :: 1970 :: 2231 :: 2233 :: 46 :: 2616 :: 2617 :: 2618 :: 2207 :: 2204 :: 2205 :: 2206 :: []) (by decide +kernel))
set_option maxHeartbeats 4000000 in
set_option maxRecDepth 100000 in
/-- farm -/
theorem law_29 {p : Program} {e : Env} {s : State} {m : MethodId} {below : List Frame} {meth : Method} {c : Code} (l : Launch) (hlt : l.stackTraces = false) {b : Nat} {xs : Nat → Int32} {A : Nat → Prop} (hx : p.tables.exec = Jvm.exec) (hb : c.code = code) (hr : meth.sig.returnType = ret) (hml : c.maxLocals = 7) (hown : s.vm.findClass RL = some m.cls) (hts : ∀ w ∈ w_law_29, w.before #[Value.ref b] s = true) (hX : va_X b 8 xs s s.heap) (hbl : b < s.heap.size) (hbA : ¬ A b) (hlocks : meth.locks = false) (hE : EV A s s.heap) (hN : NC s) (hA : ∀ q : Nat, s.heap.size ≤ q → A q) (hAi : ∀ q : Nat, A q → s.heap.size ≤ q) {dC : Nat → ClassId} {dI : Nat → Nat → Nat} (a : Nat → Nat) (k : Nat → ClassId) (h0 : Nat) (q : Nat → Nat) (cm : Nat → ClassId) (o0 : Nat) (ko : ClassId) (H : Heap) (locs : List Loc) (hK : va_K (dC, dI) vwCl [((k 15), .boolean), ((k 32), .int), (ko, .long), ((cm 1), .int)] s) (hP : va_P (dC, dI) vwCl [(a 0, .inr (14, [.ref (a 1), .ref (a 2), .ref (a 27), .ref (a 30), .ref (a 74), .ref (a 75), .null, .int 0, .int 0])), (a 30, .inr (3, [.ref (a 31), .ref (a 32), .ref (a 33), .ref (a 34), .ref (a 35), .ref (a 36), .ref (a 37), .ref (a 38), .ref (a 50), .ref (a 62), .int (-1), .int 0, .long 0, .long 0, .int 0, .int 0, .int 0, .int 0])), (a 2, .inr (6, [.ref (a 3), .ref (a 14), .ref (a 26), .int 0, .int 0])), (a 14, .inr (5, [.ref (a 15), .ref (a 16), .ref (a 17), .ref (a 18), .ref (a 19), .ref (a 20), .ref (a 21), .ref (a 22), .ref (a 23), .ref (a 24), .ref (a 25), .int 0, .int 0, .int 0, .int 0])), (a 15, .inl ((k 15), 96, .inl (fun _ => 0))), (a 32, .inl ((k 32), 96, .inl (fun _ => (-1)))), (o0, .inl (ko, 1, .inr (.inl (fun _ => 0)))), (h0, .inr (15, mF q 0)), (q 1, .inl ((cm 1), 1749, .inl (fun _ => 0)))] H) (hD : va_D A [(a 0, .inr (14, [.ref (a 1), .ref (a 2), .ref (a 27), .ref (a 30), .ref (a 74), .ref (a 75), .null, .int 0, .int 0])), (a 30, .inr (3, [.ref (a 31), .ref (a 32), .ref (a 33), .ref (a 34), .ref (a 35), .ref (a 36), .ref (a 37), .ref (a 38), .ref (a 50), .ref (a 62), .int (-1), .int 0, .long 0, .long 0, .int 0, .int 0, .int 0, .int 0])), (a 2, .inr (6, [.ref (a 3), .ref (a 14), .ref (a 26), .int 0, .int 0])), (a 14, .inr (5, [.ref (a 15), .ref (a 16), .ref (a 17), .ref (a 18), .ref (a 19), .ref (a 20), .ref (a 21), .ref (a 22), .ref (a 23), .ref (a 24), .ref (a 25), .int 0, .int 0, .int 0, .int 0])), (a 15, .inl ((k 15), 96, .inl (fun _ => 0))), (a 32, .inl ((k 32), 96, .inl (fun _ => (-1)))), (o0, .inl (ko, 1, .inr (.inl (fun _ => 0)))), (h0, .inr (15, mF q 0)), (q 1, .inl ((cm 1), 1749, .inl (fun _ => 0)))]) (hS : va_S A s.heap H locs) (ls : Array Slot) (hl : lv_has ls 7 [(0, .ref b), (1, .ref (a 0)), (2, .ref h0), (3, .ref o0), (4, .int 0)]) : W p l e room_1 s m #[Value.ref b] below meth c H locs 238 27427 (lw_Z below #[Value.ref b] s) (F0 m 2350 ls []) := by
  refine lv_aload_n hx hb dL_law_2350 rfl (lv_at hl 1 rfl) ?_
  refine lv_aload_n hx hb dL_law_2351 rfl (lv_at hl 0 rfl) ?_
  refine lv_iload hx hb dL_law_2352 (lv_at hl 4 rfl) ?_
  refine lv_iconst (v := 1) hx hb dL_law_2354 (by decide) ?_
  refine lv_iadd hx hb dL_law_2355 ?_
  refine lv_topi (fun x1 ex1 => ?_)
  obtain rfl : x1 = 1 := ex1.trans (by decide)
  refine va_sld hx hb hX hbl hbA hS (i := 1) (by unfold vp_in; decide) dL_law_2356 ?_
  refine lv_topi (fun x2 ex2 => ?_)
  obtain rfl : xs 1 = x2 := (ex2).symm
  refine lv_aload_n hx hb dL_law_2357 rfl (lv_at hl 0 rfl) ?_
  refine lv_iload hx hb dL_law_2358 (lv_at hl 4 rfl) ?_
  refine lv_iconst (v := 2) hx hb dL_law_2360 (by decide) ?_
  refine lv_iadd hx hb dL_law_2361 ?_
  refine lv_topi (fun x3 ex3 => ?_)
  obtain rfl : x3 = 2 := ex3.trans (by decide)
  refine va_sld hx hb hX hbl hbA hS (i := 2) (by unfold vp_in; decide) dL_law_2362 ?_
  refine lv_topi (fun x4 ex4 => ?_)
  obtain rfl : xs 2 = x4 := (ex4).symm
  refine lv_aload_n hx hb dL_law_2363 rfl (lv_at hl 3 rfl) ?_
  have hPc := hP.sub (ws' := [(a 0, .inr (14, [.ref (a 1), .ref (a 2), .ref (a 27), .ref (a 30), .ref (a 74), .ref (a 75), .null, .int 0, .int 0])), (a 30, .inr (3, [.ref (a 31), .ref (a 32), .ref (a 33), .ref (a 34), .ref (a 35), .ref (a 36), .ref (a 37), .ref (a 38), .ref (a 50), .ref (a 62), .int (-1), .int 0, .long 0, .long 0, .int 0, .int 0, .int 0, .int 0])), (a 2, .inr (6, [.ref (a 3), .ref (a 14), .ref (a 26), .int 0, .int 0])), (a 14, .inr (5, [.ref (a 15), .ref (a 16), .ref (a 17), .ref (a 18), .ref (a 19), .ref (a 20), .ref (a 21), .ref (a 22), .ref (a 23), .ref (a 24), .ref (a 25), .int 0, .int 0, .int 0, .int 0])), (a 15, .inl ((k 15), 96, .inl (fun _ => 0))), (a 32, .inl ((k 32), 96, .inl (fun _ => (-1)))), (o0, .inl (ko, 1, .inr (.inl (fun _ => 0))))]) [0, 1, 2, 3, 4, 5, 6] rfl
  have hDc := hD.sub (ws' := [(a 0, .inr (14, [.ref (a 1), .ref (a 2), .ref (a 27), .ref (a 30), .ref (a 74), .ref (a 75), .null, .int 0, .int 0])), (a 30, .inr (3, [.ref (a 31), .ref (a 32), .ref (a 33), .ref (a 34), .ref (a 35), .ref (a 36), .ref (a 37), .ref (a 38), .ref (a 50), .ref (a 62), .int (-1), .int 0, .long 0, .long 0, .int 0, .int 0, .int 0, .int 0])), (a 2, .inr (6, [.ref (a 3), .ref (a 14), .ref (a 26), .int 0, .int 0])), (a 14, .inr (5, [.ref (a 15), .ref (a 16), .ref (a 17), .ref (a 18), .ref (a 19), .ref (a 20), .ref (a 21), .ref (a 22), .ref (a 23), .ref (a 24), .ref (a 25), .int 0, .int 0, .int 0, .int 0])), (a 15, .inl ((k 15), 96, .inl (fun _ => 0))), (a 32, .inl ((k 32), 96, .inl (fun _ => (-1)))), (o0, .inl (ko, 1, .inr (.inl (fun _ => 0))))]) [0, 1, 2, 3, 4, 5, 6] (by decide) rfl
  have hKc := hK.sub (tys' := [((k 15), .boolean), ((k 32), .int), (ko, .long)]) [0, 1, 2] rfl
  have hFc := va_free (wc := [(a 0, .inr (14, [.ref (a 1), .ref (a 2), .ref (a 27), .ref (a 30), .ref (a 74), .ref (a 75), .null, .int 0, .int 0])), (a 30, .inr (3, [.ref (a 31), .ref (a 32), .ref (a 33), .ref (a 34), .ref (a 35), .ref (a 36), .ref (a 37), .ref (a 38), .ref (a 50), .ref (a 62), .int (-1), .int 0, .long 0, .long 0, .int 0, .int 0, .int 0, .int 0])), (a 2, .inr (6, [.ref (a 3), .ref (a 14), .ref (a 26), .int 0, .int 0])), (a 14, .inr (5, [.ref (a 15), .ref (a 16), .ref (a 17), .ref (a 18), .ref (a 19), .ref (a 20), .ref (a 21), .ref (a 22), .ref (a 23), .ref (a 24), .ref (a 25), .int 0, .int 0, .int 0, .int 0])), (a 15, .inl ((k 15), 96, .inl (fun _ => 0))), (a 32, .inl ((k 32), 96, .inl (fun _ => (-1)))), (o0, .inl (ko, 1, .inr (.inl (fun _ => 0))))]) hD hS hA [0, 1, 2, 3, 4, 5, 6] rfl
  refine va_calli (vx_runSW (As := [.ref (a 0), .int (xs 1), .int (xs 2), .ref o0]) (rest := []) ⟨hx, hb, hml, hown, hts⟩ (l_farm l hlt dC dI a k o0 ko (fun _ => 0) (xs 1) (xs 2) H.size ) (vx_cwSW 4 hts (goodIn_app (goodIn_r _ [36, 37, 38] (by decide +kernel) (by decide +kernel)) (goodIn_ca (goodIn_r _ [1, 2, 3, 4, 5, 6, 7, 8, 9, 10, 11, 12, 13, 14, 15, 16, 17, 18, 19, 20, 21, 22, 23, 24, 25, 26, 27, 28, 29, 30, 31, 32, 33, 34, 35] (by decide +kernel) (by decide +kernel)) (bs_in _ _))) rfl rfl rfl (by decide +kernel) ⟨(Nat.le_of_ble_eq_true rfl), (Nat.le_of_ble_eq_true rfl)⟩) ⟨fun a U g mk q => by obtain ⟨q0, q1, qP, qK, qD, qE, qN⟩ := q; exact ⟨q0, q1, qP, va_K.moved (u := U) (U := U.calling g mk a) (Vm.Alike.refl U.vm) qK, qD, EV.blind g mk a qE, NC.blind g mk a qN⟩, fun U hU hW => ⟨rfl, by rw [hU], by rw [hU]; exact hPc, va_K.moved hW.alike hKc, hDc.weaken (fun _ _ _ _ => trivial), hE.call hS hFc hU hW, hN.call hW⟩⟩ rfl rfl hl.1 rfl (lv_room (Nat.le_of_ble_eq_true rfl)) dL_law_2364 ⟨(Nat.le_of_ble_eq_true rfl), (Nat.le_of_ble_eq_true rfl)⟩) hS (fun q _ h => hFc q h) hFc (fun r6 u t H1 locs ht hvm hw7 hB hz1 hk1 hS => ?_)
  obtain ⟨fu8, rfl⟩ : ∃ z, z = u := ⟨_, rfl⟩
  obtain ⟨hP1, hD1⟩ := hB
  rw [ht] at hP1
  obtain ⟨hP, hD⟩ := va_join (wr := [(h0, .inr (15, mF q 0)), (q 1, .inl ((cm 1), 1749, .inl (fun _ => 0)))]) (w1 := [(o0, .inl (ko, 1, .inr (.inl fu8)))]) hP hD [0, 1, 2, 3, 4, 5, 6] [7, 8] rfl rfl (by decide) (by decide) hk1 hFc hP1 hD1
  generalize H1 = H at hP hS ⊢
  have hP : va_P (dC, dI) vwCl [(h0, .inr (15, mF q 0)), (q 1, .inl ((cm 1), 1749, .inl (fun _ => 0))), (o0, .inl (ko, 1, .inr (.inl fu8)))] H := hP
  have hD : va_D A [(h0, .inr (15, mF q 0)), (q 1, .inl ((cm 1), 1749, .inl (fun _ => 0))), (o0, .inl (ko, 1, .inr (.inl fu8)))] := hD
  try dsimp only at hw7
  obtain rfl : (T_farm (xs 1) (xs 2)).1 = r6 := hw7.1.symm
  refine lv_istore (lv' := [(5, .int ((T_farm (xs 1) (xs 2)).1)), (0, .ref b), (1, .ref (a 0)), (2, .ref h0), (3, .ref o0), (4, .int 0)]) hx hb dL_law_2367 hl (by decide) rfl (fun ls hl => ?_)
  refine lv_aload_n hx hb dL_law_2369 rfl (lv_at hl 3 rfl) ?_
  refine lv_aload_n hx hb dL_law_2370 rfl (lv_at hl 1 rfl) ?_
  refine lv_iload hx hb dL_law_2371 (lv_at hl 5 rfl) ?_
  refine lv_iconst (v := 1) hx hb dL_law_2373 (by decide) ?_
  refine lv_iadd hx hb dL_law_2374 ?_
  refine lv_topi (fun x9 ex9 => ?_)
  obtain rfl : x9 = 1 := ex9.trans (by decide)
  refine va_sld hx hb hX hbl hbA hS (i := 1) (by unfold vp_in; decide) dL_law_2375 ?_
  refine lv_topi (fun x10 ex10 => ?_)
  obtain rfl : xs 1 = x10 := (ex10).symm
  refine lv_aload_n hx hb dL_law_2376 rfl (lv_at hl 1 rfl) ?_
  refine lv_iload hx hb dL_law_2377 (lv_at hl 5 rfl) ?_
  refine lv_iconst (v := 2) hx hb dL_law_2379 (by decide) ?_
  refine lv_iadd hx hb dL_law_2380 ?_
  refine lv_topi (fun x11 ex11 => ?_)
  obtain rfl : x11 = 2 := ex11.trans (by decide)
  refine va_sld hx hb hX hbl hbA hS (i := 2) (by unfold vp_in; decide) dL_law_2381 ?_
  refine lv_topi (fun x12 ex12 => ?_)
  obtain rfl : xs 2 = x12 := (ex12).symm
  have hPc := hP.sub (ws' := [(h0, .inr (15, mF q 0)), (q 1, .inl ((cm 1), 1749, .inl (fun _ => 0)))]) [0, 1] rfl
  have hDc := hD.sub (ws' := [(h0, .inr (15, mF q 0)), (q 1, .inl ((cm 1), 1749, .inl (fun _ => 0)))]) [0, 1] (by decide) rfl
  have hKc := hK.sub (tys' := [((cm 1), .int)]) [3] rfl
  have hFc := va_free (wc := [(h0, .inr (15, mF q 0)), (q 1, .inl ((cm 1), 1749, .inl (fun _ => 0)))]) hD hS hA [0, 1] rfl
  refine va_calli (va_runV (As := [.int (xs 1), .int (xs 2)]) (rest := []) ⟨hx, hb, hml, hown, hts⟩ (m_farm l dC dI h0 q cm (xs 1) (xs 2) H.size ) (cwV 2 hts (goodIn_app (goodIn_r _ [63, 64, 65, 45] (by decide +kernel) (by decide +kernel)) (goodIn_ca (goodIn_r _ [39, 40, 41, 42, 43, 44, 45, 46, 47, 48, 49, 50, 51, 52, 53, 54, 19, 20, 21, 55, 23, 24, 56, 57, 58, 59, 60, 61, 62] (by decide +kernel) (by decide +kernel)) (bs_in _ _))) rfl rfl rfl (by decide +kernel) ⟨(Nat.le_of_ble_eq_true rfl), (Nat.le_of_ble_eq_true rfl)⟩) ⟨fun a U g mk q => by obtain ⟨q0, q1, qP, qK, qD⟩ := q; exact ⟨q0, q1, qP, va_K.moved (u := U) (U := U.calling g mk a) (Vm.Alike.refl U.vm) qK, qD⟩, va_recv hKc hPc (ci := 15) (q0 := 0) rfl rfl, fun U hU hW => ⟨rfl, by rw [hU], by rw [hU]; exact hPc, va_K.moved hW.alike hKc, hDc.weaken (fun _ _ _ _ => trivial)⟩⟩ rfl rfl hl.1 rfl (lv_room (Nat.le_of_ble_eq_true rfl)) dL_law_2382 ⟨(Nat.le_of_ble_eq_true rfl), (Nat.le_of_ble_eq_true rfl)⟩) hS (fun q _ h => hFc q h) hFc (fun r14 u t H1 locs ht hvm hw15 hB hz1 hk1 hS => ?_)
  obtain ⟨fs16, rfl⟩ : ∃ z, z = u := ⟨_, rfl⟩
  obtain ⟨hP1, hD1⟩ := hB
  rw [ht] at hP1
  obtain ⟨hP, hD⟩ := va_join (wr := [(o0, .inl (ko, 1, .inr (.inl fu8)))]) (w1 := [(h0, .inr (15, fs16))]) hP hD [0, 1] [2] rfl rfl (by decide) (by decide) hk1 hFc hP1 hD1
  generalize H1 = H at hP hS ⊢
  have hP : va_P (dC, dI) vwCl [(o0, .inl (ko, 1, .inr (.inl fu8))), (h0, .inr (15, fs16))] H := hP
  have hD : va_D A [(o0, .inl (ko, 1, .inr (.inl fu8))), (h0, .inr (15, fs16))] := hD
  try dsimp only at hw15
  refine lv_istore (lv' := [(6, .int r14), (5, .int ((T_farm (xs 1) (xs 2)).1)), (0, .ref b), (1, .ref (a 0)), (2, .ref h0), (3, .ref o0), (4, .int 0)]) hx hb dL_law_2385 hl (by decide) rfl (fun ls hl => ?_)
  refine lv_aload_n hx hb dL_law_2387 rfl (lv_at hl 4 rfl) ?_
  have hPc := hP.sub (ws' := [(h0, .inr (15, fs16))]) [1] rfl
  have hDc := hD.sub (ws' := [(h0, .inr (15, fs16))]) [1] (by decide) rfl
  have hKc := hK.sub (tys' := []) [] rfl
  have hFc := va_free (wc := [(h0, .inr (15, fs16))]) hD hS hA [1] rfl
  refine va_calli (va_runV (As := []) (rest := []) ⟨hx, hb, hml, hown, hts⟩ (m_thrown l dC dI h0 fs16 ((T_farm (xs 1) (xs 2)).1) H.size hw15.1) (cwV 0 hts (goodIn_app (goodIn_r _ [67, 68, 69, 45] (by decide +kernel) (by decide +kernel)) (goodIn_ca (goodIn_r _ [66, 40] (by decide +kernel) (by decide +kernel)) (bs_in _ _))) rfl rfl rfl (by decide +kernel) ⟨(Nat.le_of_ble_eq_true rfl), (Nat.le_of_ble_eq_true rfl)⟩) ⟨fun a U g mk q => by obtain ⟨q0, q1, qP, qK, qD⟩ := q; exact ⟨q0, q1, qP, va_K.moved (u := U) (U := U.calling g mk a) (Vm.Alike.refl U.vm) qK, qD⟩, va_recv hKc hPc (ci := 15) (q0 := 0) rfl rfl, fun U hU hW => ⟨rfl, by rw [hU], by rw [hU]; exact hPc, va_K.moved hW.alike hKc, hDc.weaken (fun _ _ _ _ => trivial)⟩⟩ rfl rfl hl.1 rfl (lv_room (Nat.le_of_ble_eq_true rfl)) dL_law_2388 ⟨(Nat.le_of_ble_eq_true rfl), (Nat.le_of_ble_eq_true rfl)⟩) hS (fun q _ h => hFc q h) hFc (fun r18 u t H1 locs ht hvm hw19 hB hz1 hk1 hS => ?_)
  have hP1 : va_P (dC, dI) vwCl [] H1 := nilP
  have hD1 : va_D (va_A [(h0, .inr (15, fs16))] H.size) [] := nilD
  have hK := hK
  obtain ⟨hP, hD⟩ := va_join (wr := [(o0, .inl (ko, 1, .inr (.inl fu8)))]) (w1 := []) hP hD [1] [0] rfl rfl (by decide) (by decide) hk1 hFc hP1 hD1
  generalize H1 = H at hP hS ⊢
  have hP : va_P (dC, dI) vwCl [(o0, .inl (ko, 1, .inr (.inl fu8)))] H := hP
  have hD : va_D A [(o0, .inl (ko, 1, .inr (.inl fu8)))] := hD
  try dsimp only at hw19
  obtain rfl : (T_farm (xs 1) (xs 2)).1 = r18 := hw19.symm
  refine lv_iload hx hb dL_law_2391 (lv_at hl 1 rfl) ?_
  refine lv_icmp_eq (tgt := 2398) hx hb dL_law_2393 (by decide) (fun c20 => ?_) (fun c20 => absurd rfl c20)
  refine lv_iload hx hb dL_law_2398 (lv_at hl 1 rfl) ?_
  refine lv_if_ne (tgt := 2415) hx hb dL_law_2400 (by decide) (fun c21 => ?_) (fun c21 => ?_)
  · refine lv_goto (tgt := 3762) hx hb dL_law_2415 (by decide) ?_
    exact law_tail hx hb hr hlocks hX hbl hbA hAi hS (Nat.le_of_ble_eq_true rfl) (Nat.le_of_ble_eq_true rfl) ls (lv_sub hl [2, 6] rfl)
  · refine lv_aload_n hx hb dL_law_2403 rfl (lv_at hl 5 rfl) ?_
    refine lv_iconst (v := 0) hx hb dL_law_2404 (by decide) ?_
    refine va_lald hx hb hK hP 0 2 rfl rfl (by unfold vp_in; decide) dL_law_2405 ?_
    refine lv_iload hx hb dL_law_2406 (lv_at hl 0 rfl) ?_
    refine lv_i2l (v := r14.toInt64) hx hb dL_law_2408 rfl ?_
    refine W.lcmp hx hb dL_law_2409 ?_
    refine lv_topi (fun x22 ex22 => ?_)
    obtain rfl : x22 = 0 := ex22.trans (by rw [show fu8 (0 : Int32).toNatClampNeg = (T_farm (xs 1) (xs 2)).2.toInt64 from hw7.2 c21, hw15.2 c21]; exact lg_cmp_self _)
    refine lv_if_eq (tgt := 2415) hx hb dL_law_2410 (by decide) (fun c23 => ?_) (fun c23 => absurd c23 (by decide))
    refine lv_goto (tgt := 3762) hx hb dL_law_2415 (by decide) ?_
    exact law_tail hx hb hr hlocks hX hbl hbA hAi hS (Nat.le_of_ble_eq_true rfl) (Nat.le_of_ble_eq_true rfl) ls (lv_sub hl [2, 6] rfl)
def w_law_30 : List Cond := .initialized RL :: ([.codeWith yL_worth cL_worth 4 (some .int) [(0, 9, 12, 13)], .code yX11_worth cX11_worth 2 (some .int), .code yX11_needFarm cX11_needFarm 2 none, .fieldLink RX11 30 "SeaLand" "board" "LSeaLand$Board;", .code yX11_within cX11_within 3 (some .boolean), .methodLink RX11 58 yX11_within, .static yX11_within, .initialized RX11, .classLink RX11 557 "java/lang/IndexOutOfBoundsException", .initialized "java/lang/IndexOutOfBoundsException", .methodLink RX11 366 yX11_needFarm, .instanceMethod yX11_needFarm, .selects RX11 yX11_needFarm yX11_needFarm, .methodLink RL 117 yX11_worth, .instanceMethod yX11_worth, .selects RX11 yX11_worth yX11_worth, .classLink RL 13 "java/lang/IndexOutOfBoundsException", .methodLink RL 282 yL_worth, .static yL_worth, .initialized RL, .code yX12_worth cX12_worth 2 (some .int), .fieldLink RX12 194 "SeaLandModel" "thrown" "I", .code yX12_noFarm cX12_noFarm 2 (some .boolean), .fieldLink RX12 498 "SeaLandModel" "farms" "I", .code yX12_in cX12_in 3 (some .boolean), .methodLink RX12 197 yX12_in, .static yX12_in, .initialized RX12, .methodLink RX12 502 yX12_noFarm, .instanceMethod yX12_noFarm, .selects RX12 yX12_noFarm yX12_noFarm, .code yX12_throwsIf cX12_throwsIf 3 (some .boolean), .methodLink RX12 224 yX12_throwsIf, .instanceMethod yX12_throwsIf, .selects RX12 yX12_throwsIf yX12_throwsIf, .methodLink RL 284 yX12_worth, .instanceMethod yX12_worth, .selects RX12 yX12_worth yX12_worth, .code yX12_thrown cX12_thrown 1 (some .int), .methodLink RL 187 yX12_thrown, .instanceMethod yX12_thrown, .selects RX12 yX12_thrown yX12_thrown] ++ bs)
set_option maxRecDepth 100000 in
theorem wm_30 : ∀ w ∈ w_law_30, w ∈ lw_tbl := lw_ins (List.mem_of_getElem? (i := 110) (by decide +kernel)) (lw_in _ (1694 :: 1698 :: 1702 :: 591 :: 902 :: 900 :: 901 :: 111 :: 903 :: 126 :: 1699 :: 1701 :: 32 :: 1695 :: 1696 :: 1697 :: 811 :: 1692 :: 1693 :: 110 :: 2623 :: 1969 :: 2627 :: 2016 :: 2217 :: 2215 :: 2216 :: 122 :: 2624 :: 2626 :: 101 :: 2221 :: 2218 :: 2220 :: 44 :: 2620 :: 2621 :: 2622 :: 2207 :: 2204 :: 2205 :: 2206 :: []) (by decide +kernel))
set_option maxHeartbeats 4000000 in
set_option maxRecDepth 100000 in
/-- worth -/
theorem law_30 {p : Program} {e : Env} {s : State} {m : MethodId} {below : List Frame} {meth : Method} {c : Code} (l : Launch) (hlt : l.stackTraces = false) {b : Nat} {xs : Nat → Int32} {A : Nat → Prop} (hx : p.tables.exec = Jvm.exec) (hb : c.code = code) (hr : meth.sig.returnType = ret) (hml : c.maxLocals = 7) (hown : s.vm.findClass RL = some m.cls) (hts : ∀ w ∈ w_law_30, w.before #[Value.ref b] s = true) (hX : va_X b 8 xs s s.heap) (hbl : b < s.heap.size) (hbA : ¬ A b) (hlocks : meth.locks = false) (hE : EV A s s.heap) (hN : NC s) (hA : ∀ q : Nat, s.heap.size ≤ q → A q) (hAi : ∀ q : Nat, A q → s.heap.size ≤ q) {dC : Nat → ClassId} {dI : Nat → Nat → Nat} (a : Nat → Nat) (k : Nat → ClassId) (h0 : Nat) (q : Nat → Nat) (cm : Nat → ClassId) (o0 : Nat) (ko : ClassId) (H : Heap) (locs : List Loc) (hK : va_K (dC, dI) vwCl [(ko, .long)] s) (hP : va_P (dC, dI) vwCl [(a 0, .inr (14, [.ref (a 1), .ref (a 2), .ref (a 27), .ref (a 30), .ref (a 74), .ref (a 75), .null, .int 0, .int 0])), (a 30, .inr (3, [.ref (a 31), .ref (a 32), .ref (a 33), .ref (a 34), .ref (a 35), .ref (a 36), .ref (a 37), .ref (a 38), .ref (a 50), .ref (a 62), .int (-1), .int 0, .long 0, .long 0, .int 0, .int 0, .int 0, .int 0])), (o0, .inl (ko, 1, .inr (.inl (fun _ => 0)))), (h0, .inr (15, mF q 0))] H) (hD : va_D A [(a 0, .inr (14, [.ref (a 1), .ref (a 2), .ref (a 27), .ref (a 30), .ref (a 74), .ref (a 75), .null, .int 0, .int 0])), (a 30, .inr (3, [.ref (a 31), .ref (a 32), .ref (a 33), .ref (a 34), .ref (a 35), .ref (a 36), .ref (a 37), .ref (a 38), .ref (a 50), .ref (a 62), .int (-1), .int 0, .long 0, .long 0, .int 0, .int 0, .int 0, .int 0])), (o0, .inl (ko, 1, .inr (.inl (fun _ => 0)))), (h0, .inr (15, mF q 0))]) (hS : va_S A s.heap H locs) (ls : Array Slot) (hl : lv_has ls 7 [(0, .ref b), (1, .ref (a 0)), (2, .ref h0), (3, .ref o0), (4, .int 0)]) : W p l e room_1 s m #[Value.ref b] below meth c H locs 238 27427 (lw_Z below #[Value.ref b] s) (F0 m 2418 ls []) := by
  refine lv_aload_n hx hb dL_law_2418 rfl (lv_at hl 1 rfl) ?_
  refine lv_aload_n hx hb dL_law_2419 rfl (lv_at hl 0 rfl) ?_
  refine lv_iload hx hb dL_law_2420 (lv_at hl 4 rfl) ?_
  refine lv_iconst (v := 1) hx hb dL_law_2422 (by decide) ?_
  refine lv_iadd hx hb dL_law_2423 ?_
  refine lv_topi (fun x1 ex1 => ?_)
  obtain rfl : x1 = 1 := ex1.trans (by decide)
  refine va_sld hx hb hX hbl hbA hS (i := 1) (by unfold vp_in; decide) dL_law_2424 ?_
  refine lv_topi (fun x2 ex2 => ?_)
  obtain rfl : xs 1 = x2 := (ex2).symm
  refine lv_aload_n hx hb dL_law_2425 rfl (lv_at hl 3 rfl) ?_
  have hPc := hP.sub (ws' := [(a 0, .inr (14, [.ref (a 1), .ref (a 2), .ref (a 27), .ref (a 30), .ref (a 74), .ref (a 75), .null, .int 0, .int 0])), (a 30, .inr (3, [.ref (a 31), .ref (a 32), .ref (a 33), .ref (a 34), .ref (a 35), .ref (a 36), .ref (a 37), .ref (a 38), .ref (a 50), .ref (a 62), .int (-1), .int 0, .long 0, .long 0, .int 0, .int 0, .int 0, .int 0])), (o0, .inl (ko, 1, .inr (.inl (fun _ => 0))))]) [0, 1, 2] rfl
  have hDc := hD.sub (ws' := [(a 0, .inr (14, [.ref (a 1), .ref (a 2), .ref (a 27), .ref (a 30), .ref (a 74), .ref (a 75), .null, .int 0, .int 0])), (a 30, .inr (3, [.ref (a 31), .ref (a 32), .ref (a 33), .ref (a 34), .ref (a 35), .ref (a 36), .ref (a 37), .ref (a 38), .ref (a 50), .ref (a 62), .int (-1), .int 0, .long 0, .long 0, .int 0, .int 0, .int 0, .int 0])), (o0, .inl (ko, 1, .inr (.inl (fun _ => 0))))]) [0, 1, 2] (by decide) rfl
  have hKc := hK.sub (tys' := [(ko, .long)]) [0] rfl
  have hFc := va_free (wc := [(a 0, .inr (14, [.ref (a 1), .ref (a 2), .ref (a 27), .ref (a 30), .ref (a 74), .ref (a 75), .null, .int 0, .int 0])), (a 30, .inr (3, [.ref (a 31), .ref (a 32), .ref (a 33), .ref (a 34), .ref (a 35), .ref (a 36), .ref (a 37), .ref (a 38), .ref (a 50), .ref (a 62), .int (-1), .int 0, .long 0, .long 0, .int 0, .int 0, .int 0, .int 0])), (o0, .inl (ko, 1, .inr (.inl (fun _ => 0))))]) hD hS hA [0, 1, 2] rfl
  refine va_calli (vx_runSW (As := [.ref (a 0), .int (xs 1), .ref o0]) (rest := []) ⟨hx, hb, hml, hown, hts⟩ (l_worth l hlt dC dI a k o0 ko (fun _ => 0) (xs 1) H.size ) (vx_cwSW 3 hts (goodIn_app (goodIn_r _ [18, 19, 20] (by decide +kernel) (by decide +kernel)) (goodIn_ca (goodIn_r _ [1, 2, 3, 4, 5, 6, 7, 8, 9, 10, 11, 12, 13, 14, 15, 16, 17] (by decide +kernel) (by decide +kernel)) (bs_in _ _))) rfl rfl rfl (by decide +kernel) ⟨(Nat.le_of_ble_eq_true rfl), (Nat.le_of_ble_eq_true rfl)⟩) ⟨fun a U g mk q => by obtain ⟨q0, q1, qP, qK, qD, qE, qN⟩ := q; exact ⟨q0, q1, qP, va_K.moved (u := U) (U := U.calling g mk a) (Vm.Alike.refl U.vm) qK, qD, EV.blind g mk a qE, NC.blind g mk a qN⟩, fun U hU hW => ⟨rfl, by rw [hU], by rw [hU]; exact hPc, va_K.moved hW.alike hKc, hDc.weaken (fun _ _ _ _ => trivial), hE.call hS hFc hU hW, hN.call hW⟩⟩ rfl rfl hl.1 rfl (lv_room (Nat.le_of_ble_eq_true rfl)) dL_law_2426 ⟨(Nat.le_of_ble_eq_true rfl), (Nat.le_of_ble_eq_true rfl)⟩) hS (fun q _ h => hFc q h) hFc (fun r4 u t H1 locs ht hvm hw5 hB hz1 hk1 hS => ?_)
  obtain ⟨fu6, rfl⟩ : ∃ z, z = u := ⟨_, rfl⟩
  obtain ⟨hP1, hD1⟩ := hB
  rw [ht] at hP1
  obtain ⟨hP, hD⟩ := va_join (wr := [(h0, .inr (15, mF q 0))]) (w1 := [(o0, .inl (ko, 1, .inr (.inl fu6)))]) hP hD [0, 1, 2] [3] rfl rfl (by decide) (by decide) hk1 hFc hP1 hD1
  generalize H1 = H at hP hS ⊢
  have hP : va_P (dC, dI) vwCl [(h0, .inr (15, mF q 0)), (o0, .inl (ko, 1, .inr (.inl fu6)))] H := hP
  have hD : va_D A [(h0, .inr (15, mF q 0)), (o0, .inl (ko, 1, .inr (.inl fu6)))] := hD
  try dsimp only at hw5
  obtain rfl : 1 = r4 := hw5.symm
  refine lv_istore (lv' := [(5, .int 1), (0, .ref b), (1, .ref (a 0)), (2, .ref h0), (3, .ref o0), (4, .int 0)]) hx hb dL_law_2429 hl (by decide) rfl (fun ls hl => ?_)
  refine lv_aload_n hx hb dL_law_2431 rfl (lv_at hl 3 rfl) ?_
  refine lv_aload_n hx hb dL_law_2432 rfl (lv_at hl 1 rfl) ?_
  refine lv_iload hx hb dL_law_2433 (lv_at hl 5 rfl) ?_
  refine lv_iconst (v := 1) hx hb dL_law_2435 (by decide) ?_
  refine lv_iadd hx hb dL_law_2436 ?_
  refine lv_topi (fun x7 ex7 => ?_)
  obtain rfl : x7 = 1 := ex7.trans (by decide)
  refine va_sld hx hb hX hbl hbA hS (i := 1) (by unfold vp_in; decide) dL_law_2437 ?_
  refine lv_topi (fun x8 ex8 => ?_)
  obtain rfl : xs 1 = x8 := (ex8).symm
  have hPc := hP.sub (ws' := [(h0, .inr (15, mF q 0))]) [0] rfl
  have hDc := hD.sub (ws' := [(h0, .inr (15, mF q 0))]) [0] (by decide) rfl
  have hKc := hK.sub (tys' := []) [] rfl
  have hFc := va_free (wc := [(h0, .inr (15, mF q 0))]) hD hS hA [0] rfl
  refine va_calli (va_runV (As := [.int (xs 1)]) (rest := []) ⟨hx, hb, hml, hown, hts⟩ (m_worth l dC dI h0 q cm (xs 1) H.size ) (cwV 1 hts (goodIn_app (goodIn_r _ [36, 37, 38, 28] (by decide +kernel) (by decide +kernel)) (goodIn_ca (goodIn_r _ [21, 22, 23, 24, 25, 26, 27, 28, 29, 30, 31, 32, 33, 34, 35] (by decide +kernel) (by decide +kernel)) (bs_in _ _))) rfl rfl rfl (by decide +kernel) ⟨(Nat.le_of_ble_eq_true rfl), (Nat.le_of_ble_eq_true rfl)⟩) ⟨fun a U g mk q => by obtain ⟨q0, q1, qP, qK, qD⟩ := q; exact ⟨q0, q1, qP, va_K.moved (u := U) (U := U.calling g mk a) (Vm.Alike.refl U.vm) qK, qD⟩, va_recv hKc hPc (ci := 15) (q0 := 0) rfl rfl, fun U hU hW => ⟨rfl, by rw [hU], by rw [hU]; exact hPc, va_K.moved hW.alike hKc, hDc.weaken (fun _ _ _ _ => trivial)⟩⟩ rfl rfl hl.1 rfl (lv_room (Nat.le_of_ble_eq_true rfl)) dL_law_2438 ⟨(Nat.le_of_ble_eq_true rfl), (Nat.le_of_ble_eq_true rfl)⟩) hS (fun q _ h => hFc q h) hFc (fun r10 u t H1 locs ht hvm hw11 hB hz1 hk1 hS => ?_)
  obtain ⟨fs12, rfl⟩ : ∃ z, z = u := ⟨_, rfl⟩
  obtain ⟨hP1, hD1⟩ := hB
  rw [ht] at hP1
  obtain ⟨hP, hD⟩ := va_join (wr := [(o0, .inl (ko, 1, .inr (.inl fu6)))]) (w1 := [(h0, .inr (15, fs12))]) hP hD [0] [1] rfl rfl (by decide) (by decide) hk1 hFc hP1 hD1
  generalize H1 = H at hP hS ⊢
  have hP : va_P (dC, dI) vwCl [(o0, .inl (ko, 1, .inr (.inl fu6))), (h0, .inr (15, fs12))] H := hP
  have hD : va_D A [(o0, .inl (ko, 1, .inr (.inl fu6))), (h0, .inr (15, fs12))] := hD
  try dsimp only at hw11
  refine lv_istore (lv' := [(6, .int r10), (5, .int 1), (0, .ref b), (1, .ref (a 0)), (2, .ref h0), (3, .ref o0), (4, .int 0)]) hx hb dL_law_2441 hl (by decide) rfl (fun ls hl => ?_)
  refine lv_aload_n hx hb dL_law_2443 rfl (lv_at hl 4 rfl) ?_
  have hPc := hP.sub (ws' := [(h0, .inr (15, fs12))]) [1] rfl
  have hDc := hD.sub (ws' := [(h0, .inr (15, fs12))]) [1] (by decide) rfl
  have hKc := hK.sub (tys' := []) [] rfl
  have hFc := va_free (wc := [(h0, .inr (15, fs12))]) hD hS hA [1] rfl
  refine va_calli (va_runV (As := []) (rest := []) ⟨hx, hb, hml, hown, hts⟩ (m_thrown l dC dI h0 fs12 1 H.size hw11) (cwV 0 hts (goodIn_app (goodIn_r _ [40, 41, 42, 28] (by decide +kernel) (by decide +kernel)) (goodIn_ca (goodIn_r _ [39, 22] (by decide +kernel) (by decide +kernel)) (bs_in _ _))) rfl rfl rfl (by decide +kernel) ⟨(Nat.le_of_ble_eq_true rfl), (Nat.le_of_ble_eq_true rfl)⟩) ⟨fun a U g mk q => by obtain ⟨q0, q1, qP, qK, qD⟩ := q; exact ⟨q0, q1, qP, va_K.moved (u := U) (U := U.calling g mk a) (Vm.Alike.refl U.vm) qK, qD⟩, va_recv hKc hPc (ci := 15) (q0 := 0) rfl rfl, fun U hU hW => ⟨rfl, by rw [hU], by rw [hU]; exact hPc, va_K.moved hW.alike hKc, hDc.weaken (fun _ _ _ _ => trivial)⟩⟩ rfl rfl hl.1 rfl (lv_room (Nat.le_of_ble_eq_true rfl)) dL_law_2444 ⟨(Nat.le_of_ble_eq_true rfl), (Nat.le_of_ble_eq_true rfl)⟩) hS (fun q _ h => hFc q h) hFc (fun r14 u t H1 locs ht hvm hw15 hB hz1 hk1 hS => ?_)
  have hP1 : va_P (dC, dI) vwCl [] H1 := nilP
  have hD1 : va_D (va_A [(h0, .inr (15, fs12))] H.size) [] := nilD
  have hK := hK
  obtain ⟨hP, hD⟩ := va_join (wr := [(o0, .inl (ko, 1, .inr (.inl fu6)))]) (w1 := []) hP hD [1] [0] rfl rfl (by decide) (by decide) hk1 hFc hP1 hD1
  generalize H1 = H at hP hS ⊢
  have hP : va_P (dC, dI) vwCl [(o0, .inl (ko, 1, .inr (.inl fu6)))] H := hP
  have hD : va_D A [(o0, .inl (ko, 1, .inr (.inl fu6)))] := hD
  try dsimp only at hw15
  obtain rfl : 1 = r14 := hw15.symm
  refine lv_iload hx hb dL_law_2447 (lv_at hl 1 rfl) ?_
  refine lv_icmp_eq (tgt := 2454) hx hb dL_law_2449 (by decide) (fun c16 => ?_) (fun c16 => absurd c16 (by decide))
  refine lv_iload hx hb dL_law_2454 (lv_at hl 1 rfl) ?_
  refine lv_if_ne (tgt := 2471) hx hb dL_law_2456 (by decide) (fun c17 => ?_) (fun c17 => absurd c17 (by decide))
  refine lv_goto (tgt := 3762) hx hb dL_law_2471 (by decide) ?_
  exact law_tail hx hb hr hlocks hX hbl hbA hAi hS (Nat.le_of_ble_eq_true rfl) (Nat.le_of_ble_eq_true rfl) ls (lv_sub hl [2, 6] rfl)
def w_law_31 : List Cond := .initialized RL :: ([.codeWith yL_choose cL_choose 4 (some .int) [(0, 9, 12, 15)], .code yX11_choose cX11_choose 2 (some .int), .code yX11_within cX11_within 3 (some .boolean), .methodLink RX11 58 yX11_within, .static yX11_within, .initialized RX11, .code yX11_needNumbers cX11_needNumbers 1 none, .methodLink RX11 62 yX11_needNumbers, .static yX11_needNumbers, .fieldLink RX11 30 "SeaLand" "board" "LSeaLand$Board;", .fieldLink RX11 16 "SeaLand" "lake" "LSeaLand$Lake;", .code yX0_giveFarms cX0_giveFarms 7 (some .int), .fieldLink RX0 75 "SeaLand$Board" "settled" "I", .fieldLink RX0 185 "SeaLand$Board" "holding" "I", .code yX0_firstByMark cX0_firstByMark 3 (some .int), .methodLink RX0 173 yX0_firstByMark, .instanceMethod yX0_firstByMark, .selects RX0 yX0_firstByMark yX0_firstByMark, .initialized RX0, .code yX0_bestFreeFarm cX0_bestFreeFarm 6 (some .int), .fieldLink RX0 143 "SeaLand$Board" "farms" "I", .methodLink RX0 181 yX0_bestFreeFarm, .instanceMethod yX0_bestFreeFarm, .selects RX0 yX0_bestFreeFarm yX0_bestFreeFarm, .methodLink RX11 373 yX0_giveFarms, .instanceMethod yX0_giveFarms, .selects RX0 yX0_giveFarms yX0_giveFarms, .classLink RX11 547 "java/lang/IllegalArgumentException", .initialized "java/lang/IllegalArgumentException", .methodLink RL 120 yX11_choose, .instanceMethod yX11_choose, .selects RX11 yX11_choose yX11_choose, .classLink RL 15 "java/lang/IllegalArgumentException", .methodLink RL 285 yL_choose, .static yL_choose, .initialized RL, .code yX12_choose cX12_choose 6 (some .int), .fieldLink RX12 194 "SeaLandModel" "thrown" "I", .code yX12_in cX12_in 3 (some .boolean), .methodLink RX12 197 yX12_in, .static yX12_in, .initialized RX12, .code yX12_throwsIf cX12_throwsIf 3 (some .boolean), .methodLink RX12 224 yX12_throwsIf, .instanceMethod yX12_throwsIf, .selects RX12 yX12_throwsIf yX12_throwsIf, .fieldLink RX12 495 "SeaLandModel" "settlers" "I", .code yX12_nextOne cX12_nextOne 3 (some .int), .methodLink RX12 508 yX12_nextOne, .instanceMethod yX12_nextOne, .selects RX12 yX12_nextOne yX12_nextOne, .code yX12_bestFarm cX12_bestFarm 3 (some .int), .fieldLink RX12 498 "SeaLandModel" "farms" "I", .methodLink RX12 511 yX12_bestFarm, .instanceMethod yX12_bestFarm, .selects RX12 yX12_bestFarm yX12_bestFarm, .methodLink RL 287 yX12_choose, .instanceMethod yX12_choose, .selects RX12 yX12_choose yX12_choose, .code yX12_thrown cX12_thrown 1 (some .int), .methodLink RL 187 yX12_thrown, .instanceMethod yX12_thrown, .selects RX12 yX12_thrown yX12_thrown] ++ bs)
set_option maxRecDepth 100000 in
theorem wm_31 : ∀ w ∈ w_law_31, w ∈ lw_tbl := lw_ins (List.mem_of_getElem? (i := 110) (by decide +kernel)) (lw_in _ (1711 :: 1715 :: 902 :: 900 :: 901 :: 111 :: 918 :: 916 :: 917 :: 591 :: 589 :: 1719 :: 480 :: 482 :: 1723 :: 1720 :: 1722 :: 33 :: 118 :: 1727 :: 484 :: 1724 :: 1726 :: 34 :: 1716 :: 1717 :: 1718 :: 919 :: 129 :: 1712 :: 1713 :: 1714 :: 891 :: 1709 :: 1710 :: 110 :: 2635 :: 1969 :: 2217 :: 2215 :: 2216 :: 122 :: 2221 :: 2218 :: 2220 :: 44 :: 2011 :: 2639 :: 2636 :: 2638 :: 103 :: 2643 :: 2016 :: 2640 :: 2642 :: 104 :: 2632 :: 2633 :: 2634 :: 2207 :: 2204 :: 2205 :: 2206 :: []) (by decide +kernel))
set_option maxHeartbeats 4000000 in
set_option maxRecDepth 100000 in
/-- choose -/
theorem law_31 {p : Program} {e : Env} {s : State} {m : MethodId} {below : List Frame} {meth : Method} {c : Code} (l : Launch) (hlt : l.stackTraces = false) {b : Nat} {xs : Nat → Int32} {A : Nat → Prop} (hx : p.tables.exec = Jvm.exec) (hb : c.code = code) (hr : meth.sig.returnType = ret) (hml : c.maxLocals = 7) (hown : s.vm.findClass RL = some m.cls) (hts : ∀ w ∈ w_law_31, w.before #[Value.ref b] s = true) (hX : va_X b 8 xs s s.heap) (hbl : b < s.heap.size) (hbA : ¬ A b) (hlocks : meth.locks = false) (hE : EV A s s.heap) (hN : NC s) (hA : ∀ q : Nat, s.heap.size ≤ q → A q) (hAi : ∀ q : Nat, A q → s.heap.size ≤ q) {dC : Nat → ClassId} {dI : Nat → Nat → Nat} (a : Nat → Nat) (k : Nat → ClassId) (h0 : Nat) (q : Nat → Nat) (cm : Nat → ClassId) (o0 : Nat) (ko : ClassId) (H : Heap) (locs : List Loc) (hK : va_K (dC, dI) vwCl [(ko, .long)] s) (hP : va_P (dC, dI) vwCl [(a 0, .inr (14, [.ref (a 1), .ref (a 2), .ref (a 27), .ref (a 30), .ref (a 74), .ref (a 75), .null, .int 0, .int 0])), (a 30, .inr (3, [.ref (a 31), .ref (a 32), .ref (a 33), .ref (a 34), .ref (a 35), .ref (a 36), .ref (a 37), .ref (a 38), .ref (a 50), .ref (a 62), .int (-1), .int 0, .long 0, .long 0, .int 0, .int 0, .int 0, .int 0])), (a 2, .inr (6, [.ref (a 3), .ref (a 14), .ref (a 26), .int 0, .int 0])), (o0, .inl (ko, 1, .inr (.inl (fun _ => 0)))), (h0, .inr (15, mF q 0))] H) (hD : va_D A [(a 0, .inr (14, [.ref (a 1), .ref (a 2), .ref (a 27), .ref (a 30), .ref (a 74), .ref (a 75), .null, .int 0, .int 0])), (a 30, .inr (3, [.ref (a 31), .ref (a 32), .ref (a 33), .ref (a 34), .ref (a 35), .ref (a 36), .ref (a 37), .ref (a 38), .ref (a 50), .ref (a 62), .int (-1), .int 0, .long 0, .long 0, .int 0, .int 0, .int 0, .int 0])), (a 2, .inr (6, [.ref (a 3), .ref (a 14), .ref (a 26), .int 0, .int 0])), (o0, .inl (ko, 1, .inr (.inl (fun _ => 0)))), (h0, .inr (15, mF q 0))]) (hS : va_S A s.heap H locs) (ls : Array Slot) (hl : lv_has ls 7 [(0, .ref b), (1, .ref (a 0)), (2, .ref h0), (3, .ref o0), (4, .int 0)]) : W p l e room_1 s m #[Value.ref b] below meth c H locs 238 27427 (lw_Z below #[Value.ref b] s) (F0 m 2474 ls []) := by
  refine lv_aload_n hx hb dL_law_2474 rfl (lv_at hl 1 rfl) ?_
  refine lv_aload_n hx hb dL_law_2475 rfl (lv_at hl 0 rfl) ?_
  refine lv_iload hx hb dL_law_2476 (lv_at hl 4 rfl) ?_
  refine lv_iconst (v := 1) hx hb dL_law_2478 (by decide) ?_
  refine lv_iadd hx hb dL_law_2479 ?_
  refine lv_topi (fun x1 ex1 => ?_)
  obtain rfl : x1 = 1 := ex1.trans (by decide)
  refine va_sld hx hb hX hbl hbA hS (i := 1) (by unfold vp_in; decide) dL_law_2480 ?_
  refine lv_topi (fun x2 ex2 => ?_)
  obtain rfl : xs 1 = x2 := (ex2).symm
  refine lv_aload_n hx hb dL_law_2481 rfl (lv_at hl 3 rfl) ?_
  have hPc := hP.sub (ws' := [(a 0, .inr (14, [.ref (a 1), .ref (a 2), .ref (a 27), .ref (a 30), .ref (a 74), .ref (a 75), .null, .int 0, .int 0])), (a 30, .inr (3, [.ref (a 31), .ref (a 32), .ref (a 33), .ref (a 34), .ref (a 35), .ref (a 36), .ref (a 37), .ref (a 38), .ref (a 50), .ref (a 62), .int (-1), .int 0, .long 0, .long 0, .int 0, .int 0, .int 0, .int 0])), (a 2, .inr (6, [.ref (a 3), .ref (a 14), .ref (a 26), .int 0, .int 0])), (o0, .inl (ko, 1, .inr (.inl (fun _ => 0))))]) [0, 1, 2, 3] rfl
  have hDc := hD.sub (ws' := [(a 0, .inr (14, [.ref (a 1), .ref (a 2), .ref (a 27), .ref (a 30), .ref (a 74), .ref (a 75), .null, .int 0, .int 0])), (a 30, .inr (3, [.ref (a 31), .ref (a 32), .ref (a 33), .ref (a 34), .ref (a 35), .ref (a 36), .ref (a 37), .ref (a 38), .ref (a 50), .ref (a 62), .int (-1), .int 0, .long 0, .long 0, .int 0, .int 0, .int 0, .int 0])), (a 2, .inr (6, [.ref (a 3), .ref (a 14), .ref (a 26), .int 0, .int 0])), (o0, .inl (ko, 1, .inr (.inl (fun _ => 0))))]) [0, 1, 2, 3] (by decide) rfl
  have hKc := hK.sub (tys' := [(ko, .long)]) [0] rfl
  have hFc := va_free (wc := [(a 0, .inr (14, [.ref (a 1), .ref (a 2), .ref (a 27), .ref (a 30), .ref (a 74), .ref (a 75), .null, .int 0, .int 0])), (a 30, .inr (3, [.ref (a 31), .ref (a 32), .ref (a 33), .ref (a 34), .ref (a 35), .ref (a 36), .ref (a 37), .ref (a 38), .ref (a 50), .ref (a 62), .int (-1), .int 0, .long 0, .long 0, .int 0, .int 0, .int 0, .int 0])), (a 2, .inr (6, [.ref (a 3), .ref (a 14), .ref (a 26), .int 0, .int 0])), (o0, .inl (ko, 1, .inr (.inl (fun _ => 0))))]) hD hS hA [0, 1, 2, 3] rfl
  refine va_calli (vx_runSW (As := [.ref (a 0), .int (xs 1), .ref o0]) (rest := []) ⟨hx, hb, hml, hown, hts⟩ (l_choose l hlt dC dI a k o0 ko (fun _ => 0) (xs 1) H.size ) (vx_cwSW 3 hts (goodIn_app (goodIn_r _ [34, 35, 36] (by decide +kernel) (by decide +kernel)) (goodIn_ca (goodIn_r _ [1, 2, 3, 4, 5, 6, 7, 8, 9, 10, 11, 12, 13, 14, 15, 16, 17, 18, 19, 20, 21, 22, 23, 24, 25, 26, 27, 28, 29, 30, 31, 32, 33] (by decide +kernel) (by decide +kernel)) (bs_in _ _))) rfl rfl rfl (by decide +kernel) ⟨(Nat.le_of_ble_eq_true rfl), (Nat.le_of_ble_eq_true rfl)⟩) ⟨fun a U g mk q => by obtain ⟨q0, q1, qP, qK, qD, qE, qN⟩ := q; exact ⟨q0, q1, qP, va_K.moved (u := U) (U := U.calling g mk a) (Vm.Alike.refl U.vm) qK, qD, EV.blind g mk a qE, NC.blind g mk a qN⟩, fun U hU hW => ⟨rfl, by rw [hU], by rw [hU]; exact hPc, va_K.moved hW.alike hKc, hDc.weaken (fun _ _ _ _ => trivial), hE.call hS hFc hU hW, hN.call hW⟩⟩ rfl rfl hl.1 rfl (lv_room (Nat.le_of_ble_eq_true rfl)) dL_law_2482 ⟨(Nat.le_of_ble_eq_true rfl), (Nat.le_of_ble_eq_true rfl)⟩) hS (fun q _ h => hFc q h) hFc (fun r4 u t H1 locs ht hvm hw5 hB hz1 hk1 hS => ?_)
  obtain ⟨fu6, rfl⟩ : ∃ z, z = u := ⟨_, rfl⟩
  obtain ⟨hP1, hD1⟩ := hB
  rw [ht] at hP1
  obtain ⟨hP, hD⟩ := va_join (wr := [(h0, .inr (15, mF q 0))]) (w1 := [(o0, .inl (ko, 1, .inr (.inl fu6)))]) hP hD [0, 1, 2, 3] [4] rfl rfl (by decide) (by decide) hk1 hFc hP1 hD1
  generalize H1 = H at hP hS ⊢
  have hP : va_P (dC, dI) vwCl [(h0, .inr (15, mF q 0)), (o0, .inl (ko, 1, .inr (.inl fu6)))] H := hP
  have hD : va_D A [(h0, .inr (15, mF q 0)), (o0, .inl (ko, 1, .inr (.inl fu6)))] := hD
  try dsimp only at hw5
  obtain rfl : (T_choose (xs 1)).1 = r4 := hw5.1.symm
  refine lv_istore (lv' := [(5, .int ((T_choose (xs 1)).1)), (0, .ref b), (1, .ref (a 0)), (2, .ref h0), (3, .ref o0), (4, .int 0)]) hx hb dL_law_2485 hl (by decide) rfl (fun ls hl => ?_)
  refine lv_aload_n hx hb dL_law_2487 rfl (lv_at hl 3 rfl) ?_
  refine lv_aload_n hx hb dL_law_2488 rfl (lv_at hl 1 rfl) ?_
  refine lv_iload hx hb dL_law_2489 (lv_at hl 5 rfl) ?_
  refine lv_iconst (v := 1) hx hb dL_law_2491 (by decide) ?_
  refine lv_iadd hx hb dL_law_2492 ?_
  refine lv_topi (fun x7 ex7 => ?_)
  obtain rfl : x7 = 1 := ex7.trans (by decide)
  refine va_sld hx hb hX hbl hbA hS (i := 1) (by unfold vp_in; decide) dL_law_2493 ?_
  refine lv_topi (fun x8 ex8 => ?_)
  obtain rfl : xs 1 = x8 := (ex8).symm
  have hPc := hP.sub (ws' := [(h0, .inr (15, mF q 0))]) [0] rfl
  have hDc := hD.sub (ws' := [(h0, .inr (15, mF q 0))]) [0] (by decide) rfl
  have hKc := hK.sub (tys' := []) [] rfl
  have hFc := va_free (wc := [(h0, .inr (15, mF q 0))]) hD hS hA [0] rfl
  refine va_calli (va_runV (As := [.int (xs 1)]) (rest := []) ⟨hx, hb, hml, hown, hts⟩ (m_choose l dC dI h0 q cm (xs 1) H.size ) (cwV 1 hts (goodIn_app (goodIn_r _ [57, 58, 59, 42] (by decide +kernel) (by decide +kernel)) (goodIn_ca (goodIn_r _ [37, 38, 39, 40, 41, 42, 43, 44, 45, 46, 47, 48, 49, 50, 51, 52, 53, 54, 55, 56] (by decide +kernel) (by decide +kernel)) (bs_in _ _))) rfl rfl rfl (by decide +kernel) ⟨(Nat.le_of_ble_eq_true rfl), (Nat.le_of_ble_eq_true rfl)⟩) ⟨fun a U g mk q => by obtain ⟨q0, q1, qP, qK, qD⟩ := q; exact ⟨q0, q1, qP, va_K.moved (u := U) (U := U.calling g mk a) (Vm.Alike.refl U.vm) qK, qD⟩, va_recv hKc hPc (ci := 15) (q0 := 0) rfl rfl, fun U hU hW => ⟨rfl, by rw [hU], by rw [hU]; exact hPc, va_K.moved hW.alike hKc, hDc.weaken (fun _ _ _ _ => trivial)⟩⟩ rfl rfl hl.1 rfl (lv_room (Nat.le_of_ble_eq_true rfl)) dL_law_2494 ⟨(Nat.le_of_ble_eq_true rfl), (Nat.le_of_ble_eq_true rfl)⟩) hS (fun q _ h => hFc q h) hFc (fun r10 u t H1 locs ht hvm hw11 hB hz1 hk1 hS => ?_)
  obtain ⟨fs12, rfl⟩ : ∃ z, z = u := ⟨_, rfl⟩
  obtain ⟨hP1, hD1⟩ := hB
  rw [ht] at hP1
  obtain ⟨hP, hD⟩ := va_join (wr := [(o0, .inl (ko, 1, .inr (.inl fu6)))]) (w1 := [(h0, .inr (15, fs12))]) hP hD [0] [1] rfl rfl (by decide) (by decide) hk1 hFc hP1 hD1
  generalize H1 = H at hP hS ⊢
  have hP : va_P (dC, dI) vwCl [(o0, .inl (ko, 1, .inr (.inl fu6))), (h0, .inr (15, fs12))] H := hP
  have hD : va_D A [(o0, .inl (ko, 1, .inr (.inl fu6))), (h0, .inr (15, fs12))] := hD
  try dsimp only at hw11
  refine lv_istore (lv' := [(6, .int r10), (5, .int ((T_choose (xs 1)).1)), (0, .ref b), (1, .ref (a 0)), (2, .ref h0), (3, .ref o0), (4, .int 0)]) hx hb dL_law_2497 hl (by decide) rfl (fun ls hl => ?_)
  refine lv_aload_n hx hb dL_law_2499 rfl (lv_at hl 4 rfl) ?_
  have hPc := hP.sub (ws' := [(h0, .inr (15, fs12))]) [1] rfl
  have hDc := hD.sub (ws' := [(h0, .inr (15, fs12))]) [1] (by decide) rfl
  have hKc := hK.sub (tys' := []) [] rfl
  have hFc := va_free (wc := [(h0, .inr (15, fs12))]) hD hS hA [1] rfl
  refine va_calli (va_runV (As := []) (rest := []) ⟨hx, hb, hml, hown, hts⟩ (m_thrown l dC dI h0 fs12 ((T_choose (xs 1)).1) H.size hw11.1) (cwV 0 hts (goodIn_app (goodIn_r _ [61, 62, 63, 42] (by decide +kernel) (by decide +kernel)) (goodIn_ca (goodIn_r _ [60, 38] (by decide +kernel) (by decide +kernel)) (bs_in _ _))) rfl rfl rfl (by decide +kernel) ⟨(Nat.le_of_ble_eq_true rfl), (Nat.le_of_ble_eq_true rfl)⟩) ⟨fun a U g mk q => by obtain ⟨q0, q1, qP, qK, qD⟩ := q; exact ⟨q0, q1, qP, va_K.moved (u := U) (U := U.calling g mk a) (Vm.Alike.refl U.vm) qK, qD⟩, va_recv hKc hPc (ci := 15) (q0 := 0) rfl rfl, fun U hU hW => ⟨rfl, by rw [hU], by rw [hU]; exact hPc, va_K.moved hW.alike hKc, hDc.weaken (fun _ _ _ _ => trivial)⟩⟩ rfl rfl hl.1 rfl (lv_room (Nat.le_of_ble_eq_true rfl)) dL_law_2500 ⟨(Nat.le_of_ble_eq_true rfl), (Nat.le_of_ble_eq_true rfl)⟩) hS (fun q _ h => hFc q h) hFc (fun r14 u t H1 locs ht hvm hw15 hB hz1 hk1 hS => ?_)
  have hP1 : va_P (dC, dI) vwCl [] H1 := nilP
  have hD1 : va_D (va_A [(h0, .inr (15, fs12))] H.size) [] := nilD
  have hK := hK
  obtain ⟨hP, hD⟩ := va_join (wr := [(o0, .inl (ko, 1, .inr (.inl fu6)))]) (w1 := []) hP hD [1] [0] rfl rfl (by decide) (by decide) hk1 hFc hP1 hD1
  generalize H1 = H at hP hS ⊢
  have hP : va_P (dC, dI) vwCl [(o0, .inl (ko, 1, .inr (.inl fu6)))] H := hP
  have hD : va_D A [(o0, .inl (ko, 1, .inr (.inl fu6)))] := hD
  try dsimp only at hw15
  obtain rfl : (T_choose (xs 1)).1 = r14 := hw15.symm
  refine lv_iload hx hb dL_law_2503 (lv_at hl 1 rfl) ?_
  refine lv_icmp_eq (tgt := 2510) hx hb dL_law_2505 (by decide) (fun c16 => ?_) (fun c16 => absurd rfl c16)
  refine lv_iload hx hb dL_law_2510 (lv_at hl 1 rfl) ?_
  refine lv_if_ne (tgt := 2527) hx hb dL_law_2512 (by decide) (fun c17 => ?_) (fun c17 => ?_)
  · refine lv_goto (tgt := 3762) hx hb dL_law_2527 (by decide) ?_
    exact law_tail hx hb hr hlocks hX hbl hbA hAi hS (Nat.le_of_ble_eq_true rfl) (Nat.le_of_ble_eq_true rfl) ls (lv_sub hl [2, 6] rfl)
  · refine lv_aload_n hx hb dL_law_2515 rfl (lv_at hl 5 rfl) ?_
    refine lv_iconst (v := 0) hx hb dL_law_2516 (by decide) ?_
    refine va_lald hx hb hK hP 0 0 rfl rfl (by unfold vp_in; decide) dL_law_2517 ?_
    refine lv_iload hx hb dL_law_2518 (lv_at hl 0 rfl) ?_
    refine lv_i2l (v := r10.toInt64) hx hb dL_law_2520 rfl ?_
    refine W.lcmp hx hb dL_law_2521 ?_
    refine lv_topi (fun x18 ex18 => ?_)
    obtain rfl : x18 = 0 := ex18.trans (by rw [show fu6 (0 : Int32).toNatClampNeg = (T_choose (xs 1)).2.toInt64 from hw5.2 c17, hw11.2 c17]; exact lg_cmp_self _)
    refine lv_if_eq (tgt := 2527) hx hb dL_law_2522 (by decide) (fun c19 => ?_) (fun c19 => absurd c19 (by decide))
    refine lv_goto (tgt := 3762) hx hb dL_law_2527 (by decide) ?_
    exact law_tail hx hb hr hlocks hX hbl hbA hAi hS (Nat.le_of_ble_eq_true rfl) (Nat.le_of_ble_eq_true rfl) ls (lv_sub hl [2, 6] rfl)
