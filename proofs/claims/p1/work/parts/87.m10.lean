def w_law_43 : List Cond := .initialized RL :: ([.codeWith yL_soonest cL_soonest 6 (some .int) [(0, 12, 15, 13), (0, 12, 19, 15), (0, 12, 23, 50)], .code yX11_soonest cX11_soonest 5 (some .int), .code yX11_workOf cX11_workOf 2 (some (.object "SeaLand$Work")), .fieldLink RX11 16 "SeaLand" "lake" "LSeaLand$Lake;", .code yX11_within cX11_within 3 (some .boolean), .methodLink RX11 58 yX11_within, .static yX11_within, .initialized RX11, .classLink RX11 557 "java/lang/IndexOutOfBoundsException", .initialized "java/lang/IndexOutOfBoundsException", .methodLink RX11 167 yX11_workOf, .instanceMethod yX11_workOf, .selects RX11 yX11_workOf yX11_workOf, .methodLink RL 151 yX11_soonest, .instanceMethod yX11_soonest, .selects RX11 yX11_soonest yX11_soonest, .classLink RL 13 "java/lang/IndexOutOfBoundsException", .methodLink RL 323 yL_soonest, .static yL_soonest, .initialized RL, .code yX12_soonest cX12_soonest 9 (some .int), .fieldLink RX12 194 "SeaLandModel" "thrown" "I", .code yX12_noWork cX12_noWork 2 (some .boolean), .fieldLink RX12 9 "SeaLandModel" "world" "[I", .code yX12_in cX12_in 3 (some .boolean), .methodLink RX12 197 yX12_in, .static yX12_in, .initialized RX12, .methodLink RX12 269 yX12_noWork, .instanceMethod yX12_noWork, .selects RX12 yX12_noWork yX12_noWork, .code yX12_throwsIf cX12_throwsIf 3 (some .boolean), .methodLink RX12 224 yX12_throwsIf, .instanceMethod yX12_throwsIf, .selects RX12 yX12_throwsIf yX12_throwsIf, .methodLink RL 325 yX12_soonest, .instanceMethod yX12_soonest, .selects RX12 yX12_soonest yX12_soonest, .code yX12_thrown cX12_thrown 1 (some .int), .methodLink RL 187 yX12_thrown, .instanceMethod yX12_thrown, .selects RX12 yX12_thrown yX12_thrown] ++ bs)
set_option maxRecDepth 100000 in
theorem wm_43 : ∀ w ∈ w_law_43, w ∈ lw_tbl := lw_ins wl_110 (lw_cons wl_1879 (lw_cons wl_1883 (lw_cons wl_1134 (lw_cons wl_589 (lw_cons wl_902 (lw_cons wl_900 (lw_cons wl_901 (lw_cons wl_111 (lw_cons wl_903 (lw_cons wl_126 (lw_cons wl_1131 (lw_cons wl_1133 (lw_cons wl_8 (lw_cons wl_1880 (lw_cons wl_1881 (lw_cons wl_1882 (lw_cons wl_811 (lw_cons wl_1877 (lw_cons wl_1878 (lw_cons wl_110 (lw_cons wl_2728 (lw_cons wl_1969 (lw_cons wl_2307 (lw_cons wl_1970 (lw_cons wl_2217 (lw_cons wl_2215 (lw_cons wl_2216 (lw_cons wl_122 (lw_cons wl_2304 (lw_cons wl_2306 (lw_cons wl_55 (lw_cons wl_2221 (lw_cons wl_2218 (lw_cons wl_2220 (lw_cons wl_44 (lw_cons wl_2725 (lw_cons wl_2726 (lw_cons wl_2727 (lw_cons wl_2207 (lw_cons wl_2204 (lw_cons wl_2205 (lw_cons wl_2206 lw_nil))))))))))))))))))))))))))))))))))))))))))
set_option maxHeartbeats 4000000 in
set_option maxRecDepth 100000 in
/-- soonest -/
theorem law_43 {p : Program} {e : Env} {s : State} {m : MethodId} {below : List Frame} {meth : Method} {c : Code} (l : Launch) (hlt : l.stackTraces = false) {b : Nat} {xs : Nat → Int32} {A : Nat → Prop} (hx : p.tables.exec = Jvm.exec) (hb : c.code = code) (hr : meth.sig.returnType = ret) (hml : c.maxLocals = 7) (hown : s.vm.findClass RL = some m.cls) (hts : ∀ w ∈ w_law_43, w.before #[Value.ref b] s = true) (hX : va_X b 8 xs s s.heap) (hbl : b < s.heap.size) (hbA : ¬ A b) (hlocks : meth.locks = false) (hE : EV A s s.heap) (hN : NC s) (hA : ∀ q : Nat, s.heap.size ≤ q → A q) (hAi : ∀ q : Nat, A q → s.heap.size ≤ q) {dC : Nat → ClassId} {dI : Nat → Nat → Nat} (a : Nat → Nat) (k : Nat → ClassId) (h0 : Nat) (q : Nat → Nat) (cm : Nat → ClassId) (o0 : Nat) (ko : ClassId) (H : Heap) (locs : List Loc) (hK : va_K (dC, dI) vwCl [(ko, .long), ((cm 1), .int)] s) (hP : va_P (dC, dI) vwCl [(a 0, .inr (14, [.ref (a 1), .ref (a 2), .ref (a 27), .ref (a 30), .ref (a 74), .ref (a 75), .null, .int 0, .int 0])), (a 2, .inr (6, [.ref (a 3), .ref (a 14), .ref (a 26), .int 0, .int 0])), (o0, .inl (ko, 1, .inr (.inl (fun _ => 0)))), (h0, .inr (15, mF q 0)), (q 1, .inl ((cm 1), 1749, .inl (fun _ => 0)))] H) (hD : va_D A [(a 0, .inr (14, [.ref (a 1), .ref (a 2), .ref (a 27), .ref (a 30), .ref (a 74), .ref (a 75), .null, .int 0, .int 0])), (a 2, .inr (6, [.ref (a 3), .ref (a 14), .ref (a 26), .int 0, .int 0])), (o0, .inl (ko, 1, .inr (.inl (fun _ => 0)))), (h0, .inr (15, mF q 0)), (q 1, .inl ((cm 1), 1749, .inl (fun _ => 0)))]) (hS : va_S A s.heap H locs) (ls : Array Slot) (hl : lv_has ls 7 [(0, .ref b), (1, .ref (a 0)), (2, .ref h0), (3, .ref o0), (4, .int 0)]) : W p l e room_1 s m #[Value.ref b] below meth c H locs 238 27427 (lw_Z below #[Value.ref b] s) (F0 m 3229 ls []) := by
  refine lv_aload_n hx hb dL_law_3229 rfl (lv_at hl 1 rfl) ?_
  refine lv_aload_n hx hb dL_law_3230 rfl (lv_at hl 0 rfl) ?_
  refine lv_iload hx hb dL_law_3231 (lv_at hl 4 rfl) ?_
  refine lv_iconst (v := 1) hx hb dL_law_3233 (by decide) ?_
  refine lv_iadd hx hb dL_law_3234 ?_
  refine lv_topi (fun x1 ex1 => ?_)
  obtain rfl : x1 = 1 := ex1.trans (by decide)
  refine va_sld hx hb hX hbl hbA hS (i := 1) (by unfold vp_in; decide) dL_law_3235 ?_
  refine lv_topi (fun x2 ex2 => ?_)
  obtain rfl : xs 1 = x2 := (ex2).symm
  refine lv_aload_n hx hb dL_law_3236 rfl (lv_at hl 0 rfl) ?_
  refine lv_iload hx hb dL_law_3237 (lv_at hl 4 rfl) ?_
  refine lv_iconst (v := 2) hx hb dL_law_3239 (by decide) ?_
  refine lv_iadd hx hb dL_law_3240 ?_
  refine lv_topi (fun x3 ex3 => ?_)
  obtain rfl : x3 = 2 := ex3.trans (by decide)
  refine va_sld hx hb hX hbl hbA hS (i := 2) (by unfold vp_in; decide) dL_law_3241 ?_
  refine lv_topi (fun x4 ex4 => ?_)
  obtain rfl : xs 2 = x4 := (ex4).symm
  refine lv_aload_n hx hb dL_law_3242 rfl (lv_at hl 0 rfl) ?_
  refine lv_iload hx hb dL_law_3243 (lv_at hl 4 rfl) ?_
  refine lv_iconst (v := 3) hx hb dL_law_3245 (by decide) ?_
  refine lv_iadd hx hb dL_law_3246 ?_
  refine lv_topi (fun x5 ex5 => ?_)
  obtain rfl : x5 = 3 := ex5.trans (by decide)
  refine va_sld hx hb hX hbl hbA hS (i := 3) (by unfold vp_in; decide) dL_law_3247 ?_
  refine lv_topi (fun x6 ex6 => ?_)
  obtain rfl : xs 3 = x6 := (ex6).symm
  refine lv_aload_n hx hb dL_law_3248 rfl (lv_at hl 3 rfl) ?_
  have hPc := hP.sub (ws' := [(a 0, .inr (14, [.ref (a 1), .ref (a 2), .ref (a 27), .ref (a 30), .ref (a 74), .ref (a 75), .null, .int 0, .int 0])), (a 2, .inr (6, [.ref (a 3), .ref (a 14), .ref (a 26), .int 0, .int 0])), (o0, .inl (ko, 1, .inr (.inl (fun _ => 0))))]) [0, 1, 2] rfl
  have hDc := hD.sub (ws' := [(a 0, .inr (14, [.ref (a 1), .ref (a 2), .ref (a 27), .ref (a 30), .ref (a 74), .ref (a 75), .null, .int 0, .int 0])), (a 2, .inr (6, [.ref (a 3), .ref (a 14), .ref (a 26), .int 0, .int 0])), (o0, .inl (ko, 1, .inr (.inl (fun _ => 0))))]) [0, 1, 2] (by decide) rfl
  have hKc := hK.sub (tys' := [(ko, .long)]) [0] rfl
  have hFc := va_free (wc := [(a 0, .inr (14, [.ref (a 1), .ref (a 2), .ref (a 27), .ref (a 30), .ref (a 74), .ref (a 75), .null, .int 0, .int 0])), (a 2, .inr (6, [.ref (a 3), .ref (a 14), .ref (a 26), .int 0, .int 0])), (o0, .inl (ko, 1, .inr (.inl (fun _ => 0))))]) hD hS hA [0, 1, 2] rfl
  refine va_calli (vx_runSW (As := [.ref (a 0), .int (xs 1), .int (xs 2), .int (xs 3), .ref o0]) (rest := []) ⟨hx, hb, hml, hown, hts⟩ (l_soonest l hlt dC dI a k o0 ko (fun _ => 0) (xs 1) (xs 2) (xs 3) H.size ) (vx_cwSW 5 hts (goodIn_app (goodIn_r _ [18, 19, 20] (by decide +kernel) (by decide +kernel)) (goodIn_ca (goodIn_r _ [1, 2, 3, 4, 5, 6, 7, 8, 9, 10, 11, 12, 13, 14, 15, 16, 17] (by decide +kernel) (by decide +kernel)) (bs_in _ _))) rfl rfl rfl (by decide +kernel) ⟨(Nat.le_of_ble_eq_true rfl), (Nat.le_of_ble_eq_true rfl)⟩) ⟨fun a U g mk q => by obtain ⟨q0, q1, qP, qK, qD, qE, qN⟩ := q; exact ⟨q0, q1, qP, va_K.moved (u := U) (U := U.calling g mk a) (Vm.Alike.refl U.vm) qK, qD, EV.blind g mk a qE, NC.blind g mk a qN⟩, fun U hU hW => ⟨rfl, by rw [hU], by rw [hU]; exact hPc, va_K.moved hW.alike hKc, hDc.weaken (fun _ _ _ _ => trivial), hE.call hS hFc hU hW, hN.call hW⟩⟩ rfl rfl hl.1 rfl (lv_room (Nat.le_of_ble_eq_true rfl)) dL_law_3249 ⟨(Nat.le_of_ble_eq_true rfl), (Nat.le_of_ble_eq_true rfl)⟩) hS (fun q _ h => hFc q h) hFc (fun r8 u t H1 locs ht hvm hw9 hB hz1 hk1 hS => ?_)
  obtain ⟨fu10, rfl⟩ : ∃ z, z = u := ⟨_, rfl⟩
  obtain ⟨hP1, hD1⟩ := hB
  rw [ht] at hP1
  obtain ⟨hP, hD⟩ := va_join (wr := [(h0, .inr (15, mF q 0)), (q 1, .inl ((cm 1), 1749, .inl (fun _ => 0)))]) (w1 := [(o0, .inl (ko, 1, .inr (.inl fu10)))]) hP hD [0, 1, 2] [3, 4] rfl rfl (by decide) (by decide) hk1 hFc hP1 hD1
  generalize H1 = H at hP hS ⊢
  have hP : va_P (dC, dI) vwCl [(h0, .inr (15, mF q 0)), (q 1, .inl ((cm 1), 1749, .inl (fun _ => 0))), (o0, .inl (ko, 1, .inr (.inl fu10)))] H := hP
  have hD : va_D A [(h0, .inr (15, mF q 0)), (q 1, .inl ((cm 1), 1749, .inl (fun _ => 0))), (o0, .inl (ko, 1, .inr (.inl fu10)))] := hD
  try dsimp only at hw9
  obtain rfl : 1 = r8 := hw9.symm
  refine lv_istore (lv' := [(5, .int 1), (0, .ref b), (1, .ref (a 0)), (2, .ref h0), (3, .ref o0), (4, .int 0)]) hx hb dL_law_3252 hl (by decide) rfl (fun ls hl => ?_)
  refine lv_aload_n hx hb dL_law_3254 rfl (lv_at hl 3 rfl) ?_
  refine lv_aload_n hx hb dL_law_3255 rfl (lv_at hl 1 rfl) ?_
  refine lv_iload hx hb dL_law_3256 (lv_at hl 5 rfl) ?_
  refine lv_iconst (v := 1) hx hb dL_law_3258 (by decide) ?_
  refine lv_iadd hx hb dL_law_3259 ?_
  refine lv_topi (fun x11 ex11 => ?_)
  obtain rfl : x11 = 1 := ex11.trans (by decide)
  refine va_sld hx hb hX hbl hbA hS (i := 1) (by unfold vp_in; decide) dL_law_3260 ?_
  refine lv_topi (fun x12 ex12 => ?_)
  obtain rfl : xs 1 = x12 := (ex12).symm
  refine lv_aload_n hx hb dL_law_3261 rfl (lv_at hl 1 rfl) ?_
  refine lv_iload hx hb dL_law_3262 (lv_at hl 5 rfl) ?_
  refine lv_iconst (v := 2) hx hb dL_law_3264 (by decide) ?_
  refine lv_iadd hx hb dL_law_3265 ?_
  refine lv_topi (fun x13 ex13 => ?_)
  obtain rfl : x13 = 2 := ex13.trans (by decide)
  refine va_sld hx hb hX hbl hbA hS (i := 2) (by unfold vp_in; decide) dL_law_3266 ?_
  refine lv_topi (fun x14 ex14 => ?_)
  obtain rfl : xs 2 = x14 := (ex14).symm
  refine lv_aload_n hx hb dL_law_3267 rfl (lv_at hl 1 rfl) ?_
  refine lv_iload hx hb dL_law_3268 (lv_at hl 5 rfl) ?_
  refine lv_iconst (v := 3) hx hb dL_law_3270 (by decide) ?_
  refine lv_iadd hx hb dL_law_3271 ?_
  refine lv_topi (fun x15 ex15 => ?_)
  obtain rfl : x15 = 3 := ex15.trans (by decide)
  refine va_sld hx hb hX hbl hbA hS (i := 3) (by unfold vp_in; decide) dL_law_3272 ?_
  refine lv_topi (fun x16 ex16 => ?_)
  obtain rfl : xs 3 = x16 := (ex16).symm
  have hPc := hP.sub (ws' := [(h0, .inr (15, mF q 0)), (q 1, .inl ((cm 1), 1749, .inl (fun _ => 0)))]) [0, 1] rfl
  have hDc := hD.sub (ws' := [(h0, .inr (15, mF q 0)), (q 1, .inl ((cm 1), 1749, .inl (fun _ => 0)))]) [0, 1] (by decide) rfl
  have hKc := hK.sub (tys' := [((cm 1), .int)]) [1] rfl
  have hFc := va_free (wc := [(h0, .inr (15, mF q 0)), (q 1, .inl ((cm 1), 1749, .inl (fun _ => 0)))]) hD hS hA [0, 1] rfl
  refine va_calli (va_runV (As := [.int (xs 1), .int (xs 2), .int (xs 3)]) (rest := []) ⟨hx, hb, hml, hown, hts⟩ (m_soonest l dC dI h0 q cm (xs 1) (xs 2) (xs 3) H.size ) (cwV 3 hts (goodIn_app (goodIn_r _ [36, 37, 38, 28] (by decide +kernel) (by decide +kernel)) (goodIn_ca (goodIn_r _ [21, 22, 23, 24, 25, 26, 27, 28, 29, 30, 31, 32, 33, 34, 35] (by decide +kernel) (by decide +kernel)) (bs_in _ _))) rfl rfl rfl (by decide +kernel) ⟨(Nat.le_of_ble_eq_true rfl), (Nat.le_of_ble_eq_true rfl)⟩) ⟨fun a U g mk q => by obtain ⟨q0, q1, qP, qK, qD⟩ := q; exact ⟨q0, q1, qP, va_K.moved (u := U) (U := U.calling g mk a) (Vm.Alike.refl U.vm) qK, qD⟩, va_recv hKc hPc (ci := 15) (q0 := 0) rfl rfl, fun U hU hW => ⟨rfl, by rw [hU], by rw [hU]; exact hPc, va_K.moved hW.alike hKc, hDc.weaken (fun _ _ _ _ => trivial)⟩⟩ rfl rfl hl.1 rfl (lv_room (Nat.le_of_ble_eq_true rfl)) dL_law_3273 ⟨(Nat.le_of_ble_eq_true rfl), (Nat.le_of_ble_eq_true rfl)⟩) hS (fun q _ h => hFc q h) hFc (fun r18 u t H1 locs ht hvm hw19 hB hz1 hk1 hS => ?_)
  obtain ⟨fs20, rfl⟩ : ∃ z, z = u := ⟨_, rfl⟩
  obtain ⟨hP1, hD1⟩ := hB
  rw [ht] at hP1
  obtain ⟨hP, hD⟩ := va_join (wr := [(o0, .inl (ko, 1, .inr (.inl fu10)))]) (w1 := [(h0, .inr (15, fs20))]) hP hD [0, 1] [2] rfl rfl (by decide) (by decide) hk1 hFc hP1 hD1
  generalize H1 = H at hP hS ⊢
  have hP : va_P (dC, dI) vwCl [(o0, .inl (ko, 1, .inr (.inl fu10))), (h0, .inr (15, fs20))] H := hP
  have hD : va_D A [(o0, .inl (ko, 1, .inr (.inl fu10))), (h0, .inr (15, fs20))] := hD
  try dsimp only at hw19
  refine lv_istore (lv' := [(6, .int r18), (5, .int 1), (0, .ref b), (1, .ref (a 0)), (2, .ref h0), (3, .ref o0), (4, .int 0)]) hx hb dL_law_3276 hl (by decide) rfl (fun ls hl => ?_)
  refine lv_aload_n hx hb dL_law_3278 rfl (lv_at hl 4 rfl) ?_
  have hPc := hP.sub (ws' := [(h0, .inr (15, fs20))]) [1] rfl
  have hDc := hD.sub (ws' := [(h0, .inr (15, fs20))]) [1] (by decide) rfl
  have hKc := hK.sub (tys' := []) [] rfl
  have hFc := va_free (wc := [(h0, .inr (15, fs20))]) hD hS hA [1] rfl
  refine va_calli (va_runV (As := []) (rest := []) ⟨hx, hb, hml, hown, hts⟩ (m_thrown l dC dI h0 fs20 1 H.size hw19) (cwV 0 hts (goodIn_app (goodIn_r _ [40, 41, 42, 28] (by decide +kernel) (by decide +kernel)) (goodIn_ca (goodIn_r _ [39, 22] (by decide +kernel) (by decide +kernel)) (bs_in _ _))) rfl rfl rfl (by decide +kernel) ⟨(Nat.le_of_ble_eq_true rfl), (Nat.le_of_ble_eq_true rfl)⟩) ⟨fun a U g mk q => by obtain ⟨q0, q1, qP, qK, qD⟩ := q; exact ⟨q0, q1, qP, va_K.moved (u := U) (U := U.calling g mk a) (Vm.Alike.refl U.vm) qK, qD⟩, va_recv hKc hPc (ci := 15) (q0 := 0) rfl rfl, fun U hU hW => ⟨rfl, by rw [hU], by rw [hU]; exact hPc, va_K.moved hW.alike hKc, hDc.weaken (fun _ _ _ _ => trivial)⟩⟩ rfl rfl hl.1 rfl (lv_room (Nat.le_of_ble_eq_true rfl)) dL_law_3279 ⟨(Nat.le_of_ble_eq_true rfl), (Nat.le_of_ble_eq_true rfl)⟩) hS (fun q _ h => hFc q h) hFc (fun r22 u t H1 locs ht hvm hw23 hB hz1 hk1 hS => ?_)
  have hP1 : va_P (dC, dI) vwCl [] H1 := nilP
  have hD1 : va_D (va_A [(h0, .inr (15, fs20))] H.size) [] := nilD
  have hK := hK
  obtain ⟨hP, hD⟩ := va_join (wr := [(o0, .inl (ko, 1, .inr (.inl fu10)))]) (w1 := []) hP hD [1] [0] rfl rfl (by decide) (by decide) hk1 hFc hP1 hD1
  generalize H1 = H at hP hS ⊢
  have hP : va_P (dC, dI) vwCl [(o0, .inl (ko, 1, .inr (.inl fu10)))] H := hP
  have hD : va_D A [(o0, .inl (ko, 1, .inr (.inl fu10)))] := hD
  try dsimp only at hw23
  obtain rfl : 1 = r22 := hw23.symm
  refine lv_iload hx hb dL_law_3282 (lv_at hl 1 rfl) ?_
  refine lv_icmp_eq (tgt := 3289) hx hb dL_law_3284 (by decide) (fun c24 => ?_) (fun c24 => absurd c24 (by decide))
  refine lv_iload hx hb dL_law_3289 (lv_at hl 1 rfl) ?_
  refine lv_if_ne (tgt := 3306) hx hb dL_law_3291 (by decide) (fun c25 => ?_) (fun c25 => absurd c25 (by decide))
  refine lv_goto (tgt := 3762) hx hb dL_law_3306 (by decide) ?_
  exact law_tail hx hb hr hlocks hX hbl hbA hAi hS (Nat.le_of_ble_eq_true rfl) (Nat.le_of_ble_eq_true rfl) ls (lv_sub hl [2, 6] rfl)
def w_law_44 : List Cond := .initialized RL :: ([.codeWith yL_levels cL_levels 5 (some .int) [(0, 10, 13, 13), (0, 10, 17, 15)], .code yX11_levels cX11_levels 3 (some .int), .code yX11_needFarm cX11_needFarm 2 none, .fieldLink RX11 30 "SeaLand" "board" "LSeaLand$Board;", .code yX11_within cX11_within 3 (some .boolean), .methodLink RX11 58 yX11_within, .static yX11_within, .initialized RX11, .classLink RX11 557 "java/lang/IndexOutOfBoundsException", .initialized "java/lang/IndexOutOfBoundsException", .methodLink RX11 366 yX11_needFarm, .instanceMethod yX11_needFarm, .selects RX11 yX11_needFarm yX11_needFarm, .methodLink RL 154 yX11_levels, .instanceMethod yX11_levels, .selects RX11 yX11_levels yX11_levels, .classLink RL 13 "java/lang/IndexOutOfBoundsException", .methodLink RL 326 yL_levels, .static yL_levels, .initialized RL, .code yX12_levels cX12_levels 11 (some .int), .fieldLink RX12 194 "SeaLandModel" "thrown" "I", .code yX12_noFarm cX12_noFarm 2 (some .boolean), .fieldLink RX12 498 "SeaLandModel" "farms" "I", .code yX12_in cX12_in 3 (some .boolean), .methodLink RX12 197 yX12_in, .static yX12_in, .initialized RX12, .methodLink RX12 502 yX12_noFarm, .instanceMethod yX12_noFarm, .selects RX12 yX12_noFarm yX12_noFarm, .code yX12_throwsIf cX12_throwsIf 3 (some .boolean), .methodLink RX12 224 yX12_throwsIf, .instanceMethod yX12_throwsIf, .selects RX12 yX12_throwsIf yX12_throwsIf, .methodLink RL 328 yX12_levels, .instanceMethod yX12_levels, .selects RX12 yX12_levels yX12_levels, .code yX12_thrown cX12_thrown 1 (some .int), .methodLink RL 187 yX12_thrown, .instanceMethod yX12_thrown, .selects RX12 yX12_thrown yX12_thrown] ++ bs)
set_option maxRecDepth 100000 in
theorem wm_44 : ∀ w ∈ w_law_44, w ∈ lw_tbl := lw_ins wl_110 (lw_cons wl_1892 (lw_cons wl_1896 (lw_cons wl_1702 (lw_cons wl_591 (lw_cons wl_902 (lw_cons wl_900 (lw_cons wl_901 (lw_cons wl_111 (lw_cons wl_903 (lw_cons wl_126 (lw_cons wl_1699 (lw_cons wl_1701 (lw_cons wl_32 (lw_cons wl_1893 (lw_cons wl_1894 (lw_cons wl_1895 (lw_cons wl_811 (lw_cons wl_1890 (lw_cons wl_1891 (lw_cons wl_110 (lw_cons wl_2732 (lw_cons wl_1969 (lw_cons wl_2627 (lw_cons wl_2016 (lw_cons wl_2217 (lw_cons wl_2215 (lw_cons wl_2216 (lw_cons wl_122 (lw_cons wl_2624 (lw_cons wl_2626 (lw_cons wl_101 (lw_cons wl_2221 (lw_cons wl_2218 (lw_cons wl_2220 (lw_cons wl_44 (lw_cons wl_2729 (lw_cons wl_2730 (lw_cons wl_2731 (lw_cons wl_2207 (lw_cons wl_2204 (lw_cons wl_2205 (lw_cons wl_2206 lw_nil))))))))))))))))))))))))))))))))))))))))))
set_option maxHeartbeats 4000000 in
set_option maxRecDepth 100000 in
/-- levels -/
theorem law_44 {p : Program} {e : Env} {s : State} {m : MethodId} {below : List Frame} {meth : Method} {c : Code} (l : Launch) (hlt : l.stackTraces = false) {b : Nat} {xs : Nat → Int32} {A : Nat → Prop} (hx : p.tables.exec = Jvm.exec) (hb : c.code = code) (hr : meth.sig.returnType = ret) (hml : c.maxLocals = 7) (hown : s.vm.findClass RL = some m.cls) (hts : ∀ w ∈ w_law_44, w.before #[Value.ref b] s = true) (hX : va_X b 8 xs s s.heap) (hbl : b < s.heap.size) (hbA : ¬ A b) (hlocks : meth.locks = false) (hE : EV A s s.heap) (hN : NC s) (hA : ∀ q : Nat, s.heap.size ≤ q → A q) (hAi : ∀ q : Nat, A q → s.heap.size ≤ q) {dC : Nat → ClassId} {dI : Nat → Nat → Nat} (a : Nat → Nat) (k : Nat → ClassId) (h0 : Nat) (q : Nat → Nat) (cm : Nat → ClassId) (o0 : Nat) (ko : ClassId) (H : Heap) (locs : List Loc) (hK : va_K (dC, dI) vwCl [(ko, .long)] s) (hP : va_P (dC, dI) vwCl [(a 0, .inr (14, [.ref (a 1), .ref (a 2), .ref (a 27), .ref (a 30), .ref (a 74), .ref (a 75), .null, .int 0, .int 0])), (a 30, .inr (3, [.ref (a 31), .ref (a 32), .ref (a 33), .ref (a 34), .ref (a 35), .ref (a 36), .ref (a 37), .ref (a 38), .ref (a 50), .ref (a 62), .int (-1), .int 0, .long 0, .long 0, .int 0, .int 0, .int 0, .int 0])), (o0, .inl (ko, 1, .inr (.inl (fun _ => 0)))), (h0, .inr (15, mF q 0))] H) (hD : va_D A [(a 0, .inr (14, [.ref (a 1), .ref (a 2), .ref (a 27), .ref (a 30), .ref (a 74), .ref (a 75), .null, .int 0, .int 0])), (a 30, .inr (3, [.ref (a 31), .ref (a 32), .ref (a 33), .ref (a 34), .ref (a 35), .ref (a 36), .ref (a 37), .ref (a 38), .ref (a 50), .ref (a 62), .int (-1), .int 0, .long 0, .long 0, .int 0, .int 0, .int 0, .int 0])), (o0, .inl (ko, 1, .inr (.inl (fun _ => 0)))), (h0, .inr (15, mF q 0))]) (hS : va_S A s.heap H locs) (ls : Array Slot) (hl : lv_has ls 7 [(0, .ref b), (1, .ref (a 0)), (2, .ref h0), (3, .ref o0), (4, .int 0)]) : W p l e room_1 s m #[Value.ref b] below meth c H locs 238 27427 (lw_Z below #[Value.ref b] s) (F0 m 3309 ls []) := by
  refine lv_aload_n hx hb dL_law_3309 rfl (lv_at hl 1 rfl) ?_
  refine lv_aload_n hx hb dL_law_3310 rfl (lv_at hl 0 rfl) ?_
  refine lv_iload hx hb dL_law_3311 (lv_at hl 4 rfl) ?_
  refine lv_iconst (v := 1) hx hb dL_law_3313 (by decide) ?_
  refine lv_iadd hx hb dL_law_3314 ?_
  refine lv_topi (fun x1 ex1 => ?_)
  obtain rfl : x1 = 1 := ex1.trans (by decide)
  refine va_sld hx hb hX hbl hbA hS (i := 1) (by unfold vp_in; decide) dL_law_3315 ?_
  refine lv_topi (fun x2 ex2 => ?_)
  obtain rfl : xs 1 = x2 := (ex2).symm
  refine lv_aload_n hx hb dL_law_3316 rfl (lv_at hl 0 rfl) ?_
  refine lv_iload hx hb dL_law_3317 (lv_at hl 4 rfl) ?_
  refine lv_iconst (v := 2) hx hb dL_law_3319 (by decide) ?_
  refine lv_iadd hx hb dL_law_3320 ?_
  refine lv_topi (fun x3 ex3 => ?_)
  obtain rfl : x3 = 2 := ex3.trans (by decide)
  refine va_sld hx hb hX hbl hbA hS (i := 2) (by unfold vp_in; decide) dL_law_3321 ?_
  refine lv_topi (fun x4 ex4 => ?_)
  obtain rfl : xs 2 = x4 := (ex4).symm
  refine lv_aload_n hx hb dL_law_3322 rfl (lv_at hl 3 rfl) ?_
  have hPc := hP.sub (ws' := [(a 0, .inr (14, [.ref (a 1), .ref (a 2), .ref (a 27), .ref (a 30), .ref (a 74), .ref (a 75), .null, .int 0, .int 0])), (a 30, .inr (3, [.ref (a 31), .ref (a 32), .ref (a 33), .ref (a 34), .ref (a 35), .ref (a 36), .ref (a 37), .ref (a 38), .ref (a 50), .ref (a 62), .int (-1), .int 0, .long 0, .long 0, .int 0, .int 0, .int 0, .int 0])), (o0, .inl (ko, 1, .inr (.inl (fun _ => 0))))]) [0, 1, 2] rfl
  have hDc := hD.sub (ws' := [(a 0, .inr (14, [.ref (a 1), .ref (a 2), .ref (a 27), .ref (a 30), .ref (a 74), .ref (a 75), .null, .int 0, .int 0])), (a 30, .inr (3, [.ref (a 31), .ref (a 32), .ref (a 33), .ref (a 34), .ref (a 35), .ref (a 36), .ref (a 37), .ref (a 38), .ref (a 50), .ref (a 62), .int (-1), .int 0, .long 0, .long 0, .int 0, .int 0, .int 0, .int 0])), (o0, .inl (ko, 1, .inr (.inl (fun _ => 0))))]) [0, 1, 2] (by decide) rfl
  have hKc := hK.sub (tys' := [(ko, .long)]) [0] rfl
  have hFc := va_free (wc := [(a 0, .inr (14, [.ref (a 1), .ref (a 2), .ref (a 27), .ref (a 30), .ref (a 74), .ref (a 75), .null, .int 0, .int 0])), (a 30, .inr (3, [.ref (a 31), .ref (a 32), .ref (a 33), .ref (a 34), .ref (a 35), .ref (a 36), .ref (a 37), .ref (a 38), .ref (a 50), .ref (a 62), .int (-1), .int 0, .long 0, .long 0, .int 0, .int 0, .int 0, .int 0])), (o0, .inl (ko, 1, .inr (.inl (fun _ => 0))))]) hD hS hA [0, 1, 2] rfl
  refine va_calli (vx_runSW (As := [.ref (a 0), .int (xs 1), .int (xs 2), .ref o0]) (rest := []) ⟨hx, hb, hml, hown, hts⟩ (l_levels l hlt dC dI a k o0 ko (fun _ => 0) (xs 1) (xs 2) H.size ) (vx_cwSW 4 hts (goodIn_app (goodIn_r _ [18, 19, 20] (by decide +kernel) (by decide +kernel)) (goodIn_ca (goodIn_r _ [1, 2, 3, 4, 5, 6, 7, 8, 9, 10, 11, 12, 13, 14, 15, 16, 17] (by decide +kernel) (by decide +kernel)) (bs_in _ _))) rfl rfl rfl (by decide +kernel) ⟨(Nat.le_of_ble_eq_true rfl), (Nat.le_of_ble_eq_true rfl)⟩) ⟨fun a U g mk q => by obtain ⟨q0, q1, qP, qK, qD, qE, qN⟩ := q; exact ⟨q0, q1, qP, va_K.moved (u := U) (U := U.calling g mk a) (Vm.Alike.refl U.vm) qK, qD, EV.blind g mk a qE, NC.blind g mk a qN⟩, fun U hU hW => ⟨rfl, by rw [hU], by rw [hU]; exact hPc, va_K.moved hW.alike hKc, hDc.weaken (fun _ _ _ _ => trivial), hE.call hS hFc hU hW, hN.call hW⟩⟩ rfl rfl hl.1 rfl (lv_room (Nat.le_of_ble_eq_true rfl)) dL_law_3323 ⟨(Nat.le_of_ble_eq_true rfl), (Nat.le_of_ble_eq_true rfl)⟩) hS (fun q _ h => hFc q h) hFc (fun r6 u t H1 locs ht hvm hw7 hB hz1 hk1 hS => ?_)
  obtain ⟨fu8, rfl⟩ : ∃ z, z = u := ⟨_, rfl⟩
  obtain ⟨hP1, hD1⟩ := hB
  rw [ht] at hP1
  obtain ⟨hP, hD⟩ := va_join (wr := [(h0, .inr (15, mF q 0))]) (w1 := [(o0, .inl (ko, 1, .inr (.inl fu8)))]) hP hD [0, 1, 2] [3] rfl rfl (by decide) (by decide) hk1 hFc hP1 hD1
  generalize H1 = H at hP hS ⊢
  have hP : va_P (dC, dI) vwCl [(h0, .inr (15, mF q 0)), (o0, .inl (ko, 1, .inr (.inl fu8)))] H := hP
  have hD : va_D A [(h0, .inr (15, mF q 0)), (o0, .inl (ko, 1, .inr (.inl fu8)))] := hD
  try dsimp only at hw7
  obtain rfl : 1 = r6 := hw7.symm
  refine lv_istore (lv' := [(5, .int 1), (0, .ref b), (1, .ref (a 0)), (2, .ref h0), (3, .ref o0), (4, .int 0)]) hx hb dL_law_3326 hl (by decide) rfl (fun ls hl => ?_)
  refine lv_aload_n hx hb dL_law_3328 rfl (lv_at hl 3 rfl) ?_
  refine lv_aload_n hx hb dL_law_3329 rfl (lv_at hl 1 rfl) ?_
  refine lv_iload hx hb dL_law_3330 (lv_at hl 5 rfl) ?_
  refine lv_iconst (v := 1) hx hb dL_law_3332 (by decide) ?_
  refine lv_iadd hx hb dL_law_3333 ?_
  refine lv_topi (fun x9 ex9 => ?_)
  obtain rfl : x9 = 1 := ex9.trans (by decide)
  refine va_sld hx hb hX hbl hbA hS (i := 1) (by unfold vp_in; decide) dL_law_3334 ?_
  refine lv_topi (fun x10 ex10 => ?_)
  obtain rfl : xs 1 = x10 := (ex10).symm
  refine lv_aload_n hx hb dL_law_3335 rfl (lv_at hl 1 rfl) ?_
  refine lv_iload hx hb dL_law_3336 (lv_at hl 5 rfl) ?_
  refine lv_iconst (v := 2) hx hb dL_law_3338 (by decide) ?_
  refine lv_iadd hx hb dL_law_3339 ?_
  refine lv_topi (fun x11 ex11 => ?_)
  obtain rfl : x11 = 2 := ex11.trans (by decide)
  refine va_sld hx hb hX hbl hbA hS (i := 2) (by unfold vp_in; decide) dL_law_3340 ?_
  refine lv_topi (fun x12 ex12 => ?_)
  obtain rfl : xs 2 = x12 := (ex12).symm
  have hPc := hP.sub (ws' := [(h0, .inr (15, mF q 0))]) [0] rfl
  have hDc := hD.sub (ws' := [(h0, .inr (15, mF q 0))]) [0] (by decide) rfl
  have hKc := hK.sub (tys' := []) [] rfl
  have hFc := va_free (wc := [(h0, .inr (15, mF q 0))]) hD hS hA [0] rfl
  refine va_calli (va_runV (As := [.int (xs 1), .int (xs 2)]) (rest := []) ⟨hx, hb, hml, hown, hts⟩ (m_levels l dC dI h0 q cm (xs 1) (xs 2) H.size ) (cwV 2 hts (goodIn_app (goodIn_r _ [36, 37, 38, 28] (by decide +kernel) (by decide +kernel)) (goodIn_ca (goodIn_r _ [21, 22, 23, 24, 25, 26, 27, 28, 29, 30, 31, 32, 33, 34, 35] (by decide +kernel) (by decide +kernel)) (bs_in _ _))) rfl rfl rfl (by decide +kernel) ⟨(Nat.le_of_ble_eq_true rfl), (Nat.le_of_ble_eq_true rfl)⟩) ⟨fun a U g mk q => by obtain ⟨q0, q1, qP, qK, qD⟩ := q; exact ⟨q0, q1, qP, va_K.moved (u := U) (U := U.calling g mk a) (Vm.Alike.refl U.vm) qK, qD⟩, va_recv hKc hPc (ci := 15) (q0 := 0) rfl rfl, fun U hU hW => ⟨rfl, by rw [hU], by rw [hU]; exact hPc, va_K.moved hW.alike hKc, hDc.weaken (fun _ _ _ _ => trivial)⟩⟩ rfl rfl hl.1 rfl (lv_room (Nat.le_of_ble_eq_true rfl)) dL_law_3341 ⟨(Nat.le_of_ble_eq_true rfl), (Nat.le_of_ble_eq_true rfl)⟩) hS (fun q _ h => hFc q h) hFc (fun r14 u t H1 locs ht hvm hw15 hB hz1 hk1 hS => ?_)
  obtain ⟨fs16, rfl⟩ : ∃ z, z = u := ⟨_, rfl⟩
  obtain ⟨hP1, hD1⟩ := hB
  rw [ht] at hP1
  obtain ⟨hP, hD⟩ := va_join (wr := [(o0, .inl (ko, 1, .inr (.inl fu8)))]) (w1 := [(h0, .inr (15, fs16))]) hP hD [0] [1] rfl rfl (by decide) (by decide) hk1 hFc hP1 hD1
  generalize H1 = H at hP hS ⊢
  have hP : va_P (dC, dI) vwCl [(o0, .inl (ko, 1, .inr (.inl fu8))), (h0, .inr (15, fs16))] H := hP
  have hD : va_D A [(o0, .inl (ko, 1, .inr (.inl fu8))), (h0, .inr (15, fs16))] := hD
  try dsimp only at hw15
  refine lv_istore (lv' := [(6, .int r14), (5, .int 1), (0, .ref b), (1, .ref (a 0)), (2, .ref h0), (3, .ref o0), (4, .int 0)]) hx hb dL_law_3344 hl (by decide) rfl (fun ls hl => ?_)
  refine lv_aload_n hx hb dL_law_3346 rfl (lv_at hl 4 rfl) ?_
  have hPc := hP.sub (ws' := [(h0, .inr (15, fs16))]) [1] rfl
  have hDc := hD.sub (ws' := [(h0, .inr (15, fs16))]) [1] (by decide) rfl
  have hKc := hK.sub (tys' := []) [] rfl
  have hFc := va_free (wc := [(h0, .inr (15, fs16))]) hD hS hA [1] rfl
  refine va_calli (va_runV (As := []) (rest := []) ⟨hx, hb, hml, hown, hts⟩ (m_thrown l dC dI h0 fs16 1 H.size hw15) (cwV 0 hts (goodIn_app (goodIn_r _ [40, 41, 42, 28] (by decide +kernel) (by decide +kernel)) (goodIn_ca (goodIn_r _ [39, 22] (by decide +kernel) (by decide +kernel)) (bs_in _ _))) rfl rfl rfl (by decide +kernel) ⟨(Nat.le_of_ble_eq_true rfl), (Nat.le_of_ble_eq_true rfl)⟩) ⟨fun a U g mk q => by obtain ⟨q0, q1, qP, qK, qD⟩ := q; exact ⟨q0, q1, qP, va_K.moved (u := U) (U := U.calling g mk a) (Vm.Alike.refl U.vm) qK, qD⟩, va_recv hKc hPc (ci := 15) (q0 := 0) rfl rfl, fun U hU hW => ⟨rfl, by rw [hU], by rw [hU]; exact hPc, va_K.moved hW.alike hKc, hDc.weaken (fun _ _ _ _ => trivial)⟩⟩ rfl rfl hl.1 rfl (lv_room (Nat.le_of_ble_eq_true rfl)) dL_law_3347 ⟨(Nat.le_of_ble_eq_true rfl), (Nat.le_of_ble_eq_true rfl)⟩) hS (fun q _ h => hFc q h) hFc (fun r18 u t H1 locs ht hvm hw19 hB hz1 hk1 hS => ?_)
  have hP1 : va_P (dC, dI) vwCl [] H1 := nilP
  have hD1 : va_D (va_A [(h0, .inr (15, fs16))] H.size) [] := nilD
  have hK := hK
  obtain ⟨hP, hD⟩ := va_join (wr := [(o0, .inl (ko, 1, .inr (.inl fu8)))]) (w1 := []) hP hD [1] [0] rfl rfl (by decide) (by decide) hk1 hFc hP1 hD1
  generalize H1 = H at hP hS ⊢
  have hP : va_P (dC, dI) vwCl [(o0, .inl (ko, 1, .inr (.inl fu8)))] H := hP
  have hD : va_D A [(o0, .inl (ko, 1, .inr (.inl fu8)))] := hD
  try dsimp only at hw19
  obtain rfl : 1 = r18 := hw19.symm
  refine lv_iload hx hb dL_law_3350 (lv_at hl 1 rfl) ?_
  refine lv_icmp_eq (tgt := 3357) hx hb dL_law_3352 (by decide) (fun c20 => ?_) (fun c20 => absurd c20 (by decide))
  refine lv_iload hx hb dL_law_3357 (lv_at hl 1 rfl) ?_
  refine lv_if_ne (tgt := 3374) hx hb dL_law_3359 (by decide) (fun c21 => ?_) (fun c21 => absurd c21 (by decide))
  refine lv_goto (tgt := 3762) hx hb dL_law_3374 (by decide) ?_
  exact law_tail hx hb hr hlocks hX hbl hbA hAi hS (Nat.le_of_ble_eq_true rfl) (Nat.le_of_ble_eq_true rfl) ls (lv_sub hl [2, 6] rfl)
def w_law_45 : List Cond := .initialized RL :: ([.codeWith yL_job cL_job 7 (some .int) [(0, 14, 17, 15)], .code yX11_job cX11_job 5 (some .int), .constant RX11 411 1000000, .code yX11_within cX11_within 3 (some .boolean), .methodLink RX11 58 yX11_within, .static yX11_within, .initialized RX11, .constant RX11 96 100000, .code yX11_needNumbers cX11_needNumbers 1 none, .methodLink RX11 62 yX11_needNumbers, .static yX11_needNumbers, .fieldLink RX11 43 "SeaLand" "plans" "LSeaLand$Plans;", .code yX5_addJob cX5_addJob 5 (some .int), .fieldLink RX5 29 "SeaLand$Plans" "costs" "[I", .fieldLink RX5 154 "SeaLand$Plans" "jobs" "I", .fieldLink RX5 32 "SeaLand$Plans" "lasts" "[I", .fieldLink RX5 35 "SeaLand$Plans" "incomes" "[I", .fieldLink RX5 38 "SeaLand$Plans" "acres" "[I", .methodLink RX11 481 yX5_addJob, .instanceMethod yX5_addJob, .selects RX5 yX5_addJob yX5_addJob, .initialized RX5, .classLink RX11 547 "java/lang/IllegalArgumentException", .initialized "java/lang/IllegalArgumentException", .methodLink RL 157 yX11_job, .instanceMethod yX11_job, .selects RX11 yX11_job yX11_job, .classLink RL 15 "java/lang/IllegalArgumentException", .methodLink RL 329 yL_job, .static yL_job, .initialized RL, .code yX12_job cX12_job 5 (some .int), .fieldLink RX12 194 "SeaLandModel" "thrown" "I", .constant RX12 536 1000000, .code yX12_in cX12_in 3 (some .boolean), .methodLink RX12 197 yX12_in, .static yX12_in, .initialized RX12, .constant RX12 241 100000, .code yX12_throwsIf cX12_throwsIf 3 (some .boolean), .methodLink RX12 224 yX12_throwsIf, .instanceMethod yX12_throwsIf, .selects RX12 yX12_throwsIf yX12_throwsIf, .fieldLink RX12 553 "SeaLandModel" "jobs" "I", .fieldLink RX12 176 "SeaLandModel" "jCost" "[I", .fieldLink RX12 179 "SeaLandModel" "jYears" "[I", .fieldLink RX12 182 "SeaLandModel" "jBrings" "[I", .fieldLink RX12 185 "SeaLandModel" "jAcres" "[I", .methodLink RL 331 yX12_job, .instanceMethod yX12_job, .selects RX12 yX12_job yX12_job, .code yX12_thrown cX12_thrown 1 (some .int), .methodLink RL 187 yX12_thrown, .instanceMethod yX12_thrown, .selects RX12 yX12_thrown yX12_thrown] ++ bs)
set_option maxRecDepth 100000 in
theorem wm_45 : ∀ w ∈ w_law_45, w ∈ lw_tbl := lw_ins wl_110 (lw_cons wl_1916 (lw_cons wl_1920 (lw_cons wl_1760 (lw_cons wl_902 (lw_cons wl_900 (lw_cons wl_901 (lw_cons wl_111 (lw_cons wl_976 (lw_cons wl_918 (lw_cons wl_916 (lw_cons wl_917 (lw_cons wl_593 (lw_cons wl_1924 (lw_cons wl_538 (lw_cons wl_549 (lw_cons wl_539 (lw_cons wl_540 (lw_cons wl_541 (lw_cons wl_1921 (lw_cons wl_1922 (lw_cons wl_1923 (lw_cons wl_121 (lw_cons wl_919 (lw_cons wl_129 (lw_cons wl_1917 (lw_cons wl_1918 (lw_cons wl_1919 (lw_cons wl_891 (lw_cons wl_1914 (lw_cons wl_1915 (lw_cons wl_110 (lw_cons wl_2739 (lw_cons wl_1969 (lw_cons wl_2688 (lw_cons wl_2217 (lw_cons wl_2215 (lw_cons wl_2216 (lw_cons wl_122 (lw_cons wl_2239 (lw_cons wl_2221 (lw_cons wl_2218 (lw_cons wl_2220 (lw_cons wl_44 (lw_cons wl_2043 (lw_cons wl_2039 (lw_cons wl_2040 (lw_cons wl_2041 (lw_cons wl_2042 (lw_cons wl_2736 (lw_cons wl_2737 (lw_cons wl_2738 (lw_cons wl_2207 (lw_cons wl_2204 (lw_cons wl_2205 (lw_cons wl_2206 lw_nil)))))))))))))))))))))))))))))))))))))))))))))))))))))))
set_option maxHeartbeats 4000000 in
set_option maxRecDepth 100000 in
/-- job -/
theorem law_45 {p : Program} {e : Env} {s : State} {m : MethodId} {below : List Frame} {meth : Method} {c : Code} (l : Launch) (hlt : l.stackTraces = false) {b : Nat} {xs : Nat → Int32} {A : Nat → Prop} (hx : p.tables.exec = Jvm.exec) (hb : c.code = code) (hr : meth.sig.returnType = ret) (hml : c.maxLocals = 7) (hown : s.vm.findClass RL = some m.cls) (hts : ∀ w ∈ w_law_45, w.before #[Value.ref b] s = true) (hX : va_X b 8 xs s s.heap) (hbl : b < s.heap.size) (hbA : ¬ A b) (hlocks : meth.locks = false) (hE : EV A s s.heap) (hN : NC s) (hA : ∀ q : Nat, s.heap.size ≤ q → A q) (hAi : ∀ q : Nat, A q → s.heap.size ≤ q) {dC : Nat → ClassId} {dI : Nat → Nat → Nat} (a : Nat → Nat) (k : Nat → ClassId) (h0 : Nat) (q : Nat → Nat) (cm : Nat → ClassId) (o0 : Nat) (ko : ClassId) (H : Heap) (locs : List Loc) (hK : va_K (dC, dI) vwCl [((k 81), .int), ((k 82), .int), ((k 83), .int), ((k 84), .int), (ko, .long), ((cm 70), .int), ((cm 71), .int), ((cm 72), .int), ((cm 73), .int)] s) (hP : va_P (dC, dI) vwCl [(a 0, .inr (14, [.ref (a 1), .ref (a 2), .ref (a 27), .ref (a 30), .ref (a 74), .ref (a 75), .null, .int 0, .int 0])), (a 75, .inr (8, [.ref (a 76), .ref (a 77), .ref (a 78), .ref (a 79), .ref (a 80), .ref (a 81), .ref (a 82), .ref (a 83), .ref (a 84), .ref (a 85), .ref (a 86), .ref (a 87), .int 0, .int 0, .int 0, .int 0, .int 0])), (a 81, .inl ((k 81), 7, .inl (fun _ => 0))), (a 82, .inl ((k 82), 7, .inl (fun _ => 0))), (a 83, .inl ((k 83), 7, .inl (fun _ => 0))), (a 84, .inl ((k 84), 7, .inl (fun _ => 0))), (o0, .inl (ko, 1, .inr (.inl (fun _ => 0)))), (h0, .inr (15, mF q 0)), (q 70, .inl ((cm 70), 7, .inl (fun _ => 0))), (q 71, .inl ((cm 71), 7, .inl (fun _ => 0))), (q 72, .inl ((cm 72), 7, .inl (fun _ => 0))), (q 73, .inl ((cm 73), 7, .inl (fun _ => 0)))] H) (hD : va_D A [(a 0, .inr (14, [.ref (a 1), .ref (a 2), .ref (a 27), .ref (a 30), .ref (a 74), .ref (a 75), .null, .int 0, .int 0])), (a 75, .inr (8, [.ref (a 76), .ref (a 77), .ref (a 78), .ref (a 79), .ref (a 80), .ref (a 81), .ref (a 82), .ref (a 83), .ref (a 84), .ref (a 85), .ref (a 86), .ref (a 87), .int 0, .int 0, .int 0, .int 0, .int 0])), (a 81, .inl ((k 81), 7, .inl (fun _ => 0))), (a 82, .inl ((k 82), 7, .inl (fun _ => 0))), (a 83, .inl ((k 83), 7, .inl (fun _ => 0))), (a 84, .inl ((k 84), 7, .inl (fun _ => 0))), (o0, .inl (ko, 1, .inr (.inl (fun _ => 0)))), (h0, .inr (15, mF q 0)), (q 70, .inl ((cm 70), 7, .inl (fun _ => 0))), (q 71, .inl ((cm 71), 7, .inl (fun _ => 0))), (q 72, .inl ((cm 72), 7, .inl (fun _ => 0))), (q 73, .inl ((cm 73), 7, .inl (fun _ => 0)))]) (hS : va_S A s.heap H locs) (ls : Array Slot) (hl : lv_has ls 7 [(0, .ref b), (1, .ref (a 0)), (2, .ref h0), (3, .ref o0), (4, .int 0)]) : W p l e room_1 s m #[Value.ref b] below meth c H locs 238 27427 (lw_Z below #[Value.ref b] s) (F0 m 3377 ls []) := by
  refine lv_aload_n hx hb dL_law_3377 rfl (lv_at hl 1 rfl) ?_
  refine lv_aload_n hx hb dL_law_3378 rfl (lv_at hl 0 rfl) ?_
  refine lv_iload hx hb dL_law_3379 (lv_at hl 4 rfl) ?_
  refine lv_iconst (v := 1) hx hb dL_law_3381 (by decide) ?_
  refine lv_iadd hx hb dL_law_3382 ?_
  refine lv_topi (fun x1 ex1 => ?_)
  obtain rfl : x1 = 1 := ex1.trans (by decide)
  refine va_sld hx hb hX hbl hbA hS (i := 1) (by unfold vp_in; decide) dL_law_3383 ?_
  refine lv_topi (fun x2 ex2 => ?_)
  obtain rfl : xs 1 = x2 := (ex2).symm
  refine lv_aload_n hx hb dL_law_3384 rfl (lv_at hl 0 rfl) ?_
  refine lv_iload hx hb dL_law_3385 (lv_at hl 4 rfl) ?_
  refine lv_iconst (v := 2) hx hb dL_law_3387 (by decide) ?_
  refine lv_iadd hx hb dL_law_3388 ?_
  refine lv_topi (fun x3 ex3 => ?_)
  obtain rfl : x3 = 2 := ex3.trans (by decide)
  refine va_sld hx hb hX hbl hbA hS (i := 2) (by unfold vp_in; decide) dL_law_3389 ?_
  refine lv_topi (fun x4 ex4 => ?_)
  obtain rfl : xs 2 = x4 := (ex4).symm
  refine lv_aload_n hx hb dL_law_3390 rfl (lv_at hl 0 rfl) ?_
  refine lv_iload hx hb dL_law_3391 (lv_at hl 4 rfl) ?_
  refine lv_iconst (v := 3) hx hb dL_law_3393 (by decide) ?_
  refine lv_iadd hx hb dL_law_3394 ?_
  refine lv_topi (fun x5 ex5 => ?_)
  obtain rfl : x5 = 3 := ex5.trans (by decide)
  refine va_sld hx hb hX hbl hbA hS (i := 3) (by unfold vp_in; decide) dL_law_3395 ?_
  refine lv_topi (fun x6 ex6 => ?_)
  obtain rfl : xs 3 = x6 := (ex6).symm
  refine lv_aload_n hx hb dL_law_3396 rfl (lv_at hl 0 rfl) ?_
  refine lv_iload hx hb dL_law_3397 (lv_at hl 4 rfl) ?_
  refine lv_iconst (v := 4) hx hb dL_law_3399 (by decide) ?_
  refine lv_iadd hx hb dL_law_3400 ?_
  refine lv_topi (fun x7 ex7 => ?_)
  obtain rfl : x7 = 4 := ex7.trans (by decide)
  refine va_sld hx hb hX hbl hbA hS (i := 4) (by unfold vp_in; decide) dL_law_3401 ?_
  refine lv_topi (fun x8 ex8 => ?_)
  obtain rfl : xs 4 = x8 := (ex8).symm
  refine lv_aload_n hx hb dL_law_3402 rfl (lv_at hl 3 rfl) ?_
  have hPc := hP.sub (ws' := [(a 0, .inr (14, [.ref (a 1), .ref (a 2), .ref (a 27), .ref (a 30), .ref (a 74), .ref (a 75), .null, .int 0, .int 0])), (a 75, .inr (8, [.ref (a 76), .ref (a 77), .ref (a 78), .ref (a 79), .ref (a 80), .ref (a 81), .ref (a 82), .ref (a 83), .ref (a 84), .ref (a 85), .ref (a 86), .ref (a 87), .int 0, .int 0, .int 0, .int 0, .int 0])), (a 81, .inl ((k 81), 7, .inl (fun _ => 0))), (a 82, .inl ((k 82), 7, .inl (fun _ => 0))), (a 83, .inl ((k 83), 7, .inl (fun _ => 0))), (a 84, .inl ((k 84), 7, .inl (fun _ => 0))), (o0, .inl (ko, 1, .inr (.inl (fun _ => 0))))]) [0, 1, 2, 3, 4, 5, 6] rfl
  have hDc := hD.sub (ws' := [(a 0, .inr (14, [.ref (a 1), .ref (a 2), .ref (a 27), .ref (a 30), .ref (a 74), .ref (a 75), .null, .int 0, .int 0])), (a 75, .inr (8, [.ref (a 76), .ref (a 77), .ref (a 78), .ref (a 79), .ref (a 80), .ref (a 81), .ref (a 82), .ref (a 83), .ref (a 84), .ref (a 85), .ref (a 86), .ref (a 87), .int 0, .int 0, .int 0, .int 0, .int 0])), (a 81, .inl ((k 81), 7, .inl (fun _ => 0))), (a 82, .inl ((k 82), 7, .inl (fun _ => 0))), (a 83, .inl ((k 83), 7, .inl (fun _ => 0))), (a 84, .inl ((k 84), 7, .inl (fun _ => 0))), (o0, .inl (ko, 1, .inr (.inl (fun _ => 0))))]) [0, 1, 2, 3, 4, 5, 6] (by decide) rfl
  have hKc := hK.sub (tys' := [((k 81), .int), ((k 82), .int), ((k 83), .int), ((k 84), .int), (ko, .long)]) [0, 1, 2, 3, 4] rfl
  have hFc := va_free (wc := [(a 0, .inr (14, [.ref (a 1), .ref (a 2), .ref (a 27), .ref (a 30), .ref (a 74), .ref (a 75), .null, .int 0, .int 0])), (a 75, .inr (8, [.ref (a 76), .ref (a 77), .ref (a 78), .ref (a 79), .ref (a 80), .ref (a 81), .ref (a 82), .ref (a 83), .ref (a 84), .ref (a 85), .ref (a 86), .ref (a 87), .int 0, .int 0, .int 0, .int 0, .int 0])), (a 81, .inl ((k 81), 7, .inl (fun _ => 0))), (a 82, .inl ((k 82), 7, .inl (fun _ => 0))), (a 83, .inl ((k 83), 7, .inl (fun _ => 0))), (a 84, .inl ((k 84), 7, .inl (fun _ => 0))), (o0, .inl (ko, 1, .inr (.inl (fun _ => 0))))]) hD hS hA [0, 1, 2, 3, 4, 5, 6] rfl
  refine va_calli (vx_runSW (As := [.ref (a 0), .int (xs 1), .int (xs 2), .int (xs 3), .int (xs 4), .ref o0]) (rest := []) ⟨hx, hb, hml, hown, hts⟩ (l_job l hlt dC dI a k o0 ko (fun _ => 0) (xs 1) (xs 2) (xs 3) (xs 4) H.size ) (vx_cwSW 6 hts (goodIn_app (goodIn_r _ [29, 30, 31] (by decide +kernel) (by decide +kernel)) (goodIn_ca (goodIn_r _ [1, 2, 3, 4, 5, 6, 7, 8, 9, 10, 11, 12, 13, 14, 15, 16, 17, 18, 19, 20, 21, 22, 23, 24, 25, 26, 27, 28] (by decide +kernel) (by decide +kernel)) (bs_in _ _))) rfl rfl rfl (by decide +kernel) ⟨(Nat.le_of_ble_eq_true rfl), (Nat.le_of_ble_eq_true rfl)⟩) ⟨fun a U g mk q => by obtain ⟨q0, q1, qP, qK, qD, qE, qN⟩ := q; exact ⟨q0, q1, qP, va_K.moved (u := U) (U := U.calling g mk a) (Vm.Alike.refl U.vm) qK, qD, EV.blind g mk a qE, NC.blind g mk a qN⟩, fun U hU hW => ⟨rfl, by rw [hU], by rw [hU]; exact hPc, va_K.moved hW.alike hKc, hDc.weaken (fun _ _ _ _ => trivial), hE.call hS hFc hU hW, hN.call hW⟩⟩ rfl rfl hl.1 rfl (lv_room (Nat.le_of_ble_eq_true rfl)) dL_law_3403 ⟨(Nat.le_of_ble_eq_true rfl), (Nat.le_of_ble_eq_true rfl)⟩) hS (fun q _ h => hFc q h) hFc (fun r10 u t H1 locs ht hvm hw11 hB hz1 hk1 hS => ?_)
  obtain ⟨fu12, rfl⟩ : ∃ z, z = u := ⟨_, rfl⟩
  obtain ⟨hP1, hD1⟩ := hB
  rw [ht] at hP1
  obtain ⟨hP, hD⟩ := va_join (wr := [(h0, .inr (15, mF q 0)), (q 70, .inl ((cm 70), 7, .inl (fun _ => 0))), (q 71, .inl ((cm 71), 7, .inl (fun _ => 0))), (q 72, .inl ((cm 72), 7, .inl (fun _ => 0))), (q 73, .inl ((cm 73), 7, .inl (fun _ => 0)))]) (w1 := [(o0, .inl (ko, 1, .inr (.inl fu12)))]) hP hD [0, 1, 2, 3, 4, 5, 6] [7, 8, 9, 10, 11] rfl rfl (by decide) (by decide) hk1 hFc hP1 hD1
  generalize H1 = H at hP hS ⊢
  have hP : va_P (dC, dI) vwCl [(h0, .inr (15, mF q 0)), (q 70, .inl ((cm 70), 7, .inl (fun _ => 0))), (q 71, .inl ((cm 71), 7, .inl (fun _ => 0))), (q 72, .inl ((cm 72), 7, .inl (fun _ => 0))), (q 73, .inl ((cm 73), 7, .inl (fun _ => 0))), (o0, .inl (ko, 1, .inr (.inl fu12)))] H := hP
  have hD : va_D A [(h0, .inr (15, mF q 0)), (q 70, .inl ((cm 70), 7, .inl (fun _ => 0))), (q 71, .inl ((cm 71), 7, .inl (fun _ => 0))), (q 72, .inl ((cm 72), 7, .inl (fun _ => 0))), (q 73, .inl ((cm 73), 7, .inl (fun _ => 0))), (o0, .inl (ko, 1, .inr (.inl fu12)))] := hD
  try dsimp only at hw11
  obtain rfl : (T_job (xs 1) (xs 2) (xs 3) (xs 4)).1 = r10 := hw11.1.symm
  refine lv_istore (lv' := [(5, .int ((T_job (xs 1) (xs 2) (xs 3) (xs 4)).1)), (0, .ref b), (1, .ref (a 0)), (2, .ref h0), (3, .ref o0), (4, .int 0)]) hx hb dL_law_3406 hl (by decide) rfl (fun ls hl => ?_)
  refine lv_aload_n hx hb dL_law_3408 rfl (lv_at hl 3 rfl) ?_
  refine lv_aload_n hx hb dL_law_3409 rfl (lv_at hl 1 rfl) ?_
  refine lv_iload hx hb dL_law_3410 (lv_at hl 5 rfl) ?_
  refine lv_iconst (v := 1) hx hb dL_law_3412 (by decide) ?_
  refine lv_iadd hx hb dL_law_3413 ?_
  refine lv_topi (fun x13 ex13 => ?_)
  obtain rfl : x13 = 1 := ex13.trans (by decide)
  refine va_sld hx hb hX hbl hbA hS (i := 1) (by unfold vp_in; decide) dL_law_3414 ?_
  refine lv_topi (fun x14 ex14 => ?_)
  obtain rfl : xs 1 = x14 := (ex14).symm
  refine lv_aload_n hx hb dL_law_3415 rfl (lv_at hl 1 rfl) ?_
  refine lv_iload hx hb dL_law_3416 (lv_at hl 5 rfl) ?_
  refine lv_iconst (v := 2) hx hb dL_law_3418 (by decide) ?_
  refine lv_iadd hx hb dL_law_3419 ?_
  refine lv_topi (fun x15 ex15 => ?_)
  obtain rfl : x15 = 2 := ex15.trans (by decide)
  refine va_sld hx hb hX hbl hbA hS (i := 2) (by unfold vp_in; decide) dL_law_3420 ?_
  refine lv_topi (fun x16 ex16 => ?_)
  obtain rfl : xs 2 = x16 := (ex16).symm
  refine lv_aload_n hx hb dL_law_3421 rfl (lv_at hl 1 rfl) ?_
  refine lv_iload hx hb dL_law_3422 (lv_at hl 5 rfl) ?_
  refine lv_iconst (v := 3) hx hb dL_law_3424 (by decide) ?_
  refine lv_iadd hx hb dL_law_3425 ?_
  refine lv_topi (fun x17 ex17 => ?_)
  obtain rfl : x17 = 3 := ex17.trans (by decide)
  refine va_sld hx hb hX hbl hbA hS (i := 3) (by unfold vp_in; decide) dL_law_3426 ?_
  refine lv_topi (fun x18 ex18 => ?_)
  obtain rfl : xs 3 = x18 := (ex18).symm
  refine lv_aload_n hx hb dL_law_3427 rfl (lv_at hl 1 rfl) ?_
  refine lv_iload hx hb dL_law_3428 (lv_at hl 5 rfl) ?_
  refine lv_iconst (v := 4) hx hb dL_law_3430 (by decide) ?_
  refine lv_iadd hx hb dL_law_3431 ?_
  refine lv_topi (fun x19 ex19 => ?_)
  obtain rfl : x19 = 4 := ex19.trans (by decide)
  refine va_sld hx hb hX hbl hbA hS (i := 4) (by unfold vp_in; decide) dL_law_3432 ?_
  refine lv_topi (fun x20 ex20 => ?_)
  obtain rfl : xs 4 = x20 := (ex20).symm
  have hPc := hP.sub (ws' := [(h0, .inr (15, mF q 0)), (q 70, .inl ((cm 70), 7, .inl (fun _ => 0))), (q 71, .inl ((cm 71), 7, .inl (fun _ => 0))), (q 72, .inl ((cm 72), 7, .inl (fun _ => 0))), (q 73, .inl ((cm 73), 7, .inl (fun _ => 0)))]) [0, 1, 2, 3, 4] rfl
  have hDc := hD.sub (ws' := [(h0, .inr (15, mF q 0)), (q 70, .inl ((cm 70), 7, .inl (fun _ => 0))), (q 71, .inl ((cm 71), 7, .inl (fun _ => 0))), (q 72, .inl ((cm 72), 7, .inl (fun _ => 0))), (q 73, .inl ((cm 73), 7, .inl (fun _ => 0)))]) [0, 1, 2, 3, 4] (by decide) rfl
  have hKc := hK.sub (tys' := [((cm 70), .int), ((cm 71), .int), ((cm 72), .int), ((cm 73), .int)]) [5, 6, 7, 8] rfl
  have hFc := va_free (wc := [(h0, .inr (15, mF q 0)), (q 70, .inl ((cm 70), 7, .inl (fun _ => 0))), (q 71, .inl ((cm 71), 7, .inl (fun _ => 0))), (q 72, .inl ((cm 72), 7, .inl (fun _ => 0))), (q 73, .inl ((cm 73), 7, .inl (fun _ => 0)))]) hD hS hA [0, 1, 2, 3, 4] rfl
  refine va_calli (va_runV (As := [.int (xs 1), .int (xs 2), .int (xs 3), .int (xs 4)]) (rest := []) ⟨hx, hb, hml, hown, hts⟩ (m_job l dC dI h0 q cm (xs 1) (xs 2) (xs 3) (xs 4) H.size ) (cwV 4 hts (goodIn_app (goodIn_r _ [49, 50, 51, 38] (by decide +kernel) (by decide +kernel)) (goodIn_ca (goodIn_r _ [32, 33, 34, 35, 36, 37, 38, 39, 40, 41, 42, 43, 44, 45, 46, 47, 48] (by decide +kernel) (by decide +kernel)) (bs_in _ _))) rfl rfl rfl (by decide +kernel) ⟨(Nat.le_of_ble_eq_true rfl), (Nat.le_of_ble_eq_true rfl)⟩) ⟨fun a U g mk q => by obtain ⟨q0, q1, qP, qK, qD⟩ := q; exact ⟨q0, q1, qP, va_K.moved (u := U) (U := U.calling g mk a) (Vm.Alike.refl U.vm) qK, qD⟩, va_recv hKc hPc (ci := 15) (q0 := 0) rfl rfl, fun U hU hW => ⟨rfl, by rw [hU], by rw [hU]; exact hPc, va_K.moved hW.alike hKc, hDc.weaken (fun _ _ _ _ => trivial)⟩⟩ rfl rfl hl.1 rfl (lv_room (Nat.le_of_ble_eq_true rfl)) dL_law_3433 ⟨(Nat.le_of_ble_eq_true rfl), (Nat.le_of_ble_eq_true rfl)⟩) hS (fun q _ h => hFc q h) hFc (fun r22 u t H1 locs ht hvm hw23 hB hz1 hk1 hS => ?_)
  obtain ⟨fs24, rfl⟩ : ∃ z, z = u := ⟨_, rfl⟩
  obtain ⟨hP1, hD1⟩ := hB
  rw [ht] at hP1
  obtain ⟨hP, hD⟩ := va_join (wr := [(o0, .inl (ko, 1, .inr (.inl fu12)))]) (w1 := [(h0, .inr (15, fs24))]) hP hD [0, 1, 2, 3, 4] [5] rfl rfl (by decide) (by decide) hk1 hFc hP1 hD1
  generalize H1 = H at hP hS ⊢
  have hP : va_P (dC, dI) vwCl [(o0, .inl (ko, 1, .inr (.inl fu12))), (h0, .inr (15, fs24))] H := hP
  have hD : va_D A [(o0, .inl (ko, 1, .inr (.inl fu12))), (h0, .inr (15, fs24))] := hD
  try dsimp only at hw23
  refine lv_istore (lv' := [(6, .int r22), (5, .int ((T_job (xs 1) (xs 2) (xs 3) (xs 4)).1)), (0, .ref b), (1, .ref (a 0)), (2, .ref h0), (3, .ref o0), (4, .int 0)]) hx hb dL_law_3436 hl (by decide) rfl (fun ls hl => ?_)
  refine lv_aload_n hx hb dL_law_3438 rfl (lv_at hl 4 rfl) ?_
  have hPc := hP.sub (ws' := [(h0, .inr (15, fs24))]) [1] rfl
  have hDc := hD.sub (ws' := [(h0, .inr (15, fs24))]) [1] (by decide) rfl
  have hKc := hK.sub (tys' := []) [] rfl
  have hFc := va_free (wc := [(h0, .inr (15, fs24))]) hD hS hA [1] rfl
  refine va_calli (va_runV (As := []) (rest := []) ⟨hx, hb, hml, hown, hts⟩ (m_thrown l dC dI h0 fs24 ((T_job (xs 1) (xs 2) (xs 3) (xs 4)).1) H.size hw23.1) (cwV 0 hts (goodIn_app (goodIn_r _ [53, 54, 55, 38] (by decide +kernel) (by decide +kernel)) (goodIn_ca (goodIn_r _ [52, 33] (by decide +kernel) (by decide +kernel)) (bs_in _ _))) rfl rfl rfl (by decide +kernel) ⟨(Nat.le_of_ble_eq_true rfl), (Nat.le_of_ble_eq_true rfl)⟩) ⟨fun a U g mk q => by obtain ⟨q0, q1, qP, qK, qD⟩ := q; exact ⟨q0, q1, qP, va_K.moved (u := U) (U := U.calling g mk a) (Vm.Alike.refl U.vm) qK, qD⟩, va_recv hKc hPc (ci := 15) (q0 := 0) rfl rfl, fun U hU hW => ⟨rfl, by rw [hU], by rw [hU]; exact hPc, va_K.moved hW.alike hKc, hDc.weaken (fun _ _ _ _ => trivial)⟩⟩ rfl rfl hl.1 rfl (lv_room (Nat.le_of_ble_eq_true rfl)) dL_law_3439 ⟨(Nat.le_of_ble_eq_true rfl), (Nat.le_of_ble_eq_true rfl)⟩) hS (fun q _ h => hFc q h) hFc (fun r26 u t H1 locs ht hvm hw27 hB hz1 hk1 hS => ?_)
  have hP1 : va_P (dC, dI) vwCl [] H1 := nilP
  have hD1 : va_D (va_A [(h0, .inr (15, fs24))] H.size) [] := nilD
  have hK := hK
  obtain ⟨hP, hD⟩ := va_join (wr := [(o0, .inl (ko, 1, .inr (.inl fu12)))]) (w1 := []) hP hD [1] [0] rfl rfl (by decide) (by decide) hk1 hFc hP1 hD1
  generalize H1 = H at hP hS ⊢
  have hP : va_P (dC, dI) vwCl [(o0, .inl (ko, 1, .inr (.inl fu12)))] H := hP
  have hD : va_D A [(o0, .inl (ko, 1, .inr (.inl fu12)))] := hD
  try dsimp only at hw27
  obtain rfl : (T_job (xs 1) (xs 2) (xs 3) (xs 4)).1 = r26 := hw27.symm
  refine lv_iload hx hb dL_law_3442 (lv_at hl 1 rfl) ?_
  refine lv_icmp_eq (tgt := 3449) hx hb dL_law_3444 (by decide) (fun c28 => ?_) (fun c28 => absurd rfl c28)
  refine lv_iload hx hb dL_law_3449 (lv_at hl 1 rfl) ?_
  refine lv_if_ne (tgt := 3466) hx hb dL_law_3451 (by decide) (fun c29 => ?_) (fun c29 => ?_)
  · refine lv_goto (tgt := 3762) hx hb dL_law_3466 (by decide) ?_
    exact law_tail hx hb hr hlocks hX hbl hbA hAi hS (Nat.le_of_ble_eq_true rfl) (Nat.le_of_ble_eq_true rfl) ls (lv_sub hl [2, 6] rfl)
  · refine lv_aload_n hx hb dL_law_3454 rfl (lv_at hl 5 rfl) ?_
    refine lv_iconst (v := 0) hx hb dL_law_3455 (by decide) ?_
    refine va_lald hx hb hK hP 0 4 rfl rfl (by unfold vp_in; decide) dL_law_3456 ?_
    refine lv_iload hx hb dL_law_3457 (lv_at hl 0 rfl) ?_
    refine lv_i2l (v := r22.toInt64) hx hb dL_law_3459 rfl ?_
    refine W.lcmp hx hb dL_law_3460 ?_
    refine lv_topi (fun x30 ex30 => ?_)
    obtain rfl : x30 = 0 := ex30.trans (by rw [show fu12 (0 : Int32).toNatClampNeg = (T_job (xs 1) (xs 2) (xs 3) (xs 4)).2.toInt64 from hw11.2 c29, hw23.2 c29]; exact lg_cmp_self _)
    refine lv_if_eq (tgt := 3466) hx hb dL_law_3461 (by decide) (fun c31 => ?_) (fun c31 => absurd c31 (by decide))
    refine lv_goto (tgt := 3762) hx hb dL_law_3466 (by decide) ?_
    exact law_tail hx hb hr hlocks hX hbl hbA hAi hS (Nat.le_of_ble_eq_true rfl) (Nat.le_of_ble_eq_true rfl) ls (lv_sub hl [2, 6] rfl)
