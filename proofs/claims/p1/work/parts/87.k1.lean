def w_law_8 : List Cond := .initialized RL :: ([.codeWith yL_dike cL_dike 7 (some .int) [(0, 14, 17, 13), (0, 14, 21, 15), (0, 14, 25, 45)], .code yX11_dike cX11_dike 5 (some .int), .code yX11_needSquare cX11_needSquare 1 none, .code yX11_within cX11_within 3 (some .boolean), .methodLink RX11 58 yX11_within, .static yX11_within, .initialized RX11, .classLink RX11 557 "java/lang/IndexOutOfBoundsException", .initialized "java/lang/IndexOutOfBoundsException", .methodLink RX11 55 yX11_needSquare, .static yX11_needSquare, .code yX11_needNumbers cX11_needNumbers 1 none, .methodLink RX11 62 yX11_needNumbers, .static yX11_needNumbers, .code yX11_needRoomForWork cX11_needRoomForWork 1 none, .fieldLink RX11 16 "SeaLand" "lake" "LSeaLand$Lake;", .methodLink RX11 149 yX11_needRoomForWork, .instanceMethod yX11_needRoomForWork, .selects RX11 yX11_needRoomForWork yX11_needRoomForWork, .code yX3_isFreeLand cX3_isFreeLand 2 (some .boolean), .fieldLink RX3 21 "SeaLand$Lake" "ground" "LSeaLand$Ground;", .methodLink RX11 152 yX3_isFreeLand, .instanceMethod yX3_isFreeLand, .selects RX3 yX3_isFreeLand yX3_isFreeLand, .initialized RX3, .classLink RX11 547 "java/lang/IllegalArgumentException", .initialized "java/lang/IllegalArgumentException", .methodLink RL 41 yX11_dike, .instanceMethod yX11_dike, .selects RX11 yX11_dike yX11_dike, .classLink RL 13 "java/lang/IndexOutOfBoundsException", .classLink RL 15 "java/lang/IllegalArgumentException", .methodLink RL 209 yL_dike, .static yL_dike, .initialized RL, .code yX12_dike cX12_dike 5 (some .int), .fieldLink RX12 194 "SeaLandModel" "thrown" "I", .code yX12_noSquare cX12_noSquare 1 (some .boolean), .code yX12_in cX12_in 3 (some .boolean), .methodLink RX12 197 yX12_in, .static yX12_in, .initialized RX12, .methodLink RX12 220 yX12_noSquare, .static yX12_noSquare, .code yX12_throwsIf cX12_throwsIf 3 (some .boolean), .methodLink RX12 224 yX12_throwsIf, .instanceMethod yX12_throwsIf, .selects RX12 yX12_throwsIf yX12_throwsIf, .fieldLink RX12 9 "SeaLandModel" "world" "[I", .code yX12_noPlace cX12_noPlace 2 (some .boolean), .code yX12_isLand cX12_isLand 2 (some .boolean), .methodLink RX12 235 yX12_isLand, .instanceMethod yX12_isLand, .selects RX12 yX12_isLand yX12_isLand, .methodLink RX12 259 yX12_noPlace, .instanceMethod yX12_noPlace, .selects RX12 yX12_noPlace yX12_noPlace, .methodLink RL 212 yX12_dike, .instanceMethod yX12_dike, .selects RX12 yX12_dike yX12_dike, .code yX12_thrown cX12_thrown 1 (some .int), .methodLink RL 187 yX12_thrown, .instanceMethod yX12_thrown, .selects RX12 yX12_thrown yX12_thrown] ++ bs)
set_option maxRecDepth 100000 in
theorem wm_8 : ∀ w ∈ w_law_8, w ∈ lw_tbl := lw_ins (List.mem_of_getElem? (i := 110) (by decide +kernel)) (lw_in _ (1063 :: 1068 :: 899 :: 902 :: 900 :: 901 :: 111 :: 903 :: 126 :: 897 :: 898 :: 918 :: 916 :: 917 :: 1072 :: 589 :: 1069 :: 1071 :: 7 :: 1092 :: 347 :: 1089 :: 1090 :: 1091 :: 112 :: 919 :: 129 :: 1065 :: 1066 :: 1067 :: 811 :: 891 :: 1061 :: 1062 :: 110 :: 2276 :: 1969 :: 2214 :: 2217 :: 2215 :: 2216 :: 122 :: 2212 :: 2213 :: 2221 :: 2218 :: 2220 :: 44 :: 1970 :: 2280 :: 2234 :: 2231 :: 2233 :: 46 :: 2277 :: 2279 :: 51 :: 2273 :: 2274 :: 2275 :: 2207 :: 2204 :: 2205 :: 2206 :: []) (by decide +kernel))
set_option maxHeartbeats 4000000 in
set_option maxRecDepth 100000 in
/-- dike -/
theorem law_8 {p : Program} {e : Env} {s : State} {m : MethodId} {below : List Frame} {meth : Method} {c : Code} (l : Launch) (hlt : l.stackTraces = false) {b : Nat} {xs : Nat → Int32} {A : Nat → Prop} (hx : p.tables.exec = Jvm.exec) (hb : c.code = code) (hr : meth.sig.returnType = ret) (hml : c.maxLocals = 7) (hown : s.vm.findClass RL = some m.cls) (hts : ∀ w ∈ w_law_8, w.before #[Value.ref b] s = true) (hX : va_X b 8 xs s s.heap) (hbl : b < s.heap.size) (hbA : ¬ A b) (hlocks : meth.locks = false) (hE : EV A s s.heap) (hN : NC s) (hA : ∀ q : Nat, s.heap.size ≤ q → A q) (hAi : ∀ q : Nat, A q → s.heap.size ≤ q) {dC : Nat → ClassId} {dI : Nat → Nat → Nat} (a : Nat → Nat) (k : Nat → ClassId) (h0 : Nat) (q : Nat → Nat) (cm : Nat → ClassId) (o0 : Nat) (ko : ClassId) (H : Heap) (locs : List Loc) (hK : va_K (dC, dI) vwCl [((k 15), .boolean), (ko, .long), ((cm 1), .int)] s) (hP : va_P (dC, dI) vwCl [(a 0, .inr (14, [.ref (a 1), .ref (a 2), .ref (a 27), .ref (a 30), .ref (a 74), .ref (a 75), .null, .int 0, .int 0])), (a 2, .inr (6, [.ref (a 3), .ref (a 14), .ref (a 26), .int 0, .int 0])), (a 14, .inr (5, [.ref (a 15), .ref (a 16), .ref (a 17), .ref (a 18), .ref (a 19), .ref (a 20), .ref (a 21), .ref (a 22), .ref (a 23), .ref (a 24), .ref (a 25), .int 0, .int 0, .int 0, .int 0])), (a 15, .inl ((k 15), 96, .inl (fun _ => 0))), (o0, .inl (ko, 1, .inr (.inl (fun _ => 0)))), (h0, .inr (15, mF q 0)), (q 1, .inl ((cm 1), 1749, .inl (fun _ => 0)))] H) (hD : va_D A [(a 0, .inr (14, [.ref (a 1), .ref (a 2), .ref (a 27), .ref (a 30), .ref (a 74), .ref (a 75), .null, .int 0, .int 0])), (a 2, .inr (6, [.ref (a 3), .ref (a 14), .ref (a 26), .int 0, .int 0])), (a 14, .inr (5, [.ref (a 15), .ref (a 16), .ref (a 17), .ref (a 18), .ref (a 19), .ref (a 20), .ref (a 21), .ref (a 22), .ref (a 23), .ref (a 24), .ref (a 25), .int 0, .int 0, .int 0, .int 0])), (a 15, .inl ((k 15), 96, .inl (fun _ => 0))), (o0, .inl (ko, 1, .inr (.inl (fun _ => 0)))), (h0, .inr (15, mF q 0)), (q 1, .inl ((cm 1), 1749, .inl (fun _ => 0)))]) (hS : va_S A s.heap H locs) (ls : Array Slot) (hl : lv_has ls 7 [(0, .ref b), (1, .ref (a 0)), (2, .ref h0), (3, .ref o0), (4, .int 0)]) : W p l e room_1 s m #[Value.ref b] below meth c H locs 238 27427 (lw_Z below #[Value.ref b] s) (F0 m 853 ls []) := by
  refine lv_aload_n hx hb dL_law_853 rfl (lv_at hl 1 rfl) ?_
  refine lv_aload_n hx hb dL_law_854 rfl (lv_at hl 0 rfl) ?_
  refine lv_iload hx hb dL_law_855 (lv_at hl 4 rfl) ?_
  refine lv_iconst (v := 1) hx hb dL_law_857 (by decide) ?_
  refine lv_iadd hx hb dL_law_858 ?_
  refine lv_topi (fun x1 ex1 => ?_)
  obtain rfl : x1 = 1 := ex1.trans (by decide)
  refine va_sld hx hb hX hbl hbA hS (i := 1) (by unfold vp_in; decide) dL_law_859 ?_
  refine lv_topi (fun x2 ex2 => ?_)
  obtain rfl : xs 1 = x2 := (ex2).symm
  refine lv_aload_n hx hb dL_law_860 rfl (lv_at hl 0 rfl) ?_
  refine lv_iload hx hb dL_law_861 (lv_at hl 4 rfl) ?_
  refine lv_iconst (v := 2) hx hb dL_law_863 (by decide) ?_
  refine lv_iadd hx hb dL_law_864 ?_
  refine lv_topi (fun x3 ex3 => ?_)
  obtain rfl : x3 = 2 := ex3.trans (by decide)
  refine va_sld hx hb hX hbl hbA hS (i := 2) (by unfold vp_in; decide) dL_law_865 ?_
  refine lv_topi (fun x4 ex4 => ?_)
  obtain rfl : xs 2 = x4 := (ex4).symm
  refine lv_aload_n hx hb dL_law_866 rfl (lv_at hl 0 rfl) ?_
  refine lv_iload hx hb dL_law_867 (lv_at hl 4 rfl) ?_
  refine lv_iconst (v := 3) hx hb dL_law_869 (by decide) ?_
  refine lv_iadd hx hb dL_law_870 ?_
  refine lv_topi (fun x5 ex5 => ?_)
  obtain rfl : x5 = 3 := ex5.trans (by decide)
  refine va_sld hx hb hX hbl hbA hS (i := 3) (by unfold vp_in; decide) dL_law_871 ?_
  refine lv_topi (fun x6 ex6 => ?_)
  obtain rfl : xs 3 = x6 := (ex6).symm
  refine lv_aload_n hx hb dL_law_872 rfl (lv_at hl 0 rfl) ?_
  refine lv_iload hx hb dL_law_873 (lv_at hl 4 rfl) ?_
  refine lv_iconst (v := 4) hx hb dL_law_875 (by decide) ?_
  refine lv_iadd hx hb dL_law_876 ?_
  refine lv_topi (fun x7 ex7 => ?_)
  obtain rfl : x7 = 4 := ex7.trans (by decide)
  refine va_sld hx hb hX hbl hbA hS (i := 4) (by unfold vp_in; decide) dL_law_877 ?_
  refine lv_topi (fun x8 ex8 => ?_)
  obtain rfl : xs 4 = x8 := (ex8).symm
  refine lv_aload_n hx hb dL_law_878 rfl (lv_at hl 3 rfl) ?_
  have hPc := hP.sub (ws' := [(a 0, .inr (14, [.ref (a 1), .ref (a 2), .ref (a 27), .ref (a 30), .ref (a 74), .ref (a 75), .null, .int 0, .int 0])), (a 2, .inr (6, [.ref (a 3), .ref (a 14), .ref (a 26), .int 0, .int 0])), (a 14, .inr (5, [.ref (a 15), .ref (a 16), .ref (a 17), .ref (a 18), .ref (a 19), .ref (a 20), .ref (a 21), .ref (a 22), .ref (a 23), .ref (a 24), .ref (a 25), .int 0, .int 0, .int 0, .int 0])), (a 15, .inl ((k 15), 96, .inl (fun _ => 0))), (o0, .inl (ko, 1, .inr (.inl (fun _ => 0))))]) [0, 1, 2, 3, 4] rfl
  have hDc := hD.sub (ws' := [(a 0, .inr (14, [.ref (a 1), .ref (a 2), .ref (a 27), .ref (a 30), .ref (a 74), .ref (a 75), .null, .int 0, .int 0])), (a 2, .inr (6, [.ref (a 3), .ref (a 14), .ref (a 26), .int 0, .int 0])), (a 14, .inr (5, [.ref (a 15), .ref (a 16), .ref (a 17), .ref (a 18), .ref (a 19), .ref (a 20), .ref (a 21), .ref (a 22), .ref (a 23), .ref (a 24), .ref (a 25), .int 0, .int 0, .int 0, .int 0])), (a 15, .inl ((k 15), 96, .inl (fun _ => 0))), (o0, .inl (ko, 1, .inr (.inl (fun _ => 0))))]) [0, 1, 2, 3, 4] (by decide) rfl
  have hKc := hK.sub (tys' := [((k 15), .boolean), (ko, .long)]) [0, 1] rfl
  have hFc := va_free (wc := [(a 0, .inr (14, [.ref (a 1), .ref (a 2), .ref (a 27), .ref (a 30), .ref (a 74), .ref (a 75), .null, .int 0, .int 0])), (a 2, .inr (6, [.ref (a 3), .ref (a 14), .ref (a 26), .int 0, .int 0])), (a 14, .inr (5, [.ref (a 15), .ref (a 16), .ref (a 17), .ref (a 18), .ref (a 19), .ref (a 20), .ref (a 21), .ref (a 22), .ref (a 23), .ref (a 24), .ref (a 25), .int 0, .int 0, .int 0, .int 0])), (a 15, .inl ((k 15), 96, .inl (fun _ => 0))), (o0, .inl (ko, 1, .inr (.inl (fun _ => 0))))]) hD hS hA [0, 1, 2, 3, 4] rfl
  refine va_calli (vx_runSW (As := [.ref (a 0), .int (xs 1), .int (xs 2), .int (xs 3), .int (xs 4), .ref o0]) (rest := []) ⟨hx, hb, hml, hown, hts⟩ (l_dike l hlt dC dI a k o0 ko (fun _ => 0) (xs 1) (xs 2) (xs 3) (xs 4) H.size ) (vx_cwSW 6 hts (goodIn_app (goodIn_r _ [33, 34, 35] (by decide +kernel) (by decide +kernel)) (goodIn_ca (goodIn_r _ [1, 2, 3, 4, 5, 6, 7, 8, 9, 10, 11, 12, 13, 14, 15, 16, 17, 18, 19, 20, 21, 22, 23, 24, 25, 26, 27, 28, 29, 30, 31, 32] (by decide +kernel) (by decide +kernel)) (bs_in _ _))) rfl rfl rfl (by decide +kernel) ⟨(Nat.le_of_ble_eq_true rfl), (Nat.le_of_ble_eq_true rfl)⟩) ⟨fun a U g mk q => by obtain ⟨q0, q1, qP, qK, qD, qE, qN⟩ := q; exact ⟨q0, q1, qP, va_K.moved (u := U) (U := U.calling g mk a) (Vm.Alike.refl U.vm) qK, qD, EV.blind g mk a qE, NC.blind g mk a qN⟩, fun U hU hW => ⟨rfl, by rw [hU], by rw [hU]; exact hPc, va_K.moved hW.alike hKc, hDc.weaken (fun _ _ _ _ => trivial), hE.call hS hFc hU hW, hN.call hW⟩⟩ rfl rfl hl.1 rfl (lv_room (Nat.le_of_ble_eq_true rfl)) dL_law_879 ⟨(Nat.le_of_ble_eq_true rfl), (Nat.le_of_ble_eq_true rfl)⟩) hS (fun q _ h => hFc q h) hFc (fun r10 u t H1 locs ht hvm hw11 hB hz1 hk1 hS => ?_)
  obtain ⟨fu12, rfl⟩ : ∃ z, z = u := ⟨_, rfl⟩
  obtain ⟨hP1, hD1⟩ := hB
  rw [ht] at hP1
  obtain ⟨hP, hD⟩ := va_join (wr := [(h0, .inr (15, mF q 0)), (q 1, .inl ((cm 1), 1749, .inl (fun _ => 0)))]) (w1 := [(o0, .inl (ko, 1, .inr (.inl fu12)))]) hP hD [0, 1, 2, 3, 4] [5, 6] rfl rfl (by decide) (by decide) hk1 hFc hP1 hD1
  generalize H1 = H at hP hS ⊢
  have hP : va_P (dC, dI) vwCl [(h0, .inr (15, mF q 0)), (q 1, .inl ((cm 1), 1749, .inl (fun _ => 0))), (o0, .inl (ko, 1, .inr (.inl fu12)))] H := hP
  have hD : va_D A [(h0, .inr (15, mF q 0)), (q 1, .inl ((cm 1), 1749, .inl (fun _ => 0))), (o0, .inl (ko, 1, .inr (.inl fu12)))] := hD
  try dsimp only at hw11
  obtain rfl : (T_dike (xs 1) (xs 2) (xs 3) (xs 4)).1 = r10 := hw11.1.symm
  refine lv_istore (lv' := [(5, .int ((T_dike (xs 1) (xs 2) (xs 3) (xs 4)).1)), (0, .ref b), (1, .ref (a 0)), (2, .ref h0), (3, .ref o0), (4, .int 0)]) hx hb dL_law_882 hl (by decide) rfl (fun ls hl => ?_)
  refine lv_aload_n hx hb dL_law_884 rfl (lv_at hl 3 rfl) ?_
  refine lv_aload_n hx hb dL_law_885 rfl (lv_at hl 1 rfl) ?_
  refine lv_iload hx hb dL_law_886 (lv_at hl 5 rfl) ?_
  refine lv_iconst (v := 1) hx hb dL_law_888 (by decide) ?_
  refine lv_iadd hx hb dL_law_889 ?_
  refine lv_topi (fun x13 ex13 => ?_)
  obtain rfl : x13 = 1 := ex13.trans (by decide)
  refine va_sld hx hb hX hbl hbA hS (i := 1) (by unfold vp_in; decide) dL_law_890 ?_
  refine lv_topi (fun x14 ex14 => ?_)
  obtain rfl : xs 1 = x14 := (ex14).symm
  refine lv_aload_n hx hb dL_law_891 rfl (lv_at hl 1 rfl) ?_
  refine lv_iload hx hb dL_law_892 (lv_at hl 5 rfl) ?_
  refine lv_iconst (v := 2) hx hb dL_law_894 (by decide) ?_
  refine lv_iadd hx hb dL_law_895 ?_
  refine lv_topi (fun x15 ex15 => ?_)
  obtain rfl : x15 = 2 := ex15.trans (by decide)
  refine va_sld hx hb hX hbl hbA hS (i := 2) (by unfold vp_in; decide) dL_law_896 ?_
  refine lv_topi (fun x16 ex16 => ?_)
  obtain rfl : xs 2 = x16 := (ex16).symm
  refine lv_aload_n hx hb dL_law_897 rfl (lv_at hl 1 rfl) ?_
  refine lv_iload hx hb dL_law_898 (lv_at hl 5 rfl) ?_
  refine lv_iconst (v := 3) hx hb dL_law_900 (by decide) ?_
  refine lv_iadd hx hb dL_law_901 ?_
  refine lv_topi (fun x17 ex17 => ?_)
  obtain rfl : x17 = 3 := ex17.trans (by decide)
  refine va_sld hx hb hX hbl hbA hS (i := 3) (by unfold vp_in; decide) dL_law_902 ?_
  refine lv_topi (fun x18 ex18 => ?_)
  obtain rfl : xs 3 = x18 := (ex18).symm
  refine lv_aload_n hx hb dL_law_903 rfl (lv_at hl 1 rfl) ?_
  refine lv_iload hx hb dL_law_904 (lv_at hl 5 rfl) ?_
  refine lv_iconst (v := 4) hx hb dL_law_906 (by decide) ?_
  refine lv_iadd hx hb dL_law_907 ?_
  refine lv_topi (fun x19 ex19 => ?_)
  obtain rfl : x19 = 4 := ex19.trans (by decide)
  refine va_sld hx hb hX hbl hbA hS (i := 4) (by unfold vp_in; decide) dL_law_908 ?_
  refine lv_topi (fun x20 ex20 => ?_)
  obtain rfl : xs 4 = x20 := (ex20).symm
  have hPc := hP.sub (ws' := [(h0, .inr (15, mF q 0)), (q 1, .inl ((cm 1), 1749, .inl (fun _ => 0)))]) [0, 1] rfl
  have hDc := hD.sub (ws' := [(h0, .inr (15, mF q 0)), (q 1, .inl ((cm 1), 1749, .inl (fun _ => 0)))]) [0, 1] (by decide) rfl
  have hKc := hK.sub (tys' := [((cm 1), .int)]) [2] rfl
  have hFc := va_free (wc := [(h0, .inr (15, mF q 0)), (q 1, .inl ((cm 1), 1749, .inl (fun _ => 0)))]) hD hS hA [0, 1] rfl
  refine va_calli (va_runV (As := [.int (xs 1), .int (xs 2), .int (xs 3), .int (xs 4)]) (rest := []) ⟨hx, hb, hml, hown, hts⟩ (m_dike l dC dI h0 q cm (xs 1) (xs 2) (xs 3) (xs 4) H.size ) (cwV 4 hts (goodIn_app (goodIn_r _ [58, 59, 60, 42] (by decide +kernel) (by decide +kernel)) (goodIn_ca (goodIn_r _ [36, 37, 38, 39, 40, 41, 42, 43, 44, 45, 46, 47, 48, 49, 50, 51, 52, 53, 54, 55, 56, 57] (by decide +kernel) (by decide +kernel)) (bs_in _ _))) rfl rfl rfl (by decide +kernel) ⟨(Nat.le_of_ble_eq_true rfl), (Nat.le_of_ble_eq_true rfl)⟩) ⟨fun a U g mk q => by obtain ⟨q0, q1, qP, qK, qD⟩ := q; exact ⟨q0, q1, qP, va_K.moved (u := U) (U := U.calling g mk a) (Vm.Alike.refl U.vm) qK, qD⟩, va_recv hKc hPc (ci := 15) (q0 := 0) rfl rfl, fun U hU hW => ⟨rfl, by rw [hU], by rw [hU]; exact hPc, va_K.moved hW.alike hKc, hDc.weaken (fun _ _ _ _ => trivial)⟩⟩ rfl rfl hl.1 rfl (lv_room (Nat.le_of_ble_eq_true rfl)) dL_law_909 ⟨(Nat.le_of_ble_eq_true rfl), (Nat.le_of_ble_eq_true rfl)⟩) hS (fun q _ h => hFc q h) hFc (fun r22 u t H1 locs ht hvm hw23 hB hz1 hk1 hS => ?_)
  obtain ⟨fs24, rfl⟩ : ∃ z, z = u := ⟨_, rfl⟩
  obtain ⟨hP1, hD1⟩ := hB
  rw [ht] at hP1
  obtain ⟨hP, hD⟩ := va_join (wr := [(o0, .inl (ko, 1, .inr (.inl fu12)))]) (w1 := [(h0, .inr (15, fs24))]) hP hD [0, 1] [2] rfl rfl (by decide) (by decide) hk1 hFc hP1 hD1
  generalize H1 = H at hP hS ⊢
  have hP : va_P (dC, dI) vwCl [(o0, .inl (ko, 1, .inr (.inl fu12))), (h0, .inr (15, fs24))] H := hP
  have hD : va_D A [(o0, .inl (ko, 1, .inr (.inl fu12))), (h0, .inr (15, fs24))] := hD
  try dsimp only at hw23
  refine lv_istore (lv' := [(6, .int r22), (5, .int ((T_dike (xs 1) (xs 2) (xs 3) (xs 4)).1)), (0, .ref b), (1, .ref (a 0)), (2, .ref h0), (3, .ref o0), (4, .int 0)]) hx hb dL_law_912 hl (by decide) rfl (fun ls hl => ?_)
  refine lv_aload_n hx hb dL_law_914 rfl (lv_at hl 4 rfl) ?_
  have hPc := hP.sub (ws' := [(h0, .inr (15, fs24))]) [1] rfl
  have hDc := hD.sub (ws' := [(h0, .inr (15, fs24))]) [1] (by decide) rfl
  have hKc := hK.sub (tys' := []) [] rfl
  have hFc := va_free (wc := [(h0, .inr (15, fs24))]) hD hS hA [1] rfl
  refine va_calli (va_runV (As := []) (rest := []) ⟨hx, hb, hml, hown, hts⟩ (m_thrown l dC dI h0 fs24 ((T_dike (xs 1) (xs 2) (xs 3) (xs 4)).1) H.size hw23.1) (cwV 0 hts (goodIn_app (goodIn_r _ [62, 63, 64, 42] (by decide +kernel) (by decide +kernel)) (goodIn_ca (goodIn_r _ [61, 37] (by decide +kernel) (by decide +kernel)) (bs_in _ _))) rfl rfl rfl (by decide +kernel) ⟨(Nat.le_of_ble_eq_true rfl), (Nat.le_of_ble_eq_true rfl)⟩) ⟨fun a U g mk q => by obtain ⟨q0, q1, qP, qK, qD⟩ := q; exact ⟨q0, q1, qP, va_K.moved (u := U) (U := U.calling g mk a) (Vm.Alike.refl U.vm) qK, qD⟩, va_recv hKc hPc (ci := 15) (q0 := 0) rfl rfl, fun U hU hW => ⟨rfl, by rw [hU], by rw [hU]; exact hPc, va_K.moved hW.alike hKc, hDc.weaken (fun _ _ _ _ => trivial)⟩⟩ rfl rfl hl.1 rfl (lv_room (Nat.le_of_ble_eq_true rfl)) dL_law_915 ⟨(Nat.le_of_ble_eq_true rfl), (Nat.le_of_ble_eq_true rfl)⟩) hS (fun q _ h => hFc q h) hFc (fun r26 u t H1 locs ht hvm hw27 hB hz1 hk1 hS => ?_)
  have hP1 : va_P (dC, dI) vwCl [] H1 := nilP
  have hD1 : va_D (va_A [(h0, .inr (15, fs24))] H.size) [] := nilD
  have hK := hK
  obtain ⟨hP, hD⟩ := va_join (wr := [(o0, .inl (ko, 1, .inr (.inl fu12)))]) (w1 := []) hP hD [1] [0] rfl rfl (by decide) (by decide) hk1 hFc hP1 hD1
  generalize H1 = H at hP hS ⊢
  have hP : va_P (dC, dI) vwCl [(o0, .inl (ko, 1, .inr (.inl fu12)))] H := hP
  have hD : va_D A [(o0, .inl (ko, 1, .inr (.inl fu12)))] := hD
  try dsimp only at hw27
  obtain rfl : (T_dike (xs 1) (xs 2) (xs 3) (xs 4)).1 = r26 := hw27.symm
  refine lv_iload hx hb dL_law_918 (lv_at hl 1 rfl) ?_
  refine lv_icmp_eq (tgt := 925) hx hb dL_law_920 (by decide) (fun c28 => ?_) (fun c28 => absurd rfl c28)
  refine lv_iload hx hb dL_law_925 (lv_at hl 1 rfl) ?_
  refine lv_if_ne (tgt := 942) hx hb dL_law_927 (by decide) (fun c29 => ?_) (fun c29 => ?_)
  · refine lv_goto (tgt := 3762) hx hb dL_law_942 (by decide) ?_
    exact law_tail hx hb hr hlocks hX hbl hbA hAi hS (Nat.le_of_ble_eq_true rfl) (Nat.le_of_ble_eq_true rfl) ls (lv_sub hl [2, 6] rfl)
  · refine lv_aload_n hx hb dL_law_930 rfl (lv_at hl 5 rfl) ?_
    refine lv_iconst (v := 0) hx hb dL_law_931 (by decide) ?_
    refine va_lald hx hb hK hP 0 1 rfl rfl (by unfold vp_in; decide) dL_law_932 ?_
    refine lv_iload hx hb dL_law_933 (lv_at hl 0 rfl) ?_
    refine lv_i2l (v := r22.toInt64) hx hb dL_law_935 rfl ?_
    refine W.lcmp hx hb dL_law_936 ?_
    refine lv_topi (fun x30 ex30 => ?_)
    obtain rfl : x30 = 0 := ex30.trans (by rw [show fu12 (0 : Int32).toNatClampNeg = (T_dike (xs 1) (xs 2) (xs 3) (xs 4)).2.toInt64 from hw11.2 c29, hw23.2 c29]; exact lg_cmp_self _)
    refine lv_if_eq (tgt := 942) hx hb dL_law_937 (by decide) (fun c31 => ?_) (fun c31 => absurd c31 (by decide))
    refine lv_goto (tgt := 3762) hx hb dL_law_942 (by decide) ?_
    exact law_tail hx hb hr hlocks hX hbl hbA hAi hS (Nat.le_of_ble_eq_true rfl) (Nat.le_of_ble_eq_true rfl) ls (lv_sub hl [2, 6] rfl)
def w_law_9 : List Cond := .initialized RL :: ([.codeWith yL_layer cL_layer 6 (some .int) [(0, 12, 15, 13), (0, 12, 19, 15), (0, 12, 23, 50)], .code yX11_layer cX11_layer 5 (some .int), .code yX11_workOf cX11_workOf 2 (some (.object "SeaLand$Work")), .fieldLink RX11 16 "SeaLand" "lake" "LSeaLand$Lake;", .code yX11_within cX11_within 3 (some .boolean), .methodLink RX11 58 yX11_within, .static yX11_within, .initialized RX11, .classLink RX11 557 "java/lang/IndexOutOfBoundsException", .initialized "java/lang/IndexOutOfBoundsException", .methodLink RX11 167 yX11_workOf, .instanceMethod yX11_workOf, .selects RX11 yX11_workOf yX11_workOf, .methodLink RL 47 yX11_layer, .instanceMethod yX11_layer, .selects RX11 yX11_layer yX11_layer, .classLink RL 13 "java/lang/IndexOutOfBoundsException", .methodLink RL 213 yL_layer, .static yL_layer, .initialized RL, .code yX12_layer cX12_layer 4 (some .int), .fieldLink RX12 194 "SeaLandModel" "thrown" "I", .code yX12_noWork cX12_noWork 2 (some .boolean), .fieldLink RX12 9 "SeaLandModel" "world" "[I", .code yX12_in cX12_in 3 (some .boolean), .methodLink RX12 197 yX12_in, .static yX12_in, .initialized RX12, .methodLink RX12 269 yX12_noWork, .instanceMethod yX12_noWork, .selects RX12 yX12_noWork yX12_noWork, .code yX12_throwsIf cX12_throwsIf 3 (some .boolean), .methodLink RX12 224 yX12_throwsIf, .instanceMethod yX12_throwsIf, .selects RX12 yX12_throwsIf yX12_throwsIf, .methodLink RL 215 yX12_layer, .instanceMethod yX12_layer, .selects RX12 yX12_layer yX12_layer, .code yX12_thrown cX12_thrown 1 (some .int), .methodLink RL 187 yX12_thrown, .instanceMethod yX12_thrown, .selects RX12 yX12_thrown yX12_thrown] ++ bs)
set_option maxRecDepth 100000 in
theorem wm_9 : ∀ w ∈ w_law_9, w ∈ lw_tbl := lw_ins (List.mem_of_getElem? (i := 110) (by decide +kernel)) (lw_in _ (1112 :: 1130 :: 1134 :: 589 :: 902 :: 900 :: 901 :: 111 :: 903 :: 126 :: 1131 :: 1133 :: 8 :: 1127 :: 1128 :: 1129 :: 811 :: 1110 :: 1111 :: 110 :: 2303 :: 1969 :: 2307 :: 1970 :: 2217 :: 2215 :: 2216 :: 122 :: 2304 :: 2306 :: 55 :: 2221 :: 2218 :: 2220 :: 44 :: 2300 :: 2301 :: 2302 :: 2207 :: 2204 :: 2205 :: 2206 :: []) (by decide +kernel))
set_option maxHeartbeats 4000000 in
set_option maxRecDepth 100000 in
/-- layer -/
theorem law_9 {p : Program} {e : Env} {s : State} {m : MethodId} {below : List Frame} {meth : Method} {c : Code} (l : Launch) (hlt : l.stackTraces = false) {b : Nat} {xs : Nat → Int32} {A : Nat → Prop} (hx : p.tables.exec = Jvm.exec) (hb : c.code = code) (hr : meth.sig.returnType = ret) (hml : c.maxLocals = 7) (hown : s.vm.findClass RL = some m.cls) (hts : ∀ w ∈ w_law_9, w.before #[Value.ref b] s = true) (hX : va_X b 8 xs s s.heap) (hbl : b < s.heap.size) (hbA : ¬ A b) (hlocks : meth.locks = false) (hE : EV A s s.heap) (hN : NC s) (hA : ∀ q : Nat, s.heap.size ≤ q → A q) (hAi : ∀ q : Nat, A q → s.heap.size ≤ q) {dC : Nat → ClassId} {dI : Nat → Nat → Nat} (a : Nat → Nat) (k : Nat → ClassId) (h0 : Nat) (q : Nat → Nat) (cm : Nat → ClassId) (o0 : Nat) (ko : ClassId) (H : Heap) (locs : List Loc) (hK : va_K (dC, dI) vwCl [(ko, .long), ((cm 1), .int)] s) (hP : va_P (dC, dI) vwCl [(a 0, .inr (14, [.ref (a 1), .ref (a 2), .ref (a 27), .ref (a 30), .ref (a 74), .ref (a 75), .null, .int 0, .int 0])), (a 2, .inr (6, [.ref (a 3), .ref (a 14), .ref (a 26), .int 0, .int 0])), (o0, .inl (ko, 1, .inr (.inl (fun _ => 0)))), (h0, .inr (15, mF q 0)), (q 1, .inl ((cm 1), 1749, .inl (fun _ => 0)))] H) (hD : va_D A [(a 0, .inr (14, [.ref (a 1), .ref (a 2), .ref (a 27), .ref (a 30), .ref (a 74), .ref (a 75), .null, .int 0, .int 0])), (a 2, .inr (6, [.ref (a 3), .ref (a 14), .ref (a 26), .int 0, .int 0])), (o0, .inl (ko, 1, .inr (.inl (fun _ => 0)))), (h0, .inr (15, mF q 0)), (q 1, .inl ((cm 1), 1749, .inl (fun _ => 0)))]) (hS : va_S A s.heap H locs) (ls : Array Slot) (hl : lv_has ls 7 [(0, .ref b), (1, .ref (a 0)), (2, .ref h0), (3, .ref o0), (4, .int 0)]) : W p l e room_1 s m #[Value.ref b] below meth c H locs 238 27427 (lw_Z below #[Value.ref b] s) (F0 m 945 ls []) := by
  refine lv_aload_n hx hb dL_law_945 rfl (lv_at hl 1 rfl) ?_
  refine lv_aload_n hx hb dL_law_946 rfl (lv_at hl 0 rfl) ?_
  refine lv_iload hx hb dL_law_947 (lv_at hl 4 rfl) ?_
  refine lv_iconst (v := 1) hx hb dL_law_949 (by decide) ?_
  refine lv_iadd hx hb dL_law_950 ?_
  refine lv_topi (fun x1 ex1 => ?_)
  obtain rfl : x1 = 1 := ex1.trans (by decide)
  refine va_sld hx hb hX hbl hbA hS (i := 1) (by unfold vp_in; decide) dL_law_951 ?_
  refine lv_topi (fun x2 ex2 => ?_)
  obtain rfl : xs 1 = x2 := (ex2).symm
  refine lv_aload_n hx hb dL_law_952 rfl (lv_at hl 0 rfl) ?_
  refine lv_iload hx hb dL_law_953 (lv_at hl 4 rfl) ?_
  refine lv_iconst (v := 2) hx hb dL_law_955 (by decide) ?_
  refine lv_iadd hx hb dL_law_956 ?_
  refine lv_topi (fun x3 ex3 => ?_)
  obtain rfl : x3 = 2 := ex3.trans (by decide)
  refine va_sld hx hb hX hbl hbA hS (i := 2) (by unfold vp_in; decide) dL_law_957 ?_
  refine lv_topi (fun x4 ex4 => ?_)
  obtain rfl : xs 2 = x4 := (ex4).symm
  refine lv_aload_n hx hb dL_law_958 rfl (lv_at hl 0 rfl) ?_
  refine lv_iload hx hb dL_law_959 (lv_at hl 4 rfl) ?_
  refine lv_iconst (v := 3) hx hb dL_law_961 (by decide) ?_
  refine lv_iadd hx hb dL_law_962 ?_
  refine lv_topi (fun x5 ex5 => ?_)
  obtain rfl : x5 = 3 := ex5.trans (by decide)
  refine va_sld hx hb hX hbl hbA hS (i := 3) (by unfold vp_in; decide) dL_law_963 ?_
  refine lv_topi (fun x6 ex6 => ?_)
  obtain rfl : xs 3 = x6 := (ex6).symm
  refine lv_aload_n hx hb dL_law_964 rfl (lv_at hl 3 rfl) ?_
  have hPc := hP.sub (ws' := [(a 0, .inr (14, [.ref (a 1), .ref (a 2), .ref (a 27), .ref (a 30), .ref (a 74), .ref (a 75), .null, .int 0, .int 0])), (a 2, .inr (6, [.ref (a 3), .ref (a 14), .ref (a 26), .int 0, .int 0])), (o0, .inl (ko, 1, .inr (.inl (fun _ => 0))))]) [0, 1, 2] rfl
  have hDc := hD.sub (ws' := [(a 0, .inr (14, [.ref (a 1), .ref (a 2), .ref (a 27), .ref (a 30), .ref (a 74), .ref (a 75), .null, .int 0, .int 0])), (a 2, .inr (6, [.ref (a 3), .ref (a 14), .ref (a 26), .int 0, .int 0])), (o0, .inl (ko, 1, .inr (.inl (fun _ => 0))))]) [0, 1, 2] (by decide) rfl
  have hKc := hK.sub (tys' := [(ko, .long)]) [0] rfl
  have hFc := va_free (wc := [(a 0, .inr (14, [.ref (a 1), .ref (a 2), .ref (a 27), .ref (a 30), .ref (a 74), .ref (a 75), .null, .int 0, .int 0])), (a 2, .inr (6, [.ref (a 3), .ref (a 14), .ref (a 26), .int 0, .int 0])), (o0, .inl (ko, 1, .inr (.inl (fun _ => 0))))]) hD hS hA [0, 1, 2] rfl
  refine va_calli (vx_runSW (As := [.ref (a 0), .int (xs 1), .int (xs 2), .int (xs 3), .ref o0]) (rest := []) ⟨hx, hb, hml, hown, hts⟩ (l_layer l hlt dC dI a k o0 ko (fun _ => 0) (xs 1) (xs 2) (xs 3) H.size ) (vx_cwSW 5 hts (goodIn_app (goodIn_r _ [18, 19, 20] (by decide +kernel) (by decide +kernel)) (goodIn_ca (goodIn_r _ [1, 2, 3, 4, 5, 6, 7, 8, 9, 10, 11, 12, 13, 14, 15, 16, 17] (by decide +kernel) (by decide +kernel)) (bs_in _ _))) rfl rfl rfl (by decide +kernel) ⟨(Nat.le_of_ble_eq_true rfl), (Nat.le_of_ble_eq_true rfl)⟩) ⟨fun a U g mk q => by obtain ⟨q0, q1, qP, qK, qD, qE, qN⟩ := q; exact ⟨q0, q1, qP, va_K.moved (u := U) (U := U.calling g mk a) (Vm.Alike.refl U.vm) qK, qD, EV.blind g mk a qE, NC.blind g mk a qN⟩, fun U hU hW => ⟨rfl, by rw [hU], by rw [hU]; exact hPc, va_K.moved hW.alike hKc, hDc.weaken (fun _ _ _ _ => trivial), hE.call hS hFc hU hW, hN.call hW⟩⟩ rfl rfl hl.1 rfl (lv_room (Nat.le_of_ble_eq_true rfl)) dL_law_965 ⟨(Nat.le_of_ble_eq_true rfl), (Nat.le_of_ble_eq_true rfl)⟩) hS (fun q _ h => hFc q h) hFc (fun r8 u t H1 locs ht hvm hw9 hB hz1 hk1 hS => ?_)
  obtain ⟨fu10, rfl⟩ : ∃ z, z = u := ⟨_, rfl⟩
  obtain ⟨hP1, hD1⟩ := hB
  rw [ht] at hP1
  obtain ⟨hP, hD⟩ := va_join (wr := [(h0, .inr (15, mF q 0)), (q 1, .inl ((cm 1), 1749, .inl (fun _ => 0)))]) (w1 := [(o0, .inl (ko, 1, .inr (.inl fu10)))]) hP hD [0, 1, 2] [3, 4] rfl rfl (by decide) (by decide) hk1 hFc hP1 hD1
  generalize H1 = H at hP hS ⊢
  have hP : va_P (dC, dI) vwCl [(h0, .inr (15, mF q 0)), (q 1, .inl ((cm 1), 1749, .inl (fun _ => 0))), (o0, .inl (ko, 1, .inr (.inl fu10)))] H := hP
  have hD : va_D A [(h0, .inr (15, mF q 0)), (q 1, .inl ((cm 1), 1749, .inl (fun _ => 0))), (o0, .inl (ko, 1, .inr (.inl fu10)))] := hD
  try dsimp only at hw9
  obtain rfl : 1 = r8 := hw9.symm
  refine lv_istore (lv' := [(5, .int 1), (0, .ref b), (1, .ref (a 0)), (2, .ref h0), (3, .ref o0), (4, .int 0)]) hx hb dL_law_968 hl (by decide) rfl (fun ls hl => ?_)
  refine lv_aload_n hx hb dL_law_970 rfl (lv_at hl 3 rfl) ?_
  refine lv_aload_n hx hb dL_law_971 rfl (lv_at hl 1 rfl) ?_
  refine lv_iload hx hb dL_law_972 (lv_at hl 5 rfl) ?_
  refine lv_iconst (v := 1) hx hb dL_law_974 (by decide) ?_
  refine lv_iadd hx hb dL_law_975 ?_
  refine lv_topi (fun x11 ex11 => ?_)
  obtain rfl : x11 = 1 := ex11.trans (by decide)
  refine va_sld hx hb hX hbl hbA hS (i := 1) (by unfold vp_in; decide) dL_law_976 ?_
  refine lv_topi (fun x12 ex12 => ?_)
  obtain rfl : xs 1 = x12 := (ex12).symm
  refine lv_aload_n hx hb dL_law_977 rfl (lv_at hl 1 rfl) ?_
  refine lv_iload hx hb dL_law_978 (lv_at hl 5 rfl) ?_
  refine lv_iconst (v := 2) hx hb dL_law_980 (by decide) ?_
  refine lv_iadd hx hb dL_law_981 ?_
  refine lv_topi (fun x13 ex13 => ?_)
  obtain rfl : x13 = 2 := ex13.trans (by decide)
  refine va_sld hx hb hX hbl hbA hS (i := 2) (by unfold vp_in; decide) dL_law_982 ?_
  refine lv_topi (fun x14 ex14 => ?_)
  obtain rfl : xs 2 = x14 := (ex14).symm
  refine lv_aload_n hx hb dL_law_983 rfl (lv_at hl 1 rfl) ?_
  refine lv_iload hx hb dL_law_984 (lv_at hl 5 rfl) ?_
  refine lv_iconst (v := 3) hx hb dL_law_986 (by decide) ?_
  refine lv_iadd hx hb dL_law_987 ?_
  refine lv_topi (fun x15 ex15 => ?_)
  obtain rfl : x15 = 3 := ex15.trans (by decide)
  refine va_sld hx hb hX hbl hbA hS (i := 3) (by unfold vp_in; decide) dL_law_988 ?_
  refine lv_topi (fun x16 ex16 => ?_)
  obtain rfl : xs 3 = x16 := (ex16).symm
  have hPc := hP.sub (ws' := [(h0, .inr (15, mF q 0)), (q 1, .inl ((cm 1), 1749, .inl (fun _ => 0)))]) [0, 1] rfl
  have hDc := hD.sub (ws' := [(h0, .inr (15, mF q 0)), (q 1, .inl ((cm 1), 1749, .inl (fun _ => 0)))]) [0, 1] (by decide) rfl
  have hKc := hK.sub (tys' := [((cm 1), .int)]) [1] rfl
  have hFc := va_free (wc := [(h0, .inr (15, mF q 0)), (q 1, .inl ((cm 1), 1749, .inl (fun _ => 0)))]) hD hS hA [0, 1] rfl
  refine va_calli (va_runV (As := [.int (xs 1), .int (xs 2), .int (xs 3)]) (rest := []) ⟨hx, hb, hml, hown, hts⟩ (m_layer l dC dI h0 q cm (xs 1) (xs 2) (xs 3) H.size ) (cwV 3 hts (goodIn_app (goodIn_r _ [36, 37, 38, 28] (by decide +kernel) (by decide +kernel)) (goodIn_ca (goodIn_r _ [21, 22, 23, 24, 25, 26, 27, 28, 29, 30, 31, 32, 33, 34, 35] (by decide +kernel) (by decide +kernel)) (bs_in _ _))) rfl rfl rfl (by decide +kernel) ⟨(Nat.le_of_ble_eq_true rfl), (Nat.le_of_ble_eq_true rfl)⟩) ⟨fun a U g mk q => by obtain ⟨q0, q1, qP, qK, qD⟩ := q; exact ⟨q0, q1, qP, va_K.moved (u := U) (U := U.calling g mk a) (Vm.Alike.refl U.vm) qK, qD⟩, va_recv hKc hPc (ci := 15) (q0 := 0) rfl rfl, fun U hU hW => ⟨rfl, by rw [hU], by rw [hU]; exact hPc, va_K.moved hW.alike hKc, hDc.weaken (fun _ _ _ _ => trivial)⟩⟩ rfl rfl hl.1 rfl (lv_room (Nat.le_of_ble_eq_true rfl)) dL_law_989 ⟨(Nat.le_of_ble_eq_true rfl), (Nat.le_of_ble_eq_true rfl)⟩) hS (fun q _ h => hFc q h) hFc (fun r18 u t H1 locs ht hvm hw19 hB hz1 hk1 hS => ?_)
  obtain ⟨fs20, rfl⟩ : ∃ z, z = u := ⟨_, rfl⟩
  obtain ⟨hP1, hD1⟩ := hB
  rw [ht] at hP1
  obtain ⟨hP, hD⟩ := va_join (wr := [(o0, .inl (ko, 1, .inr (.inl fu10)))]) (w1 := [(h0, .inr (15, fs20))]) hP hD [0, 1] [2] rfl rfl (by decide) (by decide) hk1 hFc hP1 hD1
  generalize H1 = H at hP hS ⊢
  have hP : va_P (dC, dI) vwCl [(o0, .inl (ko, 1, .inr (.inl fu10))), (h0, .inr (15, fs20))] H := hP
  have hD : va_D A [(o0, .inl (ko, 1, .inr (.inl fu10))), (h0, .inr (15, fs20))] := hD
  try dsimp only at hw19
  refine lv_istore (lv' := [(6, .int r18), (5, .int 1), (0, .ref b), (1, .ref (a 0)), (2, .ref h0), (3, .ref o0), (4, .int 0)]) hx hb dL_law_992 hl (by decide) rfl (fun ls hl => ?_)
  refine lv_aload_n hx hb dL_law_994 rfl (lv_at hl 4 rfl) ?_
  have hPc := hP.sub (ws' := [(h0, .inr (15, fs20))]) [1] rfl
  have hDc := hD.sub (ws' := [(h0, .inr (15, fs20))]) [1] (by decide) rfl
  have hKc := hK.sub (tys' := []) [] rfl
  have hFc := va_free (wc := [(h0, .inr (15, fs20))]) hD hS hA [1] rfl
  refine va_calli (va_runV (As := []) (rest := []) ⟨hx, hb, hml, hown, hts⟩ (m_thrown l dC dI h0 fs20 1 H.size hw19) (cwV 0 hts (goodIn_app (goodIn_r _ [40, 41, 42, 28] (by decide +kernel) (by decide +kernel)) (goodIn_ca (goodIn_r _ [39, 22] (by decide +kernel) (by decide +kernel)) (bs_in _ _))) rfl rfl rfl (by decide +kernel) ⟨(Nat.le_of_ble_eq_true rfl), (Nat.le_of_ble_eq_true rfl)⟩) ⟨fun a U g mk q => by obtain ⟨q0, q1, qP, qK, qD⟩ := q; exact ⟨q0, q1, qP, va_K.moved (u := U) (U := U.calling g mk a) (Vm.Alike.refl U.vm) qK, qD⟩, va_recv hKc hPc (ci := 15) (q0 := 0) rfl rfl, fun U hU hW => ⟨rfl, by rw [hU], by rw [hU]; exact hPc, va_K.moved hW.alike hKc, hDc.weaken (fun _ _ _ _ => trivial)⟩⟩ rfl rfl hl.1 rfl (lv_room (Nat.le_of_ble_eq_true rfl)) dL_law_995 ⟨(Nat.le_of_ble_eq_true rfl), (Nat.le_of_ble_eq_true rfl)⟩) hS (fun q _ h => hFc q h) hFc (fun r22 u t H1 locs ht hvm hw23 hB hz1 hk1 hS => ?_)
  have hP1 : va_P (dC, dI) vwCl [] H1 := nilP
  have hD1 : va_D (va_A [(h0, .inr (15, fs20))] H.size) [] := nilD
  have hK := hK
  obtain ⟨hP, hD⟩ := va_join (wr := [(o0, .inl (ko, 1, .inr (.inl fu10)))]) (w1 := []) hP hD [1] [0] rfl rfl (by decide) (by decide) hk1 hFc hP1 hD1
  generalize H1 = H at hP hS ⊢
  have hP : va_P (dC, dI) vwCl [(o0, .inl (ko, 1, .inr (.inl fu10)))] H := hP
  have hD : va_D A [(o0, .inl (ko, 1, .inr (.inl fu10)))] := hD
  try dsimp only at hw23
  obtain rfl : 1 = r22 := hw23.symm
  refine lv_iload hx hb dL_law_998 (lv_at hl 1 rfl) ?_
  refine lv_icmp_eq (tgt := 1005) hx hb dL_law_1000 (by decide) (fun c24 => ?_) (fun c24 => absurd c24 (by decide))
  refine lv_iload hx hb dL_law_1005 (lv_at hl 1 rfl) ?_
  refine lv_if_ne (tgt := 1022) hx hb dL_law_1007 (by decide) (fun c25 => ?_) (fun c25 => absurd c25 (by decide))
  refine lv_goto (tgt := 3762) hx hb dL_law_1022 (by decide) ?_
  exact law_tail hx hb hr hlocks hX hbl hbA hAi hS (Nat.le_of_ble_eq_true rfl) (Nat.le_of_ble_eq_true rfl) ls (lv_sub hl [2, 6] rfl)
def w_law_10 : List Cond := .initialized RL :: ([.codeWith yL_mill cL_mill 7 (some .int) [(0, 14, 17, 13), (0, 14, 21, 15), (0, 14, 25, 45)], .code yX11_mill cX11_mill 5 (some .int), .code yX11_needSquare cX11_needSquare 1 none, .code yX11_within cX11_within 3 (some .boolean), .methodLink RX11 58 yX11_within, .static yX11_within, .initialized RX11, .classLink RX11 557 "java/lang/IndexOutOfBoundsException", .initialized "java/lang/IndexOutOfBoundsException", .methodLink RX11 55 yX11_needSquare, .static yX11_needSquare, .code yX11_needNumbers cX11_needNumbers 1 none, .methodLink RX11 62 yX11_needNumbers, .static yX11_needNumbers, .code yX11_needRoomForWork cX11_needRoomForWork 1 none, .fieldLink RX11 16 "SeaLand" "lake" "LSeaLand$Lake;", .methodLink RX11 149 yX11_needRoomForWork, .instanceMethod yX11_needRoomForWork, .selects RX11 yX11_needRoomForWork yX11_needRoomForWork, .code yX3_isFreeLand cX3_isFreeLand 2 (some .boolean), .fieldLink RX3 21 "SeaLand$Lake" "ground" "LSeaLand$Ground;", .methodLink RX11 152 yX3_isFreeLand, .instanceMethod yX3_isFreeLand, .selects RX3 yX3_isFreeLand yX3_isFreeLand, .initialized RX3, .classLink RX11 547 "java/lang/IllegalArgumentException", .initialized "java/lang/IllegalArgumentException", .methodLink RL 52 yX11_mill, .instanceMethod yX11_mill, .selects RX11 yX11_mill yX11_mill, .classLink RL 13 "java/lang/IndexOutOfBoundsException", .classLink RL 15 "java/lang/IllegalArgumentException", .methodLink RL 216 yL_mill, .static yL_mill, .initialized RL, .code yX12_mill cX12_mill 5 (some .int), .fieldLink RX12 194 "SeaLandModel" "thrown" "I", .code yX12_noSquare cX12_noSquare 1 (some .boolean), .code yX12_in cX12_in 3 (some .boolean), .methodLink RX12 197 yX12_in, .static yX12_in, .initialized RX12, .methodLink RX12 220 yX12_noSquare, .static yX12_noSquare, .code yX12_throwsIf cX12_throwsIf 3 (some .boolean), .methodLink RX12 224 yX12_throwsIf, .instanceMethod yX12_throwsIf, .selects RX12 yX12_throwsIf yX12_throwsIf, .fieldLink RX12 9 "SeaLandModel" "world" "[I", .code yX12_noPlace cX12_noPlace 2 (some .boolean), .code yX12_isLand cX12_isLand 2 (some .boolean), .methodLink RX12 235 yX12_isLand, .instanceMethod yX12_isLand, .selects RX12 yX12_isLand yX12_isLand, .methodLink RX12 259 yX12_noPlace, .instanceMethod yX12_noPlace, .selects RX12 yX12_noPlace yX12_noPlace, .methodLink RL 219 yX12_mill, .instanceMethod yX12_mill, .selects RX12 yX12_mill yX12_mill, .code yX12_thrown cX12_thrown 1 (some .int), .methodLink RL 187 yX12_thrown, .instanceMethod yX12_thrown, .selects RX12 yX12_thrown yX12_thrown] ++ bs)
set_option maxRecDepth 100000 in
theorem wm_10 : ∀ w ∈ w_law_10, w ∈ lw_tbl := lw_ins (List.mem_of_getElem? (i := 110) (by decide +kernel)) (lw_in _ (1153 :: 1157 :: 899 :: 902 :: 900 :: 901 :: 111 :: 903 :: 126 :: 897 :: 898 :: 918 :: 916 :: 917 :: 1072 :: 589 :: 1069 :: 1071 :: 7 :: 1092 :: 347 :: 1089 :: 1090 :: 1091 :: 112 :: 919 :: 129 :: 1154 :: 1155 :: 1156 :: 811 :: 891 :: 1151 :: 1152 :: 110 :: 2319 :: 1969 :: 2214 :: 2217 :: 2215 :: 2216 :: 122 :: 2212 :: 2213 :: 2221 :: 2218 :: 2220 :: 44 :: 1970 :: 2280 :: 2234 :: 2231 :: 2233 :: 46 :: 2277 :: 2279 :: 51 :: 2316 :: 2317 :: 2318 :: 2207 :: 2204 :: 2205 :: 2206 :: []) (by decide +kernel))
set_option maxHeartbeats 4000000 in
set_option maxRecDepth 100000 in
/-- mill -/
theorem law_10 {p : Program} {e : Env} {s : State} {m : MethodId} {below : List Frame} {meth : Method} {c : Code} (l : Launch) (hlt : l.stackTraces = false) {b : Nat} {xs : Nat → Int32} {A : Nat → Prop} (hx : p.tables.exec = Jvm.exec) (hb : c.code = code) (hr : meth.sig.returnType = ret) (hml : c.maxLocals = 7) (hown : s.vm.findClass RL = some m.cls) (hts : ∀ w ∈ w_law_10, w.before #[Value.ref b] s = true) (hX : va_X b 8 xs s s.heap) (hbl : b < s.heap.size) (hbA : ¬ A b) (hlocks : meth.locks = false) (hE : EV A s s.heap) (hN : NC s) (hA : ∀ q : Nat, s.heap.size ≤ q → A q) (hAi : ∀ q : Nat, A q → s.heap.size ≤ q) {dC : Nat → ClassId} {dI : Nat → Nat → Nat} (a : Nat → Nat) (k : Nat → ClassId) (h0 : Nat) (q : Nat → Nat) (cm : Nat → ClassId) (o0 : Nat) (ko : ClassId) (H : Heap) (locs : List Loc) (hK : va_K (dC, dI) vwCl [((k 15), .boolean), (ko, .long), ((cm 1), .int)] s) (hP : va_P (dC, dI) vwCl [(a 0, .inr (14, [.ref (a 1), .ref (a 2), .ref (a 27), .ref (a 30), .ref (a 74), .ref (a 75), .null, .int 0, .int 0])), (a 2, .inr (6, [.ref (a 3), .ref (a 14), .ref (a 26), .int 0, .int 0])), (a 14, .inr (5, [.ref (a 15), .ref (a 16), .ref (a 17), .ref (a 18), .ref (a 19), .ref (a 20), .ref (a 21), .ref (a 22), .ref (a 23), .ref (a 24), .ref (a 25), .int 0, .int 0, .int 0, .int 0])), (a 15, .inl ((k 15), 96, .inl (fun _ => 0))), (o0, .inl (ko, 1, .inr (.inl (fun _ => 0)))), (h0, .inr (15, mF q 0)), (q 1, .inl ((cm 1), 1749, .inl (fun _ => 0)))] H) (hD : va_D A [(a 0, .inr (14, [.ref (a 1), .ref (a 2), .ref (a 27), .ref (a 30), .ref (a 74), .ref (a 75), .null, .int 0, .int 0])), (a 2, .inr (6, [.ref (a 3), .ref (a 14), .ref (a 26), .int 0, .int 0])), (a 14, .inr (5, [.ref (a 15), .ref (a 16), .ref (a 17), .ref (a 18), .ref (a 19), .ref (a 20), .ref (a 21), .ref (a 22), .ref (a 23), .ref (a 24), .ref (a 25), .int 0, .int 0, .int 0, .int 0])), (a 15, .inl ((k 15), 96, .inl (fun _ => 0))), (o0, .inl (ko, 1, .inr (.inl (fun _ => 0)))), (h0, .inr (15, mF q 0)), (q 1, .inl ((cm 1), 1749, .inl (fun _ => 0)))]) (hS : va_S A s.heap H locs) (ls : Array Slot) (hl : lv_has ls 7 [(0, .ref b), (1, .ref (a 0)), (2, .ref h0), (3, .ref o0), (4, .int 0)]) : W p l e room_1 s m #[Value.ref b] below meth c H locs 238 27427 (lw_Z below #[Value.ref b] s) (F0 m 1025 ls []) := by
  refine lv_aload_n hx hb dL_law_1025 rfl (lv_at hl 1 rfl) ?_
  refine lv_aload_n hx hb dL_law_1026 rfl (lv_at hl 0 rfl) ?_
  refine lv_iload hx hb dL_law_1027 (lv_at hl 4 rfl) ?_
  refine lv_iconst (v := 1) hx hb dL_law_1029 (by decide) ?_
  refine lv_iadd hx hb dL_law_1030 ?_
  refine lv_topi (fun x1 ex1 => ?_)
  obtain rfl : x1 = 1 := ex1.trans (by decide)
  refine va_sld hx hb hX hbl hbA hS (i := 1) (by unfold vp_in; decide) dL_law_1031 ?_
  refine lv_topi (fun x2 ex2 => ?_)
  obtain rfl : xs 1 = x2 := (ex2).symm
  refine lv_aload_n hx hb dL_law_1032 rfl (lv_at hl 0 rfl) ?_
  refine lv_iload hx hb dL_law_1033 (lv_at hl 4 rfl) ?_
  refine lv_iconst (v := 2) hx hb dL_law_1035 (by decide) ?_
  refine lv_iadd hx hb dL_law_1036 ?_
  refine lv_topi (fun x3 ex3 => ?_)
  obtain rfl : x3 = 2 := ex3.trans (by decide)
  refine va_sld hx hb hX hbl hbA hS (i := 2) (by unfold vp_in; decide) dL_law_1037 ?_
  refine lv_topi (fun x4 ex4 => ?_)
  obtain rfl : xs 2 = x4 := (ex4).symm
  refine lv_aload_n hx hb dL_law_1038 rfl (lv_at hl 0 rfl) ?_
  refine lv_iload hx hb dL_law_1039 (lv_at hl 4 rfl) ?_
  refine lv_iconst (v := 3) hx hb dL_law_1041 (by decide) ?_
  refine lv_iadd hx hb dL_law_1042 ?_
  refine lv_topi (fun x5 ex5 => ?_)
  obtain rfl : x5 = 3 := ex5.trans (by decide)
  refine va_sld hx hb hX hbl hbA hS (i := 3) (by unfold vp_in; decide) dL_law_1043 ?_
  refine lv_topi (fun x6 ex6 => ?_)
  obtain rfl : xs 3 = x6 := (ex6).symm
  refine lv_aload_n hx hb dL_law_1044 rfl (lv_at hl 0 rfl) ?_
  refine lv_iload hx hb dL_law_1045 (lv_at hl 4 rfl) ?_
  refine lv_iconst (v := 4) hx hb dL_law_1047 (by decide) ?_
  refine lv_iadd hx hb dL_law_1048 ?_
  refine lv_topi (fun x7 ex7 => ?_)
  obtain rfl : x7 = 4 := ex7.trans (by decide)
  refine va_sld hx hb hX hbl hbA hS (i := 4) (by unfold vp_in; decide) dL_law_1049 ?_
  refine lv_topi (fun x8 ex8 => ?_)
  obtain rfl : xs 4 = x8 := (ex8).symm
  refine lv_if_eq (tgt := 1057) hx hb dL_law_1050 (by decide) (fun c9 => ?_) (fun c9 => ?_)
  · refine lv_iconst (v := 0) hx hb dL_law_1057 (by decide) ?_
    refine lv_aload_n hx hb dL_law_1058 rfl (lv_at hl 3 rfl) ?_
    have hPc := hP.sub (ws' := [(a 0, .inr (14, [.ref (a 1), .ref (a 2), .ref (a 27), .ref (a 30), .ref (a 74), .ref (a 75), .null, .int 0, .int 0])), (a 2, .inr (6, [.ref (a 3), .ref (a 14), .ref (a 26), .int 0, .int 0])), (a 14, .inr (5, [.ref (a 15), .ref (a 16), .ref (a 17), .ref (a 18), .ref (a 19), .ref (a 20), .ref (a 21), .ref (a 22), .ref (a 23), .ref (a 24), .ref (a 25), .int 0, .int 0, .int 0, .int 0])), (a 15, .inl ((k 15), 96, .inl (fun _ => 0))), (o0, .inl (ko, 1, .inr (.inl (fun _ => 0))))]) [0, 1, 2, 3, 4] rfl
    have hDc := hD.sub (ws' := [(a 0, .inr (14, [.ref (a 1), .ref (a 2), .ref (a 27), .ref (a 30), .ref (a 74), .ref (a 75), .null, .int 0, .int 0])), (a 2, .inr (6, [.ref (a 3), .ref (a 14), .ref (a 26), .int 0, .int 0])), (a 14, .inr (5, [.ref (a 15), .ref (a 16), .ref (a 17), .ref (a 18), .ref (a 19), .ref (a 20), .ref (a 21), .ref (a 22), .ref (a 23), .ref (a 24), .ref (a 25), .int 0, .int 0, .int 0, .int 0])), (a 15, .inl ((k 15), 96, .inl (fun _ => 0))), (o0, .inl (ko, 1, .inr (.inl (fun _ => 0))))]) [0, 1, 2, 3, 4] (by decide) rfl
    have hKc := hK.sub (tys' := [((k 15), .boolean), (ko, .long)]) [0, 1] rfl
    have hFc := va_free (wc := [(a 0, .inr (14, [.ref (a 1), .ref (a 2), .ref (a 27), .ref (a 30), .ref (a 74), .ref (a 75), .null, .int 0, .int 0])), (a 2, .inr (6, [.ref (a 3), .ref (a 14), .ref (a 26), .int 0, .int 0])), (a 14, .inr (5, [.ref (a 15), .ref (a 16), .ref (a 17), .ref (a 18), .ref (a 19), .ref (a 20), .ref (a 21), .ref (a 22), .ref (a 23), .ref (a 24), .ref (a 25), .int 0, .int 0, .int 0, .int 0])), (a 15, .inl ((k 15), 96, .inl (fun _ => 0))), (o0, .inl (ko, 1, .inr (.inl (fun _ => 0))))]) hD hS hA [0, 1, 2, 3, 4] rfl
    refine va_calli (vx_runSW (As := [.ref (a 0), .int (xs 1), .int (xs 2), .int (xs 3), .int 0, .ref o0]) (rest := []) ⟨hx, hb, hml, hown, hts⟩ (l_mill l hlt dC dI a k o0 ko (fun _ => 0) (xs 1) (xs 2) (xs 3) 0 H.size ) (vx_cwSW 6 hts (goodIn_app (goodIn_r _ [33, 34, 35] (by decide +kernel) (by decide +kernel)) (goodIn_ca (goodIn_r _ [1, 2, 3, 4, 5, 6, 7, 8, 9, 10, 11, 12, 13, 14, 15, 16, 17, 18, 19, 20, 21, 22, 23, 24, 25, 26, 27, 28, 29, 30, 31, 32] (by decide +kernel) (by decide +kernel)) (bs_in _ _))) rfl rfl rfl (by decide +kernel) ⟨(Nat.le_of_ble_eq_true rfl), (Nat.le_of_ble_eq_true rfl)⟩) ⟨fun a U g mk q => by obtain ⟨q0, q1, qP, qK, qD, qE, qN⟩ := q; exact ⟨q0, q1, qP, va_K.moved (u := U) (U := U.calling g mk a) (Vm.Alike.refl U.vm) qK, qD, EV.blind g mk a qE, NC.blind g mk a qN⟩, fun U hU hW => ⟨rfl, by rw [hU], by rw [hU]; exact hPc, va_K.moved hW.alike hKc, hDc.weaken (fun _ _ _ _ => trivial), hE.call hS hFc hU hW, hN.call hW⟩⟩ rfl rfl hl.1 rfl (lv_room (Nat.le_of_ble_eq_true rfl)) dL_law_1059 ⟨(Nat.le_of_ble_eq_true rfl), (Nat.le_of_ble_eq_true rfl)⟩) hS (fun q _ h => hFc q h) hFc (fun r11 u t H1 locs ht hvm hw12 hB hz1 hk1 hS => ?_)
    obtain ⟨fu13, rfl⟩ : ∃ z, z = u := ⟨_, rfl⟩
    obtain ⟨hP1, hD1⟩ := hB
    rw [ht] at hP1
    obtain ⟨hP, hD⟩ := va_join (wr := [(h0, .inr (15, mF q 0)), (q 1, .inl ((cm 1), 1749, .inl (fun _ => 0)))]) (w1 := [(o0, .inl (ko, 1, .inr (.inl fu13)))]) hP hD [0, 1, 2, 3, 4] [5, 6] rfl rfl (by decide) (by decide) hk1 hFc hP1 hD1
    generalize H1 = H at hP hS ⊢
    have hP : va_P (dC, dI) vwCl [(h0, .inr (15, mF q 0)), (q 1, .inl ((cm 1), 1749, .inl (fun _ => 0))), (o0, .inl (ko, 1, .inr (.inl fu13)))] H := hP
    have hD : va_D A [(h0, .inr (15, mF q 0)), (q 1, .inl ((cm 1), 1749, .inl (fun _ => 0))), (o0, .inl (ko, 1, .inr (.inl fu13)))] := hD
    try dsimp only at hw12
    obtain rfl : (T_mill (xs 1) (xs 2) (xs 3) 0).1 = r11 := hw12.1.symm
    refine lv_istore (lv' := [(5, .int ((T_mill (xs 1) (xs 2) (xs 3) 0).1)), (0, .ref b), (1, .ref (a 0)), (2, .ref h0), (3, .ref o0), (4, .int 0)]) hx hb dL_law_1062 hl (by decide) rfl (fun ls hl => ?_)
    refine lv_aload_n hx hb dL_law_1064 rfl (lv_at hl 3 rfl) ?_
    refine lv_aload_n hx hb dL_law_1065 rfl (lv_at hl 1 rfl) ?_
    refine lv_iload hx hb dL_law_1066 (lv_at hl 5 rfl) ?_
    refine lv_iconst (v := 1) hx hb dL_law_1068 (by decide) ?_
    refine lv_iadd hx hb dL_law_1069 ?_
    refine lv_topi (fun x14 ex14 => ?_)
    obtain rfl : x14 = 1 := ex14.trans (by decide)
    refine va_sld hx hb hX hbl hbA hS (i := 1) (by unfold vp_in; decide) dL_law_1070 ?_
    refine lv_topi (fun x15 ex15 => ?_)
    obtain rfl : xs 1 = x15 := (ex15).symm
    refine lv_aload_n hx hb dL_law_1071 rfl (lv_at hl 1 rfl) ?_
    refine lv_iload hx hb dL_law_1072 (lv_at hl 5 rfl) ?_
    refine lv_iconst (v := 2) hx hb dL_law_1074 (by decide) ?_
    refine lv_iadd hx hb dL_law_1075 ?_
    refine lv_topi (fun x16 ex16 => ?_)
    obtain rfl : x16 = 2 := ex16.trans (by decide)
    refine va_sld hx hb hX hbl hbA hS (i := 2) (by unfold vp_in; decide) dL_law_1076 ?_
    refine lv_topi (fun x17 ex17 => ?_)
    obtain rfl : xs 2 = x17 := (ex17).symm
    refine lv_aload_n hx hb dL_law_1077 rfl (lv_at hl 1 rfl) ?_
    refine lv_iload hx hb dL_law_1078 (lv_at hl 5 rfl) ?_
    refine lv_iconst (v := 3) hx hb dL_law_1080 (by decide) ?_
    refine lv_iadd hx hb dL_law_1081 ?_
    refine lv_topi (fun x18 ex18 => ?_)
    obtain rfl : x18 = 3 := ex18.trans (by decide)
    refine va_sld hx hb hX hbl hbA hS (i := 3) (by unfold vp_in; decide) dL_law_1082 ?_
    refine lv_topi (fun x19 ex19 => ?_)
    obtain rfl : xs 3 = x19 := (ex19).symm
    refine lv_aload_n hx hb dL_law_1083 rfl (lv_at hl 1 rfl) ?_
    refine lv_iload hx hb dL_law_1084 (lv_at hl 5 rfl) ?_
    refine lv_iconst (v := 4) hx hb dL_law_1086 (by decide) ?_
    refine lv_iadd hx hb dL_law_1087 ?_
    refine lv_topi (fun x20 ex20 => ?_)
    obtain rfl : x20 = 4 := ex20.trans (by decide)
    refine va_sld hx hb hX hbl hbA hS (i := 4) (by unfold vp_in; decide) dL_law_1088 ?_
    refine lv_topi (fun x21 ex21 => ?_)
    obtain rfl : xs 4 = x21 := (ex21).symm
    refine lv_if_eq (tgt := 1096) hx hb dL_law_1089 (by decide) (fun c22 => ?_) (fun c22 => absurd c9 c22)
    refine lv_iconst (v := 0) hx hb dL_law_1096 (by decide) ?_
    have hPc := hP.sub (ws' := [(h0, .inr (15, mF q 0)), (q 1, .inl ((cm 1), 1749, .inl (fun _ => 0)))]) [0, 1] rfl
    have hDc := hD.sub (ws' := [(h0, .inr (15, mF q 0)), (q 1, .inl ((cm 1), 1749, .inl (fun _ => 0)))]) [0, 1] (by decide) rfl
    have hKc := hK.sub (tys' := [((cm 1), .int)]) [2] rfl
    have hFc := va_free (wc := [(h0, .inr (15, mF q 0)), (q 1, .inl ((cm 1), 1749, .inl (fun _ => 0)))]) hD hS hA [0, 1] rfl
    refine va_calli (va_runV (As := [.int (xs 1), .int (xs 2), .int (xs 3), .int 0]) (rest := []) ⟨hx, hb, hml, hown, hts⟩ (m_mill l dC dI h0 q cm (xs 1) (xs 2) (xs 3) 0 H.size ) (cwV 4 hts (goodIn_app (goodIn_r _ [58, 59, 60, 42] (by decide +kernel) (by decide +kernel)) (goodIn_ca (goodIn_r _ [36, 37, 38, 39, 40, 41, 42, 43, 44, 45, 46, 47, 48, 49, 50, 51, 52, 53, 54, 55, 56, 57] (by decide +kernel) (by decide +kernel)) (bs_in _ _))) rfl rfl rfl (by decide +kernel) ⟨(Nat.le_of_ble_eq_true rfl), (Nat.le_of_ble_eq_true rfl)⟩) ⟨fun a U g mk q => by obtain ⟨q0, q1, qP, qK, qD⟩ := q; exact ⟨q0, q1, qP, va_K.moved (u := U) (U := U.calling g mk a) (Vm.Alike.refl U.vm) qK, qD⟩, va_recv hKc hPc (ci := 15) (q0 := 0) rfl rfl, fun U hU hW => ⟨rfl, by rw [hU], by rw [hU]; exact hPc, va_K.moved hW.alike hKc, hDc.weaken (fun _ _ _ _ => trivial)⟩⟩ rfl rfl hl.1 rfl (lv_room (Nat.le_of_ble_eq_true rfl)) dL_law_1097 ⟨(Nat.le_of_ble_eq_true rfl), (Nat.le_of_ble_eq_true rfl)⟩) hS (fun q _ h => hFc q h) hFc (fun r24 u t H1 locs ht hvm hw25 hB hz1 hk1 hS => ?_)
    obtain ⟨fs26, rfl⟩ : ∃ z, z = u := ⟨_, rfl⟩
    obtain ⟨hP1, hD1⟩ := hB
    rw [ht] at hP1
    obtain ⟨hP, hD⟩ := va_join (wr := [(o0, .inl (ko, 1, .inr (.inl fu13)))]) (w1 := [(h0, .inr (15, fs26))]) hP hD [0, 1] [2] rfl rfl (by decide) (by decide) hk1 hFc hP1 hD1
    generalize H1 = H at hP hS ⊢
    have hP : va_P (dC, dI) vwCl [(o0, .inl (ko, 1, .inr (.inl fu13))), (h0, .inr (15, fs26))] H := hP
    have hD : va_D A [(o0, .inl (ko, 1, .inr (.inl fu13))), (h0, .inr (15, fs26))] := hD
    try dsimp only at hw25
    refine lv_istore (lv' := [(6, .int r24), (5, .int ((T_mill (xs 1) (xs 2) (xs 3) 0).1)), (0, .ref b), (1, .ref (a 0)), (2, .ref h0), (3, .ref o0), (4, .int 0)]) hx hb dL_law_1100 hl (by decide) rfl (fun ls hl => ?_)
    refine lv_aload_n hx hb dL_law_1102 rfl (lv_at hl 4 rfl) ?_
    have hPc := hP.sub (ws' := [(h0, .inr (15, fs26))]) [1] rfl
    have hDc := hD.sub (ws' := [(h0, .inr (15, fs26))]) [1] (by decide) rfl
    have hKc := hK.sub (tys' := []) [] rfl
    have hFc := va_free (wc := [(h0, .inr (15, fs26))]) hD hS hA [1] rfl
    refine va_calli (va_runV (As := []) (rest := []) ⟨hx, hb, hml, hown, hts⟩ (m_thrown l dC dI h0 fs26 ((T_mill (xs 1) (xs 2) (xs 3) 0).1) H.size hw25.1) (cwV 0 hts (goodIn_app (goodIn_r _ [62, 63, 64, 42] (by decide +kernel) (by decide +kernel)) (goodIn_ca (goodIn_r _ [61, 37] (by decide +kernel) (by decide +kernel)) (bs_in _ _))) rfl rfl rfl (by decide +kernel) ⟨(Nat.le_of_ble_eq_true rfl), (Nat.le_of_ble_eq_true rfl)⟩) ⟨fun a U g mk q => by obtain ⟨q0, q1, qP, qK, qD⟩ := q; exact ⟨q0, q1, qP, va_K.moved (u := U) (U := U.calling g mk a) (Vm.Alike.refl U.vm) qK, qD⟩, va_recv hKc hPc (ci := 15) (q0 := 0) rfl rfl, fun U hU hW => ⟨rfl, by rw [hU], by rw [hU]; exact hPc, va_K.moved hW.alike hKc, hDc.weaken (fun _ _ _ _ => trivial)⟩⟩ rfl rfl hl.1 rfl (lv_room (Nat.le_of_ble_eq_true rfl)) dL_law_1103 ⟨(Nat.le_of_ble_eq_true rfl), (Nat.le_of_ble_eq_true rfl)⟩) hS (fun q _ h => hFc q h) hFc (fun r28 u t H1 locs ht hvm hw29 hB hz1 hk1 hS => ?_)
    have hP1 : va_P (dC, dI) vwCl [] H1 := nilP
    have hD1 : va_D (va_A [(h0, .inr (15, fs26))] H.size) [] := nilD
    have hK := hK
    obtain ⟨hP, hD⟩ := va_join (wr := [(o0, .inl (ko, 1, .inr (.inl fu13)))]) (w1 := []) hP hD [1] [0] rfl rfl (by decide) (by decide) hk1 hFc hP1 hD1
    generalize H1 = H at hP hS ⊢
    have hP : va_P (dC, dI) vwCl [(o0, .inl (ko, 1, .inr (.inl fu13)))] H := hP
    have hD : va_D A [(o0, .inl (ko, 1, .inr (.inl fu13)))] := hD
    try dsimp only at hw29
    obtain rfl : (T_mill (xs 1) (xs 2) (xs 3) 0).1 = r28 := hw29.symm
    refine lv_iload hx hb dL_law_1106 (lv_at hl 1 rfl) ?_
    refine lv_icmp_eq (tgt := 1113) hx hb dL_law_1108 (by decide) (fun c30 => ?_) (fun c30 => absurd rfl c30)
    refine lv_iload hx hb dL_law_1113 (lv_at hl 1 rfl) ?_
    refine lv_if_ne (tgt := 1130) hx hb dL_law_1115 (by decide) (fun c31 => ?_) (fun c31 => ?_)
    · refine lv_goto (tgt := 3762) hx hb dL_law_1130 (by decide) ?_
      exact law_tail hx hb hr hlocks hX hbl hbA hAi hS (Nat.le_of_ble_eq_true rfl) (Nat.le_of_ble_eq_true rfl) ls (lv_sub hl [2, 6] rfl)
    · refine lv_aload_n hx hb dL_law_1118 rfl (lv_at hl 5 rfl) ?_
      refine lv_iconst (v := 0) hx hb dL_law_1119 (by decide) ?_
      refine va_lald hx hb hK hP 0 1 rfl rfl (by unfold vp_in; decide) dL_law_1120 ?_
      refine lv_iload hx hb dL_law_1121 (lv_at hl 0 rfl) ?_
      refine lv_i2l (v := r24.toInt64) hx hb dL_law_1123 rfl ?_
      refine W.lcmp hx hb dL_law_1124 ?_
      refine lv_topi (fun x32 ex32 => ?_)
      obtain rfl : x32 = 0 := ex32.trans (by rw [show fu13 (0 : Int32).toNatClampNeg = (T_mill (xs 1) (xs 2) (xs 3) 0).2.toInt64 from hw12.2 c31, hw25.2 c31]; exact lg_cmp_self _)
      refine lv_if_eq (tgt := 1130) hx hb dL_law_1125 (by decide) (fun c33 => ?_) (fun c33 => absurd c33 (by decide))
      refine lv_goto (tgt := 3762) hx hb dL_law_1130 (by decide) ?_
      exact law_tail hx hb hr hlocks hX hbl hbA hAi hS (Nat.le_of_ble_eq_true rfl) (Nat.le_of_ble_eq_true rfl) ls (lv_sub hl [2, 6] rfl)
  · refine lv_iconst (v := 1) hx hb dL_law_1053 (by decide) ?_
    refine lv_goto (tgt := 1058) hx hb dL_law_1054 (by decide) ?_
    refine lv_aload_n hx hb dL_law_1058 rfl (lv_at hl 3 rfl) ?_
    have hPc := hP.sub (ws' := [(a 0, .inr (14, [.ref (a 1), .ref (a 2), .ref (a 27), .ref (a 30), .ref (a 74), .ref (a 75), .null, .int 0, .int 0])), (a 2, .inr (6, [.ref (a 3), .ref (a 14), .ref (a 26), .int 0, .int 0])), (a 14, .inr (5, [.ref (a 15), .ref (a 16), .ref (a 17), .ref (a 18), .ref (a 19), .ref (a 20), .ref (a 21), .ref (a 22), .ref (a 23), .ref (a 24), .ref (a 25), .int 0, .int 0, .int 0, .int 0])), (a 15, .inl ((k 15), 96, .inl (fun _ => 0))), (o0, .inl (ko, 1, .inr (.inl (fun _ => 0))))]) [0, 1, 2, 3, 4] rfl
    have hDc := hD.sub (ws' := [(a 0, .inr (14, [.ref (a 1), .ref (a 2), .ref (a 27), .ref (a 30), .ref (a 74), .ref (a 75), .null, .int 0, .int 0])), (a 2, .inr (6, [.ref (a 3), .ref (a 14), .ref (a 26), .int 0, .int 0])), (a 14, .inr (5, [.ref (a 15), .ref (a 16), .ref (a 17), .ref (a 18), .ref (a 19), .ref (a 20), .ref (a 21), .ref (a 22), .ref (a 23), .ref (a 24), .ref (a 25), .int 0, .int 0, .int 0, .int 0])), (a 15, .inl ((k 15), 96, .inl (fun _ => 0))), (o0, .inl (ko, 1, .inr (.inl (fun _ => 0))))]) [0, 1, 2, 3, 4] (by decide) rfl
    have hKc := hK.sub (tys' := [((k 15), .boolean), (ko, .long)]) [0, 1] rfl
    have hFc := va_free (wc := [(a 0, .inr (14, [.ref (a 1), .ref (a 2), .ref (a 27), .ref (a 30), .ref (a 74), .ref (a 75), .null, .int 0, .int 0])), (a 2, .inr (6, [.ref (a 3), .ref (a 14), .ref (a 26), .int 0, .int 0])), (a 14, .inr (5, [.ref (a 15), .ref (a 16), .ref (a 17), .ref (a 18), .ref (a 19), .ref (a 20), .ref (a 21), .ref (a 22), .ref (a 23), .ref (a 24), .ref (a 25), .int 0, .int 0, .int 0, .int 0])), (a 15, .inl ((k 15), 96, .inl (fun _ => 0))), (o0, .inl (ko, 1, .inr (.inl (fun _ => 0))))]) hD hS hA [0, 1, 2, 3, 4] rfl
    refine va_calli (vx_runSW (As := [.ref (a 0), .int (xs 1), .int (xs 2), .int (xs 3), .int 1, .ref o0]) (rest := []) ⟨hx, hb, hml, hown, hts⟩ (l_mill l hlt dC dI a k o0 ko (fun _ => 0) (xs 1) (xs 2) (xs 3) 1 H.size ) (vx_cwSW 6 hts (goodIn_app (goodIn_r _ [33, 34, 35] (by decide +kernel) (by decide +kernel)) (goodIn_ca (goodIn_r _ [1, 2, 3, 4, 5, 6, 7, 8, 9, 10, 11, 12, 13, 14, 15, 16, 17, 18, 19, 20, 21, 22, 23, 24, 25, 26, 27, 28, 29, 30, 31, 32] (by decide +kernel) (by decide +kernel)) (bs_in _ _))) rfl rfl rfl (by decide +kernel) ⟨(Nat.le_of_ble_eq_true rfl), (Nat.le_of_ble_eq_true rfl)⟩) ⟨fun a U g mk q => by obtain ⟨q0, q1, qP, qK, qD, qE, qN⟩ := q; exact ⟨q0, q1, qP, va_K.moved (u := U) (U := U.calling g mk a) (Vm.Alike.refl U.vm) qK, qD, EV.blind g mk a qE, NC.blind g mk a qN⟩, fun U hU hW => ⟨rfl, by rw [hU], by rw [hU]; exact hPc, va_K.moved hW.alike hKc, hDc.weaken (fun _ _ _ _ => trivial), hE.call hS hFc hU hW, hN.call hW⟩⟩ rfl rfl hl.1 rfl (lv_room (Nat.le_of_ble_eq_true rfl)) dL_law_1059 ⟨(Nat.le_of_ble_eq_true rfl), (Nat.le_of_ble_eq_true rfl)⟩) hS (fun q _ h => hFc q h) hFc (fun r35 u t H1 locs ht hvm hw36 hB hz1 hk1 hS => ?_)
    obtain ⟨fu37, rfl⟩ : ∃ z, z = u := ⟨_, rfl⟩
    obtain ⟨hP1, hD1⟩ := hB
    rw [ht] at hP1
    obtain ⟨hP, hD⟩ := va_join (wr := [(h0, .inr (15, mF q 0)), (q 1, .inl ((cm 1), 1749, .inl (fun _ => 0)))]) (w1 := [(o0, .inl (ko, 1, .inr (.inl fu37)))]) hP hD [0, 1, 2, 3, 4] [5, 6] rfl rfl (by decide) (by decide) hk1 hFc hP1 hD1
    generalize H1 = H at hP hS ⊢
    have hP : va_P (dC, dI) vwCl [(h0, .inr (15, mF q 0)), (q 1, .inl ((cm 1), 1749, .inl (fun _ => 0))), (o0, .inl (ko, 1, .inr (.inl fu37)))] H := hP
    have hD : va_D A [(h0, .inr (15, mF q 0)), (q 1, .inl ((cm 1), 1749, .inl (fun _ => 0))), (o0, .inl (ko, 1, .inr (.inl fu37)))] := hD
    try dsimp only at hw36
    obtain rfl : (T_mill (xs 1) (xs 2) (xs 3) 1).1 = r35 := hw36.1.symm
    refine lv_istore (lv' := [(5, .int ((T_mill (xs 1) (xs 2) (xs 3) 1).1)), (0, .ref b), (1, .ref (a 0)), (2, .ref h0), (3, .ref o0), (4, .int 0)]) hx hb dL_law_1062 hl (by decide) rfl (fun ls hl => ?_)
    refine lv_aload_n hx hb dL_law_1064 rfl (lv_at hl 3 rfl) ?_
    refine lv_aload_n hx hb dL_law_1065 rfl (lv_at hl 1 rfl) ?_
    refine lv_iload hx hb dL_law_1066 (lv_at hl 5 rfl) ?_
    refine lv_iconst (v := 1) hx hb dL_law_1068 (by decide) ?_
    refine lv_iadd hx hb dL_law_1069 ?_
    refine lv_topi (fun x38 ex38 => ?_)
    obtain rfl : x38 = 1 := ex38.trans (by decide)
    refine va_sld hx hb hX hbl hbA hS (i := 1) (by unfold vp_in; decide) dL_law_1070 ?_
    refine lv_topi (fun x39 ex39 => ?_)
    obtain rfl : xs 1 = x39 := (ex39).symm
    refine lv_aload_n hx hb dL_law_1071 rfl (lv_at hl 1 rfl) ?_
    refine lv_iload hx hb dL_law_1072 (lv_at hl 5 rfl) ?_
    refine lv_iconst (v := 2) hx hb dL_law_1074 (by decide) ?_
    refine lv_iadd hx hb dL_law_1075 ?_
    refine lv_topi (fun x40 ex40 => ?_)
    obtain rfl : x40 = 2 := ex40.trans (by decide)
    refine va_sld hx hb hX hbl hbA hS (i := 2) (by unfold vp_in; decide) dL_law_1076 ?_
    refine lv_topi (fun x41 ex41 => ?_)
    obtain rfl : xs 2 = x41 := (ex41).symm
    refine lv_aload_n hx hb dL_law_1077 rfl (lv_at hl 1 rfl) ?_
    refine lv_iload hx hb dL_law_1078 (lv_at hl 5 rfl) ?_
    refine lv_iconst (v := 3) hx hb dL_law_1080 (by decide) ?_
    refine lv_iadd hx hb dL_law_1081 ?_
    refine lv_topi (fun x42 ex42 => ?_)
    obtain rfl : x42 = 3 := ex42.trans (by decide)
    refine va_sld hx hb hX hbl hbA hS (i := 3) (by unfold vp_in; decide) dL_law_1082 ?_
    refine lv_topi (fun x43 ex43 => ?_)
    obtain rfl : xs 3 = x43 := (ex43).symm
    refine lv_aload_n hx hb dL_law_1083 rfl (lv_at hl 1 rfl) ?_
    refine lv_iload hx hb dL_law_1084 (lv_at hl 5 rfl) ?_
    refine lv_iconst (v := 4) hx hb dL_law_1086 (by decide) ?_
    refine lv_iadd hx hb dL_law_1087 ?_
    refine lv_topi (fun x44 ex44 => ?_)
    obtain rfl : x44 = 4 := ex44.trans (by decide)
    refine va_sld hx hb hX hbl hbA hS (i := 4) (by unfold vp_in; decide) dL_law_1088 ?_
    refine lv_topi (fun x45 ex45 => ?_)
    obtain rfl : xs 4 = x45 := (ex45).symm
    refine lv_if_eq (tgt := 1096) hx hb dL_law_1089 (by decide) (fun c46 => absurd c46 c9) (fun c46 => ?_)
    refine lv_iconst (v := 1) hx hb dL_law_1092 (by decide) ?_
    refine lv_goto (tgt := 1097) hx hb dL_law_1093 (by decide) ?_
    have hPc := hP.sub (ws' := [(h0, .inr (15, mF q 0)), (q 1, .inl ((cm 1), 1749, .inl (fun _ => 0)))]) [0, 1] rfl
    have hDc := hD.sub (ws' := [(h0, .inr (15, mF q 0)), (q 1, .inl ((cm 1), 1749, .inl (fun _ => 0)))]) [0, 1] (by decide) rfl
    have hKc := hK.sub (tys' := [((cm 1), .int)]) [2] rfl
    have hFc := va_free (wc := [(h0, .inr (15, mF q 0)), (q 1, .inl ((cm 1), 1749, .inl (fun _ => 0)))]) hD hS hA [0, 1] rfl
    refine va_calli (va_runV (As := [.int (xs 1), .int (xs 2), .int (xs 3), .int 1]) (rest := []) ⟨hx, hb, hml, hown, hts⟩ (m_mill l dC dI h0 q cm (xs 1) (xs 2) (xs 3) 1 H.size ) (cwV 4 hts (goodIn_app (goodIn_r _ [58, 59, 60, 42] (by decide +kernel) (by decide +kernel)) (goodIn_ca (goodIn_r _ [36, 37, 38, 39, 40, 41, 42, 43, 44, 45, 46, 47, 48, 49, 50, 51, 52, 53, 54, 55, 56, 57] (by decide +kernel) (by decide +kernel)) (bs_in _ _))) rfl rfl rfl (by decide +kernel) ⟨(Nat.le_of_ble_eq_true rfl), (Nat.le_of_ble_eq_true rfl)⟩) ⟨fun a U g mk q => by obtain ⟨q0, q1, qP, qK, qD⟩ := q; exact ⟨q0, q1, qP, va_K.moved (u := U) (U := U.calling g mk a) (Vm.Alike.refl U.vm) qK, qD⟩, va_recv hKc hPc (ci := 15) (q0 := 0) rfl rfl, fun U hU hW => ⟨rfl, by rw [hU], by rw [hU]; exact hPc, va_K.moved hW.alike hKc, hDc.weaken (fun _ _ _ _ => trivial)⟩⟩ rfl rfl hl.1 rfl (lv_room (Nat.le_of_ble_eq_true rfl)) dL_law_1097 ⟨(Nat.le_of_ble_eq_true rfl), (Nat.le_of_ble_eq_true rfl)⟩) hS (fun q _ h => hFc q h) hFc (fun r48 u t H1 locs ht hvm hw49 hB hz1 hk1 hS => ?_)
    obtain ⟨fs50, rfl⟩ : ∃ z, z = u := ⟨_, rfl⟩
    obtain ⟨hP1, hD1⟩ := hB
    rw [ht] at hP1
    obtain ⟨hP, hD⟩ := va_join (wr := [(o0, .inl (ko, 1, .inr (.inl fu37)))]) (w1 := [(h0, .inr (15, fs50))]) hP hD [0, 1] [2] rfl rfl (by decide) (by decide) hk1 hFc hP1 hD1
    generalize H1 = H at hP hS ⊢
    have hP : va_P (dC, dI) vwCl [(o0, .inl (ko, 1, .inr (.inl fu37))), (h0, .inr (15, fs50))] H := hP
    have hD : va_D A [(o0, .inl (ko, 1, .inr (.inl fu37))), (h0, .inr (15, fs50))] := hD
    try dsimp only at hw49
    refine lv_istore (lv' := [(6, .int r48), (5, .int ((T_mill (xs 1) (xs 2) (xs 3) 1).1)), (0, .ref b), (1, .ref (a 0)), (2, .ref h0), (3, .ref o0), (4, .int 0)]) hx hb dL_law_1100 hl (by decide) rfl (fun ls hl => ?_)
    refine lv_aload_n hx hb dL_law_1102 rfl (lv_at hl 4 rfl) ?_
    have hPc := hP.sub (ws' := [(h0, .inr (15, fs50))]) [1] rfl
    have hDc := hD.sub (ws' := [(h0, .inr (15, fs50))]) [1] (by decide) rfl
    have hKc := hK.sub (tys' := []) [] rfl
    have hFc := va_free (wc := [(h0, .inr (15, fs50))]) hD hS hA [1] rfl
    refine va_calli (va_runV (As := []) (rest := []) ⟨hx, hb, hml, hown, hts⟩ (m_thrown l dC dI h0 fs50 ((T_mill (xs 1) (xs 2) (xs 3) 1).1) H.size hw49.1) (cwV 0 hts (goodIn_app (goodIn_r _ [62, 63, 64, 42] (by decide +kernel) (by decide +kernel)) (goodIn_ca (goodIn_r _ [61, 37] (by decide +kernel) (by decide +kernel)) (bs_in _ _))) rfl rfl rfl (by decide +kernel) ⟨(Nat.le_of_ble_eq_true rfl), (Nat.le_of_ble_eq_true rfl)⟩) ⟨fun a U g mk q => by obtain ⟨q0, q1, qP, qK, qD⟩ := q; exact ⟨q0, q1, qP, va_K.moved (u := U) (U := U.calling g mk a) (Vm.Alike.refl U.vm) qK, qD⟩, va_recv hKc hPc (ci := 15) (q0 := 0) rfl rfl, fun U hU hW => ⟨rfl, by rw [hU], by rw [hU]; exact hPc, va_K.moved hW.alike hKc, hDc.weaken (fun _ _ _ _ => trivial)⟩⟩ rfl rfl hl.1 rfl (lv_room (Nat.le_of_ble_eq_true rfl)) dL_law_1103 ⟨(Nat.le_of_ble_eq_true rfl), (Nat.le_of_ble_eq_true rfl)⟩) hS (fun q _ h => hFc q h) hFc (fun r52 u t H1 locs ht hvm hw53 hB hz1 hk1 hS => ?_)
    have hP1 : va_P (dC, dI) vwCl [] H1 := nilP
    have hD1 : va_D (va_A [(h0, .inr (15, fs50))] H.size) [] := nilD
    have hK := hK
    obtain ⟨hP, hD⟩ := va_join (wr := [(o0, .inl (ko, 1, .inr (.inl fu37)))]) (w1 := []) hP hD [1] [0] rfl rfl (by decide) (by decide) hk1 hFc hP1 hD1
    generalize H1 = H at hP hS ⊢
    have hP : va_P (dC, dI) vwCl [(o0, .inl (ko, 1, .inr (.inl fu37)))] H := hP
    have hD : va_D A [(o0, .inl (ko, 1, .inr (.inl fu37)))] := hD
    try dsimp only at hw53
    obtain rfl : (T_mill (xs 1) (xs 2) (xs 3) 1).1 = r52 := hw53.symm
    refine lv_iload hx hb dL_law_1106 (lv_at hl 1 rfl) ?_
    refine lv_icmp_eq (tgt := 1113) hx hb dL_law_1108 (by decide) (fun c54 => ?_) (fun c54 => absurd rfl c54)
    refine lv_iload hx hb dL_law_1113 (lv_at hl 1 rfl) ?_
    refine lv_if_ne (tgt := 1130) hx hb dL_law_1115 (by decide) (fun c55 => ?_) (fun c55 => ?_)
    · refine lv_goto (tgt := 3762) hx hb dL_law_1130 (by decide) ?_
      exact law_tail hx hb hr hlocks hX hbl hbA hAi hS (Nat.le_of_ble_eq_true rfl) (Nat.le_of_ble_eq_true rfl) ls (lv_sub hl [2, 6] rfl)
    · refine lv_aload_n hx hb dL_law_1118 rfl (lv_at hl 5 rfl) ?_
      refine lv_iconst (v := 0) hx hb dL_law_1119 (by decide) ?_
      refine va_lald hx hb hK hP 0 1 rfl rfl (by unfold vp_in; decide) dL_law_1120 ?_
      refine lv_iload hx hb dL_law_1121 (lv_at hl 0 rfl) ?_
      refine lv_i2l (v := r48.toInt64) hx hb dL_law_1123 rfl ?_
      refine W.lcmp hx hb dL_law_1124 ?_
      refine lv_topi (fun x56 ex56 => ?_)
      obtain rfl : x56 = 0 := ex56.trans (by rw [show fu37 (0 : Int32).toNatClampNeg = (T_mill (xs 1) (xs 2) (xs 3) 1).2.toInt64 from hw36.2 c55, hw49.2 c55]; exact lg_cmp_self _)
      refine lv_if_eq (tgt := 1130) hx hb dL_law_1125 (by decide) (fun c57 => ?_) (fun c57 => absurd c57 (by decide))
      refine lv_goto (tgt := 3762) hx hb dL_law_1130 (by decide) ?_
      exact law_tail hx hb hr hlocks hX hbl hbA hAi hS (Nat.le_of_ble_eq_true rfl) (Nat.le_of_ble_eq_true rfl) ls (lv_sub hl [2, 6] rfl)
def w_law_11 : List Cond := .initialized RL :: ([.codeWith yL_sluice cL_sluice 6 (some .int) [(0, 12, 15, 13), (0, 12, 19, 15), (0, 12, 23, 45)], .code yX11_sluice cX11_sluice 4 (some .int), .code yX11_needSquare cX11_needSquare 1 none, .code yX11_within cX11_within 3 (some .boolean), .methodLink RX11 58 yX11_within, .static yX11_within, .initialized RX11, .classLink RX11 557 "java/lang/IndexOutOfBoundsException", .initialized "java/lang/IndexOutOfBoundsException", .methodLink RX11 55 yX11_needSquare, .static yX11_needSquare, .code yX11_needNumbers cX11_needNumbers 1 none, .methodLink RX11 62 yX11_needNumbers, .static yX11_needNumbers, .code yX11_needRoomForWork cX11_needRoomForWork 1 none, .fieldLink RX11 16 "SeaLand" "lake" "LSeaLand$Lake;", .methodLink RX11 149 yX11_needRoomForWork, .instanceMethod yX11_needRoomForWork, .selects RX11 yX11_needRoomForWork yX11_needRoomForWork, .code yX3_isFreeLand cX3_isFreeLand 2 (some .boolean), .fieldLink RX3 21 "SeaLand$Lake" "ground" "LSeaLand$Ground;", .methodLink RX11 152 yX3_isFreeLand, .instanceMethod yX3_isFreeLand, .selects RX3 yX3_isFreeLand yX3_isFreeLand, .initialized RX3, .classLink RX11 547 "java/lang/IllegalArgumentException", .initialized "java/lang/IllegalArgumentException", .methodLink RL 56 yX11_sluice, .instanceMethod yX11_sluice, .selects RX11 yX11_sluice yX11_sluice, .classLink RL 13 "java/lang/IndexOutOfBoundsException", .classLink RL 15 "java/lang/IllegalArgumentException", .methodLink RL 220 yL_sluice, .static yL_sluice, .initialized RL, .code yX12_sluice cX12_sluice 4 (some .int), .fieldLink RX12 194 "SeaLandModel" "thrown" "I", .code yX12_noSquare cX12_noSquare 1 (some .boolean), .code yX12_in cX12_in 3 (some .boolean), .methodLink RX12 197 yX12_in, .static yX12_in, .initialized RX12, .methodLink RX12 220 yX12_noSquare, .static yX12_noSquare, .code yX12_throwsIf cX12_throwsIf 3 (some .boolean), .methodLink RX12 224 yX12_throwsIf, .instanceMethod yX12_throwsIf, .selects RX12 yX12_throwsIf yX12_throwsIf, .fieldLink RX12 9 "SeaLandModel" "world" "[I", .code yX12_noPlace cX12_noPlace 2 (some .boolean), .code yX12_isLand cX12_isLand 2 (some .boolean), .methodLink RX12 235 yX12_isLand, .instanceMethod yX12_isLand, .selects RX12 yX12_isLand yX12_isLand, .methodLink RX12 259 yX12_noPlace, .instanceMethod yX12_noPlace, .selects RX12 yX12_noPlace yX12_noPlace, .methodLink RL 222 yX12_sluice, .instanceMethod yX12_sluice, .selects RX12 yX12_sluice yX12_sluice, .code yX12_thrown cX12_thrown 1 (some .int), .methodLink RL 187 yX12_thrown, .instanceMethod yX12_thrown, .selects RX12 yX12_thrown yX12_thrown] ++ bs)
set_option maxRecDepth 100000 in
theorem wm_11 : ∀ w ∈ w_law_11, w ∈ lw_tbl := lw_ins (List.mem_of_getElem? (i := 110) (by decide +kernel)) (lw_in _ (1168 :: 1172 :: 899 :: 902 :: 900 :: 901 :: 111 :: 903 :: 126 :: 897 :: 898 :: 918 :: 916 :: 917 :: 1072 :: 589 :: 1069 :: 1071 :: 7 :: 1092 :: 347 :: 1089 :: 1090 :: 1091 :: 112 :: 919 :: 129 :: 1169 :: 1170 :: 1171 :: 811 :: 891 :: 1166 :: 1167 :: 110 :: 2331 :: 1969 :: 2214 :: 2217 :: 2215 :: 2216 :: 122 :: 2212 :: 2213 :: 2221 :: 2218 :: 2220 :: 44 :: 1970 :: 2280 :: 2234 :: 2231 :: 2233 :: 46 :: 2277 :: 2279 :: 51 :: 2328 :: 2329 :: 2330 :: 2207 :: 2204 :: 2205 :: 2206 :: []) (by decide +kernel))
set_option maxHeartbeats 4000000 in
set_option maxRecDepth 100000 in
/-- sluice -/
theorem law_11 {p : Program} {e : Env} {s : State} {m : MethodId} {below : List Frame} {meth : Method} {c : Code} (l : Launch) (hlt : l.stackTraces = false) {b : Nat} {xs : Nat → Int32} {A : Nat → Prop} (hx : p.tables.exec = Jvm.exec) (hb : c.code = code) (hr : meth.sig.returnType = ret) (hml : c.maxLocals = 7) (hown : s.vm.findClass RL = some m.cls) (hts : ∀ w ∈ w_law_11, w.before #[Value.ref b] s = true) (hX : va_X b 8 xs s s.heap) (hbl : b < s.heap.size) (hbA : ¬ A b) (hlocks : meth.locks = false) (hE : EV A s s.heap) (hN : NC s) (hA : ∀ q : Nat, s.heap.size ≤ q → A q) (hAi : ∀ q : Nat, A q → s.heap.size ≤ q) {dC : Nat → ClassId} {dI : Nat → Nat → Nat} (a : Nat → Nat) (k : Nat → ClassId) (h0 : Nat) (q : Nat → Nat) (cm : Nat → ClassId) (o0 : Nat) (ko : ClassId) (H : Heap) (locs : List Loc) (hK : va_K (dC, dI) vwCl [((k 15), .boolean), (ko, .long), ((cm 1), .int)] s) (hP : va_P (dC, dI) vwCl [(a 0, .inr (14, [.ref (a 1), .ref (a 2), .ref (a 27), .ref (a 30), .ref (a 74), .ref (a 75), .null, .int 0, .int 0])), (a 2, .inr (6, [.ref (a 3), .ref (a 14), .ref (a 26), .int 0, .int 0])), (a 14, .inr (5, [.ref (a 15), .ref (a 16), .ref (a 17), .ref (a 18), .ref (a 19), .ref (a 20), .ref (a 21), .ref (a 22), .ref (a 23), .ref (a 24), .ref (a 25), .int 0, .int 0, .int 0, .int 0])), (a 15, .inl ((k 15), 96, .inl (fun _ => 0))), (o0, .inl (ko, 1, .inr (.inl (fun _ => 0)))), (h0, .inr (15, mF q 0)), (q 1, .inl ((cm 1), 1749, .inl (fun _ => 0)))] H) (hD : va_D A [(a 0, .inr (14, [.ref (a 1), .ref (a 2), .ref (a 27), .ref (a 30), .ref (a 74), .ref (a 75), .null, .int 0, .int 0])), (a 2, .inr (6, [.ref (a 3), .ref (a 14), .ref (a 26), .int 0, .int 0])), (a 14, .inr (5, [.ref (a 15), .ref (a 16), .ref (a 17), .ref (a 18), .ref (a 19), .ref (a 20), .ref (a 21), .ref (a 22), .ref (a 23), .ref (a 24), .ref (a 25), .int 0, .int 0, .int 0, .int 0])), (a 15, .inl ((k 15), 96, .inl (fun _ => 0))), (o0, .inl (ko, 1, .inr (.inl (fun _ => 0)))), (h0, .inr (15, mF q 0)), (q 1, .inl ((cm 1), 1749, .inl (fun _ => 0)))]) (hS : va_S A s.heap H locs) (ls : Array Slot) (hl : lv_has ls 7 [(0, .ref b), (1, .ref (a 0)), (2, .ref h0), (3, .ref o0), (4, .int 0)]) : W p l e room_1 s m #[Value.ref b] below meth c H locs 238 27427 (lw_Z below #[Value.ref b] s) (F0 m 1133 ls []) := by
  refine lv_aload_n hx hb dL_law_1133 rfl (lv_at hl 1 rfl) ?_
  refine lv_aload_n hx hb dL_law_1134 rfl (lv_at hl 0 rfl) ?_
  refine lv_iload hx hb dL_law_1135 (lv_at hl 4 rfl) ?_
  refine lv_iconst (v := 1) hx hb dL_law_1137 (by decide) ?_
  refine lv_iadd hx hb dL_law_1138 ?_
  refine lv_topi (fun x1 ex1 => ?_)
  obtain rfl : x1 = 1 := ex1.trans (by decide)
  refine va_sld hx hb hX hbl hbA hS (i := 1) (by unfold vp_in; decide) dL_law_1139 ?_
  refine lv_topi (fun x2 ex2 => ?_)
  obtain rfl : xs 1 = x2 := (ex2).symm
  refine lv_aload_n hx hb dL_law_1140 rfl (lv_at hl 0 rfl) ?_
  refine lv_iload hx hb dL_law_1141 (lv_at hl 4 rfl) ?_
  refine lv_iconst (v := 2) hx hb dL_law_1143 (by decide) ?_
  refine lv_iadd hx hb dL_law_1144 ?_
  refine lv_topi (fun x3 ex3 => ?_)
  obtain rfl : x3 = 2 := ex3.trans (by decide)
  refine va_sld hx hb hX hbl hbA hS (i := 2) (by unfold vp_in; decide) dL_law_1145 ?_
  refine lv_topi (fun x4 ex4 => ?_)
  obtain rfl : xs 2 = x4 := (ex4).symm
  refine lv_aload_n hx hb dL_law_1146 rfl (lv_at hl 0 rfl) ?_
  refine lv_iload hx hb dL_law_1147 (lv_at hl 4 rfl) ?_
  refine lv_iconst (v := 3) hx hb dL_law_1149 (by decide) ?_
  refine lv_iadd hx hb dL_law_1150 ?_
  refine lv_topi (fun x5 ex5 => ?_)
  obtain rfl : x5 = 3 := ex5.trans (by decide)
  refine va_sld hx hb hX hbl hbA hS (i := 3) (by unfold vp_in; decide) dL_law_1151 ?_
  refine lv_topi (fun x6 ex6 => ?_)
  obtain rfl : xs 3 = x6 := (ex6).symm
  refine lv_aload_n hx hb dL_law_1152 rfl (lv_at hl 3 rfl) ?_
  have hPc := hP.sub (ws' := [(a 0, .inr (14, [.ref (a 1), .ref (a 2), .ref (a 27), .ref (a 30), .ref (a 74), .ref (a 75), .null, .int 0, .int 0])), (a 2, .inr (6, [.ref (a 3), .ref (a 14), .ref (a 26), .int 0, .int 0])), (a 14, .inr (5, [.ref (a 15), .ref (a 16), .ref (a 17), .ref (a 18), .ref (a 19), .ref (a 20), .ref (a 21), .ref (a 22), .ref (a 23), .ref (a 24), .ref (a 25), .int 0, .int 0, .int 0, .int 0])), (a 15, .inl ((k 15), 96, .inl (fun _ => 0))), (o0, .inl (ko, 1, .inr (.inl (fun _ => 0))))]) [0, 1, 2, 3, 4] rfl
  have hDc := hD.sub (ws' := [(a 0, .inr (14, [.ref (a 1), .ref (a 2), .ref (a 27), .ref (a 30), .ref (a 74), .ref (a 75), .null, .int 0, .int 0])), (a 2, .inr (6, [.ref (a 3), .ref (a 14), .ref (a 26), .int 0, .int 0])), (a 14, .inr (5, [.ref (a 15), .ref (a 16), .ref (a 17), .ref (a 18), .ref (a 19), .ref (a 20), .ref (a 21), .ref (a 22), .ref (a 23), .ref (a 24), .ref (a 25), .int 0, .int 0, .int 0, .int 0])), (a 15, .inl ((k 15), 96, .inl (fun _ => 0))), (o0, .inl (ko, 1, .inr (.inl (fun _ => 0))))]) [0, 1, 2, 3, 4] (by decide) rfl
  have hKc := hK.sub (tys' := [((k 15), .boolean), (ko, .long)]) [0, 1] rfl
  have hFc := va_free (wc := [(a 0, .inr (14, [.ref (a 1), .ref (a 2), .ref (a 27), .ref (a 30), .ref (a 74), .ref (a 75), .null, .int 0, .int 0])), (a 2, .inr (6, [.ref (a 3), .ref (a 14), .ref (a 26), .int 0, .int 0])), (a 14, .inr (5, [.ref (a 15), .ref (a 16), .ref (a 17), .ref (a 18), .ref (a 19), .ref (a 20), .ref (a 21), .ref (a 22), .ref (a 23), .ref (a 24), .ref (a 25), .int 0, .int 0, .int 0, .int 0])), (a 15, .inl ((k 15), 96, .inl (fun _ => 0))), (o0, .inl (ko, 1, .inr (.inl (fun _ => 0))))]) hD hS hA [0, 1, 2, 3, 4] rfl
  refine va_calli (vx_runSW (As := [.ref (a 0), .int (xs 1), .int (xs 2), .int (xs 3), .ref o0]) (rest := []) ⟨hx, hb, hml, hown, hts⟩ (l_sluice l hlt dC dI a k o0 ko (fun _ => 0) (xs 1) (xs 2) (xs 3) H.size ) (vx_cwSW 5 hts (goodIn_app (goodIn_r _ [33, 34, 35] (by decide +kernel) (by decide +kernel)) (goodIn_ca (goodIn_r _ [1, 2, 3, 4, 5, 6, 7, 8, 9, 10, 11, 12, 13, 14, 15, 16, 17, 18, 19, 20, 21, 22, 23, 24, 25, 26, 27, 28, 29, 30, 31, 32] (by decide +kernel) (by decide +kernel)) (bs_in _ _))) rfl rfl rfl (by decide +kernel) ⟨(Nat.le_of_ble_eq_true rfl), (Nat.le_of_ble_eq_true rfl)⟩) ⟨fun a U g mk q => by obtain ⟨q0, q1, qP, qK, qD, qE, qN⟩ := q; exact ⟨q0, q1, qP, va_K.moved (u := U) (U := U.calling g mk a) (Vm.Alike.refl U.vm) qK, qD, EV.blind g mk a qE, NC.blind g mk a qN⟩, fun U hU hW => ⟨rfl, by rw [hU], by rw [hU]; exact hPc, va_K.moved hW.alike hKc, hDc.weaken (fun _ _ _ _ => trivial), hE.call hS hFc hU hW, hN.call hW⟩⟩ rfl rfl hl.1 rfl (lv_room (Nat.le_of_ble_eq_true rfl)) dL_law_1153 ⟨(Nat.le_of_ble_eq_true rfl), (Nat.le_of_ble_eq_true rfl)⟩) hS (fun q _ h => hFc q h) hFc (fun r8 u t H1 locs ht hvm hw9 hB hz1 hk1 hS => ?_)
  obtain ⟨fu10, rfl⟩ : ∃ z, z = u := ⟨_, rfl⟩
  obtain ⟨hP1, hD1⟩ := hB
  rw [ht] at hP1
  obtain ⟨hP, hD⟩ := va_join (wr := [(h0, .inr (15, mF q 0)), (q 1, .inl ((cm 1), 1749, .inl (fun _ => 0)))]) (w1 := [(o0, .inl (ko, 1, .inr (.inl fu10)))]) hP hD [0, 1, 2, 3, 4] [5, 6] rfl rfl (by decide) (by decide) hk1 hFc hP1 hD1
  generalize H1 = H at hP hS ⊢
  have hP : va_P (dC, dI) vwCl [(h0, .inr (15, mF q 0)), (q 1, .inl ((cm 1), 1749, .inl (fun _ => 0))), (o0, .inl (ko, 1, .inr (.inl fu10)))] H := hP
  have hD : va_D A [(h0, .inr (15, mF q 0)), (q 1, .inl ((cm 1), 1749, .inl (fun _ => 0))), (o0, .inl (ko, 1, .inr (.inl fu10)))] := hD
  try dsimp only at hw9
  obtain rfl : (T_sluice (xs 1) (xs 2) (xs 3)).1 = r8 := hw9.1.symm
  refine lv_istore (lv' := [(5, .int ((T_sluice (xs 1) (xs 2) (xs 3)).1)), (0, .ref b), (1, .ref (a 0)), (2, .ref h0), (3, .ref o0), (4, .int 0)]) hx hb dL_law_1156 hl (by decide) rfl (fun ls hl => ?_)
  refine lv_aload_n hx hb dL_law_1158 rfl (lv_at hl 3 rfl) ?_
  refine lv_aload_n hx hb dL_law_1159 rfl (lv_at hl 1 rfl) ?_
  refine lv_iload hx hb dL_law_1160 (lv_at hl 5 rfl) ?_
  refine lv_iconst (v := 1) hx hb dL_law_1162 (by decide) ?_
  refine lv_iadd hx hb dL_law_1163 ?_
  refine lv_topi (fun x11 ex11 => ?_)
  obtain rfl : x11 = 1 := ex11.trans (by decide)
  refine va_sld hx hb hX hbl hbA hS (i := 1) (by unfold vp_in; decide) dL_law_1164 ?_
  refine lv_topi (fun x12 ex12 => ?_)
  obtain rfl : xs 1 = x12 := (ex12).symm
  refine lv_aload_n hx hb dL_law_1165 rfl (lv_at hl 1 rfl) ?_
  refine lv_iload hx hb dL_law_1166 (lv_at hl 5 rfl) ?_
  refine lv_iconst (v := 2) hx hb dL_law_1168 (by decide) ?_
  refine lv_iadd hx hb dL_law_1169 ?_
  refine lv_topi (fun x13 ex13 => ?_)
  obtain rfl : x13 = 2 := ex13.trans (by decide)
  refine va_sld hx hb hX hbl hbA hS (i := 2) (by unfold vp_in; decide) dL_law_1170 ?_
  refine lv_topi (fun x14 ex14 => ?_)
  obtain rfl : xs 2 = x14 := (ex14).symm
  refine lv_aload_n hx hb dL_law_1171 rfl (lv_at hl 1 rfl) ?_
  refine lv_iload hx hb dL_law_1172 (lv_at hl 5 rfl) ?_
  refine lv_iconst (v := 3) hx hb dL_law_1174 (by decide) ?_
  refine lv_iadd hx hb dL_law_1175 ?_
  refine lv_topi (fun x15 ex15 => ?_)
  obtain rfl : x15 = 3 := ex15.trans (by decide)
  refine va_sld hx hb hX hbl hbA hS (i := 3) (by unfold vp_in; decide) dL_law_1176 ?_
  refine lv_topi (fun x16 ex16 => ?_)
  obtain rfl : xs 3 = x16 := (ex16).symm
  have hPc := hP.sub (ws' := [(h0, .inr (15, mF q 0)), (q 1, .inl ((cm 1), 1749, .inl (fun _ => 0)))]) [0, 1] rfl
  have hDc := hD.sub (ws' := [(h0, .inr (15, mF q 0)), (q 1, .inl ((cm 1), 1749, .inl (fun _ => 0)))]) [0, 1] (by decide) rfl
  have hKc := hK.sub (tys' := [((cm 1), .int)]) [2] rfl
  have hFc := va_free (wc := [(h0, .inr (15, mF q 0)), (q 1, .inl ((cm 1), 1749, .inl (fun _ => 0)))]) hD hS hA [0, 1] rfl
  refine va_calli (va_runV (As := [.int (xs 1), .int (xs 2), .int (xs 3)]) (rest := []) ⟨hx, hb, hml, hown, hts⟩ (m_sluice l dC dI h0 q cm (xs 1) (xs 2) (xs 3) H.size ) (cwV 3 hts (goodIn_app (goodIn_r _ [58, 59, 60, 42] (by decide +kernel) (by decide +kernel)) (goodIn_ca (goodIn_r _ [36, 37, 38, 39, 40, 41, 42, 43, 44, 45, 46, 47, 48, 49, 50, 51, 52, 53, 54, 55, 56, 57] (by decide +kernel) (by decide +kernel)) (bs_in _ _))) rfl rfl rfl (by decide +kernel) ⟨(Nat.le_of_ble_eq_true rfl), (Nat.le_of_ble_eq_true rfl)⟩) ⟨fun a U g mk q => by obtain ⟨q0, q1, qP, qK, qD⟩ := q; exact ⟨q0, q1, qP, va_K.moved (u := U) (U := U.calling g mk a) (Vm.Alike.refl U.vm) qK, qD⟩, va_recv hKc hPc (ci := 15) (q0 := 0) rfl rfl, fun U hU hW => ⟨rfl, by rw [hU], by rw [hU]; exact hPc, va_K.moved hW.alike hKc, hDc.weaken (fun _ _ _ _ => trivial)⟩⟩ rfl rfl hl.1 rfl (lv_room (Nat.le_of_ble_eq_true rfl)) dL_law_1177 ⟨(Nat.le_of_ble_eq_true rfl), (Nat.le_of_ble_eq_true rfl)⟩) hS (fun q _ h => hFc q h) hFc (fun r18 u t H1 locs ht hvm hw19 hB hz1 hk1 hS => ?_)
  obtain ⟨fs20, rfl⟩ : ∃ z, z = u := ⟨_, rfl⟩
  obtain ⟨hP1, hD1⟩ := hB
  rw [ht] at hP1
  obtain ⟨hP, hD⟩ := va_join (wr := [(o0, .inl (ko, 1, .inr (.inl fu10)))]) (w1 := [(h0, .inr (15, fs20))]) hP hD [0, 1] [2] rfl rfl (by decide) (by decide) hk1 hFc hP1 hD1
  generalize H1 = H at hP hS ⊢
  have hP : va_P (dC, dI) vwCl [(o0, .inl (ko, 1, .inr (.inl fu10))), (h0, .inr (15, fs20))] H := hP
  have hD : va_D A [(o0, .inl (ko, 1, .inr (.inl fu10))), (h0, .inr (15, fs20))] := hD
  try dsimp only at hw19
  refine lv_istore (lv' := [(6, .int r18), (5, .int ((T_sluice (xs 1) (xs 2) (xs 3)).1)), (0, .ref b), (1, .ref (a 0)), (2, .ref h0), (3, .ref o0), (4, .int 0)]) hx hb dL_law_1180 hl (by decide) rfl (fun ls hl => ?_)
  refine lv_aload_n hx hb dL_law_1182 rfl (lv_at hl 4 rfl) ?_
  have hPc := hP.sub (ws' := [(h0, .inr (15, fs20))]) [1] rfl
  have hDc := hD.sub (ws' := [(h0, .inr (15, fs20))]) [1] (by decide) rfl
  have hKc := hK.sub (tys' := []) [] rfl
  have hFc := va_free (wc := [(h0, .inr (15, fs20))]) hD hS hA [1] rfl
  refine va_calli (va_runV (As := []) (rest := []) ⟨hx, hb, hml, hown, hts⟩ (m_thrown l dC dI h0 fs20 ((T_sluice (xs 1) (xs 2) (xs 3)).1) H.size hw19.1) (cwV 0 hts (goodIn_app (goodIn_r _ [62, 63, 64, 42] (by decide +kernel) (by decide +kernel)) (goodIn_ca (goodIn_r _ [61, 37] (by decide +kernel) (by decide +kernel)) (bs_in _ _))) rfl rfl rfl (by decide +kernel) ⟨(Nat.le_of_ble_eq_true rfl), (Nat.le_of_ble_eq_true rfl)⟩) ⟨fun a U g mk q => by obtain ⟨q0, q1, qP, qK, qD⟩ := q; exact ⟨q0, q1, qP, va_K.moved (u := U) (U := U.calling g mk a) (Vm.Alike.refl U.vm) qK, qD⟩, va_recv hKc hPc (ci := 15) (q0 := 0) rfl rfl, fun U hU hW => ⟨rfl, by rw [hU], by rw [hU]; exact hPc, va_K.moved hW.alike hKc, hDc.weaken (fun _ _ _ _ => trivial)⟩⟩ rfl rfl hl.1 rfl (lv_room (Nat.le_of_ble_eq_true rfl)) dL_law_1183 ⟨(Nat.le_of_ble_eq_true rfl), (Nat.le_of_ble_eq_true rfl)⟩) hS (fun q _ h => hFc q h) hFc (fun r22 u t H1 locs ht hvm hw23 hB hz1 hk1 hS => ?_)
  have hP1 : va_P (dC, dI) vwCl [] H1 := nilP
  have hD1 : va_D (va_A [(h0, .inr (15, fs20))] H.size) [] := nilD
  have hK := hK
  obtain ⟨hP, hD⟩ := va_join (wr := [(o0, .inl (ko, 1, .inr (.inl fu10)))]) (w1 := []) hP hD [1] [0] rfl rfl (by decide) (by decide) hk1 hFc hP1 hD1
  generalize H1 = H at hP hS ⊢
  have hP : va_P (dC, dI) vwCl [(o0, .inl (ko, 1, .inr (.inl fu10)))] H := hP
  have hD : va_D A [(o0, .inl (ko, 1, .inr (.inl fu10)))] := hD
  try dsimp only at hw23
  obtain rfl : (T_sluice (xs 1) (xs 2) (xs 3)).1 = r22 := hw23.symm
  refine lv_iload hx hb dL_law_1186 (lv_at hl 1 rfl) ?_
  refine lv_icmp_eq (tgt := 1193) hx hb dL_law_1188 (by decide) (fun c24 => ?_) (fun c24 => absurd rfl c24)
  refine lv_iload hx hb dL_law_1193 (lv_at hl 1 rfl) ?_
  refine lv_if_ne (tgt := 1210) hx hb dL_law_1195 (by decide) (fun c25 => ?_) (fun c25 => ?_)
  · refine lv_goto (tgt := 3762) hx hb dL_law_1210 (by decide) ?_
    exact law_tail hx hb hr hlocks hX hbl hbA hAi hS (Nat.le_of_ble_eq_true rfl) (Nat.le_of_ble_eq_true rfl) ls (lv_sub hl [2, 6] rfl)
  · refine lv_aload_n hx hb dL_law_1198 rfl (lv_at hl 5 rfl) ?_
    refine lv_iconst (v := 0) hx hb dL_law_1199 (by decide) ?_
    refine va_lald hx hb hK hP 0 1 rfl rfl (by unfold vp_in; decide) dL_law_1200 ?_
    refine lv_iload hx hb dL_law_1201 (lv_at hl 0 rfl) ?_
    refine lv_i2l (v := r18.toInt64) hx hb dL_law_1203 rfl ?_
    refine W.lcmp hx hb dL_law_1204 ?_
    refine lv_topi (fun x26 ex26 => ?_)
    obtain rfl : x26 = 0 := ex26.trans (by rw [show fu10 (0 : Int32).toNatClampNeg = (T_sluice (xs 1) (xs 2) (xs 3)).2.toInt64 from hw9.2 c25, hw19.2 c25]; exact lg_cmp_self _)
    refine lv_if_eq (tgt := 1210) hx hb dL_law_1205 (by decide) (fun c27 => ?_) (fun c27 => absurd c27 (by decide))
    refine lv_goto (tgt := 3762) hx hb dL_law_1210 (by decide) ?_
    exact law_tail hx hb hr hlocks hX hbl hbA hAi hS (Nat.le_of_ble_eq_true rfl) (Nat.le_of_ble_eq_true rfl) ls (lv_sub hl [2, 6] rfl)
def w_law_12 : List Cond := .initialized RL :: ([.codeWith yL_turn cL_turn 5 (some .int) [(0, 17, 20, 13), (0, 17, 24, 50)], .code yX11_turn cX11_turn 5 (some .boolean), .code yX11_workOf cX11_workOf 2 (some (.object "SeaLand$Work")), .fieldLink RX11 16 "SeaLand" "lake" "LSeaLand$Lake;", .code yX11_within cX11_within 3 (some .boolean), .methodLink RX11 58 yX11_within, .static yX11_within, .initialized RX11, .classLink RX11 557 "java/lang/IndexOutOfBoundsException", .initialized "java/lang/IndexOutOfBoundsException", .methodLink RX11 167 yX11_workOf, .instanceMethod yX11_workOf, .selects RX11 yX11_workOf yX11_workOf, .methodLink RL 59 yX11_turn, .instanceMethod yX11_turn, .selects RX11 yX11_turn yX11_turn, .classLink RL 13 "java/lang/IndexOutOfBoundsException", .methodLink RL 223 yL_turn, .static yL_turn, .initialized RL, .code yX12_turn cX12_turn 4 (some .boolean), .fieldLink RX12 194 "SeaLandModel" "thrown" "I", .code yX12_noWork cX12_noWork 2 (some .boolean), .fieldLink RX12 9 "SeaLandModel" "world" "[I", .code yX12_in cX12_in 3 (some .boolean), .methodLink RX12 197 yX12_in, .static yX12_in, .initialized RX12, .methodLink RX12 269 yX12_noWork, .instanceMethod yX12_noWork, .selects RX12 yX12_noWork yX12_noWork, .code yX12_throwsIf cX12_throwsIf 3 (some .boolean), .methodLink RX12 224 yX12_throwsIf, .instanceMethod yX12_throwsIf, .selects RX12 yX12_throwsIf yX12_throwsIf, .methodLink RL 226 yX12_turn, .instanceMethod yX12_turn, .selects RX12 yX12_turn yX12_turn, .code yX12_thrown cX12_thrown 1 (some .int), .methodLink RL 187 yX12_thrown, .instanceMethod yX12_thrown, .selects RX12 yX12_thrown yX12_thrown] ++ bs)
set_option maxRecDepth 100000 in
theorem wm_12 : ∀ w ∈ w_law_12, w ∈ lw_tbl := lw_ins (List.mem_of_getElem? (i := 110) (by decide +kernel)) (lw_in _ (1175 :: 1179 :: 1134 :: 589 :: 902 :: 900 :: 901 :: 111 :: 903 :: 126 :: 1131 :: 1133 :: 8 :: 1176 :: 1177 :: 1178 :: 811 :: 1173 :: 1174 :: 110 :: 2335 :: 1969 :: 2307 :: 1970 :: 2217 :: 2215 :: 2216 :: 122 :: 2304 :: 2306 :: 55 :: 2221 :: 2218 :: 2220 :: 44 :: 2332 :: 2333 :: 2334 :: 2207 :: 2204 :: 2205 :: 2206 :: []) (by decide +kernel))
set_option maxHeartbeats 4000000 in
set_option maxRecDepth 100000 in
/-- turn -/
theorem law_12 {p : Program} {e : Env} {s : State} {m : MethodId} {below : List Frame} {meth : Method} {c : Code} (l : Launch) (hlt : l.stackTraces = false) {b : Nat} {xs : Nat → Int32} {A : Nat → Prop} (hx : p.tables.exec = Jvm.exec) (hb : c.code = code) (hr : meth.sig.returnType = ret) (hml : c.maxLocals = 7) (hown : s.vm.findClass RL = some m.cls) (hts : ∀ w ∈ w_law_12, w.before #[Value.ref b] s = true) (hX : va_X b 8 xs s s.heap) (hbl : b < s.heap.size) (hbA : ¬ A b) (hlocks : meth.locks = false) (hE : EV A s s.heap) (hN : NC s) (hA : ∀ q : Nat, s.heap.size ≤ q → A q) (hAi : ∀ q : Nat, A q → s.heap.size ≤ q) {dC : Nat → ClassId} {dI : Nat → Nat → Nat} (a : Nat → Nat) (k : Nat → ClassId) (h0 : Nat) (q : Nat → Nat) (cm : Nat → ClassId) (o0 : Nat) (ko : ClassId) (H : Heap) (locs : List Loc) (hK : va_K (dC, dI) vwCl [(ko, .long), ((cm 1), .int)] s) (hP : va_P (dC, dI) vwCl [(a 0, .inr (14, [.ref (a 1), .ref (a 2), .ref (a 27), .ref (a 30), .ref (a 74), .ref (a 75), .null, .int 0, .int 0])), (a 2, .inr (6, [.ref (a 3), .ref (a 14), .ref (a 26), .int 0, .int 0])), (o0, .inl (ko, 1, .inr (.inl (fun _ => 0)))), (h0, .inr (15, mF q 0)), (q 1, .inl ((cm 1), 1749, .inl (fun _ => 0)))] H) (hD : va_D A [(a 0, .inr (14, [.ref (a 1), .ref (a 2), .ref (a 27), .ref (a 30), .ref (a 74), .ref (a 75), .null, .int 0, .int 0])), (a 2, .inr (6, [.ref (a 3), .ref (a 14), .ref (a 26), .int 0, .int 0])), (o0, .inl (ko, 1, .inr (.inl (fun _ => 0)))), (h0, .inr (15, mF q 0)), (q 1, .inl ((cm 1), 1749, .inl (fun _ => 0)))]) (hS : va_S A s.heap H locs) (ls : Array Slot) (hl : lv_has ls 7 [(0, .ref b), (1, .ref (a 0)), (2, .ref h0), (3, .ref o0), (4, .int 0)]) : W p l e room_1 s m #[Value.ref b] below meth c H locs 238 27427 (lw_Z below #[Value.ref b] s) (F0 m 1213 ls []) := by
  refine lv_aload_n hx hb dL_law_1213 rfl (lv_at hl 1 rfl) ?_
  refine lv_aload_n hx hb dL_law_1214 rfl (lv_at hl 0 rfl) ?_
  refine lv_iload hx hb dL_law_1215 (lv_at hl 4 rfl) ?_
  refine lv_iconst (v := 1) hx hb dL_law_1217 (by decide) ?_
  refine lv_iadd hx hb dL_law_1218 ?_
  refine lv_topi (fun x1 ex1 => ?_)
  obtain rfl : x1 = 1 := ex1.trans (by decide)
  refine va_sld hx hb hX hbl hbA hS (i := 1) (by unfold vp_in; decide) dL_law_1219 ?_
  refine lv_topi (fun x2 ex2 => ?_)
  obtain rfl : xs 1 = x2 := (ex2).symm
  refine lv_aload_n hx hb dL_law_1220 rfl (lv_at hl 0 rfl) ?_
  refine lv_iload hx hb dL_law_1221 (lv_at hl 4 rfl) ?_
  refine lv_iconst (v := 2) hx hb dL_law_1223 (by decide) ?_
  refine lv_iadd hx hb dL_law_1224 ?_
  refine lv_topi (fun x3 ex3 => ?_)
  obtain rfl : x3 = 2 := ex3.trans (by decide)
  refine va_sld hx hb hX hbl hbA hS (i := 2) (by unfold vp_in; decide) dL_law_1225 ?_
  refine lv_topi (fun x4 ex4 => ?_)
  obtain rfl : xs 2 = x4 := (ex4).symm
  refine lv_if_eq (tgt := 1233) hx hb dL_law_1226 (by decide) (fun c5 => ?_) (fun c5 => ?_)
  · refine lv_iconst (v := 0) hx hb dL_law_1233 (by decide) ?_
    refine lv_aload_n hx hb dL_law_1234 rfl (lv_at hl 3 rfl) ?_
    have hPc := hP.sub (ws' := [(a 0, .inr (14, [.ref (a 1), .ref (a 2), .ref (a 27), .ref (a 30), .ref (a 74), .ref (a 75), .null, .int 0, .int 0])), (a 2, .inr (6, [.ref (a 3), .ref (a 14), .ref (a 26), .int 0, .int 0])), (o0, .inl (ko, 1, .inr (.inl (fun _ => 0))))]) [0, 1, 2] rfl
    have hDc := hD.sub (ws' := [(a 0, .inr (14, [.ref (a 1), .ref (a 2), .ref (a 27), .ref (a 30), .ref (a 74), .ref (a 75), .null, .int 0, .int 0])), (a 2, .inr (6, [.ref (a 3), .ref (a 14), .ref (a 26), .int 0, .int 0])), (o0, .inl (ko, 1, .inr (.inl (fun _ => 0))))]) [0, 1, 2] (by decide) rfl
    have hKc := hK.sub (tys' := [(ko, .long)]) [0] rfl
    have hFc := va_free (wc := [(a 0, .inr (14, [.ref (a 1), .ref (a 2), .ref (a 27), .ref (a 30), .ref (a 74), .ref (a 75), .null, .int 0, .int 0])), (a 2, .inr (6, [.ref (a 3), .ref (a 14), .ref (a 26), .int 0, .int 0])), (o0, .inl (ko, 1, .inr (.inl (fun _ => 0))))]) hD hS hA [0, 1, 2] rfl
    refine va_calli (vx_runSW (As := [.ref (a 0), .int (xs 1), .int 0, .ref o0]) (rest := []) ⟨hx, hb, hml, hown, hts⟩ (l_turn l hlt dC dI a k o0 ko (fun _ => 0) (xs 1) 0 H.size ) (vx_cwSW 4 hts (goodIn_app (goodIn_r _ [18, 19, 20] (by decide +kernel) (by decide +kernel)) (goodIn_ca (goodIn_r _ [1, 2, 3, 4, 5, 6, 7, 8, 9, 10, 11, 12, 13, 14, 15, 16, 17] (by decide +kernel) (by decide +kernel)) (bs_in _ _))) rfl rfl rfl (by decide +kernel) ⟨(Nat.le_of_ble_eq_true rfl), (Nat.le_of_ble_eq_true rfl)⟩) ⟨fun a U g mk q => by obtain ⟨q0, q1, qP, qK, qD, qE, qN⟩ := q; exact ⟨q0, q1, qP, va_K.moved (u := U) (U := U.calling g mk a) (Vm.Alike.refl U.vm) qK, qD, EV.blind g mk a qE, NC.blind g mk a qN⟩, fun U hU hW => ⟨rfl, by rw [hU], by rw [hU]; exact hPc, va_K.moved hW.alike hKc, hDc.weaken (fun _ _ _ _ => trivial), hE.call hS hFc hU hW, hN.call hW⟩⟩ rfl rfl hl.1 rfl (lv_room (Nat.le_of_ble_eq_true rfl)) dL_law_1235 ⟨(Nat.le_of_ble_eq_true rfl), (Nat.le_of_ble_eq_true rfl)⟩) hS (fun q _ h => hFc q h) hFc (fun r7 u t H1 locs ht hvm hw8 hB hz1 hk1 hS => ?_)
    obtain ⟨fu9, rfl⟩ : ∃ z, z = u := ⟨_, rfl⟩
    obtain ⟨hP1, hD1⟩ := hB
    rw [ht] at hP1
    obtain ⟨hP, hD⟩ := va_join (wr := [(h0, .inr (15, mF q 0)), (q 1, .inl ((cm 1), 1749, .inl (fun _ => 0)))]) (w1 := [(o0, .inl (ko, 1, .inr (.inl fu9)))]) hP hD [0, 1, 2] [3, 4] rfl rfl (by decide) (by decide) hk1 hFc hP1 hD1
    generalize H1 = H at hP hS ⊢
    have hP : va_P (dC, dI) vwCl [(h0, .inr (15, mF q 0)), (q 1, .inl ((cm 1), 1749, .inl (fun _ => 0))), (o0, .inl (ko, 1, .inr (.inl fu9)))] H := hP
    have hD : va_D A [(h0, .inr (15, mF q 0)), (q 1, .inl ((cm 1), 1749, .inl (fun _ => 0))), (o0, .inl (ko, 1, .inr (.inl fu9)))] := hD
    try dsimp only at hw8
    obtain rfl : 1 = r7 := hw8.symm
    refine lv_istore (lv' := [(5, .int 1), (0, .ref b), (1, .ref (a 0)), (2, .ref h0), (3, .ref o0), (4, .int 0)]) hx hb dL_law_1238 hl (by decide) rfl (fun ls hl => ?_)
    refine lv_aload_n hx hb dL_law_1240 rfl (lv_at hl 3 rfl) ?_
    refine lv_aload_n hx hb dL_law_1241 rfl (lv_at hl 1 rfl) ?_
    refine lv_iload hx hb dL_law_1242 (lv_at hl 5 rfl) ?_
    refine lv_iconst (v := 1) hx hb dL_law_1244 (by decide) ?_
    refine lv_iadd hx hb dL_law_1245 ?_
    refine lv_topi (fun x10 ex10 => ?_)
    obtain rfl : x10 = 1 := ex10.trans (by decide)
    refine va_sld hx hb hX hbl hbA hS (i := 1) (by unfold vp_in; decide) dL_law_1246 ?_
    refine lv_topi (fun x11 ex11 => ?_)
    obtain rfl : xs 1 = x11 := (ex11).symm
    refine lv_aload_n hx hb dL_law_1247 rfl (lv_at hl 1 rfl) ?_
    refine lv_iload hx hb dL_law_1248 (lv_at hl 5 rfl) ?_
    refine lv_iconst (v := 2) hx hb dL_law_1250 (by decide) ?_
    refine lv_iadd hx hb dL_law_1251 ?_
    refine lv_topi (fun x12 ex12 => ?_)
    obtain rfl : x12 = 2 := ex12.trans (by decide)
    refine va_sld hx hb hX hbl hbA hS (i := 2) (by unfold vp_in; decide) dL_law_1252 ?_
    refine lv_topi (fun x13 ex13 => ?_)
    obtain rfl : xs 2 = x13 := (ex13).symm
    refine lv_if_eq (tgt := 1260) hx hb dL_law_1253 (by decide) (fun c14 => ?_) (fun c14 => absurd c5 c14)
    refine lv_iconst (v := 0) hx hb dL_law_1260 (by decide) ?_
    have hPc := hP.sub (ws' := [(h0, .inr (15, mF q 0)), (q 1, .inl ((cm 1), 1749, .inl (fun _ => 0)))]) [0, 1] rfl
    have hDc := hD.sub (ws' := [(h0, .inr (15, mF q 0)), (q 1, .inl ((cm 1), 1749, .inl (fun _ => 0)))]) [0, 1] (by decide) rfl
    have hKc := hK.sub (tys' := [((cm 1), .int)]) [1] rfl
    have hFc := va_free (wc := [(h0, .inr (15, mF q 0)), (q 1, .inl ((cm 1), 1749, .inl (fun _ => 0)))]) hD hS hA [0, 1] rfl
    refine va_calli (va_runV (As := [.int (xs 1), .int 0]) (rest := []) ⟨hx, hb, hml, hown, hts⟩ (m_turn l dC dI h0 q cm (xs 1) 0 H.size ) (cwV 2 hts (goodIn_app (goodIn_r _ [36, 37, 38, 28] (by decide +kernel) (by decide +kernel)) (goodIn_ca (goodIn_r _ [21, 22, 23, 24, 25, 26, 27, 28, 29, 30, 31, 32, 33, 34, 35] (by decide +kernel) (by decide +kernel)) (bs_in _ _))) rfl rfl rfl (by decide +kernel) ⟨(Nat.le_of_ble_eq_true rfl), (Nat.le_of_ble_eq_true rfl)⟩) ⟨fun a U g mk q => by obtain ⟨q0, q1, qP, qK, qD⟩ := q; exact ⟨q0, q1, qP, va_K.moved (u := U) (U := U.calling g mk a) (Vm.Alike.refl U.vm) qK, qD⟩, va_recv hKc hPc (ci := 15) (q0 := 0) rfl rfl, fun U hU hW => ⟨rfl, by rw [hU], by rw [hU]; exact hPc, va_K.moved hW.alike hKc, hDc.weaken (fun _ _ _ _ => trivial)⟩⟩ rfl rfl hl.1 rfl (lv_room (Nat.le_of_ble_eq_true rfl)) dL_law_1261 ⟨(Nat.le_of_ble_eq_true rfl), (Nat.le_of_ble_eq_true rfl)⟩) hS (fun q _ h => hFc q h) hFc (fun r16 u t H1 locs ht hvm hw17 hB hz1 hk1 hS => ?_)
    obtain ⟨fs18, rfl⟩ : ∃ z, z = u := ⟨_, rfl⟩
    obtain ⟨hP1, hD1⟩ := hB
    rw [ht] at hP1
    obtain ⟨hP, hD⟩ := va_join (wr := [(o0, .inl (ko, 1, .inr (.inl fu9)))]) (w1 := [(h0, .inr (15, fs18))]) hP hD [0, 1] [2] rfl rfl (by decide) (by decide) hk1 hFc hP1 hD1
    generalize H1 = H at hP hS ⊢
    have hP : va_P (dC, dI) vwCl [(o0, .inl (ko, 1, .inr (.inl fu9))), (h0, .inr (15, fs18))] H := hP
    have hD : va_D A [(o0, .inl (ko, 1, .inr (.inl fu9))), (h0, .inr (15, fs18))] := hD
    try dsimp only at hw17
    refine lv_istore (lv' := [(6, .int r16), (5, .int 1), (0, .ref b), (1, .ref (a 0)), (2, .ref h0), (3, .ref o0), (4, .int 0)]) hx hb dL_law_1264 hl (by decide) rfl (fun ls hl => ?_)
    refine lv_aload_n hx hb dL_law_1266 rfl (lv_at hl 4 rfl) ?_
    have hPc := hP.sub (ws' := [(h0, .inr (15, fs18))]) [1] rfl
    have hDc := hD.sub (ws' := [(h0, .inr (15, fs18))]) [1] (by decide) rfl
    have hKc := hK.sub (tys' := []) [] rfl
    have hFc := va_free (wc := [(h0, .inr (15, fs18))]) hD hS hA [1] rfl
    refine va_calli (va_runV (As := []) (rest := []) ⟨hx, hb, hml, hown, hts⟩ (m_thrown l dC dI h0 fs18 1 H.size hw17) (cwV 0 hts (goodIn_app (goodIn_r _ [40, 41, 42, 28] (by decide +kernel) (by decide +kernel)) (goodIn_ca (goodIn_r _ [39, 22] (by decide +kernel) (by decide +kernel)) (bs_in _ _))) rfl rfl rfl (by decide +kernel) ⟨(Nat.le_of_ble_eq_true rfl), (Nat.le_of_ble_eq_true rfl)⟩) ⟨fun a U g mk q => by obtain ⟨q0, q1, qP, qK, qD⟩ := q; exact ⟨q0, q1, qP, va_K.moved (u := U) (U := U.calling g mk a) (Vm.Alike.refl U.vm) qK, qD⟩, va_recv hKc hPc (ci := 15) (q0 := 0) rfl rfl, fun U hU hW => ⟨rfl, by rw [hU], by rw [hU]; exact hPc, va_K.moved hW.alike hKc, hDc.weaken (fun _ _ _ _ => trivial)⟩⟩ rfl rfl hl.1 rfl (lv_room (Nat.le_of_ble_eq_true rfl)) dL_law_1267 ⟨(Nat.le_of_ble_eq_true rfl), (Nat.le_of_ble_eq_true rfl)⟩) hS (fun q _ h => hFc q h) hFc (fun r20 u t H1 locs ht hvm hw21 hB hz1 hk1 hS => ?_)
    have hP1 : va_P (dC, dI) vwCl [] H1 := nilP
    have hD1 : va_D (va_A [(h0, .inr (15, fs18))] H.size) [] := nilD
    have hK := hK
    obtain ⟨hP, hD⟩ := va_join (wr := [(o0, .inl (ko, 1, .inr (.inl fu9)))]) (w1 := []) hP hD [1] [0] rfl rfl (by decide) (by decide) hk1 hFc hP1 hD1
    generalize H1 = H at hP hS ⊢
    have hP : va_P (dC, dI) vwCl [(o0, .inl (ko, 1, .inr (.inl fu9)))] H := hP
    have hD : va_D A [(o0, .inl (ko, 1, .inr (.inl fu9)))] := hD
    try dsimp only at hw21
    obtain rfl : 1 = r20 := hw21.symm
    refine lv_iload hx hb dL_law_1270 (lv_at hl 1 rfl) ?_
    refine lv_icmp_eq (tgt := 1277) hx hb dL_law_1272 (by decide) (fun c22 => ?_) (fun c22 => absurd c22 (by decide))
    refine lv_iload hx hb dL_law_1277 (lv_at hl 1 rfl) ?_
    refine lv_if_ne (tgt := 1301) hx hb dL_law_1279 (by decide) (fun c23 => ?_) (fun c23 => absurd c23 (by decide))
    refine lv_goto (tgt := 3762) hx hb dL_law_1301 (by decide) ?_
    exact law_tail hx hb hr hlocks hX hbl hbA hAi hS (Nat.le_of_ble_eq_true rfl) (Nat.le_of_ble_eq_true rfl) ls (lv_sub hl [2, 6] rfl)
  · refine lv_iconst (v := 1) hx hb dL_law_1229 (by decide) ?_
    refine lv_goto (tgt := 1234) hx hb dL_law_1230 (by decide) ?_
    refine lv_aload_n hx hb dL_law_1234 rfl (lv_at hl 3 rfl) ?_
    have hPc := hP.sub (ws' := [(a 0, .inr (14, [.ref (a 1), .ref (a 2), .ref (a 27), .ref (a 30), .ref (a 74), .ref (a 75), .null, .int 0, .int 0])), (a 2, .inr (6, [.ref (a 3), .ref (a 14), .ref (a 26), .int 0, .int 0])), (o0, .inl (ko, 1, .inr (.inl (fun _ => 0))))]) [0, 1, 2] rfl
    have hDc := hD.sub (ws' := [(a 0, .inr (14, [.ref (a 1), .ref (a 2), .ref (a 27), .ref (a 30), .ref (a 74), .ref (a 75), .null, .int 0, .int 0])), (a 2, .inr (6, [.ref (a 3), .ref (a 14), .ref (a 26), .int 0, .int 0])), (o0, .inl (ko, 1, .inr (.inl (fun _ => 0))))]) [0, 1, 2] (by decide) rfl
    have hKc := hK.sub (tys' := [(ko, .long)]) [0] rfl
    have hFc := va_free (wc := [(a 0, .inr (14, [.ref (a 1), .ref (a 2), .ref (a 27), .ref (a 30), .ref (a 74), .ref (a 75), .null, .int 0, .int 0])), (a 2, .inr (6, [.ref (a 3), .ref (a 14), .ref (a 26), .int 0, .int 0])), (o0, .inl (ko, 1, .inr (.inl (fun _ => 0))))]) hD hS hA [0, 1, 2] rfl
    refine va_calli (vx_runSW (As := [.ref (a 0), .int (xs 1), .int 1, .ref o0]) (rest := []) ⟨hx, hb, hml, hown, hts⟩ (l_turn l hlt dC dI a k o0 ko (fun _ => 0) (xs 1) 1 H.size ) (vx_cwSW 4 hts (goodIn_app (goodIn_r _ [18, 19, 20] (by decide +kernel) (by decide +kernel)) (goodIn_ca (goodIn_r _ [1, 2, 3, 4, 5, 6, 7, 8, 9, 10, 11, 12, 13, 14, 15, 16, 17] (by decide +kernel) (by decide +kernel)) (bs_in _ _))) rfl rfl rfl (by decide +kernel) ⟨(Nat.le_of_ble_eq_true rfl), (Nat.le_of_ble_eq_true rfl)⟩) ⟨fun a U g mk q => by obtain ⟨q0, q1, qP, qK, qD, qE, qN⟩ := q; exact ⟨q0, q1, qP, va_K.moved (u := U) (U := U.calling g mk a) (Vm.Alike.refl U.vm) qK, qD, EV.blind g mk a qE, NC.blind g mk a qN⟩, fun U hU hW => ⟨rfl, by rw [hU], by rw [hU]; exact hPc, va_K.moved hW.alike hKc, hDc.weaken (fun _ _ _ _ => trivial), hE.call hS hFc hU hW, hN.call hW⟩⟩ rfl rfl hl.1 rfl (lv_room (Nat.le_of_ble_eq_true rfl)) dL_law_1235 ⟨(Nat.le_of_ble_eq_true rfl), (Nat.le_of_ble_eq_true rfl)⟩) hS (fun q _ h => hFc q h) hFc (fun r25 u t H1 locs ht hvm hw26 hB hz1 hk1 hS => ?_)
    obtain ⟨fu27, rfl⟩ : ∃ z, z = u := ⟨_, rfl⟩
    obtain ⟨hP1, hD1⟩ := hB
    rw [ht] at hP1
    obtain ⟨hP, hD⟩ := va_join (wr := [(h0, .inr (15, mF q 0)), (q 1, .inl ((cm 1), 1749, .inl (fun _ => 0)))]) (w1 := [(o0, .inl (ko, 1, .inr (.inl fu27)))]) hP hD [0, 1, 2] [3, 4] rfl rfl (by decide) (by decide) hk1 hFc hP1 hD1
    generalize H1 = H at hP hS ⊢
    have hP : va_P (dC, dI) vwCl [(h0, .inr (15, mF q 0)), (q 1, .inl ((cm 1), 1749, .inl (fun _ => 0))), (o0, .inl (ko, 1, .inr (.inl fu27)))] H := hP
    have hD : va_D A [(h0, .inr (15, mF q 0)), (q 1, .inl ((cm 1), 1749, .inl (fun _ => 0))), (o0, .inl (ko, 1, .inr (.inl fu27)))] := hD
    try dsimp only at hw26
    obtain rfl : 1 = r25 := hw26.symm
    refine lv_istore (lv' := [(5, .int 1), (0, .ref b), (1, .ref (a 0)), (2, .ref h0), (3, .ref o0), (4, .int 0)]) hx hb dL_law_1238 hl (by decide) rfl (fun ls hl => ?_)
    refine lv_aload_n hx hb dL_law_1240 rfl (lv_at hl 3 rfl) ?_
    refine lv_aload_n hx hb dL_law_1241 rfl (lv_at hl 1 rfl) ?_
    refine lv_iload hx hb dL_law_1242 (lv_at hl 5 rfl) ?_
    refine lv_iconst (v := 1) hx hb dL_law_1244 (by decide) ?_
    refine lv_iadd hx hb dL_law_1245 ?_
    refine lv_topi (fun x28 ex28 => ?_)
    obtain rfl : x28 = 1 := ex28.trans (by decide)
    refine va_sld hx hb hX hbl hbA hS (i := 1) (by unfold vp_in; decide) dL_law_1246 ?_
    refine lv_topi (fun x29 ex29 => ?_)
    obtain rfl : xs 1 = x29 := (ex29).symm
    refine lv_aload_n hx hb dL_law_1247 rfl (lv_at hl 1 rfl) ?_
    refine lv_iload hx hb dL_law_1248 (lv_at hl 5 rfl) ?_
    refine lv_iconst (v := 2) hx hb dL_law_1250 (by decide) ?_
    refine lv_iadd hx hb dL_law_1251 ?_
    refine lv_topi (fun x30 ex30 => ?_)
    obtain rfl : x30 = 2 := ex30.trans (by decide)
    refine va_sld hx hb hX hbl hbA hS (i := 2) (by unfold vp_in; decide) dL_law_1252 ?_
    refine lv_topi (fun x31 ex31 => ?_)
    obtain rfl : xs 2 = x31 := (ex31).symm
    refine lv_if_eq (tgt := 1260) hx hb dL_law_1253 (by decide) (fun c32 => absurd c32 c5) (fun c32 => ?_)
    refine lv_iconst (v := 1) hx hb dL_law_1256 (by decide) ?_
    refine lv_goto (tgt := 1261) hx hb dL_law_1257 (by decide) ?_
    have hPc := hP.sub (ws' := [(h0, .inr (15, mF q 0)), (q 1, .inl ((cm 1), 1749, .inl (fun _ => 0)))]) [0, 1] rfl
    have hDc := hD.sub (ws' := [(h0, .inr (15, mF q 0)), (q 1, .inl ((cm 1), 1749, .inl (fun _ => 0)))]) [0, 1] (by decide) rfl
    have hKc := hK.sub (tys' := [((cm 1), .int)]) [1] rfl
    have hFc := va_free (wc := [(h0, .inr (15, mF q 0)), (q 1, .inl ((cm 1), 1749, .inl (fun _ => 0)))]) hD hS hA [0, 1] rfl
    refine va_calli (va_runV (As := [.int (xs 1), .int 1]) (rest := []) ⟨hx, hb, hml, hown, hts⟩ (m_turn l dC dI h0 q cm (xs 1) 1 H.size ) (cwV 2 hts (goodIn_app (goodIn_r _ [36, 37, 38, 28] (by decide +kernel) (by decide +kernel)) (goodIn_ca (goodIn_r _ [21, 22, 23, 24, 25, 26, 27, 28, 29, 30, 31, 32, 33, 34, 35] (by decide +kernel) (by decide +kernel)) (bs_in _ _))) rfl rfl rfl (by decide +kernel) ⟨(Nat.le_of_ble_eq_true rfl), (Nat.le_of_ble_eq_true rfl)⟩) ⟨fun a U g mk q => by obtain ⟨q0, q1, qP, qK, qD⟩ := q; exact ⟨q0, q1, qP, va_K.moved (u := U) (U := U.calling g mk a) (Vm.Alike.refl U.vm) qK, qD⟩, va_recv hKc hPc (ci := 15) (q0 := 0) rfl rfl, fun U hU hW => ⟨rfl, by rw [hU], by rw [hU]; exact hPc, va_K.moved hW.alike hKc, hDc.weaken (fun _ _ _ _ => trivial)⟩⟩ rfl rfl hl.1 rfl (lv_room (Nat.le_of_ble_eq_true rfl)) dL_law_1261 ⟨(Nat.le_of_ble_eq_true rfl), (Nat.le_of_ble_eq_true rfl)⟩) hS (fun q _ h => hFc q h) hFc (fun r34 u t H1 locs ht hvm hw35 hB hz1 hk1 hS => ?_)
    obtain ⟨fs36, rfl⟩ : ∃ z, z = u := ⟨_, rfl⟩
    obtain ⟨hP1, hD1⟩ := hB
    rw [ht] at hP1
    obtain ⟨hP, hD⟩ := va_join (wr := [(o0, .inl (ko, 1, .inr (.inl fu27)))]) (w1 := [(h0, .inr (15, fs36))]) hP hD [0, 1] [2] rfl rfl (by decide) (by decide) hk1 hFc hP1 hD1
    generalize H1 = H at hP hS ⊢
    have hP : va_P (dC, dI) vwCl [(o0, .inl (ko, 1, .inr (.inl fu27))), (h0, .inr (15, fs36))] H := hP
    have hD : va_D A [(o0, .inl (ko, 1, .inr (.inl fu27))), (h0, .inr (15, fs36))] := hD
    try dsimp only at hw35
    refine lv_istore (lv' := [(6, .int r34), (5, .int 1), (0, .ref b), (1, .ref (a 0)), (2, .ref h0), (3, .ref o0), (4, .int 0)]) hx hb dL_law_1264 hl (by decide) rfl (fun ls hl => ?_)
    refine lv_aload_n hx hb dL_law_1266 rfl (lv_at hl 4 rfl) ?_
    have hPc := hP.sub (ws' := [(h0, .inr (15, fs36))]) [1] rfl
    have hDc := hD.sub (ws' := [(h0, .inr (15, fs36))]) [1] (by decide) rfl
    have hKc := hK.sub (tys' := []) [] rfl
    have hFc := va_free (wc := [(h0, .inr (15, fs36))]) hD hS hA [1] rfl
    refine va_calli (va_runV (As := []) (rest := []) ⟨hx, hb, hml, hown, hts⟩ (m_thrown l dC dI h0 fs36 1 H.size hw35) (cwV 0 hts (goodIn_app (goodIn_r _ [40, 41, 42, 28] (by decide +kernel) (by decide +kernel)) (goodIn_ca (goodIn_r _ [39, 22] (by decide +kernel) (by decide +kernel)) (bs_in _ _))) rfl rfl rfl (by decide +kernel) ⟨(Nat.le_of_ble_eq_true rfl), (Nat.le_of_ble_eq_true rfl)⟩) ⟨fun a U g mk q => by obtain ⟨q0, q1, qP, qK, qD⟩ := q; exact ⟨q0, q1, qP, va_K.moved (u := U) (U := U.calling g mk a) (Vm.Alike.refl U.vm) qK, qD⟩, va_recv hKc hPc (ci := 15) (q0 := 0) rfl rfl, fun U hU hW => ⟨rfl, by rw [hU], by rw [hU]; exact hPc, va_K.moved hW.alike hKc, hDc.weaken (fun _ _ _ _ => trivial)⟩⟩ rfl rfl hl.1 rfl (lv_room (Nat.le_of_ble_eq_true rfl)) dL_law_1267 ⟨(Nat.le_of_ble_eq_true rfl), (Nat.le_of_ble_eq_true rfl)⟩) hS (fun q _ h => hFc q h) hFc (fun r38 u t H1 locs ht hvm hw39 hB hz1 hk1 hS => ?_)
    have hP1 : va_P (dC, dI) vwCl [] H1 := nilP
    have hD1 : va_D (va_A [(h0, .inr (15, fs36))] H.size) [] := nilD
    have hK := hK
    obtain ⟨hP, hD⟩ := va_join (wr := [(o0, .inl (ko, 1, .inr (.inl fu27)))]) (w1 := []) hP hD [1] [0] rfl rfl (by decide) (by decide) hk1 hFc hP1 hD1
    generalize H1 = H at hP hS ⊢
    have hP : va_P (dC, dI) vwCl [(o0, .inl (ko, 1, .inr (.inl fu27)))] H := hP
    have hD : va_D A [(o0, .inl (ko, 1, .inr (.inl fu27)))] := hD
    try dsimp only at hw39
    obtain rfl : 1 = r38 := hw39.symm
    refine lv_iload hx hb dL_law_1270 (lv_at hl 1 rfl) ?_
    refine lv_icmp_eq (tgt := 1277) hx hb dL_law_1272 (by decide) (fun c40 => ?_) (fun c40 => absurd c40 (by decide))
    refine lv_iload hx hb dL_law_1277 (lv_at hl 1 rfl) ?_
    refine lv_if_ne (tgt := 1301) hx hb dL_law_1279 (by decide) (fun c41 => ?_) (fun c41 => absurd c41 (by decide))
    refine lv_goto (tgt := 3762) hx hb dL_law_1301 (by decide) ?_
    exact law_tail hx hb hr hlocks hX hbl hbA hAi hS (Nat.le_of_ble_eq_true rfl) (Nat.le_of_ble_eq_true rfl) ls (lv_sub hl [2, 6] rfl)
def w_law_13 : List Cond := .initialized RL :: ([.codeWith yL_coal cL_coal 5 (some .int) [(0, 10, 13, 13), (0, 10, 17, 15), (0, 10, 21, 50)], .code yX11_coal cX11_coal 4 (some .int), .code yX11_workOf cX11_workOf 2 (some (.object "SeaLand$Work")), .fieldLink RX11 16 "SeaLand" "lake" "LSeaLand$Lake;", .code yX11_within cX11_within 3 (some .boolean), .methodLink RX11 58 yX11_within, .static yX11_within, .initialized RX11, .classLink RX11 557 "java/lang/IndexOutOfBoundsException", .initialized "java/lang/IndexOutOfBoundsException", .methodLink RX11 167 yX11_workOf, .instanceMethod yX11_workOf, .selects RX11 yX11_workOf yX11_workOf, .methodLink RL 63 yX11_coal, .instanceMethod yX11_coal, .selects RX11 yX11_coal yX11_coal, .classLink RL 13 "java/lang/IndexOutOfBoundsException", .methodLink RL 227 yL_coal, .static yL_coal, .initialized RL, .code yX12_coal cX12_coal 3 (some .int), .fieldLink RX12 194 "SeaLandModel" "thrown" "I", .code yX12_noWork cX12_noWork 2 (some .boolean), .fieldLink RX12 9 "SeaLandModel" "world" "[I", .code yX12_in cX12_in 3 (some .boolean), .methodLink RX12 197 yX12_in, .static yX12_in, .initialized RX12, .methodLink RX12 269 yX12_noWork, .instanceMethod yX12_noWork, .selects RX12 yX12_noWork yX12_noWork, .code yX12_throwsIf cX12_throwsIf 3 (some .boolean), .methodLink RX12 224 yX12_throwsIf, .instanceMethod yX12_throwsIf, .selects RX12 yX12_throwsIf yX12_throwsIf, .methodLink RL 229 yX12_coal, .instanceMethod yX12_coal, .selects RX12 yX12_coal yX12_coal, .code yX12_thrown cX12_thrown 1 (some .int), .methodLink RL 187 yX12_thrown, .instanceMethod yX12_thrown, .selects RX12 yX12_thrown yX12_thrown] ++ bs)
set_option maxRecDepth 100000 in
theorem wm_13 : ∀ w ∈ w_law_13, w ∈ lw_tbl := lw_ins (List.mem_of_getElem? (i := 110) (by decide +kernel)) (lw_in _ (1182 :: 1186 :: 1134 :: 589 :: 902 :: 900 :: 901 :: 111 :: 903 :: 126 :: 1131 :: 1133 :: 8 :: 1183 :: 1184 :: 1185 :: 811 :: 1180 :: 1181 :: 110 :: 2339 :: 1969 :: 2307 :: 1970 :: 2217 :: 2215 :: 2216 :: 122 :: 2304 :: 2306 :: 55 :: 2221 :: 2218 :: 2220 :: 44 :: 2336 :: 2337 :: 2338 :: 2207 :: 2204 :: 2205 :: 2206 :: []) (by decide +kernel))
set_option maxHeartbeats 4000000 in
set_option maxRecDepth 100000 in
/-- coal -/
theorem law_13 {p : Program} {e : Env} {s : State} {m : MethodId} {below : List Frame} {meth : Method} {c : Code} (l : Launch) (hlt : l.stackTraces = false) {b : Nat} {xs : Nat → Int32} {A : Nat → Prop} (hx : p.tables.exec = Jvm.exec) (hb : c.code = code) (hr : meth.sig.returnType = ret) (hml : c.maxLocals = 7) (hown : s.vm.findClass RL = some m.cls) (hts : ∀ w ∈ w_law_13, w.before #[Value.ref b] s = true) (hX : va_X b 8 xs s s.heap) (hbl : b < s.heap.size) (hbA : ¬ A b) (hlocks : meth.locks = false) (hE : EV A s s.heap) (hN : NC s) (hA : ∀ q : Nat, s.heap.size ≤ q → A q) (hAi : ∀ q : Nat, A q → s.heap.size ≤ q) {dC : Nat → ClassId} {dI : Nat → Nat → Nat} (a : Nat → Nat) (k : Nat → ClassId) (h0 : Nat) (q : Nat → Nat) (cm : Nat → ClassId) (o0 : Nat) (ko : ClassId) (H : Heap) (locs : List Loc) (hK : va_K (dC, dI) vwCl [(ko, .long), ((cm 1), .int)] s) (hP : va_P (dC, dI) vwCl [(a 0, .inr (14, [.ref (a 1), .ref (a 2), .ref (a 27), .ref (a 30), .ref (a 74), .ref (a 75), .null, .int 0, .int 0])), (a 2, .inr (6, [.ref (a 3), .ref (a 14), .ref (a 26), .int 0, .int 0])), (o0, .inl (ko, 1, .inr (.inl (fun _ => 0)))), (h0, .inr (15, mF q 0)), (q 1, .inl ((cm 1), 1749, .inl (fun _ => 0)))] H) (hD : va_D A [(a 0, .inr (14, [.ref (a 1), .ref (a 2), .ref (a 27), .ref (a 30), .ref (a 74), .ref (a 75), .null, .int 0, .int 0])), (a 2, .inr (6, [.ref (a 3), .ref (a 14), .ref (a 26), .int 0, .int 0])), (o0, .inl (ko, 1, .inr (.inl (fun _ => 0)))), (h0, .inr (15, mF q 0)), (q 1, .inl ((cm 1), 1749, .inl (fun _ => 0)))]) (hS : va_S A s.heap H locs) (ls : Array Slot) (hl : lv_has ls 7 [(0, .ref b), (1, .ref (a 0)), (2, .ref h0), (3, .ref o0), (4, .int 0)]) : W p l e room_1 s m #[Value.ref b] below meth c H locs 238 27427 (lw_Z below #[Value.ref b] s) (F0 m 1304 ls []) := by
  refine lv_aload_n hx hb dL_law_1304 rfl (lv_at hl 1 rfl) ?_
  refine lv_aload_n hx hb dL_law_1305 rfl (lv_at hl 0 rfl) ?_
  refine lv_iload hx hb dL_law_1306 (lv_at hl 4 rfl) ?_
  refine lv_iconst (v := 1) hx hb dL_law_1308 (by decide) ?_
  refine lv_iadd hx hb dL_law_1309 ?_
  refine lv_topi (fun x1 ex1 => ?_)
  obtain rfl : x1 = 1 := ex1.trans (by decide)
  refine va_sld hx hb hX hbl hbA hS (i := 1) (by unfold vp_in; decide) dL_law_1310 ?_
  refine lv_topi (fun x2 ex2 => ?_)
  obtain rfl : xs 1 = x2 := (ex2).symm
  refine lv_aload_n hx hb dL_law_1311 rfl (lv_at hl 0 rfl) ?_
  refine lv_iload hx hb dL_law_1312 (lv_at hl 4 rfl) ?_
  refine lv_iconst (v := 2) hx hb dL_law_1314 (by decide) ?_
  refine lv_iadd hx hb dL_law_1315 ?_
  refine lv_topi (fun x3 ex3 => ?_)
  obtain rfl : x3 = 2 := ex3.trans (by decide)
  refine va_sld hx hb hX hbl hbA hS (i := 2) (by unfold vp_in; decide) dL_law_1316 ?_
  refine lv_topi (fun x4 ex4 => ?_)
  obtain rfl : xs 2 = x4 := (ex4).symm
  refine lv_aload_n hx hb dL_law_1317 rfl (lv_at hl 3 rfl) ?_
  have hPc := hP.sub (ws' := [(a 0, .inr (14, [.ref (a 1), .ref (a 2), .ref (a 27), .ref (a 30), .ref (a 74), .ref (a 75), .null, .int 0, .int 0])), (a 2, .inr (6, [.ref (a 3), .ref (a 14), .ref (a 26), .int 0, .int 0])), (o0, .inl (ko, 1, .inr (.inl (fun _ => 0))))]) [0, 1, 2] rfl
  have hDc := hD.sub (ws' := [(a 0, .inr (14, [.ref (a 1), .ref (a 2), .ref (a 27), .ref (a 30), .ref (a 74), .ref (a 75), .null, .int 0, .int 0])), (a 2, .inr (6, [.ref (a 3), .ref (a 14), .ref (a 26), .int 0, .int 0])), (o0, .inl (ko, 1, .inr (.inl (fun _ => 0))))]) [0, 1, 2] (by decide) rfl
  have hKc := hK.sub (tys' := [(ko, .long)]) [0] rfl
  have hFc := va_free (wc := [(a 0, .inr (14, [.ref (a 1), .ref (a 2), .ref (a 27), .ref (a 30), .ref (a 74), .ref (a 75), .null, .int 0, .int 0])), (a 2, .inr (6, [.ref (a 3), .ref (a 14), .ref (a 26), .int 0, .int 0])), (o0, .inl (ko, 1, .inr (.inl (fun _ => 0))))]) hD hS hA [0, 1, 2] rfl
  refine va_calli (vx_runSW (As := [.ref (a 0), .int (xs 1), .int (xs 2), .ref o0]) (rest := []) ⟨hx, hb, hml, hown, hts⟩ (l_coal l hlt dC dI a k o0 ko (fun _ => 0) (xs 1) (xs 2) H.size ) (vx_cwSW 4 hts (goodIn_app (goodIn_r _ [18, 19, 20] (by decide +kernel) (by decide +kernel)) (goodIn_ca (goodIn_r _ [1, 2, 3, 4, 5, 6, 7, 8, 9, 10, 11, 12, 13, 14, 15, 16, 17] (by decide +kernel) (by decide +kernel)) (bs_in _ _))) rfl rfl rfl (by decide +kernel) ⟨(Nat.le_of_ble_eq_true rfl), (Nat.le_of_ble_eq_true rfl)⟩) ⟨fun a U g mk q => by obtain ⟨q0, q1, qP, qK, qD, qE, qN⟩ := q; exact ⟨q0, q1, qP, va_K.moved (u := U) (U := U.calling g mk a) (Vm.Alike.refl U.vm) qK, qD, EV.blind g mk a qE, NC.blind g mk a qN⟩, fun U hU hW => ⟨rfl, by rw [hU], by rw [hU]; exact hPc, va_K.moved hW.alike hKc, hDc.weaken (fun _ _ _ _ => trivial), hE.call hS hFc hU hW, hN.call hW⟩⟩ rfl rfl hl.1 rfl (lv_room (Nat.le_of_ble_eq_true rfl)) dL_law_1318 ⟨(Nat.le_of_ble_eq_true rfl), (Nat.le_of_ble_eq_true rfl)⟩) hS (fun q _ h => hFc q h) hFc (fun r6 u t H1 locs ht hvm hw7 hB hz1 hk1 hS => ?_)
  obtain ⟨fu8, rfl⟩ : ∃ z, z = u := ⟨_, rfl⟩
  obtain ⟨hP1, hD1⟩ := hB
  rw [ht] at hP1
  obtain ⟨hP, hD⟩ := va_join (wr := [(h0, .inr (15, mF q 0)), (q 1, .inl ((cm 1), 1749, .inl (fun _ => 0)))]) (w1 := [(o0, .inl (ko, 1, .inr (.inl fu8)))]) hP hD [0, 1, 2] [3, 4] rfl rfl (by decide) (by decide) hk1 hFc hP1 hD1
  generalize H1 = H at hP hS ⊢
  have hP : va_P (dC, dI) vwCl [(h0, .inr (15, mF q 0)), (q 1, .inl ((cm 1), 1749, .inl (fun _ => 0))), (o0, .inl (ko, 1, .inr (.inl fu8)))] H := hP
  have hD : va_D A [(h0, .inr (15, mF q 0)), (q 1, .inl ((cm 1), 1749, .inl (fun _ => 0))), (o0, .inl (ko, 1, .inr (.inl fu8)))] := hD
  try dsimp only at hw7
  obtain rfl : 1 = r6 := hw7.symm
  refine lv_istore (lv' := [(5, .int 1), (0, .ref b), (1, .ref (a 0)), (2, .ref h0), (3, .ref o0), (4, .int 0)]) hx hb dL_law_1321 hl (by decide) rfl (fun ls hl => ?_)
  refine lv_aload_n hx hb dL_law_1323 rfl (lv_at hl 3 rfl) ?_
  refine lv_aload_n hx hb dL_law_1324 rfl (lv_at hl 1 rfl) ?_
  refine lv_iload hx hb dL_law_1325 (lv_at hl 5 rfl) ?_
  refine lv_iconst (v := 1) hx hb dL_law_1327 (by decide) ?_
  refine lv_iadd hx hb dL_law_1328 ?_
  refine lv_topi (fun x9 ex9 => ?_)
  obtain rfl : x9 = 1 := ex9.trans (by decide)
  refine va_sld hx hb hX hbl hbA hS (i := 1) (by unfold vp_in; decide) dL_law_1329 ?_
  refine lv_topi (fun x10 ex10 => ?_)
  obtain rfl : xs 1 = x10 := (ex10).symm
  refine lv_aload_n hx hb dL_law_1330 rfl (lv_at hl 1 rfl) ?_
  refine lv_iload hx hb dL_law_1331 (lv_at hl 5 rfl) ?_
  refine lv_iconst (v := 2) hx hb dL_law_1333 (by decide) ?_
  refine lv_iadd hx hb dL_law_1334 ?_
  refine lv_topi (fun x11 ex11 => ?_)
  obtain rfl : x11 = 2 := ex11.trans (by decide)
  refine va_sld hx hb hX hbl hbA hS (i := 2) (by unfold vp_in; decide) dL_law_1335 ?_
  refine lv_topi (fun x12 ex12 => ?_)
  obtain rfl : xs 2 = x12 := (ex12).symm
  have hPc := hP.sub (ws' := [(h0, .inr (15, mF q 0)), (q 1, .inl ((cm 1), 1749, .inl (fun _ => 0)))]) [0, 1] rfl
  have hDc := hD.sub (ws' := [(h0, .inr (15, mF q 0)), (q 1, .inl ((cm 1), 1749, .inl (fun _ => 0)))]) [0, 1] (by decide) rfl
  have hKc := hK.sub (tys' := [((cm 1), .int)]) [1] rfl
  have hFc := va_free (wc := [(h0, .inr (15, mF q 0)), (q 1, .inl ((cm 1), 1749, .inl (fun _ => 0)))]) hD hS hA [0, 1] rfl
  refine va_calli (va_runV (As := [.int (xs 1), .int (xs 2)]) (rest := []) ⟨hx, hb, hml, hown, hts⟩ (m_coal l dC dI h0 q cm (xs 1) (xs 2) H.size ) (cwV 2 hts (goodIn_app (goodIn_r _ [36, 37, 38, 28] (by decide +kernel) (by decide +kernel)) (goodIn_ca (goodIn_r _ [21, 22, 23, 24, 25, 26, 27, 28, 29, 30, 31, 32, 33, 34, 35] (by decide +kernel) (by decide +kernel)) (bs_in _ _))) rfl rfl rfl (by decide +kernel) ⟨(Nat.le_of_ble_eq_true rfl), (Nat.le_of_ble_eq_true rfl)⟩) ⟨fun a U g mk q => by obtain ⟨q0, q1, qP, qK, qD⟩ := q; exact ⟨q0, q1, qP, va_K.moved (u := U) (U := U.calling g mk a) (Vm.Alike.refl U.vm) qK, qD⟩, va_recv hKc hPc (ci := 15) (q0 := 0) rfl rfl, fun U hU hW => ⟨rfl, by rw [hU], by rw [hU]; exact hPc, va_K.moved hW.alike hKc, hDc.weaken (fun _ _ _ _ => trivial)⟩⟩ rfl rfl hl.1 rfl (lv_room (Nat.le_of_ble_eq_true rfl)) dL_law_1336 ⟨(Nat.le_of_ble_eq_true rfl), (Nat.le_of_ble_eq_true rfl)⟩) hS (fun q _ h => hFc q h) hFc (fun r14 u t H1 locs ht hvm hw15 hB hz1 hk1 hS => ?_)
  obtain ⟨fs16, rfl⟩ : ∃ z, z = u := ⟨_, rfl⟩
  obtain ⟨hP1, hD1⟩ := hB
  rw [ht] at hP1
  obtain ⟨hP, hD⟩ := va_join (wr := [(o0, .inl (ko, 1, .inr (.inl fu8)))]) (w1 := [(h0, .inr (15, fs16))]) hP hD [0, 1] [2] rfl rfl (by decide) (by decide) hk1 hFc hP1 hD1
  generalize H1 = H at hP hS ⊢
  have hP : va_P (dC, dI) vwCl [(o0, .inl (ko, 1, .inr (.inl fu8))), (h0, .inr (15, fs16))] H := hP
  have hD : va_D A [(o0, .inl (ko, 1, .inr (.inl fu8))), (h0, .inr (15, fs16))] := hD
  try dsimp only at hw15
  refine lv_istore (lv' := [(6, .int r14), (5, .int 1), (0, .ref b), (1, .ref (a 0)), (2, .ref h0), (3, .ref o0), (4, .int 0)]) hx hb dL_law_1339 hl (by decide) rfl (fun ls hl => ?_)
  refine lv_aload_n hx hb dL_law_1341 rfl (lv_at hl 4 rfl) ?_
  have hPc := hP.sub (ws' := [(h0, .inr (15, fs16))]) [1] rfl
  have hDc := hD.sub (ws' := [(h0, .inr (15, fs16))]) [1] (by decide) rfl
  have hKc := hK.sub (tys' := []) [] rfl
  have hFc := va_free (wc := [(h0, .inr (15, fs16))]) hD hS hA [1] rfl
  refine va_calli (va_runV (As := []) (rest := []) ⟨hx, hb, hml, hown, hts⟩ (m_thrown l dC dI h0 fs16 1 H.size hw15) (cwV 0 hts (goodIn_app (goodIn_r _ [40, 41, 42, 28] (by decide +kernel) (by decide +kernel)) (goodIn_ca (goodIn_r _ [39, 22] (by decide +kernel) (by decide +kernel)) (bs_in _ _))) rfl rfl rfl (by decide +kernel) ⟨(Nat.le_of_ble_eq_true rfl), (Nat.le_of_ble_eq_true rfl)⟩) ⟨fun a U g mk q => by obtain ⟨q0, q1, qP, qK, qD⟩ := q; exact ⟨q0, q1, qP, va_K.moved (u := U) (U := U.calling g mk a) (Vm.Alike.refl U.vm) qK, qD⟩, va_recv hKc hPc (ci := 15) (q0 := 0) rfl rfl, fun U hU hW => ⟨rfl, by rw [hU], by rw [hU]; exact hPc, va_K.moved hW.alike hKc, hDc.weaken (fun _ _ _ _ => trivial)⟩⟩ rfl rfl hl.1 rfl (lv_room (Nat.le_of_ble_eq_true rfl)) dL_law_1342 ⟨(Nat.le_of_ble_eq_true rfl), (Nat.le_of_ble_eq_true rfl)⟩) hS (fun q _ h => hFc q h) hFc (fun r18 u t H1 locs ht hvm hw19 hB hz1 hk1 hS => ?_)
  have hP1 : va_P (dC, dI) vwCl [] H1 := nilP
  have hD1 : va_D (va_A [(h0, .inr (15, fs16))] H.size) [] := nilD
  have hK := hK
  obtain ⟨hP, hD⟩ := va_join (wr := [(o0, .inl (ko, 1, .inr (.inl fu8)))]) (w1 := []) hP hD [1] [0] rfl rfl (by decide) (by decide) hk1 hFc hP1 hD1
  generalize H1 = H at hP hS ⊢
  have hP : va_P (dC, dI) vwCl [(o0, .inl (ko, 1, .inr (.inl fu8)))] H := hP
  have hD : va_D A [(o0, .inl (ko, 1, .inr (.inl fu8)))] := hD
  try dsimp only at hw19
  obtain rfl : 1 = r18 := hw19.symm
  refine lv_iload hx hb dL_law_1345 (lv_at hl 1 rfl) ?_
  refine lv_icmp_eq (tgt := 1352) hx hb dL_law_1347 (by decide) (fun c20 => ?_) (fun c20 => absurd c20 (by decide))
  refine lv_iload hx hb dL_law_1352 (lv_at hl 1 rfl) ?_
  refine lv_if_ne (tgt := 1369) hx hb dL_law_1354 (by decide) (fun c21 => ?_) (fun c21 => absurd c21 (by decide))
  refine lv_goto (tgt := 3762) hx hb dL_law_1369 (by decide) ?_
  exact law_tail hx hb hr hlocks hX hbl hbA hAi hS (Nat.le_of_ble_eq_true rfl) (Nat.le_of_ble_eq_true rfl) ls (lv_sub hl [2, 6] rfl)
def w_law_14 : List Cond := .initialized RL :: ([.codeWith yL_work cL_work 5 (some .int) [(0, 10, 13, 13), (0, 10, 17, 39)], .code yX11_work cX11_work 4 (some .int), .code yX11_workOf cX11_workOf 2 (some (.object "SeaLand$Work")), .fieldLink RX11 16 "SeaLand" "lake" "LSeaLand$Lake;", .code yX11_within cX11_within 3 (some .boolean), .methodLink RX11 58 yX11_within, .static yX11_within, .initialized RX11, .classLink RX11 557 "java/lang/IndexOutOfBoundsException", .initialized "java/lang/IndexOutOfBoundsException", .methodLink RX11 167 yX11_workOf, .instanceMethod yX11_workOf, .selects RX11 yX11_workOf yX11_workOf, .methodLink RL 66 yX11_work, .instanceMethod yX11_work, .selects RX11 yX11_work yX11_work, .classLink RL 13 "java/lang/IndexOutOfBoundsException", .methodLink RL 230 yL_work, .static yL_work, .initialized RL, .code yX12_work cX12_work 4 (some .int), .fieldLink RX12 194 "SeaLandModel" "thrown" "I", .code yX12_noWork cX12_noWork 2 (some .boolean), .fieldLink RX12 9 "SeaLandModel" "world" "[I", .code yX12_in cX12_in 3 (some .boolean), .methodLink RX12 197 yX12_in, .static yX12_in, .initialized RX12, .methodLink RX12 269 yX12_noWork, .instanceMethod yX12_noWork, .selects RX12 yX12_noWork yX12_noWork, .code yX12_throwsIf cX12_throwsIf 3 (some .boolean), .methodLink RX12 224 yX12_throwsIf, .instanceMethod yX12_throwsIf, .selects RX12 yX12_throwsIf yX12_throwsIf, .methodLink RL 232 yX12_work, .instanceMethod yX12_work, .selects RX12 yX12_work yX12_work, .code yX12_thrown cX12_thrown 1 (some .int), .methodLink RL 187 yX12_thrown, .instanceMethod yX12_thrown, .selects RX12 yX12_thrown yX12_thrown] ++ bs)
set_option maxRecDepth 100000 in
theorem wm_14 : ∀ w ∈ w_law_14, w ∈ lw_tbl := lw_ins (List.mem_of_getElem? (i := 110) (by decide +kernel)) (lw_in _ (1189 :: 1193 :: 1134 :: 589 :: 902 :: 900 :: 901 :: 111 :: 903 :: 126 :: 1131 :: 1133 :: 8 :: 1190 :: 1191 :: 1192 :: 811 :: 1187 :: 1188 :: 110 :: 2343 :: 1969 :: 2307 :: 1970 :: 2217 :: 2215 :: 2216 :: 122 :: 2304 :: 2306 :: 55 :: 2221 :: 2218 :: 2220 :: 44 :: 2340 :: 2341 :: 2342 :: 2207 :: 2204 :: 2205 :: 2206 :: []) (by decide +kernel))
set_option maxHeartbeats 4000000 in
set_option maxRecDepth 100000 in
/-- work -/
theorem law_14 {p : Program} {e : Env} {s : State} {m : MethodId} {below : List Frame} {meth : Method} {c : Code} (l : Launch) (hlt : l.stackTraces = false) {b : Nat} {xs : Nat → Int32} {A : Nat → Prop} (hx : p.tables.exec = Jvm.exec) (hb : c.code = code) (hr : meth.sig.returnType = ret) (hml : c.maxLocals = 7) (hown : s.vm.findClass RL = some m.cls) (hts : ∀ w ∈ w_law_14, w.before #[Value.ref b] s = true) (hX : va_X b 8 xs s s.heap) (hbl : b < s.heap.size) (hbA : ¬ A b) (hlocks : meth.locks = false) (hE : EV A s s.heap) (hN : NC s) (hA : ∀ q : Nat, s.heap.size ≤ q → A q) (hAi : ∀ q : Nat, A q → s.heap.size ≤ q) {dC : Nat → ClassId} {dI : Nat → Nat → Nat} (a : Nat → Nat) (k : Nat → ClassId) (h0 : Nat) (q : Nat → Nat) (cm : Nat → ClassId) (o0 : Nat) (ko : ClassId) (H : Heap) (locs : List Loc) (hK : va_K (dC, dI) vwCl [(ko, .long), ((cm 1), .int)] s) (hP : va_P (dC, dI) vwCl [(a 0, .inr (14, [.ref (a 1), .ref (a 2), .ref (a 27), .ref (a 30), .ref (a 74), .ref (a 75), .null, .int 0, .int 0])), (a 2, .inr (6, [.ref (a 3), .ref (a 14), .ref (a 26), .int 0, .int 0])), (o0, .inl (ko, 1, .inr (.inl (fun _ => 0)))), (h0, .inr (15, mF q 0)), (q 1, .inl ((cm 1), 1749, .inl (fun _ => 0)))] H) (hD : va_D A [(a 0, .inr (14, [.ref (a 1), .ref (a 2), .ref (a 27), .ref (a 30), .ref (a 74), .ref (a 75), .null, .int 0, .int 0])), (a 2, .inr (6, [.ref (a 3), .ref (a 14), .ref (a 26), .int 0, .int 0])), (o0, .inl (ko, 1, .inr (.inl (fun _ => 0)))), (h0, .inr (15, mF q 0)), (q 1, .inl ((cm 1), 1749, .inl (fun _ => 0)))]) (hS : va_S A s.heap H locs) (ls : Array Slot) (hl : lv_has ls 7 [(0, .ref b), (1, .ref (a 0)), (2, .ref h0), (3, .ref o0), (4, .int 0)]) : W p l e room_1 s m #[Value.ref b] below meth c H locs 238 27427 (lw_Z below #[Value.ref b] s) (F0 m 1372 ls []) := by
  refine lv_aload_n hx hb dL_law_1372 rfl (lv_at hl 1 rfl) ?_
  refine lv_aload_n hx hb dL_law_1373 rfl (lv_at hl 0 rfl) ?_
  refine lv_iload hx hb dL_law_1374 (lv_at hl 4 rfl) ?_
  refine lv_iconst (v := 1) hx hb dL_law_1376 (by decide) ?_
  refine lv_iadd hx hb dL_law_1377 ?_
  refine lv_topi (fun x1 ex1 => ?_)
  obtain rfl : x1 = 1 := ex1.trans (by decide)
  refine va_sld hx hb hX hbl hbA hS (i := 1) (by unfold vp_in; decide) dL_law_1378 ?_
  refine lv_topi (fun x2 ex2 => ?_)
  obtain rfl : xs 1 = x2 := (ex2).symm
  refine lv_aload_n hx hb dL_law_1379 rfl (lv_at hl 0 rfl) ?_
  refine lv_iload hx hb dL_law_1380 (lv_at hl 4 rfl) ?_
  refine lv_iconst (v := 2) hx hb dL_law_1382 (by decide) ?_
  refine lv_iadd hx hb dL_law_1383 ?_
  refine lv_topi (fun x3 ex3 => ?_)
  obtain rfl : x3 = 2 := ex3.trans (by decide)
  refine va_sld hx hb hX hbl hbA hS (i := 2) (by unfold vp_in; decide) dL_law_1384 ?_
  refine lv_topi (fun x4 ex4 => ?_)
  obtain rfl : xs 2 = x4 := (ex4).symm
  refine lv_aload_n hx hb dL_law_1385 rfl (lv_at hl 3 rfl) ?_
  have hPc := hP.sub (ws' := [(a 0, .inr (14, [.ref (a 1), .ref (a 2), .ref (a 27), .ref (a 30), .ref (a 74), .ref (a 75), .null, .int 0, .int 0])), (a 2, .inr (6, [.ref (a 3), .ref (a 14), .ref (a 26), .int 0, .int 0])), (o0, .inl (ko, 1, .inr (.inl (fun _ => 0))))]) [0, 1, 2] rfl
  have hDc := hD.sub (ws' := [(a 0, .inr (14, [.ref (a 1), .ref (a 2), .ref (a 27), .ref (a 30), .ref (a 74), .ref (a 75), .null, .int 0, .int 0])), (a 2, .inr (6, [.ref (a 3), .ref (a 14), .ref (a 26), .int 0, .int 0])), (o0, .inl (ko, 1, .inr (.inl (fun _ => 0))))]) [0, 1, 2] (by decide) rfl
  have hKc := hK.sub (tys' := [(ko, .long)]) [0] rfl
  have hFc := va_free (wc := [(a 0, .inr (14, [.ref (a 1), .ref (a 2), .ref (a 27), .ref (a 30), .ref (a 74), .ref (a 75), .null, .int 0, .int 0])), (a 2, .inr (6, [.ref (a 3), .ref (a 14), .ref (a 26), .int 0, .int 0])), (o0, .inl (ko, 1, .inr (.inl (fun _ => 0))))]) hD hS hA [0, 1, 2] rfl
  refine va_calli (vx_runSW (As := [.ref (a 0), .int (xs 1), .int (xs 2), .ref o0]) (rest := []) ⟨hx, hb, hml, hown, hts⟩ (l_work l hlt dC dI a k o0 ko (fun _ => 0) (xs 1) (xs 2) H.size ) (vx_cwSW 4 hts (goodIn_app (goodIn_r _ [18, 19, 20] (by decide +kernel) (by decide +kernel)) (goodIn_ca (goodIn_r _ [1, 2, 3, 4, 5, 6, 7, 8, 9, 10, 11, 12, 13, 14, 15, 16, 17] (by decide +kernel) (by decide +kernel)) (bs_in _ _))) rfl rfl rfl (by decide +kernel) ⟨(Nat.le_of_ble_eq_true rfl), (Nat.le_of_ble_eq_true rfl)⟩) ⟨fun a U g mk q => by obtain ⟨q0, q1, qP, qK, qD, qE, qN⟩ := q; exact ⟨q0, q1, qP, va_K.moved (u := U) (U := U.calling g mk a) (Vm.Alike.refl U.vm) qK, qD, EV.blind g mk a qE, NC.blind g mk a qN⟩, fun U hU hW => ⟨rfl, by rw [hU], by rw [hU]; exact hPc, va_K.moved hW.alike hKc, hDc.weaken (fun _ _ _ _ => trivial), hE.call hS hFc hU hW, hN.call hW⟩⟩ rfl rfl hl.1 rfl (lv_room (Nat.le_of_ble_eq_true rfl)) dL_law_1386 ⟨(Nat.le_of_ble_eq_true rfl), (Nat.le_of_ble_eq_true rfl)⟩) hS (fun q _ h => hFc q h) hFc (fun r6 u t H1 locs ht hvm hw7 hB hz1 hk1 hS => ?_)
  obtain ⟨fu8, rfl⟩ : ∃ z, z = u := ⟨_, rfl⟩
  obtain ⟨hP1, hD1⟩ := hB
  rw [ht] at hP1
  obtain ⟨hP, hD⟩ := va_join (wr := [(h0, .inr (15, mF q 0)), (q 1, .inl ((cm 1), 1749, .inl (fun _ => 0)))]) (w1 := [(o0, .inl (ko, 1, .inr (.inl fu8)))]) hP hD [0, 1, 2] [3, 4] rfl rfl (by decide) (by decide) hk1 hFc hP1 hD1
  generalize H1 = H at hP hS ⊢
  have hP : va_P (dC, dI) vwCl [(h0, .inr (15, mF q 0)), (q 1, .inl ((cm 1), 1749, .inl (fun _ => 0))), (o0, .inl (ko, 1, .inr (.inl fu8)))] H := hP
  have hD : va_D A [(h0, .inr (15, mF q 0)), (q 1, .inl ((cm 1), 1749, .inl (fun _ => 0))), (o0, .inl (ko, 1, .inr (.inl fu8)))] := hD
  try dsimp only at hw7
  obtain rfl : 1 = r6 := hw7.symm
  refine lv_istore (lv' := [(5, .int 1), (0, .ref b), (1, .ref (a 0)), (2, .ref h0), (3, .ref o0), (4, .int 0)]) hx hb dL_law_1389 hl (by decide) rfl (fun ls hl => ?_)
  refine lv_aload_n hx hb dL_law_1391 rfl (lv_at hl 3 rfl) ?_
  refine lv_aload_n hx hb dL_law_1392 rfl (lv_at hl 1 rfl) ?_
  refine lv_iload hx hb dL_law_1393 (lv_at hl 5 rfl) ?_
  refine lv_iconst (v := 1) hx hb dL_law_1395 (by decide) ?_
  refine lv_iadd hx hb dL_law_1396 ?_
  refine lv_topi (fun x9 ex9 => ?_)
  obtain rfl : x9 = 1 := ex9.trans (by decide)
  refine va_sld hx hb hX hbl hbA hS (i := 1) (by unfold vp_in; decide) dL_law_1397 ?_
  refine lv_topi (fun x10 ex10 => ?_)
  obtain rfl : xs 1 = x10 := (ex10).symm
  refine lv_aload_n hx hb dL_law_1398 rfl (lv_at hl 1 rfl) ?_
  refine lv_iload hx hb dL_law_1399 (lv_at hl 5 rfl) ?_
  refine lv_iconst (v := 2) hx hb dL_law_1401 (by decide) ?_
  refine lv_iadd hx hb dL_law_1402 ?_
  refine lv_topi (fun x11 ex11 => ?_)
  obtain rfl : x11 = 2 := ex11.trans (by decide)
  refine va_sld hx hb hX hbl hbA hS (i := 2) (by unfold vp_in; decide) dL_law_1403 ?_
  refine lv_topi (fun x12 ex12 => ?_)
  obtain rfl : xs 2 = x12 := (ex12).symm
  have hPc := hP.sub (ws' := [(h0, .inr (15, mF q 0)), (q 1, .inl ((cm 1), 1749, .inl (fun _ => 0)))]) [0, 1] rfl
  have hDc := hD.sub (ws' := [(h0, .inr (15, mF q 0)), (q 1, .inl ((cm 1), 1749, .inl (fun _ => 0)))]) [0, 1] (by decide) rfl
  have hKc := hK.sub (tys' := [((cm 1), .int)]) [1] rfl
  have hFc := va_free (wc := [(h0, .inr (15, mF q 0)), (q 1, .inl ((cm 1), 1749, .inl (fun _ => 0)))]) hD hS hA [0, 1] rfl
  refine va_calli (va_runV (As := [.int (xs 1), .int (xs 2)]) (rest := []) ⟨hx, hb, hml, hown, hts⟩ (m_work l dC dI h0 q cm (xs 1) (xs 2) H.size ) (cwV 2 hts (goodIn_app (goodIn_r _ [36, 37, 38, 28] (by decide +kernel) (by decide +kernel)) (goodIn_ca (goodIn_r _ [21, 22, 23, 24, 25, 26, 27, 28, 29, 30, 31, 32, 33, 34, 35] (by decide +kernel) (by decide +kernel)) (bs_in _ _))) rfl rfl rfl (by decide +kernel) ⟨(Nat.le_of_ble_eq_true rfl), (Nat.le_of_ble_eq_true rfl)⟩) ⟨fun a U g mk q => by obtain ⟨q0, q1, qP, qK, qD⟩ := q; exact ⟨q0, q1, qP, va_K.moved (u := U) (U := U.calling g mk a) (Vm.Alike.refl U.vm) qK, qD⟩, va_recv hKc hPc (ci := 15) (q0 := 0) rfl rfl, fun U hU hW => ⟨rfl, by rw [hU], by rw [hU]; exact hPc, va_K.moved hW.alike hKc, hDc.weaken (fun _ _ _ _ => trivial)⟩⟩ rfl rfl hl.1 rfl (lv_room (Nat.le_of_ble_eq_true rfl)) dL_law_1404 ⟨(Nat.le_of_ble_eq_true rfl), (Nat.le_of_ble_eq_true rfl)⟩) hS (fun q _ h => hFc q h) hFc (fun r14 u t H1 locs ht hvm hw15 hB hz1 hk1 hS => ?_)
  obtain ⟨fs16, rfl⟩ : ∃ z, z = u := ⟨_, rfl⟩
  obtain ⟨hP1, hD1⟩ := hB
  rw [ht] at hP1
  obtain ⟨hP, hD⟩ := va_join (wr := [(o0, .inl (ko, 1, .inr (.inl fu8)))]) (w1 := [(h0, .inr (15, fs16))]) hP hD [0, 1] [2] rfl rfl (by decide) (by decide) hk1 hFc hP1 hD1
  generalize H1 = H at hP hS ⊢
  have hP : va_P (dC, dI) vwCl [(o0, .inl (ko, 1, .inr (.inl fu8))), (h0, .inr (15, fs16))] H := hP
  have hD : va_D A [(o0, .inl (ko, 1, .inr (.inl fu8))), (h0, .inr (15, fs16))] := hD
  try dsimp only at hw15
  refine lv_istore (lv' := [(6, .int r14), (5, .int 1), (0, .ref b), (1, .ref (a 0)), (2, .ref h0), (3, .ref o0), (4, .int 0)]) hx hb dL_law_1407 hl (by decide) rfl (fun ls hl => ?_)
  refine lv_aload_n hx hb dL_law_1409 rfl (lv_at hl 4 rfl) ?_
  have hPc := hP.sub (ws' := [(h0, .inr (15, fs16))]) [1] rfl
  have hDc := hD.sub (ws' := [(h0, .inr (15, fs16))]) [1] (by decide) rfl
  have hKc := hK.sub (tys' := []) [] rfl
  have hFc := va_free (wc := [(h0, .inr (15, fs16))]) hD hS hA [1] rfl
  refine va_calli (va_runV (As := []) (rest := []) ⟨hx, hb, hml, hown, hts⟩ (m_thrown l dC dI h0 fs16 1 H.size hw15) (cwV 0 hts (goodIn_app (goodIn_r _ [40, 41, 42, 28] (by decide +kernel) (by decide +kernel)) (goodIn_ca (goodIn_r _ [39, 22] (by decide +kernel) (by decide +kernel)) (bs_in _ _))) rfl rfl rfl (by decide +kernel) ⟨(Nat.le_of_ble_eq_true rfl), (Nat.le_of_ble_eq_true rfl)⟩) ⟨fun a U g mk q => by obtain ⟨q0, q1, qP, qK, qD⟩ := q; exact ⟨q0, q1, qP, va_K.moved (u := U) (U := U.calling g mk a) (Vm.Alike.refl U.vm) qK, qD⟩, va_recv hKc hPc (ci := 15) (q0 := 0) rfl rfl, fun U hU hW => ⟨rfl, by rw [hU], by rw [hU]; exact hPc, va_K.moved hW.alike hKc, hDc.weaken (fun _ _ _ _ => trivial)⟩⟩ rfl rfl hl.1 rfl (lv_room (Nat.le_of_ble_eq_true rfl)) dL_law_1410 ⟨(Nat.le_of_ble_eq_true rfl), (Nat.le_of_ble_eq_true rfl)⟩) hS (fun q _ h => hFc q h) hFc (fun r18 u t H1 locs ht hvm hw19 hB hz1 hk1 hS => ?_)
  have hP1 : va_P (dC, dI) vwCl [] H1 := nilP
  have hD1 : va_D (va_A [(h0, .inr (15, fs16))] H.size) [] := nilD
  have hK := hK
  obtain ⟨hP, hD⟩ := va_join (wr := [(o0, .inl (ko, 1, .inr (.inl fu8)))]) (w1 := []) hP hD [1] [0] rfl rfl (by decide) (by decide) hk1 hFc hP1 hD1
  generalize H1 = H at hP hS ⊢
  have hP : va_P (dC, dI) vwCl [(o0, .inl (ko, 1, .inr (.inl fu8)))] H := hP
  have hD : va_D A [(o0, .inl (ko, 1, .inr (.inl fu8)))] := hD
  try dsimp only at hw19
  obtain rfl : 1 = r18 := hw19.symm
  refine lv_iload hx hb dL_law_1413 (lv_at hl 1 rfl) ?_
  refine lv_icmp_eq (tgt := 1420) hx hb dL_law_1415 (by decide) (fun c20 => ?_) (fun c20 => absurd c20 (by decide))
  refine lv_iload hx hb dL_law_1420 (lv_at hl 1 rfl) ?_
  refine lv_if_ne (tgt := 1437) hx hb dL_law_1422 (by decide) (fun c21 => ?_) (fun c21 => absurd c21 (by decide))
  refine lv_goto (tgt := 3762) hx hb dL_law_1437 (by decide) ?_
  exact law_tail hx hb hr hlocks hX hbl hbA hAi hS (Nat.le_of_ble_eq_true rfl) (Nat.le_of_ble_eq_true rfl) ls (lv_sub hl [2, 6] rfl)
def w_law_15 : List Cond := .initialized RL :: ([.codeWith yL_seep cL_seep 5 (some .int) [(0, 10, 13, 13), (0, 10, 17, 15), (0, 10, 21, 50)], .code yX11_seep cX11_seep 4 (some .int), .code yX11_workOf cX11_workOf 2 (some (.object "SeaLand$Work")), .fieldLink RX11 16 "SeaLand" "lake" "LSeaLand$Lake;", .code yX11_within cX11_within 3 (some .boolean), .methodLink RX11 58 yX11_within, .static yX11_within, .initialized RX11, .classLink RX11 557 "java/lang/IndexOutOfBoundsException", .initialized "java/lang/IndexOutOfBoundsException", .methodLink RX11 167 yX11_workOf, .instanceMethod yX11_workOf, .selects RX11 yX11_workOf yX11_workOf, .methodLink RL 69 yX11_seep, .instanceMethod yX11_seep, .selects RX11 yX11_seep yX11_seep, .classLink RL 13 "java/lang/IndexOutOfBoundsException", .methodLink RL 233 yL_seep, .static yL_seep, .initialized RL, .code yX12_seep cX12_seep 3 (some .int), .fieldLink RX12 194 "SeaLandModel" "thrown" "I", .code yX12_noWork cX12_noWork 2 (some .boolean), .fieldLink RX12 9 "SeaLandModel" "world" "[I", .code yX12_in cX12_in 3 (some .boolean), .methodLink RX12 197 yX12_in, .static yX12_in, .initialized RX12, .methodLink RX12 269 yX12_noWork, .instanceMethod yX12_noWork, .selects RX12 yX12_noWork yX12_noWork, .code yX12_throwsIf cX12_throwsIf 3 (some .boolean), .methodLink RX12 224 yX12_throwsIf, .instanceMethod yX12_throwsIf, .selects RX12 yX12_throwsIf yX12_throwsIf, .methodLink RL 235 yX12_seep, .instanceMethod yX12_seep, .selects RX12 yX12_seep yX12_seep, .code yX12_thrown cX12_thrown 1 (some .int), .methodLink RL 187 yX12_thrown, .instanceMethod yX12_thrown, .selects RX12 yX12_thrown yX12_thrown] ++ bs)
set_option maxRecDepth 100000 in
theorem wm_15 : ∀ w ∈ w_law_15, w ∈ lw_tbl := lw_ins (List.mem_of_getElem? (i := 110) (by decide +kernel)) (lw_in _ (1209 :: 1213 :: 1134 :: 589 :: 902 :: 900 :: 901 :: 111 :: 903 :: 126 :: 1131 :: 1133 :: 8 :: 1210 :: 1211 :: 1212 :: 811 :: 1207 :: 1208 :: 110 :: 2351 :: 1969 :: 2307 :: 1970 :: 2217 :: 2215 :: 2216 :: 122 :: 2304 :: 2306 :: 55 :: 2221 :: 2218 :: 2220 :: 44 :: 2348 :: 2349 :: 2350 :: 2207 :: 2204 :: 2205 :: 2206 :: []) (by decide +kernel))
set_option maxHeartbeats 4000000 in
set_option maxRecDepth 100000 in
/-- seep -/
theorem law_15 {p : Program} {e : Env} {s : State} {m : MethodId} {below : List Frame} {meth : Method} {c : Code} (l : Launch) (hlt : l.stackTraces = false) {b : Nat} {xs : Nat → Int32} {A : Nat → Prop} (hx : p.tables.exec = Jvm.exec) (hb : c.code = code) (hr : meth.sig.returnType = ret) (hml : c.maxLocals = 7) (hown : s.vm.findClass RL = some m.cls) (hts : ∀ w ∈ w_law_15, w.before #[Value.ref b] s = true) (hX : va_X b 8 xs s s.heap) (hbl : b < s.heap.size) (hbA : ¬ A b) (hlocks : meth.locks = false) (hE : EV A s s.heap) (hN : NC s) (hA : ∀ q : Nat, s.heap.size ≤ q → A q) (hAi : ∀ q : Nat, A q → s.heap.size ≤ q) {dC : Nat → ClassId} {dI : Nat → Nat → Nat} (a : Nat → Nat) (k : Nat → ClassId) (h0 : Nat) (q : Nat → Nat) (cm : Nat → ClassId) (o0 : Nat) (ko : ClassId) (H : Heap) (locs : List Loc) (hK : va_K (dC, dI) vwCl [(ko, .long), ((cm 1), .int)] s) (hP : va_P (dC, dI) vwCl [(a 0, .inr (14, [.ref (a 1), .ref (a 2), .ref (a 27), .ref (a 30), .ref (a 74), .ref (a 75), .null, .int 0, .int 0])), (a 2, .inr (6, [.ref (a 3), .ref (a 14), .ref (a 26), .int 0, .int 0])), (o0, .inl (ko, 1, .inr (.inl (fun _ => 0)))), (h0, .inr (15, mF q 0)), (q 1, .inl ((cm 1), 1749, .inl (fun _ => 0)))] H) (hD : va_D A [(a 0, .inr (14, [.ref (a 1), .ref (a 2), .ref (a 27), .ref (a 30), .ref (a 74), .ref (a 75), .null, .int 0, .int 0])), (a 2, .inr (6, [.ref (a 3), .ref (a 14), .ref (a 26), .int 0, .int 0])), (o0, .inl (ko, 1, .inr (.inl (fun _ => 0)))), (h0, .inr (15, mF q 0)), (q 1, .inl ((cm 1), 1749, .inl (fun _ => 0)))]) (hS : va_S A s.heap H locs) (ls : Array Slot) (hl : lv_has ls 7 [(0, .ref b), (1, .ref (a 0)), (2, .ref h0), (3, .ref o0), (4, .int 0)]) : W p l e room_1 s m #[Value.ref b] below meth c H locs 238 27427 (lw_Z below #[Value.ref b] s) (F0 m 1440 ls []) := by
  refine lv_aload_n hx hb dL_law_1440 rfl (lv_at hl 1 rfl) ?_
  refine lv_aload_n hx hb dL_law_1441 rfl (lv_at hl 0 rfl) ?_
  refine lv_iload hx hb dL_law_1442 (lv_at hl 4 rfl) ?_
  refine lv_iconst (v := 1) hx hb dL_law_1444 (by decide) ?_
  refine lv_iadd hx hb dL_law_1445 ?_
  refine lv_topi (fun x1 ex1 => ?_)
  obtain rfl : x1 = 1 := ex1.trans (by decide)
  refine va_sld hx hb hX hbl hbA hS (i := 1) (by unfold vp_in; decide) dL_law_1446 ?_
  refine lv_topi (fun x2 ex2 => ?_)
  obtain rfl : xs 1 = x2 := (ex2).symm
  refine lv_aload_n hx hb dL_law_1447 rfl (lv_at hl 0 rfl) ?_
  refine lv_iload hx hb dL_law_1448 (lv_at hl 4 rfl) ?_
  refine lv_iconst (v := 2) hx hb dL_law_1450 (by decide) ?_
  refine lv_iadd hx hb dL_law_1451 ?_
  refine lv_topi (fun x3 ex3 => ?_)
  obtain rfl : x3 = 2 := ex3.trans (by decide)
  refine va_sld hx hb hX hbl hbA hS (i := 2) (by unfold vp_in; decide) dL_law_1452 ?_
  refine lv_topi (fun x4 ex4 => ?_)
  obtain rfl : xs 2 = x4 := (ex4).symm
  refine lv_aload_n hx hb dL_law_1453 rfl (lv_at hl 3 rfl) ?_
  have hPc := hP.sub (ws' := [(a 0, .inr (14, [.ref (a 1), .ref (a 2), .ref (a 27), .ref (a 30), .ref (a 74), .ref (a 75), .null, .int 0, .int 0])), (a 2, .inr (6, [.ref (a 3), .ref (a 14), .ref (a 26), .int 0, .int 0])), (o0, .inl (ko, 1, .inr (.inl (fun _ => 0))))]) [0, 1, 2] rfl
  have hDc := hD.sub (ws' := [(a 0, .inr (14, [.ref (a 1), .ref (a 2), .ref (a 27), .ref (a 30), .ref (a 74), .ref (a 75), .null, .int 0, .int 0])), (a 2, .inr (6, [.ref (a 3), .ref (a 14), .ref (a 26), .int 0, .int 0])), (o0, .inl (ko, 1, .inr (.inl (fun _ => 0))))]) [0, 1, 2] (by decide) rfl
  have hKc := hK.sub (tys' := [(ko, .long)]) [0] rfl
  have hFc := va_free (wc := [(a 0, .inr (14, [.ref (a 1), .ref (a 2), .ref (a 27), .ref (a 30), .ref (a 74), .ref (a 75), .null, .int 0, .int 0])), (a 2, .inr (6, [.ref (a 3), .ref (a 14), .ref (a 26), .int 0, .int 0])), (o0, .inl (ko, 1, .inr (.inl (fun _ => 0))))]) hD hS hA [0, 1, 2] rfl
  refine va_calli (vx_runSW (As := [.ref (a 0), .int (xs 1), .int (xs 2), .ref o0]) (rest := []) ⟨hx, hb, hml, hown, hts⟩ (l_seep l hlt dC dI a k o0 ko (fun _ => 0) (xs 1) (xs 2) H.size ) (vx_cwSW 4 hts (goodIn_app (goodIn_r _ [18, 19, 20] (by decide +kernel) (by decide +kernel)) (goodIn_ca (goodIn_r _ [1, 2, 3, 4, 5, 6, 7, 8, 9, 10, 11, 12, 13, 14, 15, 16, 17] (by decide +kernel) (by decide +kernel)) (bs_in _ _))) rfl rfl rfl (by decide +kernel) ⟨(Nat.le_of_ble_eq_true rfl), (Nat.le_of_ble_eq_true rfl)⟩) ⟨fun a U g mk q => by obtain ⟨q0, q1, qP, qK, qD, qE, qN⟩ := q; exact ⟨q0, q1, qP, va_K.moved (u := U) (U := U.calling g mk a) (Vm.Alike.refl U.vm) qK, qD, EV.blind g mk a qE, NC.blind g mk a qN⟩, fun U hU hW => ⟨rfl, by rw [hU], by rw [hU]; exact hPc, va_K.moved hW.alike hKc, hDc.weaken (fun _ _ _ _ => trivial), hE.call hS hFc hU hW, hN.call hW⟩⟩ rfl rfl hl.1 rfl (lv_room (Nat.le_of_ble_eq_true rfl)) dL_law_1454 ⟨(Nat.le_of_ble_eq_true rfl), (Nat.le_of_ble_eq_true rfl)⟩) hS (fun q _ h => hFc q h) hFc (fun r6 u t H1 locs ht hvm hw7 hB hz1 hk1 hS => ?_)
  obtain ⟨fu8, rfl⟩ : ∃ z, z = u := ⟨_, rfl⟩
  obtain ⟨hP1, hD1⟩ := hB
  rw [ht] at hP1
  obtain ⟨hP, hD⟩ := va_join (wr := [(h0, .inr (15, mF q 0)), (q 1, .inl ((cm 1), 1749, .inl (fun _ => 0)))]) (w1 := [(o0, .inl (ko, 1, .inr (.inl fu8)))]) hP hD [0, 1, 2] [3, 4] rfl rfl (by decide) (by decide) hk1 hFc hP1 hD1
  generalize H1 = H at hP hS ⊢
  have hP : va_P (dC, dI) vwCl [(h0, .inr (15, mF q 0)), (q 1, .inl ((cm 1), 1749, .inl (fun _ => 0))), (o0, .inl (ko, 1, .inr (.inl fu8)))] H := hP
  have hD : va_D A [(h0, .inr (15, mF q 0)), (q 1, .inl ((cm 1), 1749, .inl (fun _ => 0))), (o0, .inl (ko, 1, .inr (.inl fu8)))] := hD
  try dsimp only at hw7
  obtain rfl : 1 = r6 := hw7.symm
  refine lv_istore (lv' := [(5, .int 1), (0, .ref b), (1, .ref (a 0)), (2, .ref h0), (3, .ref o0), (4, .int 0)]) hx hb dL_law_1457 hl (by decide) rfl (fun ls hl => ?_)
  refine lv_aload_n hx hb dL_law_1459 rfl (lv_at hl 3 rfl) ?_
  refine lv_aload_n hx hb dL_law_1460 rfl (lv_at hl 1 rfl) ?_
  refine lv_iload hx hb dL_law_1461 (lv_at hl 5 rfl) ?_
  refine lv_iconst (v := 1) hx hb dL_law_1463 (by decide) ?_
  refine lv_iadd hx hb dL_law_1464 ?_
  refine lv_topi (fun x9 ex9 => ?_)
  obtain rfl : x9 = 1 := ex9.trans (by decide)
  refine va_sld hx hb hX hbl hbA hS (i := 1) (by unfold vp_in; decide) dL_law_1465 ?_
  refine lv_topi (fun x10 ex10 => ?_)
  obtain rfl : xs 1 = x10 := (ex10).symm
  refine lv_aload_n hx hb dL_law_1466 rfl (lv_at hl 1 rfl) ?_
  refine lv_iload hx hb dL_law_1467 (lv_at hl 5 rfl) ?_
  refine lv_iconst (v := 2) hx hb dL_law_1469 (by decide) ?_
  refine lv_iadd hx hb dL_law_1470 ?_
  refine lv_topi (fun x11 ex11 => ?_)
  obtain rfl : x11 = 2 := ex11.trans (by decide)
  refine va_sld hx hb hX hbl hbA hS (i := 2) (by unfold vp_in; decide) dL_law_1471 ?_
  refine lv_topi (fun x12 ex12 => ?_)
  obtain rfl : xs 2 = x12 := (ex12).symm
  have hPc := hP.sub (ws' := [(h0, .inr (15, mF q 0)), (q 1, .inl ((cm 1), 1749, .inl (fun _ => 0)))]) [0, 1] rfl
  have hDc := hD.sub (ws' := [(h0, .inr (15, mF q 0)), (q 1, .inl ((cm 1), 1749, .inl (fun _ => 0)))]) [0, 1] (by decide) rfl
  have hKc := hK.sub (tys' := [((cm 1), .int)]) [1] rfl
  have hFc := va_free (wc := [(h0, .inr (15, mF q 0)), (q 1, .inl ((cm 1), 1749, .inl (fun _ => 0)))]) hD hS hA [0, 1] rfl
  refine va_calli (va_runV (As := [.int (xs 1), .int (xs 2)]) (rest := []) ⟨hx, hb, hml, hown, hts⟩ (m_seep l dC dI h0 q cm (xs 1) (xs 2) H.size ) (cwV 2 hts (goodIn_app (goodIn_r _ [36, 37, 38, 28] (by decide +kernel) (by decide +kernel)) (goodIn_ca (goodIn_r _ [21, 22, 23, 24, 25, 26, 27, 28, 29, 30, 31, 32, 33, 34, 35] (by decide +kernel) (by decide +kernel)) (bs_in _ _))) rfl rfl rfl (by decide +kernel) ⟨(Nat.le_of_ble_eq_true rfl), (Nat.le_of_ble_eq_true rfl)⟩) ⟨fun a U g mk q => by obtain ⟨q0, q1, qP, qK, qD⟩ := q; exact ⟨q0, q1, qP, va_K.moved (u := U) (U := U.calling g mk a) (Vm.Alike.refl U.vm) qK, qD⟩, va_recv hKc hPc (ci := 15) (q0 := 0) rfl rfl, fun U hU hW => ⟨rfl, by rw [hU], by rw [hU]; exact hPc, va_K.moved hW.alike hKc, hDc.weaken (fun _ _ _ _ => trivial)⟩⟩ rfl rfl hl.1 rfl (lv_room (Nat.le_of_ble_eq_true rfl)) dL_law_1472 ⟨(Nat.le_of_ble_eq_true rfl), (Nat.le_of_ble_eq_true rfl)⟩) hS (fun q _ h => hFc q h) hFc (fun r14 u t H1 locs ht hvm hw15 hB hz1 hk1 hS => ?_)
  obtain ⟨fs16, rfl⟩ : ∃ z, z = u := ⟨_, rfl⟩
  obtain ⟨hP1, hD1⟩ := hB
  rw [ht] at hP1
  obtain ⟨hP, hD⟩ := va_join (wr := [(o0, .inl (ko, 1, .inr (.inl fu8)))]) (w1 := [(h0, .inr (15, fs16))]) hP hD [0, 1] [2] rfl rfl (by decide) (by decide) hk1 hFc hP1 hD1
  generalize H1 = H at hP hS ⊢
  have hP : va_P (dC, dI) vwCl [(o0, .inl (ko, 1, .inr (.inl fu8))), (h0, .inr (15, fs16))] H := hP
  have hD : va_D A [(o0, .inl (ko, 1, .inr (.inl fu8))), (h0, .inr (15, fs16))] := hD
  try dsimp only at hw15
  refine lv_istore (lv' := [(6, .int r14), (5, .int 1), (0, .ref b), (1, .ref (a 0)), (2, .ref h0), (3, .ref o0), (4, .int 0)]) hx hb dL_law_1475 hl (by decide) rfl (fun ls hl => ?_)
  refine lv_aload_n hx hb dL_law_1477 rfl (lv_at hl 4 rfl) ?_
  have hPc := hP.sub (ws' := [(h0, .inr (15, fs16))]) [1] rfl
  have hDc := hD.sub (ws' := [(h0, .inr (15, fs16))]) [1] (by decide) rfl
  have hKc := hK.sub (tys' := []) [] rfl
  have hFc := va_free (wc := [(h0, .inr (15, fs16))]) hD hS hA [1] rfl
  refine va_calli (va_runV (As := []) (rest := []) ⟨hx, hb, hml, hown, hts⟩ (m_thrown l dC dI h0 fs16 1 H.size hw15) (cwV 0 hts (goodIn_app (goodIn_r _ [40, 41, 42, 28] (by decide +kernel) (by decide +kernel)) (goodIn_ca (goodIn_r _ [39, 22] (by decide +kernel) (by decide +kernel)) (bs_in _ _))) rfl rfl rfl (by decide +kernel) ⟨(Nat.le_of_ble_eq_true rfl), (Nat.le_of_ble_eq_true rfl)⟩) ⟨fun a U g mk q => by obtain ⟨q0, q1, qP, qK, qD⟩ := q; exact ⟨q0, q1, qP, va_K.moved (u := U) (U := U.calling g mk a) (Vm.Alike.refl U.vm) qK, qD⟩, va_recv hKc hPc (ci := 15) (q0 := 0) rfl rfl, fun U hU hW => ⟨rfl, by rw [hU], by rw [hU]; exact hPc, va_K.moved hW.alike hKc, hDc.weaken (fun _ _ _ _ => trivial)⟩⟩ rfl rfl hl.1 rfl (lv_room (Nat.le_of_ble_eq_true rfl)) dL_law_1478 ⟨(Nat.le_of_ble_eq_true rfl), (Nat.le_of_ble_eq_true rfl)⟩) hS (fun q _ h => hFc q h) hFc (fun r18 u t H1 locs ht hvm hw19 hB hz1 hk1 hS => ?_)
  have hP1 : va_P (dC, dI) vwCl [] H1 := nilP
  have hD1 : va_D (va_A [(h0, .inr (15, fs16))] H.size) [] := nilD
  have hK := hK
  obtain ⟨hP, hD⟩ := va_join (wr := [(o0, .inl (ko, 1, .inr (.inl fu8)))]) (w1 := []) hP hD [1] [0] rfl rfl (by decide) (by decide) hk1 hFc hP1 hD1
  generalize H1 = H at hP hS ⊢
  have hP : va_P (dC, dI) vwCl [(o0, .inl (ko, 1, .inr (.inl fu8)))] H := hP
  have hD : va_D A [(o0, .inl (ko, 1, .inr (.inl fu8)))] := hD
  try dsimp only at hw19
  obtain rfl : 1 = r18 := hw19.symm
  refine lv_iload hx hb dL_law_1481 (lv_at hl 1 rfl) ?_
  refine lv_icmp_eq (tgt := 1488) hx hb dL_law_1483 (by decide) (fun c20 => ?_) (fun c20 => absurd c20 (by decide))
  refine lv_iload hx hb dL_law_1488 (lv_at hl 1 rfl) ?_
  refine lv_if_ne (tgt := 1505) hx hb dL_law_1490 (by decide) (fun c21 => ?_) (fun c21 => absurd c21 (by decide))
  refine lv_goto (tgt := 3762) hx hb dL_law_1505 (by decide) ?_
  exact law_tail hx hb hr hlocks hX hbl hbA hAi hS (Nat.le_of_ble_eq_true rfl) (Nat.le_of_ble_eq_true rfl) ls (lv_sub hl [2, 6] rfl)
