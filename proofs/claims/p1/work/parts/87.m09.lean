def w_law_42 : List Cond := .initialized RL :: ([.codeWith yL_lifts cL_lifts 7 (some .int) [(0, 14, 17, 15)], .code yX11_lifts cX11_lifts 5 (some .int), .code yX11_within cX11_within 3 (some .boolean), .methodLink RX11 58 yX11_within, .static yX11_within, .initialized RX11, .code yX11_needNumbers cX11_needNumbers 1 none, .methodLink RX11 62 yX11_needNumbers, .static yX11_needNumbers, .fieldLink RX11 43 "SeaLand" "plans" "LSeaLand$Plans;", .fieldLink RX11 16 "SeaLand" "lake" "LSeaLand$Lake;", .code yX5_leastCoal cX5_leastCoal 7 (some .int), .code yX5_gatherEngines cX5_gatherEngines 4 none, .fieldLink RX5 76 "SeaLand$Plans" "engines" "I", .fieldLink RX5 13 "SeaLand$Plans" "liftOf" "[I", .methodLink RX5 51 yX5_gatherEngines, .instanceMethod yX5_gatherEngines, .selects RX5 yX5_gatherEngines yX5_gatherEngines, .initialized RX5, .fieldLink RX5 17 "SeaLand$Plans" "leastNow" "[I", .constant RX5 55 2147483647, .code yJ7_fill_53178 cJ7_fill_53178 4 none, .methodLink RX5 56 yJ7_fill_53178, .static yJ7_fill_53178, .initialized RJ7, .code yX3_allMillsLift cX3_allMillsLift 5 (some .int), .fieldLink RX3 12 "SeaLand$Lake" "sky" "LSeaLand$Sky;", .code yX8_windAt cX8_windAt 4 (some .int), .fieldLink RX8 27 "SeaLand$Sky" "wind" "LSeaLand$Tellings;", .code yX9_standingAt cX9_standingAt 5 (some .int), .fieldLink RX9 18 "SeaLand$Tellings" "told" "I", .methodLink RX8 44 yX9_standingAt, .instanceMethod yX9_standingAt, .selects RX9 yX9_standingAt yX9_standingAt, .initialized RX9, .methodLink RX3 120 yX8_windAt, .instanceMethod yX8_windAt, .selects RX8 yX8_windAt yX8_windAt, .initialized RX8, .fieldLink RX3 47 "SeaLand$Lake" "built" "I", .methodLink RX5 68 yX3_allMillsLift, .instanceMethod yX3_allMillsLift, .selects RX3 yX3_allMillsLift yX3_allMillsLift, .initialized RX3, .code yX5_passPlannedHour cX5_passPlannedHour 7 none, .fieldLink RX5 20 "SeaLand$Plans" "leastThen" "[I", .methodLink RX5 100 arraycopyName, .native arraycopyName, .static arraycopyName, .initialized "java/lang/System", .methodLink RX5 94 Lib.Math.max.name, .static Lib.Math.max.name, .initialized "java/lang/Math", .code Lib.Math.max.name Lib.Math.max.code 2 (some .int), .methodLink RX5 72 yX5_passPlannedHour, .instanceMethod yX5_passPlannedHour, .selects RX5 yX5_passPlannedHour yX5_passPlannedHour, .methodLink RX11 463 yX5_leastCoal, .instanceMethod yX5_leastCoal, .selects RX5 yX5_leastCoal yX5_leastCoal, .classLink RX11 547 "java/lang/IllegalArgumentException", .initialized "java/lang/IllegalArgumentException", .methodLink RL 148 yX11_lifts, .instanceMethod yX11_lifts, .selects RX11 yX11_lifts yX11_lifts, .classLink RL 15 "java/lang/IllegalArgumentException", .methodLink RL 320 yL_lifts, .static yL_lifts, .initialized RL, .code yX12_lifts_ cX12_lifts_ 13 (some .int), .fieldLink RX12 194 "SeaLandModel" "thrown" "I", .code yX12_in cX12_in 3 (some .boolean), .methodLink RX12 197 yX12_in, .static yX12_in, .initialized RX12, .code yX12_throwsIf cX12_throwsIf 3 (some .boolean), .methodLink RX12 224 yX12_throwsIf, .instanceMethod yX12_throwsIf, .selects RX12 yX12_throwsIf yX12_throwsIf, .fieldLink RX12 9 "SeaLandModel" "world" "[I", .constant RX12 538 1000000000, .fieldLink RX12 161 "SeaLandModel" "best" "[I", .methodLink RX12 207 Lib.Math.min.name, .static Lib.Math.min.name, .code Lib.Math.min.name Lib.Math.min.code 2 (some .int), .code yJ6_bitCount_0f7a4 cJ6_bitCount_0f7a4 1 (some .int), .constant RJ6 265 1431655765, .constant RJ6 266 858993459, .constant RJ6 267 252645135, .methodLink RX12 545 yJ6_bitCount_0f7a4, .static yJ6_bitCount_0f7a4, .initialized RJ6, .fieldLink RX12 164 "SeaLandModel" "next" "[I", .methodLink RX12 211 Lib.Math.max.name, .methodLink RL 322 yX12_lifts_, .instanceMethod yX12_lifts_, .selects RX12 yX12_lifts_ yX12_lifts_, .code yX12_thrown cX12_thrown 1 (some .int), .methodLink RL 187 yX12_thrown, .instanceMethod yX12_thrown, .selects RX12 yX12_thrown yX12_thrown] ++ bs)
set_option maxRecDepth 100000 in
theorem wm_42 : ∀ w ∈ w_law_42, w ∈ lw_tbl := lw_ins wl_110 (lw_cons wl_1852 (lw_cons wl_1856 (lw_cons wl_902 (lw_cons wl_900 (lw_cons wl_901 (lw_cons wl_111 (lw_cons wl_918 (lw_cons wl_916 (lw_cons wl_917 (lw_cons wl_593 (lw_cons wl_589 (lw_cons wl_1860 (lw_cons wl_1864 (lw_cons wl_546 (lw_cons wl_533 (lw_cons wl_1861 (lw_cons wl_1863 (lw_cons wl_38 (lw_cons wl_121 (lw_cons wl_534 (lw_cons wl_1865 (lw_cons wl_455 (lw_cons wl_1866 (lw_cons wl_454 (lw_cons wl_120 (lw_cons wl_1870 (lw_cons wl_343 (lw_cons wl_1042 (lw_cons wl_187 (lw_cons wl_1046 (lw_cons wl_172 (lw_cons wl_1043 (lw_cons wl_1044 (lw_cons wl_1045 (lw_cons wl_114 (lw_cons wl_1311 (lw_cons wl_1040 (lw_cons wl_1041 (lw_cons wl_113 (lw_cons wl_355 (lw_cons wl_1867 (lw_cons wl_1868 (lw_cons wl_1869 (lw_cons wl_112 (lw_cons wl_1874 (lw_cons wl_535 (lw_cons wl_1876 (lw_cons wl_759 (lw_cons wl_758 (lw_cons wl_140 (lw_cons wl_1875 (lw_cons wl_959 (lw_cons wl_131 (lw_cons wl_960 (lw_cons wl_1871 (lw_cons wl_1873 (lw_cons wl_39 (lw_cons wl_1857 (lw_cons wl_1858 (lw_cons wl_1859 (lw_cons wl_919 (lw_cons wl_129 (lw_cons wl_1853 (lw_cons wl_1854 (lw_cons wl_1855 (lw_cons wl_891 (lw_cons wl_1850 (lw_cons wl_1851 (lw_cons wl_110 (lw_cons wl_2718 (lw_cons wl_1969 (lw_cons wl_2217 (lw_cons wl_2215 (lw_cons wl_2216 (lw_cons wl_122 (lw_cons wl_2221 (lw_cons wl_2218 (lw_cons wl_2220 (lw_cons wl_44 (lw_cons wl_1970 (lw_cons wl_2694 (lw_cons wl_2034 (lw_cons wl_2229 (lw_cons wl_645 (lw_cons wl_646 (lw_cons wl_2721 (lw_cons wl_2722 (lw_cons wl_2723 (lw_cons wl_2724 (lw_cons wl_2719 (lw_cons wl_2720 (lw_cons wl_141 (lw_cons wl_2035 (lw_cons wl_2230 (lw_cons wl_2715 (lw_cons wl_2716 (lw_cons wl_2717 (lw_cons wl_2207 (lw_cons wl_2204 (lw_cons wl_2205 (lw_cons wl_2206 lw_nil)))))))))))))))))))))))))))))))))))))))))))))))))))))))))))))))))))))))))))))))))))))))))))))))))))))
set_option maxHeartbeats 4000000 in
set_option maxRecDepth 100000 in
/-- lifts -/
theorem law_42 {p : Program} {e : Env} {s : State} {m : MethodId} {below : List Frame} {meth : Method} {c : Code} (l : Launch) (hlt : l.stackTraces = false) {b : Nat} {xs : Nat → Int32} {A : Nat → Prop} (hx : p.tables.exec = Jvm.exec) (hb : c.code = code) (hr : meth.sig.returnType = ret) (hml : c.maxLocals = 7) (hown : s.vm.findClass RL = some m.cls) (hts : ∀ w ∈ w_law_42, w.before #[Value.ref b] s = true) (hX : va_X b 8 xs s s.heap) (hbl : b < s.heap.size) (hbA : ¬ A b) (hlocks : meth.locks = false) (hE : EV A s s.heap) (hN : NC s) (hA : ∀ q : Nat, s.heap.size ≤ q → A q) (hAi : ∀ q : Nat, A q → s.heap.size ≤ q) {dC : Nat → ClassId} {dI : Nat → Nat → Nat} (a : Nat → Nat) (k : Nat → ClassId) (h0 : Nat) (q : Nat → Nat) (cm : Nat → ClassId) (o0 : Nat) (ko : ClassId) (H : Heap) (locs : List Loc) (hK : va_K (dC, dI) vwCl [((k 76), .int), ((k 77), .int), ((k 78), .int), (ko, .long), ((cm 1), .int), ((cm 65), .int), ((cm 66), .int)] s) (hP : va_P (dC, dI) vwCl [(a 0, .inr (14, [.ref (a 1), .ref (a 2), .ref (a 27), .ref (a 30), .ref (a 74), .ref (a 75), .null, .int 0, .int 0])), (a 75, .inr (8, [.ref (a 76), .ref (a 77), .ref (a 78), .ref (a 79), .ref (a 80), .ref (a 81), .ref (a 82), .ref (a 83), .ref (a 84), .ref (a 85), .ref (a 86), .ref (a 87), .int 0, .int 0, .int 0, .int 0, .int 0])), (a 76, .inl ((k 76), 6, .inl (fun _ => 0))), (a 77, .inl ((k 77), 121, .inl (fun _ => 0))), (a 78, .inl ((k 78), 121, .inl (fun _ => 0))), (a 2, .inr (6, [.ref (a 3), .ref (a 14), .ref (a 26), .int 0, .int 0])), (a 3, .inr (11, [.ref (a 4), .ref (a 5), .ref (a 6), .ref (a 7), .ref (a 8), .ref (a 11), .int 0])), (a 8, .inr (12, [.ref (a 9), .ref (a 10), .int 0])), (o0, .inl (ko, 1, .inr (.inl (fun _ => 0)))), (h0, .inr (15, mF q 0)), (q 1, .inl ((cm 1), 1749, .inl (fun _ => 0))), (q 65, .inl ((cm 65), 1001, .inl (fun _ => 0))), (q 66, .inl ((cm 66), 1001, .inl (fun _ => 0)))] H) (hD : va_D A [(a 0, .inr (14, [.ref (a 1), .ref (a 2), .ref (a 27), .ref (a 30), .ref (a 74), .ref (a 75), .null, .int 0, .int 0])), (a 75, .inr (8, [.ref (a 76), .ref (a 77), .ref (a 78), .ref (a 79), .ref (a 80), .ref (a 81), .ref (a 82), .ref (a 83), .ref (a 84), .ref (a 85), .ref (a 86), .ref (a 87), .int 0, .int 0, .int 0, .int 0, .int 0])), (a 76, .inl ((k 76), 6, .inl (fun _ => 0))), (a 77, .inl ((k 77), 121, .inl (fun _ => 0))), (a 78, .inl ((k 78), 121, .inl (fun _ => 0))), (a 2, .inr (6, [.ref (a 3), .ref (a 14), .ref (a 26), .int 0, .int 0])), (a 3, .inr (11, [.ref (a 4), .ref (a 5), .ref (a 6), .ref (a 7), .ref (a 8), .ref (a 11), .int 0])), (a 8, .inr (12, [.ref (a 9), .ref (a 10), .int 0])), (o0, .inl (ko, 1, .inr (.inl (fun _ => 0)))), (h0, .inr (15, mF q 0)), (q 1, .inl ((cm 1), 1749, .inl (fun _ => 0))), (q 65, .inl ((cm 65), 1001, .inl (fun _ => 0))), (q 66, .inl ((cm 66), 1001, .inl (fun _ => 0)))]) (hS : va_S A s.heap H locs) (ls : Array Slot) (hl : lv_has ls 7 [(0, .ref b), (1, .ref (a 0)), (2, .ref h0), (3, .ref o0), (4, .int 0)]) : W p l e room_1 s m #[Value.ref b] below meth c H locs 238 27427 (lw_Z below #[Value.ref b] s) (F0 m 3137 ls []) := by
  refine lv_aload_n hx hb dL_law_3137 rfl (lv_at hl 1 rfl) ?_
  refine lv_aload_n hx hb dL_law_3138 rfl (lv_at hl 0 rfl) ?_
  refine lv_iload hx hb dL_law_3139 (lv_at hl 4 rfl) ?_
  refine lv_iconst (v := 1) hx hb dL_law_3141 (by decide) ?_
  refine lv_iadd hx hb dL_law_3142 ?_
  refine lv_topi (fun x1 ex1 => ?_)
  obtain rfl : x1 = 1 := ex1.trans (by decide)
  refine va_sld hx hb hX hbl hbA hS (i := 1) (by unfold vp_in; decide) dL_law_3143 ?_
  refine lv_topi (fun x2 ex2 => ?_)
  obtain rfl : xs 1 = x2 := (ex2).symm
  refine lv_aload_n hx hb dL_law_3144 rfl (lv_at hl 0 rfl) ?_
  refine lv_iload hx hb dL_law_3145 (lv_at hl 4 rfl) ?_
  refine lv_iconst (v := 2) hx hb dL_law_3147 (by decide) ?_
  refine lv_iadd hx hb dL_law_3148 ?_
  refine lv_topi (fun x3 ex3 => ?_)
  obtain rfl : x3 = 2 := ex3.trans (by decide)
  refine va_sld hx hb hX hbl hbA hS (i := 2) (by unfold vp_in; decide) dL_law_3149 ?_
  refine lv_topi (fun x4 ex4 => ?_)
  obtain rfl : xs 2 = x4 := (ex4).symm
  refine lv_aload_n hx hb dL_law_3150 rfl (lv_at hl 0 rfl) ?_
  refine lv_iload hx hb dL_law_3151 (lv_at hl 4 rfl) ?_
  refine lv_iconst (v := 3) hx hb dL_law_3153 (by decide) ?_
  refine lv_iadd hx hb dL_law_3154 ?_
  refine lv_topi (fun x5 ex5 => ?_)
  obtain rfl : x5 = 3 := ex5.trans (by decide)
  refine va_sld hx hb hX hbl hbA hS (i := 3) (by unfold vp_in; decide) dL_law_3155 ?_
  refine lv_topi (fun x6 ex6 => ?_)
  obtain rfl : xs 3 = x6 := (ex6).symm
  refine lv_aload_n hx hb dL_law_3156 rfl (lv_at hl 0 rfl) ?_
  refine lv_iload hx hb dL_law_3157 (lv_at hl 4 rfl) ?_
  refine lv_iconst (v := 4) hx hb dL_law_3159 (by decide) ?_
  refine lv_iadd hx hb dL_law_3160 ?_
  refine lv_topi (fun x7 ex7 => ?_)
  obtain rfl : x7 = 4 := ex7.trans (by decide)
  refine va_sld hx hb hX hbl hbA hS (i := 4) (by unfold vp_in; decide) dL_law_3161 ?_
  refine lv_topi (fun x8 ex8 => ?_)
  obtain rfl : xs 4 = x8 := (ex8).symm
  refine lv_aload_n hx hb dL_law_3162 rfl (lv_at hl 3 rfl) ?_
  have hPc := hP.sub (ws' := [(a 0, .inr (14, [.ref (a 1), .ref (a 2), .ref (a 27), .ref (a 30), .ref (a 74), .ref (a 75), .null, .int 0, .int 0])), (a 75, .inr (8, [.ref (a 76), .ref (a 77), .ref (a 78), .ref (a 79), .ref (a 80), .ref (a 81), .ref (a 82), .ref (a 83), .ref (a 84), .ref (a 85), .ref (a 86), .ref (a 87), .int 0, .int 0, .int 0, .int 0, .int 0])), (a 76, .inl ((k 76), 6, .inl (fun _ => 0))), (a 77, .inl ((k 77), 121, .inl (fun _ => 0))), (a 78, .inl ((k 78), 121, .inl (fun _ => 0))), (a 2, .inr (6, [.ref (a 3), .ref (a 14), .ref (a 26), .int 0, .int 0])), (a 3, .inr (11, [.ref (a 4), .ref (a 5), .ref (a 6), .ref (a 7), .ref (a 8), .ref (a 11), .int 0])), (a 8, .inr (12, [.ref (a 9), .ref (a 10), .int 0])), (o0, .inl (ko, 1, .inr (.inl (fun _ => 0))))]) [0, 1, 2, 3, 4, 5, 6, 7, 8] rfl
  have hDc := hD.sub (ws' := [(a 0, .inr (14, [.ref (a 1), .ref (a 2), .ref (a 27), .ref (a 30), .ref (a 74), .ref (a 75), .null, .int 0, .int 0])), (a 75, .inr (8, [.ref (a 76), .ref (a 77), .ref (a 78), .ref (a 79), .ref (a 80), .ref (a 81), .ref (a 82), .ref (a 83), .ref (a 84), .ref (a 85), .ref (a 86), .ref (a 87), .int 0, .int 0, .int 0, .int 0, .int 0])), (a 76, .inl ((k 76), 6, .inl (fun _ => 0))), (a 77, .inl ((k 77), 121, .inl (fun _ => 0))), (a 78, .inl ((k 78), 121, .inl (fun _ => 0))), (a 2, .inr (6, [.ref (a 3), .ref (a 14), .ref (a 26), .int 0, .int 0])), (a 3, .inr (11, [.ref (a 4), .ref (a 5), .ref (a 6), .ref (a 7), .ref (a 8), .ref (a 11), .int 0])), (a 8, .inr (12, [.ref (a 9), .ref (a 10), .int 0])), (o0, .inl (ko, 1, .inr (.inl (fun _ => 0))))]) [0, 1, 2, 3, 4, 5, 6, 7, 8] (by decide) rfl
  have hKc := hK.sub (tys' := [((k 76), .int), ((k 77), .int), ((k 78), .int), (ko, .long)]) [0, 1, 2, 3] rfl
  have hFc := va_free (wc := [(a 0, .inr (14, [.ref (a 1), .ref (a 2), .ref (a 27), .ref (a 30), .ref (a 74), .ref (a 75), .null, .int 0, .int 0])), (a 75, .inr (8, [.ref (a 76), .ref (a 77), .ref (a 78), .ref (a 79), .ref (a 80), .ref (a 81), .ref (a 82), .ref (a 83), .ref (a 84), .ref (a 85), .ref (a 86), .ref (a 87), .int 0, .int 0, .int 0, .int 0, .int 0])), (a 76, .inl ((k 76), 6, .inl (fun _ => 0))), (a 77, .inl ((k 77), 121, .inl (fun _ => 0))), (a 78, .inl ((k 78), 121, .inl (fun _ => 0))), (a 2, .inr (6, [.ref (a 3), .ref (a 14), .ref (a 26), .int 0, .int 0])), (a 3, .inr (11, [.ref (a 4), .ref (a 5), .ref (a 6), .ref (a 7), .ref (a 8), .ref (a 11), .int 0])), (a 8, .inr (12, [.ref (a 9), .ref (a 10), .int 0])), (o0, .inl (ko, 1, .inr (.inl (fun _ => 0))))]) hD hS hA [0, 1, 2, 3, 4, 5, 6, 7, 8] rfl
  refine va_calli (vx_runSW (As := [.ref (a 0), .int (xs 1), .int (xs 2), .int (xs 3), .int (xs 4), .ref o0]) (rest := []) ⟨hx, hb, hml, hown, hts⟩ (l_lifts l hlt dC dI a k o0 ko (fun _ => 0) (xs 1) (xs 2) (xs 3) (xs 4) H.size ) (vx_cwSW 6 hts (goodIn_app (goodIn_r _ [67, 68, 69] (by decide +kernel) (by decide +kernel)) (goodIn_ca (goodIn_r _ [1, 2, 3, 4, 5, 6, 7, 8, 9, 10, 11, 12, 13, 14, 15, 16, 17, 18, 19, 20, 21, 22, 23, 24, 25, 26, 27, 28, 29, 30, 31, 32, 33, 34, 35, 36, 37, 38, 39, 40, 41, 42, 43, 44, 45, 46, 47, 48, 49, 50, 51, 52, 53, 54, 55, 56, 57, 58, 59, 60, 61, 62, 63, 64, 65, 66] (by decide +kernel) (by decide +kernel)) (bs_in _ _))) rfl rfl rfl (by decide +kernel) ⟨(Nat.le_of_ble_eq_true rfl), (Nat.le_of_ble_eq_true rfl)⟩) ⟨fun a U g mk q => by obtain ⟨q0, q1, qP, qK, qD, qE, qN⟩ := q; exact ⟨q0, q1, qP, va_K.moved (u := U) (U := U.calling g mk a) (Vm.Alike.refl U.vm) qK, qD, EV.blind g mk a qE, NC.blind g mk a qN⟩, fun U hU hW => ⟨rfl, by rw [hU], by rw [hU]; exact hPc, va_K.moved hW.alike hKc, hDc.weaken (fun _ _ _ _ => trivial), hE.call hS hFc hU hW, hN.call hW⟩⟩ rfl rfl hl.1 rfl (lv_room (Nat.le_of_ble_eq_true rfl)) dL_law_3163 ⟨(Nat.le_of_ble_eq_true rfl), (Nat.le_of_ble_eq_true rfl)⟩) hS (fun q _ h => hFc q h) hFc (fun r10 u t H1 locs ht hvm hw11 hB hz1 hk1 hS => ?_)
  obtain ⟨fu12, rfl⟩ : ∃ z, z = u := ⟨_, rfl⟩
  obtain ⟨hP1, hD1⟩ := hB
  rw [ht] at hP1
  obtain ⟨hP, hD⟩ := va_join (wr := [(h0, .inr (15, mF q 0)), (q 1, .inl ((cm 1), 1749, .inl (fun _ => 0))), (q 65, .inl ((cm 65), 1001, .inl (fun _ => 0))), (q 66, .inl ((cm 66), 1001, .inl (fun _ => 0)))]) (w1 := [(o0, .inl (ko, 1, .inr (.inl fu12)))]) hP hD [0, 1, 2, 3, 4, 5, 6, 7, 8] [9, 10, 11, 12] rfl rfl (by decide) (by decide) hk1 hFc hP1 hD1
  generalize H1 = H at hP hS ⊢
  have hP : va_P (dC, dI) vwCl [(h0, .inr (15, mF q 0)), (q 1, .inl ((cm 1), 1749, .inl (fun _ => 0))), (q 65, .inl ((cm 65), 1001, .inl (fun _ => 0))), (q 66, .inl ((cm 66), 1001, .inl (fun _ => 0))), (o0, .inl (ko, 1, .inr (.inl fu12)))] H := hP
  have hD : va_D A [(h0, .inr (15, mF q 0)), (q 1, .inl ((cm 1), 1749, .inl (fun _ => 0))), (q 65, .inl ((cm 65), 1001, .inl (fun _ => 0))), (q 66, .inl ((cm 66), 1001, .inl (fun _ => 0))), (o0, .inl (ko, 1, .inr (.inl fu12)))] := hD
  try dsimp only at hw11
  obtain rfl : (T_lifts (xs 1) (xs 2) (xs 3) (xs 4)).1 = r10 := hw11.1.symm
  refine lv_istore (lv' := [(5, .int ((T_lifts (xs 1) (xs 2) (xs 3) (xs 4)).1)), (0, .ref b), (1, .ref (a 0)), (2, .ref h0), (3, .ref o0), (4, .int 0)]) hx hb dL_law_3166 hl (by decide) rfl (fun ls hl => ?_)
  refine lv_aload_n hx hb dL_law_3168 rfl (lv_at hl 3 rfl) ?_
  refine lv_aload_n hx hb dL_law_3169 rfl (lv_at hl 1 rfl) ?_
  refine lv_iload hx hb dL_law_3170 (lv_at hl 5 rfl) ?_
  refine lv_iconst (v := 1) hx hb dL_law_3172 (by decide) ?_
  refine lv_iadd hx hb dL_law_3173 ?_
  refine lv_topi (fun x13 ex13 => ?_)
  obtain rfl : x13 = 1 := ex13.trans (by decide)
  refine va_sld hx hb hX hbl hbA hS (i := 1) (by unfold vp_in; decide) dL_law_3174 ?_
  refine lv_topi (fun x14 ex14 => ?_)
  obtain rfl : xs 1 = x14 := (ex14).symm
  refine lv_aload_n hx hb dL_law_3175 rfl (lv_at hl 1 rfl) ?_
  refine lv_iload hx hb dL_law_3176 (lv_at hl 5 rfl) ?_
  refine lv_iconst (v := 2) hx hb dL_law_3178 (by decide) ?_
  refine lv_iadd hx hb dL_law_3179 ?_
  refine lv_topi (fun x15 ex15 => ?_)
  obtain rfl : x15 = 2 := ex15.trans (by decide)
  refine va_sld hx hb hX hbl hbA hS (i := 2) (by unfold vp_in; decide) dL_law_3180 ?_
  refine lv_topi (fun x16 ex16 => ?_)
  obtain rfl : xs 2 = x16 := (ex16).symm
  refine lv_aload_n hx hb dL_law_3181 rfl (lv_at hl 1 rfl) ?_
  refine lv_iload hx hb dL_law_3182 (lv_at hl 5 rfl) ?_
  refine lv_iconst (v := 3) hx hb dL_law_3184 (by decide) ?_
  refine lv_iadd hx hb dL_law_3185 ?_
  refine lv_topi (fun x17 ex17 => ?_)
  obtain rfl : x17 = 3 := ex17.trans (by decide)
  refine va_sld hx hb hX hbl hbA hS (i := 3) (by unfold vp_in; decide) dL_law_3186 ?_
  refine lv_topi (fun x18 ex18 => ?_)
  obtain rfl : xs 3 = x18 := (ex18).symm
  refine lv_aload_n hx hb dL_law_3187 rfl (lv_at hl 1 rfl) ?_
  refine lv_iload hx hb dL_law_3188 (lv_at hl 5 rfl) ?_
  refine lv_iconst (v := 4) hx hb dL_law_3190 (by decide) ?_
  refine lv_iadd hx hb dL_law_3191 ?_
  refine lv_topi (fun x19 ex19 => ?_)
  obtain rfl : x19 = 4 := ex19.trans (by decide)
  refine va_sld hx hb hX hbl hbA hS (i := 4) (by unfold vp_in; decide) dL_law_3192 ?_
  refine lv_topi (fun x20 ex20 => ?_)
  obtain rfl : xs 4 = x20 := (ex20).symm
  have hPc := hP.sub (ws' := [(h0, .inr (15, mF q 0)), (q 1, .inl ((cm 1), 1749, .inl (fun _ => 0))), (q 65, .inl ((cm 65), 1001, .inl (fun _ => 0))), (q 66, .inl ((cm 66), 1001, .inl (fun _ => 0)))]) [0, 1, 2, 3] rfl
  have hDc := hD.sub (ws' := [(h0, .inr (15, mF q 0)), (q 1, .inl ((cm 1), 1749, .inl (fun _ => 0))), (q 65, .inl ((cm 65), 1001, .inl (fun _ => 0))), (q 66, .inl ((cm 66), 1001, .inl (fun _ => 0)))]) [0, 1, 2, 3] (by decide) rfl
  have hKc := hK.sub (tys' := [((cm 1), .int), ((cm 65), .int), ((cm 66), .int)]) [4, 5, 6] rfl
  have hFc := va_free (wc := [(h0, .inr (15, mF q 0)), (q 1, .inl ((cm 1), 1749, .inl (fun _ => 0))), (q 65, .inl ((cm 65), 1001, .inl (fun _ => 0))), (q 66, .inl ((cm 66), 1001, .inl (fun _ => 0)))]) hD hS hA [0, 1, 2, 3] rfl
  refine va_calli (va_runV (As := [.int (xs 1), .int (xs 2), .int (xs 3), .int (xs 4)]) (rest := []) ⟨hx, hb, hml, hown, hts⟩ (m_lifts l dC dI h0 q cm (xs 1) (xs 2) (xs 3) (xs 4) H.size ) (cwV 4 hts (goodIn_app (goodIn_r _ [95, 96, 97, 75] (by decide +kernel) (by decide +kernel)) (goodIn_ca (goodIn_r _ [70, 71, 72, 73, 74, 75, 76, 77, 78, 79, 80, 81, 82, 83, 84, 53, 85, 86, 87, 88, 89, 90, 91, 92, 93, 94, 52, 54] (by decide +kernel) (by decide +kernel)) (bs_in _ _))) rfl rfl rfl (by decide +kernel) ⟨(Nat.le_of_ble_eq_true rfl), (Nat.le_of_ble_eq_true rfl)⟩) ⟨fun a U g mk q => by obtain ⟨q0, q1, qP, qK, qD⟩ := q; exact ⟨q0, q1, qP, va_K.moved (u := U) (U := U.calling g mk a) (Vm.Alike.refl U.vm) qK, qD⟩, va_recv hKc hPc (ci := 15) (q0 := 0) rfl rfl, fun U hU hW => ⟨rfl, by rw [hU], by rw [hU]; exact hPc, va_K.moved hW.alike hKc, hDc.weaken (fun _ _ _ _ => trivial)⟩⟩ rfl rfl hl.1 rfl (lv_room (Nat.le_of_ble_eq_true rfl)) dL_law_3193 ⟨(Nat.le_of_ble_eq_true rfl), (Nat.le_of_ble_eq_true rfl)⟩) hS (fun q _ h => hFc q h) hFc (fun r22 u t H1 locs ht hvm hw23 hB hz1 hk1 hS => ?_)
  obtain ⟨fs24, rfl⟩ : ∃ z, z = u := ⟨_, rfl⟩
  obtain ⟨hP1, hD1⟩ := hB
  rw [ht] at hP1
  obtain ⟨hP, hD⟩ := va_join (wr := [(o0, .inl (ko, 1, .inr (.inl fu12)))]) (w1 := [(h0, .inr (15, fs24))]) hP hD [0, 1, 2, 3] [4] rfl rfl (by decide) (by decide) hk1 hFc hP1 hD1
  generalize H1 = H at hP hS ⊢
  have hP : va_P (dC, dI) vwCl [(o0, .inl (ko, 1, .inr (.inl fu12))), (h0, .inr (15, fs24))] H := hP
  have hD : va_D A [(o0, .inl (ko, 1, .inr (.inl fu12))), (h0, .inr (15, fs24))] := hD
  try dsimp only at hw23
  refine lv_istore (lv' := [(6, .int r22), (5, .int ((T_lifts (xs 1) (xs 2) (xs 3) (xs 4)).1)), (0, .ref b), (1, .ref (a 0)), (2, .ref h0), (3, .ref o0), (4, .int 0)]) hx hb dL_law_3196 hl (by decide) rfl (fun ls hl => ?_)
  refine lv_aload_n hx hb dL_law_3198 rfl (lv_at hl 4 rfl) ?_
  have hPc := hP.sub (ws' := [(h0, .inr (15, fs24))]) [1] rfl
  have hDc := hD.sub (ws' := [(h0, .inr (15, fs24))]) [1] (by decide) rfl
  have hKc := hK.sub (tys' := []) [] rfl
  have hFc := va_free (wc := [(h0, .inr (15, fs24))]) hD hS hA [1] rfl
  refine va_calli (va_runV (As := []) (rest := []) ⟨hx, hb, hml, hown, hts⟩ (m_thrown l dC dI h0 fs24 ((T_lifts (xs 1) (xs 2) (xs 3) (xs 4)).1) H.size hw23.1) (cwV 0 hts (goodIn_app (goodIn_r _ [99, 100, 101, 75] (by decide +kernel) (by decide +kernel)) (goodIn_ca (goodIn_r _ [98, 71] (by decide +kernel) (by decide +kernel)) (bs_in _ _))) rfl rfl rfl (by decide +kernel) ⟨(Nat.le_of_ble_eq_true rfl), (Nat.le_of_ble_eq_true rfl)⟩) ⟨fun a U g mk q => by obtain ⟨q0, q1, qP, qK, qD⟩ := q; exact ⟨q0, q1, qP, va_K.moved (u := U) (U := U.calling g mk a) (Vm.Alike.refl U.vm) qK, qD⟩, va_recv hKc hPc (ci := 15) (q0 := 0) rfl rfl, fun U hU hW => ⟨rfl, by rw [hU], by rw [hU]; exact hPc, va_K.moved hW.alike hKc, hDc.weaken (fun _ _ _ _ => trivial)⟩⟩ rfl rfl hl.1 rfl (lv_room (Nat.le_of_ble_eq_true rfl)) dL_law_3199 ⟨(Nat.le_of_ble_eq_true rfl), (Nat.le_of_ble_eq_true rfl)⟩) hS (fun q _ h => hFc q h) hFc (fun r26 u t H1 locs ht hvm hw27 hB hz1 hk1 hS => ?_)
  have hP1 : va_P (dC, dI) vwCl [] H1 := nilP
  have hD1 : va_D (va_A [(h0, .inr (15, fs24))] H.size) [] := nilD
  have hK := hK
  obtain ⟨hP, hD⟩ := va_join (wr := [(o0, .inl (ko, 1, .inr (.inl fu12)))]) (w1 := []) hP hD [1] [0] rfl rfl (by decide) (by decide) hk1 hFc hP1 hD1
  generalize H1 = H at hP hS ⊢
  have hP : va_P (dC, dI) vwCl [(o0, .inl (ko, 1, .inr (.inl fu12)))] H := hP
  have hD : va_D A [(o0, .inl (ko, 1, .inr (.inl fu12)))] := hD
  try dsimp only at hw27
  obtain rfl : (T_lifts (xs 1) (xs 2) (xs 3) (xs 4)).1 = r26 := hw27.symm
  refine lv_iload hx hb dL_law_3202 (lv_at hl 1 rfl) ?_
  refine lv_icmp_eq (tgt := 3209) hx hb dL_law_3204 (by decide) (fun c28 => ?_) (fun c28 => absurd rfl c28)
  refine lv_iload hx hb dL_law_3209 (lv_at hl 1 rfl) ?_
  refine lv_if_ne (tgt := 3226) hx hb dL_law_3211 (by decide) (fun c29 => ?_) (fun c29 => ?_)
  · refine lv_goto (tgt := 3762) hx hb dL_law_3226 (by decide) ?_
    exact law_tail hx hb hr hlocks hX hbl hbA hAi hS (Nat.le_of_ble_eq_true rfl) (Nat.le_of_ble_eq_true rfl) ls (lv_sub hl [2, 6] rfl)
  · refine lv_aload_n hx hb dL_law_3214 rfl (lv_at hl 5 rfl) ?_
    refine lv_iconst (v := 0) hx hb dL_law_3215 (by decide) ?_
    refine va_lald hx hb hK hP 0 3 rfl rfl (by unfold vp_in; decide) dL_law_3216 ?_
    refine lv_iload hx hb dL_law_3217 (lv_at hl 0 rfl) ?_
    refine lv_i2l (v := r22.toInt64) hx hb dL_law_3219 rfl ?_
    refine W.lcmp hx hb dL_law_3220 ?_
    refine lv_topi (fun x30 ex30 => ?_)
    obtain rfl : x30 = 0 := ex30.trans (by rw [show fu12 (0 : Int32).toNatClampNeg = (T_lifts (xs 1) (xs 2) (xs 3) (xs 4)).2.toInt64 from hw11.2 c29, hw23.2 c29]; exact lg_cmp_self _)
    refine lv_if_eq (tgt := 3226) hx hb dL_law_3221 (by decide) (fun c31 => ?_) (fun c31 => absurd c31 (by decide))
    refine lv_goto (tgt := 3762) hx hb dL_law_3226 (by decide) ?_
    exact law_tail hx hb hr hlocks hX hbl hbA hAi hS (Nat.le_of_ble_eq_true rfl) (Nat.le_of_ble_eq_true rfl) ls (lv_sub hl [2, 6] rfl)
