def w_law_28 : List Cond := .initialized RL :: ([.codeWith yL_settler cL_settler 10 (some .int) [(0, 20, 23, 15), (0, 20, 27, 45)], .code yX11_settler cX11_settler 8 (some .int), .code yX11_within cX11_within 3 (some .boolean), .methodLink RX11 58 yX11_within, .static yX11_within, .initialized RX11, .constant RX11 96 100000, .constant RX11 341 999999, .code yX11_needNumbers cX11_needNumbers 1 none, .methodLink RX11 62 yX11_needNumbers, .static yX11_needNumbers, .fieldLink RX11 30 "SeaLand" "board" "LSeaLand$Board;", .classLink RX11 350 RX7, .instantiable RX7 12, .initialized RX7, .code yX7_init cX7_init 8 none, .methodLink RX7 3 objectInit, .instanceMethod objectInit, .code objectInit ⟨#[0xb1]⟩ 1 none, .fieldLink RX7 9 "SeaLand$Settler" "farm" "I", .fieldLink RX7 15 "SeaLand$Settler" "age" "I", .fieldLink RX7 18 "SeaLand$Settler" "sons" "I", .fieldLink RX7 21 "SeaLand$Settler" "coin" "I", .fieldLink RX7 24 "SeaLand$Settler" "cattle" "I", .fieldLink RX7 27 "SeaLand$Settler" "kin" "Z", .fieldLink RX7 31 "SeaLand$Settler" "board" "Z", .fieldLink RX7 34 "SeaLand$Settler" "drawn" "I", .methodLink RX11 352 yX7_init, .instanceMethod yX7_init, .code yX0_settle cX0_settle 2 (some .int), .fieldLink RX0 11 "SeaLand$Board" "settlers" "[LSeaLand$Settler;", .fieldLink RX0 75 "SeaLand$Board" "settled" "I", .methodLink RX11 355 yX0_settle, .instanceMethod yX0_settle, .selects RX0 yX0_settle yX0_settle, .initialized RX0, .classLink RX11 547 "java/lang/IllegalArgumentException", .initialized "java/lang/IllegalArgumentException", .methodLink RL 110 yX11_settler, .instanceMethod yX11_settler, .selects RX11 yX11_settler yX11_settler, .classLink RL 15 "java/lang/IllegalArgumentException", .methodLink RL 275 yL_settler, .static yL_settler, .initialized RL, .code yX12_settler cX12_settler 9 (some .int), .fieldLink RX12 194 "SeaLandModel" "thrown" "I", .code yX12_in cX12_in 3 (some .boolean), .methodLink RX12 197 yX12_in, .static yX12_in, .initialized RX12, .constant RX12 241 100000, .constant RX12 501 999999, .code yX12_throwsIf cX12_throwsIf 3 (some .boolean), .methodLink RX12 224 yX12_throwsIf, .instanceMethod yX12_throwsIf, .selects RX12 yX12_throwsIf yX12_throwsIf, .fieldLink RX12 495 "SeaLandModel" "settlers" "I", .fieldLink RX12 79 "SeaLandModel" "age" "[I", .fieldLink RX12 82 "SeaLandModel" "sons" "[I", .fieldLink RX12 85 "SeaLandModel" "coin" "[I", .fieldLink RX12 88 "SeaLandModel" "cattle" "[I", .fieldLink RX12 91 "SeaLandModel" "isKin" "[Z", .fieldLink RX12 95 "SeaLandModel" "isBoard" "[Z", .fieldLink RX12 98 "SeaLandModel" "drawn" "[I", .fieldLink RX12 101 "SeaLandModel" "holds" "[I", .methodLink RL 278 yX12_settler, .instanceMethod yX12_settler, .selects RX12 yX12_settler yX12_settler, .code yX12_thrown cX12_thrown 1 (some .int), .methodLink RL 187 yX12_thrown, .instanceMethod yX12_thrown, .selects RX12 yX12_thrown yX12_thrown] ++ bs)
set_option maxRecDepth 100000 in
theorem wm_28 : ∀ w ∈ w_law_28, w ∈ lw_tbl := lw_ins wl_110 (lw_cons wl_1609 (lw_cons wl_1613 (lw_cons wl_902 (lw_cons wl_900 (lw_cons wl_901 (lw_cons wl_111 (lw_cons wl_976 (lw_cons wl_1614 (lw_cons wl_918 (lw_cons wl_916 (lw_cons wl_917 (lw_cons wl_591 (lw_cons wl_1616 (lw_cons wl_1617 (lw_cons wl_138 (lw_cons wl_1620 (lw_cons wl_1621 (lw_cons wl_148 (lw_cons wl_149 (lw_cons wl_1637 (lw_cons wl_1622 (lw_cons wl_1624 (lw_cons wl_1634 (lw_cons wl_1626 (lw_cons wl_1628 (lw_cons wl_1630 (lw_cons wl_1632 (lw_cons wl_1618 (lw_cons wl_1619 (lw_cons wl_1675 (lw_cons wl_456 (lw_cons wl_480 (lw_cons wl_1672 (lw_cons wl_1673 (lw_cons wl_1674 (lw_cons wl_118 (lw_cons wl_919 (lw_cons wl_129 (lw_cons wl_1610 (lw_cons wl_1611 (lw_cons wl_1612 (lw_cons wl_891 (lw_cons wl_1607 (lw_cons wl_1608 (lw_cons wl_110 (lw_cons wl_2614 (lw_cons wl_1969 (lw_cons wl_2217 (lw_cons wl_2215 (lw_cons wl_2216 (lw_cons wl_122 (lw_cons wl_2239 (lw_cons wl_2615 (lw_cons wl_2221 (lw_cons wl_2218 (lw_cons wl_2220 (lw_cons wl_44 (lw_cons wl_2011 (lw_cons wl_2000 (lw_cons wl_2001 (lw_cons wl_2002 (lw_cons wl_2003 (lw_cons wl_2004 (lw_cons wl_2005 (lw_cons wl_2006 (lw_cons wl_2007 (lw_cons wl_2611 (lw_cons wl_2612 (lw_cons wl_2613 (lw_cons wl_2207 (lw_cons wl_2204 (lw_cons wl_2205 (lw_cons wl_2206 lw_nil)))))))))))))))))))))))))))))))))))))))))))))))))))))))))))))))))))))))))
set_option maxHeartbeats 4000000 in
set_option maxRecDepth 100000 in
/-- settler -/
theorem law_28 {p : Program} {e : Env} {s : State} {m : MethodId} {below : List Frame} {meth : Method} {c : Code} (l : Launch) (hlt : l.stackTraces = false) {b : Nat} {xs : Nat → Int32} {A : Nat → Prop} (hx : p.tables.exec = Jvm.exec) (hb : c.code = code) (hr : meth.sig.returnType = ret) (hml : c.maxLocals = 7) (hown : s.vm.findClass RL = some m.cls) (hts : ∀ w ∈ w_law_28, w.before #[Value.ref b] s = true) (hX : va_X b 8 xs s s.heap) (hbl : b < s.heap.size) (hbA : ¬ A b) (hlocks : meth.locks = false) (hE : EV A s s.heap) (hN : NC s) (hA : ∀ q : Nat, s.heap.size ≤ q → A q) (hAi : ∀ q : Nat, A q → s.heap.size ≤ q) {dC : Nat → ClassId} {dI : Nat → Nat → Nat} (a : Nat → Nat) (k : Nat → ClassId) (h0 : Nat) (q : Nat → Nat) (cm : Nat → ClassId) (o0 : Nat) (ko : ClassId) (H : Heap) (locs : List Loc) (hK : va_K (dC, dI) vwCl [((k 31), (.object "SeaLand$Settler")), (ko, .long), ((cm 31), .int), ((cm 32), .int), ((cm 33), .int), ((cm 34), .int), ((cm 35), .boolean), ((cm 36), .boolean), ((cm 37), .int), ((cm 38), .int)] s) (hP : va_P (dC, dI) vwCl [(a 0, .inr (14, [.ref (a 1), .ref (a 2), .ref (a 27), .ref (a 30), .ref (a 74), .ref (a 75), .null, .int 0, .int 0])), (a 30, .inr (3, [.ref (a 31), .ref (a 32), .ref (a 33), .ref (a 34), .ref (a 35), .ref (a 36), .ref (a 37), .ref (a 38), .ref (a 50), .ref (a 62), .int (-1), .int 0, .long 0, .long 0, .int 0, .int 0, .int 0, .int 0])), (a 31, .inl ((k 31), 60, .inr (.inr (.inr (.inr (fun _ => none)))))), (o0, .inl (ko, 1, .inr (.inl (fun _ => 0)))), (h0, .inr (15, mF q 0)), (q 31, .inl ((cm 31), 60, .inl (fun _ => 0))), (q 32, .inl ((cm 32), 60, .inl (fun _ => 0))), (q 33, .inl ((cm 33), 60, .inl (fun _ => 0))), (q 34, .inl ((cm 34), 60, .inl (fun _ => 0))), (q 35, .inl ((cm 35), 60, .inl (fun _ => 0))), (q 36, .inl ((cm 36), 60, .inl (fun _ => 0))), (q 37, .inl ((cm 37), 60, .inl (fun _ => 0))), (q 38, .inl ((cm 38), 60, .inl (fun _ => 0)))] H) (hD : va_D A [(a 0, .inr (14, [.ref (a 1), .ref (a 2), .ref (a 27), .ref (a 30), .ref (a 74), .ref (a 75), .null, .int 0, .int 0])), (a 30, .inr (3, [.ref (a 31), .ref (a 32), .ref (a 33), .ref (a 34), .ref (a 35), .ref (a 36), .ref (a 37), .ref (a 38), .ref (a 50), .ref (a 62), .int (-1), .int 0, .long 0, .long 0, .int 0, .int 0, .int 0, .int 0])), (a 31, .inl ((k 31), 60, .inr (.inr (.inr (.inr (fun _ => none)))))), (o0, .inl (ko, 1, .inr (.inl (fun _ => 0)))), (h0, .inr (15, mF q 0)), (q 31, .inl ((cm 31), 60, .inl (fun _ => 0))), (q 32, .inl ((cm 32), 60, .inl (fun _ => 0))), (q 33, .inl ((cm 33), 60, .inl (fun _ => 0))), (q 34, .inl ((cm 34), 60, .inl (fun _ => 0))), (q 35, .inl ((cm 35), 60, .inl (fun _ => 0))), (q 36, .inl ((cm 36), 60, .inl (fun _ => 0))), (q 37, .inl ((cm 37), 60, .inl (fun _ => 0))), (q 38, .inl ((cm 38), 60, .inl (fun _ => 0)))]) (hS : va_S A s.heap H locs) (ls : Array Slot) (hl : lv_has ls 7 [(0, .ref b), (1, .ref (a 0)), (2, .ref h0), (3, .ref o0), (4, .int 0)]) : W p l e room_1 s m #[Value.ref b] below meth c H locs 238 27427 (lw_Z below #[Value.ref b] s) (F0 m 2186 ls []) := by
  refine lv_aload_n hx hb dL_law_2186 rfl (lv_at hl 1 rfl) ?_
  refine lv_aload_n hx hb dL_law_2187 rfl (lv_at hl 0 rfl) ?_
  refine lv_iload hx hb dL_law_2188 (lv_at hl 4 rfl) ?_
  refine lv_iconst (v := 1) hx hb dL_law_2190 (by decide) ?_
  refine lv_iadd hx hb dL_law_2191 ?_
  refine lv_topi (fun x1 ex1 => ?_)
  obtain rfl : x1 = 1 := ex1.trans (by decide)
  refine va_sld hx hb hX hbl hbA hS (i := 1) (by unfold vp_in; decide) dL_law_2192 ?_
  refine lv_topi (fun x2 ex2 => ?_)
  obtain rfl : xs 1 = x2 := (ex2).symm
  refine lv_aload_n hx hb dL_law_2193 rfl (lv_at hl 0 rfl) ?_
  refine lv_iload hx hb dL_law_2194 (lv_at hl 4 rfl) ?_
  refine lv_iconst (v := 2) hx hb dL_law_2196 (by decide) ?_
  refine lv_iadd hx hb dL_law_2197 ?_
  refine lv_topi (fun x3 ex3 => ?_)
  obtain rfl : x3 = 2 := ex3.trans (by decide)
  refine va_sld hx hb hX hbl hbA hS (i := 2) (by unfold vp_in; decide) dL_law_2198 ?_
  refine lv_topi (fun x4 ex4 => ?_)
  obtain rfl : xs 2 = x4 := (ex4).symm
  refine lv_aload_n hx hb dL_law_2199 rfl (lv_at hl 0 rfl) ?_
  refine lv_iload hx hb dL_law_2200 (lv_at hl 4 rfl) ?_
  refine lv_iconst (v := 3) hx hb dL_law_2202 (by decide) ?_
  refine lv_iadd hx hb dL_law_2203 ?_
  refine lv_topi (fun x5 ex5 => ?_)
  obtain rfl : x5 = 3 := ex5.trans (by decide)
  refine va_sld hx hb hX hbl hbA hS (i := 3) (by unfold vp_in; decide) dL_law_2204 ?_
  refine lv_topi (fun x6 ex6 => ?_)
  obtain rfl : xs 3 = x6 := (ex6).symm
  refine lv_aload_n hx hb dL_law_2205 rfl (lv_at hl 0 rfl) ?_
  refine lv_iload hx hb dL_law_2206 (lv_at hl 4 rfl) ?_
  refine lv_iconst (v := 4) hx hb dL_law_2208 (by decide) ?_
  refine lv_iadd hx hb dL_law_2209 ?_
  refine lv_topi (fun x7 ex7 => ?_)
  obtain rfl : x7 = 4 := ex7.trans (by decide)
  refine va_sld hx hb hX hbl hbA hS (i := 4) (by unfold vp_in; decide) dL_law_2210 ?_
  refine lv_topi (fun x8 ex8 => ?_)
  obtain rfl : xs 4 = x8 := (ex8).symm
  refine lv_aload_n hx hb dL_law_2211 rfl (lv_at hl 0 rfl) ?_
  refine lv_iload hx hb dL_law_2212 (lv_at hl 4 rfl) ?_
  refine lv_iconst (v := 5) hx hb dL_law_2214 (by decide) ?_
  refine lv_iadd hx hb dL_law_2215 ?_
  refine lv_topi (fun x9 ex9 => ?_)
  obtain rfl : x9 = 5 := ex9.trans (by decide)
  refine va_sld hx hb hX hbl hbA hS (i := 5) (by unfold vp_in; decide) dL_law_2216 ?_
  refine lv_topi (fun x10 ex10 => ?_)
  obtain rfl : xs 5 = x10 := (ex10).symm
  refine lv_if_eq (tgt := 2224) hx hb dL_law_2217 (by decide) (fun c11 => ?_) (fun c11 => ?_)
  · refine lv_iconst (v := 0) hx hb dL_law_2224 (by decide) ?_
    refine lv_aload_n hx hb dL_law_2225 rfl (lv_at hl 0 rfl) ?_
    refine lv_iload hx hb dL_law_2226 (lv_at hl 4 rfl) ?_
    refine lv_bipush (v := 6) hx hb dL_law_2228 (by decide) ?_
    refine lv_iadd hx hb dL_law_2230 ?_
    refine lv_topi (fun x12 ex12 => ?_)
    obtain rfl : x12 = 6 := ex12.trans (by decide)
    refine va_sld hx hb hX hbl hbA hS (i := 6) (by unfold vp_in; decide) dL_law_2231 ?_
    refine lv_topi (fun x13 ex13 => ?_)
    obtain rfl : xs 6 = x13 := (ex13).symm
    refine lv_if_eq (tgt := 2239) hx hb dL_law_2232 (by decide) (fun c14 => ?_) (fun c14 => ?_)
    · refine lv_iconst (v := 0) hx hb dL_law_2239 (by decide) ?_
      refine lv_aload_n hx hb dL_law_2240 rfl (lv_at hl 0 rfl) ?_
      refine lv_iload hx hb dL_law_2241 (lv_at hl 4 rfl) ?_
      refine lv_bipush (v := 7) hx hb dL_law_2243 (by decide) ?_
      refine lv_iadd hx hb dL_law_2245 ?_
      refine lv_topi (fun x15 ex15 => ?_)
      obtain rfl : x15 = 7 := ex15.trans (by decide)
      refine va_sld hx hb hX hbl hbA hS (i := 7) (by unfold vp_in; decide) dL_law_2246 ?_
      refine lv_topi (fun x16 ex16 => ?_)
      obtain rfl : xs 7 = x16 := (ex16).symm
      refine lv_aload_n hx hb dL_law_2247 rfl (lv_at hl 3 rfl) ?_
      have hPc := hP.sub (ws' := [(a 0, .inr (14, [.ref (a 1), .ref (a 2), .ref (a 27), .ref (a 30), .ref (a 74), .ref (a 75), .null, .int 0, .int 0])), (a 30, .inr (3, [.ref (a 31), .ref (a 32), .ref (a 33), .ref (a 34), .ref (a 35), .ref (a 36), .ref (a 37), .ref (a 38), .ref (a 50), .ref (a 62), .int (-1), .int 0, .long 0, .long 0, .int 0, .int 0, .int 0, .int 0])), (a 31, .inl ((k 31), 60, .inr (.inr (.inr (.inr (fun _ => none)))))), (o0, .inl (ko, 1, .inr (.inl (fun _ => 0))))]) [0, 1, 2, 3] rfl
      have hDc := hD.sub (ws' := [(a 0, .inr (14, [.ref (a 1), .ref (a 2), .ref (a 27), .ref (a 30), .ref (a 74), .ref (a 75), .null, .int 0, .int 0])), (a 30, .inr (3, [.ref (a 31), .ref (a 32), .ref (a 33), .ref (a 34), .ref (a 35), .ref (a 36), .ref (a 37), .ref (a 38), .ref (a 50), .ref (a 62), .int (-1), .int 0, .long 0, .long 0, .int 0, .int 0, .int 0, .int 0])), (a 31, .inl ((k 31), 60, .inr (.inr (.inr (.inr (fun _ => none)))))), (o0, .inl (ko, 1, .inr (.inl (fun _ => 0))))]) [0, 1, 2, 3] (by decide) rfl
      have hKc := hK.sub (tys' := [((k 31), (.object "SeaLand$Settler")), (ko, .long)]) [0, 1] rfl
      have hFc := va_free (wc := [(a 0, .inr (14, [.ref (a 1), .ref (a 2), .ref (a 27), .ref (a 30), .ref (a 74), .ref (a 75), .null, .int 0, .int 0])), (a 30, .inr (3, [.ref (a 31), .ref (a 32), .ref (a 33), .ref (a 34), .ref (a 35), .ref (a 36), .ref (a 37), .ref (a 38), .ref (a 50), .ref (a 62), .int (-1), .int 0, .long 0, .long 0, .int 0, .int 0, .int 0, .int 0])), (a 31, .inl ((k 31), 60, .inr (.inr (.inr (.inr (fun _ => none)))))), (o0, .inl (ko, 1, .inr (.inl (fun _ => 0))))]) hD hS hA [0, 1, 2, 3] rfl
      refine va_calli (vx_runSW (As := [.ref (a 0), .int (xs 1), .int (xs 2), .int (xs 3), .int (xs 4), .int 0, .int 0, .int (xs 7), .ref o0]) (rest := []) ⟨hx, hb, hml, hown, hts⟩ (l_settler l hlt dC dI a k o0 ko (fun _ => 0) (xs 1) (xs 2) (xs 3) (xs 4) 0 0 (xs 7) H.size rfl rfl rfl rfl) (vx_cwSW 9 hts (goodIn_app (goodIn_r _ [43, 44, 45] (by decide +kernel) (by decide +kernel)) (goodIn_ca (goodIn_r _ [1, 2, 3, 4, 5, 6, 7, 8, 9, 10, 11, 12, 13, 14, 15, 16, 17, 18, 19, 20, 21, 22, 23, 24, 25, 26, 27, 28, 29, 30, 31, 32, 33, 34, 35, 36, 37, 38, 39, 40, 41, 42] (by decide +kernel) (by decide +kernel)) (bs_in _ _))) rfl rfl rfl (by decide +kernel) ⟨(Nat.le_of_ble_eq_true rfl), (Nat.le_of_ble_eq_true rfl)⟩) ⟨fun a U g mk q => by obtain ⟨q0, q1, qP, qK, qD, qE, qN⟩ := q; exact ⟨q0, q1, qP, va_K.moved (u := U) (U := U.calling g mk a) (Vm.Alike.refl U.vm) qK, qD, EV.blind g mk a qE, NC.blind g mk a qN⟩, fun U hU hW => ⟨rfl, by rw [hU], by rw [hU]; exact hPc, va_K.moved hW.alike hKc, hDc.weaken (fun _ _ _ _ => trivial), hE.call hS hFc hU hW, hN.call hW⟩⟩ rfl rfl hl.1 rfl (lv_room (Nat.le_of_ble_eq_true rfl)) dL_law_2248 ⟨(Nat.le_of_ble_eq_true rfl), (Nat.le_of_ble_eq_true rfl)⟩) hS (fun q _ h => hFc q h) hFc (fun r18 u t H1 locs ht hvm hw19 hB hz1 hk1 hS => ?_)
      obtain ⟨fu20, rfl⟩ : ∃ z, z = u := ⟨_, rfl⟩
      obtain ⟨hP1, hD1⟩ := hB
      rw [ht] at hP1
      obtain ⟨hP, hD⟩ := va_join (wr := [(h0, .inr (15, mF q 0)), (q 31, .inl ((cm 31), 60, .inl (fun _ => 0))), (q 32, .inl ((cm 32), 60, .inl (fun _ => 0))), (q 33, .inl ((cm 33), 60, .inl (fun _ => 0))), (q 34, .inl ((cm 34), 60, .inl (fun _ => 0))), (q 35, .inl ((cm 35), 60, .inl (fun _ => 0))), (q 36, .inl ((cm 36), 60, .inl (fun _ => 0))), (q 37, .inl ((cm 37), 60, .inl (fun _ => 0))), (q 38, .inl ((cm 38), 60, .inl (fun _ => 0)))]) (w1 := [(o0, .inl (ko, 1, .inr (.inl fu20)))]) hP hD [0, 1, 2, 3] [4, 5, 6, 7, 8, 9, 10, 11, 12] rfl rfl (by decide) (by decide) hk1 hFc hP1 hD1
      generalize H1 = H at hP hS ⊢
      have hP : va_P (dC, dI) vwCl [(h0, .inr (15, mF q 0)), (q 31, .inl ((cm 31), 60, .inl (fun _ => 0))), (q 32, .inl ((cm 32), 60, .inl (fun _ => 0))), (q 33, .inl ((cm 33), 60, .inl (fun _ => 0))), (q 34, .inl ((cm 34), 60, .inl (fun _ => 0))), (q 35, .inl ((cm 35), 60, .inl (fun _ => 0))), (q 36, .inl ((cm 36), 60, .inl (fun _ => 0))), (q 37, .inl ((cm 37), 60, .inl (fun _ => 0))), (q 38, .inl ((cm 38), 60, .inl (fun _ => 0))), (o0, .inl (ko, 1, .inr (.inl fu20)))] H := hP
      have hD : va_D A [(h0, .inr (15, mF q 0)), (q 31, .inl ((cm 31), 60, .inl (fun _ => 0))), (q 32, .inl ((cm 32), 60, .inl (fun _ => 0))), (q 33, .inl ((cm 33), 60, .inl (fun _ => 0))), (q 34, .inl ((cm 34), 60, .inl (fun _ => 0))), (q 35, .inl ((cm 35), 60, .inl (fun _ => 0))), (q 36, .inl ((cm 36), 60, .inl (fun _ => 0))), (q 37, .inl ((cm 37), 60, .inl (fun _ => 0))), (q 38, .inl ((cm 38), 60, .inl (fun _ => 0))), (o0, .inl (ko, 1, .inr (.inl fu20)))] := hD
      try dsimp only at hw19
      obtain rfl : (T_settler (xs 1) (xs 2) (xs 3) (xs 4) 0 0 (xs 7)).1 = r18 := hw19.1.symm
      refine lv_istore (lv' := [(5, .int ((T_settler (xs 1) (xs 2) (xs 3) (xs 4) 0 0 (xs 7)).1)), (0, .ref b), (1, .ref (a 0)), (2, .ref h0), (3, .ref o0), (4, .int 0)]) hx hb dL_law_2251 hl (by decide) rfl (fun ls hl => ?_)
      refine lv_aload_n hx hb dL_law_2253 rfl (lv_at hl 3 rfl) ?_
      refine lv_aload_n hx hb dL_law_2254 rfl (lv_at hl 1 rfl) ?_
      refine lv_iload hx hb dL_law_2255 (lv_at hl 5 rfl) ?_
      refine lv_iconst (v := 1) hx hb dL_law_2257 (by decide) ?_
      refine lv_iadd hx hb dL_law_2258 ?_
      refine lv_topi (fun x21 ex21 => ?_)
      obtain rfl : x21 = 1 := ex21.trans (by decide)
      refine va_sld hx hb hX hbl hbA hS (i := 1) (by unfold vp_in; decide) dL_law_2259 ?_
      refine lv_topi (fun x22 ex22 => ?_)
      obtain rfl : xs 1 = x22 := (ex22).symm
      refine lv_aload_n hx hb dL_law_2260 rfl (lv_at hl 1 rfl) ?_
      refine lv_iload hx hb dL_law_2261 (lv_at hl 5 rfl) ?_
      refine lv_iconst (v := 2) hx hb dL_law_2263 (by decide) ?_
      refine lv_iadd hx hb dL_law_2264 ?_
      refine lv_topi (fun x23 ex23 => ?_)
      obtain rfl : x23 = 2 := ex23.trans (by decide)
      refine va_sld hx hb hX hbl hbA hS (i := 2) (by unfold vp_in; decide) dL_law_2265 ?_
      refine lv_topi (fun x24 ex24 => ?_)
      obtain rfl : xs 2 = x24 := (ex24).symm
      refine lv_aload_n hx hb dL_law_2266 rfl (lv_at hl 1 rfl) ?_
      refine lv_iload hx hb dL_law_2267 (lv_at hl 5 rfl) ?_
      refine lv_iconst (v := 3) hx hb dL_law_2269 (by decide) ?_
      refine lv_iadd hx hb dL_law_2270 ?_
      refine lv_topi (fun x25 ex25 => ?_)
      obtain rfl : x25 = 3 := ex25.trans (by decide)
      refine va_sld hx hb hX hbl hbA hS (i := 3) (by unfold vp_in; decide) dL_law_2271 ?_
      refine lv_topi (fun x26 ex26 => ?_)
      obtain rfl : xs 3 = x26 := (ex26).symm
      refine lv_aload_n hx hb dL_law_2272 rfl (lv_at hl 1 rfl) ?_
      refine lv_iload hx hb dL_law_2273 (lv_at hl 5 rfl) ?_
      refine lv_iconst (v := 4) hx hb dL_law_2275 (by decide) ?_
      refine lv_iadd hx hb dL_law_2276 ?_
      refine lv_topi (fun x27 ex27 => ?_)
      obtain rfl : x27 = 4 := ex27.trans (by decide)
      refine va_sld hx hb hX hbl hbA hS (i := 4) (by unfold vp_in; decide) dL_law_2277 ?_
      refine lv_topi (fun x28 ex28 => ?_)
      obtain rfl : xs 4 = x28 := (ex28).symm
      refine lv_aload_n hx hb dL_law_2278 rfl (lv_at hl 1 rfl) ?_
      refine lv_iload hx hb dL_law_2279 (lv_at hl 5 rfl) ?_
      refine lv_iconst (v := 5) hx hb dL_law_2281 (by decide) ?_
      refine lv_iadd hx hb dL_law_2282 ?_
      refine lv_topi (fun x29 ex29 => ?_)
      obtain rfl : x29 = 5 := ex29.trans (by decide)
      refine va_sld hx hb hX hbl hbA hS (i := 5) (by unfold vp_in; decide) dL_law_2283 ?_
      refine lv_topi (fun x30 ex30 => ?_)
      obtain rfl : xs 5 = x30 := (ex30).symm
      refine lv_if_eq (tgt := 2291) hx hb dL_law_2284 (by decide) (fun c31 => ?_) (fun c31 => absurd c11 c31)
      refine lv_iconst (v := 0) hx hb dL_law_2291 (by decide) ?_
      refine lv_aload_n hx hb dL_law_2292 rfl (lv_at hl 1 rfl) ?_
      refine lv_iload hx hb dL_law_2293 (lv_at hl 5 rfl) ?_
      refine lv_bipush (v := 6) hx hb dL_law_2295 (by decide) ?_
      refine lv_iadd hx hb dL_law_2297 ?_
      refine lv_topi (fun x32 ex32 => ?_)
      obtain rfl : x32 = 6 := ex32.trans (by decide)
      refine va_sld hx hb hX hbl hbA hS (i := 6) (by unfold vp_in; decide) dL_law_2298 ?_
      refine lv_topi (fun x33 ex33 => ?_)
      obtain rfl : xs 6 = x33 := (ex33).symm
      refine lv_if_eq (tgt := 2306) hx hb dL_law_2299 (by decide) (fun c34 => ?_) (fun c34 => absurd c14 c34)
      refine lv_iconst (v := 0) hx hb dL_law_2306 (by decide) ?_
      refine lv_aload_n hx hb dL_law_2307 rfl (lv_at hl 1 rfl) ?_
      refine lv_iload hx hb dL_law_2308 (lv_at hl 5 rfl) ?_
      refine lv_bipush (v := 7) hx hb dL_law_2310 (by decide) ?_
      refine lv_iadd hx hb dL_law_2312 ?_
      refine lv_topi (fun x35 ex35 => ?_)
      obtain rfl : x35 = 7 := ex35.trans (by decide)
      refine va_sld hx hb hX hbl hbA hS (i := 7) (by unfold vp_in; decide) dL_law_2313 ?_
      refine lv_topi (fun x36 ex36 => ?_)
      obtain rfl : xs 7 = x36 := (ex36).symm
      have hPc := hP.sub (ws' := [(h0, .inr (15, mF q 0)), (q 31, .inl ((cm 31), 60, .inl (fun _ => 0))), (q 32, .inl ((cm 32), 60, .inl (fun _ => 0))), (q 33, .inl ((cm 33), 60, .inl (fun _ => 0))), (q 34, .inl ((cm 34), 60, .inl (fun _ => 0))), (q 35, .inl ((cm 35), 60, .inl (fun _ => 0))), (q 36, .inl ((cm 36), 60, .inl (fun _ => 0))), (q 37, .inl ((cm 37), 60, .inl (fun _ => 0))), (q 38, .inl ((cm 38), 60, .inl (fun _ => 0)))]) [0, 1, 2, 3, 4, 5, 6, 7, 8] rfl
      have hDc := hD.sub (ws' := [(h0, .inr (15, mF q 0)), (q 31, .inl ((cm 31), 60, .inl (fun _ => 0))), (q 32, .inl ((cm 32), 60, .inl (fun _ => 0))), (q 33, .inl ((cm 33), 60, .inl (fun _ => 0))), (q 34, .inl ((cm 34), 60, .inl (fun _ => 0))), (q 35, .inl ((cm 35), 60, .inl (fun _ => 0))), (q 36, .inl ((cm 36), 60, .inl (fun _ => 0))), (q 37, .inl ((cm 37), 60, .inl (fun _ => 0))), (q 38, .inl ((cm 38), 60, .inl (fun _ => 0)))]) [0, 1, 2, 3, 4, 5, 6, 7, 8] (by decide) rfl
      have hKc := hK.sub (tys' := [((cm 31), .int), ((cm 32), .int), ((cm 33), .int), ((cm 34), .int), ((cm 35), .boolean), ((cm 36), .boolean), ((cm 37), .int), ((cm 38), .int)]) [2, 3, 4, 5, 6, 7, 8, 9] rfl
      have hFc := va_free (wc := [(h0, .inr (15, mF q 0)), (q 31, .inl ((cm 31), 60, .inl (fun _ => 0))), (q 32, .inl ((cm 32), 60, .inl (fun _ => 0))), (q 33, .inl ((cm 33), 60, .inl (fun _ => 0))), (q 34, .inl ((cm 34), 60, .inl (fun _ => 0))), (q 35, .inl ((cm 35), 60, .inl (fun _ => 0))), (q 36, .inl ((cm 36), 60, .inl (fun _ => 0))), (q 37, .inl ((cm 37), 60, .inl (fun _ => 0))), (q 38, .inl ((cm 38), 60, .inl (fun _ => 0)))]) hD hS hA [0, 1, 2, 3, 4, 5, 6, 7, 8] rfl
      refine va_calli (va_runV (As := [.int (xs 1), .int (xs 2), .int (xs 3), .int (xs 4), .int 0, .int 0, .int (xs 7)]) (rest := []) ⟨hx, hb, hml, hown, hts⟩ (m_settler l dC dI h0 q cm (xs 1) (xs 2) (xs 3) (xs 4) 0 0 (xs 7) H.size ) (cwV 7 hts (goodIn_app (goodIn_r _ [67, 68, 69, 51] (by decide +kernel) (by decide +kernel)) (goodIn_ca (goodIn_r _ [46, 47, 48, 49, 50, 51, 52, 53, 54, 55, 56, 57, 58, 59, 60, 61, 62, 63, 64, 65, 66] (by decide +kernel) (by decide +kernel)) (bs_in _ _))) rfl rfl rfl (by decide +kernel) ⟨(Nat.le_of_ble_eq_true rfl), (Nat.le_of_ble_eq_true rfl)⟩) ⟨fun a U g mk q => by obtain ⟨q0, q1, qP, qK, qD⟩ := q; exact ⟨q0, q1, qP, va_K.moved (u := U) (U := U.calling g mk a) (Vm.Alike.refl U.vm) qK, qD⟩, va_recv hKc hPc (ci := 15) (q0 := 0) rfl rfl, fun U hU hW => ⟨rfl, by rw [hU], by rw [hU]; exact hPc, va_K.moved hW.alike hKc, hDc.weaken (fun _ _ _ _ => trivial)⟩⟩ rfl rfl hl.1 rfl (lv_room (Nat.le_of_ble_eq_true rfl)) dL_law_2314 ⟨(Nat.le_of_ble_eq_true rfl), (Nat.le_of_ble_eq_true rfl)⟩) hS (fun q _ h => hFc q h) hFc (fun r38 u t H1 locs ht hvm hw39 hB hz1 hk1 hS => ?_)
      obtain ⟨fs40, rfl⟩ : ∃ z, z = u := ⟨_, rfl⟩
      obtain ⟨hP1, hD1⟩ := hB
      rw [ht] at hP1
      obtain ⟨hP, hD⟩ := va_join (wr := [(o0, .inl (ko, 1, .inr (.inl fu20)))]) (w1 := [(h0, .inr (15, fs40))]) hP hD [0, 1, 2, 3, 4, 5, 6, 7, 8] [9] rfl rfl (by decide) (by decide) hk1 hFc hP1 hD1
      generalize H1 = H at hP hS ⊢
      have hP : va_P (dC, dI) vwCl [(o0, .inl (ko, 1, .inr (.inl fu20))), (h0, .inr (15, fs40))] H := hP
      have hD : va_D A [(o0, .inl (ko, 1, .inr (.inl fu20))), (h0, .inr (15, fs40))] := hD
      try dsimp only at hw39
      refine lv_istore (lv' := [(6, .int r38), (5, .int ((T_settler (xs 1) (xs 2) (xs 3) (xs 4) 0 0 (xs 7)).1)), (0, .ref b), (1, .ref (a 0)), (2, .ref h0), (3, .ref o0), (4, .int 0)]) hx hb dL_law_2317 hl (by decide) rfl (fun ls hl => ?_)
      refine lv_aload_n hx hb dL_law_2319 rfl (lv_at hl 4 rfl) ?_
      have hPc := hP.sub (ws' := [(h0, .inr (15, fs40))]) [1] rfl
      have hDc := hD.sub (ws' := [(h0, .inr (15, fs40))]) [1] (by decide) rfl
      have hKc := hK.sub (tys' := []) [] rfl
      have hFc := va_free (wc := [(h0, .inr (15, fs40))]) hD hS hA [1] rfl
      refine va_calli (va_runV (As := []) (rest := []) ⟨hx, hb, hml, hown, hts⟩ (m_thrown l dC dI h0 fs40 ((T_settler (xs 1) (xs 2) (xs 3) (xs 4) 0 0 (xs 7)).1) H.size hw39.1) (cwV 0 hts (goodIn_app (goodIn_r _ [71, 72, 73, 51] (by decide +kernel) (by decide +kernel)) (goodIn_ca (goodIn_r _ [70, 47] (by decide +kernel) (by decide +kernel)) (bs_in _ _))) rfl rfl rfl (by decide +kernel) ⟨(Nat.le_of_ble_eq_true rfl), (Nat.le_of_ble_eq_true rfl)⟩) ⟨fun a U g mk q => by obtain ⟨q0, q1, qP, qK, qD⟩ := q; exact ⟨q0, q1, qP, va_K.moved (u := U) (U := U.calling g mk a) (Vm.Alike.refl U.vm) qK, qD⟩, va_recv hKc hPc (ci := 15) (q0 := 0) rfl rfl, fun U hU hW => ⟨rfl, by rw [hU], by rw [hU]; exact hPc, va_K.moved hW.alike hKc, hDc.weaken (fun _ _ _ _ => trivial)⟩⟩ rfl rfl hl.1 rfl (lv_room (Nat.le_of_ble_eq_true rfl)) dL_law_2320 ⟨(Nat.le_of_ble_eq_true rfl), (Nat.le_of_ble_eq_true rfl)⟩) hS (fun q _ h => hFc q h) hFc (fun r42 u t H1 locs ht hvm hw43 hB hz1 hk1 hS => ?_)
      have hP1 : va_P (dC, dI) vwCl [] H1 := nilP
      have hD1 : va_D (va_A [(h0, .inr (15, fs40))] H.size) [] := nilD
      have hK := hK
      obtain ⟨hP, hD⟩ := va_join (wr := [(o0, .inl (ko, 1, .inr (.inl fu20)))]) (w1 := []) hP hD [1] [0] rfl rfl (by decide) (by decide) hk1 hFc hP1 hD1
      generalize H1 = H at hP hS ⊢
      have hP : va_P (dC, dI) vwCl [(o0, .inl (ko, 1, .inr (.inl fu20)))] H := hP
      have hD : va_D A [(o0, .inl (ko, 1, .inr (.inl fu20)))] := hD
      try dsimp only at hw43
      obtain rfl : (T_settler (xs 1) (xs 2) (xs 3) (xs 4) 0 0 (xs 7)).1 = r42 := hw43.symm
      refine lv_iload hx hb dL_law_2323 (lv_at hl 1 rfl) ?_
      refine lv_icmp_eq (tgt := 2330) hx hb dL_law_2325 (by decide) (fun c44 => ?_) (fun c44 => absurd rfl c44)
      refine lv_iload hx hb dL_law_2330 (lv_at hl 1 rfl) ?_
      refine lv_if_ne (tgt := 2347) hx hb dL_law_2332 (by decide) (fun c45 => ?_) (fun c45 => ?_)
      · refine lv_goto (tgt := 3762) hx hb dL_law_2347 (by decide) ?_
        exact law_tail hx hb hr hlocks hX hbl hbA hAi hS (Nat.le_of_ble_eq_true rfl) (Nat.le_of_ble_eq_true rfl) ls (lv_sub hl [2, 6] rfl)
      · refine lv_aload_n hx hb dL_law_2335 rfl (lv_at hl 5 rfl) ?_
        refine lv_iconst (v := 0) hx hb dL_law_2336 (by decide) ?_
        refine va_lald hx hb hK hP 0 1 rfl rfl (by unfold vp_in; decide) dL_law_2337 ?_
        refine lv_iload hx hb dL_law_2338 (lv_at hl 0 rfl) ?_
        refine lv_i2l (v := r38.toInt64) hx hb dL_law_2340 rfl ?_
        refine W.lcmp hx hb dL_law_2341 ?_
        refine lv_topi (fun x46 ex46 => ?_)
        obtain rfl : x46 = 0 := ex46.trans (by rw [show fu20 (0 : Int32).toNatClampNeg = (T_settler (xs 1) (xs 2) (xs 3) (xs 4) 0 0 (xs 7)).2.toInt64 from hw19.2 c45, hw39.2 c45]; exact lg_cmp_self _)
        refine lv_if_eq (tgt := 2347) hx hb dL_law_2342 (by decide) (fun c47 => ?_) (fun c47 => absurd c47 (by decide))
        refine lv_goto (tgt := 3762) hx hb dL_law_2347 (by decide) ?_
        exact law_tail hx hb hr hlocks hX hbl hbA hAi hS (Nat.le_of_ble_eq_true rfl) (Nat.le_of_ble_eq_true rfl) ls (lv_sub hl [2, 6] rfl)
    · refine lv_iconst (v := 1) hx hb dL_law_2235 (by decide) ?_
      refine lv_goto (tgt := 2240) hx hb dL_law_2236 (by decide) ?_
      refine lv_aload_n hx hb dL_law_2240 rfl (lv_at hl 0 rfl) ?_
      refine lv_iload hx hb dL_law_2241 (lv_at hl 4 rfl) ?_
      refine lv_bipush (v := 7) hx hb dL_law_2243 (by decide) ?_
      refine lv_iadd hx hb dL_law_2245 ?_
      refine lv_topi (fun x48 ex48 => ?_)
      obtain rfl : x48 = 7 := ex48.trans (by decide)
      refine va_sld hx hb hX hbl hbA hS (i := 7) (by unfold vp_in; decide) dL_law_2246 ?_
      refine lv_topi (fun x49 ex49 => ?_)
      obtain rfl : xs 7 = x49 := (ex49).symm
      refine lv_aload_n hx hb dL_law_2247 rfl (lv_at hl 3 rfl) ?_
      have hPc := hP.sub (ws' := [(a 0, .inr (14, [.ref (a 1), .ref (a 2), .ref (a 27), .ref (a 30), .ref (a 74), .ref (a 75), .null, .int 0, .int 0])), (a 30, .inr (3, [.ref (a 31), .ref (a 32), .ref (a 33), .ref (a 34), .ref (a 35), .ref (a 36), .ref (a 37), .ref (a 38), .ref (a 50), .ref (a 62), .int (-1), .int 0, .long 0, .long 0, .int 0, .int 0, .int 0, .int 0])), (a 31, .inl ((k 31), 60, .inr (.inr (.inr (.inr (fun _ => none)))))), (o0, .inl (ko, 1, .inr (.inl (fun _ => 0))))]) [0, 1, 2, 3] rfl
      have hDc := hD.sub (ws' := [(a 0, .inr (14, [.ref (a 1), .ref (a 2), .ref (a 27), .ref (a 30), .ref (a 74), .ref (a 75), .null, .int 0, .int 0])), (a 30, .inr (3, [.ref (a 31), .ref (a 32), .ref (a 33), .ref (a 34), .ref (a 35), .ref (a 36), .ref (a 37), .ref (a 38), .ref (a 50), .ref (a 62), .int (-1), .int 0, .long 0, .long 0, .int 0, .int 0, .int 0, .int 0])), (a 31, .inl ((k 31), 60, .inr (.inr (.inr (.inr (fun _ => none)))))), (o0, .inl (ko, 1, .inr (.inl (fun _ => 0))))]) [0, 1, 2, 3] (by decide) rfl
      have hKc := hK.sub (tys' := [((k 31), (.object "SeaLand$Settler")), (ko, .long)]) [0, 1] rfl
      have hFc := va_free (wc := [(a 0, .inr (14, [.ref (a 1), .ref (a 2), .ref (a 27), .ref (a 30), .ref (a 74), .ref (a 75), .null, .int 0, .int 0])), (a 30, .inr (3, [.ref (a 31), .ref (a 32), .ref (a 33), .ref (a 34), .ref (a 35), .ref (a 36), .ref (a 37), .ref (a 38), .ref (a 50), .ref (a 62), .int (-1), .int 0, .long 0, .long 0, .int 0, .int 0, .int 0, .int 0])), (a 31, .inl ((k 31), 60, .inr (.inr (.inr (.inr (fun _ => none)))))), (o0, .inl (ko, 1, .inr (.inl (fun _ => 0))))]) hD hS hA [0, 1, 2, 3] rfl
      refine va_calli (vx_runSW (As := [.ref (a 0), .int (xs 1), .int (xs 2), .int (xs 3), .int (xs 4), .int 0, .int 1, .int (xs 7), .ref o0]) (rest := []) ⟨hx, hb, hml, hown, hts⟩ (l_settler l hlt dC dI a k o0 ko (fun _ => 0) (xs 1) (xs 2) (xs 3) (xs 4) 0 1 (xs 7) H.size rfl rfl rfl rfl) (vx_cwSW 9 hts (goodIn_app (goodIn_r _ [43, 44, 45] (by decide +kernel) (by decide +kernel)) (goodIn_ca (goodIn_r _ [1, 2, 3, 4, 5, 6, 7, 8, 9, 10, 11, 12, 13, 14, 15, 16, 17, 18, 19, 20, 21, 22, 23, 24, 25, 26, 27, 28, 29, 30, 31, 32, 33, 34, 35, 36, 37, 38, 39, 40, 41, 42] (by decide +kernel) (by decide +kernel)) (bs_in _ _))) rfl rfl rfl (by decide +kernel) ⟨(Nat.le_of_ble_eq_true rfl), (Nat.le_of_ble_eq_true rfl)⟩) ⟨fun a U g mk q => by obtain ⟨q0, q1, qP, qK, qD, qE, qN⟩ := q; exact ⟨q0, q1, qP, va_K.moved (u := U) (U := U.calling g mk a) (Vm.Alike.refl U.vm) qK, qD, EV.blind g mk a qE, NC.blind g mk a qN⟩, fun U hU hW => ⟨rfl, by rw [hU], by rw [hU]; exact hPc, va_K.moved hW.alike hKc, hDc.weaken (fun _ _ _ _ => trivial), hE.call hS hFc hU hW, hN.call hW⟩⟩ rfl rfl hl.1 rfl (lv_room (Nat.le_of_ble_eq_true rfl)) dL_law_2248 ⟨(Nat.le_of_ble_eq_true rfl), (Nat.le_of_ble_eq_true rfl)⟩) hS (fun q _ h => hFc q h) hFc (fun r51 u t H1 locs ht hvm hw52 hB hz1 hk1 hS => ?_)
      obtain ⟨fu53, rfl⟩ : ∃ z, z = u := ⟨_, rfl⟩
      obtain ⟨hP1, hD1⟩ := hB
      rw [ht] at hP1
      obtain ⟨hP, hD⟩ := va_join (wr := [(h0, .inr (15, mF q 0)), (q 31, .inl ((cm 31), 60, .inl (fun _ => 0))), (q 32, .inl ((cm 32), 60, .inl (fun _ => 0))), (q 33, .inl ((cm 33), 60, .inl (fun _ => 0))), (q 34, .inl ((cm 34), 60, .inl (fun _ => 0))), (q 35, .inl ((cm 35), 60, .inl (fun _ => 0))), (q 36, .inl ((cm 36), 60, .inl (fun _ => 0))), (q 37, .inl ((cm 37), 60, .inl (fun _ => 0))), (q 38, .inl ((cm 38), 60, .inl (fun _ => 0)))]) (w1 := [(o0, .inl (ko, 1, .inr (.inl fu53)))]) hP hD [0, 1, 2, 3] [4, 5, 6, 7, 8, 9, 10, 11, 12] rfl rfl (by decide) (by decide) hk1 hFc hP1 hD1
      generalize H1 = H at hP hS ⊢
      have hP : va_P (dC, dI) vwCl [(h0, .inr (15, mF q 0)), (q 31, .inl ((cm 31), 60, .inl (fun _ => 0))), (q 32, .inl ((cm 32), 60, .inl (fun _ => 0))), (q 33, .inl ((cm 33), 60, .inl (fun _ => 0))), (q 34, .inl ((cm 34), 60, .inl (fun _ => 0))), (q 35, .inl ((cm 35), 60, .inl (fun _ => 0))), (q 36, .inl ((cm 36), 60, .inl (fun _ => 0))), (q 37, .inl ((cm 37), 60, .inl (fun _ => 0))), (q 38, .inl ((cm 38), 60, .inl (fun _ => 0))), (o0, .inl (ko, 1, .inr (.inl fu53)))] H := hP
      have hD : va_D A [(h0, .inr (15, mF q 0)), (q 31, .inl ((cm 31), 60, .inl (fun _ => 0))), (q 32, .inl ((cm 32), 60, .inl (fun _ => 0))), (q 33, .inl ((cm 33), 60, .inl (fun _ => 0))), (q 34, .inl ((cm 34), 60, .inl (fun _ => 0))), (q 35, .inl ((cm 35), 60, .inl (fun _ => 0))), (q 36, .inl ((cm 36), 60, .inl (fun _ => 0))), (q 37, .inl ((cm 37), 60, .inl (fun _ => 0))), (q 38, .inl ((cm 38), 60, .inl (fun _ => 0))), (o0, .inl (ko, 1, .inr (.inl fu53)))] := hD
      try dsimp only at hw52
      obtain rfl : (T_settler (xs 1) (xs 2) (xs 3) (xs 4) 0 1 (xs 7)).1 = r51 := hw52.1.symm
      refine lv_istore (lv' := [(5, .int ((T_settler (xs 1) (xs 2) (xs 3) (xs 4) 0 1 (xs 7)).1)), (0, .ref b), (1, .ref (a 0)), (2, .ref h0), (3, .ref o0), (4, .int 0)]) hx hb dL_law_2251 hl (by decide) rfl (fun ls hl => ?_)
      refine lv_aload_n hx hb dL_law_2253 rfl (lv_at hl 3 rfl) ?_
      refine lv_aload_n hx hb dL_law_2254 rfl (lv_at hl 1 rfl) ?_
      refine lv_iload hx hb dL_law_2255 (lv_at hl 5 rfl) ?_
      refine lv_iconst (v := 1) hx hb dL_law_2257 (by decide) ?_
      refine lv_iadd hx hb dL_law_2258 ?_
      refine lv_topi (fun x54 ex54 => ?_)
      obtain rfl : x54 = 1 := ex54.trans (by decide)
      refine va_sld hx hb hX hbl hbA hS (i := 1) (by unfold vp_in; decide) dL_law_2259 ?_
      refine lv_topi (fun x55 ex55 => ?_)
      obtain rfl : xs 1 = x55 := (ex55).symm
      refine lv_aload_n hx hb dL_law_2260 rfl (lv_at hl 1 rfl) ?_
      refine lv_iload hx hb dL_law_2261 (lv_at hl 5 rfl) ?_
      refine lv_iconst (v := 2) hx hb dL_law_2263 (by decide) ?_
      refine lv_iadd hx hb dL_law_2264 ?_
      refine lv_topi (fun x56 ex56 => ?_)
      obtain rfl : x56 = 2 := ex56.trans (by decide)
      refine va_sld hx hb hX hbl hbA hS (i := 2) (by unfold vp_in; decide) dL_law_2265 ?_
      refine lv_topi (fun x57 ex57 => ?_)
      obtain rfl : xs 2 = x57 := (ex57).symm
      refine lv_aload_n hx hb dL_law_2266 rfl (lv_at hl 1 rfl) ?_
      refine lv_iload hx hb dL_law_2267 (lv_at hl 5 rfl) ?_
      refine lv_iconst (v := 3) hx hb dL_law_2269 (by decide) ?_
      refine lv_iadd hx hb dL_law_2270 ?_
      refine lv_topi (fun x58 ex58 => ?_)
      obtain rfl : x58 = 3 := ex58.trans (by decide)
      refine va_sld hx hb hX hbl hbA hS (i := 3) (by unfold vp_in; decide) dL_law_2271 ?_
      refine lv_topi (fun x59 ex59 => ?_)
      obtain rfl : xs 3 = x59 := (ex59).symm
      refine lv_aload_n hx hb dL_law_2272 rfl (lv_at hl 1 rfl) ?_
      refine lv_iload hx hb dL_law_2273 (lv_at hl 5 rfl) ?_
      refine lv_iconst (v := 4) hx hb dL_law_2275 (by decide) ?_
      refine lv_iadd hx hb dL_law_2276 ?_
      refine lv_topi (fun x60 ex60 => ?_)
      obtain rfl : x60 = 4 := ex60.trans (by decide)
      refine va_sld hx hb hX hbl hbA hS (i := 4) (by unfold vp_in; decide) dL_law_2277 ?_
      refine lv_topi (fun x61 ex61 => ?_)
      obtain rfl : xs 4 = x61 := (ex61).symm
      refine lv_aload_n hx hb dL_law_2278 rfl (lv_at hl 1 rfl) ?_
      refine lv_iload hx hb dL_law_2279 (lv_at hl 5 rfl) ?_
      refine lv_iconst (v := 5) hx hb dL_law_2281 (by decide) ?_
      refine lv_iadd hx hb dL_law_2282 ?_
      refine lv_topi (fun x62 ex62 => ?_)
      obtain rfl : x62 = 5 := ex62.trans (by decide)
      refine va_sld hx hb hX hbl hbA hS (i := 5) (by unfold vp_in; decide) dL_law_2283 ?_
      refine lv_topi (fun x63 ex63 => ?_)
      obtain rfl : xs 5 = x63 := (ex63).symm
      refine lv_if_eq (tgt := 2291) hx hb dL_law_2284 (by decide) (fun c64 => ?_) (fun c64 => absurd c11 c64)
      refine lv_iconst (v := 0) hx hb dL_law_2291 (by decide) ?_
      refine lv_aload_n hx hb dL_law_2292 rfl (lv_at hl 1 rfl) ?_
      refine lv_iload hx hb dL_law_2293 (lv_at hl 5 rfl) ?_
      refine lv_bipush (v := 6) hx hb dL_law_2295 (by decide) ?_
      refine lv_iadd hx hb dL_law_2297 ?_
      refine lv_topi (fun x65 ex65 => ?_)
      obtain rfl : x65 = 6 := ex65.trans (by decide)
      refine va_sld hx hb hX hbl hbA hS (i := 6) (by unfold vp_in; decide) dL_law_2298 ?_
      refine lv_topi (fun x66 ex66 => ?_)
      obtain rfl : xs 6 = x66 := (ex66).symm
      refine lv_if_eq (tgt := 2306) hx hb dL_law_2299 (by decide) (fun c67 => absurd c67 c14) (fun c67 => ?_)
      refine lv_iconst (v := 1) hx hb dL_law_2302 (by decide) ?_
      refine lv_goto (tgt := 2307) hx hb dL_law_2303 (by decide) ?_
      refine lv_aload_n hx hb dL_law_2307 rfl (lv_at hl 1 rfl) ?_
      refine lv_iload hx hb dL_law_2308 (lv_at hl 5 rfl) ?_
      refine lv_bipush (v := 7) hx hb dL_law_2310 (by decide) ?_
      refine lv_iadd hx hb dL_law_2312 ?_
      refine lv_topi (fun x68 ex68 => ?_)
      obtain rfl : x68 = 7 := ex68.trans (by decide)
      refine va_sld hx hb hX hbl hbA hS (i := 7) (by unfold vp_in; decide) dL_law_2313 ?_
      refine lv_topi (fun x69 ex69 => ?_)
      obtain rfl : xs 7 = x69 := (ex69).symm
      have hPc := hP.sub (ws' := [(h0, .inr (15, mF q 0)), (q 31, .inl ((cm 31), 60, .inl (fun _ => 0))), (q 32, .inl ((cm 32), 60, .inl (fun _ => 0))), (q 33, .inl ((cm 33), 60, .inl (fun _ => 0))), (q 34, .inl ((cm 34), 60, .inl (fun _ => 0))), (q 35, .inl ((cm 35), 60, .inl (fun _ => 0))), (q 36, .inl ((cm 36), 60, .inl (fun _ => 0))), (q 37, .inl ((cm 37), 60, .inl (fun _ => 0))), (q 38, .inl ((cm 38), 60, .inl (fun _ => 0)))]) [0, 1, 2, 3, 4, 5, 6, 7, 8] rfl
      have hDc := hD.sub (ws' := [(h0, .inr (15, mF q 0)), (q 31, .inl ((cm 31), 60, .inl (fun _ => 0))), (q 32, .inl ((cm 32), 60, .inl (fun _ => 0))), (q 33, .inl ((cm 33), 60, .inl (fun _ => 0))), (q 34, .inl ((cm 34), 60, .inl (fun _ => 0))), (q 35, .inl ((cm 35), 60, .inl (fun _ => 0))), (q 36, .inl ((cm 36), 60, .inl (fun _ => 0))), (q 37, .inl ((cm 37), 60, .inl (fun _ => 0))), (q 38, .inl ((cm 38), 60, .inl (fun _ => 0)))]) [0, 1, 2, 3, 4, 5, 6, 7, 8] (by decide) rfl
      have hKc := hK.sub (tys' := [((cm 31), .int), ((cm 32), .int), ((cm 33), .int), ((cm 34), .int), ((cm 35), .boolean), ((cm 36), .boolean), ((cm 37), .int), ((cm 38), .int)]) [2, 3, 4, 5, 6, 7, 8, 9] rfl
      have hFc := va_free (wc := [(h0, .inr (15, mF q 0)), (q 31, .inl ((cm 31), 60, .inl (fun _ => 0))), (q 32, .inl ((cm 32), 60, .inl (fun _ => 0))), (q 33, .inl ((cm 33), 60, .inl (fun _ => 0))), (q 34, .inl ((cm 34), 60, .inl (fun _ => 0))), (q 35, .inl ((cm 35), 60, .inl (fun _ => 0))), (q 36, .inl ((cm 36), 60, .inl (fun _ => 0))), (q 37, .inl ((cm 37), 60, .inl (fun _ => 0))), (q 38, .inl ((cm 38), 60, .inl (fun _ => 0)))]) hD hS hA [0, 1, 2, 3, 4, 5, 6, 7, 8] rfl
      refine va_calli (va_runV (As := [.int (xs 1), .int (xs 2), .int (xs 3), .int (xs 4), .int 0, .int 1, .int (xs 7)]) (rest := []) ⟨hx, hb, hml, hown, hts⟩ (m_settler l dC dI h0 q cm (xs 1) (xs 2) (xs 3) (xs 4) 0 1 (xs 7) H.size ) (cwV 7 hts (goodIn_app (goodIn_r _ [67, 68, 69, 51] (by decide +kernel) (by decide +kernel)) (goodIn_ca (goodIn_r _ [46, 47, 48, 49, 50, 51, 52, 53, 54, 55, 56, 57, 58, 59, 60, 61, 62, 63, 64, 65, 66] (by decide +kernel) (by decide +kernel)) (bs_in _ _))) rfl rfl rfl (by decide +kernel) ⟨(Nat.le_of_ble_eq_true rfl), (Nat.le_of_ble_eq_true rfl)⟩) ⟨fun a U g mk q => by obtain ⟨q0, q1, qP, qK, qD⟩ := q; exact ⟨q0, q1, qP, va_K.moved (u := U) (U := U.calling g mk a) (Vm.Alike.refl U.vm) qK, qD⟩, va_recv hKc hPc (ci := 15) (q0 := 0) rfl rfl, fun U hU hW => ⟨rfl, by rw [hU], by rw [hU]; exact hPc, va_K.moved hW.alike hKc, hDc.weaken (fun _ _ _ _ => trivial)⟩⟩ rfl rfl hl.1 rfl (lv_room (Nat.le_of_ble_eq_true rfl)) dL_law_2314 ⟨(Nat.le_of_ble_eq_true rfl), (Nat.le_of_ble_eq_true rfl)⟩) hS (fun q _ h => hFc q h) hFc (fun r71 u t H1 locs ht hvm hw72 hB hz1 hk1 hS => ?_)
      obtain ⟨fs73, rfl⟩ : ∃ z, z = u := ⟨_, rfl⟩
      obtain ⟨hP1, hD1⟩ := hB
      rw [ht] at hP1
      obtain ⟨hP, hD⟩ := va_join (wr := [(o0, .inl (ko, 1, .inr (.inl fu53)))]) (w1 := [(h0, .inr (15, fs73))]) hP hD [0, 1, 2, 3, 4, 5, 6, 7, 8] [9] rfl rfl (by decide) (by decide) hk1 hFc hP1 hD1
      generalize H1 = H at hP hS ⊢
      have hP : va_P (dC, dI) vwCl [(o0, .inl (ko, 1, .inr (.inl fu53))), (h0, .inr (15, fs73))] H := hP
      have hD : va_D A [(o0, .inl (ko, 1, .inr (.inl fu53))), (h0, .inr (15, fs73))] := hD
      try dsimp only at hw72
      refine lv_istore (lv' := [(6, .int r71), (5, .int ((T_settler (xs 1) (xs 2) (xs 3) (xs 4) 0 1 (xs 7)).1)), (0, .ref b), (1, .ref (a 0)), (2, .ref h0), (3, .ref o0), (4, .int 0)]) hx hb dL_law_2317 hl (by decide) rfl (fun ls hl => ?_)
      refine lv_aload_n hx hb dL_law_2319 rfl (lv_at hl 4 rfl) ?_
      have hPc := hP.sub (ws' := [(h0, .inr (15, fs73))]) [1] rfl
      have hDc := hD.sub (ws' := [(h0, .inr (15, fs73))]) [1] (by decide) rfl
      have hKc := hK.sub (tys' := []) [] rfl
      have hFc := va_free (wc := [(h0, .inr (15, fs73))]) hD hS hA [1] rfl
      refine va_calli (va_runV (As := []) (rest := []) ⟨hx, hb, hml, hown, hts⟩ (m_thrown l dC dI h0 fs73 ((T_settler (xs 1) (xs 2) (xs 3) (xs 4) 0 1 (xs 7)).1) H.size hw72.1) (cwV 0 hts (goodIn_app (goodIn_r _ [71, 72, 73, 51] (by decide +kernel) (by decide +kernel)) (goodIn_ca (goodIn_r _ [70, 47] (by decide +kernel) (by decide +kernel)) (bs_in _ _))) rfl rfl rfl (by decide +kernel) ⟨(Nat.le_of_ble_eq_true rfl), (Nat.le_of_ble_eq_true rfl)⟩) ⟨fun a U g mk q => by obtain ⟨q0, q1, qP, qK, qD⟩ := q; exact ⟨q0, q1, qP, va_K.moved (u := U) (U := U.calling g mk a) (Vm.Alike.refl U.vm) qK, qD⟩, va_recv hKc hPc (ci := 15) (q0 := 0) rfl rfl, fun U hU hW => ⟨rfl, by rw [hU], by rw [hU]; exact hPc, va_K.moved hW.alike hKc, hDc.weaken (fun _ _ _ _ => trivial)⟩⟩ rfl rfl hl.1 rfl (lv_room (Nat.le_of_ble_eq_true rfl)) dL_law_2320 ⟨(Nat.le_of_ble_eq_true rfl), (Nat.le_of_ble_eq_true rfl)⟩) hS (fun q _ h => hFc q h) hFc (fun r75 u t H1 locs ht hvm hw76 hB hz1 hk1 hS => ?_)
      have hP1 : va_P (dC, dI) vwCl [] H1 := nilP
      have hD1 : va_D (va_A [(h0, .inr (15, fs73))] H.size) [] := nilD
      have hK := hK
      obtain ⟨hP, hD⟩ := va_join (wr := [(o0, .inl (ko, 1, .inr (.inl fu53)))]) (w1 := []) hP hD [1] [0] rfl rfl (by decide) (by decide) hk1 hFc hP1 hD1
      generalize H1 = H at hP hS ⊢
      have hP : va_P (dC, dI) vwCl [(o0, .inl (ko, 1, .inr (.inl fu53)))] H := hP
      have hD : va_D A [(o0, .inl (ko, 1, .inr (.inl fu53)))] := hD
      try dsimp only at hw76
      obtain rfl : (T_settler (xs 1) (xs 2) (xs 3) (xs 4) 0 1 (xs 7)).1 = r75 := hw76.symm
      refine lv_iload hx hb dL_law_2323 (lv_at hl 1 rfl) ?_
      refine lv_icmp_eq (tgt := 2330) hx hb dL_law_2325 (by decide) (fun c77 => ?_) (fun c77 => absurd rfl c77)
      refine lv_iload hx hb dL_law_2330 (lv_at hl 1 rfl) ?_
      refine lv_if_ne (tgt := 2347) hx hb dL_law_2332 (by decide) (fun c78 => ?_) (fun c78 => ?_)
      · refine lv_goto (tgt := 3762) hx hb dL_law_2347 (by decide) ?_
        exact law_tail hx hb hr hlocks hX hbl hbA hAi hS (Nat.le_of_ble_eq_true rfl) (Nat.le_of_ble_eq_true rfl) ls (lv_sub hl [2, 6] rfl)
      · refine lv_aload_n hx hb dL_law_2335 rfl (lv_at hl 5 rfl) ?_
        refine lv_iconst (v := 0) hx hb dL_law_2336 (by decide) ?_
        refine va_lald hx hb hK hP 0 1 rfl rfl (by unfold vp_in; decide) dL_law_2337 ?_
        refine lv_iload hx hb dL_law_2338 (lv_at hl 0 rfl) ?_
        refine lv_i2l (v := r71.toInt64) hx hb dL_law_2340 rfl ?_
        refine W.lcmp hx hb dL_law_2341 ?_
        refine lv_topi (fun x79 ex79 => ?_)
        obtain rfl : x79 = 0 := ex79.trans (by rw [show fu53 (0 : Int32).toNatClampNeg = (T_settler (xs 1) (xs 2) (xs 3) (xs 4) 0 1 (xs 7)).2.toInt64 from hw52.2 c78, hw72.2 c78]; exact lg_cmp_self _)
        refine lv_if_eq (tgt := 2347) hx hb dL_law_2342 (by decide) (fun c80 => ?_) (fun c80 => absurd c80 (by decide))
        refine lv_goto (tgt := 3762) hx hb dL_law_2347 (by decide) ?_
        exact law_tail hx hb hr hlocks hX hbl hbA hAi hS (Nat.le_of_ble_eq_true rfl) (Nat.le_of_ble_eq_true rfl) ls (lv_sub hl [2, 6] rfl)
  · refine lv_iconst (v := 1) hx hb dL_law_2220 (by decide) ?_
    refine lv_goto (tgt := 2225) hx hb dL_law_2221 (by decide) ?_
    refine lv_aload_n hx hb dL_law_2225 rfl (lv_at hl 0 rfl) ?_
    refine lv_iload hx hb dL_law_2226 (lv_at hl 4 rfl) ?_
    refine lv_bipush (v := 6) hx hb dL_law_2228 (by decide) ?_
    refine lv_iadd hx hb dL_law_2230 ?_
    refine lv_topi (fun x81 ex81 => ?_)
    obtain rfl : x81 = 6 := ex81.trans (by decide)
    refine va_sld hx hb hX hbl hbA hS (i := 6) (by unfold vp_in; decide) dL_law_2231 ?_
    refine lv_topi (fun x82 ex82 => ?_)
    obtain rfl : xs 6 = x82 := (ex82).symm
    refine lv_if_eq (tgt := 2239) hx hb dL_law_2232 (by decide) (fun c83 => ?_) (fun c83 => ?_)
    · refine lv_iconst (v := 0) hx hb dL_law_2239 (by decide) ?_
      refine lv_aload_n hx hb dL_law_2240 rfl (lv_at hl 0 rfl) ?_
      refine lv_iload hx hb dL_law_2241 (lv_at hl 4 rfl) ?_
      refine lv_bipush (v := 7) hx hb dL_law_2243 (by decide) ?_
      refine lv_iadd hx hb dL_law_2245 ?_
      refine lv_topi (fun x84 ex84 => ?_)
      obtain rfl : x84 = 7 := ex84.trans (by decide)
      refine va_sld hx hb hX hbl hbA hS (i := 7) (by unfold vp_in; decide) dL_law_2246 ?_
      refine lv_topi (fun x85 ex85 => ?_)
      obtain rfl : xs 7 = x85 := (ex85).symm
      refine lv_aload_n hx hb dL_law_2247 rfl (lv_at hl 3 rfl) ?_
      have hPc := hP.sub (ws' := [(a 0, .inr (14, [.ref (a 1), .ref (a 2), .ref (a 27), .ref (a 30), .ref (a 74), .ref (a 75), .null, .int 0, .int 0])), (a 30, .inr (3, [.ref (a 31), .ref (a 32), .ref (a 33), .ref (a 34), .ref (a 35), .ref (a 36), .ref (a 37), .ref (a 38), .ref (a 50), .ref (a 62), .int (-1), .int 0, .long 0, .long 0, .int 0, .int 0, .int 0, .int 0])), (a 31, .inl ((k 31), 60, .inr (.inr (.inr (.inr (fun _ => none)))))), (o0, .inl (ko, 1, .inr (.inl (fun _ => 0))))]) [0, 1, 2, 3] rfl
      have hDc := hD.sub (ws' := [(a 0, .inr (14, [.ref (a 1), .ref (a 2), .ref (a 27), .ref (a 30), .ref (a 74), .ref (a 75), .null, .int 0, .int 0])), (a 30, .inr (3, [.ref (a 31), .ref (a 32), .ref (a 33), .ref (a 34), .ref (a 35), .ref (a 36), .ref (a 37), .ref (a 38), .ref (a 50), .ref (a 62), .int (-1), .int 0, .long 0, .long 0, .int 0, .int 0, .int 0, .int 0])), (a 31, .inl ((k 31), 60, .inr (.inr (.inr (.inr (fun _ => none)))))), (o0, .inl (ko, 1, .inr (.inl (fun _ => 0))))]) [0, 1, 2, 3] (by decide) rfl
      have hKc := hK.sub (tys' := [((k 31), (.object "SeaLand$Settler")), (ko, .long)]) [0, 1] rfl
      have hFc := va_free (wc := [(a 0, .inr (14, [.ref (a 1), .ref (a 2), .ref (a 27), .ref (a 30), .ref (a 74), .ref (a 75), .null, .int 0, .int 0])), (a 30, .inr (3, [.ref (a 31), .ref (a 32), .ref (a 33), .ref (a 34), .ref (a 35), .ref (a 36), .ref (a 37), .ref (a 38), .ref (a 50), .ref (a 62), .int (-1), .int 0, .long 0, .long 0, .int 0, .int 0, .int 0, .int 0])), (a 31, .inl ((k 31), 60, .inr (.inr (.inr (.inr (fun _ => none)))))), (o0, .inl (ko, 1, .inr (.inl (fun _ => 0))))]) hD hS hA [0, 1, 2, 3] rfl
      refine va_calli (vx_runSW (As := [.ref (a 0), .int (xs 1), .int (xs 2), .int (xs 3), .int (xs 4), .int 1, .int 0, .int (xs 7), .ref o0]) (rest := []) ⟨hx, hb, hml, hown, hts⟩ (l_settler l hlt dC dI a k o0 ko (fun _ => 0) (xs 1) (xs 2) (xs 3) (xs 4) 1 0 (xs 7) H.size rfl rfl rfl rfl) (vx_cwSW 9 hts (goodIn_app (goodIn_r _ [43, 44, 45] (by decide +kernel) (by decide +kernel)) (goodIn_ca (goodIn_r _ [1, 2, 3, 4, 5, 6, 7, 8, 9, 10, 11, 12, 13, 14, 15, 16, 17, 18, 19, 20, 21, 22, 23, 24, 25, 26, 27, 28, 29, 30, 31, 32, 33, 34, 35, 36, 37, 38, 39, 40, 41, 42] (by decide +kernel) (by decide +kernel)) (bs_in _ _))) rfl rfl rfl (by decide +kernel) ⟨(Nat.le_of_ble_eq_true rfl), (Nat.le_of_ble_eq_true rfl)⟩) ⟨fun a U g mk q => by obtain ⟨q0, q1, qP, qK, qD, qE, qN⟩ := q; exact ⟨q0, q1, qP, va_K.moved (u := U) (U := U.calling g mk a) (Vm.Alike.refl U.vm) qK, qD, EV.blind g mk a qE, NC.blind g mk a qN⟩, fun U hU hW => ⟨rfl, by rw [hU], by rw [hU]; exact hPc, va_K.moved hW.alike hKc, hDc.weaken (fun _ _ _ _ => trivial), hE.call hS hFc hU hW, hN.call hW⟩⟩ rfl rfl hl.1 rfl (lv_room (Nat.le_of_ble_eq_true rfl)) dL_law_2248 ⟨(Nat.le_of_ble_eq_true rfl), (Nat.le_of_ble_eq_true rfl)⟩) hS (fun q _ h => hFc q h) hFc (fun r87 u t H1 locs ht hvm hw88 hB hz1 hk1 hS => ?_)
      obtain ⟨fu89, rfl⟩ : ∃ z, z = u := ⟨_, rfl⟩
      obtain ⟨hP1, hD1⟩ := hB
      rw [ht] at hP1
      obtain ⟨hP, hD⟩ := va_join (wr := [(h0, .inr (15, mF q 0)), (q 31, .inl ((cm 31), 60, .inl (fun _ => 0))), (q 32, .inl ((cm 32), 60, .inl (fun _ => 0))), (q 33, .inl ((cm 33), 60, .inl (fun _ => 0))), (q 34, .inl ((cm 34), 60, .inl (fun _ => 0))), (q 35, .inl ((cm 35), 60, .inl (fun _ => 0))), (q 36, .inl ((cm 36), 60, .inl (fun _ => 0))), (q 37, .inl ((cm 37), 60, .inl (fun _ => 0))), (q 38, .inl ((cm 38), 60, .inl (fun _ => 0)))]) (w1 := [(o0, .inl (ko, 1, .inr (.inl fu89)))]) hP hD [0, 1, 2, 3] [4, 5, 6, 7, 8, 9, 10, 11, 12] rfl rfl (by decide) (by decide) hk1 hFc hP1 hD1
      generalize H1 = H at hP hS ⊢
      have hP : va_P (dC, dI) vwCl [(h0, .inr (15, mF q 0)), (q 31, .inl ((cm 31), 60, .inl (fun _ => 0))), (q 32, .inl ((cm 32), 60, .inl (fun _ => 0))), (q 33, .inl ((cm 33), 60, .inl (fun _ => 0))), (q 34, .inl ((cm 34), 60, .inl (fun _ => 0))), (q 35, .inl ((cm 35), 60, .inl (fun _ => 0))), (q 36, .inl ((cm 36), 60, .inl (fun _ => 0))), (q 37, .inl ((cm 37), 60, .inl (fun _ => 0))), (q 38, .inl ((cm 38), 60, .inl (fun _ => 0))), (o0, .inl (ko, 1, .inr (.inl fu89)))] H := hP
      have hD : va_D A [(h0, .inr (15, mF q 0)), (q 31, .inl ((cm 31), 60, .inl (fun _ => 0))), (q 32, .inl ((cm 32), 60, .inl (fun _ => 0))), (q 33, .inl ((cm 33), 60, .inl (fun _ => 0))), (q 34, .inl ((cm 34), 60, .inl (fun _ => 0))), (q 35, .inl ((cm 35), 60, .inl (fun _ => 0))), (q 36, .inl ((cm 36), 60, .inl (fun _ => 0))), (q 37, .inl ((cm 37), 60, .inl (fun _ => 0))), (q 38, .inl ((cm 38), 60, .inl (fun _ => 0))), (o0, .inl (ko, 1, .inr (.inl fu89)))] := hD
      try dsimp only at hw88
      obtain rfl : (T_settler (xs 1) (xs 2) (xs 3) (xs 4) 1 0 (xs 7)).1 = r87 := hw88.1.symm
      refine lv_istore (lv' := [(5, .int ((T_settler (xs 1) (xs 2) (xs 3) (xs 4) 1 0 (xs 7)).1)), (0, .ref b), (1, .ref (a 0)), (2, .ref h0), (3, .ref o0), (4, .int 0)]) hx hb dL_law_2251 hl (by decide) rfl (fun ls hl => ?_)
      refine lv_aload_n hx hb dL_law_2253 rfl (lv_at hl 3 rfl) ?_
      refine lv_aload_n hx hb dL_law_2254 rfl (lv_at hl 1 rfl) ?_
      refine lv_iload hx hb dL_law_2255 (lv_at hl 5 rfl) ?_
      refine lv_iconst (v := 1) hx hb dL_law_2257 (by decide) ?_
      refine lv_iadd hx hb dL_law_2258 ?_
      refine lv_topi (fun x90 ex90 => ?_)
      obtain rfl : x90 = 1 := ex90.trans (by decide)
      refine va_sld hx hb hX hbl hbA hS (i := 1) (by unfold vp_in; decide) dL_law_2259 ?_
      refine lv_topi (fun x91 ex91 => ?_)
      obtain rfl : xs 1 = x91 := (ex91).symm
      refine lv_aload_n hx hb dL_law_2260 rfl (lv_at hl 1 rfl) ?_
      refine lv_iload hx hb dL_law_2261 (lv_at hl 5 rfl) ?_
      refine lv_iconst (v := 2) hx hb dL_law_2263 (by decide) ?_
      refine lv_iadd hx hb dL_law_2264 ?_
      refine lv_topi (fun x92 ex92 => ?_)
      obtain rfl : x92 = 2 := ex92.trans (by decide)
      refine va_sld hx hb hX hbl hbA hS (i := 2) (by unfold vp_in; decide) dL_law_2265 ?_
      refine lv_topi (fun x93 ex93 => ?_)
      obtain rfl : xs 2 = x93 := (ex93).symm
      refine lv_aload_n hx hb dL_law_2266 rfl (lv_at hl 1 rfl) ?_
      refine lv_iload hx hb dL_law_2267 (lv_at hl 5 rfl) ?_
      refine lv_iconst (v := 3) hx hb dL_law_2269 (by decide) ?_
      refine lv_iadd hx hb dL_law_2270 ?_
      refine lv_topi (fun x94 ex94 => ?_)
      obtain rfl : x94 = 3 := ex94.trans (by decide)
      refine va_sld hx hb hX hbl hbA hS (i := 3) (by unfold vp_in; decide) dL_law_2271 ?_
      refine lv_topi (fun x95 ex95 => ?_)
      obtain rfl : xs 3 = x95 := (ex95).symm
      refine lv_aload_n hx hb dL_law_2272 rfl (lv_at hl 1 rfl) ?_
      refine lv_iload hx hb dL_law_2273 (lv_at hl 5 rfl) ?_
      refine lv_iconst (v := 4) hx hb dL_law_2275 (by decide) ?_
      refine lv_iadd hx hb dL_law_2276 ?_
      refine lv_topi (fun x96 ex96 => ?_)
      obtain rfl : x96 = 4 := ex96.trans (by decide)
      refine va_sld hx hb hX hbl hbA hS (i := 4) (by unfold vp_in; decide) dL_law_2277 ?_
      refine lv_topi (fun x97 ex97 => ?_)
      obtain rfl : xs 4 = x97 := (ex97).symm
      refine lv_aload_n hx hb dL_law_2278 rfl (lv_at hl 1 rfl) ?_
      refine lv_iload hx hb dL_law_2279 (lv_at hl 5 rfl) ?_
      refine lv_iconst (v := 5) hx hb dL_law_2281 (by decide) ?_
      refine lv_iadd hx hb dL_law_2282 ?_
      refine lv_topi (fun x98 ex98 => ?_)
      obtain rfl : x98 = 5 := ex98.trans (by decide)
      refine va_sld hx hb hX hbl hbA hS (i := 5) (by unfold vp_in; decide) dL_law_2283 ?_
      refine lv_topi (fun x99 ex99 => ?_)
      obtain rfl : xs 5 = x99 := (ex99).symm
      refine lv_if_eq (tgt := 2291) hx hb dL_law_2284 (by decide) (fun c100 => absurd c100 c11) (fun c100 => ?_)
      refine lv_iconst (v := 1) hx hb dL_law_2287 (by decide) ?_
      refine lv_goto (tgt := 2292) hx hb dL_law_2288 (by decide) ?_
      refine lv_aload_n hx hb dL_law_2292 rfl (lv_at hl 1 rfl) ?_
      refine lv_iload hx hb dL_law_2293 (lv_at hl 5 rfl) ?_
      refine lv_bipush (v := 6) hx hb dL_law_2295 (by decide) ?_
      refine lv_iadd hx hb dL_law_2297 ?_
      refine lv_topi (fun x101 ex101 => ?_)
      obtain rfl : x101 = 6 := ex101.trans (by decide)
      refine va_sld hx hb hX hbl hbA hS (i := 6) (by unfold vp_in; decide) dL_law_2298 ?_
      refine lv_topi (fun x102 ex102 => ?_)
      obtain rfl : xs 6 = x102 := (ex102).symm
      refine lv_if_eq (tgt := 2306) hx hb dL_law_2299 (by decide) (fun c103 => ?_) (fun c103 => absurd c83 c103)
      refine lv_iconst (v := 0) hx hb dL_law_2306 (by decide) ?_
      refine lv_aload_n hx hb dL_law_2307 rfl (lv_at hl 1 rfl) ?_
      refine lv_iload hx hb dL_law_2308 (lv_at hl 5 rfl) ?_
      refine lv_bipush (v := 7) hx hb dL_law_2310 (by decide) ?_
      refine lv_iadd hx hb dL_law_2312 ?_
      refine lv_topi (fun x104 ex104 => ?_)
      obtain rfl : x104 = 7 := ex104.trans (by decide)
      refine va_sld hx hb hX hbl hbA hS (i := 7) (by unfold vp_in; decide) dL_law_2313 ?_
      refine lv_topi (fun x105 ex105 => ?_)
      obtain rfl : xs 7 = x105 := (ex105).symm
      have hPc := hP.sub (ws' := [(h0, .inr (15, mF q 0)), (q 31, .inl ((cm 31), 60, .inl (fun _ => 0))), (q 32, .inl ((cm 32), 60, .inl (fun _ => 0))), (q 33, .inl ((cm 33), 60, .inl (fun _ => 0))), (q 34, .inl ((cm 34), 60, .inl (fun _ => 0))), (q 35, .inl ((cm 35), 60, .inl (fun _ => 0))), (q 36, .inl ((cm 36), 60, .inl (fun _ => 0))), (q 37, .inl ((cm 37), 60, .inl (fun _ => 0))), (q 38, .inl ((cm 38), 60, .inl (fun _ => 0)))]) [0, 1, 2, 3, 4, 5, 6, 7, 8] rfl
      have hDc := hD.sub (ws' := [(h0, .inr (15, mF q 0)), (q 31, .inl ((cm 31), 60, .inl (fun _ => 0))), (q 32, .inl ((cm 32), 60, .inl (fun _ => 0))), (q 33, .inl ((cm 33), 60, .inl (fun _ => 0))), (q 34, .inl ((cm 34), 60, .inl (fun _ => 0))), (q 35, .inl ((cm 35), 60, .inl (fun _ => 0))), (q 36, .inl ((cm 36), 60, .inl (fun _ => 0))), (q 37, .inl ((cm 37), 60, .inl (fun _ => 0))), (q 38, .inl ((cm 38), 60, .inl (fun _ => 0)))]) [0, 1, 2, 3, 4, 5, 6, 7, 8] (by decide) rfl
      have hKc := hK.sub (tys' := [((cm 31), .int), ((cm 32), .int), ((cm 33), .int), ((cm 34), .int), ((cm 35), .boolean), ((cm 36), .boolean), ((cm 37), .int), ((cm 38), .int)]) [2, 3, 4, 5, 6, 7, 8, 9] rfl
      have hFc := va_free (wc := [(h0, .inr (15, mF q 0)), (q 31, .inl ((cm 31), 60, .inl (fun _ => 0))), (q 32, .inl ((cm 32), 60, .inl (fun _ => 0))), (q 33, .inl ((cm 33), 60, .inl (fun _ => 0))), (q 34, .inl ((cm 34), 60, .inl (fun _ => 0))), (q 35, .inl ((cm 35), 60, .inl (fun _ => 0))), (q 36, .inl ((cm 36), 60, .inl (fun _ => 0))), (q 37, .inl ((cm 37), 60, .inl (fun _ => 0))), (q 38, .inl ((cm 38), 60, .inl (fun _ => 0)))]) hD hS hA [0, 1, 2, 3, 4, 5, 6, 7, 8] rfl
      refine va_calli (va_runV (As := [.int (xs 1), .int (xs 2), .int (xs 3), .int (xs 4), .int 1, .int 0, .int (xs 7)]) (rest := []) ⟨hx, hb, hml, hown, hts⟩ (m_settler l dC dI h0 q cm (xs 1) (xs 2) (xs 3) (xs 4) 1 0 (xs 7) H.size ) (cwV 7 hts (goodIn_app (goodIn_r _ [67, 68, 69, 51] (by decide +kernel) (by decide +kernel)) (goodIn_ca (goodIn_r _ [46, 47, 48, 49, 50, 51, 52, 53, 54, 55, 56, 57, 58, 59, 60, 61, 62, 63, 64, 65, 66] (by decide +kernel) (by decide +kernel)) (bs_in _ _))) rfl rfl rfl (by decide +kernel) ⟨(Nat.le_of_ble_eq_true rfl), (Nat.le_of_ble_eq_true rfl)⟩) ⟨fun a U g mk q => by obtain ⟨q0, q1, qP, qK, qD⟩ := q; exact ⟨q0, q1, qP, va_K.moved (u := U) (U := U.calling g mk a) (Vm.Alike.refl U.vm) qK, qD⟩, va_recv hKc hPc (ci := 15) (q0 := 0) rfl rfl, fun U hU hW => ⟨rfl, by rw [hU], by rw [hU]; exact hPc, va_K.moved hW.alike hKc, hDc.weaken (fun _ _ _ _ => trivial)⟩⟩ rfl rfl hl.1 rfl (lv_room (Nat.le_of_ble_eq_true rfl)) dL_law_2314 ⟨(Nat.le_of_ble_eq_true rfl), (Nat.le_of_ble_eq_true rfl)⟩) hS (fun q _ h => hFc q h) hFc (fun r107 u t H1 locs ht hvm hw108 hB hz1 hk1 hS => ?_)
      obtain ⟨fs109, rfl⟩ : ∃ z, z = u := ⟨_, rfl⟩
      obtain ⟨hP1, hD1⟩ := hB
      rw [ht] at hP1
      obtain ⟨hP, hD⟩ := va_join (wr := [(o0, .inl (ko, 1, .inr (.inl fu89)))]) (w1 := [(h0, .inr (15, fs109))]) hP hD [0, 1, 2, 3, 4, 5, 6, 7, 8] [9] rfl rfl (by decide) (by decide) hk1 hFc hP1 hD1
      generalize H1 = H at hP hS ⊢
      have hP : va_P (dC, dI) vwCl [(o0, .inl (ko, 1, .inr (.inl fu89))), (h0, .inr (15, fs109))] H := hP
      have hD : va_D A [(o0, .inl (ko, 1, .inr (.inl fu89))), (h0, .inr (15, fs109))] := hD
      try dsimp only at hw108
      refine lv_istore (lv' := [(6, .int r107), (5, .int ((T_settler (xs 1) (xs 2) (xs 3) (xs 4) 1 0 (xs 7)).1)), (0, .ref b), (1, .ref (a 0)), (2, .ref h0), (3, .ref o0), (4, .int 0)]) hx hb dL_law_2317 hl (by decide) rfl (fun ls hl => ?_)
      refine lv_aload_n hx hb dL_law_2319 rfl (lv_at hl 4 rfl) ?_
      have hPc := hP.sub (ws' := [(h0, .inr (15, fs109))]) [1] rfl
      have hDc := hD.sub (ws' := [(h0, .inr (15, fs109))]) [1] (by decide) rfl
      have hKc := hK.sub (tys' := []) [] rfl
      have hFc := va_free (wc := [(h0, .inr (15, fs109))]) hD hS hA [1] rfl
      refine va_calli (va_runV (As := []) (rest := []) ⟨hx, hb, hml, hown, hts⟩ (m_thrown l dC dI h0 fs109 ((T_settler (xs 1) (xs 2) (xs 3) (xs 4) 1 0 (xs 7)).1) H.size hw108.1) (cwV 0 hts (goodIn_app (goodIn_r _ [71, 72, 73, 51] (by decide +kernel) (by decide +kernel)) (goodIn_ca (goodIn_r _ [70, 47] (by decide +kernel) (by decide +kernel)) (bs_in _ _))) rfl rfl rfl (by decide +kernel) ⟨(Nat.le_of_ble_eq_true rfl), (Nat.le_of_ble_eq_true rfl)⟩) ⟨fun a U g mk q => by obtain ⟨q0, q1, qP, qK, qD⟩ := q; exact ⟨q0, q1, qP, va_K.moved (u := U) (U := U.calling g mk a) (Vm.Alike.refl U.vm) qK, qD⟩, va_recv hKc hPc (ci := 15) (q0 := 0) rfl rfl, fun U hU hW => ⟨rfl, by rw [hU], by rw [hU]; exact hPc, va_K.moved hW.alike hKc, hDc.weaken (fun _ _ _ _ => trivial)⟩⟩ rfl rfl hl.1 rfl (lv_room (Nat.le_of_ble_eq_true rfl)) dL_law_2320 ⟨(Nat.le_of_ble_eq_true rfl), (Nat.le_of_ble_eq_true rfl)⟩) hS (fun q _ h => hFc q h) hFc (fun r111 u t H1 locs ht hvm hw112 hB hz1 hk1 hS => ?_)
      have hP1 : va_P (dC, dI) vwCl [] H1 := nilP
      have hD1 : va_D (va_A [(h0, .inr (15, fs109))] H.size) [] := nilD
      have hK := hK
      obtain ⟨hP, hD⟩ := va_join (wr := [(o0, .inl (ko, 1, .inr (.inl fu89)))]) (w1 := []) hP hD [1] [0] rfl rfl (by decide) (by decide) hk1 hFc hP1 hD1
      generalize H1 = H at hP hS ⊢
      have hP : va_P (dC, dI) vwCl [(o0, .inl (ko, 1, .inr (.inl fu89)))] H := hP
      have hD : va_D A [(o0, .inl (ko, 1, .inr (.inl fu89)))] := hD
      try dsimp only at hw112
      obtain rfl : (T_settler (xs 1) (xs 2) (xs 3) (xs 4) 1 0 (xs 7)).1 = r111 := hw112.symm
      refine lv_iload hx hb dL_law_2323 (lv_at hl 1 rfl) ?_
      refine lv_icmp_eq (tgt := 2330) hx hb dL_law_2325 (by decide) (fun c113 => ?_) (fun c113 => absurd rfl c113)
      refine lv_iload hx hb dL_law_2330 (lv_at hl 1 rfl) ?_
      refine lv_if_ne (tgt := 2347) hx hb dL_law_2332 (by decide) (fun c114 => ?_) (fun c114 => ?_)
      · refine lv_goto (tgt := 3762) hx hb dL_law_2347 (by decide) ?_
        exact law_tail hx hb hr hlocks hX hbl hbA hAi hS (Nat.le_of_ble_eq_true rfl) (Nat.le_of_ble_eq_true rfl) ls (lv_sub hl [2, 6] rfl)
      · refine lv_aload_n hx hb dL_law_2335 rfl (lv_at hl 5 rfl) ?_
        refine lv_iconst (v := 0) hx hb dL_law_2336 (by decide) ?_
        refine va_lald hx hb hK hP 0 1 rfl rfl (by unfold vp_in; decide) dL_law_2337 ?_
        refine lv_iload hx hb dL_law_2338 (lv_at hl 0 rfl) ?_
        refine lv_i2l (v := r107.toInt64) hx hb dL_law_2340 rfl ?_
        refine W.lcmp hx hb dL_law_2341 ?_
        refine lv_topi (fun x115 ex115 => ?_)
        obtain rfl : x115 = 0 := ex115.trans (by rw [show fu89 (0 : Int32).toNatClampNeg = (T_settler (xs 1) (xs 2) (xs 3) (xs 4) 1 0 (xs 7)).2.toInt64 from hw88.2 c114, hw108.2 c114]; exact lg_cmp_self _)
        refine lv_if_eq (tgt := 2347) hx hb dL_law_2342 (by decide) (fun c116 => ?_) (fun c116 => absurd c116 (by decide))
        refine lv_goto (tgt := 3762) hx hb dL_law_2347 (by decide) ?_
        exact law_tail hx hb hr hlocks hX hbl hbA hAi hS (Nat.le_of_ble_eq_true rfl) (Nat.le_of_ble_eq_true rfl) ls (lv_sub hl [2, 6] rfl)
    · refine lv_iconst (v := 1) hx hb dL_law_2235 (by decide) ?_
      refine lv_goto (tgt := 2240) hx hb dL_law_2236 (by decide) ?_
      refine lv_aload_n hx hb dL_law_2240 rfl (lv_at hl 0 rfl) ?_
      refine lv_iload hx hb dL_law_2241 (lv_at hl 4 rfl) ?_
      refine lv_bipush (v := 7) hx hb dL_law_2243 (by decide) ?_
      refine lv_iadd hx hb dL_law_2245 ?_
      refine lv_topi (fun x117 ex117 => ?_)
      obtain rfl : x117 = 7 := ex117.trans (by decide)
      refine va_sld hx hb hX hbl hbA hS (i := 7) (by unfold vp_in; decide) dL_law_2246 ?_
      refine lv_topi (fun x118 ex118 => ?_)
      obtain rfl : xs 7 = x118 := (ex118).symm
      refine lv_aload_n hx hb dL_law_2247 rfl (lv_at hl 3 rfl) ?_
      have hPc := hP.sub (ws' := [(a 0, .inr (14, [.ref (a 1), .ref (a 2), .ref (a 27), .ref (a 30), .ref (a 74), .ref (a 75), .null, .int 0, .int 0])), (a 30, .inr (3, [.ref (a 31), .ref (a 32), .ref (a 33), .ref (a 34), .ref (a 35), .ref (a 36), .ref (a 37), .ref (a 38), .ref (a 50), .ref (a 62), .int (-1), .int 0, .long 0, .long 0, .int 0, .int 0, .int 0, .int 0])), (a 31, .inl ((k 31), 60, .inr (.inr (.inr (.inr (fun _ => none)))))), (o0, .inl (ko, 1, .inr (.inl (fun _ => 0))))]) [0, 1, 2, 3] rfl
      have hDc := hD.sub (ws' := [(a 0, .inr (14, [.ref (a 1), .ref (a 2), .ref (a 27), .ref (a 30), .ref (a 74), .ref (a 75), .null, .int 0, .int 0])), (a 30, .inr (3, [.ref (a 31), .ref (a 32), .ref (a 33), .ref (a 34), .ref (a 35), .ref (a 36), .ref (a 37), .ref (a 38), .ref (a 50), .ref (a 62), .int (-1), .int 0, .long 0, .long 0, .int 0, .int 0, .int 0, .int 0])), (a 31, .inl ((k 31), 60, .inr (.inr (.inr (.inr (fun _ => none)))))), (o0, .inl (ko, 1, .inr (.inl (fun _ => 0))))]) [0, 1, 2, 3] (by decide) rfl
      have hKc := hK.sub (tys' := [((k 31), (.object "SeaLand$Settler")), (ko, .long)]) [0, 1] rfl
      have hFc := va_free (wc := [(a 0, .inr (14, [.ref (a 1), .ref (a 2), .ref (a 27), .ref (a 30), .ref (a 74), .ref (a 75), .null, .int 0, .int 0])), (a 30, .inr (3, [.ref (a 31), .ref (a 32), .ref (a 33), .ref (a 34), .ref (a 35), .ref (a 36), .ref (a 37), .ref (a 38), .ref (a 50), .ref (a 62), .int (-1), .int 0, .long 0, .long 0, .int 0, .int 0, .int 0, .int 0])), (a 31, .inl ((k 31), 60, .inr (.inr (.inr (.inr (fun _ => none)))))), (o0, .inl (ko, 1, .inr (.inl (fun _ => 0))))]) hD hS hA [0, 1, 2, 3] rfl
      refine va_calli (vx_runSW (As := [.ref (a 0), .int (xs 1), .int (xs 2), .int (xs 3), .int (xs 4), .int 1, .int 1, .int (xs 7), .ref o0]) (rest := []) ⟨hx, hb, hml, hown, hts⟩ (l_settler l hlt dC dI a k o0 ko (fun _ => 0) (xs 1) (xs 2) (xs 3) (xs 4) 1 1 (xs 7) H.size rfl rfl rfl rfl) (vx_cwSW 9 hts (goodIn_app (goodIn_r _ [43, 44, 45] (by decide +kernel) (by decide +kernel)) (goodIn_ca (goodIn_r _ [1, 2, 3, 4, 5, 6, 7, 8, 9, 10, 11, 12, 13, 14, 15, 16, 17, 18, 19, 20, 21, 22, 23, 24, 25, 26, 27, 28, 29, 30, 31, 32, 33, 34, 35, 36, 37, 38, 39, 40, 41, 42] (by decide +kernel) (by decide +kernel)) (bs_in _ _))) rfl rfl rfl (by decide +kernel) ⟨(Nat.le_of_ble_eq_true rfl), (Nat.le_of_ble_eq_true rfl)⟩) ⟨fun a U g mk q => by obtain ⟨q0, q1, qP, qK, qD, qE, qN⟩ := q; exact ⟨q0, q1, qP, va_K.moved (u := U) (U := U.calling g mk a) (Vm.Alike.refl U.vm) qK, qD, EV.blind g mk a qE, NC.blind g mk a qN⟩, fun U hU hW => ⟨rfl, by rw [hU], by rw [hU]; exact hPc, va_K.moved hW.alike hKc, hDc.weaken (fun _ _ _ _ => trivial), hE.call hS hFc hU hW, hN.call hW⟩⟩ rfl rfl hl.1 rfl (lv_room (Nat.le_of_ble_eq_true rfl)) dL_law_2248 ⟨(Nat.le_of_ble_eq_true rfl), (Nat.le_of_ble_eq_true rfl)⟩) hS (fun q _ h => hFc q h) hFc (fun r120 u t H1 locs ht hvm hw121 hB hz1 hk1 hS => ?_)
      obtain ⟨fu122, rfl⟩ : ∃ z, z = u := ⟨_, rfl⟩
      obtain ⟨hP1, hD1⟩ := hB
      rw [ht] at hP1
      obtain ⟨hP, hD⟩ := va_join (wr := [(h0, .inr (15, mF q 0)), (q 31, .inl ((cm 31), 60, .inl (fun _ => 0))), (q 32, .inl ((cm 32), 60, .inl (fun _ => 0))), (q 33, .inl ((cm 33), 60, .inl (fun _ => 0))), (q 34, .inl ((cm 34), 60, .inl (fun _ => 0))), (q 35, .inl ((cm 35), 60, .inl (fun _ => 0))), (q 36, .inl ((cm 36), 60, .inl (fun _ => 0))), (q 37, .inl ((cm 37), 60, .inl (fun _ => 0))), (q 38, .inl ((cm 38), 60, .inl (fun _ => 0)))]) (w1 := [(o0, .inl (ko, 1, .inr (.inl fu122)))]) hP hD [0, 1, 2, 3] [4, 5, 6, 7, 8, 9, 10, 11, 12] rfl rfl (by decide) (by decide) hk1 hFc hP1 hD1
      generalize H1 = H at hP hS ⊢
      have hP : va_P (dC, dI) vwCl [(h0, .inr (15, mF q 0)), (q 31, .inl ((cm 31), 60, .inl (fun _ => 0))), (q 32, .inl ((cm 32), 60, .inl (fun _ => 0))), (q 33, .inl ((cm 33), 60, .inl (fun _ => 0))), (q 34, .inl ((cm 34), 60, .inl (fun _ => 0))), (q 35, .inl ((cm 35), 60, .inl (fun _ => 0))), (q 36, .inl ((cm 36), 60, .inl (fun _ => 0))), (q 37, .inl ((cm 37), 60, .inl (fun _ => 0))), (q 38, .inl ((cm 38), 60, .inl (fun _ => 0))), (o0, .inl (ko, 1, .inr (.inl fu122)))] H := hP
      have hD : va_D A [(h0, .inr (15, mF q 0)), (q 31, .inl ((cm 31), 60, .inl (fun _ => 0))), (q 32, .inl ((cm 32), 60, .inl (fun _ => 0))), (q 33, .inl ((cm 33), 60, .inl (fun _ => 0))), (q 34, .inl ((cm 34), 60, .inl (fun _ => 0))), (q 35, .inl ((cm 35), 60, .inl (fun _ => 0))), (q 36, .inl ((cm 36), 60, .inl (fun _ => 0))), (q 37, .inl ((cm 37), 60, .inl (fun _ => 0))), (q 38, .inl ((cm 38), 60, .inl (fun _ => 0))), (o0, .inl (ko, 1, .inr (.inl fu122)))] := hD
      try dsimp only at hw121
      obtain rfl : (T_settler (xs 1) (xs 2) (xs 3) (xs 4) 1 1 (xs 7)).1 = r120 := hw121.1.symm
      refine lv_istore (lv' := [(5, .int ((T_settler (xs 1) (xs 2) (xs 3) (xs 4) 1 1 (xs 7)).1)), (0, .ref b), (1, .ref (a 0)), (2, .ref h0), (3, .ref o0), (4, .int 0)]) hx hb dL_law_2251 hl (by decide) rfl (fun ls hl => ?_)
      refine lv_aload_n hx hb dL_law_2253 rfl (lv_at hl 3 rfl) ?_
      refine lv_aload_n hx hb dL_law_2254 rfl (lv_at hl 1 rfl) ?_
      refine lv_iload hx hb dL_law_2255 (lv_at hl 5 rfl) ?_
      refine lv_iconst (v := 1) hx hb dL_law_2257 (by decide) ?_
      refine lv_iadd hx hb dL_law_2258 ?_
      refine lv_topi (fun x123 ex123 => ?_)
      obtain rfl : x123 = 1 := ex123.trans (by decide)
      refine va_sld hx hb hX hbl hbA hS (i := 1) (by unfold vp_in; decide) dL_law_2259 ?_
      refine lv_topi (fun x124 ex124 => ?_)
      obtain rfl : xs 1 = x124 := (ex124).symm
      refine lv_aload_n hx hb dL_law_2260 rfl (lv_at hl 1 rfl) ?_
      refine lv_iload hx hb dL_law_2261 (lv_at hl 5 rfl) ?_
      refine lv_iconst (v := 2) hx hb dL_law_2263 (by decide) ?_
      refine lv_iadd hx hb dL_law_2264 ?_
      refine lv_topi (fun x125 ex125 => ?_)
      obtain rfl : x125 = 2 := ex125.trans (by decide)
      refine va_sld hx hb hX hbl hbA hS (i := 2) (by unfold vp_in; decide) dL_law_2265 ?_
      refine lv_topi (fun x126 ex126 => ?_)
      obtain rfl : xs 2 = x126 := (ex126).symm
      refine lv_aload_n hx hb dL_law_2266 rfl (lv_at hl 1 rfl) ?_
      refine lv_iload hx hb dL_law_2267 (lv_at hl 5 rfl) ?_
      refine lv_iconst (v := 3) hx hb dL_law_2269 (by decide) ?_
      refine lv_iadd hx hb dL_law_2270 ?_
      refine lv_topi (fun x127 ex127 => ?_)
      obtain rfl : x127 = 3 := ex127.trans (by decide)
      refine va_sld hx hb hX hbl hbA hS (i := 3) (by unfold vp_in; decide) dL_law_2271 ?_
      refine lv_topi (fun x128 ex128 => ?_)
      obtain rfl : xs 3 = x128 := (ex128).symm
      refine lv_aload_n hx hb dL_law_2272 rfl (lv_at hl 1 rfl) ?_
      refine lv_iload hx hb dL_law_2273 (lv_at hl 5 rfl) ?_
      refine lv_iconst (v := 4) hx hb dL_law_2275 (by decide) ?_
      refine lv_iadd hx hb dL_law_2276 ?_
      refine lv_topi (fun x129 ex129 => ?_)
      obtain rfl : x129 = 4 := ex129.trans (by decide)
      refine va_sld hx hb hX hbl hbA hS (i := 4) (by unfold vp_in; decide) dL_law_2277 ?_
      refine lv_topi (fun x130 ex130 => ?_)
      obtain rfl : xs 4 = x130 := (ex130).symm
      refine lv_aload_n hx hb dL_law_2278 rfl (lv_at hl 1 rfl) ?_
      refine lv_iload hx hb dL_law_2279 (lv_at hl 5 rfl) ?_
      refine lv_iconst (v := 5) hx hb dL_law_2281 (by decide) ?_
      refine lv_iadd hx hb dL_law_2282 ?_
      refine lv_topi (fun x131 ex131 => ?_)
      obtain rfl : x131 = 5 := ex131.trans (by decide)
      refine va_sld hx hb hX hbl hbA hS (i := 5) (by unfold vp_in; decide) dL_law_2283 ?_
      refine lv_topi (fun x132 ex132 => ?_)
      obtain rfl : xs 5 = x132 := (ex132).symm
      refine lv_if_eq (tgt := 2291) hx hb dL_law_2284 (by decide) (fun c133 => absurd c133 c11) (fun c133 => ?_)
      refine lv_iconst (v := 1) hx hb dL_law_2287 (by decide) ?_
      refine lv_goto (tgt := 2292) hx hb dL_law_2288 (by decide) ?_
      refine lv_aload_n hx hb dL_law_2292 rfl (lv_at hl 1 rfl) ?_
      refine lv_iload hx hb dL_law_2293 (lv_at hl 5 rfl) ?_
      refine lv_bipush (v := 6) hx hb dL_law_2295 (by decide) ?_
      refine lv_iadd hx hb dL_law_2297 ?_
      refine lv_topi (fun x134 ex134 => ?_)
      obtain rfl : x134 = 6 := ex134.trans (by decide)
      refine va_sld hx hb hX hbl hbA hS (i := 6) (by unfold vp_in; decide) dL_law_2298 ?_
      refine lv_topi (fun x135 ex135 => ?_)
      obtain rfl : xs 6 = x135 := (ex135).symm
      refine lv_if_eq (tgt := 2306) hx hb dL_law_2299 (by decide) (fun c136 => absurd c136 c83) (fun c136 => ?_)
      refine lv_iconst (v := 1) hx hb dL_law_2302 (by decide) ?_
      refine lv_goto (tgt := 2307) hx hb dL_law_2303 (by decide) ?_
      refine lv_aload_n hx hb dL_law_2307 rfl (lv_at hl 1 rfl) ?_
      refine lv_iload hx hb dL_law_2308 (lv_at hl 5 rfl) ?_
      refine lv_bipush (v := 7) hx hb dL_law_2310 (by decide) ?_
      refine lv_iadd hx hb dL_law_2312 ?_
      refine lv_topi (fun x137 ex137 => ?_)
      obtain rfl : x137 = 7 := ex137.trans (by decide)
      refine va_sld hx hb hX hbl hbA hS (i := 7) (by unfold vp_in; decide) dL_law_2313 ?_
      refine lv_topi (fun x138 ex138 => ?_)
      obtain rfl : xs 7 = x138 := (ex138).symm
      have hPc := hP.sub (ws' := [(h0, .inr (15, mF q 0)), (q 31, .inl ((cm 31), 60, .inl (fun _ => 0))), (q 32, .inl ((cm 32), 60, .inl (fun _ => 0))), (q 33, .inl ((cm 33), 60, .inl (fun _ => 0))), (q 34, .inl ((cm 34), 60, .inl (fun _ => 0))), (q 35, .inl ((cm 35), 60, .inl (fun _ => 0))), (q 36, .inl ((cm 36), 60, .inl (fun _ => 0))), (q 37, .inl ((cm 37), 60, .inl (fun _ => 0))), (q 38, .inl ((cm 38), 60, .inl (fun _ => 0)))]) [0, 1, 2, 3, 4, 5, 6, 7, 8] rfl
      have hDc := hD.sub (ws' := [(h0, .inr (15, mF q 0)), (q 31, .inl ((cm 31), 60, .inl (fun _ => 0))), (q 32, .inl ((cm 32), 60, .inl (fun _ => 0))), (q 33, .inl ((cm 33), 60, .inl (fun _ => 0))), (q 34, .inl ((cm 34), 60, .inl (fun _ => 0))), (q 35, .inl ((cm 35), 60, .inl (fun _ => 0))), (q 36, .inl ((cm 36), 60, .inl (fun _ => 0))), (q 37, .inl ((cm 37), 60, .inl (fun _ => 0))), (q 38, .inl ((cm 38), 60, .inl (fun _ => 0)))]) [0, 1, 2, 3, 4, 5, 6, 7, 8] (by decide) rfl
      have hKc := hK.sub (tys' := [((cm 31), .int), ((cm 32), .int), ((cm 33), .int), ((cm 34), .int), ((cm 35), .boolean), ((cm 36), .boolean), ((cm 37), .int), ((cm 38), .int)]) [2, 3, 4, 5, 6, 7, 8, 9] rfl
      have hFc := va_free (wc := [(h0, .inr (15, mF q 0)), (q 31, .inl ((cm 31), 60, .inl (fun _ => 0))), (q 32, .inl ((cm 32), 60, .inl (fun _ => 0))), (q 33, .inl ((cm 33), 60, .inl (fun _ => 0))), (q 34, .inl ((cm 34), 60, .inl (fun _ => 0))), (q 35, .inl ((cm 35), 60, .inl (fun _ => 0))), (q 36, .inl ((cm 36), 60, .inl (fun _ => 0))), (q 37, .inl ((cm 37), 60, .inl (fun _ => 0))), (q 38, .inl ((cm 38), 60, .inl (fun _ => 0)))]) hD hS hA [0, 1, 2, 3, 4, 5, 6, 7, 8] rfl
      refine va_calli (va_runV (As := [.int (xs 1), .int (xs 2), .int (xs 3), .int (xs 4), .int 1, .int 1, .int (xs 7)]) (rest := []) ⟨hx, hb, hml, hown, hts⟩ (m_settler l dC dI h0 q cm (xs 1) (xs 2) (xs 3) (xs 4) 1 1 (xs 7) H.size ) (cwV 7 hts (goodIn_app (goodIn_r _ [67, 68, 69, 51] (by decide +kernel) (by decide +kernel)) (goodIn_ca (goodIn_r _ [46, 47, 48, 49, 50, 51, 52, 53, 54, 55, 56, 57, 58, 59, 60, 61, 62, 63, 64, 65, 66] (by decide +kernel) (by decide +kernel)) (bs_in _ _))) rfl rfl rfl (by decide +kernel) ⟨(Nat.le_of_ble_eq_true rfl), (Nat.le_of_ble_eq_true rfl)⟩) ⟨fun a U g mk q => by obtain ⟨q0, q1, qP, qK, qD⟩ := q; exact ⟨q0, q1, qP, va_K.moved (u := U) (U := U.calling g mk a) (Vm.Alike.refl U.vm) qK, qD⟩, va_recv hKc hPc (ci := 15) (q0 := 0) rfl rfl, fun U hU hW => ⟨rfl, by rw [hU], by rw [hU]; exact hPc, va_K.moved hW.alike hKc, hDc.weaken (fun _ _ _ _ => trivial)⟩⟩ rfl rfl hl.1 rfl (lv_room (Nat.le_of_ble_eq_true rfl)) dL_law_2314 ⟨(Nat.le_of_ble_eq_true rfl), (Nat.le_of_ble_eq_true rfl)⟩) hS (fun q _ h => hFc q h) hFc (fun r140 u t H1 locs ht hvm hw141 hB hz1 hk1 hS => ?_)
      obtain ⟨fs142, rfl⟩ : ∃ z, z = u := ⟨_, rfl⟩
      obtain ⟨hP1, hD1⟩ := hB
      rw [ht] at hP1
      obtain ⟨hP, hD⟩ := va_join (wr := [(o0, .inl (ko, 1, .inr (.inl fu122)))]) (w1 := [(h0, .inr (15, fs142))]) hP hD [0, 1, 2, 3, 4, 5, 6, 7, 8] [9] rfl rfl (by decide) (by decide) hk1 hFc hP1 hD1
      generalize H1 = H at hP hS ⊢
      have hP : va_P (dC, dI) vwCl [(o0, .inl (ko, 1, .inr (.inl fu122))), (h0, .inr (15, fs142))] H := hP
      have hD : va_D A [(o0, .inl (ko, 1, .inr (.inl fu122))), (h0, .inr (15, fs142))] := hD
      try dsimp only at hw141
      refine lv_istore (lv' := [(6, .int r140), (5, .int ((T_settler (xs 1) (xs 2) (xs 3) (xs 4) 1 1 (xs 7)).1)), (0, .ref b), (1, .ref (a 0)), (2, .ref h0), (3, .ref o0), (4, .int 0)]) hx hb dL_law_2317 hl (by decide) rfl (fun ls hl => ?_)
      refine lv_aload_n hx hb dL_law_2319 rfl (lv_at hl 4 rfl) ?_
      have hPc := hP.sub (ws' := [(h0, .inr (15, fs142))]) [1] rfl
      have hDc := hD.sub (ws' := [(h0, .inr (15, fs142))]) [1] (by decide) rfl
      have hKc := hK.sub (tys' := []) [] rfl
      have hFc := va_free (wc := [(h0, .inr (15, fs142))]) hD hS hA [1] rfl
      refine va_calli (va_runV (As := []) (rest := []) ⟨hx, hb, hml, hown, hts⟩ (m_thrown l dC dI h0 fs142 ((T_settler (xs 1) (xs 2) (xs 3) (xs 4) 1 1 (xs 7)).1) H.size hw141.1) (cwV 0 hts (goodIn_app (goodIn_r _ [71, 72, 73, 51] (by decide +kernel) (by decide +kernel)) (goodIn_ca (goodIn_r _ [70, 47] (by decide +kernel) (by decide +kernel)) (bs_in _ _))) rfl rfl rfl (by decide +kernel) ⟨(Nat.le_of_ble_eq_true rfl), (Nat.le_of_ble_eq_true rfl)⟩) ⟨fun a U g mk q => by obtain ⟨q0, q1, qP, qK, qD⟩ := q; exact ⟨q0, q1, qP, va_K.moved (u := U) (U := U.calling g mk a) (Vm.Alike.refl U.vm) qK, qD⟩, va_recv hKc hPc (ci := 15) (q0 := 0) rfl rfl, fun U hU hW => ⟨rfl, by rw [hU], by rw [hU]; exact hPc, va_K.moved hW.alike hKc, hDc.weaken (fun _ _ _ _ => trivial)⟩⟩ rfl rfl hl.1 rfl (lv_room (Nat.le_of_ble_eq_true rfl)) dL_law_2320 ⟨(Nat.le_of_ble_eq_true rfl), (Nat.le_of_ble_eq_true rfl)⟩) hS (fun q _ h => hFc q h) hFc (fun r144 u t H1 locs ht hvm hw145 hB hz1 hk1 hS => ?_)
      have hP1 : va_P (dC, dI) vwCl [] H1 := nilP
      have hD1 : va_D (va_A [(h0, .inr (15, fs142))] H.size) [] := nilD
      have hK := hK
      obtain ⟨hP, hD⟩ := va_join (wr := [(o0, .inl (ko, 1, .inr (.inl fu122)))]) (w1 := []) hP hD [1] [0] rfl rfl (by decide) (by decide) hk1 hFc hP1 hD1
      generalize H1 = H at hP hS ⊢
      have hP : va_P (dC, dI) vwCl [(o0, .inl (ko, 1, .inr (.inl fu122)))] H := hP
      have hD : va_D A [(o0, .inl (ko, 1, .inr (.inl fu122)))] := hD
      try dsimp only at hw145
      obtain rfl : (T_settler (xs 1) (xs 2) (xs 3) (xs 4) 1 1 (xs 7)).1 = r144 := hw145.symm
      refine lv_iload hx hb dL_law_2323 (lv_at hl 1 rfl) ?_
      refine lv_icmp_eq (tgt := 2330) hx hb dL_law_2325 (by decide) (fun c146 => ?_) (fun c146 => absurd rfl c146)
      refine lv_iload hx hb dL_law_2330 (lv_at hl 1 rfl) ?_
      refine lv_if_ne (tgt := 2347) hx hb dL_law_2332 (by decide) (fun c147 => ?_) (fun c147 => ?_)
      · refine lv_goto (tgt := 3762) hx hb dL_law_2347 (by decide) ?_
        exact law_tail hx hb hr hlocks hX hbl hbA hAi hS (Nat.le_of_ble_eq_true rfl) (Nat.le_of_ble_eq_true rfl) ls (lv_sub hl [2, 6] rfl)
      · refine lv_aload_n hx hb dL_law_2335 rfl (lv_at hl 5 rfl) ?_
        refine lv_iconst (v := 0) hx hb dL_law_2336 (by decide) ?_
        refine va_lald hx hb hK hP 0 1 rfl rfl (by unfold vp_in; decide) dL_law_2337 ?_
        refine lv_iload hx hb dL_law_2338 (lv_at hl 0 rfl) ?_
        refine lv_i2l (v := r140.toInt64) hx hb dL_law_2340 rfl ?_
        refine W.lcmp hx hb dL_law_2341 ?_
        refine lv_topi (fun x148 ex148 => ?_)
        obtain rfl : x148 = 0 := ex148.trans (by rw [show fu122 (0 : Int32).toNatClampNeg = (T_settler (xs 1) (xs 2) (xs 3) (xs 4) 1 1 (xs 7)).2.toInt64 from hw121.2 c147, hw141.2 c147]; exact lg_cmp_self _)
        refine lv_if_eq (tgt := 2347) hx hb dL_law_2342 (by decide) (fun c149 => ?_) (fun c149 => absurd c149 (by decide))
        refine lv_goto (tgt := 3762) hx hb dL_law_2347 (by decide) ?_
        exact law_tail hx hb hr hlocks hX hbl hbA hAi hS (Nat.le_of_ble_eq_true rfl) (Nat.le_of_ble_eq_true rfl) ls (lv_sub hl [2, 6] rfl)
