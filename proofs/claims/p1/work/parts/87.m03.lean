def w_law_21 : List Cond := .initialized RL :: ([.code yX11_fault cX11_fault 1 (some .int), .fieldLink RX11 30 "SeaLand" "board" "LSeaLand$Board;", .methodLink RL 253 yX11_fault, .instanceMethod yX11_fault, .selects RX11 yX11_fault yX11_fault, .initialized RX11, .code yX12_fault cX12_fault 1 (some .int), .fieldLink RX12 194 "SeaLandModel" "thrown" "I", .fieldLink RX12 35 "SeaLandModel" "faultAt" "I", .methodLink RL 256 yX12_fault, .instanceMethod yX12_fault, .selects RX12 yX12_fault yX12_fault, .initialized RX12] ++ bs)
set_option maxRecDepth 100000 in
theorem wm_21 : ∀ w ∈ w_law_21, w ∈ lw_tbl := lw_ins wl_110 (lw_cons wl_631 (lw_cons wl_591 (lw_cons wl_628 (lw_cons wl_629 (lw_cons wl_630 (lw_cons wl_111 (lw_cons wl_2564 (lw_cons wl_1969 (lw_cons wl_1985 (lw_cons wl_2561 (lw_cons wl_2562 (lw_cons wl_2563 (lw_cons wl_122 lw_nil)))))))))))))
set_option maxHeartbeats 4000000 in
set_option maxRecDepth 100000 in
/-- fault -/
theorem law_21 {p : Program} {e : Env} {s : State} {m : MethodId} {below : List Frame} {meth : Method} {c : Code} (l : Launch) (hlt : l.stackTraces = false) {b : Nat} {xs : Nat → Int32} {A : Nat → Prop} (hx : p.tables.exec = Jvm.exec) (hb : c.code = code) (hr : meth.sig.returnType = ret) (hml : c.maxLocals = 7) (hown : s.vm.findClass RL = some m.cls) (hts : ∀ w ∈ w_law_21, w.before #[Value.ref b] s = true) (hX : va_X b 8 xs s s.heap) (hbl : b < s.heap.size) (hbA : ¬ A b) (hlocks : meth.locks = false) (hE : EV A s s.heap) (hN : NC s) (hA : ∀ q : Nat, s.heap.size ≤ q → A q) (hAi : ∀ q : Nat, A q → s.heap.size ≤ q) {dC : Nat → ClassId} {dI : Nat → Nat → Nat} (a : Nat → Nat) (k : Nat → ClassId) (h0 : Nat) (q : Nat → Nat) (cm : Nat → ClassId) (o0 : Nat) (ko : ClassId) (H : Heap) (locs : List Loc) (hK : va_K (dC, dI) vwCl [(ko, .long)] s) (hP : va_P (dC, dI) vwCl [(a 0, .inr (14, [.ref (a 1), .ref (a 2), .ref (a 27), .ref (a 30), .ref (a 74), .ref (a 75), .null, .int 0, .int 0])), (a 30, .inr (3, [.ref (a 31), .ref (a 32), .ref (a 33), .ref (a 34), .ref (a 35), .ref (a 36), .ref (a 37), .ref (a 38), .ref (a 50), .ref (a 62), .int (-1), .int 0, .long 0, .long 0, .int 0, .int 0, .int 0, .int 0])), (o0, .inl (ko, 1, .inr (.inl (fun _ => 0)))), (h0, .inr (15, mF q 0))] H) (hD : va_D A [(a 0, .inr (14, [.ref (a 1), .ref (a 2), .ref (a 27), .ref (a 30), .ref (a 74), .ref (a 75), .null, .int 0, .int 0])), (a 30, .inr (3, [.ref (a 31), .ref (a 32), .ref (a 33), .ref (a 34), .ref (a 35), .ref (a 36), .ref (a 37), .ref (a 38), .ref (a 50), .ref (a 62), .int (-1), .int 0, .long 0, .long 0, .int 0, .int 0, .int 0, .int 0])), (o0, .inl (ko, 1, .inr (.inl (fun _ => 0)))), (h0, .inr (15, mF q 0))]) (hS : va_S A s.heap H locs) (ls : Array Slot) (hl : lv_has ls 7 [(0, .ref b), (1, .ref (a 0)), (2, .ref h0), (3, .ref o0), (4, .int 0)]) : W p l e room_1 s m #[Value.ref b] below meth c H locs 238 27427 (lw_Z below #[Value.ref b] s) (F0 m 1783 ls []) := by
  refine lv_aload_n hx hb dL_law_1783 rfl (lv_at hl 1 rfl) ?_
  have hPc := hP.sub (ws' := [(a 0, .inr (14, [.ref (a 1), .ref (a 2), .ref (a 27), .ref (a 30), .ref (a 74), .ref (a 75), .null, .int 0, .int 0])), (a 30, .inr (3, [.ref (a 31), .ref (a 32), .ref (a 33), .ref (a 34), .ref (a 35), .ref (a 36), .ref (a 37), .ref (a 38), .ref (a 50), .ref (a 62), .int (-1), .int 0, .long 0, .long 0, .int 0, .int 0, .int 0, .int 0]))]) [0, 1] rfl
  have hDc := hD.sub (ws' := [(a 0, .inr (14, [.ref (a 1), .ref (a 2), .ref (a 27), .ref (a 30), .ref (a 74), .ref (a 75), .null, .int 0, .int 0])), (a 30, .inr (3, [.ref (a 31), .ref (a 32), .ref (a 33), .ref (a 34), .ref (a 35), .ref (a 36), .ref (a 37), .ref (a 38), .ref (a 50), .ref (a 62), .int (-1), .int 0, .long 0, .long 0, .int 0, .int 0, .int 0, .int 0]))]) [0, 1] (by decide) rfl
  have hKc := hK.sub (tys' := []) [] rfl
  have hFc := va_free (wc := [(a 0, .inr (14, [.ref (a 1), .ref (a 2), .ref (a 27), .ref (a 30), .ref (a 74), .ref (a 75), .null, .int 0, .int 0])), (a 30, .inr (3, [.ref (a 31), .ref (a 32), .ref (a 33), .ref (a 34), .ref (a 35), .ref (a 36), .ref (a 37), .ref (a 38), .ref (a 50), .ref (a 62), .int (-1), .int 0, .long 0, .long 0, .int 0, .int 0, .int 0, .int 0]))]) hD hS hA [0, 1] rfl
  refine va_calli (va_runV (As := []) (rest := []) ⟨hx, hb, hml, hown, hts⟩ (x_fault l dC dI a k H.size ) (cwV 0 hts (goodIn_app (goodIn_r _ [3, 4, 5, 6] (by decide +kernel) (by decide +kernel)) (goodIn_ca (goodIn_r _ [1, 2] (by decide +kernel) (by decide +kernel)) (bs_in _ _))) rfl rfl rfl (by decide +kernel) ⟨(Nat.le_of_ble_eq_true rfl), (Nat.le_of_ble_eq_true rfl)⟩) ⟨fun a U g mk q => by obtain ⟨q0, q1, qP, qK, qD, qE⟩ := q; exact ⟨q0, q1, qP, va_K.moved (u := U) (U := U.calling g mk a) (Vm.Alike.refl U.vm) qK, qD, EV.blind g mk a qE⟩, va_recv hKc hPc (ci := 14) (q0 := 0) rfl rfl, fun U hU hW => ⟨rfl, by rw [hU], by rw [hU]; exact hPc, va_K.moved hW.alike hKc, hDc.weaken (fun _ _ _ _ => trivial), hE.call hS hFc hU hW⟩⟩ rfl rfl hl.1 rfl (lv_room (Nat.le_of_ble_eq_true rfl)) dL_law_1784 ⟨(Nat.le_of_ble_eq_true rfl), (Nat.le_of_ble_eq_true rfl)⟩) hS (fun q _ h => hFc q h) hFc (fun r2 u t H1 locs ht hvm hw3 hB hz1 hk1 hS => ?_)
  have hP1 : va_P (dC, dI) vwCl [] H1 := nilP
  have hD1 : va_D (va_A [(a 0, .inr (14, [.ref (a 1), .ref (a 2), .ref (a 27), .ref (a 30), .ref (a 74), .ref (a 75), .null, .int 0, .int 0])), (a 30, .inr (3, [.ref (a 31), .ref (a 32), .ref (a 33), .ref (a 34), .ref (a 35), .ref (a 36), .ref (a 37), .ref (a 38), .ref (a 50), .ref (a 62), .int (-1), .int 0, .long 0, .long 0, .int 0, .int 0, .int 0, .int 0]))] H.size) [] := nilD
  have hK := hK
  obtain ⟨hP, hD⟩ := va_join (wr := [(o0, .inl (ko, 1, .inr (.inl (fun _ => 0)))), (h0, .inr (15, mF q 0))]) (w1 := []) hP hD [0, 1] [2, 3] rfl rfl (by decide) (by decide) hk1 hFc hP1 hD1
  generalize H1 = H at hP hS ⊢
  have hP : va_P (dC, dI) vwCl [(o0, .inl (ko, 1, .inr (.inl (fun _ => 0)))), (h0, .inr (15, mF q 0))] H := hP
  have hD : va_D A [(o0, .inl (ko, 1, .inr (.inl (fun _ => 0)))), (h0, .inr (15, mF q 0))] := hD
  try dsimp only at hw3
  refine lv_aload_n hx hb dL_law_1787 rfl (lv_at hl 2 rfl) ?_
  have hPc := hP.sub (ws' := [(h0, .inr (15, mF q 0))]) [1] rfl
  have hDc := hD.sub (ws' := [(h0, .inr (15, mF q 0))]) [1] (by decide) rfl
  have hKc := hK.sub (tys' := []) [] rfl
  have hFc := va_free (wc := [(h0, .inr (15, mF q 0))]) hD hS hA [1] rfl
  refine va_calli (va_runV (As := []) (rest := [.int r2]) ⟨hx, hb, hml, hown, hts⟩ (m_fault l dC dI h0 q cm H.size ) (cwV 0 hts (goodIn_app (goodIn_r _ [10, 11, 12, 13] (by decide +kernel) (by decide +kernel)) (goodIn_ca (goodIn_r _ [7, 8, 9] (by decide +kernel) (by decide +kernel)) (bs_in _ _))) rfl rfl rfl (by decide +kernel) ⟨(Nat.le_of_ble_eq_true rfl), (Nat.le_of_ble_eq_true rfl)⟩) ⟨fun a U g mk q => by obtain ⟨q0, q1, qP, qK, qD⟩ := q; exact ⟨q0, q1, qP, va_K.moved (u := U) (U := U.calling g mk a) (Vm.Alike.refl U.vm) qK, qD⟩, va_recv hKc hPc (ci := 15) (q0 := 0) rfl rfl, fun U hU hW => ⟨rfl, by rw [hU], by rw [hU]; exact hPc, va_K.moved hW.alike hKc, hDc.weaken (fun _ _ _ _ => trivial)⟩⟩ rfl rfl hl.1 rfl (lv_room (Nat.le_of_ble_eq_true rfl)) dL_law_1788 ⟨(Nat.le_of_ble_eq_true rfl), (Nat.le_of_ble_eq_true rfl)⟩) hS (fun q _ h => hFc q h) hFc (fun r5 u t H1 locs ht hvm hw6 hB hz1 hk1 hS => ?_)
  obtain ⟨fs7, rfl⟩ : ∃ z, z = u := ⟨_, rfl⟩
  obtain ⟨hP1, hD1⟩ := hB
  rw [ht] at hP1
  obtain ⟨hP, hD⟩ := va_join (wr := [(o0, .inl (ko, 1, .inr (.inl (fun _ => 0))))]) (w1 := [(h0, .inr (15, fs7))]) hP hD [1] [0] rfl rfl (by decide) (by decide) hk1 hFc hP1 hD1
  generalize H1 = H at hP hS ⊢
  have hP : va_P (dC, dI) vwCl [(o0, .inl (ko, 1, .inr (.inl (fun _ => 0)))), (h0, .inr (15, fs7))] H := hP
  have hD : va_D A [(o0, .inl (ko, 1, .inr (.inl (fun _ => 0)))), (h0, .inr (15, fs7))] := hD
  try dsimp only at hw6
  refine lv_icmp_eq (tgt := 3762) hx hb dL_law_1791 (by decide) (fun c8 => ?_) (fun c8 => absurd (hw3.1.trans (hw6.2 hw3.2).symm) c8)
  exact law_tail hx hb hr hlocks hX hbl hbA hAi hS (Nat.le_of_ble_eq_true rfl) (Nat.le_of_ble_eq_true rfl) ls (lv_sub hl [0, 4] rfl)
def w_law_22 : List Cond := .initialized RL :: ([.codeWith yL_vote cL_vote 5 (some .int) [(0, 10, 13, 13), (0, 10, 17, 17)], .code yX11_vote cX11_vote 4 (some .int), .code yX11_settlerOf cX11_settlerOf 2 (some (.object "SeaLand$Settler")), .fieldLink RX11 30 "SeaLand" "board" "LSeaLand$Board;", .code yX11_within cX11_within 3 (some .boolean), .methodLink RX11 58 yX11_within, .static yX11_within, .initialized RX11, .classLink RX11 557 "java/lang/IndexOutOfBoundsException", .initialized "java/lang/IndexOutOfBoundsException", .methodLink RX11 292 yX11_settlerOf, .instanceMethod yX11_settlerOf, .selects RX11 yX11_settlerOf yX11_settlerOf, .methodLink RL 90 yX11_vote, .instanceMethod yX11_vote, .selects RX11 yX11_vote yX11_vote, .classLink RL 13 "java/lang/IndexOutOfBoundsException", .methodLink RL 257 yL_vote, .static yL_vote, .initialized RL, .code yX12_vote cX12_vote 5 (some .int), .fieldLink RX12 194 "SeaLandModel" "thrown" "I", .code yX12_nobody cX12_nobody 2 (some .boolean), .fieldLink RX12 495 "SeaLandModel" "settlers" "I", .code yX12_in cX12_in 3 (some .boolean), .methodLink RX12 197 yX12_in, .static yX12_in, .initialized RX12, .methodLink RX12 486 yX12_nobody, .instanceMethod yX12_nobody, .selects RX12 yX12_nobody yX12_nobody, .code yX12_throwsIf cX12_throwsIf 3 (some .boolean), .methodLink RX12 224 yX12_throwsIf, .instanceMethod yX12_throwsIf, .selects RX12 yX12_throwsIf yX12_throwsIf, .methodLink RL 259 yX12_vote, .instanceMethod yX12_vote, .selects RX12 yX12_vote yX12_vote, .code yX12_thrown cX12_thrown 1 (some .int), .methodLink RL 187 yX12_thrown, .instanceMethod yX12_thrown, .selects RX12 yX12_thrown yX12_thrown] ++ bs)
set_option maxRecDepth 100000 in
theorem wm_22 : ∀ w ∈ w_law_22, w ∈ lw_tbl := lw_ins wl_110 (lw_cons wl_1537 (lw_cons wl_1541 (lw_cons wl_1545 (lw_cons wl_591 (lw_cons wl_902 (lw_cons wl_900 (lw_cons wl_901 (lw_cons wl_111 (lw_cons wl_903 (lw_cons wl_126 (lw_cons wl_1542 (lw_cons wl_1544 (lw_cons wl_30 (lw_cons wl_1538 (lw_cons wl_1539 (lw_cons wl_1540 (lw_cons wl_811 (lw_cons wl_1535 (lw_cons wl_1536 (lw_cons wl_110 (lw_cons wl_2679 (lw_cons wl_1969 (lw_cons wl_2572 (lw_cons wl_2011 (lw_cons wl_2217 (lw_cons wl_2215 (lw_cons wl_2216 (lw_cons wl_122 (lw_cons wl_2569 (lw_cons wl_2571 (lw_cons wl_94 (lw_cons wl_2221 (lw_cons wl_2218 (lw_cons wl_2220 (lw_cons wl_44 (lw_cons wl_2676 (lw_cons wl_2677 (lw_cons wl_2678 (lw_cons wl_2207 (lw_cons wl_2204 (lw_cons wl_2205 (lw_cons wl_2206 lw_nil))))))))))))))))))))))))))))))))))))))))))
set_option maxHeartbeats 4000000 in
set_option maxRecDepth 100000 in
/-- vote -/
theorem law_22 {p : Program} {e : Env} {s : State} {m : MethodId} {below : List Frame} {meth : Method} {c : Code} (l : Launch) (hlt : l.stackTraces = false) {b : Nat} {xs : Nat → Int32} {A : Nat → Prop} (hx : p.tables.exec = Jvm.exec) (hb : c.code = code) (hr : meth.sig.returnType = ret) (hml : c.maxLocals = 7) (hown : s.vm.findClass RL = some m.cls) (hts : ∀ w ∈ w_law_22, w.before #[Value.ref b] s = true) (hX : va_X b 8 xs s s.heap) (hbl : b < s.heap.size) (hbA : ¬ A b) (hlocks : meth.locks = false) (hE : EV A s s.heap) (hN : NC s) (hA : ∀ q : Nat, s.heap.size ≤ q → A q) (hAi : ∀ q : Nat, A q → s.heap.size ≤ q) {dC : Nat → ClassId} {dI : Nat → Nat → Nat} (a : Nat → Nat) (k : Nat → ClassId) (h0 : Nat) (q : Nat → Nat) (cm : Nat → ClassId) (o0 : Nat) (ko : ClassId) (H : Heap) (locs : List Loc) (hK : va_K (dC, dI) vwCl [(ko, .long)] s) (hP : va_P (dC, dI) vwCl [(a 0, .inr (14, [.ref (a 1), .ref (a 2), .ref (a 27), .ref (a 30), .ref (a 74), .ref (a 75), .null, .int 0, .int 0])), (a 30, .inr (3, [.ref (a 31), .ref (a 32), .ref (a 33), .ref (a 34), .ref (a 35), .ref (a 36), .ref (a 37), .ref (a 38), .ref (a 50), .ref (a 62), .int (-1), .int 0, .long 0, .long 0, .int 0, .int 0, .int 0, .int 0])), (o0, .inl (ko, 1, .inr (.inl (fun _ => 0)))), (h0, .inr (15, mF q 0))] H) (hD : va_D A [(a 0, .inr (14, [.ref (a 1), .ref (a 2), .ref (a 27), .ref (a 30), .ref (a 74), .ref (a 75), .null, .int 0, .int 0])), (a 30, .inr (3, [.ref (a 31), .ref (a 32), .ref (a 33), .ref (a 34), .ref (a 35), .ref (a 36), .ref (a 37), .ref (a 38), .ref (a 50), .ref (a 62), .int (-1), .int 0, .long 0, .long 0, .int 0, .int 0, .int 0, .int 0])), (o0, .inl (ko, 1, .inr (.inl (fun _ => 0)))), (h0, .inr (15, mF q 0))]) (hS : va_S A s.heap H locs) (ls : Array Slot) (hl : lv_has ls 7 [(0, .ref b), (1, .ref (a 0)), (2, .ref h0), (3, .ref o0), (4, .int 0)]) : W p l e room_1 s m #[Value.ref b] below meth c H locs 238 27427 (lw_Z below #[Value.ref b] s) (F0 m 1796 ls []) := by
  refine lv_aload_n hx hb dL_law_1796 rfl (lv_at hl 1 rfl) ?_
  refine lv_aload_n hx hb dL_law_1797 rfl (lv_at hl 0 rfl) ?_
  refine lv_iload hx hb dL_law_1798 (lv_at hl 4 rfl) ?_
  refine lv_iconst (v := 1) hx hb dL_law_1800 (by decide) ?_
  refine lv_iadd hx hb dL_law_1801 ?_
  refine lv_topi (fun x1 ex1 => ?_)
  obtain rfl : x1 = 1 := ex1.trans (by decide)
  refine va_sld hx hb hX hbl hbA hS (i := 1) (by unfold vp_in; decide) dL_law_1802 ?_
  refine lv_topi (fun x2 ex2 => ?_)
  obtain rfl : xs 1 = x2 := (ex2).symm
  refine lv_aload_n hx hb dL_law_1803 rfl (lv_at hl 0 rfl) ?_
  refine lv_iload hx hb dL_law_1804 (lv_at hl 4 rfl) ?_
  refine lv_iconst (v := 2) hx hb dL_law_1806 (by decide) ?_
  refine lv_iadd hx hb dL_law_1807 ?_
  refine lv_topi (fun x3 ex3 => ?_)
  obtain rfl : x3 = 2 := ex3.trans (by decide)
  refine va_sld hx hb hX hbl hbA hS (i := 2) (by unfold vp_in; decide) dL_law_1808 ?_
  refine lv_topi (fun x4 ex4 => ?_)
  obtain rfl : xs 2 = x4 := (ex4).symm
  refine lv_if_eq (tgt := 1816) hx hb dL_law_1809 (by decide) (fun c5 => ?_) (fun c5 => ?_)
  · refine lv_iconst (v := 0) hx hb dL_law_1816 (by decide) ?_
    refine lv_aload_n hx hb dL_law_1817 rfl (lv_at hl 3 rfl) ?_
    have hPc := hP.sub (ws' := [(a 0, .inr (14, [.ref (a 1), .ref (a 2), .ref (a 27), .ref (a 30), .ref (a 74), .ref (a 75), .null, .int 0, .int 0])), (a 30, .inr (3, [.ref (a 31), .ref (a 32), .ref (a 33), .ref (a 34), .ref (a 35), .ref (a 36), .ref (a 37), .ref (a 38), .ref (a 50), .ref (a 62), .int (-1), .int 0, .long 0, .long 0, .int 0, .int 0, .int 0, .int 0])), (o0, .inl (ko, 1, .inr (.inl (fun _ => 0))))]) [0, 1, 2] rfl
    have hDc := hD.sub (ws' := [(a 0, .inr (14, [.ref (a 1), .ref (a 2), .ref (a 27), .ref (a 30), .ref (a 74), .ref (a 75), .null, .int 0, .int 0])), (a 30, .inr (3, [.ref (a 31), .ref (a 32), .ref (a 33), .ref (a 34), .ref (a 35), .ref (a 36), .ref (a 37), .ref (a 38), .ref (a 50), .ref (a 62), .int (-1), .int 0, .long 0, .long 0, .int 0, .int 0, .int 0, .int 0])), (o0, .inl (ko, 1, .inr (.inl (fun _ => 0))))]) [0, 1, 2] (by decide) rfl
    have hKc := hK.sub (tys' := [(ko, .long)]) [0] rfl
    have hFc := va_free (wc := [(a 0, .inr (14, [.ref (a 1), .ref (a 2), .ref (a 27), .ref (a 30), .ref (a 74), .ref (a 75), .null, .int 0, .int 0])), (a 30, .inr (3, [.ref (a 31), .ref (a 32), .ref (a 33), .ref (a 34), .ref (a 35), .ref (a 36), .ref (a 37), .ref (a 38), .ref (a 50), .ref (a 62), .int (-1), .int 0, .long 0, .long 0, .int 0, .int 0, .int 0, .int 0])), (o0, .inl (ko, 1, .inr (.inl (fun _ => 0))))]) hD hS hA [0, 1, 2] rfl
    refine va_calli (vx_runSW (As := [.ref (a 0), .int (xs 1), .int 0, .ref o0]) (rest := []) ⟨hx, hb, hml, hown, hts⟩ (l_vote l hlt dC dI a k o0 ko (fun _ => 0) (xs 1) 0 H.size ) (vx_cwSW 4 hts (goodIn_app (goodIn_r _ [18, 19, 20] (by decide +kernel) (by decide +kernel)) (goodIn_ca (goodIn_r _ [1, 2, 3, 4, 5, 6, 7, 8, 9, 10, 11, 12, 13, 14, 15, 16, 17] (by decide +kernel) (by decide +kernel)) (bs_in _ _))) rfl rfl rfl (by decide +kernel) ⟨(Nat.le_of_ble_eq_true rfl), (Nat.le_of_ble_eq_true rfl)⟩) ⟨fun a U g mk q => by obtain ⟨q0, q1, qP, qK, qD, qE, qN⟩ := q; exact ⟨q0, q1, qP, va_K.moved (u := U) (U := U.calling g mk a) (Vm.Alike.refl U.vm) qK, qD, EV.blind g mk a qE, NC.blind g mk a qN⟩, fun U hU hW => ⟨rfl, by rw [hU], by rw [hU]; exact hPc, va_K.moved hW.alike hKc, hDc.weaken (fun _ _ _ _ => trivial), hE.call hS hFc hU hW, hN.call hW⟩⟩ rfl rfl hl.1 rfl (lv_room (Nat.le_of_ble_eq_true rfl)) dL_law_1818 ⟨(Nat.le_of_ble_eq_true rfl), (Nat.le_of_ble_eq_true rfl)⟩) hS (fun q _ h => hFc q h) hFc (fun r7 u t H1 locs ht hvm hw8 hB hz1 hk1 hS => ?_)
    obtain ⟨fu9, rfl⟩ : ∃ z, z = u := ⟨_, rfl⟩
    obtain ⟨hP1, hD1⟩ := hB
    rw [ht] at hP1
    obtain ⟨hP, hD⟩ := va_join (wr := [(h0, .inr (15, mF q 0))]) (w1 := [(o0, .inl (ko, 1, .inr (.inl fu9)))]) hP hD [0, 1, 2] [3] rfl rfl (by decide) (by decide) hk1 hFc hP1 hD1
    generalize H1 = H at hP hS ⊢
    have hP : va_P (dC, dI) vwCl [(h0, .inr (15, mF q 0)), (o0, .inl (ko, 1, .inr (.inl fu9)))] H := hP
    have hD : va_D A [(h0, .inr (15, mF q 0)), (o0, .inl (ko, 1, .inr (.inl fu9)))] := hD
    try dsimp only at hw8
    obtain rfl : 1 = r7 := hw8.symm
    refine lv_istore (lv' := [(5, .int 1), (0, .ref b), (1, .ref (a 0)), (2, .ref h0), (3, .ref o0), (4, .int 0)]) hx hb dL_law_1821 hl (by decide) rfl (fun ls hl => ?_)
    refine lv_aload_n hx hb dL_law_1823 rfl (lv_at hl 3 rfl) ?_
    refine lv_aload_n hx hb dL_law_1824 rfl (lv_at hl 1 rfl) ?_
    refine lv_iload hx hb dL_law_1825 (lv_at hl 5 rfl) ?_
    refine lv_iconst (v := 1) hx hb dL_law_1827 (by decide) ?_
    refine lv_iadd hx hb dL_law_1828 ?_
    refine lv_topi (fun x10 ex10 => ?_)
    obtain rfl : x10 = 1 := ex10.trans (by decide)
    refine va_sld hx hb hX hbl hbA hS (i := 1) (by unfold vp_in; decide) dL_law_1829 ?_
    refine lv_topi (fun x11 ex11 => ?_)
    obtain rfl : xs 1 = x11 := (ex11).symm
    refine lv_aload_n hx hb dL_law_1830 rfl (lv_at hl 1 rfl) ?_
    refine lv_iload hx hb dL_law_1831 (lv_at hl 5 rfl) ?_
    refine lv_iconst (v := 2) hx hb dL_law_1833 (by decide) ?_
    refine lv_iadd hx hb dL_law_1834 ?_
    refine lv_topi (fun x12 ex12 => ?_)
    obtain rfl : x12 = 2 := ex12.trans (by decide)
    refine va_sld hx hb hX hbl hbA hS (i := 2) (by unfold vp_in; decide) dL_law_1835 ?_
    refine lv_topi (fun x13 ex13 => ?_)
    obtain rfl : xs 2 = x13 := (ex13).symm
    refine lv_if_eq (tgt := 1843) hx hb dL_law_1836 (by decide) (fun c14 => ?_) (fun c14 => absurd c5 c14)
    refine lv_iconst (v := 0) hx hb dL_law_1843 (by decide) ?_
    have hPc := hP.sub (ws' := [(h0, .inr (15, mF q 0))]) [0] rfl
    have hDc := hD.sub (ws' := [(h0, .inr (15, mF q 0))]) [0] (by decide) rfl
    have hKc := hK.sub (tys' := []) [] rfl
    have hFc := va_free (wc := [(h0, .inr (15, mF q 0))]) hD hS hA [0] rfl
    refine va_calli (va_runV (As := [.int (xs 1), .int 0]) (rest := []) ⟨hx, hb, hml, hown, hts⟩ (m_vote l dC dI h0 q cm (xs 1) 0 H.size ) (cwV 2 hts (goodIn_app (goodIn_r _ [36, 37, 38, 28] (by decide +kernel) (by decide +kernel)) (goodIn_ca (goodIn_r _ [21, 22, 23, 24, 25, 26, 27, 28, 29, 30, 31, 32, 33, 34, 35] (by decide +kernel) (by decide +kernel)) (bs_in _ _))) rfl rfl rfl (by decide +kernel) ⟨(Nat.le_of_ble_eq_true rfl), (Nat.le_of_ble_eq_true rfl)⟩) ⟨fun a U g mk q => by obtain ⟨q0, q1, qP, qK, qD⟩ := q; exact ⟨q0, q1, qP, va_K.moved (u := U) (U := U.calling g mk a) (Vm.Alike.refl U.vm) qK, qD⟩, va_recv hKc hPc (ci := 15) (q0 := 0) rfl rfl, fun U hU hW => ⟨rfl, by rw [hU], by rw [hU]; exact hPc, va_K.moved hW.alike hKc, hDc.weaken (fun _ _ _ _ => trivial)⟩⟩ rfl rfl hl.1 rfl (lv_room (Nat.le_of_ble_eq_true rfl)) dL_law_1844 ⟨(Nat.le_of_ble_eq_true rfl), (Nat.le_of_ble_eq_true rfl)⟩) hS (fun q _ h => hFc q h) hFc (fun r16 u t H1 locs ht hvm hw17 hB hz1 hk1 hS => ?_)
    obtain ⟨fs18, rfl⟩ : ∃ z, z = u := ⟨_, rfl⟩
    obtain ⟨hP1, hD1⟩ := hB
    rw [ht] at hP1
    obtain ⟨hP, hD⟩ := va_join (wr := [(o0, .inl (ko, 1, .inr (.inl fu9)))]) (w1 := [(h0, .inr (15, fs18))]) hP hD [0] [1] rfl rfl (by decide) (by decide) hk1 hFc hP1 hD1
    generalize H1 = H at hP hS ⊢
    have hP : va_P (dC, dI) vwCl [(o0, .inl (ko, 1, .inr (.inl fu9))), (h0, .inr (15, fs18))] H := hP
    have hD : va_D A [(o0, .inl (ko, 1, .inr (.inl fu9))), (h0, .inr (15, fs18))] := hD
    try dsimp only at hw17
    refine lv_istore (lv' := [(6, .int r16), (5, .int 1), (0, .ref b), (1, .ref (a 0)), (2, .ref h0), (3, .ref o0), (4, .int 0)]) hx hb dL_law_1847 hl (by decide) rfl (fun ls hl => ?_)
    refine lv_aload_n hx hb dL_law_1849 rfl (lv_at hl 4 rfl) ?_
    have hPc := hP.sub (ws' := [(h0, .inr (15, fs18))]) [1] rfl
    have hDc := hD.sub (ws' := [(h0, .inr (15, fs18))]) [1] (by decide) rfl
    have hKc := hK.sub (tys' := []) [] rfl
    have hFc := va_free (wc := [(h0, .inr (15, fs18))]) hD hS hA [1] rfl
    refine va_calli (va_runV (As := []) (rest := []) ⟨hx, hb, hml, hown, hts⟩ (m_thrown l dC dI h0 fs18 1 H.size hw17) (cwV 0 hts (goodIn_app (goodIn_r _ [40, 41, 42, 28] (by decide +kernel) (by decide +kernel)) (goodIn_ca (goodIn_r _ [39, 22] (by decide +kernel) (by decide +kernel)) (bs_in _ _))) rfl rfl rfl (by decide +kernel) ⟨(Nat.le_of_ble_eq_true rfl), (Nat.le_of_ble_eq_true rfl)⟩) ⟨fun a U g mk q => by obtain ⟨q0, q1, qP, qK, qD⟩ := q; exact ⟨q0, q1, qP, va_K.moved (u := U) (U := U.calling g mk a) (Vm.Alike.refl U.vm) qK, qD⟩, va_recv hKc hPc (ci := 15) (q0 := 0) rfl rfl, fun U hU hW => ⟨rfl, by rw [hU], by rw [hU]; exact hPc, va_K.moved hW.alike hKc, hDc.weaken (fun _ _ _ _ => trivial)⟩⟩ rfl rfl hl.1 rfl (lv_room (Nat.le_of_ble_eq_true rfl)) dL_law_1850 ⟨(Nat.le_of_ble_eq_true rfl), (Nat.le_of_ble_eq_true rfl)⟩) hS (fun q _ h => hFc q h) hFc (fun r20 u t H1 locs ht hvm hw21 hB hz1 hk1 hS => ?_)
    have hP1 : va_P (dC, dI) vwCl [] H1 := nilP
    have hD1 : va_D (va_A [(h0, .inr (15, fs18))] H.size) [] := nilD
    have hK := hK
    obtain ⟨hP, hD⟩ := va_join (wr := [(o0, .inl (ko, 1, .inr (.inl fu9)))]) (w1 := []) hP hD [1] [0] rfl rfl (by decide) (by decide) hk1 hFc hP1 hD1
    generalize H1 = H at hP hS ⊢
    have hP : va_P (dC, dI) vwCl [(o0, .inl (ko, 1, .inr (.inl fu9)))] H := hP
    have hD : va_D A [(o0, .inl (ko, 1, .inr (.inl fu9)))] := hD
    try dsimp only at hw21
    obtain rfl : 1 = r20 := hw21.symm
    refine lv_iload hx hb dL_law_1853 (lv_at hl 1 rfl) ?_
    refine lv_icmp_eq (tgt := 1860) hx hb dL_law_1855 (by decide) (fun c22 => ?_) (fun c22 => absurd c22 (by decide))
    refine lv_iload hx hb dL_law_1860 (lv_at hl 1 rfl) ?_
    refine lv_if_ne (tgt := 1877) hx hb dL_law_1862 (by decide) (fun c23 => ?_) (fun c23 => absurd c23 (by decide))
    refine lv_goto (tgt := 3762) hx hb dL_law_1877 (by decide) ?_
    exact law_tail hx hb hr hlocks hX hbl hbA hAi hS (Nat.le_of_ble_eq_true rfl) (Nat.le_of_ble_eq_true rfl) ls (lv_sub hl [2, 6] rfl)
  · refine lv_iconst (v := 1) hx hb dL_law_1812 (by decide) ?_
    refine lv_goto (tgt := 1817) hx hb dL_law_1813 (by decide) ?_
    refine lv_aload_n hx hb dL_law_1817 rfl (lv_at hl 3 rfl) ?_
    have hPc := hP.sub (ws' := [(a 0, .inr (14, [.ref (a 1), .ref (a 2), .ref (a 27), .ref (a 30), .ref (a 74), .ref (a 75), .null, .int 0, .int 0])), (a 30, .inr (3, [.ref (a 31), .ref (a 32), .ref (a 33), .ref (a 34), .ref (a 35), .ref (a 36), .ref (a 37), .ref (a 38), .ref (a 50), .ref (a 62), .int (-1), .int 0, .long 0, .long 0, .int 0, .int 0, .int 0, .int 0])), (o0, .inl (ko, 1, .inr (.inl (fun _ => 0))))]) [0, 1, 2] rfl
    have hDc := hD.sub (ws' := [(a 0, .inr (14, [.ref (a 1), .ref (a 2), .ref (a 27), .ref (a 30), .ref (a 74), .ref (a 75), .null, .int 0, .int 0])), (a 30, .inr (3, [.ref (a 31), .ref (a 32), .ref (a 33), .ref (a 34), .ref (a 35), .ref (a 36), .ref (a 37), .ref (a 38), .ref (a 50), .ref (a 62), .int (-1), .int 0, .long 0, .long 0, .int 0, .int 0, .int 0, .int 0])), (o0, .inl (ko, 1, .inr (.inl (fun _ => 0))))]) [0, 1, 2] (by decide) rfl
    have hKc := hK.sub (tys' := [(ko, .long)]) [0] rfl
    have hFc := va_free (wc := [(a 0, .inr (14, [.ref (a 1), .ref (a 2), .ref (a 27), .ref (a 30), .ref (a 74), .ref (a 75), .null, .int 0, .int 0])), (a 30, .inr (3, [.ref (a 31), .ref (a 32), .ref (a 33), .ref (a 34), .ref (a 35), .ref (a 36), .ref (a 37), .ref (a 38), .ref (a 50), .ref (a 62), .int (-1), .int 0, .long 0, .long 0, .int 0, .int 0, .int 0, .int 0])), (o0, .inl (ko, 1, .inr (.inl (fun _ => 0))))]) hD hS hA [0, 1, 2] rfl
    refine va_calli (vx_runSW (As := [.ref (a 0), .int (xs 1), .int 1, .ref o0]) (rest := []) ⟨hx, hb, hml, hown, hts⟩ (l_vote l hlt dC dI a k o0 ko (fun _ => 0) (xs 1) 1 H.size ) (vx_cwSW 4 hts (goodIn_app (goodIn_r _ [18, 19, 20] (by decide +kernel) (by decide +kernel)) (goodIn_ca (goodIn_r _ [1, 2, 3, 4, 5, 6, 7, 8, 9, 10, 11, 12, 13, 14, 15, 16, 17] (by decide +kernel) (by decide +kernel)) (bs_in _ _))) rfl rfl rfl (by decide +kernel) ⟨(Nat.le_of_ble_eq_true rfl), (Nat.le_of_ble_eq_true rfl)⟩) ⟨fun a U g mk q => by obtain ⟨q0, q1, qP, qK, qD, qE, qN⟩ := q; exact ⟨q0, q1, qP, va_K.moved (u := U) (U := U.calling g mk a) (Vm.Alike.refl U.vm) qK, qD, EV.blind g mk a qE, NC.blind g mk a qN⟩, fun U hU hW => ⟨rfl, by rw [hU], by rw [hU]; exact hPc, va_K.moved hW.alike hKc, hDc.weaken (fun _ _ _ _ => trivial), hE.call hS hFc hU hW, hN.call hW⟩⟩ rfl rfl hl.1 rfl (lv_room (Nat.le_of_ble_eq_true rfl)) dL_law_1818 ⟨(Nat.le_of_ble_eq_true rfl), (Nat.le_of_ble_eq_true rfl)⟩) hS (fun q _ h => hFc q h) hFc (fun r25 u t H1 locs ht hvm hw26 hB hz1 hk1 hS => ?_)
    obtain ⟨fu27, rfl⟩ : ∃ z, z = u := ⟨_, rfl⟩
    obtain ⟨hP1, hD1⟩ := hB
    rw [ht] at hP1
    obtain ⟨hP, hD⟩ := va_join (wr := [(h0, .inr (15, mF q 0))]) (w1 := [(o0, .inl (ko, 1, .inr (.inl fu27)))]) hP hD [0, 1, 2] [3] rfl rfl (by decide) (by decide) hk1 hFc hP1 hD1
    generalize H1 = H at hP hS ⊢
    have hP : va_P (dC, dI) vwCl [(h0, .inr (15, mF q 0)), (o0, .inl (ko, 1, .inr (.inl fu27)))] H := hP
    have hD : va_D A [(h0, .inr (15, mF q 0)), (o0, .inl (ko, 1, .inr (.inl fu27)))] := hD
    try dsimp only at hw26
    obtain rfl : 1 = r25 := hw26.symm
    refine lv_istore (lv' := [(5, .int 1), (0, .ref b), (1, .ref (a 0)), (2, .ref h0), (3, .ref o0), (4, .int 0)]) hx hb dL_law_1821 hl (by decide) rfl (fun ls hl => ?_)
    refine lv_aload_n hx hb dL_law_1823 rfl (lv_at hl 3 rfl) ?_
    refine lv_aload_n hx hb dL_law_1824 rfl (lv_at hl 1 rfl) ?_
    refine lv_iload hx hb dL_law_1825 (lv_at hl 5 rfl) ?_
    refine lv_iconst (v := 1) hx hb dL_law_1827 (by decide) ?_
    refine lv_iadd hx hb dL_law_1828 ?_
    refine lv_topi (fun x28 ex28 => ?_)
    obtain rfl : x28 = 1 := ex28.trans (by decide)
    refine va_sld hx hb hX hbl hbA hS (i := 1) (by unfold vp_in; decide) dL_law_1829 ?_
    refine lv_topi (fun x29 ex29 => ?_)
    obtain rfl : xs 1 = x29 := (ex29).symm
    refine lv_aload_n hx hb dL_law_1830 rfl (lv_at hl 1 rfl) ?_
    refine lv_iload hx hb dL_law_1831 (lv_at hl 5 rfl) ?_
    refine lv_iconst (v := 2) hx hb dL_law_1833 (by decide) ?_
    refine lv_iadd hx hb dL_law_1834 ?_
    refine lv_topi (fun x30 ex30 => ?_)
    obtain rfl : x30 = 2 := ex30.trans (by decide)
    refine va_sld hx hb hX hbl hbA hS (i := 2) (by unfold vp_in; decide) dL_law_1835 ?_
    refine lv_topi (fun x31 ex31 => ?_)
    obtain rfl : xs 2 = x31 := (ex31).symm
    refine lv_if_eq (tgt := 1843) hx hb dL_law_1836 (by decide) (fun c32 => absurd c32 c5) (fun c32 => ?_)
    refine lv_iconst (v := 1) hx hb dL_law_1839 (by decide) ?_
    refine lv_goto (tgt := 1844) hx hb dL_law_1840 (by decide) ?_
    have hPc := hP.sub (ws' := [(h0, .inr (15, mF q 0))]) [0] rfl
    have hDc := hD.sub (ws' := [(h0, .inr (15, mF q 0))]) [0] (by decide) rfl
    have hKc := hK.sub (tys' := []) [] rfl
    have hFc := va_free (wc := [(h0, .inr (15, mF q 0))]) hD hS hA [0] rfl
    refine va_calli (va_runV (As := [.int (xs 1), .int 1]) (rest := []) ⟨hx, hb, hml, hown, hts⟩ (m_vote l dC dI h0 q cm (xs 1) 1 H.size ) (cwV 2 hts (goodIn_app (goodIn_r _ [36, 37, 38, 28] (by decide +kernel) (by decide +kernel)) (goodIn_ca (goodIn_r _ [21, 22, 23, 24, 25, 26, 27, 28, 29, 30, 31, 32, 33, 34, 35] (by decide +kernel) (by decide +kernel)) (bs_in _ _))) rfl rfl rfl (by decide +kernel) ⟨(Nat.le_of_ble_eq_true rfl), (Nat.le_of_ble_eq_true rfl)⟩) ⟨fun a U g mk q => by obtain ⟨q0, q1, qP, qK, qD⟩ := q; exact ⟨q0, q1, qP, va_K.moved (u := U) (U := U.calling g mk a) (Vm.Alike.refl U.vm) qK, qD⟩, va_recv hKc hPc (ci := 15) (q0 := 0) rfl rfl, fun U hU hW => ⟨rfl, by rw [hU], by rw [hU]; exact hPc, va_K.moved hW.alike hKc, hDc.weaken (fun _ _ _ _ => trivial)⟩⟩ rfl rfl hl.1 rfl (lv_room (Nat.le_of_ble_eq_true rfl)) dL_law_1844 ⟨(Nat.le_of_ble_eq_true rfl), (Nat.le_of_ble_eq_true rfl)⟩) hS (fun q _ h => hFc q h) hFc (fun r34 u t H1 locs ht hvm hw35 hB hz1 hk1 hS => ?_)
    obtain ⟨fs36, rfl⟩ : ∃ z, z = u := ⟨_, rfl⟩
    obtain ⟨hP1, hD1⟩ := hB
    rw [ht] at hP1
    obtain ⟨hP, hD⟩ := va_join (wr := [(o0, .inl (ko, 1, .inr (.inl fu27)))]) (w1 := [(h0, .inr (15, fs36))]) hP hD [0] [1] rfl rfl (by decide) (by decide) hk1 hFc hP1 hD1
    generalize H1 = H at hP hS ⊢
    have hP : va_P (dC, dI) vwCl [(o0, .inl (ko, 1, .inr (.inl fu27))), (h0, .inr (15, fs36))] H := hP
    have hD : va_D A [(o0, .inl (ko, 1, .inr (.inl fu27))), (h0, .inr (15, fs36))] := hD
    try dsimp only at hw35
    refine lv_istore (lv' := [(6, .int r34), (5, .int 1), (0, .ref b), (1, .ref (a 0)), (2, .ref h0), (3, .ref o0), (4, .int 0)]) hx hb dL_law_1847 hl (by decide) rfl (fun ls hl => ?_)
    refine lv_aload_n hx hb dL_law_1849 rfl (lv_at hl 4 rfl) ?_
    have hPc := hP.sub (ws' := [(h0, .inr (15, fs36))]) [1] rfl
    have hDc := hD.sub (ws' := [(h0, .inr (15, fs36))]) [1] (by decide) rfl
    have hKc := hK.sub (tys' := []) [] rfl
    have hFc := va_free (wc := [(h0, .inr (15, fs36))]) hD hS hA [1] rfl
    refine va_calli (va_runV (As := []) (rest := []) ⟨hx, hb, hml, hown, hts⟩ (m_thrown l dC dI h0 fs36 1 H.size hw35) (cwV 0 hts (goodIn_app (goodIn_r _ [40, 41, 42, 28] (by decide +kernel) (by decide +kernel)) (goodIn_ca (goodIn_r _ [39, 22] (by decide +kernel) (by decide +kernel)) (bs_in _ _))) rfl rfl rfl (by decide +kernel) ⟨(Nat.le_of_ble_eq_true rfl), (Nat.le_of_ble_eq_true rfl)⟩) ⟨fun a U g mk q => by obtain ⟨q0, q1, qP, qK, qD⟩ := q; exact ⟨q0, q1, qP, va_K.moved (u := U) (U := U.calling g mk a) (Vm.Alike.refl U.vm) qK, qD⟩, va_recv hKc hPc (ci := 15) (q0 := 0) rfl rfl, fun U hU hW => ⟨rfl, by rw [hU], by rw [hU]; exact hPc, va_K.moved hW.alike hKc, hDc.weaken (fun _ _ _ _ => trivial)⟩⟩ rfl rfl hl.1 rfl (lv_room (Nat.le_of_ble_eq_true rfl)) dL_law_1850 ⟨(Nat.le_of_ble_eq_true rfl), (Nat.le_of_ble_eq_true rfl)⟩) hS (fun q _ h => hFc q h) hFc (fun r38 u t H1 locs ht hvm hw39 hB hz1 hk1 hS => ?_)
    have hP1 : va_P (dC, dI) vwCl [] H1 := nilP
    have hD1 : va_D (va_A [(h0, .inr (15, fs36))] H.size) [] := nilD
    have hK := hK
    obtain ⟨hP, hD⟩ := va_join (wr := [(o0, .inl (ko, 1, .inr (.inl fu27)))]) (w1 := []) hP hD [1] [0] rfl rfl (by decide) (by decide) hk1 hFc hP1 hD1
    generalize H1 = H at hP hS ⊢
    have hP : va_P (dC, dI) vwCl [(o0, .inl (ko, 1, .inr (.inl fu27)))] H := hP
    have hD : va_D A [(o0, .inl (ko, 1, .inr (.inl fu27)))] := hD
    try dsimp only at hw39
    obtain rfl : 1 = r38 := hw39.symm
    refine lv_iload hx hb dL_law_1853 (lv_at hl 1 rfl) ?_
    refine lv_icmp_eq (tgt := 1860) hx hb dL_law_1855 (by decide) (fun c40 => ?_) (fun c40 => absurd c40 (by decide))
    refine lv_iload hx hb dL_law_1860 (lv_at hl 1 rfl) ?_
    refine lv_if_ne (tgt := 1877) hx hb dL_law_1862 (by decide) (fun c41 => ?_) (fun c41 => absurd c41 (by decide))
    refine lv_goto (tgt := 3762) hx hb dL_law_1877 (by decide) ?_
    exact law_tail hx hb hr hlocks hX hbl hbA hAi hS (Nat.le_of_ble_eq_true rfl) (Nat.le_of_ble_eq_true rfl) ls (lv_sub hl [2, 6] rfl)
def w_law_23 : List Cond := .initialized RL :: ([.codeWith yL_close cL_close 3 (some .int) [(0, 15, 18, 17)], .code yX11_close cX11_close 1 (some .boolean), .code yX11_needVote cX11_needVote 1 none, .fieldLink RX11 30 "SeaLand" "board" "LSeaLand$Board;", .classLink RX11 69 "java/lang/IllegalStateException", .initialized "java/lang/IllegalStateException", .methodLink RX11 296 yX11_needVote, .instanceMethod yX11_needVote, .selects RX11 yX11_needVote yX11_needVote, .initialized RX11, .methodLink RL 94 yX11_close, .instanceMethod yX11_close, .selects RX11 yX11_close yX11_close, .classLink RL 17 "java/lang/IllegalStateException", .methodLink RL 260 yL_close, .static yL_close, .initialized RL, .code yX12_close cX12_close 1 (some .boolean), .fieldLink RX12 194 "SeaLandModel" "thrown" "I", .fieldLink RX12 523 "SeaLandModel" "isVoting" "Z", .code yX12_throwsIf cX12_throwsIf 3 (some .boolean), .methodLink RX12 224 yX12_throwsIf, .instanceMethod yX12_throwsIf, .selects RX12 yX12_throwsIf yX12_throwsIf, .initialized RX12, .methodLink RL 262 yX12_close, .instanceMethod yX12_close, .selects RX12 yX12_close yX12_close, .code yX12_thrown cX12_thrown 1 (some .int), .methodLink RL 187 yX12_thrown, .instanceMethod yX12_thrown, .selects RX12 yX12_thrown yX12_thrown] ++ bs)
set_option maxRecDepth 100000 in
theorem wm_23 : ∀ w ∈ w_law_23, w ∈ lw_tbl := lw_ins wl_110 (lw_cons wl_1558 (lw_cons wl_1562 (lw_cons wl_1550 (lw_cons wl_591 (lw_cons wl_935 (lw_cons wl_130 (lw_cons wl_1547 (lw_cons wl_1549 (lw_cons wl_31 (lw_cons wl_111 (lw_cons wl_1559 (lw_cons wl_1560 (lw_cons wl_1561 (lw_cons wl_892 (lw_cons wl_1556 (lw_cons wl_1557 (lw_cons wl_110 (lw_cons wl_2683 (lw_cons wl_1969 (lw_cons wl_2021 (lw_cons wl_2221 (lw_cons wl_2218 (lw_cons wl_2220 (lw_cons wl_44 (lw_cons wl_122 (lw_cons wl_2680 (lw_cons wl_2681 (lw_cons wl_2682 (lw_cons wl_2207 (lw_cons wl_2204 (lw_cons wl_2205 (lw_cons wl_2206 lw_nil))))))))))))))))))))))))))))))))
set_option maxHeartbeats 4000000 in
set_option maxRecDepth 100000 in
/-- close -/
theorem law_23 {p : Program} {e : Env} {s : State} {m : MethodId} {below : List Frame} {meth : Method} {c : Code} (l : Launch) (hlt : l.stackTraces = false) {b : Nat} {xs : Nat → Int32} {A : Nat → Prop} (hx : p.tables.exec = Jvm.exec) (hb : c.code = code) (hr : meth.sig.returnType = ret) (hml : c.maxLocals = 7) (hown : s.vm.findClass RL = some m.cls) (hts : ∀ w ∈ w_law_23, w.before #[Value.ref b] s = true) (hX : va_X b 8 xs s s.heap) (hbl : b < s.heap.size) (hbA : ¬ A b) (hlocks : meth.locks = false) (hE : EV A s s.heap) (hN : NC s) (hA : ∀ q : Nat, s.heap.size ≤ q → A q) (hAi : ∀ q : Nat, A q → s.heap.size ≤ q) {dC : Nat → ClassId} {dI : Nat → Nat → Nat} (a : Nat → Nat) (k : Nat → ClassId) (h0 : Nat) (q : Nat → Nat) (cm : Nat → ClassId) (o0 : Nat) (ko : ClassId) (H : Heap) (locs : List Loc) (hK : va_K (dC, dI) vwCl [(ko, .long)] s) (hP : va_P (dC, dI) vwCl [(a 0, .inr (14, [.ref (a 1), .ref (a 2), .ref (a 27), .ref (a 30), .ref (a 74), .ref (a 75), .null, .int 0, .int 0])), (a 30, .inr (3, [.ref (a 31), .ref (a 32), .ref (a 33), .ref (a 34), .ref (a 35), .ref (a 36), .ref (a 37), .ref (a 38), .ref (a 50), .ref (a 62), .int (-1), .int 0, .long 0, .long 0, .int 0, .int 0, .int 0, .int 0])), (o0, .inl (ko, 1, .inr (.inl (fun _ => 0)))), (h0, .inr (15, mF q 0))] H) (hD : va_D A [(a 0, .inr (14, [.ref (a 1), .ref (a 2), .ref (a 27), .ref (a 30), .ref (a 74), .ref (a 75), .null, .int 0, .int 0])), (a 30, .inr (3, [.ref (a 31), .ref (a 32), .ref (a 33), .ref (a 34), .ref (a 35), .ref (a 36), .ref (a 37), .ref (a 38), .ref (a 50), .ref (a 62), .int (-1), .int 0, .long 0, .long 0, .int 0, .int 0, .int 0, .int 0])), (o0, .inl (ko, 1, .inr (.inl (fun _ => 0)))), (h0, .inr (15, mF q 0))]) (hS : va_S A s.heap H locs) (ls : Array Slot) (hl : lv_has ls 7 [(0, .ref b), (1, .ref (a 0)), (2, .ref h0), (3, .ref o0), (4, .int 0)]) : W p l e room_1 s m #[Value.ref b] below meth c H locs 238 27427 (lw_Z below #[Value.ref b] s) (F0 m 1880 ls []) := by
  refine lv_aload_n hx hb dL_law_1880 rfl (lv_at hl 1 rfl) ?_
  refine lv_aload_n hx hb dL_law_1881 rfl (lv_at hl 3 rfl) ?_
  have hPc := hP.sub (ws' := [(a 0, .inr (14, [.ref (a 1), .ref (a 2), .ref (a 27), .ref (a 30), .ref (a 74), .ref (a 75), .null, .int 0, .int 0])), (a 30, .inr (3, [.ref (a 31), .ref (a 32), .ref (a 33), .ref (a 34), .ref (a 35), .ref (a 36), .ref (a 37), .ref (a 38), .ref (a 50), .ref (a 62), .int (-1), .int 0, .long 0, .long 0, .int 0, .int 0, .int 0, .int 0])), (o0, .inl (ko, 1, .inr (.inl (fun _ => 0))))]) [0, 1, 2] rfl
  have hDc := hD.sub (ws' := [(a 0, .inr (14, [.ref (a 1), .ref (a 2), .ref (a 27), .ref (a 30), .ref (a 74), .ref (a 75), .null, .int 0, .int 0])), (a 30, .inr (3, [.ref (a 31), .ref (a 32), .ref (a 33), .ref (a 34), .ref (a 35), .ref (a 36), .ref (a 37), .ref (a 38), .ref (a 50), .ref (a 62), .int (-1), .int 0, .long 0, .long 0, .int 0, .int 0, .int 0, .int 0])), (o0, .inl (ko, 1, .inr (.inl (fun _ => 0))))]) [0, 1, 2] (by decide) rfl
  have hKc := hK.sub (tys' := [(ko, .long)]) [0] rfl
  have hFc := va_free (wc := [(a 0, .inr (14, [.ref (a 1), .ref (a 2), .ref (a 27), .ref (a 30), .ref (a 74), .ref (a 75), .null, .int 0, .int 0])), (a 30, .inr (3, [.ref (a 31), .ref (a 32), .ref (a 33), .ref (a 34), .ref (a 35), .ref (a 36), .ref (a 37), .ref (a 38), .ref (a 50), .ref (a 62), .int (-1), .int 0, .long 0, .long 0, .int 0, .int 0, .int 0, .int 0])), (o0, .inl (ko, 1, .inr (.inl (fun _ => 0))))]) hD hS hA [0, 1, 2] rfl
  refine va_calli (vx_runSW (As := [.ref (a 0), .ref o0]) (rest := []) ⟨hx, hb, hml, hown, hts⟩ (l_close l hlt dC dI a k o0 ko (fun _ => 0) H.size ) (vx_cwSW 2 hts (goodIn_app (goodIn_r _ [15, 16, 17] (by decide +kernel) (by decide +kernel)) (goodIn_ca (goodIn_r _ [1, 2, 3, 4, 5, 6, 7, 8, 9, 10, 11, 12, 13, 14] (by decide +kernel) (by decide +kernel)) (bs_in _ _))) rfl rfl rfl (by decide +kernel) ⟨(Nat.le_of_ble_eq_true rfl), (Nat.le_of_ble_eq_true rfl)⟩) ⟨fun a U g mk q => by obtain ⟨q0, q1, qP, qK, qD, qE, qN⟩ := q; exact ⟨q0, q1, qP, va_K.moved (u := U) (U := U.calling g mk a) (Vm.Alike.refl U.vm) qK, qD, EV.blind g mk a qE, NC.blind g mk a qN⟩, fun U hU hW => ⟨rfl, by rw [hU], by rw [hU]; exact hPc, va_K.moved hW.alike hKc, hDc.weaken (fun _ _ _ _ => trivial), hE.call hS hFc hU hW, hN.call hW⟩⟩ rfl rfl hl.1 rfl (lv_room (Nat.le_of_ble_eq_true rfl)) dL_law_1882 ⟨(Nat.le_of_ble_eq_true rfl), (Nat.le_of_ble_eq_true rfl)⟩) hS (fun q _ h => hFc q h) hFc (fun r2 u t H1 locs ht hvm hw3 hB hz1 hk1 hS => ?_)
  obtain ⟨fu4, rfl⟩ : ∃ z, z = u := ⟨_, rfl⟩
  obtain ⟨hP1, hD1⟩ := hB
  rw [ht] at hP1
  obtain ⟨hP, hD⟩ := va_join (wr := [(h0, .inr (15, mF q 0))]) (w1 := [(o0, .inl (ko, 1, .inr (.inl fu4)))]) hP hD [0, 1, 2] [3] rfl rfl (by decide) (by decide) hk1 hFc hP1 hD1
  generalize H1 = H at hP hS ⊢
  have hP : va_P (dC, dI) vwCl [(h0, .inr (15, mF q 0)), (o0, .inl (ko, 1, .inr (.inl fu4)))] H := hP
  have hD : va_D A [(h0, .inr (15, mF q 0)), (o0, .inl (ko, 1, .inr (.inl fu4)))] := hD
  try dsimp only at hw3
  obtain rfl : 1 = r2 := hw3.symm
  refine lv_istore (lv' := [(5, .int 1), (0, .ref b), (1, .ref (a 0)), (2, .ref h0), (3, .ref o0), (4, .int 0)]) hx hb dL_law_1885 hl (by decide) rfl (fun ls hl => ?_)
  refine lv_aload_n hx hb dL_law_1887 rfl (lv_at hl 3 rfl) ?_
  have hPc := hP.sub (ws' := [(h0, .inr (15, mF q 0))]) [0] rfl
  have hDc := hD.sub (ws' := [(h0, .inr (15, mF q 0))]) [0] (by decide) rfl
  have hKc := hK.sub (tys' := []) [] rfl
  have hFc := va_free (wc := [(h0, .inr (15, mF q 0))]) hD hS hA [0] rfl
  refine va_calli (va_runV (As := []) (rest := []) ⟨hx, hb, hml, hown, hts⟩ (m_close l dC dI h0 q cm H.size ) (cwV 0 hts (goodIn_app (goodIn_r _ [26, 27, 28, 25] (by decide +kernel) (by decide +kernel)) (goodIn_ca (goodIn_r _ [18, 19, 20, 21, 22, 23, 24, 25] (by decide +kernel) (by decide +kernel)) (bs_in _ _))) rfl rfl rfl (by decide +kernel) ⟨(Nat.le_of_ble_eq_true rfl), (Nat.le_of_ble_eq_true rfl)⟩) ⟨fun a U g mk q => by obtain ⟨q0, q1, qP, qK, qD⟩ := q; exact ⟨q0, q1, qP, va_K.moved (u := U) (U := U.calling g mk a) (Vm.Alike.refl U.vm) qK, qD⟩, va_recv hKc hPc (ci := 15) (q0 := 0) rfl rfl, fun U hU hW => ⟨rfl, by rw [hU], by rw [hU]; exact hPc, va_K.moved hW.alike hKc, hDc.weaken (fun _ _ _ _ => trivial)⟩⟩ rfl rfl hl.1 rfl (lv_room (Nat.le_of_ble_eq_true rfl)) dL_law_1888 ⟨(Nat.le_of_ble_eq_true rfl), (Nat.le_of_ble_eq_true rfl)⟩) hS (fun q _ h => hFc q h) hFc (fun r6 u t H1 locs ht hvm hw7 hB hz1 hk1 hS => ?_)
  obtain ⟨fs8, rfl⟩ : ∃ z, z = u := ⟨_, rfl⟩
  obtain ⟨hP1, hD1⟩ := hB
  rw [ht] at hP1
  obtain ⟨hP, hD⟩ := va_join (wr := [(o0, .inl (ko, 1, .inr (.inl fu4)))]) (w1 := [(h0, .inr (15, fs8))]) hP hD [0] [1] rfl rfl (by decide) (by decide) hk1 hFc hP1 hD1
  generalize H1 = H at hP hS ⊢
  have hP : va_P (dC, dI) vwCl [(o0, .inl (ko, 1, .inr (.inl fu4))), (h0, .inr (15, fs8))] H := hP
  have hD : va_D A [(o0, .inl (ko, 1, .inr (.inl fu4))), (h0, .inr (15, fs8))] := hD
  try dsimp only at hw7
  refine lv_istore (lv' := [(6, .int r6), (5, .int 1), (0, .ref b), (1, .ref (a 0)), (2, .ref h0), (3, .ref o0), (4, .int 0)]) hx hb dL_law_1891 hl (by decide) rfl (fun ls hl => ?_)
  refine lv_aload_n hx hb dL_law_1893 rfl (lv_at hl 4 rfl) ?_
  have hPc := hP.sub (ws' := [(h0, .inr (15, fs8))]) [1] rfl
  have hDc := hD.sub (ws' := [(h0, .inr (15, fs8))]) [1] (by decide) rfl
  have hKc := hK.sub (tys' := []) [] rfl
  have hFc := va_free (wc := [(h0, .inr (15, fs8))]) hD hS hA [1] rfl
  refine va_calli (va_runV (As := []) (rest := []) ⟨hx, hb, hml, hown, hts⟩ (m_thrown l dC dI h0 fs8 1 H.size hw7) (cwV 0 hts (goodIn_app (goodIn_r _ [30, 31, 32, 25] (by decide +kernel) (by decide +kernel)) (goodIn_ca (goodIn_r _ [29, 19] (by decide +kernel) (by decide +kernel)) (bs_in _ _))) rfl rfl rfl (by decide +kernel) ⟨(Nat.le_of_ble_eq_true rfl), (Nat.le_of_ble_eq_true rfl)⟩) ⟨fun a U g mk q => by obtain ⟨q0, q1, qP, qK, qD⟩ := q; exact ⟨q0, q1, qP, va_K.moved (u := U) (U := U.calling g mk a) (Vm.Alike.refl U.vm) qK, qD⟩, va_recv hKc hPc (ci := 15) (q0 := 0) rfl rfl, fun U hU hW => ⟨rfl, by rw [hU], by rw [hU]; exact hPc, va_K.moved hW.alike hKc, hDc.weaken (fun _ _ _ _ => trivial)⟩⟩ rfl rfl hl.1 rfl (lv_room (Nat.le_of_ble_eq_true rfl)) dL_law_1894 ⟨(Nat.le_of_ble_eq_true rfl), (Nat.le_of_ble_eq_true rfl)⟩) hS (fun q _ h => hFc q h) hFc (fun r10 u t H1 locs ht hvm hw11 hB hz1 hk1 hS => ?_)
  have hP1 : va_P (dC, dI) vwCl [] H1 := nilP
  have hD1 : va_D (va_A [(h0, .inr (15, fs8))] H.size) [] := nilD
  have hK := hK
  obtain ⟨hP, hD⟩ := va_join (wr := [(o0, .inl (ko, 1, .inr (.inl fu4)))]) (w1 := []) hP hD [1] [0] rfl rfl (by decide) (by decide) hk1 hFc hP1 hD1
  generalize H1 = H at hP hS ⊢
  have hP : va_P (dC, dI) vwCl [(o0, .inl (ko, 1, .inr (.inl fu4)))] H := hP
  have hD : va_D A [(o0, .inl (ko, 1, .inr (.inl fu4)))] := hD
  try dsimp only at hw11
  obtain rfl : 1 = r10 := hw11.symm
  refine lv_iload hx hb dL_law_1897 (lv_at hl 1 rfl) ?_
  refine lv_icmp_eq (tgt := 1904) hx hb dL_law_1899 (by decide) (fun c12 => ?_) (fun c12 => absurd c12 (by decide))
  refine lv_iload hx hb dL_law_1904 (lv_at hl 1 rfl) ?_
  refine lv_if_ne (tgt := 1928) hx hb dL_law_1906 (by decide) (fun c13 => ?_) (fun c13 => absurd c13 (by decide))
  refine lv_goto (tgt := 3762) hx hb dL_law_1928 (by decide) ?_
  exact law_tail hx hb hr hlocks hX hbl hbA hAi hS (Nat.le_of_ble_eq_true rfl) (Nat.le_of_ble_eq_true rfl) ls (lv_sub hl [2, 6] rfl)
def w_law_24 : List Cond := .initialized RL :: ([.codeWith yL_rules cL_rules 5 (some .int) [(0, 10, 13, 13), (0, 10, 17, 39)], .code yX11_rules cX11_rules 4 (some .int), .code yX11_settlerOf cX11_settlerOf 2 (some (.object "SeaLand$Settler")), .fieldLink RX11 30 "SeaLand" "board" "LSeaLand$Board;", .code yX11_within cX11_within 3 (some .boolean), .methodLink RX11 58 yX11_within, .static yX11_within, .initialized RX11, .classLink RX11 557 "java/lang/IndexOutOfBoundsException", .initialized "java/lang/IndexOutOfBoundsException", .methodLink RX11 292 yX11_settlerOf, .instanceMethod yX11_settlerOf, .selects RX11 yX11_settlerOf yX11_settlerOf, .methodLink RL 98 yX11_rules, .instanceMethod yX11_rules, .selects RX11 yX11_rules yX11_rules, .classLink RL 13 "java/lang/IndexOutOfBoundsException", .methodLink RL 263 yL_rules, .static yL_rules, .initialized RL, .code yX12_rules cX12_rules 3 (some .int), .fieldLink RX12 194 "SeaLandModel" "thrown" "I", .code yX12_nobody cX12_nobody 2 (some .boolean), .fieldLink RX12 495 "SeaLandModel" "settlers" "I", .code yX12_in cX12_in 3 (some .boolean), .methodLink RX12 197 yX12_in, .static yX12_in, .initialized RX12, .methodLink RX12 486 yX12_nobody, .instanceMethod yX12_nobody, .selects RX12 yX12_nobody yX12_nobody, .code yX12_throwsIf cX12_throwsIf 3 (some .boolean), .methodLink RX12 224 yX12_throwsIf, .instanceMethod yX12_throwsIf, .selects RX12 yX12_throwsIf yX12_throwsIf, .methodLink RL 265 yX12_rules, .instanceMethod yX12_rules, .selects RX12 yX12_rules yX12_rules, .code yX12_thrown cX12_thrown 1 (some .int), .methodLink RL 187 yX12_thrown, .instanceMethod yX12_thrown, .selects RX12 yX12_thrown yX12_thrown] ++ bs)
set_option maxRecDepth 100000 in
theorem wm_24 : ∀ w ∈ w_law_24, w ∈ lw_tbl := lw_ins wl_110 (lw_cons wl_1569 (lw_cons wl_1573 (lw_cons wl_1545 (lw_cons wl_591 (lw_cons wl_902 (lw_cons wl_900 (lw_cons wl_901 (lw_cons wl_111 (lw_cons wl_903 (lw_cons wl_126 (lw_cons wl_1542 (lw_cons wl_1544 (lw_cons wl_30 (lw_cons wl_1570 (lw_cons wl_1571 (lw_cons wl_1572 (lw_cons wl_811 (lw_cons wl_1567 (lw_cons wl_1568 (lw_cons wl_110 (lw_cons wl_2568 (lw_cons wl_1969 (lw_cons wl_2572 (lw_cons wl_2011 (lw_cons wl_2217 (lw_cons wl_2215 (lw_cons wl_2216 (lw_cons wl_122 (lw_cons wl_2569 (lw_cons wl_2571 (lw_cons wl_94 (lw_cons wl_2221 (lw_cons wl_2218 (lw_cons wl_2220 (lw_cons wl_44 (lw_cons wl_2565 (lw_cons wl_2566 (lw_cons wl_2567 (lw_cons wl_2207 (lw_cons wl_2204 (lw_cons wl_2205 (lw_cons wl_2206 lw_nil))))))))))))))))))))))))))))))))))))))))))
set_option maxHeartbeats 4000000 in
set_option maxRecDepth 100000 in
/-- rules -/
theorem law_24 {p : Program} {e : Env} {s : State} {m : MethodId} {below : List Frame} {meth : Method} {c : Code} (l : Launch) (hlt : l.stackTraces = false) {b : Nat} {xs : Nat → Int32} {A : Nat → Prop} (hx : p.tables.exec = Jvm.exec) (hb : c.code = code) (hr : meth.sig.returnType = ret) (hml : c.maxLocals = 7) (hown : s.vm.findClass RL = some m.cls) (hts : ∀ w ∈ w_law_24, w.before #[Value.ref b] s = true) (hX : va_X b 8 xs s s.heap) (hbl : b < s.heap.size) (hbA : ¬ A b) (hlocks : meth.locks = false) (hE : EV A s s.heap) (hN : NC s) (hA : ∀ q : Nat, s.heap.size ≤ q → A q) (hAi : ∀ q : Nat, A q → s.heap.size ≤ q) {dC : Nat → ClassId} {dI : Nat → Nat → Nat} (a : Nat → Nat) (k : Nat → ClassId) (h0 : Nat) (q : Nat → Nat) (cm : Nat → ClassId) (o0 : Nat) (ko : ClassId) (H : Heap) (locs : List Loc) (hK : va_K (dC, dI) vwCl [(ko, .long)] s) (hP : va_P (dC, dI) vwCl [(a 0, .inr (14, [.ref (a 1), .ref (a 2), .ref (a 27), .ref (a 30), .ref (a 74), .ref (a 75), .null, .int 0, .int 0])), (a 30, .inr (3, [.ref (a 31), .ref (a 32), .ref (a 33), .ref (a 34), .ref (a 35), .ref (a 36), .ref (a 37), .ref (a 38), .ref (a 50), .ref (a 62), .int (-1), .int 0, .long 0, .long 0, .int 0, .int 0, .int 0, .int 0])), (o0, .inl (ko, 1, .inr (.inl (fun _ => 0)))), (h0, .inr (15, mF q 0))] H) (hD : va_D A [(a 0, .inr (14, [.ref (a 1), .ref (a 2), .ref (a 27), .ref (a 30), .ref (a 74), .ref (a 75), .null, .int 0, .int 0])), (a 30, .inr (3, [.ref (a 31), .ref (a 32), .ref (a 33), .ref (a 34), .ref (a 35), .ref (a 36), .ref (a 37), .ref (a 38), .ref (a 50), .ref (a 62), .int (-1), .int 0, .long 0, .long 0, .int 0, .int 0, .int 0, .int 0])), (o0, .inl (ko, 1, .inr (.inl (fun _ => 0)))), (h0, .inr (15, mF q 0))]) (hS : va_S A s.heap H locs) (ls : Array Slot) (hl : lv_has ls 7 [(0, .ref b), (1, .ref (a 0)), (2, .ref h0), (3, .ref o0), (4, .int 0)]) : W p l e room_1 s m #[Value.ref b] below meth c H locs 238 27427 (lw_Z below #[Value.ref b] s) (F0 m 1931 ls []) := by
  refine lv_aload_n hx hb dL_law_1931 rfl (lv_at hl 1 rfl) ?_
  refine lv_aload_n hx hb dL_law_1932 rfl (lv_at hl 0 rfl) ?_
  refine lv_iload hx hb dL_law_1933 (lv_at hl 4 rfl) ?_
  refine lv_iconst (v := 1) hx hb dL_law_1935 (by decide) ?_
  refine lv_iadd hx hb dL_law_1936 ?_
  refine lv_topi (fun x1 ex1 => ?_)
  obtain rfl : x1 = 1 := ex1.trans (by decide)
  refine va_sld hx hb hX hbl hbA hS (i := 1) (by unfold vp_in; decide) dL_law_1937 ?_
  refine lv_topi (fun x2 ex2 => ?_)
  obtain rfl : xs 1 = x2 := (ex2).symm
  refine lv_aload_n hx hb dL_law_1938 rfl (lv_at hl 0 rfl) ?_
  refine lv_iload hx hb dL_law_1939 (lv_at hl 4 rfl) ?_
  refine lv_iconst (v := 2) hx hb dL_law_1941 (by decide) ?_
  refine lv_iadd hx hb dL_law_1942 ?_
  refine lv_topi (fun x3 ex3 => ?_)
  obtain rfl : x3 = 2 := ex3.trans (by decide)
  refine va_sld hx hb hX hbl hbA hS (i := 2) (by unfold vp_in; decide) dL_law_1943 ?_
  refine lv_topi (fun x4 ex4 => ?_)
  obtain rfl : xs 2 = x4 := (ex4).symm
  refine lv_aload_n hx hb dL_law_1944 rfl (lv_at hl 3 rfl) ?_
  have hPc := hP.sub (ws' := [(a 0, .inr (14, [.ref (a 1), .ref (a 2), .ref (a 27), .ref (a 30), .ref (a 74), .ref (a 75), .null, .int 0, .int 0])), (a 30, .inr (3, [.ref (a 31), .ref (a 32), .ref (a 33), .ref (a 34), .ref (a 35), .ref (a 36), .ref (a 37), .ref (a 38), .ref (a 50), .ref (a 62), .int (-1), .int 0, .long 0, .long 0, .int 0, .int 0, .int 0, .int 0])), (o0, .inl (ko, 1, .inr (.inl (fun _ => 0))))]) [0, 1, 2] rfl
  have hDc := hD.sub (ws' := [(a 0, .inr (14, [.ref (a 1), .ref (a 2), .ref (a 27), .ref (a 30), .ref (a 74), .ref (a 75), .null, .int 0, .int 0])), (a 30, .inr (3, [.ref (a 31), .ref (a 32), .ref (a 33), .ref (a 34), .ref (a 35), .ref (a 36), .ref (a 37), .ref (a 38), .ref (a 50), .ref (a 62), .int (-1), .int 0, .long 0, .long 0, .int 0, .int 0, .int 0, .int 0])), (o0, .inl (ko, 1, .inr (.inl (fun _ => 0))))]) [0, 1, 2] (by decide) rfl
  have hKc := hK.sub (tys' := [(ko, .long)]) [0] rfl
  have hFc := va_free (wc := [(a 0, .inr (14, [.ref (a 1), .ref (a 2), .ref (a 27), .ref (a 30), .ref (a 74), .ref (a 75), .null, .int 0, .int 0])), (a 30, .inr (3, [.ref (a 31), .ref (a 32), .ref (a 33), .ref (a 34), .ref (a 35), .ref (a 36), .ref (a 37), .ref (a 38), .ref (a 50), .ref (a 62), .int (-1), .int 0, .long 0, .long 0, .int 0, .int 0, .int 0, .int 0])), (o0, .inl (ko, 1, .inr (.inl (fun _ => 0))))]) hD hS hA [0, 1, 2] rfl
  refine va_calli (vx_runSW (As := [.ref (a 0), .int (xs 1), .int (xs 2), .ref o0]) (rest := []) ⟨hx, hb, hml, hown, hts⟩ (l_rules l hlt dC dI a k o0 ko (fun _ => 0) (xs 1) (xs 2) H.size ) (vx_cwSW 4 hts (goodIn_app (goodIn_r _ [18, 19, 20] (by decide +kernel) (by decide +kernel)) (goodIn_ca (goodIn_r _ [1, 2, 3, 4, 5, 6, 7, 8, 9, 10, 11, 12, 13, 14, 15, 16, 17] (by decide +kernel) (by decide +kernel)) (bs_in _ _))) rfl rfl rfl (by decide +kernel) ⟨(Nat.le_of_ble_eq_true rfl), (Nat.le_of_ble_eq_true rfl)⟩) ⟨fun a U g mk q => by obtain ⟨q0, q1, qP, qK, qD, qE, qN⟩ := q; exact ⟨q0, q1, qP, va_K.moved (u := U) (U := U.calling g mk a) (Vm.Alike.refl U.vm) qK, qD, EV.blind g mk a qE, NC.blind g mk a qN⟩, fun U hU hW => ⟨rfl, by rw [hU], by rw [hU]; exact hPc, va_K.moved hW.alike hKc, hDc.weaken (fun _ _ _ _ => trivial), hE.call hS hFc hU hW, hN.call hW⟩⟩ rfl rfl hl.1 rfl (lv_room (Nat.le_of_ble_eq_true rfl)) dL_law_1945 ⟨(Nat.le_of_ble_eq_true rfl), (Nat.le_of_ble_eq_true rfl)⟩) hS (fun q _ h => hFc q h) hFc (fun r6 u t H1 locs ht hvm hw7 hB hz1 hk1 hS => ?_)
  obtain ⟨fu8, rfl⟩ : ∃ z, z = u := ⟨_, rfl⟩
  obtain ⟨hP1, hD1⟩ := hB
  rw [ht] at hP1
  obtain ⟨hP, hD⟩ := va_join (wr := [(h0, .inr (15, mF q 0))]) (w1 := [(o0, .inl (ko, 1, .inr (.inl fu8)))]) hP hD [0, 1, 2] [3] rfl rfl (by decide) (by decide) hk1 hFc hP1 hD1
  generalize H1 = H at hP hS ⊢
  have hP : va_P (dC, dI) vwCl [(h0, .inr (15, mF q 0)), (o0, .inl (ko, 1, .inr (.inl fu8)))] H := hP
  have hD : va_D A [(h0, .inr (15, mF q 0)), (o0, .inl (ko, 1, .inr (.inl fu8)))] := hD
  try dsimp only at hw7
  obtain rfl : 1 = r6 := hw7.symm
  refine lv_istore (lv' := [(5, .int 1), (0, .ref b), (1, .ref (a 0)), (2, .ref h0), (3, .ref o0), (4, .int 0)]) hx hb dL_law_1948 hl (by decide) rfl (fun ls hl => ?_)
  refine lv_aload_n hx hb dL_law_1950 rfl (lv_at hl 3 rfl) ?_
  refine lv_aload_n hx hb dL_law_1951 rfl (lv_at hl 1 rfl) ?_
  refine lv_iload hx hb dL_law_1952 (lv_at hl 5 rfl) ?_
  refine lv_iconst (v := 1) hx hb dL_law_1954 (by decide) ?_
  refine lv_iadd hx hb dL_law_1955 ?_
  refine lv_topi (fun x9 ex9 => ?_)
  obtain rfl : x9 = 1 := ex9.trans (by decide)
  refine va_sld hx hb hX hbl hbA hS (i := 1) (by unfold vp_in; decide) dL_law_1956 ?_
  refine lv_topi (fun x10 ex10 => ?_)
  obtain rfl : xs 1 = x10 := (ex10).symm
  refine lv_aload_n hx hb dL_law_1957 rfl (lv_at hl 1 rfl) ?_
  refine lv_iload hx hb dL_law_1958 (lv_at hl 5 rfl) ?_
  refine lv_iconst (v := 2) hx hb dL_law_1960 (by decide) ?_
  refine lv_iadd hx hb dL_law_1961 ?_
  refine lv_topi (fun x11 ex11 => ?_)
  obtain rfl : x11 = 2 := ex11.trans (by decide)
  refine va_sld hx hb hX hbl hbA hS (i := 2) (by unfold vp_in; decide) dL_law_1962 ?_
  refine lv_topi (fun x12 ex12 => ?_)
  obtain rfl : xs 2 = x12 := (ex12).symm
  have hPc := hP.sub (ws' := [(h0, .inr (15, mF q 0))]) [0] rfl
  have hDc := hD.sub (ws' := [(h0, .inr (15, mF q 0))]) [0] (by decide) rfl
  have hKc := hK.sub (tys' := []) [] rfl
  have hFc := va_free (wc := [(h0, .inr (15, mF q 0))]) hD hS hA [0] rfl
  refine va_calli (va_runV (As := [.int (xs 1), .int (xs 2)]) (rest := []) ⟨hx, hb, hml, hown, hts⟩ (m_rules l dC dI h0 q cm (xs 1) (xs 2) H.size ) (cwV 2 hts (goodIn_app (goodIn_r _ [36, 37, 38, 28] (by decide +kernel) (by decide +kernel)) (goodIn_ca (goodIn_r _ [21, 22, 23, 24, 25, 26, 27, 28, 29, 30, 31, 32, 33, 34, 35] (by decide +kernel) (by decide +kernel)) (bs_in _ _))) rfl rfl rfl (by decide +kernel) ⟨(Nat.le_of_ble_eq_true rfl), (Nat.le_of_ble_eq_true rfl)⟩) ⟨fun a U g mk q => by obtain ⟨q0, q1, qP, qK, qD⟩ := q; exact ⟨q0, q1, qP, va_K.moved (u := U) (U := U.calling g mk a) (Vm.Alike.refl U.vm) qK, qD⟩, va_recv hKc hPc (ci := 15) (q0 := 0) rfl rfl, fun U hU hW => ⟨rfl, by rw [hU], by rw [hU]; exact hPc, va_K.moved hW.alike hKc, hDc.weaken (fun _ _ _ _ => trivial)⟩⟩ rfl rfl hl.1 rfl (lv_room (Nat.le_of_ble_eq_true rfl)) dL_law_1963 ⟨(Nat.le_of_ble_eq_true rfl), (Nat.le_of_ble_eq_true rfl)⟩) hS (fun q _ h => hFc q h) hFc (fun r14 u t H1 locs ht hvm hw15 hB hz1 hk1 hS => ?_)
  obtain ⟨fs16, rfl⟩ : ∃ z, z = u := ⟨_, rfl⟩
  obtain ⟨hP1, hD1⟩ := hB
  rw [ht] at hP1
  obtain ⟨hP, hD⟩ := va_join (wr := [(o0, .inl (ko, 1, .inr (.inl fu8)))]) (w1 := [(h0, .inr (15, fs16))]) hP hD [0] [1] rfl rfl (by decide) (by decide) hk1 hFc hP1 hD1
  generalize H1 = H at hP hS ⊢
  have hP : va_P (dC, dI) vwCl [(o0, .inl (ko, 1, .inr (.inl fu8))), (h0, .inr (15, fs16))] H := hP
  have hD : va_D A [(o0, .inl (ko, 1, .inr (.inl fu8))), (h0, .inr (15, fs16))] := hD
  try dsimp only at hw15
  refine lv_istore (lv' := [(6, .int r14), (5, .int 1), (0, .ref b), (1, .ref (a 0)), (2, .ref h0), (3, .ref o0), (4, .int 0)]) hx hb dL_law_1966 hl (by decide) rfl (fun ls hl => ?_)
  refine lv_aload_n hx hb dL_law_1968 rfl (lv_at hl 4 rfl) ?_
  have hPc := hP.sub (ws' := [(h0, .inr (15, fs16))]) [1] rfl
  have hDc := hD.sub (ws' := [(h0, .inr (15, fs16))]) [1] (by decide) rfl
  have hKc := hK.sub (tys' := []) [] rfl
  have hFc := va_free (wc := [(h0, .inr (15, fs16))]) hD hS hA [1] rfl
  refine va_calli (va_runV (As := []) (rest := []) ⟨hx, hb, hml, hown, hts⟩ (m_thrown l dC dI h0 fs16 1 H.size hw15) (cwV 0 hts (goodIn_app (goodIn_r _ [40, 41, 42, 28] (by decide +kernel) (by decide +kernel)) (goodIn_ca (goodIn_r _ [39, 22] (by decide +kernel) (by decide +kernel)) (bs_in _ _))) rfl rfl rfl (by decide +kernel) ⟨(Nat.le_of_ble_eq_true rfl), (Nat.le_of_ble_eq_true rfl)⟩) ⟨fun a U g mk q => by obtain ⟨q0, q1, qP, qK, qD⟩ := q; exact ⟨q0, q1, qP, va_K.moved (u := U) (U := U.calling g mk a) (Vm.Alike.refl U.vm) qK, qD⟩, va_recv hKc hPc (ci := 15) (q0 := 0) rfl rfl, fun U hU hW => ⟨rfl, by rw [hU], by rw [hU]; exact hPc, va_K.moved hW.alike hKc, hDc.weaken (fun _ _ _ _ => trivial)⟩⟩ rfl rfl hl.1 rfl (lv_room (Nat.le_of_ble_eq_true rfl)) dL_law_1969 ⟨(Nat.le_of_ble_eq_true rfl), (Nat.le_of_ble_eq_true rfl)⟩) hS (fun q _ h => hFc q h) hFc (fun r18 u t H1 locs ht hvm hw19 hB hz1 hk1 hS => ?_)
  have hP1 : va_P (dC, dI) vwCl [] H1 := nilP
  have hD1 : va_D (va_A [(h0, .inr (15, fs16))] H.size) [] := nilD
  have hK := hK
  obtain ⟨hP, hD⟩ := va_join (wr := [(o0, .inl (ko, 1, .inr (.inl fu8)))]) (w1 := []) hP hD [1] [0] rfl rfl (by decide) (by decide) hk1 hFc hP1 hD1
  generalize H1 = H at hP hS ⊢
  have hP : va_P (dC, dI) vwCl [(o0, .inl (ko, 1, .inr (.inl fu8)))] H := hP
  have hD : va_D A [(o0, .inl (ko, 1, .inr (.inl fu8)))] := hD
  try dsimp only at hw19
  obtain rfl : 1 = r18 := hw19.symm
  refine lv_iload hx hb dL_law_1972 (lv_at hl 1 rfl) ?_
  refine lv_icmp_eq (tgt := 1979) hx hb dL_law_1974 (by decide) (fun c20 => ?_) (fun c20 => absurd c20 (by decide))
  refine lv_iload hx hb dL_law_1979 (lv_at hl 1 rfl) ?_
  refine lv_if_ne (tgt := 1996) hx hb dL_law_1981 (by decide) (fun c21 => ?_) (fun c21 => absurd c21 (by decide))
  refine lv_goto (tgt := 3762) hx hb dL_law_1996 (by decide) ?_
  exact law_tail hx hb hr hlocks hX hbl hbA hAi hS (Nat.le_of_ble_eq_true rfl) (Nat.le_of_ble_eq_true rfl) ls (lv_sub hl [2, 6] rfl)
def w_law_25 : List Cond := .initialized RL :: ([.codeWith yL_why cL_why 5 (some .int) [(0, 10, 13, 13), (0, 10, 17, 39)], .code yX11_why cX11_why 4 (some .int), .code yX11_settlerOf cX11_settlerOf 2 (some (.object "SeaLand$Settler")), .fieldLink RX11 30 "SeaLand" "board" "LSeaLand$Board;", .code yX11_within cX11_within 3 (some .boolean), .methodLink RX11 58 yX11_within, .static yX11_within, .initialized RX11, .classLink RX11 557 "java/lang/IndexOutOfBoundsException", .initialized "java/lang/IndexOutOfBoundsException", .methodLink RX11 292 yX11_settlerOf, .instanceMethod yX11_settlerOf, .selects RX11 yX11_settlerOf yX11_settlerOf, .methodLink RL 101 yX11_why, .instanceMethod yX11_why, .selects RX11 yX11_why yX11_why, .classLink RL 13 "java/lang/IndexOutOfBoundsException", .methodLink RL 266 yL_why, .static yL_why, .initialized RL, .code yX12_why cX12_why 4 (some .int), .fieldLink RX12 194 "SeaLandModel" "thrown" "I", .code yX12_nobody cX12_nobody 2 (some .boolean), .fieldLink RX12 495 "SeaLandModel" "settlers" "I", .code yX12_in cX12_in 3 (some .boolean), .methodLink RX12 197 yX12_in, .static yX12_in, .initialized RX12, .methodLink RX12 486 yX12_nobody, .instanceMethod yX12_nobody, .selects RX12 yX12_nobody yX12_nobody, .code yX12_throwsIf cX12_throwsIf 3 (some .boolean), .methodLink RX12 224 yX12_throwsIf, .instanceMethod yX12_throwsIf, .selects RX12 yX12_throwsIf yX12_throwsIf, .methodLink RL 268 yX12_why, .instanceMethod yX12_why, .selects RX12 yX12_why yX12_why, .code yX12_thrown cX12_thrown 1 (some .int), .methodLink RL 187 yX12_thrown, .instanceMethod yX12_thrown, .selects RX12 yX12_thrown yX12_thrown] ++ bs)
set_option maxRecDepth 100000 in
theorem wm_25 : ∀ w ∈ w_law_25, w ∈ lw_tbl := lw_ins wl_110 (lw_cons wl_1581 (lw_cons wl_1585 (lw_cons wl_1545 (lw_cons wl_591 (lw_cons wl_902 (lw_cons wl_900 (lw_cons wl_901 (lw_cons wl_111 (lw_cons wl_903 (lw_cons wl_126 (lw_cons wl_1542 (lw_cons wl_1544 (lw_cons wl_30 (lw_cons wl_1582 (lw_cons wl_1583 (lw_cons wl_1584 (lw_cons wl_811 (lw_cons wl_1579 (lw_cons wl_1580 (lw_cons wl_110 (lw_cons wl_2602 (lw_cons wl_1969 (lw_cons wl_2572 (lw_cons wl_2011 (lw_cons wl_2217 (lw_cons wl_2215 (lw_cons wl_2216 (lw_cons wl_122 (lw_cons wl_2569 (lw_cons wl_2571 (lw_cons wl_94 (lw_cons wl_2221 (lw_cons wl_2218 (lw_cons wl_2220 (lw_cons wl_44 (lw_cons wl_2599 (lw_cons wl_2600 (lw_cons wl_2601 (lw_cons wl_2207 (lw_cons wl_2204 (lw_cons wl_2205 (lw_cons wl_2206 lw_nil))))))))))))))))))))))))))))))))))))))))))
set_option maxHeartbeats 4000000 in
set_option maxRecDepth 100000 in
/-- why -/
theorem law_25 {p : Program} {e : Env} {s : State} {m : MethodId} {below : List Frame} {meth : Method} {c : Code} (l : Launch) (hlt : l.stackTraces = false) {b : Nat} {xs : Nat → Int32} {A : Nat → Prop} (hx : p.tables.exec = Jvm.exec) (hb : c.code = code) (hr : meth.sig.returnType = ret) (hml : c.maxLocals = 7) (hown : s.vm.findClass RL = some m.cls) (hts : ∀ w ∈ w_law_25, w.before #[Value.ref b] s = true) (hX : va_X b 8 xs s s.heap) (hbl : b < s.heap.size) (hbA : ¬ A b) (hlocks : meth.locks = false) (hE : EV A s s.heap) (hN : NC s) (hA : ∀ q : Nat, s.heap.size ≤ q → A q) (hAi : ∀ q : Nat, A q → s.heap.size ≤ q) {dC : Nat → ClassId} {dI : Nat → Nat → Nat} (a : Nat → Nat) (k : Nat → ClassId) (h0 : Nat) (q : Nat → Nat) (cm : Nat → ClassId) (o0 : Nat) (ko : ClassId) (H : Heap) (locs : List Loc) (hK : va_K (dC, dI) vwCl [(ko, .long)] s) (hP : va_P (dC, dI) vwCl [(a 0, .inr (14, [.ref (a 1), .ref (a 2), .ref (a 27), .ref (a 30), .ref (a 74), .ref (a 75), .null, .int 0, .int 0])), (a 30, .inr (3, [.ref (a 31), .ref (a 32), .ref (a 33), .ref (a 34), .ref (a 35), .ref (a 36), .ref (a 37), .ref (a 38), .ref (a 50), .ref (a 62), .int (-1), .int 0, .long 0, .long 0, .int 0, .int 0, .int 0, .int 0])), (o0, .inl (ko, 1, .inr (.inl (fun _ => 0)))), (h0, .inr (15, mF q 0))] H) (hD : va_D A [(a 0, .inr (14, [.ref (a 1), .ref (a 2), .ref (a 27), .ref (a 30), .ref (a 74), .ref (a 75), .null, .int 0, .int 0])), (a 30, .inr (3, [.ref (a 31), .ref (a 32), .ref (a 33), .ref (a 34), .ref (a 35), .ref (a 36), .ref (a 37), .ref (a 38), .ref (a 50), .ref (a 62), .int (-1), .int 0, .long 0, .long 0, .int 0, .int 0, .int 0, .int 0])), (o0, .inl (ko, 1, .inr (.inl (fun _ => 0)))), (h0, .inr (15, mF q 0))]) (hS : va_S A s.heap H locs) (ls : Array Slot) (hl : lv_has ls 7 [(0, .ref b), (1, .ref (a 0)), (2, .ref h0), (3, .ref o0), (4, .int 0)]) : W p l e room_1 s m #[Value.ref b] below meth c H locs 238 27427 (lw_Z below #[Value.ref b] s) (F0 m 1999 ls []) := by
  refine lv_aload_n hx hb dL_law_1999 rfl (lv_at hl 1 rfl) ?_
  refine lv_aload_n hx hb dL_law_2000 rfl (lv_at hl 0 rfl) ?_
  refine lv_iload hx hb dL_law_2001 (lv_at hl 4 rfl) ?_
  refine lv_iconst (v := 1) hx hb dL_law_2003 (by decide) ?_
  refine lv_iadd hx hb dL_law_2004 ?_
  refine lv_topi (fun x1 ex1 => ?_)
  obtain rfl : x1 = 1 := ex1.trans (by decide)
  refine va_sld hx hb hX hbl hbA hS (i := 1) (by unfold vp_in; decide) dL_law_2005 ?_
  refine lv_topi (fun x2 ex2 => ?_)
  obtain rfl : xs 1 = x2 := (ex2).symm
  refine lv_aload_n hx hb dL_law_2006 rfl (lv_at hl 0 rfl) ?_
  refine lv_iload hx hb dL_law_2007 (lv_at hl 4 rfl) ?_
  refine lv_iconst (v := 2) hx hb dL_law_2009 (by decide) ?_
  refine lv_iadd hx hb dL_law_2010 ?_
  refine lv_topi (fun x3 ex3 => ?_)
  obtain rfl : x3 = 2 := ex3.trans (by decide)
  refine va_sld hx hb hX hbl hbA hS (i := 2) (by unfold vp_in; decide) dL_law_2011 ?_
  refine lv_topi (fun x4 ex4 => ?_)
  obtain rfl : xs 2 = x4 := (ex4).symm
  refine lv_aload_n hx hb dL_law_2012 rfl (lv_at hl 3 rfl) ?_
  have hPc := hP.sub (ws' := [(a 0, .inr (14, [.ref (a 1), .ref (a 2), .ref (a 27), .ref (a 30), .ref (a 74), .ref (a 75), .null, .int 0, .int 0])), (a 30, .inr (3, [.ref (a 31), .ref (a 32), .ref (a 33), .ref (a 34), .ref (a 35), .ref (a 36), .ref (a 37), .ref (a 38), .ref (a 50), .ref (a 62), .int (-1), .int 0, .long 0, .long 0, .int 0, .int 0, .int 0, .int 0])), (o0, .inl (ko, 1, .inr (.inl (fun _ => 0))))]) [0, 1, 2] rfl
  have hDc := hD.sub (ws' := [(a 0, .inr (14, [.ref (a 1), .ref (a 2), .ref (a 27), .ref (a 30), .ref (a 74), .ref (a 75), .null, .int 0, .int 0])), (a 30, .inr (3, [.ref (a 31), .ref (a 32), .ref (a 33), .ref (a 34), .ref (a 35), .ref (a 36), .ref (a 37), .ref (a 38), .ref (a 50), .ref (a 62), .int (-1), .int 0, .long 0, .long 0, .int 0, .int 0, .int 0, .int 0])), (o0, .inl (ko, 1, .inr (.inl (fun _ => 0))))]) [0, 1, 2] (by decide) rfl
  have hKc := hK.sub (tys' := [(ko, .long)]) [0] rfl
  have hFc := va_free (wc := [(a 0, .inr (14, [.ref (a 1), .ref (a 2), .ref (a 27), .ref (a 30), .ref (a 74), .ref (a 75), .null, .int 0, .int 0])), (a 30, .inr (3, [.ref (a 31), .ref (a 32), .ref (a 33), .ref (a 34), .ref (a 35), .ref (a 36), .ref (a 37), .ref (a 38), .ref (a 50), .ref (a 62), .int (-1), .int 0, .long 0, .long 0, .int 0, .int 0, .int 0, .int 0])), (o0, .inl (ko, 1, .inr (.inl (fun _ => 0))))]) hD hS hA [0, 1, 2] rfl
  refine va_calli (vx_runSW (As := [.ref (a 0), .int (xs 1), .int (xs 2), .ref o0]) (rest := []) ⟨hx, hb, hml, hown, hts⟩ (l_why l hlt dC dI a k o0 ko (fun _ => 0) (xs 1) (xs 2) H.size ) (vx_cwSW 4 hts (goodIn_app (goodIn_r _ [18, 19, 20] (by decide +kernel) (by decide +kernel)) (goodIn_ca (goodIn_r _ [1, 2, 3, 4, 5, 6, 7, 8, 9, 10, 11, 12, 13, 14, 15, 16, 17] (by decide +kernel) (by decide +kernel)) (bs_in _ _))) rfl rfl rfl (by decide +kernel) ⟨(Nat.le_of_ble_eq_true rfl), (Nat.le_of_ble_eq_true rfl)⟩) ⟨fun a U g mk q => by obtain ⟨q0, q1, qP, qK, qD, qE, qN⟩ := q; exact ⟨q0, q1, qP, va_K.moved (u := U) (U := U.calling g mk a) (Vm.Alike.refl U.vm) qK, qD, EV.blind g mk a qE, NC.blind g mk a qN⟩, fun U hU hW => ⟨rfl, by rw [hU], by rw [hU]; exact hPc, va_K.moved hW.alike hKc, hDc.weaken (fun _ _ _ _ => trivial), hE.call hS hFc hU hW, hN.call hW⟩⟩ rfl rfl hl.1 rfl (lv_room (Nat.le_of_ble_eq_true rfl)) dL_law_2013 ⟨(Nat.le_of_ble_eq_true rfl), (Nat.le_of_ble_eq_true rfl)⟩) hS (fun q _ h => hFc q h) hFc (fun r6 u t H1 locs ht hvm hw7 hB hz1 hk1 hS => ?_)
  obtain ⟨fu8, rfl⟩ : ∃ z, z = u := ⟨_, rfl⟩
  obtain ⟨hP1, hD1⟩ := hB
  rw [ht] at hP1
  obtain ⟨hP, hD⟩ := va_join (wr := [(h0, .inr (15, mF q 0))]) (w1 := [(o0, .inl (ko, 1, .inr (.inl fu8)))]) hP hD [0, 1, 2] [3] rfl rfl (by decide) (by decide) hk1 hFc hP1 hD1
  generalize H1 = H at hP hS ⊢
  have hP : va_P (dC, dI) vwCl [(h0, .inr (15, mF q 0)), (o0, .inl (ko, 1, .inr (.inl fu8)))] H := hP
  have hD : va_D A [(h0, .inr (15, mF q 0)), (o0, .inl (ko, 1, .inr (.inl fu8)))] := hD
  try dsimp only at hw7
  obtain rfl : 1 = r6 := hw7.symm
  refine lv_istore (lv' := [(5, .int 1), (0, .ref b), (1, .ref (a 0)), (2, .ref h0), (3, .ref o0), (4, .int 0)]) hx hb dL_law_2016 hl (by decide) rfl (fun ls hl => ?_)
  refine lv_aload_n hx hb dL_law_2018 rfl (lv_at hl 3 rfl) ?_
  refine lv_aload_n hx hb dL_law_2019 rfl (lv_at hl 1 rfl) ?_
  refine lv_iload hx hb dL_law_2020 (lv_at hl 5 rfl) ?_
  refine lv_iconst (v := 1) hx hb dL_law_2022 (by decide) ?_
  refine lv_iadd hx hb dL_law_2023 ?_
  refine lv_topi (fun x9 ex9 => ?_)
  obtain rfl : x9 = 1 := ex9.trans (by decide)
  refine va_sld hx hb hX hbl hbA hS (i := 1) (by unfold vp_in; decide) dL_law_2024 ?_
  refine lv_topi (fun x10 ex10 => ?_)
  obtain rfl : xs 1 = x10 := (ex10).symm
  refine lv_aload_n hx hb dL_law_2025 rfl (lv_at hl 1 rfl) ?_
  refine lv_iload hx hb dL_law_2026 (lv_at hl 5 rfl) ?_
  refine lv_iconst (v := 2) hx hb dL_law_2028 (by decide) ?_
  refine lv_iadd hx hb dL_law_2029 ?_
  refine lv_topi (fun x11 ex11 => ?_)
  obtain rfl : x11 = 2 := ex11.trans (by decide)
  refine va_sld hx hb hX hbl hbA hS (i := 2) (by unfold vp_in; decide) dL_law_2030 ?_
  refine lv_topi (fun x12 ex12 => ?_)
  obtain rfl : xs 2 = x12 := (ex12).symm
  have hPc := hP.sub (ws' := [(h0, .inr (15, mF q 0))]) [0] rfl
  have hDc := hD.sub (ws' := [(h0, .inr (15, mF q 0))]) [0] (by decide) rfl
  have hKc := hK.sub (tys' := []) [] rfl
  have hFc := va_free (wc := [(h0, .inr (15, mF q 0))]) hD hS hA [0] rfl
  refine va_calli (va_runV (As := [.int (xs 1), .int (xs 2)]) (rest := []) ⟨hx, hb, hml, hown, hts⟩ (m_why l dC dI h0 q cm (xs 1) (xs 2) H.size ) (cwV 2 hts (goodIn_app (goodIn_r _ [36, 37, 38, 28] (by decide +kernel) (by decide +kernel)) (goodIn_ca (goodIn_r _ [21, 22, 23, 24, 25, 26, 27, 28, 29, 30, 31, 32, 33, 34, 35] (by decide +kernel) (by decide +kernel)) (bs_in _ _))) rfl rfl rfl (by decide +kernel) ⟨(Nat.le_of_ble_eq_true rfl), (Nat.le_of_ble_eq_true rfl)⟩) ⟨fun a U g mk q => by obtain ⟨q0, q1, qP, qK, qD⟩ := q; exact ⟨q0, q1, qP, va_K.moved (u := U) (U := U.calling g mk a) (Vm.Alike.refl U.vm) qK, qD⟩, va_recv hKc hPc (ci := 15) (q0 := 0) rfl rfl, fun U hU hW => ⟨rfl, by rw [hU], by rw [hU]; exact hPc, va_K.moved hW.alike hKc, hDc.weaken (fun _ _ _ _ => trivial)⟩⟩ rfl rfl hl.1 rfl (lv_room (Nat.le_of_ble_eq_true rfl)) dL_law_2031 ⟨(Nat.le_of_ble_eq_true rfl), (Nat.le_of_ble_eq_true rfl)⟩) hS (fun q _ h => hFc q h) hFc (fun r14 u t H1 locs ht hvm hw15 hB hz1 hk1 hS => ?_)
  obtain ⟨fs16, rfl⟩ : ∃ z, z = u := ⟨_, rfl⟩
  obtain ⟨hP1, hD1⟩ := hB
  rw [ht] at hP1
  obtain ⟨hP, hD⟩ := va_join (wr := [(o0, .inl (ko, 1, .inr (.inl fu8)))]) (w1 := [(h0, .inr (15, fs16))]) hP hD [0] [1] rfl rfl (by decide) (by decide) hk1 hFc hP1 hD1
  generalize H1 = H at hP hS ⊢
  have hP : va_P (dC, dI) vwCl [(o0, .inl (ko, 1, .inr (.inl fu8))), (h0, .inr (15, fs16))] H := hP
  have hD : va_D A [(o0, .inl (ko, 1, .inr (.inl fu8))), (h0, .inr (15, fs16))] := hD
  try dsimp only at hw15
  refine lv_istore (lv' := [(6, .int r14), (5, .int 1), (0, .ref b), (1, .ref (a 0)), (2, .ref h0), (3, .ref o0), (4, .int 0)]) hx hb dL_law_2034 hl (by decide) rfl (fun ls hl => ?_)
  refine lv_aload_n hx hb dL_law_2036 rfl (lv_at hl 4 rfl) ?_
  have hPc := hP.sub (ws' := [(h0, .inr (15, fs16))]) [1] rfl
  have hDc := hD.sub (ws' := [(h0, .inr (15, fs16))]) [1] (by decide) rfl
  have hKc := hK.sub (tys' := []) [] rfl
  have hFc := va_free (wc := [(h0, .inr (15, fs16))]) hD hS hA [1] rfl
  refine va_calli (va_runV (As := []) (rest := []) ⟨hx, hb, hml, hown, hts⟩ (m_thrown l dC dI h0 fs16 1 H.size hw15) (cwV 0 hts (goodIn_app (goodIn_r _ [40, 41, 42, 28] (by decide +kernel) (by decide +kernel)) (goodIn_ca (goodIn_r _ [39, 22] (by decide +kernel) (by decide +kernel)) (bs_in _ _))) rfl rfl rfl (by decide +kernel) ⟨(Nat.le_of_ble_eq_true rfl), (Nat.le_of_ble_eq_true rfl)⟩) ⟨fun a U g mk q => by obtain ⟨q0, q1, qP, qK, qD⟩ := q; exact ⟨q0, q1, qP, va_K.moved (u := U) (U := U.calling g mk a) (Vm.Alike.refl U.vm) qK, qD⟩, va_recv hKc hPc (ci := 15) (q0 := 0) rfl rfl, fun U hU hW => ⟨rfl, by rw [hU], by rw [hU]; exact hPc, va_K.moved hW.alike hKc, hDc.weaken (fun _ _ _ _ => trivial)⟩⟩ rfl rfl hl.1 rfl (lv_room (Nat.le_of_ble_eq_true rfl)) dL_law_2037 ⟨(Nat.le_of_ble_eq_true rfl), (Nat.le_of_ble_eq_true rfl)⟩) hS (fun q _ h => hFc q h) hFc (fun r18 u t H1 locs ht hvm hw19 hB hz1 hk1 hS => ?_)
  have hP1 : va_P (dC, dI) vwCl [] H1 := nilP
  have hD1 : va_D (va_A [(h0, .inr (15, fs16))] H.size) [] := nilD
  have hK := hK
  obtain ⟨hP, hD⟩ := va_join (wr := [(o0, .inl (ko, 1, .inr (.inl fu8)))]) (w1 := []) hP hD [1] [0] rfl rfl (by decide) (by decide) hk1 hFc hP1 hD1
  generalize H1 = H at hP hS ⊢
  have hP : va_P (dC, dI) vwCl [(o0, .inl (ko, 1, .inr (.inl fu8)))] H := hP
  have hD : va_D A [(o0, .inl (ko, 1, .inr (.inl fu8)))] := hD
  try dsimp only at hw19
  obtain rfl : 1 = r18 := hw19.symm
  refine lv_iload hx hb dL_law_2040 (lv_at hl 1 rfl) ?_
  refine lv_icmp_eq (tgt := 2047) hx hb dL_law_2042 (by decide) (fun c20 => ?_) (fun c20 => absurd c20 (by decide))
  refine lv_iload hx hb dL_law_2047 (lv_at hl 1 rfl) ?_
  refine lv_if_ne (tgt := 2064) hx hb dL_law_2049 (by decide) (fun c21 => ?_) (fun c21 => absurd c21 (by decide))
  refine lv_goto (tgt := 3762) hx hb dL_law_2064 (by decide) ?_
  exact law_tail hx hb hr hlocks hX hbl hbA hAi hS (Nat.le_of_ble_eq_true rfl) (Nat.le_of_ble_eq_true rfl) ls (lv_sub hl [2, 6] rfl)
