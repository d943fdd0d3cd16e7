def w_law_45 : List Cond := .initialized RL :: (HAppend.hAppend (α := List Cond) (β := List Cond) (γ := List Cond) [.codeWith yL_job cL_job 7 (some .int) [(0, 14, 17, 15)], .code yX11_job cX11_job 5 (some .int), .constant RX11 411 1000000, .code yX11_within cX11_within 3 (some .boolean), .methodLink RX11 58 yX11_within, .static yX11_within, .initialized RX11, .code yX11_needNumbers cX11_needNumbers 1 none, .classLink RX11 547 "java/lang/IllegalArgumentException", .initialized "java/lang/IllegalArgumentException", .methodLink RX11 62 yX11_needNumbers, .static yX11_needNumbers, .constant RX11 96 100000, .fieldLink RX11 43 "SeaLand" "plans" "LSeaLand$Plans;", .code yX5_addJob cX5_addJob 5 (some .int), .fieldLink RX5 29 "SeaLand$Plans" "costs" "[I", .fieldLink RX5 154 "SeaLand$Plans" "jobs" "I", .fieldLink RX5 32 "SeaLand$Plans" "lasts" "[I", .fieldLink RX5 35 "SeaLand$Plans" "incomes" "[I", .fieldLink RX5 38 "SeaLand$Plans" "acres" "[I", .methodLink RX11 481 yX5_addJob, .instanceMethod yX5_addJob, .selects RX5 yX5_addJob yX5_addJob, .initialized RX5, .methodLink RL 157 yX11_job, .instanceMethod yX11_job, .selects RX11 yX11_job yX11_job, .classLink RL 15 "java/lang/IllegalArgumentException", .methodLink RL 326 yL_job, .static yL_job, .initialized RL, .code yX12_job cX12_job 5 (some .int), .fieldLink RX12 194 "SeaLandModel" "thrown" "I", .constant RX12 536 1000000, .code yX12_in cX12_in 3 (some .boolean), .methodLink RX12 197 yX12_in, .static yX12_in, .initialized RX12, .code yX12_throwsIf cX12_throwsIf 3 (some .boolean), .methodLink RX12 224 yX12_throwsIf, .instanceMethod yX12_throwsIf, .selects RX12 yX12_throwsIf yX12_throwsIf, .constant RX12 241 100000, .fieldLink RX12 553 "SeaLandModel" "jobs" "I", .fieldLink RX12 176 "SeaLandModel" "jCost" "[I", .fieldLink RX12 179 "SeaLandModel" "jYears" "[I", .fieldLink RX12 182 "SeaLandModel" "jBrings" "[I", .fieldLink RX12 185 "SeaLandModel" "jAcres" "[I", .methodLink RL 328 yX12_job, .instanceMethod yX12_job, .selects RX12 yX12_job yX12_job] bs2)
set_option maxHeartbeats 4000000 in
set_option maxRecDepth 100000 in
theorem law_45 {p : Program} {e : Env} {s : State} {m : MethodId} {below : List Frame} {meth : Method} {c : Code} {Q : State → Prop} (l : Launch) (hlt : l.stackTraces = false) {b L : Nat} {xs : Nat → Int32} {A : Nat → Prop} (hx : p.tables.exec = Jvm.exec) (hb : c.code = code) (hml : c.maxLocals = 7) (hown : s.vm.findClass RL = some m.cls) (hts : ∀ w ∈ w_law_45, w.before #[Value.ref b] s = true) (hX : va_X b L xs s s.heap) (hbl : b < s.heap.size) (hbA : ¬ A b) (hL : L ≤ 4096) {adK adV : Nat → Nat} (hE : EVC adK adV A s s.heap) (hN : NC s) (hAO : AO s) (hA : ∀ q : Nat, s.heap.size ≤ q → A q) {dC : Nat → ClassId} {dI : Nat → Nat → Nat} {kA : Nat → ClassId} (hK : va_K (dC, dI) vwCl (tyl kA) s) {Pr : Nat → Prop} {Gm : gT} {x h0 ou : Nat} (hPA : ∀ q, ¬ Pr q → A q) (hGP : ∀ a t, Gm a = some t → Pr a) (hGA : ∀ a t, Gm a = some t → A a) (n : Nat) (hn : n + 8 ≤ L) (H : Heap) (locs : List Loc) (cells slots : Nat) (hcl : cells + 1170 ≤ 603072) (hsl : slots + 14100 ≤ 7262314) (g : gz) (hC : CJ dC dI kA Pr g x ou H) (hR : RJ dC dI kA g h0 Gm H) (hPr : ∀ a, Pr a → a < H.size) (hS : va_S A s.heap H locs) (ls : Array Slot) (hl : lv_has ls 7 [(0, .ref b), (1, .ref x), (2, .ref h0), (3, .ref ou), (4, .int (nI n))]) (kk : ∀ (g : gz) (H : Heap) (locs : List Loc) (ls : Array Slot), CJ dC dI kA Pr g x ou H → RJ dC dI kA g h0 Gm H → (∀ a, Pr a → a < H.size) → va_S A s.heap H locs → lv_has ls 7 [(0, .ref b), (1, .ref x), (2, .ref h0), (3, .ref ou), (4, .int (nI n))] → W p l e room_1 s m #[Value.ref b] below meth c H locs (cells + 1170) (slots + 14100) Q (F0 m 2491 ls [])) : W p l e room_1 s m #[Value.ref b] below meth c H locs cells slots Q (F0 m 2218 ls []) := by
  refine lv_aload_n hx hb dL_law_2218 rfl (lv_at hl 1 rfl) ?_
  refine lv_aload_n hx hb dL_law_2219 rfl (lv_at hl 0 rfl) ?_
  refine lv_iload hx hb dL_law_2220 (lv_at hl 4 rfl) ?_
  refine lv_iconst (v := 1) hx hb dL_law_2222 (by decide) ?_
  refine lv_iadd hx hb dL_law_2223 ?_
  refine lv_topi (fun x21 ex21 => ?_)
  obtain rfl : nI (n + 1) = x21 := (ex21.trans (nI_add n 1)).symm
  refine va_sld hx hb hX hbl hbA hS (i := (nI (n + 1))) (vin_t (a := ((n + 1 : Nat) : Int)) (nI_toInt (by omega)) (by omega) (by omega)) dL_law_2224 ?_
  refine lv_topi (fun x22 ex22 => ?_)
  refine lv_aload_n hx hb dL_law_2225 rfl (lv_at hl 0 rfl) ?_
  refine lv_iload hx hb dL_law_2226 (lv_at hl 4 rfl) ?_
  refine lv_iconst (v := 2) hx hb dL_law_2228 (by decide) ?_
  refine lv_iadd hx hb dL_law_2229 ?_
  refine lv_topi (fun x23 ex23 => ?_)
  obtain rfl : nI (n + 2) = x23 := (ex23.trans (nI_add n 2)).symm
  refine va_sld hx hb hX hbl hbA hS (i := (nI (n + 2))) (vin_t (a := ((n + 2 : Nat) : Int)) (nI_toInt (by omega)) (by omega) (by omega)) dL_law_2230 ?_
  refine lv_topi (fun x24 ex24 => ?_)
  refine lv_aload_n hx hb dL_law_2231 rfl (lv_at hl 0 rfl) ?_
  refine lv_iload hx hb dL_law_2232 (lv_at hl 4 rfl) ?_
  refine lv_iconst (v := 3) hx hb dL_law_2234 (by decide) ?_
  refine lv_iadd hx hb dL_law_2235 ?_
  refine lv_topi (fun x25 ex25 => ?_)
  obtain rfl : nI (n + 3) = x25 := (ex25.trans (nI_add n 3)).symm
  refine va_sld hx hb hX hbl hbA hS (i := (nI (n + 3))) (vin_t (a := ((n + 3 : Nat) : Int)) (nI_toInt (by omega)) (by omega) (by omega)) dL_law_2236 ?_
  refine lv_topi (fun x26 ex26 => ?_)
  refine lv_aload_n hx hb dL_law_2237 rfl (lv_at hl 0 rfl) ?_
  refine lv_iload hx hb dL_law_2238 (lv_at hl 4 rfl) ?_
  refine lv_iconst (v := 4) hx hb dL_law_2240 (by decide) ?_
  refine lv_iadd hx hb dL_law_2241 ?_
  refine lv_topi (fun x27 ex27 => ?_)
  obtain rfl : nI (n + 4) = x27 := (ex27.trans (nI_add n 4)).symm
  refine va_sld hx hb hX hbl hbA hS (i := (nI (n + 4))) (vin_t (a := ((n + 4 : Nat) : Int)) (nI_toInt (by omega)) (by omega) (by omega)) dL_law_2242 ?_
  refine lv_topi (fun x28 ex28 => ?_)
  refine lv_aload_n hx hb dL_law_2243 rfl (lv_at hl 3 rfl) ?_
  have hFc := hPA
  refine va_calli (vx_runSW (As := [.ref x, .int x22, .int x24, .int x26, .int x28, .ref ou]) (rest := []) ⟨hx, hb, hml, hown, hts⟩ (k_job l hlt dC dI kA adK adV Pr H x ou x22 x24 x26 x28  hPr hC) (vx_cwSW 6 hts (goodIn_app (goodIn_r _ [29, 30, 31] rfl (by decide +kernel)) (goodIn_ca (goodIn_r _ [1, 2, 3, 4, 5, 6, 7, 8, 9, 10, 11, 12, 13, 14, 15, 16, 17, 18, 19, 20, 21, 22, 23, 24, 25, 26, 27, 28] rfl (by decide +kernel)) (bs2_in _ _))) rfl rfl rfl (by decide +kernel) ⟨(Nat.le_of_ble_eq_true rfl), (Nat.le_of_ble_eq_true rfl)⟩) ⟨fun a U g mk q => by obtain ⟨q0, q1, qK, qE, qN, qA⟩ := q; exact ⟨q0, q1, va_K.moved (u := U) (U := U.calling g mk a) (Vm.Alike.refl U.vm) qK, EVC.blind g mk a qE, NC.blind g mk a qN, AO.blind g mk a qA⟩, fun U hU hW => ⟨rfl, hU, va_K.moved hW.alike hK, hE.call hS hFc hU hW, hN.call hW, hAO.call hW⟩⟩ rfl rfl hl.1 rfl (lv_room (Nat.le_of_ble_eq_true rfl)) dL_law_2244 ⟨show cells + 1 ≤ 603072 from by omega, show slots + 6 ≤ 7262314 from by omega⟩) hS (fun q _ h => hFc q h) hFc (fun r29 u t H locs ht hvm hw hB hz1 hk1 hS => ?_)
  (try dsimp only at hB); rw [ht] at hB
  have hR := hR.kept (fun a t h => hk1 a (hPr a (hGP a t h)) (fun h9 => h9 (hGP a t h)))
  have hC := hB
  have hPr : ∀ a, Pr a → a < H.size := fun a h => Nat.lt_of_lt_of_le (hPr a h) hz1
  refine lv_istore (lv' := [(5, .int r29), (0, .ref b), (1, .ref x), (2, .ref h0), (3, .ref ou), (4, .int (nI n))]) hx hb dL_law_2247 hl (by decide) rfl (fun ls hl => ?_)
  refine lv_aload_n hx hb dL_law_2249 rfl (lv_at hl 3 rfl) ?_
  refine lv_aload_n hx hb dL_law_2250 rfl (lv_at hl 1 rfl) ?_
  refine lv_iload hx hb dL_law_2251 (lv_at hl 5 rfl) ?_
  refine lv_iconst (v := 1) hx hb dL_law_2253 (by decide) ?_
  refine lv_iadd hx hb dL_law_2254 ?_
  refine lv_topi (fun x30 ex30 => ?_)
  obtain rfl : nI (n + 1) = x30 := (ex30.trans (nI_add n 1)).symm
  refine va_sld hx hb hX hbl hbA hS (i := (nI (n + 1))) (vin_t (a := ((n + 1 : Nat) : Int)) (nI_toInt (by omega)) (by omega) (by omega)) dL_law_2255 ?_
  refine lv_topi (fun x31 ex31 => ?_)
  obtain rfl : x22 = x31 := by rw [ex31, ex22] <;> exact congrArg xs (tn_same (i := (nI (n + 1))) (j := (nI (n + 1))) (show (nI (n + 1)).toInt = ((n + 1 : Nat) : Int) from (nI_toInt (by omega))) (show (nI (n + 1)).toInt = ((n + 1 : Nat) : Int) from (nI_toInt (by omega))) (by omega))
  refine lv_aload_n hx hb dL_law_2256 rfl (lv_at hl 1 rfl) ?_
  refine lv_iload hx hb dL_law_2257 (lv_at hl 5 rfl) ?_
  refine lv_iconst (v := 2) hx hb dL_law_2259 (by decide) ?_
  refine lv_iadd hx hb dL_law_2260 ?_
  refine lv_topi (fun x32 ex32 => ?_)
  obtain rfl : nI (n + 2) = x32 := (ex32.trans (nI_add n 2)).symm
  refine va_sld hx hb hX hbl hbA hS (i := (nI (n + 2))) (vin_t (a := ((n + 2 : Nat) : Int)) (nI_toInt (by omega)) (by omega) (by omega)) dL_law_2261 ?_
  refine lv_topi (fun x33 ex33 => ?_)
  obtain rfl : x24 = x33 := by rw [ex33, ex24] <;> exact congrArg xs (tn_same (i := (nI (n + 2))) (j := (nI (n + 2))) (show (nI (n + 2)).toInt = ((n + 2 : Nat) : Int) from (nI_toInt (by omega))) (show (nI (n + 2)).toInt = ((n + 2 : Nat) : Int) from (nI_toInt (by omega))) (by omega))
  refine lv_aload_n hx hb dL_law_2262 rfl (lv_at hl 1 rfl) ?_
  refine lv_iload hx hb dL_law_2263 (lv_at hl 5 rfl) ?_
  refine lv_iconst (v := 3) hx hb dL_law_2265 (by decide) ?_
  refine lv_iadd hx hb dL_law_2266 ?_
  refine lv_topi (fun x34 ex34 => ?_)
  obtain rfl : nI (n + 3) = x34 := (ex34.trans (nI_add n 3)).symm
  refine va_sld hx hb hX hbl hbA hS (i := (nI (n + 3))) (vin_t (a := ((n + 3 : Nat) : Int)) (nI_toInt (by omega)) (by omega) (by omega)) dL_law_2267 ?_
  refine lv_topi (fun x35 ex35 => ?_)
  obtain rfl : x26 = x35 := by rw [ex35, ex26] <;> exact congrArg xs (tn_same (i := (nI (n + 3))) (j := (nI (n + 3))) (show (nI (n + 3)).toInt = ((n + 3 : Nat) : Int) from (nI_toInt (by omega))) (show (nI (n + 3)).toInt = ((n + 3 : Nat) : Int) from (nI_toInt (by omega))) (by omega))
  refine lv_aload_n hx hb dL_law_2268 rfl (lv_at hl 1 rfl) ?_
  refine lv_iload hx hb dL_law_2269 (lv_at hl 5 rfl) ?_
  refine lv_iconst (v := 4) hx hb dL_law_2271 (by decide) ?_
  refine lv_iadd hx hb dL_law_2272 ?_
  refine lv_topi (fun x36 ex36 => ?_)
  obtain rfl : nI (n + 4) = x36 := (ex36.trans (nI_add n 4)).symm
  refine va_sld hx hb hX hbl hbA hS (i := (nI (n + 4))) (vin_t (a := ((n + 4 : Nat) : Int)) (nI_toInt (by omega)) (by omega) (by omega)) dL_law_2273 ?_
  refine lv_topi (fun x37 ex37 => ?_)
  obtain rfl : x28 = x37 := by rw [ex37, ex28] <;> exact congrArg xs (tn_same (i := (nI (n + 4))) (j := (nI (n + 4))) (show (nI (n + 4)).toInt = ((n + 4 : Nat) : Int) from (nI_toInt (by omega))) (show (nI (n + 4)).toInt = ((n + 4 : Nat) : Int) from (nI_toInt (by omega))) (by omega))
  have hFc := gA_m hPr hGP hGA hA hS
  refine va_calli (va_runV (As := [.int x22, .int x24, .int x26, .int x28]) (rest := []) ⟨hx, hb, hml, hown, hts⟩ (r_job l dC dI kA adK adV Gm H h0 x22 x24 x26 x28  hR) (cwV 4 hts (goodIn_app (goodIn_r _ [49, 50, 51, 38] rfl (by decide +kernel)) (goodIn_ca (goodIn_r _ [32, 33, 34, 35, 36, 37, 38, 39, 40, 41, 42, 43, 44, 45, 46, 47, 48] rfl (by decide +kernel)) (bs_in2 _ _))) rfl rfl rfl (by decide +kernel) ⟨(Nat.le_of_ble_eq_true rfl), (Nat.le_of_ble_eq_true rfl)⟩) ⟨fun a U g mk q => by obtain ⟨q0, q1, qK, qE⟩ := q; exact ⟨q0, q1, va_K.moved (u := U) (U := U.calling g mk a) (Vm.Alike.refl U.vm) qK, EVS.blind g mk a qE⟩, RI.recv hK hR.ri, fun U hU hW => ⟨rfl, hU, va_K.moved hW.alike hK, hE.1.call hS hFc hU hW⟩⟩ rfl rfl hl.1 rfl (lv_room (Nat.le_of_ble_eq_true rfl)) dL_law_2274 ⟨show cells + 1 + 0 ≤ 603072 from by omega, show slots + 6 + 0 ≤ 7262314 from by omega⟩) hS (fun q _ h => hFc q h) hFc (fun r38 u t H locs ht hvm hw hB hz1 hk1 hS => ?_)
  (try dsimp only at hB); rw [ht] at hB
  have hC := hC.kept (fun a h1 h2 => hk1 a h1 (gA_mn hGP h1 h2))
  have hR := hB
  have hPr : ∀ a, Pr a → a < H.size := fun a h => Nat.lt_of_lt_of_le (hPr a h) hz1
  refine lv_istore (lv' := [(6, .int r38), (5, .int r29), (0, .ref b), (1, .ref x), (2, .ref h0), (3, .ref ou), (4, .int (nI n))]) hx hb dL_law_2277 hl (by decide) rfl (fun ls hl => ?_)
  refine lv_goto (tgt := 2491) hx hb dL_law_2279 (by decide) ?_
  exact W.widen (k := cells + 1170) (n := slots + 14100) (by omega) (by omega) (kk g H _ ls hC hR hPr hS (lv_sub hl [2, 3, 4, 5, 6] rfl))
def w_law_46 : List Cond := .initialized RL :: (HAppend.hAppend (α := List Cond) (β := List Cond) (γ := List Cond) [.codeWith yL_order cL_order 5 (some .int) [(0, 10, 13, 15)], .code yX11_order cX11_order 3 (some .int), .constant RX11 411 1000000, .code yX11_within cX11_within 3 (some .boolean), .methodLink RX11 58 yX11_within, .static yX11_within, .initialized RX11, .code yX11_needNumbers cX11_needNumbers 1 none, .classLink RX11 547 "java/lang/IllegalArgumentException", .initialized "java/lang/IllegalArgumentException", .methodLink RX11 62 yX11_needNumbers, .static yX11_needNumbers, .fieldLink RX11 43 "SeaLand" "plans" "LSeaLand$Plans;", .code yX5_findOrder cX5_findOrder 2 none, .fieldLink RX5 157 "SeaLand$Plans" "bestLate" "I", .code yX5_tryOrders cX5_tryOrders 11 none, .fieldLink RX5 154 "SeaLand$Plans" "jobs" "I", .fieldLink RX5 41 "SeaLand$Plans" "placed" "[Z", .fieldLink RX5 29 "SeaLand$Plans" "costs" "[I", .code yX5_yearWithCost cX5_yearWithCost 5 (some .int), .methodLink RX5 164 yX5_yearWithCost, .static yX5_yearWithCost, .initialized RX5, .fieldLink RX5 32 "SeaLand$Plans" "lasts" "[I", .fieldLink RX5 45 "SeaLand$Plans" "trial" "[I", .fieldLink RX5 35 "SeaLand$Plans" "incomes" "[I", .fieldLink RX5 38 "SeaLand$Plans" "acres" "[I", .fieldLink RX5 48 "SeaLand$Plans" "best" "[I", .methodLink RX5 100 arraycopyName, .native arraycopyName, .static arraycopyName, .initialized "java/lang/System", .methodLink RX5 160 yX5_tryOrders, .instanceMethod yX5_tryOrders, .selects RX5 yX5_tryOrders yX5_tryOrders, .methodLink RX11 484 yX5_findOrder, .instanceMethod yX5_findOrder, .selects RX5 yX5_findOrder yX5_findOrder, .methodLink RL 160 yX11_order, .instanceMethod yX11_order, .selects RX11 yX11_order yX11_order, .classLink RL 15 "java/lang/IllegalArgumentException", .methodLink RL 329 yL_order, .static yL_order, .initialized RL, .code yX12_order cX12_order 3 (some .int), .fieldLink RX12 194 "SeaLandModel" "thrown" "I", .constant RX12 536 1000000, .code yX12_in cX12_in 3 (some .boolean), .methodLink RX12 197 yX12_in, .static yX12_in, .initialized RX12, .code yX12_throwsIf cX12_throwsIf 3 (some .boolean), .methodLink RX12 224 yX12_throwsIf, .instanceMethod yX12_throwsIf, .selects RX12 yX12_throwsIf yX12_throwsIf, .fieldLink RX12 556 "SeaLandModel" "lateness" "I", .code yX12_orders cX12_orders 10 none, .fieldLink RX12 553 "SeaLandModel" "jobs" "I", .fieldLink RX12 176 "SeaLandModel" "jCost" "[I", .fieldLink RX12 179 "SeaLandModel" "jYears" "[I", .fieldLink RX12 188 "SeaLandModel" "row" "[I", .fieldLink RX12 182 "SeaLandModel" "jBrings" "[I", .fieldLink RX12 185 "SeaLandModel" "jAcres" "[I", .fieldLink RX12 191 "SeaLandModel" "bestRow" "[I", .methodLink RX12 559 yX12_orders, .instanceMethod yX12_orders, .selects RX12 yX12_orders yX12_orders, .methodLink RL 331 yX12_order, .instanceMethod yX12_order, .selects RX12 yX12_order yX12_order] bs2)
set_option maxHeartbeats 4000000 in
set_option maxRecDepth 100000 in
theorem law_46 {p : Program} {e : Env} {s : State} {m : MethodId} {below : List Frame} {meth : Method} {c : Code} {Q : State → Prop} (l : Launch) (hlt : l.stackTraces = false) {b L : Nat} {xs : Nat → Int32} {A : Nat → Prop} (hx : p.tables.exec = Jvm.exec) (hb : c.code = code) (hml : c.maxLocals = 7) (hown : s.vm.findClass RL = some m.cls) (hts : ∀ w ∈ w_law_46, w.before #[Value.ref b] s = true) (hX : va_X b L xs s s.heap) (hbl : b < s.heap.size) (hbA : ¬ A b) (hL : L ≤ 4096) {adK adV : Nat → Nat} (hE : EVC adK adV A s s.heap) (hN : NC s) (hAO : AO s) (hA : ∀ q : Nat, s.heap.size ≤ q → A q) {dC : Nat → ClassId} {dI : Nat → Nat → Nat} {kA : Nat → ClassId} (hK : va_K (dC, dI) vwCl (tyl kA) s) {Pr : Nat → Prop} {Gm : gT} {x h0 ou : Nat} (hPA : ∀ q, ¬ Pr q → A q) (hGP : ∀ a t, Gm a = some t → Pr a) (hGA : ∀ a t, Gm a = some t → A a) (n : Nat) (hn : n + 8 ≤ L) (H : Heap) (locs : List Loc) (cells slots : Nat) (hcl : cells + 1170 ≤ 603072) (hsl : slots + 14100 ≤ 7262314) (g : gz) (hC : CJ dC dI kA Pr g x ou H) (hR : RJ dC dI kA g h0 Gm H) (hPr : ∀ a, Pr a → a < H.size) (hS : va_S A s.heap H locs) (ls : Array Slot) (hl : lv_has ls 7 [(0, .ref b), (1, .ref x), (2, .ref h0), (3, .ref ou), (4, .int (nI n))]) (kk : ∀ (g : gz) (H : Heap) (locs : List Loc) (ls : Array Slot), CJ dC dI kA Pr g x ou H → RJ dC dI kA g h0 Gm H → (∀ a, Pr a → a < H.size) → va_S A s.heap H locs → lv_has ls 7 [(0, .ref b), (1, .ref x), (2, .ref h0), (3, .ref ou), (4, .int (nI n))] → W p l e room_1 s m #[Value.ref b] below meth c H locs (cells + 1170) (slots + 14100) Q (F0 m 2491 ls [])) : W p l e room_1 s m #[Value.ref b] below meth c H locs cells slots Q (F0 m 2282 ls []) := by
  refine lv_aload_n hx hb dL_law_2282 rfl (lv_at hl 1 rfl) ?_
  refine lv_aload_n hx hb dL_law_2283 rfl (lv_at hl 0 rfl) ?_
  refine lv_iload hx hb dL_law_2284 (lv_at hl 4 rfl) ?_
  refine lv_iconst (v := 1) hx hb dL_law_2286 (by decide) ?_
  refine lv_iadd hx hb dL_law_2287 ?_
  refine lv_topi (fun x21 ex21 => ?_)
  obtain rfl : nI (n + 1) = x21 := (ex21.trans (nI_add n 1)).symm
  refine va_sld hx hb hX hbl hbA hS (i := (nI (n + 1))) (vin_t (a := ((n + 1 : Nat) : Int)) (nI_toInt (by omega)) (by omega) (by omega)) dL_law_2288 ?_
  refine lv_topi (fun x22 ex22 => ?_)
  refine lv_aload_n hx hb dL_law_2289 rfl (lv_at hl 0 rfl) ?_
  refine lv_iload hx hb dL_law_2290 (lv_at hl 4 rfl) ?_
  refine lv_iconst (v := 2) hx hb dL_law_2292 (by decide) ?_
  refine lv_iadd hx hb dL_law_2293 ?_
  refine lv_topi (fun x23 ex23 => ?_)
  obtain rfl : nI (n + 2) = x23 := (ex23.trans (nI_add n 2)).symm
  refine va_sld hx hb hX hbl hbA hS (i := (nI (n + 2))) (vin_t (a := ((n + 2 : Nat) : Int)) (nI_toInt (by omega)) (by omega) (by omega)) dL_law_2294 ?_
  refine lv_topi (fun x24 ex24 => ?_)
  refine lv_aload_n hx hb dL_law_2295 rfl (lv_at hl 3 rfl) ?_
  have hFc := hPA
  refine va_calli (vx_runSW (As := [.ref x, .int x22, .int x24, .ref ou]) (rest := []) ⟨hx, hb, hml, hown, hts⟩ (k_order l hlt dC dI kA adK adV Pr H x ou x22 x24  hPr hC) (vx_cwSW 4 hts (goodIn_app (goodIn_r _ [43, 44, 45] rfl (by decide +kernel)) (goodIn_ca (goodIn_r _ [1, 2, 3, 4, 5, 6, 7, 8, 9, 10, 11, 12, 13, 14, 15, 16, 17, 18, 19, 20, 21, 22, 23, 24, 25, 26, 27, 28, 29, 30, 31, 32, 33, 34, 35, 36, 37, 38, 39, 40, 41, 42] rfl (by decide +kernel)) (bs2_in _ _))) rfl rfl rfl (by decide +kernel) ⟨(Nat.le_of_ble_eq_true rfl), (Nat.le_of_ble_eq_true rfl)⟩) ⟨fun a U g mk q => by obtain ⟨q0, q1, qK, qE, qN, qA⟩ := q; exact ⟨q0, q1, va_K.moved (u := U) (U := U.calling g mk a) (Vm.Alike.refl U.vm) qK, EVC.blind g mk a qE, NC.blind g mk a qN, AO.blind g mk a qA⟩, fun U hU hW => ⟨rfl, hU, va_K.moved hW.alike hK, hE.call hS hFc hU hW, hN.call hW, hAO.call hW⟩⟩ rfl rfl hl.1 rfl (lv_room (Nat.le_of_ble_eq_true rfl)) dL_law_2296 ⟨show cells + 1 ≤ 603072 from by omega, show slots + 6 ≤ 7262314 from by omega⟩) hS (fun q _ h => hFc q h) hFc (fun r25 u t H locs ht hvm hw hB hz1 hk1 hS => ?_)
  (try dsimp only at hB); rw [ht] at hB
  have hR := hR.kept (fun a t h => hk1 a (hPr a (hGP a t h)) (fun h9 => h9 (hGP a t h)))
  have hC := hB
  have hPr : ∀ a, Pr a → a < H.size := fun a h => Nat.lt_of_lt_of_le (hPr a h) hz1
  refine lv_istore (lv' := [(5, .int r25), (0, .ref b), (1, .ref x), (2, .ref h0), (3, .ref ou), (4, .int (nI n))]) hx hb dL_law_2299 hl (by decide) rfl (fun ls hl => ?_)
  refine lv_aload_n hx hb dL_law_2301 rfl (lv_at hl 3 rfl) ?_
  refine lv_aload_n hx hb dL_law_2302 rfl (lv_at hl 1 rfl) ?_
  refine lv_iload hx hb dL_law_2303 (lv_at hl 5 rfl) ?_
  refine lv_iconst (v := 1) hx hb dL_law_2305 (by decide) ?_
  refine lv_iadd hx hb dL_law_2306 ?_
  refine lv_topi (fun x26 ex26 => ?_)
  obtain rfl : nI (n + 1) = x26 := (ex26.trans (nI_add n 1)).symm
  refine va_sld hx hb hX hbl hbA hS (i := (nI (n + 1))) (vin_t (a := ((n + 1 : Nat) : Int)) (nI_toInt (by omega)) (by omega) (by omega)) dL_law_2307 ?_
  refine lv_topi (fun x27 ex27 => ?_)
  obtain rfl : x22 = x27 := by rw [ex27, ex22] <;> exact congrArg xs (tn_same (i := (nI (n + 1))) (j := (nI (n + 1))) (show (nI (n + 1)).toInt = ((n + 1 : Nat) : Int) from (nI_toInt (by omega))) (show (nI (n + 1)).toInt = ((n + 1 : Nat) : Int) from (nI_toInt (by omega))) (by omega))
  refine lv_aload_n hx hb dL_law_2308 rfl (lv_at hl 1 rfl) ?_
  refine lv_iload hx hb dL_law_2309 (lv_at hl 5 rfl) ?_
  refine lv_iconst (v := 2) hx hb dL_law_2311 (by decide) ?_
  refine lv_iadd hx hb dL_law_2312 ?_
  refine lv_topi (fun x28 ex28 => ?_)
  obtain rfl : nI (n + 2) = x28 := (ex28.trans (nI_add n 2)).symm
  refine va_sld hx hb hX hbl hbA hS (i := (nI (n + 2))) (vin_t (a := ((n + 2 : Nat) : Int)) (nI_toInt (by omega)) (by omega) (by omega)) dL_law_2313 ?_
  refine lv_topi (fun x29 ex29 => ?_)
  obtain rfl : x24 = x29 := by rw [ex29, ex24] <;> exact congrArg xs (tn_same (i := (nI (n + 2))) (j := (nI (n + 2))) (show (nI (n + 2)).toInt = ((n + 2 : Nat) : Int) from (nI_toInt (by omega))) (show (nI (n + 2)).toInt = ((n + 2 : Nat) : Int) from (nI_toInt (by omega))) (by omega))
  have hFc := gA_m hPr hGP hGA hA hS
  refine va_calli (va_runV (As := [.int x22, .int x24]) (rest := []) ⟨hx, hb, hml, hown, hts⟩ (r_order l dC dI kA adK adV Gm H h0 x22 x24  hR) (cwV 2 hts (goodIn_app (goodIn_r _ [69, 70, 71, 52] rfl (by decide +kernel)) (goodIn_ca (goodIn_r _ [46, 47, 48, 49, 50, 51, 52, 53, 54, 55, 56, 57, 58, 59, 60, 61, 62, 63, 64, 65, 66, 67, 68] rfl (by decide +kernel)) (bs_in2 _ _))) rfl rfl rfl (by decide +kernel) ⟨(Nat.le_of_ble_eq_true rfl), (Nat.le_of_ble_eq_true rfl)⟩) ⟨fun a U g mk q => by obtain ⟨q0, q1, qK, qE⟩ := q; exact ⟨q0, q1, va_K.moved (u := U) (U := U.calling g mk a) (Vm.Alike.refl U.vm) qK, EVS.blind g mk a qE⟩, RI.recv hK hR.ri, fun U hU hW => ⟨rfl, hU, va_K.moved hW.alike hK, hE.1.call hS hFc hU hW⟩⟩ rfl rfl hl.1 rfl (lv_room (Nat.le_of_ble_eq_true rfl)) dL_law_2314 ⟨show cells + 1 + 0 ≤ 603072 from by omega, show slots + 6 + 0 ≤ 7262314 from by omega⟩) hS (fun q _ h => hFc q h) hFc (fun r30 u t H locs ht hvm hw hB hz1 hk1 hS => ?_)
  (try dsimp only at hB); rw [ht] at hB
  have hC := hC.kept (fun a h1 h2 => hk1 a h1 (gA_mn hGP h1 h2))
  have hR := hB
  have hPr : ∀ a, Pr a → a < H.size := fun a h => Nat.lt_of_lt_of_le (hPr a h) hz1
  refine lv_istore (lv' := [(6, .int r30), (5, .int r25), (0, .ref b), (1, .ref x), (2, .ref h0), (3, .ref ou), (4, .int (nI n))]) hx hb dL_law_2317 hl (by decide) rfl (fun ls hl => ?_)
  refine lv_goto (tgt := 2491) hx hb dL_law_2319 (by decide) ?_
  exact W.widen (k := cells + 1170) (n := slots + 14100) (by omega) (by omega) (kk g H _ ls hC hR hPr hS (lv_sub hl [2, 3, 4, 5, 6] rfl))
def w_law_47 : List Cond := .initialized RL :: (HAppend.hAppend (α := List Cond) (β := List Cond) (γ := List Cond) [.code yX11_jobs cX11_jobs 2 (some .int), .fieldLink RX11 43 "SeaLand" "plans" "LSeaLand$Plans;", .methodLink RL 332 yX11_jobs, .instanceMethod yX11_jobs, .selects RX11 yX11_jobs yX11_jobs, .initialized RX11, .code yX12_jobs cX12_jobs 2 (some .int), .fieldLink RX12 194 "SeaLandModel" "thrown" "I", .fieldLink RX12 553 "SeaLandModel" "jobs" "I", .methodLink RL 335 yX12_jobs, .instanceMethod yX12_jobs, .selects RX12 yX12_jobs yX12_jobs, .initialized RX12] bs2)
set_option maxHeartbeats 4000000 in
set_option maxRecDepth 100000 in
theorem law_47 {p : Program} {e : Env} {s : State} {m : MethodId} {below : List Frame} {meth : Method} {c : Code} {Q : State → Prop} (l : Launch) (hlt : l.stackTraces = false) {b L : Nat} {xs : Nat → Int32} {A : Nat → Prop} (hx : p.tables.exec = Jvm.exec) (hb : c.code = code) (hml : c.maxLocals = 7) (hown : s.vm.findClass RL = some m.cls) (hts : ∀ w ∈ w_law_47, w.before #[Value.ref b] s = true) (hX : va_X b L xs s s.heap) (hbl : b < s.heap.size) (hbA : ¬ A b) (hL : L ≤ 4096) {adK adV : Nat → Nat} (hE : EVC adK adV A s s.heap) (hN : NC s) (hAO : AO s) (hA : ∀ q : Nat, s.heap.size ≤ q → A q) {dC : Nat → ClassId} {dI : Nat → Nat → Nat} {kA : Nat → ClassId} (hK : va_K (dC, dI) vwCl (tyl kA) s) {Pr : Nat → Prop} {Gm : gT} {x h0 ou : Nat} (hPA : ∀ q, ¬ Pr q → A q) (hGP : ∀ a t, Gm a = some t → Pr a) (hGA : ∀ a t, Gm a = some t → A a) (n : Nat) (hn : n + 8 ≤ L) (H : Heap) (locs : List Loc) (cells slots : Nat) (hcl : cells + 1170 ≤ 603072) (hsl : slots + 14100 ≤ 7262314) (g : gz) (hC : CJ dC dI kA Pr g x ou H) (hR : RJ dC dI kA g h0 Gm H) (hPr : ∀ a, Pr a → a < H.size) (hS : va_S A s.heap H locs) (ls : Array Slot) (hl : lv_has ls 7 [(0, .ref b), (1, .ref x), (2, .ref h0), (3, .ref ou), (4, .int (nI n))]) (kk : ∀ (g : gz) (H : Heap) (locs : List Loc) (ls : Array Slot), CJ dC dI kA Pr g x ou H → RJ dC dI kA g h0 Gm H → (∀ a, Pr a → a < H.size) → va_S A s.heap H locs → lv_has ls 7 [(0, .ref b), (1, .ref x), (2, .ref h0), (3, .ref ou), (4, .int (nI n))] → W p l e room_1 s m #[Value.ref b] below meth c H locs (cells + 1170) (slots + 14100) Q (F0 m 2491 ls [])) : W p l e room_1 s m #[Value.ref b] below meth c H locs cells slots Q (F0 m 2322 ls []) := by
  refine lv_aload_n hx hb dL_law_2322 rfl (lv_at hl 1 rfl) ?_
  have hFc := hPA
  refine va_calli (va_runV (As := []) (rest := []) ⟨hx, hb, hml, hown, hts⟩ (k_jobs l hlt dC dI kA adK adV Pr H x ou   hPr hC) (cwV 0 hts (goodIn_app (goodIn_r _ [3, 4, 5, 6] rfl (by decide +kernel)) (goodIn_ca (goodIn_r _ [1, 2] rfl (by decide +kernel)) (bs2_in _ _))) rfl rfl rfl (by decide +kernel) ⟨(Nat.le_of_ble_eq_true rfl), (Nat.le_of_ble_eq_true rfl)⟩) ⟨fun a U g mk q => by obtain ⟨q0, q1, qK, qE, qN, qA⟩ := q; exact ⟨q0, q1, va_K.moved (u := U) (U := U.calling g mk a) (Vm.Alike.refl U.vm) qK, EVC.blind g mk a qE, NC.blind g mk a qN, AO.blind g mk a qA⟩, CJ.recv hK hC, fun U hU hW => ⟨rfl, hU, va_K.moved hW.alike hK, hE.call hS hFc hU hW, hN.call hW, hAO.call hW⟩⟩ rfl rfl hl.1 rfl (lv_room (Nat.le_of_ble_eq_true rfl)) dL_law_2323 ⟨show cells + 0 ≤ 603072 from by omega, show slots + 0 ≤ 7262314 from by omega⟩) hS (fun q _ h => hFc q h) hFc (fun r21 u t H locs ht hvm hw hB hz1 hk1 hS => ?_)
  (try dsimp only at hB); rw [ht] at hB
  have hR := hR.kept (fun a t h => hk1 a (hPr a (hGP a t h)) (fun h9 => h9 (hGP a t h)))
  have hC := hB
  have hPr : ∀ a, Pr a → a < H.size := fun a h => Nat.lt_of_lt_of_le (hPr a h) hz1
  refine lv_pop hx hb dL_law_2326 rfl ?_
  refine lv_aload_n hx hb dL_law_2327 rfl (lv_at hl 2 rfl) ?_
  have hFc := gA_m hPr hGP hGA hA hS
  refine va_calli (va_runV (As := []) (rest := []) ⟨hx, hb, hml, hown, hts⟩ (r_jobs l dC dI kA adK adV Gm H h0   hR) (cwV 0 hts (goodIn_app (goodIn_r _ [10, 11, 12, 13] rfl (by decide +kernel)) (goodIn_ca (goodIn_r _ [7, 8, 9] rfl (by decide +kernel)) (bs_in2 _ _))) rfl rfl rfl (by decide +kernel) ⟨(Nat.le_of_ble_eq_true rfl), (Nat.le_of_ble_eq_true rfl)⟩) ⟨fun a U g mk q => by obtain ⟨q0, q1, qK, qE⟩ := q; exact ⟨q0, q1, va_K.moved (u := U) (U := U.calling g mk a) (Vm.Alike.refl U.vm) qK, EVS.blind g mk a qE⟩, RI.recv hK hR.ri, fun U hU hW => ⟨rfl, hU, va_K.moved hW.alike hK, hE.1.call hS hFc hU hW⟩⟩ rfl rfl hl.1 rfl (lv_room (Nat.le_of_ble_eq_true rfl)) dL_law_2328 ⟨show cells + 0 + 0 ≤ 603072 from by omega, show slots + 0 + 0 ≤ 7262314 from by omega⟩) hS (fun q _ h => hFc q h) hFc (fun r22 u t H locs ht hvm hw hB hz1 hk1 hS => ?_)
  (try dsimp only at hB); rw [ht] at hB
  have hC := hC.kept (fun a h1 h2 => hk1 a h1 (gA_mn hGP h1 h2))
  have hR := hB
  have hPr : ∀ a, Pr a → a < H.size := fun a h => Nat.lt_of_lt_of_le (hPr a h) hz1
  refine lv_pop hx hb dL_law_2331 rfl ?_
  refine lv_goto (tgt := 2491) hx hb dL_law_2332 (by decide) ?_
  exact W.widen (k := cells + 1170) (n := slots + 14100) (by omega) (by omega) (kk g H _ ls hC hR hPr hS (lv_sub hl [0, 1, 2, 3, 4] rfl))
def w_law_48 : List Cond := .initialized RL :: (HAppend.hAppend (α := List Cond) (β := List Cond) (γ := List Cond) [.codeWith yL_row cL_row 5 (some .int) [(0, 10, 13, 13), (0, 10, 17, 39)], .code yX11_row cX11_row 3 (some .int), .code yX11_needSquare cX11_needSquare 1 none, .code yX11_within cX11_within 3 (some .boolean), .methodLink RX11 58 yX11_within, .static yX11_within, .initialized RX11, .classLink RX11 557 "java/lang/IndexOutOfBoundsException", .initialized "java/lang/IndexOutOfBoundsException", .methodLink RX11 55 yX11_needSquare, .static yX11_needSquare, .code yX11_needRow cX11_needRow 2 none, .fieldLink RX11 23 "SeaLand" "rows" "LSeaLand$Rows;", .classLink RX11 134 "java/util/NoSuchElementException", .initialized "java/util/NoSuchElementException", .methodLink RX11 493 yX11_needRow, .instanceMethod yX11_needRow, .selects RX11 yX11_needRow yX11_needRow, .code yX6_placeOf cX6_placeOf 3 (some .int), .fieldLink RX6 22 "SeaLand$Rows" "oldest" "I", .methodLink RX11 499 yX6_placeOf, .instanceMethod yX6_placeOf, .selects RX6 yX6_placeOf yX6_placeOf, .initialized RX6, .methodLink RL 163 yX11_row, .instanceMethod yX11_row, .selects RX11 yX11_row yX11_row, .classLink RL 13 "java/lang/IndexOutOfBoundsException", .classLink RL 39 "java/util/NoSuchElementException", .methodLink RL 336 yL_row, .static yL_row, .initialized RL, .code yX12_row cX12_row 3 (some .int), .fieldLink RX12 194 "SeaLandModel" "thrown" "I", .code yX12_noSquare cX12_noSquare 1 (some .boolean), .code yX12_in cX12_in 3 (some .boolean), .methodLink RX12 197 yX12_in, .static yX12_in, .initialized RX12, .methodLink RX12 220 yX12_noSquare, .static yX12_noSquare, .code yX12_throwsIf cX12_throwsIf 3 (some .boolean), .methodLink RX12 224 yX12_throwsIf, .instanceMethod yX12_throwsIf, .selects RX12 yX12_throwsIf yX12_throwsIf, .fieldLink RX12 238 "SeaLandModel" "rows" "I", .fieldLink RX12 25 "SeaLandModel" "rowTold" "[I", .methodLink RL 338 yX12_row, .instanceMethod yX12_row, .selects RX12 yX12_row yX12_row] bs2)
set_option maxHeartbeats 4000000 in
set_option maxRecDepth 100000 in
theorem law_48 {p : Program} {e : Env} {s : State} {m : MethodId} {below : List Frame} {meth : Method} {c : Code} {Q : State → Prop} (l : Launch) (hlt : l.stackTraces = false) {b L : Nat} {xs : Nat → Int32} {A : Nat → Prop} (hx : p.tables.exec = Jvm.exec) (hb : c.code = code) (hml : c.maxLocals = 7) (hown : s.vm.findClass RL = some m.cls) (hts : ∀ w ∈ w_law_48, w.before #[Value.ref b] s = true) (hX : va_X b L xs s s.heap) (hbl : b < s.heap.size) (hbA : ¬ A b) (hL : L ≤ 4096) {adK adV : Nat → Nat} (hE : EVC adK adV A s s.heap) (hN : NC s) (hAO : AO s) (hA : ∀ q : Nat, s.heap.size ≤ q → A q) {dC : Nat → ClassId} {dI : Nat → Nat → Nat} {kA : Nat → ClassId} (hK : va_K (dC, dI) vwCl (tyl kA) s) {Pr : Nat → Prop} {Gm : gT} {x h0 ou : Nat} (hPA : ∀ q, ¬ Pr q → A q) (hGP : ∀ a t, Gm a = some t → Pr a) (hGA : ∀ a t, Gm a = some t → A a) (n : Nat) (hn : n + 8 ≤ L) (H : Heap) (locs : List Loc) (cells slots : Nat) (hcl : cells + 1170 ≤ 603072) (hsl : slots + 14100 ≤ 7262314) (g : gz) (hC : CJ dC dI kA Pr g x ou H) (hR : RJ dC dI kA g h0 Gm H) (hPr : ∀ a, Pr a → a < H.size) (hS : va_S A s.heap H locs) (ls : Array Slot) (hl : lv_has ls 7 [(0, .ref b), (1, .ref x), (2, .ref h0), (3, .ref ou), (4, .int (nI n))]) (kk : ∀ (g : gz) (H : Heap) (locs : List Loc) (ls : Array Slot), CJ dC dI kA Pr g x ou H → RJ dC dI kA g h0 Gm H → (∀ a, Pr a → a < H.size) → va_S A s.heap H locs → lv_has ls 7 [(0, .ref b), (1, .ref x), (2, .ref h0), (3, .ref ou), (4, .int (nI n))] → W p l e room_1 s m #[Value.ref b] below meth c H locs (cells + 1170) (slots + 14100) Q (F0 m 2491 ls [])) : W p l e room_1 s m #[Value.ref b] below meth c H locs cells slots Q (F0 m 2335 ls []) := by
  refine lv_aload_n hx hb dL_law_2335 rfl (lv_at hl 1 rfl) ?_
  refine lv_aload_n hx hb dL_law_2336 rfl (lv_at hl 0 rfl) ?_
  refine lv_iload hx hb dL_law_2337 (lv_at hl 4 rfl) ?_
  refine lv_iconst (v := 1) hx hb dL_law_2339 (by decide) ?_
  refine lv_iadd hx hb dL_law_2340 ?_
  refine lv_topi (fun x21 ex21 => ?_)
  obtain rfl : nI (n + 1) = x21 := (ex21.trans (nI_add n 1)).symm
  refine va_sld hx hb hX hbl hbA hS (i := (nI (n + 1))) (vin_t (a := ((n + 1 : Nat) : Int)) (nI_toInt (by omega)) (by omega) (by omega)) dL_law_2341 ?_
  refine lv_topi (fun x22 ex22 => ?_)
  refine lv_aload_n hx hb dL_law_2342 rfl (lv_at hl 0 rfl) ?_
  refine lv_iload hx hb dL_law_2343 (lv_at hl 4 rfl) ?_
  refine lv_iconst (v := 2) hx hb dL_law_2345 (by decide) ?_
  refine lv_iadd hx hb dL_law_2346 ?_
  refine lv_topi (fun x23 ex23 => ?_)
  obtain rfl : nI (n + 2) = x23 := (ex23.trans (nI_add n 2)).symm
  refine va_sld hx hb hX hbl hbA hS (i := (nI (n + 2))) (vin_t (a := ((n + 2 : Nat) : Int)) (nI_toInt (by omega)) (by omega) (by omega)) dL_law_2347 ?_
  refine lv_topi (fun x24 ex24 => ?_)
  refine lv_aload_n hx hb dL_law_2348 rfl (lv_at hl 3 rfl) ?_
  have hFc := hPA
  refine va_calli (vx_runSW (As := [.ref x, .int x22, .int x24, .ref ou]) (rest := []) ⟨hx, hb, hml, hown, hts⟩ (k_row l hlt dC dI kA adK adV Pr H x ou x22 x24  hPr hC) (vx_cwSW 4 hts (goodIn_app (goodIn_r _ [30, 31, 32] rfl (by decide +kernel)) (goodIn_ca (goodIn_r _ [1, 2, 3, 4, 5, 6, 7, 8, 9, 10, 11, 12, 13, 14, 15, 16, 17, 18, 19, 20, 21, 22, 23, 24, 25, 26, 27, 28, 29] rfl (by decide +kernel)) (bs2_in _ _))) rfl rfl rfl (by decide +kernel) ⟨(Nat.le_of_ble_eq_true rfl), (Nat.le_of_ble_eq_true rfl)⟩) ⟨fun a U g mk q => by obtain ⟨q0, q1, qK, qE, qN, qA⟩ := q; exact ⟨q0, q1, va_K.moved (u := U) (U := U.calling g mk a) (Vm.Alike.refl U.vm) qK, EVC.blind g mk a qE, NC.blind g mk a qN, AO.blind g mk a qA⟩, fun U hU hW => ⟨rfl, hU, va_K.moved hW.alike hK, hE.call hS hFc hU hW, hN.call hW, hAO.call hW⟩⟩ rfl rfl hl.1 rfl (lv_room (Nat.le_of_ble_eq_true rfl)) dL_law_2349 ⟨show cells + 2 ≤ 603072 from by omega, show slots + 12 ≤ 7262314 from by omega⟩) hS (fun q _ h => hFc q h) hFc (fun r25 u t H locs ht hvm hw hB hz1 hk1 hS => ?_)
  (try dsimp only at hB); rw [ht] at hB
  have hR := hR.kept (fun a t h => hk1 a (hPr a (hGP a t h)) (fun h9 => h9 (hGP a t h)))
  have hC := hB
  have hPr : ∀ a, Pr a → a < H.size := fun a h => Nat.lt_of_lt_of_le (hPr a h) hz1
  refine lv_istore (lv' := [(5, .int r25), (0, .ref b), (1, .ref x), (2, .ref h0), (3, .ref ou), (4, .int (nI n))]) hx hb dL_law_2352 hl (by decide) rfl (fun ls hl => ?_)
  refine lv_aload_n hx hb dL_law_2354 rfl (lv_at hl 3 rfl) ?_
  refine lv_aload_n hx hb dL_law_2355 rfl (lv_at hl 1 rfl) ?_
  refine lv_iload hx hb dL_law_2356 (lv_at hl 5 rfl) ?_
  refine lv_iconst (v := 1) hx hb dL_law_2358 (by decide) ?_
  refine lv_iadd hx hb dL_law_2359 ?_
  refine lv_topi (fun x26 ex26 => ?_)
  obtain rfl : nI (n + 1) = x26 := (ex26.trans (nI_add n 1)).symm
  refine va_sld hx hb hX hbl hbA hS (i := (nI (n + 1))) (vin_t (a := ((n + 1 : Nat) : Int)) (nI_toInt (by omega)) (by omega) (by omega)) dL_law_2360 ?_
  refine lv_topi (fun x27 ex27 => ?_)
  obtain rfl : x22 = x27 := by rw [ex27, ex22] <;> exact congrArg xs (tn_same (i := (nI (n + 1))) (j := (nI (n + 1))) (show (nI (n + 1)).toInt = ((n + 1 : Nat) : Int) from (nI_toInt (by omega))) (show (nI (n + 1)).toInt = ((n + 1 : Nat) : Int) from (nI_toInt (by omega))) (by omega))
  refine lv_aload_n hx hb dL_law_2361 rfl (lv_at hl 1 rfl) ?_
  refine lv_iload hx hb dL_law_2362 (lv_at hl 5 rfl) ?_
  refine lv_iconst (v := 2) hx hb dL_law_2364 (by decide) ?_
  refine lv_iadd hx hb dL_law_2365 ?_
  refine lv_topi (fun x28 ex28 => ?_)
  obtain rfl : nI (n + 2) = x28 := (ex28.trans (nI_add n 2)).symm
  refine va_sld hx hb hX hbl hbA hS (i := (nI (n + 2))) (vin_t (a := ((n + 2 : Nat) : Int)) (nI_toInt (by omega)) (by omega) (by omega)) dL_law_2366 ?_
  refine lv_topi (fun x29 ex29 => ?_)
  obtain rfl : x24 = x29 := by rw [ex29, ex24] <;> exact congrArg xs (tn_same (i := (nI (n + 2))) (j := (nI (n + 2))) (show (nI (n + 2)).toInt = ((n + 2 : Nat) : Int) from (nI_toInt (by omega))) (show (nI (n + 2)).toInt = ((n + 2 : Nat) : Int) from (nI_toInt (by omega))) (by omega))
  have hFc := gA_m hPr hGP hGA hA hS
  refine va_calli (va_runV (As := [.int x22, .int x24]) (rest := []) ⟨hx, hb, hml, hown, hts⟩ (r_row l dC dI kA adK adV Gm H h0 x22 x24  hR) (cwV 2 hts (goodIn_app (goodIn_r _ [48, 49, 50, 39] rfl (by decide +kernel)) (goodIn_ca (goodIn_r _ [33, 34, 35, 36, 37, 38, 39, 40, 41, 42, 43, 44, 45, 46, 47] rfl (by decide +kernel)) (bs_in2 _ _))) rfl rfl rfl (by decide +kernel) ⟨(Nat.le_of_ble_eq_true rfl), (Nat.le_of_ble_eq_true rfl)⟩) ⟨fun a U g mk q => by obtain ⟨q0, q1, qK, qE⟩ := q; exact ⟨q0, q1, va_K.moved (u := U) (U := U.calling g mk a) (Vm.Alike.refl U.vm) qK, EVS.blind g mk a qE⟩, RI.recv hK hR.ri, fun U hU hW => ⟨rfl, hU, va_K.moved hW.alike hK, hE.1.call hS hFc hU hW⟩⟩ rfl rfl hl.1 rfl (lv_room (Nat.le_of_ble_eq_true rfl)) dL_law_2367 ⟨show cells + 2 + 0 ≤ 603072 from by omega, show slots + 12 + 0 ≤ 7262314 from by omega⟩) hS (fun q _ h => hFc q h) hFc (fun r30 u t H locs ht hvm hw hB hz1 hk1 hS => ?_)
  (try dsimp only at hB); rw [ht] at hB
  have hC := hC.kept (fun a h1 h2 => hk1 a h1 (gA_mn hGP h1 h2))
  have hR := hB
  have hPr : ∀ a, Pr a → a < H.size := fun a h => Nat.lt_of_lt_of_le (hPr a h) hz1
  refine lv_istore (lv' := [(6, .int r30), (5, .int r25), (0, .ref b), (1, .ref x), (2, .ref h0), (3, .ref ou), (4, .int (nI n))]) hx hb dL_law_2370 hl (by decide) rfl (fun ls hl => ?_)
  refine lv_goto (tgt := 2491) hx hb dL_law_2372 (by decide) ?_
  exact W.widen (k := cells + 1170) (n := slots + 14100) (by omega) (by omega) (kk g H _ ls hC hR hPr hS (lv_sub hl [2, 3, 4, 5, 6] rfl))
def w_law_49 : List Cond := .initialized RL :: (HAppend.hAppend (α := List Cond) (β := List Cond) (γ := List Cond) [.codeWith yL_tear cL_tear 6 (some .int) [(0, 12, 15, 13), (0, 12, 19, 39)], .code yX11_tear cX11_tear 5 (some .int), .code yX11_needSquare cX11_needSquare 1 none, .code yX11_within cX11_within 3 (some .boolean), .methodLink RX11 58 yX11_within, .static yX11_within, .initialized RX11, .classLink RX11 557 "java/lang/IndexOutOfBoundsException", .initialized "java/lang/IndexOutOfBoundsException", .methodLink RX11 55 yX11_needSquare, .static yX11_needSquare, .code yX11_needRow cX11_needRow 2 none, .fieldLink RX11 23 "SeaLand" "rows" "LSeaLand$Rows;", .classLink RX11 134 "java/util/NoSuchElementException", .initialized "java/util/NoSuchElementException", .methodLink RX11 493 yX11_needRow, .instanceMethod yX11_needRow, .selects RX11 yX11_needRow yX11_needRow, .code yX6_placeOf cX6_placeOf 3 (some .int), .fieldLink RX6 22 "SeaLand$Rows" "oldest" "I", .methodLink RX11 499 yX6_placeOf, .instanceMethod yX6_placeOf, .selects RX6 yX6_placeOf yX6_placeOf, .initialized RX6, .methodLink RL 166 yX11_tear, .instanceMethod yX11_tear, .selects RX11 yX11_tear yX11_tear, .classLink RL 13 "java/lang/IndexOutOfBoundsException", .classLink RL 39 "java/util/NoSuchElementException", .methodLink RL 339 yL_tear, .static yL_tear, .initialized RL, .code yX12_tear cX12_tear 4 (some .int), .fieldLink RX12 194 "SeaLandModel" "thrown" "I", .code yX12_noSquare cX12_noSquare 1 (some .boolean), .code yX12_in cX12_in 3 (some .boolean), .methodLink RX12 197 yX12_in, .static yX12_in, .initialized RX12, .methodLink RX12 220 yX12_noSquare, .static yX12_noSquare, .code yX12_throwsIf cX12_throwsIf 3 (some .boolean), .methodLink RX12 224 yX12_throwsIf, .instanceMethod yX12_throwsIf, .selects RX12 yX12_throwsIf yX12_throwsIf, .fieldLink RX12 238 "SeaLandModel" "rows" "I", .fieldLink RX12 25 "SeaLandModel" "rowTold" "[I", .methodLink RL 341 yX12_tear, .instanceMethod yX12_tear, .selects RX12 yX12_tear yX12_tear] bs2)
set_option maxHeartbeats 4000000 in
set_option maxRecDepth 100000 in
theorem law_49 {p : Program} {e : Env} {s : State} {m : MethodId} {below : List Frame} {meth : Method} {c : Code} {Q : State → Prop} (l : Launch) (hlt : l.stackTraces = false) {b L : Nat} {xs : Nat → Int32} {A : Nat → Prop} (hx : p.tables.exec = Jvm.exec) (hb : c.code = code) (hml : c.maxLocals = 7) (hown : s.vm.findClass RL = some m.cls) (hts : ∀ w ∈ w_law_49, w.before #[Value.ref b] s = true) (hX : va_X b L xs s s.heap) (hbl : b < s.heap.size) (hbA : ¬ A b) (hL : L ≤ 4096) {adK adV : Nat → Nat} (hE : EVC adK adV A s s.heap) (hN : NC s) (hAO : AO s) (hA : ∀ q : Nat, s.heap.size ≤ q → A q) {dC : Nat → ClassId} {dI : Nat → Nat → Nat} {kA : Nat → ClassId} (hK : va_K (dC, dI) vwCl (tyl kA) s) {Pr : Nat → Prop} {Gm : gT} {x h0 ou : Nat} (hPA : ∀ q, ¬ Pr q → A q) (hGP : ∀ a t, Gm a = some t → Pr a) (hGA : ∀ a t, Gm a = some t → A a) (n : Nat) (hn : n + 8 ≤ L) (H : Heap) (locs : List Loc) (cells slots : Nat) (hcl : cells + 1170 ≤ 603072) (hsl : slots + 14100 ≤ 7262314) (g : gz) (hC : CJ dC dI kA Pr g x ou H) (hR : RJ dC dI kA g h0 Gm H) (hPr : ∀ a, Pr a → a < H.size) (hS : va_S A s.heap H locs) (ls : Array Slot) (hl : lv_has ls 7 [(0, .ref b), (1, .ref x), (2, .ref h0), (3, .ref ou), (4, .int (nI n))]) (kk : ∀ (g : gz) (H : Heap) (locs : List Loc) (ls : Array Slot), CJ dC dI kA Pr g x ou H → RJ dC dI kA g h0 Gm H → (∀ a, Pr a → a < H.size) → va_S A s.heap H locs → lv_has ls 7 [(0, .ref b), (1, .ref x), (2, .ref h0), (3, .ref ou), (4, .int (nI n))] → W p l e room_1 s m #[Value.ref b] below meth c H locs (cells + 1170) (slots + 14100) Q (F0 m 2491 ls [])) : W p l e room_1 s m #[Value.ref b] below meth c H locs cells slots Q (F0 m 2375 ls []) := by
  refine lv_aload_n hx hb dL_law_2375 rfl (lv_at hl 1 rfl) ?_
  refine lv_aload_n hx hb dL_law_2376 rfl (lv_at hl 0 rfl) ?_
  refine lv_iload hx hb dL_law_2377 (lv_at hl 4 rfl) ?_
  refine lv_iconst (v := 1) hx hb dL_law_2379 (by decide) ?_
  refine lv_iadd hx hb dL_law_2380 ?_
  refine lv_topi (fun x21 ex21 => ?_)
  obtain rfl : nI (n + 1) = x21 := (ex21.trans (nI_add n 1)).symm
  refine va_sld hx hb hX hbl hbA hS (i := (nI (n + 1))) (vin_t (a := ((n + 1 : Nat) : Int)) (nI_toInt (by omega)) (by omega) (by omega)) dL_law_2381 ?_
  refine lv_topi (fun x22 ex22 => ?_)
  refine lv_aload_n hx hb dL_law_2382 rfl (lv_at hl 0 rfl) ?_
  refine lv_iload hx hb dL_law_2383 (lv_at hl 4 rfl) ?_
  refine lv_iconst (v := 2) hx hb dL_law_2385 (by decide) ?_
  refine lv_iadd hx hb dL_law_2386 ?_
  refine lv_topi (fun x23 ex23 => ?_)
  obtain rfl : nI (n + 2) = x23 := (ex23.trans (nI_add n 2)).symm
  refine va_sld hx hb hX hbl hbA hS (i := (nI (n + 2))) (vin_t (a := ((n + 2 : Nat) : Int)) (nI_toInt (by omega)) (by omega) (by omega)) dL_law_2387 ?_
  refine lv_topi (fun x24 ex24 => ?_)
  refine lv_aload_n hx hb dL_law_2388 rfl (lv_at hl 0 rfl) ?_
  refine lv_iload hx hb dL_law_2389 (lv_at hl 4 rfl) ?_
  refine lv_iconst (v := 3) hx hb dL_law_2391 (by decide) ?_
  refine lv_iadd hx hb dL_law_2392 ?_
  refine lv_topi (fun x25 ex25 => ?_)
  obtain rfl : nI (n + 3) = x25 := (ex25.trans (nI_add n 3)).symm
  refine va_sld hx hb hX hbl hbA hS (i := (nI (n + 3))) (vin_t (a := ((n + 3 : Nat) : Int)) (nI_toInt (by omega)) (by omega) (by omega)) dL_law_2393 ?_
  refine lv_topi (fun x26 ex26 => ?_)
  refine lv_aload_n hx hb dL_law_2394 rfl (lv_at hl 3 rfl) ?_
  have hFc := hPA
  refine va_calli (vx_runSW (As := [.ref x, .int x22, .int x24, .int x26, .ref ou]) (rest := []) ⟨hx, hb, hml, hown, hts⟩ (k_tear l hlt dC dI kA adK adV Pr H x ou x22 x24 x26  hPr hC) (vx_cwSW 5 hts (goodIn_app (goodIn_r _ [30, 31, 32] rfl (by decide +kernel)) (goodIn_ca (goodIn_r _ [1, 2, 3, 4, 5, 6, 7, 8, 9, 10, 11, 12, 13, 14, 15, 16, 17, 18, 19, 20, 21, 22, 23, 24, 25, 26, 27, 28, 29] rfl (by decide +kernel)) (bs2_in _ _))) rfl rfl rfl (by decide +kernel) ⟨(Nat.le_of_ble_eq_true rfl), (Nat.le_of_ble_eq_true rfl)⟩) ⟨fun a U g mk q => by obtain ⟨q0, q1, qK, qE, qN, qA⟩ := q; exact ⟨q0, q1, va_K.moved (u := U) (U := U.calling g mk a) (Vm.Alike.refl U.vm) qK, EVC.blind g mk a qE, NC.blind g mk a qN, AO.blind g mk a qA⟩, fun U hU hW => ⟨rfl, hU, va_K.moved hW.alike hK, hE.call hS hFc hU hW, hN.call hW, hAO.call hW⟩⟩ rfl rfl hl.1 rfl (lv_room (Nat.le_of_ble_eq_true rfl)) dL_law_2395 ⟨show cells + 2 ≤ 603072 from by omega, show slots + 12 ≤ 7262314 from by omega⟩) hS (fun q _ h => hFc q h) hFc (fun r27 u t H locs ht hvm hw hB hz1 hk1 hS => ?_)
  (try dsimp only at hB); rw [ht] at hB
  have hR := hR.kept (fun a t h => hk1 a (hPr a (hGP a t h)) (fun h9 => h9 (hGP a t h)))
  have hC := hB
  have hPr : ∀ a, Pr a → a < H.size := fun a h => Nat.lt_of_lt_of_le (hPr a h) hz1
  refine lv_istore (lv' := [(5, .int r27), (0, .ref b), (1, .ref x), (2, .ref h0), (3, .ref ou), (4, .int (nI n))]) hx hb dL_law_2398 hl (by decide) rfl (fun ls hl => ?_)
  refine lv_aload_n hx hb dL_law_2400 rfl (lv_at hl 3 rfl) ?_
  refine lv_aload_n hx hb dL_law_2401 rfl (lv_at hl 1 rfl) ?_
  refine lv_iload hx hb dL_law_2402 (lv_at hl 5 rfl) ?_
  refine lv_iconst (v := 1) hx hb dL_law_2404 (by decide) ?_
  refine lv_iadd hx hb dL_law_2405 ?_
  refine lv_topi (fun x28 ex28 => ?_)
  obtain rfl : nI (n + 1) = x28 := (ex28.trans (nI_add n 1)).symm
  refine va_sld hx hb hX hbl hbA hS (i := (nI (n + 1))) (vin_t (a := ((n + 1 : Nat) : Int)) (nI_toInt (by omega)) (by omega) (by omega)) dL_law_2406 ?_
  refine lv_topi (fun x29 ex29 => ?_)
  obtain rfl : x22 = x29 := by rw [ex29, ex22] <;> exact congrArg xs (tn_same (i := (nI (n + 1))) (j := (nI (n + 1))) (show (nI (n + 1)).toInt = ((n + 1 : Nat) : Int) from (nI_toInt (by omega))) (show (nI (n + 1)).toInt = ((n + 1 : Nat) : Int) from (nI_toInt (by omega))) (by omega))
  refine lv_aload_n hx hb dL_law_2407 rfl (lv_at hl 1 rfl) ?_
  refine lv_iload hx hb dL_law_2408 (lv_at hl 5 rfl) ?_
  refine lv_iconst (v := 2) hx hb dL_law_2410 (by decide) ?_
  refine lv_iadd hx hb dL_law_2411 ?_
  refine lv_topi (fun x30 ex30 => ?_)
  obtain rfl : nI (n + 2) = x30 := (ex30.trans (nI_add n 2)).symm
  refine va_sld hx hb hX hbl hbA hS (i := (nI (n + 2))) (vin_t (a := ((n + 2 : Nat) : Int)) (nI_toInt (by omega)) (by omega) (by omega)) dL_law_2412 ?_
  refine lv_topi (fun x31 ex31 => ?_)
  obtain rfl : x24 = x31 := by rw [ex31, ex24] <;> exact congrArg xs (tn_same (i := (nI (n + 2))) (j := (nI (n + 2))) (show (nI (n + 2)).toInt = ((n + 2 : Nat) : Int) from (nI_toInt (by omega))) (show (nI (n + 2)).toInt = ((n + 2 : Nat) : Int) from (nI_toInt (by omega))) (by omega))
  refine lv_aload_n hx hb dL_law_2413 rfl (lv_at hl 1 rfl) ?_
  refine lv_iload hx hb dL_law_2414 (lv_at hl 5 rfl) ?_
  refine lv_iconst (v := 3) hx hb dL_law_2416 (by decide) ?_
  refine lv_iadd hx hb dL_law_2417 ?_
  refine lv_topi (fun x32 ex32 => ?_)
  obtain rfl : nI (n + 3) = x32 := (ex32.trans (nI_add n 3)).symm
  refine va_sld hx hb hX hbl hbA hS (i := (nI (n + 3))) (vin_t (a := ((n + 3 : Nat) : Int)) (nI_toInt (by omega)) (by omega) (by omega)) dL_law_2418 ?_
  refine lv_topi (fun x33 ex33 => ?_)
  obtain rfl : x26 = x33 := by rw [ex33, ex26] <;> exact congrArg xs (tn_same (i := (nI (n + 3))) (j := (nI (n + 3))) (show (nI (n + 3)).toInt = ((n + 3 : Nat) : Int) from (nI_toInt (by omega))) (show (nI (n + 3)).toInt = ((n + 3 : Nat) : Int) from (nI_toInt (by omega))) (by omega))
  have hFc := gA_m hPr hGP hGA hA hS
  refine va_calli (va_runV (As := [.int x22, .int x24, .int x26]) (rest := []) ⟨hx, hb, hml, hown, hts⟩ (r_tear l dC dI kA adK adV Gm H h0 x22 x24 x26  hR) (cwV 3 hts (goodIn_app (goodIn_r _ [48, 49, 50, 39] rfl (by decide +kernel)) (goodIn_ca (goodIn_r _ [33, 34, 35, 36, 37, 38, 39, 40, 41, 42, 43, 44, 45, 46, 47] rfl (by decide +kernel)) (bs_in2 _ _))) rfl rfl rfl (by decide +kernel) ⟨(Nat.le_of_ble_eq_true rfl), (Nat.le_of_ble_eq_true rfl)⟩) ⟨fun a U g mk q => by obtain ⟨q0, q1, qK, qE⟩ := q; exact ⟨q0, q1, va_K.moved (u := U) (U := U.calling g mk a) (Vm.Alike.refl U.vm) qK, EVS.blind g mk a qE⟩, RI.recv hK hR.ri, fun U hU hW => ⟨rfl, hU, va_K.moved hW.alike hK, hE.1.call hS hFc hU hW⟩⟩ rfl rfl hl.1 rfl (lv_room (Nat.le_of_ble_eq_true rfl)) dL_law_2419 ⟨show cells + 2 + 0 ≤ 603072 from by omega, show slots + 12 + 0 ≤ 7262314 from by omega⟩) hS (fun q _ h => hFc q h) hFc (fun r34 u t H locs ht hvm hw hB hz1 hk1 hS => ?_)
  (try dsimp only at hB); rw [ht] at hB
  have hC := hC.kept (fun a h1 h2 => hk1 a h1 (gA_mn hGP h1 h2))
  have hR := hB
  have hPr : ∀ a, Pr a → a < H.size := fun a h => Nat.lt_of_lt_of_le (hPr a h) hz1
  refine lv_istore (lv' := [(6, .int r34), (5, .int r27), (0, .ref b), (1, .ref x), (2, .ref h0), (3, .ref ou), (4, .int (nI n))]) hx hb dL_law_2422 hl (by decide) rfl (fun ls hl => ?_)
  refine lv_goto (tgt := 2491) hx hb dL_law_2424 (by decide) ?_
  exact W.widen (k := cells + 1170) (n := slots + 14100) (by omega) (by omega) (kk g H _ ls hC hR hPr hS (lv_sub hl [2, 3, 4, 5, 6] rfl))
def w_law_50 : List Cond := .initialized RL :: (HAppend.hAppend (α := List Cond) (β := List Cond) (γ := List Cond) [.code yX11_check cX11_check 1 (some .int), .fieldLink RX11 23 "SeaLand" "rows" "LSeaLand$Rows;", .code yX6_firstTorn cX6_firstTorn 3 (some .int), .fieldLink RX6 18 "SeaLand$Rows" "kept" "I", .code yX6_placeOf cX6_placeOf 3 (some .int), .fieldLink RX6 22 "SeaLand$Rows" "oldest" "I", .methodLink RX6 40 yX6_placeOf, .instanceMethod yX6_placeOf, .selects RX6 yX6_placeOf yX6_placeOf, .initialized RX6, .fieldLink RX6 9 "SeaLand$Rows" "shown" "[I", .fieldLink RX6 15 "SeaLand$Rows" "proof" "[I", .methodLink RX11 502 yX6_firstTorn, .instanceMethod yX6_firstTorn, .selects RX6 yX6_firstTorn yX6_firstTorn, .methodLink RL 342 yX11_check, .instanceMethod yX11_check, .selects RX11 yX11_check yX11_check, .initialized RX11, .code yX12_check cX12_check 2 (some .int), .fieldLink RX12 194 "SeaLandModel" "thrown" "I", .fieldLink RX12 238 "SeaLandModel" "rows" "I", .fieldLink RX12 25 "SeaLandModel" "rowTold" "[I", .fieldLink RX12 28 "SeaLandModel" "rowTrue" "[I", .methodLink RL 345 yX12_check, .instanceMethod yX12_check, .selects RX12 yX12_check yX12_check, .initialized RX12] bs2)
set_option maxHeartbeats 4000000 in
set_option maxRecDepth 100000 in
theorem law_50 {p : Program} {e : Env} {s : State} {m : MethodId} {below : List Frame} {meth : Method} {c : Code} {Q : State → Prop} (l : Launch) (hlt : l.stackTraces = false) {b L : Nat} {xs : Nat → Int32} {A : Nat → Prop} (hx : p.tables.exec = Jvm.exec) (hb : c.code = code) (hml : c.maxLocals = 7) (hown : s.vm.findClass RL = some m.cls) (hts : ∀ w ∈ w_law_50, w.before #[Value.ref b] s = true) (hX : va_X b L xs s s.heap) (hbl : b < s.heap.size) (hbA : ¬ A b) (hL : L ≤ 4096) {adK adV : Nat → Nat} (hE : EVC adK adV A s s.heap) (hN : NC s) (hAO : AO s) (hA : ∀ q : Nat, s.heap.size ≤ q → A q) {dC : Nat → ClassId} {dI : Nat → Nat → Nat} {kA : Nat → ClassId} (hK : va_K (dC, dI) vwCl (tyl kA) s) {Pr : Nat → Prop} {Gm : gT} {x h0 ou : Nat} (hPA : ∀ q, ¬ Pr q → A q) (hGP : ∀ a t, Gm a = some t → Pr a) (hGA : ∀ a t, Gm a = some t → A a) (n : Nat) (hn : n + 8 ≤ L) (H : Heap) (locs : List Loc) (cells slots : Nat) (hcl : cells + 1170 ≤ 603072) (hsl : slots + 14100 ≤ 7262314) (g : gz) (hC : CJ dC dI kA Pr g x ou H) (hR : RJ dC dI kA g h0 Gm H) (hPr : ∀ a, Pr a → a < H.size) (hS : va_S A s.heap H locs) (ls : Array Slot) (hl : lv_has ls 7 [(0, .ref b), (1, .ref x), (2, .ref h0), (3, .ref ou), (4, .int (nI n))]) (kk : ∀ (g : gz) (H : Heap) (locs : List Loc) (ls : Array Slot), CJ dC dI kA Pr g x ou H → RJ dC dI kA g h0 Gm H → (∀ a, Pr a → a < H.size) → va_S A s.heap H locs → lv_has ls 7 [(0, .ref b), (1, .ref x), (2, .ref h0), (3, .ref ou), (4, .int (nI n))] → W p l e room_1 s m #[Value.ref b] below meth c H locs (cells + 1170) (slots + 14100) Q (F0 m 2491 ls [])) : W p l e room_1 s m #[Value.ref b] below meth c H locs cells slots Q (F0 m 2427 ls []) := by
  refine lv_aload_n hx hb dL_law_2427 rfl (lv_at hl 1 rfl) ?_
  have hFc := hPA
  refine va_calli (va_runV (As := []) (rest := []) ⟨hx, hb, hml, hown, hts⟩ (k_check l hlt dC dI kA adK adV Pr H x ou   hPr hC) (cwV 0 hts (goodIn_app (goodIn_r _ [16, 17, 18, 19] rfl (by decide +kernel)) (goodIn_ca (goodIn_r _ [1, 2, 3, 4, 5, 6, 7, 8, 9, 10, 11, 12, 13, 14, 15] rfl (by decide +kernel)) (bs2_in _ _))) rfl rfl rfl (by decide +kernel) ⟨(Nat.le_of_ble_eq_true rfl), (Nat.le_of_ble_eq_true rfl)⟩) ⟨fun a U g mk q => by obtain ⟨q0, q1, qK, qE, qN, qA⟩ := q; exact ⟨q0, q1, va_K.moved (u := U) (U := U.calling g mk a) (Vm.Alike.refl U.vm) qK, EVC.blind g mk a qE, NC.blind g mk a qN, AO.blind g mk a qA⟩, CJ.recv hK hC, fun U hU hW => ⟨rfl, hU, va_K.moved hW.alike hK, hE.call hS hFc hU hW, hN.call hW, hAO.call hW⟩⟩ rfl rfl hl.1 rfl (lv_room (Nat.le_of_ble_eq_true rfl)) dL_law_2428 ⟨show cells + 0 ≤ 603072 from by omega, show slots + 0 ≤ 7262314 from by omega⟩) hS (fun q _ h => hFc q h) hFc (fun r21 u t H locs ht hvm hw hB hz1 hk1 hS => ?_)
  (try dsimp only at hB); rw [ht] at hB
  have hR := hR.kept (fun a t h => hk1 a (hPr a (hGP a t h)) (fun h9 => h9 (hGP a t h)))
  have hC := hB
  have hPr : ∀ a, Pr a → a < H.size := fun a h => Nat.lt_of_lt_of_le (hPr a h) hz1
  refine lv_pop hx hb dL_law_2431 rfl ?_
  refine lv_aload_n hx hb dL_law_2432 rfl (lv_at hl 2 rfl) ?_
  have hFc := gA_m hPr hGP hGA hA hS
  refine va_calli (va_runV (As := []) (rest := []) ⟨hx, hb, hml, hown, hts⟩ (r_check l dC dI kA adK adV Gm H h0   hR) (cwV 0 hts (goodIn_app (goodIn_r _ [25, 26, 27, 28] rfl (by decide +kernel)) (goodIn_ca (goodIn_r _ [20, 21, 22, 23, 24] rfl (by decide +kernel)) (bs_in2 _ _))) rfl rfl rfl (by decide +kernel) ⟨(Nat.le_of_ble_eq_true rfl), (Nat.le_of_ble_eq_true rfl)⟩) ⟨fun a U g mk q => by obtain ⟨q0, q1, qK, qE⟩ := q; exact ⟨q0, q1, va_K.moved (u := U) (U := U.calling g mk a) (Vm.Alike.refl U.vm) qK, EVS.blind g mk a qE⟩, RI.recv hK hR.ri, fun U hU hW => ⟨rfl, hU, va_K.moved hW.alike hK, hE.1.call hS hFc hU hW⟩⟩ rfl rfl hl.1 rfl (lv_room (Nat.le_of_ble_eq_true rfl)) dL_law_2433 ⟨show cells + 0 + 0 ≤ 603072 from by omega, show slots + 0 + 0 ≤ 7262314 from by omega⟩) hS (fun q _ h => hFc q h) hFc (fun r22 u t H locs ht hvm hw hB hz1 hk1 hS => ?_)
  (try dsimp only at hB); rw [ht] at hB
  have hC := hC.kept (fun a h1 h2 => hk1 a h1 (gA_mn hGP h1 h2))
  have hR := hB
  have hPr : ∀ a, Pr a → a < H.size := fun a h => Nat.lt_of_lt_of_le (hPr a h) hz1
  refine lv_pop hx hb dL_law_2436 rfl ?_
  refine lv_goto (tgt := 2491) hx hb dL_law_2437 (by decide) ?_
  exact W.widen (k := cells + 1170) (n := slots + 14100) (by omega) (by omega) (kk g H _ ls hC hR hPr hS (lv_sub hl [0, 1, 2, 3, 4] rfl))
def w_law_51 : List Cond := .initialized RL :: (HAppend.hAppend (α := List Cond) (β := List Cond) (γ := List Cond) [.code yX11_keep cX11_keep 1 (some .boolean), .fieldLink RX11 16 "SeaLand" "lake" "LSeaLand$Lake;", .fieldLink RX11 505 "SeaLand" "image" "LSeaLand$Lake;", .classLink RX11 13 RX3, .instantiable RX3 5, .initialized RX3, .code yX3_init cX3_init 2 none, .methodLink RX3 3 objectInit, .instanceMethod objectInit, .code objectInit ⟨#[0xb1]⟩ 1 none, .classLink RX3 9 RX8, .instantiable RX8 7, .initialized RX8, .code yX8_init cX8_init 1 none, .methodLink RX8 3 objectInit, .arrayClass .int, .fieldLink RX8 9 "SeaLand$Sky" "tides" "[I", .fieldLink RX8 15 "SeaLand$Sky" "stormFrom" "[I", .fieldLink RX8 18 "SeaLand$Sky" "stormTo" "[I", .fieldLink RX8 21 "SeaLand$Sky" "stormMore" "[I", .classLink RX8 24 RX9, .instantiable RX9 3, .initialized RX9, .code yX9_init cX9_init 1 none, .methodLink RX9 3 objectInit, .fieldLink RX9 9 "SeaLand$Tellings" "hours" "[I", .fieldLink RX9 15 "SeaLand$Tellings" "numbers" "[I", .instanceMethod yX9_init, .fieldLink RX8 27 "SeaLand$Sky" "wind" "LSeaLand$Tellings;", .fieldLink RX8 31 "SeaLand$Sky" "rain" "LSeaLand$Tellings;", .instanceMethod yX8_init, .fieldLink RX3 12 "SeaLand$Lake" "sky" "LSeaLand$Sky;", .classLink RX3 18 RX2, .instantiable RX2 15, .initialized RX2, .code yX2_init cX2_init 1 none, .methodLink RX2 3 objectInit, .arrayClass .boolean, .fieldLink RX2 9 "SeaLand$Ground" "isLand" "[Z", .fieldLink RX2 15 "SeaLand$Ground" "height" "[I", .fieldLink RX2 19 "SeaLand$Ground" "soil" "[I", .fieldLink RX2 22 "SeaLand$Ground" "ditch" "[I", .fieldLink RX2 25 "SeaLand$Ground" "water" "[I", .fieldLink RX2 28 "SeaLand$Ground" "salt" "[I", .fieldLink RX2 31 "SeaLand$Ground" "dry" "[I", .fieldLink RX2 34 "SeaLand$Ground" "wet" "[I", .fieldLink RX2 37 "SeaLand$Ground" "ditchTo" "[I", .fieldLink RX2 40 "SeaLand$Ground" "ditchWater" "[I", .fieldLink RX2 43 "SeaLand$Ground" "ditchSalt" "[I", .instanceMethod yX2_init, .fieldLink RX3 21 "SeaLand$Lake" "ground" "LSeaLand$Ground;", .classLink RX3 25 RX10, .fieldLink RX3 27 "SeaLand$Lake" "works" "[LSeaLand$Work;", .instantiable RX10 12, .initialized RX10, .code yX10_init cX10_init 1 none, .methodLink RX10 3 objectInit, .fieldLink RX10 9 "SeaLand$Work" "thick" "[I", .fieldLink RX10 15 "SeaLand$Work" "clay" "[I", .instanceMethod yX10_init, .methodLink RX11 15 yX3_init, .instanceMethod yX3_init, .code yX3_copyFrom cX3_copyFrom 3 none, .code yX8_copyFrom cX8_copyFrom 2 none, .methodLink RX8 63 arraycopyName, .native arraycopyName, .static arraycopyName, .initialized "java/lang/System", .code yX9_copyFrom cX9_copyFrom 2 none, .methodLink RX9 23 arraycopyName, .fieldLink RX9 18 "SeaLand$Tellings" "told" "I", .methodLink RX8 69 yX9_copyFrom, .instanceMethod yX9_copyFrom, .selects RX9 yX9_copyFrom yX9_copyFrom, .fieldLink RX8 34 "SeaLand$Sky" "storms" "I", .methodLink RX3 175 yX8_copyFrom, .instanceMethod yX8_copyFrom, .selects RX8 yX8_copyFrom yX8_copyFrom, .code yX2_copyFrom cX2_copyFrom 2 none, .methodLink RX2 95 arraycopyName, .fieldLink RX2 54 "SeaLand$Ground" "rained" "I", .fieldLink RX2 57 "SeaLand$Ground" "cameIn" "I", .fieldLink RX2 64 "SeaLand$Ground" "wentOut" "I", .fieldLink RX2 50 "SeaLand$Ground" "toldMore" "I", .methodLink RX3 179 yX2_copyFrom, .instanceMethod yX2_copyFrom, .selects RX2 yX2_copyFrom yX2_copyFrom, .fieldLink RX3 47 "SeaLand$Lake" "built" "I", .fieldLink RX3 32 "SeaLand$Lake" "hour" "I", .code yX10_copyFrom cX10_copyFrom 2 none, .methodLink RX10 60 arraycopyName, .fieldLink RX10 18 "SeaLand$Work" "kind" "I", .fieldLink RX10 22 "SeaLand$Work" "square" "I", .fieldLink RX10 25 "SeaLand$Work" "to" "I", .fieldLink RX10 28 "SeaLand$Work" "size" "I", .fieldLink RX10 31 "SeaLand$Work" "width" "I", .fieldLink RX10 34 "SeaLand$Work" "layers" "I", .fieldLink RX10 37 "SeaLand$Work" "coal" "I", .fieldLink RX10 40 "SeaLand$Work" "on" "Z", .fieldLink RX10 44 "SeaLand$Work" "latest" "I", .fieldLink RX10 47 "SeaLand$Work" "total" "I", .methodLink RX3 182 yX10_copyFrom, .instanceMethod yX10_copyFrom, .selects RX10 yX10_copyFrom yX10_copyFrom, .methodLink RX11 508 yX3_copyFrom, .instanceMethod yX3_copyFrom, .selects RX3 yX3_copyFrom yX3_copyFrom, .methodLink RL 346 yX11_keep, .instanceMethod yX11_keep, .selects RX11 yX11_keep yX11_keep, .initialized RX11, .code yX12_keep cX12_keep 2 (some .boolean), .fieldLink RX12 194 "SeaLandModel" "thrown" "I", .code yX12_hour cX12_hour 1 (some .int), .fieldLink RX12 9 "SeaLandModel" "world" "[I", .methodLink RX12 228 yX12_hour, .instanceMethod yX12_hour, .selects RX12 yX12_hour yX12_hour, .initialized RX12, .fieldLink RX12 325 "SeaLandModel" "hasImage" "Z", .fieldLink RX12 13 "SeaLandModel" "image" "[I", .methodLink RL 349 yX12_keep, .instanceMethod yX12_keep, .selects RX12 yX12_keep yX12_keep] bs2)
set_option maxHeartbeats 4000000 in
set_option maxRecDepth 100000 in
theorem law_51 {p : Program} {e : Env} {s : State} {m : MethodId} {below : List Frame} {meth : Method} {c : Code} {Q : State → Prop} (l : Launch) (hlt : l.stackTraces = false) {b L : Nat} {xs : Nat → Int32} {A : Nat → Prop} (hx : p.tables.exec = Jvm.exec) (hb : c.code = code) (hml : c.maxLocals = 7) (hown : s.vm.findClass RL = some m.cls) (hts : ∀ w ∈ w_law_51, w.before #[Value.ref b] s = true) (hX : va_X b L xs s s.heap) (hbl : b < s.heap.size) (hbA : ¬ A b) (hL : L ≤ 4096) {adK adV : Nat → Nat} (hE : EVC adK adV A s s.heap) (hN : NC s) (hAO : AO s) (hA : ∀ q : Nat, s.heap.size ≤ q → A q) {dC : Nat → ClassId} {dI : Nat → Nat → Nat} {kA : Nat → ClassId} (hK : va_K (dC, dI) vwCl (tyl kA) s) {Pr : Nat → Prop} {Gm : gT} {x h0 ou : Nat} (hPA : ∀ q, ¬ Pr q → A q) (hGP : ∀ a t, Gm a = some t → Pr a) (hGA : ∀ a t, Gm a = some t → A a) (n : Nat) (hn : n + 8 ≤ L) (H : Heap) (locs : List Loc) (cells slots : Nat) (hcl : cells + 1170 ≤ 603072) (hsl : slots + 14100 ≤ 7262314) (g : gz) (hC : CJ dC dI kA Pr g x ou H) (hR : RJ dC dI kA g h0 Gm H) (hPr : ∀ a, Pr a → a < H.size) (hS : va_S A s.heap H locs) (ls : Array Slot) (hl : lv_has ls 7 [(0, .ref b), (1, .ref x), (2, .ref h0), (3, .ref ou), (4, .int (nI n))]) (kk : ∀ (g : gz) (H : Heap) (locs : List Loc) (ls : Array Slot), CJ dC dI kA Pr g x ou H → RJ dC dI kA g h0 Gm H → (∀ a, Pr a → a < H.size) → va_S A s.heap H locs → lv_has ls 7 [(0, .ref b), (1, .ref x), (2, .ref h0), (3, .ref ou), (4, .int (nI n))] → W p l e room_1 s m #[Value.ref b] below meth c H locs (cells + 1170) (slots + 14100) Q (F0 m 2491 ls [])) : W p l e room_1 s m #[Value.ref b] below meth c H locs cells slots Q (F0 m 2440 ls []) := by
  refine lv_aload_n hx hb dL_law_2440 rfl (lv_at hl 1 rfl) ?_
  have hFc := hPA
  refine va_calli (va_runV (As := []) (rest := []) ⟨hx, hb, hml, hown, hts⟩ (k_keep l hlt dC dI kA adK adV Pr H x ou   hPr hC) (cwV 0 hts (goodIn_app (goodIn_r _ [108, 109, 110, 111] rfl (by decide +kernel)) (goodIn_ca (goodIn_r _ [1, 2, 3, 4, 5, 6, 7, 8, 9, 10, 11, 12, 13, 14, 15, 16, 17, 18, 19, 20, 21, 22, 23, 24, 25, 26, 27, 28, 29, 30, 31, 32, 33, 34, 35, 36, 37, 38, 39, 40, 41, 42, 43, 44, 45, 46, 47, 48, 49, 50, 51, 52, 53, 54, 55, 56, 57, 58, 59, 60, 61, 62, 63, 64, 65, 66, 67, 68, 69, 70, 71, 72, 73, 74, 75, 76, 77, 78, 79, 80, 81, 82, 83, 84, 85, 86, 87, 88, 89, 90, 91, 92, 93, 94, 95, 96, 97, 98, 99, 100, 101, 102, 103, 104, 105, 106, 107] rfl (by decide +kernel)) (bs2_in _ _))) rfl rfl rfl (by decide +kernel) ⟨(Nat.le_of_ble_eq_true rfl), (Nat.le_of_ble_eq_true rfl)⟩) ⟨fun a U g mk q => by obtain ⟨q0, q1, qK, qE, qN, qA⟩ := q; exact ⟨q0, q1, va_K.moved (u := U) (U := U.calling g mk a) (Vm.Alike.refl U.vm) qK, EVC.blind g mk a qE, NC.blind g mk a qN, AO.blind g mk a qA⟩, CJ.recv hK hC, fun U hU hW => ⟨rfl, hU, va_K.moved hW.alike hK, hE.call hS hFc hU hW, hN.call hW, hAO.call hW⟩⟩ rfl rfl hl.1 rfl (lv_room (Nat.le_of_ble_eq_true rfl)) dL_law_2441 ⟨show cells + 115 ≤ 603072 from by omega, show slots + 2151 ≤ 7262314 from by omega⟩) hS (fun q _ h => hFc q h) hFc (fun r21 u t H locs ht hvm hw hB hz1 hk1 hS => ?_)
  (try dsimp only at hB); rw [ht] at hB
  have hk9 := hw
  have hR := hR.kept (fun a t h => hk1 a (hPr a (hGP a t h)) (fun h9 => h9 (hGP a t h)))
  have hC := hB
  have hPr : ∀ a, Pr a → a < H.size := fun a h => Nat.lt_of_lt_of_le (hPr a h) hz1
  refine lv_pop hx hb dL_law_2444 rfl ?_
  refine lv_aload_n hx hb dL_law_2445 rfl (lv_at hl 2 rfl) ?_
  have hFc := gA_m hPr hGP hGA hA hS
  refine va_calli (va_runV (As := []) (rest := []) ⟨hx, hb, hml, hown, hts⟩ (r_keep l dC dI kA adK adV Gm H h0   hR) (cwV 0 hts (goodIn_app (goodIn_r _ [122, 123, 124, 119] rfl (by decide +kernel)) (goodIn_ca (goodIn_r _ [112, 113, 114, 115, 116, 117, 118, 119, 120, 121] rfl (by decide +kernel)) (bs_in2 _ _))) rfl rfl rfl (by decide +kernel) ⟨(Nat.le_of_ble_eq_true rfl), (Nat.le_of_ble_eq_true rfl)⟩) ⟨fun a U g mk q => by obtain ⟨q0, q1, qK, qE⟩ := q; exact ⟨q0, q1, va_K.moved (u := U) (U := U.calling g mk a) (Vm.Alike.refl U.vm) qK, EVS.blind g mk a qE⟩, RI.recv hK hR.ri, fun U hU hW => ⟨rfl, hU, va_K.moved hW.alike hK, hE.1.call hS hFc hU hW⟩⟩ rfl rfl hl.1 rfl (lv_room (Nat.le_of_ble_eq_true rfl)) dL_law_2446 ⟨show cells + 115 + 0 ≤ 603072 from by omega, show slots + 2151 + 0 ≤ 7262314 from by omega⟩) hS (fun q _ h => hFc q h) hFc (fun r22 u t H locs ht hvm hw hB hz1 hk1 hS => ?_)
  (try dsimp only at hB); rw [ht] at hB
  have e9 : r21.toInt = r22.toInt := hk9.trans hw.symm
  have hC := hC.kept (fun a h1 h2 => hk1 a h1 (gA_mn hGP h1 h2))
  have hR := hB
  have hPr : ∀ a, Pr a → a < H.size := fun a h => Nat.lt_of_lt_of_le (hPr a h) hz1
  refine lv_pop hx hb dL_law_2449 rfl ?_
  refine lv_goto (tgt := 2491) hx hb dL_law_2450 (by decide) ?_
  exact W.widen (k := cells + 1170) (n := slots + 14100) (by omega) (by omega) (kk _ H _ ls hC hR hPr hS (lv_sub hl [0, 1, 2, 3, 4] rfl))
def w_law_52 : List Cond := .initialized RL :: (HAppend.hAppend (α := List Cond) (β := List Cond) (γ := List Cond) [.code yX11_back cX11_back 1 (some .boolean), .fieldLink RX11 505 "SeaLand" "image" "LSeaLand$Lake;", .fieldLink RX11 16 "SeaLand" "lake" "LSeaLand$Lake;", .code yX3_copyFrom cX3_copyFrom 3 none, .fieldLink RX3 12 "SeaLand$Lake" "sky" "LSeaLand$Sky;", .code yX8_copyFrom cX8_copyFrom 2 none, .fieldLink RX8 9 "SeaLand$Sky" "tides" "[I", .methodLink RX8 63 arraycopyName, .native arraycopyName, .static arraycopyName, .initialized "java/lang/System", .fieldLink RX8 15 "SeaLand$Sky" "stormFrom" "[I", .fieldLink RX8 18 "SeaLand$Sky" "stormTo" "[I", .fieldLink RX8 21 "SeaLand$Sky" "stormMore" "[I", .fieldLink RX8 27 "SeaLand$Sky" "wind" "LSeaLand$Tellings;", .code yX9_copyFrom cX9_copyFrom 2 none, .fieldLink RX9 9 "SeaLand$Tellings" "hours" "[I", .methodLink RX9 23 arraycopyName, .fieldLink RX9 15 "SeaLand$Tellings" "numbers" "[I", .fieldLink RX9 18 "SeaLand$Tellings" "told" "I", .methodLink RX8 69 yX9_copyFrom, .instanceMethod yX9_copyFrom, .selects RX9 yX9_copyFrom yX9_copyFrom, .initialized RX9, .fieldLink RX8 31 "SeaLand$Sky" "rain" "LSeaLand$Tellings;", .fieldLink RX8 34 "SeaLand$Sky" "storms" "I", .methodLink RX3 175 yX8_copyFrom, .instanceMethod yX8_copyFrom, .selects RX8 yX8_copyFrom yX8_copyFrom, .initialized RX8, .fieldLink RX3 21 "SeaLand$Lake" "ground" "LSeaLand$Ground;", .code yX2_copyFrom cX2_copyFrom 2 none, .fieldLink RX2 9 "SeaLand$Ground" "isLand" "[Z", .methodLink RX2 95 arraycopyName, .fieldLink RX2 15 "SeaLand$Ground" "height" "[I", .fieldLink RX2 19 "SeaLand$Ground" "soil" "[I", .fieldLink RX2 22 "SeaLand$Ground" "ditch" "[I", .fieldLink RX2 25 "SeaLand$Ground" "water" "[I", .fieldLink RX2 28 "SeaLand$Ground" "salt" "[I", .fieldLink RX2 31 "SeaLand$Ground" "dry" "[I", .fieldLink RX2 34 "SeaLand$Ground" "wet" "[I", .fieldLink RX2 54 "SeaLand$Ground" "rained" "I", .fieldLink RX2 57 "SeaLand$Ground" "cameIn" "I", .fieldLink RX2 64 "SeaLand$Ground" "wentOut" "I", .fieldLink RX2 50 "SeaLand$Ground" "toldMore" "I", .methodLink RX3 179 yX2_copyFrom, .instanceMethod yX2_copyFrom, .selects RX2 yX2_copyFrom yX2_copyFrom, .initialized RX2, .fieldLink RX3 47 "SeaLand$Lake" "built" "I", .fieldLink RX3 32 "SeaLand$Lake" "hour" "I", .fieldLink RX3 27 "SeaLand$Lake" "works" "[LSeaLand$Work;", .code yX10_copyFrom cX10_copyFrom 2 none, .fieldLink RX10 9 "SeaLand$Work" "thick" "[I", .methodLink RX10 60 arraycopyName, .fieldLink RX10 15 "SeaLand$Work" "clay" "[I", .fieldLink RX10 18 "SeaLand$Work" "kind" "I", .fieldLink RX10 22 "SeaLand$Work" "square" "I", .fieldLink RX10 25 "SeaLand$Work" "to" "I", .fieldLink RX10 28 "SeaLand$Work" "size" "I", .fieldLink RX10 31 "SeaLand$Work" "width" "I", .fieldLink RX10 34 "SeaLand$Work" "layers" "I", .fieldLink RX10 37 "SeaLand$Work" "coal" "I", .fieldLink RX10 40 "SeaLand$Work" "on" "Z", .fieldLink RX10 44 "SeaLand$Work" "latest" "I", .fieldLink RX10 47 "SeaLand$Work" "total" "I", .methodLink RX3 182 yX10_copyFrom, .instanceMethod yX10_copyFrom, .selects RX10 yX10_copyFrom yX10_copyFrom, .initialized RX10, .methodLink RX11 508 yX3_copyFrom, .instanceMethod yX3_copyFrom, .selects RX3 yX3_copyFrom yX3_copyFrom, .initialized RX3, .fieldLink RX11 23 "SeaLand" "rows" "LSeaLand$Rows;", .code yX6_forget cX6_forget 1 none, .fieldLink RX6 18 "SeaLand$Rows" "kept" "I", .fieldLink RX6 22 "SeaLand$Rows" "oldest" "I", .methodLink RX11 76 yX6_forget, .instanceMethod yX6_forget, .selects RX6 yX6_forget yX6_forget, .initialized RX6, .methodLink RL 350 yX11_back, .instanceMethod yX11_back, .selects RX11 yX11_back yX11_back, .initialized RX11, .code yX12_back cX12_back 2 (some .boolean), .fieldLink RX12 194 "SeaLandModel" "thrown" "I", .fieldLink RX12 325 "SeaLandModel" "hasImage" "Z", .fieldLink RX12 13 "SeaLandModel" "image" "[I", .code yX12_hour cX12_hour 1 (some .int), .fieldLink RX12 9 "SeaLandModel" "world" "[I", .methodLink RX12 228 yX12_hour, .instanceMethod yX12_hour, .selects RX12 yX12_hour yX12_hour, .initialized RX12, .fieldLink RX12 238 "SeaLandModel" "rows" "I", .methodLink RL 353 yX12_back, .instanceMethod yX12_back, .selects RX12 yX12_back yX12_back] bs2)
set_option maxHeartbeats 4000000 in
set_option maxRecDepth 100000 in
theorem law_52 {p : Program} {e : Env} {s : State} {m : MethodId} {below : List Frame} {meth : Method} {c : Code} {Q : State → Prop} (l : Launch) (hlt : l.stackTraces = false) {b L : Nat} {xs : Nat → Int32} {A : Nat → Prop} (hx : p.tables.exec = Jvm.exec) (hb : c.code = code) (hml : c.maxLocals = 7) (hown : s.vm.findClass RL = some m.cls) (hts : ∀ w ∈ w_law_52, w.before #[Value.ref b] s = true) (hX : va_X b L xs s s.heap) (hbl : b < s.heap.size) (hbA : ¬ A b) (hL : L ≤ 4096) {adK adV : Nat → Nat} (hE : EVC adK adV A s s.heap) (hN : NC s) (hAO : AO s) (hA : ∀ q : Nat, s.heap.size ≤ q → A q) {dC : Nat → ClassId} {dI : Nat → Nat → Nat} {kA : Nat → ClassId} (hK : va_K (dC, dI) vwCl (tyl kA) s) {Pr : Nat → Prop} {Gm : gT} {x h0 ou : Nat} (hPA : ∀ q, ¬ Pr q → A q) (hGP : ∀ a t, Gm a = some t → Pr a) (hGA : ∀ a t, Gm a = some t → A a) (n : Nat) (hn : n + 8 ≤ L) (H : Heap) (locs : List Loc) (cells slots : Nat) (hcl : cells + 1170 ≤ 603072) (hsl : slots + 14100 ≤ 7262314) (g : gz) (hC : CJ dC dI kA Pr g x ou H) (hR : RJ dC dI kA g h0 Gm H) (hPr : ∀ a, Pr a → a < H.size) (hS : va_S A s.heap H locs) (ls : Array Slot) (hl : lv_has ls 7 [(0, .ref b), (1, .ref x), (2, .ref h0), (3, .ref ou), (4, .int (nI n))]) (kk : ∀ (g : gz) (H : Heap) (locs : List Loc) (ls : Array Slot), CJ dC dI kA Pr g x ou H → RJ dC dI kA g h0 Gm H → (∀ a, Pr a → a < H.size) → va_S A s.heap H locs → lv_has ls 7 [(0, .ref b), (1, .ref x), (2, .ref h0), (3, .ref ou), (4, .int (nI n))] → W p l e room_1 s m #[Value.ref b] below meth c H locs (cells + 1170) (slots + 14100) Q (F0 m 2491 ls [])) : W p l e room_1 s m #[Value.ref b] below meth c H locs cells slots Q (F0 m 2453 ls []) := by
  refine lv_aload_n hx hb dL_law_2453 rfl (lv_at hl 1 rfl) ?_
  have hFc := hPA
  refine va_calli (va_runV (As := []) (rest := []) ⟨hx, hb, hml, hown, hts⟩ (k_back l hlt dC dI kA adK adV Pr H x ou   hPr hC) (cwV 0 hts (goodIn_app (goodIn_r _ [83, 84, 85, 86] rfl (by decide +kernel)) (goodIn_ca (goodIn_r _ [1, 2, 3, 4, 5, 6, 7, 8, 9, 10, 11, 12, 13, 14, 15, 16, 17, 18, 19, 20, 21, 22, 23, 24, 25, 26, 27, 28, 29, 30, 31, 32, 33, 34, 35, 36, 37, 38, 39, 40, 41, 42, 43, 44, 45, 46, 47, 48, 49, 50, 51, 52, 53, 54, 55, 56, 57, 58, 59, 60, 61, 62, 63, 64, 65, 66, 67, 68, 69, 70, 71, 72, 73, 74, 75, 76, 77, 78, 79, 80, 81, 82] rfl (by decide +kernel)) (bs2_in _ _))) rfl rfl rfl (by decide +kernel) ⟨(Nat.le_of_ble_eq_true rfl), (Nat.le_of_ble_eq_true rfl)⟩) ⟨fun a U g mk q => by obtain ⟨q0, q1, qK, qE, qN, qA⟩ := q; exact ⟨q0, q1, va_K.moved (u := U) (U := U.calling g mk a) (Vm.Alike.refl U.vm) qK, EVC.blind g mk a qE, NC.blind g mk a qN, AO.blind g mk a qA⟩, CJ.recv hK hC, fun U hU hW => ⟨rfl, hU, va_K.moved hW.alike hK, hE.call hS hFc hU hW, hN.call hW, hAO.call hW⟩⟩ rfl rfl hl.1 rfl (lv_room (Nat.le_of_ble_eq_true rfl)) dL_law_2454 ⟨show cells + 0 ≤ 603072 from by omega, show slots + 0 ≤ 7262314 from by omega⟩) hS (fun q _ h => hFc q h) hFc (fun r21 u t H locs ht hvm hw hB hz1 hk1 hS => ?_)
  (try dsimp only at hB); rw [ht] at hB
  have hk9 := hw
  have hR := hR.kept (fun a t h => hk1 a (hPr a (hGP a t h)) (fun h9 => h9 (hGP a t h)))
  have hC := hB
  have hPr : ∀ a, Pr a → a < H.size := fun a h => Nat.lt_of_lt_of_le (hPr a h) hz1
  refine lv_aload_n hx hb dL_law_2457 rfl (lv_at hl 2 rfl) ?_
  have hFc := gA_m hPr hGP hGA hA hS
  refine va_calli (va_runV (As := []) (rest := [.int r21]) ⟨hx, hb, hml, hown, hts⟩ (r_back l dC dI kA adK adV Gm H h0   hR) (cwV 0 hts (goodIn_app (goodIn_r _ [98, 99, 100, 96] rfl (by decide +kernel)) (goodIn_ca (goodIn_r _ [87, 88, 89, 90, 91, 92, 93, 94, 95, 96, 97] rfl (by decide +kernel)) (bs_in2 _ _))) rfl rfl rfl (by decide +kernel) ⟨(Nat.le_of_ble_eq_true rfl), (Nat.le_of_ble_eq_true rfl)⟩) ⟨fun a U g mk q => by obtain ⟨q0, q1, qK, qE⟩ := q; exact ⟨q0, q1, va_K.moved (u := U) (U := U.calling g mk a) (Vm.Alike.refl U.vm) qK, EVS.blind g mk a qE⟩, RI.recv hK hR.ri, fun U hU hW => ⟨rfl, hU, va_K.moved hW.alike hK, hE.1.call hS hFc hU hW⟩⟩ rfl rfl hl.1 rfl (lv_room (Nat.le_of_ble_eq_true rfl)) dL_law_2458 ⟨show cells + 0 + 0 ≤ 603072 from by omega, show slots + 0 + 0 ≤ 7262314 from by omega⟩) hS (fun q _ h => hFc q h) hFc (fun r22 u t H locs ht hvm hw hB hz1 hk1 hS => ?_)
  (try dsimp only at hB); rw [ht] at hB
  have e9 : r21.toInt = r22.toInt := hk9.trans hw.symm
  have hC := hC.kept (fun a h1 h2 => hk1 a h1 (gA_mn hGP h1 h2))
  have hR := hB
  have hPr : ∀ a, Pr a → a < H.size := fun a h => Nat.lt_of_lt_of_le (hPr a h) hz1
  have t23 : -2147483648 ≤ r21.toInt ∧ r21.toInt ≤ 2147483647 := ti_all r21
  have t24 : -2147483648 ≤ r22.toInt ∧ r22.toInt ≤ 2147483647 := ti_all r22
  refine lv_icmp_eq (tgt := 2491) hx hb dL_law_2461 (by decide) (fun c25 => ?_) (fun c25 => ?_)
  · have t26 : r21.toInt = r22.toInt := ti_eq c25 rfl rfl
    exact W.widen (k := cells + 1170) (n := slots + 14100) (by omega) (by omega) (kk _ H _ ls hC hR hPr hS (lv_sub hl [0, 1, 2, 3, 4] rfl))
  · have t27 : r21.toInt ≠ r22.toInt := ti_ne c25 rfl rfl
    exfalso; omega
def w_law_53 : List Cond := .initialized RL :: (HAppend.hAppend (α := List Cond) (β := List Cond) (γ := List Cond) [.code yX11_count cX11_count 2 (some .int), .fieldLink RX11 16 "SeaLand" "lake" "LSeaLand$Lake;", .code yX3_dayNow cX3_dayNow 1 (some .int), .fieldLink RX3 32 "SeaLand$Lake" "hour" "I", .methodLink RX11 334 yX3_dayNow, .instanceMethod yX3_dayNow, .selects RX3 yX3_dayNow yX3_dayNow, .initialized RX3, .code yX3_breaches cX3_breaches 3 (some .int), .fieldLink RX3 47 "SeaLand$Lake" "built" "I", .fieldLink RX3 27 "SeaLand$Lake" "works" "[LSeaLand$Work;", .methodLink RX11 511 yX3_breaches, .instanceMethod yX3_breaches, .selects RX3 yX3_breaches yX3_breaches, .code yX2_allWater cX2_allWater 3 (some .int), .fieldLink RX2 25 "SeaLand$Ground" "water" "[I", .methodLink RX11 514 yX2_allWater, .instanceMethod yX2_allWater, .selects RX2 yX2_allWater yX2_allWater, .initialized RX2, .code yX2_allSalt cX2_allSalt 3 (some .int), .fieldLink RX2 28 "SeaLand$Ground" "salt" "[I", .methodLink RX11 517 yX2_allSalt, .instanceMethod yX2_allSalt, .selects RX2 yX2_allSalt yX2_allSalt, .code yX11_countPeople cX11_countPeople 2 (some .int), .fieldLink RX11 30 "SeaLand" "board" "LSeaLand$Board;", .code yX0_allArrears cX0_allArrears 3 (some .int), .fieldLink RX0 75 "SeaLand$Board" "settled" "I", .fieldLink RX0 11 "SeaLand$Board" "settlers" "[LSeaLand$Settler;", .methodLink RX11 544 yX0_allArrears, .instanceMethod yX0_allArrears, .selects RX0 yX0_allArrears yX0_allArrears, .initialized RX0, .fieldLink RX11 414 "SeaLand" "contracted" "I", .methodLink RX11 535 yX11_countPeople, .instanceMethod yX11_countPeople, .selects RX11 yX11_countPeople yX11_countPeople, .initialized RX11, .fieldLink RX11 23 "SeaLand" "rows" "LSeaLand$Rows;", .methodLink RL 354 yX11_count, .instanceMethod yX11_count, .selects RX11 yX11_count yX11_count, .code yX12_count cX12_count 4 (some .int), .fieldLink RX12 194 "SeaLandModel" "thrown" "I", .code yX12_hour cX12_hour 1 (some .int), .fieldLink RX12 9 "SeaLandModel" "world" "[I", .methodLink RX12 228 yX12_hour, .instanceMethod yX12_hour, .selects RX12 yX12_hour yX12_hour, .initialized RX12, .code yX12_of cX12_of 3 (some .int), .code yX12_at cX12_at 2 (some .int), .methodLink RX12 214 yX12_at, .static yX12_at, .methodLink RX12 217 yX12_of, .instanceMethod yX12_of, .selects RX12 yX12_of yX12_of, .code yX12_sumLand cX12_sumLand 4 (some .int), .methodLink RX12 563 yX12_sumLand, .instanceMethod yX12_sumLand, .selects RX12 yX12_sumLand yX12_sumLand, .fieldLink RX12 42 "SeaLandModel" "lines" "[I", .fieldLink RX12 495 "SeaLandModel" "settlers" "I", .code yX12_holders cX12_holders 3 (some .int), .fieldLink RX12 101 "SeaLandModel" "holds" "[I", .methodLink RX12 460 yX12_holders, .instanceMethod yX12_holders, .selects RX12 yX12_holders yX12_holders, .fieldLink RX12 498 "SeaLandModel" "farms" "I", .fieldLink RX12 519 "SeaLandModel" "board" "I", .fieldLink RX12 107 "SeaLandModel" "owes" "[I", .fieldLink RX12 533 "SeaLandModel" "contracts" "I", .fieldLink RX12 238 "SeaLandModel" "rows" "I", .methodLink RL 357 yX12_count, .instanceMethod yX12_count, .selects RX12 yX12_count yX12_count] bs2)
set_option maxHeartbeats 4000000 in
set_option maxRecDepth 100000 in
theorem law_53 {p : Program} {e : Env} {s : State} {m : MethodId} {below : List Frame} {meth : Method} {c : Code} {Q : State → Prop} (l : Launch) (hlt : l.stackTraces = false) {b L : Nat} {xs : Nat → Int32} {A : Nat → Prop} (hx : p.tables.exec = Jvm.exec) (hb : c.code = code) (hml : c.maxLocals = 7) (hown : s.vm.findClass RL = some m.cls) (hts : ∀ w ∈ w_law_53, w.before #[Value.ref b] s = true) (hX : va_X b L xs s s.heap) (hbl : b < s.heap.size) (hbA : ¬ A b) (hL : L ≤ 4096) {adK adV : Nat → Nat} (hE : EVC adK adV A s s.heap) (hN : NC s) (hAO : AO s) (hA : ∀ q : Nat, s.heap.size ≤ q → A q) {dC : Nat → ClassId} {dI : Nat → Nat → Nat} {kA : Nat → ClassId} (hK : va_K (dC, dI) vwCl (tyl kA) s) {Pr : Nat → Prop} {Gm : gT} {x h0 ou : Nat} (hPA : ∀ q, ¬ Pr q → A q) (hGP : ∀ a t, Gm a = some t → Pr a) (hGA : ∀ a t, Gm a = some t → A a) (n : Nat) (hn : n + 8 ≤ L) (H : Heap) (locs : List Loc) (cells slots : Nat) (hcl : cells + 1170 ≤ 603072) (hsl : slots + 14100 ≤ 7262314) (g : gz) (hC : CJ dC dI kA Pr g x ou H) (hR : RJ dC dI kA g h0 Gm H) (hPr : ∀ a, Pr a → a < H.size) (hS : va_S A s.heap H locs) (ls : Array Slot) (hl : lv_has ls 7 [(0, .ref b), (1, .ref x), (2, .ref h0), (3, .ref ou), (4, .int (nI n))]) (kk : ∀ (g : gz) (H : Heap) (locs : List Loc) (ls : Array Slot), CJ dC dI kA Pr g x ou H → RJ dC dI kA g h0 Gm H → (∀ a, Pr a → a < H.size) → va_S A s.heap H locs → lv_has ls 7 [(0, .ref b), (1, .ref x), (2, .ref h0), (3, .ref ou), (4, .int (nI n))] → W p l e room_1 s m #[Value.ref b] below meth c H locs (cells + 1170) (slots + 14100) Q (F0 m 2491 ls [])) : W p l e room_1 s m #[Value.ref b] below meth c H locs cells slots Q (F0 m 2466 ls []) := by
  refine lv_aload_n hx hb dL_law_2466 rfl (lv_at hl 1 rfl) ?_
  refine lv_aload_n hx hb dL_law_2467 rfl (lv_at hl 0 rfl) ?_
  refine lv_iload hx hb dL_law_2468 (lv_at hl 4 rfl) ?_
  refine lv_iconst (v := 1) hx hb dL_law_2470 (by decide) ?_
  refine lv_iadd hx hb dL_law_2471 ?_
  refine lv_topi (fun x21 ex21 => ?_)
  obtain rfl : nI (n + 1) = x21 := (ex21.trans (nI_add n 1)).symm
  refine va_sld hx hb hX hbl hbA hS (i := (nI (n + 1))) (vin_t (a := ((n + 1 : Nat) : Int)) (nI_toInt (by omega)) (by omega) (by omega)) dL_law_2472 ?_
  refine lv_topi (fun x22 ex22 => ?_)
  have hFc := hPA
  refine va_calli (va_runV (As := [.int x22]) (rest := []) ⟨hx, hb, hml, hown, hts⟩ (k_count l hlt dC dI kA adK adV Pr H x ou x22  hPr hC) (cwV 1 hts (goodIn_app (goodIn_r _ [41, 42, 43, 39] rfl (by decide +kernel)) (goodIn_ca (goodIn_r _ [1, 2, 3, 4, 5, 6, 7, 8, 9, 10, 11, 12, 13, 14, 15, 16, 17, 18, 19, 20, 21, 22, 23, 24, 25, 26, 27, 28, 29, 30, 31, 32, 33, 34, 35, 36, 37, 38, 39, 40] rfl (by decide +kernel)) (bs2_in _ _))) rfl rfl rfl (by decide +kernel) ⟨(Nat.le_of_ble_eq_true rfl), (Nat.le_of_ble_eq_true rfl)⟩) ⟨fun a U g mk q => by obtain ⟨q0, q1, qK, qE, qN, qA⟩ := q; exact ⟨q0, q1, va_K.moved (u := U) (U := U.calling g mk a) (Vm.Alike.refl U.vm) qK, EVC.blind g mk a qE, NC.blind g mk a qN, AO.blind g mk a qA⟩, CJ.recv hK hC, fun U hU hW => ⟨rfl, hU, va_K.moved hW.alike hK, hE.call hS hFc hU hW, hN.call hW, hAO.call hW⟩⟩ rfl rfl hl.1 rfl (lv_room (Nat.le_of_ble_eq_true rfl)) dL_law_2473 ⟨show cells + 0 ≤ 603072 from by omega, show slots + 0 ≤ 7262314 from by omega⟩) hS (fun q _ h => hFc q h) hFc (fun r23 u t H locs ht hvm hw hB hz1 hk1 hS => ?_)
  (try dsimp only at hB); rw [ht] at hB
  have hR := hR.kept (fun a t h => hk1 a (hPr a (hGP a t h)) (fun h9 => h9 (hGP a t h)))
  have hC := hB
  have hPr : ∀ a, Pr a → a < H.size := fun a h => Nat.lt_of_lt_of_le (hPr a h) hz1
  refine lv_pop hx hb dL_law_2476 rfl ?_
  refine lv_aload_n hx hb dL_law_2477 rfl (lv_at hl 2 rfl) ?_
  refine lv_aload_n hx hb dL_law_2478 rfl (lv_at hl 0 rfl) ?_
  refine lv_iload hx hb dL_law_2479 (lv_at hl 4 rfl) ?_
  refine lv_iconst (v := 1) hx hb dL_law_2481 (by decide) ?_
  refine lv_iadd hx hb dL_law_2482 ?_
  refine lv_topi (fun x24 ex24 => ?_)
  obtain rfl : nI (n + 1) = x24 := (ex24.trans (nI_add n 1)).symm
  refine va_sld hx hb hX hbl hbA hS (i := (nI (n + 1))) (vin_t (a := ((n + 1 : Nat) : Int)) (nI_toInt (by omega)) (by omega) (by omega)) dL_law_2483 ?_
  refine lv_topi (fun x25 ex25 => ?_)
  obtain rfl : x22 = x25 := by rw [ex25, ex22] <;> exact congrArg xs (tn_same (i := (nI (n + 1))) (j := (nI (n + 1))) (show (nI (n + 1)).toInt = ((n + 1 : Nat) : Int) from (nI_toInt (by omega))) (show (nI (n + 1)).toInt = ((n + 1 : Nat) : Int) from (nI_toInt (by omega))) (by omega))
  have hFc := gA_m hPr hGP hGA hA hS
  refine va_calli (va_runV (As := [.int x22]) (rest := []) ⟨hx, hb, hml, hown, hts⟩ (r_count l dC dI kA adK adV Gm H h0 x22  hR) (cwV 1 hts (goodIn_app (goodIn_r _ [75, 76, 77, 51] rfl (by decide +kernel)) (goodIn_ca (goodIn_r _ [44, 45, 46, 47, 48, 49, 50, 51, 52, 53, 54, 55, 56, 57, 58, 59, 60, 61, 62, 63, 64, 65, 66, 67, 68, 69, 70, 71, 72, 73, 74] rfl (by decide +kernel)) (bs_in2 _ _))) rfl rfl rfl (by decide +kernel) ⟨(Nat.le_of_ble_eq_true rfl), (Nat.le_of_ble_eq_true rfl)⟩) ⟨fun a U g mk q => by obtain ⟨q0, q1, qK, qE⟩ := q; exact ⟨q0, q1, va_K.moved (u := U) (U := U.calling g mk a) (Vm.Alike.refl U.vm) qK, EVS.blind g mk a qE⟩, RI.recv hK hR.ri, fun U hU hW => ⟨rfl, hU, va_K.moved hW.alike hK, hE.1.call hS hFc hU hW⟩⟩ rfl rfl hl.1 rfl (lv_room (Nat.le_of_ble_eq_true rfl)) dL_law_2484 ⟨show cells + 0 + 0 ≤ 603072 from by omega, show slots + 0 + 0 ≤ 7262314 from by omega⟩) hS (fun q _ h => hFc q h) hFc (fun r26 u t H locs ht hvm hw hB hz1 hk1 hS => ?_)
  (try dsimp only at hB); rw [ht] at hB
  have hC := hC.kept (fun a h1 h2 => hk1 a h1 (gA_mn hGP h1 h2))
  have hR := hB
  have hPr : ∀ a, Pr a → a < H.size := fun a h => Nat.lt_of_lt_of_le (hPr a h) hz1
  refine lv_pop hx hb dL_law_2487 rfl ?_
  refine lv_goto (tgt := 2491) hx hb dL_law_2488 (by decide) ?_
  exact W.widen (k := cells + 1170) (n := slots + 14100) (by omega) (by omega) (kk g H _ ls hC hR hPr hS (lv_sub hl [0, 1, 2, 3, 4] rfl))
