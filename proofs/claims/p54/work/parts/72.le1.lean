def w_law_0 : List Cond := .initialized RL :: (HAppend.hAppend (α := List Cond) (β := List Cond) (γ := List Cond) [.code yX11_feed cX11_feed 6 (some .int), .fieldLink RX11 47 "SeaLand" "taped" "I", .code yX11_feedOne cX11_feedOne 3 none, .fieldLink RX11 9 "SeaLand" "tape" "[I", .methodLink RX11 51 yX11_feedOne, .instanceMethod yX11_feedOne, .selects RX11 yX11_feedOne yX11_feedOne, .initialized RX11, .methodLink RL 173 yX11_feed, .instanceMethod yX11_feed, .selects RX11 yX11_feed yX11_feed, .code yX12_feed cX12_feed 7 (some .int), .fieldLink RX12 194 "SeaLandModel" "thrown" "I", .fieldLink RX12 332 "SeaLandModel" "taped" "I", .fieldLink RX12 39 "SeaLandModel" "five" "[I", .fieldLink RX12 31 "SeaLandModel" "tape" "[B", .methodLink RL 176 yX12_feed, .instanceMethod yX12_feed, .selects RX12 yX12_feed yX12_feed, .initialized RX12] bs2)
set_option maxHeartbeats 4000000 in
set_option maxRecDepth 100000 in
theorem law_0 {p : Program} {e : Env} {s : State} {m : MethodId} {below : List Frame} {meth : Method} {c : Code} {Q : State → Prop} (l : Launch) (hlt : l.stackTraces = false) {b L : Nat} {xs : Nat → Int32} {A : Nat → Prop} (hx : p.tables.exec = Jvm.exec) (hb : c.code = code) (hml : c.maxLocals = 7) (hown : s.vm.findClass RL = some m.cls) (hts : ∀ w ∈ w_law_0, w.before #[Value.ref b] s = true) (hX : va_X b L xs s s.heap) (hbl : b < s.heap.size) (hbA : ¬ A b) (hL : L ≤ 4096) {adK adV : Nat → Nat} (hE : EVC adK adV A s s.heap) (hN : NC s) (hAO : AO s) (hA : ∀ q : Nat, s.heap.size ≤ q → A q) {dC : Nat → ClassId} {dI : Nat → Nat → Nat} {kA : Nat → ClassId} (hK : va_K (dC, dI) vwCl (tyl kA) s) {Pr : Nat → Prop} {Gm : gT} {x h0 ou : Nat} (hPA : ∀ q, ¬ Pr q → A q) (hGP : ∀ a t, Gm a = some t → Pr a) (hGA : ∀ a t, Gm a = some t → A a) (n : Nat) (hn : n + 8 ≤ L) (H : Heap) (locs : List Loc) (cells slots : Nat) (hcl : cells + 1170 ≤ 603072) (hsl : slots + 14100 ≤ 7262314) (g : gz) (hC : CJ dC dI kA Pr g x ou H) (hR : RJ dC dI kA g h0 Gm H) (hPr : ∀ a, Pr a → a < H.size) (hS : va_S A s.heap H locs) (ls : Array Slot) (hl : lv_has ls 7 [(0, .ref b), (1, .ref x), (2, .ref h0), (3, .ref ou), (4, .int (nI n))]) (kk : ∀ (g : gz) (H : Heap) (locs : List Loc) (ls : Array Slot), CJ dC dI kA Pr g x ou H → RJ dC dI kA g h0 Gm H → (∀ a, Pr a → a < H.size) → va_S A s.heap H locs → lv_has ls 7 [(0, .ref b), (1, .ref x), (2, .ref h0), (3, .ref ou), (4, .int (nI n))] → W p l e room_1 s m #[Value.ref b] below meth c H locs (cells + 1170) (slots + 14100) Q (F0 m 2491 ls [])) : W p l e room_1 s m #[Value.ref b] below meth c H locs cells slots Q (F0 m 272 ls []) := by
  refine lv_aload_n hx hb dL_law_272 rfl (lv_at hl 1 rfl) ?_
  refine lv_aload_n hx hb dL_law_273 rfl (lv_at hl 0 rfl) ?_
  refine lv_iload hx hb dL_law_274 (lv_at hl 4 rfl) ?_
  refine lv_iconst (v := 1) hx hb dL_law_276 (by decide) ?_
  refine lv_iadd hx hb dL_law_277 ?_
  refine lv_topi (fun x21 ex21 => ?_)
  obtain rfl : nI (n + 1) = x21 := (ex21.trans (nI_add n 1)).symm
  refine va_sld hx hb hX hbl hbA hS (i := (nI (n + 1))) (vin_t (a := ((n + 1 : Nat) : Int)) (nI_toInt (by omega)) (by omega) (by omega)) dL_law_278 ?_
  refine lv_topi (fun x22 ex22 => ?_)
  refine lv_aload_n hx hb dL_law_279 rfl (lv_at hl 0 rfl) ?_
  refine lv_iload hx hb dL_law_280 (lv_at hl 4 rfl) ?_
  refine lv_iconst (v := 2) hx hb dL_law_282 (by decide) ?_
  refine lv_iadd hx hb dL_law_283 ?_
  refine lv_topi (fun x23 ex23 => ?_)
  obtain rfl : nI (n + 2) = x23 := (ex23.trans (nI_add n 2)).symm
  refine va_sld hx hb hX hbl hbA hS (i := (nI (n + 2))) (vin_t (a := ((n + 2 : Nat) : Int)) (nI_toInt (by omega)) (by omega) (by omega)) dL_law_284 ?_
  refine lv_topi (fun x24 ex24 => ?_)
  refine lv_aload_n hx hb dL_law_285 rfl (lv_at hl 0 rfl) ?_
  refine lv_iload hx hb dL_law_286 (lv_at hl 4 rfl) ?_
  refine lv_iconst (v := 3) hx hb dL_law_288 (by decide) ?_
  refine lv_iadd hx hb dL_law_289 ?_
  refine lv_topi (fun x25 ex25 => ?_)
  obtain rfl : nI (n + 3) = x25 := (ex25.trans (nI_add n 3)).symm
  refine va_sld hx hb hX hbl hbA hS (i := (nI (n + 3))) (vin_t (a := ((n + 3 : Nat) : Int)) (nI_toInt (by omega)) (by omega) (by omega)) dL_law_290 ?_
  refine lv_topi (fun x26 ex26 => ?_)
  refine lv_aload_n hx hb dL_law_291 rfl (lv_at hl 0 rfl) ?_
  refine lv_iload hx hb dL_law_292 (lv_at hl 4 rfl) ?_
  refine lv_iconst (v := 4) hx hb dL_law_294 (by decide) ?_
  refine lv_iadd hx hb dL_law_295 ?_
  refine lv_topi (fun x27 ex27 => ?_)
  obtain rfl : nI (n + 4) = x27 := (ex27.trans (nI_add n 4)).symm
  refine va_sld hx hb hX hbl hbA hS (i := (nI (n + 4))) (vin_t (a := ((n + 4 : Nat) : Int)) (nI_toInt (by omega)) (by omega) (by omega)) dL_law_296 ?_
  refine lv_topi (fun x28 ex28 => ?_)
  refine lv_aload_n hx hb dL_law_297 rfl (lv_at hl 0 rfl) ?_
  refine lv_iload hx hb dL_law_298 (lv_at hl 4 rfl) ?_
  refine lv_iconst (v := 5) hx hb dL_law_300 (by decide) ?_
  refine lv_iadd hx hb dL_law_301 ?_
  refine lv_topi (fun x29 ex29 => ?_)
  obtain rfl : nI (n + 5) = x29 := (ex29.trans (nI_add n 5)).symm
  refine va_sld hx hb hX hbl hbA hS (i := (nI (n + 5))) (vin_t (a := ((n + 5 : Nat) : Int)) (nI_toInt (by omega)) (by omega) (by omega)) dL_law_302 ?_
  refine lv_topi (fun x30 ex30 => ?_)
  have hFc := hPA
  refine va_calli (va_runV (As := [.int x22, .int x24, .int x26, .int x28, .int x30]) (rest := []) ⟨hx, hb, hml, hown, hts⟩ (k_feed l hlt dC dI kA adK adV Pr H x ou x22 x24 x26 x28 x30  hPr hC) (cwV 5 hts (goodIn_app (goodIn_r _ [9, 10, 11, 8] rfl (by decide +kernel)) (goodIn_ca (goodIn_r _ [1, 2, 3, 4, 5, 6, 7, 8] rfl (by decide +kernel)) (bs2_in _ _))) rfl rfl rfl (by decide +kernel) ⟨(Nat.le_of_ble_eq_true rfl), (Nat.le_of_ble_eq_true rfl)⟩) ⟨fun a U g mk q => by obtain ⟨q0, q1, qK, qE, qN, qA⟩ := q; exact ⟨q0, q1, va_K.moved (u := U) (U := U.calling g mk a) (Vm.Alike.refl U.vm) qK, EVC.blind g mk a qE, NC.blind g mk a qN, AO.blind g mk a qA⟩, CJ.recv hK hC, fun U hU hW => ⟨rfl, hU, va_K.moved hW.alike hK, hE.call hS hFc hU hW, hN.call hW, hAO.call hW⟩⟩ rfl rfl hl.1 rfl (lv_room (Nat.le_of_ble_eq_true rfl)) dL_law_303 ⟨show cells + 0 ≤ 603072 from by omega, show slots + 0 ≤ 7262314 from by omega⟩) hS (fun q _ h => hFc q h) hFc (fun r31 u t H locs ht hvm hw hB hz1 hk1 hS => ?_)
  (try dsimp only at hB); rw [ht] at hB
  have hR := hR.kept (fun a t h => hk1 a (hPr a (hGP a t h)) (fun h9 => h9 (hGP a t h)))
  have hC := hB
  have hPr : ∀ a, Pr a → a < H.size := fun a h => Nat.lt_of_lt_of_le (hPr a h) hz1
  refine lv_pop hx hb dL_law_306 rfl ?_
  refine lv_aload_n hx hb dL_law_307 rfl (lv_at hl 2 rfl) ?_
  refine lv_aload_n hx hb dL_law_308 rfl (lv_at hl 0 rfl) ?_
  refine lv_iload hx hb dL_law_309 (lv_at hl 4 rfl) ?_
  refine lv_iconst (v := 1) hx hb dL_law_311 (by decide) ?_
  refine lv_iadd hx hb dL_law_312 ?_
  refine lv_topi (fun x32 ex32 => ?_)
  obtain rfl : nI (n + 1) = x32 := (ex32.trans (nI_add n 1)).symm
  refine va_sld hx hb hX hbl hbA hS (i := (nI (n + 1))) (vin_t (a := ((n + 1 : Nat) : Int)) (nI_toInt (by omega)) (by omega) (by omega)) dL_law_313 ?_
  refine lv_topi (fun x33 ex33 => ?_)
  obtain rfl : x22 = x33 := by rw [ex33, ex22] <;> exact congrArg xs (tn_same (i := (nI (n + 1))) (j := (nI (n + 1))) (show (nI (n + 1)).toInt = ((n + 1 : Nat) : Int) from (nI_toInt (by omega))) (show (nI (n + 1)).toInt = ((n + 1 : Nat) : Int) from (nI_toInt (by omega))) (by omega))
  refine lv_aload_n hx hb dL_law_314 rfl (lv_at hl 0 rfl) ?_
  refine lv_iload hx hb dL_law_315 (lv_at hl 4 rfl) ?_
  refine lv_iconst (v := 2) hx hb dL_law_317 (by decide) ?_
  refine lv_iadd hx hb dL_law_318 ?_
  refine lv_topi (fun x34 ex34 => ?_)
  obtain rfl : nI (n + 2) = x34 := (ex34.trans (nI_add n 2)).symm
  refine va_sld hx hb hX hbl hbA hS (i := (nI (n + 2))) (vin_t (a := ((n + 2 : Nat) : Int)) (nI_toInt (by omega)) (by omega) (by omega)) dL_law_319 ?_
  refine lv_topi (fun x35 ex35 => ?_)
  obtain rfl : x24 = x35 := by rw [ex35, ex24] <;> exact congrArg xs (tn_same (i := (nI (n + 2))) (j := (nI (n + 2))) (show (nI (n + 2)).toInt = ((n + 2 : Nat) : Int) from (nI_toInt (by omega))) (show (nI (n + 2)).toInt = ((n + 2 : Nat) : Int) from (nI_toInt (by omega))) (by omega))
  refine lv_aload_n hx hb dL_law_320 rfl (lv_at hl 0 rfl) ?_
  refine lv_iload hx hb dL_law_321 (lv_at hl 4 rfl) ?_
  refine lv_iconst (v := 3) hx hb dL_law_323 (by decide) ?_
  refine lv_iadd hx hb dL_law_324 ?_
  refine lv_topi (fun x36 ex36 => ?_)
  obtain rfl : nI (n + 3) = x36 := (ex36.trans (nI_add n 3)).symm
  refine va_sld hx hb hX hbl hbA hS (i := (nI (n + 3))) (vin_t (a := ((n + 3 : Nat) : Int)) (nI_toInt (by omega)) (by omega) (by omega)) dL_law_325 ?_
  refine lv_topi (fun x37 ex37 => ?_)
  obtain rfl : x26 = x37 := by rw [ex37, ex26] <;> exact congrArg xs (tn_same (i := (nI (n + 3))) (j := (nI (n + 3))) (show (nI (n + 3)).toInt = ((n + 3 : Nat) : Int) from (nI_toInt (by omega))) (show (nI (n + 3)).toInt = ((n + 3 : Nat) : Int) from (nI_toInt (by omega))) (by omega))
  refine lv_aload_n hx hb dL_law_326 rfl (lv_at hl 0 rfl) ?_
  refine lv_iload hx hb dL_law_327 (lv_at hl 4 rfl) ?_
  refine lv_iconst (v := 4) hx hb dL_law_329 (by decide) ?_
  refine lv_iadd hx hb dL_law_330 ?_
  refine lv_topi (fun x38 ex38 => ?_)
  obtain rfl : nI (n + 4) = x38 := (ex38.trans (nI_add n 4)).symm
  refine va_sld hx hb hX hbl hbA hS (i := (nI (n + 4))) (vin_t (a := ((n + 4 : Nat) : Int)) (nI_toInt (by omega)) (by omega) (by omega)) dL_law_331 ?_
  refine lv_topi (fun x39 ex39 => ?_)
  obtain rfl : x28 = x39 := by rw [ex39, ex28] <;> exact congrArg xs (tn_same (i := (nI (n + 4))) (j := (nI (n + 4))) (show (nI (n + 4)).toInt = ((n + 4 : Nat) : Int) from (nI_toInt (by omega))) (show (nI (n + 4)).toInt = ((n + 4 : Nat) : Int) from (nI_toInt (by omega))) (by omega))
  refine lv_aload_n hx hb dL_law_332 rfl (lv_at hl 0 rfl) ?_
  refine lv_iload hx hb dL_law_333 (lv_at hl 4 rfl) ?_
  refine lv_iconst (v := 5) hx hb dL_law_335 (by decide) ?_
  refine lv_iadd hx hb dL_law_336 ?_
  refine lv_topi (fun x40 ex40 => ?_)
  obtain rfl : nI (n + 5) = x40 := (ex40.trans (nI_add n 5)).symm
  refine va_sld hx hb hX hbl hbA hS (i := (nI (n + 5))) (vin_t (a := ((n + 5 : Nat) : Int)) (nI_toInt (by omega)) (by omega) (by omega)) dL_law_337 ?_
  refine lv_topi (fun x41 ex41 => ?_)
  obtain rfl : x30 = x41 := by rw [ex41, ex30] <;> exact congrArg xs (tn_same (i := (nI (n + 5))) (j := (nI (n + 5))) (show (nI (n + 5)).toInt = ((n + 5 : Nat) : Int) from (nI_toInt (by omega))) (show (nI (n + 5)).toInt = ((n + 5 : Nat) : Int) from (nI_toInt (by omega))) (by omega))
  have hFc := gA_m hPr hGP hGA hA hS
  refine va_calli (va_runV (As := [.int x22, .int x24, .int x26, .int x28, .int x30]) (rest := []) ⟨hx, hb, hml, hown, hts⟩ (r_feed l dC dI kA adK adV Gm H h0 x22 x24 x26 x28 x30  hR) (cwV 5 hts (goodIn_app (goodIn_r _ [17, 18, 19, 20] rfl (by decide +kernel)) (goodIn_ca (goodIn_r _ [12, 13, 14, 15, 16] rfl (by decide +kernel)) (bs_in2 _ _))) rfl rfl rfl (by decide +kernel) ⟨(Nat.le_of_ble_eq_true rfl), (Nat.le_of_ble_eq_true rfl)⟩) ⟨fun a U g mk q => by obtain ⟨q0, q1, qK, qE⟩ := q; exact ⟨q0, q1, va_K.moved (u := U) (U := U.calling g mk a) (Vm.Alike.refl U.vm) qK, EVS.blind g mk a qE⟩, RI.recv hK hR.ri, fun U hU hW => ⟨rfl, hU, va_K.moved hW.alike hK, hE.1.call hS hFc hU hW⟩⟩ rfl rfl hl.1 rfl (lv_room (Nat.le_of_ble_eq_true rfl)) dL_law_338 ⟨show cells + 0 + 0 ≤ 603072 from by omega, show slots + 0 + 0 ≤ 7262314 from by omega⟩) hS (fun q _ h => hFc q h) hFc (fun r42 u t H locs ht hvm hw hB hz1 hk1 hS => ?_)
  (try dsimp only at hB); rw [ht] at hB
  have hC := hC.kept (fun a h1 h2 => hk1 a h1 (gA_mn hGP h1 h2))
  have hR := hB
  have hPr : ∀ a, Pr a → a < H.size := fun a h => Nat.lt_of_lt_of_le (hPr a h) hz1
  refine lv_pop hx hb dL_law_341 rfl ?_
  refine lv_goto (tgt := 2491) hx hb dL_law_342 (by decide) ?_
  exact W.widen (k := cells + 1170) (n := slots + 14100) (by omega) (by omega) (kk g H _ ls hC hR hPr hS (lv_sub hl [0, 1, 2, 3, 4] rfl))
def w_law_1 : List Cond := .initialized RL :: (HAppend.hAppend (α := List Cond) (β := List Cond) (γ := List Cond) [.code yX11_end cX11_end 2 (some .boolean), .fieldLink RX11 47 "SeaLand" "taped" "I", .methodLink RL 177 yX11_end, .instanceMethod yX11_end, .selects RX11 yX11_end yX11_end, .initialized RX11, .code yX12_end cX12_end 2 (some .boolean), .fieldLink RX12 194 "SeaLandModel" "thrown" "I", .fieldLink RX12 332 "SeaLandModel" "taped" "I", .methodLink RL 180 yX12_end, .instanceMethod yX12_end, .selects RX12 yX12_end yX12_end, .initialized RX12] bs2)
set_option maxHeartbeats 4000000 in
set_option maxRecDepth 100000 in
theorem law_1 {p : Program} {e : Env} {s : State} {m : MethodId} {below : List Frame} {meth : Method} {c : Code} {Q : State → Prop} (l : Launch) (hlt : l.stackTraces = false) {b L : Nat} {xs : Nat → Int32} {A : Nat → Prop} (hx : p.tables.exec = Jvm.exec) (hb : c.code = code) (hml : c.maxLocals = 7) (hown : s.vm.findClass RL = some m.cls) (hts : ∀ w ∈ w_law_1, w.before #[Value.ref b] s = true) (hX : va_X b L xs s s.heap) (hbl : b < s.heap.size) (hbA : ¬ A b) (hL : L ≤ 4096) {adK adV : Nat → Nat} (hE : EVC adK adV A s s.heap) (hN : NC s) (hAO : AO s) (hA : ∀ q : Nat, s.heap.size ≤ q → A q) {dC : Nat → ClassId} {dI : Nat → Nat → Nat} {kA : Nat → ClassId} (hK : va_K (dC, dI) vwCl (tyl kA) s) {Pr : Nat → Prop} {Gm : gT} {x h0 ou : Nat} (hPA : ∀ q, ¬ Pr q → A q) (hGP : ∀ a t, Gm a = some t → Pr a) (hGA : ∀ a t, Gm a = some t → A a) (n : Nat) (hn : n + 8 ≤ L) (H : Heap) (locs : List Loc) (cells slots : Nat) (hcl : cells + 1170 ≤ 603072) (hsl : slots + 14100 ≤ 7262314) (g : gz) (hC : CJ dC dI kA Pr g x ou H) (hR : RJ dC dI kA g h0 Gm H) (hPr : ∀ a, Pr a → a < H.size) (hS : va_S A s.heap H locs) (ls : Array Slot) (hl : lv_has ls 7 [(0, .ref b), (1, .ref x), (2, .ref h0), (3, .ref ou), (4, .int (nI n))]) (kk : ∀ (g : gz) (H : Heap) (locs : List Loc) (ls : Array Slot), CJ dC dI kA Pr g x ou H → RJ dC dI kA g h0 Gm H → (∀ a, Pr a → a < H.size) → va_S A s.heap H locs → lv_has ls 7 [(0, .ref b), (1, .ref x), (2, .ref h0), (3, .ref ou), (4, .int (nI n))] → W p l e room_1 s m #[Value.ref b] below meth c H locs (cells + 1170) (slots + 14100) Q (F0 m 2491 ls [])) : W p l e room_1 s m #[Value.ref b] below meth c H locs cells slots Q (F0 m 345 ls []) := by
  refine lv_aload_n hx hb dL_law_345 rfl (lv_at hl 1 rfl) ?_
  refine lv_aload_n hx hb dL_law_346 rfl (lv_at hl 0 rfl) ?_
  refine lv_iload hx hb dL_law_347 (lv_at hl 4 rfl) ?_
  refine lv_iconst (v := 1) hx hb dL_law_349 (by decide) ?_
  refine lv_iadd hx hb dL_law_350 ?_
  refine lv_topi (fun x21 ex21 => ?_)
  obtain rfl : nI (n + 1) = x21 := (ex21.trans (nI_add n 1)).symm
  refine va_sld hx hb hX hbl hbA hS (i := (nI (n + 1))) (vin_t (a := ((n + 1 : Nat) : Int)) (nI_toInt (by omega)) (by omega) (by omega)) dL_law_351 ?_
  refine lv_topi (fun x22 ex22 => ?_)
  have hFc := hPA
  refine va_calli (va_runV (As := [.int x22]) (rest := []) ⟨hx, hb, hml, hown, hts⟩ (k_end l hlt dC dI kA adK adV Pr H x ou x22  hPr hC) (cwV 1 hts (goodIn_app (goodIn_r _ [3, 4, 5, 6] rfl (by decide +kernel)) (goodIn_ca (goodIn_r _ [1, 2] rfl (by decide +kernel)) (bs2_in _ _))) rfl rfl rfl (by decide +kernel) ⟨(Nat.le_of_ble_eq_true rfl), (Nat.le_of_ble_eq_true rfl)⟩) ⟨fun a U g mk q => by obtain ⟨q0, q1, qK, qE, qN, qA⟩ := q; exact ⟨q0, q1, va_K.moved (u := U) (U := U.calling g mk a) (Vm.Alike.refl U.vm) qK, EVC.blind g mk a qE, NC.blind g mk a qN, AO.blind g mk a qA⟩, CJ.recv hK hC, fun U hU hW => ⟨rfl, hU, va_K.moved hW.alike hK, hE.call hS hFc hU hW, hN.call hW, hAO.call hW⟩⟩ rfl rfl hl.1 rfl (lv_room (Nat.le_of_ble_eq_true rfl)) dL_law_352 ⟨show cells + 0 ≤ 603072 from by omega, show slots + 0 ≤ 7262314 from by omega⟩) hS (fun q _ h => hFc q h) hFc (fun r23 u t H locs ht hvm hw hB hz1 hk1 hS => ?_)
  (try dsimp only at hB); rw [ht] at hB
  have hR := hR.kept (fun a t h => hk1 a (hPr a (hGP a t h)) (fun h9 => h9 (hGP a t h)))
  have hC := hB
  have hPr : ∀ a, Pr a → a < H.size := fun a h => Nat.lt_of_lt_of_le (hPr a h) hz1
  refine lv_pop hx hb dL_law_355 rfl ?_
  refine lv_aload_n hx hb dL_law_356 rfl (lv_at hl 2 rfl) ?_
  refine lv_aload_n hx hb dL_law_357 rfl (lv_at hl 0 rfl) ?_
  refine lv_iload hx hb dL_law_358 (lv_at hl 4 rfl) ?_
  refine lv_iconst (v := 1) hx hb dL_law_360 (by decide) ?_
  refine lv_iadd hx hb dL_law_361 ?_
  refine lv_topi (fun x24 ex24 => ?_)
  obtain rfl : nI (n + 1) = x24 := (ex24.trans (nI_add n 1)).symm
  refine va_sld hx hb hX hbl hbA hS (i := (nI (n + 1))) (vin_t (a := ((n + 1 : Nat) : Int)) (nI_toInt (by omega)) (by omega) (by omega)) dL_law_362 ?_
  refine lv_topi (fun x25 ex25 => ?_)
  obtain rfl : x22 = x25 := by rw [ex25, ex22] <;> exact congrArg xs (tn_same (i := (nI (n + 1))) (j := (nI (n + 1))) (show (nI (n + 1)).toInt = ((n + 1 : Nat) : Int) from (nI_toInt (by omega))) (show (nI (n + 1)).toInt = ((n + 1 : Nat) : Int) from (nI_toInt (by omega))) (by omega))
  have hFc := gA_m hPr hGP hGA hA hS
  refine va_calli (va_runV (As := [.int x22]) (rest := []) ⟨hx, hb, hml, hown, hts⟩ (r_end l dC dI kA adK adV Gm H h0 x22  hR) (cwV 1 hts (goodIn_app (goodIn_r _ [10, 11, 12, 13] rfl (by decide +kernel)) (goodIn_ca (goodIn_r _ [7, 8, 9] rfl (by decide +kernel)) (bs_in2 _ _))) rfl rfl rfl (by decide +kernel) ⟨(Nat.le_of_ble_eq_true rfl), (Nat.le_of_ble_eq_true rfl)⟩) ⟨fun a U g mk q => by obtain ⟨q0, q1, qK, qE⟩ := q; exact ⟨q0, q1, va_K.moved (u := U) (U := U.calling g mk a) (Vm.Alike.refl U.vm) qK, EVS.blind g mk a qE⟩, RI.recv hK hR.ri, fun U hU hW => ⟨rfl, hU, va_K.moved hW.alike hK, hE.1.call hS hFc hU hW⟩⟩ rfl rfl hl.1 rfl (lv_room (Nat.le_of_ble_eq_true rfl)) dL_law_363 ⟨show cells + 0 + 0 ≤ 603072 from by omega, show slots + 0 + 0 ≤ 7262314 from by omega⟩) hS (fun q _ h => hFc q h) hFc (fun r26 u t H locs ht hvm hw hB hz1 hk1 hS => ?_)
  (try dsimp only at hB); rw [ht] at hB
  have hC := hC.kept (fun a h1 h2 => hk1 a h1 (gA_mn hGP h1 h2))
  have hR := hB
  have hPr : ∀ a, Pr a → a < H.size := fun a h => Nat.lt_of_lt_of_le (hPr a h) hz1
  refine lv_pop hx hb dL_law_366 rfl ?_
  refine lv_goto (tgt := 2491) hx hb dL_law_367 (by decide) ?_
  exact W.widen (k := cells + 1170) (n := slots + 14100) (by omega) (by omega) (kk g H _ ls hC hR hPr hS (lv_sub hl [0, 1, 2, 3, 4] rfl))
def w_law_2 : List Cond := .initialized RL :: (HAppend.hAppend (α := List Cond) (β := List Cond) (γ := List Cond) [.codeWith yL_land cL_land 8 (some .int) [(0, 16, 19, 13), (0, 16, 23, 15), (0, 16, 27, 17)], .code yX11_land cX11_land 8 (some .int), .code yX11_needSquare cX11_needSquare 1 none, .code yX11_within cX11_within 3 (some .boolean), .methodLink RX11 58 yX11_within, .static yX11_within, .initialized RX11, .classLink RX11 557 "java/lang/IndexOutOfBoundsException", .initialized "java/lang/IndexOutOfBoundsException", .methodLink RX11 55 yX11_needSquare, .static yX11_needSquare, .code yX11_needNumbers cX11_needNumbers 1 none, .classLink RX11 547 "java/lang/IllegalArgumentException", .initialized "java/lang/IllegalArgumentException", .methodLink RX11 62 yX11_needNumbers, .static yX11_needNumbers, .fieldLink RX11 16 "SeaLand" "lake" "LSeaLand$Lake;", .fieldLink RX11 23 "SeaLand" "rows" "LSeaLand$Rows;", .code yX6_forget cX6_forget 1 none, .fieldLink RX6 18 "SeaLand$Rows" "kept" "I", .fieldLink RX6 22 "SeaLand$Rows" "oldest" "I", .methodLink RX11 76 yX6_forget, .instanceMethod yX6_forget, .selects RX6 yX6_forget yX6_forget, .initialized RX6, .code yX11_inRectangle cX11_inRectangle 3 (some .boolean), .code yX11_isBetween cX11_isBetween 3 (some .boolean), .methodLink RX11 588 Lib.Math.min.name, .static Lib.Math.min.name, .initialized "java/lang/Math", .code Lib.Math.min.name Lib.Math.min.code 2 (some .int), .methodLink RX11 591 Lib.Math.max.name, .static Lib.Math.max.name, .code Lib.Math.max.name Lib.Math.max.code 2 (some .int), .methodLink RX11 585 yX11_isBetween, .static yX11_isBetween, .methodLink RX11 79 yX11_inRectangle, .static yX11_inRectangle, .code yX2_tellLand cX2_tellLand 5 none, .fieldLink RX2 9 "SeaLand$Ground" "isLand" "[Z", .fieldLink RX2 15 "SeaLand$Ground" "height" "[I", .fieldLink RX2 19 "SeaLand$Ground" "soil" "[I", .fieldLink RX2 22 "SeaLand$Ground" "ditch" "[I", .code yX2_tellWater cX2_tellWater 4 none, .fieldLink RX2 50 "SeaLand$Ground" "toldMore" "I", .fieldLink RX2 25 "SeaLand$Ground" "water" "[I", .fieldLink RX2 28 "SeaLand$Ground" "salt" "[I", .methodLink RX2 46 yX2_tellWater, .instanceMethod yX2_tellWater, .selects RX2 yX2_tellWater yX2_tellWater, .initialized RX2, .methodLink RX11 92 yX2_tellLand, .instanceMethod yX2_tellLand, .selects RX2 yX2_tellLand yX2_tellLand, .classLink RX11 69 "java/lang/IllegalStateException", .initialized "java/lang/IllegalStateException", .methodLink RL 7 yX11_land, .instanceMethod yX11_land, .selects RX11 yX11_land yX11_land, .classLink RL 13 "java/lang/IndexOutOfBoundsException", .classLink RL 15 "java/lang/IllegalArgumentException", .classLink RL 17 "java/lang/IllegalStateException", .methodLink RL 181 yL_land, .static yL_land, .initialized RL, .code yX12_land cX12_land 8 (some .int), .fieldLink RX12 194 "SeaLandModel" "thrown" "I", .code yX12_noSquare cX12_noSquare 1 (some .boolean), .code yX12_in cX12_in 3 (some .boolean), .methodLink RX12 197 yX12_in, .static yX12_in, .initialized RX12, .methodLink RX12 220 yX12_noSquare, .static yX12_noSquare, .code yX12_throwsIf cX12_throwsIf 3 (some .boolean), .methodLink RX12 224 yX12_throwsIf, .instanceMethod yX12_throwsIf, .selects RX12 yX12_throwsIf yX12_throwsIf, .code yX12_hour cX12_hour 1 (some .int), .fieldLink RX12 9 "SeaLandModel" "world" "[I", .methodLink RX12 228 yX12_hour, .instanceMethod yX12_hour, .selects RX12 yX12_hour yX12_hour, .fieldLink RX12 238 "SeaLandModel" "rows" "I", .code yX12_isIn cX12_isIn 5 (some .boolean), .methodLink RX12 207 Lib.Math.min.name, .methodLink RX12 211 Lib.Math.max.name, .methodLink RX12 232 yX12_isIn, .static yX12_isIn, .code yX12_isLand cX12_isLand 2 (some .boolean), .methodLink RX12 235 yX12_isLand, .instanceMethod yX12_isLand, .selects RX12 yX12_isLand yX12_isLand, .methodLink RL 186 yX12_land, .instanceMethod yX12_land, .selects RX12 yX12_land yX12_land] bs2)
set_option maxHeartbeats 4000000 in
set_option maxRecDepth 100000 in
theorem law_2 {p : Program} {e : Env} {s : State} {m : MethodId} {below : List Frame} {meth : Method} {c : Code} {Q : State → Prop} (l : Launch) (hlt : l.stackTraces = false) {b L : Nat} {xs : Nat → Int32} {A : Nat → Prop} (hx : p.tables.exec = Jvm.exec) (hb : c.code = code) (hml : c.maxLocals = 7) (hown : s.vm.findClass RL = some m.cls) (hts : ∀ w ∈ w_law_2, w.before #[Value.ref b] s = true) (hX : va_X b L xs s s.heap) (hbl : b < s.heap.size) (hbA : ¬ A b) (hL : L ≤ 4096) {adK adV : Nat → Nat} (hE : EVC adK adV A s s.heap) (hN : NC s) (hAO : AO s) (hA : ∀ q : Nat, s.heap.size ≤ q → A q) {dC : Nat → ClassId} {dI : Nat → Nat → Nat} {kA : Nat → ClassId} (hK : va_K (dC, dI) vwCl (tyl kA) s) {Pr : Nat → Prop} {Gm : gT} {x h0 ou : Nat} (hPA : ∀ q, ¬ Pr q → A q) (hGP : ∀ a t, Gm a = some t → Pr a) (hGA : ∀ a t, Gm a = some t → A a) (n : Nat) (hn : n + 8 ≤ L) (H : Heap) (locs : List Loc) (cells slots : Nat) (hcl : cells + 1170 ≤ 603072) (hsl : slots + 14100 ≤ 7262314) (g : gz) (hC : CJ dC dI kA Pr g x ou H) (hR : RJ dC dI kA g h0 Gm H) (hPr : ∀ a, Pr a → a < H.size) (hS : va_S A s.heap H locs) (ls : Array Slot) (hl : lv_has ls 7 [(0, .ref b), (1, .ref x), (2, .ref h0), (3, .ref ou), (4, .int (nI n))]) (kk : ∀ (g : gz) (H : Heap) (locs : List Loc) (ls : Array Slot), CJ dC dI kA Pr g x ou H → RJ dC dI kA g h0 Gm H → (∀ a, Pr a → a < H.size) → va_S A s.heap H locs → lv_has ls 7 [(0, .ref b), (1, .ref x), (2, .ref h0), (3, .ref ou), (4, .int (nI n))] → W p l e room_1 s m #[Value.ref b] below meth c H locs (cells + 1170) (slots + 14100) Q (F0 m 2491 ls [])) : W p l e room_1 s m #[Value.ref b] below meth c H locs cells slots Q (F0 m 370 ls []) := by
  refine lv_aload_n hx hb dL_law_370 rfl (lv_at hl 1 rfl) ?_
  refine lv_aload_n hx hb dL_law_371 rfl (lv_at hl 0 rfl) ?_
  refine lv_iload hx hb dL_law_372 (lv_at hl 4 rfl) ?_
  refine lv_iconst (v := 1) hx hb dL_law_374 (by decide) ?_
  refine lv_iadd hx hb dL_law_375 ?_
  refine lv_topi (fun x21 ex21 => ?_)
  obtain rfl : nI (n + 1) = x21 := (ex21.trans (nI_add n 1)).symm
  refine va_sld hx hb hX hbl hbA hS (i := (nI (n + 1))) (vin_t (a := ((n + 1 : Nat) : Int)) (nI_toInt (by omega)) (by omega) (by omega)) dL_law_376 ?_
  refine lv_topi (fun x22 ex22 => ?_)
  refine lv_aload_n hx hb dL_law_377 rfl (lv_at hl 0 rfl) ?_
  refine lv_iload hx hb dL_law_378 (lv_at hl 4 rfl) ?_
  refine lv_iconst (v := 2) hx hb dL_law_380 (by decide) ?_
  refine lv_iadd hx hb dL_law_381 ?_
  refine lv_topi (fun x23 ex23 => ?_)
  obtain rfl : nI (n + 2) = x23 := (ex23.trans (nI_add n 2)).symm
  refine va_sld hx hb hX hbl hbA hS (i := (nI (n + 2))) (vin_t (a := ((n + 2 : Nat) : Int)) (nI_toInt (by omega)) (by omega) (by omega)) dL_law_382 ?_
  refine lv_topi (fun x24 ex24 => ?_)
  refine lv_aload_n hx hb dL_law_383 rfl (lv_at hl 0 rfl) ?_
  refine lv_iload hx hb dL_law_384 (lv_at hl 4 rfl) ?_
  refine lv_iconst (v := 3) hx hb dL_law_386 (by decide) ?_
  refine lv_iadd hx hb dL_law_387 ?_
  refine lv_topi (fun x25 ex25 => ?_)
  obtain rfl : nI (n + 3) = x25 := (ex25.trans (nI_add n 3)).symm
  refine va_sld hx hb hX hbl hbA hS (i := (nI (n + 3))) (vin_t (a := ((n + 3 : Nat) : Int)) (nI_toInt (by omega)) (by omega) (by omega)) dL_law_388 ?_
  refine lv_topi (fun x26 ex26 => ?_)
  refine lv_aload_n hx hb dL_law_389 rfl (lv_at hl 0 rfl) ?_
  refine lv_iload hx hb dL_law_390 (lv_at hl 4 rfl) ?_
  refine lv_iconst (v := 4) hx hb dL_law_392 (by decide) ?_
  refine lv_iadd hx hb dL_law_393 ?_
  refine lv_topi (fun x27 ex27 => ?_)
  obtain rfl : nI (n + 4) = x27 := (ex27.trans (nI_add n 4)).symm
  refine va_sld hx hb hX hbl hbA hS (i := (nI (n + 4))) (vin_t (a := ((n + 4 : Nat) : Int)) (nI_toInt (by omega)) (by omega) (by omega)) dL_law_394 ?_
  refine lv_topi (fun x28 ex28 => ?_)
  refine lv_aload_n hx hb dL_law_395 rfl (lv_at hl 0 rfl) ?_
  refine lv_iload hx hb dL_law_396 (lv_at hl 4 rfl) ?_
  refine lv_iconst (v := 5) hx hb dL_law_398 (by decide) ?_
  refine lv_iadd hx hb dL_law_399 ?_
  refine lv_topi (fun x29 ex29 => ?_)
  obtain rfl : nI (n + 5) = x29 := (ex29.trans (nI_add n 5)).symm
  refine va_sld hx hb hX hbl hbA hS (i := (nI (n + 5))) (vin_t (a := ((n + 5 : Nat) : Int)) (nI_toInt (by omega)) (by omega) (by omega)) dL_law_400 ?_
  refine lv_topi (fun x30 ex30 => ?_)
  refine lv_aload_n hx hb dL_law_401 rfl (lv_at hl 3 rfl) ?_
  have hFc := hPA
  refine va_calli (vx_runSW (As := [.ref x, .int x22, .int x24, .int x26, .int x28, .int x30, .ref ou]) (rest := []) ⟨hx, hb, hml, hown, hts⟩ (k_land l hlt dC dI kA adK adV Pr H x ou x22 x24 x26 x28 x30  hPr hC) (vx_cwSW 7 hts (goodIn_app (goodIn_r _ [63, 64, 65] rfl (by decide +kernel)) (goodIn_ca (goodIn_r _ [1, 2, 3, 4, 5, 6, 7, 8, 9, 10, 11, 12, 13, 14, 15, 16, 17, 18, 19, 20, 21, 22, 23, 24, 25, 26, 27, 28, 29, 30, 31, 32, 33, 34, 35, 36, 37, 38, 39, 40, 41, 42, 43, 44, 45, 46, 47, 48, 49, 50, 51, 52, 53, 54, 55, 56, 57, 58, 59, 60, 61, 62] rfl (by decide +kernel)) (bs2_in _ _))) rfl rfl rfl (by decide +kernel) ⟨(Nat.le_of_ble_eq_true rfl), (Nat.le_of_ble_eq_true rfl)⟩) ⟨fun a U g mk q => by obtain ⟨q0, q1, qK, qE, qN, qA⟩ := q; exact ⟨q0, q1, va_K.moved (u := U) (U := U.calling g mk a) (Vm.Alike.refl U.vm) qK, EVC.blind g mk a qE, NC.blind g mk a qN, AO.blind g mk a qA⟩, fun U hU hW => ⟨rfl, hU, va_K.moved hW.alike hK, hE.call hS hFc hU hW, hN.call hW, hAO.call hW⟩⟩ rfl rfl hl.1 rfl (lv_room (Nat.le_of_ble_eq_true rfl)) dL_law_402 ⟨show cells + 3 ≤ 603072 from by omega, show slots + 18 ≤ 7262314 from by omega⟩) hS (fun q _ h => hFc q h) hFc (fun r31 u t H locs ht hvm hw hB hz1 hk1 hS => ?_)
  (try dsimp only at hB); rw [ht] at hB
  have hk9 := hw
  have hR := hR.kept (fun a t h => hk1 a (hPr a (hGP a t h)) (fun h9 => h9 (hGP a t h)))
  have hC := hB
  have hPr : ∀ a, Pr a → a < H.size := fun a h => Nat.lt_of_lt_of_le (hPr a h) hz1
  refine lv_istore (lv' := [(5, .int r31), (0, .ref b), (1, .ref x), (2, .ref h0), (3, .ref ou), (4, .int (nI n))]) hx hb dL_law_405 hl (by decide) rfl (fun ls hl => ?_)
  refine lv_aload_n hx hb dL_law_407 rfl (lv_at hl 3 rfl) ?_
  refine lv_aload_n hx hb dL_law_408 rfl (lv_at hl 1 rfl) ?_
  refine lv_iload hx hb dL_law_409 (lv_at hl 5 rfl) ?_
  refine lv_iconst (v := 1) hx hb dL_law_411 (by decide) ?_
  refine lv_iadd hx hb dL_law_412 ?_
  refine lv_topi (fun x32 ex32 => ?_)
  obtain rfl : nI (n + 1) = x32 := (ex32.trans (nI_add n 1)).symm
  refine va_sld hx hb hX hbl hbA hS (i := (nI (n + 1))) (vin_t (a := ((n + 1 : Nat) : Int)) (nI_toInt (by omega)) (by omega) (by omega)) dL_law_413 ?_
  refine lv_topi (fun x33 ex33 => ?_)
  obtain rfl : x22 = x33 := by rw [ex33, ex22] <;> exact congrArg xs (tn_same (i := (nI (n + 1))) (j := (nI (n + 1))) (show (nI (n + 1)).toInt = ((n + 1 : Nat) : Int) from (nI_toInt (by omega))) (show (nI (n + 1)).toInt = ((n + 1 : Nat) : Int) from (nI_toInt (by omega))) (by omega))
  refine lv_aload_n hx hb dL_law_414 rfl (lv_at hl 1 rfl) ?_
  refine lv_iload hx hb dL_law_415 (lv_at hl 5 rfl) ?_
  refine lv_iconst (v := 2) hx hb dL_law_417 (by decide) ?_
  refine lv_iadd hx hb dL_law_418 ?_
  refine lv_topi (fun x34 ex34 => ?_)
  obtain rfl : nI (n + 2) = x34 := (ex34.trans (nI_add n 2)).symm
  refine va_sld hx hb hX hbl hbA hS (i := (nI (n + 2))) (vin_t (a := ((n + 2 : Nat) : Int)) (nI_toInt (by omega)) (by omega) (by omega)) dL_law_419 ?_
  refine lv_topi (fun x35 ex35 => ?_)
  obtain rfl : x24 = x35 := by rw [ex35, ex24] <;> exact congrArg xs (tn_same (i := (nI (n + 2))) (j := (nI (n + 2))) (show (nI (n + 2)).toInt = ((n + 2 : Nat) : Int) from (nI_toInt (by omega))) (show (nI (n + 2)).toInt = ((n + 2 : Nat) : Int) from (nI_toInt (by omega))) (by omega))
  refine lv_aload_n hx hb dL_law_420 rfl (lv_at hl 1 rfl) ?_
  refine lv_iload hx hb dL_law_421 (lv_at hl 5 rfl) ?_
  refine lv_iconst (v := 3) hx hb dL_law_423 (by decide) ?_
  refine lv_iadd hx hb dL_law_424 ?_
  refine lv_topi (fun x36 ex36 => ?_)
  obtain rfl : nI (n + 3) = x36 := (ex36.trans (nI_add n 3)).symm
  refine va_sld hx hb hX hbl hbA hS (i := (nI (n + 3))) (vin_t (a := ((n + 3 : Nat) : Int)) (nI_toInt (by omega)) (by omega) (by omega)) dL_law_425 ?_
  refine lv_topi (fun x37 ex37 => ?_)
  obtain rfl : x26 = x37 := by rw [ex37, ex26] <;> exact congrArg xs (tn_same (i := (nI (n + 3))) (j := (nI (n + 3))) (show (nI (n + 3)).toInt = ((n + 3 : Nat) : Int) from (nI_toInt (by omega))) (show (nI (n + 3)).toInt = ((n + 3 : Nat) : Int) from (nI_toInt (by omega))) (by omega))
  refine lv_aload_n hx hb dL_law_426 rfl (lv_at hl 1 rfl) ?_
  refine lv_iload hx hb dL_law_427 (lv_at hl 5 rfl) ?_
  refine lv_iconst (v := 4) hx hb dL_law_429 (by decide) ?_
  refine lv_iadd hx hb dL_law_430 ?_
  refine lv_topi (fun x38 ex38 => ?_)
  obtain rfl : nI (n + 4) = x38 := (ex38.trans (nI_add n 4)).symm
  refine va_sld hx hb hX hbl hbA hS (i := (nI (n + 4))) (vin_t (a := ((n + 4 : Nat) : Int)) (nI_toInt (by omega)) (by omega) (by omega)) dL_law_431 ?_
  refine lv_topi (fun x39 ex39 => ?_)
  obtain rfl : x28 = x39 := by rw [ex39, ex28] <;> exact congrArg xs (tn_same (i := (nI (n + 4))) (j := (nI (n + 4))) (show (nI (n + 4)).toInt = ((n + 4 : Nat) : Int) from (nI_toInt (by omega))) (show (nI (n + 4)).toInt = ((n + 4 : Nat) : Int) from (nI_toInt (by omega))) (by omega))
  refine lv_aload_n hx hb dL_law_432 rfl (lv_at hl 1 rfl) ?_
  refine lv_iload hx hb dL_law_433 (lv_at hl 5 rfl) ?_
  refine lv_iconst (v := 5) hx hb dL_law_435 (by decide) ?_
  refine lv_iadd hx hb dL_law_436 ?_
  refine lv_topi (fun x40 ex40 => ?_)
  obtain rfl : nI (n + 5) = x40 := (ex40.trans (nI_add n 5)).symm
  refine va_sld hx hb hX hbl hbA hS (i := (nI (n + 5))) (vin_t (a := ((n + 5 : Nat) : Int)) (nI_toInt (by omega)) (by omega) (by omega)) dL_law_437 ?_
  refine lv_topi (fun x41 ex41 => ?_)
  obtain rfl : x30 = x41 := by rw [ex41, ex30] <;> exact congrArg xs (tn_same (i := (nI (n + 5))) (j := (nI (n + 5))) (show (nI (n + 5)).toInt = ((n + 5 : Nat) : Int) from (nI_toInt (by omega))) (show (nI (n + 5)).toInt = ((n + 5 : Nat) : Int) from (nI_toInt (by omega))) (by omega))
  have hFc := gA_m hPr hGP hGA hA hS
  refine va_calli (va_runV (As := [.int x22, .int x24, .int x26, .int x28, .int x30]) (rest := []) ⟨hx, hb, hml, hown, hts⟩ (r_land l dC dI kA adK adV Gm H h0 x22 x24 x26 x28 x30  hR) (cwV 5 hts (goodIn_app (goodIn_r _ [94, 95, 96, 72] rfl (by decide +kernel)) (goodIn_ca (goodIn_r _ [66, 67, 68, 69, 70, 71, 72, 73, 74, 75, 76, 77, 78, 79, 80, 81, 82, 83, 84, 85, 86, 29, 30, 31, 87, 33, 34, 88, 89, 90, 91, 92, 93] rfl (by decide +kernel)) (bs_in2 _ _))) rfl rfl rfl (by decide +kernel) ⟨(Nat.le_of_ble_eq_true rfl), (Nat.le_of_ble_eq_true rfl)⟩) ⟨fun a U g mk q => by obtain ⟨q0, q1, qK, qE⟩ := q; exact ⟨q0, q1, va_K.moved (u := U) (U := U.calling g mk a) (Vm.Alike.refl U.vm) qK, EVS.blind g mk a qE⟩, RI.recv hK hR.ri, fun U hU hW => ⟨rfl, hU, va_K.moved hW.alike hK, hE.1.call hS hFc hU hW⟩⟩ rfl rfl hl.1 rfl (lv_room (Nat.le_of_ble_eq_true rfl)) dL_law_438 ⟨show cells + 3 + 0 ≤ 603072 from by omega, show slots + 18 + 0 ≤ 7262314 from by omega⟩) hS (fun q _ h => hFc q h) hFc (fun r42 u t H locs ht hvm hw hB hz1 hk1 hS => ?_)
  (try dsimp only at hB); rw [ht] at hB
  obtain ⟨t9, et9⟩ : ∃ z, z = u := ⟨_, rfl⟩; rw [← et9] at hw hB; obtain ⟨hB, hth9⟩ := hB; obtain ⟨hw9, hw8⟩ := hw
  have hC := hC.kept (fun a h1 h2 => hk1 a h1 (gA_mn hGP h1 h2))
  have hR := hB
  have hPr : ∀ a, Pr a → a < H.size := fun a h => Nat.lt_of_lt_of_le (hPr a h) hz1
  refine lv_istore (lv' := [(6, .int r42), (5, .int r31), (0, .ref b), (1, .ref x), (2, .ref h0), (3, .ref ou), (4, .int (nI n))]) hx hb dL_law_441 hl (by decide) rfl (fun ls hl => ?_)
  refine lv_goto (tgt := 2491) hx hb dL_law_443 (by decide) ?_
  exact W.widen (k := cells + 1170) (n := slots + 14100) (by omega) (by omega) (kk _ H _ ls hC hR hPr hS (lv_sub hl [2, 3, 4, 5, 6] rfl))
def w_law_3 : List Cond := .initialized RL :: (HAppend.hAppend (α := List Cond) (β := List Cond) (γ := List Cond) [.codeWith yL_fill cL_fill 6 (some .int) [(0, 19, 22, 13), (0, 19, 26, 15)], .code yX11_fill cX11_fill 4 (some .boolean), .code yX11_needSquare cX11_needSquare 1 none, .code yX11_within cX11_within 3 (some .boolean), .methodLink RX11 58 yX11_within, .static yX11_within, .initialized RX11, .classLink RX11 557 "java/lang/IndexOutOfBoundsException", .initialized "java/lang/IndexOutOfBoundsException", .methodLink RX11 55 yX11_needSquare, .static yX11_needSquare, .code yX11_needNumbers cX11_needNumbers 1 none, .classLink RX11 547 "java/lang/IllegalArgumentException", .initialized "java/lang/IllegalArgumentException", .methodLink RX11 62 yX11_needNumbers, .static yX11_needNumbers, .constant RX11 96 100000, .fieldLink RX11 16 "SeaLand" "lake" "LSeaLand$Lake;", .fieldLink RX11 23 "SeaLand" "rows" "LSeaLand$Rows;", .code yX6_forget cX6_forget 1 none, .fieldLink RX6 18 "SeaLand$Rows" "kept" "I", .fieldLink RX6 22 "SeaLand$Rows" "oldest" "I", .methodLink RX11 76 yX6_forget, .instanceMethod yX6_forget, .selects RX6 yX6_forget yX6_forget, .initialized RX6, .code yX2_tellWater cX2_tellWater 4 none, .fieldLink RX2 50 "SeaLand$Ground" "toldMore" "I", .fieldLink RX2 25 "SeaLand$Ground" "water" "[I", .fieldLink RX2 28 "SeaLand$Ground" "salt" "[I", .methodLink RX11 97 yX2_tellWater, .instanceMethod yX2_tellWater, .selects RX2 yX2_tellWater yX2_tellWater, .initialized RX2, .methodLink RL 19 yX11_fill, .instanceMethod yX11_fill, .selects RX11 yX11_fill yX11_fill, .classLink RL 13 "java/lang/IndexOutOfBoundsException", .classLink RL 15 "java/lang/IllegalArgumentException", .methodLink RL 187 yL_fill, .static yL_fill, .initialized RL, .code yX12_fill cX12_fill 4 (some .boolean), .fieldLink RX12 194 "SeaLandModel" "thrown" "I", .code yX12_noSquare cX12_noSquare 1 (some .boolean), .code yX12_in cX12_in 3 (some .boolean), .methodLink RX12 197 yX12_in, .static yX12_in, .initialized RX12, .methodLink RX12 220 yX12_noSquare, .static yX12_noSquare, .code yX12_throwsIf cX12_throwsIf 3 (some .boolean), .methodLink RX12 224 yX12_throwsIf, .instanceMethod yX12_throwsIf, .selects RX12 yX12_throwsIf yX12_throwsIf, .constant RX12 241 100000, .code yX12_isLand cX12_isLand 2 (some .boolean), .fieldLink RX12 9 "SeaLandModel" "world" "[I", .methodLink RX12 235 yX12_isLand, .instanceMethod yX12_isLand, .selects RX12 yX12_isLand yX12_isLand, .fieldLink RX12 238 "SeaLandModel" "rows" "I", .methodLink RL 190 yX12_fill, .instanceMethod yX12_fill, .selects RX12 yX12_fill yX12_fill] bs2)
set_option maxHeartbeats 4000000 in
set_option maxRecDepth 100000 in
theorem law_3 {p : Program} {e : Env} {s : State} {m : MethodId} {below : List Frame} {meth : Method} {c : Code} {Q : State → Prop} (l : Launch) (hlt : l.stackTraces = false) {b L : Nat} {xs : Nat → Int32} {A : Nat → Prop} (hx : p.tables.exec = Jvm.exec) (hb : c.code = code) (hml : c.maxLocals = 7) (hown : s.vm.findClass RL = some m.cls) (hts : ∀ w ∈ w_law_3, w.before #[Value.ref b] s = true) (hX : va_X b L xs s s.heap) (hbl : b < s.heap.size) (hbA : ¬ A b) (hL : L ≤ 4096) {adK adV : Nat → Nat} (hE : EVC adK adV A s s.heap) (hN : NC s) (hAO : AO s) (hA : ∀ q : Nat, s.heap.size ≤ q → A q) {dC : Nat → ClassId} {dI : Nat → Nat → Nat} {kA : Nat → ClassId} (hK : va_K (dC, dI) vwCl (tyl kA) s) {Pr : Nat → Prop} {Gm : gT} {x h0 ou : Nat} (hPA : ∀ q, ¬ Pr q → A q) (hGP : ∀ a t, Gm a = some t → Pr a) (hGA : ∀ a t, Gm a = some t → A a) (n : Nat) (hn : n + 8 ≤ L) (H : Heap) (locs : List Loc) (cells slots : Nat) (hcl : cells + 1170 ≤ 603072) (hsl : slots + 14100 ≤ 7262314) (g : gz) (hC : CJ dC dI kA Pr g x ou H) (hR : RJ dC dI kA g h0 Gm H) (hPr : ∀ a, Pr a → a < H.size) (hS : va_S A s.heap H locs) (ls : Array Slot) (hl : lv_has ls 7 [(0, .ref b), (1, .ref x), (2, .ref h0), (3, .ref ou), (4, .int (nI n))]) (kk : ∀ (g : gz) (H : Heap) (locs : List Loc) (ls : Array Slot), CJ dC dI kA Pr g x ou H → RJ dC dI kA g h0 Gm H → (∀ a, Pr a → a < H.size) → va_S A s.heap H locs → lv_has ls 7 [(0, .ref b), (1, .ref x), (2, .ref h0), (3, .ref ou), (4, .int (nI n))] → W p l e room_1 s m #[Value.ref b] below meth c H locs (cells + 1170) (slots + 14100) Q (F0 m 2491 ls [])) : W p l e room_1 s m #[Value.ref b] below meth c H locs cells slots Q (F0 m 446 ls []) := by
  refine lv_aload_n hx hb dL_law_446 rfl (lv_at hl 1 rfl) ?_
  refine lv_aload_n hx hb dL_law_447 rfl (lv_at hl 0 rfl) ?_
  refine lv_iload hx hb dL_law_448 (lv_at hl 4 rfl) ?_
  refine lv_iconst (v := 1) hx hb dL_law_450 (by decide) ?_
  refine lv_iadd hx hb dL_law_451 ?_
  refine lv_topi (fun x21 ex21 => ?_)
  obtain rfl : nI (n + 1) = x21 := (ex21.trans (nI_add n 1)).symm
  refine va_sld hx hb hX hbl hbA hS (i := (nI (n + 1))) (vin_t (a := ((n + 1 : Nat) : Int)) (nI_toInt (by omega)) (by omega) (by omega)) dL_law_452 ?_
  refine lv_topi (fun x22 ex22 => ?_)
  refine lv_aload_n hx hb dL_law_453 rfl (lv_at hl 0 rfl) ?_
  refine lv_iload hx hb dL_law_454 (lv_at hl 4 rfl) ?_
  refine lv_iconst (v := 2) hx hb dL_law_456 (by decide) ?_
  refine lv_iadd hx hb dL_law_457 ?_
  refine lv_topi (fun x23 ex23 => ?_)
  obtain rfl : nI (n + 2) = x23 := (ex23.trans (nI_add n 2)).symm
  refine va_sld hx hb hX hbl hbA hS (i := (nI (n + 2))) (vin_t (a := ((n + 2 : Nat) : Int)) (nI_toInt (by omega)) (by omega) (by omega)) dL_law_458 ?_
  refine lv_topi (fun x24 ex24 => ?_)
  refine lv_aload_n hx hb dL_law_459 rfl (lv_at hl 0 rfl) ?_
  refine lv_iload hx hb dL_law_460 (lv_at hl 4 rfl) ?_
  refine lv_iconst (v := 3) hx hb dL_law_462 (by decide) ?_
  refine lv_iadd hx hb dL_law_463 ?_
  refine lv_topi (fun x25 ex25 => ?_)
  obtain rfl : nI (n + 3) = x25 := (ex25.trans (nI_add n 3)).symm
  refine va_sld hx hb hX hbl hbA hS (i := (nI (n + 3))) (vin_t (a := ((n + 3 : Nat) : Int)) (nI_toInt (by omega)) (by omega) (by omega)) dL_law_464 ?_
  refine lv_topi (fun x26 ex26 => ?_)
  refine lv_aload_n hx hb dL_law_465 rfl (lv_at hl 3 rfl) ?_
  have hFc := hPA
  refine va_calli (vx_runSW (As := [.ref x, .int x22, .int x24, .int x26, .ref ou]) (rest := []) ⟨hx, hb, hml, hown, hts⟩ (k_fill l hlt dC dI kA adK adV Pr H x ou x22 x24 x26  hPr hC) (vx_cwSW 5 hts (goodIn_app (goodIn_r _ [40, 41, 42] rfl (by decide +kernel)) (goodIn_ca (goodIn_r _ [1, 2, 3, 4, 5, 6, 7, 8, 9, 10, 11, 12, 13, 14, 15, 16, 17, 18, 19, 20, 21, 22, 23, 24, 25, 26, 27, 28, 29, 30, 31, 32, 33, 34, 35, 36, 37, 38, 39] rfl (by decide +kernel)) (bs2_in _ _))) rfl rfl rfl (by decide +kernel) ⟨(Nat.le_of_ble_eq_true rfl), (Nat.le_of_ble_eq_true rfl)⟩) ⟨fun a U g mk q => by obtain ⟨q0, q1, qK, qE, qN, qA⟩ := q; exact ⟨q0, q1, va_K.moved (u := U) (U := U.calling g mk a) (Vm.Alike.refl U.vm) qK, EVC.blind g mk a qE, NC.blind g mk a qN, AO.blind g mk a qA⟩, fun U hU hW => ⟨rfl, hU, va_K.moved hW.alike hK, hE.call hS hFc hU hW, hN.call hW, hAO.call hW⟩⟩ rfl rfl hl.1 rfl (lv_room (Nat.le_of_ble_eq_true rfl)) dL_law_466 ⟨show cells + 2 ≤ 603072 from by omega, show slots + 12 ≤ 7262314 from by omega⟩) hS (fun q _ h => hFc q h) hFc (fun r27 u t H locs ht hvm hw hB hz1 hk1 hS => ?_)
  (try dsimp only at hB); rw [ht] at hB
  have hk9 := hw
  have hR := hR.kept (fun a t h => hk1 a (hPr a (hGP a t h)) (fun h9 => h9 (hGP a t h)))
  have hC := hB
  have hPr : ∀ a, Pr a → a < H.size := fun a h => Nat.lt_of_lt_of_le (hPr a h) hz1
  refine lv_istore (lv' := [(5, .int r27), (0, .ref b), (1, .ref x), (2, .ref h0), (3, .ref ou), (4, .int (nI n))]) hx hb dL_law_469 hl (by decide) rfl (fun ls hl => ?_)
  refine lv_aload_n hx hb dL_law_471 rfl (lv_at hl 3 rfl) ?_
  refine lv_aload_n hx hb dL_law_472 rfl (lv_at hl 1 rfl) ?_
  refine lv_iload hx hb dL_law_473 (lv_at hl 5 rfl) ?_
  refine lv_iconst (v := 1) hx hb dL_law_475 (by decide) ?_
  refine lv_iadd hx hb dL_law_476 ?_
  refine lv_topi (fun x28 ex28 => ?_)
  obtain rfl : nI (n + 1) = x28 := (ex28.trans (nI_add n 1)).symm
  refine va_sld hx hb hX hbl hbA hS (i := (nI (n + 1))) (vin_t (a := ((n + 1 : Nat) : Int)) (nI_toInt (by omega)) (by omega) (by omega)) dL_law_477 ?_
  refine lv_topi (fun x29 ex29 => ?_)
  obtain rfl : x22 = x29 := by rw [ex29, ex22] <;> exact congrArg xs (tn_same (i := (nI (n + 1))) (j := (nI (n + 1))) (show (nI (n + 1)).toInt = ((n + 1 : Nat) : Int) from (nI_toInt (by omega))) (show (nI (n + 1)).toInt = ((n + 1 : Nat) : Int) from (nI_toInt (by omega))) (by omega))
  refine lv_aload_n hx hb dL_law_478 rfl (lv_at hl 1 rfl) ?_
  refine lv_iload hx hb dL_law_479 (lv_at hl 5 rfl) ?_
  refine lv_iconst (v := 2) hx hb dL_law_481 (by decide) ?_
  refine lv_iadd hx hb dL_law_482 ?_
  refine lv_topi (fun x30 ex30 => ?_)
  obtain rfl : nI (n + 2) = x30 := (ex30.trans (nI_add n 2)).symm
  refine va_sld hx hb hX hbl hbA hS (i := (nI (n + 2))) (vin_t (a := ((n + 2 : Nat) : Int)) (nI_toInt (by omega)) (by omega) (by omega)) dL_law_483 ?_
  refine lv_topi (fun x31 ex31 => ?_)
  obtain rfl : x24 = x31 := by rw [ex31, ex24] <;> exact congrArg xs (tn_same (i := (nI (n + 2))) (j := (nI (n + 2))) (show (nI (n + 2)).toInt = ((n + 2 : Nat) : Int) from (nI_toInt (by omega))) (show (nI (n + 2)).toInt = ((n + 2 : Nat) : Int) from (nI_toInt (by omega))) (by omega))
  refine lv_aload_n hx hb dL_law_484 rfl (lv_at hl 1 rfl) ?_
  refine lv_iload hx hb dL_law_485 (lv_at hl 5 rfl) ?_
  refine lv_iconst (v := 3) hx hb dL_law_487 (by decide) ?_
  refine lv_iadd hx hb dL_law_488 ?_
  refine lv_topi (fun x32 ex32 => ?_)
  obtain rfl : nI (n + 3) = x32 := (ex32.trans (nI_add n 3)).symm
  refine va_sld hx hb hX hbl hbA hS (i := (nI (n + 3))) (vin_t (a := ((n + 3 : Nat) : Int)) (nI_toInt (by omega)) (by omega) (by omega)) dL_law_489 ?_
  refine lv_topi (fun x33 ex33 => ?_)
  obtain rfl : x26 = x33 := by rw [ex33, ex26] <;> exact congrArg xs (tn_same (i := (nI (n + 3))) (j := (nI (n + 3))) (show (nI (n + 3)).toInt = ((n + 3 : Nat) : Int) from (nI_toInt (by omega))) (show (nI (n + 3)).toInt = ((n + 3 : Nat) : Int) from (nI_toInt (by omega))) (by omega))
  have hFc := gA_m hPr hGP hGA hA hS
  refine va_calli (va_runV (As := [.int x22, .int x24, .int x26]) (rest := []) ⟨hx, hb, hml, hown, hts⟩ (r_fill l dC dI kA adK adV Gm H h0 x22 x24 x26  hR) (cwV 3 hts (goodIn_app (goodIn_r _ [63, 64, 65, 49] rfl (by decide +kernel)) (goodIn_ca (goodIn_r _ [43, 44, 45, 46, 47, 48, 49, 50, 51, 52, 53, 54, 55, 56, 57, 58, 59, 60, 61, 62] rfl (by decide +kernel)) (bs_in2 _ _))) rfl rfl rfl (by decide +kernel) ⟨(Nat.le_of_ble_eq_true rfl), (Nat.le_of_ble_eq_true rfl)⟩) ⟨fun a U g mk q => by obtain ⟨q0, q1, qK, qE⟩ := q; exact ⟨q0, q1, va_K.moved (u := U) (U := U.calling g mk a) (Vm.Alike.refl U.vm) qK, EVS.blind g mk a qE⟩, RI.recv hK hR.ri, fun U hU hW => ⟨rfl, hU, va_K.moved hW.alike hK, hE.1.call hS hFc hU hW⟩⟩ rfl rfl hl.1 rfl (lv_room (Nat.le_of_ble_eq_true rfl)) dL_law_490 ⟨show cells + 2 + 0 ≤ 603072 from by omega, show slots + 12 + 0 ≤ 7262314 from by omega⟩) hS (fun q _ h => hFc q h) hFc (fun r34 u t H locs ht hvm hw hB hz1 hk1 hS => ?_)
  (try dsimp only at hB); rw [ht] at hB
  obtain ⟨t9, et9⟩ : ∃ z, z = u := ⟨_, rfl⟩; rw [← et9] at hw hB; obtain ⟨hB, hth9⟩ := hB; obtain ⟨hw9, hw8⟩ := hw
  have hC := hC.kept (fun a h1 h2 => hk1 a h1 (gA_mn hGP h1 h2))
  have hR := hB
  have hPr : ∀ a, Pr a → a < H.size := fun a h => Nat.lt_of_lt_of_le (hPr a h) hz1
  refine lv_istore (lv' := [(6, .int r34), (5, .int r27), (0, .ref b), (1, .ref x), (2, .ref h0), (3, .ref ou), (4, .int (nI n))]) hx hb dL_law_493 hl (by decide) rfl (fun ls hl => ?_)
  refine lv_goto (tgt := 2491) hx hb dL_law_495 (by decide) ?_
  exact W.widen (k := cells + 1170) (n := slots + 14100) (by omega) (by omega) (kk _ H _ ls hC hR hPr hS (lv_sub hl [2, 3, 4, 5, 6] rfl))
def w_law_4 : List Cond := .initialized RL :: (HAppend.hAppend (α := List Cond) (β := List Cond) (γ := List Cond) [.codeWith yL_tide cL_tide 4 (some .int) [(0, 6, 9, 15)], .code yX11_tide cX11_tide 3 none, .code yX11_within cX11_within 3 (some .boolean), .methodLink RX11 58 yX11_within, .static yX11_within, .initialized RX11, .code yX11_needNumbers cX11_needNumbers 1 none, .classLink RX11 547 "java/lang/IllegalArgumentException", .initialized "java/lang/IllegalArgumentException", .methodLink RX11 62 yX11_needNumbers, .static yX11_needNumbers, .fieldLink RX11 23 "SeaLand" "rows" "LSeaLand$Rows;", .code yX6_forget cX6_forget 1 none, .fieldLink RX6 18 "SeaLand$Rows" "kept" "I", .fieldLink RX6 22 "SeaLand$Rows" "oldest" "I", .methodLink RX11 76 yX6_forget, .instanceMethod yX6_forget, .selects RX6 yX6_forget yX6_forget, .initialized RX6, .fieldLink RX11 16 "SeaLand" "lake" "LSeaLand$Lake;", .methodLink RL 23 yX11_tide, .instanceMethod yX11_tide, .selects RX11 yX11_tide yX11_tide, .classLink RL 15 "java/lang/IllegalArgumentException", .methodLink RL 191 yL_tide, .static yL_tide, .initialized RL, .code yX12_tide cX12_tide 3 none, .fieldLink RX12 194 "SeaLandModel" "thrown" "I", .code yX12_in cX12_in 3 (some .boolean), .methodLink RX12 197 yX12_in, .static yX12_in, .initialized RX12, .code yX12_throwsIf cX12_throwsIf 3 (some .boolean), .methodLink RX12 224 yX12_throwsIf, .instanceMethod yX12_throwsIf, .selects RX12 yX12_throwsIf yX12_throwsIf, .fieldLink RX12 9 "SeaLandModel" "world" "[I", .fieldLink RX12 238 "SeaLandModel" "rows" "I", .methodLink RL 194 yX12_tide, .instanceMethod yX12_tide, .selects RX12 yX12_tide yX12_tide] bs2)
set_option maxHeartbeats 4000000 in
set_option maxRecDepth 100000 in
theorem law_4 {p : Program} {e : Env} {s : State} {m : MethodId} {below : List Frame} {meth : Method} {c : Code} {Q : State → Prop} (l : Launch) (hlt : l.stackTraces = false) {b L : Nat} {xs : Nat → Int32} {A : Nat → Prop} (hx : p.tables.exec = Jvm.exec) (hb : c.code = code) (hml : c.maxLocals = 7) (hown : s.vm.findClass RL = some m.cls) (hts : ∀ w ∈ w_law_4, w.before #[Value.ref b] s = true) (hX : va_X b L xs s s.heap) (hbl : b < s.heap.size) (hbA : ¬ A b) (hL : L ≤ 4096) {adK adV : Nat → Nat} (hE : EVC adK adV A s s.heap) (hN : NC s) (hAO : AO s) (hA : ∀ q : Nat, s.heap.size ≤ q → A q) {dC : Nat → ClassId} {dI : Nat → Nat → Nat} {kA : Nat → ClassId} (hK : va_K (dC, dI) vwCl (tyl kA) s) {Pr : Nat → Prop} {Gm : gT} {x h0 ou : Nat} (hPA : ∀ q, ¬ Pr q → A q) (hGP : ∀ a t, Gm a = some t → Pr a) (hGA : ∀ a t, Gm a = some t → A a) (n : Nat) (hn : n + 8 ≤ L) (H : Heap) (locs : List Loc) (cells slots : Nat) (hcl : cells + 1170 ≤ 603072) (hsl : slots + 14100 ≤ 7262314) (g : gz) (hC : CJ dC dI kA Pr g x ou H) (hR : RJ dC dI kA g h0 Gm H) (hPr : ∀ a, Pr a → a < H.size) (hS : va_S A s.heap H locs) (ls : Array Slot) (hl : lv_has ls 7 [(0, .ref b), (1, .ref x), (2, .ref h0), (3, .ref ou), (4, .int (nI n))]) (kk : ∀ (g : gz) (H : Heap) (locs : List Loc) (ls : Array Slot), CJ dC dI kA Pr g x ou H → RJ dC dI kA g h0 Gm H → (∀ a, Pr a → a < H.size) → va_S A s.heap H locs → lv_has ls 7 [(0, .ref b), (1, .ref x), (2, .ref h0), (3, .ref ou), (4, .int (nI n))] → W p l e room_1 s m #[Value.ref b] below meth c H locs (cells + 1170) (slots + 14100) Q (F0 m 2491 ls [])) : W p l e room_1 s m #[Value.ref b] below meth c H locs cells slots Q (F0 m 498 ls []) := by
  refine lv_aload_n hx hb dL_law_498 rfl (lv_at hl 1 rfl) ?_
  refine lv_aload_n hx hb dL_law_499 rfl (lv_at hl 0 rfl) ?_
  refine lv_iload hx hb dL_law_500 (lv_at hl 4 rfl) ?_
  refine lv_iconst (v := 1) hx hb dL_law_502 (by decide) ?_
  refine lv_iadd hx hb dL_law_503 ?_
  refine lv_topi (fun x21 ex21 => ?_)
  obtain rfl : nI (n + 1) = x21 := (ex21.trans (nI_add n 1)).symm
  refine va_sld hx hb hX hbl hbA hS (i := (nI (n + 1))) (vin_t (a := ((n + 1 : Nat) : Int)) (nI_toInt (by omega)) (by omega) (by omega)) dL_law_504 ?_
  refine lv_topi (fun x22 ex22 => ?_)
  refine lv_aload_n hx hb dL_law_505 rfl (lv_at hl 0 rfl) ?_
  refine lv_iload hx hb dL_law_506 (lv_at hl 4 rfl) ?_
  refine lv_iconst (v := 2) hx hb dL_law_508 (by decide) ?_
  refine lv_iadd hx hb dL_law_509 ?_
  refine lv_topi (fun x23 ex23 => ?_)
  obtain rfl : nI (n + 2) = x23 := (ex23.trans (nI_add n 2)).symm
  refine va_sld hx hb hX hbl hbA hS (i := (nI (n + 2))) (vin_t (a := ((n + 2 : Nat) : Int)) (nI_toInt (by omega)) (by omega) (by omega)) dL_law_510 ?_
  refine lv_topi (fun x24 ex24 => ?_)
  have hFc := hPA
  refine va_calli (vx_runSW (As := [.ref x, .int x22, .int x24]) (rest := []) ⟨hx, hb, hml, hown, hts⟩ (k_tide l hlt dC dI kA adK adV Pr H x ou x22 x24  hPr hC) (vx_cwSW 3 hts (goodIn_app (goodIn_r _ [25, 26, 27] rfl (by decide +kernel)) (goodIn_ca (goodIn_r _ [1, 2, 3, 4, 5, 6, 7, 8, 9, 10, 11, 12, 13, 14, 15, 16, 17, 18, 19, 20, 21, 22, 23, 24] rfl (by decide +kernel)) (bs2_in _ _))) rfl rfl rfl (by decide +kernel) ⟨(Nat.le_of_ble_eq_true rfl), (Nat.le_of_ble_eq_true rfl)⟩) ⟨fun a U g mk q => by obtain ⟨q0, q1, qK, qE, qN, qA⟩ := q; exact ⟨q0, q1, va_K.moved (u := U) (U := U.calling g mk a) (Vm.Alike.refl U.vm) qK, EVC.blind g mk a qE, NC.blind g mk a qN, AO.blind g mk a qA⟩, fun U hU hW => ⟨rfl, hU, va_K.moved hW.alike hK, hE.call hS hFc hU hW, hN.call hW, hAO.call hW⟩⟩ rfl rfl hl.1 rfl (lv_room (Nat.le_of_ble_eq_true rfl)) dL_law_511 ⟨show cells + 1 ≤ 603072 from by omega, show slots + 6 ≤ 7262314 from by omega⟩) hS (fun q _ h => hFc q h) hFc (fun r25 u t H locs ht hvm hw hB hz1 hk1 hS => ?_)
  (try dsimp only at hB); rw [ht] at hB
  have hR := hR.kept (fun a t h => hk1 a (hPr a (hGP a t h)) (fun h9 => h9 (hGP a t h)))
  have hC := hB
  have hPr : ∀ a, Pr a → a < H.size := fun a h => Nat.lt_of_lt_of_le (hPr a h) hz1
  refine lv_istore (lv' := [(5, .int r25), (0, .ref b), (1, .ref x), (2, .ref h0), (3, .ref ou), (4, .int (nI n))]) hx hb dL_law_514 hl (by decide) rfl (fun ls hl => ?_)
  refine lv_aload_n hx hb dL_law_516 rfl (lv_at hl 3 rfl) ?_
  refine lv_aload_n hx hb dL_law_517 rfl (lv_at hl 1 rfl) ?_
  refine lv_iload hx hb dL_law_518 (lv_at hl 5 rfl) ?_
  refine lv_iconst (v := 1) hx hb dL_law_520 (by decide) ?_
  refine lv_iadd hx hb dL_law_521 ?_
  refine lv_topi (fun x26 ex26 => ?_)
  obtain rfl : nI (n + 1) = x26 := (ex26.trans (nI_add n 1)).symm
  refine va_sld hx hb hX hbl hbA hS (i := (nI (n + 1))) (vin_t (a := ((n + 1 : Nat) : Int)) (nI_toInt (by omega)) (by omega) (by omega)) dL_law_522 ?_
  refine lv_topi (fun x27 ex27 => ?_)
  obtain rfl : x22 = x27 := by rw [ex27, ex22] <;> exact congrArg xs (tn_same (i := (nI (n + 1))) (j := (nI (n + 1))) (show (nI (n + 1)).toInt = ((n + 1 : Nat) : Int) from (nI_toInt (by omega))) (show (nI (n + 1)).toInt = ((n + 1 : Nat) : Int) from (nI_toInt (by omega))) (by omega))
  refine lv_aload_n hx hb dL_law_523 rfl (lv_at hl 1 rfl) ?_
  refine lv_iload hx hb dL_law_524 (lv_at hl 5 rfl) ?_
  refine lv_iconst (v := 2) hx hb dL_law_526 (by decide) ?_
  refine lv_iadd hx hb dL_law_527 ?_
  refine lv_topi (fun x28 ex28 => ?_)
  obtain rfl : nI (n + 2) = x28 := (ex28.trans (nI_add n 2)).symm
  refine va_sld hx hb hX hbl hbA hS (i := (nI (n + 2))) (vin_t (a := ((n + 2 : Nat) : Int)) (nI_toInt (by omega)) (by omega) (by omega)) dL_law_528 ?_
  refine lv_topi (fun x29 ex29 => ?_)
  obtain rfl : x24 = x29 := by rw [ex29, ex24] <;> exact congrArg xs (tn_same (i := (nI (n + 2))) (j := (nI (n + 2))) (show (nI (n + 2)).toInt = ((n + 2 : Nat) : Int) from (nI_toInt (by omega))) (show (nI (n + 2)).toInt = ((n + 2 : Nat) : Int) from (nI_toInt (by omega))) (by omega))
  have hFc := gA_m hPr hGP hGA hA hS
  refine va_callv (va_runV (As := [.int x22, .int x24]) (rest := []) ⟨hx, hb, hml, hown, hts⟩ (r_tide l dC dI kA adK adV Gm H h0 x22 x24  hR) (cwV 2 hts (goodIn_app (goodIn_r _ [40, 41, 42, 33] rfl (by decide +kernel)) (goodIn_ca (goodIn_r _ [28, 29, 30, 31, 32, 33, 34, 35, 36, 37, 38, 39] rfl (by decide +kernel)) (bs_in2 _ _))) rfl rfl rfl (by decide +kernel) ⟨(Nat.le_of_ble_eq_true rfl), (Nat.le_of_ble_eq_true rfl)⟩) ⟨fun a U g mk q => by obtain ⟨q0, q1, qK, qE⟩ := q; exact ⟨q0, q1, va_K.moved (u := U) (U := U.calling g mk a) (Vm.Alike.refl U.vm) qK, EVS.blind g mk a qE⟩, RI.recv hK hR.ri, fun U hU hW => ⟨rfl, hU, va_K.moved hW.alike hK, hE.1.call hS hFc hU hW⟩⟩ rfl rfl hl.1 rfl (lv_room (Nat.le_of_ble_eq_true rfl)) dL_law_529 ⟨show cells + 1 + 0 ≤ 603072 from by omega, show slots + 6 + 0 ≤ 7262314 from by omega⟩) hS (fun q _ h => hFc q h) hFc (fun u t H locs ht hvm hw hB hz1 hk1 hS => ?_)
  (try dsimp only at hB); rw [ht] at hB
  have hC := hC.kept (fun a h1 h2 => hk1 a h1 (gA_mn hGP h1 h2))
  have hR := hB
  have hPr : ∀ a, Pr a → a < H.size := fun a h => Nat.lt_of_lt_of_le (hPr a h) hz1
  refine lv_goto (tgt := 2491) hx hb dL_law_532 (by decide) ?_
  exact W.widen (k := cells + 1170) (n := slots + 14100) (by omega) (by omega) (kk g H _ ls hC hR hPr hS (lv_sub hl [1, 2, 3, 4, 5] rfl))
def w_law_5 : List Cond := .initialized RL :: (HAppend.hAppend (α := List Cond) (β := List Cond) (γ := List Cond) [.codeWith yL_storm cL_storm 6 (some .int) [(0, 12, 15, 15)], .code yX11_storm cX11_storm 4 (some .int), .code yX11_needNumbers cX11_needNumbers 1 none, .classLink RX11 547 "java/lang/IllegalArgumentException", .initialized "java/lang/IllegalArgumentException", .methodLink RX11 62 yX11_needNumbers, .static yX11_needNumbers, .initialized RX11, .constant RX11 110 40000, .code yX11_within cX11_within 3 (some .boolean), .methodLink RX11 58 yX11_within, .static yX11_within, .fieldLink RX11 16 "SeaLand" "lake" "LSeaLand$Lake;", .fieldLink RX11 23 "SeaLand" "rows" "LSeaLand$Rows;", .code yX6_forget cX6_forget 1 none, .fieldLink RX6 18 "SeaLand$Rows" "kept" "I", .fieldLink RX6 22 "SeaLand$Rows" "oldest" "I", .methodLink RX11 76 yX6_forget, .instanceMethod yX6_forget, .selects RX6 yX6_forget yX6_forget, .initialized RX6, .code yX8_tellStorm cX8_tellStorm 4 (some .int), .fieldLink RX8 15 "SeaLand$Sky" "stormFrom" "[I", .fieldLink RX8 34 "SeaLand$Sky" "storms" "I", .fieldLink RX8 18 "SeaLand$Sky" "stormTo" "[I", .fieldLink RX8 21 "SeaLand$Sky" "stormMore" "[I", .methodLink RX11 114 yX8_tellStorm, .instanceMethod yX8_tellStorm, .selects RX8 yX8_tellStorm yX8_tellStorm, .initialized RX8, .methodLink RL 27 yX11_storm, .instanceMethod yX11_storm, .selects RX11 yX11_storm yX11_storm, .classLink RL 15 "java/lang/IllegalArgumentException", .methodLink RL 195 yL_storm, .static yL_storm, .initialized RL, .code yX12_storm cX12_storm 5 (some .int), .fieldLink RX12 194 "SeaLandModel" "thrown" "I", .code yX12_throwsIf cX12_throwsIf 3 (some .boolean), .methodLink RX12 224 yX12_throwsIf, .instanceMethod yX12_throwsIf, .selects RX12 yX12_throwsIf yX12_throwsIf, .initialized RX12, .constant RX12 242 40000, .code yX12_in cX12_in 3 (some .boolean), .methodLink RX12 197 yX12_in, .static yX12_in, .fieldLink RX12 9 "SeaLandModel" "world" "[I", .fieldLink RX12 238 "SeaLandModel" "rows" "I", .methodLink RL 197 yX12_storm, .instanceMethod yX12_storm, .selects RX12 yX12_storm yX12_storm] bs2)
set_option maxHeartbeats 4000000 in
set_option maxRecDepth 100000 in
theorem law_5 {p : Program} {e : Env} {s : State} {m : MethodId} {below : List Frame} {meth : Method} {c : Code} {Q : State → Prop} (l : Launch) (hlt : l.stackTraces = false) {b L : Nat} {xs : Nat → Int32} {A : Nat → Prop} (hx : p.tables.exec = Jvm.exec) (hb : c.code = code) (hml : c.maxLocals = 7) (hown : s.vm.findClass RL = some m.cls) (hts : ∀ w ∈ w_law_5, w.before #[Value.ref b] s = true) (hX : va_X b L xs s s.heap) (hbl : b < s.heap.size) (hbA : ¬ A b) (hL : L ≤ 4096) {adK adV : Nat → Nat} (hE : EVC adK adV A s s.heap) (hN : NC s) (hAO : AO s) (hA : ∀ q : Nat, s.heap.size ≤ q → A q) {dC : Nat → ClassId} {dI : Nat → Nat → Nat} {kA : Nat → ClassId} (hK : va_K (dC, dI) vwCl (tyl kA) s) {Pr : Nat → Prop} {Gm : gT} {x h0 ou : Nat} (hPA : ∀ q, ¬ Pr q → A q) (hGP : ∀ a t, Gm a = some t → Pr a) (hGA : ∀ a t, Gm a = some t → A a) (n : Nat) (hn : n + 8 ≤ L) (H : Heap) (locs : List Loc) (cells slots : Nat) (hcl : cells + 1170 ≤ 603072) (hsl : slots + 14100 ≤ 7262314) (g : gz) (hC : CJ dC dI kA Pr g x ou H) (hR : RJ dC dI kA g h0 Gm H) (hPr : ∀ a, Pr a → a < H.size) (hS : va_S A s.heap H locs) (ls : Array Slot) (hl : lv_has ls 7 [(0, .ref b), (1, .ref x), (2, .ref h0), (3, .ref ou), (4, .int (nI n))]) (kk : ∀ (g : gz) (H : Heap) (locs : List Loc) (ls : Array Slot), CJ dC dI kA Pr g x ou H → RJ dC dI kA g h0 Gm H → (∀ a, Pr a → a < H.size) → va_S A s.heap H locs → lv_has ls 7 [(0, .ref b), (1, .ref x), (2, .ref h0), (3, .ref ou), (4, .int (nI n))] → W p l e room_1 s m #[Value.ref b] below meth c H locs (cells + 1170) (slots + 14100) Q (F0 m 2491 ls [])) : W p l e room_1 s m #[Value.ref b] below meth c H locs cells slots Q (F0 m 535 ls []) := by
  refine lv_aload_n hx hb dL_law_535 rfl (lv_at hl 1 rfl) ?_
  refine lv_aload_n hx hb dL_law_536 rfl (lv_at hl 0 rfl) ?_
  refine lv_iload hx hb dL_law_537 (lv_at hl 4 rfl) ?_
  refine lv_iconst (v := 1) hx hb dL_law_539 (by decide) ?_
  refine lv_iadd hx hb dL_law_540 ?_
  refine lv_topi (fun x21 ex21 => ?_)
  obtain rfl : nI (n + 1) = x21 := (ex21.trans (nI_add n 1)).symm
  refine va_sld hx hb hX hbl hbA hS (i := (nI (n + 1))) (vin_t (a := ((n + 1 : Nat) : Int)) (nI_toInt (by omega)) (by omega) (by omega)) dL_law_541 ?_
  refine lv_topi (fun x22 ex22 => ?_)
  refine lv_aload_n hx hb dL_law_542 rfl (lv_at hl 0 rfl) ?_
  refine lv_iload hx hb dL_law_543 (lv_at hl 4 rfl) ?_
  refine lv_iconst (v := 2) hx hb dL_law_545 (by decide) ?_
  refine lv_iadd hx hb dL_law_546 ?_
  refine lv_topi (fun x23 ex23 => ?_)
  obtain rfl : nI (n + 2) = x23 := (ex23.trans (nI_add n 2)).symm
  refine va_sld hx hb hX hbl hbA hS (i := (nI (n + 2))) (vin_t (a := ((n + 2 : Nat) : Int)) (nI_toInt (by omega)) (by omega) (by omega)) dL_law_547 ?_
  refine lv_topi (fun x24 ex24 => ?_)
  refine lv_aload_n hx hb dL_law_548 rfl (lv_at hl 0 rfl) ?_
  refine lv_iload hx hb dL_law_549 (lv_at hl 4 rfl) ?_
  refine lv_iconst (v := 3) hx hb dL_law_551 (by decide) ?_
  refine lv_iadd hx hb dL_law_552 ?_
  refine lv_topi (fun x25 ex25 => ?_)
  obtain rfl : nI (n + 3) = x25 := (ex25.trans (nI_add n 3)).symm
  refine va_sld hx hb hX hbl hbA hS (i := (nI (n + 3))) (vin_t (a := ((n + 3 : Nat) : Int)) (nI_toInt (by omega)) (by omega) (by omega)) dL_law_553 ?_
  refine lv_topi (fun x26 ex26 => ?_)
  refine lv_aload_n hx hb dL_law_554 rfl (lv_at hl 3 rfl) ?_
  have hFc := hPA
  refine va_calli (vx_runSW (As := [.ref x, .int x22, .int x24, .int x26, .ref ou]) (rest := []) ⟨hx, hb, hml, hown, hts⟩ (k_storm l hlt dC dI kA adK adV Pr H x ou x22 x24 x26  hPr hC) (vx_cwSW 5 hts (goodIn_app (goodIn_r _ [35, 36, 37] rfl (by decide +kernel)) (goodIn_ca (goodIn_r _ [1, 2, 3, 4, 5, 6, 7, 8, 9, 10, 11, 12, 13, 14, 15, 16, 17, 18, 19, 20, 21, 22, 23, 24, 25, 26, 27, 28, 29, 30, 31, 32, 33, 34] rfl (by decide +kernel)) (bs2_in _ _))) rfl rfl rfl (by decide +kernel) ⟨(Nat.le_of_ble_eq_true rfl), (Nat.le_of_ble_eq_true rfl)⟩) ⟨fun a U g mk q => by obtain ⟨q0, q1, qK, qE, qN, qA⟩ := q; exact ⟨q0, q1, va_K.moved (u := U) (U := U.calling g mk a) (Vm.Alike.refl U.vm) qK, EVC.blind g mk a qE, NC.blind g mk a qN, AO.blind g mk a qA⟩, fun U hU hW => ⟨rfl, hU, va_K.moved hW.alike hK, hE.call hS hFc hU hW, hN.call hW, hAO.call hW⟩⟩ rfl rfl hl.1 rfl (lv_room (Nat.le_of_ble_eq_true rfl)) dL_law_555 ⟨show cells + 1 ≤ 603072 from by omega, show slots + 6 ≤ 7262314 from by omega⟩) hS (fun q _ h => hFc q h) hFc (fun r27 u t H locs ht hvm hw hB hz1 hk1 hS => ?_)
  (try dsimp only at hB); rw [ht] at hB
  have hR := hR.kept (fun a t h => hk1 a (hPr a (hGP a t h)) (fun h9 => h9 (hGP a t h)))
  have hC := hB
  have hPr : ∀ a, Pr a → a < H.size := fun a h => Nat.lt_of_lt_of_le (hPr a h) hz1
  refine lv_istore (lv' := [(5, .int r27), (0, .ref b), (1, .ref x), (2, .ref h0), (3, .ref ou), (4, .int (nI n))]) hx hb dL_law_558 hl (by decide) rfl (fun ls hl => ?_)
  refine lv_aload_n hx hb dL_law_560 rfl (lv_at hl 3 rfl) ?_
  refine lv_aload_n hx hb dL_law_561 rfl (lv_at hl 1 rfl) ?_
  refine lv_iload hx hb dL_law_562 (lv_at hl 5 rfl) ?_
  refine lv_iconst (v := 1) hx hb dL_law_564 (by decide) ?_
  refine lv_iadd hx hb dL_law_565 ?_
  refine lv_topi (fun x28 ex28 => ?_)
  obtain rfl : nI (n + 1) = x28 := (ex28.trans (nI_add n 1)).symm
  refine va_sld hx hb hX hbl hbA hS (i := (nI (n + 1))) (vin_t (a := ((n + 1 : Nat) : Int)) (nI_toInt (by omega)) (by omega) (by omega)) dL_law_566 ?_
  refine lv_topi (fun x29 ex29 => ?_)
  obtain rfl : x22 = x29 := by rw [ex29, ex22] <;> exact congrArg xs (tn_same (i := (nI (n + 1))) (j := (nI (n + 1))) (show (nI (n + 1)).toInt = ((n + 1 : Nat) : Int) from (nI_toInt (by omega))) (show (nI (n + 1)).toInt = ((n + 1 : Nat) : Int) from (nI_toInt (by omega))) (by omega))
  refine lv_aload_n hx hb dL_law_567 rfl (lv_at hl 1 rfl) ?_
  refine lv_iload hx hb dL_law_568 (lv_at hl 5 rfl) ?_
  refine lv_iconst (v := 2) hx hb dL_law_570 (by decide) ?_
  refine lv_iadd hx hb dL_law_571 ?_
  refine lv_topi (fun x30 ex30 => ?_)
  obtain rfl : nI (n + 2) = x30 := (ex30.trans (nI_add n 2)).symm
  refine va_sld hx hb hX hbl hbA hS (i := (nI (n + 2))) (vin_t (a := ((n + 2 : Nat) : Int)) (nI_toInt (by omega)) (by omega) (by omega)) dL_law_572 ?_
  refine lv_topi (fun x31 ex31 => ?_)
  obtain rfl : x24 = x31 := by rw [ex31, ex24] <;> exact congrArg xs (tn_same (i := (nI (n + 2))) (j := (nI (n + 2))) (show (nI (n + 2)).toInt = ((n + 2 : Nat) : Int) from (nI_toInt (by omega))) (show (nI (n + 2)).toInt = ((n + 2 : Nat) : Int) from (nI_toInt (by omega))) (by omega))
  refine lv_aload_n hx hb dL_law_573 rfl (lv_at hl 1 rfl) ?_
  refine lv_iload hx hb dL_law_574 (lv_at hl 5 rfl) ?_
  refine lv_iconst (v := 3) hx hb dL_law_576 (by decide) ?_
  refine lv_iadd hx hb dL_law_577 ?_
  refine lv_topi (fun x32 ex32 => ?_)
  obtain rfl : nI (n + 3) = x32 := (ex32.trans (nI_add n 3)).symm
  refine va_sld hx hb hX hbl hbA hS (i := (nI (n + 3))) (vin_t (a := ((n + 3 : Nat) : Int)) (nI_toInt (by omega)) (by omega) (by omega)) dL_law_578 ?_
  refine lv_topi (fun x33 ex33 => ?_)
  obtain rfl : x26 = x33 := by rw [ex33, ex26] <;> exact congrArg xs (tn_same (i := (nI (n + 3))) (j := (nI (n + 3))) (show (nI (n + 3)).toInt = ((n + 3 : Nat) : Int) from (nI_toInt (by omega))) (show (nI (n + 3)).toInt = ((n + 3 : Nat) : Int) from (nI_toInt (by omega))) (by omega))
  have hFc := gA_m hPr hGP hGA hA hS
  refine va_calli (va_runV (As := [.int x22, .int x24, .int x26]) (rest := []) ⟨hx, hb, hml, hown, hts⟩ (r_storm l dC dI kA adK adV Gm H h0 x22 x24 x26  hR) (cwV 3 hts (goodIn_app (goodIn_r _ [51, 52, 53, 44] rfl (by decide +kernel)) (goodIn_ca (goodIn_r _ [38, 39, 40, 41, 42, 43, 44, 45, 46, 47, 48, 49, 50] rfl (by decide +kernel)) (bs_in2 _ _))) rfl rfl rfl (by decide +kernel) ⟨(Nat.le_of_ble_eq_true rfl), (Nat.le_of_ble_eq_true rfl)⟩) ⟨fun a U g mk q => by obtain ⟨q0, q1, qK, qE⟩ := q; exact ⟨q0, q1, va_K.moved (u := U) (U := U.calling g mk a) (Vm.Alike.refl U.vm) qK, EVS.blind g mk a qE⟩, RI.recv hK hR.ri, fun U hU hW => ⟨rfl, hU, va_K.moved hW.alike hK, hE.1.call hS hFc hU hW⟩⟩ rfl rfl hl.1 rfl (lv_room (Nat.le_of_ble_eq_true rfl)) dL_law_579 ⟨show cells + 1 + 0 ≤ 603072 from by omega, show slots + 6 + 0 ≤ 7262314 from by omega⟩) hS (fun q _ h => hFc q h) hFc (fun r34 u t H locs ht hvm hw hB hz1 hk1 hS => ?_)
  (try dsimp only at hB); rw [ht] at hB
  have hC := hC.kept (fun a h1 h2 => hk1 a h1 (gA_mn hGP h1 h2))
  have hR := hB
  have hPr : ∀ a, Pr a → a < H.size := fun a h => Nat.lt_of_lt_of_le (hPr a h) hz1
  refine lv_istore (lv' := [(6, .int r34), (5, .int r27), (0, .ref b), (1, .ref x), (2, .ref h0), (3, .ref ou), (4, .int (nI n))]) hx hb dL_law_582 hl (by decide) rfl (fun ls hl => ?_)
  refine lv_goto (tgt := 2491) hx hb dL_law_584 (by decide) ?_
  exact W.widen (k := cells + 1170) (n := slots + 14100) (by omega) (by omega) (kk g H _ ls hC hR hPr hS (lv_sub hl [2, 3, 4, 5, 6] rfl))
def w_law_6 : List Cond := .initialized RL :: (HAppend.hAppend (α := List Cond) (β := List Cond) (γ := List Cond) [.codeWith yL_weather cL_weather 6 (some .int) [(0, 12, 15, 15)], .code yX11_weather cX11_weather 5 (some .int), .constant RX11 110 40000, .code yX11_within cX11_within 3 (some .boolean), .methodLink RX11 58 yX11_within, .static yX11_within, .initialized RX11, .code yX11_needNumbers cX11_needNumbers 1 none, .classLink RX11 547 "java/lang/IllegalArgumentException", .initialized "java/lang/IllegalArgumentException", .methodLink RX11 62 yX11_needNumbers, .static yX11_needNumbers, .fieldLink RX11 16 "SeaLand" "lake" "LSeaLand$Lake;", .fieldLink RX11 23 "SeaLand" "rows" "LSeaLand$Rows;", .code yX6_forget cX6_forget 1 none, .fieldLink RX6 18 "SeaLand$Rows" "kept" "I", .fieldLink RX6 22 "SeaLand$Rows" "oldest" "I", .methodLink RX11 76 yX6_forget, .instanceMethod yX6_forget, .selects RX6 yX6_forget yX6_forget, .initialized RX6, .code yX9_tell cX9_tell 4 (some .int), .fieldLink RX9 18 "SeaLand$Tellings" "told" "I", .fieldLink RX9 9 "SeaLand$Tellings" "hours" "[I", .fieldLink RX9 15 "SeaLand$Tellings" "numbers" "[I", .methodLink RX11 130 yX9_tell, .instanceMethod yX9_tell, .selects RX9 yX9_tell yX9_tell, .initialized RX9, .methodLink RL 31 yX11_weather, .instanceMethod yX11_weather, .selects RX11 yX11_weather yX11_weather, .classLink RL 15 "java/lang/IllegalArgumentException", .methodLink RL 198 yL_weather, .static yL_weather, .initialized RL, .code yX12_weather cX12_weather 6 (some .int), .fieldLink RX12 194 "SeaLandModel" "thrown" "I", .constant RX12 242 40000, .code yX12_in cX12_in 3 (some .boolean), .methodLink RX12 197 yX12_in, .static yX12_in, .initialized RX12, .code yX12_throwsIf cX12_throwsIf 3 (some .boolean), .methodLink RX12 224 yX12_throwsIf, .instanceMethod yX12_throwsIf, .selects RX12 yX12_throwsIf yX12_throwsIf, .fieldLink RX12 9 "SeaLandModel" "world" "[I", .fieldLink RX12 238 "SeaLandModel" "rows" "I", .methodLink RL 201 yX12_weather, .instanceMethod yX12_weather, .selects RX12 yX12_weather yX12_weather] bs2)
set_option maxHeartbeats 4000000 in
set_option maxRecDepth 100000 in
theorem law_6 {p : Program} {e : Env} {s : State} {m : MethodId} {below : List Frame} {meth : Method} {c : Code} {Q : State → Prop} (l : Launch) (hlt : l.stackTraces = false) {b L : Nat} {xs : Nat → Int32} {A : Nat → Prop} (hx : p.tables.exec = Jvm.exec) (hb : c.code = code) (hml : c.maxLocals = 7) (hown : s.vm.findClass RL = some m.cls) (hts : ∀ w ∈ w_law_6, w.before #[Value.ref b] s = true) (hX : va_X b L xs s s.heap) (hbl : b < s.heap.size) (hbA : ¬ A b) (hL : L ≤ 4096) {adK adV : Nat → Nat} (hE : EVC adK adV A s s.heap) (hN : NC s) (hAO : AO s) (hA : ∀ q : Nat, s.heap.size ≤ q → A q) {dC : Nat → ClassId} {dI : Nat → Nat → Nat} {kA : Nat → ClassId} (hK : va_K (dC, dI) vwCl (tyl kA) s) {Pr : Nat → Prop} {Gm : gT} {x h0 ou : Nat} (hPA : ∀ q, ¬ Pr q → A q) (hGP : ∀ a t, Gm a = some t → Pr a) (hGA : ∀ a t, Gm a = some t → A a) (n : Nat) (hn : n + 8 ≤ L) (H : Heap) (locs : List Loc) (cells slots : Nat) (hcl : cells + 1170 ≤ 603072) (hsl : slots + 14100 ≤ 7262314) (g : gz) (hC : CJ dC dI kA Pr g x ou H) (hR : RJ dC dI kA g h0 Gm H) (hPr : ∀ a, Pr a → a < H.size) (hS : va_S A s.heap H locs) (ls : Array Slot) (hl : lv_has ls 7 [(0, .ref b), (1, .ref x), (2, .ref h0), (3, .ref ou), (4, .int (nI n))]) (kk : ∀ (g : gz) (H : Heap) (locs : List Loc) (ls : Array Slot), CJ dC dI kA Pr g x ou H → RJ dC dI kA g h0 Gm H → (∀ a, Pr a → a < H.size) → va_S A s.heap H locs → lv_has ls 7 [(0, .ref b), (1, .ref x), (2, .ref h0), (3, .ref ou), (4, .int (nI n))] → W p l e room_1 s m #[Value.ref b] below meth c H locs (cells + 1170) (slots + 14100) Q (F0 m 2491 ls [])) : W p l e room_1 s m #[Value.ref b] below meth c H locs cells slots Q (F0 m 587 ls []) := by
  refine lv_aload_n hx hb dL_law_587 rfl (lv_at hl 1 rfl) ?_
  refine lv_aload_n hx hb dL_law_588 rfl (lv_at hl 0 rfl) ?_
  refine lv_iload hx hb dL_law_589 (lv_at hl 4 rfl) ?_
  refine lv_iconst (v := 1) hx hb dL_law_591 (by decide) ?_
  refine lv_iadd hx hb dL_law_592 ?_
  refine lv_topi (fun x21 ex21 => ?_)
  obtain rfl : nI (n + 1) = x21 := (ex21.trans (nI_add n 1)).symm
  refine va_sld hx hb hX hbl hbA hS (i := (nI (n + 1))) (vin_t (a := ((n + 1 : Nat) : Int)) (nI_toInt (by omega)) (by omega) (by omega)) dL_law_593 ?_
  refine lv_topi (fun x22 ex22 => ?_)
  have t23 : -2147483648 ≤ x22.toInt ∧ x22.toInt ≤ 2147483647 := ti_all x22
  refine lv_if_eq (tgt := 601) hx hb dL_law_594 (by decide) (fun c24 => ?_) (fun c24 => ?_)
  · have t25 : x22.toInt = 0 := ti_eq c24 rfl (by decide)
    refine lv_iconst (v := 0) hx hb dL_law_601 (by decide) ?_
    refine lv_aload_n hx hb dL_law_602 rfl (lv_at hl 0 rfl) ?_
    refine lv_iload hx hb dL_law_603 (lv_at hl 4 rfl) ?_
    refine lv_iconst (v := 2) hx hb dL_law_605 (by decide) ?_
    refine lv_iadd hx hb dL_law_606 ?_
    refine lv_topi (fun x26 ex26 => ?_)
    obtain rfl : nI (n + 2) = x26 := (ex26.trans (nI_add n 2)).symm
    refine va_sld hx hb hX hbl hbA hS (i := (nI (n + 2))) (vin_t (a := ((n + 2 : Nat) : Int)) (nI_toInt (by omega)) (by omega) (by omega)) dL_law_607 ?_
    refine lv_topi (fun x27 ex27 => ?_)
    refine lv_aload_n hx hb dL_law_608 rfl (lv_at hl 0 rfl) ?_
    refine lv_iload hx hb dL_law_609 (lv_at hl 4 rfl) ?_
    refine lv_iconst (v := 3) hx hb dL_law_611 (by decide) ?_
    refine lv_iadd hx hb dL_law_612 ?_
    refine lv_topi (fun x28 ex28 => ?_)
    obtain rfl : nI (n + 3) = x28 := (ex28.trans (nI_add n 3)).symm
    refine va_sld hx hb hX hbl hbA hS (i := (nI (n + 3))) (vin_t (a := ((n + 3 : Nat) : Int)) (nI_toInt (by omega)) (by omega) (by omega)) dL_law_613 ?_
    refine lv_topi (fun x29 ex29 => ?_)
    refine lv_aload_n hx hb dL_law_614 rfl (lv_at hl 3 rfl) ?_
    have hFc := hPA
    refine va_calli (vx_runSW (As := [.ref x, .int 0, .int x27, .int x29, .ref ou]) (rest := []) ⟨hx, hb, hml, hown, hts⟩ (k_weather l hlt dC dI kA adK adV Pr H x ou 0 x27 x29 (by decide) hPr hC) (vx_cwSW 5 hts (goodIn_app (goodIn_r _ [34, 35, 36] rfl (by decide +kernel)) (goodIn_ca (goodIn_r _ [1, 2, 3, 4, 5, 6, 7, 8, 9, 10, 11, 12, 13, 14, 15, 16, 17, 18, 19, 20, 21, 22, 23, 24, 25, 26, 27, 28, 29, 30, 31, 32, 33] rfl (by decide +kernel)) (bs2_in _ _))) rfl rfl rfl (by decide +kernel) ⟨(Nat.le_of_ble_eq_true rfl), (Nat.le_of_ble_eq_true rfl)⟩) ⟨fun a U g mk q => by obtain ⟨q0, q1, qK, qE, qN, qA⟩ := q; exact ⟨q0, q1, va_K.moved (u := U) (U := U.calling g mk a) (Vm.Alike.refl U.vm) qK, EVC.blind g mk a qE, NC.blind g mk a qN, AO.blind g mk a qA⟩, fun U hU hW => ⟨rfl, hU, va_K.moved hW.alike hK, hE.call hS hFc hU hW, hN.call hW, hAO.call hW⟩⟩ rfl rfl hl.1 rfl (lv_room (Nat.le_of_ble_eq_true rfl)) dL_law_615 ⟨show cells + 1 ≤ 603072 from by omega, show slots + 6 ≤ 7262314 from by omega⟩) hS (fun q _ h => hFc q h) hFc (fun r30 u t H locs ht hvm hw hB hz1 hk1 hS => ?_)
    (try dsimp only at hB); rw [ht] at hB
    have hR := hR.kept (fun a t h => hk1 a (hPr a (hGP a t h)) (fun h9 => h9 (hGP a t h)))
    have hC := hB
    have hPr : ∀ a, Pr a → a < H.size := fun a h => Nat.lt_of_lt_of_le (hPr a h) hz1
    refine lv_istore (lv' := [(5, .int r30), (0, .ref b), (1, .ref x), (2, .ref h0), (3, .ref ou), (4, .int (nI n))]) hx hb dL_law_618 hl (by decide) rfl (fun ls hl => ?_)
    refine lv_aload_n hx hb dL_law_620 rfl (lv_at hl 3 rfl) ?_
    refine lv_aload_n hx hb dL_law_621 rfl (lv_at hl 1 rfl) ?_
    refine lv_iload hx hb dL_law_622 (lv_at hl 5 rfl) ?_
    refine lv_iconst (v := 1) hx hb dL_law_624 (by decide) ?_
    refine lv_iadd hx hb dL_law_625 ?_
    refine lv_topi (fun x31 ex31 => ?_)
    obtain rfl : nI (n + 1) = x31 := (ex31.trans (nI_add n 1)).symm
    refine va_sld hx hb hX hbl hbA hS (i := (nI (n + 1))) (vin_t (a := ((n + 1 : Nat) : Int)) (nI_toInt (by omega)) (by omega) (by omega)) dL_law_626 ?_
    refine lv_topi (fun x32 ex32 => ?_)
    obtain rfl : x22 = x32 := by rw [ex32, ex22] <;> exact congrArg xs (tn_same (i := (nI (n + 1))) (j := (nI (n + 1))) (show (nI (n + 1)).toInt = ((n + 1 : Nat) : Int) from (nI_toInt (by omega))) (show (nI (n + 1)).toInt = ((n + 1 : Nat) : Int) from (nI_toInt (by omega))) (by omega))
    refine lv_if_eq (tgt := 634) hx hb dL_law_627 (by decide) (fun c33 => ?_) (fun c33 => (by exfalso; have q9 : x22.toInt ≠ 0 := ti_ne c33 rfl (by decide); omega))
    have t34 : x22.toInt = 0 := ti_eq c33 rfl (by decide)
    refine lv_iconst (v := 0) hx hb dL_law_634 (by decide) ?_
    refine lv_aload_n hx hb dL_law_635 rfl (lv_at hl 1 rfl) ?_
    refine lv_iload hx hb dL_law_636 (lv_at hl 5 rfl) ?_
    refine lv_iconst (v := 2) hx hb dL_law_638 (by decide) ?_
    refine lv_iadd hx hb dL_law_639 ?_
    refine lv_topi (fun x35 ex35 => ?_)
    obtain rfl : nI (n + 2) = x35 := (ex35.trans (nI_add n 2)).symm
    refine va_sld hx hb hX hbl hbA hS (i := (nI (n + 2))) (vin_t (a := ((n + 2 : Nat) : Int)) (nI_toInt (by omega)) (by omega) (by omega)) dL_law_640 ?_
    refine lv_topi (fun x36 ex36 => ?_)
    obtain rfl : x27 = x36 := by rw [ex36, ex27] <;> exact congrArg xs (tn_same (i := (nI (n + 2))) (j := (nI (n + 2))) (show (nI (n + 2)).toInt = ((n + 2 : Nat) : Int) from (nI_toInt (by omega))) (show (nI (n + 2)).toInt = ((n + 2 : Nat) : Int) from (nI_toInt (by omega))) (by omega))
    refine lv_aload_n hx hb dL_law_641 rfl (lv_at hl 1 rfl) ?_
    refine lv_iload hx hb dL_law_642 (lv_at hl 5 rfl) ?_
    refine lv_iconst (v := 3) hx hb dL_law_644 (by decide) ?_
    refine lv_iadd hx hb dL_law_645 ?_
    refine lv_topi (fun x37 ex37 => ?_)
    obtain rfl : nI (n + 3) = x37 := (ex37.trans (nI_add n 3)).symm
    refine va_sld hx hb hX hbl hbA hS (i := (nI (n + 3))) (vin_t (a := ((n + 3 : Nat) : Int)) (nI_toInt (by omega)) (by omega) (by omega)) dL_law_646 ?_
    refine lv_topi (fun x38 ex38 => ?_)
    obtain rfl : x29 = x38 := by rw [ex38, ex29] <;> exact congrArg xs (tn_same (i := (nI (n + 3))) (j := (nI (n + 3))) (show (nI (n + 3)).toInt = ((n + 3 : Nat) : Int) from (nI_toInt (by omega))) (show (nI (n + 3)).toInt = ((n + 3 : Nat) : Int) from (nI_toInt (by omega))) (by omega))
    have hFc := gA_m hPr hGP hGA hA hS
    refine va_calli (va_runV (As := [.int 0, .int x27, .int x29]) (rest := []) ⟨hx, hb, hml, hown, hts⟩ (r_weather l dC dI kA adK adV Gm H h0 0 x27 x29 (by decide) hR) (cwV 3 hts (goodIn_app (goodIn_r _ [50, 51, 52, 43] rfl (by decide +kernel)) (goodIn_ca (goodIn_r _ [37, 38, 39, 40, 41, 42, 43, 44, 45, 46, 47, 48, 49] rfl (by decide +kernel)) (bs_in2 _ _))) rfl rfl rfl (by decide +kernel) ⟨(Nat.le_of_ble_eq_true rfl), (Nat.le_of_ble_eq_true rfl)⟩) ⟨fun a U g mk q => by obtain ⟨q0, q1, qK, qE⟩ := q; exact ⟨q0, q1, va_K.moved (u := U) (U := U.calling g mk a) (Vm.Alike.refl U.vm) qK, EVS.blind g mk a qE⟩, RI.recv hK hR.ri, fun U hU hW => ⟨rfl, hU, va_K.moved hW.alike hK, hE.1.call hS hFc hU hW⟩⟩ rfl rfl hl.1 rfl (lv_room (Nat.le_of_ble_eq_true rfl)) dL_law_647 ⟨show cells + 1 + 0 ≤ 603072 from by omega, show slots + 6 + 0 ≤ 7262314 from by omega⟩) hS (fun q _ h => hFc q h) hFc (fun r39 u t H locs ht hvm hw hB hz1 hk1 hS => ?_)
    (try dsimp only at hB); rw [ht] at hB
    have hC := hC.kept (fun a h1 h2 => hk1 a h1 (gA_mn hGP h1 h2))
    have hR := hB
    have hPr : ∀ a, Pr a → a < H.size := fun a h => Nat.lt_of_lt_of_le (hPr a h) hz1
    refine lv_istore (lv' := [(6, .int r39), (5, .int r30), (0, .ref b), (1, .ref x), (2, .ref h0), (3, .ref ou), (4, .int (nI n))]) hx hb dL_law_650 hl (by decide) rfl (fun ls hl => ?_)
    refine lv_goto (tgt := 2491) hx hb dL_law_652 (by decide) ?_
    exact W.widen (k := cells + 1170) (n := slots + 14100) (by omega) (by omega) (kk g H _ ls hC hR hPr hS (lv_sub hl [2, 3, 4, 5, 6] rfl))
  · have t40 : x22.toInt ≠ 0 := ti_ne c24 rfl (by decide)
    refine lv_iconst (v := 1) hx hb dL_law_597 (by decide) ?_
    refine lv_goto (tgt := 602) hx hb dL_law_598 (by decide) ?_
    refine lv_aload_n hx hb dL_law_602 rfl (lv_at hl 0 rfl) ?_
    refine lv_iload hx hb dL_law_603 (lv_at hl 4 rfl) ?_
    refine lv_iconst (v := 2) hx hb dL_law_605 (by decide) ?_
    refine lv_iadd hx hb dL_law_606 ?_
    refine lv_topi (fun x41 ex41 => ?_)
    obtain rfl : nI (n + 2) = x41 := (ex41.trans (nI_add n 2)).symm
    refine va_sld hx hb hX hbl hbA hS (i := (nI (n + 2))) (vin_t (a := ((n + 2 : Nat) : Int)) (nI_toInt (by omega)) (by omega) (by omega)) dL_law_607 ?_
    refine lv_topi (fun x42 ex42 => ?_)
    refine lv_aload_n hx hb dL_law_608 rfl (lv_at hl 0 rfl) ?_
    refine lv_iload hx hb dL_law_609 (lv_at hl 4 rfl) ?_
    refine lv_iconst (v := 3) hx hb dL_law_611 (by decide) ?_
    refine lv_iadd hx hb dL_law_612 ?_
    refine lv_topi (fun x43 ex43 => ?_)
    obtain rfl : nI (n + 3) = x43 := (ex43.trans (nI_add n 3)).symm
    refine va_sld hx hb hX hbl hbA hS (i := (nI (n + 3))) (vin_t (a := ((n + 3 : Nat) : Int)) (nI_toInt (by omega)) (by omega) (by omega)) dL_law_613 ?_
    refine lv_topi (fun x44 ex44 => ?_)
    refine lv_aload_n hx hb dL_law_614 rfl (lv_at hl 3 rfl) ?_
    have hFc := hPA
    refine va_calli (vx_runSW (As := [.ref x, .int 1, .int x42, .int x44, .ref ou]) (rest := []) ⟨hx, hb, hml, hown, hts⟩ (k_weather l hlt dC dI kA adK adV Pr H x ou 1 x42 x44 (by decide) hPr hC) (vx_cwSW 5 hts (goodIn_app (goodIn_r _ [34, 35, 36] rfl (by decide +kernel)) (goodIn_ca (goodIn_r _ [1, 2, 3, 4, 5, 6, 7, 8, 9, 10, 11, 12, 13, 14, 15, 16, 17, 18, 19, 20, 21, 22, 23, 24, 25, 26, 27, 28, 29, 30, 31, 32, 33] rfl (by decide +kernel)) (bs2_in _ _))) rfl rfl rfl (by decide +kernel) ⟨(Nat.le_of_ble_eq_true rfl), (Nat.le_of_ble_eq_true rfl)⟩) ⟨fun a U g mk q => by obtain ⟨q0, q1, qK, qE, qN, qA⟩ := q; exact ⟨q0, q1, va_K.moved (u := U) (U := U.calling g mk a) (Vm.Alike.refl U.vm) qK, EVC.blind g mk a qE, NC.blind g mk a qN, AO.blind g mk a qA⟩, fun U hU hW => ⟨rfl, hU, va_K.moved hW.alike hK, hE.call hS hFc hU hW, hN.call hW, hAO.call hW⟩⟩ rfl rfl hl.1 rfl (lv_room (Nat.le_of_ble_eq_true rfl)) dL_law_615 ⟨show cells + 1 ≤ 603072 from by omega, show slots + 6 ≤ 7262314 from by omega⟩) hS (fun q _ h => hFc q h) hFc (fun r45 u t H locs ht hvm hw hB hz1 hk1 hS => ?_)
    (try dsimp only at hB); rw [ht] at hB
    have hR := hR.kept (fun a t h => hk1 a (hPr a (hGP a t h)) (fun h9 => h9 (hGP a t h)))
    have hC := hB
    have hPr : ∀ a, Pr a → a < H.size := fun a h => Nat.lt_of_lt_of_le (hPr a h) hz1
    refine lv_istore (lv' := [(5, .int r45), (0, .ref b), (1, .ref x), (2, .ref h0), (3, .ref ou), (4, .int (nI n))]) hx hb dL_law_618 hl (by decide) rfl (fun ls hl => ?_)
    refine lv_aload_n hx hb dL_law_620 rfl (lv_at hl 3 rfl) ?_
    refine lv_aload_n hx hb dL_law_621 rfl (lv_at hl 1 rfl) ?_
    refine lv_iload hx hb dL_law_622 (lv_at hl 5 rfl) ?_
    refine lv_iconst (v := 1) hx hb dL_law_624 (by decide) ?_
    refine lv_iadd hx hb dL_law_625 ?_
    refine lv_topi (fun x46 ex46 => ?_)
    obtain rfl : nI (n + 1) = x46 := (ex46.trans (nI_add n 1)).symm
    refine va_sld hx hb hX hbl hbA hS (i := (nI (n + 1))) (vin_t (a := ((n + 1 : Nat) : Int)) (nI_toInt (by omega)) (by omega) (by omega)) dL_law_626 ?_
    refine lv_topi (fun x47 ex47 => ?_)
    obtain rfl : x22 = x47 := by rw [ex47, ex22] <;> exact congrArg xs (tn_same (i := (nI (n + 1))) (j := (nI (n + 1))) (show (nI (n + 1)).toInt = ((n + 1 : Nat) : Int) from (nI_toInt (by omega))) (show (nI (n + 1)).toInt = ((n + 1 : Nat) : Int) from (nI_toInt (by omega))) (by omega))
    refine lv_if_eq (tgt := 634) hx hb dL_law_627 (by decide) (fun c48 => ?_) (fun c48 => ?_)
    · have t49 : x22.toInt = 0 := ti_eq c48 rfl (by decide)
      refine lv_iconst (v := 0) hx hb dL_law_634 (by decide) ?_
      refine lv_aload_n hx hb dL_law_635 rfl (lv_at hl 1 rfl) ?_
      refine lv_iload hx hb dL_law_636 (lv_at hl 5 rfl) ?_
      refine lv_iconst (v := 2) hx hb dL_law_638 (by decide) ?_
      refine lv_iadd hx hb dL_law_639 ?_
      refine lv_topi (fun x50 ex50 => ?_)
      obtain rfl : nI (n + 2) = x50 := (ex50.trans (nI_add n 2)).symm
      refine va_sld hx hb hX hbl hbA hS (i := (nI (n + 2))) (vin_t (a := ((n + 2 : Nat) : Int)) (nI_toInt (by omega)) (by omega) (by omega)) dL_law_640 ?_
      refine lv_topi (fun x51 ex51 => ?_)
      obtain rfl : x42 = x51 := by rw [ex51, ex42] <;> exact congrArg xs (tn_same (i := (nI (n + 2))) (j := (nI (n + 2))) (show (nI (n + 2)).toInt = ((n + 2 : Nat) : Int) from (nI_toInt (by omega))) (show (nI (n + 2)).toInt = ((n + 2 : Nat) : Int) from (nI_toInt (by omega))) (by omega))
      refine lv_aload_n hx hb dL_law_641 rfl (lv_at hl 1 rfl) ?_
      refine lv_iload hx hb dL_law_642 (lv_at hl 5 rfl) ?_
      refine lv_iconst (v := 3) hx hb dL_law_644 (by decide) ?_
      refine lv_iadd hx hb dL_law_645 ?_
      refine lv_topi (fun x52 ex52 => ?_)
      obtain rfl : nI (n + 3) = x52 := (ex52.trans (nI_add n 3)).symm
      refine va_sld hx hb hX hbl hbA hS (i := (nI (n + 3))) (vin_t (a := ((n + 3 : Nat) : Int)) (nI_toInt (by omega)) (by omega) (by omega)) dL_law_646 ?_
      refine lv_topi (fun x53 ex53 => ?_)
      obtain rfl : x44 = x53 := by rw [ex53, ex44] <;> exact congrArg xs (tn_same (i := (nI (n + 3))) (j := (nI (n + 3))) (show (nI (n + 3)).toInt = ((n + 3 : Nat) : Int) from (nI_toInt (by omega))) (show (nI (n + 3)).toInt = ((n + 3 : Nat) : Int) from (nI_toInt (by omega))) (by omega))
      have hFc := gA_m hPr hGP hGA hA hS
      refine va_calli (va_runV (As := [.int 0, .int x42, .int x44]) (rest := []) ⟨hx, hb, hml, hown, hts⟩ (r_weather l dC dI kA adK adV Gm H h0 0 x42 x44 (by decide) hR) (cwV 3 hts (goodIn_app (goodIn_r _ [50, 51, 52, 43] rfl (by decide +kernel)) (goodIn_ca (goodIn_r _ [37, 38, 39, 40, 41, 42, 43, 44, 45, 46, 47, 48, 49] rfl (by decide +kernel)) (bs_in2 _ _))) rfl rfl rfl (by decide +kernel) ⟨(Nat.le_of_ble_eq_true rfl), (Nat.le_of_ble_eq_true rfl)⟩) ⟨fun a U g mk q => by obtain ⟨q0, q1, qK, qE⟩ := q; exact ⟨q0, q1, va_K.moved (u := U) (U := U.calling g mk a) (Vm.Alike.refl U.vm) qK, EVS.blind g mk a qE⟩, RI.recv hK hR.ri, fun U hU hW => ⟨rfl, hU, va_K.moved hW.alike hK, hE.1.call hS hFc hU hW⟩⟩ rfl rfl hl.1 rfl (lv_room (Nat.le_of_ble_eq_true rfl)) dL_law_647 ⟨show cells + 1 + 0 ≤ 603072 from by omega, show slots + 6 + 0 ≤ 7262314 from by omega⟩) hS (fun q _ h => hFc q h) hFc (fun r54 u t H locs ht hvm hw hB hz1 hk1 hS => ?_)
      (try dsimp only at hB); rw [ht] at hB
      have hC := hC.kept (fun a h1 h2 => hk1 a h1 (gA_mn hGP h1 h2))
      have hR := hB
      have hPr : ∀ a, Pr a → a < H.size := fun a h => Nat.lt_of_lt_of_le (hPr a h) hz1
      refine lv_istore (lv' := [(6, .int r54), (5, .int r45), (0, .ref b), (1, .ref x), (2, .ref h0), (3, .ref ou), (4, .int (nI n))]) hx hb dL_law_650 hl (by decide) rfl (fun ls hl => ?_)
      refine lv_goto (tgt := 2491) hx hb dL_law_652 (by decide) ?_
      exact W.widen (k := cells + 1170) (n := slots + 14100) (by omega) (by omega) (kk g H _ ls hC hR hPr hS (lv_sub hl [2, 3, 4, 5, 6] rfl))
    · have t55 : x22.toInt ≠ 0 := ti_ne c48 rfl (by decide)
      refine lv_iconst (v := 1) hx hb dL_law_630 (by decide) ?_
      refine lv_goto (tgt := 635) hx hb dL_law_631 (by decide) ?_
      refine lv_aload_n hx hb dL_law_635 rfl (lv_at hl 1 rfl) ?_
      refine lv_iload hx hb dL_law_636 (lv_at hl 5 rfl) ?_
      refine lv_iconst (v := 2) hx hb dL_law_638 (by decide) ?_
      refine lv_iadd hx hb dL_law_639 ?_
      refine lv_topi (fun x56 ex56 => ?_)
      obtain rfl : nI (n + 2) = x56 := (ex56.trans (nI_add n 2)).symm
      refine va_sld hx hb hX hbl hbA hS (i := (nI (n + 2))) (vin_t (a := ((n + 2 : Nat) : Int)) (nI_toInt (by omega)) (by omega) (by omega)) dL_law_640 ?_
      refine lv_topi (fun x57 ex57 => ?_)
      obtain rfl : x42 = x57 := by rw [ex57, ex42] <;> exact congrArg xs (tn_same (i := (nI (n + 2))) (j := (nI (n + 2))) (show (nI (n + 2)).toInt = ((n + 2 : Nat) : Int) from (nI_toInt (by omega))) (show (nI (n + 2)).toInt = ((n + 2 : Nat) : Int) from (nI_toInt (by omega))) (by omega))
      refine lv_aload_n hx hb dL_law_641 rfl (lv_at hl 1 rfl) ?_
      refine lv_iload hx hb dL_law_642 (lv_at hl 5 rfl) ?_
      refine lv_iconst (v := 3) hx hb dL_law_644 (by decide) ?_
      refine lv_iadd hx hb dL_law_645 ?_
      refine lv_topi (fun x58 ex58 => ?_)
      obtain rfl : nI (n + 3) = x58 := (ex58.trans (nI_add n 3)).symm
      refine va_sld hx hb hX hbl hbA hS (i := (nI (n + 3))) (vin_t (a := ((n + 3 : Nat) : Int)) (nI_toInt (by omega)) (by omega) (by omega)) dL_law_646 ?_
      refine lv_topi (fun x59 ex59 => ?_)
      obtain rfl : x44 = x59 := by rw [ex59, ex44] <;> exact congrArg xs (tn_same (i := (nI (n + 3))) (j := (nI (n + 3))) (show (nI (n + 3)).toInt = ((n + 3 : Nat) : Int) from (nI_toInt (by omega))) (show (nI (n + 3)).toInt = ((n + 3 : Nat) : Int) from (nI_toInt (by omega))) (by omega))
      have hFc := gA_m hPr hGP hGA hA hS
      refine va_calli (va_runV (As := [.int 1, .int x42, .int x44]) (rest := []) ⟨hx, hb, hml, hown, hts⟩ (r_weather l dC dI kA adK adV Gm H h0 1 x42 x44 (by decide) hR) (cwV 3 hts (goodIn_app (goodIn_r _ [50, 51, 52, 43] rfl (by decide +kernel)) (goodIn_ca (goodIn_r _ [37, 38, 39, 40, 41, 42, 43, 44, 45, 46, 47, 48, 49] rfl (by decide +kernel)) (bs_in2 _ _))) rfl rfl rfl (by decide +kernel) ⟨(Nat.le_of_ble_eq_true rfl), (Nat.le_of_ble_eq_true rfl)⟩) ⟨fun a U g mk q => by obtain ⟨q0, q1, qK, qE⟩ := q; exact ⟨q0, q1, va_K.moved (u := U) (U := U.calling g mk a) (Vm.Alike.refl U.vm) qK, EVS.blind g mk a qE⟩, RI.recv hK hR.ri, fun U hU hW => ⟨rfl, hU, va_K.moved hW.alike hK, hE.1.call hS hFc hU hW⟩⟩ rfl rfl hl.1 rfl (lv_room (Nat.le_of_ble_eq_true rfl)) dL_law_647 ⟨show cells + 1 + 0 ≤ 603072 from by omega, show slots + 6 + 0 ≤ 7262314 from by omega⟩) hS (fun q _ h => hFc q h) hFc (fun r60 u t H locs ht hvm hw hB hz1 hk1 hS => ?_)
      (try dsimp only at hB); rw [ht] at hB
      have hC := hC.kept (fun a h1 h2 => hk1 a h1 (gA_mn hGP h1 h2))
      have hR := hB
      have hPr : ∀ a, Pr a → a < H.size := fun a h => Nat.lt_of_lt_of_le (hPr a h) hz1
      refine lv_istore (lv' := [(6, .int r60), (5, .int r45), (0, .ref b), (1, .ref x), (2, .ref h0), (3, .ref ou), (4, .int (nI n))]) hx hb dL_law_650 hl (by decide) rfl (fun ls hl => ?_)
      refine lv_goto (tgt := 2491) hx hb dL_law_652 (by decide) ?_
      exact W.widen (k := cells + 1170) (n := slots + 14100) (by omega) (by omega) (kk g H _ ls hC hR hPr hS (lv_sub hl [2, 3, 4, 5, 6] rfl))
def w_law_7 : List Cond := .initialized RL :: (HAppend.hAppend (α := List Cond) (β := List Cond) (γ := List Cond) [.codeWith yL_sky cL_sky 5 (some .int) [(0, 10, 13, 39)], .code yX11_sky cX11_sky 3 (some .int), .constant RX11 110 40000, .code yX11_within cX11_within 3 (some .boolean), .methodLink RX11 58 yX11_within, .static yX11_within, .initialized RX11, .classLink RX11 134 "java/util/NoSuchElementException", .initialized "java/util/NoSuchElementException", .fieldLink RX11 16 "SeaLand" "lake" "LSeaLand$Lake;", .code yX8_rainAt cX8_rainAt 3 (some .int), .fieldLink RX8 31 "SeaLand$Sky" "rain" "LSeaLand$Tellings;", .code yX9_standingAt cX9_standingAt 5 (some .int), .fieldLink RX9 18 "SeaLand$Tellings" "told" "I", .fieldLink RX9 9 "SeaLand$Tellings" "hours" "[I", .methodLink RX8 44 yX9_standingAt, .instanceMethod yX9_standingAt, .selects RX9 yX9_standingAt yX9_standingAt, .initialized RX9, .methodLink RX11 146 yX8_rainAt, .instanceMethod yX8_rainAt, .selects RX8 yX8_rainAt yX8_rainAt, .initialized RX8, .code yX8_windAt cX8_windAt 4 (some .int), .fieldLink RX8 27 "SeaLand$Sky" "wind" "LSeaLand$Tellings;", .code yX9_nearestNumberBefore cX9_nearestNumberBefore 5 (some .int), .fieldLink RX9 15 "SeaLand$Tellings" "numbers" "[I", .methodLink RX8 54 yX9_nearestNumberBefore, .instanceMethod yX9_nearestNumberBefore, .selects RX9 yX9_nearestNumberBefore yX9_nearestNumberBefore, .code yX9_nearestNumberAfter cX9_nearestNumberAfter 5 (some .int), .constant RX9 22 40001, .methodLink RX8 57 yX9_nearestNumberAfter, .instanceMethod yX9_nearestNumberAfter, .selects RX9 yX9_nearestNumberAfter yX9_nearestNumberAfter, .methodLink RX8 60 Lib.Math.max.name, .static Lib.Math.max.name, .initialized "java/lang/Math", .code Lib.Math.max.name Lib.Math.max.code 2 (some .int), .methodLink RX11 143 yX8_windAt, .instanceMethod yX8_windAt, .selects RX8 yX8_windAt yX8_windAt, .code yX8_outsideAt cX8_outsideAt 4 (some .int), .fieldLink RX8 9 "SeaLand$Sky" "tides" "[I", .code yJ9_floorMod_7cf53 cJ9_floorMod_7cf53 3 (some .int), .methodLink RX8 38 yJ9_floorMod_7cf53, .static yJ9_floorMod_7cf53, .initialized RJ9, .fieldLink RX8 34 "SeaLand$Sky" "storms" "I", .fieldLink RX8 15 "SeaLand$Sky" "stormFrom" "[I", .fieldLink RX8 18 "SeaLand$Sky" "stormTo" "[I", .fieldLink RX8 21 "SeaLand$Sky" "stormMore" "[I", .methodLink RX11 139 yX8_outsideAt, .instanceMethod yX8_outsideAt, .selects RX8 yX8_outsideAt yX8_outsideAt, .methodLink RL 35 yX11_sky, .instanceMethod yX11_sky, .selects RX11 yX11_sky yX11_sky, .classLink RL 39 "java/util/NoSuchElementException", .methodLink RL 202 yL_sky, .static yL_sky, .initialized RL, .code yX12_sky cX12_sky 3 (some .int), .fieldLink RX12 194 "SeaLandModel" "thrown" "I", .constant RX12 242 40000, .code yX12_in cX12_in 3 (some .boolean), .methodLink RX12 197 yX12_in, .static yX12_in, .initialized RX12, .code yX12_throwsIf cX12_throwsIf 3 (some .boolean), .methodLink RX12 224 yX12_throwsIf, .instanceMethod yX12_throwsIf, .selects RX12 yX12_throwsIf yX12_throwsIf, .code yX12_rain cX12_rain 3 (some .int), .code yX12_telling cX12_telling 6 (some .int), .fieldLink RX12 9 "SeaLandModel" "world" "[I", .methodLink RX12 243 yX12_telling, .instanceMethod yX12_telling, .selects RX12 yX12_telling yX12_telling, .methodLink RX12 253 yX12_rain, .instanceMethod yX12_rain, .selects RX12 yX12_rain yX12_rain, .code yX12_wind cX12_wind 7 (some .int), .methodLink RX12 211 Lib.Math.max.name, .methodLink RX12 250 yX12_wind, .instanceMethod yX12_wind, .selects RX12 yX12_wind yX12_wind, .code yX12_outside cX12_outside 4 (some .int), .methodLink RX12 247 yX12_outside, .instanceMethod yX12_outside, .selects RX12 yX12_outside yX12_outside, .methodLink RL 205 yX12_sky, .instanceMethod yX12_sky, .selects RX12 yX12_sky yX12_sky] bs2)
set_option maxHeartbeats 4000000 in
set_option maxRecDepth 100000 in
theorem law_7 {p : Program} {e : Env} {s : State} {m : MethodId} {below : List Frame} {meth : Method} {c : Code} {Q : State → Prop} (l : Launch) (hlt : l.stackTraces = false) {b L : Nat} {xs : Nat → Int32} {A : Nat → Prop} (hx : p.tables.exec = Jvm.exec) (hb : c.code = code) (hml : c.maxLocals = 7) (hown : s.vm.findClass RL = some m.cls) (hts : ∀ w ∈ w_law_7, w.before #[Value.ref b] s = true) (hX : va_X b L xs s s.heap) (hbl : b < s.heap.size) (hbA : ¬ A b) (hL : L ≤ 4096) {adK adV : Nat → Nat} (hE : EVC adK adV A s s.heap) (hN : NC s) (hAO : AO s) (hA : ∀ q : Nat, s.heap.size ≤ q → A q) {dC : Nat → ClassId} {dI : Nat → Nat → Nat} {kA : Nat → ClassId} (hK : va_K (dC, dI) vwCl (tyl kA) s) {Pr : Nat → Prop} {Gm : gT} {x h0 ou : Nat} (hPA : ∀ q, ¬ Pr q → A q) (hGP : ∀ a t, Gm a = some t → Pr a) (hGA : ∀ a t, Gm a = some t → A a) (n : Nat) (hn : n + 8 ≤ L) (H : Heap) (locs : List Loc) (cells slots : Nat) (hcl : cells + 1170 ≤ 603072) (hsl : slots + 14100 ≤ 7262314) (g : gz) (hC : CJ dC dI kA Pr g x ou H) (hR : RJ dC dI kA g h0 Gm H) (hPr : ∀ a, Pr a → a < H.size) (hS : va_S A s.heap H locs) (ls : Array Slot) (hl : lv_has ls 7 [(0, .ref b), (1, .ref x), (2, .ref h0), (3, .ref ou), (4, .int (nI n))]) (kk : ∀ (g : gz) (H : Heap) (locs : List Loc) (ls : Array Slot), CJ dC dI kA Pr g x ou H → RJ dC dI kA g h0 Gm H → (∀ a, Pr a → a < H.size) → va_S A s.heap H locs → lv_has ls 7 [(0, .ref b), (1, .ref x), (2, .ref h0), (3, .ref ou), (4, .int (nI n))] → W p l e room_1 s m #[Value.ref b] below meth c H locs (cells + 1170) (slots + 14100) Q (F0 m 2491 ls [])) : W p l e room_1 s m #[Value.ref b] below meth c H locs cells slots Q (F0 m 655 ls []) := by
  refine lv_aload_n hx hb dL_law_655 rfl (lv_at hl 1 rfl) ?_
  refine lv_aload_n hx hb dL_law_656 rfl (lv_at hl 0 rfl) ?_
  refine lv_iload hx hb dL_law_657 (lv_at hl 4 rfl) ?_
  refine lv_iconst (v := 1) hx hb dL_law_659 (by decide) ?_
  refine lv_iadd hx hb dL_law_660 ?_
  refine lv_topi (fun x21 ex21 => ?_)
  obtain rfl : nI (n + 1) = x21 := (ex21.trans (nI_add n 1)).symm
  refine va_sld hx hb hX hbl hbA hS (i := (nI (n + 1))) (vin_t (a := ((n + 1 : Nat) : Int)) (nI_toInt (by omega)) (by omega) (by omega)) dL_law_661 ?_
  refine lv_topi (fun x22 ex22 => ?_)
  refine lv_aload_n hx hb dL_law_662 rfl (lv_at hl 0 rfl) ?_
  refine lv_iload hx hb dL_law_663 (lv_at hl 4 rfl) ?_
  refine lv_iconst (v := 2) hx hb dL_law_665 (by decide) ?_
  refine lv_iadd hx hb dL_law_666 ?_
  refine lv_topi (fun x23 ex23 => ?_)
  obtain rfl : nI (n + 2) = x23 := (ex23.trans (nI_add n 2)).symm
  refine va_sld hx hb hX hbl hbA hS (i := (nI (n + 2))) (vin_t (a := ((n + 2 : Nat) : Int)) (nI_toInt (by omega)) (by omega) (by omega)) dL_law_667 ?_
  refine lv_topi (fun x24 ex24 => ?_)
  refine lv_aload_n hx hb dL_law_668 rfl (lv_at hl 3 rfl) ?_
  have hFc := hPA
  refine va_calli (vx_runSW (As := [.ref x, .int x22, .int x24, .ref ou]) (rest := []) ⟨hx, hb, hml, hown, hts⟩ (k_sky l hlt dC dI kA adK adV Pr H x ou x22 x24  hPr hC) (vx_cwSW 4 hts (goodIn_app (goodIn_r _ [60, 61, 62] rfl (by decide +kernel)) (goodIn_ca (goodIn_r _ [1, 2, 3, 4, 5, 6, 7, 8, 9, 10, 11, 12, 13, 14, 15, 16, 17, 18, 19, 20, 21, 22, 23, 24, 25, 26, 27, 28, 29, 30, 31, 32, 33, 34, 35, 36, 37, 38, 39, 40, 41, 42, 43, 44, 45, 46, 47, 48, 49, 50, 51, 52, 53, 54, 55, 56, 57, 58, 59] rfl (by decide +kernel)) (bs2_in _ _))) rfl rfl rfl (by decide +kernel) ⟨(Nat.le_of_ble_eq_true rfl), (Nat.le_of_ble_eq_true rfl)⟩) ⟨fun a U g mk q => by obtain ⟨q0, q1, qK, qE, qN, qA⟩ := q; exact ⟨q0, q1, va_K.moved (u := U) (U := U.calling g mk a) (Vm.Alike.refl U.vm) qK, EVC.blind g mk a qE, NC.blind g mk a qN, AO.blind g mk a qA⟩, fun U hU hW => ⟨rfl, hU, va_K.moved hW.alike hK, hE.call hS hFc hU hW, hN.call hW, hAO.call hW⟩⟩ rfl rfl hl.1 rfl (lv_room (Nat.le_of_ble_eq_true rfl)) dL_law_669 ⟨show cells + 1 ≤ 603072 from by omega, show slots + 6 ≤ 7262314 from by omega⟩) hS (fun q _ h => hFc q h) hFc (fun r25 u t H locs ht hvm hw hB hz1 hk1 hS => ?_)
  (try dsimp only at hB); rw [ht] at hB
  have hR := hR.kept (fun a t h => hk1 a (hPr a (hGP a t h)) (fun h9 => h9 (hGP a t h)))
  have hC := hB
  have hPr : ∀ a, Pr a → a < H.size := fun a h => Nat.lt_of_lt_of_le (hPr a h) hz1
  refine lv_istore (lv' := [(5, .int r25), (0, .ref b), (1, .ref x), (2, .ref h0), (3, .ref ou), (4, .int (nI n))]) hx hb dL_law_672 hl (by decide) rfl (fun ls hl => ?_)
  refine lv_aload_n hx hb dL_law_674 rfl (lv_at hl 3 rfl) ?_
  refine lv_aload_n hx hb dL_law_675 rfl (lv_at hl 1 rfl) ?_
  refine lv_iload hx hb dL_law_676 (lv_at hl 5 rfl) ?_
  refine lv_iconst (v := 1) hx hb dL_law_678 (by decide) ?_
  refine lv_iadd hx hb dL_law_679 ?_
  refine lv_topi (fun x26 ex26 => ?_)
  obtain rfl : nI (n + 1) = x26 := (ex26.trans (nI_add n 1)).symm
  refine va_sld hx hb hX hbl hbA hS (i := (nI (n + 1))) (vin_t (a := ((n + 1 : Nat) : Int)) (nI_toInt (by omega)) (by omega) (by omega)) dL_law_680 ?_
  refine lv_topi (fun x27 ex27 => ?_)
  obtain rfl : x22 = x27 := by rw [ex27, ex22] <;> exact congrArg xs (tn_same (i := (nI (n + 1))) (j := (nI (n + 1))) (show (nI (n + 1)).toInt = ((n + 1 : Nat) : Int) from (nI_toInt (by omega))) (show (nI (n + 1)).toInt = ((n + 1 : Nat) : Int) from (nI_toInt (by omega))) (by omega))
  refine lv_aload_n hx hb dL_law_681 rfl (lv_at hl 1 rfl) ?_
  refine lv_iload hx hb dL_law_682 (lv_at hl 5 rfl) ?_
  refine lv_iconst (v := 2) hx hb dL_law_684 (by decide) ?_
  refine lv_iadd hx hb dL_law_685 ?_
  refine lv_topi (fun x28 ex28 => ?_)
  obtain rfl : nI (n + 2) = x28 := (ex28.trans (nI_add n 2)).symm
  refine va_sld hx hb hX hbl hbA hS (i := (nI (n + 2))) (vin_t (a := ((n + 2 : Nat) : Int)) (nI_toInt (by omega)) (by omega) (by omega)) dL_law_686 ?_
  refine lv_topi (fun x29 ex29 => ?_)
  obtain rfl : x24 = x29 := by rw [ex29, ex24] <;> exact congrArg xs (tn_same (i := (nI (n + 2))) (j := (nI (n + 2))) (show (nI (n + 2)).toInt = ((n + 2 : Nat) : Int) from (nI_toInt (by omega))) (show (nI (n + 2)).toInt = ((n + 2 : Nat) : Int) from (nI_toInt (by omega))) (by omega))
  have hFc := gA_m hPr hGP hGA hA hS
  refine va_calli (va_runV (As := [.int x22, .int x24]) (rest := []) ⟨hx, hb, hml, hown, hts⟩ (r_sky l dC dI kA adK adV Gm H h0 x22 x24  hR) (cwV 2 hts (goodIn_app (goodIn_r _ [92, 93, 94, 69] rfl (by decide +kernel)) (goodIn_ca (goodIn_r _ [63, 64, 65, 66, 67, 68, 69, 70, 71, 72, 73, 74, 75, 76, 77, 78, 79, 80, 81, 82, 83, 84, 37, 38, 39, 85, 86, 87, 88, 89, 90, 91] rfl (by decide +kernel)) (bs_in2 _ _))) rfl rfl rfl (by decide +kernel) ⟨(Nat.le_of_ble_eq_true rfl), (Nat.le_of_ble_eq_true rfl)⟩) ⟨fun a U g mk q => by obtain ⟨q0, q1, qK, qE⟩ := q; exact ⟨q0, q1, va_K.moved (u := U) (U := U.calling g mk a) (Vm.Alike.refl U.vm) qK, EVS.blind g mk a qE⟩, RI.recv hK hR.ri, fun U hU hW => ⟨rfl, hU, va_K.moved hW.alike hK, hE.1.call hS hFc hU hW⟩⟩ rfl rfl hl.1 rfl (lv_room (Nat.le_of_ble_eq_true rfl)) dL_law_687 ⟨show cells + 1 + 0 ≤ 603072 from by omega, show slots + 6 + 0 ≤ 7262314 from by omega⟩) hS (fun q _ h => hFc q h) hFc (fun r30 u t H locs ht hvm hw hB hz1 hk1 hS => ?_)
  (try dsimp only at hB); rw [ht] at hB
  have hC := hC.kept (fun a h1 h2 => hk1 a h1 (gA_mn hGP h1 h2))
  have hR := hB
  have hPr : ∀ a, Pr a → a < H.size := fun a h => Nat.lt_of_lt_of_le (hPr a h) hz1
  refine lv_istore (lv' := [(6, .int r30), (5, .int r25), (0, .ref b), (1, .ref x), (2, .ref h0), (3, .ref ou), (4, .int (nI n))]) hx hb dL_law_690 hl (by decide) rfl (fun ls hl => ?_)
  refine lv_goto (tgt := 2491) hx hb dL_law_692 (by decide) ?_
  exact W.widen (k := cells + 1170) (n := slots + 14100) (by omega) (by omega) (kk g H _ ls hC hR hPr hS (lv_sub hl [2, 3, 4, 5, 6] rfl))
def w_law_8 : List Cond := .initialized RL :: (HAppend.hAppend (α := List Cond) (β := List Cond) (γ := List Cond) [.codeWith yL_dike cL_dike 7 (some .int) [(0, 14, 17, 13), (0, 14, 21, 15), (0, 14, 25, 45)], .code yX11_dike cX11_dike 5 (some .int), .code yX11_needSquare cX11_needSquare 1 none, .code yX11_within cX11_within 3 (some .boolean), .methodLink RX11 58 yX11_within, .static yX11_within, .initialized RX11, .classLink RX11 557 "java/lang/IndexOutOfBoundsException", .initialized "java/lang/IndexOutOfBoundsException", .methodLink RX11 55 yX11_needSquare, .static yX11_needSquare, .code yX11_needNumbers cX11_needNumbers 1 none, .classLink RX11 547 "java/lang/IllegalArgumentException", .initialized "java/lang/IllegalArgumentException", .methodLink RX11 62 yX11_needNumbers, .static yX11_needNumbers, .code yX11_needRoomForWork cX11_needRoomForWork 1 none, .fieldLink RX11 16 "SeaLand" "lake" "LSeaLand$Lake;", .classLink RX11 345 "java/lang/UnsupportedOperationException", .initialized "java/lang/UnsupportedOperationException", .methodLink RX11 149 yX11_needRoomForWork, .instanceMethod yX11_needRoomForWork, .selects RX11 yX11_needRoomForWork yX11_needRoomForWork, .code yX3_isFreeLand cX3_isFreeLand 2 (some .boolean), .fieldLink RX3 21 "SeaLand$Lake" "ground" "LSeaLand$Ground;", .code yX3_workOn cX3_workOn 3 (some .int), .fieldLink RX3 47 "SeaLand$Lake" "built" "I", .fieldLink RX3 27 "SeaLand$Lake" "works" "[LSeaLand$Work;", .methodLink RX3 53 yX3_workOn, .instanceMethod yX3_workOn, .selects RX3 yX3_workOn yX3_workOn, .initialized RX3, .methodLink RX11 152 yX3_isFreeLand, .instanceMethod yX3_isFreeLand, .selects RX3 yX3_isFreeLand yX3_isFreeLand, .code yX3_isSeaBeside cX3_isSeaBeside 3 (some .boolean), .code yX11_stepsApart cX11_stepsApart 2 (some .int), .methodLink RX11 580 Lib.Math.abs.name, .static Lib.Math.abs.name, .initialized "java/lang/Math", .code Lib.Math.abs.name Lib.Math.abs.code 1 (some .int), .static yX11_stepsApart, .methodLink RX11 156 yX3_isSeaBeside, .instanceMethod yX3_isSeaBeside, .selects RX3 yX3_isSeaBeside yX3_isSeaBeside, .methodLink RX11 160 yX11_stepsApart, .fieldLink RX11 23 "SeaLand" "rows" "LSeaLand$Rows;", .code yX6_forget cX6_forget 1 none, .fieldLink RX6 18 "SeaLand$Rows" "kept" "I", .fieldLink RX6 22 "SeaLand$Rows" "oldest" "I", .methodLink RX11 76 yX6_forget, .instanceMethod yX6_forget, .selects RX6 yX6_forget yX6_forget, .initialized RX6, .code yX3_build cX3_build 5 (some .int), .code yX10_begin cX10_begin 5 none, .fieldLink RX10 18 "SeaLand$Work" "kind" "I", .fieldLink RX10 22 "SeaLand$Work" "square" "I", .fieldLink RX10 25 "SeaLand$Work" "to" "I", .fieldLink RX10 28 "SeaLand$Work" "size" "I", .fieldLink RX10 31 "SeaLand$Work" "width" "I", .fieldLink RX10 34 "SeaLand$Work" "layers" "I", .fieldLink RX10 37 "SeaLand$Work" "coal" "I", .fieldLink RX10 40 "SeaLand$Work" "on" "Z", .fieldLink RX10 44 "SeaLand$Work" "latest" "I", .fieldLink RX10 47 "SeaLand$Work" "total" "I", .methodLink RX3 60 yX10_begin, .instanceMethod yX10_begin, .selects RX10 yX10_begin yX10_begin, .initialized RX10, .methodLink RX11 163 yX3_build, .instanceMethod yX3_build, .selects RX3 yX3_build yX3_build, .methodLink RL 41 yX11_dike, .instanceMethod yX11_dike, .selects RX11 yX11_dike yX11_dike, .classLink RL 13 "java/lang/IndexOutOfBoundsException", .classLink RL 15 "java/lang/IllegalArgumentException", .classLink RL 45 "java/lang/UnsupportedOperationException", .methodLink RL 206 yL_dike, .static yL_dike, .initialized RL, .code yX12_dike cX12_dike 5 (some .int), .fieldLink RX12 194 "SeaLandModel" "thrown" "I", .code yX12_noSquare cX12_noSquare 1 (some .boolean), .code yX12_in cX12_in 3 (some .boolean), .methodLink RX12 197 yX12_in, .static yX12_in, .initialized RX12, .methodLink RX12 220 yX12_noSquare, .static yX12_noSquare, .code yX12_throwsIf cX12_throwsIf 3 (some .boolean), .methodLink RX12 224 yX12_throwsIf, .instanceMethod yX12_throwsIf, .selects RX12 yX12_throwsIf yX12_throwsIf, .fieldLink RX12 9 "SeaLandModel" "world" "[I", .code yX12_noPlace cX12_noPlace 2 (some .boolean), .code yX12_isLand cX12_isLand 2 (some .boolean), .methodLink RX12 235 yX12_isLand, .instanceMethod yX12_isLand, .selects RX12 yX12_isLand yX12_isLand, .code yX12_workOn cX12_workOn 3 (some .int), .code yX12_of cX12_of 3 (some .int), .code yX12_at cX12_at 2 (some .int), .methodLink RX12 214 yX12_at, .static yX12_at, .methodLink RX12 217 yX12_of, .instanceMethod yX12_of, .selects RX12 yX12_of yX12_of, .methodLink RX12 256 yX12_workOn, .instanceMethod yX12_workOn, .selects RX12 yX12_workOn yX12_workOn, .methodLink RX12 259 yX12_noPlace, .instanceMethod yX12_noPlace, .selects RX12 yX12_noPlace yX12_noPlace, .code yX12_steps cX12_steps 2 (some .int), .methodLink RX12 201 Lib.Math.abs.name, .methodLink RX12 262 yX12_steps, .static yX12_steps, .code yX12_builds cX12_builds 8 (some .int), .fieldLink RX12 238 "SeaLandModel" "rows" "I", .methodLink RX12 265 yX12_builds, .instanceMethod yX12_builds, .selects RX12 yX12_builds yX12_builds, .methodLink RL 209 yX12_dike, .instanceMethod yX12_dike, .selects RX12 yX12_dike yX12_dike] bs2)
set_option maxHeartbeats 4000000 in
set_option maxRecDepth 100000 in
theorem law_8 {p : Program} {e : Env} {s : State} {m : MethodId} {below : List Frame} {meth : Method} {c : Code} {Q : State → Prop} (l : Launch) (hlt : l.stackTraces = false) {b L : Nat} {xs : Nat → Int32} {A : Nat → Prop} (hx : p.tables.exec = Jvm.exec) (hb : c.code = code) (hml : c.maxLocals = 7) (hown : s.vm.findClass RL = some m.cls) (hts : ∀ w ∈ w_law_8, w.before #[Value.ref b] s = true) (hX : va_X b L xs s s.heap) (hbl : b < s.heap.size) (hbA : ¬ A b) (hL : L ≤ 4096) {adK adV : Nat → Nat} (hE : EVC adK adV A s s.heap) (hN : NC s) (hAO : AO s) (hA : ∀ q : Nat, s.heap.size ≤ q → A q) {dC : Nat → ClassId} {dI : Nat → Nat → Nat} {kA : Nat → ClassId} (hK : va_K (dC, dI) vwCl (tyl kA) s) {Pr : Nat → Prop} {Gm : gT} {x h0 ou : Nat} (hPA : ∀ q, ¬ Pr q → A q) (hGP : ∀ a t, Gm a = some t → Pr a) (hGA : ∀ a t, Gm a = some t → A a) (n : Nat) (hn : n + 8 ≤ L) (H : Heap) (locs : List Loc) (cells slots : Nat) (hcl : cells + 1170 ≤ 603072) (hsl : slots + 14100 ≤ 7262314) (g : gz) (hC : CJ dC dI kA Pr g x ou H) (hR : RJ dC dI kA g h0 Gm H) (hPr : ∀ a, Pr a → a < H.size) (hS : va_S A s.heap H locs) (ls : Array Slot) (hl : lv_has ls 7 [(0, .ref b), (1, .ref x), (2, .ref h0), (3, .ref ou), (4, .int (nI n))]) (kk : ∀ (g : gz) (H : Heap) (locs : List Loc) (ls : Array Slot), CJ dC dI kA Pr g x ou H → RJ dC dI kA g h0 Gm H → (∀ a, Pr a → a < H.size) → va_S A s.heap H locs → lv_has ls 7 [(0, .ref b), (1, .ref x), (2, .ref h0), (3, .ref ou), (4, .int (nI n))] → W p l e room_1 s m #[Value.ref b] below meth c H locs (cells + 1170) (slots + 14100) Q (F0 m 2491 ls [])) : W p l e room_1 s m #[Value.ref b] below meth c H locs cells slots Q (F0 m 695 ls []) := by
  refine lv_aload_n hx hb dL_law_695 rfl (lv_at hl 1 rfl) ?_
  refine lv_aload_n hx hb dL_law_696 rfl (lv_at hl 0 rfl) ?_
  refine lv_iload hx hb dL_law_697 (lv_at hl 4 rfl) ?_
  refine lv_iconst (v := 1) hx hb dL_law_699 (by decide) ?_
  refine lv_iadd hx hb dL_law_700 ?_
  refine lv_topi (fun x21 ex21 => ?_)
  obtain rfl : nI (n + 1) = x21 := (ex21.trans (nI_add n 1)).symm
  refine va_sld hx hb hX hbl hbA hS (i := (nI (n + 1))) (vin_t (a := ((n + 1 : Nat) : Int)) (nI_toInt (by omega)) (by omega) (by omega)) dL_law_701 ?_
  refine lv_topi (fun x22 ex22 => ?_)
  refine lv_aload_n hx hb dL_law_702 rfl (lv_at hl 0 rfl) ?_
  refine lv_iload hx hb dL_law_703 (lv_at hl 4 rfl) ?_
  refine lv_iconst (v := 2) hx hb dL_law_705 (by decide) ?_
  refine lv_iadd hx hb dL_law_706 ?_
  refine lv_topi (fun x23 ex23 => ?_)
  obtain rfl : nI (n + 2) = x23 := (ex23.trans (nI_add n 2)).symm
  refine va_sld hx hb hX hbl hbA hS (i := (nI (n + 2))) (vin_t (a := ((n + 2 : Nat) : Int)) (nI_toInt (by omega)) (by omega) (by omega)) dL_law_707 ?_
  refine lv_topi (fun x24 ex24 => ?_)
  refine lv_aload_n hx hb dL_law_708 rfl (lv_at hl 0 rfl) ?_
  refine lv_iload hx hb dL_law_709 (lv_at hl 4 rfl) ?_
  refine lv_iconst (v := 3) hx hb dL_law_711 (by decide) ?_
  refine lv_iadd hx hb dL_law_712 ?_
  refine lv_topi (fun x25 ex25 => ?_)
  obtain rfl : nI (n + 3) = x25 := (ex25.trans (nI_add n 3)).symm
  refine va_sld hx hb hX hbl hbA hS (i := (nI (n + 3))) (vin_t (a := ((n + 3 : Nat) : Int)) (nI_toInt (by omega)) (by omega) (by omega)) dL_law_713 ?_
  refine lv_topi (fun x26 ex26 => ?_)
  refine lv_aload_n hx hb dL_law_714 rfl (lv_at hl 0 rfl) ?_
  refine lv_iload hx hb dL_law_715 (lv_at hl 4 rfl) ?_
  refine lv_iconst (v := 4) hx hb dL_law_717 (by decide) ?_
  refine lv_iadd hx hb dL_law_718 ?_
  refine lv_topi (fun x27 ex27 => ?_)
  obtain rfl : nI (n + 4) = x27 := (ex27.trans (nI_add n 4)).symm
  refine va_sld hx hb hX hbl hbA hS (i := (nI (n + 4))) (vin_t (a := ((n + 4 : Nat) : Int)) (nI_toInt (by omega)) (by omega) (by omega)) dL_law_719 ?_
  refine lv_topi (fun x28 ex28 => ?_)
  refine lv_aload_n hx hb dL_law_720 rfl (lv_at hl 3 rfl) ?_
  have hFc := hPA
  refine va_calli (vx_runSW (As := [.ref x, .int x22, .int x24, .int x26, .int x28, .ref ou]) (rest := []) ⟨hx, hb, hml, hown, hts⟩ (k_dike l hlt dC dI kA adK adV Pr H x ou x22 x24 x26 x28  hPr hC) (vx_cwSW 6 hts (goodIn_app (goodIn_r _ [80, 81, 82] rfl (by decide +kernel)) (goodIn_ca (goodIn_r _ [1, 2, 3, 4, 5, 6, 7, 8, 9, 10, 11, 12, 13, 14, 15, 16, 17, 18, 19, 20, 21, 22, 23, 24, 25, 26, 27, 28, 29, 30, 31, 32, 33, 34, 35, 36, 37, 38, 39, 40, 41, 42, 43, 44, 45, 46, 47, 48, 49, 50, 51, 52, 53, 54, 55, 56, 57, 58, 59, 60, 61, 62, 63, 64, 65, 66, 67, 68, 69, 70, 71, 72, 73, 74, 75, 76, 77, 78, 79] rfl (by decide +kernel)) (bs2_in _ _))) rfl rfl rfl (by decide +kernel) ⟨(Nat.le_of_ble_eq_true rfl), (Nat.le_of_ble_eq_true rfl)⟩) ⟨fun a U g mk q => by obtain ⟨q0, q1, qK, qE, qN, qA⟩ := q; exact ⟨q0, q1, va_K.moved (u := U) (U := U.calling g mk a) (Vm.Alike.refl U.vm) qK, EVC.blind g mk a qE, NC.blind g mk a qN, AO.blind g mk a qA⟩, fun U hU hW => ⟨rfl, hU, va_K.moved hW.alike hK, hE.call hS hFc hU hW, hN.call hW, hAO.call hW⟩⟩ rfl rfl hl.1 rfl (lv_room (Nat.le_of_ble_eq_true rfl)) dL_law_721 ⟨show cells + 4 ≤ 603072 from by omega, show slots + 24 ≤ 7262314 from by omega⟩) hS (fun q _ h => hFc q h) hFc (fun r29 u t H locs ht hvm hw hB hz1 hk1 hS => ?_)
  (try dsimp only at hB); rw [ht] at hB
  have hR := hR.kept (fun a t h => hk1 a (hPr a (hGP a t h)) (fun h9 => h9 (hGP a t h)))
  have hC := hB
  have hPr : ∀ a, Pr a → a < H.size := fun a h => Nat.lt_of_lt_of_le (hPr a h) hz1
  refine lv_istore (lv' := [(5, .int r29), (0, .ref b), (1, .ref x), (2, .ref h0), (3, .ref ou), (4, .int (nI n))]) hx hb dL_law_724 hl (by decide) rfl (fun ls hl => ?_)
  refine lv_aload_n hx hb dL_law_726 rfl (lv_at hl 3 rfl) ?_
  refine lv_aload_n hx hb dL_law_727 rfl (lv_at hl 1 rfl) ?_
  refine lv_iload hx hb dL_law_728 (lv_at hl 5 rfl) ?_
  refine lv_iconst (v := 1) hx hb dL_law_730 (by decide) ?_
  refine lv_iadd hx hb dL_law_731 ?_
  refine lv_topi (fun x30 ex30 => ?_)
  obtain rfl : nI (n + 1) = x30 := (ex30.trans (nI_add n 1)).symm
  refine va_sld hx hb hX hbl hbA hS (i := (nI (n + 1))) (vin_t (a := ((n + 1 : Nat) : Int)) (nI_toInt (by omega)) (by omega) (by omega)) dL_law_732 ?_
  refine lv_topi (fun x31 ex31 => ?_)
  obtain rfl : x22 = x31 := by rw [ex31, ex22] <;> exact congrArg xs (tn_same (i := (nI (n + 1))) (j := (nI (n + 1))) (show (nI (n + 1)).toInt = ((n + 1 : Nat) : Int) from (nI_toInt (by omega))) (show (nI (n + 1)).toInt = ((n + 1 : Nat) : Int) from (nI_toInt (by omega))) (by omega))
  refine lv_aload_n hx hb dL_law_733 rfl (lv_at hl 1 rfl) ?_
  refine lv_iload hx hb dL_law_734 (lv_at hl 5 rfl) ?_
  refine lv_iconst (v := 2) hx hb dL_law_736 (by decide) ?_
  refine lv_iadd hx hb dL_law_737 ?_
  refine lv_topi (fun x32 ex32 => ?_)
  obtain rfl : nI (n + 2) = x32 := (ex32.trans (nI_add n 2)).symm
  refine va_sld hx hb hX hbl hbA hS (i := (nI (n + 2))) (vin_t (a := ((n + 2 : Nat) : Int)) (nI_toInt (by omega)) (by omega) (by omega)) dL_law_738 ?_
  refine lv_topi (fun x33 ex33 => ?_)
  obtain rfl : x24 = x33 := by rw [ex33, ex24] <;> exact congrArg xs (tn_same (i := (nI (n + 2))) (j := (nI (n + 2))) (show (nI (n + 2)).toInt = ((n + 2 : Nat) : Int) from (nI_toInt (by omega))) (show (nI (n + 2)).toInt = ((n + 2 : Nat) : Int) from (nI_toInt (by omega))) (by omega))
  refine lv_aload_n hx hb dL_law_739 rfl (lv_at hl 1 rfl) ?_
  refine lv_iload hx hb dL_law_740 (lv_at hl 5 rfl) ?_
  refine lv_iconst (v := 3) hx hb dL_law_742 (by decide) ?_
  refine lv_iadd hx hb dL_law_743 ?_
  refine lv_topi (fun x34 ex34 => ?_)
  obtain rfl : nI (n + 3) = x34 := (ex34.trans (nI_add n 3)).symm
  refine va_sld hx hb hX hbl hbA hS (i := (nI (n + 3))) (vin_t (a := ((n + 3 : Nat) : Int)) (nI_toInt (by omega)) (by omega) (by omega)) dL_law_744 ?_
  refine lv_topi (fun x35 ex35 => ?_)
  obtain rfl : x26 = x35 := by rw [ex35, ex26] <;> exact congrArg xs (tn_same (i := (nI (n + 3))) (j := (nI (n + 3))) (show (nI (n + 3)).toInt = ((n + 3 : Nat) : Int) from (nI_toInt (by omega))) (show (nI (n + 3)).toInt = ((n + 3 : Nat) : Int) from (nI_toInt (by omega))) (by omega))
  refine lv_aload_n hx hb dL_law_745 rfl (lv_at hl 1 rfl) ?_
  refine lv_iload hx hb dL_law_746 (lv_at hl 5 rfl) ?_
  refine lv_iconst (v := 4) hx hb dL_law_748 (by decide) ?_
  refine lv_iadd hx hb dL_law_749 ?_
  refine lv_topi (fun x36 ex36 => ?_)
  obtain rfl : nI (n + 4) = x36 := (ex36.trans (nI_add n 4)).symm
  refine va_sld hx hb hX hbl hbA hS (i := (nI (n + 4))) (vin_t (a := ((n + 4 : Nat) : Int)) (nI_toInt (by omega)) (by omega) (by omega)) dL_law_750 ?_
  refine lv_topi (fun x37 ex37 => ?_)
  obtain rfl : x28 = x37 := by rw [ex37, ex28] <;> exact congrArg xs (tn_same (i := (nI (n + 4))) (j := (nI (n + 4))) (show (nI (n + 4)).toInt = ((n + 4 : Nat) : Int) from (nI_toInt (by omega))) (show (nI (n + 4)).toInt = ((n + 4 : Nat) : Int) from (nI_toInt (by omega))) (by omega))
  have hFc := gA_m hPr hGP hGA hA hS
  refine va_calli (va_runV (As := [.int x22, .int x24, .int x26, .int x28]) (rest := []) ⟨hx, hb, hml, hown, hts⟩ (r_dike l dC dI kA adK adV Gm H h0 x22 x24 x26 x28  hR) (cwV 4 hts (goodIn_app (goodIn_r _ [125, 126, 127, 89] rfl (by decide +kernel)) (goodIn_ca (goodIn_r _ [83, 84, 85, 86, 87, 88, 89, 90, 91, 92, 93, 94, 95, 96, 97, 98, 99, 100, 101, 102, 103, 104, 105, 106, 107, 108, 109, 110, 111, 112, 113, 114, 115, 116, 117, 39, 40, 41, 118, 119, 120, 121, 122, 123, 124] rfl (by decide +kernel)) (bs_in2 _ _))) rfl rfl rfl (by decide +kernel) ⟨(Nat.le_of_ble_eq_true rfl), (Nat.le_of_ble_eq_true rfl)⟩) ⟨fun a U g mk q => by obtain ⟨q0, q1, qK, qE⟩ := q; exact ⟨q0, q1, va_K.moved (u := U) (U := U.calling g mk a) (Vm.Alike.refl U.vm) qK, EVS.blind g mk a qE⟩, RI.recv hK hR.ri, fun U hU hW => ⟨rfl, hU, va_K.moved hW.alike hK, hE.1.call hS hFc hU hW⟩⟩ rfl rfl hl.1 rfl (lv_room (Nat.le_of_ble_eq_true rfl)) dL_law_751 ⟨show cells + 4 + 0 ≤ 603072 from by omega, show slots + 24 + 0 ≤ 7262314 from by omega⟩) hS (fun q _ h => hFc q h) hFc (fun r38 u t H locs ht hvm hw hB hz1 hk1 hS => ?_)
  (try dsimp only at hB); rw [ht] at hB
  have hC := hC.kept (fun a h1 h2 => hk1 a h1 (gA_mn hGP h1 h2))
  have hR := hB
  have hPr : ∀ a, Pr a → a < H.size := fun a h => Nat.lt_of_lt_of_le (hPr a h) hz1
  refine lv_istore (lv' := [(6, .int r38), (5, .int r29), (0, .ref b), (1, .ref x), (2, .ref h0), (3, .ref ou), (4, .int (nI n))]) hx hb dL_law_754 hl (by decide) rfl (fun ls hl => ?_)
  refine lv_goto (tgt := 2491) hx hb dL_law_756 (by decide) ?_
  exact W.widen (k := cells + 1170) (n := slots + 14100) (by omega) (by omega) (kk g H _ ls hC hR hPr hS (lv_sub hl [2, 3, 4, 5, 6] rfl))
