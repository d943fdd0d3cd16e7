def w_law_27 : List Cond := .initialized RL :: (HAppend.hAppend (α := List Cond) (β := List Cond) (γ := List Cond) [.codeWith yL_mayBuild cL_mayBuild 4 (some .int) [(0, 16, 19, 13)], .code yX11_mayBuild cX11_mayBuild 2 (some .boolean), .code yX11_needSquare cX11_needSquare 1 none, .code yX11_within cX11_within 3 (some .boolean), .methodLink RX11 58 yX11_within, .static yX11_within, .initialized RX11, .classLink RX11 557 "java/lang/IndexOutOfBoundsException", .initialized "java/lang/IndexOutOfBoundsException", .methodLink RX11 55 yX11_needSquare, .static yX11_needSquare, .fieldLink RX11 30 "SeaLand" "board" "LSeaLand$Board;", .fieldLink RX11 16 "SeaLand" "lake" "LSeaLand$Lake;", .code yX0_buildingAllowed cX0_buildingAllowed 3 (some .boolean), .code yX3_stepsToBank cX3_stepsToBank 4 (some .int), .fieldLink RX3 47 "SeaLand$Lake" "built" "I", .fieldLink RX3 27 "SeaLand$Lake" "works" "[LSeaLand$Work;", .code yX10_isBank cX10_isBank 1 (some .boolean), .fieldLink RX10 18 "SeaLand$Work" "kind" "I", .methodLink RX3 67 yX10_isBank, .instanceMethod yX10_isBank, .selects RX10 yX10_isBank yX10_isBank, .initialized RX10, .code yX11_stepsApart cX11_stepsApart 2 (some .int), .methodLink RX11 580 Lib.Math.abs.name, .static Lib.Math.abs.name, .initialized "java/lang/Math", .code Lib.Math.abs.name Lib.Math.abs.code 1 (some .int), .static yX11_stepsApart, .methodLink RX3 71 Lib.Math.min.name, .static Lib.Math.min.name, .code Lib.Math.min.name Lib.Math.min.code 2 (some .int), .methodLink RX0 138 yX3_stepsToBank, .instanceMethod yX3_stepsToBank, .selects RX3 yX3_stepsToBank yX3_stepsToBank, .initialized RX3, .fieldLink RX0 41 "SeaLand$Board" "force" "LSeaLand$Law;", .code yX4_lastOf cX4_lastOf 5 (some .int), .fieldLink RX4 60 "SeaLand$Law" "lines" "I", .fieldLink RX4 18 "SeaLand$Law" "kinds" "[I", .fieldLink RX4 21 "SeaLand$Law" "firsts" "[I", .methodLink RX0 94 yX4_lastOf, .instanceMethod yX4_lastOf, .selects RX4 yX4_lastOf yX4_lastOf, .initialized RX4, .methodLink RX11 190 yX0_buildingAllowed, .instanceMethod yX0_buildingAllowed, .selects RX0 yX0_buildingAllowed yX0_buildingAllowed, .initialized RX0, .methodLink RL 107 yX11_mayBuild, .instanceMethod yX11_mayBuild, .selects RX11 yX11_mayBuild yX11_mayBuild, .classLink RL 13 "java/lang/IndexOutOfBoundsException", .methodLink RL 269 yL_mayBuild, .static yL_mayBuild, .initialized RL, .code yX12_mayBuild cX12_mayBuild 2 (some .boolean), .fieldLink RX12 194 "SeaLandModel" "thrown" "I", .code yX12_noSquare cX12_noSquare 1 (some .boolean), .code yX12_in cX12_in 3 (some .boolean), .methodLink RX12 197 yX12_in, .static yX12_in, .initialized RX12, .methodLink RX12 220 yX12_noSquare, .static yX12_noSquare, .code yX12_throwsIf cX12_throwsIf 3 (some .boolean), .methodLink RX12 224 yX12_throwsIf, .instanceMethod yX12_throwsIf, .selects RX12 yX12_throwsIf yX12_throwsIf, .code yX12_mayBuildOn cX12_mayBuildOn 5 (some .boolean), .code yX12_lastOf cX12_lastOf 5 (some .int), .fieldLink RX12 42 "SeaLandModel" "lines" "[I", .fieldLink RX12 45 "SeaLandModel" "sort" "[I", .fieldLink RX12 48 "SeaLandModel" "told" "[I", .methodLink RX12 492 yX12_lastOf, .instanceMethod yX12_lastOf, .selects RX12 yX12_lastOf yX12_lastOf, .fieldLink RX12 9 "SeaLandModel" "world" "[I", .code yX12_isDike cX12_isDike 2 (some .boolean), .code yX12_of cX12_of 3 (some .int), .code yX12_at cX12_at 2 (some .int), .methodLink RX12 214 yX12_at, .static yX12_at, .methodLink RX12 217 yX12_of, .instanceMethod yX12_of, .selects RX12 yX12_of yX12_of, .methodLink RX12 272 yX12_isDike, .instanceMethod yX12_isDike, .selects RX12 yX12_isDike yX12_isDike, .code yX12_steps cX12_steps 2 (some .int), .methodLink RX12 201 Lib.Math.abs.name, .methodLink RX12 262 yX12_steps, .static yX12_steps, .methodLink RX12 279 yX12_mayBuildOn, .instanceMethod yX12_mayBuildOn, .selects RX12 yX12_mayBuildOn yX12_mayBuildOn, .methodLink RL 271 yX12_mayBuild, .instanceMethod yX12_mayBuild, .selects RX12 yX12_mayBuild yX12_mayBuild] bs2)
set_option maxHeartbeats 4000000 in
set_option maxRecDepth 100000 in
theorem law_27 {p : Program} {e : Env} {s : State} {m : MethodId} {below : List Frame} {meth : Method} {c : Code} {Q : State → Prop} (l : Launch) (hlt : l.stackTraces = false) {b L : Nat} {xs : Nat → Int32} {A : Nat → Prop} (hx : p.tables.exec = Jvm.exec) (hb : c.code = code) (hml : c.maxLocals = 7) (hown : s.vm.findClass RL = some m.cls) (hts : ∀ w ∈ w_law_27, w.before #[Value.ref b] s = true) (hX : va_X b L xs s s.heap) (hbl : b < s.heap.size) (hbA : ¬ A b) (hL : L ≤ 4096) {adK adV : Nat → Nat} (hE : EVC adK adV A s s.heap) (hN : NC s) (hAO : AO s) (hA : ∀ q : Nat, s.heap.size ≤ q → A q) {dC : Nat → ClassId} {dI : Nat → Nat → Nat} {kA : Nat → ClassId} (hK : va_K (dC, dI) vwCl (tyl kA) s) {Pr : Nat → Prop} {Gm : gT} {x h0 ou : Nat} (hPA : ∀ q, ¬ Pr q → A q) (hGP : ∀ a t, Gm a = some t → Pr a) (hGA : ∀ a t, Gm a = some t → A a) (n : Nat) (hn : n + 8 ≤ L) (H : Heap) (locs : List Loc) (cells slots : Nat) (hcl : cells + 1170 ≤ 603072) (hsl : slots + 14100 ≤ 7262314) (g : gz) (hC : CJ dC dI kA Pr g x ou H) (hR : RJ dC dI kA g h0 Gm H) (hPr : ∀ a, Pr a → a < H.size) (hS : va_S A s.heap H locs) (ls : Array Slot) (hl : lv_has ls 7 [(0, .ref b), (1, .ref x), (2, .ref h0), (3, .ref ou), (4, .int (nI n))]) (kk : ∀ (g : gz) (H : Heap) (locs : List Loc) (ls : Array Slot), CJ dC dI kA Pr g x ou H → RJ dC dI kA g h0 Gm H → (∀ a, Pr a → a < H.size) → va_S A s.heap H locs → lv_has ls 7 [(0, .ref b), (1, .ref x), (2, .ref h0), (3, .ref ou), (4, .int (nI n))] → W p l e room_1 s m #[Value.ref b] below meth c H locs (cells + 1170) (slots + 14100) Q (F0 m 2491 ls [])) : W p l e room_1 s m #[Value.ref b] below meth c H locs cells slots Q (F0 m 1440 ls []) := by
  refine lv_aload_n hx hb dL_law_1440 rfl (lv_at hl 1 rfl) ?_
  refine lv_aload_n hx hb dL_law_1441 rfl (lv_at hl 0 rfl) ?_
  refine lv_iload hx hb dL_law_1442 (lv_at hl 4 rfl) ?_
  refine lv_iconst (v := 1) hx hb dL_law_1444 (by decide) ?_
  refine lv_iadd hx hb dL_law_1445 ?_
  refine lv_topi (fun x21 ex21 => ?_)
  obtain rfl : nI (n + 1) = x21 := (ex21.trans (nI_add n 1)).symm
  refine va_sld hx hb hX hbl hbA hS (i := (nI (n + 1))) (vin_t (a := ((n + 1 : Nat) : Int)) (nI_toInt (by omega)) (by omega) (by omega)) dL_law_1446 ?_
  refine lv_topi (fun x22 ex22 => ?_)
  refine lv_aload_n hx hb dL_law_1447 rfl (lv_at hl 3 rfl) ?_
  have hFc := hPA
  refine va_calli (vx_runSW (As := [.ref x, .int x22, .ref ou]) (rest := []) ⟨hx, hb, hml, hown, hts⟩ (k_mayBuild l hlt dC dI kA adK adV Pr H x ou x22  hPr hC) (vx_cwSW 3 hts (goodIn_app (goodIn_r _ [54, 55, 56] rfl (by decide +kernel)) (goodIn_ca (goodIn_r _ [1, 2, 3, 4, 5, 6, 7, 8, 9, 10, 11, 12, 13, 14, 15, 16, 17, 18, 19, 20, 21, 22, 23, 24, 25, 26, 27, 28, 29, 30, 31, 32, 33, 34, 35, 36, 37, 38, 39, 40, 41, 42, 43, 44, 45, 46, 47, 48, 49, 50, 51, 52, 53] rfl (by decide +kernel)) (bs2_in _ _))) rfl rfl rfl (by decide +kernel) ⟨(Nat.le_of_ble_eq_true rfl), (Nat.le_of_ble_eq_true rfl)⟩) ⟨fun a U g mk q => by obtain ⟨q0, q1, qK, qE, qN, qA⟩ := q; exact ⟨q0, q1, va_K.moved (u := U) (U := U.calling g mk a) (Vm.Alike.refl U.vm) qK, EVC.blind g mk a qE, NC.blind g mk a qN, AO.blind g mk a qA⟩, fun U hU hW => ⟨rfl, hU, va_K.moved hW.alike hK, hE.call hS hFc hU hW, hN.call hW, hAO.call hW⟩⟩ rfl rfl hl.1 rfl (lv_room (Nat.le_of_ble_eq_true rfl)) dL_law_1448 ⟨show cells + 1 ≤ 603072 from by omega, show slots + 6 ≤ 7262314 from by omega⟩) hS (fun q _ h => hFc q h) hFc (fun r23 u t H locs ht hvm hw hB hz1 hk1 hS => ?_)
  (try dsimp only at hB); rw [ht] at hB
  have hR := hR.kept (fun a t h => hk1 a (hPr a (hGP a t h)) (fun h9 => h9 (hGP a t h)))
  have hC := hB
  have hPr : ∀ a, Pr a → a < H.size := fun a h => Nat.lt_of_lt_of_le (hPr a h) hz1
  refine lv_istore (lv' := [(5, .int r23), (0, .ref b), (1, .ref x), (2, .ref h0), (3, .ref ou), (4, .int (nI n))]) hx hb dL_law_1451 hl (by decide) rfl (fun ls hl => ?_)
  refine lv_aload_n hx hb dL_law_1453 rfl (lv_at hl 3 rfl) ?_
  refine lv_aload_n hx hb dL_law_1454 rfl (lv_at hl 1 rfl) ?_
  refine lv_iload hx hb dL_law_1455 (lv_at hl 5 rfl) ?_
  refine lv_iconst (v := 1) hx hb dL_law_1457 (by decide) ?_
  refine lv_iadd hx hb dL_law_1458 ?_
  refine lv_topi (fun x24 ex24 => ?_)
  obtain rfl : nI (n + 1) = x24 := (ex24.trans (nI_add n 1)).symm
  refine va_sld hx hb hX hbl hbA hS (i := (nI (n + 1))) (vin_t (a := ((n + 1 : Nat) : Int)) (nI_toInt (by omega)) (by omega) (by omega)) dL_law_1459 ?_
  refine lv_topi (fun x25 ex25 => ?_)
  obtain rfl : x22 = x25 := by rw [ex25, ex22] <;> exact congrArg xs (tn_same (i := (nI (n + 1))) (j := (nI (n + 1))) (show (nI (n + 1)).toInt = ((n + 1 : Nat) : Int) from (nI_toInt (by omega))) (show (nI (n + 1)).toInt = ((n + 1 : Nat) : Int) from (nI_toInt (by omega))) (by omega))
  have hFc := gA_m hPr hGP hGA hA hS
  refine va_calli (va_runV (As := [.int x22]) (rest := []) ⟨hx, hb, hml, hown, hts⟩ (r_mayBuild l dC dI kA adK adV Gm H h0 x22  hR) (cwV 1 hts (goodIn_app (goodIn_r _ [97, 98, 99, 63] rfl (by decide +kernel)) (goodIn_ca (goodIn_r _ [57, 58, 59, 60, 61, 62, 63, 64, 65, 66, 67, 68, 69, 70, 71, 72, 73, 74, 75, 76, 77, 78, 79, 80, 81, 82, 83, 84, 85, 86, 87, 88, 89, 90, 91, 26, 27, 28, 92, 93, 94, 95, 96] rfl (by decide +kernel)) (bs_in2 _ _))) rfl rfl rfl (by decide +kernel) ⟨(Nat.le_of_ble_eq_true rfl), (Nat.le_of_ble_eq_true rfl)⟩) ⟨fun a U g mk q => by obtain ⟨q0, q1, qK, qE⟩ := q; exact ⟨q0, q1, va_K.moved (u := U) (U := U.calling g mk a) (Vm.Alike.refl U.vm) qK, EVS.blind g mk a qE⟩, RI.recv hK hR.ri, fun U hU hW => ⟨rfl, hU, va_K.moved hW.alike hK, hE.1.call hS hFc hU hW⟩⟩ rfl rfl hl.1 rfl (lv_room (Nat.le_of_ble_eq_true rfl)) dL_law_1460 ⟨show cells + 1 + 0 ≤ 603072 from by omega, show slots + 6 + 0 ≤ 7262314 from by omega⟩) hS (fun q _ h => hFc q h) hFc (fun r26 u t H locs ht hvm hw hB hz1 hk1 hS => ?_)
  (try dsimp only at hB); rw [ht] at hB
  have hC := hC.kept (fun a h1 h2 => hk1 a h1 (gA_mn hGP h1 h2))
  have hR := hB
  have hPr : ∀ a, Pr a → a < H.size := fun a h => Nat.lt_of_lt_of_le (hPr a h) hz1
  refine lv_istore (lv' := [(6, .int r26), (5, .int r23), (0, .ref b), (1, .ref x), (2, .ref h0), (3, .ref ou), (4, .int (nI n))]) hx hb dL_law_1463 hl (by decide) rfl (fun ls hl => ?_)
  refine lv_goto (tgt := 2491) hx hb dL_law_1465 (by decide) ?_
  exact W.widen (k := cells + 1170) (n := slots + 14100) (by omega) (by omega) (kk g H _ ls hC hR hPr hS (lv_sub hl [2, 3, 4, 5, 6] rfl))
def w_law_28 : List Cond := .initialized RL :: (HAppend.hAppend (α := List Cond) (β := List Cond) (γ := List Cond) [.codeWith yL_settler cL_settler 10 (some .int) [(0, 20, 23, 15), (0, 20, 27, 45)], .code yX11_settler cX11_settler 8 (some .int), .code yX11_within cX11_within 3 (some .boolean), .methodLink RX11 58 yX11_within, .static yX11_within, .initialized RX11, .code yX11_needNumbers cX11_needNumbers 1 none, .classLink RX11 547 "java/lang/IllegalArgumentException", .initialized "java/lang/IllegalArgumentException", .methodLink RX11 62 yX11_needNumbers, .static yX11_needNumbers, .constant RX11 96 100000, .constant RX11 341 999999, .fieldLink RX11 30 "SeaLand" "board" "LSeaLand$Board;", .classLink RX11 350 RX7, .instantiable RX7 12, .initialized RX7, .code yX7_init cX7_init 8 none, .methodLink RX7 3 objectInit, .instanceMethod objectInit, .code objectInit ⟨#[0xb1]⟩ 1 none, .fieldLink RX7 9 "SeaLand$Settler" "farm" "I", .fieldLink RX7 15 "SeaLand$Settler" "age" "I", .fieldLink RX7 18 "SeaLand$Settler" "sons" "I", .fieldLink RX7 21 "SeaLand$Settler" "coin" "I", .fieldLink RX7 24 "SeaLand$Settler" "cattle" "I", .fieldLink RX7 27 "SeaLand$Settler" "kin" "Z", .fieldLink RX7 31 "SeaLand$Settler" "board" "Z", .fieldLink RX7 34 "SeaLand$Settler" "drawn" "I", .methodLink RX11 352 yX7_init, .instanceMethod yX7_init, .code yX0_settle cX0_settle 2 (some .int), .fieldLink RX0 11 "SeaLand$Board" "settlers" "[LSeaLand$Settler;", .fieldLink RX0 75 "SeaLand$Board" "settled" "I", .methodLink RX11 355 yX0_settle, .instanceMethod yX0_settle, .selects RX0 yX0_settle yX0_settle, .initialized RX0, .classLink RX11 345 "java/lang/UnsupportedOperationException", .initialized "java/lang/UnsupportedOperationException", .methodLink RL 110 yX11_settler, .instanceMethod yX11_settler, .selects RX11 yX11_settler yX11_settler, .classLink RL 15 "java/lang/IllegalArgumentException", .classLink RL 45 "java/lang/UnsupportedOperationException", .methodLink RL 272 yL_settler, .static yL_settler, .initialized RL, .code yX12_settler cX12_settler 9 (some .int), .fieldLink RX12 194 "SeaLandModel" "thrown" "I", .code yX12_in cX12_in 3 (some .boolean), .methodLink RX12 197 yX12_in, .static yX12_in, .initialized RX12, .code yX12_throwsIf cX12_throwsIf 3 (some .boolean), .methodLink RX12 224 yX12_throwsIf, .instanceMethod yX12_throwsIf, .selects RX12 yX12_throwsIf yX12_throwsIf, .constant RX12 241 100000, .constant RX12 501 999999, .fieldLink RX12 495 "SeaLandModel" "settlers" "I", .fieldLink RX12 79 "SeaLandModel" "age" "[I", .fieldLink RX12 82 "SeaLandModel" "sons" "[I", .fieldLink RX12 85 "SeaLandModel" "coin" "[I", .fieldLink RX12 88 "SeaLandModel" "cattle" "[I", .fieldLink RX12 91 "SeaLandModel" "isKin" "[Z", .fieldLink RX12 95 "SeaLandModel" "isBoard" "[Z", .fieldLink RX12 98 "SeaLandModel" "drawn" "[I", .fieldLink RX12 101 "SeaLandModel" "holds" "[I", .methodLink RL 275 yX12_settler, .instanceMethod yX12_settler, .selects RX12 yX12_settler yX12_settler] bs2)
set_option maxHeartbeats 4000000 in
set_option maxRecDepth 100000 in
theorem law_28 {p : Program} {e : Env} {s : State} {m : MethodId} {below : List Frame} {meth : Method} {c : Code} {Q : State → Prop} (l : Launch) (hlt : l.stackTraces = false) {b L : Nat} {xs : Nat → Int32} {A : Nat → Prop} (hx : p.tables.exec = Jvm.exec) (hb : c.code = code) (hml : c.maxLocals = 7) (hown : s.vm.findClass RL = some m.cls) (hts : ∀ w ∈ w_law_28, w.before #[Value.ref b] s = true) (hX : va_X b L xs s s.heap) (hbl : b < s.heap.size) (hbA : ¬ A b) (hL : L ≤ 4096) {adK adV : Nat → Nat} (hE : EVC adK adV A s s.heap) (hN : NC s) (hAO : AO s) (hA : ∀ q : Nat, s.heap.size ≤ q → A q) {dC : Nat → ClassId} {dI : Nat → Nat → Nat} {kA : Nat → ClassId} (hK : va_K (dC, dI) vwCl (tyl kA) s) {Pr : Nat → Prop} {Gm : gT} {x h0 ou : Nat} (hPA : ∀ q, ¬ Pr q → A q) (hGP : ∀ a t, Gm a = some t → Pr a) (hGA : ∀ a t, Gm a = some t → A a) (n : Nat) (hn : n + 8 ≤ L) (H : Heap) (locs : List Loc) (cells slots : Nat) (hcl : cells + 1170 ≤ 603072) (hsl : slots + 14100 ≤ 7262314) (g : gz) (hC : CJ dC dI kA Pr g x ou H) (hR : RJ dC dI kA g h0 Gm H) (hPr : ∀ a, Pr a → a < H.size) (hS : va_S A s.heap H locs) (ls : Array Slot) (hl : lv_has ls 7 [(0, .ref b), (1, .ref x), (2, .ref h0), (3, .ref ou), (4, .int (nI n))]) (kk : ∀ (g : gz) (H : Heap) (locs : List Loc) (ls : Array Slot), CJ dC dI kA Pr g x ou H → RJ dC dI kA g h0 Gm H → (∀ a, Pr a → a < H.size) → va_S A s.heap H locs → lv_has ls 7 [(0, .ref b), (1, .ref x), (2, .ref h0), (3, .ref ou), (4, .int (nI n))] → W p l e room_1 s m #[Value.ref b] below meth c H locs (cells + 1170) (slots + 14100) Q (F0 m 2491 ls [])) : W p l e room_1 s m #[Value.ref b] below meth c H locs cells slots Q (F0 m 1468 ls []) := by
  refine lv_aload_n hx hb dL_law_1468 rfl (lv_at hl 1 rfl) ?_
  refine lv_aload_n hx hb dL_law_1469 rfl (lv_at hl 0 rfl) ?_
  refine lv_iload hx hb dL_law_1470 (lv_at hl 4 rfl) ?_
  refine lv_iconst (v := 1) hx hb dL_law_1472 (by decide) ?_
  refine lv_iadd hx hb dL_law_1473 ?_
  refine lv_topi (fun x21 ex21 => ?_)
  obtain rfl : nI (n + 1) = x21 := (ex21.trans (nI_add n 1)).symm
  refine va_sld hx hb hX hbl hbA hS (i := (nI (n + 1))) (vin_t (a := ((n + 1 : Nat) : Int)) (nI_toInt (by omega)) (by omega) (by omega)) dL_law_1474 ?_
  refine lv_topi (fun x22 ex22 => ?_)
  refine lv_aload_n hx hb dL_law_1475 rfl (lv_at hl 0 rfl) ?_
  refine lv_iload hx hb dL_law_1476 (lv_at hl 4 rfl) ?_
  refine lv_iconst (v := 2) hx hb dL_law_1478 (by decide) ?_
  refine lv_iadd hx hb dL_law_1479 ?_
  refine lv_topi (fun x23 ex23 => ?_)
  obtain rfl : nI (n + 2) = x23 := (ex23.trans (nI_add n 2)).symm
  refine va_sld hx hb hX hbl hbA hS (i := (nI (n + 2))) (vin_t (a := ((n + 2 : Nat) : Int)) (nI_toInt (by omega)) (by omega) (by omega)) dL_law_1480 ?_
  refine lv_topi (fun x24 ex24 => ?_)
  refine lv_aload_n hx hb dL_law_1481 rfl (lv_at hl 0 rfl) ?_
  refine lv_iload hx hb dL_law_1482 (lv_at hl 4 rfl) ?_
  refine lv_iconst (v := 3) hx hb dL_law_1484 (by decide) ?_
  refine lv_iadd hx hb dL_law_1485 ?_
  refine lv_topi (fun x25 ex25 => ?_)
  obtain rfl : nI (n + 3) = x25 := (ex25.trans (nI_add n 3)).symm
  refine va_sld hx hb hX hbl hbA hS (i := (nI (n + 3))) (vin_t (a := ((n + 3 : Nat) : Int)) (nI_toInt (by omega)) (by omega) (by omega)) dL_law_1486 ?_
  refine lv_topi (fun x26 ex26 => ?_)
  refine lv_aload_n hx hb dL_law_1487 rfl (lv_at hl 0 rfl) ?_
  refine lv_iload hx hb dL_law_1488 (lv_at hl 4 rfl) ?_
  refine lv_iconst (v := 4) hx hb dL_law_1490 (by decide) ?_
  refine lv_iadd hx hb dL_law_1491 ?_
  refine lv_topi (fun x27 ex27 => ?_)
  obtain rfl : nI (n + 4) = x27 := (ex27.trans (nI_add n 4)).symm
  refine va_sld hx hb hX hbl hbA hS (i := (nI (n + 4))) (vin_t (a := ((n + 4 : Nat) : Int)) (nI_toInt (by omega)) (by omega) (by omega)) dL_law_1492 ?_
  refine lv_topi (fun x28 ex28 => ?_)
  refine lv_aload_n hx hb dL_law_1493 rfl (lv_at hl 0 rfl) ?_
  refine lv_iload hx hb dL_law_1494 (lv_at hl 4 rfl) ?_
  refine lv_iconst (v := 5) hx hb dL_law_1496 (by decide) ?_
  refine lv_iadd hx hb dL_law_1497 ?_
  refine lv_topi (fun x29 ex29 => ?_)
  obtain rfl : nI (n + 5) = x29 := (ex29.trans (nI_add n 5)).symm
  refine va_sld hx hb hX hbl hbA hS (i := (nI (n + 5))) (vin_t (a := ((n + 5 : Nat) : Int)) (nI_toInt (by omega)) (by omega) (by omega)) dL_law_1498 ?_
  refine lv_topi (fun x30 ex30 => ?_)
  have t31 : -2147483648 ≤ x30.toInt ∧ x30.toInt ≤ 2147483647 := ti_all x30
  refine lv_if_eq (tgt := 1506) hx hb dL_law_1499 (by decide) (fun c32 => ?_) (fun c32 => ?_)
  · have t33 : x30.toInt = 0 := ti_eq c32 rfl (by decide)
    refine lv_iconst (v := 0) hx hb dL_law_1506 (by decide) ?_
    refine lv_aload_n hx hb dL_law_1507 rfl (lv_at hl 0 rfl) ?_
    refine lv_iload hx hb dL_law_1508 (lv_at hl 4 rfl) ?_
    refine lv_bipush (v := 6) hx hb dL_law_1510 (by decide) ?_
    refine lv_iadd hx hb dL_law_1512 ?_
    refine lv_topi (fun x34 ex34 => ?_)
    obtain rfl : nI (n + 6) = x34 := (ex34.trans (nI_add n 6)).symm
    refine va_sld hx hb hX hbl hbA hS (i := (nI (n + 6))) (vin_t (a := ((n + 6 : Nat) : Int)) (nI_toInt (by omega)) (by omega) (by omega)) dL_law_1513 ?_
    refine lv_topi (fun x35 ex35 => ?_)
    have t36 : -2147483648 ≤ x35.toInt ∧ x35.toInt ≤ 2147483647 := ti_all x35
    refine lv_if_eq (tgt := 1521) hx hb dL_law_1514 (by decide) (fun c37 => ?_) (fun c37 => ?_)
    · have t38 : x35.toInt = 0 := ti_eq c37 rfl (by decide)
      refine lv_iconst (v := 0) hx hb dL_law_1521 (by decide) ?_
      refine lv_aload_n hx hb dL_law_1522 rfl (lv_at hl 0 rfl) ?_
      refine lv_iload hx hb dL_law_1523 (lv_at hl 4 rfl) ?_
      refine lv_bipush (v := 7) hx hb dL_law_1525 (by decide) ?_
      refine lv_iadd hx hb dL_law_1527 ?_
      refine lv_topi (fun x39 ex39 => ?_)
      obtain rfl : nI (n + 7) = x39 := (ex39.trans (nI_add n 7)).symm
      refine va_sld hx hb hX hbl hbA hS (i := (nI (n + 7))) (vin_t (a := ((n + 7 : Nat) : Int)) (nI_toInt (by omega)) (by omega) (by omega)) dL_law_1528 ?_
      refine lv_topi (fun x40 ex40 => ?_)
      refine lv_aload_n hx hb dL_law_1529 rfl (lv_at hl 3 rfl) ?_
      have hFc := hPA
      refine va_calli (vx_runSW (As := [.ref x, .int x22, .int x24, .int x26, .int x28, .int 0, .int 0, .int x40, .ref ou]) (rest := []) ⟨hx, hb, hml, hown, hts⟩ (k_settler l hlt dC dI kA adK adV Pr H x ou x22 x24 x26 x28 0 0 x40 (by decide) (by decide) hPr hC) (vx_cwSW 9 hts (goodIn_app (goodIn_r _ [46, 47, 48] rfl (by decide +kernel)) (goodIn_ca (goodIn_r _ [1, 2, 3, 4, 5, 6, 7, 8, 9, 10, 11, 12, 13, 14, 15, 16, 17, 18, 19, 20, 21, 22, 23, 24, 25, 26, 27, 28, 29, 30, 31, 32, 33, 34, 35, 36, 37, 38, 39, 40, 41, 42, 43, 44, 45] rfl (by decide +kernel)) (bs2_in _ _))) rfl rfl rfl (by decide +kernel) ⟨(Nat.le_of_ble_eq_true rfl), (Nat.le_of_ble_eq_true rfl)⟩) ⟨fun a U g mk q => by obtain ⟨q0, q1, qK, qE, qN, qA⟩ := q; exact ⟨q0, q1, va_K.moved (u := U) (U := U.calling g mk a) (Vm.Alike.refl U.vm) qK, EVC.blind g mk a qE, NC.blind g mk a qN, AO.blind g mk a qA⟩, fun U hU hW => ⟨rfl, hU, va_K.moved hW.alike hK, hE.call hS hFc hU hW, hN.call hW, hAO.call hW⟩⟩ rfl rfl hl.1 rfl (lv_room (Nat.le_of_ble_eq_true rfl)) dL_law_1530 ⟨show cells + 1 ≤ 603072 from by omega, show slots + 12 ≤ 7262314 from by omega⟩) hS (fun q _ h => hFc q h) hFc (fun r41 u t H locs ht hvm hw hB hz1 hk1 hS => ?_)
      (try dsimp only at hB); rw [ht] at hB
      have hR := hR.kept (fun a t h => hk1 a (hPr a (hGP a t h)) (fun h9 => h9 (hGP a t h)))
      have hC := hB
      have hPr : ∀ a, Pr a → a < H.size := fun a h => Nat.lt_of_lt_of_le (hPr a h) hz1
      refine lv_istore (lv' := [(5, .int r41), (0, .ref b), (1, .ref x), (2, .ref h0), (3, .ref ou), (4, .int (nI n))]) hx hb dL_law_1533 hl (by decide) rfl (fun ls hl => ?_)
      refine lv_aload_n hx hb dL_law_1535 rfl (lv_at hl 3 rfl) ?_
      refine lv_aload_n hx hb dL_law_1536 rfl (lv_at hl 1 rfl) ?_
      refine lv_iload hx hb dL_law_1537 (lv_at hl 5 rfl) ?_
      refine lv_iconst (v := 1) hx hb dL_law_1539 (by decide) ?_
      refine lv_iadd hx hb dL_law_1540 ?_
      refine lv_topi (fun x42 ex42 => ?_)
      obtain rfl : nI (n + 1) = x42 := (ex42.trans (nI_add n 1)).symm
      refine va_sld hx hb hX hbl hbA hS (i := (nI (n + 1))) (vin_t (a := ((n + 1 : Nat) : Int)) (nI_toInt (by omega)) (by omega) (by omega)) dL_law_1541 ?_
      refine lv_topi (fun x43 ex43 => ?_)
      obtain rfl : x22 = x43 := by rw [ex43, ex22] <;> exact congrArg xs (tn_same (i := (nI (n + 1))) (j := (nI (n + 1))) (show (nI (n + 1)).toInt = ((n + 1 : Nat) : Int) from (nI_toInt (by omega))) (show (nI (n + 1)).toInt = ((n + 1 : Nat) : Int) from (nI_toInt (by omega))) (by omega))
      refine lv_aload_n hx hb dL_law_1542 rfl (lv_at hl 1 rfl) ?_
      refine lv_iload hx hb dL_law_1543 (lv_at hl 5 rfl) ?_
      refine lv_iconst (v := 2) hx hb dL_law_1545 (by decide) ?_
      refine lv_iadd hx hb dL_law_1546 ?_
      refine lv_topi (fun x44 ex44 => ?_)
      obtain rfl : nI (n + 2) = x44 := (ex44.trans (nI_add n 2)).symm
      refine va_sld hx hb hX hbl hbA hS (i := (nI (n + 2))) (vin_t (a := ((n + 2 : Nat) : Int)) (nI_toInt (by omega)) (by omega) (by omega)) dL_law_1547 ?_
      refine lv_topi (fun x45 ex45 => ?_)
      obtain rfl : x24 = x45 := by rw [ex45, ex24] <;> exact congrArg xs (tn_same (i := (nI (n + 2))) (j := (nI (n + 2))) (show (nI (n + 2)).toInt = ((n + 2 : Nat) : Int) from (nI_toInt (by omega))) (show (nI (n + 2)).toInt = ((n + 2 : Nat) : Int) from (nI_toInt (by omega))) (by omega))
      refine lv_aload_n hx hb dL_law_1548 rfl (lv_at hl 1 rfl) ?_
      refine lv_iload hx hb dL_law_1549 (lv_at hl 5 rfl) ?_
      refine lv_iconst (v := 3) hx hb dL_law_1551 (by decide) ?_
      refine lv_iadd hx hb dL_law_1552 ?_
      refine lv_topi (fun x46 ex46 => ?_)
      obtain rfl : nI (n + 3) = x46 := (ex46.trans (nI_add n 3)).symm
      refine va_sld hx hb hX hbl hbA hS (i := (nI (n + 3))) (vin_t (a := ((n + 3 : Nat) : Int)) (nI_toInt (by omega)) (by omega) (by omega)) dL_law_1553 ?_
      refine lv_topi (fun x47 ex47 => ?_)
      obtain rfl : x26 = x47 := by rw [ex47, ex26] <;> exact congrArg xs (tn_same (i := (nI (n + 3))) (j := (nI (n + 3))) (show (nI (n + 3)).toInt = ((n + 3 : Nat) : Int) from (nI_toInt (by omega))) (show (nI (n + 3)).toInt = ((n + 3 : Nat) : Int) from (nI_toInt (by omega))) (by omega))
      refine lv_aload_n hx hb dL_law_1554 rfl (lv_at hl 1 rfl) ?_
      refine lv_iload hx hb dL_law_1555 (lv_at hl 5 rfl) ?_
      refine lv_iconst (v := 4) hx hb dL_law_1557 (by decide) ?_
      refine lv_iadd hx hb dL_law_1558 ?_
      refine lv_topi (fun x48 ex48 => ?_)
      obtain rfl : nI (n + 4) = x48 := (ex48.trans (nI_add n 4)).symm
      refine va_sld hx hb hX hbl hbA hS (i := (nI (n + 4))) (vin_t (a := ((n + 4 : Nat) : Int)) (nI_toInt (by omega)) (by omega) (by omega)) dL_law_1559 ?_
      refine lv_topi (fun x49 ex49 => ?_)
      obtain rfl : x28 = x49 := by rw [ex49, ex28] <;> exact congrArg xs (tn_same (i := (nI (n + 4))) (j := (nI (n + 4))) (show (nI (n + 4)).toInt = ((n + 4 : Nat) : Int) from (nI_toInt (by omega))) (show (nI (n + 4)).toInt = ((n + 4 : Nat) : Int) from (nI_toInt (by omega))) (by omega))
      refine lv_aload_n hx hb dL_law_1560 rfl (lv_at hl 1 rfl) ?_
      refine lv_iload hx hb dL_law_1561 (lv_at hl 5 rfl) ?_
      refine lv_iconst (v := 5) hx hb dL_law_1563 (by decide) ?_
      refine lv_iadd hx hb dL_law_1564 ?_
      refine lv_topi (fun x50 ex50 => ?_)
      obtain rfl : nI (n + 5) = x50 := (ex50.trans (nI_add n 5)).symm
      refine va_sld hx hb hX hbl hbA hS (i := (nI (n + 5))) (vin_t (a := ((n + 5 : Nat) : Int)) (nI_toInt (by omega)) (by omega) (by omega)) dL_law_1565 ?_
      refine lv_topi (fun x51 ex51 => ?_)
      obtain rfl : x30 = x51 := by rw [ex51, ex30] <;> exact congrArg xs (tn_same (i := (nI (n + 5))) (j := (nI (n + 5))) (show (nI (n + 5)).toInt = ((n + 5 : Nat) : Int) from (nI_toInt (by omega))) (show (nI (n + 5)).toInt = ((n + 5 : Nat) : Int) from (nI_toInt (by omega))) (by omega))
      refine lv_if_eq (tgt := 1573) hx hb dL_law_1566 (by decide) (fun c52 => ?_) (fun c52 => (by exfalso; have q9 : x30.toInt ≠ 0 := ti_ne c52 rfl (by decide); omega))
      have t53 : x30.toInt = 0 := ti_eq c52 rfl (by decide)
      refine lv_iconst (v := 0) hx hb dL_law_1573 (by decide) ?_
      refine lv_aload_n hx hb dL_law_1574 rfl (lv_at hl 1 rfl) ?_
      refine lv_iload hx hb dL_law_1575 (lv_at hl 5 rfl) ?_
      refine lv_bipush (v := 6) hx hb dL_law_1577 (by decide) ?_
      refine lv_iadd hx hb dL_law_1579 ?_
      refine lv_topi (fun x54 ex54 => ?_)
      obtain rfl : nI (n + 6) = x54 := (ex54.trans (nI_add n 6)).symm
      refine va_sld hx hb hX hbl hbA hS (i := (nI (n + 6))) (vin_t (a := ((n + 6 : Nat) : Int)) (nI_toInt (by omega)) (by omega) (by omega)) dL_law_1580 ?_
      refine lv_topi (fun x55 ex55 => ?_)
      obtain rfl : x35 = x55 := by rw [ex55, ex35] <;> exact congrArg xs (tn_same (i := (nI (n + 6))) (j := (nI (n + 6))) (show (nI (n + 6)).toInt = ((n + 6 : Nat) : Int) from (nI_toInt (by omega))) (show (nI (n + 6)).toInt = ((n + 6 : Nat) : Int) from (nI_toInt (by omega))) (by omega))
      refine lv_if_eq (tgt := 1588) hx hb dL_law_1581 (by decide) (fun c56 => ?_) (fun c56 => (by exfalso; have q9 : x35.toInt ≠ 0 := ti_ne c56 rfl (by decide); omega))
      have t57 : x35.toInt = 0 := ti_eq c56 rfl (by decide)
      refine lv_iconst (v := 0) hx hb dL_law_1588 (by decide) ?_
      refine lv_aload_n hx hb dL_law_1589 rfl (lv_at hl 1 rfl) ?_
      refine lv_iload hx hb dL_law_1590 (lv_at hl 5 rfl) ?_
      refine lv_bipush (v := 7) hx hb dL_law_1592 (by decide) ?_
      refine lv_iadd hx hb dL_law_1594 ?_
      refine lv_topi (fun x58 ex58 => ?_)
      obtain rfl : nI (n + 7) = x58 := (ex58.trans (nI_add n 7)).symm
      refine va_sld hx hb hX hbl hbA hS (i := (nI (n + 7))) (vin_t (a := ((n + 7 : Nat) : Int)) (nI_toInt (by omega)) (by omega) (by omega)) dL_law_1595 ?_
      refine lv_topi (fun x59 ex59 => ?_)
      obtain rfl : x40 = x59 := by rw [ex59, ex40] <;> exact congrArg xs (tn_same (i := (nI (n + 7))) (j := (nI (n + 7))) (show (nI (n + 7)).toInt = ((n + 7 : Nat) : Int) from (nI_toInt (by omega))) (show (nI (n + 7)).toInt = ((n + 7 : Nat) : Int) from (nI_toInt (by omega))) (by omega))
      have hFc := gA_m hPr hGP hGA hA hS
      refine va_calli (va_runV (As := [.int x22, .int x24, .int x26, .int x28, .int 0, .int 0, .int x40]) (rest := []) ⟨hx, hb, hml, hown, hts⟩ (r_settler l dC dI kA adK adV Gm H h0 x22 x24 x26 x28 0 0 x40 (by decide) (by decide) hR) (cwV 7 hts (goodIn_app (goodIn_r _ [70, 71, 72, 54] rfl (by decide +kernel)) (goodIn_ca (goodIn_r _ [49, 50, 51, 52, 53, 54, 55, 56, 57, 58, 59, 60, 61, 62, 63, 64, 65, 66, 67, 68, 69] rfl (by decide +kernel)) (bs_in2 _ _))) rfl rfl rfl (by decide +kernel) ⟨(Nat.le_of_ble_eq_true rfl), (Nat.le_of_ble_eq_true rfl)⟩) ⟨fun a U g mk q => by obtain ⟨q0, q1, qK, qE⟩ := q; exact ⟨q0, q1, va_K.moved (u := U) (U := U.calling g mk a) (Vm.Alike.refl U.vm) qK, EVS.blind g mk a qE⟩, RI.recv hK hR.ri, fun U hU hW => ⟨rfl, hU, va_K.moved hW.alike hK, hE.1.call hS hFc hU hW⟩⟩ rfl rfl hl.1 rfl (lv_room (Nat.le_of_ble_eq_true rfl)) dL_law_1596 ⟨show cells + 1 + 0 ≤ 603072 from by omega, show slots + 12 + 0 ≤ 7262314 from by omega⟩) hS (fun q _ h => hFc q h) hFc (fun r60 u t H locs ht hvm hw hB hz1 hk1 hS => ?_)
      (try dsimp only at hB); rw [ht] at hB
      have hC := hC.kept (fun a h1 h2 => hk1 a h1 (gA_mn hGP h1 h2))
      have hR := hB
      have hPr : ∀ a, Pr a → a < H.size := fun a h => Nat.lt_of_lt_of_le (hPr a h) hz1
      refine lv_istore (lv' := [(6, .int r60), (5, .int r41), (0, .ref b), (1, .ref x), (2, .ref h0), (3, .ref ou), (4, .int (nI n))]) hx hb dL_law_1599 hl (by decide) rfl (fun ls hl => ?_)
      refine lv_goto (tgt := 2491) hx hb dL_law_1601 (by decide) ?_
      exact W.widen (k := cells + 1170) (n := slots + 14100) (by omega) (by omega) (kk g H _ ls hC hR hPr hS (lv_sub hl [2, 3, 4, 5, 6] rfl))
    · have t61 : x35.toInt ≠ 0 := ti_ne c37 rfl (by decide)
      refine lv_iconst (v := 1) hx hb dL_law_1517 (by decide) ?_
      refine lv_goto (tgt := 1522) hx hb dL_law_1518 (by decide) ?_
      refine lv_aload_n hx hb dL_law_1522 rfl (lv_at hl 0 rfl) ?_
      refine lv_iload hx hb dL_law_1523 (lv_at hl 4 rfl) ?_
      refine lv_bipush (v := 7) hx hb dL_law_1525 (by decide) ?_
      refine lv_iadd hx hb dL_law_1527 ?_
      refine lv_topi (fun x62 ex62 => ?_)
      obtain rfl : nI (n + 7) = x62 := (ex62.trans (nI_add n 7)).symm
      refine va_sld hx hb hX hbl hbA hS (i := (nI (n + 7))) (vin_t (a := ((n + 7 : Nat) : Int)) (nI_toInt (by omega)) (by omega) (by omega)) dL_law_1528 ?_
      refine lv_topi (fun x63 ex63 => ?_)
      refine lv_aload_n hx hb dL_law_1529 rfl (lv_at hl 3 rfl) ?_
      have hFc := hPA
      refine va_calli (vx_runSW (As := [.ref x, .int x22, .int x24, .int x26, .int x28, .int 0, .int 1, .int x63, .ref ou]) (rest := []) ⟨hx, hb, hml, hown, hts⟩ (k_settler l hlt dC dI kA adK adV Pr H x ou x22 x24 x26 x28 0 1 x63 (by decide) (by decide) hPr hC) (vx_cwSW 9 hts (goodIn_app (goodIn_r _ [46, 47, 48] rfl (by decide +kernel)) (goodIn_ca (goodIn_r _ [1, 2, 3, 4, 5, 6, 7, 8, 9, 10, 11, 12, 13, 14, 15, 16, 17, 18, 19, 20, 21, 22, 23, 24, 25, 26, 27, 28, 29, 30, 31, 32, 33, 34, 35, 36, 37, 38, 39, 40, 41, 42, 43, 44, 45] rfl (by decide +kernel)) (bs2_in _ _))) rfl rfl rfl (by decide +kernel) ⟨(Nat.le_of_ble_eq_true rfl), (Nat.le_of_ble_eq_true rfl)⟩) ⟨fun a U g mk q => by obtain ⟨q0, q1, qK, qE, qN, qA⟩ := q; exact ⟨q0, q1, va_K.moved (u := U) (U := U.calling g mk a) (Vm.Alike.refl U.vm) qK, EVC.blind g mk a qE, NC.blind g mk a qN, AO.blind g mk a qA⟩, fun U hU hW => ⟨rfl, hU, va_K.moved hW.alike hK, hE.call hS hFc hU hW, hN.call hW, hAO.call hW⟩⟩ rfl rfl hl.1 rfl (lv_room (Nat.le_of_ble_eq_true rfl)) dL_law_1530 ⟨show cells + 1 ≤ 603072 from by omega, show slots + 12 ≤ 7262314 from by omega⟩) hS (fun q _ h => hFc q h) hFc (fun r64 u t H locs ht hvm hw hB hz1 hk1 hS => ?_)
      (try dsimp only at hB); rw [ht] at hB
      have hR := hR.kept (fun a t h => hk1 a (hPr a (hGP a t h)) (fun h9 => h9 (hGP a t h)))
      have hC := hB
      have hPr : ∀ a, Pr a → a < H.size := fun a h => Nat.lt_of_lt_of_le (hPr a h) hz1
      refine lv_istore (lv' := [(5, .int r64), (0, .ref b), (1, .ref x), (2, .ref h0), (3, .ref ou), (4, .int (nI n))]) hx hb dL_law_1533 hl (by decide) rfl (fun ls hl => ?_)
      refine lv_aload_n hx hb dL_law_1535 rfl (lv_at hl 3 rfl) ?_
      refine lv_aload_n hx hb dL_law_1536 rfl (lv_at hl 1 rfl) ?_
      refine lv_iload hx hb dL_law_1537 (lv_at hl 5 rfl) ?_
      refine lv_iconst (v := 1) hx hb dL_law_1539 (by decide) ?_
      refine lv_iadd hx hb dL_law_1540 ?_
      refine lv_topi (fun x65 ex65 => ?_)
      obtain rfl : nI (n + 1) = x65 := (ex65.trans (nI_add n 1)).symm
      refine va_sld hx hb hX hbl hbA hS (i := (nI (n + 1))) (vin_t (a := ((n + 1 : Nat) : Int)) (nI_toInt (by omega)) (by omega) (by omega)) dL_law_1541 ?_
      refine lv_topi (fun x66 ex66 => ?_)
      obtain rfl : x22 = x66 := by rw [ex66, ex22] <;> exact congrArg xs (tn_same (i := (nI (n + 1))) (j := (nI (n + 1))) (show (nI (n + 1)).toInt = ((n + 1 : Nat) : Int) from (nI_toInt (by omega))) (show (nI (n + 1)).toInt = ((n + 1 : Nat) : Int) from (nI_toInt (by omega))) (by omega))
      refine lv_aload_n hx hb dL_law_1542 rfl (lv_at hl 1 rfl) ?_
      refine lv_iload hx hb dL_law_1543 (lv_at hl 5 rfl) ?_
      refine lv_iconst (v := 2) hx hb dL_law_1545 (by decide) ?_
      refine lv_iadd hx hb dL_law_1546 ?_
      refine lv_topi (fun x67 ex67 => ?_)
      obtain rfl : nI (n + 2) = x67 := (ex67.trans (nI_add n 2)).symm
      refine va_sld hx hb hX hbl hbA hS (i := (nI (n + 2))) (vin_t (a := ((n + 2 : Nat) : Int)) (nI_toInt (by omega)) (by omega) (by omega)) dL_law_1547 ?_
      refine lv_topi (fun x68 ex68 => ?_)
      obtain rfl : x24 = x68 := by rw [ex68, ex24] <;> exact congrArg xs (tn_same (i := (nI (n + 2))) (j := (nI (n + 2))) (show (nI (n + 2)).toInt = ((n + 2 : Nat) : Int) from (nI_toInt (by omega))) (show (nI (n + 2)).toInt = ((n + 2 : Nat) : Int) from (nI_toInt (by omega))) (by omega))
      refine lv_aload_n hx hb dL_law_1548 rfl (lv_at hl 1 rfl) ?_
      refine lv_iload hx hb dL_law_1549 (lv_at hl 5 rfl) ?_
      refine lv_iconst (v := 3) hx hb dL_law_1551 (by decide) ?_
      refine lv_iadd hx hb dL_law_1552 ?_
      refine lv_topi (fun x69 ex69 => ?_)
      obtain rfl : nI (n + 3) = x69 := (ex69.trans (nI_add n 3)).symm
      refine va_sld hx hb hX hbl hbA hS (i := (nI (n + 3))) (vin_t (a := ((n + 3 : Nat) : Int)) (nI_toInt (by omega)) (by omega) (by omega)) dL_law_1553 ?_
      refine lv_topi (fun x70 ex70 => ?_)
      obtain rfl : x26 = x70 := by rw [ex70, ex26] <;> exact congrArg xs (tn_same (i := (nI (n + 3))) (j := (nI (n + 3))) (show (nI (n + 3)).toInt = ((n + 3 : Nat) : Int) from (nI_toInt (by omega))) (show (nI (n + 3)).toInt = ((n + 3 : Nat) : Int) from (nI_toInt (by omega))) (by omega))
      refine lv_aload_n hx hb dL_law_1554 rfl (lv_at hl 1 rfl) ?_
      refine lv_iload hx hb dL_law_1555 (lv_at hl 5 rfl) ?_
      refine lv_iconst (v := 4) hx hb dL_law_1557 (by decide) ?_
      refine lv_iadd hx hb dL_law_1558 ?_
      refine lv_topi (fun x71 ex71 => ?_)
      obtain rfl : nI (n + 4) = x71 := (ex71.trans (nI_add n 4)).symm
      refine va_sld hx hb hX hbl hbA hS (i := (nI (n + 4))) (vin_t (a := ((n + 4 : Nat) : Int)) (nI_toInt (by omega)) (by omega) (by omega)) dL_law_1559 ?_
      refine lv_topi (fun x72 ex72 => ?_)
      obtain rfl : x28 = x72 := by rw [ex72, ex28] <;> exact congrArg xs (tn_same (i := (nI (n + 4))) (j := (nI (n + 4))) (show (nI (n + 4)).toInt = ((n + 4 : Nat) : Int) from (nI_toInt (by omega))) (show (nI (n + 4)).toInt = ((n + 4 : Nat) : Int) from (nI_toInt (by omega))) (by omega))
      refine lv_aload_n hx hb dL_law_1560 rfl (lv_at hl 1 rfl) ?_
      refine lv_iload hx hb dL_law_1561 (lv_at hl 5 rfl) ?_
      refine lv_iconst (v := 5) hx hb dL_law_1563 (by decide) ?_
      refine lv_iadd hx hb dL_law_1564 ?_
      refine lv_topi (fun x73 ex73 => ?_)
      obtain rfl : nI (n + 5) = x73 := (ex73.trans (nI_add n 5)).symm
      refine va_sld hx hb hX hbl hbA hS (i := (nI (n + 5))) (vin_t (a := ((n + 5 : Nat) : Int)) (nI_toInt (by omega)) (by omega) (by omega)) dL_law_1565 ?_
      refine lv_topi (fun x74 ex74 => ?_)
      obtain rfl : x30 = x74 := by rw [ex74, ex30] <;> exact congrArg xs (tn_same (i := (nI (n + 5))) (j := (nI (n + 5))) (show (nI (n + 5)).toInt = ((n + 5 : Nat) : Int) from (nI_toInt (by omega))) (show (nI (n + 5)).toInt = ((n + 5 : Nat) : Int) from (nI_toInt (by omega))) (by omega))
      refine lv_if_eq (tgt := 1573) hx hb dL_law_1566 (by decide) (fun c75 => ?_) (fun c75 => (by exfalso; have q9 : x30.toInt ≠ 0 := ti_ne c75 rfl (by decide); omega))
      have t76 : x30.toInt = 0 := ti_eq c75 rfl (by decide)
      refine lv_iconst (v := 0) hx hb dL_law_1573 (by decide) ?_
      refine lv_aload_n hx hb dL_law_1574 rfl (lv_at hl 1 rfl) ?_
      refine lv_iload hx hb dL_law_1575 (lv_at hl 5 rfl) ?_
      refine lv_bipush (v := 6) hx hb dL_law_1577 (by decide) ?_
      refine lv_iadd hx hb dL_law_1579 ?_
      refine lv_topi (fun x77 ex77 => ?_)
      obtain rfl : nI (n + 6) = x77 := (ex77.trans (nI_add n 6)).symm
      refine va_sld hx hb hX hbl hbA hS (i := (nI (n + 6))) (vin_t (a := ((n + 6 : Nat) : Int)) (nI_toInt (by omega)) (by omega) (by omega)) dL_law_1580 ?_
      refine lv_topi (fun x78 ex78 => ?_)
      obtain rfl : x35 = x78 := by rw [ex78, ex35] <;> exact congrArg xs (tn_same (i := (nI (n + 6))) (j := (nI (n + 6))) (show (nI (n + 6)).toInt = ((n + 6 : Nat) : Int) from (nI_toInt (by omega))) (show (nI (n + 6)).toInt = ((n + 6 : Nat) : Int) from (nI_toInt (by omega))) (by omega))
      refine lv_if_eq (tgt := 1588) hx hb dL_law_1581 (by decide) (fun c79 => ?_) (fun c79 => ?_)
      · have t80 : x35.toInt = 0 := ti_eq c79 rfl (by decide)
        refine lv_iconst (v := 0) hx hb dL_law_1588 (by decide) ?_
        refine lv_aload_n hx hb dL_law_1589 rfl (lv_at hl 1 rfl) ?_
        refine lv_iload hx hb dL_law_1590 (lv_at hl 5 rfl) ?_
        refine lv_bipush (v := 7) hx hb dL_law_1592 (by decide) ?_
        refine lv_iadd hx hb dL_law_1594 ?_
        refine lv_topi (fun x81 ex81 => ?_)
        obtain rfl : nI (n + 7) = x81 := (ex81.trans (nI_add n 7)).symm
        refine va_sld hx hb hX hbl hbA hS (i := (nI (n + 7))) (vin_t (a := ((n + 7 : Nat) : Int)) (nI_toInt (by omega)) (by omega) (by omega)) dL_law_1595 ?_
        refine lv_topi (fun x82 ex82 => ?_)
        obtain rfl : x63 = x82 := by rw [ex82, ex63] <;> exact congrArg xs (tn_same (i := (nI (n + 7))) (j := (nI (n + 7))) (show (nI (n + 7)).toInt = ((n + 7 : Nat) : Int) from (nI_toInt (by omega))) (show (nI (n + 7)).toInt = ((n + 7 : Nat) : Int) from (nI_toInt (by omega))) (by omega))
        have hFc := gA_m hPr hGP hGA hA hS
        refine va_calli (va_runV (As := [.int x22, .int x24, .int x26, .int x28, .int 0, .int 0, .int x63]) (rest := []) ⟨hx, hb, hml, hown, hts⟩ (r_settler l dC dI kA adK adV Gm H h0 x22 x24 x26 x28 0 0 x63 (by decide) (by decide) hR) (cwV 7 hts (goodIn_app (goodIn_r _ [70, 71, 72, 54] rfl (by decide +kernel)) (goodIn_ca (goodIn_r _ [49, 50, 51, 52, 53, 54, 55, 56, 57, 58, 59, 60, 61, 62, 63, 64, 65, 66, 67, 68, 69] rfl (by decide +kernel)) (bs_in2 _ _))) rfl rfl rfl (by decide +kernel) ⟨(Nat.le_of_ble_eq_true rfl), (Nat.le_of_ble_eq_true rfl)⟩) ⟨fun a U g mk q => by obtain ⟨q0, q1, qK, qE⟩ := q; exact ⟨q0, q1, va_K.moved (u := U) (U := U.calling g mk a) (Vm.Alike.refl U.vm) qK, EVS.blind g mk a qE⟩, RI.recv hK hR.ri, fun U hU hW => ⟨rfl, hU, va_K.moved hW.alike hK, hE.1.call hS hFc hU hW⟩⟩ rfl rfl hl.1 rfl (lv_room (Nat.le_of_ble_eq_true rfl)) dL_law_1596 ⟨show cells + 1 + 0 ≤ 603072 from by omega, show slots + 12 + 0 ≤ 7262314 from by omega⟩) hS (fun q _ h => hFc q h) hFc (fun r83 u t H locs ht hvm hw hB hz1 hk1 hS => ?_)
        (try dsimp only at hB); rw [ht] at hB
        have hC := hC.kept (fun a h1 h2 => hk1 a h1 (gA_mn hGP h1 h2))
        have hR := hB
        have hPr : ∀ a, Pr a → a < H.size := fun a h => Nat.lt_of_lt_of_le (hPr a h) hz1
        refine lv_istore (lv' := [(6, .int r83), (5, .int r64), (0, .ref b), (1, .ref x), (2, .ref h0), (3, .ref ou), (4, .int (nI n))]) hx hb dL_law_1599 hl (by decide) rfl (fun ls hl => ?_)
        refine lv_goto (tgt := 2491) hx hb dL_law_1601 (by decide) ?_
        exact W.widen (k := cells + 1170) (n := slots + 14100) (by omega) (by omega) (kk g H _ ls hC hR hPr hS (lv_sub hl [2, 3, 4, 5, 6] rfl))
      · have t84 : x35.toInt ≠ 0 := ti_ne c79 rfl (by decide)
        refine lv_iconst (v := 1) hx hb dL_law_1584 (by decide) ?_
        refine lv_goto (tgt := 1589) hx hb dL_law_1585 (by decide) ?_
        refine lv_aload_n hx hb dL_law_1589 rfl (lv_at hl 1 rfl) ?_
        refine lv_iload hx hb dL_law_1590 (lv_at hl 5 rfl) ?_
        refine lv_bipush (v := 7) hx hb dL_law_1592 (by decide) ?_
        refine lv_iadd hx hb dL_law_1594 ?_
        refine lv_topi (fun x85 ex85 => ?_)
        obtain rfl : nI (n + 7) = x85 := (ex85.trans (nI_add n 7)).symm
        refine va_sld hx hb hX hbl hbA hS (i := (nI (n + 7))) (vin_t (a := ((n + 7 : Nat) : Int)) (nI_toInt (by omega)) (by omega) (by omega)) dL_law_1595 ?_
        refine lv_topi (fun x86 ex86 => ?_)
        obtain rfl : x63 = x86 := by rw [ex86, ex63] <;> exact congrArg xs (tn_same (i := (nI (n + 7))) (j := (nI (n + 7))) (show (nI (n + 7)).toInt = ((n + 7 : Nat) : Int) from (nI_toInt (by omega))) (show (nI (n + 7)).toInt = ((n + 7 : Nat) : Int) from (nI_toInt (by omega))) (by omega))
        have hFc := gA_m hPr hGP hGA hA hS
        refine va_calli (va_runV (As := [.int x22, .int x24, .int x26, .int x28, .int 0, .int 1, .int x63]) (rest := []) ⟨hx, hb, hml, hown, hts⟩ (r_settler l dC dI kA adK adV Gm H h0 x22 x24 x26 x28 0 1 x63 (by decide) (by decide) hR) (cwV 7 hts (goodIn_app (goodIn_r _ [70, 71, 72, 54] rfl (by decide +kernel)) (goodIn_ca (goodIn_r _ [49, 50, 51, 52, 53, 54, 55, 56, 57, 58, 59, 60, 61, 62, 63, 64, 65, 66, 67, 68, 69] rfl (by decide +kernel)) (bs_in2 _ _))) rfl rfl rfl (by decide +kernel) ⟨(Nat.le_of_ble_eq_true rfl), (Nat.le_of_ble_eq_true rfl)⟩) ⟨fun a U g mk q => by obtain ⟨q0, q1, qK, qE⟩ := q; exact ⟨q0, q1, va_K.moved (u := U) (U := U.calling g mk a) (Vm.Alike.refl U.vm) qK, EVS.blind g mk a qE⟩, RI.recv hK hR.ri, fun U hU hW => ⟨rfl, hU, va_K.moved hW.alike hK, hE.1.call hS hFc hU hW⟩⟩ rfl rfl hl.1 rfl (lv_room (Nat.le_of_ble_eq_true rfl)) dL_law_1596 ⟨show cells + 1 + 0 ≤ 603072 from by omega, show slots + 12 + 0 ≤ 7262314 from by omega⟩) hS (fun q _ h => hFc q h) hFc (fun r87 u t H locs ht hvm hw hB hz1 hk1 hS => ?_)
        (try dsimp only at hB); rw [ht] at hB
        have hC := hC.kept (fun a h1 h2 => hk1 a h1 (gA_mn hGP h1 h2))
        have hR := hB
        have hPr : ∀ a, Pr a → a < H.size := fun a h => Nat.lt_of_lt_of_le (hPr a h) hz1
        refine lv_istore (lv' := [(6, .int r87), (5, .int r64), (0, .ref b), (1, .ref x), (2, .ref h0), (3, .ref ou), (4, .int (nI n))]) hx hb dL_law_1599 hl (by decide) rfl (fun ls hl => ?_)
        refine lv_goto (tgt := 2491) hx hb dL_law_1601 (by decide) ?_
        exact W.widen (k := cells + 1170) (n := slots + 14100) (by omega) (by omega) (kk g H _ ls hC hR hPr hS (lv_sub hl [2, 3, 4, 5, 6] rfl))
  · have t88 : x30.toInt ≠ 0 := ti_ne c32 rfl (by decide)
    refine lv_iconst (v := 1) hx hb dL_law_1502 (by decide) ?_
    refine lv_goto (tgt := 1507) hx hb dL_law_1503 (by decide) ?_
    refine lv_aload_n hx hb dL_law_1507 rfl (lv_at hl 0 rfl) ?_
    refine lv_iload hx hb dL_law_1508 (lv_at hl 4 rfl) ?_
    refine lv_bipush (v := 6) hx hb dL_law_1510 (by decide) ?_
    refine lv_iadd hx hb dL_law_1512 ?_
    refine lv_topi (fun x89 ex89 => ?_)
    obtain rfl : nI (n + 6) = x89 := (ex89.trans (nI_add n 6)).symm
    refine va_sld hx hb hX hbl hbA hS (i := (nI (n + 6))) (vin_t (a := ((n + 6 : Nat) : Int)) (nI_toInt (by omega)) (by omega) (by omega)) dL_law_1513 ?_
    refine lv_topi (fun x90 ex90 => ?_)
    have t91 : -2147483648 ≤ x90.toInt ∧ x90.toInt ≤ 2147483647 := ti_all x90
    refine lv_if_eq (tgt := 1521) hx hb dL_law_1514 (by decide) (fun c92 => ?_) (fun c92 => ?_)
    · have t93 : x90.toInt = 0 := ti_eq c92 rfl (by decide)
      refine lv_iconst (v := 0) hx hb dL_law_1521 (by decide) ?_
      refine lv_aload_n hx hb dL_law_1522 rfl (lv_at hl 0 rfl) ?_
      refine lv_iload hx hb dL_law_1523 (lv_at hl 4 rfl) ?_
      refine lv_bipush (v := 7) hx hb dL_law_1525 (by decide) ?_
      refine lv_iadd hx hb dL_law_1527 ?_
      refine lv_topi (fun x94 ex94 => ?_)
      obtain rfl : nI (n + 7) = x94 := (ex94.trans (nI_add n 7)).symm
      refine va_sld hx hb hX hbl hbA hS (i := (nI (n + 7))) (vin_t (a := ((n + 7 : Nat) : Int)) (nI_toInt (by omega)) (by omega) (by omega)) dL_law_1528 ?_
      refine lv_topi (fun x95 ex95 => ?_)
      refine lv_aload_n hx hb dL_law_1529 rfl (lv_at hl 3 rfl) ?_
      have hFc := hPA
      refine va_calli (vx_runSW (As := [.ref x, .int x22, .int x24, .int x26, .int x28, .int 1, .int 0, .int x95, .ref ou]) (rest := []) ⟨hx, hb, hml, hown, hts⟩ (k_settler l hlt dC dI kA adK adV Pr H x ou x22 x24 x26 x28 1 0 x95 (by decide) (by decide) hPr hC) (vx_cwSW 9 hts (goodIn_app (goodIn_r _ [46, 47, 48] rfl (by decide +kernel)) (goodIn_ca (goodIn_r _ [1, 2, 3, 4, 5, 6, 7, 8, 9, 10, 11, 12, 13, 14, 15, 16, 17, 18, 19, 20, 21, 22, 23, 24, 25, 26, 27, 28, 29, 30, 31, 32, 33, 34, 35, 36, 37, 38, 39, 40, 41, 42, 43, 44, 45] rfl (by decide +kernel)) (bs2_in _ _))) rfl rfl rfl (by decide +kernel) ⟨(Nat.le_of_ble_eq_true rfl), (Nat.le_of_ble_eq_true rfl)⟩) ⟨fun a U g mk q => by obtain ⟨q0, q1, qK, qE, qN, qA⟩ := q; exact ⟨q0, q1, va_K.moved (u := U) (U := U.calling g mk a) (Vm.Alike.refl U.vm) qK, EVC.blind g mk a qE, NC.blind g mk a qN, AO.blind g mk a qA⟩, fun U hU hW => ⟨rfl, hU, va_K.moved hW.alike hK, hE.call hS hFc hU hW, hN.call hW, hAO.call hW⟩⟩ rfl rfl hl.1 rfl (lv_room (Nat.le_of_ble_eq_true rfl)) dL_law_1530 ⟨show cells + 1 ≤ 603072 from by omega, show slots + 12 ≤ 7262314 from by omega⟩) hS (fun q _ h => hFc q h) hFc (fun r96 u t H locs ht hvm hw hB hz1 hk1 hS => ?_)
      (try dsimp only at hB); rw [ht] at hB
      have hR := hR.kept (fun a t h => hk1 a (hPr a (hGP a t h)) (fun h9 => h9 (hGP a t h)))
      have hC := hB
      have hPr : ∀ a, Pr a → a < H.size := fun a h => Nat.lt_of_lt_of_le (hPr a h) hz1
      refine lv_istore (lv' := [(5, .int r96), (0, .ref b), (1, .ref x), (2, .ref h0), (3, .ref ou), (4, .int (nI n))]) hx hb dL_law_1533 hl (by decide) rfl (fun ls hl => ?_)
      refine lv_aload_n hx hb dL_law_1535 rfl (lv_at hl 3 rfl) ?_
      refine lv_aload_n hx hb dL_law_1536 rfl (lv_at hl 1 rfl) ?_
      refine lv_iload hx hb dL_law_1537 (lv_at hl 5 rfl) ?_
      refine lv_iconst (v := 1) hx hb dL_law_1539 (by decide) ?_
      refine lv_iadd hx hb dL_law_1540 ?_
      refine lv_topi (fun x97 ex97 => ?_)
      obtain rfl : nI (n + 1) = x97 := (ex97.trans (nI_add n 1)).symm
      refine va_sld hx hb hX hbl hbA hS (i := (nI (n + 1))) (vin_t (a := ((n + 1 : Nat) : Int)) (nI_toInt (by omega)) (by omega) (by omega)) dL_law_1541 ?_
      refine lv_topi (fun x98 ex98 => ?_)
      obtain rfl : x22 = x98 := by rw [ex98, ex22] <;> exact congrArg xs (tn_same (i := (nI (n + 1))) (j := (nI (n + 1))) (show (nI (n + 1)).toInt = ((n + 1 : Nat) : Int) from (nI_toInt (by omega))) (show (nI (n + 1)).toInt = ((n + 1 : Nat) : Int) from (nI_toInt (by omega))) (by omega))
      refine lv_aload_n hx hb dL_law_1542 rfl (lv_at hl 1 rfl) ?_
      refine lv_iload hx hb dL_law_1543 (lv_at hl 5 rfl) ?_
      refine lv_iconst (v := 2) hx hb dL_law_1545 (by decide) ?_
      refine lv_iadd hx hb dL_law_1546 ?_
      refine lv_topi (fun x99 ex99 => ?_)
      obtain rfl : nI (n + 2) = x99 := (ex99.trans (nI_add n 2)).symm
      refine va_sld hx hb hX hbl hbA hS (i := (nI (n + 2))) (vin_t (a := ((n + 2 : Nat) : Int)) (nI_toInt (by omega)) (by omega) (by omega)) dL_law_1547 ?_
      refine lv_topi (fun x100 ex100 => ?_)
      obtain rfl : x24 = x100 := by rw [ex100, ex24] <;> exact congrArg xs (tn_same (i := (nI (n + 2))) (j := (nI (n + 2))) (show (nI (n + 2)).toInt = ((n + 2 : Nat) : Int) from (nI_toInt (by omega))) (show (nI (n + 2)).toInt = ((n + 2 : Nat) : Int) from (nI_toInt (by omega))) (by omega))
      refine lv_aload_n hx hb dL_law_1548 rfl (lv_at hl 1 rfl) ?_
      refine lv_iload hx hb dL_law_1549 (lv_at hl 5 rfl) ?_
      refine lv_iconst (v := 3) hx hb dL_law_1551 (by decide) ?_
      refine lv_iadd hx hb dL_law_1552 ?_
      refine lv_topi (fun x101 ex101 => ?_)
      obtain rfl : nI (n + 3) = x101 := (ex101.trans (nI_add n 3)).symm
      refine va_sld hx hb hX hbl hbA hS (i := (nI (n + 3))) (vin_t (a := ((n + 3 : Nat) : Int)) (nI_toInt (by omega)) (by omega) (by omega)) dL_law_1553 ?_
      refine lv_topi (fun x102 ex102 => ?_)
      obtain rfl : x26 = x102 := by rw [ex102, ex26] <;> exact congrArg xs (tn_same (i := (nI (n + 3))) (j := (nI (n + 3))) (show (nI (n + 3)).toInt = ((n + 3 : Nat) : Int) from (nI_toInt (by omega))) (show (nI (n + 3)).toInt = ((n + 3 : Nat) : Int) from (nI_toInt (by omega))) (by omega))
      refine lv_aload_n hx hb dL_law_1554 rfl (lv_at hl 1 rfl) ?_
      refine lv_iload hx hb dL_law_1555 (lv_at hl 5 rfl) ?_
      refine lv_iconst (v := 4) hx hb dL_law_1557 (by decide) ?_
      refine lv_iadd hx hb dL_law_1558 ?_
      refine lv_topi (fun x103 ex103 => ?_)
      obtain rfl : nI (n + 4) = x103 := (ex103.trans (nI_add n 4)).symm
      refine va_sld hx hb hX hbl hbA hS (i := (nI (n + 4))) (vin_t (a := ((n + 4 : Nat) : Int)) (nI_toInt (by omega)) (by omega) (by omega)) dL_law_1559 ?_
      refine lv_topi (fun x104 ex104 => ?_)
      obtain rfl : x28 = x104 := by rw [ex104, ex28] <;> exact congrArg xs (tn_same (i := (nI (n + 4))) (j := (nI (n + 4))) (show (nI (n + 4)).toInt = ((n + 4 : Nat) : Int) from (nI_toInt (by omega))) (show (nI (n + 4)).toInt = ((n + 4 : Nat) : Int) from (nI_toInt (by omega))) (by omega))
      refine lv_aload_n hx hb dL_law_1560 rfl (lv_at hl 1 rfl) ?_
      refine lv_iload hx hb dL_law_1561 (lv_at hl 5 rfl) ?_
      refine lv_iconst (v := 5) hx hb dL_law_1563 (by decide) ?_
      refine lv_iadd hx hb dL_law_1564 ?_
      refine lv_topi (fun x105 ex105 => ?_)
      obtain rfl : nI (n + 5) = x105 := (ex105.trans (nI_add n 5)).symm
      refine va_sld hx hb hX hbl hbA hS (i := (nI (n + 5))) (vin_t (a := ((n + 5 : Nat) : Int)) (nI_toInt (by omega)) (by omega) (by omega)) dL_law_1565 ?_
      refine lv_topi (fun x106 ex106 => ?_)
      obtain rfl : x30 = x106 := by rw [ex106, ex30] <;> exact congrArg xs (tn_same (i := (nI (n + 5))) (j := (nI (n + 5))) (show (nI (n + 5)).toInt = ((n + 5 : Nat) : Int) from (nI_toInt (by omega))) (show (nI (n + 5)).toInt = ((n + 5 : Nat) : Int) from (nI_toInt (by omega))) (by omega))
      refine lv_if_eq (tgt := 1573) hx hb dL_law_1566 (by decide) (fun c107 => ?_) (fun c107 => ?_)
      · have t108 : x30.toInt = 0 := ti_eq c107 rfl (by decide)
        refine lv_iconst (v := 0) hx hb dL_law_1573 (by decide) ?_
        refine lv_aload_n hx hb dL_law_1574 rfl (lv_at hl 1 rfl) ?_
        refine lv_iload hx hb dL_law_1575 (lv_at hl 5 rfl) ?_
        refine lv_bipush (v := 6) hx hb dL_law_1577 (by decide) ?_
        refine lv_iadd hx hb dL_law_1579 ?_
        refine lv_topi (fun x109 ex109 => ?_)
        obtain rfl : nI (n + 6) = x109 := (ex109.trans (nI_add n 6)).symm
        refine va_sld hx hb hX hbl hbA hS (i := (nI (n + 6))) (vin_t (a := ((n + 6 : Nat) : Int)) (nI_toInt (by omega)) (by omega) (by omega)) dL_law_1580 ?_
        refine lv_topi (fun x110 ex110 => ?_)
        obtain rfl : x90 = x110 := by rw [ex110, ex90] <;> exact congrArg xs (tn_same (i := (nI (n + 6))) (j := (nI (n + 6))) (show (nI (n + 6)).toInt = ((n + 6 : Nat) : Int) from (nI_toInt (by omega))) (show (nI (n + 6)).toInt = ((n + 6 : Nat) : Int) from (nI_toInt (by omega))) (by omega))
        refine lv_if_eq (tgt := 1588) hx hb dL_law_1581 (by decide) (fun c111 => ?_) (fun c111 => (by exfalso; have q9 : x90.toInt ≠ 0 := ti_ne c111 rfl (by decide); omega))
        have t112 : x90.toInt = 0 := ti_eq c111 rfl (by decide)
        refine lv_iconst (v := 0) hx hb dL_law_1588 (by decide) ?_
        refine lv_aload_n hx hb dL_law_1589 rfl (lv_at hl 1 rfl) ?_
        refine lv_iload hx hb dL_law_1590 (lv_at hl 5 rfl) ?_
        refine lv_bipush (v := 7) hx hb dL_law_1592 (by decide) ?_
        refine lv_iadd hx hb dL_law_1594 ?_
        refine lv_topi (fun x113 ex113 => ?_)
        obtain rfl : nI (n + 7) = x113 := (ex113.trans (nI_add n 7)).symm
        refine va_sld hx hb hX hbl hbA hS (i := (nI (n + 7))) (vin_t (a := ((n + 7 : Nat) : Int)) (nI_toInt (by omega)) (by omega) (by omega)) dL_law_1595 ?_
        refine lv_topi (fun x114 ex114 => ?_)
        obtain rfl : x95 = x114 := by rw [ex114, ex95] <;> exact congrArg xs (tn_same (i := (nI (n + 7))) (j := (nI (n + 7))) (show (nI (n + 7)).toInt = ((n + 7 : Nat) : Int) from (nI_toInt (by omega))) (show (nI (n + 7)).toInt = ((n + 7 : Nat) : Int) from (nI_toInt (by omega))) (by omega))
        have hFc := gA_m hPr hGP hGA hA hS
        refine va_calli (va_runV (As := [.int x22, .int x24, .int x26, .int x28, .int 0, .int 0, .int x95]) (rest := []) ⟨hx, hb, hml, hown, hts⟩ (r_settler l dC dI kA adK adV Gm H h0 x22 x24 x26 x28 0 0 x95 (by decide) (by decide) hR) (cwV 7 hts (goodIn_app (goodIn_r _ [70, 71, 72, 54] rfl (by decide +kernel)) (goodIn_ca (goodIn_r _ [49, 50, 51, 52, 53, 54, 55, 56, 57, 58, 59, 60, 61, 62, 63, 64, 65, 66, 67, 68, 69] rfl (by decide +kernel)) (bs_in2 _ _))) rfl rfl rfl (by decide +kernel) ⟨(Nat.le_of_ble_eq_true rfl), (Nat.le_of_ble_eq_true rfl)⟩) ⟨fun a U g mk q => by obtain ⟨q0, q1, qK, qE⟩ := q; exact ⟨q0, q1, va_K.moved (u := U) (U := U.calling g mk a) (Vm.Alike.refl U.vm) qK, EVS.blind g mk a qE⟩, RI.recv hK hR.ri, fun U hU hW => ⟨rfl, hU, va_K.moved hW.alike hK, hE.1.call hS hFc hU hW⟩⟩ rfl rfl hl.1 rfl (lv_room (Nat.le_of_ble_eq_true rfl)) dL_law_1596 ⟨show cells + 1 + 0 ≤ 603072 from by omega, show slots + 12 + 0 ≤ 7262314 from by omega⟩) hS (fun q _ h => hFc q h) hFc (fun r115 u t H locs ht hvm hw hB hz1 hk1 hS => ?_)
        (try dsimp only at hB); rw [ht] at hB
        have hC := hC.kept (fun a h1 h2 => hk1 a h1 (gA_mn hGP h1 h2))
        have hR := hB
        have hPr : ∀ a, Pr a → a < H.size := fun a h => Nat.lt_of_lt_of_le (hPr a h) hz1
        refine lv_istore (lv' := [(6, .int r115), (5, .int r96), (0, .ref b), (1, .ref x), (2, .ref h0), (3, .ref ou), (4, .int (nI n))]) hx hb dL_law_1599 hl (by decide) rfl (fun ls hl => ?_)
        refine lv_goto (tgt := 2491) hx hb dL_law_1601 (by decide) ?_
        exact W.widen (k := cells + 1170) (n := slots + 14100) (by omega) (by omega) (kk g H _ ls hC hR hPr hS (lv_sub hl [2, 3, 4, 5, 6] rfl))
      · have t116 : x30.toInt ≠ 0 := ti_ne c107 rfl (by decide)
        refine lv_iconst (v := 1) hx hb dL_law_1569 (by decide) ?_
        refine lv_goto (tgt := 1574) hx hb dL_law_1570 (by decide) ?_
        refine lv_aload_n hx hb dL_law_1574 rfl (lv_at hl 1 rfl) ?_
        refine lv_iload hx hb dL_law_1575 (lv_at hl 5 rfl) ?_
        refine lv_bipush (v := 6) hx hb dL_law_1577 (by decide) ?_
        refine lv_iadd hx hb dL_law_1579 ?_
        refine lv_topi (fun x117 ex117 => ?_)
        obtain rfl : nI (n + 6) = x117 := (ex117.trans (nI_add n 6)).symm
        refine va_sld hx hb hX hbl hbA hS (i := (nI (n + 6))) (vin_t (a := ((n + 6 : Nat) : Int)) (nI_toInt (by omega)) (by omega) (by omega)) dL_law_1580 ?_
        refine lv_topi (fun x118 ex118 => ?_)
        obtain rfl : x90 = x118 := by rw [ex118, ex90] <;> exact congrArg xs (tn_same (i := (nI (n + 6))) (j := (nI (n + 6))) (show (nI (n + 6)).toInt = ((n + 6 : Nat) : Int) from (nI_toInt (by omega))) (show (nI (n + 6)).toInt = ((n + 6 : Nat) : Int) from (nI_toInt (by omega))) (by omega))
        refine lv_if_eq (tgt := 1588) hx hb dL_law_1581 (by decide) (fun c119 => ?_) (fun c119 => (by exfalso; have q9 : x90.toInt ≠ 0 := ti_ne c119 rfl (by decide); omega))
        have t120 : x90.toInt = 0 := ti_eq c119 rfl (by decide)
        refine lv_iconst (v := 0) hx hb dL_law_1588 (by decide) ?_
        refine lv_aload_n hx hb dL_law_1589 rfl (lv_at hl 1 rfl) ?_
        refine lv_iload hx hb dL_law_1590 (lv_at hl 5 rfl) ?_
        refine lv_bipush (v := 7) hx hb dL_law_1592 (by decide) ?_
        refine lv_iadd hx hb dL_law_1594 ?_
        refine lv_topi (fun x121 ex121 => ?_)
        obtain rfl : nI (n + 7) = x121 := (ex121.trans (nI_add n 7)).symm
        refine va_sld hx hb hX hbl hbA hS (i := (nI (n + 7))) (vin_t (a := ((n + 7 : Nat) : Int)) (nI_toInt (by omega)) (by omega) (by omega)) dL_law_1595 ?_
        refine lv_topi (fun x122 ex122 => ?_)
        obtain rfl : x95 = x122 := by rw [ex122, ex95] <;> exact congrArg xs (tn_same (i := (nI (n + 7))) (j := (nI (n + 7))) (show (nI (n + 7)).toInt = ((n + 7 : Nat) : Int) from (nI_toInt (by omega))) (show (nI (n + 7)).toInt = ((n + 7 : Nat) : Int) from (nI_toInt (by omega))) (by omega))
        have hFc := gA_m hPr hGP hGA hA hS
        refine va_calli (va_runV (As := [.int x22, .int x24, .int x26, .int x28, .int 1, .int 0, .int x95]) (rest := []) ⟨hx, hb, hml, hown, hts⟩ (r_settler l dC dI kA adK adV Gm H h0 x22 x24 x26 x28 1 0 x95 (by decide) (by decide) hR) (cwV 7 hts (goodIn_app (goodIn_r _ [70, 71, 72, 54] rfl (by decide +kernel)) (goodIn_ca (goodIn_r _ [49, 50, 51, 52, 53, 54, 55, 56, 57, 58, 59, 60, 61, 62, 63, 64, 65, 66, 67, 68, 69] rfl (by decide +kernel)) (bs_in2 _ _))) rfl rfl rfl (by decide +kernel) ⟨(Nat.le_of_ble_eq_true rfl), (Nat.le_of_ble_eq_true rfl)⟩) ⟨fun a U g mk q => by obtain ⟨q0, q1, qK, qE⟩ := q; exact ⟨q0, q1, va_K.moved (u := U) (U := U.calling g mk a) (Vm.Alike.refl U.vm) qK, EVS.blind g mk a qE⟩, RI.recv hK hR.ri, fun U hU hW => ⟨rfl, hU, va_K.moved hW.alike hK, hE.1.call hS hFc hU hW⟩⟩ rfl rfl hl.1 rfl (lv_room (Nat.le_of_ble_eq_true rfl)) dL_law_1596 ⟨show cells + 1 + 0 ≤ 603072 from by omega, show slots + 12 + 0 ≤ 7262314 from by omega⟩) hS (fun q _ h => hFc q h) hFc (fun r123 u t H locs ht hvm hw hB hz1 hk1 hS => ?_)
        (try dsimp only at hB); rw [ht] at hB
        have hC := hC.kept (fun a h1 h2 => hk1 a h1 (gA_mn hGP h1 h2))
        have hR := hB
        have hPr : ∀ a, Pr a → a < H.size := fun a h => Nat.lt_of_lt_of_le (hPr a h) hz1
        refine lv_istore (lv' := [(6, .int r123), (5, .int r96), (0, .ref b), (1, .ref x), (2, .ref h0), (3, .ref ou), (4, .int (nI n))]) hx hb dL_law_1599 hl (by decide) rfl (fun ls hl => ?_)
        refine lv_goto (tgt := 2491) hx hb dL_law_1601 (by decide) ?_
        exact W.widen (k := cells + 1170) (n := slots + 14100) (by omega) (by omega) (kk g H _ ls hC hR hPr hS (lv_sub hl [2, 3, 4, 5, 6] rfl))
    · have t124 : x90.toInt ≠ 0 := ti_ne c92 rfl (by decide)
      refine lv_iconst (v := 1) hx hb dL_law_1517 (by decide) ?_
      refine lv_goto (tgt := 1522) hx hb dL_law_1518 (by decide) ?_
      refine lv_aload_n hx hb dL_law_1522 rfl (lv_at hl 0 rfl) ?_
      refine lv_iload hx hb dL_law_1523 (lv_at hl 4 rfl) ?_
      refine lv_bipush (v := 7) hx hb dL_law_1525 (by decide) ?_
      refine lv_iadd hx hb dL_law_1527 ?_
      refine lv_topi (fun x125 ex125 => ?_)
      obtain rfl : nI (n + 7) = x125 := (ex125.trans (nI_add n 7)).symm
      refine va_sld hx hb hX hbl hbA hS (i := (nI (n + 7))) (vin_t (a := ((n + 7 : Nat) : Int)) (nI_toInt (by omega)) (by omega) (by omega)) dL_law_1528 ?_
      refine lv_topi (fun x126 ex126 => ?_)
      refine lv_aload_n hx hb dL_law_1529 rfl (lv_at hl 3 rfl) ?_
      have hFc := hPA
      refine va_calli (vx_runSW (As := [.ref x, .int x22, .int x24, .int x26, .int x28, .int 1, .int 1, .int x126, .ref ou]) (rest := []) ⟨hx, hb, hml, hown, hts⟩ (k_settler l hlt dC dI kA adK adV Pr H x ou x22 x24 x26 x28 1 1 x126 (by decide) (by decide) hPr hC) (vx_cwSW 9 hts (goodIn_app (goodIn_r _ [46, 47, 48] rfl (by decide +kernel)) (goodIn_ca (goodIn_r _ [1, 2, 3, 4, 5, 6, 7, 8, 9, 10, 11, 12, 13, 14, 15, 16, 17, 18, 19, 20, 21, 22, 23, 24, 25, 26, 27, 28, 29, 30, 31, 32, 33, 34, 35, 36, 37, 38, 39, 40, 41, 42, 43, 44, 45] rfl (by decide +kernel)) (bs2_in _ _))) rfl rfl rfl (by decide +kernel) ⟨(Nat.le_of_ble_eq_true rfl), (Nat.le_of_ble_eq_true rfl)⟩) ⟨fun a U g mk q => by obtain ⟨q0, q1, qK, qE, qN, qA⟩ := q; exact ⟨q0, q1, va_K.moved (u := U) (U := U.calling g mk a) (Vm.Alike.refl U.vm) qK, EVC.blind g mk a qE, NC.blind g mk a qN, AO.blind g mk a qA⟩, fun U hU hW => ⟨rfl, hU, va_K.moved hW.alike hK, hE.call hS hFc hU hW, hN.call hW, hAO.call hW⟩⟩ rfl rfl hl.1 rfl (lv_room (Nat.le_of_ble_eq_true rfl)) dL_law_1530 ⟨show cells + 1 ≤ 603072 from by omega, show slots + 12 ≤ 7262314 from by omega⟩) hS (fun q _ h => hFc q h) hFc (fun r127 u t H locs ht hvm hw hB hz1 hk1 hS => ?_)
      (try dsimp only at hB); rw [ht] at hB
      have hR := hR.kept (fun a t h => hk1 a (hPr a (hGP a t h)) (fun h9 => h9 (hGP a t h)))
      have hC := hB
      have hPr : ∀ a, Pr a → a < H.size := fun a h => Nat.lt_of_lt_of_le (hPr a h) hz1
      refine lv_istore (lv' := [(5, .int r127), (0, .ref b), (1, .ref x), (2, .ref h0), (3, .ref ou), (4, .int (nI n))]) hx hb dL_law_1533 hl (by decide) rfl (fun ls hl => ?_)
      refine lv_aload_n hx hb dL_law_1535 rfl (lv_at hl 3 rfl) ?_
      refine lv_aload_n hx hb dL_law_1536 rfl (lv_at hl 1 rfl) ?_
      refine lv_iload hx hb dL_law_1537 (lv_at hl 5 rfl) ?_
      refine lv_iconst (v := 1) hx hb dL_law_1539 (by decide) ?_
      refine lv_iadd hx hb dL_law_1540 ?_
      refine lv_topi (fun x128 ex128 => ?_)
      obtain rfl : nI (n + 1) = x128 := (ex128.trans (nI_add n 1)).symm
      refine va_sld hx hb hX hbl hbA hS (i := (nI (n + 1))) (vin_t (a := ((n + 1 : Nat) : Int)) (nI_toInt (by omega)) (by omega) (by omega)) dL_law_1541 ?_
      refine lv_topi (fun x129 ex129 => ?_)
      obtain rfl : x22 = x129 := by rw [ex129, ex22] <;> exact congrArg xs (tn_same (i := (nI (n + 1))) (j := (nI (n + 1))) (show (nI (n + 1)).toInt = ((n + 1 : Nat) : Int) from (nI_toInt (by omega))) (show (nI (n + 1)).toInt = ((n + 1 : Nat) : Int) from (nI_toInt (by omega))) (by omega))
      refine lv_aload_n hx hb dL_law_1542 rfl (lv_at hl 1 rfl) ?_
      refine lv_iload hx hb dL_law_1543 (lv_at hl 5 rfl) ?_
      refine lv_iconst (v := 2) hx hb dL_law_1545 (by decide) ?_
      refine lv_iadd hx hb dL_law_1546 ?_
      refine lv_topi (fun x130 ex130 => ?_)
      obtain rfl : nI (n + 2) = x130 := (ex130.trans (nI_add n 2)).symm
      refine va_sld hx hb hX hbl hbA hS (i := (nI (n + 2))) (vin_t (a := ((n + 2 : Nat) : Int)) (nI_toInt (by omega)) (by omega) (by omega)) dL_law_1547 ?_
      refine lv_topi (fun x131 ex131 => ?_)
      obtain rfl : x24 = x131 := by rw [ex131, ex24] <;> exact congrArg xs (tn_same (i := (nI (n + 2))) (j := (nI (n + 2))) (show (nI (n + 2)).toInt = ((n + 2 : Nat) : Int) from (nI_toInt (by omega))) (show (nI (n + 2)).toInt = ((n + 2 : Nat) : Int) from (nI_toInt (by omega))) (by omega))
      refine lv_aload_n hx hb dL_law_1548 rfl (lv_at hl 1 rfl) ?_
      refine lv_iload hx hb dL_law_1549 (lv_at hl 5 rfl) ?_
      refine lv_iconst (v := 3) hx hb dL_law_1551 (by decide) ?_
      refine lv_iadd hx hb dL_law_1552 ?_
      refine lv_topi (fun x132 ex132 => ?_)
      obtain rfl : nI (n + 3) = x132 := (ex132.trans (nI_add n 3)).symm
      refine va_sld hx hb hX hbl hbA hS (i := (nI (n + 3))) (vin_t (a := ((n + 3 : Nat) : Int)) (nI_toInt (by omega)) (by omega) (by omega)) dL_law_1553 ?_
      refine lv_topi (fun x133 ex133 => ?_)
      obtain rfl : x26 = x133 := by rw [ex133, ex26] <;> exact congrArg xs (tn_same (i := (nI (n + 3))) (j := (nI (n + 3))) (show (nI (n + 3)).toInt = ((n + 3 : Nat) : Int) from (nI_toInt (by omega))) (show (nI (n + 3)).toInt = ((n + 3 : Nat) : Int) from (nI_toInt (by omega))) (by omega))
      refine lv_aload_n hx hb dL_law_1554 rfl (lv_at hl 1 rfl) ?_
      refine lv_iload hx hb dL_law_1555 (lv_at hl 5 rfl) ?_
      refine lv_iconst (v := 4) hx hb dL_law_1557 (by decide) ?_
      refine lv_iadd hx hb dL_law_1558 ?_
      refine lv_topi (fun x134 ex134 => ?_)
      obtain rfl : nI (n + 4) = x134 := (ex134.trans (nI_add n 4)).symm
      refine va_sld hx hb hX hbl hbA hS (i := (nI (n + 4))) (vin_t (a := ((n + 4 : Nat) : Int)) (nI_toInt (by omega)) (by omega) (by omega)) dL_law_1559 ?_
      refine lv_topi (fun x135 ex135 => ?_)
      obtain rfl : x28 = x135 := by rw [ex135, ex28] <;> exact congrArg xs (tn_same (i := (nI (n + 4))) (j := (nI (n + 4))) (show (nI (n + 4)).toInt = ((n + 4 : Nat) : Int) from (nI_toInt (by omega))) (show (nI (n + 4)).toInt = ((n + 4 : Nat) : Int) from (nI_toInt (by omega))) (by omega))
      refine lv_aload_n hx hb dL_law_1560 rfl (lv_at hl 1 rfl) ?_
      refine lv_iload hx hb dL_law_1561 (lv_at hl 5 rfl) ?_
      refine lv_iconst (v := 5) hx hb dL_law_1563 (by decide) ?_
      refine lv_iadd hx hb dL_law_1564 ?_
      refine lv_topi (fun x136 ex136 => ?_)
      obtain rfl : nI (n + 5) = x136 := (ex136.trans (nI_add n 5)).symm
      refine va_sld hx hb hX hbl hbA hS (i := (nI (n + 5))) (vin_t (a := ((n + 5 : Nat) : Int)) (nI_toInt (by omega)) (by omega) (by omega)) dL_law_1565 ?_
      refine lv_topi (fun x137 ex137 => ?_)
      obtain rfl : x30 = x137 := by rw [ex137, ex30] <;> exact congrArg xs (tn_same (i := (nI (n + 5))) (j := (nI (n + 5))) (show (nI (n + 5)).toInt = ((n + 5 : Nat) : Int) from (nI_toInt (by omega))) (show (nI (n + 5)).toInt = ((n + 5 : Nat) : Int) from (nI_toInt (by omega))) (by omega))
      refine lv_if_eq (tgt := 1573) hx hb dL_law_1566 (by decide) (fun c138 => ?_) (fun c138 => ?_)
      · have t139 : x30.toInt = 0 := ti_eq c138 rfl (by decide)
        refine lv_iconst (v := 0) hx hb dL_law_1573 (by decide) ?_
        refine lv_aload_n hx hb dL_law_1574 rfl (lv_at hl 1 rfl) ?_
        refine lv_iload hx hb dL_law_1575 (lv_at hl 5 rfl) ?_
        refine lv_bipush (v := 6) hx hb dL_law_1577 (by decide) ?_
        refine lv_iadd hx hb dL_law_1579 ?_
        refine lv_topi (fun x140 ex140 => ?_)
        obtain rfl : nI (n + 6) = x140 := (ex140.trans (nI_add n 6)).symm
        refine va_sld hx hb hX hbl hbA hS (i := (nI (n + 6))) (vin_t (a := ((n + 6 : Nat) : Int)) (nI_toInt (by omega)) (by omega) (by omega)) dL_law_1580 ?_
        refine lv_topi (fun x141 ex141 => ?_)
        obtain rfl : x90 = x141 := by rw [ex141, ex90] <;> exact congrArg xs (tn_same (i := (nI (n + 6))) (j := (nI (n + 6))) (show (nI (n + 6)).toInt = ((n + 6 : Nat) : Int) from (nI_toInt (by omega))) (show (nI (n + 6)).toInt = ((n + 6 : Nat) : Int) from (nI_toInt (by omega))) (by omega))
        refine lv_if_eq (tgt := 1588) hx hb dL_law_1581 (by decide) (fun c142 => ?_) (fun c142 => ?_)
        · have t143 : x90.toInt = 0 := ti_eq c142 rfl (by decide)
          refine lv_iconst (v := 0) hx hb dL_law_1588 (by decide) ?_
          refine lv_aload_n hx hb dL_law_1589 rfl (lv_at hl 1 rfl) ?_
          refine lv_iload hx hb dL_law_1590 (lv_at hl 5 rfl) ?_
          refine lv_bipush (v := 7) hx hb dL_law_1592 (by decide) ?_
          refine lv_iadd hx hb dL_law_1594 ?_
          refine lv_topi (fun x144 ex144 => ?_)
          obtain rfl : nI (n + 7) = x144 := (ex144.trans (nI_add n 7)).symm
          refine va_sld hx hb hX hbl hbA hS (i := (nI (n + 7))) (vin_t (a := ((n + 7 : Nat) : Int)) (nI_toInt (by omega)) (by omega) (by omega)) dL_law_1595 ?_
          refine lv_topi (fun x145 ex145 => ?_)
          obtain rfl : x126 = x145 := by rw [ex145, ex126] <;> exact congrArg xs (tn_same (i := (nI (n + 7))) (j := (nI (n + 7))) (show (nI (n + 7)).toInt = ((n + 7 : Nat) : Int) from (nI_toInt (by omega))) (show (nI (n + 7)).toInt = ((n + 7 : Nat) : Int) from (nI_toInt (by omega))) (by omega))
          have hFc := gA_m hPr hGP hGA hA hS
          refine va_calli (va_runV (As := [.int x22, .int x24, .int x26, .int x28, .int 0, .int 0, .int x126]) (rest := []) ⟨hx, hb, hml, hown, hts⟩ (r_settler l dC dI kA adK adV Gm H h0 x22 x24 x26 x28 0 0 x126 (by decide) (by decide) hR) (cwV 7 hts (goodIn_app (goodIn_r _ [70, 71, 72, 54] rfl (by decide +kernel)) (goodIn_ca (goodIn_r _ [49, 50, 51, 52, 53, 54, 55, 56, 57, 58, 59, 60, 61, 62, 63, 64, 65, 66, 67, 68, 69] rfl (by decide +kernel)) (bs_in2 _ _))) rfl rfl rfl (by decide +kernel) ⟨(Nat.le_of_ble_eq_true rfl), (Nat.le_of_ble_eq_true rfl)⟩) ⟨fun a U g mk q => by obtain ⟨q0, q1, qK, qE⟩ := q; exact ⟨q0, q1, va_K.moved (u := U) (U := U.calling g mk a) (Vm.Alike.refl U.vm) qK, EVS.blind g mk a qE⟩, RI.recv hK hR.ri, fun U hU hW => ⟨rfl, hU, va_K.moved hW.alike hK, hE.1.call hS hFc hU hW⟩⟩ rfl rfl hl.1 rfl (lv_room (Nat.le_of_ble_eq_true rfl)) dL_law_1596 ⟨show cells + 1 + 0 ≤ 603072 from by omega, show slots + 12 + 0 ≤ 7262314 from by omega⟩) hS (fun q _ h => hFc q h) hFc (fun r146 u t H locs ht hvm hw hB hz1 hk1 hS => ?_)
          (try dsimp only at hB); rw [ht] at hB
          have hC := hC.kept (fun a h1 h2 => hk1 a h1 (gA_mn hGP h1 h2))
          have hR := hB
          have hPr : ∀ a, Pr a → a < H.size := fun a h => Nat.lt_of_lt_of_le (hPr a h) hz1
          refine lv_istore (lv' := [(6, .int r146), (5, .int r127), (0, .ref b), (1, .ref x), (2, .ref h0), (3, .ref ou), (4, .int (nI n))]) hx hb dL_law_1599 hl (by decide) rfl (fun ls hl => ?_)
          refine lv_goto (tgt := 2491) hx hb dL_law_1601 (by decide) ?_
          exact W.widen (k := cells + 1170) (n := slots + 14100) (by omega) (by omega) (kk g H _ ls hC hR hPr hS (lv_sub hl [2, 3, 4, 5, 6] rfl))
        · have t147 : x90.toInt ≠ 0 := ti_ne c142 rfl (by decide)
          refine lv_iconst (v := 1) hx hb dL_law_1584 (by decide) ?_
          refine lv_goto (tgt := 1589) hx hb dL_law_1585 (by decide) ?_
          refine lv_aload_n hx hb dL_law_1589 rfl (lv_at hl 1 rfl) ?_
          refine lv_iload hx hb dL_law_1590 (lv_at hl 5 rfl) ?_
          refine lv_bipush (v := 7) hx hb dL_law_1592 (by decide) ?_
          refine lv_iadd hx hb dL_law_1594 ?_
          refine lv_topi (fun x148 ex148 => ?_)
          obtain rfl : nI (n + 7) = x148 := (ex148.trans (nI_add n 7)).symm
          refine va_sld hx hb hX hbl hbA hS (i := (nI (n + 7))) (vin_t (a := ((n + 7 : Nat) : Int)) (nI_toInt (by omega)) (by omega) (by omega)) dL_law_1595 ?_
          refine lv_topi (fun x149 ex149 => ?_)
          obtain rfl : x126 = x149 := by rw [ex149, ex126] <;> exact congrArg xs (tn_same (i := (nI (n + 7))) (j := (nI (n + 7))) (show (nI (n + 7)).toInt = ((n + 7 : Nat) : Int) from (nI_toInt (by omega))) (show (nI (n + 7)).toInt = ((n + 7 : Nat) : Int) from (nI_toInt (by omega))) (by omega))
          have hFc := gA_m hPr hGP hGA hA hS
          refine va_calli (va_runV (As := [.int x22, .int x24, .int x26, .int x28, .int 0, .int 1, .int x126]) (rest := []) ⟨hx, hb, hml, hown, hts⟩ (r_settler l dC dI kA adK adV Gm H h0 x22 x24 x26 x28 0 1 x126 (by decide) (by decide) hR) (cwV 7 hts (goodIn_app (goodIn_r _ [70, 71, 72, 54] rfl (by decide +kernel)) (goodIn_ca (goodIn_r _ [49, 50, 51, 52, 53, 54, 55, 56, 57, 58, 59, 60, 61, 62, 63, 64, 65, 66, 67, 68, 69] rfl (by decide +kernel)) (bs_in2 _ _))) rfl rfl rfl (by decide +kernel) ⟨(Nat.le_of_ble_eq_true rfl), (Nat.le_of_ble_eq_true rfl)⟩) ⟨fun a U g mk q => by obtain ⟨q0, q1, qK, qE⟩ := q; exact ⟨q0, q1, va_K.moved (u := U) (U := U.calling g mk a) (Vm.Alike.refl U.vm) qK, EVS.blind g mk a qE⟩, RI.recv hK hR.ri, fun U hU hW => ⟨rfl, hU, va_K.moved hW.alike hK, hE.1.call hS hFc hU hW⟩⟩ rfl rfl hl.1 rfl (lv_room (Nat.le_of_ble_eq_true rfl)) dL_law_1596 ⟨show cells + 1 + 0 ≤ 603072 from by omega, show slots + 12 + 0 ≤ 7262314 from by omega⟩) hS (fun q _ h => hFc q h) hFc (fun r150 u t H locs ht hvm hw hB hz1 hk1 hS => ?_)
          (try dsimp only at hB); rw [ht] at hB
          have hC := hC.kept (fun a h1 h2 => hk1 a h1 (gA_mn hGP h1 h2))
          have hR := hB
          have hPr : ∀ a, Pr a → a < H.size := fun a h => Nat.lt_of_lt_of_le (hPr a h) hz1
          refine lv_istore (lv' := [(6, .int r150), (5, .int r127), (0, .ref b), (1, .ref x), (2, .ref h0), (3, .ref ou), (4, .int (nI n))]) hx hb dL_law_1599 hl (by decide) rfl (fun ls hl => ?_)
          refine lv_goto (tgt := 2491) hx hb dL_law_1601 (by decide) ?_
          exact W.widen (k := cells + 1170) (n := slots + 14100) (by omega) (by omega) (kk g H _ ls hC hR hPr hS (lv_sub hl [2, 3, 4, 5, 6] rfl))
      · have t151 : x30.toInt ≠ 0 := ti_ne c138 rfl (by decide)
        refine lv_iconst (v := 1) hx hb dL_law_1569 (by decide) ?_
        refine lv_goto (tgt := 1574) hx hb dL_law_1570 (by decide) ?_
        refine lv_aload_n hx hb dL_law_1574 rfl (lv_at hl 1 rfl) ?_
        refine lv_iload hx hb dL_law_1575 (lv_at hl 5 rfl) ?_
        refine lv_bipush (v := 6) hx hb dL_law_1577 (by decide) ?_
        refine lv_iadd hx hb dL_law_1579 ?_
        refine lv_topi (fun x152 ex152 => ?_)
        obtain rfl : nI (n + 6) = x152 := (ex152.trans (nI_add n 6)).symm
        refine va_sld hx hb hX hbl hbA hS (i := (nI (n + 6))) (vin_t (a := ((n + 6 : Nat) : Int)) (nI_toInt (by omega)) (by omega) (by omega)) dL_law_1580 ?_
        refine lv_topi (fun x153 ex153 => ?_)
        obtain rfl : x90 = x153 := by rw [ex153, ex90] <;> exact congrArg xs (tn_same (i := (nI (n + 6))) (j := (nI (n + 6))) (show (nI (n + 6)).toInt = ((n + 6 : Nat) : Int) from (nI_toInt (by omega))) (show (nI (n + 6)).toInt = ((n + 6 : Nat) : Int) from (nI_toInt (by omega))) (by omega))
        refine lv_if_eq (tgt := 1588) hx hb dL_law_1581 (by decide) (fun c154 => ?_) (fun c154 => ?_)
        · have t155 : x90.toInt = 0 := ti_eq c154 rfl (by decide)
          refine lv_iconst (v := 0) hx hb dL_law_1588 (by decide) ?_
          refine lv_aload_n hx hb dL_law_1589 rfl (lv_at hl 1 rfl) ?_
          refine lv_iload hx hb dL_law_1590 (lv_at hl 5 rfl) ?_
          refine lv_bipush (v := 7) hx hb dL_law_1592 (by decide) ?_
          refine lv_iadd hx hb dL_law_1594 ?_
          refine lv_topi (fun x156 ex156 => ?_)
          obtain rfl : nI (n + 7) = x156 := (ex156.trans (nI_add n 7)).symm
          refine va_sld hx hb hX hbl hbA hS (i := (nI (n + 7))) (vin_t (a := ((n + 7 : Nat) : Int)) (nI_toInt (by omega)) (by omega) (by omega)) dL_law_1595 ?_
          refine lv_topi (fun x157 ex157 => ?_)
          obtain rfl : x126 = x157 := by rw [ex157, ex126] <;> exact congrArg xs (tn_same (i := (nI (n + 7))) (j := (nI (n + 7))) (show (nI (n + 7)).toInt = ((n + 7 : Nat) : Int) from (nI_toInt (by omega))) (show (nI (n + 7)).toInt = ((n + 7 : Nat) : Int) from (nI_toInt (by omega))) (by omega))
          have hFc := gA_m hPr hGP hGA hA hS
          refine va_calli (va_runV (As := [.int x22, .int x24, .int x26, .int x28, .int 1, .int 0, .int x126]) (rest := []) ⟨hx, hb, hml, hown, hts⟩ (r_settler l dC dI kA adK adV Gm H h0 x22 x24 x26 x28 1 0 x126 (by decide) (by decide) hR) (cwV 7 hts (goodIn_app (goodIn_r _ [70, 71, 72, 54] rfl (by decide +kernel)) (goodIn_ca (goodIn_r _ [49, 50, 51, 52, 53, 54, 55, 56, 57, 58, 59, 60, 61, 62, 63, 64, 65, 66, 67, 68, 69] rfl (by decide +kernel)) (bs_in2 _ _))) rfl rfl rfl (by decide +kernel) ⟨(Nat.le_of_ble_eq_true rfl), (Nat.le_of_ble_eq_true rfl)⟩) ⟨fun a U g mk q => by obtain ⟨q0, q1, qK, qE⟩ := q; exact ⟨q0, q1, va_K.moved (u := U) (U := U.calling g mk a) (Vm.Alike.refl U.vm) qK, EVS.blind g mk a qE⟩, RI.recv hK hR.ri, fun U hU hW => ⟨rfl, hU, va_K.moved hW.alike hK, hE.1.call hS hFc hU hW⟩⟩ rfl rfl hl.1 rfl (lv_room (Nat.le_of_ble_eq_true rfl)) dL_law_1596 ⟨show cells + 1 + 0 ≤ 603072 from by omega, show slots + 12 + 0 ≤ 7262314 from by omega⟩) hS (fun q _ h => hFc q h) hFc (fun r158 u t H locs ht hvm hw hB hz1 hk1 hS => ?_)
          (try dsimp only at hB); rw [ht] at hB
          have hC := hC.kept (fun a h1 h2 => hk1 a h1 (gA_mn hGP h1 h2))
          have hR := hB
          have hPr : ∀ a, Pr a → a < H.size := fun a h => Nat.lt_of_lt_of_le (hPr a h) hz1
          refine lv_istore (lv' := [(6, .int r158), (5, .int r127), (0, .ref b), (1, .ref x), (2, .ref h0), (3, .ref ou), (4, .int (nI n))]) hx hb dL_law_1599 hl (by decide) rfl (fun ls hl => ?_)
          refine lv_goto (tgt := 2491) hx hb dL_law_1601 (by decide) ?_
          exact W.widen (k := cells + 1170) (n := slots + 14100) (by omega) (by omega) (kk g H _ ls hC hR hPr hS (lv_sub hl [2, 3, 4, 5, 6] rfl))
        · have t159 : x90.toInt ≠ 0 := ti_ne c154 rfl (by decide)
          refine lv_iconst (v := 1) hx hb dL_law_1584 (by decide) ?_
          refine lv_goto (tgt := 1589) hx hb dL_law_1585 (by decide) ?_
          refine lv_aload_n hx hb dL_law_1589 rfl (lv_at hl 1 rfl) ?_
          refine lv_iload hx hb dL_law_1590 (lv_at hl 5 rfl) ?_
          refine lv_bipush (v := 7) hx hb dL_law_1592 (by decide) ?_
          refine lv_iadd hx hb dL_law_1594 ?_
          refine lv_topi (fun x160 ex160 => ?_)
          obtain rfl : nI (n + 7) = x160 := (ex160.trans (nI_add n 7)).symm
          refine va_sld hx hb hX hbl hbA hS (i := (nI (n + 7))) (vin_t (a := ((n + 7 : Nat) : Int)) (nI_toInt (by omega)) (by omega) (by omega)) dL_law_1595 ?_
          refine lv_topi (fun x161 ex161 => ?_)
          obtain rfl : x126 = x161 := by rw [ex161, ex126] <;> exact congrArg xs (tn_same (i := (nI (n + 7))) (j := (nI (n + 7))) (show (nI (n + 7)).toInt = ((n + 7 : Nat) : Int) from (nI_toInt (by omega))) (show (nI (n + 7)).toInt = ((n + 7 : Nat) : Int) from (nI_toInt (by omega))) (by omega))
          have hFc := gA_m hPr hGP hGA hA hS
          refine va_calli (va_runV (As := [.int x22, .int x24, .int x26, .int x28, .int 1, .int 1, .int x126]) (rest := []) ⟨hx, hb, hml, hown, hts⟩ (r_settler l dC dI kA adK adV Gm H h0 x22 x24 x26 x28 1 1 x126 (by decide) (by decide) hR) (cwV 7 hts (goodIn_app (goodIn_r _ [70, 71, 72, 54] rfl (by decide +kernel)) (goodIn_ca (goodIn_r _ [49, 50, 51, 52, 53, 54, 55, 56, 57, 58, 59, 60, 61, 62, 63, 64, 65, 66, 67, 68, 69] rfl (by decide +kernel)) (bs_in2 _ _))) rfl rfl rfl (by decide +kernel) ⟨(Nat.le_of_ble_eq_true rfl), (Nat.le_of_ble_eq_true rfl)⟩) ⟨fun a U g mk q => by obtain ⟨q0, q1, qK, qE⟩ := q; exact ⟨q0, q1, va_K.moved (u := U) (U := U.calling g mk a) (Vm.Alike.refl U.vm) qK, EVS.blind g mk a qE⟩, RI.recv hK hR.ri, fun U hU hW => ⟨rfl, hU, va_K.moved hW.alike hK, hE.1.call hS hFc hU hW⟩⟩ rfl rfl hl.1 rfl (lv_room (Nat.le_of_ble_eq_true rfl)) dL_law_1596 ⟨show cells + 1 + 0 ≤ 603072 from by omega, show slots + 12 + 0 ≤ 7262314 from by omega⟩) hS (fun q _ h => hFc q h) hFc (fun r162 u t H locs ht hvm hw hB hz1 hk1 hS => ?_)
          (try dsimp only at hB); rw [ht] at hB
          have hC := hC.kept (fun a h1 h2 => hk1 a h1 (gA_mn hGP h1 h2))
          have hR := hB
          have hPr : ∀ a, Pr a → a < H.size := fun a h => Nat.lt_of_lt_of_le (hPr a h) hz1
          refine lv_istore (lv' := [(6, .int r162), (5, .int r127), (0, .ref b), (1, .ref x), (2, .ref h0), (3, .ref ou), (4, .int (nI n))]) hx hb dL_law_1599 hl (by decide) rfl (fun ls hl => ?_)
          refine lv_goto (tgt := 2491) hx hb dL_law_1601 (by decide) ?_
          exact W.widen (k := cells + 1170) (n := slots + 14100) (by omega) (by omega) (kk g H _ ls hC hR hPr hS (lv_sub hl [2, 3, 4, 5, 6] rfl))
def w_law_29 : List Cond := .initialized RL :: (HAppend.hAppend (α := List Cond) (β := List Cond) (γ := List Cond) [.codeWith yL_farm cL_farm 5 (some .int) [(0, 10, 13, 13)], .code yX11_farm cX11_farm 3 (some .int), .code yX11_needSquare cX11_needSquare 1 none, .code yX11_within cX11_within 3 (some .boolean), .methodLink RX11 58 yX11_within, .static yX11_within, .initialized RX11, .classLink RX11 557 "java/lang/IndexOutOfBoundsException", .initialized "java/lang/IndexOutOfBoundsException", .methodLink RX11 55 yX11_needSquare, .static yX11_needSquare, .fieldLink RX11 30 "SeaLand" "board" "LSeaLand$Board;", .fieldLink RX11 16 "SeaLand" "lake" "LSeaLand$Lake;", .code yX0_farmMayBe cX0_farmMayBe 6 (some .boolean), .fieldLink RX0 143 "SeaLand$Board" "farms" "I", .code yX11_inRectangle cX11_inRectangle 3 (some .boolean), .code yX11_isBetween cX11_isBetween 3 (some .boolean), .methodLink RX11 588 Lib.Math.min.name, .static Lib.Math.min.name, .initialized "java/lang/Math", .code Lib.Math.min.name Lib.Math.min.code 2 (some .int), .methodLink RX11 591 Lib.Math.max.name, .static Lib.Math.max.name, .code Lib.Math.max.name Lib.Math.max.code 2 (some .int), .methodLink RX11 585 yX11_isBetween, .static yX11_isBetween, .static yX11_inRectangle, .fieldLink RX0 17 "SeaLand$Board" "farmOf" "[I", .methodLink RX11 359 yX0_farmMayBe, .instanceMethod yX0_farmMayBe, .selects RX0 yX0_farmMayBe yX0_farmMayBe, .initialized RX0, .code yX0_layOut cX0_layOut 4 (some .int), .methodLink RX11 363 yX0_layOut, .instanceMethod yX0_layOut, .selects RX0 yX0_layOut yX0_layOut, .methodLink RL 114 yX11_farm, .instanceMethod yX11_farm, .selects RX11 yX11_farm yX11_farm, .classLink RL 13 "java/lang/IndexOutOfBoundsException", .methodLink RL 276 yL_farm, .static yL_farm, .initialized RL, .code yX12_farm cX12_farm 4 (some .int), .fieldLink RX12 194 "SeaLandModel" "thrown" "I", .code yX12_noSquare cX12_noSquare 1 (some .boolean), .code yX12_in cX12_in 3 (some .boolean), .methodLink RX12 197 yX12_in, .static yX12_in, .initialized RX12, .methodLink RX12 220 yX12_noSquare, .static yX12_noSquare, .code yX12_throwsIf cX12_throwsIf 3 (some .boolean), .methodLink RX12 224 yX12_throwsIf, .instanceMethod yX12_throwsIf, .selects RX12 yX12_throwsIf yX12_throwsIf, .fieldLink RX12 498 "SeaLandModel" "farms" "I", .fieldLink RX12 113 "SeaLandModel" "farmFrom" "[I", .fieldLink RX12 116 "SeaLandModel" "farmTo" "[I", .fieldLink RX12 122 "SeaLandModel" "holder" "[I", .code yX12_isIn cX12_isIn 5 (some .boolean), .methodLink RX12 207 Lib.Math.min.name, .methodLink RX12 211 Lib.Math.max.name, .methodLink RX12 232 yX12_isIn, .static yX12_isIn, .code yX12_isLand cX12_isLand 2 (some .boolean), .fieldLink RX12 9 "SeaLandModel" "world" "[I", .methodLink RX12 235 yX12_isLand, .instanceMethod yX12_isLand, .selects RX12 yX12_isLand yX12_isLand, .code yX12_farmOf cX12_farmOf 3 (some .int), .methodLink RX12 329 yX12_farmOf, .instanceMethod yX12_farmOf, .selects RX12 yX12_farmOf yX12_farmOf, .methodLink RL 278 yX12_farm, .instanceMethod yX12_farm, .selects RX12 yX12_farm yX12_farm] bs2)
set_option maxHeartbeats 4000000 in
set_option maxRecDepth 100000 in
theorem law_29 {p : Program} {e : Env} {s : State} {m : MethodId} {below : List Frame} {meth : Method} {c : Code} {Q : State → Prop} (l : Launch) (hlt : l.stackTraces = false) {b L : Nat} {xs : Nat → Int32} {A : Nat → Prop} (hx : p.tables.exec = Jvm.exec) (hb : c.code = code) (hml : c.maxLocals = 7) (hown : s.vm.findClass RL = some m.cls) (hts : ∀ w ∈ w_law_29, w.before #[Value.ref b] s = true) (hX : va_X b L xs s s.heap) (hbl : b < s.heap.size) (hbA : ¬ A b) (hL : L ≤ 4096) {adK adV : Nat → Nat} (hE : EVC adK adV A s s.heap) (hN : NC s) (hAO : AO s) (hA : ∀ q : Nat, s.heap.size ≤ q → A q) {dC : Nat → ClassId} {dI : Nat → Nat → Nat} {kA : Nat → ClassId} (hK : va_K (dC, dI) vwCl (tyl kA) s) {Pr : Nat → Prop} {Gm : gT} {x h0 ou : Nat} (hPA : ∀ q, ¬ Pr q → A q) (hGP : ∀ a t, Gm a = some t → Pr a) (hGA : ∀ a t, Gm a = some t → A a) (n : Nat) (hn : n + 8 ≤ L) (H : Heap) (locs : List Loc) (cells slots : Nat) (hcl : cells + 1170 ≤ 603072) (hsl : slots + 14100 ≤ 7262314) (g : gz) (hC : CJ dC dI kA Pr g x ou H) (hR : RJ dC dI kA g h0 Gm H) (hPr : ∀ a, Pr a → a < H.size) (hS : va_S A s.heap H locs) (ls : Array Slot) (hl : lv_has ls 7 [(0, .ref b), (1, .ref x), (2, .ref h0), (3, .ref ou), (4, .int (nI n))]) (kk : ∀ (g : gz) (H : Heap) (locs : List Loc) (ls : Array Slot), CJ dC dI kA Pr g x ou H → RJ dC dI kA g h0 Gm H → (∀ a, Pr a → a < H.size) → va_S A s.heap H locs → lv_has ls 7 [(0, .ref b), (1, .ref x), (2, .ref h0), (3, .ref ou), (4, .int (nI n))] → W p l e room_1 s m #[Value.ref b] below meth c H locs (cells + 1170) (slots + 14100) Q (F0 m 2491 ls [])) : W p l e room_1 s m #[Value.ref b] below meth c H locs cells slots Q (F0 m 1604 ls []) := by
  refine lv_aload_n hx hb dL_law_1604 rfl (lv_at hl 1 rfl) ?_
  refine lv_aload_n hx hb dL_law_1605 rfl (lv_at hl 0 rfl) ?_
  refine lv_iload hx hb dL_law_1606 (lv_at hl 4 rfl) ?_
  refine lv_iconst (v := 1) hx hb dL_law_1608 (by decide) ?_
  refine lv_iadd hx hb dL_law_1609 ?_
  refine lv_topi (fun x21 ex21 => ?_)
  obtain rfl : nI (n + 1) = x21 := (ex21.trans (nI_add n 1)).symm
  refine va_sld hx hb hX hbl hbA hS (i := (nI (n + 1))) (vin_t (a := ((n + 1 : Nat) : Int)) (nI_toInt (by omega)) (by omega) (by omega)) dL_law_1610 ?_
  refine lv_topi (fun x22 ex22 => ?_)
  refine lv_aload_n hx hb dL_law_1611 rfl (lv_at hl 0 rfl) ?_
  refine lv_iload hx hb dL_law_1612 (lv_at hl 4 rfl) ?_
  refine lv_iconst (v := 2) hx hb dL_law_1614 (by decide) ?_
  refine lv_iadd hx hb dL_law_1615 ?_
  refine lv_topi (fun x23 ex23 => ?_)
  obtain rfl : nI (n + 2) = x23 := (ex23.trans (nI_add n 2)).symm
  refine va_sld hx hb hX hbl hbA hS (i := (nI (n + 2))) (vin_t (a := ((n + 2 : Nat) : Int)) (nI_toInt (by omega)) (by omega) (by omega)) dL_law_1616 ?_
  refine lv_topi (fun x24 ex24 => ?_)
  refine lv_aload_n hx hb dL_law_1617 rfl (lv_at hl 3 rfl) ?_
  have hFc := hPA
  refine va_calli (vx_runSW (As := [.ref x, .int x22, .int x24, .ref ou]) (rest := []) ⟨hx, hb, hml, hown, hts⟩ (k_farm l hlt dC dI kA adK adV Pr H x ou x22 x24  hPr hC) (vx_cwSW 4 hts (goodIn_app (goodIn_r _ [41, 42, 43] rfl (by decide +kernel)) (goodIn_ca (goodIn_r _ [1, 2, 3, 4, 5, 6, 7, 8, 9, 10, 11, 12, 13, 14, 15, 16, 17, 18, 19, 20, 21, 22, 23, 24, 25, 26, 27, 28, 29, 30, 31, 32, 33, 34, 35, 36, 37, 38, 39, 40] rfl (by decide +kernel)) (bs2_in _ _))) rfl rfl rfl (by decide +kernel) ⟨(Nat.le_of_ble_eq_true rfl), (Nat.le_of_ble_eq_true rfl)⟩) ⟨fun a U g mk q => by obtain ⟨q0, q1, qK, qE, qN, qA⟩ := q; exact ⟨q0, q1, va_K.moved (u := U) (U := U.calling g mk a) (Vm.Alike.refl U.vm) qK, EVC.blind g mk a qE, NC.blind g mk a qN, AO.blind g mk a qA⟩, fun U hU hW => ⟨rfl, hU, va_K.moved hW.alike hK, hE.call hS hFc hU hW, hN.call hW, hAO.call hW⟩⟩ rfl rfl hl.1 rfl (lv_room (Nat.le_of_ble_eq_true rfl)) dL_law_1618 ⟨show cells + 2 ≤ 603072 from by omega, show slots + 12 ≤ 7262314 from by omega⟩) hS (fun q _ h => hFc q h) hFc (fun r25 u t H locs ht hvm hw hB hz1 hk1 hS => ?_)
  (try dsimp only at hB); rw [ht] at hB
  have hk9 := hw
  have hR := hR.kept (fun a t h => hk1 a (hPr a (hGP a t h)) (fun h9 => h9 (hGP a t h)))
  have hC := hB
  have hPr : ∀ a, Pr a → a < H.size := fun a h => Nat.lt_of_lt_of_le (hPr a h) hz1
  refine lv_istore (lv' := [(5, .int r25), (0, .ref b), (1, .ref x), (2, .ref h0), (3, .ref ou), (4, .int (nI n))]) hx hb dL_law_1621 hl (by decide) rfl (fun ls hl => ?_)
  refine lv_aload_n hx hb dL_law_1623 rfl (lv_at hl 3 rfl) ?_
  refine lv_aload_n hx hb dL_law_1624 rfl (lv_at hl 1 rfl) ?_
  refine lv_iload hx hb dL_law_1625 (lv_at hl 5 rfl) ?_
  refine lv_iconst (v := 1) hx hb dL_law_1627 (by decide) ?_
  refine lv_iadd hx hb dL_law_1628 ?_
  refine lv_topi (fun x26 ex26 => ?_)
  obtain rfl : nI (n + 1) = x26 := (ex26.trans (nI_add n 1)).symm
  refine va_sld hx hb hX hbl hbA hS (i := (nI (n + 1))) (vin_t (a := ((n + 1 : Nat) : Int)) (nI_toInt (by omega)) (by omega) (by omega)) dL_law_1629 ?_
  refine lv_topi (fun x27 ex27 => ?_)
  obtain rfl : x22 = x27 := by rw [ex27, ex22] <;> exact congrArg xs (tn_same (i := (nI (n + 1))) (j := (nI (n + 1))) (show (nI (n + 1)).toInt = ((n + 1 : Nat) : Int) from (nI_toInt (by omega))) (show (nI (n + 1)).toInt = ((n + 1 : Nat) : Int) from (nI_toInt (by omega))) (by omega))
  refine lv_aload_n hx hb dL_law_1630 rfl (lv_at hl 1 rfl) ?_
  refine lv_iload hx hb dL_law_1631 (lv_at hl 5 rfl) ?_
  refine lv_iconst (v := 2) hx hb dL_law_1633 (by decide) ?_
  refine lv_iadd hx hb dL_law_1634 ?_
  refine lv_topi (fun x28 ex28 => ?_)
  obtain rfl : nI (n + 2) = x28 := (ex28.trans (nI_add n 2)).symm
  refine va_sld hx hb hX hbl hbA hS (i := (nI (n + 2))) (vin_t (a := ((n + 2 : Nat) : Int)) (nI_toInt (by omega)) (by omega) (by omega)) dL_law_1635 ?_
  refine lv_topi (fun x29 ex29 => ?_)
  obtain rfl : x24 = x29 := by rw [ex29, ex24] <;> exact congrArg xs (tn_same (i := (nI (n + 2))) (j := (nI (n + 2))) (show (nI (n + 2)).toInt = ((n + 2 : Nat) : Int) from (nI_toInt (by omega))) (show (nI (n + 2)).toInt = ((n + 2 : Nat) : Int) from (nI_toInt (by omega))) (by omega))
  have hFc := gA_m hPr hGP hGA hA hS
  refine va_calli (va_runV (As := [.int x22, .int x24]) (rest := []) ⟨hx, hb, hml, hown, hts⟩ (r_farm l dC dI kA adK adV Gm H h0 x22 x24  hR) (cwV 2 hts (goodIn_app (goodIn_r _ [75, 76, 77, 50] rfl (by decide +kernel)) (goodIn_ca (goodIn_r _ [44, 45, 46, 47, 48, 49, 50, 51, 52, 53, 54, 55, 56, 57, 58, 59, 60, 61, 62, 19, 20, 21, 63, 23, 24, 64, 65, 66, 67, 68, 69, 70, 71, 72, 73, 74] rfl (by decide +kernel)) (bs_in2 _ _))) rfl rfl rfl (by decide +kernel) ⟨(Nat.le_of_ble_eq_true rfl), (Nat.le_of_ble_eq_true rfl)⟩) ⟨fun a U g mk q => by obtain ⟨q0, q1, qK, qE⟩ := q; exact ⟨q0, q1, va_K.moved (u := U) (U := U.calling g mk a) (Vm.Alike.refl U.vm) qK, EVS.blind g mk a qE⟩, RI.recv hK hR.ri, fun U hU hW => ⟨rfl, hU, va_K.moved hW.alike hK, hE.1.call hS hFc hU hW⟩⟩ rfl rfl hl.1 rfl (lv_room (Nat.le_of_ble_eq_true rfl)) dL_law_1636 ⟨show cells + 2 + 0 ≤ 603072 from by omega, show slots + 12 + 0 ≤ 7262314 from by omega⟩) hS (fun q _ h => hFc q h) hFc (fun r30 u t H locs ht hvm hw hB hz1 hk1 hS => ?_)
  (try dsimp only at hB); rw [ht] at hB
  obtain ⟨t9, et9⟩ : ∃ z, z = u := ⟨_, rfl⟩; rw [← et9] at hw hB; obtain ⟨hB, hth9⟩ := hB; obtain ⟨hw9, hw8⟩ := hw
  have hC := hC.kept (fun a h1 h2 => hk1 a h1 (gA_mn hGP h1 h2))
  have hR := hB
  have hPr : ∀ a, Pr a → a < H.size := fun a h => Nat.lt_of_lt_of_le (hPr a h) hz1
  refine lv_istore (lv' := [(6, .int r30), (5, .int r25), (0, .ref b), (1, .ref x), (2, .ref h0), (3, .ref ou), (4, .int (nI n))]) hx hb dL_law_1639 hl (by decide) rfl (fun ls hl => ?_)
  refine lv_goto (tgt := 2491) hx hb dL_law_1641 (by decide) ?_
  exact W.widen (k := cells + 1170) (n := slots + 14100) (by omega) (by omega) (kk _ H _ ls hC hR hPr hS (lv_sub hl [2, 3, 4, 5, 6] rfl))
def w_law_30 : List Cond := .initialized RL :: (HAppend.hAppend (α := List Cond) (β := List Cond) (γ := List Cond) [.codeWith yL_worth cL_worth 4 (some .int) [(0, 9, 12, 13)], .code yX11_worth cX11_worth 2 (some .int), .code yX11_needFarm cX11_needFarm 2 none, .fieldLink RX11 30 "SeaLand" "board" "LSeaLand$Board;", .code yX11_within cX11_within 3 (some .boolean), .methodLink RX11 58 yX11_within, .static yX11_within, .initialized RX11, .classLink RX11 557 "java/lang/IndexOutOfBoundsException", .initialized "java/lang/IndexOutOfBoundsException", .methodLink RX11 366 yX11_needFarm, .instanceMethod yX11_needFarm, .selects RX11 yX11_needFarm yX11_needFarm, .fieldLink RX11 16 "SeaLand" "lake" "LSeaLand$Lake;", .code yX0_worthOf cX0_worthOf 7 (some .int), .fieldLink RX0 17 "SeaLand$Board" "farmOf" "[I", .methodLink RX0 161 Lib.Math.max.name, .static Lib.Math.max.name, .initialized "java/lang/Math", .code Lib.Math.max.name Lib.Math.max.code 2 (some .int), .methodLink RX11 369 yX0_worthOf, .instanceMethod yX0_worthOf, .selects RX0 yX0_worthOf yX0_worthOf, .initialized RX0, .methodLink RL 117 yX11_worth, .instanceMethod yX11_worth, .selects RX11 yX11_worth yX11_worth, .classLink RL 13 "java/lang/IndexOutOfBoundsException", .methodLink RL 279 yL_worth, .static yL_worth, .initialized RL, .code yX12_worth cX12_worth 2 (some .int), .fieldLink RX12 194 "SeaLandModel" "thrown" "I", .code yX12_noFarm cX12_noFarm 2 (some .boolean), .fieldLink RX12 498 "SeaLandModel" "farms" "I", .code yX12_in cX12_in 3 (some .boolean), .methodLink RX12 197 yX12_in, .static yX12_in, .initialized RX12, .methodLink RX12 502 yX12_noFarm, .instanceMethod yX12_noFarm, .selects RX12 yX12_noFarm yX12_noFarm, .code yX12_throwsIf cX12_throwsIf 3 (some .boolean), .methodLink RX12 224 yX12_throwsIf, .instanceMethod yX12_throwsIf, .selects RX12 yX12_throwsIf yX12_throwsIf, .code yX12_worthOf cX12_worthOf 5 (some .int), .fieldLink RX12 113 "SeaLandModel" "farmFrom" "[I", .fieldLink RX12 116 "SeaLandModel" "farmTo" "[I", .code yX12_isIn cX12_isIn 5 (some .boolean), .methodLink RX12 207 Lib.Math.min.name, .static Lib.Math.min.name, .code Lib.Math.min.name Lib.Math.min.code 2 (some .int), .methodLink RX12 211 Lib.Math.max.name, .methodLink RX12 232 yX12_isIn, .static yX12_isIn, .fieldLink RX12 9 "SeaLandModel" "world" "[I", .methodLink RX12 505 yX12_worthOf, .instanceMethod yX12_worthOf, .selects RX12 yX12_worthOf yX12_worthOf, .methodLink RL 281 yX12_worth, .instanceMethod yX12_worth, .selects RX12 yX12_worth yX12_worth] bs2)
set_option maxHeartbeats 4000000 in
set_option maxRecDepth 100000 in
theorem law_30 {p : Program} {e : Env} {s : State} {m : MethodId} {below : List Frame} {meth : Method} {c : Code} {Q : State → Prop} (l : Launch) (hlt : l.stackTraces = false) {b L : Nat} {xs : Nat → Int32} {A : Nat → Prop} (hx : p.tables.exec = Jvm.exec) (hb : c.code = code) (hml : c.maxLocals = 7) (hown : s.vm.findClass RL = some m.cls) (hts : ∀ w ∈ w_law_30, w.before #[Value.ref b] s = true) (hX : va_X b L xs s s.heap) (hbl : b < s.heap.size) (hbA : ¬ A b) (hL : L ≤ 4096) {adK adV : Nat → Nat} (hE : EVC adK adV A s s.heap) (hN : NC s) (hAO : AO s) (hA : ∀ q : Nat, s.heap.size ≤ q → A q) {dC : Nat → ClassId} {dI : Nat → Nat → Nat} {kA : Nat → ClassId} (hK : va_K (dC, dI) vwCl (tyl kA) s) {Pr : Nat → Prop} {Gm : gT} {x h0 ou : Nat} (hPA : ∀ q, ¬ Pr q → A q) (hGP : ∀ a t, Gm a = some t → Pr a) (hGA : ∀ a t, Gm a = some t → A a) (n : Nat) (hn : n + 8 ≤ L) (H : Heap) (locs : List Loc) (cells slots : Nat) (hcl : cells + 1170 ≤ 603072) (hsl : slots + 14100 ≤ 7262314) (g : gz) (hC : CJ dC dI kA Pr g x ou H) (hR : RJ dC dI kA g h0 Gm H) (hPr : ∀ a, Pr a → a < H.size) (hS : va_S A s.heap H locs) (ls : Array Slot) (hl : lv_has ls 7 [(0, .ref b), (1, .ref x), (2, .ref h0), (3, .ref ou), (4, .int (nI n))]) (kk : ∀ (g : gz) (H : Heap) (locs : List Loc) (ls : Array Slot), CJ dC dI kA Pr g x ou H → RJ dC dI kA g h0 Gm H → (∀ a, Pr a → a < H.size) → va_S A s.heap H locs → lv_has ls 7 [(0, .ref b), (1, .ref x), (2, .ref h0), (3, .ref ou), (4, .int (nI n))] → W p l e room_1 s m #[Value.ref b] below meth c H locs (cells + 1170) (slots + 14100) Q (F0 m 2491 ls [])) : W p l e room_1 s m #[Value.ref b] below meth c H locs cells slots Q (F0 m 1644 ls []) := by
  refine lv_aload_n hx hb dL_law_1644 rfl (lv_at hl 1 rfl) ?_
  refine lv_aload_n hx hb dL_law_1645 rfl (lv_at hl 0 rfl) ?_
  refine lv_iload hx hb dL_law_1646 (lv_at hl 4 rfl) ?_
  refine lv_iconst (v := 1) hx hb dL_law_1648 (by decide) ?_
  refine lv_iadd hx hb dL_law_1649 ?_
  refine lv_topi (fun x21 ex21 => ?_)
  obtain rfl : nI (n + 1) = x21 := (ex21.trans (nI_add n 1)).symm
  refine va_sld hx hb hX hbl hbA hS (i := (nI (n + 1))) (vin_t (a := ((n + 1 : Nat) : Int)) (nI_toInt (by omega)) (by omega) (by omega)) dL_law_1650 ?_
  refine lv_topi (fun x22 ex22 => ?_)
  refine lv_aload_n hx hb dL_law_1651 rfl (lv_at hl 3 rfl) ?_
  have hFc := hPA
  refine va_calli (vx_runSW (As := [.ref x, .int x22, .ref ou]) (rest := []) ⟨hx, hb, hml, hown, hts⟩ (k_worth l hlt dC dI kA adK adV Pr H x ou x22  hPr hC) (vx_cwSW 3 hts (goodIn_app (goodIn_r _ [29, 30, 31] rfl (by decide +kernel)) (goodIn_ca (goodIn_r _ [1, 2, 3, 4, 5, 6, 7, 8, 9, 10, 11, 12, 13, 14, 15, 16, 17, 18, 19, 20, 21, 22, 23, 24, 25, 26, 27, 28] rfl (by decide +kernel)) (bs2_in _ _))) rfl rfl rfl (by decide +kernel) ⟨(Nat.le_of_ble_eq_true rfl), (Nat.le_of_ble_eq_true rfl)⟩) ⟨fun a U g mk q => by obtain ⟨q0, q1, qK, qE, qN, qA⟩ := q; exact ⟨q0, q1, va_K.moved (u := U) (U := U.calling g mk a) (Vm.Alike.refl U.vm) qK, EVC.blind g mk a qE, NC.blind g mk a qN, AO.blind g mk a qA⟩, fun U hU hW => ⟨rfl, hU, va_K.moved hW.alike hK, hE.call hS hFc hU hW, hN.call hW, hAO.call hW⟩⟩ rfl rfl hl.1 rfl (lv_room (Nat.le_of_ble_eq_true rfl)) dL_law_1652 ⟨show cells + 1 ≤ 603072 from by omega, show slots + 6 ≤ 7262314 from by omega⟩) hS (fun q _ h => hFc q h) hFc (fun r23 u t H locs ht hvm hw hB hz1 hk1 hS => ?_)
  (try dsimp only at hB); rw [ht] at hB
  have hR := hR.kept (fun a t h => hk1 a (hPr a (hGP a t h)) (fun h9 => h9 (hGP a t h)))
  have hC := hB
  have hPr : ∀ a, Pr a → a < H.size := fun a h => Nat.lt_of_lt_of_le (hPr a h) hz1
  refine lv_istore (lv' := [(5, .int r23), (0, .ref b), (1, .ref x), (2, .ref h0), (3, .ref ou), (4, .int (nI n))]) hx hb dL_law_1655 hl (by decide) rfl (fun ls hl => ?_)
  refine lv_aload_n hx hb dL_law_1657 rfl (lv_at hl 3 rfl) ?_
  refine lv_aload_n hx hb dL_law_1658 rfl (lv_at hl 1 rfl) ?_
  refine lv_iload hx hb dL_law_1659 (lv_at hl 5 rfl) ?_
  refine lv_iconst (v := 1) hx hb dL_law_1661 (by decide) ?_
  refine lv_iadd hx hb dL_law_1662 ?_
  refine lv_topi (fun x24 ex24 => ?_)
  obtain rfl : nI (n + 1) = x24 := (ex24.trans (nI_add n 1)).symm
  refine va_sld hx hb hX hbl hbA hS (i := (nI (n + 1))) (vin_t (a := ((n + 1 : Nat) : Int)) (nI_toInt (by omega)) (by omega) (by omega)) dL_law_1663 ?_
  refine lv_topi (fun x25 ex25 => ?_)
  obtain rfl : x22 = x25 := by rw [ex25, ex22] <;> exact congrArg xs (tn_same (i := (nI (n + 1))) (j := (nI (n + 1))) (show (nI (n + 1)).toInt = ((n + 1 : Nat) : Int) from (nI_toInt (by omega))) (show (nI (n + 1)).toInt = ((n + 1 : Nat) : Int) from (nI_toInt (by omega))) (by omega))
  have hFc := gA_m hPr hGP hGA hA hS
  refine va_calli (va_runV (As := [.int x22]) (rest := []) ⟨hx, hb, hml, hown, hts⟩ (r_worth l dC dI kA adK adV Gm H h0 x22  hR) (cwV 1 hts (goodIn_app (goodIn_r _ [61, 62, 63, 39] rfl (by decide +kernel)) (goodIn_ca (goodIn_r _ [32, 33, 34, 35, 36, 37, 38, 39, 40, 41, 42, 43, 44, 45, 46, 47, 48, 49, 50, 51, 52, 19, 53, 54, 18, 20, 55, 56, 57, 58, 59, 60] rfl (by decide +kernel)) (bs_in2 _ _))) rfl rfl rfl (by decide +kernel) ⟨(Nat.le_of_ble_eq_true rfl), (Nat.le_of_ble_eq_true rfl)⟩) ⟨fun a U g mk q => by obtain ⟨q0, q1, qK, qE⟩ := q; exact ⟨q0, q1, va_K.moved (u := U) (U := U.calling g mk a) (Vm.Alike.refl U.vm) qK, EVS.blind g mk a qE⟩, RI.recv hK hR.ri, fun U hU hW => ⟨rfl, hU, va_K.moved hW.alike hK, hE.1.call hS hFc hU hW⟩⟩ rfl rfl hl.1 rfl (lv_room (Nat.le_of_ble_eq_true rfl)) dL_law_1664 ⟨show cells + 1 + 0 ≤ 603072 from by omega, show slots + 6 + 0 ≤ 7262314 from by omega⟩) hS (fun q _ h => hFc q h) hFc (fun r26 u t H locs ht hvm hw hB hz1 hk1 hS => ?_)
  (try dsimp only at hB); rw [ht] at hB
  have hC := hC.kept (fun a h1 h2 => hk1 a h1 (gA_mn hGP h1 h2))
  have hR := hB
  have hPr : ∀ a, Pr a → a < H.size := fun a h => Nat.lt_of_lt_of_le (hPr a h) hz1
  refine lv_istore (lv' := [(6, .int r26), (5, .int r23), (0, .ref b), (1, .ref x), (2, .ref h0), (3, .ref ou), (4, .int (nI n))]) hx hb dL_law_1667 hl (by decide) rfl (fun ls hl => ?_)
  refine lv_goto (tgt := 2491) hx hb dL_law_1669 (by decide) ?_
  exact W.widen (k := cells + 1170) (n := slots + 14100) (by omega) (by omega) (kk g H _ ls hC hR hPr hS (lv_sub hl [2, 3, 4, 5, 6] rfl))
def w_law_31 : List Cond := .initialized RL :: (HAppend.hAppend (α := List Cond) (β := List Cond) (γ := List Cond) [.codeWith yL_choose cL_choose 4 (some .int) [(0, 9, 12, 15)], .code yX11_choose cX11_choose 2 (some .int), .code yX11_within cX11_within 3 (some .boolean), .methodLink RX11 58 yX11_within, .static yX11_within, .initialized RX11, .code yX11_needNumbers cX11_needNumbers 1 none, .classLink RX11 547 "java/lang/IllegalArgumentException", .initialized "java/lang/IllegalArgumentException", .methodLink RX11 62 yX11_needNumbers, .static yX11_needNumbers, .fieldLink RX11 30 "SeaLand" "board" "LSeaLand$Board;", .fieldLink RX11 16 "SeaLand" "lake" "LSeaLand$Lake;", .code yX0_giveFarms cX0_giveFarms 7 (some .int), .fieldLink RX0 75 "SeaLand$Board" "settled" "I", .fieldLink RX0 185 "SeaLand$Board" "holding" "I", .code yX0_firstByMark cX0_firstByMark 3 (some .int), .fieldLink RX0 37 "SeaLand$Board" "marks" "[I", .fieldLink RX0 11 "SeaLand$Board" "settlers" "[LSeaLand$Settler;", .methodLink RX0 173 yX0_firstByMark, .instanceMethod yX0_firstByMark, .selects RX0 yX0_firstByMark yX0_firstByMark, .initialized RX0, .code yX0_bestFreeFarm cX0_bestFreeFarm 6 (some .int), .fieldLink RX0 143 "SeaLand$Board" "farms" "I", .fieldLink RX0 24 "SeaLand$Board" "held" "[Z", .code yX0_worthOf cX0_worthOf 7 (some .int), .fieldLink RX0 17 "SeaLand$Board" "farmOf" "[I", .methodLink RX0 161 Lib.Math.max.name, .static Lib.Math.max.name, .initialized "java/lang/Math", .code Lib.Math.max.name Lib.Math.max.code 2 (some .int), .methodLink RX0 191 yX0_worthOf, .instanceMethod yX0_worthOf, .selects RX0 yX0_worthOf yX0_worthOf, .methodLink RX0 181 yX0_bestFreeFarm, .instanceMethod yX0_bestFreeFarm, .selects RX0 yX0_bestFreeFarm yX0_bestFreeFarm, .code yX0_gatherFacts cX0_gatherFacts 3 none, .fieldLink RX0 33 "SeaLand$Board" "facts" "[J", .code yX0_acresOf cX0_acresOf 4 (some .int), .methodLink RX0 98 yX0_acresOf, .instanceMethod yX0_acresOf, .selects RX0 yX0_acresOf yX0_acresOf, .code yX0_nearOf cX0_nearOf 5 (some .int), .code yX3_stepsToBank cX3_stepsToBank 4 (some .int), .fieldLink RX3 47 "SeaLand$Lake" "built" "I", .fieldLink RX3 27 "SeaLand$Lake" "works" "[LSeaLand$Work;", .code yX10_isBank cX10_isBank 1 (some .boolean), .fieldLink RX10 18 "SeaLand$Work" "kind" "I", .methodLink RX3 67 yX10_isBank, .instanceMethod yX10_isBank, .selects RX10 yX10_isBank yX10_isBank, .initialized RX10, .code yX11_stepsApart cX11_stepsApart 2 (some .int), .methodLink RX11 580 Lib.Math.abs.name, .static Lib.Math.abs.name, .code Lib.Math.abs.name Lib.Math.abs.code 1 (some .int), .static yX11_stepsApart, .methodLink RX3 71 Lib.Math.min.name, .static Lib.Math.min.name, .code Lib.Math.min.name Lib.Math.min.code 2 (some .int), .methodLink RX0 138 yX3_stepsToBank, .instanceMethod yX3_stepsToBank, .selects RX3 yX3_stepsToBank yX3_stepsToBank, .initialized RX3, .methodLink RX0 166 Lib.Math.min.name, .methodLink RX0 123 yX0_nearOf, .instanceMethod yX0_nearOf, .selects RX0 yX0_nearOf yX0_nearOf, .methodLink RX0 84 yX0_gatherFacts, .instanceMethod yX0_gatherFacts, .selects RX0 yX0_gatherFacts yX0_gatherFacts, .code yX0_isRuled cX0_isRuled 2 (some .boolean), .fieldLink RX0 41 "SeaLand$Board" "force" "LSeaLand$Law;", .code yX4_firstThatHolds cX4_firstThatHolds 4 (some .int), .fieldLink RX4 60 "SeaLand$Law" "lines" "I", .fieldLink RX4 18 "SeaLand$Law" "kinds" "[I", .code yX4_lineHolds cX4_lineHolds 6 (some .boolean), .fieldLink RX4 33 "SeaLand$Law" "stepFrom" "[I", .fieldLink RX4 36 "SeaLand$Law" "stepTo" "[I", .fieldLink RX4 39 "SeaLand$Law" "steps" "[I", .fieldLink RX4 42 "SeaLand$Law" "stack" "[J", .code yX4_joined cX4_joined 5 (some .long), .methodLink RX4 199 Lib.MathLoose.max_long.x, .static Lib.MathLoose.max_long.x, .code Lib.MathLoose.max_long.x Lib.MathLoose.max_long.code 4 (some .long), .methodLink RX4 195 yX4_joined, .static yX4_joined, .initialized RX4, .methodLink RX4 203 yX4_lineHolds, .instanceMethod yX4_lineHolds, .selects RX4 yX4_lineHolds yX4_lineHolds, .methodLink RX0 134 yX4_firstThatHolds, .instanceMethod yX4_firstThatHolds, .selects RX4 yX4_firstThatHolds yX4_firstThatHolds, .methodLink RX0 169 yX0_isRuled, .instanceMethod yX0_isRuled, .selects RX0 yX0_isRuled yX0_isRuled, .code yX0_ruled cX0_ruled 2 (some .int), .code yX4_sumThatHolds cX4_sumThatHolds 6 (some .long), .fieldLink RX4 21 "SeaLand$Law" "firsts" "[I", .methodLink RX0 130 yX4_sumThatHolds, .instanceMethod yX4_sumThatHolds, .selects RX4 yX4_sumThatHolds yX4_sumThatHolds, .methodLink RX0 88 yX0_ruled, .instanceMethod yX0_ruled, .selects RX0 yX0_ruled yX0_ruled, .methodLink RX11 373 yX0_giveFarms, .instanceMethod yX0_giveFarms, .selects RX0 yX0_giveFarms yX0_giveFarms, .methodLink RL 120 yX11_choose, .instanceMethod yX11_choose, .selects RX11 yX11_choose yX11_choose, .classLink RL 15 "java/lang/IllegalArgumentException", .methodLink RL 282 yL_choose, .static yL_choose, .initialized RL, .code yX12_choose cX12_choose 6 (some .int), .fieldLink RX12 194 "SeaLandModel" "thrown" "I", .code yX12_in cX12_in 3 (some .boolean), .methodLink RX12 197 yX12_in, .static yX12_in, .initialized RX12, .code yX12_throwsIf cX12_throwsIf 3 (some .boolean), .methodLink RX12 224 yX12_throwsIf, .instanceMethod yX12_throwsIf, .selects RX12 yX12_throwsIf yX12_throwsIf, .fieldLink RX12 495 "SeaLandModel" "settlers" "I", .code yX12_nextOne cX12_nextOne 3 (some .int), .fieldLink RX12 131 "SeaLandModel" "open" "[Z", .fieldLink RX12 128 "SeaLandModel" "marks" "[J", .fieldLink RX12 98 "SeaLandModel" "drawn" "[I", .methodLink RX12 508 yX12_nextOne, .instanceMethod yX12_nextOne, .selects RX12 yX12_nextOne yX12_nextOne, .code yX12_bestFarm cX12_bestFarm 3 (some .int), .fieldLink RX12 498 "SeaLandModel" "farms" "I", .fieldLink RX12 122 "SeaLandModel" "holder" "[I", .code yX12_worthOf cX12_worthOf 5 (some .int), .fieldLink RX12 113 "SeaLandModel" "farmFrom" "[I", .fieldLink RX12 116 "SeaLandModel" "farmTo" "[I", .code yX12_isIn cX12_isIn 5 (some .boolean), .methodLink RX12 207 Lib.Math.min.name, .methodLink RX12 211 Lib.Math.max.name, .methodLink RX12 232 yX12_isIn, .static yX12_isIn, .fieldLink RX12 9 "SeaLandModel" "world" "[I", .methodLink RX12 505 yX12_worthOf, .instanceMethod yX12_worthOf, .selects RX12 yX12_worthOf yX12_worthOf, .methodLink RX12 511 yX12_bestFarm, .instanceMethod yX12_bestFarm, .selects RX12 yX12_bestFarm yX12_bestFarm, .fieldLink RX12 101 "SeaLandModel" "holds" "[I", .code yX12_sumOf cX12_sumOf 6 (some .long), .code yX12_looksAt cX12_looksAt 2 none, .fieldLink RX12 76 "SeaLandModel" "facts" "[J", .code yX12_acres cX12_acres 4 (some .int), .methodLink RX12 467 yX12_acres, .instanceMethod yX12_acres, .selects RX12 yX12_acres yX12_acres, .fieldLink RX12 104 "SeaLandModel" "gain" "[I", .fieldLink RX12 79 "SeaLandModel" "age" "[I", .fieldLink RX12 82 "SeaLandModel" "sons" "[I", .fieldLink RX12 85 "SeaLandModel" "coin" "[I", .fieldLink RX12 88 "SeaLandModel" "cattle" "[I", .fieldLink RX12 91 "SeaLandModel" "isKin" "[Z", .fieldLink RX12 95 "SeaLandModel" "isBoard" "[Z", .code yX12_near cX12_near 5 (some .int), .code yX12_isDike cX12_isDike 2 (some .boolean), .code yX12_of cX12_of 3 (some .int), .code yX12_at cX12_at 2 (some .int), .methodLink RX12 214 yX12_at, .static yX12_at, .methodLink RX12 217 yX12_of, .instanceMethod yX12_of, .selects RX12 yX12_of yX12_of, .methodLink RX12 272 yX12_isDike, .instanceMethod yX12_isDike, .selects RX12 yX12_isDike yX12_isDike, .code yX12_steps cX12_steps 2 (some .int), .methodLink RX12 201 Lib.Math.abs.name, .methodLink RX12 262 yX12_steps, .static yX12_steps, .methodLink RX12 469 yX12_near, .instanceMethod yX12_near, .selects RX12 yX12_near yX12_near, .fieldLink RX12 107 "SeaLandModel" "owes" "[I", .methodLink RX12 474 yX12_looksAt, .instanceMethod yX12_looksAt, .selects RX12 yX12_looksAt yX12_looksAt, .fieldLink RX12 42 "SeaLandModel" "lines" "[I", .fieldLink RX12 45 "SeaLandModel" "sort" "[I", .code yX12_holds cX12_holds 9 (some .boolean), .fieldLink RX12 60 "SeaLandModel" "begins" "[I", .fieldLink RX12 63 "SeaLandModel" "ends" "[I", .fieldLink RX12 66 "SeaLandModel" "step" "[I", .fieldLink RX12 72 "SeaLandModel" "value" "[J", .methodLink RX12 471 Lib.MathLoose.max_long.x, .fieldLink RX12 69 "SeaLandModel" "than" "[I", .methodLink RX12 478 yX12_holds, .instanceMethod yX12_holds, .selects RX12 yX12_holds yX12_holds, .fieldLink RX12 48 "SeaLandModel" "told" "[I", .methodLink RX12 480 yX12_sumOf, .instanceMethod yX12_sumOf, .selects RX12 yX12_sumOf yX12_sumOf, .methodLink RL 284 yX12_choose, .instanceMethod yX12_choose, .selects RX12 yX12_choose yX12_choose] bs2)
set_option maxHeartbeats 4000000 in
set_option maxRecDepth 100000 in
theorem law_31 {p : Program} {e : Env} {s : State} {m : MethodId} {below : List Frame} {meth : Method} {c : Code} {Q : State → Prop} (l : Launch) (hlt : l.stackTraces = false) {b L : Nat} {xs : Nat → Int32} {A : Nat → Prop} (hx : p.tables.exec = Jvm.exec) (hb : c.code = code) (hml : c.maxLocals = 7) (hown : s.vm.findClass RL = some m.cls) (hts : ∀ w ∈ w_law_31, w.before #[Value.ref b] s = true) (hX : va_X b L xs s s.heap) (hbl : b < s.heap.size) (hbA : ¬ A b) (hL : L ≤ 4096) {adK adV : Nat → Nat} (hE : EVC adK adV A s s.heap) (hN : NC s) (hAO : AO s) (hA : ∀ q : Nat, s.heap.size ≤ q → A q) {dC : Nat → ClassId} {dI : Nat → Nat → Nat} {kA : Nat → ClassId} (hK : va_K (dC, dI) vwCl (tyl kA) s) {Pr : Nat → Prop} {Gm : gT} {x h0 ou : Nat} (hPA : ∀ q, ¬ Pr q → A q) (hGP : ∀ a t, Gm a = some t → Pr a) (hGA : ∀ a t, Gm a = some t → A a) (n : Nat) (hn : n + 8 ≤ L) (H : Heap) (locs : List Loc) (cells slots : Nat) (hcl : cells + 1170 ≤ 603072) (hsl : slots + 14100 ≤ 7262314) (g : gz) (hC : CJ dC dI kA Pr g x ou H) (hR : RJ dC dI kA g h0 Gm H) (hPr : ∀ a, Pr a → a < H.size) (hS : va_S A s.heap H locs) (ls : Array Slot) (hl : lv_has ls 7 [(0, .ref b), (1, .ref x), (2, .ref h0), (3, .ref ou), (4, .int (nI n))]) (kk : ∀ (g : gz) (H : Heap) (locs : List Loc) (ls : Array Slot), CJ dC dI kA Pr g x ou H → RJ dC dI kA g h0 Gm H → (∀ a, Pr a → a < H.size) → va_S A s.heap H locs → lv_has ls 7 [(0, .ref b), (1, .ref x), (2, .ref h0), (3, .ref ou), (4, .int (nI n))] → W p l e room_1 s m #[Value.ref b] below meth c H locs (cells + 1170) (slots + 14100) Q (F0 m 2491 ls [])) : W p l e room_1 s m #[Value.ref b] below meth c H locs cells slots Q (F0 m 1672 ls []) := by
  refine lv_aload_n hx hb dL_law_1672 rfl (lv_at hl 1 rfl) ?_
  refine lv_aload_n hx hb dL_law_1673 rfl (lv_at hl 0 rfl) ?_
  refine lv_iload hx hb dL_law_1674 (lv_at hl 4 rfl) ?_
  refine lv_iconst (v := 1) hx hb dL_law_1676 (by decide) ?_
  refine lv_iadd hx hb dL_law_1677 ?_
  refine lv_topi (fun x21 ex21 => ?_)
  obtain rfl : nI (n + 1) = x21 := (ex21.trans (nI_add n 1)).symm
  refine va_sld hx hb hX hbl hbA hS (i := (nI (n + 1))) (vin_t (a := ((n + 1 : Nat) : Int)) (nI_toInt (by omega)) (by omega) (by omega)) dL_law_1678 ?_
  refine lv_topi (fun x22 ex22 => ?_)
  refine lv_aload_n hx hb dL_law_1679 rfl (lv_at hl 3 rfl) ?_
  have hFc := hPA
  refine va_calli (vx_runSW (As := [.ref x, .int x22, .ref ou]) (rest := []) ⟨hx, hb, hml, hown, hts⟩ (k_choose l hlt dC dI kA adK adV Pr H x ou x22  hPr hC) (vx_cwSW 3 hts (goodIn_app (goodIn_r _ [116, 117, 118] rfl (by decide +kernel)) (goodIn_ca (goodIn_r _ [1, 2, 3, 4, 5, 6, 7, 8, 9, 10, 11, 12, 13, 14, 15, 16, 17, 18, 19, 20, 21, 22, 23, 24, 25, 26, 27, 28, 29, 30, 31, 32, 33, 34, 35, 36, 37, 38, 39, 40, 41, 42, 43, 44, 45, 46, 47, 48, 49, 50, 51, 52, 53, 54, 55, 56, 57, 58, 59, 60, 61, 62, 63, 64, 65, 66, 67, 68, 69, 70, 71, 72, 73, 74, 75, 76, 77, 78, 79, 80, 81, 82, 83, 84, 85, 86, 87, 88, 89, 90, 91, 92, 93, 94, 95, 96, 97, 98, 99, 100, 101, 102, 103, 104, 105, 106, 107, 108, 109, 110, 111, 112, 113, 114, 115] rfl (by decide +kernel)) (bs2_in _ _))) rfl rfl rfl (by decide +kernel) ⟨(Nat.le_of_ble_eq_true rfl), (Nat.le_of_ble_eq_true rfl)⟩) ⟨fun a U g mk q => by obtain ⟨q0, q1, qK, qE, qN, qA⟩ := q; exact ⟨q0, q1, va_K.moved (u := U) (U := U.calling g mk a) (Vm.Alike.refl U.vm) qK, EVC.blind g mk a qE, NC.blind g mk a qN, AO.blind g mk a qA⟩, fun U hU hW => ⟨rfl, hU, va_K.moved hW.alike hK, hE.call hS hFc hU hW, hN.call hW, hAO.call hW⟩⟩ rfl rfl hl.1 rfl (lv_room (Nat.le_of_ble_eq_true rfl)) dL_law_1680 ⟨show cells + 1 ≤ 603072 from by omega, show slots + 6 ≤ 7262314 from by omega⟩) hS (fun q _ h => hFc q h) hFc (fun r23 u t H locs ht hvm hw hB hz1 hk1 hS => ?_)
  (try dsimp only at hB); rw [ht] at hB
  have hR := hR.kept (fun a t h => hk1 a (hPr a (hGP a t h)) (fun h9 => h9 (hGP a t h)))
  have hC := hB
  have hPr : ∀ a, Pr a → a < H.size := fun a h => Nat.lt_of_lt_of_le (hPr a h) hz1
  refine lv_istore (lv' := [(5, .int r23), (0, .ref b), (1, .ref x), (2, .ref h0), (3, .ref ou), (4, .int (nI n))]) hx hb dL_law_1683 hl (by decide) rfl (fun ls hl => ?_)
  refine lv_aload_n hx hb dL_law_1685 rfl (lv_at hl 3 rfl) ?_
  refine lv_aload_n hx hb dL_law_1686 rfl (lv_at hl 1 rfl) ?_
  refine lv_iload hx hb dL_law_1687 (lv_at hl 5 rfl) ?_
  refine lv_iconst (v := 1) hx hb dL_law_1689 (by decide) ?_
  refine lv_iadd hx hb dL_law_1690 ?_
  refine lv_topi (fun x24 ex24 => ?_)
  obtain rfl : nI (n + 1) = x24 := (ex24.trans (nI_add n 1)).symm
  refine va_sld hx hb hX hbl hbA hS (i := (nI (n + 1))) (vin_t (a := ((n + 1 : Nat) : Int)) (nI_toInt (by omega)) (by omega) (by omega)) dL_law_1691 ?_
  refine lv_topi (fun x25 ex25 => ?_)
  obtain rfl : x22 = x25 := by rw [ex25, ex22] <;> exact congrArg xs (tn_same (i := (nI (n + 1))) (j := (nI (n + 1))) (show (nI (n + 1)).toInt = ((n + 1 : Nat) : Int) from (nI_toInt (by omega))) (show (nI (n + 1)).toInt = ((n + 1 : Nat) : Int) from (nI_toInt (by omega))) (by omega))
  have hFc := gA_m hPr hGP hGA hA hS
  refine va_calli (va_runV (As := [.int x22]) (rest := []) ⟨hx, hb, hml, hown, hts⟩ (r_choose l dC dI kA adK adV Gm H h0 x22  hR) (cwV 1 hts (goodIn_app (goodIn_r _ [209, 210, 211, 124] rfl (by decide +kernel)) (goodIn_ca (goodIn_r _ [119, 120, 121, 122, 123, 124, 125, 126, 127, 128, 129, 130, 131, 132, 133, 134, 135, 136, 137, 138, 139, 140, 141, 142, 143, 144, 61, 31, 62, 145, 30, 32, 146, 147, 148, 149, 150, 151, 152, 153, 154, 155, 156, 157, 158, 159, 160, 161, 162, 163, 164, 165, 166, 167, 168, 169, 170, 171, 172, 173, 174, 175, 176, 177, 178, 179, 180, 181, 182, 183, 57, 58, 184, 185, 186, 187, 188, 189, 190, 191, 192, 193, 194, 195, 196, 197, 198, 199, 200, 86, 87, 201, 202, 203, 204, 205, 206, 207, 208] rfl (by decide +kernel)) (bs_in2 _ _))) rfl rfl rfl (by decide +kernel) ⟨(Nat.le_of_ble_eq_true rfl), (Nat.le_of_ble_eq_true rfl)⟩) ⟨fun a U g mk q => by obtain ⟨q0, q1, qK, qE⟩ := q; exact ⟨q0, q1, va_K.moved (u := U) (U := U.calling g mk a) (Vm.Alike.refl U.vm) qK, EVS.blind g mk a qE⟩, RI.recv hK hR.ri, fun U hU hW => ⟨rfl, hU, va_K.moved hW.alike hK, hE.1.call hS hFc hU hW⟩⟩ rfl rfl hl.1 rfl (lv_room (Nat.le_of_ble_eq_true rfl)) dL_law_1692 ⟨show cells + 1 + 0 ≤ 603072 from by omega, show slots + 6 + 0 ≤ 7262314 from by omega⟩) hS (fun q _ h => hFc q h) hFc (fun r26 u t H locs ht hvm hw hB hz1 hk1 hS => ?_)
  (try dsimp only at hB); rw [ht] at hB
  have hC := hC.kept (fun a h1 h2 => hk1 a h1 (gA_mn hGP h1 h2))
  have hR := hB
  have hPr : ∀ a, Pr a → a < H.size := fun a h => Nat.lt_of_lt_of_le (hPr a h) hz1
  refine lv_istore (lv' := [(6, .int r26), (5, .int r23), (0, .ref b), (1, .ref x), (2, .ref h0), (3, .ref ou), (4, .int (nI n))]) hx hb dL_law_1695 hl (by decide) rfl (fun ls hl => ?_)
  refine lv_goto (tgt := 2491) hx hb dL_law_1697 (by decide) ?_
  exact W.widen (k := cells + 1170) (n := slots + 14100) (by omega) (by omega) (kk g H _ ls hC hR hPr hS (lv_sub hl [2, 3, 4, 5, 6] rfl))
def w_law_32 : List Cond := .initialized RL :: (HAppend.hAppend (α := List Cond) (β := List Cond) (γ := List Cond) [.codeWith yL_sow cL_sow 5 (some .int) [(0, 17, 20, 13), (0, 17, 24, 15)], .code yX11_sow cX11_sow 4 (some .boolean), .code yX11_needFarm cX11_needFarm 2 none, .fieldLink RX11 30 "SeaLand" "board" "LSeaLand$Board;", .code yX11_within cX11_within 3 (some .boolean), .methodLink RX11 58 yX11_within, .static yX11_within, .initialized RX11, .classLink RX11 557 "java/lang/IndexOutOfBoundsException", .initialized "java/lang/IndexOutOfBoundsException", .methodLink RX11 366 yX11_needFarm, .instanceMethod yX11_needFarm, .selects RX11 yX11_needFarm yX11_needFarm, .code yX11_needNumbers cX11_needNumbers 1 none, .classLink RX11 547 "java/lang/IllegalArgumentException", .initialized "java/lang/IllegalArgumentException", .methodLink RX11 62 yX11_needNumbers, .static yX11_needNumbers, .methodLink RL 123 yX11_sow, .instanceMethod yX11_sow, .selects RX11 yX11_sow yX11_sow, .classLink RL 13 "java/lang/IndexOutOfBoundsException", .classLink RL 15 "java/lang/IllegalArgumentException", .methodLink RL 285 yL_sow, .static yL_sow, .initialized RL, .code yX12_sow cX12_sow 4 (some .boolean), .fieldLink RX12 194 "SeaLandModel" "thrown" "I", .code yX12_noFarm cX12_noFarm 2 (some .boolean), .fieldLink RX12 498 "SeaLandModel" "farms" "I", .code yX12_in cX12_in 3 (some .boolean), .methodLink RX12 197 yX12_in, .static yX12_in, .initialized RX12, .methodLink RX12 502 yX12_noFarm, .instanceMethod yX12_noFarm, .selects RX12 yX12_noFarm yX12_noFarm, .code yX12_throwsIf cX12_throwsIf 3 (some .boolean), .methodLink RX12 224 yX12_throwsIf, .instanceMethod yX12_throwsIf, .selects RX12 yX12_throwsIf yX12_throwsIf, .fieldLink RX12 119 "SeaLandModel" "crop" "[I", .methodLink RL 287 yX12_sow, .instanceMethod yX12_sow, .selects RX12 yX12_sow yX12_sow] bs2)
set_option maxHeartbeats 4000000 in
set_option maxRecDepth 100000 in
theorem law_32 {p : Program} {e : Env} {s : State} {m : MethodId} {below : List Frame} {meth : Method} {c : Code} {Q : State → Prop} (l : Launch) (hlt : l.stackTraces = false) {b L : Nat} {xs : Nat → Int32} {A : Nat → Prop} (hx : p.tables.exec = Jvm.exec) (hb : c.code = code) (hml : c.maxLocals = 7) (hown : s.vm.findClass RL = some m.cls) (hts : ∀ w ∈ w_law_32, w.before #[Value.ref b] s = true) (hX : va_X b L xs s s.heap) (hbl : b < s.heap.size) (hbA : ¬ A b) (hL : L ≤ 4096) {adK adV : Nat → Nat} (hE : EVC adK adV A s s.heap) (hN : NC s) (hAO : AO s) (hA : ∀ q : Nat, s.heap.size ≤ q → A q) {dC : Nat → ClassId} {dI : Nat → Nat → Nat} {kA : Nat → ClassId} (hK : va_K (dC, dI) vwCl (tyl kA) s) {Pr : Nat → Prop} {Gm : gT} {x h0 ou : Nat} (hPA : ∀ q, ¬ Pr q → A q) (hGP : ∀ a t, Gm a = some t → Pr a) (hGA : ∀ a t, Gm a = some t → A a) (n : Nat) (hn : n + 8 ≤ L) (H : Heap) (locs : List Loc) (cells slots : Nat) (hcl : cells + 1170 ≤ 603072) (hsl : slots + 14100 ≤ 7262314) (g : gz) (hC : CJ dC dI kA Pr g x ou H) (hR : RJ dC dI kA g h0 Gm H) (hPr : ∀ a, Pr a → a < H.size) (hS : va_S A s.heap H locs) (ls : Array Slot) (hl : lv_has ls 7 [(0, .ref b), (1, .ref x), (2, .ref h0), (3, .ref ou), (4, .int (nI n))]) (kk : ∀ (g : gz) (H : Heap) (locs : List Loc) (ls : Array Slot), CJ dC dI kA Pr g x ou H → RJ dC dI kA g h0 Gm H → (∀ a, Pr a → a < H.size) → va_S A s.heap H locs → lv_has ls 7 [(0, .ref b), (1, .ref x), (2, .ref h0), (3, .ref ou), (4, .int (nI n))] → W p l e room_1 s m #[Value.ref b] below meth c H locs (cells + 1170) (slots + 14100) Q (F0 m 2491 ls [])) : W p l e room_1 s m #[Value.ref b] below meth c H locs cells slots Q (F0 m 1700 ls []) := by
  refine lv_aload_n hx hb dL_law_1700 rfl (lv_at hl 1 rfl) ?_
  refine lv_aload_n hx hb dL_law_1701 rfl (lv_at hl 0 rfl) ?_
  refine lv_iload hx hb dL_law_1702 (lv_at hl 4 rfl) ?_
  refine lv_iconst (v := 1) hx hb dL_law_1704 (by decide) ?_
  refine lv_iadd hx hb dL_law_1705 ?_
  refine lv_topi (fun x21 ex21 => ?_)
  obtain rfl : nI (n + 1) = x21 := (ex21.trans (nI_add n 1)).symm
  refine va_sld hx hb hX hbl hbA hS (i := (nI (n + 1))) (vin_t (a := ((n + 1 : Nat) : Int)) (nI_toInt (by omega)) (by omega) (by omega)) dL_law_1706 ?_
  refine lv_topi (fun x22 ex22 => ?_)
  refine lv_aload_n hx hb dL_law_1707 rfl (lv_at hl 0 rfl) ?_
  refine lv_iload hx hb dL_law_1708 (lv_at hl 4 rfl) ?_
  refine lv_iconst (v := 2) hx hb dL_law_1710 (by decide) ?_
  refine lv_iadd hx hb dL_law_1711 ?_
  refine lv_topi (fun x23 ex23 => ?_)
  obtain rfl : nI (n + 2) = x23 := (ex23.trans (nI_add n 2)).symm
  refine va_sld hx hb hX hbl hbA hS (i := (nI (n + 2))) (vin_t (a := ((n + 2 : Nat) : Int)) (nI_toInt (by omega)) (by omega) (by omega)) dL_law_1712 ?_
  refine lv_topi (fun x24 ex24 => ?_)
  refine lv_aload_n hx hb dL_law_1713 rfl (lv_at hl 3 rfl) ?_
  have hFc := hPA
  refine va_calli (vx_runSW (As := [.ref x, .int x22, .int x24, .ref ou]) (rest := []) ⟨hx, hb, hml, hown, hts⟩ (k_sow l hlt dC dI kA adK adV Pr H x ou x22 x24  hPr hC) (vx_cwSW 4 hts (goodIn_app (goodIn_r _ [24, 25, 26] rfl (by decide +kernel)) (goodIn_ca (goodIn_r _ [1, 2, 3, 4, 5, 6, 7, 8, 9, 10, 11, 12, 13, 14, 15, 16, 17, 18, 19, 20, 21, 22, 23] rfl (by decide +kernel)) (bs2_in _ _))) rfl rfl rfl (by decide +kernel) ⟨(Nat.le_of_ble_eq_true rfl), (Nat.le_of_ble_eq_true rfl)⟩) ⟨fun a U g mk q => by obtain ⟨q0, q1, qK, qE, qN, qA⟩ := q; exact ⟨q0, q1, va_K.moved (u := U) (U := U.calling g mk a) (Vm.Alike.refl U.vm) qK, EVC.blind g mk a qE, NC.blind g mk a qN, AO.blind g mk a qA⟩, fun U hU hW => ⟨rfl, hU, va_K.moved hW.alike hK, hE.call hS hFc hU hW, hN.call hW, hAO.call hW⟩⟩ rfl rfl hl.1 rfl (lv_room (Nat.le_of_ble_eq_true rfl)) dL_law_1714 ⟨show cells + 2 ≤ 603072 from by omega, show slots + 12 ≤ 7262314 from by omega⟩) hS (fun q _ h => hFc q h) hFc (fun r25 u t H locs ht hvm hw hB hz1 hk1 hS => ?_)
  (try dsimp only at hB); rw [ht] at hB
  have hk9 := hw
  have hR := hR.kept (fun a t h => hk1 a (hPr a (hGP a t h)) (fun h9 => h9 (hGP a t h)))
  have hC := hB
  have hPr : ∀ a, Pr a → a < H.size := fun a h => Nat.lt_of_lt_of_le (hPr a h) hz1
  refine lv_istore (lv' := [(5, .int r25), (0, .ref b), (1, .ref x), (2, .ref h0), (3, .ref ou), (4, .int (nI n))]) hx hb dL_law_1717 hl (by decide) rfl (fun ls hl => ?_)
  refine lv_aload_n hx hb dL_law_1719 rfl (lv_at hl 3 rfl) ?_
  refine lv_aload_n hx hb dL_law_1720 rfl (lv_at hl 1 rfl) ?_
  refine lv_iload hx hb dL_law_1721 (lv_at hl 5 rfl) ?_
  refine lv_iconst (v := 1) hx hb dL_law_1723 (by decide) ?_
  refine lv_iadd hx hb dL_law_1724 ?_
  refine lv_topi (fun x26 ex26 => ?_)
  obtain rfl : nI (n + 1) = x26 := (ex26.trans (nI_add n 1)).symm
  refine va_sld hx hb hX hbl hbA hS (i := (nI (n + 1))) (vin_t (a := ((n + 1 : Nat) : Int)) (nI_toInt (by omega)) (by omega) (by omega)) dL_law_1725 ?_
  refine lv_topi (fun x27 ex27 => ?_)
  obtain rfl : x22 = x27 := by rw [ex27, ex22] <;> exact congrArg xs (tn_same (i := (nI (n + 1))) (j := (nI (n + 1))) (show (nI (n + 1)).toInt = ((n + 1 : Nat) : Int) from (nI_toInt (by omega))) (show (nI (n + 1)).toInt = ((n + 1 : Nat) : Int) from (nI_toInt (by omega))) (by omega))
  refine lv_aload_n hx hb dL_law_1726 rfl (lv_at hl 1 rfl) ?_
  refine lv_iload hx hb dL_law_1727 (lv_at hl 5 rfl) ?_
  refine lv_iconst (v := 2) hx hb dL_law_1729 (by decide) ?_
  refine lv_iadd hx hb dL_law_1730 ?_
  refine lv_topi (fun x28 ex28 => ?_)
  obtain rfl : nI (n + 2) = x28 := (ex28.trans (nI_add n 2)).symm
  refine va_sld hx hb hX hbl hbA hS (i := (nI (n + 2))) (vin_t (a := ((n + 2 : Nat) : Int)) (nI_toInt (by omega)) (by omega) (by omega)) dL_law_1731 ?_
  refine lv_topi (fun x29 ex29 => ?_)
  obtain rfl : x24 = x29 := by rw [ex29, ex24] <;> exact congrArg xs (tn_same (i := (nI (n + 2))) (j := (nI (n + 2))) (show (nI (n + 2)).toInt = ((n + 2 : Nat) : Int) from (nI_toInt (by omega))) (show (nI (n + 2)).toInt = ((n + 2 : Nat) : Int) from (nI_toInt (by omega))) (by omega))
  have hFc := gA_m hPr hGP hGA hA hS
  refine va_calli (va_runV (As := [.int x22, .int x24]) (rest := []) ⟨hx, hb, hml, hown, hts⟩ (r_sow l dC dI kA adK adV Gm H h0 x22 x24  hR) (cwV 2 hts (goodIn_app (goodIn_r _ [43, 44, 45, 34] rfl (by decide +kernel)) (goodIn_ca (goodIn_r _ [27, 28, 29, 30, 31, 32, 33, 34, 35, 36, 37, 38, 39, 40, 41, 42] rfl (by decide +kernel)) (bs_in2 _ _))) rfl rfl rfl (by decide +kernel) ⟨(Nat.le_of_ble_eq_true rfl), (Nat.le_of_ble_eq_true rfl)⟩) ⟨fun a U g mk q => by obtain ⟨q0, q1, qK, qE⟩ := q; exact ⟨q0, q1, va_K.moved (u := U) (U := U.calling g mk a) (Vm.Alike.refl U.vm) qK, EVS.blind g mk a qE⟩, RI.recv hK hR.ri, fun U hU hW => ⟨rfl, hU, va_K.moved hW.alike hK, hE.1.call hS hFc hU hW⟩⟩ rfl rfl hl.1 rfl (lv_room (Nat.le_of_ble_eq_true rfl)) dL_law_1732 ⟨show cells + 2 + 0 ≤ 603072 from by omega, show slots + 12 + 0 ≤ 7262314 from by omega⟩) hS (fun q _ h => hFc q h) hFc (fun r30 u t H locs ht hvm hw hB hz1 hk1 hS => ?_)
  (try dsimp only at hB); rw [ht] at hB
  obtain ⟨t9, et9⟩ : ∃ z, z = u := ⟨_, rfl⟩; rw [← et9] at hw hB; obtain ⟨hB, hth9⟩ := hB; obtain ⟨hw9, hw8⟩ := hw
  have hC := hC.kept (fun a h1 h2 => hk1 a h1 (gA_mn hGP h1 h2))
  have hR := hB
  have hPr : ∀ a, Pr a → a < H.size := fun a h => Nat.lt_of_lt_of_le (hPr a h) hz1
  refine lv_istore (lv' := [(6, .int r30), (5, .int r25), (0, .ref b), (1, .ref x), (2, .ref h0), (3, .ref ou), (4, .int (nI n))]) hx hb dL_law_1735 hl (by decide) rfl (fun ls hl => ?_)
  refine lv_goto (tgt := 2491) hx hb dL_law_1737 (by decide) ?_
  exact W.widen (k := cells + 1170) (n := slots + 14100) (by omega) (by omega) (kk _ H _ ls hC hR hPr hS (lv_sub hl [2, 3, 4, 5, 6] rfl))
def w_law_33 : List Cond := .initialized RL :: (HAppend.hAppend (α := List Cond) (β := List Cond) (γ := List Cond) [.codeWith yL_come cL_come 4 (some .int) [(0, 16, 19, 13)], .code yX11_come cX11_come 4 (some .boolean), .code yX11_settlerOf cX11_settlerOf 2 (some (.object "SeaLand$Settler")), .fieldLink RX11 30 "SeaLand" "board" "LSeaLand$Board;", .code yX11_within cX11_within 3 (some .boolean), .methodLink RX11 58 yX11_within, .static yX11_within, .initialized RX11, .classLink RX11 557 "java/lang/IndexOutOfBoundsException", .initialized "java/lang/IndexOutOfBoundsException", .methodLink RX11 292 yX11_settlerOf, .instanceMethod yX11_settlerOf, .selects RX11 yX11_settlerOf yX11_settlerOf, .methodLink RL 127 yX11_come, .instanceMethod yX11_come, .selects RX11 yX11_come yX11_come, .classLink RL 13 "java/lang/IndexOutOfBoundsException", .methodLink RL 288 yL_come, .static yL_come, .initialized RL, .code yX12_come cX12_come 2 (some .boolean), .fieldLink RX12 194 "SeaLandModel" "thrown" "I", .code yX12_nobody cX12_nobody 2 (some .boolean), .fieldLink RX12 495 "SeaLandModel" "settlers" "I", .code yX12_in cX12_in 3 (some .boolean), .methodLink RX12 197 yX12_in, .static yX12_in, .initialized RX12, .methodLink RX12 486 yX12_nobody, .instanceMethod yX12_nobody, .selects RX12 yX12_nobody yX12_nobody, .code yX12_throwsIf cX12_throwsIf 3 (some .boolean), .methodLink RX12 224 yX12_throwsIf, .instanceMethod yX12_throwsIf, .selects RX12 yX12_throwsIf yX12_throwsIf, .fieldLink RX12 101 "SeaLandModel" "holds" "[I", .fieldLink RX12 110 "SeaLandModel" "came" "[Z", .methodLink RL 290 yX12_come, .instanceMethod yX12_come, .selects RX12 yX12_come yX12_come] bs2)
set_option maxHeartbeats 4000000 in
set_option maxRecDepth 100000 in
theorem law_33 {p : Program} {e : Env} {s : State} {m : MethodId} {below : List Frame} {meth : Method} {c : Code} {Q : State → Prop} (l : Launch) (hlt : l.stackTraces = false) {b L : Nat} {xs : Nat → Int32} {A : Nat → Prop} (hx : p.tables.exec = Jvm.exec) (hb : c.code = code) (hml : c.maxLocals = 7) (hown : s.vm.findClass RL = some m.cls) (hts : ∀ w ∈ w_law_33, w.before #[Value.ref b] s = true) (hX : va_X b L xs s s.heap) (hbl : b < s.heap.size) (hbA : ¬ A b) (hL : L ≤ 4096) {adK adV : Nat → Nat} (hE : EVC adK adV A s s.heap) (hN : NC s) (hAO : AO s) (hA : ∀ q : Nat, s.heap.size ≤ q → A q) {dC : Nat → ClassId} {dI : Nat → Nat → Nat} {kA : Nat → ClassId} (hK : va_K (dC, dI) vwCl (tyl kA) s) {Pr : Nat → Prop} {Gm : gT} {x h0 ou : Nat} (hPA : ∀ q, ¬ Pr q → A q) (hGP : ∀ a t, Gm a = some t → Pr a) (hGA : ∀ a t, Gm a = some t → A a) (n : Nat) (hn : n + 8 ≤ L) (H : Heap) (locs : List Loc) (cells slots : Nat) (hcl : cells + 1170 ≤ 603072) (hsl : slots + 14100 ≤ 7262314) (g : gz) (hC : CJ dC dI kA Pr g x ou H) (hR : RJ dC dI kA g h0 Gm H) (hPr : ∀ a, Pr a → a < H.size) (hS : va_S A s.heap H locs) (ls : Array Slot) (hl : lv_has ls 7 [(0, .ref b), (1, .ref x), (2, .ref h0), (3, .ref ou), (4, .int (nI n))]) (kk : ∀ (g : gz) (H : Heap) (locs : List Loc) (ls : Array Slot), CJ dC dI kA Pr g x ou H → RJ dC dI kA g h0 Gm H → (∀ a, Pr a → a < H.size) → va_S A s.heap H locs → lv_has ls 7 [(0, .ref b), (1, .ref x), (2, .ref h0), (3, .ref ou), (4, .int (nI n))] → W p l e room_1 s m #[Value.ref b] below meth c H locs (cells + 1170) (slots + 14100) Q (F0 m 2491 ls [])) : W p l e room_1 s m #[Value.ref b] below meth c H locs cells slots Q (F0 m 1740 ls []) := by
  refine lv_aload_n hx hb dL_law_1740 rfl (lv_at hl 1 rfl) ?_
  refine lv_aload_n hx hb dL_law_1741 rfl (lv_at hl 0 rfl) ?_
  refine lv_iload hx hb dL_law_1742 (lv_at hl 4 rfl) ?_
  refine lv_iconst (v := 1) hx hb dL_law_1744 (by decide) ?_
  refine lv_iadd hx hb dL_law_1745 ?_
  refine lv_topi (fun x21 ex21 => ?_)
  obtain rfl : nI (n + 1) = x21 := (ex21.trans (nI_add n 1)).symm
  refine va_sld hx hb hX hbl hbA hS (i := (nI (n + 1))) (vin_t (a := ((n + 1 : Nat) : Int)) (nI_toInt (by omega)) (by omega) (by omega)) dL_law_1746 ?_
  refine lv_topi (fun x22 ex22 => ?_)
  refine lv_aload_n hx hb dL_law_1747 rfl (lv_at hl 3 rfl) ?_
  have hFc := hPA
  refine va_calli (vx_runSW (As := [.ref x, .int x22, .ref ou]) (rest := []) ⟨hx, hb, hml, hown, hts⟩ (k_come l hlt dC dI kA adK adV Pr H x ou x22  hPr hC) (vx_cwSW 3 hts (goodIn_app (goodIn_r _ [18, 19, 20] rfl (by decide +kernel)) (goodIn_ca (goodIn_r _ [1, 2, 3, 4, 5, 6, 7, 8, 9, 10, 11, 12, 13, 14, 15, 16, 17] rfl (by decide +kernel)) (bs2_in _ _))) rfl rfl rfl (by decide +kernel) ⟨(Nat.le_of_ble_eq_true rfl), (Nat.le_of_ble_eq_true rfl)⟩) ⟨fun a U g mk q => by obtain ⟨q0, q1, qK, qE, qN, qA⟩ := q; exact ⟨q0, q1, va_K.moved (u := U) (U := U.calling g mk a) (Vm.Alike.refl U.vm) qK, EVC.blind g mk a qE, NC.blind g mk a qN, AO.blind g mk a qA⟩, fun U hU hW => ⟨rfl, hU, va_K.moved hW.alike hK, hE.call hS hFc hU hW, hN.call hW, hAO.call hW⟩⟩ rfl rfl hl.1 rfl (lv_room (Nat.le_of_ble_eq_true rfl)) dL_law_1748 ⟨show cells + 1 ≤ 603072 from by omega, show slots + 6 ≤ 7262314 from by omega⟩) hS (fun q _ h => hFc q h) hFc (fun r23 u t H locs ht hvm hw hB hz1 hk1 hS => ?_)
  (try dsimp only at hB); rw [ht] at hB
  have hR := hR.kept (fun a t h => hk1 a (hPr a (hGP a t h)) (fun h9 => h9 (hGP a t h)))
  have hC := hB
  have hPr : ∀ a, Pr a → a < H.size := fun a h => Nat.lt_of_lt_of_le (hPr a h) hz1
  refine lv_istore (lv' := [(5, .int r23), (0, .ref b), (1, .ref x), (2, .ref h0), (3, .ref ou), (4, .int (nI n))]) hx hb dL_law_1751 hl (by decide) rfl (fun ls hl => ?_)
  refine lv_aload_n hx hb dL_law_1753 rfl (lv_at hl 3 rfl) ?_
  refine lv_aload_n hx hb dL_law_1754 rfl (lv_at hl 1 rfl) ?_
  refine lv_iload hx hb dL_law_1755 (lv_at hl 5 rfl) ?_
  refine lv_iconst (v := 1) hx hb dL_law_1757 (by decide) ?_
  refine lv_iadd hx hb dL_law_1758 ?_
  refine lv_topi (fun x24 ex24 => ?_)
  obtain rfl : nI (n + 1) = x24 := (ex24.trans (nI_add n 1)).symm
  refine va_sld hx hb hX hbl hbA hS (i := (nI (n + 1))) (vin_t (a := ((n + 1 : Nat) : Int)) (nI_toInt (by omega)) (by omega) (by omega)) dL_law_1759 ?_
  refine lv_topi (fun x25 ex25 => ?_)
  obtain rfl : x22 = x25 := by rw [ex25, ex22] <;> exact congrArg xs (tn_same (i := (nI (n + 1))) (j := (nI (n + 1))) (show (nI (n + 1)).toInt = ((n + 1 : Nat) : Int) from (nI_toInt (by omega))) (show (nI (n + 1)).toInt = ((n + 1 : Nat) : Int) from (nI_toInt (by omega))) (by omega))
  have hFc := gA_m hPr hGP hGA hA hS
  refine va_calli (va_runV (As := [.int x22]) (rest := []) ⟨hx, hb, hml, hown, hts⟩ (r_come l dC dI kA adK adV Gm H h0 x22  hR) (cwV 1 hts (goodIn_app (goodIn_r _ [38, 39, 40, 28] rfl (by decide +kernel)) (goodIn_ca (goodIn_r _ [21, 22, 23, 24, 25, 26, 27, 28, 29, 30, 31, 32, 33, 34, 35, 36, 37] rfl (by decide +kernel)) (bs_in2 _ _))) rfl rfl rfl (by decide +kernel) ⟨(Nat.le_of_ble_eq_true rfl), (Nat.le_of_ble_eq_true rfl)⟩) ⟨fun a U g mk q => by obtain ⟨q0, q1, qK, qE⟩ := q; exact ⟨q0, q1, va_K.moved (u := U) (U := U.calling g mk a) (Vm.Alike.refl U.vm) qK, EVS.blind g mk a qE⟩, RI.recv hK hR.ri, fun U hU hW => ⟨rfl, hU, va_K.moved hW.alike hK, hE.1.call hS hFc hU hW⟩⟩ rfl rfl hl.1 rfl (lv_room (Nat.le_of_ble_eq_true rfl)) dL_law_1760 ⟨show cells + 1 + 0 ≤ 603072 from by omega, show slots + 6 + 0 ≤ 7262314 from by omega⟩) hS (fun q _ h => hFc q h) hFc (fun r26 u t H locs ht hvm hw hB hz1 hk1 hS => ?_)
  (try dsimp only at hB); rw [ht] at hB
  have hC := hC.kept (fun a h1 h2 => hk1 a h1 (gA_mn hGP h1 h2))
  have hR := hB
  have hPr : ∀ a, Pr a → a < H.size := fun a h => Nat.lt_of_lt_of_le (hPr a h) hz1
  refine lv_istore (lv' := [(6, .int r26), (5, .int r23), (0, .ref b), (1, .ref x), (2, .ref h0), (3, .ref ou), (4, .int (nI n))]) hx hb dL_law_1763 hl (by decide) rfl (fun ls hl => ?_)
  refine lv_goto (tgt := 2491) hx hb dL_law_1765 (by decide) ?_
  exact W.widen (k := cells + 1170) (n := slots + 14100) (by omega) (by omega) (kk g H _ ls hC hR hPr hS (lv_sub hl [2, 3, 4, 5, 6] rfl))
def w_law_34 : List Cond := .initialized RL :: (HAppend.hAppend (α := List Cond) (β := List Cond) (γ := List Cond) [.code yX11_harvest cX11_harvest 1 (some .int), .fieldLink RX11 30 "SeaLand" "board" "LSeaLand$Board;", .fieldLink RX11 16 "SeaLand" "lake" "LSeaLand$Lake;", .code yX0_reap cX0_reap 5 (some .int), .code yX3_dayNow cX3_dayNow 1 (some .int), .fieldLink RX3 32 "SeaLand$Lake" "hour" "I", .methodLink RX0 195 yX3_dayNow, .instanceMethod yX3_dayNow, .selects RX3 yX3_dayNow yX3_dayNow, .initialized RX3, .methodLink RX0 166 Lib.Math.min.name, .static Lib.Math.min.name, .initialized "java/lang/Math", .code Lib.Math.min.name Lib.Math.min.code 2 (some .int), .fieldLink RX0 28 "SeaLand$Board" "harvested" "[Z", .fieldLink RX0 75 "SeaLand$Board" "settled" "I", .fieldLink RX0 11 "SeaLand$Board" "settlers" "[LSeaLand$Settler;", .code yX0_reapFor cX0_reapFor 5 (some .int), .fieldLink RX0 17 "SeaLand$Board" "farmOf" "[I", .fieldLink RX0 21 "SeaLand$Board" "crops" "[I", .code yX0_broughtBy cX0_broughtBy 6 (some .int), .methodLink RX0 211 yX0_broughtBy, .static yX0_broughtBy, .initialized RX0, .methodLink RX0 198 yX0_reapFor, .instanceMethod yX0_reapFor, .selects RX0 yX0_reapFor yX0_reapFor, .code yX0_payDues cX0_payDues 5 none, .code yX0_gatherFacts cX0_gatherFacts 3 none, .fieldLink RX0 33 "SeaLand$Board" "facts" "[J", .code yX0_acresOf cX0_acresOf 4 (some .int), .methodLink RX0 98 yX0_acresOf, .instanceMethod yX0_acresOf, .selects RX0 yX0_acresOf yX0_acresOf, .code yX0_nearOf cX0_nearOf 5 (some .int), .code yX3_stepsToBank cX3_stepsToBank 4 (some .int), .fieldLink RX3 47 "SeaLand$Lake" "built" "I", .fieldLink RX3 27 "SeaLand$Lake" "works" "[LSeaLand$Work;", .code yX10_isBank cX10_isBank 1 (some .boolean), .fieldLink RX10 18 "SeaLand$Work" "kind" "I", .methodLink RX3 67 yX10_isBank, .instanceMethod yX10_isBank, .selects RX10 yX10_isBank yX10_isBank, .initialized RX10, .code yX11_stepsApart cX11_stepsApart 2 (some .int), .methodLink RX11 580 Lib.Math.abs.name, .static Lib.Math.abs.name, .code Lib.Math.abs.name Lib.Math.abs.code 1 (some .int), .initialized RX11, .static yX11_stepsApart, .methodLink RX3 71 Lib.Math.min.name, .methodLink RX0 138 yX3_stepsToBank, .instanceMethod yX3_stepsToBank, .selects RX3 yX3_stepsToBank yX3_stepsToBank, .methodLink RX0 123 yX0_nearOf, .instanceMethod yX0_nearOf, .selects RX0 yX0_nearOf yX0_nearOf, .methodLink RX0 84 yX0_gatherFacts, .instanceMethod yX0_gatherFacts, .selects RX0 yX0_gatherFacts yX0_gatherFacts, .code yX0_duesAndGain cX0_duesAndGain 3 (some .int), .fieldLink RX0 41 "SeaLand$Board" "force" "LSeaLand$Law;", .code yX4_sumThatHolds cX4_sumThatHolds 6 (some .long), .fieldLink RX4 60 "SeaLand$Law" "lines" "I", .fieldLink RX4 18 "SeaLand$Law" "kinds" "[I", .code yX4_lineHolds cX4_lineHolds 6 (some .boolean), .fieldLink RX4 33 "SeaLand$Law" "stepFrom" "[I", .fieldLink RX4 36 "SeaLand$Law" "stepTo" "[I", .fieldLink RX4 39 "SeaLand$Law" "steps" "[I", .fieldLink RX4 42 "SeaLand$Law" "stack" "[J", .code yX4_joined cX4_joined 5 (some .long), .methodLink RX4 199 Lib.MathLoose.max_long.x, .static Lib.MathLoose.max_long.x, .code Lib.MathLoose.max_long.x Lib.MathLoose.max_long.code 4 (some .long), .methodLink RX4 195 yX4_joined, .static yX4_joined, .initialized RX4, .methodLink RX4 203 yX4_lineHolds, .instanceMethod yX4_lineHolds, .selects RX4 yX4_lineHolds yX4_lineHolds, .fieldLink RX4 21 "SeaLand$Law" "firsts" "[I", .methodLink RX0 130 yX4_sumThatHolds, .instanceMethod yX4_sumThatHolds, .selects RX4 yX4_sumThatHolds yX4_sumThatHolds, .constantLong RX0 92 100, .methodLink RX0 215 yX0_duesAndGain, .instanceMethod yX0_duesAndGain, .selects RX0 yX0_duesAndGain yX0_duesAndGain, .code yX0_isRuled cX0_isRuled 2 (some .boolean), .code yX4_firstThatHolds cX4_firstThatHolds 4 (some .int), .methodLink RX0 134 yX4_firstThatHolds, .instanceMethod yX4_firstThatHolds, .selects RX4 yX4_firstThatHolds yX4_firstThatHolds, .methodLink RX0 169 yX0_isRuled, .instanceMethod yX0_isRuled, .selects RX0 yX0_isRuled yX0_isRuled, .code yX0_ruled cX0_ruled 2 (some .int), .methodLink RX0 88 yX0_ruled, .instanceMethod yX0_ruled, .selects RX0 yX0_ruled yX0_ruled, .constant RX0 218 2000000000, .fieldLink RX0 219 "SeaLand$Board" "coin" "I", .methodLink RX0 202 yX0_payDues, .instanceMethod yX0_payDues, .selects RX0 yX0_payDues yX0_payDues, .code yJ7_fill_53178 cJ7_fill_53178 4 none, .methodLink RX0 55 yJ7_fill_53178, .static yJ7_fill_53178, .initialized RJ7, .methodLink RX11 386 yX0_reap, .instanceMethod yX0_reap, .selects RX0 yX0_reap yX0_reap, .methodLink RL 291 yX11_harvest, .instanceMethod yX11_harvest, .selects RX11 yX11_harvest yX11_harvest, .code yX12_harvest cX12_harvest 6 (some .int), .fieldLink RX12 194 "SeaLandModel" "thrown" "I", .code yX12_hour cX12_hour 1 (some .int), .fieldLink RX12 9 "SeaLandModel" "world" "[I", .methodLink RX12 228 yX12_hour, .instanceMethod yX12_hour, .selects RX12 yX12_hour yX12_hour, .initialized RX12, .fieldLink RX12 125 "SeaLandModel" "harvested" "I", .fieldLink RX12 495 "SeaLandModel" "settlers" "I", .fieldLink RX12 101 "SeaLandModel" "holds" "[I", .code yX12_duesOf cX12_duesOf 2 (some .int), .code yX12_sumOf cX12_sumOf 6 (some .long), .code yX12_looksAt cX12_looksAt 2 none, .fieldLink RX12 76 "SeaLandModel" "facts" "[J", .code yX12_acres cX12_acres 4 (some .int), .fieldLink RX12 113 "SeaLandModel" "farmFrom" "[I", .fieldLink RX12 116 "SeaLandModel" "farmTo" "[I", .code yX12_isIn cX12_isIn 5 (some .boolean), .methodLink RX12 207 Lib.Math.min.name, .methodLink RX12 211 Lib.Math.max.name, .static Lib.Math.max.name, .code Lib.Math.max.name Lib.Math.max.code 2 (some .int), .code yX12_in cX12_in 3 (some .boolean), .methodLink RX12 197 yX12_in, .static yX12_in, .methodLink RX12 232 yX12_isIn, .static yX12_isIn, .methodLink RX12 467 yX12_acres, .instanceMethod yX12_acres, .selects RX12 yX12_acres yX12_acres, .fieldLink RX12 104 "SeaLandModel" "gain" "[I", .fieldLink RX12 79 "SeaLandModel" "age" "[I", .fieldLink RX12 82 "SeaLandModel" "sons" "[I", .fieldLink RX12 85 "SeaLandModel" "coin" "[I", .fieldLink RX12 88 "SeaLandModel" "cattle" "[I", .fieldLink RX12 91 "SeaLandModel" "isKin" "[Z", .fieldLink RX12 95 "SeaLandModel" "isBoard" "[Z", .code yX12_near cX12_near 5 (some .int), .code yX12_isDike cX12_isDike 2 (some .boolean), .code yX12_of cX12_of 3 (some .int), .code yX12_at cX12_at 2 (some .int), .methodLink RX12 214 yX12_at, .static yX12_at, .methodLink RX12 217 yX12_of, .instanceMethod yX12_of, .selects RX12 yX12_of yX12_of, .methodLink RX12 272 yX12_isDike, .instanceMethod yX12_isDike, .selects RX12 yX12_isDike yX12_isDike, .code yX12_steps cX12_steps 2 (some .int), .methodLink RX12 201 Lib.Math.abs.name, .methodLink RX12 262 yX12_steps, .static yX12_steps, .methodLink RX12 469 yX12_near, .instanceMethod yX12_near, .selects RX12 yX12_near yX12_near, .fieldLink RX12 107 "SeaLandModel" "owes" "[I", .methodLink RX12 474 yX12_looksAt, .instanceMethod yX12_looksAt, .selects RX12 yX12_looksAt yX12_looksAt, .fieldLink RX12 42 "SeaLandModel" "lines" "[I", .fieldLink RX12 45 "SeaLandModel" "sort" "[I", .code yX12_holds cX12_holds 9 (some .boolean), .fieldLink RX12 60 "SeaLandModel" "begins" "[I", .fieldLink RX12 63 "SeaLandModel" "ends" "[I", .fieldLink RX12 66 "SeaLandModel" "step" "[I", .fieldLink RX12 72 "SeaLandModel" "value" "[J", .methodLink RX12 471 Lib.MathLoose.max_long.x, .fieldLink RX12 69 "SeaLandModel" "than" "[I", .methodLink RX12 478 yX12_holds, .instanceMethod yX12_holds, .selects RX12 yX12_holds yX12_holds, .fieldLink RX12 48 "SeaLandModel" "told" "[I", .methodLink RX12 480 yX12_sumOf, .instanceMethod yX12_sumOf, .selects RX12 yX12_sumOf yX12_sumOf, .constantLong RX12 484 100, .methodLink RX12 489 yX12_duesOf, .instanceMethod yX12_duesOf, .selects RX12 yX12_duesOf yX12_duesOf, .fieldLink RX12 110 "SeaLandModel" "came" "[Z", .constantLong RX12 517 2000000000, .fieldLink RX12 519 "SeaLandModel" "board" "I", .methodLink RX12 521 Lib.MathLoose.min_long.x, .static Lib.MathLoose.min_long.x, .code Lib.MathLoose.min_long.x Lib.MathLoose.min_long.code 4 (some .long), .code yX12_bringsOf cX12_bringsOf 8 (some .int), .fieldLink RX12 119 "SeaLandModel" "crop" "[I", .methodLink RX12 514 yX12_bringsOf, .instanceMethod yX12_bringsOf, .selects RX12 yX12_bringsOf yX12_bringsOf, .methodLink RL 294 yX12_harvest, .instanceMethod yX12_harvest, .selects RX12 yX12_harvest yX12_harvest] bs2)
set_option maxHeartbeats 4000000 in
set_option maxRecDepth 100000 in
theorem law_34 {p : Program} {e : Env} {s : State} {m : MethodId} {below : List Frame} {meth : Method} {c : Code} {Q : State → Prop} (l : Launch) (hlt : l.stackTraces = false) {b L : Nat} {xs : Nat → Int32} {A : Nat → Prop} (hx : p.tables.exec = Jvm.exec) (hb : c.code = code) (hml : c.maxLocals = 7) (hown : s.vm.findClass RL = some m.cls) (hts : ∀ w ∈ w_law_34, w.before #[Value.ref b] s = true) (hX : va_X b L xs s s.heap) (hbl : b < s.heap.size) (hbA : ¬ A b) (hL : L ≤ 4096) {adK adV : Nat → Nat} (hE : EVC adK adV A s s.heap) (hN : NC s) (hAO : AO s) (hA : ∀ q : Nat, s.heap.size ≤ q → A q) {dC : Nat → ClassId} {dI : Nat → Nat → Nat} {kA : Nat → ClassId} (hK : va_K (dC, dI) vwCl (tyl kA) s) {Pr : Nat → Prop} {Gm : gT} {x h0 ou : Nat} (hPA : ∀ q, ¬ Pr q → A q) (hGP : ∀ a t, Gm a = some t → Pr a) (hGA : ∀ a t, Gm a = some t → A a) (n : Nat) (hn : n + 8 ≤ L) (H : Heap) (locs : List Loc) (cells slots : Nat) (hcl : cells + 1170 ≤ 603072) (hsl : slots + 14100 ≤ 7262314) (g : gz) (hC : CJ dC dI kA Pr g x ou H) (hR : RJ dC dI kA g h0 Gm H) (hPr : ∀ a, Pr a → a < H.size) (hS : va_S A s.heap H locs) (ls : Array Slot) (hl : lv_has ls 7 [(0, .ref b), (1, .ref x), (2, .ref h0), (3, .ref ou), (4, .int (nI n))]) (kk : ∀ (g : gz) (H : Heap) (locs : List Loc) (ls : Array Slot), CJ dC dI kA Pr g x ou H → RJ dC dI kA g h0 Gm H → (∀ a, Pr a → a < H.size) → va_S A s.heap H locs → lv_has ls 7 [(0, .ref b), (1, .ref x), (2, .ref h0), (3, .ref ou), (4, .int (nI n))] → W p l e room_1 s m #[Value.ref b] below meth c H locs (cells + 1170) (slots + 14100) Q (F0 m 2491 ls [])) : W p l e room_1 s m #[Value.ref b] below meth c H locs cells slots Q (F0 m 1768 ls []) := by
  refine lv_aload_n hx hb dL_law_1768 rfl (lv_at hl 1 rfl) ?_
  have hFc := hPA
  refine va_calli (va_runV (As := []) (rest := []) ⟨hx, hb, hml, hown, hts⟩ (k_harvest l hlt dC dI kA adK adV Pr H x ou   hPr hC) (cwV 0 hts (goodIn_app (goodIn_r _ [113, 114, 115, 49] rfl (by decide +kernel)) (goodIn_ca (goodIn_r _ [1, 2, 3, 4, 5, 6, 7, 8, 9, 10, 11, 12, 13, 14, 15, 16, 17, 18, 19, 20, 21, 22, 23, 24, 25, 26, 27, 28, 29, 30, 31, 32, 33, 34, 35, 36, 37, 38, 39, 40, 41, 42, 43, 44, 45, 46, 47, 48, 49, 50, 51, 52, 53, 54, 55, 56, 57, 58, 59, 60, 61, 62, 63, 64, 65, 66, 67, 68, 69, 70, 71, 72, 73, 74, 75, 76, 77, 78, 79, 80, 81, 82, 83, 84, 85, 86, 87, 88, 89, 90, 91, 92, 93, 94, 95, 96, 97, 98, 99, 100, 101, 102, 103, 104, 105, 106, 107, 108, 109, 110, 111, 112] rfl (by decide +kernel)) (bs2_in _ _))) rfl rfl rfl (by decide +kernel) ⟨(Nat.le_of_ble_eq_true rfl), (Nat.le_of_ble_eq_true rfl)⟩) ⟨fun a U g mk q => by obtain ⟨q0, q1, qK, qE, qN, qA⟩ := q; exact ⟨q0, q1, va_K.moved (u := U) (U := U.calling g mk a) (Vm.Alike.refl U.vm) qK, EVC.blind g mk a qE, NC.blind g mk a qN, AO.blind g mk a qA⟩, CJ.recv hK hC, fun U hU hW => ⟨rfl, hU, va_K.moved hW.alike hK, hE.call hS hFc hU hW, hN.call hW, hAO.call hW⟩⟩ rfl rfl hl.1 rfl (lv_room (Nat.le_of_ble_eq_true rfl)) dL_law_1769 ⟨show cells + 0 ≤ 603072 from by omega, show slots + 0 ≤ 7262314 from by omega⟩) hS (fun q _ h => hFc q h) hFc (fun r21 u t H locs ht hvm hw hB hz1 hk1 hS => ?_)
  (try dsimp only at hB); rw [ht] at hB
  have hR := hR.kept (fun a t h => hk1 a (hPr a (hGP a t h)) (fun h9 => h9 (hGP a t h)))
  have hC := hB
  have hPr : ∀ a, Pr a → a < H.size := fun a h => Nat.lt_of_lt_of_le (hPr a h) hz1
  refine lv_pop hx hb dL_law_1772 rfl ?_
  refine lv_aload_n hx hb dL_law_1773 rfl (lv_at hl 2 rfl) ?_
  have hFc := gA_m hPr hGP hGA hA hS
  refine va_calli (va_runV (As := []) (rest := []) ⟨hx, hb, hml, hown, hts⟩ (r_harvest l dC dI kA adK adV Gm H h0   hR) (cwV 0 hts (goodIn_app (goodIn_r _ [208, 209, 210, 123] rfl (by decide +kernel)) (goodIn_ca (goodIn_r _ [116, 117, 118, 119, 120, 121, 122, 123, 124, 125, 126, 127, 128, 129, 130, 131, 132, 133, 134, 135, 12, 13, 14, 136, 137, 138, 139, 140, 141, 142, 143, 144, 145, 146, 147, 148, 149, 150, 151, 152, 153, 154, 155, 156, 157, 158, 159, 160, 161, 162, 163, 164, 165, 166, 167, 47, 48, 168, 169, 170, 171, 172, 173, 174, 175, 176, 177, 178, 179, 180, 181, 182, 183, 184, 73, 74, 185, 186, 187, 188, 189, 190, 191, 192, 193, 194, 195, 196, 197, 198, 199, 200, 201, 202, 203, 204, 205, 206, 207] rfl (by decide +kernel)) (bs_in2 _ _))) rfl rfl rfl (by decide +kernel) ⟨(Nat.le_of_ble_eq_true rfl), (Nat.le_of_ble_eq_true rfl)⟩) ⟨fun a U g mk q => by obtain ⟨q0, q1, qK, qE⟩ := q; exact ⟨q0, q1, va_K.moved (u := U) (U := U.calling g mk a) (Vm.Alike.refl U.vm) qK, EVS.blind g mk a qE⟩, RI.recv hK hR.ri, fun U hU hW => ⟨rfl, hU, va_K.moved hW.alike hK, hE.1.call hS hFc hU hW⟩⟩ rfl rfl hl.1 rfl (lv_room (Nat.le_of_ble_eq_true rfl)) dL_law_1774 ⟨show cells + 0 + 0 ≤ 603072 from by omega, show slots + 0 + 0 ≤ 7262314 from by omega⟩) hS (fun q _ h => hFc q h) hFc (fun r22 u t H locs ht hvm hw hB hz1 hk1 hS => ?_)
  (try dsimp only at hB); rw [ht] at hB
  have hC := hC.kept (fun a h1 h2 => hk1 a h1 (gA_mn hGP h1 h2))
  have hR := hB
  have hPr : ∀ a, Pr a → a < H.size := fun a h => Nat.lt_of_lt_of_le (hPr a h) hz1
  refine lv_pop hx hb dL_law_1777 rfl ?_
  refine lv_goto (tgt := 2491) hx hb dL_law_1778 (by decide) ?_
  exact W.widen (k := cells + 1170) (n := slots + 14100) (by omega) (by omega) (kk g H _ ls hC hR hPr hS (lv_sub hl [0, 1, 2, 3, 4] rfl))
def w_law_35 : List Cond := .initialized RL :: (HAppend.hAppend (α := List Cond) (β := List Cond) (γ := List Cond) [.codeWith yL_who cL_who 5 (some .int) [(0, 10, 13, 13), (0, 10, 17, 39)], .code yX11_who cX11_who 4 (some .int), .code yX11_settlerOf cX11_settlerOf 2 (some (.object "SeaLand$Settler")), .fieldLink RX11 30 "SeaLand" "board" "LSeaLand$Board;", .code yX11_within cX11_within 3 (some .boolean), .methodLink RX11 58 yX11_within, .static yX11_within, .initialized RX11, .classLink RX11 557 "java/lang/IndexOutOfBoundsException", .initialized "java/lang/IndexOutOfBoundsException", .methodLink RX11 292 yX11_settlerOf, .instanceMethod yX11_settlerOf, .selects RX11 yX11_settlerOf yX11_settlerOf, .code yX0_acresOf cX0_acresOf 4 (some .int), .fieldLink RX0 17 "SeaLand$Board" "farmOf" "[I", .methodLink RX11 399 yX0_acresOf, .instanceMethod yX0_acresOf, .selects RX0 yX0_acresOf yX0_acresOf, .initialized RX0, .fieldLink RX11 16 "SeaLand" "lake" "LSeaLand$Lake;", .code yX0_nearOf cX0_nearOf 5 (some .int), .code yX3_stepsToBank cX3_stepsToBank 4 (some .int), .fieldLink RX3 47 "SeaLand$Lake" "built" "I", .fieldLink RX3 27 "SeaLand$Lake" "works" "[LSeaLand$Work;", .code yX10_isBank cX10_isBank 1 (some .boolean), .fieldLink RX10 18 "SeaLand$Work" "kind" "I", .methodLink RX3 67 yX10_isBank, .instanceMethod yX10_isBank, .selects RX10 yX10_isBank yX10_isBank, .initialized RX10, .code yX11_stepsApart cX11_stepsApart 2 (some .int), .methodLink RX11 580 Lib.Math.abs.name, .static Lib.Math.abs.name, .initialized "java/lang/Math", .code Lib.Math.abs.name Lib.Math.abs.code 1 (some .int), .static yX11_stepsApart, .methodLink RX3 71 Lib.Math.min.name, .static Lib.Math.min.name, .code Lib.Math.min.name Lib.Math.min.code 2 (some .int), .methodLink RX0 138 yX3_stepsToBank, .instanceMethod yX3_stepsToBank, .selects RX3 yX3_stepsToBank yX3_stepsToBank, .initialized RX3, .methodLink RX0 166 Lib.Math.min.name, .methodLink RX11 402 yX0_nearOf, .instanceMethod yX0_nearOf, .selects RX0 yX0_nearOf yX0_nearOf, .classLink RX11 134 "java/util/NoSuchElementException", .initialized "java/util/NoSuchElementException", .methodLink RL 130 yX11_who, .instanceMethod yX11_who, .selects RX11 yX11_who yX11_who, .classLink RL 13 "java/lang/IndexOutOfBoundsException", .classLink RL 39 "java/util/NoSuchElementException", .methodLink RL 295 yL_who, .static yL_who, .initialized RL, .code yX12_who cX12_who 3 (some .int), .fieldLink RX12 194 "SeaLandModel" "thrown" "I", .code yX12_nobody cX12_nobody 2 (some .boolean), .fieldLink RX12 495 "SeaLandModel" "settlers" "I", .code yX12_in cX12_in 3 (some .boolean), .methodLink RX12 197 yX12_in, .static yX12_in, .initialized RX12, .methodLink RX12 486 yX12_nobody, .instanceMethod yX12_nobody, .selects RX12 yX12_nobody yX12_nobody, .code yX12_throwsIf cX12_throwsIf 3 (some .boolean), .methodLink RX12 224 yX12_throwsIf, .instanceMethod yX12_throwsIf, .selects RX12 yX12_throwsIf yX12_throwsIf, .fieldLink RX12 101 "SeaLandModel" "holds" "[I", .fieldLink RX12 85 "SeaLandModel" "coin" "[I", .fieldLink RX12 104 "SeaLandModel" "gain" "[I", .fieldLink RX12 107 "SeaLandModel" "owes" "[I", .code yX12_acres cX12_acres 4 (some .int), .fieldLink RX12 113 "SeaLandModel" "farmFrom" "[I", .fieldLink RX12 116 "SeaLandModel" "farmTo" "[I", .code yX12_isIn cX12_isIn 5 (some .boolean), .methodLink RX12 207 Lib.Math.min.name, .methodLink RX12 211 Lib.Math.max.name, .static Lib.Math.max.name, .code Lib.Math.max.name Lib.Math.max.code 2 (some .int), .methodLink RX12 232 yX12_isIn, .static yX12_isIn, .methodLink RX12 467 yX12_acres, .instanceMethod yX12_acres, .selects RX12 yX12_acres yX12_acres, .code yX12_near cX12_near 5 (some .int), .fieldLink RX12 9 "SeaLandModel" "world" "[I", .code yX12_isDike cX12_isDike 2 (some .boolean), .code yX12_of cX12_of 3 (some .int), .code yX12_at cX12_at 2 (some .int), .methodLink RX12 214 yX12_at, .static yX12_at, .methodLink RX12 217 yX12_of, .instanceMethod yX12_of, .selects RX12 yX12_of yX12_of, .methodLink RX12 272 yX12_isDike, .instanceMethod yX12_isDike, .selects RX12 yX12_isDike yX12_isDike, .code yX12_steps cX12_steps 2 (some .int), .methodLink RX12 201 Lib.Math.abs.name, .methodLink RX12 262 yX12_steps, .static yX12_steps, .methodLink RX12 469 yX12_near, .instanceMethod yX12_near, .selects RX12 yX12_near yX12_near, .methodLink RL 297 yX12_who, .instanceMethod yX12_who, .selects RX12 yX12_who yX12_who] bs2)
set_option maxHeartbeats 4000000 in
set_option maxRecDepth 100000 in
theorem law_35 {p : Program} {e : Env} {s : State} {m : MethodId} {below : List Frame} {meth : Method} {c : Code} {Q : State → Prop} (l : Launch) (hlt : l.stackTraces = false) {b L : Nat} {xs : Nat → Int32} {A : Nat → Prop} (hx : p.tables.exec = Jvm.exec) (hb : c.code = code) (hml : c.maxLocals = 7) (hown : s.vm.findClass RL = some m.cls) (hts : ∀ w ∈ w_law_35, w.before #[Value.ref b] s = true) (hX : va_X b L xs s s.heap) (hbl : b < s.heap.size) (hbA : ¬ A b) (hL : L ≤ 4096) {adK adV : Nat → Nat} (hE : EVC adK adV A s s.heap) (hN : NC s) (hAO : AO s) (hA : ∀ q : Nat, s.heap.size ≤ q → A q) {dC : Nat → ClassId} {dI : Nat → Nat → Nat} {kA : Nat → ClassId} (hK : va_K (dC, dI) vwCl (tyl kA) s) {Pr : Nat → Prop} {Gm : gT} {x h0 ou : Nat} (hPA : ∀ q, ¬ Pr q → A q) (hGP : ∀ a t, Gm a = some t → Pr a) (hGA : ∀ a t, Gm a = some t → A a) (n : Nat) (hn : n + 8 ≤ L) (H : Heap) (locs : List Loc) (cells slots : Nat) (hcl : cells + 1170 ≤ 603072) (hsl : slots + 14100 ≤ 7262314) (g : gz) (hC : CJ dC dI kA Pr g x ou H) (hR : RJ dC dI kA g h0 Gm H) (hPr : ∀ a, Pr a → a < H.size) (hS : va_S A s.heap H locs) (ls : Array Slot) (hl : lv_has ls 7 [(0, .ref b), (1, .ref x), (2, .ref h0), (3, .ref ou), (4, .int (nI n))]) (kk : ∀ (g : gz) (H : Heap) (locs : List Loc) (ls : Array Slot), CJ dC dI kA Pr g x ou H → RJ dC dI kA g h0 Gm H → (∀ a, Pr a → a < H.size) → va_S A s.heap H locs → lv_has ls 7 [(0, .ref b), (1, .ref x), (2, .ref h0), (3, .ref ou), (4, .int (nI n))] → W p l e room_1 s m #[Value.ref b] below meth c H locs (cells + 1170) (slots + 14100) Q (F0 m 2491 ls [])) : W p l e room_1 s m #[Value.ref b] below meth c H locs cells slots Q (F0 m 1781 ls []) := by
  refine lv_aload_n hx hb dL_law_1781 rfl (lv_at hl 1 rfl) ?_
  refine lv_aload_n hx hb dL_law_1782 rfl (lv_at hl 0 rfl) ?_
  refine lv_iload hx hb dL_law_1783 (lv_at hl 4 rfl) ?_
  refine lv_iconst (v := 1) hx hb dL_law_1785 (by decide) ?_
  refine lv_iadd hx hb dL_law_1786 ?_
  refine lv_topi (fun x21 ex21 => ?_)
  obtain rfl : nI (n + 1) = x21 := (ex21.trans (nI_add n 1)).symm
  refine va_sld hx hb hX hbl hbA hS (i := (nI (n + 1))) (vin_t (a := ((n + 1 : Nat) : Int)) (nI_toInt (by omega)) (by omega) (by omega)) dL_law_1787 ?_
  refine lv_topi (fun x22 ex22 => ?_)
  refine lv_aload_n hx hb dL_law_1788 rfl (lv_at hl 0 rfl) ?_
  refine lv_iload hx hb dL_law_1789 (lv_at hl 4 rfl) ?_
  refine lv_iconst (v := 2) hx hb dL_law_1791 (by decide) ?_
  refine lv_iadd hx hb dL_law_1792 ?_
  refine lv_topi (fun x23 ex23 => ?_)
  obtain rfl : nI (n + 2) = x23 := (ex23.trans (nI_add n 2)).symm
  refine va_sld hx hb hX hbl hbA hS (i := (nI (n + 2))) (vin_t (a := ((n + 2 : Nat) : Int)) (nI_toInt (by omega)) (by omega) (by omega)) dL_law_1793 ?_
  refine lv_topi (fun x24 ex24 => ?_)
  refine lv_aload_n hx hb dL_law_1794 rfl (lv_at hl 3 rfl) ?_
  have hFc := hPA
  refine va_calli (vx_runSW (As := [.ref x, .int x22, .int x24, .ref ou]) (rest := []) ⟨hx, hb, hml, hown, hts⟩ (k_who l hlt dC dI kA adK adV Pr H x ou x22 x24  hPr hC) (vx_cwSW 4 hts (goodIn_app (goodIn_r _ [55, 56, 57] rfl (by decide +kernel)) (goodIn_ca (goodIn_r _ [1, 2, 3, 4, 5, 6, 7, 8, 9, 10, 11, 12, 13, 14, 15, 16, 17, 18, 19, 20, 21, 22, 23, 24, 25, 26, 27, 28, 29, 30, 31, 32, 33, 34, 35, 36, 37, 38, 39, 40, 41, 42, 43, 44, 45, 46, 47, 48, 49, 50, 51, 52, 53, 54] rfl (by decide +kernel)) (bs2_in _ _))) rfl rfl rfl (by decide +kernel) ⟨(Nat.le_of_ble_eq_true rfl), (Nat.le_of_ble_eq_true rfl)⟩) ⟨fun a U g mk q => by obtain ⟨q0, q1, qK, qE, qN, qA⟩ := q; exact ⟨q0, q1, va_K.moved (u := U) (U := U.calling g mk a) (Vm.Alike.refl U.vm) qK, EVC.blind g mk a qE, NC.blind g mk a qN, AO.blind g mk a qA⟩, fun U hU hW => ⟨rfl, hU, va_K.moved hW.alike hK, hE.call hS hFc hU hW, hN.call hW, hAO.call hW⟩⟩ rfl rfl hl.1 rfl (lv_room (Nat.le_of_ble_eq_true rfl)) dL_law_1795 ⟨show cells + 2 ≤ 603072 from by omega, show slots + 12 ≤ 7262314 from by omega⟩) hS (fun q _ h => hFc q h) hFc (fun r25 u t H locs ht hvm hw hB hz1 hk1 hS => ?_)
  (try dsimp only at hB); rw [ht] at hB
  have hR := hR.kept (fun a t h => hk1 a (hPr a (hGP a t h)) (fun h9 => h9 (hGP a t h)))
  have hC := hB
  have hPr : ∀ a, Pr a → a < H.size := fun a h => Nat.lt_of_lt_of_le (hPr a h) hz1
  refine lv_istore (lv' := [(5, .int r25), (0, .ref b), (1, .ref x), (2, .ref h0), (3, .ref ou), (4, .int (nI n))]) hx hb dL_law_1798 hl (by decide) rfl (fun ls hl => ?_)
  refine lv_aload_n hx hb dL_law_1800 rfl (lv_at hl 3 rfl) ?_
  refine lv_aload_n hx hb dL_law_1801 rfl (lv_at hl 1 rfl) ?_
  refine lv_iload hx hb dL_law_1802 (lv_at hl 5 rfl) ?_
  refine lv_iconst (v := 1) hx hb dL_law_1804 (by decide) ?_
  refine lv_iadd hx hb dL_law_1805 ?_
  refine lv_topi (fun x26 ex26 => ?_)
  obtain rfl : nI (n + 1) = x26 := (ex26.trans (nI_add n 1)).symm
  refine va_sld hx hb hX hbl hbA hS (i := (nI (n + 1))) (vin_t (a := ((n + 1 : Nat) : Int)) (nI_toInt (by omega)) (by omega) (by omega)) dL_law_1806 ?_
  refine lv_topi (fun x27 ex27 => ?_)
  obtain rfl : x22 = x27 := by rw [ex27, ex22] <;> exact congrArg xs (tn_same (i := (nI (n + 1))) (j := (nI (n + 1))) (show (nI (n + 1)).toInt = ((n + 1 : Nat) : Int) from (nI_toInt (by omega))) (show (nI (n + 1)).toInt = ((n + 1 : Nat) : Int) from (nI_toInt (by omega))) (by omega))
  refine lv_aload_n hx hb dL_law_1807 rfl (lv_at hl 1 rfl) ?_
  refine lv_iload hx hb dL_law_1808 (lv_at hl 5 rfl) ?_
  refine lv_iconst (v := 2) hx hb dL_law_1810 (by decide) ?_
  refine lv_iadd hx hb dL_law_1811 ?_
  refine lv_topi (fun x28 ex28 => ?_)
  obtain rfl : nI (n + 2) = x28 := (ex28.trans (nI_add n 2)).symm
  refine va_sld hx hb hX hbl hbA hS (i := (nI (n + 2))) (vin_t (a := ((n + 2 : Nat) : Int)) (nI_toInt (by omega)) (by omega) (by omega)) dL_law_1812 ?_
  refine lv_topi (fun x29 ex29 => ?_)
  obtain rfl : x24 = x29 := by rw [ex29, ex24] <;> exact congrArg xs (tn_same (i := (nI (n + 2))) (j := (nI (n + 2))) (show (nI (n + 2)).toInt = ((n + 2 : Nat) : Int) from (nI_toInt (by omega))) (show (nI (n + 2)).toInt = ((n + 2 : Nat) : Int) from (nI_toInt (by omega))) (by omega))
  have hFc := gA_m hPr hGP hGA hA hS
  refine va_calli (va_runV (As := [.int x22, .int x24]) (rest := []) ⟨hx, hb, hml, hown, hts⟩ (r_who l dC dI kA adK adV Gm H h0 x22 x24  hR) (cwV 2 hts (goodIn_app (goodIn_r _ [110, 111, 112, 65] rfl (by decide +kernel)) (goodIn_ca (goodIn_r _ [58, 59, 60, 61, 62, 63, 64, 65, 66, 67, 68, 69, 70, 71, 72, 73, 74, 75, 76, 77, 78, 79, 80, 81, 38, 34, 39, 82, 83, 84, 85, 86, 87, 88, 89, 90, 91, 92, 93, 94, 95, 96, 97, 98, 99, 100, 101, 102, 103, 104, 33, 35, 105, 106, 107, 108, 109] rfl (by decide +kernel)) (bs_in2 _ _))) rfl rfl rfl (by decide +kernel) ⟨(Nat.le_of_ble_eq_true rfl), (Nat.le_of_ble_eq_true rfl)⟩) ⟨fun a U g mk q => by obtain ⟨q0, q1, qK, qE⟩ := q; exact ⟨q0, q1, va_K.moved (u := U) (U := U.calling g mk a) (Vm.Alike.refl U.vm) qK, EVS.blind g mk a qE⟩, RI.recv hK hR.ri, fun U hU hW => ⟨rfl, hU, va_K.moved hW.alike hK, hE.1.call hS hFc hU hW⟩⟩ rfl rfl hl.1 rfl (lv_room (Nat.le_of_ble_eq_true rfl)) dL_law_1813 ⟨show cells + 2 + 0 ≤ 603072 from by omega, show slots + 12 + 0 ≤ 7262314 from by omega⟩) hS (fun q _ h => hFc q h) hFc (fun r30 u t H locs ht hvm hw hB hz1 hk1 hS => ?_)
  (try dsimp only at hB); rw [ht] at hB
  have hC := hC.kept (fun a h1 h2 => hk1 a h1 (gA_mn hGP h1 h2))
  have hR := hB
  have hPr : ∀ a, Pr a → a < H.size := fun a h => Nat.lt_of_lt_of_le (hPr a h) hz1
  refine lv_istore (lv' := [(6, .int r30), (5, .int r25), (0, .ref b), (1, .ref x), (2, .ref h0), (3, .ref ou), (4, .int (nI n))]) hx hb dL_law_1816 hl (by decide) rfl (fun ls hl => ?_)
  refine lv_goto (tgt := 2491) hx hb dL_law_1818 (by decide) ?_
  exact W.widen (k := cells + 1170) (n := slots + 14100) (by omega) (by omega) (kk g H _ ls hC hR hPr hS (lv_sub hl [2, 3, 4, 5, 6] rfl))
