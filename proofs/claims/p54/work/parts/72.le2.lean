def w_law_9 : List Cond := .initialized RL :: (HAppend.hAppend (α := List Cond) (β := List Cond) (γ := List Cond) [.codeWith yL_layer cL_layer 6 (some .int) [(0, 12, 15, 13), (0, 12, 19, 15), (0, 12, 23, 50)], .code yX11_layer cX11_layer 5 (some .int), .code yX11_workOf cX11_workOf 2 (some (.object "SeaLand$Work")), .fieldLink RX11 16 "SeaLand" "lake" "LSeaLand$Lake;", .code yX11_within cX11_within 3 (some .boolean), .methodLink RX11 58 yX11_within, .static yX11_within, .initialized RX11, .classLink RX11 557 "java/lang/IndexOutOfBoundsException", .initialized "java/lang/IndexOutOfBoundsException", .methodLink RX11 167 yX11_workOf, .instanceMethod yX11_workOf, .selects RX11 yX11_workOf yX11_workOf, .code yX11_needNumbers cX11_needNumbers 1 none, .classLink RX11 547 "java/lang/IllegalArgumentException", .initialized "java/lang/IllegalArgumentException", .methodLink RX11 62 yX11_needNumbers, .static yX11_needNumbers, .code yX10_isBank cX10_isBank 1 (some .boolean), .fieldLink RX10 18 "SeaLand$Work" "kind" "I", .methodLink RX11 171 yX10_isBank, .instanceMethod yX10_isBank, .selects RX10 yX10_isBank yX10_isBank, .initialized RX10, .code yX11_needKind cX11_needKind 1 none, .classLink RX11 552 "java/lang/ClassCastException", .initialized "java/lang/ClassCastException", .methodLink RX11 177 yX11_needKind, .static yX11_needKind, .code yX10_takesLayer cX10_takesLayer 1 (some .boolean), .fieldLink RX10 34 "SeaLand$Work" "layers" "I", .methodLink RX11 180 yX10_takesLayer, .instanceMethod yX10_takesLayer, .selects RX10 yX10_takesLayer yX10_takesLayer, .fieldLink RX11 23 "SeaLand" "rows" "LSeaLand$Rows;", .code yX6_forget cX6_forget 1 none, .fieldLink RX6 18 "SeaLand$Rows" "kept" "I", .fieldLink RX6 22 "SeaLand$Rows" "oldest" "I", .methodLink RX11 76 yX6_forget, .instanceMethod yX6_forget, .selects RX6 yX6_forget yX6_forget, .initialized RX6, .code yX10_addLayer cX10_addLayer 3 none, .fieldLink RX10 9 "SeaLand$Work" "thick" "[I", .fieldLink RX10 15 "SeaLand$Work" "clay" "[I", .methodLink RX11 183 yX10_addLayer, .instanceMethod yX10_addLayer, .selects RX10 yX10_addLayer yX10_addLayer, .methodLink RL 47 yX11_layer, .instanceMethod yX11_layer, .selects RX11 yX11_layer yX11_layer, .classLink RL 13 "java/lang/IndexOutOfBoundsException", .classLink RL 15 "java/lang/IllegalArgumentException", .classLink RL 50 "java/lang/ClassCastException", .methodLink RL 210 yL_layer, .static yL_layer, .initialized RL, .code yX12_layer cX12_layer 4 (some .int), .fieldLink RX12 194 "SeaLandModel" "thrown" "I", .code yX12_noWork cX12_noWork 2 (some .boolean), .fieldLink RX12 9 "SeaLandModel" "world" "[I", .code yX12_in cX12_in 3 (some .boolean), .methodLink RX12 197 yX12_in, .static yX12_in, .initialized RX12, .methodLink RX12 269 yX12_noWork, .instanceMethod yX12_noWork, .selects RX12 yX12_noWork yX12_noWork, .code yX12_throwsIf cX12_throwsIf 3 (some .boolean), .methodLink RX12 224 yX12_throwsIf, .instanceMethod yX12_throwsIf, .selects RX12 yX12_throwsIf yX12_throwsIf, .code yX12_isDike cX12_isDike 2 (some .boolean), .code yX12_of cX12_of 3 (some .int), .code yX12_at cX12_at 2 (some .int), .methodLink RX12 214 yX12_at, .static yX12_at, .methodLink RX12 217 yX12_of, .instanceMethod yX12_of, .selects RX12 yX12_of yX12_of, .methodLink RX12 272 yX12_isDike, .instanceMethod yX12_isDike, .selects RX12 yX12_isDike yX12_isDike, .code yX12_lays cX12_lays 5 none, .fieldLink RX12 238 "SeaLandModel" "rows" "I", .methodLink RX12 275 yX12_lays, .instanceMethod yX12_lays, .selects RX12 yX12_lays yX12_lays, .methodLink RL 212 yX12_layer, .instanceMethod yX12_layer, .selects RX12 yX12_layer yX12_layer] bs2)
set_option maxHeartbeats 4000000 in
set_option maxRecDepth 100000 in
theorem law_9 {p : Program} {e : Env} {s : State} {m : MethodId} {below : List Frame} {meth : Method} {c : Code} {Q : State → Prop} (l : Launch) (hlt : l.stackTraces = false) {b L : Nat} {xs : Nat → Int32} {A : Nat → Prop} (hx : p.tables.exec = Jvm.exec) (hb : c.code = code) (hml : c.maxLocals = 7) (hown : s.vm.findClass RL = some m.cls) (hts : ∀ w ∈ w_law_9, w.before #[Value.ref b] s = true) (hX : va_X b L xs s s.heap) (hbl : b < s.heap.size) (hbA : ¬ A b) (hL : L ≤ 4096) {adK adV : Nat → Nat} (hE : EVC adK adV A s s.heap) (hN : NC s) (hAO : AO s) (hA : ∀ q : Nat, s.heap.size ≤ q → A q) {dC : Nat → ClassId} {dI : Nat → Nat → Nat} {kA : Nat → ClassId} (hK : va_K (dC, dI) vwCl (tyl kA) s) {Pr : Nat → Prop} {Gm : gT} {x h0 ou : Nat} (hPA : ∀ q, ¬ Pr q → A q) (hGP : ∀ a t, Gm a = some t → Pr a) (hGA : ∀ a t, Gm a = some t → A a) (n : Nat) (hn : n + 8 ≤ L) (H : Heap) (locs : List Loc) (cells slots : Nat) (hcl : cells + 1170 ≤ 603072) (hsl : slots + 14100 ≤ 7262314) (g : gz) (hC : CJ dC dI kA Pr g x ou H) (hR : RJ dC dI kA g h0 Gm H) (hPr : ∀ a, Pr a → a < H.size) (hS : va_S A s.heap H locs) (ls : Array Slot) (hl : lv_has ls 7 [(0, .ref b), (1, .ref x), (2, .ref h0), (3, .ref ou), (4, .int (nI n))]) (kk : ∀ (g : gz) (H : Heap) (locs : List Loc) (ls : Array Slot), CJ dC dI kA Pr g x ou H → RJ dC dI kA g h0 Gm H → (∀ a, Pr a → a < H.size) → va_S A s.heap H locs → lv_has ls 7 [(0, .ref b), (1, .ref x), (2, .ref h0), (3, .ref ou), (4, .int (nI n))] → W p l e room_1 s m #[Value.ref b] below meth c H locs (cells + 1170) (slots + 14100) Q (F0 m 2491 ls [])) : W p l e room_1 s m #[Value.ref b] below meth c H locs cells slots Q (F0 m 759 ls []) := by
  refine lv_aload_n hx hb dL_law_759 rfl (lv_at hl 1 rfl) ?_
  refine lv_aload_n hx hb dL_law_760 rfl (lv_at hl 0 rfl) ?_
  refine lv_iload hx hb dL_law_761 (lv_at hl 4 rfl) ?_
  refine lv_iconst (v := 1) hx hb dL_law_763 (by decide) ?_
  refine lv_iadd hx hb dL_law_764 ?_
  refine lv_topi (fun x21 ex21 => ?_)
  obtain rfl : nI (n + 1) = x21 := (ex21.trans (nI_add n 1)).symm
  refine va_sld hx hb hX hbl hbA hS (i := (nI (n + 1))) (vin_t (a := ((n + 1 : Nat) : Int)) (nI_toInt (by omega)) (by omega) (by omega)) dL_law_765 ?_
  refine lv_topi (fun x22 ex22 => ?_)
  refine lv_aload_n hx hb dL_law_766 rfl (lv_at hl 0 rfl) ?_
  refine lv_iload hx hb dL_law_767 (lv_at hl 4 rfl) ?_
  refine lv_iconst (v := 2) hx hb dL_law_769 (by decide) ?_
  refine lv_iadd hx hb dL_law_770 ?_
  refine lv_topi (fun x23 ex23 => ?_)
  obtain rfl : nI (n + 2) = x23 := (ex23.trans (nI_add n 2)).symm
  refine va_sld hx hb hX hbl hbA hS (i := (nI (n + 2))) (vin_t (a := ((n + 2 : Nat) : Int)) (nI_toInt (by omega)) (by omega) (by omega)) dL_law_771 ?_
  refine lv_topi (fun x24 ex24 => ?_)
  refine lv_aload_n hx hb dL_law_772 rfl (lv_at hl 0 rfl) ?_
  refine lv_iload hx hb dL_law_773 (lv_at hl 4 rfl) ?_
  refine lv_iconst (v := 3) hx hb dL_law_775 (by decide) ?_
  refine lv_iadd hx hb dL_law_776 ?_
  refine lv_topi (fun x25 ex25 => ?_)
  obtain rfl : nI (n + 3) = x25 := (ex25.trans (nI_add n 3)).symm
  refine va_sld hx hb hX hbl hbA hS (i := (nI (n + 3))) (vin_t (a := ((n + 3 : Nat) : Int)) (nI_toInt (by omega)) (by omega) (by omega)) dL_law_777 ?_
  refine lv_topi (fun x26 ex26 => ?_)
  refine lv_aload_n hx hb dL_law_778 rfl (lv_at hl 3 rfl) ?_
  have hFc := hPA
  refine va_calli (vx_runSW (As := [.ref x, .int x22, .int x24, .int x26, .ref ou]) (rest := []) ⟨hx, hb, hml, hown, hts⟩ (k_layer l hlt dC dI kA adK adV Pr H x ou x22 x24 x26  hPr hC) (vx_cwSW 5 hts (goodIn_app (goodIn_r _ [55, 56, 57] rfl (by decide +kernel)) (goodIn_ca (goodIn_r _ [1, 2, 3, 4, 5, 6, 7, 8, 9, 10, 11, 12, 13, 14, 15, 16, 17, 18, 19, 20, 21, 22, 23, 24, 25, 26, 27, 28, 29, 30, 31, 32, 33, 34, 35, 36, 37, 38, 39, 40, 41, 42, 43, 44, 45, 46, 47, 48, 49, 50, 51, 52, 53, 54] rfl (by decide +kernel)) (bs2_in _ _))) rfl rfl rfl (by decide +kernel) ⟨(Nat.le_of_ble_eq_true rfl), (Nat.le_of_ble_eq_true rfl)⟩) ⟨fun a U g mk q => by obtain ⟨q0, q1, qK, qE, qN, qA⟩ := q; exact ⟨q0, q1, va_K.moved (u := U) (U := U.calling g mk a) (Vm.Alike.refl U.vm) qK, EVC.blind g mk a qE, NC.blind g mk a qN, AO.blind g mk a qA⟩, fun U hU hW => ⟨rfl, hU, va_K.moved hW.alike hK, hE.call hS hFc hU hW, hN.call hW, hAO.call hW⟩⟩ rfl rfl hl.1 rfl (lv_room (Nat.le_of_ble_eq_true rfl)) dL_law_779 ⟨show cells + 2 ≤ 603072 from by omega, show slots + 12 ≤ 7262314 from by omega⟩) hS (fun q _ h => hFc q h) hFc (fun r27 u t H locs ht hvm hw hB hz1 hk1 hS => ?_)
  (try dsimp only at hB); rw [ht] at hB
  have hR := hR.kept (fun a t h => hk1 a (hPr a (hGP a t h)) (fun h9 => h9 (hGP a t h)))
  have hC := hB
  have hPr : ∀ a, Pr a → a < H.size := fun a h => Nat.lt_of_lt_of_le (hPr a h) hz1
  refine lv_istore (lv' := [(5, .int r27), (0, .ref b), (1, .ref x), (2, .ref h0), (3, .ref ou), (4, .int (nI n))]) hx hb dL_law_782 hl (by decide) rfl (fun ls hl => ?_)
  refine lv_aload_n hx hb dL_law_784 rfl (lv_at hl 3 rfl) ?_
  refine lv_aload_n hx hb dL_law_785 rfl (lv_at hl 1 rfl) ?_
  refine lv_iload hx hb dL_law_786 (lv_at hl 5 rfl) ?_
  refine lv_iconst (v := 1) hx hb dL_law_788 (by decide) ?_
  refine lv_iadd hx hb dL_law_789 ?_
  refine lv_topi (fun x28 ex28 => ?_)
  obtain rfl : nI (n + 1) = x28 := (ex28.trans (nI_add n 1)).symm
  refine va_sld hx hb hX hbl hbA hS (i := (nI (n + 1))) (vin_t (a := ((n + 1 : Nat) : Int)) (nI_toInt (by omega)) (by omega) (by omega)) dL_law_790 ?_
  refine lv_topi (fun x29 ex29 => ?_)
  obtain rfl : x22 = x29 := by rw [ex29, ex22] <;> exact congrArg xs (tn_same (i := (nI (n + 1))) (j := (nI (n + 1))) (show (nI (n + 1)).toInt = ((n + 1 : Nat) : Int) from (nI_toInt (by omega))) (show (nI (n + 1)).toInt = ((n + 1 : Nat) : Int) from (nI_toInt (by omega))) (by omega))
  refine lv_aload_n hx hb dL_law_791 rfl (lv_at hl 1 rfl) ?_
  refine lv_iload hx hb dL_law_792 (lv_at hl 5 rfl) ?_
  refine lv_iconst (v := 2) hx hb dL_law_794 (by decide) ?_
  refine lv_iadd hx hb dL_law_795 ?_
  refine lv_topi (fun x30 ex30 => ?_)
  obtain rfl : nI (n + 2) = x30 := (ex30.trans (nI_add n 2)).symm
  refine va_sld hx hb hX hbl hbA hS (i := (nI (n + 2))) (vin_t (a := ((n + 2 : Nat) : Int)) (nI_toInt (by omega)) (by omega) (by omega)) dL_law_796 ?_
  refine lv_topi (fun x31 ex31 => ?_)
  obtain rfl : x24 = x31 := by rw [ex31, ex24] <;> exact congrArg xs (tn_same (i := (nI (n + 2))) (j := (nI (n + 2))) (show (nI (n + 2)).toInt = ((n + 2 : Nat) : Int) from (nI_toInt (by omega))) (show (nI (n + 2)).toInt = ((n + 2 : Nat) : Int) from (nI_toInt (by omega))) (by omega))
  refine lv_aload_n hx hb dL_law_797 rfl (lv_at hl 1 rfl) ?_
  refine lv_iload hx hb dL_law_798 (lv_at hl 5 rfl) ?_
  refine lv_iconst (v := 3) hx hb dL_law_800 (by decide) ?_
  refine lv_iadd hx hb dL_law_801 ?_
  refine lv_topi (fun x32 ex32 => ?_)
  obtain rfl : nI (n + 3) = x32 := (ex32.trans (nI_add n 3)).symm
  refine va_sld hx hb hX hbl hbA hS (i := (nI (n + 3))) (vin_t (a := ((n + 3 : Nat) : Int)) (nI_toInt (by omega)) (by omega) (by omega)) dL_law_802 ?_
  refine lv_topi (fun x33 ex33 => ?_)
  obtain rfl : x26 = x33 := by rw [ex33, ex26] <;> exact congrArg xs (tn_same (i := (nI (n + 3))) (j := (nI (n + 3))) (show (nI (n + 3)).toInt = ((n + 3 : Nat) : Int) from (nI_toInt (by omega))) (show (nI (n + 3)).toInt = ((n + 3 : Nat) : Int) from (nI_toInt (by omega))) (by omega))
  have hFc := gA_m hPr hGP hGA hA hS
  refine va_calli (va_runV (As := [.int x22, .int x24, .int x26]) (rest := []) ⟨hx, hb, hml, hown, hts⟩ (r_layer l dC dI kA adK adV Gm H h0 x22 x24 x26  hR) (cwV 3 hts (goodIn_app (goodIn_r _ [89, 90, 91, 65] rfl (by decide +kernel)) (goodIn_ca (goodIn_r _ [58, 59, 60, 61, 62, 63, 64, 65, 66, 67, 68, 69, 70, 71, 72, 73, 74, 75, 76, 77, 78, 79, 80, 81, 82, 83, 84, 85, 86, 87, 88] rfl (by decide +kernel)) (bs_in2 _ _))) rfl rfl rfl (by decide +kernel) ⟨(Nat.le_of_ble_eq_true rfl), (Nat.le_of_ble_eq_true rfl)⟩) ⟨fun a U g mk q => by obtain ⟨q0, q1, qK, qE⟩ := q; exact ⟨q0, q1, va_K.moved (u := U) (U := U.calling g mk a) (Vm.Alike.refl U.vm) qK, EVS.blind g mk a qE⟩, RI.recv hK hR.ri, fun U hU hW => ⟨rfl, hU, va_K.moved hW.alike hK, hE.1.call hS hFc hU hW⟩⟩ rfl rfl hl.1 rfl (lv_room (Nat.le_of_ble_eq_true rfl)) dL_law_803 ⟨show cells + 2 + 0 ≤ 603072 from by omega, show slots + 12 + 0 ≤ 7262314 from by omega⟩) hS (fun q _ h => hFc q h) hFc (fun r34 u t H locs ht hvm hw hB hz1 hk1 hS => ?_)
  (try dsimp only at hB); rw [ht] at hB
  have hC := hC.kept (fun a h1 h2 => hk1 a h1 (gA_mn hGP h1 h2))
  have hR := hB
  have hPr : ∀ a, Pr a → a < H.size := fun a h => Nat.lt_of_lt_of_le (hPr a h) hz1
  refine lv_istore (lv' := [(6, .int r34), (5, .int r27), (0, .ref b), (1, .ref x), (2, .ref h0), (3, .ref ou), (4, .int (nI n))]) hx hb dL_law_806 hl (by decide) rfl (fun ls hl => ?_)
  refine lv_goto (tgt := 2491) hx hb dL_law_808 (by decide) ?_
  exact W.widen (k := cells + 1170) (n := slots + 14100) (by omega) (by omega) (kk g H _ ls hC hR hPr hS (lv_sub hl [2, 3, 4, 5, 6] rfl))
def w_law_10 : List Cond := .initialized RL :: (HAppend.hAppend (α := List Cond) (β := List Cond) (γ := List Cond) [.codeWith yL_mill cL_mill 7 (some .int) [(0, 14, 17, 13), (0, 14, 21, 15), (0, 14, 25, 45)], .code yX11_mill cX11_mill 5 (some .int), .code yX11_needSquare cX11_needSquare 1 none, .code yX11_within cX11_within 3 (some .boolean), .methodLink RX11 58 yX11_within, .static yX11_within, .initialized RX11, .classLink RX11 557 "java/lang/IndexOutOfBoundsException", .initialized "java/lang/IndexOutOfBoundsException", .methodLink RX11 55 yX11_needSquare, .static yX11_needSquare, .code yX11_needNumbers cX11_needNumbers 1 none, .classLink RX11 547 "java/lang/IllegalArgumentException", .initialized "java/lang/IllegalArgumentException", .methodLink RX11 62 yX11_needNumbers, .static yX11_needNumbers, .code yX11_needRoomForWork cX11_needRoomForWork 1 none, .fieldLink RX11 16 "SeaLand" "lake" "LSeaLand$Lake;", .classLink RX11 345 "java/lang/UnsupportedOperationException", .initialized "java/lang/UnsupportedOperationException", .methodLink RX11 149 yX11_needRoomForWork, .instanceMethod yX11_needRoomForWork, .selects RX11 yX11_needRoomForWork yX11_needRoomForWork, .code yX3_isFreeLand cX3_isFreeLand 2 (some .boolean), .fieldLink RX3 21 "SeaLand$Lake" "ground" "LSeaLand$Ground;", .code yX3_workOn cX3_workOn 3 (some .int), .fieldLink RX3 47 "SeaLand$Lake" "built" "I", .fieldLink RX3 27 "SeaLand$Lake" "works" "[LSeaLand$Work;", .methodLink RX3 53 yX3_workOn, .instanceMethod yX3_workOn, .selects RX3 yX3_workOn yX3_workOn, .initialized RX3, .methodLink RX11 152 yX3_isFreeLand, .instanceMethod yX3_isFreeLand, .selects RX3 yX3_isFreeLand yX3_isFreeLand, .code yX11_stepsApart cX11_stepsApart 2 (some .int), .methodLink RX11 580 Lib.Math.abs.name, .static Lib.Math.abs.name, .initialized "java/lang/Math", .code Lib.Math.abs.name Lib.Math.abs.code 1 (some .int), .methodLink RX11 160 yX11_stepsApart, .static yX11_stepsApart, .fieldLink RX11 30 "SeaLand" "board" "LSeaLand$Board;", .code yX0_buildingAllowed cX0_buildingAllowed 3 (some .boolean), .code yX3_stepsToBank cX3_stepsToBank 4 (some .int), .code yX10_isBank cX10_isBank 1 (some .boolean), .fieldLink RX10 18 "SeaLand$Work" "kind" "I", .methodLink RX3 67 yX10_isBank, .instanceMethod yX10_isBank, .selects RX10 yX10_isBank yX10_isBank, .initialized RX10, .methodLink RX3 71 Lib.Math.min.name, .static Lib.Math.min.name, .code Lib.Math.min.name Lib.Math.min.code 2 (some .int), .methodLink RX0 138 yX3_stepsToBank, .instanceMethod yX3_stepsToBank, .selects RX3 yX3_stepsToBank yX3_stepsToBank, .fieldLink RX0 41 "SeaLand$Board" "force" "LSeaLand$Law;", .code yX4_lastOf cX4_lastOf 5 (some .int), .fieldLink RX4 60 "SeaLand$Law" "lines" "I", .fieldLink RX4 18 "SeaLand$Law" "kinds" "[I", .fieldLink RX4 21 "SeaLand$Law" "firsts" "[I", .methodLink RX0 94 yX4_lastOf, .instanceMethod yX4_lastOf, .selects RX4 yX4_lastOf yX4_lastOf, .initialized RX4, .methodLink RX11 190 yX0_buildingAllowed, .instanceMethod yX0_buildingAllowed, .selects RX0 yX0_buildingAllowed yX0_buildingAllowed, .initialized RX0, .fieldLink RX11 23 "SeaLand" "rows" "LSeaLand$Rows;", .code yX6_forget cX6_forget 1 none, .fieldLink RX6 18 "SeaLand$Rows" "kept" "I", .fieldLink RX6 22 "SeaLand$Rows" "oldest" "I", .methodLink RX11 76 yX6_forget, .instanceMethod yX6_forget, .selects RX6 yX6_forget yX6_forget, .initialized RX6, .code yX3_build cX3_build 5 (some .int), .code yX10_begin cX10_begin 5 none, .fieldLink RX10 22 "SeaLand$Work" "square" "I", .fieldLink RX10 25 "SeaLand$Work" "to" "I", .fieldLink RX10 28 "SeaLand$Work" "size" "I", .fieldLink RX10 31 "SeaLand$Work" "width" "I", .fieldLink RX10 34 "SeaLand$Work" "layers" "I", .fieldLink RX10 37 "SeaLand$Work" "coal" "I", .fieldLink RX10 40 "SeaLand$Work" "on" "Z", .fieldLink RX10 44 "SeaLand$Work" "latest" "I", .fieldLink RX10 47 "SeaLand$Work" "total" "I", .methodLink RX3 60 yX10_begin, .instanceMethod yX10_begin, .selects RX10 yX10_begin yX10_begin, .methodLink RX11 163 yX3_build, .instanceMethod yX3_build, .selects RX3 yX3_build yX3_build, .methodLink RL 52 yX11_mill, .instanceMethod yX11_mill, .selects RX11 yX11_mill yX11_mill, .classLink RL 13 "java/lang/IndexOutOfBoundsException", .classLink RL 15 "java/lang/IllegalArgumentException", .classLink RL 45 "java/lang/UnsupportedOperationException", .methodLink RL 213 yL_mill, .static yL_mill, .initialized RL, .code yX12_mill cX12_mill 5 (some .int), .fieldLink RX12 194 "SeaLandModel" "thrown" "I", .code yX12_noSquare cX12_noSquare 1 (some .boolean), .code yX12_in cX12_in 3 (some .boolean), .methodLink RX12 197 yX12_in, .static yX12_in, .initialized RX12, .methodLink RX12 220 yX12_noSquare, .static yX12_noSquare, .code yX12_throwsIf cX12_throwsIf 3 (some .boolean), .methodLink RX12 224 yX12_throwsIf, .instanceMethod yX12_throwsIf, .selects RX12 yX12_throwsIf yX12_throwsIf, .fieldLink RX12 9 "SeaLandModel" "world" "[I", .code yX12_noPlace cX12_noPlace 2 (some .boolean), .code yX12_isLand cX12_isLand 2 (some .boolean), .methodLink RX12 235 yX12_isLand, .instanceMethod yX12_isLand, .selects RX12 yX12_isLand yX12_isLand, .code yX12_workOn cX12_workOn 3 (some .int), .code yX12_of cX12_of 3 (some .int), .code yX12_at cX12_at 2 (some .int), .methodLink RX12 214 yX12_at, .static yX12_at, .methodLink RX12 217 yX12_of, .instanceMethod yX12_of, .selects RX12 yX12_of yX12_of, .methodLink RX12 256 yX12_workOn, .instanceMethod yX12_workOn, .selects RX12 yX12_workOn yX12_workOn, .methodLink RX12 259 yX12_noPlace, .instanceMethod yX12_noPlace, .selects RX12 yX12_noPlace yX12_noPlace, .code yX12_steps cX12_steps 2 (some .int), .methodLink RX12 201 Lib.Math.abs.name, .methodLink RX12 262 yX12_steps, .static yX12_steps, .code yX12_mayBuildOn cX12_mayBuildOn 5 (some .boolean), .code yX12_lastOf cX12_lastOf 5 (some .int), .fieldLink RX12 42 "SeaLandModel" "lines" "[I", .fieldLink RX12 45 "SeaLandModel" "sort" "[I", .fieldLink RX12 48 "SeaLandModel" "told" "[I", .methodLink RX12 492 yX12_lastOf, .instanceMethod yX12_lastOf, .selects RX12 yX12_lastOf yX12_lastOf, .code yX12_isDike cX12_isDike 2 (some .boolean), .methodLink RX12 272 yX12_isDike, .instanceMethod yX12_isDike, .selects RX12 yX12_isDike yX12_isDike, .methodLink RX12 279 yX12_mayBuildOn, .instanceMethod yX12_mayBuildOn, .selects RX12 yX12_mayBuildOn yX12_mayBuildOn, .code yX12_builds cX12_builds 8 (some .int), .fieldLink RX12 238 "SeaLandModel" "rows" "I", .methodLink RX12 265 yX12_builds, .instanceMethod yX12_builds, .selects RX12 yX12_builds yX12_builds, .methodLink RL 216 yX12_mill, .instanceMethod yX12_mill, .selects RX12 yX12_mill yX12_mill] bs2)
set_option maxHeartbeats 4000000 in
set_option maxRecDepth 100000 in
theorem law_10 {p : Program} {e : Env} {s : State} {m : MethodId} {below : List Frame} {meth : Method} {c : Code} {Q : State → Prop} (l : Launch) (hlt : l.stackTraces = false) {b L : Nat} {xs : Nat → Int32} {A : Nat → Prop} (hx : p.tables.exec = Jvm.exec) (hb : c.code = code) (hml : c.maxLocals = 7) (hown : s.vm.findClass RL = some m.cls) (hts : ∀ w ∈ w_law_10, w.before #[Value.ref b] s = true) (hX : va_X b L xs s s.heap) (hbl : b < s.heap.size) (hbA : ¬ A b) (hL : L ≤ 4096) {adK adV : Nat → Nat} (hE : EVC adK adV A s s.heap) (hN : NC s) (hAO : AO s) (hA : ∀ q : Nat, s.heap.size ≤ q → A q) {dC : Nat → ClassId} {dI : Nat → Nat → Nat} {kA : Nat → ClassId} (hK : va_K (dC, dI) vwCl (tyl kA) s) {Pr : Nat → Prop} {Gm : gT} {x h0 ou : Nat} (hPA : ∀ q, ¬ Pr q → A q) (hGP : ∀ a t, Gm a = some t → Pr a) (hGA : ∀ a t, Gm a = some t → A a) (n : Nat) (hn : n + 8 ≤ L) (H : Heap) (locs : List Loc) (cells slots : Nat) (hcl : cells + 1170 ≤ 603072) (hsl : slots + 14100 ≤ 7262314) (g : gz) (hC : CJ dC dI kA Pr g x ou H) (hR : RJ dC dI kA g h0 Gm H) (hPr : ∀ a, Pr a → a < H.size) (hS : va_S A s.heap H locs) (ls : Array Slot) (hl : lv_has ls 7 [(0, .ref b), (1, .ref x), (2, .ref h0), (3, .ref ou), (4, .int (nI n))]) (kk : ∀ (g : gz) (H : Heap) (locs : List Loc) (ls : Array Slot), CJ dC dI kA Pr g x ou H → RJ dC dI kA g h0 Gm H → (∀ a, Pr a → a < H.size) → va_S A s.heap H locs → lv_has ls 7 [(0, .ref b), (1, .ref x), (2, .ref h0), (3, .ref ou), (4, .int (nI n))] → W p l e room_1 s m #[Value.ref b] below meth c H locs (cells + 1170) (slots + 14100) Q (F0 m 2491 ls [])) : W p l e room_1 s m #[Value.ref b] below meth c H locs cells slots Q (F0 m 811 ls []) := by
  refine lv_aload_n hx hb dL_law_811 rfl (lv_at hl 1 rfl) ?_
  refine lv_aload_n hx hb dL_law_812 rfl (lv_at hl 0 rfl) ?_
  refine lv_iload hx hb dL_law_813 (lv_at hl 4 rfl) ?_
  refine lv_iconst (v := 1) hx hb dL_law_815 (by decide) ?_
  refine lv_iadd hx hb dL_law_816 ?_
  refine lv_topi (fun x21 ex21 => ?_)
  obtain rfl : nI (n + 1) = x21 := (ex21.trans (nI_add n 1)).symm
  refine va_sld hx hb hX hbl hbA hS (i := (nI (n + 1))) (vin_t (a := ((n + 1 : Nat) : Int)) (nI_toInt (by omega)) (by omega) (by omega)) dL_law_817 ?_
  refine lv_topi (fun x22 ex22 => ?_)
  refine lv_aload_n hx hb dL_law_818 rfl (lv_at hl 0 rfl) ?_
  refine lv_iload hx hb dL_law_819 (lv_at hl 4 rfl) ?_
  refine lv_iconst (v := 2) hx hb dL_law_821 (by decide) ?_
  refine lv_iadd hx hb dL_law_822 ?_
  refine lv_topi (fun x23 ex23 => ?_)
  obtain rfl : nI (n + 2) = x23 := (ex23.trans (nI_add n 2)).symm
  refine va_sld hx hb hX hbl hbA hS (i := (nI (n + 2))) (vin_t (a := ((n + 2 : Nat) : Int)) (nI_toInt (by omega)) (by omega) (by omega)) dL_law_823 ?_
  refine lv_topi (fun x24 ex24 => ?_)
  refine lv_aload_n hx hb dL_law_824 rfl (lv_at hl 0 rfl) ?_
  refine lv_iload hx hb dL_law_825 (lv_at hl 4 rfl) ?_
  refine lv_iconst (v := 3) hx hb dL_law_827 (by decide) ?_
  refine lv_iadd hx hb dL_law_828 ?_
  refine lv_topi (fun x25 ex25 => ?_)
  obtain rfl : nI (n + 3) = x25 := (ex25.trans (nI_add n 3)).symm
  refine va_sld hx hb hX hbl hbA hS (i := (nI (n + 3))) (vin_t (a := ((n + 3 : Nat) : Int)) (nI_toInt (by omega)) (by omega) (by omega)) dL_law_829 ?_
  refine lv_topi (fun x26 ex26 => ?_)
  refine lv_aload_n hx hb dL_law_830 rfl (lv_at hl 0 rfl) ?_
  refine lv_iload hx hb dL_law_831 (lv_at hl 4 rfl) ?_
  refine lv_iconst (v := 4) hx hb dL_law_833 (by decide) ?_
  refine lv_iadd hx hb dL_law_834 ?_
  refine lv_topi (fun x27 ex27 => ?_)
  obtain rfl : nI (n + 4) = x27 := (ex27.trans (nI_add n 4)).symm
  refine va_sld hx hb hX hbl hbA hS (i := (nI (n + 4))) (vin_t (a := ((n + 4 : Nat) : Int)) (nI_toInt (by omega)) (by omega) (by omega)) dL_law_835 ?_
  refine lv_topi (fun x28 ex28 => ?_)
  have t29 : -2147483648 ≤ x28.toInt ∧ x28.toInt ≤ 2147483647 := ti_all x28
  refine lv_if_eq (tgt := 843) hx hb dL_law_836 (by decide) (fun c30 => ?_) (fun c30 => ?_)
  · have t31 : x28.toInt = 0 := ti_eq c30 rfl (by decide)
    refine lv_iconst (v := 0) hx hb dL_law_843 (by decide) ?_
    refine lv_aload_n hx hb dL_law_844 rfl (lv_at hl 3 rfl) ?_
    have hFc := hPA
    refine va_calli (vx_runSW (As := [.ref x, .int x22, .int x24, .int x26, .int 0, .ref ou]) (rest := []) ⟨hx, hb, hml, hown, hts⟩ (k_mill l hlt dC dI kA adK adV Pr H x ou x22 x24 x26 0 (by decide) hPr hC) (vx_cwSW 6 hts (goodIn_app (goodIn_r _ [102, 103, 104] rfl (by decide +kernel)) (goodIn_ca (goodIn_r _ [1, 2, 3, 4, 5, 6, 7, 8, 9, 10, 11, 12, 13, 14, 15, 16, 17, 18, 19, 20, 21, 22, 23, 24, 25, 26, 27, 28, 29, 30, 31, 32, 33, 34, 35, 36, 37, 38, 39, 40, 41, 42, 43, 44, 45, 46, 47, 48, 49, 50, 51, 52, 53, 54, 55, 56, 57, 58, 59, 60, 61, 62, 63, 64, 65, 66, 67, 68, 69, 70, 71, 72, 73, 74, 75, 76, 77, 78, 79, 80, 81, 82, 83, 84, 85, 86, 87, 88, 89, 90, 91, 92, 93, 94, 95, 96, 97, 98, 99, 100, 101] rfl (by decide +kernel)) (bs2_in _ _))) rfl rfl rfl (by decide +kernel) ⟨(Nat.le_of_ble_eq_true rfl), (Nat.le_of_ble_eq_true rfl)⟩) ⟨fun a U g mk q => by obtain ⟨q0, q1, qK, qE, qN, qA⟩ := q; exact ⟨q0, q1, va_K.moved (u := U) (U := U.calling g mk a) (Vm.Alike.refl U.vm) qK, EVC.blind g mk a qE, NC.blind g mk a qN, AO.blind g mk a qA⟩, fun U hU hW => ⟨rfl, hU, va_K.moved hW.alike hK, hE.call hS hFc hU hW, hN.call hW, hAO.call hW⟩⟩ rfl rfl hl.1 rfl (lv_room (Nat.le_of_ble_eq_true rfl)) dL_law_845 ⟨show cells + 3 ≤ 603072 from by omega, show slots + 18 ≤ 7262314 from by omega⟩) hS (fun q _ h => hFc q h) hFc (fun r32 u t H locs ht hvm hw hB hz1 hk1 hS => ?_)
    (try dsimp only at hB); rw [ht] at hB
    have hR := hR.kept (fun a t h => hk1 a (hPr a (hGP a t h)) (fun h9 => h9 (hGP a t h)))
    have hC := hB
    have hPr : ∀ a, Pr a → a < H.size := fun a h => Nat.lt_of_lt_of_le (hPr a h) hz1
    refine lv_istore (lv' := [(5, .int r32), (0, .ref b), (1, .ref x), (2, .ref h0), (3, .ref ou), (4, .int (nI n))]) hx hb dL_law_848 hl (by decide) rfl (fun ls hl => ?_)
    refine lv_aload_n hx hb dL_law_850 rfl (lv_at hl 3 rfl) ?_
    refine lv_aload_n hx hb dL_law_851 rfl (lv_at hl 1 rfl) ?_
    refine lv_iload hx hb dL_law_852 (lv_at hl 5 rfl) ?_
    refine lv_iconst (v := 1) hx hb dL_law_854 (by decide) ?_
    refine lv_iadd hx hb dL_law_855 ?_
    refine lv_topi (fun x33 ex33 => ?_)
    obtain rfl : nI (n + 1) = x33 := (ex33.trans (nI_add n 1)).symm
    refine va_sld hx hb hX hbl hbA hS (i := (nI (n + 1))) (vin_t (a := ((n + 1 : Nat) : Int)) (nI_toInt (by omega)) (by omega) (by omega)) dL_law_856 ?_
    refine lv_topi (fun x34 ex34 => ?_)
    obtain rfl : x22 = x34 := by rw [ex34, ex22] <;> exact congrArg xs (tn_same (i := (nI (n + 1))) (j := (nI (n + 1))) (show (nI (n + 1)).toInt = ((n + 1 : Nat) : Int) from (nI_toInt (by omega))) (show (nI (n + 1)).toInt = ((n + 1 : Nat) : Int) from (nI_toInt (by omega))) (by omega))
    refine lv_aload_n hx hb dL_law_857 rfl (lv_at hl 1 rfl) ?_
    refine lv_iload hx hb dL_law_858 (lv_at hl 5 rfl) ?_
    refine lv_iconst (v := 2) hx hb dL_law_860 (by decide) ?_
    refine lv_iadd hx hb dL_law_861 ?_
    refine lv_topi (fun x35 ex35 => ?_)
    obtain rfl : nI (n + 2) = x35 := (ex35.trans (nI_add n 2)).symm
    refine va_sld hx hb hX hbl hbA hS (i := (nI (n + 2))) (vin_t (a := ((n + 2 : Nat) : Int)) (nI_toInt (by omega)) (by omega) (by omega)) dL_law_862 ?_
    refine lv_topi (fun x36 ex36 => ?_)
    obtain rfl : x24 = x36 := by rw [ex36, ex24] <;> exact congrArg xs (tn_same (i := (nI (n + 2))) (j := (nI (n + 2))) (show (nI (n + 2)).toInt = ((n + 2 : Nat) : Int) from (nI_toInt (by omega))) (show (nI (n + 2)).toInt = ((n + 2 : Nat) : Int) from (nI_toInt (by omega))) (by omega))
    refine lv_aload_n hx hb dL_law_863 rfl (lv_at hl 1 rfl) ?_
    refine lv_iload hx hb dL_law_864 (lv_at hl 5 rfl) ?_
    refine lv_iconst (v := 3) hx hb dL_law_866 (by decide) ?_
    refine lv_iadd hx hb dL_law_867 ?_
    refine lv_topi (fun x37 ex37 => ?_)
    obtain rfl : nI (n + 3) = x37 := (ex37.trans (nI_add n 3)).symm
    refine va_sld hx hb hX hbl hbA hS (i := (nI (n + 3))) (vin_t (a := ((n + 3 : Nat) : Int)) (nI_toInt (by omega)) (by omega) (by omega)) dL_law_868 ?_
    refine lv_topi (fun x38 ex38 => ?_)
    obtain rfl : x26 = x38 := by rw [ex38, ex26] <;> exact congrArg xs (tn_same (i := (nI (n + 3))) (j := (nI (n + 3))) (show (nI (n + 3)).toInt = ((n + 3 : Nat) : Int) from (nI_toInt (by omega))) (show (nI (n + 3)).toInt = ((n + 3 : Nat) : Int) from (nI_toInt (by omega))) (by omega))
    refine lv_aload_n hx hb dL_law_869 rfl (lv_at hl 1 rfl) ?_
    refine lv_iload hx hb dL_law_870 (lv_at hl 5 rfl) ?_
    refine lv_iconst (v := 4) hx hb dL_law_872 (by decide) ?_
    refine lv_iadd hx hb dL_law_873 ?_
    refine lv_topi (fun x39 ex39 => ?_)
    obtain rfl : nI (n + 4) = x39 := (ex39.trans (nI_add n 4)).symm
    refine va_sld hx hb hX hbl hbA hS (i := (nI (n + 4))) (vin_t (a := ((n + 4 : Nat) : Int)) (nI_toInt (by omega)) (by omega) (by omega)) dL_law_874 ?_
    refine lv_topi (fun x40 ex40 => ?_)
    obtain rfl : x28 = x40 := by rw [ex40, ex28] <;> exact congrArg xs (tn_same (i := (nI (n + 4))) (j := (nI (n + 4))) (show (nI (n + 4)).toInt = ((n + 4 : Nat) : Int) from (nI_toInt (by omega))) (show (nI (n + 4)).toInt = ((n + 4 : Nat) : Int) from (nI_toInt (by omega))) (by omega))
    refine lv_if_eq (tgt := 882) hx hb dL_law_875 (by decide) (fun c41 => ?_) (fun c41 => (by exfalso; have q9 : x28.toInt ≠ 0 := ti_ne c41 rfl (by decide); omega))
    have t42 : x28.toInt = 0 := ti_eq c41 rfl (by decide)
    refine lv_iconst (v := 0) hx hb dL_law_882 (by decide) ?_
    have hFc := gA_m hPr hGP hGA hA hS
    refine va_calli (va_runV (As := [.int x22, .int x24, .int x26, .int 0]) (rest := []) ⟨hx, hb, hml, hown, hts⟩ (r_mill l dC dI kA adK adV Gm H h0 x22 x24 x26 0 (by decide) hR) (cwV 4 hts (goodIn_app (goodIn_r _ [162, 163, 164, 111] rfl (by decide +kernel)) (goodIn_ca (goodIn_r _ [105, 106, 107, 108, 109, 110, 111, 112, 113, 114, 115, 116, 117, 118, 119, 120, 121, 122, 123, 124, 125, 126, 127, 128, 129, 130, 131, 132, 133, 134, 135, 136, 137, 138, 139, 38, 39, 40, 140, 141, 142, 143, 144, 145, 146, 147, 148, 149, 150, 151, 152, 153, 154, 155, 156, 157, 158, 159, 160, 161] rfl (by decide +kernel)) (bs_in2 _ _))) rfl rfl rfl (by decide +kernel) ⟨(Nat.le_of_ble_eq_true rfl), (Nat.le_of_ble_eq_true rfl)⟩) ⟨fun a U g mk q => by obtain ⟨q0, q1, qK, qE⟩ := q; exact ⟨q0, q1, va_K.moved (u := U) (U := U.calling g mk a) (Vm.Alike.refl U.vm) qK, EVS.blind g mk a qE⟩, RI.recv hK hR.ri, fun U hU hW => ⟨rfl, hU, va_K.moved hW.alike hK, hE.1.call hS hFc hU hW⟩⟩ rfl rfl hl.1 rfl (lv_room (Nat.le_of_ble_eq_true rfl)) dL_law_883 ⟨show cells + 3 + 0 ≤ 603072 from by omega, show slots + 18 + 0 ≤ 7262314 from by omega⟩) hS (fun q _ h => hFc q h) hFc (fun r43 u t H locs ht hvm hw hB hz1 hk1 hS => ?_)
    (try dsimp only at hB); rw [ht] at hB
    have hC := hC.kept (fun a h1 h2 => hk1 a h1 (gA_mn hGP h1 h2))
    have hR := hB
    have hPr : ∀ a, Pr a → a < H.size := fun a h => Nat.lt_of_lt_of_le (hPr a h) hz1
    refine lv_istore (lv' := [(6, .int r43), (5, .int r32), (0, .ref b), (1, .ref x), (2, .ref h0), (3, .ref ou), (4, .int (nI n))]) hx hb dL_law_886 hl (by decide) rfl (fun ls hl => ?_)
    refine lv_goto (tgt := 2491) hx hb dL_law_888 (by decide) ?_
    exact W.widen (k := cells + 1170) (n := slots + 14100) (by omega) (by omega) (kk g H _ ls hC hR hPr hS (lv_sub hl [2, 3, 4, 5, 6] rfl))
  · have t44 : x28.toInt ≠ 0 := ti_ne c30 rfl (by decide)
    refine lv_iconst (v := 1) hx hb dL_law_839 (by decide) ?_
    refine lv_goto (tgt := 844) hx hb dL_law_840 (by decide) ?_
    refine lv_aload_n hx hb dL_law_844 rfl (lv_at hl 3 rfl) ?_
    have hFc := hPA
    refine va_calli (vx_runSW (As := [.ref x, .int x22, .int x24, .int x26, .int 1, .ref ou]) (rest := []) ⟨hx, hb, hml, hown, hts⟩ (k_mill l hlt dC dI kA adK adV Pr H x ou x22 x24 x26 1 (by decide) hPr hC) (vx_cwSW 6 hts (goodIn_app (goodIn_r _ [102, 103, 104] rfl (by decide +kernel)) (goodIn_ca (goodIn_r _ [1, 2, 3, 4, 5, 6, 7, 8, 9, 10, 11, 12, 13, 14, 15, 16, 17, 18, 19, 20, 21, 22, 23, 24, 25, 26, 27, 28, 29, 30, 31, 32, 33, 34, 35, 36, 37, 38, 39, 40, 41, 42, 43, 44, 45, 46, 47, 48, 49, 50, 51, 52, 53, 54, 55, 56, 57, 58, 59, 60, 61, 62, 63, 64, 65, 66, 67, 68, 69, 70, 71, 72, 73, 74, 75, 76, 77, 78, 79, 80, 81, 82, 83, 84, 85, 86, 87, 88, 89, 90, 91, 92, 93, 94, 95, 96, 97, 98, 99, 100, 101] rfl (by decide +kernel)) (bs2_in _ _))) rfl rfl rfl (by decide +kernel) ⟨(Nat.le_of_ble_eq_true rfl), (Nat.le_of_ble_eq_true rfl)⟩) ⟨fun a U g mk q => by obtain ⟨q0, q1, qK, qE, qN, qA⟩ := q; exact ⟨q0, q1, va_K.moved (u := U) (U := U.calling g mk a) (Vm.Alike.refl U.vm) qK, EVC.blind g mk a qE, NC.blind g mk a qN, AO.blind g mk a qA⟩, fun U hU hW => ⟨rfl, hU, va_K.moved hW.alike hK, hE.call hS hFc hU hW, hN.call hW, hAO.call hW⟩⟩ rfl rfl hl.1 rfl (lv_room (Nat.le_of_ble_eq_true rfl)) dL_law_845 ⟨show cells + 3 ≤ 603072 from by omega, show slots + 18 ≤ 7262314 from by omega⟩) hS (fun q _ h => hFc q h) hFc (fun r45 u t H locs ht hvm hw hB hz1 hk1 hS => ?_)
    (try dsimp only at hB); rw [ht] at hB
    have hR := hR.kept (fun a t h => hk1 a (hPr a (hGP a t h)) (fun h9 => h9 (hGP a t h)))
    have hC := hB
    have hPr : ∀ a, Pr a → a < H.size := fun a h => Nat.lt_of_lt_of_le (hPr a h) hz1
    refine lv_istore (lv' := [(5, .int r45), (0, .ref b), (1, .ref x), (2, .ref h0), (3, .ref ou), (4, .int (nI n))]) hx hb dL_law_848 hl (by decide) rfl (fun ls hl => ?_)
    refine lv_aload_n hx hb dL_law_850 rfl (lv_at hl 3 rfl) ?_
    refine lv_aload_n hx hb dL_law_851 rfl (lv_at hl 1 rfl) ?_
    refine lv_iload hx hb dL_law_852 (lv_at hl 5 rfl) ?_
    refine lv_iconst (v := 1) hx hb dL_law_854 (by decide) ?_
    refine lv_iadd hx hb dL_law_855 ?_
    refine lv_topi (fun x46 ex46 => ?_)
    obtain rfl : nI (n + 1) = x46 := (ex46.trans (nI_add n 1)).symm
    refine va_sld hx hb hX hbl hbA hS (i := (nI (n + 1))) (vin_t (a := ((n + 1 : Nat) : Int)) (nI_toInt (by omega)) (by omega) (by omega)) dL_law_856 ?_
    refine lv_topi (fun x47 ex47 => ?_)
    obtain rfl : x22 = x47 := by rw [ex47, ex22] <;> exact congrArg xs (tn_same (i := (nI (n + 1))) (j := (nI (n + 1))) (show (nI (n + 1)).toInt = ((n + 1 : Nat) : Int) from (nI_toInt (by omega))) (show (nI (n + 1)).toInt = ((n + 1 : Nat) : Int) from (nI_toInt (by omega))) (by omega))
    refine lv_aload_n hx hb dL_law_857 rfl (lv_at hl 1 rfl) ?_
    refine lv_iload hx hb dL_law_858 (lv_at hl 5 rfl) ?_
    refine lv_iconst (v := 2) hx hb dL_law_860 (by decide) ?_
    refine lv_iadd hx hb dL_law_861 ?_
    refine lv_topi (fun x48 ex48 => ?_)
    obtain rfl : nI (n + 2) = x48 := (ex48.trans (nI_add n 2)).symm
    refine va_sld hx hb hX hbl hbA hS (i := (nI (n + 2))) (vin_t (a := ((n + 2 : Nat) : Int)) (nI_toInt (by omega)) (by omega) (by omega)) dL_law_862 ?_
    refine lv_topi (fun x49 ex49 => ?_)
    obtain rfl : x24 = x49 := by rw [ex49, ex24] <;> exact congrArg xs (tn_same (i := (nI (n + 2))) (j := (nI (n + 2))) (show (nI (n + 2)).toInt = ((n + 2 : Nat) : Int) from (nI_toInt (by omega))) (show (nI (n + 2)).toInt = ((n + 2 : Nat) : Int) from (nI_toInt (by omega))) (by omega))
    refine lv_aload_n hx hb dL_law_863 rfl (lv_at hl 1 rfl) ?_
    refine lv_iload hx hb dL_law_864 (lv_at hl 5 rfl) ?_
    refine lv_iconst (v := 3) hx hb dL_law_866 (by decide) ?_
    refine lv_iadd hx hb dL_law_867 ?_
    refine lv_topi (fun x50 ex50 => ?_)
    obtain rfl : nI (n + 3) = x50 := (ex50.trans (nI_add n 3)).symm
    refine va_sld hx hb hX hbl hbA hS (i := (nI (n + 3))) (vin_t (a := ((n + 3 : Nat) : Int)) (nI_toInt (by omega)) (by omega) (by omega)) dL_law_868 ?_
    refine lv_topi (fun x51 ex51 => ?_)
    obtain rfl : x26 = x51 := by rw [ex51, ex26] <;> exact congrArg xs (tn_same (i := (nI (n + 3))) (j := (nI (n + 3))) (show (nI (n + 3)).toInt = ((n + 3 : Nat) : Int) from (nI_toInt (by omega))) (show (nI (n + 3)).toInt = ((n + 3 : Nat) : Int) from (nI_toInt (by omega))) (by omega))
    refine lv_aload_n hx hb dL_law_869 rfl (lv_at hl 1 rfl) ?_
    refine lv_iload hx hb dL_law_870 (lv_at hl 5 rfl) ?_
    refine lv_iconst (v := 4) hx hb dL_law_872 (by decide) ?_
    refine lv_iadd hx hb dL_law_873 ?_
    refine lv_topi (fun x52 ex52 => ?_)
    obtain rfl : nI (n + 4) = x52 := (ex52.trans (nI_add n 4)).symm
    refine va_sld hx hb hX hbl hbA hS (i := (nI (n + 4))) (vin_t (a := ((n + 4 : Nat) : Int)) (nI_toInt (by omega)) (by omega) (by omega)) dL_law_874 ?_
    refine lv_topi (fun x53 ex53 => ?_)
    obtain rfl : x28 = x53 := by rw [ex53, ex28] <;> exact congrArg xs (tn_same (i := (nI (n + 4))) (j := (nI (n + 4))) (show (nI (n + 4)).toInt = ((n + 4 : Nat) : Int) from (nI_toInt (by omega))) (show (nI (n + 4)).toInt = ((n + 4 : Nat) : Int) from (nI_toInt (by omega))) (by omega))
    refine lv_if_eq (tgt := 882) hx hb dL_law_875 (by decide) (fun c54 => ?_) (fun c54 => ?_)
    · have t55 : x28.toInt = 0 := ti_eq c54 rfl (by decide)
      refine lv_iconst (v := 0) hx hb dL_law_882 (by decide) ?_
      have hFc := gA_m hPr hGP hGA hA hS
      refine va_calli (va_runV (As := [.int x22, .int x24, .int x26, .int 0]) (rest := []) ⟨hx, hb, hml, hown, hts⟩ (r_mill l dC dI kA adK adV Gm H h0 x22 x24 x26 0 (by decide) hR) (cwV 4 hts (goodIn_app (goodIn_r _ [162, 163, 164, 111] rfl (by decide +kernel)) (goodIn_ca (goodIn_r _ [105, 106, 107, 108, 109, 110, 111, 112, 113, 114, 115, 116, 117, 118, 119, 120, 121, 122, 123, 124, 125, 126, 127, 128, 129, 130, 131, 132, 133, 134, 135, 136, 137, 138, 139, 38, 39, 40, 140, 141, 142, 143, 144, 145, 146, 147, 148, 149, 150, 151, 152, 153, 154, 155, 156, 157, 158, 159, 160, 161] rfl (by decide +kernel)) (bs_in2 _ _))) rfl rfl rfl (by decide +kernel) ⟨(Nat.le_of_ble_eq_true rfl), (Nat.le_of_ble_eq_true rfl)⟩) ⟨fun a U g mk q => by obtain ⟨q0, q1, qK, qE⟩ := q; exact ⟨q0, q1, va_K.moved (u := U) (U := U.calling g mk a) (Vm.Alike.refl U.vm) qK, EVS.blind g mk a qE⟩, RI.recv hK hR.ri, fun U hU hW => ⟨rfl, hU, va_K.moved hW.alike hK, hE.1.call hS hFc hU hW⟩⟩ rfl rfl hl.1 rfl (lv_room (Nat.le_of_ble_eq_true rfl)) dL_law_883 ⟨show cells + 3 + 0 ≤ 603072 from by omega, show slots + 18 + 0 ≤ 7262314 from by omega⟩) hS (fun q _ h => hFc q h) hFc (fun r56 u t H locs ht hvm hw hB hz1 hk1 hS => ?_)
      (try dsimp only at hB); rw [ht] at hB
      have hC := hC.kept (fun a h1 h2 => hk1 a h1 (gA_mn hGP h1 h2))
      have hR := hB
      have hPr : ∀ a, Pr a → a < H.size := fun a h => Nat.lt_of_lt_of_le (hPr a h) hz1
      refine lv_istore (lv' := [(6, .int r56), (5, .int r45), (0, .ref b), (1, .ref x), (2, .ref h0), (3, .ref ou), (4, .int (nI n))]) hx hb dL_law_886 hl (by decide) rfl (fun ls hl => ?_)
      refine lv_goto (tgt := 2491) hx hb dL_law_888 (by decide) ?_
      exact W.widen (k := cells + 1170) (n := slots + 14100) (by omega) (by omega) (kk g H _ ls hC hR hPr hS (lv_sub hl [2, 3, 4, 5, 6] rfl))
    · have t57 : x28.toInt ≠ 0 := ti_ne c54 rfl (by decide)
      refine lv_iconst (v := 1) hx hb dL_law_878 (by decide) ?_
      refine lv_goto (tgt := 883) hx hb dL_law_879 (by decide) ?_
      have hFc := gA_m hPr hGP hGA hA hS
      refine va_calli (va_runV (As := [.int x22, .int x24, .int x26, .int 1]) (rest := []) ⟨hx, hb, hml, hown, hts⟩ (r_mill l dC dI kA adK adV Gm H h0 x22 x24 x26 1 (by decide) hR) (cwV 4 hts (goodIn_app (goodIn_r _ [162, 163, 164, 111] rfl (by decide +kernel)) (goodIn_ca (goodIn_r _ [105, 106, 107, 108, 109, 110, 111, 112, 113, 114, 115, 116, 117, 118, 119, 120, 121, 122, 123, 124, 125, 126, 127, 128, 129, 130, 131, 132, 133, 134, 135, 136, 137, 138, 139, 38, 39, 40, 140, 141, 142, 143, 144, 145, 146, 147, 148, 149, 150, 151, 152, 153, 154, 155, 156, 157, 158, 159, 160, 161] rfl (by decide +kernel)) (bs_in2 _ _))) rfl rfl rfl (by decide +kernel) ⟨(Nat.le_of_ble_eq_true rfl), (Nat.le_of_ble_eq_true rfl)⟩) ⟨fun a U g mk q => by obtain ⟨q0, q1, qK, qE⟩ := q; exact ⟨q0, q1, va_K.moved (u := U) (U := U.calling g mk a) (Vm.Alike.refl U.vm) qK, EVS.blind g mk a qE⟩, RI.recv hK hR.ri, fun U hU hW => ⟨rfl, hU, va_K.moved hW.alike hK, hE.1.call hS hFc hU hW⟩⟩ rfl rfl hl.1 rfl (lv_room (Nat.le_of_ble_eq_true rfl)) dL_law_883 ⟨show cells + 3 + 0 ≤ 603072 from by omega, show slots + 18 + 0 ≤ 7262314 from by omega⟩) hS (fun q _ h => hFc q h) hFc (fun r58 u t H locs ht hvm hw hB hz1 hk1 hS => ?_)
      (try dsimp only at hB); rw [ht] at hB
      have hC := hC.kept (fun a h1 h2 => hk1 a h1 (gA_mn hGP h1 h2))
      have hR := hB
      have hPr : ∀ a, Pr a → a < H.size := fun a h => Nat.lt_of_lt_of_le (hPr a h) hz1
      refine lv_istore (lv' := [(6, .int r58), (5, .int r45), (0, .ref b), (1, .ref x), (2, .ref h0), (3, .ref ou), (4, .int (nI n))]) hx hb dL_law_886 hl (by decide) rfl (fun ls hl => ?_)
      refine lv_goto (tgt := 2491) hx hb dL_law_888 (by decide) ?_
      exact W.widen (k := cells + 1170) (n := slots + 14100) (by omega) (by omega) (kk g H _ ls hC hR hPr hS (lv_sub hl [2, 3, 4, 5, 6] rfl))
def w_law_11 : List Cond := .initialized RL :: (HAppend.hAppend (α := List Cond) (β := List Cond) (γ := List Cond) [.codeWith yL_sluice cL_sluice 6 (some .int) [(0, 12, 15, 13), (0, 12, 19, 15), (0, 12, 23, 45)], .code yX11_sluice cX11_sluice 4 (some .int), .code yX11_needSquare cX11_needSquare 1 none, .code yX11_within cX11_within 3 (some .boolean), .methodLink RX11 58 yX11_within, .static yX11_within, .initialized RX11, .classLink RX11 557 "java/lang/IndexOutOfBoundsException", .initialized "java/lang/IndexOutOfBoundsException", .methodLink RX11 55 yX11_needSquare, .static yX11_needSquare, .code yX11_needNumbers cX11_needNumbers 1 none, .classLink RX11 547 "java/lang/IllegalArgumentException", .initialized "java/lang/IllegalArgumentException", .methodLink RX11 62 yX11_needNumbers, .static yX11_needNumbers, .code yX11_needRoomForWork cX11_needRoomForWork 1 none, .fieldLink RX11 16 "SeaLand" "lake" "LSeaLand$Lake;", .classLink RX11 345 "java/lang/UnsupportedOperationException", .initialized "java/lang/UnsupportedOperationException", .methodLink RX11 149 yX11_needRoomForWork, .instanceMethod yX11_needRoomForWork, .selects RX11 yX11_needRoomForWork yX11_needRoomForWork, .code yX3_isFreeLand cX3_isFreeLand 2 (some .boolean), .fieldLink RX3 21 "SeaLand$Lake" "ground" "LSeaLand$Ground;", .code yX3_workOn cX3_workOn 3 (some .int), .fieldLink RX3 47 "SeaLand$Lake" "built" "I", .fieldLink RX3 27 "SeaLand$Lake" "works" "[LSeaLand$Work;", .methodLink RX3 53 yX3_workOn, .instanceMethod yX3_workOn, .selects RX3 yX3_workOn yX3_workOn, .initialized RX3, .methodLink RX11 152 yX3_isFreeLand, .instanceMethod yX3_isFreeLand, .selects RX3 yX3_isFreeLand yX3_isFreeLand, .code yX3_isSeaBeside cX3_isSeaBeside 3 (some .boolean), .code yX11_stepsApart cX11_stepsApart 2 (some .int), .methodLink RX11 580 Lib.Math.abs.name, .static Lib.Math.abs.name, .initialized "java/lang/Math", .code Lib.Math.abs.name Lib.Math.abs.code 1 (some .int), .static yX11_stepsApart, .methodLink RX11 156 yX3_isSeaBeside, .instanceMethod yX3_isSeaBeside, .selects RX3 yX3_isSeaBeside yX3_isSeaBeside, .fieldLink RX11 23 "SeaLand" "rows" "LSeaLand$Rows;", .code yX6_forget cX6_forget 1 none, .fieldLink RX6 18 "SeaLand$Rows" "kept" "I", .fieldLink RX6 22 "SeaLand$Rows" "oldest" "I", .methodLink RX11 76 yX6_forget, .instanceMethod yX6_forget, .selects RX6 yX6_forget yX6_forget, .initialized RX6, .code yX3_build cX3_build 5 (some .int), .code yX10_begin cX10_begin 5 none, .fieldLink RX10 18 "SeaLand$Work" "kind" "I", .fieldLink RX10 22 "SeaLand$Work" "square" "I", .fieldLink RX10 25 "SeaLand$Work" "to" "I", .fieldLink RX10 28 "SeaLand$Work" "size" "I", .fieldLink RX10 31 "SeaLand$Work" "width" "I", .fieldLink RX10 34 "SeaLand$Work" "layers" "I", .fieldLink RX10 37 "SeaLand$Work" "coal" "I", .fieldLink RX10 40 "SeaLand$Work" "on" "Z", .fieldLink RX10 44 "SeaLand$Work" "latest" "I", .fieldLink RX10 47 "SeaLand$Work" "total" "I", .methodLink RX3 60 yX10_begin, .instanceMethod yX10_begin, .selects RX10 yX10_begin yX10_begin, .initialized RX10, .methodLink RX11 163 yX3_build, .instanceMethod yX3_build, .selects RX3 yX3_build yX3_build, .methodLink RL 56 yX11_sluice, .instanceMethod yX11_sluice, .selects RX11 yX11_sluice yX11_sluice, .classLink RL 13 "java/lang/IndexOutOfBoundsException", .classLink RL 15 "java/lang/IllegalArgumentException", .classLink RL 45 "java/lang/UnsupportedOperationException", .methodLink RL 217 yL_sluice, .static yL_sluice, .initialized RL, .code yX12_sluice cX12_sluice 4 (some .int), .fieldLink RX12 194 "SeaLandModel" "thrown" "I", .code yX12_noSquare cX12_noSquare 1 (some .boolean), .code yX12_in cX12_in 3 (some .boolean), .methodLink RX12 197 yX12_in, .static yX12_in, .initialized RX12, .methodLink RX12 220 yX12_noSquare, .static yX12_noSquare, .code yX12_throwsIf cX12_throwsIf 3 (some .boolean), .methodLink RX12 224 yX12_throwsIf, .instanceMethod yX12_throwsIf, .selects RX12 yX12_throwsIf yX12_throwsIf, .fieldLink RX12 9 "SeaLandModel" "world" "[I", .code yX12_noPlace cX12_noPlace 2 (some .boolean), .code yX12_isLand cX12_isLand 2 (some .boolean), .methodLink RX12 235 yX12_isLand, .instanceMethod yX12_isLand, .selects RX12 yX12_isLand yX12_isLand, .code yX12_workOn cX12_workOn 3 (some .int), .code yX12_of cX12_of 3 (some .int), .code yX12_at cX12_at 2 (some .int), .methodLink RX12 214 yX12_at, .static yX12_at, .methodLink RX12 217 yX12_of, .instanceMethod yX12_of, .selects RX12 yX12_of yX12_of, .methodLink RX12 256 yX12_workOn, .instanceMethod yX12_workOn, .selects RX12 yX12_workOn yX12_workOn, .methodLink RX12 259 yX12_noPlace, .instanceMethod yX12_noPlace, .selects RX12 yX12_noPlace yX12_noPlace, .code yX12_steps cX12_steps 2 (some .int), .methodLink RX12 201 Lib.Math.abs.name, .methodLink RX12 262 yX12_steps, .static yX12_steps, .code yX12_builds cX12_builds 8 (some .int), .fieldLink RX12 238 "SeaLandModel" "rows" "I", .methodLink RX12 265 yX12_builds, .instanceMethod yX12_builds, .selects RX12 yX12_builds yX12_builds, .methodLink RL 219 yX12_sluice, .instanceMethod yX12_sluice, .selects RX12 yX12_sluice yX12_sluice] bs2)
set_option maxHeartbeats 4000000 in
set_option maxRecDepth 100000 in
theorem law_11 {p : Program} {e : Env} {s : State} {m : MethodId} {below : List Frame} {meth : Method} {c : Code} {Q : State → Prop} (l : Launch) (hlt : l.stackTraces = false) {b L : Nat} {xs : Nat → Int32} {A : Nat → Prop} (hx : p.tables.exec = Jvm.exec) (hb : c.code = code) (hml : c.maxLocals = 7) (hown : s.vm.findClass RL = some m.cls) (hts : ∀ w ∈ w_law_11, w.before #[Value.ref b] s = true) (hX : va_X b L xs s s.heap) (hbl : b < s.heap.size) (hbA : ¬ A b) (hL : L ≤ 4096) {adK adV : Nat → Nat} (hE : EVC adK adV A s s.heap) (hN : NC s) (hAO : AO s) (hA : ∀ q : Nat, s.heap.size ≤ q → A q) {dC : Nat → ClassId} {dI : Nat → Nat → Nat} {kA : Nat → ClassId} (hK : va_K (dC, dI) vwCl (tyl kA) s) {Pr : Nat → Prop} {Gm : gT} {x h0 ou : Nat} (hPA : ∀ q, ¬ Pr q → A q) (hGP : ∀ a t, Gm a = some t → Pr a) (hGA : ∀ a t, Gm a = some t → A a) (n : Nat) (hn : n + 8 ≤ L) (H : Heap) (locs : List Loc) (cells slots : Nat) (hcl : cells + 1170 ≤ 603072) (hsl : slots + 14100 ≤ 7262314) (g : gz) (hC : CJ dC dI kA Pr g x ou H) (hR : RJ dC dI kA g h0 Gm H) (hPr : ∀ a, Pr a → a < H.size) (hS : va_S A s.heap H locs) (ls : Array Slot) (hl : lv_has ls 7 [(0, .ref b), (1, .ref x), (2, .ref h0), (3, .ref ou), (4, .int (nI n))]) (kk : ∀ (g : gz) (H : Heap) (locs : List Loc) (ls : Array Slot), CJ dC dI kA Pr g x ou H → RJ dC dI kA g h0 Gm H → (∀ a, Pr a → a < H.size) → va_S A s.heap H locs → lv_has ls 7 [(0, .ref b), (1, .ref x), (2, .ref h0), (3, .ref ou), (4, .int (nI n))] → W p l e room_1 s m #[Value.ref b] below meth c H locs (cells + 1170) (slots + 14100) Q (F0 m 2491 ls [])) : W p l e room_1 s m #[Value.ref b] below meth c H locs cells slots Q (F0 m 891 ls []) := by
  refine lv_aload_n hx hb dL_law_891 rfl (lv_at hl 1 rfl) ?_
  refine lv_aload_n hx hb dL_law_892 rfl (lv_at hl 0 rfl) ?_
  refine lv_iload hx hb dL_law_893 (lv_at hl 4 rfl) ?_
  refine lv_iconst (v := 1) hx hb dL_law_895 (by decide) ?_
  refine lv_iadd hx hb dL_law_896 ?_
  refine lv_topi (fun x21 ex21 => ?_)
  obtain rfl : nI (n + 1) = x21 := (ex21.trans (nI_add n 1)).symm
  refine va_sld hx hb hX hbl hbA hS (i := (nI (n + 1))) (vin_t (a := ((n + 1 : Nat) : Int)) (nI_toInt (by omega)) (by omega) (by omega)) dL_law_897 ?_
  refine lv_topi (fun x22 ex22 => ?_)
  refine lv_aload_n hx hb dL_law_898 rfl (lv_at hl 0 rfl) ?_
  refine lv_iload hx hb dL_law_899 (lv_at hl 4 rfl) ?_
  refine lv_iconst (v := 2) hx hb dL_law_901 (by decide) ?_
  refine lv_iadd hx hb dL_law_902 ?_
  refine lv_topi (fun x23 ex23 => ?_)
  obtain rfl : nI (n + 2) = x23 := (ex23.trans (nI_add n 2)).symm
  refine va_sld hx hb hX hbl hbA hS (i := (nI (n + 2))) (vin_t (a := ((n + 2 : Nat) : Int)) (nI_toInt (by omega)) (by omega) (by omega)) dL_law_903 ?_
  refine lv_topi (fun x24 ex24 => ?_)
  refine lv_aload_n hx hb dL_law_904 rfl (lv_at hl 0 rfl) ?_
  refine lv_iload hx hb dL_law_905 (lv_at hl 4 rfl) ?_
  refine lv_iconst (v := 3) hx hb dL_law_907 (by decide) ?_
  refine lv_iadd hx hb dL_law_908 ?_
  refine lv_topi (fun x25 ex25 => ?_)
  obtain rfl : nI (n + 3) = x25 := (ex25.trans (nI_add n 3)).symm
  refine va_sld hx hb hX hbl hbA hS (i := (nI (n + 3))) (vin_t (a := ((n + 3 : Nat) : Int)) (nI_toInt (by omega)) (by omega) (by omega)) dL_law_909 ?_
  refine lv_topi (fun x26 ex26 => ?_)
  refine lv_aload_n hx hb dL_law_910 rfl (lv_at hl 3 rfl) ?_
  have hFc := hPA
  refine va_calli (vx_runSW (As := [.ref x, .int x22, .int x24, .int x26, .ref ou]) (rest := []) ⟨hx, hb, hml, hown, hts⟩ (k_sluice l hlt dC dI kA adK adV Pr H x ou x22 x24 x26  hPr hC) (vx_cwSW 5 hts (goodIn_app (goodIn_r _ [79, 80, 81] rfl (by decide +kernel)) (goodIn_ca (goodIn_r _ [1, 2, 3, 4, 5, 6, 7, 8, 9, 10, 11, 12, 13, 14, 15, 16, 17, 18, 19, 20, 21, 22, 23, 24, 25, 26, 27, 28, 29, 30, 31, 32, 33, 34, 35, 36, 37, 38, 39, 40, 41, 42, 43, 44, 45, 46, 47, 48, 49, 50, 51, 52, 53, 54, 55, 56, 57, 58, 59, 60, 61, 62, 63, 64, 65, 66, 67, 68, 69, 70, 71, 72, 73, 74, 75, 76, 77, 78] rfl (by decide +kernel)) (bs2_in _ _))) rfl rfl rfl (by decide +kernel) ⟨(Nat.le_of_ble_eq_true rfl), (Nat.le_of_ble_eq_true rfl)⟩) ⟨fun a U g mk q => by obtain ⟨q0, q1, qK, qE, qN, qA⟩ := q; exact ⟨q0, q1, va_K.moved (u := U) (U := U.calling g mk a) (Vm.Alike.refl U.vm) qK, EVC.blind g mk a qE, NC.blind g mk a qN, AO.blind g mk a qA⟩, fun U hU hW => ⟨rfl, hU, va_K.moved hW.alike hK, hE.call hS hFc hU hW, hN.call hW, hAO.call hW⟩⟩ rfl rfl hl.1 rfl (lv_room (Nat.le_of_ble_eq_true rfl)) dL_law_911 ⟨show cells + 3 ≤ 603072 from by omega, show slots + 18 ≤ 7262314 from by omega⟩) hS (fun q _ h => hFc q h) hFc (fun r27 u t H locs ht hvm hw hB hz1 hk1 hS => ?_)
  (try dsimp only at hB); rw [ht] at hB
  have hR := hR.kept (fun a t h => hk1 a (hPr a (hGP a t h)) (fun h9 => h9 (hGP a t h)))
  have hC := hB
  have hPr : ∀ a, Pr a → a < H.size := fun a h => Nat.lt_of_lt_of_le (hPr a h) hz1
  refine lv_istore (lv' := [(5, .int r27), (0, .ref b), (1, .ref x), (2, .ref h0), (3, .ref ou), (4, .int (nI n))]) hx hb dL_law_914 hl (by decide) rfl (fun ls hl => ?_)
  refine lv_aload_n hx hb dL_law_916 rfl (lv_at hl 3 rfl) ?_
  refine lv_aload_n hx hb dL_law_917 rfl (lv_at hl 1 rfl) ?_
  refine lv_iload hx hb dL_law_918 (lv_at hl 5 rfl) ?_
  refine lv_iconst (v := 1) hx hb dL_law_920 (by decide) ?_
  refine lv_iadd hx hb dL_law_921 ?_
  refine lv_topi (fun x28 ex28 => ?_)
  obtain rfl : nI (n + 1) = x28 := (ex28.trans (nI_add n 1)).symm
  refine va_sld hx hb hX hbl hbA hS (i := (nI (n + 1))) (vin_t (a := ((n + 1 : Nat) : Int)) (nI_toInt (by omega)) (by omega) (by omega)) dL_law_922 ?_
  refine lv_topi (fun x29 ex29 => ?_)
  obtain rfl : x22 = x29 := by rw [ex29, ex22] <;> exact congrArg xs (tn_same (i := (nI (n + 1))) (j := (nI (n + 1))) (show (nI (n + 1)).toInt = ((n + 1 : Nat) : Int) from (nI_toInt (by omega))) (show (nI (n + 1)).toInt = ((n + 1 : Nat) : Int) from (nI_toInt (by omega))) (by omega))
  refine lv_aload_n hx hb dL_law_923 rfl (lv_at hl 1 rfl) ?_
  refine lv_iload hx hb dL_law_924 (lv_at hl 5 rfl) ?_
  refine lv_iconst (v := 2) hx hb dL_law_926 (by decide) ?_
  refine lv_iadd hx hb dL_law_927 ?_
  refine lv_topi (fun x30 ex30 => ?_)
  obtain rfl : nI (n + 2) = x30 := (ex30.trans (nI_add n 2)).symm
  refine va_sld hx hb hX hbl hbA hS (i := (nI (n + 2))) (vin_t (a := ((n + 2 : Nat) : Int)) (nI_toInt (by omega)) (by omega) (by omega)) dL_law_928 ?_
  refine lv_topi (fun x31 ex31 => ?_)
  obtain rfl : x24 = x31 := by rw [ex31, ex24] <;> exact congrArg xs (tn_same (i := (nI (n + 2))) (j := (nI (n + 2))) (show (nI (n + 2)).toInt = ((n + 2 : Nat) : Int) from (nI_toInt (by omega))) (show (nI (n + 2)).toInt = ((n + 2 : Nat) : Int) from (nI_toInt (by omega))) (by omega))
  refine lv_aload_n hx hb dL_law_929 rfl (lv_at hl 1 rfl) ?_
  refine lv_iload hx hb dL_law_930 (lv_at hl 5 rfl) ?_
  refine lv_iconst (v := 3) hx hb dL_law_932 (by decide) ?_
  refine lv_iadd hx hb dL_law_933 ?_
  refine lv_topi (fun x32 ex32 => ?_)
  obtain rfl : nI (n + 3) = x32 := (ex32.trans (nI_add n 3)).symm
  refine va_sld hx hb hX hbl hbA hS (i := (nI (n + 3))) (vin_t (a := ((n + 3 : Nat) : Int)) (nI_toInt (by omega)) (by omega) (by omega)) dL_law_934 ?_
  refine lv_topi (fun x33 ex33 => ?_)
  obtain rfl : x26 = x33 := by rw [ex33, ex26] <;> exact congrArg xs (tn_same (i := (nI (n + 3))) (j := (nI (n + 3))) (show (nI (n + 3)).toInt = ((n + 3 : Nat) : Int) from (nI_toInt (by omega))) (show (nI (n + 3)).toInt = ((n + 3 : Nat) : Int) from (nI_toInt (by omega))) (by omega))
  have hFc := gA_m hPr hGP hGA hA hS
  refine va_calli (va_runV (As := [.int x22, .int x24, .int x26]) (rest := []) ⟨hx, hb, hml, hown, hts⟩ (r_sluice l dC dI kA adK adV Gm H h0 x22 x24 x26  hR) (cwV 3 hts (goodIn_app (goodIn_r _ [124, 125, 126, 88] rfl (by decide +kernel)) (goodIn_ca (goodIn_r _ [82, 83, 84, 85, 86, 87, 88, 89, 90, 91, 92, 93, 94, 95, 96, 97, 98, 99, 100, 101, 102, 103, 104, 105, 106, 107, 108, 109, 110, 111, 112, 113, 114, 115, 116, 39, 40, 41, 117, 118, 119, 120, 121, 122, 123] rfl (by decide +kernel)) (bs_in2 _ _))) rfl rfl rfl (by decide +kernel) ⟨(Nat.le_of_ble_eq_true rfl), (Nat.le_of_ble_eq_true rfl)⟩) ⟨fun a U g mk q => by obtain ⟨q0, q1, qK, qE⟩ := q; exact ⟨q0, q1, va_K.moved (u := U) (U := U.calling g mk a) (Vm.Alike.refl U.vm) qK, EVS.blind g mk a qE⟩, RI.recv hK hR.ri, fun U hU hW => ⟨rfl, hU, va_K.moved hW.alike hK, hE.1.call hS hFc hU hW⟩⟩ rfl rfl hl.1 rfl (lv_room (Nat.le_of_ble_eq_true rfl)) dL_law_935 ⟨show cells + 3 + 0 ≤ 603072 from by omega, show slots + 18 + 0 ≤ 7262314 from by omega⟩) hS (fun q _ h => hFc q h) hFc (fun r34 u t H locs ht hvm hw hB hz1 hk1 hS => ?_)
  (try dsimp only at hB); rw [ht] at hB
  have hC := hC.kept (fun a h1 h2 => hk1 a h1 (gA_mn hGP h1 h2))
  have hR := hB
  have hPr : ∀ a, Pr a → a < H.size := fun a h => Nat.lt_of_lt_of_le (hPr a h) hz1
  refine lv_istore (lv' := [(6, .int r34), (5, .int r27), (0, .ref b), (1, .ref x), (2, .ref h0), (3, .ref ou), (4, .int (nI n))]) hx hb dL_law_938 hl (by decide) rfl (fun ls hl => ?_)
  refine lv_goto (tgt := 2491) hx hb dL_law_940 (by decide) ?_
  exact W.widen (k := cells + 1170) (n := slots + 14100) (by omega) (by omega) (kk g H _ ls hC hR hPr hS (lv_sub hl [2, 3, 4, 5, 6] rfl))
def w_law_12 : List Cond := .initialized RL :: (HAppend.hAppend (α := List Cond) (β := List Cond) (γ := List Cond) [.codeWith yL_turn cL_turn 5 (some .int) [(0, 17, 20, 13), (0, 17, 24, 50)], .code yX11_turn cX11_turn 5 (some .boolean), .code yX11_workOf cX11_workOf 2 (some (.object "SeaLand$Work")), .fieldLink RX11 16 "SeaLand" "lake" "LSeaLand$Lake;", .code yX11_within cX11_within 3 (some .boolean), .methodLink RX11 58 yX11_within, .static yX11_within, .initialized RX11, .classLink RX11 557 "java/lang/IndexOutOfBoundsException", .initialized "java/lang/IndexOutOfBoundsException", .methodLink RX11 167 yX11_workOf, .instanceMethod yX11_workOf, .selects RX11 yX11_workOf yX11_workOf, .code yX11_needKind cX11_needKind 1 none, .methodLink RX11 177 yX11_needKind, .static yX11_needKind, .fieldLink RX11 23 "SeaLand" "rows" "LSeaLand$Rows;", .code yX6_forget cX6_forget 1 none, .fieldLink RX6 18 "SeaLand$Rows" "kept" "I", .fieldLink RX6 22 "SeaLand$Rows" "oldest" "I", .methodLink RX11 76 yX6_forget, .instanceMethod yX6_forget, .selects RX6 yX6_forget yX6_forget, .initialized RX6, .classLink RX11 552 "java/lang/ClassCastException", .initialized "java/lang/ClassCastException", .methodLink RL 59 yX11_turn, .instanceMethod yX11_turn, .selects RX11 yX11_turn yX11_turn, .classLink RL 13 "java/lang/IndexOutOfBoundsException", .classLink RL 50 "java/lang/ClassCastException", .methodLink RL 220 yL_turn, .static yL_turn, .initialized RL, .code yX12_turn cX12_turn 4 (some .boolean), .fieldLink RX12 194 "SeaLandModel" "thrown" "I", .code yX12_noWork cX12_noWork 2 (some .boolean), .fieldLink RX12 9 "SeaLandModel" "world" "[I", .code yX12_in cX12_in 3 (some .boolean), .methodLink RX12 197 yX12_in, .static yX12_in, .initialized RX12, .methodLink RX12 269 yX12_noWork, .instanceMethod yX12_noWork, .selects RX12 yX12_noWork yX12_noWork, .code yX12_throwsIf cX12_throwsIf 3 (some .boolean), .methodLink RX12 224 yX12_throwsIf, .instanceMethod yX12_throwsIf, .selects RX12 yX12_throwsIf yX12_throwsIf, .code yX12_of cX12_of 3 (some .int), .code yX12_at cX12_at 2 (some .int), .methodLink RX12 214 yX12_at, .static yX12_at, .methodLink RX12 217 yX12_of, .instanceMethod yX12_of, .selects RX12 yX12_of yX12_of, .fieldLink RX12 238 "SeaLandModel" "rows" "I", .methodLink RL 223 yX12_turn, .instanceMethod yX12_turn, .selects RX12 yX12_turn yX12_turn] bs2)
set_option maxHeartbeats 4000000 in
set_option maxRecDepth 100000 in
theorem law_12 {p : Program} {e : Env} {s : State} {m : MethodId} {below : List Frame} {meth : Method} {c : Code} {Q : State → Prop} (l : Launch) (hlt : l.stackTraces = false) {b L : Nat} {xs : Nat → Int32} {A : Nat → Prop} (hx : p.tables.exec = Jvm.exec) (hb : c.code = code) (hml : c.maxLocals = 7) (hown : s.vm.findClass RL = some m.cls) (hts : ∀ w ∈ w_law_12, w.before #[Value.ref b] s = true) (hX : va_X b L xs s s.heap) (hbl : b < s.heap.size) (hbA : ¬ A b) (hL : L ≤ 4096) {adK adV : Nat → Nat} (hE : EVC adK adV A s s.heap) (hN : NC s) (hAO : AO s) (hA : ∀ q : Nat, s.heap.size ≤ q → A q) {dC : Nat → ClassId} {dI : Nat → Nat → Nat} {kA : Nat → ClassId} (hK : va_K (dC, dI) vwCl (tyl kA) s) {Pr : Nat → Prop} {Gm : gT} {x h0 ou : Nat} (hPA : ∀ q, ¬ Pr q → A q) (hGP : ∀ a t, Gm a = some t → Pr a) (hGA : ∀ a t, Gm a = some t → A a) (n : Nat) (hn : n + 8 ≤ L) (H : Heap) (locs : List Loc) (cells slots : Nat) (hcl : cells + 1170 ≤ 603072) (hsl : slots + 14100 ≤ 7262314) (g : gz) (hC : CJ dC dI kA Pr g x ou H) (hR : RJ dC dI kA g h0 Gm H) (hPr : ∀ a, Pr a → a < H.size) (hS : va_S A s.heap H locs) (ls : Array Slot) (hl : lv_has ls 7 [(0, .ref b), (1, .ref x), (2, .ref h0), (3, .ref ou), (4, .int (nI n))]) (kk : ∀ (g : gz) (H : Heap) (locs : List Loc) (ls : Array Slot), CJ dC dI kA Pr g x ou H → RJ dC dI kA g h0 Gm H → (∀ a, Pr a → a < H.size) → va_S A s.heap H locs → lv_has ls 7 [(0, .ref b), (1, .ref x), (2, .ref h0), (3, .ref ou), (4, .int (nI n))] → W p l e room_1 s m #[Value.ref b] below meth c H locs (cells + 1170) (slots + 14100) Q (F0 m 2491 ls [])) : W p l e room_1 s m #[Value.ref b] below meth c H locs cells slots Q (F0 m 943 ls []) := by
  refine lv_aload_n hx hb dL_law_943 rfl (lv_at hl 1 rfl) ?_
  refine lv_aload_n hx hb dL_law_944 rfl (lv_at hl 0 rfl) ?_
  refine lv_iload hx hb dL_law_945 (lv_at hl 4 rfl) ?_
  refine lv_iconst (v := 1) hx hb dL_law_947 (by decide) ?_
  refine lv_iadd hx hb dL_law_948 ?_
  refine lv_topi (fun x21 ex21 => ?_)
  obtain rfl : nI (n + 1) = x21 := (ex21.trans (nI_add n 1)).symm
  refine va_sld hx hb hX hbl hbA hS (i := (nI (n + 1))) (vin_t (a := ((n + 1 : Nat) : Int)) (nI_toInt (by omega)) (by omega) (by omega)) dL_law_949 ?_
  refine lv_topi (fun x22 ex22 => ?_)
  refine lv_aload_n hx hb dL_law_950 rfl (lv_at hl 0 rfl) ?_
  refine lv_iload hx hb dL_law_951 (lv_at hl 4 rfl) ?_
  refine lv_iconst (v := 2) hx hb dL_law_953 (by decide) ?_
  refine lv_iadd hx hb dL_law_954 ?_
  refine lv_topi (fun x23 ex23 => ?_)
  obtain rfl : nI (n + 2) = x23 := (ex23.trans (nI_add n 2)).symm
  refine va_sld hx hb hX hbl hbA hS (i := (nI (n + 2))) (vin_t (a := ((n + 2 : Nat) : Int)) (nI_toInt (by omega)) (by omega) (by omega)) dL_law_955 ?_
  refine lv_topi (fun x24 ex24 => ?_)
  have t25 : -2147483648 ≤ x24.toInt ∧ x24.toInt ≤ 2147483647 := ti_all x24
  refine lv_if_eq (tgt := 963) hx hb dL_law_956 (by decide) (fun c26 => ?_) (fun c26 => ?_)
  · have t27 : x24.toInt = 0 := ti_eq c26 rfl (by decide)
    refine lv_iconst (v := 0) hx hb dL_law_963 (by decide) ?_
    refine lv_aload_n hx hb dL_law_964 rfl (lv_at hl 3 rfl) ?_
    have hFc := hPA
    refine va_calli (vx_runSW (As := [.ref x, .int x22, .int 0, .ref ou]) (rest := []) ⟨hx, hb, hml, hown, hts⟩ (k_turn l hlt dC dI kA adK adV Pr H x ou x22 0 (by decide) hPr hC) (vx_cwSW 4 hts (goodIn_app (goodIn_r _ [32, 33, 34] rfl (by decide +kernel)) (goodIn_ca (goodIn_r _ [1, 2, 3, 4, 5, 6, 7, 8, 9, 10, 11, 12, 13, 14, 15, 16, 17, 18, 19, 20, 21, 22, 23, 24, 25, 26, 27, 28, 29, 30, 31] rfl (by decide +kernel)) (bs2_in _ _))) rfl rfl rfl (by decide +kernel) ⟨(Nat.le_of_ble_eq_true rfl), (Nat.le_of_ble_eq_true rfl)⟩) ⟨fun a U g mk q => by obtain ⟨q0, q1, qK, qE, qN, qA⟩ := q; exact ⟨q0, q1, va_K.moved (u := U) (U := U.calling g mk a) (Vm.Alike.refl U.vm) qK, EVC.blind g mk a qE, NC.blind g mk a qN, AO.blind g mk a qA⟩, fun U hU hW => ⟨rfl, hU, va_K.moved hW.alike hK, hE.call hS hFc hU hW, hN.call hW, hAO.call hW⟩⟩ rfl rfl hl.1 rfl (lv_room (Nat.le_of_ble_eq_true rfl)) dL_law_965 ⟨show cells + 2 ≤ 603072 from by omega, show slots + 12 ≤ 7262314 from by omega⟩) hS (fun q _ h => hFc q h) hFc (fun r28 u t H locs ht hvm hw hB hz1 hk1 hS => ?_)
    (try dsimp only at hB); rw [ht] at hB
    have hR := hR.kept (fun a t h => hk1 a (hPr a (hGP a t h)) (fun h9 => h9 (hGP a t h)))
    have hC := hB
    have hPr : ∀ a, Pr a → a < H.size := fun a h => Nat.lt_of_lt_of_le (hPr a h) hz1
    refine lv_istore (lv' := [(5, .int r28), (0, .ref b), (1, .ref x), (2, .ref h0), (3, .ref ou), (4, .int (nI n))]) hx hb dL_law_968 hl (by decide) rfl (fun ls hl => ?_)
    refine lv_aload_n hx hb dL_law_970 rfl (lv_at hl 3 rfl) ?_
    refine lv_aload_n hx hb dL_law_971 rfl (lv_at hl 1 rfl) ?_
    refine lv_iload hx hb dL_law_972 (lv_at hl 5 rfl) ?_
    refine lv_iconst (v := 1) hx hb dL_law_974 (by decide) ?_
    refine lv_iadd hx hb dL_law_975 ?_
    refine lv_topi (fun x29 ex29 => ?_)
    obtain rfl : nI (n + 1) = x29 := (ex29.trans (nI_add n 1)).symm
    refine va_sld hx hb hX hbl hbA hS (i := (nI (n + 1))) (vin_t (a := ((n + 1 : Nat) : Int)) (nI_toInt (by omega)) (by omega) (by omega)) dL_law_976 ?_
    refine lv_topi (fun x30 ex30 => ?_)
    obtain rfl : x22 = x30 := by rw [ex30, ex22] <;> exact congrArg xs (tn_same (i := (nI (n + 1))) (j := (nI (n + 1))) (show (nI (n + 1)).toInt = ((n + 1 : Nat) : Int) from (nI_toInt (by omega))) (show (nI (n + 1)).toInt = ((n + 1 : Nat) : Int) from (nI_toInt (by omega))) (by omega))
    refine lv_aload_n hx hb dL_law_977 rfl (lv_at hl 1 rfl) ?_
    refine lv_iload hx hb dL_law_978 (lv_at hl 5 rfl) ?_
    refine lv_iconst (v := 2) hx hb dL_law_980 (by decide) ?_
    refine lv_iadd hx hb dL_law_981 ?_
    refine lv_topi (fun x31 ex31 => ?_)
    obtain rfl : nI (n + 2) = x31 := (ex31.trans (nI_add n 2)).symm
    refine va_sld hx hb hX hbl hbA hS (i := (nI (n + 2))) (vin_t (a := ((n + 2 : Nat) : Int)) (nI_toInt (by omega)) (by omega) (by omega)) dL_law_982 ?_
    refine lv_topi (fun x32 ex32 => ?_)
    obtain rfl : x24 = x32 := by rw [ex32, ex24] <;> exact congrArg xs (tn_same (i := (nI (n + 2))) (j := (nI (n + 2))) (show (nI (n + 2)).toInt = ((n + 2 : Nat) : Int) from (nI_toInt (by omega))) (show (nI (n + 2)).toInt = ((n + 2 : Nat) : Int) from (nI_toInt (by omega))) (by omega))
    refine lv_if_eq (tgt := 990) hx hb dL_law_983 (by decide) (fun c33 => ?_) (fun c33 => (by exfalso; have q9 : x24.toInt ≠ 0 := ti_ne c33 rfl (by decide); omega))
    have t34 : x24.toInt = 0 := ti_eq c33 rfl (by decide)
    refine lv_iconst (v := 0) hx hb dL_law_990 (by decide) ?_
    have hFc := gA_m hPr hGP hGA hA hS
    refine va_calli (va_runV (As := [.int x22, .int 0]) (rest := []) ⟨hx, hb, hml, hown, hts⟩ (r_turn l dC dI kA adK adV Gm H h0 x22 0 (by decide) hR) (cwV 2 hts (goodIn_app (goodIn_r _ [58, 59, 60, 42] rfl (by decide +kernel)) (goodIn_ca (goodIn_r _ [35, 36, 37, 38, 39, 40, 41, 42, 43, 44, 45, 46, 47, 48, 49, 50, 51, 52, 53, 54, 55, 56, 57] rfl (by decide +kernel)) (bs_in2 _ _))) rfl rfl rfl (by decide +kernel) ⟨(Nat.le_of_ble_eq_true rfl), (Nat.le_of_ble_eq_true rfl)⟩) ⟨fun a U g mk q => by obtain ⟨q0, q1, qK, qE⟩ := q; exact ⟨q0, q1, va_K.moved (u := U) (U := U.calling g mk a) (Vm.Alike.refl U.vm) qK, EVS.blind g mk a qE⟩, RI.recv hK hR.ri, fun U hU hW => ⟨rfl, hU, va_K.moved hW.alike hK, hE.1.call hS hFc hU hW⟩⟩ rfl rfl hl.1 rfl (lv_room (Nat.le_of_ble_eq_true rfl)) dL_law_991 ⟨show cells + 2 + 0 ≤ 603072 from by omega, show slots + 12 + 0 ≤ 7262314 from by omega⟩) hS (fun q _ h => hFc q h) hFc (fun r35 u t H locs ht hvm hw hB hz1 hk1 hS => ?_)
    (try dsimp only at hB); rw [ht] at hB
    have hC := hC.kept (fun a h1 h2 => hk1 a h1 (gA_mn hGP h1 h2))
    have hR := hB
    have hPr : ∀ a, Pr a → a < H.size := fun a h => Nat.lt_of_lt_of_le (hPr a h) hz1
    refine lv_istore (lv' := [(6, .int r35), (5, .int r28), (0, .ref b), (1, .ref x), (2, .ref h0), (3, .ref ou), (4, .int (nI n))]) hx hb dL_law_994 hl (by decide) rfl (fun ls hl => ?_)
    refine lv_goto (tgt := 2491) hx hb dL_law_996 (by decide) ?_
    exact W.widen (k := cells + 1170) (n := slots + 14100) (by omega) (by omega) (kk g H _ ls hC hR hPr hS (lv_sub hl [2, 3, 4, 5, 6] rfl))
  · have t36 : x24.toInt ≠ 0 := ti_ne c26 rfl (by decide)
    refine lv_iconst (v := 1) hx hb dL_law_959 (by decide) ?_
    refine lv_goto (tgt := 964) hx hb dL_law_960 (by decide) ?_
    refine lv_aload_n hx hb dL_law_964 rfl (lv_at hl 3 rfl) ?_
    have hFc := hPA
    refine va_calli (vx_runSW (As := [.ref x, .int x22, .int 1, .ref ou]) (rest := []) ⟨hx, hb, hml, hown, hts⟩ (k_turn l hlt dC dI kA adK adV Pr H x ou x22 1 (by decide) hPr hC) (vx_cwSW 4 hts (goodIn_app (goodIn_r _ [32, 33, 34] rfl (by decide +kernel)) (goodIn_ca (goodIn_r _ [1, 2, 3, 4, 5, 6, 7, 8, 9, 10, 11, 12, 13, 14, 15, 16, 17, 18, 19, 20, 21, 22, 23, 24, 25, 26, 27, 28, 29, 30, 31] rfl (by decide +kernel)) (bs2_in _ _))) rfl rfl rfl (by decide +kernel) ⟨(Nat.le_of_ble_eq_true rfl), (Nat.le_of_ble_eq_true rfl)⟩) ⟨fun a U g mk q => by obtain ⟨q0, q1, qK, qE, qN, qA⟩ := q; exact ⟨q0, q1, va_K.moved (u := U) (U := U.calling g mk a) (Vm.Alike.refl U.vm) qK, EVC.blind g mk a qE, NC.blind g mk a qN, AO.blind g mk a qA⟩, fun U hU hW => ⟨rfl, hU, va_K.moved hW.alike hK, hE.call hS hFc hU hW, hN.call hW, hAO.call hW⟩⟩ rfl rfl hl.1 rfl (lv_room (Nat.le_of_ble_eq_true rfl)) dL_law_965 ⟨show cells + 2 ≤ 603072 from by omega, show slots + 12 ≤ 7262314 from by omega⟩) hS (fun q _ h => hFc q h) hFc (fun r37 u t H locs ht hvm hw hB hz1 hk1 hS => ?_)
    (try dsimp only at hB); rw [ht] at hB
    have hR := hR.kept (fun a t h => hk1 a (hPr a (hGP a t h)) (fun h9 => h9 (hGP a t h)))
    have hC := hB
    have hPr : ∀ a, Pr a → a < H.size := fun a h => Nat.lt_of_lt_of_le (hPr a h) hz1
    refine lv_istore (lv' := [(5, .int r37), (0, .ref b), (1, .ref x), (2, .ref h0), (3, .ref ou), (4, .int (nI n))]) hx hb dL_law_968 hl (by decide) rfl (fun ls hl => ?_)
    refine lv_aload_n hx hb dL_law_970 rfl (lv_at hl 3 rfl) ?_
    refine lv_aload_n hx hb dL_law_971 rfl (lv_at hl 1 rfl) ?_
    refine lv_iload hx hb dL_law_972 (lv_at hl 5 rfl) ?_
    refine lv_iconst (v := 1) hx hb dL_law_974 (by decide) ?_
    refine lv_iadd hx hb dL_law_975 ?_
    refine lv_topi (fun x38 ex38 => ?_)
    obtain rfl : nI (n + 1) = x38 := (ex38.trans (nI_add n 1)).symm
    refine va_sld hx hb hX hbl hbA hS (i := (nI (n + 1))) (vin_t (a := ((n + 1 : Nat) : Int)) (nI_toInt (by omega)) (by omega) (by omega)) dL_law_976 ?_
    refine lv_topi (fun x39 ex39 => ?_)
    obtain rfl : x22 = x39 := by rw [ex39, ex22] <;> exact congrArg xs (tn_same (i := (nI (n + 1))) (j := (nI (n + 1))) (show (nI (n + 1)).toInt = ((n + 1 : Nat) : Int) from (nI_toInt (by omega))) (show (nI (n + 1)).toInt = ((n + 1 : Nat) : Int) from (nI_toInt (by omega))) (by omega))
    refine lv_aload_n hx hb dL_law_977 rfl (lv_at hl 1 rfl) ?_
    refine lv_iload hx hb dL_law_978 (lv_at hl 5 rfl) ?_
    refine lv_iconst (v := 2) hx hb dL_law_980 (by decide) ?_
    refine lv_iadd hx hb dL_law_981 ?_
    refine lv_topi (fun x40 ex40 => ?_)
    obtain rfl : nI (n + 2) = x40 := (ex40.trans (nI_add n 2)).symm
    refine va_sld hx hb hX hbl hbA hS (i := (nI (n + 2))) (vin_t (a := ((n + 2 : Nat) : Int)) (nI_toInt (by omega)) (by omega) (by omega)) dL_law_982 ?_
    refine lv_topi (fun x41 ex41 => ?_)
    obtain rfl : x24 = x41 := by rw [ex41, ex24] <;> exact congrArg xs (tn_same (i := (nI (n + 2))) (j := (nI (n + 2))) (show (nI (n + 2)).toInt = ((n + 2 : Nat) : Int) from (nI_toInt (by omega))) (show (nI (n + 2)).toInt = ((n + 2 : Nat) : Int) from (nI_toInt (by omega))) (by omega))
    refine lv_if_eq (tgt := 990) hx hb dL_law_983 (by decide) (fun c42 => ?_) (fun c42 => ?_)
    · have t43 : x24.toInt = 0 := ti_eq c42 rfl (by decide)
      refine lv_iconst (v := 0) hx hb dL_law_990 (by decide) ?_
      have hFc := gA_m hPr hGP hGA hA hS
      refine va_calli (va_runV (As := [.int x22, .int 0]) (rest := []) ⟨hx, hb, hml, hown, hts⟩ (r_turn l dC dI kA adK adV Gm H h0 x22 0 (by decide) hR) (cwV 2 hts (goodIn_app (goodIn_r _ [58, 59, 60, 42] rfl (by decide +kernel)) (goodIn_ca (goodIn_r _ [35, 36, 37, 38, 39, 40, 41, 42, 43, 44, 45, 46, 47, 48, 49, 50, 51, 52, 53, 54, 55, 56, 57] rfl (by decide +kernel)) (bs_in2 _ _))) rfl rfl rfl (by decide +kernel) ⟨(Nat.le_of_ble_eq_true rfl), (Nat.le_of_ble_eq_true rfl)⟩) ⟨fun a U g mk q => by obtain ⟨q0, q1, qK, qE⟩ := q; exact ⟨q0, q1, va_K.moved (u := U) (U := U.calling g mk a) (Vm.Alike.refl U.vm) qK, EVS.blind g mk a qE⟩, RI.recv hK hR.ri, fun U hU hW => ⟨rfl, hU, va_K.moved hW.alike hK, hE.1.call hS hFc hU hW⟩⟩ rfl rfl hl.1 rfl (lv_room (Nat.le_of_ble_eq_true rfl)) dL_law_991 ⟨show cells + 2 + 0 ≤ 603072 from by omega, show slots + 12 + 0 ≤ 7262314 from by omega⟩) hS (fun q _ h => hFc q h) hFc (fun r44 u t H locs ht hvm hw hB hz1 hk1 hS => ?_)
      (try dsimp only at hB); rw [ht] at hB
      have hC := hC.kept (fun a h1 h2 => hk1 a h1 (gA_mn hGP h1 h2))
      have hR := hB
      have hPr : ∀ a, Pr a → a < H.size := fun a h => Nat.lt_of_lt_of_le (hPr a h) hz1
      refine lv_istore (lv' := [(6, .int r44), (5, .int r37), (0, .ref b), (1, .ref x), (2, .ref h0), (3, .ref ou), (4, .int (nI n))]) hx hb dL_law_994 hl (by decide) rfl (fun ls hl => ?_)
      refine lv_goto (tgt := 2491) hx hb dL_law_996 (by decide) ?_
      exact W.widen (k := cells + 1170) (n := slots + 14100) (by omega) (by omega) (kk g H _ ls hC hR hPr hS (lv_sub hl [2, 3, 4, 5, 6] rfl))
    · have t45 : x24.toInt ≠ 0 := ti_ne c42 rfl (by decide)
      refine lv_iconst (v := 1) hx hb dL_law_986 (by decide) ?_
      refine lv_goto (tgt := 991) hx hb dL_law_987 (by decide) ?_
      have hFc := gA_m hPr hGP hGA hA hS
      refine va_calli (va_runV (As := [.int x22, .int 1]) (rest := []) ⟨hx, hb, hml, hown, hts⟩ (r_turn l dC dI kA adK adV Gm H h0 x22 1 (by decide) hR) (cwV 2 hts (goodIn_app (goodIn_r _ [58, 59, 60, 42] rfl (by decide +kernel)) (goodIn_ca (goodIn_r _ [35, 36, 37, 38, 39, 40, 41, 42, 43, 44, 45, 46, 47, 48, 49, 50, 51, 52, 53, 54, 55, 56, 57] rfl (by decide +kernel)) (bs_in2 _ _))) rfl rfl rfl (by decide +kernel) ⟨(Nat.le_of_ble_eq_true rfl), (Nat.le_of_ble_eq_true rfl)⟩) ⟨fun a U g mk q => by obtain ⟨q0, q1, qK, qE⟩ := q; exact ⟨q0, q1, va_K.moved (u := U) (U := U.calling g mk a) (Vm.Alike.refl U.vm) qK, EVS.blind g mk a qE⟩, RI.recv hK hR.ri, fun U hU hW => ⟨rfl, hU, va_K.moved hW.alike hK, hE.1.call hS hFc hU hW⟩⟩ rfl rfl hl.1 rfl (lv_room (Nat.le_of_ble_eq_true rfl)) dL_law_991 ⟨show cells + 2 + 0 ≤ 603072 from by omega, show slots + 12 + 0 ≤ 7262314 from by omega⟩) hS (fun q _ h => hFc q h) hFc (fun r46 u t H locs ht hvm hw hB hz1 hk1 hS => ?_)
      (try dsimp only at hB); rw [ht] at hB
      have hC := hC.kept (fun a h1 h2 => hk1 a h1 (gA_mn hGP h1 h2))
      have hR := hB
      have hPr : ∀ a, Pr a → a < H.size := fun a h => Nat.lt_of_lt_of_le (hPr a h) hz1
      refine lv_istore (lv' := [(6, .int r46), (5, .int r37), (0, .ref b), (1, .ref x), (2, .ref h0), (3, .ref ou), (4, .int (nI n))]) hx hb dL_law_994 hl (by decide) rfl (fun ls hl => ?_)
      refine lv_goto (tgt := 2491) hx hb dL_law_996 (by decide) ?_
      exact W.widen (k := cells + 1170) (n := slots + 14100) (by omega) (by omega) (kk g H _ ls hC hR hPr hS (lv_sub hl [2, 3, 4, 5, 6] rfl))
def w_law_13 : List Cond := .initialized RL :: (HAppend.hAppend (α := List Cond) (β := List Cond) (γ := List Cond) [.codeWith yL_coal cL_coal 5 (some .int) [(0, 10, 13, 13), (0, 10, 17, 15), (0, 10, 21, 50)], .code yX11_coal cX11_coal 4 (some .int), .code yX11_workOf cX11_workOf 2 (some (.object "SeaLand$Work")), .fieldLink RX11 16 "SeaLand" "lake" "LSeaLand$Lake;", .code yX11_within cX11_within 3 (some .boolean), .methodLink RX11 58 yX11_within, .static yX11_within, .initialized RX11, .classLink RX11 557 "java/lang/IndexOutOfBoundsException", .initialized "java/lang/IndexOutOfBoundsException", .methodLink RX11 167 yX11_workOf, .instanceMethod yX11_workOf, .selects RX11 yX11_workOf yX11_workOf, .code yX11_needNumbers cX11_needNumbers 1 none, .classLink RX11 547 "java/lang/IllegalArgumentException", .initialized "java/lang/IllegalArgumentException", .methodLink RX11 62 yX11_needNumbers, .static yX11_needNumbers, .constant RX11 96 100000, .code yX11_needKind cX11_needKind 1 none, .classLink RX11 552 "java/lang/ClassCastException", .initialized "java/lang/ClassCastException", .methodLink RX11 177 yX11_needKind, .static yX11_needKind, .fieldLink RX11 23 "SeaLand" "rows" "LSeaLand$Rows;", .code yX6_forget cX6_forget 1 none, .fieldLink RX6 18 "SeaLand$Rows" "kept" "I", .fieldLink RX6 22 "SeaLand$Rows" "oldest" "I", .methodLink RX11 76 yX6_forget, .instanceMethod yX6_forget, .selects RX6 yX6_forget yX6_forget, .initialized RX6, .methodLink RL 63 yX11_coal, .instanceMethod yX11_coal, .selects RX11 yX11_coal yX11_coal, .classLink RL 13 "java/lang/IndexOutOfBoundsException", .classLink RL 15 "java/lang/IllegalArgumentException", .classLink RL 50 "java/lang/ClassCastException", .methodLink RL 224 yL_coal, .static yL_coal, .initialized RL, .code yX12_coal cX12_coal 3 (some .int), .fieldLink RX12 194 "SeaLandModel" "thrown" "I", .code yX12_noWork cX12_noWork 2 (some .boolean), .fieldLink RX12 9 "SeaLandModel" "world" "[I", .code yX12_in cX12_in 3 (some .boolean), .methodLink RX12 197 yX12_in, .static yX12_in, .initialized RX12, .methodLink RX12 269 yX12_noWork, .instanceMethod yX12_noWork, .selects RX12 yX12_noWork yX12_noWork, .code yX12_throwsIf cX12_throwsIf 3 (some .boolean), .methodLink RX12 224 yX12_throwsIf, .instanceMethod yX12_throwsIf, .selects RX12 yX12_throwsIf yX12_throwsIf, .code yX12_of cX12_of 3 (some .int), .code yX12_at cX12_at 2 (some .int), .methodLink RX12 214 yX12_at, .static yX12_at, .methodLink RX12 217 yX12_of, .instanceMethod yX12_of, .selects RX12 yX12_of yX12_of, .fieldLink RX12 238 "SeaLandModel" "rows" "I", .constant RX12 241 100000, .methodLink RL 226 yX12_coal, .instanceMethod yX12_coal, .selects RX12 yX12_coal yX12_coal] bs2)
set_option maxHeartbeats 4000000 in
set_option maxRecDepth 100000 in
theorem law_13 {p : Program} {e : Env} {s : State} {m : MethodId} {below : List Frame} {meth : Method} {c : Code} {Q : State → Prop} (l : Launch) (hlt : l.stackTraces = false) {b L : Nat} {xs : Nat → Int32} {A : Nat → Prop} (hx : p.tables.exec = Jvm.exec) (hb : c.code = code) (hml : c.maxLocals = 7) (hown : s.vm.findClass RL = some m.cls) (hts : ∀ w ∈ w_law_13, w.before #[Value.ref b] s = true) (hX : va_X b L xs s s.heap) (hbl : b < s.heap.size) (hbA : ¬ A b) (hL : L ≤ 4096) {adK adV : Nat → Nat} (hE : EVC adK adV A s s.heap) (hN : NC s) (hAO : AO s) (hA : ∀ q : Nat, s.heap.size ≤ q → A q) {dC : Nat → ClassId} {dI : Nat → Nat → Nat} {kA : Nat → ClassId} (hK : va_K (dC, dI) vwCl (tyl kA) s) {Pr : Nat → Prop} {Gm : gT} {x h0 ou : Nat} (hPA : ∀ q, ¬ Pr q → A q) (hGP : ∀ a t, Gm a = some t → Pr a) (hGA : ∀ a t, Gm a = some t → A a) (n : Nat) (hn : n + 8 ≤ L) (H : Heap) (locs : List Loc) (cells slots : Nat) (hcl : cells + 1170 ≤ 603072) (hsl : slots + 14100 ≤ 7262314) (g : gz) (hC : CJ dC dI kA Pr g x ou H) (hR : RJ dC dI kA g h0 Gm H) (hPr : ∀ a, Pr a → a < H.size) (hS : va_S A s.heap H locs) (ls : Array Slot) (hl : lv_has ls 7 [(0, .ref b), (1, .ref x), (2, .ref h0), (3, .ref ou), (4, .int (nI n))]) (kk : ∀ (g : gz) (H : Heap) (locs : List Loc) (ls : Array Slot), CJ dC dI kA Pr g x ou H → RJ dC dI kA g h0 Gm H → (∀ a, Pr a → a < H.size) → va_S A s.heap H locs → lv_has ls 7 [(0, .ref b), (1, .ref x), (2, .ref h0), (3, .ref ou), (4, .int (nI n))] → W p l e room_1 s m #[Value.ref b] below meth c H locs (cells + 1170) (slots + 14100) Q (F0 m 2491 ls [])) : W p l e room_1 s m #[Value.ref b] below meth c H locs cells slots Q (F0 m 999 ls []) := by
  refine lv_aload_n hx hb dL_law_999 rfl (lv_at hl 1 rfl) ?_
  refine lv_aload_n hx hb dL_law_1000 rfl (lv_at hl 0 rfl) ?_
  refine lv_iload hx hb dL_law_1001 (lv_at hl 4 rfl) ?_
  refine lv_iconst (v := 1) hx hb dL_law_1003 (by decide) ?_
  refine lv_iadd hx hb dL_law_1004 ?_
  refine lv_topi (fun x21 ex21 => ?_)
  obtain rfl : nI (n + 1) = x21 := (ex21.trans (nI_add n 1)).symm
  refine va_sld hx hb hX hbl hbA hS (i := (nI (n + 1))) (vin_t (a := ((n + 1 : Nat) : Int)) (nI_toInt (by omega)) (by omega) (by omega)) dL_law_1005 ?_
  refine lv_topi (fun x22 ex22 => ?_)
  refine lv_aload_n hx hb dL_law_1006 rfl (lv_at hl 0 rfl) ?_
  refine lv_iload hx hb dL_law_1007 (lv_at hl 4 rfl) ?_
  refine lv_iconst (v := 2) hx hb dL_law_1009 (by decide) ?_
  refine lv_iadd hx hb dL_law_1010 ?_
  refine lv_topi (fun x23 ex23 => ?_)
  obtain rfl : nI (n + 2) = x23 := (ex23.trans (nI_add n 2)).symm
  refine va_sld hx hb hX hbl hbA hS (i := (nI (n + 2))) (vin_t (a := ((n + 2 : Nat) : Int)) (nI_toInt (by omega)) (by omega) (by omega)) dL_law_1011 ?_
  refine lv_topi (fun x24 ex24 => ?_)
  refine lv_aload_n hx hb dL_law_1012 rfl (lv_at hl 3 rfl) ?_
  have hFc := hPA
  refine va_calli (vx_runSW (As := [.ref x, .int x22, .int x24, .ref ou]) (rest := []) ⟨hx, hb, hml, hown, hts⟩ (k_coal l hlt dC dI kA adK adV Pr H x ou x22 x24  hPr hC) (vx_cwSW 4 hts (goodIn_app (goodIn_r _ [39, 40, 41] rfl (by decide +kernel)) (goodIn_ca (goodIn_r _ [1, 2, 3, 4, 5, 6, 7, 8, 9, 10, 11, 12, 13, 14, 15, 16, 17, 18, 19, 20, 21, 22, 23, 24, 25, 26, 27, 28, 29, 30, 31, 32, 33, 34, 35, 36, 37, 38] rfl (by decide +kernel)) (bs2_in _ _))) rfl rfl rfl (by decide +kernel) ⟨(Nat.le_of_ble_eq_true rfl), (Nat.le_of_ble_eq_true rfl)⟩) ⟨fun a U g mk q => by obtain ⟨q0, q1, qK, qE, qN, qA⟩ := q; exact ⟨q0, q1, va_K.moved (u := U) (U := U.calling g mk a) (Vm.Alike.refl U.vm) qK, EVC.blind g mk a qE, NC.blind g mk a qN, AO.blind g mk a qA⟩, fun U hU hW => ⟨rfl, hU, va_K.moved hW.alike hK, hE.call hS hFc hU hW, hN.call hW, hAO.call hW⟩⟩ rfl rfl hl.1 rfl (lv_room (Nat.le_of_ble_eq_true rfl)) dL_law_1013 ⟨show cells + 2 ≤ 603072 from by omega, show slots + 12 ≤ 7262314 from by omega⟩) hS (fun q _ h => hFc q h) hFc (fun r25 u t H locs ht hvm hw hB hz1 hk1 hS => ?_)
  (try dsimp only at hB); rw [ht] at hB
  have hR := hR.kept (fun a t h => hk1 a (hPr a (hGP a t h)) (fun h9 => h9 (hGP a t h)))
  have hC := hB
  have hPr : ∀ a, Pr a → a < H.size := fun a h => Nat.lt_of_lt_of_le (hPr a h) hz1
  refine lv_istore (lv' := [(5, .int r25), (0, .ref b), (1, .ref x), (2, .ref h0), (3, .ref ou), (4, .int (nI n))]) hx hb dL_law_1016 hl (by decide) rfl (fun ls hl => ?_)
  refine lv_aload_n hx hb dL_law_1018 rfl (lv_at hl 3 rfl) ?_
  refine lv_aload_n hx hb dL_law_1019 rfl (lv_at hl 1 rfl) ?_
  refine lv_iload hx hb dL_law_1020 (lv_at hl 5 rfl) ?_
  refine lv_iconst (v := 1) hx hb dL_law_1022 (by decide) ?_
  refine lv_iadd hx hb dL_law_1023 ?_
  refine lv_topi (fun x26 ex26 => ?_)
  obtain rfl : nI (n + 1) = x26 := (ex26.trans (nI_add n 1)).symm
  refine va_sld hx hb hX hbl hbA hS (i := (nI (n + 1))) (vin_t (a := ((n + 1 : Nat) : Int)) (nI_toInt (by omega)) (by omega) (by omega)) dL_law_1024 ?_
  refine lv_topi (fun x27 ex27 => ?_)
  obtain rfl : x22 = x27 := by rw [ex27, ex22] <;> exact congrArg xs (tn_same (i := (nI (n + 1))) (j := (nI (n + 1))) (show (nI (n + 1)).toInt = ((n + 1 : Nat) : Int) from (nI_toInt (by omega))) (show (nI (n + 1)).toInt = ((n + 1 : Nat) : Int) from (nI_toInt (by omega))) (by omega))
  refine lv_aload_n hx hb dL_law_1025 rfl (lv_at hl 1 rfl) ?_
  refine lv_iload hx hb dL_law_1026 (lv_at hl 5 rfl) ?_
  refine lv_iconst (v := 2) hx hb dL_law_1028 (by decide) ?_
  refine lv_iadd hx hb dL_law_1029 ?_
  refine lv_topi (fun x28 ex28 => ?_)
  obtain rfl : nI (n + 2) = x28 := (ex28.trans (nI_add n 2)).symm
  refine va_sld hx hb hX hbl hbA hS (i := (nI (n + 2))) (vin_t (a := ((n + 2 : Nat) : Int)) (nI_toInt (by omega)) (by omega) (by omega)) dL_law_1030 ?_
  refine lv_topi (fun x29 ex29 => ?_)
  obtain rfl : x24 = x29 := by rw [ex29, ex24] <;> exact congrArg xs (tn_same (i := (nI (n + 2))) (j := (nI (n + 2))) (show (nI (n + 2)).toInt = ((n + 2 : Nat) : Int) from (nI_toInt (by omega))) (show (nI (n + 2)).toInt = ((n + 2 : Nat) : Int) from (nI_toInt (by omega))) (by omega))
  have hFc := gA_m hPr hGP hGA hA hS
  refine va_calli (va_runV (As := [.int x22, .int x24]) (rest := []) ⟨hx, hb, hml, hown, hts⟩ (r_coal l dC dI kA adK adV Gm H h0 x22 x24  hR) (cwV 2 hts (goodIn_app (goodIn_r _ [66, 67, 68, 49] rfl (by decide +kernel)) (goodIn_ca (goodIn_r _ [42, 43, 44, 45, 46, 47, 48, 49, 50, 51, 52, 53, 54, 55, 56, 57, 58, 59, 60, 61, 62, 63, 64, 65] rfl (by decide +kernel)) (bs_in2 _ _))) rfl rfl rfl (by decide +kernel) ⟨(Nat.le_of_ble_eq_true rfl), (Nat.le_of_ble_eq_true rfl)⟩) ⟨fun a U g mk q => by obtain ⟨q0, q1, qK, qE⟩ := q; exact ⟨q0, q1, va_K.moved (u := U) (U := U.calling g mk a) (Vm.Alike.refl U.vm) qK, EVS.blind g mk a qE⟩, RI.recv hK hR.ri, fun U hU hW => ⟨rfl, hU, va_K.moved hW.alike hK, hE.1.call hS hFc hU hW⟩⟩ rfl rfl hl.1 rfl (lv_room (Nat.le_of_ble_eq_true rfl)) dL_law_1031 ⟨show cells + 2 + 0 ≤ 603072 from by omega, show slots + 12 + 0 ≤ 7262314 from by omega⟩) hS (fun q _ h => hFc q h) hFc (fun r30 u t H locs ht hvm hw hB hz1 hk1 hS => ?_)
  (try dsimp only at hB); rw [ht] at hB
  have hC := hC.kept (fun a h1 h2 => hk1 a h1 (gA_mn hGP h1 h2))
  have hR := hB
  have hPr : ∀ a, Pr a → a < H.size := fun a h => Nat.lt_of_lt_of_le (hPr a h) hz1
  refine lv_istore (lv' := [(6, .int r30), (5, .int r25), (0, .ref b), (1, .ref x), (2, .ref h0), (3, .ref ou), (4, .int (nI n))]) hx hb dL_law_1034 hl (by decide) rfl (fun ls hl => ?_)
  refine lv_goto (tgt := 2491) hx hb dL_law_1036 (by decide) ?_
  exact W.widen (k := cells + 1170) (n := slots + 14100) (by omega) (by omega) (kk g H _ ls hC hR hPr hS (lv_sub hl [2, 3, 4, 5, 6] rfl))
def w_law_14 : List Cond := .initialized RL :: (HAppend.hAppend (α := List Cond) (β := List Cond) (γ := List Cond) [.codeWith yL_work cL_work 5 (some .int) [(0, 10, 13, 13), (0, 10, 17, 39)], .code yX11_work cX11_work 4 (some .int), .code yX11_workOf cX11_workOf 2 (some (.object "SeaLand$Work")), .fieldLink RX11 16 "SeaLand" "lake" "LSeaLand$Lake;", .code yX11_within cX11_within 3 (some .boolean), .methodLink RX11 58 yX11_within, .static yX11_within, .initialized RX11, .classLink RX11 557 "java/lang/IndexOutOfBoundsException", .initialized "java/lang/IndexOutOfBoundsException", .methodLink RX11 167 yX11_workOf, .instanceMethod yX11_workOf, .selects RX11 yX11_workOf yX11_workOf, .code yX3_sizeOf cX3_sizeOf 2 (some .int), .code yX3_crestOf cX3_crestOf 2 (some .int), .fieldLink RX3 21 "SeaLand$Lake" "ground" "LSeaLand$Ground;", .code yX10_thickness cX10_thickness 3 (some .int), .fieldLink RX10 34 "SeaLand$Work" "layers" "I", .fieldLink RX10 9 "SeaLand$Work" "thick" "[I", .methodLink RX3 80 yX10_thickness, .instanceMethod yX10_thickness, .selects RX10 yX10_thickness yX10_thickness, .initialized RX10, .methodLink RX3 84 yX3_crestOf, .instanceMethod yX3_crestOf, .selects RX3 yX3_crestOf yX3_crestOf, .initialized RX3, .methodLink RX11 213 yX3_sizeOf, .instanceMethod yX3_sizeOf, .selects RX3 yX3_sizeOf yX3_sizeOf, .code yX10_isBank cX10_isBank 1 (some .boolean), .fieldLink RX10 18 "SeaLand$Work" "kind" "I", .methodLink RX11 171 yX10_isBank, .instanceMethod yX10_isBank, .selects RX10 yX10_isBank yX10_isBank, .classLink RX11 134 "java/util/NoSuchElementException", .initialized "java/util/NoSuchElementException", .methodLink RL 66 yX11_work, .instanceMethod yX11_work, .selects RX11 yX11_work yX11_work, .classLink RL 13 "java/lang/IndexOutOfBoundsException", .classLink RL 39 "java/util/NoSuchElementException", .methodLink RL 227 yL_work, .static yL_work, .initialized RL, .code yX12_work cX12_work 4 (some .int), .fieldLink RX12 194 "SeaLandModel" "thrown" "I", .code yX12_noWork cX12_noWork 2 (some .boolean), .fieldLink RX12 9 "SeaLandModel" "world" "[I", .code yX12_in cX12_in 3 (some .boolean), .methodLink RX12 197 yX12_in, .static yX12_in, .initialized RX12, .methodLink RX12 269 yX12_noWork, .instanceMethod yX12_noWork, .selects RX12 yX12_noWork yX12_noWork, .code yX12_throwsIf cX12_throwsIf 3 (some .boolean), .methodLink RX12 224 yX12_throwsIf, .instanceMethod yX12_throwsIf, .selects RX12 yX12_throwsIf yX12_throwsIf, .code yX12_of cX12_of 3 (some .int), .code yX12_at cX12_at 2 (some .int), .methodLink RX12 214 yX12_at, .static yX12_at, .methodLink RX12 217 yX12_of, .instanceMethod yX12_of, .selects RX12 yX12_of yX12_of, .code yX12_crest cX12_crest 4 (some .int), .methodLink RX12 282 yX12_crest, .instanceMethod yX12_crest, .selects RX12 yX12_crest yX12_crest, .code yX12_isDike cX12_isDike 2 (some .boolean), .methodLink RX12 272 yX12_isDike, .instanceMethod yX12_isDike, .selects RX12 yX12_isDike yX12_isDike, .methodLink RL 229 yX12_work, .instanceMethod yX12_work, .selects RX12 yX12_work yX12_work] bs2)
set_option maxHeartbeats 4000000 in
set_option maxRecDepth 100000 in
theorem law_14 {p : Program} {e : Env} {s : State} {m : MethodId} {below : List Frame} {meth : Method} {c : Code} {Q : State → Prop} (l : Launch) (hlt : l.stackTraces = false) {b L : Nat} {xs : Nat → Int32} {A : Nat → Prop} (hx : p.tables.exec = Jvm.exec) (hb : c.code = code) (hml : c.maxLocals = 7) (hown : s.vm.findClass RL = some m.cls) (hts : ∀ w ∈ w_law_14, w.before #[Value.ref b] s = true) (hX : va_X b L xs s s.heap) (hbl : b < s.heap.size) (hbA : ¬ A b) (hL : L ≤ 4096) {adK adV : Nat → Nat} (hE : EVC adK adV A s s.heap) (hN : NC s) (hAO : AO s) (hA : ∀ q : Nat, s.heap.size ≤ q → A q) {dC : Nat → ClassId} {dI : Nat → Nat → Nat} {kA : Nat → ClassId} (hK : va_K (dC, dI) vwCl (tyl kA) s) {Pr : Nat → Prop} {Gm : gT} {x h0 ou : Nat} (hPA : ∀ q, ¬ Pr q → A q) (hGP : ∀ a t, Gm a = some t → Pr a) (hGA : ∀ a t, Gm a = some t → A a) (n : Nat) (hn : n + 8 ≤ L) (H : Heap) (locs : List Loc) (cells slots : Nat) (hcl : cells + 1170 ≤ 603072) (hsl : slots + 14100 ≤ 7262314) (g : gz) (hC : CJ dC dI kA Pr g x ou H) (hR : RJ dC dI kA g h0 Gm H) (hPr : ∀ a, Pr a → a < H.size) (hS : va_S A s.heap H locs) (ls : Array Slot) (hl : lv_has ls 7 [(0, .ref b), (1, .ref x), (2, .ref h0), (3, .ref ou), (4, .int (nI n))]) (kk : ∀ (g : gz) (H : Heap) (locs : List Loc) (ls : Array Slot), CJ dC dI kA Pr g x ou H → RJ dC dI kA g h0 Gm H → (∀ a, Pr a → a < H.size) → va_S A s.heap H locs → lv_has ls 7 [(0, .ref b), (1, .ref x), (2, .ref h0), (3, .ref ou), (4, .int (nI n))] → W p l e room_1 s m #[Value.ref b] below meth c H locs (cells + 1170) (slots + 14100) Q (F0 m 2491 ls [])) : W p l e room_1 s m #[Value.ref b] below meth c H locs cells slots Q (F0 m 1039 ls []) := by
  refine lv_aload_n hx hb dL_law_1039 rfl (lv_at hl 1 rfl) ?_
  refine lv_aload_n hx hb dL_law_1040 rfl (lv_at hl 0 rfl) ?_
  refine lv_iload hx hb dL_law_1041 (lv_at hl 4 rfl) ?_
  refine lv_iconst (v := 1) hx hb dL_law_1043 (by decide) ?_
  refine lv_iadd hx hb dL_law_1044 ?_
  refine lv_topi (fun x21 ex21 => ?_)
  obtain rfl : nI (n + 1) = x21 := (ex21.trans (nI_add n 1)).symm
  refine va_sld hx hb hX hbl hbA hS (i := (nI (n + 1))) (vin_t (a := ((n + 1 : Nat) : Int)) (nI_toInt (by omega)) (by omega) (by omega)) dL_law_1045 ?_
  refine lv_topi (fun x22 ex22 => ?_)
  refine lv_aload_n hx hb dL_law_1046 rfl (lv_at hl 0 rfl) ?_
  refine lv_iload hx hb dL_law_1047 (lv_at hl 4 rfl) ?_
  refine lv_iconst (v := 2) hx hb dL_law_1049 (by decide) ?_
  refine lv_iadd hx hb dL_law_1050 ?_
  refine lv_topi (fun x23 ex23 => ?_)
  obtain rfl : nI (n + 2) = x23 := (ex23.trans (nI_add n 2)).symm
  refine va_sld hx hb hX hbl hbA hS (i := (nI (n + 2))) (vin_t (a := ((n + 2 : Nat) : Int)) (nI_toInt (by omega)) (by omega) (by omega)) dL_law_1051 ?_
  refine lv_topi (fun x24 ex24 => ?_)
  refine lv_aload_n hx hb dL_law_1052 rfl (lv_at hl 3 rfl) ?_
  have hFc := hPA
  refine va_calli (vx_runSW (As := [.ref x, .int x22, .int x24, .ref ou]) (rest := []) ⟨hx, hb, hml, hown, hts⟩ (k_work l hlt dC dI kA adK adV Pr H x ou x22 x24  hPr hC) (vx_cwSW 4 hts (goodIn_app (goodIn_r _ [43, 44, 45] rfl (by decide +kernel)) (goodIn_ca (goodIn_r _ [1, 2, 3, 4, 5, 6, 7, 8, 9, 10, 11, 12, 13, 14, 15, 16, 17, 18, 19, 20, 21, 22, 23, 24, 25, 26, 27, 28, 29, 30, 31, 32, 33, 34, 35, 36, 37, 38, 39, 40, 41, 42] rfl (by decide +kernel)) (bs2_in _ _))) rfl rfl rfl (by decide +kernel) ⟨(Nat.le_of_ble_eq_true rfl), (Nat.le_of_ble_eq_true rfl)⟩) ⟨fun a U g mk q => by obtain ⟨q0, q1, qK, qE, qN, qA⟩ := q; exact ⟨q0, q1, va_K.moved (u := U) (U := U.calling g mk a) (Vm.Alike.refl U.vm) qK, EVC.blind g mk a qE, NC.blind g mk a qN, AO.blind g mk a qA⟩, fun U hU hW => ⟨rfl, hU, va_K.moved hW.alike hK, hE.call hS hFc hU hW, hN.call hW, hAO.call hW⟩⟩ rfl rfl hl.1 rfl (lv_room (Nat.le_of_ble_eq_true rfl)) dL_law_1053 ⟨show cells + 2 ≤ 603072 from by omega, show slots + 12 ≤ 7262314 from by omega⟩) hS (fun q _ h => hFc q h) hFc (fun r25 u t H locs ht hvm hw hB hz1 hk1 hS => ?_)
  (try dsimp only at hB); rw [ht] at hB
  have hR := hR.kept (fun a t h => hk1 a (hPr a (hGP a t h)) (fun h9 => h9 (hGP a t h)))
  have hC := hB
  have hPr : ∀ a, Pr a → a < H.size := fun a h => Nat.lt_of_lt_of_le (hPr a h) hz1
  refine lv_istore (lv' := [(5, .int r25), (0, .ref b), (1, .ref x), (2, .ref h0), (3, .ref ou), (4, .int (nI n))]) hx hb dL_law_1056 hl (by decide) rfl (fun ls hl => ?_)
  refine lv_aload_n hx hb dL_law_1058 rfl (lv_at hl 3 rfl) ?_
  refine lv_aload_n hx hb dL_law_1059 rfl (lv_at hl 1 rfl) ?_
  refine lv_iload hx hb dL_law_1060 (lv_at hl 5 rfl) ?_
  refine lv_iconst (v := 1) hx hb dL_law_1062 (by decide) ?_
  refine lv_iadd hx hb dL_law_1063 ?_
  refine lv_topi (fun x26 ex26 => ?_)
  obtain rfl : nI (n + 1) = x26 := (ex26.trans (nI_add n 1)).symm
  refine va_sld hx hb hX hbl hbA hS (i := (nI (n + 1))) (vin_t (a := ((n + 1 : Nat) : Int)) (nI_toInt (by omega)) (by omega) (by omega)) dL_law_1064 ?_
  refine lv_topi (fun x27 ex27 => ?_)
  obtain rfl : x22 = x27 := by rw [ex27, ex22] <;> exact congrArg xs (tn_same (i := (nI (n + 1))) (j := (nI (n + 1))) (show (nI (n + 1)).toInt = ((n + 1 : Nat) : Int) from (nI_toInt (by omega))) (show (nI (n + 1)).toInt = ((n + 1 : Nat) : Int) from (nI_toInt (by omega))) (by omega))
  refine lv_aload_n hx hb dL_law_1065 rfl (lv_at hl 1 rfl) ?_
  refine lv_iload hx hb dL_law_1066 (lv_at hl 5 rfl) ?_
  refine lv_iconst (v := 2) hx hb dL_law_1068 (by decide) ?_
  refine lv_iadd hx hb dL_law_1069 ?_
  refine lv_topi (fun x28 ex28 => ?_)
  obtain rfl : nI (n + 2) = x28 := (ex28.trans (nI_add n 2)).symm
  refine va_sld hx hb hX hbl hbA hS (i := (nI (n + 2))) (vin_t (a := ((n + 2 : Nat) : Int)) (nI_toInt (by omega)) (by omega) (by omega)) dL_law_1070 ?_
  refine lv_topi (fun x29 ex29 => ?_)
  obtain rfl : x24 = x29 := by rw [ex29, ex24] <;> exact congrArg xs (tn_same (i := (nI (n + 2))) (j := (nI (n + 2))) (show (nI (n + 2)).toInt = ((n + 2 : Nat) : Int) from (nI_toInt (by omega))) (show (nI (n + 2)).toInt = ((n + 2 : Nat) : Int) from (nI_toInt (by omega))) (by omega))
  have hFc := gA_m hPr hGP hGA hA hS
  refine va_calli (va_runV (As := [.int x22, .int x24]) (rest := []) ⟨hx, hb, hml, hown, hts⟩ (r_work l dC dI kA adK adV Gm H h0 x22 x24  hR) (cwV 2 hts (goodIn_app (goodIn_r _ [76, 77, 78, 53] rfl (by decide +kernel)) (goodIn_ca (goodIn_r _ [46, 47, 48, 49, 50, 51, 52, 53, 54, 55, 56, 57, 58, 59, 60, 61, 62, 63, 64, 65, 66, 67, 68, 69, 70, 71, 72, 73, 74, 75] rfl (by decide +kernel)) (bs_in2 _ _))) rfl rfl rfl (by decide +kernel) ⟨(Nat.le_of_ble_eq_true rfl), (Nat.le_of_ble_eq_true rfl)⟩) ⟨fun a U g mk q => by obtain ⟨q0, q1, qK, qE⟩ := q; exact ⟨q0, q1, va_K.moved (u := U) (U := U.calling g mk a) (Vm.Alike.refl U.vm) qK, EVS.blind g mk a qE⟩, RI.recv hK hR.ri, fun U hU hW => ⟨rfl, hU, va_K.moved hW.alike hK, hE.1.call hS hFc hU hW⟩⟩ rfl rfl hl.1 rfl (lv_room (Nat.le_of_ble_eq_true rfl)) dL_law_1071 ⟨show cells + 2 + 0 ≤ 603072 from by omega, show slots + 12 + 0 ≤ 7262314 from by omega⟩) hS (fun q _ h => hFc q h) hFc (fun r30 u t H locs ht hvm hw hB hz1 hk1 hS => ?_)
  (try dsimp only at hB); rw [ht] at hB
  have hC := hC.kept (fun a h1 h2 => hk1 a h1 (gA_mn hGP h1 h2))
  have hR := hB
  have hPr : ∀ a, Pr a → a < H.size := fun a h => Nat.lt_of_lt_of_le (hPr a h) hz1
  refine lv_istore (lv' := [(6, .int r30), (5, .int r25), (0, .ref b), (1, .ref x), (2, .ref h0), (3, .ref ou), (4, .int (nI n))]) hx hb dL_law_1074 hl (by decide) rfl (fun ls hl => ?_)
  refine lv_goto (tgt := 2491) hx hb dL_law_1076 (by decide) ?_
  exact W.widen (k := cells + 1170) (n := slots + 14100) (by omega) (by omega) (kk g H _ ls hC hR hPr hS (lv_sub hl [2, 3, 4, 5, 6] rfl))
def w_law_15 : List Cond := .initialized RL :: (HAppend.hAppend (α := List Cond) (β := List Cond) (γ := List Cond) [.codeWith yL_seep cL_seep 5 (some .int) [(0, 10, 13, 13), (0, 10, 17, 15), (0, 10, 21, 50)], .code yX11_seep cX11_seep 4 (some .int), .code yX11_workOf cX11_workOf 2 (some (.object "SeaLand$Work")), .fieldLink RX11 16 "SeaLand" "lake" "LSeaLand$Lake;", .code yX11_within cX11_within 3 (some .boolean), .methodLink RX11 58 yX11_within, .static yX11_within, .initialized RX11, .classLink RX11 557 "java/lang/IndexOutOfBoundsException", .initialized "java/lang/IndexOutOfBoundsException", .methodLink RX11 167 yX11_workOf, .instanceMethod yX11_workOf, .selects RX11 yX11_workOf yX11_workOf, .code yX11_needNumbers cX11_needNumbers 1 none, .classLink RX11 547 "java/lang/IllegalArgumentException", .initialized "java/lang/IllegalArgumentException", .methodLink RX11 62 yX11_needNumbers, .static yX11_needNumbers, .code yX10_isBank cX10_isBank 1 (some .boolean), .fieldLink RX10 18 "SeaLand$Work" "kind" "I", .methodLink RX11 171 yX10_isBank, .instanceMethod yX10_isBank, .selects RX10 yX10_isBank yX10_isBank, .initialized RX10, .code yX11_needKind cX11_needKind 1 none, .classLink RX11 552 "java/lang/ClassCastException", .initialized "java/lang/ClassCastException", .methodLink RX11 177 yX11_needKind, .static yX11_needKind, .code yX3_seepOf cX3_seepOf 5 (some .int), .fieldLink RX3 21 "SeaLand$Lake" "ground" "LSeaLand$Ground;", .code yX2_levelOf cX2_levelOf 2 (some .int), .fieldLink RX2 15 "SeaLand$Ground" "height" "[I", .fieldLink RX2 25 "SeaLand$Ground" "water" "[I", .methodLink RX3 40 yX2_levelOf, .instanceMethod yX2_levelOf, .selects RX2 yX2_levelOf yX2_levelOf, .initialized RX2, .methodLink RX3 97 Lib.Math.max.name, .static Lib.Math.max.name, .initialized "java/lang/Math", .code Lib.Math.max.name Lib.Math.max.code 2 (some .int), .code yX10_leakBelow cX10_leakBelow 6 (some .int), .fieldLink RX10 34 "SeaLand$Work" "layers" "I", .fieldLink RX10 9 "SeaLand$Work" "thick" "[I", .fieldLink RX10 15 "SeaLand$Work" "clay" "[I", .methodLink RX3 100 yX10_leakBelow, .instanceMethod yX10_leakBelow, .selects RX10 yX10_leakBelow yX10_leakBelow, .methodLink RX11 219 yX3_seepOf, .instanceMethod yX3_seepOf, .selects RX3 yX3_seepOf yX3_seepOf, .initialized RX3, .methodLink RL 69 yX11_seep, .instanceMethod yX11_seep, .selects RX11 yX11_seep yX11_seep, .classLink RL 13 "java/lang/IndexOutOfBoundsException", .classLink RL 15 "java/lang/IllegalArgumentException", .classLink RL 50 "java/lang/ClassCastException", .methodLink RL 230 yL_seep, .static yL_seep, .initialized RL, .code yX12_seep cX12_seep 3 (some .int), .fieldLink RX12 194 "SeaLandModel" "thrown" "I", .code yX12_noWork cX12_noWork 2 (some .boolean), .fieldLink RX12 9 "SeaLandModel" "world" "[I", .code yX12_in cX12_in 3 (some .boolean), .methodLink RX12 197 yX12_in, .static yX12_in, .initialized RX12, .methodLink RX12 269 yX12_noWork, .instanceMethod yX12_noWork, .selects RX12 yX12_noWork yX12_noWork, .code yX12_throwsIf cX12_throwsIf 3 (some .boolean), .methodLink RX12 224 yX12_throwsIf, .instanceMethod yX12_throwsIf, .selects RX12 yX12_throwsIf yX12_throwsIf, .code yX12_isDike cX12_isDike 2 (some .boolean), .code yX12_of cX12_of 3 (some .int), .code yX12_at cX12_at 2 (some .int), .methodLink RX12 214 yX12_at, .static yX12_at, .methodLink RX12 217 yX12_of, .instanceMethod yX12_of, .selects RX12 yX12_of yX12_of, .methodLink RX12 272 yX12_isDike, .instanceMethod yX12_isDike, .selects RX12 yX12_isDike yX12_isDike, .code yX12_seepOf cX12_seepOf 8 (some .int), .code yX12_level cX12_level 2 (some .int), .code yX12_isLand cX12_isLand 2 (some .boolean), .methodLink RX12 235 yX12_isLand, .instanceMethod yX12_isLand, .selects RX12 yX12_isLand yX12_isLand, .code yX12_hour cX12_hour 1 (some .int), .methodLink RX12 228 yX12_hour, .instanceMethod yX12_hour, .selects RX12 yX12_hour yX12_hour, .code yX12_outside cX12_outside 4 (some .int), .methodLink RX12 247 yX12_outside, .instanceMethod yX12_outside, .selects RX12 yX12_outside yX12_outside, .methodLink RX12 285 yX12_level, .instanceMethod yX12_level, .selects RX12 yX12_level yX12_level, .methodLink RX12 211 Lib.Math.max.name, .methodLink RX12 288 yX12_seepOf, .instanceMethod yX12_seepOf, .selects RX12 yX12_seepOf yX12_seepOf, .methodLink RL 232 yX12_seep, .instanceMethod yX12_seep, .selects RX12 yX12_seep yX12_seep] bs2)
set_option maxHeartbeats 4000000 in
set_option maxRecDepth 100000 in
theorem law_15 {p : Program} {e : Env} {s : State} {m : MethodId} {below : List Frame} {meth : Method} {c : Code} {Q : State → Prop} (l : Launch) (hlt : l.stackTraces = false) {b L : Nat} {xs : Nat → Int32} {A : Nat → Prop} (hx : p.tables.exec = Jvm.exec) (hb : c.code = code) (hml : c.maxLocals = 7) (hown : s.vm.findClass RL = some m.cls) (hts : ∀ w ∈ w_law_15, w.before #[Value.ref b] s = true) (hX : va_X b L xs s s.heap) (hbl : b < s.heap.size) (hbA : ¬ A b) (hL : L ≤ 4096) {adK adV : Nat → Nat} (hE : EVC adK adV A s s.heap) (hN : NC s) (hAO : AO s) (hA : ∀ q : Nat, s.heap.size ≤ q → A q) {dC : Nat → ClassId} {dI : Nat → Nat → Nat} {kA : Nat → ClassId} (hK : va_K (dC, dI) vwCl (tyl kA) s) {Pr : Nat → Prop} {Gm : gT} {x h0 ou : Nat} (hPA : ∀ q, ¬ Pr q → A q) (hGP : ∀ a t, Gm a = some t → Pr a) (hGA : ∀ a t, Gm a = some t → A a) (n : Nat) (hn : n + 8 ≤ L) (H : Heap) (locs : List Loc) (cells slots : Nat) (hcl : cells + 1170 ≤ 603072) (hsl : slots + 14100 ≤ 7262314) (g : gz) (hC : CJ dC dI kA Pr g x ou H) (hR : RJ dC dI kA g h0 Gm H) (hPr : ∀ a, Pr a → a < H.size) (hS : va_S A s.heap H locs) (ls : Array Slot) (hl : lv_has ls 7 [(0, .ref b), (1, .ref x), (2, .ref h0), (3, .ref ou), (4, .int (nI n))]) (kk : ∀ (g : gz) (H : Heap) (locs : List Loc) (ls : Array Slot), CJ dC dI kA Pr g x ou H → RJ dC dI kA g h0 Gm H → (∀ a, Pr a → a < H.size) → va_S A s.heap H locs → lv_has ls 7 [(0, .ref b), (1, .ref x), (2, .ref h0), (3, .ref ou), (4, .int (nI n))] → W p l e room_1 s m #[Value.ref b] below meth c H locs (cells + 1170) (slots + 14100) Q (F0 m 2491 ls [])) : W p l e room_1 s m #[Value.ref b] below meth c H locs cells slots Q (F0 m 1079 ls []) := by
  refine lv_aload_n hx hb dL_law_1079 rfl (lv_at hl 1 rfl) ?_
  refine lv_aload_n hx hb dL_law_1080 rfl (lv_at hl 0 rfl) ?_
  refine lv_iload hx hb dL_law_1081 (lv_at hl 4 rfl) ?_
  refine lv_iconst (v := 1) hx hb dL_law_1083 (by decide) ?_
  refine lv_iadd hx hb dL_law_1084 ?_
  refine lv_topi (fun x21 ex21 => ?_)
  obtain rfl : nI (n + 1) = x21 := (ex21.trans (nI_add n 1)).symm
  refine va_sld hx hb hX hbl hbA hS (i := (nI (n + 1))) (vin_t (a := ((n + 1 : Nat) : Int)) (nI_toInt (by omega)) (by omega) (by omega)) dL_law_1085 ?_
  refine lv_topi (fun x22 ex22 => ?_)
  refine lv_aload_n hx hb dL_law_1086 rfl (lv_at hl 0 rfl) ?_
  refine lv_iload hx hb dL_law_1087 (lv_at hl 4 rfl) ?_
  refine lv_iconst (v := 2) hx hb dL_law_1089 (by decide) ?_
  refine lv_iadd hx hb dL_law_1090 ?_
  refine lv_topi (fun x23 ex23 => ?_)
  obtain rfl : nI (n + 2) = x23 := (ex23.trans (nI_add n 2)).symm
  refine va_sld hx hb hX hbl hbA hS (i := (nI (n + 2))) (vin_t (a := ((n + 2 : Nat) : Int)) (nI_toInt (by omega)) (by omega) (by omega)) dL_law_1091 ?_
  refine lv_topi (fun x24 ex24 => ?_)
  refine lv_aload_n hx hb dL_law_1092 rfl (lv_at hl 3 rfl) ?_
  have hFc := hPA
  refine va_calli (vx_runSW (As := [.ref x, .int x22, .int x24, .ref ou]) (rest := []) ⟨hx, hb, hml, hown, hts⟩ (k_seep l hlt dC dI kA adK adV Pr H x ou x22 x24  hPr hC) (vx_cwSW 4 hts (goodIn_app (goodIn_r _ [60, 61, 62] rfl (by decide +kernel)) (goodIn_ca (goodIn_r _ [1, 2, 3, 4, 5, 6, 7, 8, 9, 10, 11, 12, 13, 14, 15, 16, 17, 18, 19, 20, 21, 22, 23, 24, 25, 26, 27, 28, 29, 30, 31, 32, 33, 34, 35, 36, 37, 38, 39, 40, 41, 42, 43, 44, 45, 46, 47, 48, 49, 50, 51, 52, 53, 54, 55, 56, 57, 58, 59] rfl (by decide +kernel)) (bs2_in _ _))) rfl rfl rfl (by decide +kernel) ⟨(Nat.le_of_ble_eq_true rfl), (Nat.le_of_ble_eq_true rfl)⟩) ⟨fun a U g mk q => by obtain ⟨q0, q1, qK, qE, qN, qA⟩ := q; exact ⟨q0, q1, va_K.moved (u := U) (U := U.calling g mk a) (Vm.Alike.refl U.vm) qK, EVC.blind g mk a qE, NC.blind g mk a qN, AO.blind g mk a qA⟩, fun U hU hW => ⟨rfl, hU, va_K.moved hW.alike hK, hE.call hS hFc hU hW, hN.call hW, hAO.call hW⟩⟩ rfl rfl hl.1 rfl (lv_room (Nat.le_of_ble_eq_true rfl)) dL_law_1093 ⟨show cells + 2 ≤ 603072 from by omega, show slots + 12 ≤ 7262314 from by omega⟩) hS (fun q _ h => hFc q h) hFc (fun r25 u t H locs ht hvm hw hB hz1 hk1 hS => ?_)
  (try dsimp only at hB); rw [ht] at hB
  have hR := hR.kept (fun a t h => hk1 a (hPr a (hGP a t h)) (fun h9 => h9 (hGP a t h)))
  have hC := hB
  have hPr : ∀ a, Pr a → a < H.size := fun a h => Nat.lt_of_lt_of_le (hPr a h) hz1
  refine lv_istore (lv' := [(5, .int r25), (0, .ref b), (1, .ref x), (2, .ref h0), (3, .ref ou), (4, .int (nI n))]) hx hb dL_law_1096 hl (by decide) rfl (fun ls hl => ?_)
  refine lv_aload_n hx hb dL_law_1098 rfl (lv_at hl 3 rfl) ?_
  refine lv_aload_n hx hb dL_law_1099 rfl (lv_at hl 1 rfl) ?_
  refine lv_iload hx hb dL_law_1100 (lv_at hl 5 rfl) ?_
  refine lv_iconst (v := 1) hx hb dL_law_1102 (by decide) ?_
  refine lv_iadd hx hb dL_law_1103 ?_
  refine lv_topi (fun x26 ex26 => ?_)
  obtain rfl : nI (n + 1) = x26 := (ex26.trans (nI_add n 1)).symm
  refine va_sld hx hb hX hbl hbA hS (i := (nI (n + 1))) (vin_t (a := ((n + 1 : Nat) : Int)) (nI_toInt (by omega)) (by omega) (by omega)) dL_law_1104 ?_
  refine lv_topi (fun x27 ex27 => ?_)
  obtain rfl : x22 = x27 := by rw [ex27, ex22] <;> exact congrArg xs (tn_same (i := (nI (n + 1))) (j := (nI (n + 1))) (show (nI (n + 1)).toInt = ((n + 1 : Nat) : Int) from (nI_toInt (by omega))) (show (nI (n + 1)).toInt = ((n + 1 : Nat) : Int) from (nI_toInt (by omega))) (by omega))
  refine lv_aload_n hx hb dL_law_1105 rfl (lv_at hl 1 rfl) ?_
  refine lv_iload hx hb dL_law_1106 (lv_at hl 5 rfl) ?_
  refine lv_iconst (v := 2) hx hb dL_law_1108 (by decide) ?_
  refine lv_iadd hx hb dL_law_1109 ?_
  refine lv_topi (fun x28 ex28 => ?_)
  obtain rfl : nI (n + 2) = x28 := (ex28.trans (nI_add n 2)).symm
  refine va_sld hx hb hX hbl hbA hS (i := (nI (n + 2))) (vin_t (a := ((n + 2 : Nat) : Int)) (nI_toInt (by omega)) (by omega) (by omega)) dL_law_1110 ?_
  refine lv_topi (fun x29 ex29 => ?_)
  obtain rfl : x24 = x29 := by rw [ex29, ex24] <;> exact congrArg xs (tn_same (i := (nI (n + 2))) (j := (nI (n + 2))) (show (nI (n + 2)).toInt = ((n + 2 : Nat) : Int) from (nI_toInt (by omega))) (show (nI (n + 2)).toInt = ((n + 2 : Nat) : Int) from (nI_toInt (by omega))) (by omega))
  have hFc := gA_m hPr hGP hGA hA hS
  refine va_calli (va_runV (As := [.int x22, .int x24]) (rest := []) ⟨hx, hb, hml, hown, hts⟩ (r_seep l dC dI kA adK adV Gm H h0 x22 x24  hR) (cwV 2 hts (goodIn_app (goodIn_r _ [110, 111, 112, 70] rfl (by decide +kernel)) (goodIn_ca (goodIn_r _ [63, 64, 65, 66, 67, 68, 69, 70, 71, 72, 73, 74, 75, 76, 77, 78, 79, 80, 81, 82, 83, 84, 85, 86, 87, 88, 89, 90, 91, 92, 93, 94, 95, 96, 97, 98, 99, 100, 101, 102, 103, 104, 105, 106, 40, 41, 42, 107, 108, 109] rfl (by decide +kernel)) (bs_in2 _ _))) rfl rfl rfl (by decide +kernel) ⟨(Nat.le_of_ble_eq_true rfl), (Nat.le_of_ble_eq_true rfl)⟩) ⟨fun a U g mk q => by obtain ⟨q0, q1, qK, qE⟩ := q; exact ⟨q0, q1, va_K.moved (u := U) (U := U.calling g mk a) (Vm.Alike.refl U.vm) qK, EVS.blind g mk a qE⟩, RI.recv hK hR.ri, fun U hU hW => ⟨rfl, hU, va_K.moved hW.alike hK, hE.1.call hS hFc hU hW⟩⟩ rfl rfl hl.1 rfl (lv_room (Nat.le_of_ble_eq_true rfl)) dL_law_1111 ⟨show cells + 2 + 0 ≤ 603072 from by omega, show slots + 12 + 0 ≤ 7262314 from by omega⟩) hS (fun q _ h => hFc q h) hFc (fun r30 u t H locs ht hvm hw hB hz1 hk1 hS => ?_)
  (try dsimp only at hB); rw [ht] at hB
  have hC := hC.kept (fun a h1 h2 => hk1 a h1 (gA_mn hGP h1 h2))
  have hR := hB
  have hPr : ∀ a, Pr a → a < H.size := fun a h => Nat.lt_of_lt_of_le (hPr a h) hz1
  refine lv_istore (lv' := [(6, .int r30), (5, .int r25), (0, .ref b), (1, .ref x), (2, .ref h0), (3, .ref ou), (4, .int (nI n))]) hx hb dL_law_1114 hl (by decide) rfl (fun ls hl => ?_)
  refine lv_goto (tgt := 2491) hx hb dL_law_1116 (by decide) ?_
  exact W.widen (k := cells + 1170) (n := slots + 14100) (by omega) (by omega) (kk g H _ ls hC hR hPr hS (lv_sub hl [2, 3, 4, 5, 6] rfl))
def w_law_16 : List Cond := .initialized RL :: (HAppend.hAppend (α := List Cond) (β := List Cond) (γ := List Cond) [.codeWith yL_shut cL_shut 4 (some .int) [(0, 16, 19, 13), (0, 16, 22, 50)], .code yX11_shut cX11_shut 3 (some .boolean), .code yX11_workOf cX11_workOf 2 (some (.object "SeaLand$Work")), .fieldLink RX11 16 "SeaLand" "lake" "LSeaLand$Lake;", .code yX11_within cX11_within 3 (some .boolean), .methodLink RX11 58 yX11_within, .static yX11_within, .initialized RX11, .classLink RX11 557 "java/lang/IndexOutOfBoundsException", .initialized "java/lang/IndexOutOfBoundsException", .methodLink RX11 167 yX11_workOf, .instanceMethod yX11_workOf, .selects RX11 yX11_workOf yX11_workOf, .code yX11_needKind cX11_needKind 1 none, .classLink RX11 552 "java/lang/ClassCastException", .initialized "java/lang/ClassCastException", .methodLink RX11 177 yX11_needKind, .static yX11_needKind, .fieldLink RX11 23 "SeaLand" "rows" "LSeaLand$Rows;", .code yX6_forget cX6_forget 1 none, .fieldLink RX6 18 "SeaLand$Rows" "kept" "I", .fieldLink RX6 22 "SeaLand$Rows" "oldest" "I", .methodLink RX11 76 yX6_forget, .instanceMethod yX6_forget, .selects RX6 yX6_forget yX6_forget, .initialized RX6, .methodLink RL 72 yX11_shut, .instanceMethod yX11_shut, .selects RX11 yX11_shut yX11_shut, .classLink RL 13 "java/lang/IndexOutOfBoundsException", .classLink RL 50 "java/lang/ClassCastException", .methodLink RL 233 yL_shut, .static yL_shut, .initialized RL, .code yX12_shut cX12_shut 2 (some .boolean), .fieldLink RX12 194 "SeaLandModel" "thrown" "I", .code yX12_noWork cX12_noWork 2 (some .boolean), .fieldLink RX12 9 "SeaLandModel" "world" "[I", .code yX12_in cX12_in 3 (some .boolean), .methodLink RX12 197 yX12_in, .static yX12_in, .initialized RX12, .methodLink RX12 269 yX12_noWork, .instanceMethod yX12_noWork, .selects RX12 yX12_noWork yX12_noWork, .code yX12_throwsIf cX12_throwsIf 3 (some .boolean), .methodLink RX12 224 yX12_throwsIf, .instanceMethod yX12_throwsIf, .selects RX12 yX12_throwsIf yX12_throwsIf, .code yX12_of cX12_of 3 (some .int), .code yX12_at cX12_at 2 (some .int), .methodLink RX12 214 yX12_at, .static yX12_at, .methodLink RX12 217 yX12_of, .instanceMethod yX12_of, .selects RX12 yX12_of yX12_of, .fieldLink RX12 238 "SeaLandModel" "rows" "I", .methodLink RL 236 yX12_shut, .instanceMethod yX12_shut, .selects RX12 yX12_shut yX12_shut] bs2)
set_option maxHeartbeats 4000000 in
set_option maxRecDepth 100000 in
theorem law_16 {p : Program} {e : Env} {s : State} {m : MethodId} {below : List Frame} {meth : Method} {c : Code} {Q : State → Prop} (l : Launch) (hlt : l.stackTraces = false) {b L : Nat} {xs : Nat → Int32} {A : Nat → Prop} (hx : p.tables.exec = Jvm.exec) (hb : c.code = code) (hml : c.maxLocals = 7) (hown : s.vm.findClass RL = some m.cls) (hts : ∀ w ∈ w_law_16, w.before #[Value.ref b] s = true) (hX : va_X b L xs s s.heap) (hbl : b < s.heap.size) (hbA : ¬ A b) (hL : L ≤ 4096) {adK adV : Nat → Nat} (hE : EVC adK adV A s s.heap) (hN : NC s) (hAO : AO s) (hA : ∀ q : Nat, s.heap.size ≤ q → A q) {dC : Nat → ClassId} {dI : Nat → Nat → Nat} {kA : Nat → ClassId} (hK : va_K (dC, dI) vwCl (tyl kA) s) {Pr : Nat → Prop} {Gm : gT} {x h0 ou : Nat} (hPA : ∀ q, ¬ Pr q → A q) (hGP : ∀ a t, Gm a = some t → Pr a) (hGA : ∀ a t, Gm a = some t → A a) (n : Nat) (hn : n + 8 ≤ L) (H : Heap) (locs : List Loc) (cells slots : Nat) (hcl : cells + 1170 ≤ 603072) (hsl : slots + 14100 ≤ 7262314) (g : gz) (hC : CJ dC dI kA Pr g x ou H) (hR : RJ dC dI kA g h0 Gm H) (hPr : ∀ a, Pr a → a < H.size) (hS : va_S A s.heap H locs) (ls : Array Slot) (hl : lv_has ls 7 [(0, .ref b), (1, .ref x), (2, .ref h0), (3, .ref ou), (4, .int (nI n))]) (kk : ∀ (g : gz) (H : Heap) (locs : List Loc) (ls : Array Slot), CJ dC dI kA Pr g x ou H → RJ dC dI kA g h0 Gm H → (∀ a, Pr a → a < H.size) → va_S A s.heap H locs → lv_has ls 7 [(0, .ref b), (1, .ref x), (2, .ref h0), (3, .ref ou), (4, .int (nI n))] → W p l e room_1 s m #[Value.ref b] below meth c H locs (cells + 1170) (slots + 14100) Q (F0 m 2491 ls [])) : W p l e room_1 s m #[Value.ref b] below meth c H locs cells slots Q (F0 m 1119 ls []) := by
  refine lv_aload_n hx hb dL_law_1119 rfl (lv_at hl 1 rfl) ?_
  refine lv_aload_n hx hb dL_law_1120 rfl (lv_at hl 0 rfl) ?_
  refine lv_iload hx hb dL_law_1121 (lv_at hl 4 rfl) ?_
  refine lv_iconst (v := 1) hx hb dL_law_1123 (by decide) ?_
  refine lv_iadd hx hb dL_law_1124 ?_
  refine lv_topi (fun x21 ex21 => ?_)
  obtain rfl : nI (n + 1) = x21 := (ex21.trans (nI_add n 1)).symm
  refine va_sld hx hb hX hbl hbA hS (i := (nI (n + 1))) (vin_t (a := ((n + 1 : Nat) : Int)) (nI_toInt (by omega)) (by omega) (by omega)) dL_law_1125 ?_
  refine lv_topi (fun x22 ex22 => ?_)
  refine lv_aload_n hx hb dL_law_1126 rfl (lv_at hl 3 rfl) ?_
  have hFc := hPA
  refine va_calli (vx_runSW (As := [.ref x, .int x22, .ref ou]) (rest := []) ⟨hx, hb, hml, hown, hts⟩ (k_shut l hlt dC dI kA adK adV Pr H x ou x22  hPr hC) (vx_cwSW 3 hts (goodIn_app (goodIn_r _ [32, 33, 34] rfl (by decide +kernel)) (goodIn_ca (goodIn_r _ [1, 2, 3, 4, 5, 6, 7, 8, 9, 10, 11, 12, 13, 14, 15, 16, 17, 18, 19, 20, 21, 22, 23, 24, 25, 26, 27, 28, 29, 30, 31] rfl (by decide +kernel)) (bs2_in _ _))) rfl rfl rfl (by decide +kernel) ⟨(Nat.le_of_ble_eq_true rfl), (Nat.le_of_ble_eq_true rfl)⟩) ⟨fun a U g mk q => by obtain ⟨q0, q1, qK, qE, qN, qA⟩ := q; exact ⟨q0, q1, va_K.moved (u := U) (U := U.calling g mk a) (Vm.Alike.refl U.vm) qK, EVC.blind g mk a qE, NC.blind g mk a qN, AO.blind g mk a qA⟩, fun U hU hW => ⟨rfl, hU, va_K.moved hW.alike hK, hE.call hS hFc hU hW, hN.call hW, hAO.call hW⟩⟩ rfl rfl hl.1 rfl (lv_room (Nat.le_of_ble_eq_true rfl)) dL_law_1127 ⟨show cells + 2 ≤ 603072 from by omega, show slots + 12 ≤ 7262314 from by omega⟩) hS (fun q _ h => hFc q h) hFc (fun r23 u t H locs ht hvm hw hB hz1 hk1 hS => ?_)
  (try dsimp only at hB); rw [ht] at hB
  have hR := hR.kept (fun a t h => hk1 a (hPr a (hGP a t h)) (fun h9 => h9 (hGP a t h)))
  have hC := hB
  have hPr : ∀ a, Pr a → a < H.size := fun a h => Nat.lt_of_lt_of_le (hPr a h) hz1
  refine lv_istore (lv' := [(5, .int r23), (0, .ref b), (1, .ref x), (2, .ref h0), (3, .ref ou), (4, .int (nI n))]) hx hb dL_law_1130 hl (by decide) rfl (fun ls hl => ?_)
  refine lv_aload_n hx hb dL_law_1132 rfl (lv_at hl 3 rfl) ?_
  refine lv_aload_n hx hb dL_law_1133 rfl (lv_at hl 1 rfl) ?_
  refine lv_iload hx hb dL_law_1134 (lv_at hl 5 rfl) ?_
  refine lv_iconst (v := 1) hx hb dL_law_1136 (by decide) ?_
  refine lv_iadd hx hb dL_law_1137 ?_
  refine lv_topi (fun x24 ex24 => ?_)
  obtain rfl : nI (n + 1) = x24 := (ex24.trans (nI_add n 1)).symm
  refine va_sld hx hb hX hbl hbA hS (i := (nI (n + 1))) (vin_t (a := ((n + 1 : Nat) : Int)) (nI_toInt (by omega)) (by omega) (by omega)) dL_law_1138 ?_
  refine lv_topi (fun x25 ex25 => ?_)
  obtain rfl : x22 = x25 := by rw [ex25, ex22] <;> exact congrArg xs (tn_same (i := (nI (n + 1))) (j := (nI (n + 1))) (show (nI (n + 1)).toInt = ((n + 1 : Nat) : Int) from (nI_toInt (by omega))) (show (nI (n + 1)).toInt = ((n + 1 : Nat) : Int) from (nI_toInt (by omega))) (by omega))
  have hFc := gA_m hPr hGP hGA hA hS
  refine va_calli (va_runV (As := [.int x22]) (rest := []) ⟨hx, hb, hml, hown, hts⟩ (r_shut l dC dI kA adK adV Gm H h0 x22  hR) (cwV 1 hts (goodIn_app (goodIn_r _ [58, 59, 60, 42] rfl (by decide +kernel)) (goodIn_ca (goodIn_r _ [35, 36, 37, 38, 39, 40, 41, 42, 43, 44, 45, 46, 47, 48, 49, 50, 51, 52, 53, 54, 55, 56, 57] rfl (by decide +kernel)) (bs_in2 _ _))) rfl rfl rfl (by decide +kernel) ⟨(Nat.le_of_ble_eq_true rfl), (Nat.le_of_ble_eq_true rfl)⟩) ⟨fun a U g mk q => by obtain ⟨q0, q1, qK, qE⟩ := q; exact ⟨q0, q1, va_K.moved (u := U) (U := U.calling g mk a) (Vm.Alike.refl U.vm) qK, EVS.blind g mk a qE⟩, RI.recv hK hR.ri, fun U hU hW => ⟨rfl, hU, va_K.moved hW.alike hK, hE.1.call hS hFc hU hW⟩⟩ rfl rfl hl.1 rfl (lv_room (Nat.le_of_ble_eq_true rfl)) dL_law_1139 ⟨show cells + 2 + 0 ≤ 603072 from by omega, show slots + 12 + 0 ≤ 7262314 from by omega⟩) hS (fun q _ h => hFc q h) hFc (fun r26 u t H locs ht hvm hw hB hz1 hk1 hS => ?_)
  (try dsimp only at hB); rw [ht] at hB
  have hC := hC.kept (fun a h1 h2 => hk1 a h1 (gA_mn hGP h1 h2))
  have hR := hB
  have hPr : ∀ a, Pr a → a < H.size := fun a h => Nat.lt_of_lt_of_le (hPr a h) hz1
  refine lv_istore (lv' := [(6, .int r26), (5, .int r23), (0, .ref b), (1, .ref x), (2, .ref h0), (3, .ref ou), (4, .int (nI n))]) hx hb dL_law_1142 hl (by decide) rfl (fun ls hl => ?_)
  refine lv_goto (tgt := 2491) hx hb dL_law_1144 (by decide) ?_
  exact W.widen (k := cells + 1170) (n := slots + 14100) (by omega) (by omega) (kk g H _ ls hC hR hPr hS (lv_sub hl [2, 3, 4, 5, 6] rfl))
def w_law_17 : List Cond := .initialized RL :: (HAppend.hAppend (α := List Cond) (β := List Cond) (γ := List Cond) [.codeWith yL_hours cL_hours 4 (some .int) [(0, 9, 12, 15)], .code yX11_hours cX11_hours 3 (some .int), .code yX11_within cX11_within 3 (some .boolean), .methodLink RX11 58 yX11_within, .static yX11_within, .initialized RX11, .code yX11_needNumbers cX11_needNumbers 1 none, .classLink RX11 547 "java/lang/IllegalArgumentException", .initialized "java/lang/IllegalArgumentException", .methodLink RX11 62 yX11_needNumbers, .static yX11_needNumbers, .fieldLink RX11 16 "SeaLand" "lake" "LSeaLand$Lake;", .constant RX11 110 40000, .code yX3_passHour cX3_passHour 3 none, .fieldLink RX3 32 "SeaLand$Lake" "hour" "I", .fieldLink RX3 12 "SeaLand$Lake" "sky" "LSeaLand$Sky;", .code yX8_outsideAt cX8_outsideAt 4 (some .int), .fieldLink RX8 9 "SeaLand$Sky" "tides" "[I", .code yJ9_floorMod_7cf53 cJ9_floorMod_7cf53 3 (some .int), .methodLink RX8 38 yJ9_floorMod_7cf53, .static yJ9_floorMod_7cf53, .initialized RJ9, .fieldLink RX8 34 "SeaLand$Sky" "storms" "I", .fieldLink RX8 15 "SeaLand$Sky" "stormFrom" "[I", .fieldLink RX8 18 "SeaLand$Sky" "stormTo" "[I", .fieldLink RX8 21 "SeaLand$Sky" "stormMore" "[I", .methodLink RX3 44 yX8_outsideAt, .instanceMethod yX8_outsideAt, .selects RX8 yX8_outsideAt yX8_outsideAt, .initialized RX8, .fieldLink RX3 21 "SeaLand$Lake" "ground" "LSeaLand$Ground;", .code yX8_rainAt cX8_rainAt 3 (some .int), .fieldLink RX8 31 "SeaLand$Sky" "rain" "LSeaLand$Tellings;", .code yX9_standingAt cX9_standingAt 5 (some .int), .fieldLink RX9 18 "SeaLand$Tellings" "told" "I", .fieldLink RX9 9 "SeaLand$Tellings" "hours" "[I", .methodLink RX8 44 yX9_standingAt, .instanceMethod yX9_standingAt, .selects RX9 yX9_standingAt yX9_standingAt, .initialized RX9, .methodLink RX3 103 yX8_rainAt, .instanceMethod yX8_rainAt, .selects RX8 yX8_rainAt yX8_rainAt, .code yX2_rainOnLand cX2_rainOnLand 3 none, .fieldLink RX2 9 "SeaLand$Ground" "isLand" "[Z", .fieldLink RX2 25 "SeaLand$Ground" "water" "[I", .fieldLink RX2 54 "SeaLand$Ground" "rained" "I", .methodLink RX3 106 yX2_rainOnLand, .instanceMethod yX2_rainOnLand, .selects RX2 yX2_rainOnLand yX2_rainOnLand, .initialized RX2, .fieldLink RX3 47 "SeaLand$Lake" "built" "I", .fieldLink RX3 27 "SeaLand$Lake" "works" "[LSeaLand$Work;", .code yX3_runSluice cX3_runSluice 5 none, .code yX2_levelOf cX2_levelOf 2 (some .int), .fieldLink RX2 15 "SeaLand$Ground" "height" "[I", .methodLink RX3 40 yX2_levelOf, .instanceMethod yX2_levelOf, .selects RX2 yX2_levelOf yX2_levelOf, .methodLink RX3 71 Lib.Math.min.name, .static Lib.Math.min.name, .initialized "java/lang/Math", .code Lib.Math.min.name Lib.Math.min.code 2 (some .int), .code yX2_giveToSea cX2_giveToSea 3 none, .fieldLink RX2 28 "SeaLand$Ground" "salt" "[I", .code yX2_saltGoingWith cX2_saltGoingWith 4 (some .int), .methodLink RX2 60 yX2_saltGoingWith, .instanceMethod yX2_saltGoingWith, .selects RX2 yX2_saltGoingWith yX2_saltGoingWith, .fieldLink RX2 64 "SeaLand$Ground" "wentOut" "I", .methodLink RX3 154 yX2_giveToSea, .instanceMethod yX2_giveToSea, .selects RX2 yX2_giveToSea yX2_giveToSea, .code yX10_moved cX10_moved 2 none, .fieldLink RX10 44 "SeaLand$Work" "latest" "I", .fieldLink RX10 47 "SeaLand$Work" "total" "I", .methodLink RX3 140 yX10_moved, .instanceMethod yX10_moved, .selects RX10 yX10_moved yX10_moved, .initialized RX10, .methodLink RX3 114 yX3_runSluice, .instanceMethod yX3_runSluice, .selects RX3 yX3_runSluice yX3_runSluice, .initialized RX3, .code yX2_runDitches cX2_runDitches 3 none, .fieldLink RX2 37 "SeaLand$Ground" "ditchTo" "[I", .fieldLink RX2 40 "SeaLand$Ground" "ditchWater" "[I", .fieldLink RX2 43 "SeaLand$Ground" "ditchSalt" "[I", .code yX2_reckonDitch cX2_reckonDitch 5 none, .fieldLink RX2 22 "SeaLand$Ground" "ditch" "[I", .code yX2_lowestDitchBeside cX2_lowestDitchBeside 4 (some .int), .code yX2_lowerDitch cX2_lowerDitch 4 (some .int), .methodLink RX2 79 yX2_levelOf, .methodLink RX2 87 yX2_lowerDitch, .instanceMethod yX2_lowerDitch, .selects RX2 yX2_lowerDitch yX2_lowerDitch, .methodLink RX2 75 yX2_lowestDitchBeside, .instanceMethod yX2_lowestDitchBeside, .selects RX2 yX2_lowestDitchBeside yX2_lowestDitchBeside, .methodLink RX2 82 Lib.Math.min.name, .methodLink RX2 71 yX2_reckonDitch, .instanceMethod yX2_reckonDitch, .selects RX2 yX2_reckonDitch yX2_reckonDitch, .methodLink RX3 117 yX2_runDitches, .instanceMethod yX2_runDitches, .selects RX2 yX2_runDitches yX2_runDitches, .code yX8_windAt cX8_windAt 4 (some .int), .fieldLink RX8 27 "SeaLand$Sky" "wind" "LSeaLand$Tellings;", .code yX9_nearestNumberBefore cX9_nearestNumberBefore 5 (some .int), .fieldLink RX9 15 "SeaLand$Tellings" "numbers" "[I", .methodLink RX8 54 yX9_nearestNumberBefore, .instanceMethod yX9_nearestNumberBefore, .selects RX9 yX9_nearestNumberBefore yX9_nearestNumberBefore, .code yX9_nearestNumberAfter cX9_nearestNumberAfter 5 (some .int), .constant RX9 22 40001, .methodLink RX8 57 yX9_nearestNumberAfter, .instanceMethod yX9_nearestNumberAfter, .selects RX9 yX9_nearestNumberAfter yX9_nearestNumberAfter, .methodLink RX8 60 Lib.Math.max.name, .static Lib.Math.max.name, .code Lib.Math.max.name Lib.Math.max.code 2 (some .int), .methodLink RX3 120 yX8_windAt, .instanceMethod yX8_windAt, .selects RX8 yX8_windAt yX8_windAt, .code yX3_runMills cX3_runMills 3 none, .code yX3_runEngine cX3_runEngine 3 none, .code yX3_liftBy cX3_liftBy 4 none, .code yX2_giveTo cX2_giveTo 5 none, .methodLink RX2 67 yX2_giveToSea, .methodLink RX3 171 yX2_giveTo, .instanceMethod yX2_giveTo, .selects RX2 yX2_giveTo yX2_giveTo, .methodLink RX3 161 yX3_liftBy, .instanceMethod yX3_liftBy, .selects RX3 yX3_liftBy yX3_liftBy, .methodLink RX3 164 yX3_runEngine, .instanceMethod yX3_runEngine, .selects RX3 yX3_runEngine yX3_runEngine, .methodLink RX3 123 yX3_runMills, .instanceMethod yX3_runMills, .selects RX3 yX3_runMills yX3_runMills, .code yX2_endDay cX2_endDay 2 none, .fieldLink RX2 31 "SeaLand$Ground" "dry" "[I", .code yX2_sinksNow cX2_sinksNow 2 (some .boolean), .fieldLink RX2 19 "SeaLand$Ground" "soil" "[I", .methodLink RX2 91 yX2_sinksNow, .instanceMethod yX2_sinksNow, .selects RX2 yX2_sinksNow yX2_sinksNow, .fieldLink RX2 34 "SeaLand$Ground" "wet" "[I", .methodLink RX3 126 yX2_endDay, .instanceMethod yX2_endDay, .selects RX2 yX2_endDay yX2_endDay, .code yX10_isBank cX10_isBank 1 (some .boolean), .fieldLink RX10 18 "SeaLand$Work" "kind" "I", .methodLink RX3 67 yX10_isBank, .instanceMethod yX10_isBank, .selects RX10 yX10_isBank yX10_isBank, .code yX3_runBank cX3_runBank 4 none, .code yX3_seepOf cX3_seepOf 5 (some .int), .methodLink RX3 97 Lib.Math.max.name, .code yX10_leakBelow cX10_leakBelow 6 (some .int), .fieldLink RX10 34 "SeaLand$Work" "layers" "I", .fieldLink RX10 9 "SeaLand$Work" "thick" "[I", .fieldLink RX10 15 "SeaLand$Work" "clay" "[I", .methodLink RX3 100 yX10_leakBelow, .instanceMethod yX10_leakBelow, .selects RX10 yX10_leakBelow yX10_leakBelow, .methodLink RX3 132 yX3_seepOf, .instanceMethod yX3_seepOf, .selects RX3 yX3_seepOf yX3_seepOf, .code yX10_breakOpen cX10_breakOpen 1 none, .fieldLink RX10 31 "SeaLand$Work" "width" "I", .methodLink RX3 143 yX10_breakOpen, .instanceMethod yX10_breakOpen, .selects RX10 yX10_breakOpen yX10_breakOpen, .code yX3_runBreach cX3_runBreach 4 none, .constantLong RX3 149 120, .code yX2_takeFromSea cX2_takeFromSea 3 none, .fieldLink RX2 57 "SeaLand$Ground" "cameIn" "I", .methodLink RX3 136 yX2_takeFromSea, .instanceMethod yX2_takeFromSea, .selects RX2 yX2_takeFromSea yX2_takeFromSea, .methodLink RX3 146 yX3_runBreach, .instanceMethod yX3_runBreach, .selects RX3 yX3_runBreach yX3_runBreach, .code yX3_crestOf cX3_crestOf 2 (some .int), .code yX10_thickness cX10_thickness 3 (some .int), .methodLink RX3 80 yX10_thickness, .instanceMethod yX10_thickness, .selects RX10 yX10_thickness yX10_thickness, .methodLink RX3 84 yX3_crestOf, .instanceMethod yX3_crestOf, .selects RX3 yX3_crestOf yX3_crestOf, .code yX10_widen cX10_widen 1 none, .code yX10_wider cX10_wider 1 (some .int), .methodLink RX10 54 Lib.Math.min.name, .methodLink RX10 50 yX10_wider, .static yX10_wider, .methodLink RX3 129 yX10_widen, .instanceMethod yX10_widen, .selects RX10 yX10_widen yX10_widen, .methodLink RX3 110 yX3_runBank, .instanceMethod yX3_runBank, .selects RX3 yX3_runBank yX3_runBank, .methodLink RX11 223 yX3_passHour, .instanceMethod yX3_passHour, .selects RX3 yX3_passHour yX3_passHour, .fieldLink RX11 23 "SeaLand" "rows" "LSeaLand$Rows;", .code yX6_write cX6_write 5 none, .fieldLink RX6 18 "SeaLand$Rows" "kept" "I", .fieldLink RX6 22 "SeaLand$Rows" "oldest" "I", .methodLink RX6 34 yX8_outsideAt, .code yX6_placeOf cX6_placeOf 3 (some .int), .methodLink RX6 40 yX6_placeOf, .instanceMethod yX6_placeOf, .selects RX6 yX6_placeOf yX6_placeOf, .initialized RX6, .fieldLink RX6 15 "SeaLand$Rows" "proof" "[I", .methodLink RX6 54 yX2_levelOf, .fieldLink RX6 9 "SeaLand$Rows" "shown" "[I", .methodLink RX11 226 yX6_write, .instanceMethod yX6_write, .selects RX6 yX6_write yX6_write, .methodLink RL 76 yX11_hours, .instanceMethod yX11_hours, .selects RX11 yX11_hours yX11_hours, .classLink RL 15 "java/lang/IllegalArgumentException", .methodLink RL 237 yL_hours, .static yL_hours, .initialized RL, .code yX12_hours cX12_hours 3 (some .int), .fieldLink RX12 194 "SeaLandModel" "thrown" "I", .code yX12_in cX12_in 3 (some .boolean), .methodLink RX12 197 yX12_in, .static yX12_in, .initialized RX12, .code yX12_throwsIf cX12_throwsIf 3 (some .boolean), .methodLink RX12 224 yX12_throwsIf, .instanceMethod yX12_throwsIf, .selects RX12 yX12_throwsIf yX12_throwsIf, .code yX12_hour cX12_hour 1 (some .int), .fieldLink RX12 9 "SeaLandModel" "world" "[I", .methodLink RX12 228 yX12_hour, .instanceMethod yX12_hour, .selects RX12 yX12_hour yX12_hour, .constant RX12 242 40000, .code yX12_anHour cX12_anHour 6 none, .code yX12_outside cX12_outside 4 (some .int), .methodLink RX12 247 yX12_outside, .instanceMethod yX12_outside, .selects RX12 yX12_outside yX12_outside, .code yX12_rain cX12_rain 3 (some .int), .code yX12_telling cX12_telling 6 (some .int), .methodLink RX12 243 yX12_telling, .instanceMethod yX12_telling, .selects RX12 yX12_telling yX12_telling, .methodLink RX12 253 yX12_rain, .instanceMethod yX12_rain, .selects RX12 yX12_rain yX12_rain, .code yX12_wind cX12_wind 7 (some .int), .methodLink RX12 211 Lib.Math.max.name, .methodLink RX12 250 yX12_wind, .instanceMethod yX12_wind, .selects RX12 yX12_wind yX12_wind, .code yX12_of cX12_of 3 (some .int), .code yX12_at cX12_at 2 (some .int), .methodLink RX12 214 yX12_at, .static yX12_at, .methodLink RX12 217 yX12_of, .instanceMethod yX12_of, .selects RX12 yX12_of yX12_of, .code yX12_sluices cX12_sluices 6 none, .code yX12_level cX12_level 2 (some .int), .code yX12_isLand cX12_isLand 2 (some .boolean), .methodLink RX12 235 yX12_isLand, .instanceMethod yX12_isLand, .selects RX12 yX12_isLand yX12_isLand, .methodLink RX12 285 yX12_level, .instanceMethod yX12_level, .selects RX12 yX12_level yX12_level, .methodLink RX12 207 Lib.Math.min.name, .code yX12_leaves cX12_leaves 4 (some .int), .methodLink RX12 291 yX12_leaves, .instanceMethod yX12_leaves, .selects RX12 yX12_leaves yX12_leaves, .code yX12_brings cX12_brings 3 none, .methodLink RX12 294 yX12_brings, .instanceMethod yX12_brings, .selects RX12 yX12_brings yX12_brings, .methodLink RX12 307 yX12_sluices, .instanceMethod yX12_sluices, .selects RX12 yX12_sluices yX12_sluices, .code yX12_ditches cX12_ditches 5 none, .fieldLink RX12 16 "SeaLandModel" "moves" "[I", .fieldLink RX12 22 "SeaLandModel" "movesSalt" "[I", .fieldLink RX12 19 "SeaLandModel" "movesTo" "[I", .code yX12_hasDitch cX12_hasDitch 2 (some .boolean), .methodLink RX12 298 yX12_hasDitch, .instanceMethod yX12_hasDitch, .selects RX12 yX12_hasDitch yX12_hasDitch, .code yX12_beside cX12_beside 2 (some .int), .methodLink RX12 301 yX12_beside, .static yX12_beside, .methodLink RX12 310 yX12_ditches, .instanceMethod yX12_ditches, .selects RX12 yX12_ditches yX12_ditches, .code yX12_lifts cX12_lifts 7 none, .methodLink RX12 313 yX12_lifts, .instanceMethod yX12_lifts, .selects RX12 yX12_lifts yX12_lifts, .code yX12_dayEnds cX12_dayEnds 3 none, .methodLink RX12 316 yX12_dayEnds, .instanceMethod yX12_dayEnds, .selects RX12 yX12_dayEnds yX12_dayEnds, .code yX12_writesRow cX12_writesRow 2 none, .fieldLink RX12 238 "SeaLandModel" "rows" "I", .fieldLink RX12 25 "SeaLandModel" "rowTold" "[I", .fieldLink RX12 28 "SeaLandModel" "rowTrue" "[I", .methodLink RX12 319 yX12_writesRow, .instanceMethod yX12_writesRow, .selects RX12 yX12_writesRow yX12_writesRow, .code yX12_isDike cX12_isDike 2 (some .boolean), .methodLink RX12 272 yX12_isDike, .instanceMethod yX12_isDike, .selects RX12 yX12_isDike yX12_isDike, .code yX12_dikes cX12_dikes 6 none, .code yX12_seepOf cX12_seepOf 8 (some .int), .methodLink RX12 288 yX12_seepOf, .instanceMethod yX12_seepOf, .selects RX12 yX12_seepOf yX12_seepOf, .code yX12_crest cX12_crest 4 (some .int), .methodLink RX12 282 yX12_crest, .instanceMethod yX12_crest, .selects RX12 yX12_crest yX12_crest, .methodLink RX12 304 yX12_dikes, .instanceMethod yX12_dikes, .selects RX12 yX12_dikes yX12_dikes, .methodLink RX12 322 yX12_anHour, .instanceMethod yX12_anHour, .selects RX12 yX12_anHour yX12_anHour, .methodLink RL 239 yX12_hours, .instanceMethod yX12_hours, .selects RX12 yX12_hours yX12_hours] bs2)
set_option maxHeartbeats 4000000 in
set_option maxRecDepth 100000 in
theorem law_17 {p : Program} {e : Env} {s : State} {m : MethodId} {below : List Frame} {meth : Method} {c : Code} {Q : State → Prop} (l : Launch) (hlt : l.stackTraces = false) {b L : Nat} {xs : Nat → Int32} {A : Nat → Prop} (hx : p.tables.exec = Jvm.exec) (hb : c.code = code) (hml : c.maxLocals = 7) (hown : s.vm.findClass RL = some m.cls) (hts : ∀ w ∈ w_law_17, w.before #[Value.ref b] s = true) (hX : va_X b L xs s s.heap) (hbl : b < s.heap.size) (hbA : ¬ A b) (hL : L ≤ 4096) {adK adV : Nat → Nat} (hE : EVC adK adV A s s.heap) (hN : NC s) (hAO : AO s) (hA : ∀ q : Nat, s.heap.size ≤ q → A q) {dC : Nat → ClassId} {dI : Nat → Nat → Nat} {kA : Nat → ClassId} (hK : va_K (dC, dI) vwCl (tyl kA) s) {Pr : Nat → Prop} {Gm : gT} {x h0 ou : Nat} (hPA : ∀ q, ¬ Pr q → A q) (hGP : ∀ a t, Gm a = some t → Pr a) (hGA : ∀ a t, Gm a = some t → A a) (n : Nat) (hn : n + 8 ≤ L) (H : Heap) (locs : List Loc) (cells slots : Nat) (hcl : cells + 1170 ≤ 603072) (hsl : slots + 14100 ≤ 7262314) (g : gz) (hC : CJ dC dI kA Pr g x ou H) (hR : RJ dC dI kA g h0 Gm H) (hPr : ∀ a, Pr a → a < H.size) (hS : va_S A s.heap H locs) (ls : Array Slot) (hl : lv_has ls 7 [(0, .ref b), (1, .ref x), (2, .ref h0), (3, .ref ou), (4, .int (nI n))]) (kk : ∀ (g : gz) (H : Heap) (locs : List Loc) (ls : Array Slot), CJ dC dI kA Pr g x ou H → RJ dC dI kA g h0 Gm H → (∀ a, Pr a → a < H.size) → va_S A s.heap H locs → lv_has ls 7 [(0, .ref b), (1, .ref x), (2, .ref h0), (3, .ref ou), (4, .int (nI n))] → W p l e room_1 s m #[Value.ref b] below meth c H locs (cells + 1170) (slots + 14100) Q (F0 m 2491 ls [])) : W p l e room_1 s m #[Value.ref b] below meth c H locs cells slots Q (F0 m 1147 ls []) := by
  refine lv_aload_n hx hb dL_law_1147 rfl (lv_at hl 1 rfl) ?_
  refine lv_aload_n hx hb dL_law_1148 rfl (lv_at hl 0 rfl) ?_
  refine lv_iload hx hb dL_law_1149 (lv_at hl 4 rfl) ?_
  refine lv_iconst (v := 1) hx hb dL_law_1151 (by decide) ?_
  refine lv_iadd hx hb dL_law_1152 ?_
  refine lv_topi (fun x21 ex21 => ?_)
  obtain rfl : nI (n + 1) = x21 := (ex21.trans (nI_add n 1)).symm
  refine va_sld hx hb hX hbl hbA hS (i := (nI (n + 1))) (vin_t (a := ((n + 1 : Nat) : Int)) (nI_toInt (by omega)) (by omega) (by omega)) dL_law_1153 ?_
  refine lv_topi (fun x22 ex22 => ?_)
  refine lv_aload_n hx hb dL_law_1154 rfl (lv_at hl 3 rfl) ?_
  have hFc := hPA
  refine va_calli (vx_runSW (As := [.ref x, .int x22, .ref ou]) (rest := []) ⟨hx, hb, hml, hown, hts⟩ (k_hours l hlt dC dI kA adK adV Pr H x ou x22  hPr hC) (vx_cwSW 3 hts (goodIn_app (goodIn_r _ [228, 229, 230] rfl (by decide +kernel)) (goodIn_ca (goodIn_r _ [1, 2, 3, 4, 5, 6, 7, 8, 9, 10, 11, 12, 13, 14, 15, 16, 17, 18, 19, 20, 21, 22, 23, 24, 25, 26, 27, 28, 29, 30, 31, 32, 33, 34, 35, 36, 37, 38, 39, 40, 41, 42, 43, 44, 45, 46, 47, 48, 49, 50, 51, 52, 53, 54, 55, 56, 57, 58, 59, 60, 61, 62, 63, 64, 65, 66, 67, 68, 69, 70, 71, 72, 73, 74, 75, 76, 77, 78, 79, 80, 81, 82, 83, 84, 85, 86, 87, 88, 89, 90, 91, 92, 93, 94, 95, 96, 97, 98, 99, 100, 101, 102, 103, 104, 105, 106, 107, 108, 109, 110, 111, 112, 113, 114, 115, 116, 117, 118, 119, 120, 121, 122, 123, 124, 125, 126, 127, 128, 129, 130, 131, 132, 133, 134, 135, 136, 137, 138, 139, 140, 141, 142, 143, 144, 145, 146, 147, 148, 149, 150, 151, 152, 153, 154, 155, 156, 157, 158, 159, 160, 161, 162, 163, 164, 165, 166, 167, 168, 169, 170, 171, 172, 173, 174, 175, 176, 177, 178, 179, 180, 181, 182, 183, 184, 185, 186, 187, 188, 189, 190, 191, 192, 193, 194, 195, 196, 197, 198, 199, 200, 201, 202, 203, 204, 205, 206, 207, 208, 209, 210, 211, 212, 213, 214, 215, 216, 217, 218, 219, 220, 221, 222, 223, 224, 225, 226, 227] rfl (by decide +kernel)) (bs2_in _ _))) rfl rfl rfl (by decide +kernel) ⟨(Nat.le_of_ble_eq_true rfl), (Nat.le_of_ble_eq_true rfl)⟩) ⟨fun a U g mk q => by obtain ⟨q0, q1, qK, qE, qN, qA⟩ := q; exact ⟨q0, q1, va_K.moved (u := U) (U := U.calling g mk a) (Vm.Alike.refl U.vm) qK, EVC.blind g mk a qE, NC.blind g mk a qN, AO.blind g mk a qA⟩, fun U hU hW => ⟨rfl, hU, va_K.moved hW.alike hK, hE.call hS hFc hU hW, hN.call hW, hAO.call hW⟩⟩ rfl rfl hl.1 rfl (lv_room (Nat.le_of_ble_eq_true rfl)) dL_law_1155 ⟨show cells + 1 ≤ 603072 from by omega, show slots + 6 ≤ 7262314 from by omega⟩) hS (fun q _ h => hFc q h) hFc (fun r23 u t H locs ht hvm hw hB hz1 hk1 hS => ?_)
  (try dsimp only at hB); rw [ht] at hB
  have hk9 := hw
  have hR := hR.kept (fun a t h => hk1 a (hPr a (hGP a t h)) (fun h9 => h9 (hGP a t h)))
  have hC := hB
  have hPr : ∀ a, Pr a → a < H.size := fun a h => Nat.lt_of_lt_of_le (hPr a h) hz1
  refine lv_istore (lv' := [(5, .int r23), (0, .ref b), (1, .ref x), (2, .ref h0), (3, .ref ou), (4, .int (nI n))]) hx hb dL_law_1158 hl (by decide) rfl (fun ls hl => ?_)
  refine lv_aload_n hx hb dL_law_1160 rfl (lv_at hl 3 rfl) ?_
  refine lv_aload_n hx hb dL_law_1161 rfl (lv_at hl 1 rfl) ?_
  refine lv_iload hx hb dL_law_1162 (lv_at hl 5 rfl) ?_
  refine lv_iconst (v := 1) hx hb dL_law_1164 (by decide) ?_
  refine lv_iadd hx hb dL_law_1165 ?_
  refine lv_topi (fun x24 ex24 => ?_)
  obtain rfl : nI (n + 1) = x24 := (ex24.trans (nI_add n 1)).symm
  refine va_sld hx hb hX hbl hbA hS (i := (nI (n + 1))) (vin_t (a := ((n + 1 : Nat) : Int)) (nI_toInt (by omega)) (by omega) (by omega)) dL_law_1166 ?_
  refine lv_topi (fun x25 ex25 => ?_)
  obtain rfl : x22 = x25 := by rw [ex25, ex22] <;> exact congrArg xs (tn_same (i := (nI (n + 1))) (j := (nI (n + 1))) (show (nI (n + 1)).toInt = ((n + 1 : Nat) : Int) from (nI_toInt (by omega))) (show (nI (n + 1)).toInt = ((n + 1 : Nat) : Int) from (nI_toInt (by omega))) (by omega))
  have hFc := gA_m hPr hGP hGA hA hS
  refine va_calli (va_runV (As := [.int x22]) (rest := []) ⟨hx, hb, hml, hown, hts⟩ (r_hours l dC dI kA adK adV Gm H h0 x22  hR) (cwV 1 hts (goodIn_app (goodIn_r _ [341, 342, 343, 236] rfl (by decide +kernel)) (goodIn_ca (goodIn_r _ [231, 232, 233, 234, 235, 236, 237, 238, 239, 240, 241, 242, 243, 244, 245, 246, 247, 248, 249, 250, 251, 252, 253, 254, 255, 256, 257, 258, 259, 260, 261, 120, 62, 121, 262, 263, 264, 265, 266, 267, 268, 269, 270, 271, 272, 273, 274, 275, 276, 277, 278, 279, 280, 281, 61, 63, 282, 283, 284, 285, 286, 287, 288, 289, 290, 291, 292, 293, 294, 295, 296, 297, 298, 299, 300, 301, 302, 303, 304, 305, 306, 307, 308, 309, 310, 311, 312, 313, 314, 315, 316, 317, 318, 319, 320, 321, 322, 323, 324, 325, 326, 327, 328, 329, 330, 331, 332, 333, 334, 335, 336, 337, 338, 339, 340] rfl (by decide +kernel)) (bs_in2 _ _))) rfl rfl rfl (by decide +kernel) ⟨(Nat.le_of_ble_eq_true rfl), (Nat.le_of_ble_eq_true rfl)⟩) ⟨fun a U g mk q => by obtain ⟨q0, q1, qK, qE⟩ := q; exact ⟨q0, q1, va_K.moved (u := U) (U := U.calling g mk a) (Vm.Alike.refl U.vm) qK, EVS.blind g mk a qE⟩, RI.recv hK hR.ri, fun U hU hW => ⟨rfl, hU, va_K.moved hW.alike hK, hE.1.call hS hFc hU hW⟩⟩ rfl rfl hl.1 rfl (lv_room (Nat.le_of_ble_eq_true rfl)) dL_law_1167 ⟨show cells + 1 + 0 ≤ 603072 from by omega, show slots + 6 + 0 ≤ 7262314 from by omega⟩) hS (fun q _ h => hFc q h) hFc (fun r26 u t H locs ht hvm hw hB hz1 hk1 hS => ?_)
  (try dsimp only at hB); rw [ht] at hB
  obtain ⟨t9, et9⟩ : ∃ z, z = u := ⟨_, rfl⟩; rw [← et9] at hw hB; obtain ⟨hB, hth9⟩ := hB; obtain ⟨hw9, hw8⟩ := hw
  have hC := hC.kept (fun a h1 h2 => hk1 a h1 (gA_mn hGP h1 h2))
  have hR := hB
  have hPr : ∀ a, Pr a → a < H.size := fun a h => Nat.lt_of_lt_of_le (hPr a h) hz1
  refine lv_istore (lv' := [(6, .int r26), (5, .int r23), (0, .ref b), (1, .ref x), (2, .ref h0), (3, .ref ou), (4, .int (nI n))]) hx hb dL_law_1170 hl (by decide) rfl (fun ls hl => ?_)
  refine lv_goto (tgt := 2491) hx hb dL_law_1172 (by decide) ?_
  exact W.widen (k := cells + 1170) (n := slots + 14100) (by omega) (by omega) (kk _ H _ ls hC hR hPr hS (lv_sub hl [2, 3, 4, 5, 6] rfl))
