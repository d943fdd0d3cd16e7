def w_law_36 : List Cond := .initialized RL :: (HAppend.hAppend (α := List Cond) (β := List Cond) (γ := List Cond) [.code yX11_arrears cX11_arrears 2 (some .int), .fieldLink RX11 30 "SeaLand" "board" "LSeaLand$Board;", .code yX0_debtorOfRank cX0_debtorOfRank 3 (some .int), .fieldLink RX0 75 "SeaLand$Board" "settled" "I", .fieldLink RX0 11 "SeaLand$Board" "settlers" "[LSeaLand$Settler;", .code yX0_debtorsAheadOf cX0_debtorsAheadOf 5 (some .int), .methodLink RX0 220 yX0_debtorsAheadOf, .instanceMethod yX0_debtorsAheadOf, .selects RX0 yX0_debtorsAheadOf yX0_debtorsAheadOf, .initialized RX0, .methodLink RX11 408 yX0_debtorOfRank, .instanceMethod yX0_debtorOfRank, .selects RX0 yX0_debtorOfRank yX0_debtorOfRank, .methodLink RL 298 yX11_arrears, .instanceMethod yX11_arrears, .selects RX11 yX11_arrears yX11_arrears, .initialized RX11, .code yX12_arrears cX12_arrears 5 (some .int), .fieldLink RX12 194 "SeaLandModel" "thrown" "I", .fieldLink RX12 495 "SeaLandModel" "settlers" "I", .fieldLink RX12 131 "SeaLandModel" "open" "[Z", .fieldLink RX12 107 "SeaLandModel" "owes" "[I", .fieldLink RX12 101 "SeaLandModel" "holds" "[I", .methodLink RL 301 yX12_arrears, .instanceMethod yX12_arrears, .selects RX12 yX12_arrears yX12_arrears, .initialized RX12] bs2)
set_option maxHeartbeats 4000000 in
set_option maxRecDepth 100000 in
theorem law_36 {p : Program} {e : Env} {s : State} {m : MethodId} {below : List Frame} {meth : Method} {c : Code} {Q : State → Prop} (l : Launch) (hlt : l.stackTraces = false) {b L : Nat} {xs : Nat → Int32} {A : Nat → Prop} (hx : p.tables.exec = Jvm.exec) (hb : c.code = code) (hml : c.maxLocals = 7) (hown : s.vm.findClass RL = some m.cls) (hts : ∀ w ∈ w_law_36, w.before #[Value.ref b] s = true) (hX : va_X b L xs s s.heap) (hbl : b < s.heap.size) (hbA : ¬ A b) (hL : L ≤ 4096) {adK adV : Nat → Nat} (hE : EVC adK adV A s s.heap) (hN : NC s) (hAO : AO s) (hA : ∀ q : Nat, s.heap.size ≤ q → A q) {dC : Nat → ClassId} {dI : Nat → Nat → Nat} {kA : Nat → ClassId} (hK : va_K (dC, dI) vwCl (tyl kA) s) {Pr : Nat → Prop} {Gm : gT} {x h0 ou : Nat} (hPA : ∀ q, ¬ Pr q → A q) (hGP : ∀ a t, Gm a = some t → Pr a) (hGA : ∀ a t, Gm a = some t → A a) (n : Nat) (hn : n + 8 ≤ L) (H : Heap) (locs : List Loc) (cells slots : Nat) (hcl : cells + 1170 ≤ 603072) (hsl : slots + 14100 ≤ 7262314) (g : gz) (hC : CJ dC dI kA Pr g x ou H) (hR : RJ dC dI kA g h0 Gm H) (hPr : ∀ a, Pr a → a < H.size) (hS : va_S A s.heap H locs) (ls : Array Slot) (hl : lv_has ls 7 [(0, .ref b), (1, .ref x), (2, .ref h0), (3, .ref ou), (4, .int (nI n))]) (kk : ∀ (g : gz) (H : Heap) (locs : List Loc) (ls : Array Slot), CJ dC dI kA Pr g x ou H → RJ dC dI kA g h0 Gm H → (∀ a, Pr a → a < H.size) → va_S A s.heap H locs → lv_has ls 7 [(0, .ref b), (1, .ref x), (2, .ref h0), (3, .ref ou), (4, .int (nI n))] → W p l e room_1 s m #[Value.ref b] below meth c H locs (cells + 1170) (slots + 14100) Q (F0 m 2491 ls [])) : W p l e room_1 s m #[Value.ref b] below meth c H locs cells slots Q (F0 m 1821 ls []) := by
  refine lv_aload_n hx hb dL_law_1821 rfl (lv_at hl 1 rfl) ?_
  refine lv_aload_n hx hb dL_law_1822 rfl (lv_at hl 0 rfl) ?_
  refine lv_iload hx hb dL_law_1823 (lv_at hl 4 rfl) ?_
  refine lv_iconst (v := 1) hx hb dL_law_1825 (by decide) ?_
  refine lv_iadd hx hb dL_law_1826 ?_
  refine lv_topi (fun x21 ex21 => ?_)
  obtain rfl : nI (n + 1) = x21 := (ex21.trans (nI_add n 1)).symm
  refine va_sld hx hb hX hbl hbA hS (i := (nI (n + 1))) (vin_t (a := ((n + 1 : Nat) : Int)) (nI_toInt (by omega)) (by omega) (by omega)) dL_law_1827 ?_
  refine lv_topi (fun x22 ex22 => ?_)
  have hFc := hPA
  refine va_calli (va_runV (As := [.int x22]) (rest := []) ⟨hx, hb, hml, hown, hts⟩ (k_arrears l hlt dC dI kA adK adV Pr H x ou x22  hPr hC) (cwV 1 hts (goodIn_app (goodIn_r _ [14, 15, 16, 17] rfl (by decide +kernel)) (goodIn_ca (goodIn_r _ [1, 2, 3, 4, 5, 6, 7, 8, 9, 10, 11, 12, 13] rfl (by decide +kernel)) (bs2_in _ _))) rfl rfl rfl (by decide +kernel) ⟨(Nat.le_of_ble_eq_true rfl), (Nat.le_of_ble_eq_true rfl)⟩) ⟨fun a U g mk q => by obtain ⟨q0, q1, qK, qE, qN, qA⟩ := q; exact ⟨q0, q1, va_K.moved (u := U) (U := U.calling g mk a) (Vm.Alike.refl U.vm) qK, EVC.blind g mk a qE, NC.blind g mk a qN, AO.blind g mk a qA⟩, CJ.recv hK hC, fun U hU hW => ⟨rfl, hU, va_K.moved hW.alike hK, hE.call hS hFc hU hW, hN.call hW, hAO.call hW⟩⟩ rfl rfl hl.1 rfl (lv_room (Nat.le_of_ble_eq_true rfl)) dL_law_1828 ⟨show cells + 0 ≤ 603072 from by omega, show slots + 0 ≤ 7262314 from by omega⟩) hS (fun q _ h => hFc q h) hFc (fun r23 u t H locs ht hvm hw hB hz1 hk1 hS => ?_)
  (try dsimp only at hB); rw [ht] at hB
  have hR := hR.kept (fun a t h => hk1 a (hPr a (hGP a t h)) (fun h9 => h9 (hGP a t h)))
  have hC := hB
  have hPr : ∀ a, Pr a → a < H.size := fun a h => Nat.lt_of_lt_of_le (hPr a h) hz1
  refine lv_pop hx hb dL_law_1831 rfl ?_
  refine lv_aload_n hx hb dL_law_1832 rfl (lv_at hl 2 rfl) ?_
  refine lv_aload_n hx hb dL_law_1833 rfl (lv_at hl 0 rfl) ?_
  refine lv_iload hx hb dL_law_1834 (lv_at hl 4 rfl) ?_
  refine lv_iconst (v := 1) hx hb dL_law_1836 (by decide) ?_
  refine lv_iadd hx hb dL_law_1837 ?_
  refine lv_topi (fun x24 ex24 => ?_)
  obtain rfl : nI (n + 1) = x24 := (ex24.trans (nI_add n 1)).symm
  refine va_sld hx hb hX hbl hbA hS (i := (nI (n + 1))) (vin_t (a := ((n + 1 : Nat) : Int)) (nI_toInt (by omega)) (by omega) (by omega)) dL_law_1838 ?_
  refine lv_topi (fun x25 ex25 => ?_)
  obtain rfl : x22 = x25 := by rw [ex25, ex22] <;> exact congrArg xs (tn_same (i := (nI (n + 1))) (j := (nI (n + 1))) (show (nI (n + 1)).toInt = ((n + 1 : Nat) : Int) from (nI_toInt (by omega))) (show (nI (n + 1)).toInt = ((n + 1 : Nat) : Int) from (nI_toInt (by omega))) (by omega))
  have hFc := gA_m hPr hGP hGA hA hS
  refine va_calli (va_runV (As := [.int x22]) (rest := []) ⟨hx, hb, hml, hown, hts⟩ (r_arrears l dC dI kA adK adV Gm H h0 x22  hR) (cwV 1 hts (goodIn_app (goodIn_r _ [24, 25, 26, 27] rfl (by decide +kernel)) (goodIn_ca (goodIn_r _ [18, 19, 20, 21, 22, 23] rfl (by decide +kernel)) (bs_in2 _ _))) rfl rfl rfl (by decide +kernel) ⟨(Nat.le_of_ble_eq_true rfl), (Nat.le_of_ble_eq_true rfl)⟩) ⟨fun a U g mk q => by obtain ⟨q0, q1, qK, qE⟩ := q; exact ⟨q0, q1, va_K.moved (u := U) (U := U.calling g mk a) (Vm.Alike.refl U.vm) qK, EVS.blind g mk a qE⟩, RI.recv hK hR.ri, fun U hU hW => ⟨rfl, hU, va_K.moved hW.alike hK, hE.1.call hS hFc hU hW⟩⟩ rfl rfl hl.1 rfl (lv_room (Nat.le_of_ble_eq_true rfl)) dL_law_1839 ⟨show cells + 0 + 0 ≤ 603072 from by omega, show slots + 0 + 0 ≤ 7262314 from by omega⟩) hS (fun q _ h => hFc q h) hFc (fun r26 u t H locs ht hvm hw hB hz1 hk1 hS => ?_)
  (try dsimp only at hB); rw [ht] at hB
  have hC := hC.kept (fun a h1 h2 => hk1 a h1 (gA_mn hGP h1 h2))
  have hR := hB
  have hPr : ∀ a, Pr a → a < H.size := fun a h => Nat.lt_of_lt_of_le (hPr a h) hz1
  refine lv_pop hx hb dL_law_1842 rfl ?_
  refine lv_goto (tgt := 2491) hx hb dL_law_1843 (by decide) ?_
  exact W.widen (k := cells + 1170) (n := slots + 14100) (by omega) (by omega) (kk g H _ ls hC hR hPr hS (lv_sub hl [0, 1, 2, 3, 4] rfl))
def w_law_37 : List Cond := .initialized RL :: (HAppend.hAppend (α := List Cond) (β := List Cond) (γ := List Cond) [.codeWith yL_coin cL_coin 4 (some .int) [(0, 9, 12, 15)], .code yX11_coin cX11_coin 2 (some .int), .constant RX11 411 1000000, .code yX11_within cX11_within 3 (some .boolean), .methodLink RX11 58 yX11_within, .static yX11_within, .initialized RX11, .code yX11_needNumbers cX11_needNumbers 1 none, .classLink RX11 547 "java/lang/IllegalArgumentException", .initialized "java/lang/IllegalArgumentException", .methodLink RX11 62 yX11_needNumbers, .static yX11_needNumbers, .fieldLink RX11 30 "SeaLand" "board" "LSeaLand$Board;", .constant RX11 413 2000000000, .methodLink RL 133 yX11_coin, .instanceMethod yX11_coin, .selects RX11 yX11_coin yX11_coin, .classLink RL 15 "java/lang/IllegalArgumentException", .methodLink RL 302 yL_coin, .static yL_coin, .initialized RL, .code yX12_coin cX12_coin 2 (some .int), .fieldLink RX12 194 "SeaLandModel" "thrown" "I", .constant RX12 536 1000000, .code yX12_in cX12_in 3 (some .boolean), .methodLink RX12 197 yX12_in, .static yX12_in, .initialized RX12, .code yX12_throwsIf cX12_throwsIf 3 (some .boolean), .methodLink RX12 224 yX12_throwsIf, .instanceMethod yX12_throwsIf, .selects RX12 yX12_throwsIf yX12_throwsIf, .fieldLink RX12 519 "SeaLandModel" "board" "I", .constant RX12 537 2000000000, .methodLink RL 304 yX12_coin, .instanceMethod yX12_coin, .selects RX12 yX12_coin yX12_coin] bs2)
set_option maxHeartbeats 4000000 in
set_option maxRecDepth 100000 in
theorem law_37 {p : Program} {e : Env} {s : State} {m : MethodId} {below : List Frame} {meth : Method} {c : Code} {Q : State → Prop} (l : Launch) (hlt : l.stackTraces = false) {b L : Nat} {xs : Nat → Int32} {A : Nat → Prop} (hx : p.tables.exec = Jvm.exec) (hb : c.code = code) (hml : c.maxLocals = 7) (hown : s.vm.findClass RL = some m.cls) (hts : ∀ w ∈ w_law_37, w.before #[Value.ref b] s = true) (hX : va_X b L xs s s.heap) (hbl : b < s.heap.size) (hbA : ¬ A b) (hL : L ≤ 4096) {adK adV : Nat → Nat} (hE : EVC adK adV A s s.heap) (hN : NC s) (hAO : AO s) (hA : ∀ q : Nat, s.heap.size ≤ q → A q) {dC : Nat → ClassId} {dI : Nat → Nat → Nat} {kA : Nat → ClassId} (hK : va_K (dC, dI) vwCl (tyl kA) s) {Pr : Nat → Prop} {Gm : gT} {x h0 ou : Nat} (hPA : ∀ q, ¬ Pr q → A q) (hGP : ∀ a t, Gm a = some t → Pr a) (hGA : ∀ a t, Gm a = some t → A a) (n : Nat) (hn : n + 8 ≤ L) (H : Heap) (locs : List Loc) (cells slots : Nat) (hcl : cells + 1170 ≤ 603072) (hsl : slots + 14100 ≤ 7262314) (g : gz) (hC : CJ dC dI kA Pr g x ou H) (hR : RJ dC dI kA g h0 Gm H) (hPr : ∀ a, Pr a → a < H.size) (hS : va_S A s.heap H locs) (ls : Array Slot) (hl : lv_has ls 7 [(0, .ref b), (1, .ref x), (2, .ref h0), (3, .ref ou), (4, .int (nI n))]) (kk : ∀ (g : gz) (H : Heap) (locs : List Loc) (ls : Array Slot), CJ dC dI kA Pr g x ou H → RJ dC dI kA g h0 Gm H → (∀ a, Pr a → a < H.size) → va_S A s.heap H locs → lv_has ls 7 [(0, .ref b), (1, .ref x), (2, .ref h0), (3, .ref ou), (4, .int (nI n))] → W p l e room_1 s m #[Value.ref b] below meth c H locs (cells + 1170) (slots + 14100) Q (F0 m 2491 ls [])) : W p l e room_1 s m #[Value.ref b] below meth c H locs cells slots Q (F0 m 1846 ls []) := by
  refine lv_aload_n hx hb dL_law_1846 rfl (lv_at hl 1 rfl) ?_
  refine lv_aload_n hx hb dL_law_1847 rfl (lv_at hl 0 rfl) ?_
  refine lv_iload hx hb dL_law_1848 (lv_at hl 4 rfl) ?_
  refine lv_iconst (v := 1) hx hb dL_law_1850 (by decide) ?_
  refine lv_iadd hx hb dL_law_1851 ?_
  refine lv_topi (fun x21 ex21 => ?_)
  obtain rfl : nI (n + 1) = x21 := (ex21.trans (nI_add n 1)).symm
  refine va_sld hx hb hX hbl hbA hS (i := (nI (n + 1))) (vin_t (a := ((n + 1 : Nat) : Int)) (nI_toInt (by omega)) (by omega) (by omega)) dL_law_1852 ?_
  refine lv_topi (fun x22 ex22 => ?_)
  refine lv_aload_n hx hb dL_law_1853 rfl (lv_at hl 3 rfl) ?_
  have hFc := hPA
  refine va_calli (vx_runSW (As := [.ref x, .int x22, .ref ou]) (rest := []) ⟨hx, hb, hml, hown, hts⟩ (k_coin l hlt dC dI kA adK adV Pr H x ou x22  hPr hC) (vx_cwSW 3 hts (goodIn_app (goodIn_r _ [19, 20, 21] rfl (by decide +kernel)) (goodIn_ca (goodIn_r _ [1, 2, 3, 4, 5, 6, 7, 8, 9, 10, 11, 12, 13, 14, 15, 16, 17, 18] rfl (by decide +kernel)) (bs2_in _ _))) rfl rfl rfl (by decide +kernel) ⟨(Nat.le_of_ble_eq_true rfl), (Nat.le_of_ble_eq_true rfl)⟩) ⟨fun a U g mk q => by obtain ⟨q0, q1, qK, qE, qN, qA⟩ := q; exact ⟨q0, q1, va_K.moved (u := U) (U := U.calling g mk a) (Vm.Alike.refl U.vm) qK, EVC.blind g mk a qE, NC.blind g mk a qN, AO.blind g mk a qA⟩, fun U hU hW => ⟨rfl, hU, va_K.moved hW.alike hK, hE.call hS hFc hU hW, hN.call hW, hAO.call hW⟩⟩ rfl rfl hl.1 rfl (lv_room (Nat.le_of_ble_eq_true rfl)) dL_law_1854 ⟨show cells + 1 ≤ 603072 from by omega, show slots + 6 ≤ 7262314 from by omega⟩) hS (fun q _ h => hFc q h) hFc (fun r23 u t H locs ht hvm hw hB hz1 hk1 hS => ?_)
  (try dsimp only at hB); rw [ht] at hB
  have hR := hR.kept (fun a t h => hk1 a (hPr a (hGP a t h)) (fun h9 => h9 (hGP a t h)))
  have hC := hB
  have hPr : ∀ a, Pr a → a < H.size := fun a h => Nat.lt_of_lt_of_le (hPr a h) hz1
  refine lv_istore (lv' := [(5, .int r23), (0, .ref b), (1, .ref x), (2, .ref h0), (3, .ref ou), (4, .int (nI n))]) hx hb dL_law_1857 hl (by decide) rfl (fun ls hl => ?_)
  refine lv_aload_n hx hb dL_law_1859 rfl (lv_at hl 3 rfl) ?_
  refine lv_aload_n hx hb dL_law_1860 rfl (lv_at hl 1 rfl) ?_
  refine lv_iload hx hb dL_law_1861 (lv_at hl 5 rfl) ?_
  refine lv_iconst (v := 1) hx hb dL_law_1863 (by decide) ?_
  refine lv_iadd hx hb dL_law_1864 ?_
  refine lv_topi (fun x24 ex24 => ?_)
  obtain rfl : nI (n + 1) = x24 := (ex24.trans (nI_add n 1)).symm
  refine va_sld hx hb hX hbl hbA hS (i := (nI (n + 1))) (vin_t (a := ((n + 1 : Nat) : Int)) (nI_toInt (by omega)) (by omega) (by omega)) dL_law_1865 ?_
  refine lv_topi (fun x25 ex25 => ?_)
  obtain rfl : x22 = x25 := by rw [ex25, ex22] <;> exact congrArg xs (tn_same (i := (nI (n + 1))) (j := (nI (n + 1))) (show (nI (n + 1)).toInt = ((n + 1 : Nat) : Int) from (nI_toInt (by omega))) (show (nI (n + 1)).toInt = ((n + 1 : Nat) : Int) from (nI_toInt (by omega))) (by omega))
  have hFc := gA_m hPr hGP hGA hA hS
  refine va_calli (va_runV (As := [.int x22]) (rest := []) ⟨hx, hb, hml, hown, hts⟩ (r_coin l dC dI kA adK adV Gm H h0 x22  hR) (cwV 1 hts (goodIn_app (goodIn_r _ [35, 36, 37, 28] rfl (by decide +kernel)) (goodIn_ca (goodIn_r _ [22, 23, 24, 25, 26, 27, 28, 29, 30, 31, 32, 33, 34] rfl (by decide +kernel)) (bs_in2 _ _))) rfl rfl rfl (by decide +kernel) ⟨(Nat.le_of_ble_eq_true rfl), (Nat.le_of_ble_eq_true rfl)⟩) ⟨fun a U g mk q => by obtain ⟨q0, q1, qK, qE⟩ := q; exact ⟨q0, q1, va_K.moved (u := U) (U := U.calling g mk a) (Vm.Alike.refl U.vm) qK, EVS.blind g mk a qE⟩, RI.recv hK hR.ri, fun U hU hW => ⟨rfl, hU, va_K.moved hW.alike hK, hE.1.call hS hFc hU hW⟩⟩ rfl rfl hl.1 rfl (lv_room (Nat.le_of_ble_eq_true rfl)) dL_law_1866 ⟨show cells + 1 + 0 ≤ 603072 from by omega, show slots + 6 + 0 ≤ 7262314 from by omega⟩) hS (fun q _ h => hFc q h) hFc (fun r26 u t H locs ht hvm hw hB hz1 hk1 hS => ?_)
  (try dsimp only at hB); rw [ht] at hB
  have hC := hC.kept (fun a h1 h2 => hk1 a h1 (gA_mn hGP h1 h2))
  have hR := hB
  have hPr : ∀ a, Pr a → a < H.size := fun a h => Nat.lt_of_lt_of_le (hPr a h) hz1
  refine lv_istore (lv' := [(6, .int r26), (5, .int r23), (0, .ref b), (1, .ref x), (2, .ref h0), (3, .ref ou), (4, .int (nI n))]) hx hb dL_law_1869 hl (by decide) rfl (fun ls hl => ?_)
  refine lv_goto (tgt := 2491) hx hb dL_law_1871 (by decide) ?_
  exact W.widen (k := cells + 1170) (n := slots + 14100) (by omega) (by omega) (kk g H _ ls hC hR hPr hS (lv_sub hl [2, 3, 4, 5, 6] rfl))
def w_law_38 : List Cond := .initialized RL :: (HAppend.hAppend (α := List Cond) (β := List Cond) (γ := List Cond) [.codeWith yL_contract cL_contract 7 (some .int) [(0, 14, 17, 13), (0, 14, 21, 15), (0, 14, 25, 50)], .code yX11_contract cX11_contract 6 (some .int), .code yX11_workOf cX11_workOf 2 (some (.object "SeaLand$Work")), .fieldLink RX11 16 "SeaLand" "lake" "LSeaLand$Lake;", .code yX11_within cX11_within 3 (some .boolean), .methodLink RX11 58 yX11_within, .static yX11_within, .initialized RX11, .classLink RX11 557 "java/lang/IndexOutOfBoundsException", .initialized "java/lang/IndexOutOfBoundsException", .methodLink RX11 167 yX11_workOf, .instanceMethod yX11_workOf, .selects RX11 yX11_workOf yX11_workOf, .code yX11_needNumbers cX11_needNumbers 1 none, .classLink RX11 547 "java/lang/IllegalArgumentException", .initialized "java/lang/IllegalArgumentException", .methodLink RX11 62 yX11_needNumbers, .static yX11_needNumbers, .code yX10_isBank cX10_isBank 1 (some .boolean), .fieldLink RX10 18 "SeaLand$Work" "kind" "I", .methodLink RX11 171 yX10_isBank, .instanceMethod yX10_isBank, .selects RX10 yX10_isBank yX10_isBank, .initialized RX10, .code yX11_needKind cX11_needKind 1 none, .classLink RX11 552 "java/lang/ClassCastException", .initialized "java/lang/ClassCastException", .methodLink RX11 177 yX11_needKind, .static yX11_needKind, .fieldLink RX11 414 "SeaLand" "contracted" "I", .fieldLink RX11 36 "SeaLand" "contracts" "[LSeaLand$Contract;", .classLink RX11 34 RX1, .instantiable RX1 8, .initialized RX1, .code yX1_init cX1_init 5 none, .methodLink RX1 1 objectInit, .instanceMethod objectInit, .code objectInit ⟨#[0xb1]⟩ 1 none, .constant RX1 9 2147483647, .fieldLink RX1 10 "SeaLand$Contract" "most" "I", .fieldLink RX1 16 "SeaLand$Contract" "work" "I", .fieldLink RX1 19 "SeaLand$Contract" "clay" "I", .fieldLink RX1 22 "SeaLand$Contract" "price" "I", .fieldLink RX1 25 "SeaLand$Contract" "bound" "I", .methodLink RX11 417 yX1_init, .instanceMethod yX1_init, .methodLink RL 136 yX11_contract, .instanceMethod yX11_contract, .selects RX11 yX11_contract yX11_contract, .classLink RL 13 "java/lang/IndexOutOfBoundsException", .classLink RL 15 "java/lang/IllegalArgumentException", .classLink RL 50 "java/lang/ClassCastException", .methodLink RL 305 yL_contract, .static yL_contract, .initialized RL, .code yX12_contract cX12_contract 5 (some .int), .fieldLink RX12 194 "SeaLandModel" "thrown" "I", .code yX12_noWork cX12_noWork 2 (some .boolean), .fieldLink RX12 9 "SeaLandModel" "world" "[I", .code yX12_in cX12_in 3 (some .boolean), .methodLink RX12 197 yX12_in, .static yX12_in, .initialized RX12, .methodLink RX12 269 yX12_noWork, .instanceMethod yX12_noWork, .selects RX12 yX12_noWork yX12_noWork, .code yX12_throwsIf cX12_throwsIf 3 (some .boolean), .methodLink RX12 224 yX12_throwsIf, .instanceMethod yX12_throwsIf, .selects RX12 yX12_throwsIf yX12_throwsIf, .code yX12_isDike cX12_isDike 2 (some .boolean), .code yX12_of cX12_of 3 (some .int), .code yX12_at cX12_at 2 (some .int), .methodLink RX12 214 yX12_at, .static yX12_at, .methodLink RX12 217 yX12_of, .instanceMethod yX12_of, .selects RX12 yX12_of yX12_of, .methodLink RX12 272 yX12_isDike, .instanceMethod yX12_isDike, .selects RX12 yX12_isDike yX12_isDike, .fieldLink RX12 533 "SeaLandModel" "contracts" "I", .fieldLink RX12 137 "SeaLandModel" "kWork" "[I", .fieldLink RX12 140 "SeaLandModel" "kClay" "[I", .fieldLink RX12 143 "SeaLandModel" "kPrice" "[I", .fieldLink RX12 146 "SeaLandModel" "kBound" "[I", .fieldLink RX12 152 "SeaLandModel" "kHigh" "[I", .constant RX12 538 1000000000, .methodLink RL 307 yX12_contract, .instanceMethod yX12_contract, .selects RX12 yX12_contract yX12_contract] bs2)
set_option maxHeartbeats 4000000 in
set_option maxRecDepth 100000 in
theorem law_38 {p : Program} {e : Env} {s : State} {m : MethodId} {below : List Frame} {meth : Method} {c : Code} {Q : State → Prop} (l : Launch) (hlt : l.stackTraces = false) {b L : Nat} {xs : Nat → Int32} {A : Nat → Prop} (hx : p.tables.exec = Jvm.exec) (hb : c.code = code) (hml : c.maxLocals = 7) (hown : s.vm.findClass RL = some m.cls) (hts : ∀ w ∈ w_law_38, w.before #[Value.ref b] s = true) (hX : va_X b L xs s s.heap) (hbl : b < s.heap.size) (hbA : ¬ A b) (hL : L ≤ 4096) {adK adV : Nat → Nat} (hE : EVC adK adV A s s.heap) (hN : NC s) (hAO : AO s) (hA : ∀ q : Nat, s.heap.size ≤ q → A q) {dC : Nat → ClassId} {dI : Nat → Nat → Nat} {kA : Nat → ClassId} (hK : va_K (dC, dI) vwCl (tyl kA) s) {Pr : Nat → Prop} {Gm : gT} {x h0 ou : Nat} (hPA : ∀ q, ¬ Pr q → A q) (hGP : ∀ a t, Gm a = some t → Pr a) (hGA : ∀ a t, Gm a = some t → A a) (n : Nat) (hn : n + 8 ≤ L) (H : Heap) (locs : List Loc) (cells slots : Nat) (hcl : cells + 1170 ≤ 603072) (hsl : slots + 14100 ≤ 7262314) (g : gz) (hC : CJ dC dI kA Pr g x ou H) (hR : RJ dC dI kA g h0 Gm H) (hPr : ∀ a, Pr a → a < H.size) (hS : va_S A s.heap H locs) (ls : Array Slot) (hl : lv_has ls 7 [(0, .ref b), (1, .ref x), (2, .ref h0), (3, .ref ou), (4, .int (nI n))]) (kk : ∀ (g : gz) (H : Heap) (locs : List Loc) (ls : Array Slot), CJ dC dI kA Pr g x ou H → RJ dC dI kA g h0 Gm H → (∀ a, Pr a → a < H.size) → va_S A s.heap H locs → lv_has ls 7 [(0, .ref b), (1, .ref x), (2, .ref h0), (3, .ref ou), (4, .int (nI n))] → W p l e room_1 s m #[Value.ref b] below meth c H locs (cells + 1170) (slots + 14100) Q (F0 m 2491 ls [])) : W p l e room_1 s m #[Value.ref b] below meth c H locs cells slots Q (F0 m 1874 ls []) := by
  refine lv_aload_n hx hb dL_law_1874 rfl (lv_at hl 1 rfl) ?_
  refine lv_aload_n hx hb dL_law_1875 rfl (lv_at hl 0 rfl) ?_
  refine lv_iload hx hb dL_law_1876 (lv_at hl 4 rfl) ?_
  refine lv_iconst (v := 1) hx hb dL_law_1878 (by decide) ?_
  refine lv_iadd hx hb dL_law_1879 ?_
  refine lv_topi (fun x21 ex21 => ?_)
  obtain rfl : nI (n + 1) = x21 := (ex21.trans (nI_add n 1)).symm
  refine va_sld hx hb hX hbl hbA hS (i := (nI (n + 1))) (vin_t (a := ((n + 1 : Nat) : Int)) (nI_toInt (by omega)) (by omega) (by omega)) dL_law_1880 ?_
  refine lv_topi (fun x22 ex22 => ?_)
  refine lv_aload_n hx hb dL_law_1881 rfl (lv_at hl 0 rfl) ?_
  refine lv_iload hx hb dL_law_1882 (lv_at hl 4 rfl) ?_
  refine lv_iconst (v := 2) hx hb dL_law_1884 (by decide) ?_
  refine lv_iadd hx hb dL_law_1885 ?_
  refine lv_topi (fun x23 ex23 => ?_)
  obtain rfl : nI (n + 2) = x23 := (ex23.trans (nI_add n 2)).symm
  refine va_sld hx hb hX hbl hbA hS (i := (nI (n + 2))) (vin_t (a := ((n + 2 : Nat) : Int)) (nI_toInt (by omega)) (by omega) (by omega)) dL_law_1886 ?_
  refine lv_topi (fun x24 ex24 => ?_)
  refine lv_aload_n hx hb dL_law_1887 rfl (lv_at hl 0 rfl) ?_
  refine lv_iload hx hb dL_law_1888 (lv_at hl 4 rfl) ?_
  refine lv_iconst (v := 3) hx hb dL_law_1890 (by decide) ?_
  refine lv_iadd hx hb dL_law_1891 ?_
  refine lv_topi (fun x25 ex25 => ?_)
  obtain rfl : nI (n + 3) = x25 := (ex25.trans (nI_add n 3)).symm
  refine va_sld hx hb hX hbl hbA hS (i := (nI (n + 3))) (vin_t (a := ((n + 3 : Nat) : Int)) (nI_toInt (by omega)) (by omega) (by omega)) dL_law_1892 ?_
  refine lv_topi (fun x26 ex26 => ?_)
  refine lv_aload_n hx hb dL_law_1893 rfl (lv_at hl 0 rfl) ?_
  refine lv_iload hx hb dL_law_1894 (lv_at hl 4 rfl) ?_
  refine lv_iconst (v := 4) hx hb dL_law_1896 (by decide) ?_
  refine lv_iadd hx hb dL_law_1897 ?_
  refine lv_topi (fun x27 ex27 => ?_)
  obtain rfl : nI (n + 4) = x27 := (ex27.trans (nI_add n 4)).symm
  refine va_sld hx hb hX hbl hbA hS (i := (nI (n + 4))) (vin_t (a := ((n + 4 : Nat) : Int)) (nI_toInt (by omega)) (by omega) (by omega)) dL_law_1898 ?_
  refine lv_topi (fun x28 ex28 => ?_)
  refine lv_aload_n hx hb dL_law_1899 rfl (lv_at hl 3 rfl) ?_
  have hFc := hPA
  refine va_calli (vx_runSW (As := [.ref x, .int x22, .int x24, .int x26, .int x28, .ref ou]) (rest := []) ⟨hx, hb, hml, hown, hts⟩ (k_contract l hlt dC dI kA adK adV Pr H x ou x22 x24 x26 x28  hPr hC) (vx_cwSW 6 hts (goodIn_app (goodIn_r _ [53, 54, 55] rfl (by decide +kernel)) (goodIn_ca (goodIn_r _ [1, 2, 3, 4, 5, 6, 7, 8, 9, 10, 11, 12, 13, 14, 15, 16, 17, 18, 19, 20, 21, 22, 23, 24, 25, 26, 27, 28, 29, 30, 31, 32, 33, 34, 35, 36, 37, 38, 39, 40, 41, 42, 43, 44, 45, 46, 47, 48, 49, 50, 51, 52] rfl (by decide +kernel)) (bs2_in _ _))) rfl rfl rfl (by decide +kernel) ⟨(Nat.le_of_ble_eq_true rfl), (Nat.le_of_ble_eq_true rfl)⟩) ⟨fun a U g mk q => by obtain ⟨q0, q1, qK, qE, qN, qA⟩ := q; exact ⟨q0, q1, va_K.moved (u := U) (U := U.calling g mk a) (Vm.Alike.refl U.vm) qK, EVC.blind g mk a qE, NC.blind g mk a qN, AO.blind g mk a qA⟩, fun U hU hW => ⟨rfl, hU, va_K.moved hW.alike hK, hE.call hS hFc hU hW, hN.call hW, hAO.call hW⟩⟩ rfl rfl hl.1 rfl (lv_room (Nat.le_of_ble_eq_true rfl)) dL_law_1900 ⟨show cells + 2 ≤ 603072 from by omega, show slots + 14 ≤ 7262314 from by omega⟩) hS (fun q _ h => hFc q h) hFc (fun r29 u t H locs ht hvm hw hB hz1 hk1 hS => ?_)
  (try dsimp only at hB); rw [ht] at hB
  have hR := hR.kept (fun a t h => hk1 a (hPr a (hGP a t h)) (fun h9 => h9 (hGP a t h)))
  have hC := hB
  have hPr : ∀ a, Pr a → a < H.size := fun a h => Nat.lt_of_lt_of_le (hPr a h) hz1
  refine lv_istore (lv' := [(5, .int r29), (0, .ref b), (1, .ref x), (2, .ref h0), (3, .ref ou), (4, .int (nI n))]) hx hb dL_law_1903 hl (by decide) rfl (fun ls hl => ?_)
  refine lv_aload_n hx hb dL_law_1905 rfl (lv_at hl 3 rfl) ?_
  refine lv_aload_n hx hb dL_law_1906 rfl (lv_at hl 1 rfl) ?_
  refine lv_iload hx hb dL_law_1907 (lv_at hl 5 rfl) ?_
  refine lv_iconst (v := 1) hx hb dL_law_1909 (by decide) ?_
  refine lv_iadd hx hb dL_law_1910 ?_
  refine lv_topi (fun x30 ex30 => ?_)
  obtain rfl : nI (n + 1) = x30 := (ex30.trans (nI_add n 1)).symm
  refine va_sld hx hb hX hbl hbA hS (i := (nI (n + 1))) (vin_t (a := ((n + 1 : Nat) : Int)) (nI_toInt (by omega)) (by omega) (by omega)) dL_law_1911 ?_
  refine lv_topi (fun x31 ex31 => ?_)
  obtain rfl : x22 = x31 := by rw [ex31, ex22] <;> exact congrArg xs (tn_same (i := (nI (n + 1))) (j := (nI (n + 1))) (show (nI (n + 1)).toInt = ((n + 1 : Nat) : Int) from (nI_toInt (by omega))) (show (nI (n + 1)).toInt = ((n + 1 : Nat) : Int) from (nI_toInt (by omega))) (by omega))
  refine lv_aload_n hx hb dL_law_1912 rfl (lv_at hl 1 rfl) ?_
  refine lv_iload hx hb dL_law_1913 (lv_at hl 5 rfl) ?_
  refine lv_iconst (v := 2) hx hb dL_law_1915 (by decide) ?_
  refine lv_iadd hx hb dL_law_1916 ?_
  refine lv_topi (fun x32 ex32 => ?_)
  obtain rfl : nI (n + 2) = x32 := (ex32.trans (nI_add n 2)).symm
  refine va_sld hx hb hX hbl hbA hS (i := (nI (n + 2))) (vin_t (a := ((n + 2 : Nat) : Int)) (nI_toInt (by omega)) (by omega) (by omega)) dL_law_1917 ?_
  refine lv_topi (fun x33 ex33 => ?_)
  obtain rfl : x24 = x33 := by rw [ex33, ex24] <;> exact congrArg xs (tn_same (i := (nI (n + 2))) (j := (nI (n + 2))) (show (nI (n + 2)).toInt = ((n + 2 : Nat) : Int) from (nI_toInt (by omega))) (show (nI (n + 2)).toInt = ((n + 2 : Nat) : Int) from (nI_toInt (by omega))) (by omega))
  refine lv_aload_n hx hb dL_law_1918 rfl (lv_at hl 1 rfl) ?_
  refine lv_iload hx hb dL_law_1919 (lv_at hl 5 rfl) ?_
  refine lv_iconst (v := 3) hx hb dL_law_1921 (by decide) ?_
  refine lv_iadd hx hb dL_law_1922 ?_
  refine lv_topi (fun x34 ex34 => ?_)
  obtain rfl : nI (n + 3) = x34 := (ex34.trans (nI_add n 3)).symm
  refine va_sld hx hb hX hbl hbA hS (i := (nI (n + 3))) (vin_t (a := ((n + 3 : Nat) : Int)) (nI_toInt (by omega)) (by omega) (by omega)) dL_law_1923 ?_
  refine lv_topi (fun x35 ex35 => ?_)
  obtain rfl : x26 = x35 := by rw [ex35, ex26] <;> exact congrArg xs (tn_same (i := (nI (n + 3))) (j := (nI (n + 3))) (show (nI (n + 3)).toInt = ((n + 3 : Nat) : Int) from (nI_toInt (by omega))) (show (nI (n + 3)).toInt = ((n + 3 : Nat) : Int) from (nI_toInt (by omega))) (by omega))
  refine lv_aload_n hx hb dL_law_1924 rfl (lv_at hl 1 rfl) ?_
  refine lv_iload hx hb dL_law_1925 (lv_at hl 5 rfl) ?_
  refine lv_iconst (v := 4) hx hb dL_law_1927 (by decide) ?_
  refine lv_iadd hx hb dL_law_1928 ?_
  refine lv_topi (fun x36 ex36 => ?_)
  obtain rfl : nI (n + 4) = x36 := (ex36.trans (nI_add n 4)).symm
  refine va_sld hx hb hX hbl hbA hS (i := (nI (n + 4))) (vin_t (a := ((n + 4 : Nat) : Int)) (nI_toInt (by omega)) (by omega) (by omega)) dL_law_1929 ?_
  refine lv_topi (fun x37 ex37 => ?_)
  obtain rfl : x28 = x37 := by rw [ex37, ex28] <;> exact congrArg xs (tn_same (i := (nI (n + 4))) (j := (nI (n + 4))) (show (nI (n + 4)).toInt = ((n + 4 : Nat) : Int) from (nI_toInt (by omega))) (show (nI (n + 4)).toInt = ((n + 4 : Nat) : Int) from (nI_toInt (by omega))) (by omega))
  have hFc := gA_m hPr hGP hGA hA hS
  refine va_calli (va_runV (As := [.int x22, .int x24, .int x26, .int x28]) (rest := []) ⟨hx, hb, hml, hown, hts⟩ (r_contract l dC dI kA adK adV Gm H h0 x22 x24 x26 x28  hR) (cwV 4 hts (goodIn_app (goodIn_r _ [89, 90, 91, 63] rfl (by decide +kernel)) (goodIn_ca (goodIn_r _ [56, 57, 58, 59, 60, 61, 62, 63, 64, 65, 66, 67, 68, 69, 70, 71, 72, 73, 74, 75, 76, 77, 78, 79, 80, 81, 82, 83, 84, 85, 86, 87, 88] rfl (by decide +kernel)) (bs_in2 _ _))) rfl rfl rfl (by decide +kernel) ⟨(Nat.le_of_ble_eq_true rfl), (Nat.le_of_ble_eq_true rfl)⟩) ⟨fun a U g mk q => by obtain ⟨q0, q1, qK, qE⟩ := q; exact ⟨q0, q1, va_K.moved (u := U) (U := U.calling g mk a) (Vm.Alike.refl U.vm) qK, EVS.blind g mk a qE⟩, RI.recv hK hR.ri, fun U hU hW => ⟨rfl, hU, va_K.moved hW.alike hK, hE.1.call hS hFc hU hW⟩⟩ rfl rfl hl.1 rfl (lv_room (Nat.le_of_ble_eq_true rfl)) dL_law_1930 ⟨show cells + 2 + 0 ≤ 603072 from by omega, show slots + 14 + 0 ≤ 7262314 from by omega⟩) hS (fun q _ h => hFc q h) hFc (fun r38 u t H locs ht hvm hw hB hz1 hk1 hS => ?_)
  (try dsimp only at hB); rw [ht] at hB
  have hC := hC.kept (fun a h1 h2 => hk1 a h1 (gA_mn hGP h1 h2))
  have hR := hB
  have hPr : ∀ a, Pr a → a < H.size := fun a h => Nat.lt_of_lt_of_le (hPr a h) hz1
  refine lv_istore (lv' := [(6, .int r38), (5, .int r29), (0, .ref b), (1, .ref x), (2, .ref h0), (3, .ref ou), (4, .int (nI n))]) hx hb dL_law_1933 hl (by decide) rfl (fun ls hl => ?_)
  refine lv_goto (tgt := 2491) hx hb dL_law_1935 (by decide) ?_
  exact W.widen (k := cells + 1170) (n := slots + 14100) (by omega) (by omega) (kk g H _ ls hC hR hPr hS (lv_sub hl [2, 3, 4, 5, 6] rfl))
def w_law_39 : List Cond := .initialized RL :: (HAppend.hAppend (α := List Cond) (β := List Cond) (γ := List Cond) [.codeWith yL_measure cL_measure 5 (some .int) [(0, 17, 20, 13), (0, 17, 24, 15), (0, 17, 28, 17)], .code yX11_measure cX11_measure 4 (some .boolean), .code yX11_contractOf cX11_contractOf 2 (some (.object "SeaLand$Contract")), .fieldLink RX11 414 "SeaLand" "contracted" "I", .code yX11_within cX11_within 3 (some .boolean), .methodLink RX11 58 yX11_within, .static yX11_within, .initialized RX11, .fieldLink RX11 36 "SeaLand" "contracts" "[LSeaLand$Contract;", .classLink RX11 557 "java/lang/IndexOutOfBoundsException", .initialized "java/lang/IndexOutOfBoundsException", .methodLink RX11 419 yX11_contractOf, .instanceMethod yX11_contractOf, .selects RX11 yX11_contractOf yX11_contractOf, .code yX11_needNumbers cX11_needNumbers 1 none, .classLink RX11 547 "java/lang/IllegalArgumentException", .initialized "java/lang/IllegalArgumentException", .methodLink RX11 62 yX11_needNumbers, .static yX11_needNumbers, .code yX1_say cX1_say 2 none, .fieldLink RX1 28 "SeaLand$Contract" "measured" "Z", .fieldLink RX1 32 "SeaLand$Contract" "least" "I", .fieldLink RX1 25 "SeaLand$Contract" "bound" "I", .methodLink RX1 35 Lib.Math.max.name, .static Lib.Math.max.name, .initialized "java/lang/Math", .code Lib.Math.max.name Lib.Math.max.code 2 (some .int), .fieldLink RX1 10 "SeaLand$Contract" "most" "I", .methodLink RX1 41 Lib.Math.min.name, .static Lib.Math.min.name, .code Lib.Math.min.name Lib.Math.min.code 2 (some .int), .methodLink RX11 428 yX1_say, .instanceMethod yX1_say, .selects RX1 yX1_say yX1_say, .initialized RX1, .code yX1_hasSpan cX1_hasSpan 1 (some .boolean), .methodLink RX11 431 yX1_hasSpan, .instanceMethod yX1_hasSpan, .selects RX1 yX1_hasSpan yX1_hasSpan, .classLink RX11 69 "java/lang/IllegalStateException", .initialized "java/lang/IllegalStateException", .methodLink RL 139 yX11_measure, .instanceMethod yX11_measure, .selects RX11 yX11_measure yX11_measure, .classLink RL 13 "java/lang/IndexOutOfBoundsException", .classLink RL 15 "java/lang/IllegalArgumentException", .classLink RL 17 "java/lang/IllegalStateException", .methodLink RL 308 yL_measure, .static yL_measure, .initialized RL, .code yX12_measure cX12_measure 3 (some .boolean), .fieldLink RX12 194 "SeaLandModel" "thrown" "I", .code yX12_noContract cX12_noContract 2 (some .boolean), .fieldLink RX12 533 "SeaLandModel" "contracts" "I", .code yX12_in cX12_in 3 (some .boolean), .methodLink RX12 197 yX12_in, .static yX12_in, .initialized RX12, .methodLink RX12 539 yX12_noContract, .instanceMethod yX12_noContract, .selects RX12 yX12_noContract yX12_noContract, .code yX12_throwsIf cX12_throwsIf 3 (some .boolean), .methodLink RX12 224 yX12_throwsIf, .instanceMethod yX12_throwsIf, .selects RX12 yX12_throwsIf yX12_throwsIf, .fieldLink RX12 158 "SeaLandModel" "isPaid" "[Z", .fieldLink RX12 155 "SeaLandModel" "isMeasured" "[Z", .fieldLink RX12 149 "SeaLandModel" "kLow" "[I", .fieldLink RX12 146 "SeaLandModel" "kBound" "[I", .methodLink RX12 211 Lib.Math.max.name, .fieldLink RX12 152 "SeaLandModel" "kHigh" "[I", .methodLink RX12 207 Lib.Math.min.name, .code yX12_hasSpan cX12_hasSpan 2 (some .boolean), .methodLink RX12 542 yX12_hasSpan, .instanceMethod yX12_hasSpan, .selects RX12 yX12_hasSpan yX12_hasSpan, .methodLink RL 310 yX12_measure, .instanceMethod yX12_measure, .selects RX12 yX12_measure yX12_measure] bs2)
set_option maxHeartbeats 4000000 in
set_option maxRecDepth 100000 in
theorem law_39 {p : Program} {e : Env} {s : State} {m : MethodId} {below : List Frame} {meth : Method} {c : Code} {Q : State → Prop} (l : Launch) (hlt : l.stackTraces = false) {b L : Nat} {xs : Nat → Int32} {A : Nat → Prop} (hx : p.tables.exec = Jvm.exec) (hb : c.code = code) (hml : c.maxLocals = 7) (hown : s.vm.findClass RL = some m.cls) (hts : ∀ w ∈ w_law_39, w.before #[Value.ref b] s = true) (hX : va_X b L xs s s.heap) (hbl : b < s.heap.size) (hbA : ¬ A b) (hL : L ≤ 4096) {adK adV : Nat → Nat} (hE : EVC adK adV A s s.heap) (hN : NC s) (hAO : AO s) (hA : ∀ q : Nat, s.heap.size ≤ q → A q) {dC : Nat → ClassId} {dI : Nat → Nat → Nat} {kA : Nat → ClassId} (hK : va_K (dC, dI) vwCl (tyl kA) s) {Pr : Nat → Prop} {Gm : gT} {x h0 ou : Nat} (hPA : ∀ q, ¬ Pr q → A q) (hGP : ∀ a t, Gm a = some t → Pr a) (hGA : ∀ a t, Gm a = some t → A a) (n : Nat) (hn : n + 8 ≤ L) (H : Heap) (locs : List Loc) (cells slots : Nat) (hcl : cells + 1170 ≤ 603072) (hsl : slots + 14100 ≤ 7262314) (g : gz) (hC : CJ dC dI kA Pr g x ou H) (hR : RJ dC dI kA g h0 Gm H) (hPr : ∀ a, Pr a → a < H.size) (hS : va_S A s.heap H locs) (ls : Array Slot) (hl : lv_has ls 7 [(0, .ref b), (1, .ref x), (2, .ref h0), (3, .ref ou), (4, .int (nI n))]) (kk : ∀ (g : gz) (H : Heap) (locs : List Loc) (ls : Array Slot), CJ dC dI kA Pr g x ou H → RJ dC dI kA g h0 Gm H → (∀ a, Pr a → a < H.size) → va_S A s.heap H locs → lv_has ls 7 [(0, .ref b), (1, .ref x), (2, .ref h0), (3, .ref ou), (4, .int (nI n))] → W p l e room_1 s m #[Value.ref b] below meth c H locs (cells + 1170) (slots + 14100) Q (F0 m 2491 ls [])) : W p l e room_1 s m #[Value.ref b] below meth c H locs cells slots Q (F0 m 1938 ls []) := by
  refine lv_aload_n hx hb dL_law_1938 rfl (lv_at hl 1 rfl) ?_
  refine lv_aload_n hx hb dL_law_1939 rfl (lv_at hl 0 rfl) ?_
  refine lv_iload hx hb dL_law_1940 (lv_at hl 4 rfl) ?_
  refine lv_iconst (v := 1) hx hb dL_law_1942 (by decide) ?_
  refine lv_iadd hx hb dL_law_1943 ?_
  refine lv_topi (fun x21 ex21 => ?_)
  obtain rfl : nI (n + 1) = x21 := (ex21.trans (nI_add n 1)).symm
  refine va_sld hx hb hX hbl hbA hS (i := (nI (n + 1))) (vin_t (a := ((n + 1 : Nat) : Int)) (nI_toInt (by omega)) (by omega) (by omega)) dL_law_1944 ?_
  refine lv_topi (fun x22 ex22 => ?_)
  refine lv_aload_n hx hb dL_law_1945 rfl (lv_at hl 0 rfl) ?_
  refine lv_iload hx hb dL_law_1946 (lv_at hl 4 rfl) ?_
  refine lv_iconst (v := 2) hx hb dL_law_1948 (by decide) ?_
  refine lv_iadd hx hb dL_law_1949 ?_
  refine lv_topi (fun x23 ex23 => ?_)
  obtain rfl : nI (n + 2) = x23 := (ex23.trans (nI_add n 2)).symm
  refine va_sld hx hb hX hbl hbA hS (i := (nI (n + 2))) (vin_t (a := ((n + 2 : Nat) : Int)) (nI_toInt (by omega)) (by omega) (by omega)) dL_law_1950 ?_
  refine lv_topi (fun x24 ex24 => ?_)
  refine lv_aload_n hx hb dL_law_1951 rfl (lv_at hl 3 rfl) ?_
  have hFc := hPA
  refine va_calli (vx_runSW (As := [.ref x, .int x22, .int x24, .ref ou]) (rest := []) ⟨hx, hb, hml, hown, hts⟩ (k_measure l hlt dC dI kA adK adV Pr H x ou x22 x24  hPr hC) (vx_cwSW 4 hts (goodIn_app (goodIn_r _ [48, 49, 50] rfl (by decide +kernel)) (goodIn_ca (goodIn_r _ [1, 2, 3, 4, 5, 6, 7, 8, 9, 10, 11, 12, 13, 14, 15, 16, 17, 18, 19, 20, 21, 22, 23, 24, 25, 26, 27, 28, 29, 30, 31, 32, 33, 34, 35, 36, 37, 38, 39, 40, 41, 42, 43, 44, 45, 46, 47] rfl (by decide +kernel)) (bs2_in _ _))) rfl rfl rfl (by decide +kernel) ⟨(Nat.le_of_ble_eq_true rfl), (Nat.le_of_ble_eq_true rfl)⟩) ⟨fun a U g mk q => by obtain ⟨q0, q1, qK, qE, qN, qA⟩ := q; exact ⟨q0, q1, va_K.moved (u := U) (U := U.calling g mk a) (Vm.Alike.refl U.vm) qK, EVC.blind g mk a qE, NC.blind g mk a qN, AO.blind g mk a qA⟩, fun U hU hW => ⟨rfl, hU, va_K.moved hW.alike hK, hE.call hS hFc hU hW, hN.call hW, hAO.call hW⟩⟩ rfl rfl hl.1 rfl (lv_room (Nat.le_of_ble_eq_true rfl)) dL_law_1952 ⟨show cells + 2 ≤ 603072 from by omega, show slots + 12 ≤ 7262314 from by omega⟩) hS (fun q _ h => hFc q h) hFc (fun r25 u t H locs ht hvm hw hB hz1 hk1 hS => ?_)
  (try dsimp only at hB); rw [ht] at hB
  have hR := hR.kept (fun a t h => hk1 a (hPr a (hGP a t h)) (fun h9 => h9 (hGP a t h)))
  have hC := hB
  have hPr : ∀ a, Pr a → a < H.size := fun a h => Nat.lt_of_lt_of_le (hPr a h) hz1
  refine lv_istore (lv' := [(5, .int r25), (0, .ref b), (1, .ref x), (2, .ref h0), (3, .ref ou), (4, .int (nI n))]) hx hb dL_law_1955 hl (by decide) rfl (fun ls hl => ?_)
  refine lv_aload_n hx hb dL_law_1957 rfl (lv_at hl 3 rfl) ?_
  refine lv_aload_n hx hb dL_law_1958 rfl (lv_at hl 1 rfl) ?_
  refine lv_iload hx hb dL_law_1959 (lv_at hl 5 rfl) ?_
  refine lv_iconst (v := 1) hx hb dL_law_1961 (by decide) ?_
  refine lv_iadd hx hb dL_law_1962 ?_
  refine lv_topi (fun x26 ex26 => ?_)
  obtain rfl : nI (n + 1) = x26 := (ex26.trans (nI_add n 1)).symm
  refine va_sld hx hb hX hbl hbA hS (i := (nI (n + 1))) (vin_t (a := ((n + 1 : Nat) : Int)) (nI_toInt (by omega)) (by omega) (by omega)) dL_law_1963 ?_
  refine lv_topi (fun x27 ex27 => ?_)
  obtain rfl : x22 = x27 := by rw [ex27, ex22] <;> exact congrArg xs (tn_same (i := (nI (n + 1))) (j := (nI (n + 1))) (show (nI (n + 1)).toInt = ((n + 1 : Nat) : Int) from (nI_toInt (by omega))) (show (nI (n + 1)).toInt = ((n + 1 : Nat) : Int) from (nI_toInt (by omega))) (by omega))
  refine lv_aload_n hx hb dL_law_1964 rfl (lv_at hl 1 rfl) ?_
  refine lv_iload hx hb dL_law_1965 (lv_at hl 5 rfl) ?_
  refine lv_iconst (v := 2) hx hb dL_law_1967 (by decide) ?_
  refine lv_iadd hx hb dL_law_1968 ?_
  refine lv_topi (fun x28 ex28 => ?_)
  obtain rfl : nI (n + 2) = x28 := (ex28.trans (nI_add n 2)).symm
  refine va_sld hx hb hX hbl hbA hS (i := (nI (n + 2))) (vin_t (a := ((n + 2 : Nat) : Int)) (nI_toInt (by omega)) (by omega) (by omega)) dL_law_1969 ?_
  refine lv_topi (fun x29 ex29 => ?_)
  obtain rfl : x24 = x29 := by rw [ex29, ex24] <;> exact congrArg xs (tn_same (i := (nI (n + 2))) (j := (nI (n + 2))) (show (nI (n + 2)).toInt = ((n + 2 : Nat) : Int) from (nI_toInt (by omega))) (show (nI (n + 2)).toInt = ((n + 2 : Nat) : Int) from (nI_toInt (by omega))) (by omega))
  have hFc := gA_m hPr hGP hGA hA hS
  refine va_calli (va_runV (As := [.int x22, .int x24]) (rest := []) ⟨hx, hb, hml, hown, hts⟩ (r_measure l dC dI kA adK adV Gm H h0 x22 x24  hR) (cwV 2 hts (goodIn_app (goodIn_r _ [77, 78, 79, 58] rfl (by decide +kernel)) (goodIn_ca (goodIn_r _ [51, 52, 53, 54, 55, 56, 57, 58, 59, 60, 61, 62, 63, 64, 65, 66, 67, 68, 69, 70, 25, 26, 27, 71, 72, 30, 31, 73, 74, 75, 76] rfl (by decide +kernel)) (bs_in2 _ _))) rfl rfl rfl (by decide +kernel) ⟨(Nat.le_of_ble_eq_true rfl), (Nat.le_of_ble_eq_true rfl)⟩) ⟨fun a U g mk q => by obtain ⟨q0, q1, qK, qE⟩ := q; exact ⟨q0, q1, va_K.moved (u := U) (U := U.calling g mk a) (Vm.Alike.refl U.vm) qK, EVS.blind g mk a qE⟩, RI.recv hK hR.ri, fun U hU hW => ⟨rfl, hU, va_K.moved hW.alike hK, hE.1.call hS hFc hU hW⟩⟩ rfl rfl hl.1 rfl (lv_room (Nat.le_of_ble_eq_true rfl)) dL_law_1970 ⟨show cells + 2 + 0 ≤ 603072 from by omega, show slots + 12 + 0 ≤ 7262314 from by omega⟩) hS (fun q _ h => hFc q h) hFc (fun r30 u t H locs ht hvm hw hB hz1 hk1 hS => ?_)
  (try dsimp only at hB); rw [ht] at hB
  have hC := hC.kept (fun a h1 h2 => hk1 a h1 (gA_mn hGP h1 h2))
  have hR := hB
  have hPr : ∀ a, Pr a → a < H.size := fun a h => Nat.lt_of_lt_of_le (hPr a h) hz1
  refine lv_istore (lv' := [(6, .int r30), (5, .int r25), (0, .ref b), (1, .ref x), (2, .ref h0), (3, .ref ou), (4, .int (nI n))]) hx hb dL_law_1973 hl (by decide) rfl (fun ls hl => ?_)
  refine lv_goto (tgt := 2491) hx hb dL_law_1975 (by decide) ?_
  exact W.widen (k := cells + 1170) (n := slots + 14100) (by omega) (by omega) (kk g H _ ls hC hR hPr hS (lv_sub hl [2, 3, 4, 5, 6] rfl))
def w_law_40 : List Cond := .initialized RL :: (HAppend.hAppend (α := List Cond) (β := List Cond) (γ := List Cond) [.codeWith yL_yards cL_yards 5 (some .int) [(0, 10, 13, 13)], .code yX11_yards cX11_yards 4 (some .int), .code yX11_contractOf cX11_contractOf 2 (some (.object "SeaLand$Contract")), .fieldLink RX11 414 "SeaLand" "contracted" "I", .code yX11_within cX11_within 3 (some .boolean), .methodLink RX11 58 yX11_within, .static yX11_within, .initialized RX11, .fieldLink RX11 36 "SeaLand" "contracts" "[LSeaLand$Contract;", .classLink RX11 557 "java/lang/IndexOutOfBoundsException", .initialized "java/lang/IndexOutOfBoundsException", .methodLink RX11 419 yX11_contractOf, .instanceMethod yX11_contractOf, .selects RX11 yX11_contractOf yX11_contractOf, .code yX1_hasSpan cX1_hasSpan 1 (some .boolean), .fieldLink RX1 28 "SeaLand$Contract" "measured" "Z", .fieldLink RX1 32 "SeaLand$Contract" "least" "I", .fieldLink RX1 10 "SeaLand$Contract" "most" "I", .methodLink RX11 431 yX1_hasSpan, .instanceMethod yX1_hasSpan, .selects RX1 yX1_hasSpan yX1_hasSpan, .initialized RX1, .methodLink RL 142 yX11_yards, .instanceMethod yX11_yards, .selects RX11 yX11_yards yX11_yards, .classLink RL 13 "java/lang/IndexOutOfBoundsException", .methodLink RL 311 yL_yards, .static yL_yards, .initialized RL, .code yX12_yards cX12_yards 3 (some .int), .fieldLink RX12 194 "SeaLandModel" "thrown" "I", .code yX12_noContract cX12_noContract 2 (some .boolean), .fieldLink RX12 533 "SeaLandModel" "contracts" "I", .code yX12_in cX12_in 3 (some .boolean), .methodLink RX12 197 yX12_in, .static yX12_in, .initialized RX12, .methodLink RX12 539 yX12_noContract, .instanceMethod yX12_noContract, .selects RX12 yX12_noContract yX12_noContract, .code yX12_throwsIf cX12_throwsIf 3 (some .boolean), .methodLink RX12 224 yX12_throwsIf, .instanceMethod yX12_throwsIf, .selects RX12 yX12_throwsIf yX12_throwsIf, .code yX12_hasSpan cX12_hasSpan 2 (some .boolean), .fieldLink RX12 155 "SeaLandModel" "isMeasured" "[Z", .fieldLink RX12 149 "SeaLandModel" "kLow" "[I", .fieldLink RX12 152 "SeaLandModel" "kHigh" "[I", .methodLink RX12 542 yX12_hasSpan, .instanceMethod yX12_hasSpan, .selects RX12 yX12_hasSpan yX12_hasSpan, .methodLink RL 313 yX12_yards, .instanceMethod yX12_yards, .selects RX12 yX12_yards yX12_yards] bs2)
set_option maxHeartbeats 4000000 in
set_option maxRecDepth 100000 in
theorem law_40 {p : Program} {e : Env} {s : State} {m : MethodId} {below : List Frame} {meth : Method} {c : Code} {Q : State → Prop} (l : Launch) (hlt : l.stackTraces = false) {b L : Nat} {xs : Nat → Int32} {A : Nat → Prop} (hx : p.tables.exec = Jvm.exec) (hb : c.code = code) (hml : c.maxLocals = 7) (hown : s.vm.findClass RL = some m.cls) (hts : ∀ w ∈ w_law_40, w.before #[Value.ref b] s = true) (hX : va_X b L xs s s.heap) (hbl : b < s.heap.size) (hbA : ¬ A b) (hL : L ≤ 4096) {adK adV : Nat → Nat} (hE : EVC adK adV A s s.heap) (hN : NC s) (hAO : AO s) (hA : ∀ q : Nat, s.heap.size ≤ q → A q) {dC : Nat → ClassId} {dI : Nat → Nat → Nat} {kA : Nat → ClassId} (hK : va_K (dC, dI) vwCl (tyl kA) s) {Pr : Nat → Prop} {Gm : gT} {x h0 ou : Nat} (hPA : ∀ q, ¬ Pr q → A q) (hGP : ∀ a t, Gm a = some t → Pr a) (hGA : ∀ a t, Gm a = some t → A a) (n : Nat) (hn : n + 8 ≤ L) (H : Heap) (locs : List Loc) (cells slots : Nat) (hcl : cells + 1170 ≤ 603072) (hsl : slots + 14100 ≤ 7262314) (g : gz) (hC : CJ dC dI kA Pr g x ou H) (hR : RJ dC dI kA g h0 Gm H) (hPr : ∀ a, Pr a → a < H.size) (hS : va_S A s.heap H locs) (ls : Array Slot) (hl : lv_has ls 7 [(0, .ref b), (1, .ref x), (2, .ref h0), (3, .ref ou), (4, .int (nI n))]) (kk : ∀ (g : gz) (H : Heap) (locs : List Loc) (ls : Array Slot), CJ dC dI kA Pr g x ou H → RJ dC dI kA g h0 Gm H → (∀ a, Pr a → a < H.size) → va_S A s.heap H locs → lv_has ls 7 [(0, .ref b), (1, .ref x), (2, .ref h0), (3, .ref ou), (4, .int (nI n))] → W p l e room_1 s m #[Value.ref b] below meth c H locs (cells + 1170) (slots + 14100) Q (F0 m 2491 ls [])) : W p l e room_1 s m #[Value.ref b] below meth c H locs cells slots Q (F0 m 1978 ls []) := by
  refine lv_aload_n hx hb dL_law_1978 rfl (lv_at hl 1 rfl) ?_
  refine lv_aload_n hx hb dL_law_1979 rfl (lv_at hl 0 rfl) ?_
  refine lv_iload hx hb dL_law_1980 (lv_at hl 4 rfl) ?_
  refine lv_iconst (v := 1) hx hb dL_law_1982 (by decide) ?_
  refine lv_iadd hx hb dL_law_1983 ?_
  refine lv_topi (fun x21 ex21 => ?_)
  obtain rfl : nI (n + 1) = x21 := (ex21.trans (nI_add n 1)).symm
  refine va_sld hx hb hX hbl hbA hS (i := (nI (n + 1))) (vin_t (a := ((n + 1 : Nat) : Int)) (nI_toInt (by omega)) (by omega) (by omega)) dL_law_1984 ?_
  refine lv_topi (fun x22 ex22 => ?_)
  refine lv_aload_n hx hb dL_law_1985 rfl (lv_at hl 0 rfl) ?_
  refine lv_iload hx hb dL_law_1986 (lv_at hl 4 rfl) ?_
  refine lv_iconst (v := 2) hx hb dL_law_1988 (by decide) ?_
  refine lv_iadd hx hb dL_law_1989 ?_
  refine lv_topi (fun x23 ex23 => ?_)
  obtain rfl : nI (n + 2) = x23 := (ex23.trans (nI_add n 2)).symm
  refine va_sld hx hb hX hbl hbA hS (i := (nI (n + 2))) (vin_t (a := ((n + 2 : Nat) : Int)) (nI_toInt (by omega)) (by omega) (by omega)) dL_law_1990 ?_
  refine lv_topi (fun x24 ex24 => ?_)
  have t25 : -2147483648 ≤ x24.toInt ∧ x24.toInt ≤ 2147483647 := ti_all x24
  refine lv_if_eq (tgt := 1998) hx hb dL_law_1991 (by decide) (fun c26 => ?_) (fun c26 => ?_)
  · have t27 : x24.toInt = 0 := ti_eq c26 rfl (by decide)
    refine lv_iconst (v := 0) hx hb dL_law_1998 (by decide) ?_
    refine lv_aload_n hx hb dL_law_1999 rfl (lv_at hl 3 rfl) ?_
    have hFc := hPA
    refine va_calli (vx_runSW (As := [.ref x, .int x22, .int 0, .ref ou]) (rest := []) ⟨hx, hb, hml, hown, hts⟩ (k_yards l hlt dC dI kA adK adV Pr H x ou x22 0 (by decide) hPr hC) (vx_cwSW 4 hts (goodIn_app (goodIn_r _ [27, 28, 29] rfl (by decide +kernel)) (goodIn_ca (goodIn_r _ [1, 2, 3, 4, 5, 6, 7, 8, 9, 10, 11, 12, 13, 14, 15, 16, 17, 18, 19, 20, 21, 22, 23, 24, 25, 26] rfl (by decide +kernel)) (bs2_in _ _))) rfl rfl rfl (by decide +kernel) ⟨(Nat.le_of_ble_eq_true rfl), (Nat.le_of_ble_eq_true rfl)⟩) ⟨fun a U g mk q => by obtain ⟨q0, q1, qK, qE, qN, qA⟩ := q; exact ⟨q0, q1, va_K.moved (u := U) (U := U.calling g mk a) (Vm.Alike.refl U.vm) qK, EVC.blind g mk a qE, NC.blind g mk a qN, AO.blind g mk a qA⟩, fun U hU hW => ⟨rfl, hU, va_K.moved hW.alike hK, hE.call hS hFc hU hW, hN.call hW, hAO.call hW⟩⟩ rfl rfl hl.1 rfl (lv_room (Nat.le_of_ble_eq_true rfl)) dL_law_2000 ⟨show cells + 1 ≤ 603072 from by omega, show slots + 6 ≤ 7262314 from by omega⟩) hS (fun q _ h => hFc q h) hFc (fun r28 u t H locs ht hvm hw hB hz1 hk1 hS => ?_)
    (try dsimp only at hB); rw [ht] at hB
    have hR := hR.kept (fun a t h => hk1 a (hPr a (hGP a t h)) (fun h9 => h9 (hGP a t h)))
    have hC := hB
    have hPr : ∀ a, Pr a → a < H.size := fun a h => Nat.lt_of_lt_of_le (hPr a h) hz1
    refine lv_istore (lv' := [(5, .int r28), (0, .ref b), (1, .ref x), (2, .ref h0), (3, .ref ou), (4, .int (nI n))]) hx hb dL_law_2003 hl (by decide) rfl (fun ls hl => ?_)
    refine lv_aload_n hx hb dL_law_2005 rfl (lv_at hl 3 rfl) ?_
    refine lv_aload_n hx hb dL_law_2006 rfl (lv_at hl 1 rfl) ?_
    refine lv_iload hx hb dL_law_2007 (lv_at hl 5 rfl) ?_
    refine lv_iconst (v := 1) hx hb dL_law_2009 (by decide) ?_
    refine lv_iadd hx hb dL_law_2010 ?_
    refine lv_topi (fun x29 ex29 => ?_)
    obtain rfl : nI (n + 1) = x29 := (ex29.trans (nI_add n 1)).symm
    refine va_sld hx hb hX hbl hbA hS (i := (nI (n + 1))) (vin_t (a := ((n + 1 : Nat) : Int)) (nI_toInt (by omega)) (by omega) (by omega)) dL_law_2011 ?_
    refine lv_topi (fun x30 ex30 => ?_)
    obtain rfl : x22 = x30 := by rw [ex30, ex22] <;> exact congrArg xs (tn_same (i := (nI (n + 1))) (j := (nI (n + 1))) (show (nI (n + 1)).toInt = ((n + 1 : Nat) : Int) from (nI_toInt (by omega))) (show (nI (n + 1)).toInt = ((n + 1 : Nat) : Int) from (nI_toInt (by omega))) (by omega))
    refine lv_aload_n hx hb dL_law_2012 rfl (lv_at hl 1 rfl) ?_
    refine lv_iload hx hb dL_law_2013 (lv_at hl 5 rfl) ?_
    refine lv_iconst (v := 2) hx hb dL_law_2015 (by decide) ?_
    refine lv_iadd hx hb dL_law_2016 ?_
    refine lv_topi (fun x31 ex31 => ?_)
    obtain rfl : nI (n + 2) = x31 := (ex31.trans (nI_add n 2)).symm
    refine va_sld hx hb hX hbl hbA hS (i := (nI (n + 2))) (vin_t (a := ((n + 2 : Nat) : Int)) (nI_toInt (by omega)) (by omega) (by omega)) dL_law_2017 ?_
    refine lv_topi (fun x32 ex32 => ?_)
    obtain rfl : x24 = x32 := by rw [ex32, ex24] <;> exact congrArg xs (tn_same (i := (nI (n + 2))) (j := (nI (n + 2))) (show (nI (n + 2)).toInt = ((n + 2 : Nat) : Int) from (nI_toInt (by omega))) (show (nI (n + 2)).toInt = ((n + 2 : Nat) : Int) from (nI_toInt (by omega))) (by omega))
    refine lv_if_eq (tgt := 2025) hx hb dL_law_2018 (by decide) (fun c33 => ?_) (fun c33 => (by exfalso; have q9 : x24.toInt ≠ 0 := ti_ne c33 rfl (by decide); omega))
    have t34 : x24.toInt = 0 := ti_eq c33 rfl (by decide)
    refine lv_iconst (v := 0) hx hb dL_law_2025 (by decide) ?_
    have hFc := gA_m hPr hGP hGA hA hS
    refine va_calli (va_runV (As := [.int x22, .int 0]) (rest := []) ⟨hx, hb, hml, hown, hts⟩ (r_yards l dC dI kA adK adV Gm H h0 x22 0 (by decide) hR) (cwV 2 hts (goodIn_app (goodIn_r _ [52, 53, 54, 37] rfl (by decide +kernel)) (goodIn_ca (goodIn_r _ [30, 31, 32, 33, 34, 35, 36, 37, 38, 39, 40, 41, 42, 43, 44, 45, 46, 47, 48, 49, 50, 51] rfl (by decide +kernel)) (bs_in2 _ _))) rfl rfl rfl (by decide +kernel) ⟨(Nat.le_of_ble_eq_true rfl), (Nat.le_of_ble_eq_true rfl)⟩) ⟨fun a U g mk q => by obtain ⟨q0, q1, qK, qE⟩ := q; exact ⟨q0, q1, va_K.moved (u := U) (U := U.calling g mk a) (Vm.Alike.refl U.vm) qK, EVS.blind g mk a qE⟩, RI.recv hK hR.ri, fun U hU hW => ⟨rfl, hU, va_K.moved hW.alike hK, hE.1.call hS hFc hU hW⟩⟩ rfl rfl hl.1 rfl (lv_room (Nat.le_of_ble_eq_true rfl)) dL_law_2026 ⟨show cells + 1 + 0 ≤ 603072 from by omega, show slots + 6 + 0 ≤ 7262314 from by omega⟩) hS (fun q _ h => hFc q h) hFc (fun r35 u t H locs ht hvm hw hB hz1 hk1 hS => ?_)
    (try dsimp only at hB); rw [ht] at hB
    have hC := hC.kept (fun a h1 h2 => hk1 a h1 (gA_mn hGP h1 h2))
    have hR := hB
    have hPr : ∀ a, Pr a → a < H.size := fun a h => Nat.lt_of_lt_of_le (hPr a h) hz1
    refine lv_istore (lv' := [(6, .int r35), (5, .int r28), (0, .ref b), (1, .ref x), (2, .ref h0), (3, .ref ou), (4, .int (nI n))]) hx hb dL_law_2029 hl (by decide) rfl (fun ls hl => ?_)
    refine lv_goto (tgt := 2491) hx hb dL_law_2031 (by decide) ?_
    exact W.widen (k := cells + 1170) (n := slots + 14100) (by omega) (by omega) (kk g H _ ls hC hR hPr hS (lv_sub hl [2, 3, 4, 5, 6] rfl))
  · have t36 : x24.toInt ≠ 0 := ti_ne c26 rfl (by decide)
    refine lv_iconst (v := 1) hx hb dL_law_1994 (by decide) ?_
    refine lv_goto (tgt := 1999) hx hb dL_law_1995 (by decide) ?_
    refine lv_aload_n hx hb dL_law_1999 rfl (lv_at hl 3 rfl) ?_
    have hFc := hPA
    refine va_calli (vx_runSW (As := [.ref x, .int x22, .int 1, .ref ou]) (rest := []) ⟨hx, hb, hml, hown, hts⟩ (k_yards l hlt dC dI kA adK adV Pr H x ou x22 1 (by decide) hPr hC) (vx_cwSW 4 hts (goodIn_app (goodIn_r _ [27, 28, 29] rfl (by decide +kernel)) (goodIn_ca (goodIn_r _ [1, 2, 3, 4, 5, 6, 7, 8, 9, 10, 11, 12, 13, 14, 15, 16, 17, 18, 19, 20, 21, 22, 23, 24, 25, 26] rfl (by decide +kernel)) (bs2_in _ _))) rfl rfl rfl (by decide +kernel) ⟨(Nat.le_of_ble_eq_true rfl), (Nat.le_of_ble_eq_true rfl)⟩) ⟨fun a U g mk q => by obtain ⟨q0, q1, qK, qE, qN, qA⟩ := q; exact ⟨q0, q1, va_K.moved (u := U) (U := U.calling g mk a) (Vm.Alike.refl U.vm) qK, EVC.blind g mk a qE, NC.blind g mk a qN, AO.blind g mk a qA⟩, fun U hU hW => ⟨rfl, hU, va_K.moved hW.alike hK, hE.call hS hFc hU hW, hN.call hW, hAO.call hW⟩⟩ rfl rfl hl.1 rfl (lv_room (Nat.le_of_ble_eq_true rfl)) dL_law_2000 ⟨show cells + 1 ≤ 603072 from by omega, show slots + 6 ≤ 7262314 from by omega⟩) hS (fun q _ h => hFc q h) hFc (fun r37 u t H locs ht hvm hw hB hz1 hk1 hS => ?_)
    (try dsimp only at hB); rw [ht] at hB
    have hR := hR.kept (fun a t h => hk1 a (hPr a (hGP a t h)) (fun h9 => h9 (hGP a t h)))
    have hC := hB
    have hPr : ∀ a, Pr a → a < H.size := fun a h => Nat.lt_of_lt_of_le (hPr a h) hz1
    refine lv_istore (lv' := [(5, .int r37), (0, .ref b), (1, .ref x), (2, .ref h0), (3, .ref ou), (4, .int (nI n))]) hx hb dL_law_2003 hl (by decide) rfl (fun ls hl => ?_)
    refine lv_aload_n hx hb dL_law_2005 rfl (lv_at hl 3 rfl) ?_
    refine lv_aload_n hx hb dL_law_2006 rfl (lv_at hl 1 rfl) ?_
    refine lv_iload hx hb dL_law_2007 (lv_at hl 5 rfl) ?_
    refine lv_iconst (v := 1) hx hb dL_law_2009 (by decide) ?_
    refine lv_iadd hx hb dL_law_2010 ?_
    refine lv_topi (fun x38 ex38 => ?_)
    obtain rfl : nI (n + 1) = x38 := (ex38.trans (nI_add n 1)).symm
    refine va_sld hx hb hX hbl hbA hS (i := (nI (n + 1))) (vin_t (a := ((n + 1 : Nat) : Int)) (nI_toInt (by omega)) (by omega) (by omega)) dL_law_2011 ?_
    refine lv_topi (fun x39 ex39 => ?_)
    obtain rfl : x22 = x39 := by rw [ex39, ex22] <;> exact congrArg xs (tn_same (i := (nI (n + 1))) (j := (nI (n + 1))) (show (nI (n + 1)).toInt = ((n + 1 : Nat) : Int) from (nI_toInt (by omega))) (show (nI (n + 1)).toInt = ((n + 1 : Nat) : Int) from (nI_toInt (by omega))) (by omega))
    refine lv_aload_n hx hb dL_law_2012 rfl (lv_at hl 1 rfl) ?_
    refine lv_iload hx hb dL_law_2013 (lv_at hl 5 rfl) ?_
    refine lv_iconst (v := 2) hx hb dL_law_2015 (by decide) ?_
    refine lv_iadd hx hb dL_law_2016 ?_
    refine lv_topi (fun x40 ex40 => ?_)
    obtain rfl : nI (n + 2) = x40 := (ex40.trans (nI_add n 2)).symm
    refine va_sld hx hb hX hbl hbA hS (i := (nI (n + 2))) (vin_t (a := ((n + 2 : Nat) : Int)) (nI_toInt (by omega)) (by omega) (by omega)) dL_law_2017 ?_
    refine lv_topi (fun x41 ex41 => ?_)
    obtain rfl : x24 = x41 := by rw [ex41, ex24] <;> exact congrArg xs (tn_same (i := (nI (n + 2))) (j := (nI (n + 2))) (show (nI (n + 2)).toInt = ((n + 2 : Nat) : Int) from (nI_toInt (by omega))) (show (nI (n + 2)).toInt = ((n + 2 : Nat) : Int) from (nI_toInt (by omega))) (by omega))
    refine lv_if_eq (tgt := 2025) hx hb dL_law_2018 (by decide) (fun c42 => ?_) (fun c42 => ?_)
    · have t43 : x24.toInt = 0 := ti_eq c42 rfl (by decide)
      refine lv_iconst (v := 0) hx hb dL_law_2025 (by decide) ?_
      have hFc := gA_m hPr hGP hGA hA hS
      refine va_calli (va_runV (As := [.int x22, .int 0]) (rest := []) ⟨hx, hb, hml, hown, hts⟩ (r_yards l dC dI kA adK adV Gm H h0 x22 0 (by decide) hR) (cwV 2 hts (goodIn_app (goodIn_r _ [52, 53, 54, 37] rfl (by decide +kernel)) (goodIn_ca (goodIn_r _ [30, 31, 32, 33, 34, 35, 36, 37, 38, 39, 40, 41, 42, 43, 44, 45, 46, 47, 48, 49, 50, 51] rfl (by decide +kernel)) (bs_in2 _ _))) rfl rfl rfl (by decide +kernel) ⟨(Nat.le_of_ble_eq_true rfl), (Nat.le_of_ble_eq_true rfl)⟩) ⟨fun a U g mk q => by obtain ⟨q0, q1, qK, qE⟩ := q; exact ⟨q0, q1, va_K.moved (u := U) (U := U.calling g mk a) (Vm.Alike.refl U.vm) qK, EVS.blind g mk a qE⟩, RI.recv hK hR.ri, fun U hU hW => ⟨rfl, hU, va_K.moved hW.alike hK, hE.1.call hS hFc hU hW⟩⟩ rfl rfl hl.1 rfl (lv_room (Nat.le_of_ble_eq_true rfl)) dL_law_2026 ⟨show cells + 1 + 0 ≤ 603072 from by omega, show slots + 6 + 0 ≤ 7262314 from by omega⟩) hS (fun q _ h => hFc q h) hFc (fun r44 u t H locs ht hvm hw hB hz1 hk1 hS => ?_)
      (try dsimp only at hB); rw [ht] at hB
      have hC := hC.kept (fun a h1 h2 => hk1 a h1 (gA_mn hGP h1 h2))
      have hR := hB
      have hPr : ∀ a, Pr a → a < H.size := fun a h => Nat.lt_of_lt_of_le (hPr a h) hz1
      refine lv_istore (lv' := [(6, .int r44), (5, .int r37), (0, .ref b), (1, .ref x), (2, .ref h0), (3, .ref ou), (4, .int (nI n))]) hx hb dL_law_2029 hl (by decide) rfl (fun ls hl => ?_)
      refine lv_goto (tgt := 2491) hx hb dL_law_2031 (by decide) ?_
      exact W.widen (k := cells + 1170) (n := slots + 14100) (by omega) (by omega) (kk g H _ ls hC hR hPr hS (lv_sub hl [2, 3, 4, 5, 6] rfl))
    · have t45 : x24.toInt ≠ 0 := ti_ne c42 rfl (by decide)
      refine lv_iconst (v := 1) hx hb dL_law_2021 (by decide) ?_
      refine lv_goto (tgt := 2026) hx hb dL_law_2022 (by decide) ?_
      have hFc := gA_m hPr hGP hGA hA hS
      refine va_calli (va_runV (As := [.int x22, .int 1]) (rest := []) ⟨hx, hb, hml, hown, hts⟩ (r_yards l dC dI kA adK adV Gm H h0 x22 1 (by decide) hR) (cwV 2 hts (goodIn_app (goodIn_r _ [52, 53, 54, 37] rfl (by decide +kernel)) (goodIn_ca (goodIn_r _ [30, 31, 32, 33, 34, 35, 36, 37, 38, 39, 40, 41, 42, 43, 44, 45, 46, 47, 48, 49, 50, 51] rfl (by decide +kernel)) (bs_in2 _ _))) rfl rfl rfl (by decide +kernel) ⟨(Nat.le_of_ble_eq_true rfl), (Nat.le_of_ble_eq_true rfl)⟩) ⟨fun a U g mk q => by obtain ⟨q0, q1, qK, qE⟩ := q; exact ⟨q0, q1, va_K.moved (u := U) (U := U.calling g mk a) (Vm.Alike.refl U.vm) qK, EVS.blind g mk a qE⟩, RI.recv hK hR.ri, fun U hU hW => ⟨rfl, hU, va_K.moved hW.alike hK, hE.1.call hS hFc hU hW⟩⟩ rfl rfl hl.1 rfl (lv_room (Nat.le_of_ble_eq_true rfl)) dL_law_2026 ⟨show cells + 1 + 0 ≤ 603072 from by omega, show slots + 6 + 0 ≤ 7262314 from by omega⟩) hS (fun q _ h => hFc q h) hFc (fun r46 u t H locs ht hvm hw hB hz1 hk1 hS => ?_)
      (try dsimp only at hB); rw [ht] at hB
      have hC := hC.kept (fun a h1 h2 => hk1 a h1 (gA_mn hGP h1 h2))
      have hR := hB
      have hPr : ∀ a, Pr a → a < H.size := fun a h => Nat.lt_of_lt_of_le (hPr a h) hz1
      refine lv_istore (lv' := [(6, .int r46), (5, .int r37), (0, .ref b), (1, .ref x), (2, .ref h0), (3, .ref ou), (4, .int (nI n))]) hx hb dL_law_2029 hl (by decide) rfl (fun ls hl => ?_)
      refine lv_goto (tgt := 2491) hx hb dL_law_2031 (by decide) ?_
      exact W.widen (k := cells + 1170) (n := slots + 14100) (by omega) (by omega) (kk g H _ ls hC hR hPr hS (lv_sub hl [2, 3, 4, 5, 6] rfl))
def w_law_41 : List Cond := .initialized RL :: (HAppend.hAppend (α := List Cond) (β := List Cond) (γ := List Cond) [.codeWith yL_pay cL_pay 4 (some .int) [(0, 9, 12, 13)], .code yX11_pay cX11_pay 7 (some .int), .code yX11_contractOf cX11_contractOf 2 (some (.object "SeaLand$Contract")), .fieldLink RX11 414 "SeaLand" "contracted" "I", .code yX11_within cX11_within 3 (some .boolean), .methodLink RX11 58 yX11_within, .static yX11_within, .initialized RX11, .fieldLink RX11 36 "SeaLand" "contracts" "[LSeaLand$Contract;", .classLink RX11 557 "java/lang/IndexOutOfBoundsException", .initialized "java/lang/IndexOutOfBoundsException", .methodLink RX11 419 yX11_contractOf, .instanceMethod yX11_contractOf, .selects RX11 yX11_contractOf yX11_contractOf, .code yX1_hasSpan cX1_hasSpan 1 (some .boolean), .fieldLink RX1 28 "SeaLand$Contract" "measured" "Z", .fieldLink RX1 32 "SeaLand$Contract" "least" "I", .fieldLink RX1 10 "SeaLand$Contract" "most" "I", .methodLink RX11 431 yX1_hasSpan, .instanceMethod yX1_hasSpan, .selects RX1 yX1_hasSpan yX1_hasSpan, .initialized RX1, .code yX11_bankOf cX11_bankOf 3 (some (.object "SeaLand$Work")), .fieldLink RX11 16 "SeaLand" "lake" "LSeaLand$Lake;", .code yX10_isBank cX10_isBank 1 (some .boolean), .fieldLink RX10 18 "SeaLand$Work" "kind" "I", .methodLink RX11 171 yX10_isBank, .instanceMethod yX10_isBank, .selects RX10 yX10_isBank yX10_isBank, .initialized RX10, .methodLink RX11 440 yX11_bankOf, .instanceMethod yX11_bankOf, .selects RX11 yX11_bankOf yX11_bankOf, .code yX11_lessFor cX11_lessFor 4 (some .int), .methodLink RX11 444 yX11_lessFor, .instanceMethod yX11_lessFor, .selects RX11 yX11_lessFor yX11_lessFor, .fieldLink RX11 30 "SeaLand" "board" "LSeaLand$Board;", .code yX10_takesLayer cX10_takesLayer 1 (some .boolean), .fieldLink RX10 34 "SeaLand$Work" "layers" "I", .methodLink RX11 180 yX10_takesLayer, .instanceMethod yX10_takesLayer, .selects RX10 yX10_takesLayer yX10_takesLayer, .fieldLink RX11 23 "SeaLand" "rows" "LSeaLand$Rows;", .code yX6_forget cX6_forget 1 none, .fieldLink RX6 18 "SeaLand$Rows" "kept" "I", .fieldLink RX6 22 "SeaLand$Rows" "oldest" "I", .methodLink RX11 76 yX6_forget, .instanceMethod yX6_forget, .selects RX6 yX6_forget yX6_forget, .initialized RX6, .code yX10_addLayer cX10_addLayer 3 none, .fieldLink RX10 9 "SeaLand$Work" "thick" "[I", .fieldLink RX10 15 "SeaLand$Work" "clay" "[I", .methodLink RX11 183 yX10_addLayer, .instanceMethod yX10_addLayer, .selects RX10 yX10_addLayer yX10_addLayer, .methodLink RL 145 yX11_pay, .instanceMethod yX11_pay, .selects RX11 yX11_pay yX11_pay, .classLink RL 13 "java/lang/IndexOutOfBoundsException", .methodLink RL 314 yL_pay, .static yL_pay, .initialized RL, .code yX12_pay cX12_pay 7 (some .int), .fieldLink RX12 194 "SeaLandModel" "thrown" "I", .code yX12_noContract cX12_noContract 2 (some .boolean), .fieldLink RX12 533 "SeaLandModel" "contracts" "I", .code yX12_in cX12_in 3 (some .boolean), .methodLink RX12 197 yX12_in, .static yX12_in, .initialized RX12, .methodLink RX12 539 yX12_noContract, .instanceMethod yX12_noContract, .selects RX12 yX12_noContract yX12_noContract, .code yX12_throwsIf cX12_throwsIf 3 (some .boolean), .methodLink RX12 224 yX12_throwsIf, .instanceMethod yX12_throwsIf, .selects RX12 yX12_throwsIf yX12_throwsIf, .fieldLink RX12 158 "SeaLandModel" "isPaid" "[Z", .code yX12_hasSpan cX12_hasSpan 2 (some .boolean), .fieldLink RX12 155 "SeaLandModel" "isMeasured" "[Z", .fieldLink RX12 149 "SeaLandModel" "kLow" "[I", .fieldLink RX12 152 "SeaLandModel" "kHigh" "[I", .methodLink RX12 542 yX12_hasSpan, .instanceMethod yX12_hasSpan, .selects RX12 yX12_hasSpan yX12_hasSpan, .fieldLink RX12 137 "SeaLandModel" "kWork" "[I", .code yX12_noWork cX12_noWork 2 (some .boolean), .fieldLink RX12 9 "SeaLandModel" "world" "[I", .methodLink RX12 269 yX12_noWork, .instanceMethod yX12_noWork, .selects RX12 yX12_noWork yX12_noWork, .fieldLink RX12 143 "SeaLandModel" "kPrice" "[I", .fieldLink RX12 519 "SeaLandModel" "board" "I", .code yX12_isDike cX12_isDike 2 (some .boolean), .code yX12_of cX12_of 3 (some .int), .code yX12_at cX12_at 2 (some .int), .methodLink RX12 214 yX12_at, .static yX12_at, .methodLink RX12 217 yX12_of, .instanceMethod yX12_of, .selects RX12 yX12_of yX12_of, .methodLink RX12 272 yX12_isDike, .instanceMethod yX12_isDike, .selects RX12 yX12_isDike yX12_isDike, .fieldLink RX12 140 "SeaLandModel" "kClay" "[I", .code yX12_lays cX12_lays 5 none, .fieldLink RX12 238 "SeaLandModel" "rows" "I", .methodLink RX12 275 yX12_lays, .instanceMethod yX12_lays, .selects RX12 yX12_lays yX12_lays, .methodLink RL 316 yX12_pay, .instanceMethod yX12_pay, .selects RX12 yX12_pay yX12_pay] bs2)
set_option maxHeartbeats 4000000 in
set_option maxRecDepth 100000 in
theorem law_41 {p : Program} {e : Env} {s : State} {m : MethodId} {below : List Frame} {meth : Method} {c : Code} {Q : State → Prop} (l : Launch) (hlt : l.stackTraces = false) {b L : Nat} {xs : Nat → Int32} {A : Nat → Prop} (hx : p.tables.exec = Jvm.exec) (hb : c.code = code) (hml : c.maxLocals = 7) (hown : s.vm.findClass RL = some m.cls) (hts : ∀ w ∈ w_law_41, w.before #[Value.ref b] s = true) (hX : va_X b L xs s s.heap) (hbl : b < s.heap.size) (hbA : ¬ A b) (hL : L ≤ 4096) {adK adV : Nat → Nat} (hE : EVC adK adV A s s.heap) (hN : NC s) (hAO : AO s) (hA : ∀ q : Nat, s.heap.size ≤ q → A q) {dC : Nat → ClassId} {dI : Nat → Nat → Nat} {kA : Nat → ClassId} (hK : va_K (dC, dI) vwCl (tyl kA) s) {Pr : Nat → Prop} {Gm : gT} {x h0 ou : Nat} (hPA : ∀ q, ¬ Pr q → A q) (hGP : ∀ a t, Gm a = some t → Pr a) (hGA : ∀ a t, Gm a = some t → A a) (n : Nat) (hn : n + 8 ≤ L) (H : Heap) (locs : List Loc) (cells slots : Nat) (hcl : cells + 1170 ≤ 603072) (hsl : slots + 14100 ≤ 7262314) (g : gz) (hC : CJ dC dI kA Pr g x ou H) (hR : RJ dC dI kA g h0 Gm H) (hPr : ∀ a, Pr a → a < H.size) (hS : va_S A s.heap H locs) (ls : Array Slot) (hl : lv_has ls 7 [(0, .ref b), (1, .ref x), (2, .ref h0), (3, .ref ou), (4, .int (nI n))]) (kk : ∀ (g : gz) (H : Heap) (locs : List Loc) (ls : Array Slot), CJ dC dI kA Pr g x ou H → RJ dC dI kA g h0 Gm H → (∀ a, Pr a → a < H.size) → va_S A s.heap H locs → lv_has ls 7 [(0, .ref b), (1, .ref x), (2, .ref h0), (3, .ref ou), (4, .int (nI n))] → W p l e room_1 s m #[Value.ref b] below meth c H locs (cells + 1170) (slots + 14100) Q (F0 m 2491 ls [])) : W p l e room_1 s m #[Value.ref b] below meth c H locs cells slots Q (F0 m 2034 ls []) := by
  refine lv_aload_n hx hb dL_law_2034 rfl (lv_at hl 1 rfl) ?_
  refine lv_aload_n hx hb dL_law_2035 rfl (lv_at hl 0 rfl) ?_
  refine lv_iload hx hb dL_law_2036 (lv_at hl 4 rfl) ?_
  refine lv_iconst (v := 1) hx hb dL_law_2038 (by decide) ?_
  refine lv_iadd hx hb dL_law_2039 ?_
  refine lv_topi (fun x21 ex21 => ?_)
  obtain rfl : nI (n + 1) = x21 := (ex21.trans (nI_add n 1)).symm
  refine va_sld hx hb hX hbl hbA hS (i := (nI (n + 1))) (vin_t (a := ((n + 1 : Nat) : Int)) (nI_toInt (by omega)) (by omega) (by omega)) dL_law_2040 ?_
  refine lv_topi (fun x22 ex22 => ?_)
  refine lv_aload_n hx hb dL_law_2041 rfl (lv_at hl 3 rfl) ?_
  have hFc := hPA
  refine va_calli (vx_runSW (As := [.ref x, .int x22, .ref ou]) (rest := []) ⟨hx, hb, hml, hown, hts⟩ (k_pay l hlt dC dI kA adK adV Pr H x ou x22  hPr hC) (vx_cwSW 3 hts (goodIn_app (goodIn_r _ [62, 63, 64] rfl (by decide +kernel)) (goodIn_ca (goodIn_r _ [1, 2, 3, 4, 5, 6, 7, 8, 9, 10, 11, 12, 13, 14, 15, 16, 17, 18, 19, 20, 21, 22, 23, 24, 25, 26, 27, 28, 29, 30, 31, 32, 33, 34, 35, 36, 37, 38, 39, 40, 41, 42, 43, 44, 45, 46, 47, 48, 49, 50, 51, 52, 53, 54, 55, 56, 57, 58, 59, 60, 61] rfl (by decide +kernel)) (bs2_in _ _))) rfl rfl rfl (by decide +kernel) ⟨(Nat.le_of_ble_eq_true rfl), (Nat.le_of_ble_eq_true rfl)⟩) ⟨fun a U g mk q => by obtain ⟨q0, q1, qK, qE, qN, qA⟩ := q; exact ⟨q0, q1, va_K.moved (u := U) (U := U.calling g mk a) (Vm.Alike.refl U.vm) qK, EVC.blind g mk a qE, NC.blind g mk a qN, AO.blind g mk a qA⟩, fun U hU hW => ⟨rfl, hU, va_K.moved hW.alike hK, hE.call hS hFc hU hW, hN.call hW, hAO.call hW⟩⟩ rfl rfl hl.1 rfl (lv_room (Nat.le_of_ble_eq_true rfl)) dL_law_2042 ⟨show cells + 1 ≤ 603072 from by omega, show slots + 6 ≤ 7262314 from by omega⟩) hS (fun q _ h => hFc q h) hFc (fun r23 u t H locs ht hvm hw hB hz1 hk1 hS => ?_)
  (try dsimp only at hB); rw [ht] at hB
  have hR := hR.kept (fun a t h => hk1 a (hPr a (hGP a t h)) (fun h9 => h9 (hGP a t h)))
  have hC := hB
  have hPr : ∀ a, Pr a → a < H.size := fun a h => Nat.lt_of_lt_of_le (hPr a h) hz1
  refine lv_istore (lv' := [(5, .int r23), (0, .ref b), (1, .ref x), (2, .ref h0), (3, .ref ou), (4, .int (nI n))]) hx hb dL_law_2045 hl (by decide) rfl (fun ls hl => ?_)
  refine lv_aload_n hx hb dL_law_2047 rfl (lv_at hl 3 rfl) ?_
  refine lv_aload_n hx hb dL_law_2048 rfl (lv_at hl 1 rfl) ?_
  refine lv_iload hx hb dL_law_2049 (lv_at hl 5 rfl) ?_
  refine lv_iconst (v := 1) hx hb dL_law_2051 (by decide) ?_
  refine lv_iadd hx hb dL_law_2052 ?_
  refine lv_topi (fun x24 ex24 => ?_)
  obtain rfl : nI (n + 1) = x24 := (ex24.trans (nI_add n 1)).symm
  refine va_sld hx hb hX hbl hbA hS (i := (nI (n + 1))) (vin_t (a := ((n + 1 : Nat) : Int)) (nI_toInt (by omega)) (by omega) (by omega)) dL_law_2053 ?_
  refine lv_topi (fun x25 ex25 => ?_)
  obtain rfl : x22 = x25 := by rw [ex25, ex22] <;> exact congrArg xs (tn_same (i := (nI (n + 1))) (j := (nI (n + 1))) (show (nI (n + 1)).toInt = ((n + 1 : Nat) : Int) from (nI_toInt (by omega))) (show (nI (n + 1)).toInt = ((n + 1 : Nat) : Int) from (nI_toInt (by omega))) (by omega))
  have hFc := gA_m hPr hGP hGA hA hS
  refine va_calli (va_runV (As := [.int x22]) (rest := []) ⟨hx, hb, hml, hown, hts⟩ (r_pay l dC dI kA adK adV Gm H h0 x22  hR) (cwV 1 hts (goodIn_app (goodIn_r _ [113, 114, 115, 72] rfl (by decide +kernel)) (goodIn_ca (goodIn_r _ [65, 66, 67, 68, 69, 70, 71, 72, 73, 74, 75, 76, 77, 78, 79, 80, 81, 82, 83, 84, 85, 86, 87, 88, 89, 90, 91, 92, 93, 94, 95, 96, 97, 98, 99, 100, 101, 102, 103, 104, 105, 106, 107, 108, 109, 110, 111, 112] rfl (by decide +kernel)) (bs_in2 _ _))) rfl rfl rfl (by decide +kernel) ⟨(Nat.le_of_ble_eq_true rfl), (Nat.le_of_ble_eq_true rfl)⟩) ⟨fun a U g mk q => by obtain ⟨q0, q1, qK, qE⟩ := q; exact ⟨q0, q1, va_K.moved (u := U) (U := U.calling g mk a) (Vm.Alike.refl U.vm) qK, EVS.blind g mk a qE⟩, RI.recv hK hR.ri, fun U hU hW => ⟨rfl, hU, va_K.moved hW.alike hK, hE.1.call hS hFc hU hW⟩⟩ rfl rfl hl.1 rfl (lv_room (Nat.le_of_ble_eq_true rfl)) dL_law_2054 ⟨show cells + 1 + 0 ≤ 603072 from by omega, show slots + 6 + 0 ≤ 7262314 from by omega⟩) hS (fun q _ h => hFc q h) hFc (fun r26 u t H locs ht hvm hw hB hz1 hk1 hS => ?_)
  (try dsimp only at hB); rw [ht] at hB
  have hC := hC.kept (fun a h1 h2 => hk1 a h1 (gA_mn hGP h1 h2))
  have hR := hB
  have hPr : ∀ a, Pr a → a < H.size := fun a h => Nat.lt_of_lt_of_le (hPr a h) hz1
  refine lv_istore (lv' := [(6, .int r26), (5, .int r23), (0, .ref b), (1, .ref x), (2, .ref h0), (3, .ref ou), (4, .int (nI n))]) hx hb dL_law_2057 hl (by decide) rfl (fun ls hl => ?_)
  refine lv_goto (tgt := 2491) hx hb dL_law_2059 (by decide) ?_
  exact W.widen (k := cells + 1170) (n := slots + 14100) (by omega) (by omega) (kk g H _ ls hC hR hPr hS (lv_sub hl [2, 3, 4, 5, 6] rfl))
def w_law_42 : List Cond := .initialized RL :: (HAppend.hAppend (α := List Cond) (β := List Cond) (γ := List Cond) [.codeWith yL_lifts cL_lifts 7 (some .int) [(0, 14, 17, 15)], .code yX11_lifts cX11_lifts 5 (some .int), .code yX11_within cX11_within 3 (some .boolean), .methodLink RX11 58 yX11_within, .static yX11_within, .initialized RX11, .code yX11_needNumbers cX11_needNumbers 1 none, .classLink RX11 547 "java/lang/IllegalArgumentException", .initialized "java/lang/IllegalArgumentException", .methodLink RX11 62 yX11_needNumbers, .static yX11_needNumbers, .fieldLink RX11 43 "SeaLand" "plans" "LSeaLand$Plans;", .fieldLink RX11 16 "SeaLand" "lake" "LSeaLand$Lake;", .code yX5_leastCoal cX5_leastCoal 7 (some .int), .code yX5_gatherEngines cX5_gatherEngines 4 none, .fieldLink RX5 76 "SeaLand$Plans" "engines" "I", .fieldLink RX5 13 "SeaLand$Plans" "liftOf" "[I", .methodLink RX5 51 yX5_gatherEngines, .instanceMethod yX5_gatherEngines, .selects RX5 yX5_gatherEngines yX5_gatherEngines, .initialized RX5, .fieldLink RX5 17 "SeaLand$Plans" "leastNow" "[I", .constant RX5 55 2147483647, .code yJ7_fill_53178 cJ7_fill_53178 4 none, .methodLink RX5 56 yJ7_fill_53178, .static yJ7_fill_53178, .initialized RJ7, .code yX3_allMillsLift cX3_allMillsLift 5 (some .int), .fieldLink RX3 12 "SeaLand$Lake" "sky" "LSeaLand$Sky;", .code yX8_windAt cX8_windAt 4 (some .int), .fieldLink RX8 27 "SeaLand$Sky" "wind" "LSeaLand$Tellings;", .code yX9_standingAt cX9_standingAt 5 (some .int), .fieldLink RX9 18 "SeaLand$Tellings" "told" "I", .fieldLink RX9 9 "SeaLand$Tellings" "hours" "[I", .methodLink RX8 44 yX9_standingAt, .instanceMethod yX9_standingAt, .selects RX9 yX9_standingAt yX9_standingAt, .initialized RX9, .code yX9_nearestNumberBefore cX9_nearestNumberBefore 5 (some .int), .fieldLink RX9 15 "SeaLand$Tellings" "numbers" "[I", .methodLink RX8 54 yX9_nearestNumberBefore, .instanceMethod yX9_nearestNumberBefore, .selects RX9 yX9_nearestNumberBefore yX9_nearestNumberBefore, .code yX9_nearestNumberAfter cX9_nearestNumberAfter 5 (some .int), .constant RX9 22 40001, .methodLink RX8 57 yX9_nearestNumberAfter, .instanceMethod yX9_nearestNumberAfter, .selects RX9 yX9_nearestNumberAfter yX9_nearestNumberAfter, .methodLink RX8 60 Lib.Math.max.name, .static Lib.Math.max.name, .initialized "java/lang/Math", .code Lib.Math.max.name Lib.Math.max.code 2 (some .int), .methodLink RX3 120 yX8_windAt, .instanceMethod yX8_windAt, .selects RX8 yX8_windAt yX8_windAt, .initialized RX8, .fieldLink RX3 47 "SeaLand$Lake" "built" "I", .fieldLink RX3 27 "SeaLand$Lake" "works" "[LSeaLand$Work;", .methodLink RX5 68 yX3_allMillsLift, .instanceMethod yX3_allMillsLift, .selects RX3 yX3_allMillsLift yX3_allMillsLift, .initialized RX3, .code yX5_passPlannedHour cX5_passPlannedHour 7 none, .fieldLink RX5 20 "SeaLand$Plans" "leastThen" "[I", .methodLink RX5 94 Lib.Math.max.name, .methodLink RX5 100 arraycopyName, .native arraycopyName, .static arraycopyName, .initialized "java/lang/System", .methodLink RX5 72 yX5_passPlannedHour, .instanceMethod yX5_passPlannedHour, .selects RX5 yX5_passPlannedHour yX5_passPlannedHour, .methodLink RX11 463 yX5_leastCoal, .instanceMethod yX5_leastCoal, .selects RX5 yX5_leastCoal yX5_leastCoal, .methodLink RL 148 yX11_lifts, .instanceMethod yX11_lifts, .selects RX11 yX11_lifts yX11_lifts, .classLink RL 15 "java/lang/IllegalArgumentException", .methodLink RL 317 yL_lifts, .static yL_lifts, .initialized RL, .code yX12_lifts_ cX12_lifts_ 13 (some .int), .fieldLink RX12 194 "SeaLandModel" "thrown" "I", .code yX12_in cX12_in 3 (some .boolean), .methodLink RX12 197 yX12_in, .static yX12_in, .initialized RX12, .code yX12_throwsIf cX12_throwsIf 3 (some .boolean), .methodLink RX12 224 yX12_throwsIf, .instanceMethod yX12_throwsIf, .selects RX12 yX12_throwsIf yX12_throwsIf, .fieldLink RX12 9 "SeaLandModel" "world" "[I", .constant RX12 538 1000000000, .fieldLink RX12 161 "SeaLandModel" "best" "[I", .methodLink RX12 207 Lib.Math.min.name, .static Lib.Math.min.name, .code Lib.Math.min.name Lib.Math.min.code 2 (some .int), .fieldLink RX12 164 "SeaLandModel" "next" "[I", .code yJ6_bitCount_0f7a4 cJ6_bitCount_0f7a4 1 (some .int), .constant RJ6 265 1431655765, .constant RJ6 266 858993459, .constant RJ6 267 252645135, .methodLink RX12 545 yJ6_bitCount_0f7a4, .static yJ6_bitCount_0f7a4, .initialized RJ6, .methodLink RX12 211 Lib.Math.max.name, .code yX12_of cX12_of 3 (some .int), .code yX12_at cX12_at 2 (some .int), .methodLink RX12 214 yX12_at, .static yX12_at, .methodLink RX12 217 yX12_of, .instanceMethod yX12_of, .selects RX12 yX12_of yX12_of, .code yX12_hour cX12_hour 1 (some .int), .methodLink RX12 228 yX12_hour, .instanceMethod yX12_hour, .selects RX12 yX12_hour yX12_hour, .code yX12_wind cX12_wind 7 (some .int), .code yX12_telling cX12_telling 6 (some .int), .methodLink RX12 243 yX12_telling, .instanceMethod yX12_telling, .selects RX12 yX12_telling yX12_telling, .methodLink RX12 250 yX12_wind, .instanceMethod yX12_wind, .selects RX12 yX12_wind yX12_wind, .fieldLink RX12 167 "SeaLandModel" "powers" "[I", .methodLink RL 319 yX12_lifts_, .instanceMethod yX12_lifts_, .selects RX12 yX12_lifts_ yX12_lifts_] bs2)
set_option maxHeartbeats 4000000 in
set_option maxRecDepth 100000 in
theorem law_42 {p : Program} {e : Env} {s : State} {m : MethodId} {below : List Frame} {meth : Method} {c : Code} {Q : State → Prop} (l : Launch) (hlt : l.stackTraces = false) {b L : Nat} {xs : Nat → Int32} {A : Nat → Prop} (hx : p.tables.exec = Jvm.exec) (hb : c.code = code) (hml : c.maxLocals = 7) (hown : s.vm.findClass RL = some m.cls) (hts : ∀ w ∈ w_law_42, w.before #[Value.ref b] s = true) (hX : va_X b L xs s s.heap) (hbl : b < s.heap.size) (hbA : ¬ A b) (hL : L ≤ 4096) {adK adV : Nat → Nat} (hE : EVC adK adV A s s.heap) (hN : NC s) (hAO : AO s) (hA : ∀ q : Nat, s.heap.size ≤ q → A q) {dC : Nat → ClassId} {dI : Nat → Nat → Nat} {kA : Nat → ClassId} (hK : va_K (dC, dI) vwCl (tyl kA) s) {Pr : Nat → Prop} {Gm : gT} {x h0 ou : Nat} (hPA : ∀ q, ¬ Pr q → A q) (hGP : ∀ a t, Gm a = some t → Pr a) (hGA : ∀ a t, Gm a = some t → A a) (n : Nat) (hn : n + 8 ≤ L) (H : Heap) (locs : List Loc) (cells slots : Nat) (hcl : cells + 1170 ≤ 603072) (hsl : slots + 14100 ≤ 7262314) (g : gz) (hC : CJ dC dI kA Pr g x ou H) (hR : RJ dC dI kA g h0 Gm H) (hPr : ∀ a, Pr a → a < H.size) (hS : va_S A s.heap H locs) (ls : Array Slot) (hl : lv_has ls 7 [(0, .ref b), (1, .ref x), (2, .ref h0), (3, .ref ou), (4, .int (nI n))]) (kk : ∀ (g : gz) (H : Heap) (locs : List Loc) (ls : Array Slot), CJ dC dI kA Pr g x ou H → RJ dC dI kA g h0 Gm H → (∀ a, Pr a → a < H.size) → va_S A s.heap H locs → lv_has ls 7 [(0, .ref b), (1, .ref x), (2, .ref h0), (3, .ref ou), (4, .int (nI n))] → W p l e room_1 s m #[Value.ref b] below meth c H locs (cells + 1170) (slots + 14100) Q (F0 m 2491 ls [])) : W p l e room_1 s m #[Value.ref b] below meth c H locs cells slots Q (F0 m 2062 ls []) := by
  refine lv_aload_n hx hb dL_law_2062 rfl (lv_at hl 1 rfl) ?_
  refine lv_aload_n hx hb dL_law_2063 rfl (lv_at hl 0 rfl) ?_
  refine lv_iload hx hb dL_law_2064 (lv_at hl 4 rfl) ?_
  refine lv_iconst (v := 1) hx hb dL_law_2066 (by decide) ?_
  refine lv_iadd hx hb dL_law_2067 ?_
  refine lv_topi (fun x21 ex21 => ?_)
  obtain rfl : nI (n + 1) = x21 := (ex21.trans (nI_add n 1)).symm
  refine va_sld hx hb hX hbl hbA hS (i := (nI (n + 1))) (vin_t (a := ((n + 1 : Nat) : Int)) (nI_toInt (by omega)) (by omega) (by omega)) dL_law_2068 ?_
  refine lv_topi (fun x22 ex22 => ?_)
  refine lv_aload_n hx hb dL_law_2069 rfl (lv_at hl 0 rfl) ?_
  refine lv_iload hx hb dL_law_2070 (lv_at hl 4 rfl) ?_
  refine lv_iconst (v := 2) hx hb dL_law_2072 (by decide) ?_
  refine lv_iadd hx hb dL_law_2073 ?_
  refine lv_topi (fun x23 ex23 => ?_)
  obtain rfl : nI (n + 2) = x23 := (ex23.trans (nI_add n 2)).symm
  refine va_sld hx hb hX hbl hbA hS (i := (nI (n + 2))) (vin_t (a := ((n + 2 : Nat) : Int)) (nI_toInt (by omega)) (by omega) (by omega)) dL_law_2074 ?_
  refine lv_topi (fun x24 ex24 => ?_)
  refine lv_aload_n hx hb dL_law_2075 rfl (lv_at hl 0 rfl) ?_
  refine lv_iload hx hb dL_law_2076 (lv_at hl 4 rfl) ?_
  refine lv_iconst (v := 3) hx hb dL_law_2078 (by decide) ?_
  refine lv_iadd hx hb dL_law_2079 ?_
  refine lv_topi (fun x25 ex25 => ?_)
  obtain rfl : nI (n + 3) = x25 := (ex25.trans (nI_add n 3)).symm
  refine va_sld hx hb hX hbl hbA hS (i := (nI (n + 3))) (vin_t (a := ((n + 3 : Nat) : Int)) (nI_toInt (by omega)) (by omega) (by omega)) dL_law_2080 ?_
  refine lv_topi (fun x26 ex26 => ?_)
  refine lv_aload_n hx hb dL_law_2081 rfl (lv_at hl 0 rfl) ?_
  refine lv_iload hx hb dL_law_2082 (lv_at hl 4 rfl) ?_
  refine lv_iconst (v := 4) hx hb dL_law_2084 (by decide) ?_
  refine lv_iadd hx hb dL_law_2085 ?_
  refine lv_topi (fun x27 ex27 => ?_)
  obtain rfl : nI (n + 4) = x27 := (ex27.trans (nI_add n 4)).symm
  refine va_sld hx hb hX hbl hbA hS (i := (nI (n + 4))) (vin_t (a := ((n + 4 : Nat) : Int)) (nI_toInt (by omega)) (by omega) (by omega)) dL_law_2086 ?_
  refine lv_topi (fun x28 ex28 => ?_)
  refine lv_aload_n hx hb dL_law_2087 rfl (lv_at hl 3 rfl) ?_
  have hFc := hPA
  refine va_calli (vx_runSW (As := [.ref x, .int x22, .int x24, .int x26, .int x28, .ref ou]) (rest := []) ⟨hx, hb, hml, hown, hts⟩ (k_lifts l hlt dC dI kA adK adV Pr H x ou x22 x24 x26 x28  hPr hC) (vx_cwSW 6 hts (goodIn_app (goodIn_r _ [80, 81, 82] rfl (by decide +kernel)) (goodIn_ca (goodIn_r _ [1, 2, 3, 4, 5, 6, 7, 8, 9, 10, 11, 12, 13, 14, 15, 16, 17, 18, 19, 20, 21, 22, 23, 24, 25, 26, 27, 28, 29, 30, 31, 32, 33, 34, 35, 36, 37, 38, 39, 40, 41, 42, 43, 44, 45, 46, 47, 48, 49, 50, 51, 52, 53, 54, 55, 56, 57, 58, 59, 60, 61, 62, 63, 64, 65, 66, 67, 68, 69, 70, 71, 72, 73, 74, 75, 76, 77, 78, 79] rfl (by decide +kernel)) (bs2_in _ _))) rfl rfl rfl (by decide +kernel) ⟨(Nat.le_of_ble_eq_true rfl), (Nat.le_of_ble_eq_true rfl)⟩) ⟨fun a U g mk q => by obtain ⟨q0, q1, qK, qE, qN, qA⟩ := q; exact ⟨q0, q1, va_K.moved (u := U) (U := U.calling g mk a) (Vm.Alike.refl U.vm) qK, EVC.blind g mk a qE, NC.blind g mk a qN, AO.blind g mk a qA⟩, fun U hU hW => ⟨rfl, hU, va_K.moved hW.alike hK, hE.call hS hFc hU hW, hN.call hW, hAO.call hW⟩⟩ rfl rfl hl.1 rfl (lv_room (Nat.le_of_ble_eq_true rfl)) dL_law_2088 ⟨show cells + 1 ≤ 603072 from by omega, show slots + 6 ≤ 7262314 from by omega⟩) hS (fun q _ h => hFc q h) hFc (fun r29 u t H locs ht hvm hw hB hz1 hk1 hS => ?_)
  (try dsimp only at hB); rw [ht] at hB
  have hR := hR.kept (fun a t h => hk1 a (hPr a (hGP a t h)) (fun h9 => h9 (hGP a t h)))
  have hC := hB
  have hPr : ∀ a, Pr a → a < H.size := fun a h => Nat.lt_of_lt_of_le (hPr a h) hz1
  refine lv_istore (lv' := [(5, .int r29), (0, .ref b), (1, .ref x), (2, .ref h0), (3, .ref ou), (4, .int (nI n))]) hx hb dL_law_2091 hl (by decide) rfl (fun ls hl => ?_)
  refine lv_aload_n hx hb dL_law_2093 rfl (lv_at hl 3 rfl) ?_
  refine lv_aload_n hx hb dL_law_2094 rfl (lv_at hl 1 rfl) ?_
  refine lv_iload hx hb dL_law_2095 (lv_at hl 5 rfl) ?_
  refine lv_iconst (v := 1) hx hb dL_law_2097 (by decide) ?_
  refine lv_iadd hx hb dL_law_2098 ?_
  refine lv_topi (fun x30 ex30 => ?_)
  obtain rfl : nI (n + 1) = x30 := (ex30.trans (nI_add n 1)).symm
  refine va_sld hx hb hX hbl hbA hS (i := (nI (n + 1))) (vin_t (a := ((n + 1 : Nat) : Int)) (nI_toInt (by omega)) (by omega) (by omega)) dL_law_2099 ?_
  refine lv_topi (fun x31 ex31 => ?_)
  obtain rfl : x22 = x31 := by rw [ex31, ex22] <;> exact congrArg xs (tn_same (i := (nI (n + 1))) (j := (nI (n + 1))) (show (nI (n + 1)).toInt = ((n + 1 : Nat) : Int) from (nI_toInt (by omega))) (show (nI (n + 1)).toInt = ((n + 1 : Nat) : Int) from (nI_toInt (by omega))) (by omega))
  refine lv_aload_n hx hb dL_law_2100 rfl (lv_at hl 1 rfl) ?_
  refine lv_iload hx hb dL_law_2101 (lv_at hl 5 rfl) ?_
  refine lv_iconst (v := 2) hx hb dL_law_2103 (by decide) ?_
  refine lv_iadd hx hb dL_law_2104 ?_
  refine lv_topi (fun x32 ex32 => ?_)
  obtain rfl : nI (n + 2) = x32 := (ex32.trans (nI_add n 2)).symm
  refine va_sld hx hb hX hbl hbA hS (i := (nI (n + 2))) (vin_t (a := ((n + 2 : Nat) : Int)) (nI_toInt (by omega)) (by omega) (by omega)) dL_law_2105 ?_
  refine lv_topi (fun x33 ex33 => ?_)
  obtain rfl : x24 = x33 := by rw [ex33, ex24] <;> exact congrArg xs (tn_same (i := (nI (n + 2))) (j := (nI (n + 2))) (show (nI (n + 2)).toInt = ((n + 2 : Nat) : Int) from (nI_toInt (by omega))) (show (nI (n + 2)).toInt = ((n + 2 : Nat) : Int) from (nI_toInt (by omega))) (by omega))
  refine lv_aload_n hx hb dL_law_2106 rfl (lv_at hl 1 rfl) ?_
  refine lv_iload hx hb dL_law_2107 (lv_at hl 5 rfl) ?_
  refine lv_iconst (v := 3) hx hb dL_law_2109 (by decide) ?_
  refine lv_iadd hx hb dL_law_2110 ?_
  refine lv_topi (fun x34 ex34 => ?_)
  obtain rfl : nI (n + 3) = x34 := (ex34.trans (nI_add n 3)).symm
  refine va_sld hx hb hX hbl hbA hS (i := (nI (n + 3))) (vin_t (a := ((n + 3 : Nat) : Int)) (nI_toInt (by omega)) (by omega) (by omega)) dL_law_2111 ?_
  refine lv_topi (fun x35 ex35 => ?_)
  obtain rfl : x26 = x35 := by rw [ex35, ex26] <;> exact congrArg xs (tn_same (i := (nI (n + 3))) (j := (nI (n + 3))) (show (nI (n + 3)).toInt = ((n + 3 : Nat) : Int) from (nI_toInt (by omega))) (show (nI (n + 3)).toInt = ((n + 3 : Nat) : Int) from (nI_toInt (by omega))) (by omega))
  refine lv_aload_n hx hb dL_law_2112 rfl (lv_at hl 1 rfl) ?_
  refine lv_iload hx hb dL_law_2113 (lv_at hl 5 rfl) ?_
  refine lv_iconst (v := 4) hx hb dL_law_2115 (by decide) ?_
  refine lv_iadd hx hb dL_law_2116 ?_
  refine lv_topi (fun x36 ex36 => ?_)
  obtain rfl : nI (n + 4) = x36 := (ex36.trans (nI_add n 4)).symm
  refine va_sld hx hb hX hbl hbA hS (i := (nI (n + 4))) (vin_t (a := ((n + 4 : Nat) : Int)) (nI_toInt (by omega)) (by omega) (by omega)) dL_law_2117 ?_
  refine lv_topi (fun x37 ex37 => ?_)
  obtain rfl : x28 = x37 := by rw [ex37, ex28] <;> exact congrArg xs (tn_same (i := (nI (n + 4))) (j := (nI (n + 4))) (show (nI (n + 4)).toInt = ((n + 4 : Nat) : Int) from (nI_toInt (by omega))) (show (nI (n + 4)).toInt = ((n + 4 : Nat) : Int) from (nI_toInt (by omega))) (by omega))
  have hFc := gA_m hPr hGP hGA hA hS
  refine va_calli (va_runV (As := [.int x22, .int x24, .int x26, .int x28]) (rest := []) ⟨hx, hb, hml, hown, hts⟩ (r_lifts_ l dC dI kA adK adV Gm H h0 x22 x24 x26 x28  hR) (cwV 4 hts (goodIn_app (goodIn_r _ [128, 129, 130, 88] rfl (by decide +kernel)) (goodIn_ca (goodIn_r _ [83, 84, 85, 86, 87, 88, 89, 90, 91, 92, 93, 94, 95, 96, 97, 51, 98, 99, 100, 101, 102, 103, 104, 105, 106, 107, 50, 52, 108, 109, 110, 111, 112, 113, 114, 115, 116, 117, 118, 119, 120, 121, 122, 123, 124, 125, 126, 127] rfl (by decide +kernel)) (bs_in2 _ _))) rfl rfl rfl (by decide +kernel) ⟨(Nat.le_of_ble_eq_true rfl), (Nat.le_of_ble_eq_true rfl)⟩) ⟨fun a U g mk q => by obtain ⟨q0, q1, qK, qE⟩ := q; exact ⟨q0, q1, va_K.moved (u := U) (U := U.calling g mk a) (Vm.Alike.refl U.vm) qK, EVS.blind g mk a qE⟩, RI.recv hK hR.ri, fun U hU hW => ⟨rfl, hU, va_K.moved hW.alike hK, hE.1.call hS hFc hU hW⟩⟩ rfl rfl hl.1 rfl (lv_room (Nat.le_of_ble_eq_true rfl)) dL_law_2118 ⟨show cells + 1 + 0 ≤ 603072 from by omega, show slots + 6 + 0 ≤ 7262314 from by omega⟩) hS (fun q _ h => hFc q h) hFc (fun r38 u t H locs ht hvm hw hB hz1 hk1 hS => ?_)
  (try dsimp only at hB); rw [ht] at hB
  have hC := hC.kept (fun a h1 h2 => hk1 a h1 (gA_mn hGP h1 h2))
  have hR := hB
  have hPr : ∀ a, Pr a → a < H.size := fun a h => Nat.lt_of_lt_of_le (hPr a h) hz1
  refine lv_istore (lv' := [(6, .int r38), (5, .int r29), (0, .ref b), (1, .ref x), (2, .ref h0), (3, .ref ou), (4, .int (nI n))]) hx hb dL_law_2121 hl (by decide) rfl (fun ls hl => ?_)
  refine lv_goto (tgt := 2491) hx hb dL_law_2123 (by decide) ?_
  exact W.widen (k := cells + 1170) (n := slots + 14100) (by omega) (by omega) (kk g H _ ls hC hR hPr hS (lv_sub hl [2, 3, 4, 5, 6] rfl))
def w_law_43 : List Cond := .initialized RL :: (HAppend.hAppend (α := List Cond) (β := List Cond) (γ := List Cond) [.codeWith yL_soonest cL_soonest 6 (some .int) [(0, 12, 15, 13), (0, 12, 19, 15), (0, 12, 23, 50)], .code yX11_soonest cX11_soonest 5 (some .int), .code yX11_workOf cX11_workOf 2 (some (.object "SeaLand$Work")), .fieldLink RX11 16 "SeaLand" "lake" "LSeaLand$Lake;", .code yX11_within cX11_within 3 (some .boolean), .methodLink RX11 58 yX11_within, .static yX11_within, .initialized RX11, .classLink RX11 557 "java/lang/IndexOutOfBoundsException", .initialized "java/lang/IndexOutOfBoundsException", .methodLink RX11 167 yX11_workOf, .instanceMethod yX11_workOf, .selects RX11 yX11_workOf yX11_workOf, .code yX11_needNumbers cX11_needNumbers 1 none, .classLink RX11 547 "java/lang/IllegalArgumentException", .initialized "java/lang/IllegalArgumentException", .methodLink RX11 62 yX11_needNumbers, .static yX11_needNumbers, .code yX11_needKind cX11_needKind 1 none, .classLink RX11 552 "java/lang/ClassCastException", .initialized "java/lang/ClassCastException", .methodLink RX11 177 yX11_needKind, .static yX11_needKind, .fieldLink RX11 43 "SeaLand" "plans" "LSeaLand$Plans;", .code yX5_closingHour cX5_closingHour 8 (some .int), .code yX8_outsideAt cX8_outsideAt 4 (some .int), .fieldLink RX8 9 "SeaLand$Sky" "tides" "[I", .code yJ9_floorMod_7cf53 cJ9_floorMod_7cf53 3 (some .int), .methodLink RX8 38 yJ9_floorMod_7cf53, .static yJ9_floorMod_7cf53, .initialized RJ9, .fieldLink RX8 34 "SeaLand$Sky" "storms" "I", .fieldLink RX8 15 "SeaLand$Sky" "stormFrom" "[I", .fieldLink RX8 18 "SeaLand$Sky" "stormTo" "[I", .fieldLink RX8 21 "SeaLand$Sky" "stormMore" "[I", .methodLink RX5 110 yX8_outsideAt, .instanceMethod yX8_outsideAt, .selects RX8 yX8_outsideAt yX8_outsideAt, .initialized RX8, .code yX10_wider cX10_wider 1 (some .int), .methodLink RX10 54 Lib.Math.min.name, .static Lib.Math.min.name, .initialized "java/lang/Math", .code Lib.Math.min.name Lib.Math.min.code 2 (some .int), .methodLink RX5 115 yX10_wider, .static yX10_wider, .initialized RX10, .methodLink RX11 470 yX5_closingHour, .instanceMethod yX5_closingHour, .selects RX5 yX5_closingHour yX5_closingHour, .initialized RX5, .methodLink RL 151 yX11_soonest, .instanceMethod yX11_soonest, .selects RX11 yX11_soonest yX11_soonest, .classLink RL 13 "java/lang/IndexOutOfBoundsException", .classLink RL 15 "java/lang/IllegalArgumentException", .classLink RL 50 "java/lang/ClassCastException", .methodLink RL 320 yL_soonest, .static yL_soonest, .initialized RL, .code yX12_soonest cX12_soonest 9 (some .int), .fieldLink RX12 194 "SeaLandModel" "thrown" "I", .code yX12_noWork cX12_noWork 2 (some .boolean), .fieldLink RX12 9 "SeaLandModel" "world" "[I", .code yX12_in cX12_in 3 (some .boolean), .methodLink RX12 197 yX12_in, .static yX12_in, .initialized RX12, .methodLink RX12 269 yX12_noWork, .instanceMethod yX12_noWork, .selects RX12 yX12_noWork yX12_noWork, .code yX12_throwsIf cX12_throwsIf 3 (some .boolean), .methodLink RX12 224 yX12_throwsIf, .instanceMethod yX12_throwsIf, .selects RX12 yX12_throwsIf yX12_throwsIf, .code yX12_of cX12_of 3 (some .int), .code yX12_at cX12_at 2 (some .int), .methodLink RX12 214 yX12_at, .static yX12_at, .methodLink RX12 217 yX12_of, .instanceMethod yX12_of, .selects RX12 yX12_of yX12_of, .constant RX12 538 1000000000, .methodLink RX12 207 Lib.Math.min.name, .code yX12_hour cX12_hour 1 (some .int), .methodLink RX12 228 yX12_hour, .instanceMethod yX12_hour, .selects RX12 yX12_hour yX12_hour, .code yX12_outside cX12_outside 4 (some .int), .methodLink RX12 247 yX12_outside, .instanceMethod yX12_outside, .selects RX12 yX12_outside yX12_outside, .methodLink RL 322 yX12_soonest, .instanceMethod yX12_soonest, .selects RX12 yX12_soonest yX12_soonest] bs2)
set_option maxHeartbeats 4000000 in
set_option maxRecDepth 100000 in
theorem law_43 {p : Program} {e : Env} {s : State} {m : MethodId} {below : List Frame} {meth : Method} {c : Code} {Q : State → Prop} (l : Launch) (hlt : l.stackTraces = false) {b L : Nat} {xs : Nat → Int32} {A : Nat → Prop} (hx : p.tables.exec = Jvm.exec) (hb : c.code = code) (hml : c.maxLocals = 7) (hown : s.vm.findClass RL = some m.cls) (hts : ∀ w ∈ w_law_43, w.before #[Value.ref b] s = true) (hX : va_X b L xs s s.heap) (hbl : b < s.heap.size) (hbA : ¬ A b) (hL : L ≤ 4096) {adK adV : Nat → Nat} (hE : EVC adK adV A s s.heap) (hN : NC s) (hAO : AO s) (hA : ∀ q : Nat, s.heap.size ≤ q → A q) {dC : Nat → ClassId} {dI : Nat → Nat → Nat} {kA : Nat → ClassId} (hK : va_K (dC, dI) vwCl (tyl kA) s) {Pr : Nat → Prop} {Gm : gT} {x h0 ou : Nat} (hPA : ∀ q, ¬ Pr q → A q) (hGP : ∀ a t, Gm a = some t → Pr a) (hGA : ∀ a t, Gm a = some t → A a) (n : Nat) (hn : n + 8 ≤ L) (H : Heap) (locs : List Loc) (cells slots : Nat) (hcl : cells + 1170 ≤ 603072) (hsl : slots + 14100 ≤ 7262314) (g : gz) (hC : CJ dC dI kA Pr g x ou H) (hR : RJ dC dI kA g h0 Gm H) (hPr : ∀ a, Pr a → a < H.size) (hS : va_S A s.heap H locs) (ls : Array Slot) (hl : lv_has ls 7 [(0, .ref b), (1, .ref x), (2, .ref h0), (3, .ref ou), (4, .int (nI n))]) (kk : ∀ (g : gz) (H : Heap) (locs : List Loc) (ls : Array Slot), CJ dC dI kA Pr g x ou H → RJ dC dI kA g h0 Gm H → (∀ a, Pr a → a < H.size) → va_S A s.heap H locs → lv_has ls 7 [(0, .ref b), (1, .ref x), (2, .ref h0), (3, .ref ou), (4, .int (nI n))] → W p l e room_1 s m #[Value.ref b] below meth c H locs (cells + 1170) (slots + 14100) Q (F0 m 2491 ls [])) : W p l e room_1 s m #[Value.ref b] below meth c H locs cells slots Q (F0 m 2126 ls []) := by
  refine lv_aload_n hx hb dL_law_2126 rfl (lv_at hl 1 rfl) ?_
  refine lv_aload_n hx hb dL_law_2127 rfl (lv_at hl 0 rfl) ?_
  refine lv_iload hx hb dL_law_2128 (lv_at hl 4 rfl) ?_
  refine lv_iconst (v := 1) hx hb dL_law_2130 (by decide) ?_
  refine lv_iadd hx hb dL_law_2131 ?_
  refine lv_topi (fun x21 ex21 => ?_)
  obtain rfl : nI (n + 1) = x21 := (ex21.trans (nI_add n 1)).symm
  refine va_sld hx hb hX hbl hbA hS (i := (nI (n + 1))) (vin_t (a := ((n + 1 : Nat) : Int)) (nI_toInt (by omega)) (by omega) (by omega)) dL_law_2132 ?_
  refine lv_topi (fun x22 ex22 => ?_)
  refine lv_aload_n hx hb dL_law_2133 rfl (lv_at hl 0 rfl) ?_
  refine lv_iload hx hb dL_law_2134 (lv_at hl 4 rfl) ?_
  refine lv_iconst (v := 2) hx hb dL_law_2136 (by decide) ?_
  refine lv_iadd hx hb dL_law_2137 ?_
  refine lv_topi (fun x23 ex23 => ?_)
  obtain rfl : nI (n + 2) = x23 := (ex23.trans (nI_add n 2)).symm
  refine va_sld hx hb hX hbl hbA hS (i := (nI (n + 2))) (vin_t (a := ((n + 2 : Nat) : Int)) (nI_toInt (by omega)) (by omega) (by omega)) dL_law_2138 ?_
  refine lv_topi (fun x24 ex24 => ?_)
  refine lv_aload_n hx hb dL_law_2139 rfl (lv_at hl 0 rfl) ?_
  refine lv_iload hx hb dL_law_2140 (lv_at hl 4 rfl) ?_
  refine lv_iconst (v := 3) hx hb dL_law_2142 (by decide) ?_
  refine lv_iadd hx hb dL_law_2143 ?_
  refine lv_topi (fun x25 ex25 => ?_)
  obtain rfl : nI (n + 3) = x25 := (ex25.trans (nI_add n 3)).symm
  refine va_sld hx hb hX hbl hbA hS (i := (nI (n + 3))) (vin_t (a := ((n + 3 : Nat) : Int)) (nI_toInt (by omega)) (by omega) (by omega)) dL_law_2144 ?_
  refine lv_topi (fun x26 ex26 => ?_)
  refine lv_aload_n hx hb dL_law_2145 rfl (lv_at hl 3 rfl) ?_
  have hFc := hPA
  refine va_calli (vx_runSW (As := [.ref x, .int x22, .int x24, .int x26, .ref ou]) (rest := []) ⟨hx, hb, hml, hown, hts⟩ (k_soonest l hlt dC dI kA adK adV Pr H x ou x22 x24 x26  hPr hC) (vx_cwSW 5 hts (goodIn_app (goodIn_r _ [58, 59, 60] rfl (by decide +kernel)) (goodIn_ca (goodIn_r _ [1, 2, 3, 4, 5, 6, 7, 8, 9, 10, 11, 12, 13, 14, 15, 16, 17, 18, 19, 20, 21, 22, 23, 24, 25, 26, 27, 28, 29, 30, 31, 32, 33, 34, 35, 36, 37, 38, 39, 40, 41, 42, 43, 44, 45, 46, 47, 48, 49, 50, 51, 52, 53, 54, 55, 56, 57] rfl (by decide +kernel)) (bs2_in _ _))) rfl rfl rfl (by decide +kernel) ⟨(Nat.le_of_ble_eq_true rfl), (Nat.le_of_ble_eq_true rfl)⟩) ⟨fun a U g mk q => by obtain ⟨q0, q1, qK, qE, qN, qA⟩ := q; exact ⟨q0, q1, va_K.moved (u := U) (U := U.calling g mk a) (Vm.Alike.refl U.vm) qK, EVC.blind g mk a qE, NC.blind g mk a qN, AO.blind g mk a qA⟩, fun U hU hW => ⟨rfl, hU, va_K.moved hW.alike hK, hE.call hS hFc hU hW, hN.call hW, hAO.call hW⟩⟩ rfl rfl hl.1 rfl (lv_room (Nat.le_of_ble_eq_true rfl)) dL_law_2146 ⟨show cells + 2 ≤ 603072 from by omega, show slots + 12 ≤ 7262314 from by omega⟩) hS (fun q _ h => hFc q h) hFc (fun r27 u t H locs ht hvm hw hB hz1 hk1 hS => ?_)
  (try dsimp only at hB); rw [ht] at hB
  have hR := hR.kept (fun a t h => hk1 a (hPr a (hGP a t h)) (fun h9 => h9 (hGP a t h)))
  have hC := hB
  have hPr : ∀ a, Pr a → a < H.size := fun a h => Nat.lt_of_lt_of_le (hPr a h) hz1
  refine lv_istore (lv' := [(5, .int r27), (0, .ref b), (1, .ref x), (2, .ref h0), (3, .ref ou), (4, .int (nI n))]) hx hb dL_law_2149 hl (by decide) rfl (fun ls hl => ?_)
  refine lv_aload_n hx hb dL_law_2151 rfl (lv_at hl 3 rfl) ?_
  refine lv_aload_n hx hb dL_law_2152 rfl (lv_at hl 1 rfl) ?_
  refine lv_iload hx hb dL_law_2153 (lv_at hl 5 rfl) ?_
  refine lv_iconst (v := 1) hx hb dL_law_2155 (by decide) ?_
  refine lv_iadd hx hb dL_law_2156 ?_
  refine lv_topi (fun x28 ex28 => ?_)
  obtain rfl : nI (n + 1) = x28 := (ex28.trans (nI_add n 1)).symm
  refine va_sld hx hb hX hbl hbA hS (i := (nI (n + 1))) (vin_t (a := ((n + 1 : Nat) : Int)) (nI_toInt (by omega)) (by omega) (by omega)) dL_law_2157 ?_
  refine lv_topi (fun x29 ex29 => ?_)
  obtain rfl : x22 = x29 := by rw [ex29, ex22] <;> exact congrArg xs (tn_same (i := (nI (n + 1))) (j := (nI (n + 1))) (show (nI (n + 1)).toInt = ((n + 1 : Nat) : Int) from (nI_toInt (by omega))) (show (nI (n + 1)).toInt = ((n + 1 : Nat) : Int) from (nI_toInt (by omega))) (by omega))
  refine lv_aload_n hx hb dL_law_2158 rfl (lv_at hl 1 rfl) ?_
  refine lv_iload hx hb dL_law_2159 (lv_at hl 5 rfl) ?_
  refine lv_iconst (v := 2) hx hb dL_law_2161 (by decide) ?_
  refine lv_iadd hx hb dL_law_2162 ?_
  refine lv_topi (fun x30 ex30 => ?_)
  obtain rfl : nI (n + 2) = x30 := (ex30.trans (nI_add n 2)).symm
  refine va_sld hx hb hX hbl hbA hS (i := (nI (n + 2))) (vin_t (a := ((n + 2 : Nat) : Int)) (nI_toInt (by omega)) (by omega) (by omega)) dL_law_2163 ?_
  refine lv_topi (fun x31 ex31 => ?_)
  obtain rfl : x24 = x31 := by rw [ex31, ex24] <;> exact congrArg xs (tn_same (i := (nI (n + 2))) (j := (nI (n + 2))) (show (nI (n + 2)).toInt = ((n + 2 : Nat) : Int) from (nI_toInt (by omega))) (show (nI (n + 2)).toInt = ((n + 2 : Nat) : Int) from (nI_toInt (by omega))) (by omega))
  refine lv_aload_n hx hb dL_law_2164 rfl (lv_at hl 1 rfl) ?_
  refine lv_iload hx hb dL_law_2165 (lv_at hl 5 rfl) ?_
  refine lv_iconst (v := 3) hx hb dL_law_2167 (by decide) ?_
  refine lv_iadd hx hb dL_law_2168 ?_
  refine lv_topi (fun x32 ex32 => ?_)
  obtain rfl : nI (n + 3) = x32 := (ex32.trans (nI_add n 3)).symm
  refine va_sld hx hb hX hbl hbA hS (i := (nI (n + 3))) (vin_t (a := ((n + 3 : Nat) : Int)) (nI_toInt (by omega)) (by omega) (by omega)) dL_law_2169 ?_
  refine lv_topi (fun x33 ex33 => ?_)
  obtain rfl : x26 = x33 := by rw [ex33, ex26] <;> exact congrArg xs (tn_same (i := (nI (n + 3))) (j := (nI (n + 3))) (show (nI (n + 3)).toInt = ((n + 3 : Nat) : Int) from (nI_toInt (by omega))) (show (nI (n + 3)).toInt = ((n + 3 : Nat) : Int) from (nI_toInt (by omega))) (by omega))
  have hFc := gA_m hPr hGP hGA hA hS
  refine va_calli (va_runV (As := [.int x22, .int x24, .int x26]) (rest := []) ⟨hx, hb, hml, hown, hts⟩ (r_soonest l dC dI kA adK adV Gm H h0 x22 x24 x26  hR) (cwV 3 hts (goodIn_app (goodIn_r _ [93, 94, 95, 68] rfl (by decide +kernel)) (goodIn_ca (goodIn_r _ [61, 62, 63, 64, 65, 66, 67, 68, 69, 70, 71, 72, 73, 74, 75, 76, 77, 78, 79, 80, 81, 82, 83, 84, 42, 43, 44, 85, 86, 87, 88, 89, 90, 91, 92] rfl (by decide +kernel)) (bs_in2 _ _))) rfl rfl rfl (by decide +kernel) ⟨(Nat.le_of_ble_eq_true rfl), (Nat.le_of_ble_eq_true rfl)⟩) ⟨fun a U g mk q => by obtain ⟨q0, q1, qK, qE⟩ := q; exact ⟨q0, q1, va_K.moved (u := U) (U := U.calling g mk a) (Vm.Alike.refl U.vm) qK, EVS.blind g mk a qE⟩, RI.recv hK hR.ri, fun U hU hW => ⟨rfl, hU, va_K.moved hW.alike hK, hE.1.call hS hFc hU hW⟩⟩ rfl rfl hl.1 rfl (lv_room (Nat.le_of_ble_eq_true rfl)) dL_law_2170 ⟨show cells + 2 + 0 ≤ 603072 from by omega, show slots + 12 + 0 ≤ 7262314 from by omega⟩) hS (fun q _ h => hFc q h) hFc (fun r34 u t H locs ht hvm hw hB hz1 hk1 hS => ?_)
  (try dsimp only at hB); rw [ht] at hB
  have hC := hC.kept (fun a h1 h2 => hk1 a h1 (gA_mn hGP h1 h2))
  have hR := hB
  have hPr : ∀ a, Pr a → a < H.size := fun a h => Nat.lt_of_lt_of_le (hPr a h) hz1
  refine lv_istore (lv' := [(6, .int r34), (5, .int r27), (0, .ref b), (1, .ref x), (2, .ref h0), (3, .ref ou), (4, .int (nI n))]) hx hb dL_law_2173 hl (by decide) rfl (fun ls hl => ?_)
  refine lv_goto (tgt := 2491) hx hb dL_law_2175 (by decide) ?_
  exact W.widen (k := cells + 1170) (n := slots + 14100) (by omega) (by omega) (kk g H _ ls hC hR hPr hS (lv_sub hl [2, 3, 4, 5, 6] rfl))
def w_law_44 : List Cond := .initialized RL :: (HAppend.hAppend (α := List Cond) (β := List Cond) (γ := List Cond) [.codeWith yL_levels cL_levels 5 (some .int) [(0, 10, 13, 13), (0, 10, 17, 15)], .code yX11_levels cX11_levels 3 (some .int), .code yX11_needFarm cX11_needFarm 2 none, .fieldLink RX11 30 "SeaLand" "board" "LSeaLand$Board;", .code yX11_within cX11_within 3 (some .boolean), .methodLink RX11 58 yX11_within, .static yX11_within, .initialized RX11, .classLink RX11 557 "java/lang/IndexOutOfBoundsException", .initialized "java/lang/IndexOutOfBoundsException", .methodLink RX11 366 yX11_needFarm, .instanceMethod yX11_needFarm, .selects RX11 yX11_needFarm yX11_needFarm, .code yX11_needNumbers cX11_needNumbers 1 none, .classLink RX11 547 "java/lang/IllegalArgumentException", .initialized "java/lang/IllegalArgumentException", .methodLink RX11 62 yX11_needNumbers, .static yX11_needNumbers, .fieldLink RX11 43 "SeaLand" "plans" "LSeaLand$Plans;", .fieldLink RX11 16 "SeaLand" "lake" "LSeaLand$Lake;", .code yX5_bestLevels cX5_bestLevels 6 (some .int), .fieldLink RX5 118 "SeaLand$Plans" "fieldCount" "I", .fieldLink RX5 23 "SeaLand$Plans" "fields" "[I", .fieldLink RX5 126 "SeaLand$Plans" "bestSum" "I", .code yX5_tryLevels cX5_tryLevels 7 none, .fieldLink RX5 26 "SeaLand$Plans" "fieldLevels" "[I", .code yX5_agreesWithEarlier cX5_agreesWithEarlier 4 (some .boolean), .code yX11_stepsApart cX11_stepsApart 2 (some .int), .methodLink RX11 580 Lib.Math.abs.name, .static Lib.Math.abs.name, .initialized "java/lang/Math", .code Lib.Math.abs.name Lib.Math.abs.code 1 (some .int), .static yX11_stepsApart, .methodLink RX5 151 Lib.Math.abs.name, .methodLink RX5 141 yX5_agreesWithEarlier, .instanceMethod yX5_agreesWithEarlier, .selects RX5 yX5_agreesWithEarlier yX5_agreesWithEarlier, .initialized RX5, .code yX5_worthOfDepth cX5_worthOfDepth 2 (some .int), .methodLink RX5 94 Lib.Math.max.name, .static Lib.Math.max.name, .code Lib.Math.max.name Lib.Math.max.code 2 (some .int), .methodLink RX5 145 yX5_worthOfDepth, .static yX5_worthOfDepth, .methodLink RX5 132 yX5_tryLevels, .instanceMethod yX5_tryLevels, .selects RX5 yX5_tryLevels yX5_tryLevels, .methodLink RX11 474 yX5_bestLevels, .instanceMethod yX5_bestLevels, .selects RX5 yX5_bestLevels yX5_bestLevels, .methodLink RL 154 yX11_levels, .instanceMethod yX11_levels, .selects RX11 yX11_levels yX11_levels, .classLink RL 13 "java/lang/IndexOutOfBoundsException", .classLink RL 15 "java/lang/IllegalArgumentException", .methodLink RL 323 yL_levels, .static yL_levels, .initialized RL, .code yX12_levels cX12_levels 11 (some .int), .fieldLink RX12 194 "SeaLandModel" "thrown" "I", .code yX12_noFarm cX12_noFarm 2 (some .boolean), .fieldLink RX12 498 "SeaLandModel" "farms" "I", .code yX12_in cX12_in 3 (some .boolean), .methodLink RX12 197 yX12_in, .static yX12_in, .initialized RX12, .methodLink RX12 502 yX12_noFarm, .instanceMethod yX12_noFarm, .selects RX12 yX12_noFarm yX12_noFarm, .code yX12_throwsIf cX12_throwsIf 3 (some .boolean), .methodLink RX12 224 yX12_throwsIf, .instanceMethod yX12_throwsIf, .selects RX12 yX12_throwsIf yX12_throwsIf, .methodLink RX12 211 Lib.Math.max.name, .fieldLink RX12 113 "SeaLandModel" "farmFrom" "[I", .fieldLink RX12 116 "SeaLandModel" "farmTo" "[I", .code yX12_isIn cX12_isIn 5 (some .boolean), .methodLink RX12 207 Lib.Math.min.name, .static Lib.Math.min.name, .code Lib.Math.min.name Lib.Math.min.code 2 (some .int), .methodLink RX12 232 yX12_isIn, .static yX12_isIn, .fieldLink RX12 173 "SeaLandModel" "place" "[I", .fieldLink RX12 170 "SeaLandModel" "depth" "[I", .fieldLink RX12 119 "SeaLandModel" "crop" "[I", .code yX12_worthAt cX12_worthAt 3 (some .int), .methodLink RX12 201 Lib.Math.abs.name, .methodLink RX12 550 yX12_worthAt, .static yX12_worthAt, .fieldLink RX12 9 "SeaLandModel" "world" "[I", .code yX12_steps cX12_steps 2 (some .int), .methodLink RX12 262 yX12_steps, .static yX12_steps, .methodLink RL 325 yX12_levels, .instanceMethod yX12_levels, .selects RX12 yX12_levels yX12_levels] bs2)
set_option maxHeartbeats 4000000 in
set_option maxRecDepth 100000 in
theorem law_44 {p : Program} {e : Env} {s : State} {m : MethodId} {below : List Frame} {meth : Method} {c : Code} {Q : State → Prop} (l : Launch) (hlt : l.stackTraces = false) {b L : Nat} {xs : Nat → Int32} {A : Nat → Prop} (hx : p.tables.exec = Jvm.exec) (hb : c.code = code) (hml : c.maxLocals = 7) (hown : s.vm.findClass RL = some m.cls) (hts : ∀ w ∈ w_law_44, w.before #[Value.ref b] s = true) (hX : va_X b L xs s s.heap) (hbl : b < s.heap.size) (hbA : ¬ A b) (hL : L ≤ 4096) {adK adV : Nat → Nat} (hE : EVC adK adV A s s.heap) (hN : NC s) (hAO : AO s) (hA : ∀ q : Nat, s.heap.size ≤ q → A q) {dC : Nat → ClassId} {dI : Nat → Nat → Nat} {kA : Nat → ClassId} (hK : va_K (dC, dI) vwCl (tyl kA) s) {Pr : Nat → Prop} {Gm : gT} {x h0 ou : Nat} (hPA : ∀ q, ¬ Pr q → A q) (hGP : ∀ a t, Gm a = some t → Pr a) (hGA : ∀ a t, Gm a = some t → A a) (n : Nat) (hn : n + 8 ≤ L) (H : Heap) (locs : List Loc) (cells slots : Nat) (hcl : cells + 1170 ≤ 603072) (hsl : slots + 14100 ≤ 7262314) (g : gz) (hC : CJ dC dI kA Pr g x ou H) (hR : RJ dC dI kA g h0 Gm H) (hPr : ∀ a, Pr a → a < H.size) (hS : va_S A s.heap H locs) (ls : Array Slot) (hl : lv_has ls 7 [(0, .ref b), (1, .ref x), (2, .ref h0), (3, .ref ou), (4, .int (nI n))]) (kk : ∀ (g : gz) (H : Heap) (locs : List Loc) (ls : Array Slot), CJ dC dI kA Pr g x ou H → RJ dC dI kA g h0 Gm H → (∀ a, Pr a → a < H.size) → va_S A s.heap H locs → lv_has ls 7 [(0, .ref b), (1, .ref x), (2, .ref h0), (3, .ref ou), (4, .int (nI n))] → W p l e room_1 s m #[Value.ref b] below meth c H locs (cells + 1170) (slots + 14100) Q (F0 m 2491 ls [])) : W p l e room_1 s m #[Value.ref b] below meth c H locs cells slots Q (F0 m 2178 ls []) := by
  refine lv_aload_n hx hb dL_law_2178 rfl (lv_at hl 1 rfl) ?_
  refine lv_aload_n hx hb dL_law_2179 rfl (lv_at hl 0 rfl) ?_
  refine lv_iload hx hb dL_law_2180 (lv_at hl 4 rfl) ?_
  refine lv_iconst (v := 1) hx hb dL_law_2182 (by decide) ?_
  refine lv_iadd hx hb dL_law_2183 ?_
  refine lv_topi (fun x21 ex21 => ?_)
  obtain rfl : nI (n + 1) = x21 := (ex21.trans (nI_add n 1)).symm
  refine va_sld hx hb hX hbl hbA hS (i := (nI (n + 1))) (vin_t (a := ((n + 1 : Nat) : Int)) (nI_toInt (by omega)) (by omega) (by omega)) dL_law_2184 ?_
  refine lv_topi (fun x22 ex22 => ?_)
  refine lv_aload_n hx hb dL_law_2185 rfl (lv_at hl 0 rfl) ?_
  refine lv_iload hx hb dL_law_2186 (lv_at hl 4 rfl) ?_
  refine lv_iconst (v := 2) hx hb dL_law_2188 (by decide) ?_
  refine lv_iadd hx hb dL_law_2189 ?_
  refine lv_topi (fun x23 ex23 => ?_)
  obtain rfl : nI (n + 2) = x23 := (ex23.trans (nI_add n 2)).symm
  refine va_sld hx hb hX hbl hbA hS (i := (nI (n + 2))) (vin_t (a := ((n + 2 : Nat) : Int)) (nI_toInt (by omega)) (by omega) (by omega)) dL_law_2190 ?_
  refine lv_topi (fun x24 ex24 => ?_)
  refine lv_aload_n hx hb dL_law_2191 rfl (lv_at hl 3 rfl) ?_
  have hFc := hPA
  refine va_calli (vx_runSW (As := [.ref x, .int x22, .int x24, .ref ou]) (rest := []) ⟨hx, hb, hml, hown, hts⟩ (k_levels l hlt dC dI kA adK adV Pr H x ou x22 x24  hPr hC) (vx_cwSW 4 hts (goodIn_app (goodIn_r _ [56, 57, 58] rfl (by decide +kernel)) (goodIn_ca (goodIn_r _ [1, 2, 3, 4, 5, 6, 7, 8, 9, 10, 11, 12, 13, 14, 15, 16, 17, 18, 19, 20, 21, 22, 23, 24, 25, 26, 27, 28, 29, 30, 31, 32, 33, 34, 35, 36, 37, 38, 39, 40, 41, 42, 43, 44, 45, 46, 47, 48, 49, 50, 51, 52, 53, 54, 55] rfl (by decide +kernel)) (bs2_in _ _))) rfl rfl rfl (by decide +kernel) ⟨(Nat.le_of_ble_eq_true rfl), (Nat.le_of_ble_eq_true rfl)⟩) ⟨fun a U g mk q => by obtain ⟨q0, q1, qK, qE, qN, qA⟩ := q; exact ⟨q0, q1, va_K.moved (u := U) (U := U.calling g mk a) (Vm.Alike.refl U.vm) qK, EVC.blind g mk a qE, NC.blind g mk a qN, AO.blind g mk a qA⟩, fun U hU hW => ⟨rfl, hU, va_K.moved hW.alike hK, hE.call hS hFc hU hW, hN.call hW, hAO.call hW⟩⟩ rfl rfl hl.1 rfl (lv_room (Nat.le_of_ble_eq_true rfl)) dL_law_2192 ⟨show cells + 2 ≤ 603072 from by omega, show slots + 12 ≤ 7262314 from by omega⟩) hS (fun q _ h => hFc q h) hFc (fun r25 u t H locs ht hvm hw hB hz1 hk1 hS => ?_)
  (try dsimp only at hB); rw [ht] at hB
  have hR := hR.kept (fun a t h => hk1 a (hPr a (hGP a t h)) (fun h9 => h9 (hGP a t h)))
  have hC := hB
  have hPr : ∀ a, Pr a → a < H.size := fun a h => Nat.lt_of_lt_of_le (hPr a h) hz1
  refine lv_istore (lv' := [(5, .int r25), (0, .ref b), (1, .ref x), (2, .ref h0), (3, .ref ou), (4, .int (nI n))]) hx hb dL_law_2195 hl (by decide) rfl (fun ls hl => ?_)
  refine lv_aload_n hx hb dL_law_2197 rfl (lv_at hl 3 rfl) ?_
  refine lv_aload_n hx hb dL_law_2198 rfl (lv_at hl 1 rfl) ?_
  refine lv_iload hx hb dL_law_2199 (lv_at hl 5 rfl) ?_
  refine lv_iconst (v := 1) hx hb dL_law_2201 (by decide) ?_
  refine lv_iadd hx hb dL_law_2202 ?_
  refine lv_topi (fun x26 ex26 => ?_)
  obtain rfl : nI (n + 1) = x26 := (ex26.trans (nI_add n 1)).symm
  refine va_sld hx hb hX hbl hbA hS (i := (nI (n + 1))) (vin_t (a := ((n + 1 : Nat) : Int)) (nI_toInt (by omega)) (by omega) (by omega)) dL_law_2203 ?_
  refine lv_topi (fun x27 ex27 => ?_)
  obtain rfl : x22 = x27 := by rw [ex27, ex22] <;> exact congrArg xs (tn_same (i := (nI (n + 1))) (j := (nI (n + 1))) (show (nI (n + 1)).toInt = ((n + 1 : Nat) : Int) from (nI_toInt (by omega))) (show (nI (n + 1)).toInt = ((n + 1 : Nat) : Int) from (nI_toInt (by omega))) (by omega))
  refine lv_aload_n hx hb dL_law_2204 rfl (lv_at hl 1 rfl) ?_
  refine lv_iload hx hb dL_law_2205 (lv_at hl 5 rfl) ?_
  refine lv_iconst (v := 2) hx hb dL_law_2207 (by decide) ?_
  refine lv_iadd hx hb dL_law_2208 ?_
  refine lv_topi (fun x28 ex28 => ?_)
  obtain rfl : nI (n + 2) = x28 := (ex28.trans (nI_add n 2)).symm
  refine va_sld hx hb hX hbl hbA hS (i := (nI (n + 2))) (vin_t (a := ((n + 2 : Nat) : Int)) (nI_toInt (by omega)) (by omega) (by omega)) dL_law_2209 ?_
  refine lv_topi (fun x29 ex29 => ?_)
  obtain rfl : x24 = x29 := by rw [ex29, ex24] <;> exact congrArg xs (tn_same (i := (nI (n + 2))) (j := (nI (n + 2))) (show (nI (n + 2)).toInt = ((n + 2 : Nat) : Int) from (nI_toInt (by omega))) (show (nI (n + 2)).toInt = ((n + 2 : Nat) : Int) from (nI_toInt (by omega))) (by omega))
  have hFc := gA_m hPr hGP hGA hA hS
  refine va_calli (va_runV (As := [.int x22, .int x24]) (rest := []) ⟨hx, hb, hml, hown, hts⟩ (r_levels l dC dI kA adK adV Gm H h0 x22 x24  hR) (cwV 2 hts (goodIn_app (goodIn_r _ [94, 95, 96, 66] rfl (by decide +kernel)) (goodIn_ca (goodIn_r _ [59, 60, 61, 62, 63, 64, 65, 66, 67, 68, 69, 70, 71, 72, 73, 74, 41, 31, 42, 75, 76, 77, 78, 79, 80, 81, 82, 83, 84, 85, 86, 87, 30, 32, 88, 89, 90, 91, 92, 93] rfl (by decide +kernel)) (bs_in2 _ _))) rfl rfl rfl (by decide +kernel) ⟨(Nat.le_of_ble_eq_true rfl), (Nat.le_of_ble_eq_true rfl)⟩) ⟨fun a U g mk q => by obtain ⟨q0, q1, qK, qE⟩ := q; exact ⟨q0, q1, va_K.moved (u := U) (U := U.calling g mk a) (Vm.Alike.refl U.vm) qK, EVS.blind g mk a qE⟩, RI.recv hK hR.ri, fun U hU hW => ⟨rfl, hU, va_K.moved hW.alike hK, hE.1.call hS hFc hU hW⟩⟩ rfl rfl hl.1 rfl (lv_room (Nat.le_of_ble_eq_true rfl)) dL_law_2210 ⟨show cells + 2 + 0 ≤ 603072 from by omega, show slots + 12 + 0 ≤ 7262314 from by omega⟩) hS (fun q _ h => hFc q h) hFc (fun r30 u t H locs ht hvm hw hB hz1 hk1 hS => ?_)
  (try dsimp only at hB); rw [ht] at hB
  have hC := hC.kept (fun a h1 h2 => hk1 a h1 (gA_mn hGP h1 h2))
  have hR := hB
  have hPr : ∀ a, Pr a → a < H.size := fun a h => Nat.lt_of_lt_of_le (hPr a h) hz1
  refine lv_istore (lv' := [(6, .int r30), (5, .int r25), (0, .ref b), (1, .ref x), (2, .ref h0), (3, .ref ou), (4, .int (nI n))]) hx hb dL_law_2213 hl (by decide) rfl (fun ls hl => ?_)
  refine lv_goto (tgt := 2491) hx hb dL_law_2215 (by decide) ?_
  exact W.widen (k := cells + 1170) (n := slots + 14100) (by omega) (by omega) (kk g H _ ls hC hR hPr hS (lv_sub hl [2, 3, 4, 5, 6] rfl))
