set_option maxHeartbeats 8000000 in
set_option maxRecDepth 100000 in
theorem law_loop {p : Program} {e : Env} {s : State} {m : MethodId} {below : List Frame} {meth : Method} {c : Code} {Q : State → Prop} (l : Launch) (hlt : l.stackTraces = false) {b L : Nat} {xs : Nat → Int32} {A : Nat → Prop} (hx : p.tables.exec = Jvm.exec) (hb : c.code = code) (hml : c.maxLocals = 7) (hown : s.vm.findClass RL = some m.cls) (hts_0 : ∀ w ∈ w_law_0, w.before #[Value.ref b] s = true) (hts_1 : ∀ w ∈ w_law_1, w.before #[Value.ref b] s = true) (hts_2 : ∀ w ∈ w_law_2, w.before #[Value.ref b] s = true) (hts_3 : ∀ w ∈ w_law_3, w.before #[Value.ref b] s = true) (hts_4 : ∀ w ∈ w_law_4, w.before #[Value.ref b] s = true) (hts_5 : ∀ w ∈ w_law_5, w.before #[Value.ref b] s = true) (hts_6 : ∀ w ∈ w_law_6, w.before #[Value.ref b] s = true) (hts_7 : ∀ w ∈ w_law_7, w.before #[Value.ref b] s = true) (hts_8 : ∀ w ∈ w_law_8, w.before #[Value.ref b] s = true) (hts_9 : ∀ w ∈ w_law_9, w.before #[Value.ref b] s = true) (hts_10 : ∀ w ∈ w_law_10, w.before #[Value.ref b] s = true) (hts_11 : ∀ w ∈ w_law_11, w.before #[Value.ref b] s = true) (hts_12 : ∀ w ∈ w_law_12, w.before #[Value.ref b] s = true) (hts_13 : ∀ w ∈ w_law_13, w.before #[Value.ref b] s = true) (hts_14 : ∀ w ∈ w_law_14, w.before #[Value.ref b] s = true) (hts_15 : ∀ w ∈ w_law_15, w.before #[Value.ref b] s = true) (hts_16 : ∀ w ∈ w_law_16, w.before #[Value.ref b] s = true) (hts_17 : ∀ w ∈ w_law_17, w.before #[Value.ref b] s = true) (hts_18 : ∀ w ∈ w_law_18, w.before #[Value.ref b] s = true) (hts_19 : ∀ w ∈ w_law_19, w.before #[Value.ref b] s = true) (hts_20 : ∀ w ∈ w_law_20, w.before #[Value.ref b] s = true) (hts_21 : ∀ w ∈ w_law_21, w.before #[Value.ref b] s = true) (hts_22 : ∀ w ∈ w_law_22, w.before #[Value.ref b] s = true) (hts_23 : ∀ w ∈ w_law_23, w.before #[Value.ref b] s = true) (hts_24 : ∀ w ∈ w_law_24, w.before #[Value.ref b] s = true) (hts_25 : ∀ w ∈ w_law_25, w.before #[Value.ref b] s = true) (hts_26 : ∀ w ∈ w_law_26, w.before #[Value.ref b] s = true) (hts_27 : ∀ w ∈ w_law_27, w.before #[Value.ref b] s = true) (hts_28 : ∀ w ∈ w_law_28, w.before #[Value.ref b] s = true) (hts_29 : ∀ w ∈ w_law_29, w.before #[Value.ref b] s = true) (hts_30 : ∀ w ∈ w_law_30, w.before #[Value.ref b] s = true) (hts_31 : ∀ w ∈ w_law_31, w.before #[Value.ref b] s = true) (hts_32 : ∀ w ∈ w_law_32, w.before #[Value.ref b] s = true) (hts_33 : ∀ w ∈ w_law_33, w.before #[Value.ref b] s = true) (hts_34 : ∀ w ∈ w_law_34, w.before #[Value.ref b] s = true) (hts_35 : ∀ w ∈ w_law_35, w.before #[Value.ref b] s = true) (hts_36 : ∀ w ∈ w_law_36, w.before #[Value.ref b] s = true) (hts_37 : ∀ w ∈ w_law_37, w.before #[Value.ref b] s = true) (hts_38 : ∀ w ∈ w_law_38, w.before #[Value.ref b] s = true) (hts_39 : ∀ w ∈ w_law_39, w.before #[Value.ref b] s = true) (hts_40 : ∀ w ∈ w_law_40, w.before #[Value.ref b] s = true) (hts_41 : ∀ w ∈ w_law_41, w.before #[Value.ref b] s = true) (hts_42 : ∀ w ∈ w_law_42, w.before #[Value.ref b] s = true) (hts_43 : ∀ w ∈ w_law_43, w.before #[Value.ref b] s = true) (hts_44 : ∀ w ∈ w_law_44, w.before #[Value.ref b] s = true) (hts_45 : ∀ w ∈ w_law_45, w.before #[Value.ref b] s = true) (hts_46 : ∀ w ∈ w_law_46, w.before #[Value.ref b] s = true) (hts_47 : ∀ w ∈ w_law_47, w.before #[Value.ref b] s = true) (hts_48 : ∀ w ∈ w_law_48, w.before #[Value.ref b] s = true) (hts_49 : ∀ w ∈ w_law_49, w.before #[Value.ref b] s = true) (hts_50 : ∀ w ∈ w_law_50, w.before #[Value.ref b] s = true) (hts_51 : ∀ w ∈ w_law_51, w.before #[Value.ref b] s = true) (hts_52 : ∀ w ∈ w_law_52, w.before #[Value.ref b] s = true) (hts_53 : ∀ w ∈ w_law_53, w.before #[Value.ref b] s = true) (hX : va_X b L xs s s.heap) (hbl : b < s.heap.size) (hbA : ¬ A b) (hL : L ≤ 4096) {adK adV : Nat → Nat} (hE : EVC adK adV A s s.heap) (hN : NC s) (hAO : AO s) (hA : ∀ q : Nat, s.heap.size ≤ q → A q) {dC : Nat → ClassId} {dI : Nat → Nat → Nat} {kA : Nat → ClassId} (hK : va_K (dC, dI) vwCl (tyl kA) s) {Pr : Nat → Prop} {Gm : gT} {x h0 ou : Nat} (hPA : ∀ q, ¬ Pr q → A q) (hGP : ∀ a t, Gm a = some t → Pr a) (hGA : ∀ a t, Gm a = some t → A a) (kend : ∀ (H : Heap) (locs : List Loc) (cells slots : Nat) (ls : Array Slot), cells ≤ 603072 → slots ≤ 7262314 → va_S A s.heap H locs → W p l e room_1 s m #[Value.ref b] below meth c H locs cells slots Q (F0 m 2497 ls [])) : ∀ (r n : Nat), L < n + 8 * r + 8 → n ≤ 4096 → ∀ (g : gz) (H : Heap) (locs : List Loc) (cells slots : Nat), cells + 1170 * r ≤ 603072 → slots + 14100 * r ≤ 7262314 → CJ dC dI kA Pr g x ou H → RJ dC dI kA g h0 Gm H → (∀ a, Pr a → a < H.size) → va_S A s.heap H locs → ∀ ls : Array Slot, lv_has ls 7 [(0, .ref b), (1, .ref x), (2, .ref h0), (3, .ref ou), (4, .int (nI n))] → W p l e room_1 s m #[Value.ref b] below meth c H locs cells slots Q (F0 m 23 ls []) := by
  intro r
  induction r with
  | zero =>
    intro n hr hn4 g H locs cells slots hc hs hC hR hPr hS ls hl
    refine lv_iload hx hb dL_law_23 (lv_at hl 4 rfl) ?_
    refine lv_aload_n hx hb dL_law_25 rfl (lv_at hl 0 rfl) ?_
    refine va_slen hx hb hX hbl hbA hS dL_law_26 ?_
    refine lv_topi (fun x1 ex1 => ?_)
    have t1 : x1.toInt = ((L : Nat) : Int) := by rw [ex1]; exact nI_toInt (by omega)
    refine lv_bipush (v := 8) hx hb dL_law_27 (by decide) ?_
    refine lv_isub hx hb dL_law_29 ?_
    refine lv_topi (fun x2 ex2 => ?_)
    have t2 : x2.toInt = ((L : Nat) : Int) - 8 := ti_sub ex2 t1 (by decide) (by omega) (by omega)
    refine lv_icmp_gt (tgt := 2497) hx hb dL_law_30 (by decide) (fun c3 => ?_) (fun c3 => (by exfalso; have q9 : ((n : Nat) : Int) ≤ ((L : Nat) : Int) - 8 := ti_nlt c3 t2 (nI_toInt (by omega)); omega))
    exact kend H locs cells slots ls (by omega) (by omega) hS
  | succ r ih =>
    intro n hr hn4 g H locs cells slots hc hs hC hR hPr hS ls hl
    refine lv_iload hx hb dL_law_23 (lv_at hl 4 rfl) ?_
    refine lv_aload_n hx hb dL_law_25 rfl (lv_at hl 0 rfl) ?_
    refine va_slen hx hb hX hbl hbA hS dL_law_26 ?_
    refine lv_topi (fun x1 ex1 => ?_)
    have t1 : x1.toInt = ((L : Nat) : Int) := by rw [ex1]; exact nI_toInt (by omega)
    refine lv_bipush (v := 8) hx hb dL_law_27 (by decide) ?_
    refine lv_isub hx hb dL_law_29 ?_
    refine lv_topi (fun x2 ex2 => ?_)
    have t2 : x2.toInt = ((L : Nat) : Int) - 8 := ti_sub ex2 t1 (by decide) (by omega) (by omega)
    refine lv_icmp_gt (tgt := 2497) hx hb dL_law_30 (by decide) (fun c3 => ?_) (fun c3 => ?_)
    · exact kend H locs cells slots ls (by omega) (by omega) hS
    have hn8 : ((n : Nat) : Int) ≤ ((L : Nat) : Int) - 8 := ti_nlt c3 t2 (nI_toInt (by omega))
    have hn : n + 8 ≤ L := by omega
    have hc7 : cells + 1170 ≤ 603072 := by omega
    have hs7 : slots + 14100 ≤ 7262314 := by omega
    have kk9 : ∀ (g : gz) (H : Heap) (locs : List Loc) (ls : Array Slot), CJ dC dI kA Pr g x ou H → RJ dC dI kA g h0 Gm H → (∀ a, Pr a → a < H.size) → va_S A s.heap H locs → lv_has ls 7 [(0, .ref b), (1, .ref x), (2, .ref h0), (3, .ref ou), (4, .int (nI n))] → W p l e room_1 s m #[Value.ref b] below meth c H locs (cells + 1170) (slots + 14100) Q (F0 m 2491 ls []) := by
      intro g H locs ls hC hR hPr hS hl
      refine lv_iinc (v := nI (n + 8)) (lv' := [(4, .int (nI (n + 8))), (0, .ref b), (1, .ref x), (2, .ref h0), (3, .ref ou)]) hx hb dL_law_2491 hl (k := 4) rfl (nI_add n 8) (by decide) rfl (fun ls hl => ?_)
      refine lv_goto (tgt := 23) hx hb dL_law_2494 (by decide) ?_
      exact ih (n + 8) (by omega) (by omega) g H locs _ _ (by omega) (by omega) hC hR hPr hS ls (lv_sub hl [1, 2, 3, 4, 0] rfl)
    refine lv_aload_n hx hb dL_law_33 rfl (lv_at hl 0 rfl) ?_
    refine lv_iload hx hb dL_law_34 (lv_at hl 4 rfl) ?_
    refine va_sld hx hb hX hbl hbA hS (i := (nI n)) (vin_t (a := ((n : Nat) : Int)) (nI_toInt (by omega)) (by omega) (by omega)) dL_law_36 ?_
    refine lv_topi (fun x21 ex21 => ?_)
    refine lv_bipush (v := 63) hx hb dL_law_37 (by decide) ?_
    refine lv_iand hx hb dL_law_39 ?_
    refine lv_topi (fun x22 ex22 => ?_)
    have t23 : 0 ≤ x22.toInt ∧ x22.toInt ≤ 63 := by rw [ex22]; exact and_nn (show (63 : Int32).toInt = 63 from (by decide)) (by omega)
    by_cases hs24 : x22 = 0
    · subst hs24
      refine lv_tableIn (x := 0) (off := 232) (tgt := 272) hx hb dL_law_40 (by decide +kernel) (by decide +kernel) (by decide +kernel) (by decide +kernel) ?_
      exact law_0 l hlt hx hb hml hown hts_0 hX hbl hbA hL hE hN hAO hA hK hPA hGP hGA n hn H locs cells slots hc7 hs7 g hC hR hPr hS ls hl kk9
    by_cases hs25 : x22 = 1
    · subst hs25
      refine lv_tableIn (x := 1) (off := 305) (tgt := 345) hx hb dL_law_40 (by decide +kernel) (by decide +kernel) (by decide +kernel) (by decide +kernel) ?_
      exact law_1 l hlt hx hb hml hown hts_1 hX hbl hbA hL hE hN hAO hA hK hPA hGP hGA n hn H locs cells slots hc7 hs7 g hC hR hPr hS ls hl kk9
    by_cases hs26 : x22 = 2
    · subst hs26
      refine lv_tableIn (x := 2) (off := 330) (tgt := 370) hx hb dL_law_40 (by decide +kernel) (by decide +kernel) (by decide +kernel) (by decide +kernel) ?_
      exact law_2 l hlt hx hb hml hown hts_2 hX hbl hbA hL hE hN hAO hA hK hPA hGP hGA n hn H locs cells slots hc7 hs7 g hC hR hPr hS ls hl kk9
    by_cases hs27 : x22 = 3
    · subst hs27
      refine lv_tableIn (x := 3) (off := 406) (tgt := 446) hx hb dL_law_40 (by decide +kernel) (by decide +kernel) (by decide +kernel) (by decide +kernel) ?_
      exact law_3 l hlt hx hb hml hown hts_3 hX hbl hbA hL hE hN hAO hA hK hPA hGP hGA n hn H locs cells slots hc7 hs7 g hC hR hPr hS ls hl kk9
    by_cases hs28 : x22 = 4
    · subst hs28
      refine lv_tableIn (x := 4) (off := 458) (tgt := 498) hx hb dL_law_40 (by decide +kernel) (by decide +kernel) (by decide +kernel) (by decide +kernel) ?_
      exact law_4 l hlt hx hb hml hown hts_4 hX hbl hbA hL hE hN hAO hA hK hPA hGP hGA n hn H locs cells slots hc7 hs7 g hC hR hPr hS ls hl kk9
    by_cases hs29 : x22 = 5
    · subst hs29
      refine lv_tableIn (x := 5) (off := 495) (tgt := 535) hx hb dL_law_40 (by decide +kernel) (by decide +kernel) (by decide +kernel) (by decide +kernel) ?_
      exact law_5 l hlt hx hb hml hown hts_5 hX hbl hbA hL hE hN hAO hA hK hPA hGP hGA n hn H locs cells slots hc7 hs7 g hC hR hPr hS ls hl kk9
    by_cases hs30 : x22 = 6
    · subst hs30
      refine lv_tableIn (x := 6) (off := 547) (tgt := 587) hx hb dL_law_40 (by decide +kernel) (by decide +kernel) (by decide +kernel) (by decide +kernel) ?_
      exact law_6 l hlt hx hb hml hown hts_6 hX hbl hbA hL hE hN hAO hA hK hPA hGP hGA n hn H locs cells slots hc7 hs7 g hC hR hPr hS ls hl kk9
    by_cases hs31 : x22 = 7
    · subst hs31
      refine lv_tableIn (x := 7) (off := 615) (tgt := 655) hx hb dL_law_40 (by decide +kernel) (by decide +kernel) (by decide +kernel) (by decide +kernel) ?_
      exact law_7 l hlt hx hb hml hown hts_7 hX hbl hbA hL hE hN hAO hA hK hPA hGP hGA n hn H locs cells slots hc7 hs7 g hC hR hPr hS ls hl kk9
    by_cases hs32 : x22 = 8
    · subst hs32
      refine lv_tableIn (x := 8) (off := 655) (tgt := 695) hx hb dL_law_40 (by decide +kernel) (by decide +kernel) (by decide +kernel) (by decide +kernel) ?_
      exact law_8 l hlt hx hb hml hown hts_8 hX hbl hbA hL hE hN hAO hA hK hPA hGP hGA n hn H locs cells slots hc7 hs7 g hC hR hPr hS ls hl kk9
    by_cases hs33 : x22 = 9
    · subst hs33
      refine lv_tableIn (x := 9) (off := 719) (tgt := 759) hx hb dL_law_40 (by decide +kernel) (by decide +kernel) (by decide +kernel) (by decide +kernel) ?_
      exact law_9 l hlt hx hb hml hown hts_9 hX hbl hbA hL hE hN hAO hA hK hPA hGP hGA n hn H locs cells slots hc7 hs7 g hC hR hPr hS ls hl kk9
    by_cases hs34 : x22 = 10
    · subst hs34
      refine lv_tableIn (x := 10) (off := 771) (tgt := 811) hx hb dL_law_40 (by decide +kernel) (by decide +kernel) (by decide +kernel) (by decide +kernel) ?_
      exact law_10 l hlt hx hb hml hown hts_10 hX hbl hbA hL hE hN hAO hA hK hPA hGP hGA n hn H locs cells slots hc7 hs7 g hC hR hPr hS ls hl kk9
    by_cases hs35 : x22 = 11
    · subst hs35
      refine lv_tableIn (x := 11) (off := 851) (tgt := 891) hx hb dL_law_40 (by decide +kernel) (by decide +kernel) (by decide +kernel) (by decide +kernel) ?_
      exact law_11 l hlt hx hb hml hown hts_11 hX hbl hbA hL hE hN hAO hA hK hPA hGP hGA n hn H locs cells slots hc7 hs7 g hC hR hPr hS ls hl kk9
    by_cases hs36 : x22 = 12
    · subst hs36
      refine lv_tableIn (x := 12) (off := 903) (tgt := 943) hx hb dL_law_40 (by decide +kernel) (by decide +kernel) (by decide +kernel) (by decide +kernel) ?_
      exact law_12 l hlt hx hb hml hown hts_12 hX hbl hbA hL hE hN hAO hA hK hPA hGP hGA n hn H locs cells slots hc7 hs7 g hC hR hPr hS ls hl kk9
    by_cases hs37 : x22 = 13
    · subst hs37
      refine lv_tableIn (x := 13) (off := 959) (tgt := 999) hx hb dL_law_40 (by decide +kernel) (by decide +kernel) (by decide +kernel) (by decide +kernel) ?_
      exact law_13 l hlt hx hb hml hown hts_13 hX hbl hbA hL hE hN hAO hA hK hPA hGP hGA n hn H locs cells slots hc7 hs7 g hC hR hPr hS ls hl kk9
    by_cases hs38 : x22 = 14
    · subst hs38
      refine lv_tableIn (x := 14) (off := 999) (tgt := 1039) hx hb dL_law_40 (by decide +kernel) (by decide +kernel) (by decide +kernel) (by decide +kernel) ?_
      exact law_14 l hlt hx hb hml hown hts_14 hX hbl hbA hL hE hN hAO hA hK hPA hGP hGA n hn H locs cells slots hc7 hs7 g hC hR hPr hS ls hl kk9
    by_cases hs39 : x22 = 15
    · subst hs39
      refine lv_tableIn (x := 15) (off := 1039) (tgt := 1079) hx hb dL_law_40 (by decide +kernel) (by decide +kernel) (by decide +kernel) (by decide +kernel) ?_
      exact law_15 l hlt hx hb hml hown hts_15 hX hbl hbA hL hE hN hAO hA hK hPA hGP hGA n hn H locs cells slots hc7 hs7 g hC hR hPr hS ls hl kk9
    by_cases hs40 : x22 = 16
    · subst hs40
      refine lv_tableIn (x := 16) (off := 1079) (tgt := 1119) hx hb dL_law_40 (by decide +kernel) (by decide +kernel) (by decide +kernel) (by decide +kernel) ?_
      exact law_16 l hlt hx hb hml hown hts_16 hX hbl hbA hL hE hN hAO hA hK hPA hGP hGA n hn H locs cells slots hc7 hs7 g hC hR hPr hS ls hl kk9
    by_cases hs41 : x22 = 17
    · subst hs41
      refine lv_tableIn (x := 17) (off := 1107) (tgt := 1147) hx hb dL_law_40 (by decide +kernel) (by decide +kernel) (by decide +kernel) (by decide +kernel) ?_
      exact law_17 l hlt hx hb hml hown hts_17 hX hbl hbA hL hE hN hAO hA hK hPA hGP hGA n hn H locs cells slots hc7 hs7 g hC hR hPr hS ls hl kk9
    by_cases hs42 : x22 = 18
    · subst hs42
      refine lv_tableIn (x := 18) (off := 1135) (tgt := 1175) hx hb dL_law_40 (by decide +kernel) (by decide +kernel) (by decide +kernel) (by decide +kernel) ?_
      exact law_18 l hlt hx hb hml hown hts_18 hX hbl hbA hL hE hN hAO hA hK hPA hGP hGA n hn H locs cells slots hc7 hs7 g hC hR hPr hS ls hl kk9
    by_cases hs43 : x22 = 19
    · subst hs43
      refine lv_tableIn (x := 19) (off := 1175) (tgt := 1215) hx hb dL_law_40 (by decide +kernel) (by decide +kernel) (by decide +kernel) (by decide +kernel) ?_
      exact law_19 l hlt hx hb hml hown hts_19 hX hbl hbA hL hE hN hAO hA hK hPA hGP hGA n hn H locs cells slots hc7 hs7 g hC hR hPr hS ls hl kk9
    by_cases hs44 : x22 = 20
    · subst hs44
      refine lv_tableIn (x := 20) (off := 1191) (tgt := 1231) hx hb dL_law_40 (by decide +kernel) (by decide +kernel) (by decide +kernel) (by decide +kernel) ?_
      exact law_20 l hlt hx hb hml hown hts_20 hX hbl hbA hL hE hN hAO hA hK hPA hGP hGA n hn H locs cells slots hc7 hs7 g hC hR hPr hS ls hl kk9
    by_cases hs45 : x22 = 21
    · subst hs45
      refine lv_tableIn (x := 21) (off := 1207) (tgt := 1247) hx hb dL_law_40 (by decide +kernel) (by decide +kernel) (by decide +kernel) (by decide +kernel) ?_
      exact law_21 l hlt hx hb hml hown hts_21 hX hbl hbA hL hE hN hAO hA hK hPA hGP hGA n hn H locs cells slots hc7 hs7 g hC hR hPr hS ls hl kk9
    by_cases hs46 : x22 = 22
    · subst hs46
      refine lv_tableIn (x := 22) (off := 1220) (tgt := 1260) hx hb dL_law_40 (by decide +kernel) (by decide +kernel) (by decide +kernel) (by decide +kernel) ?_
      exact law_22 l hlt hx hb hml hown hts_22 hX hbl hbA hL hE hN hAO hA hK hPA hGP hGA n hn H locs cells slots hc7 hs7 g hC hR hPr hS ls hl kk9
    by_cases hs47 : x22 = 23
    · subst hs47
      refine lv_tableIn (x := 23) (off := 1276) (tgt := 1316) hx hb dL_law_40 (by decide +kernel) (by decide +kernel) (by decide +kernel) (by decide +kernel) ?_
      exact law_23 l hlt hx hb hml hown hts_23 hX hbl hbA hL hE hN hAO hA hK hPA hGP hGA n hn H locs cells slots hc7 hs7 g hC hR hPr hS ls hl kk9
    by_cases hs48 : x22 = 24
    · subst hs48
      refine lv_tableIn (x := 24) (off := 1292) (tgt := 1332) hx hb dL_law_40 (by decide +kernel) (by decide +kernel) (by decide +kernel) (by decide +kernel) ?_
      exact law_24 l hlt hx hb hml hown hts_24 hX hbl hbA hL hE hN hAO hA hK hPA hGP hGA n hn H locs cells slots hc7 hs7 g hC hR hPr hS ls hl kk9
    by_cases hs49 : x22 = 25
    · subst hs49
      refine lv_tableIn (x := 25) (off := 1332) (tgt := 1372) hx hb dL_law_40 (by decide +kernel) (by decide +kernel) (by decide +kernel) (by decide +kernel) ?_
      exact law_25 l hlt hx hb hml hown hts_25 hX hbl hbA hL hE hN hAO hA hK hPA hGP hGA n hn H locs cells slots hc7 hs7 g hC hR hPr hS ls hl kk9
    by_cases hs50 : x22 = 26
    · subst hs50
      refine lv_tableIn (x := 26) (off := 1372) (tgt := 1412) hx hb dL_law_40 (by decide +kernel) (by decide +kernel) (by decide +kernel) (by decide +kernel) ?_
      exact law_26 l hlt hx hb hml hown hts_26 hX hbl hbA hL hE hN hAO hA hK hPA hGP hGA n hn H locs cells slots hc7 hs7 g hC hR hPr hS ls hl kk9
    by_cases hs51 : x22 = 27
    · subst hs51
      refine lv_tableIn (x := 27) (off := 1400) (tgt := 1440) hx hb dL_law_40 (by decide +kernel) (by decide +kernel) (by decide +kernel) (by decide +kernel) ?_
      exact law_27 l hlt hx hb hml hown hts_27 hX hbl hbA hL hE hN hAO hA hK hPA hGP hGA n hn H locs cells slots hc7 hs7 g hC hR hPr hS ls hl kk9
    by_cases hs52 : x22 = 28
    · subst hs52
      refine lv_tableIn (x := 28) (off := 1428) (tgt := 1468) hx hb dL_law_40 (by decide +kernel) (by decide +kernel) (by decide +kernel) (by decide +kernel) ?_
      exact law_28 l hlt hx hb hml hown hts_28 hX hbl hbA hL hE hN hAO hA hK hPA hGP hGA n hn H locs cells slots hc7 hs7 g hC hR hPr hS ls hl kk9
    by_cases hs53 : x22 = 29
    · subst hs53
      refine lv_tableIn (x := 29) (off := 1564) (tgt := 1604) hx hb dL_law_40 (by decide +kernel) (by decide +kernel) (by decide +kernel) (by decide +kernel) ?_
      exact law_29 l hlt hx hb hml hown hts_29 hX hbl hbA hL hE hN hAO hA hK hPA hGP hGA n hn H locs cells slots hc7 hs7 g hC hR hPr hS ls hl kk9
    by_cases hs54 : x22 = 30
    · subst hs54
      refine lv_tableIn (x := 30) (off := 1604) (tgt := 1644) hx hb dL_law_40 (by decide +kernel) (by decide +kernel) (by decide +kernel) (by decide +kernel) ?_
      exact law_30 l hlt hx hb hml hown hts_30 hX hbl hbA hL hE hN hAO hA hK hPA hGP hGA n hn H locs cells slots hc7 hs7 g hC hR hPr hS ls hl kk9
    by_cases hs55 : x22 = 31
    · subst hs55
      refine lv_tableIn (x := 31) (off := 1632) (tgt := 1672) hx hb dL_law_40 (by decide +kernel) (by decide +kernel) (by decide +kernel) (by decide +kernel) ?_
      exact law_31 l hlt hx hb hml hown hts_31 hX hbl hbA hL hE hN hAO hA hK hPA hGP hGA n hn H locs cells slots hc7 hs7 g hC hR hPr hS ls hl kk9
    by_cases hs56 : x22 = 32
    · subst hs56
      refine lv_tableIn (x := 32) (off := 1660) (tgt := 1700) hx hb dL_law_40 (by decide +kernel) (by decide +kernel) (by decide +kernel) (by decide +kernel) ?_
      exact law_32 l hlt hx hb hml hown hts_32 hX hbl hbA hL hE hN hAO hA hK hPA hGP hGA n hn H locs cells slots hc7 hs7 g hC hR hPr hS ls hl kk9
    by_cases hs57 : x22 = 33
    · subst hs57
      refine lv_tableIn (x := 33) (off := 1700) (tgt := 1740) hx hb dL_law_40 (by decide +kernel) (by decide +kernel) (by decide +kernel) (by decide +kernel) ?_
      exact law_33 l hlt hx hb hml hown hts_33 hX hbl hbA hL hE hN hAO hA hK hPA hGP hGA n hn H locs cells slots hc7 hs7 g hC hR hPr hS ls hl kk9
    by_cases hs58 : x22 = 34
    · subst hs58
      refine lv_tableIn (x := 34) (off := 1728) (tgt := 1768) hx hb dL_law_40 (by decide +kernel) (by decide +kernel) (by decide +kernel) (by decide +kernel) ?_
      exact law_34 l hlt hx hb hml hown hts_34 hX hbl hbA hL hE hN hAO hA hK hPA hGP hGA n hn H locs cells slots hc7 hs7 g hC hR hPr hS ls hl kk9
    by_cases hs59 : x22 = 35
    · subst hs59
      refine lv_tableIn (x := 35) (off := 1741) (tgt := 1781) hx hb dL_law_40 (by decide +kernel) (by decide +kernel) (by decide +kernel) (by decide +kernel) ?_
      exact law_35 l hlt hx hb hml hown hts_35 hX hbl hbA hL hE hN hAO hA hK hPA hGP hGA n hn H locs cells slots hc7 hs7 g hC hR hPr hS ls hl kk9
    by_cases hs60 : x22 = 36
    · subst hs60
      refine lv_tableIn (x := 36) (off := 1781) (tgt := 1821) hx hb dL_law_40 (by decide +kernel) (by decide +kernel) (by decide +kernel) (by decide +kernel) ?_
      exact law_36 l hlt hx hb hml hown hts_36 hX hbl hbA hL hE hN hAO hA hK hPA hGP hGA n hn H locs cells slots hc7 hs7 g hC hR hPr hS ls hl kk9
    by_cases hs61 : x22 = 37
    · subst hs61
      refine lv_tableIn (x := 37) (off := 1806) (tgt := 1846) hx hb dL_law_40 (by decide +kernel) (by decide +kernel) (by decide +kernel) (by decide +kernel) ?_
      exact law_37 l hlt hx hb hml hown hts_37 hX hbl hbA hL hE hN hAO hA hK hPA hGP hGA n hn H locs cells slots hc7 hs7 g hC hR hPr hS ls hl kk9
    by_cases hs62 : x22 = 38
    · subst hs62
      refine lv_tableIn (x := 38) (off := 1834) (tgt := 1874) hx hb dL_law_40 (by decide +kernel) (by decide +kernel) (by decide +kernel) (by decide +kernel) ?_
      exact law_38 l hlt hx hb hml hown hts_38 hX hbl hbA hL hE hN hAO hA hK hPA hGP hGA n hn H locs cells slots hc7 hs7 g hC hR hPr hS ls hl kk9
    by_cases hs63 : x22 = 39
    · subst hs63
      refine lv_tableIn (x := 39) (off := 1898) (tgt := 1938) hx hb dL_law_40 (by decide +kernel) (by decide +kernel) (by decide +kernel) (by decide +kernel) ?_
      exact law_39 l hlt hx hb hml hown hts_39 hX hbl hbA hL hE hN hAO hA hK hPA hGP hGA n hn H locs cells slots hc7 hs7 g hC hR hPr hS ls hl kk9
    by_cases hs64 : x22 = 40
    · subst hs64
      refine lv_tableIn (x := 40) (off := 1938) (tgt := 1978) hx hb dL_law_40 (by decide +kernel) (by decide +kernel) (by decide +kernel) (by decide +kernel) ?_
      exact law_40 l hlt hx hb hml hown hts_40 hX hbl hbA hL hE hN hAO hA hK hPA hGP hGA n hn H locs cells slots hc7 hs7 g hC hR hPr hS ls hl kk9
    by_cases hs65 : x22 = 41
    · subst hs65
      refine lv_tableIn (x := 41) (off := 1994) (tgt := 2034) hx hb dL_law_40 (by decide +kernel) (by decide +kernel) (by decide +kernel) (by decide +kernel) ?_
      exact law_41 l hlt hx hb hml hown hts_41 hX hbl hbA hL hE hN hAO hA hK hPA hGP hGA n hn H locs cells slots hc7 hs7 g hC hR hPr hS ls hl kk9
    by_cases hs66 : x22 = 42
    · subst hs66
      refine lv_tableIn (x := 42) (off := 2022) (tgt := 2062) hx hb dL_law_40 (by decide +kernel) (by decide +kernel) (by decide +kernel) (by decide +kernel) ?_
      exact law_42 l hlt hx hb hml hown hts_42 hX hbl hbA hL hE hN hAO hA hK hPA hGP hGA n hn H locs cells slots hc7 hs7 g hC hR hPr hS ls hl kk9
    by_cases hs67 : x22 = 43
    · subst hs67
      refine lv_tableIn (x := 43) (off := 2086) (tgt := 2126) hx hb dL_law_40 (by decide +kernel) (by decide +kernel) (by decide +kernel) (by decide +kernel) ?_
      exact law_43 l hlt hx hb hml hown hts_43 hX hbl hbA hL hE hN hAO hA hK hPA hGP hGA n hn H locs cells slots hc7 hs7 g hC hR hPr hS ls hl kk9
    by_cases hs68 : x22 = 44
    · subst hs68
      refine lv_tableIn (x := 44) (off := 2138) (tgt := 2178) hx hb dL_law_40 (by decide +kernel) (by decide +kernel) (by decide +kernel) (by decide +kernel) ?_
      exact law_44 l hlt hx hb hml hown hts_44 hX hbl hbA hL hE hN hAO hA hK hPA hGP hGA n hn H locs cells slots hc7 hs7 g hC hR hPr hS ls hl kk9
    by_cases hs69 : x22 = 45
    · subst hs69
      refine lv_tableIn (x := 45) (off := 2178) (tgt := 2218) hx hb dL_law_40 (by decide +kernel) (by decide +kernel) (by decide +kernel) (by decide +kernel) ?_
      exact law_45 l hlt hx hb hml hown hts_45 hX hbl hbA hL hE hN hAO hA hK hPA hGP hGA n hn H locs cells slots hc7 hs7 g hC hR hPr hS ls hl kk9
    by_cases hs70 : x22 = 46
    · subst hs70
      refine lv_tableIn (x := 46) (off := 2242) (tgt := 2282) hx hb dL_law_40 (by decide +kernel) (by decide +kernel) (by decide +kernel) (by decide +kernel) ?_
      exact law_46 l hlt hx hb hml hown hts_46 hX hbl hbA hL hE hN hAO hA hK hPA hGP hGA n hn H locs cells slots hc7 hs7 g hC hR hPr hS ls hl kk9
    by_cases hs71 : x22 = 47
    · subst hs71
      refine lv_tableIn (x := 47) (off := 2282) (tgt := 2322) hx hb dL_law_40 (by decide +kernel) (by decide +kernel) (by decide +kernel) (by decide +kernel) ?_
      exact law_47 l hlt hx hb hml hown hts_47 hX hbl hbA hL hE hN hAO hA hK hPA hGP hGA n hn H locs cells slots hc7 hs7 g hC hR hPr hS ls hl kk9
    by_cases hs72 : x22 = 48
    · subst hs72
      refine lv_tableIn (x := 48) (off := 2295) (tgt := 2335) hx hb dL_law_40 (by decide +kernel) (by decide +kernel) (by decide +kernel) (by decide +kernel) ?_
      exact law_48 l hlt hx hb hml hown hts_48 hX hbl hbA hL hE hN hAO hA hK hPA hGP hGA n hn H locs cells slots hc7 hs7 g hC hR hPr hS ls hl kk9
    by_cases hs73 : x22 = 49
    · subst hs73
      refine lv_tableIn (x := 49) (off := 2335) (tgt := 2375) hx hb dL_law_40 (by decide +kernel) (by decide +kernel) (by decide +kernel) (by decide +kernel) ?_
      exact law_49 l hlt hx hb hml hown hts_49 hX hbl hbA hL hE hN hAO hA hK hPA hGP hGA n hn H locs cells slots hc7 hs7 g hC hR hPr hS ls hl kk9
    by_cases hs74 : x22 = 50
    · subst hs74
      refine lv_tableIn (x := 50) (off := 2387) (tgt := 2427) hx hb dL_law_40 (by decide +kernel) (by decide +kernel) (by decide +kernel) (by decide +kernel) ?_
      exact law_50 l hlt hx hb hml hown hts_50 hX hbl hbA hL hE hN hAO hA hK hPA hGP hGA n hn H locs cells slots hc7 hs7 g hC hR hPr hS ls hl kk9
    by_cases hs75 : x22 = 51
    · subst hs75
      refine lv_tableIn (x := 51) (off := 2400) (tgt := 2440) hx hb dL_law_40 (by decide +kernel) (by decide +kernel) (by decide +kernel) (by decide +kernel) ?_
      exact law_51 l hlt hx hb hml hown hts_51 hX hbl hbA hL hE hN hAO hA hK hPA hGP hGA n hn H locs cells slots hc7 hs7 g hC hR hPr hS ls hl kk9
    by_cases hs76 : x22 = 52
    · subst hs76
      refine lv_tableIn (x := 52) (off := 2413) (tgt := 2453) hx hb dL_law_40 (by decide +kernel) (by decide +kernel) (by decide +kernel) (by decide +kernel) ?_
      exact law_52 l hlt hx hb hml hown hts_52 hX hbl hbA hL hE hN hAO hA hK hPA hGP hGA n hn H locs cells slots hc7 hs7 g hC hR hPr hS ls hl kk9
    by_cases hs77 : x22 = 53
    · subst hs77
      refine lv_tableIn (x := 53) (off := 2426) (tgt := 2466) hx hb dL_law_40 (by decide +kernel) (by decide +kernel) (by decide +kernel) (by decide +kernel) ?_
      exact law_53 l hlt hx hb hml hown hts_53 hX hbl hbA hL hE hN hAO hA hK hPA hGP hGA n hn H locs cells slots hc7 hs7 g hC hR hPr hS ls hl kk9
    have ho78 : x22.toInt < 0 ∨ 53 < x22.toInt := by
      by_cases hz9 : x22.toInt < 0
      · exact Or.inl hz9
      have u9 : (0 : Int) ≤ x22.toInt := Int.not_lt.mp hz9
      have u9 := ll_nx (k1 := 1) u9 hs24 (by decide) (by decide)
      have u9 := ll_nx (k1 := 2) u9 hs25 (by decide) (by decide)
      have u9 := ll_nx (k1 := 3) u9 hs26 (by decide) (by decide)
      have u9 := ll_nx (k1 := 4) u9 hs27 (by decide) (by decide)
      have u9 := ll_nx (k1 := 5) u9 hs28 (by decide) (by decide)
      have u9 := ll_nx (k1 := 6) u9 hs29 (by decide) (by decide)
      have u9 := ll_nx (k1 := 7) u9 hs30 (by decide) (by decide)
      have u9 := ll_nx (k1 := 8) u9 hs31 (by decide) (by decide)
      have u9 := ll_nx (k1 := 9) u9 hs32 (by decide) (by decide)
      have u9 := ll_nx (k1 := 10) u9 hs33 (by decide) (by decide)
      have u9 := ll_nx (k1 := 11) u9 hs34 (by decide) (by decide)
      have u9 := ll_nx (k1 := 12) u9 hs35 (by decide) (by decide)
      have u9 := ll_nx (k1 := 13) u9 hs36 (by decide) (by decide)
      have u9 := ll_nx (k1 := 14) u9 hs37 (by decide) (by decide)
      have u9 := ll_nx (k1 := 15) u9 hs38 (by decide) (by decide)
      have u9 := ll_nx (k1 := 16) u9 hs39 (by decide) (by decide)
      have u9 := ll_nx (k1 := 17) u9 hs40 (by decide) (by decide)
      have u9 := ll_nx (k1 := 18) u9 hs41 (by decide) (by decide)
      have u9 := ll_nx (k1 := 19) u9 hs42 (by decide) (by decide)
      have u9 := ll_nx (k1 := 20) u9 hs43 (by decide) (by decide)
      have u9 := ll_nx (k1 := 21) u9 hs44 (by decide) (by decide)
      have u9 := ll_nx (k1 := 22) u9 hs45 (by decide) (by decide)
      have u9 := ll_nx (k1 := 23) u9 hs46 (by decide) (by decide)
      have u9 := ll_nx (k1 := 24) u9 hs47 (by decide) (by decide)
      have u9 := ll_nx (k1 := 25) u9 hs48 (by decide) (by decide)
      have u9 := ll_nx (k1 := 26) u9 hs49 (by decide) (by decide)
      have u9 := ll_nx (k1 := 27) u9 hs50 (by decide) (by decide)
      have u9 := ll_nx (k1 := 28) u9 hs51 (by decide) (by decide)
      have u9 := ll_nx (k1 := 29) u9 hs52 (by decide) (by decide)
      have u9 := ll_nx (k1 := 30) u9 hs53 (by decide) (by decide)
      have u9 := ll_nx (k1 := 31) u9 hs54 (by decide) (by decide)
      have u9 := ll_nx (k1 := 32) u9 hs55 (by decide) (by decide)
      have u9 := ll_nx (k1 := 33) u9 hs56 (by decide) (by decide)
      have u9 := ll_nx (k1 := 34) u9 hs57 (by decide) (by decide)
      have u9 := ll_nx (k1 := 35) u9 hs58 (by decide) (by decide)
      have u9 := ll_nx (k1 := 36) u9 hs59 (by decide) (by decide)
      have u9 := ll_nx (k1 := 37) u9 hs60 (by decide) (by decide)
      have u9 := ll_nx (k1 := 38) u9 hs61 (by decide) (by decide)
      have u9 := ll_nx (k1 := 39) u9 hs62 (by decide) (by decide)
      have u9 := ll_nx (k1 := 40) u9 hs63 (by decide) (by decide)
      have u9 := ll_nx (k1 := 41) u9 hs64 (by decide) (by decide)
      have u9 := ll_nx (k1 := 42) u9 hs65 (by decide) (by decide)
      have u9 := ll_nx (k1 := 43) u9 hs66 (by decide) (by decide)
      have u9 := ll_nx (k1 := 44) u9 hs67 (by decide) (by decide)
      have u9 := ll_nx (k1 := 45) u9 hs68 (by decide) (by decide)
      have u9 := ll_nx (k1 := 46) u9 hs69 (by decide) (by decide)
      have u9 := ll_nx (k1 := 47) u9 hs70 (by decide) (by decide)
      have u9 := ll_nx (k1 := 48) u9 hs71 (by decide) (by decide)
      have u9 := ll_nx (k1 := 49) u9 hs72 (by decide) (by decide)
      have u9 := ll_nx (k1 := 50) u9 hs73 (by decide) (by decide)
      have u9 := ll_nx (k1 := 51) u9 hs74 (by decide) (by decide)
      have u9 := ll_nx (k1 := 52) u9 hs75 (by decide) (by decide)
      have u9 := ll_nx (k1 := 53) u9 hs76 (by decide) (by decide)
      have u9 := ll_nx (k1 := 54) u9 hs77 (by decide) (by decide)
      exact Or.inr (Int.lt_of_lt_of_le (by decide) u9)
    refine lv_tableOut (tgt := 2491) hx hb dL_law_40 ho78 (by decide) ?_
    exact W.widen (k := cells + 1170) (n := slots + 14100) (by omega) (by omega) (kk9 g H _ ls hC hR hPr hS hl)
