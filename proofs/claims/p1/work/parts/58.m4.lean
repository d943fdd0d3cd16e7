theorem vin_ni {c i n : Nat} (h : c + i < n) (hn : n < 2 ^ 31) : vp_in (nI c + nI i) n := by rw [nI_add]; exact vp_in_nI h hn
def T_harvest : Int32 × Int32 := (0, 0)
def w_x_reap : List Cond := .code yX0_reap cX0_reap 5 (some .int) :: ([.code yX3_dayNow cX3_dayNow 1 (some .int), .fieldLink RX3 32 "SeaLand$Lake" "hour" "I", .methodLink RX0 195 yX3_dayNow, .instanceMethod yX3_dayNow, .selects RX3 yX3_dayNow yX3_dayNow, .initialized RX3, .methodLink RX0 166 Lib.Math.min.name, .static Lib.Math.min.name, .initialized "java/lang/Math", .code Lib.Math.min.name Lib.Math.min.code 2 (some .int), .fieldLink RX0 28 "SeaLand$Board" "harvested" "[Z", .fieldLink RX0 75 "SeaLand$Board" "settled" "I", .code yJ7_fill_53178 cJ7_fill_53178 4 none, .methodLink RX0 55 yJ7_fill_53178, .static yJ7_fill_53178, .initialized RJ7] ++ bs)
set_option maxHeartbeats 4000000 in
set_option maxRecDepth 100000 in
theorem x_reap (l : Launch) (dC : Nat → ClassId) (dI : Nat → Nat → Nat) (a : Nat → Nat) (k : Nat → ClassId)  (sz : Nat) : Met l yX0_reap w_x_reap ({ frames := 1, cells := 0, slots := 0, locals := 40 }) (va_Pc [.ref (a 30), .ref (a 2)] (fun U => U.heap.size = sz ∧ va_P (dC, dI) vwCl [(a 30, .inr (3, [.ref (a 31), .ref (a 32), .ref (a 33), .ref (a 34), .ref (a 35), .ref (a 36), .ref (a 37), .ref (a 38), .ref (a 50), .ref (a 62), .int (-1), .int 0, .long 0, .long 0, .int 0, .int 0, .int 0, .int 0])), (a 2, .inr (6, [.ref (a 3), .ref (a 14), .ref (a 26), .int 0, .int 0])), (a 35, .inl ((k 35), 5, .inl (fun _ => 0))), (a 14, .inr (5, [.ref (a 15), .ref (a 16), .ref (a 17), .ref (a 18), .ref (a 19), .ref (a 20), .ref (a 21), .ref (a 22), .ref (a 23), .ref (a 24), .ref (a 25), .int 0, .int 0, .int 0, .int 0])), (a 22, .inl ((k 22), 96, .inl (fun _ => 0)))] U.heap ∧ va_K (dC, dI) vwCl [((k 35), .boolean), ((k 22), .int)] U ∧ va_D (fun _ => True) [(a 30, .inr (3, [.ref (a 31), .ref (a 32), .ref (a 33), .ref (a 34), .ref (a 35), .ref (a 36), .ref (a 37), .ref (a 38), .ref (a 50), .ref (a 62), .int (-1), .int 0, .long 0, .long 0, .int 0, .int 0, .int 0, .int 0])), (a 2, .inr (6, [.ref (a 3), .ref (a 14), .ref (a 26), .int 0, .int 0])), (a 35, .inl ((k 35), 5, .inl (fun _ => 0))), (a 14, .inr (5, [.ref (a 15), .ref (a 16), .ref (a 17), .ref (a 18), .ref (a 19), .ref (a 20), .ref (a 21), .ref (a 22), .ref (a 23), .ref (a 24), .ref (a 25), .int 0, .int 0, .int 0, .int 0])), (a 22, .inl ((k 22), 96, .inl (fun _ => 0)))] ∧ EV (va_A [(a 30, .inr (3, [.ref (a 31), .ref (a 32), .ref (a 33), .ref (a 34), .ref (a 35), .ref (a 36), .ref (a 37), .ref (a 38), .ref (a 50), .ref (a 62), .int (-1), .int 0, .long 0, .long 0, .int 0, .int 0, .int 0, .int 0])), (a 2, .inr (6, [.ref (a 3), .ref (a 14), .ref (a 26), .int 0, .int 0])), (a 35, .inl ((k 35), 5, .inl (fun _ => 0))), (a 14, .inr (5, [.ref (a 15), .ref (a 16), .ref (a 17), .ref (a 18), .ref (a 19), .ref (a 20), .ref (a 21), .ref (a 22), .ref (a 23), .ref (a 24), .ref (a 25), .int 0, .int 0, .int 0, .int 0])), (a 22, .inl ((k 22), 96, .inl (fun _ => 0)))] sz) U U.heap)) (va_Qi (fun (r : Int32) (u : Unit) => r = 0) (fun (_ : Unit) (_ : State) => True) (va_A [(a 30, .inr (3, [.ref (a 31), .ref (a 32), .ref (a 33), .ref (a 34), .ref (a 35), .ref (a 36), .ref (a 37), .ref (a 38), .ref (a 50), .ref (a 62), .int (-1), .int 0, .long 0, .long 0, .int 0, .int 0, .int 0, .int 0])), (a 2, .inr (6, [.ref (a 3), .ref (a 14), .ref (a 26), .int 0, .int 0])), (a 35, .inl ((k 35), 5, .inl (fun _ => 0))), (a 14, .inr (5, [.ref (a 15), .ref (a 16), .ref (a 17), .ref (a 18), .ref (a 19), .ref (a 20), .ref (a 21), .ref (a 22), .ref (a 23), .ref (a 24), .ref (a 25), .int 0, .int 0, .int 0, .int 0])), (a 22, .inl ((k 22), 96, .inl (fun _ => 0)))] sz)) 0 0 (va_A [(a 30, .inr (3, [.ref (a 31), .ref (a 32), .ref (a 33), .ref (a 34), .ref (a 35), .ref (a 36), .ref (a 37), .ref (a 38), .ref (a 50), .ref (a 62), .int (-1), .int 0, .long 0, .long 0, .int 0, .int 0, .int 0, .int 0])), (a 2, .inr (6, [.ref (a 3), .ref (a 14), .ref (a 26), .int 0, .int 0])), (a 35, .inl ((k 35), 5, .inl (fun _ => 0))), (a 14, .inr (5, [.ref (a 15), .ref (a 16), .ref (a 17), .ref (a 18), .ref (a 19), .ref (a 20), .ref (a 21), .ref (a 22), .ref (a 23), .ref (a 24), .ref (a 25), .int 0, .int 0, .int 0, .int 0])), (a 22, .inl ((k 22), 96, .inl (fun _ => 0)))] sz) := by
  refine Met.ofW (cc := cX0_reap) (maxL := 5) (ret := (some .int)) (by decide) rfl ?_
  intro p e s m args below meth c s₁ B hml hv
  obtain ⟨rfl, hsz, hP, hK, hD0, hE⟩ := hv
  have hx := B.exec
  have hb := B.bytes
  have hr := B.returns
  have hts := atoms_spec (ws := w_x_reap) B.pre
  have hown : s.vm.findClass RX0 = some m.cls := findClass_of_methodNamed B.named
  have hlocks := B.notSynchronized
  subst hsz
  have hD := hD0.self (sz := s.heap.size)
  generalize hAe : va_A [(a 30, .inr (3, [.ref (a 31), .ref (a 32), .ref (a 33), .ref (a 34), .ref (a 35), .ref (a 36), .ref (a 37), .ref (a 38), .ref (a 50), .ref (a 62), .int (-1), .int 0, .long 0, .long 0, .int 0, .int 0, .int 0, .int 0])), (a 2, .inr (6, [.ref (a 3), .ref (a 14), .ref (a 26), .int 0, .int 0])), (a 35, .inl ((k 35), 5, .inl (fun _ => 0))), (a 14, .inr (5, [.ref (a 15), .ref (a 16), .ref (a 17), .ref (a 18), .ref (a 19), .ref (a 20), .ref (a 21), .ref (a 22), .ref (a 23), .ref (a 24), .ref (a 25), .int 0, .int 0, .int 0, .int 0])), (a 22, .inl ((k 22), 96, .inl (fun _ => 0)))] s.heap.size = A at hD hE ⊢
  have hA : ∀ q : Nat, s.heap.size ≤ q → A q := fun q h => by rw [← hAe]; exact Or.inr h
  have hS : va_S A s.heap s.heap [] := va_S.rf
  have hP : va_P (dC, dI) vwCl [(a 30, .inr (3, [.ref (a 31), .ref (a 32), .ref (a 33), .ref (a 34), .ref (a 35), .ref (a 36), .ref (a 37), .ref (a 38), .ref (a 50), .ref (a 62), .int (-1), .int 0, .long 0, .long 0, .int 0, .int 0, .int 0, .int 0])), (a 2, .inr (6, [.ref (a 3), .ref (a 14), .ref (a 26), .int 0, .int 0])), (a 35, .inl ((k 35), 5, .inl (fun _ => 0))), (a 14, .inr (5, [.ref (a 15), .ref (a 16), .ref (a 17), .ref (a 18), .ref (a 19), .ref (a 20), .ref (a 21), .ref (a 22), .ref (a 23), .ref (a 24), .ref (a 25), .int 0, .int 0, .int 0, .int 0])), (a 22, .inl ((k 22), 96, .inl (fun _ => 0)))] s.heap := hP
  have hl := lv_entry ([.ref (a 30), .ref (a 2)]) (n := 5) (Nat.le_of_ble_eq_true rfl)
  rw [lg_entry_eq]
  generalize (lg_sl ([.ref (a 30), .ref (a 2)]) ++ List.replicate (5 - (lg_sl ([.ref (a 30), .ref (a 2)])).length) Slot.unset).toArray = ls at hl ⊢
  have hl : lv_has ls 5 [(0, .ref (a 30)), (1, .ref (a 2))] := hl
  refine lv_aload_n hx hb dX0_reap_0 rfl (lv_at hl 1 rfl) ?_
  have hPc := hP.sub (ws' := [(a 2, .inr (6, [.ref (a 3), .ref (a 14), .ref (a 26), .int 0, .int 0]))]) [1] rfl
  have hDc := hD.sub (ws' := [(a 2, .inr (6, [.ref (a 3), .ref (a 14), .ref (a 26), .int 0, .int 0]))]) [1] (by decide) rfl
  have hKc := hK.sub (tys' := []) [] rfl
  have hFc := va_free (wc := [(a 2, .inr (6, [.ref (a 3), .ref (a 14), .ref (a 26), .int 0, .int 0]))]) hD hS hA [1] rfl
  refine va_calli (va_runV (As := []) (rest := []) ⟨hx, hb, hml, hown, hts⟩ (x_dayNow l dC dI a k s.heap.size ) (cwV 0 hts (goodIn_app (goodIn_r _ [3, 4, 5, 6] (by decide +kernel) (by decide +kernel)) (goodIn_ca (goodIn_r _ [1, 2] (by decide +kernel) (by decide +kernel)) (bs_in _ _))) rfl rfl rfl (by decide +kernel) ⟨(Nat.le_of_ble_eq_true rfl), (Nat.le_of_ble_eq_true rfl)⟩) ⟨fun a U g mk q => by obtain ⟨q0, q1, qP, qK, qD, qE⟩ := q; exact ⟨q0, q1, qP, va_K.moved (u := U) (U := U.calling g mk a) (Vm.Alike.refl U.vm) qK, qD, EV.blind g mk a qE⟩, va_recv hKc hPc (ci := 6) (q0 := 0) rfl rfl, fun U hU hW => ⟨rfl, by rw [hU], by rw [hU]; exact hPc, va_K.moved hW.alike hKc, hDc.weaken (fun _ _ _ _ => trivial), hE.call hS hFc hU hW⟩⟩ rfl rfl hl.1 rfl (lv_room (Nat.le_of_ble_eq_true rfl)) dX0_reap_1 ⟨(Nat.le_of_ble_eq_true rfl), (Nat.le_of_ble_eq_true rfl)⟩) hS (fun q _ h => hFc q h) hFc (fun r2 u t H1 locs ht hvm hw3 hB hz1 hk1 hS => ?_)
  obtain ⟨hP1, hD1⟩ := hB
  rw [ht] at hP1
  obtain ⟨hP, hD⟩ := va_join (wr := [(a 30, .inr (3, [.ref (a 31), .ref (a 32), .ref (a 33), .ref (a 34), .ref (a 35), .ref (a 36), .ref (a 37), .ref (a 38), .ref (a 50), .ref (a 62), .int (-1), .int 0, .long 0, .long 0, .int 0, .int 0, .int 0, .int 0])), (a 35, .inl ((k 35), 5, .inl (fun _ => 0))), (a 14, .inr (5, [.ref (a 15), .ref (a 16), .ref (a 17), .ref (a 18), .ref (a 19), .ref (a 20), .ref (a 21), .ref (a 22), .ref (a 23), .ref (a 24), .ref (a 25), .int 0, .int 0, .int 0, .int 0])), (a 22, .inl ((k 22), 96, .inl (fun _ => 0)))]) (w1 := [(a 2, .inr (6, [.ref (a 3), .ref (a 14), .ref (a 26), .int 0, .int 0]))]) hP hD [1] [0, 2, 3, 4] rfl rfl (by decide) (by decide) hk1 hFc hP1 hD1
  generalize H1 = H at hP hS ⊢
  have hP : va_P (dC, dI) vwCl [(a 30, .inr (3, [.ref (a 31), .ref (a 32), .ref (a 33), .ref (a 34), .ref (a 35), .ref (a 36), .ref (a 37), .ref (a 38), .ref (a 50), .ref (a 62), .int (-1), .int 0, .long 0, .long 0, .int 0, .int 0, .int 0, .int 0])), (a 35, .inl ((k 35), 5, .inl (fun _ => 0))), (a 14, .inr (5, [.ref (a 15), .ref (a 16), .ref (a 17), .ref (a 18), .ref (a 19), .ref (a 20), .ref (a 21), .ref (a 22), .ref (a 23), .ref (a 24), .ref (a 25), .int 0, .int 0, .int 0, .int 0])), (a 22, .inl ((k 22), 96, .inl (fun _ => 0))), (a 2, .inr (6, [.ref (a 3), .ref (a 14), .ref (a 26), .int 0, .int 0]))] H := hP
  have hD : va_D A [(a 30, .inr (3, [.ref (a 31), .ref (a 32), .ref (a 33), .ref (a 34), .ref (a 35), .ref (a 36), .ref (a 37), .ref (a 38), .ref (a 50), .ref (a 62), .int (-1), .int 0, .long 0, .long 0, .int 0, .int 0, .int 0, .int 0])), (a 35, .inl ((k 35), 5, .inl (fun _ => 0))), (a 14, .inr (5, [.ref (a 15), .ref (a 16), .ref (a 17), .ref (a 18), .ref (a 19), .ref (a 20), .ref (a 21), .ref (a 22), .ref (a 23), .ref (a 24), .ref (a 25), .int 0, .int 0, .int 0, .int 0])), (a 22, .inl ((k 22), 96, .inl (fun _ => 0))), (a 2, .inr (6, [.ref (a 3), .ref (a 14), .ref (a 26), .int 0, .int 0]))] := hD
  try dsimp only at hw3
  obtain rfl : 0 = r2 := (hw3).symm
  refine lv_sipush (v := 360) hx hb dX0_reap_4 (by decide) ?_
  refine lv_idiv hx hb dX0_reap_7 (by decide) ?_
  refine lv_topi (fun x4 ex4 => ?_)
  obtain rfl : x4 = 0 := ex4.trans (by decide)
  refine lv_iconst (v := 4) hx hb dX0_reap_8 (by decide) ?_
  refine va_mmin hx hb (hml.trans hl.1.symm) hown (ht_at hts 6 rfl) (ht_at hts 7 rfl) (ht_at hts 8 rfl) (ht_at hts 9 rfl) (Nat.le_of_ble_eq_true rfl) (Nat.le_of_ble_eq_true rfl) (Nat.le_of_ble_eq_true rfl) (Nat.le_of_ble_eq_true rfl) dX0_reap_9 ?_
  refine lv_topi (fun x5 ex5 => ?_)
  obtain rfl : x5 = 0 := ex5.trans (by decide)
  refine lv_istore_n (lv' := [(2, .int 0), (0, .ref (a 30)), (1, .ref (a 2))]) hx hb dX0_reap_12 rfl hl (by decide) rfl (fun ls hl => ?_)
  refine lv_aload_n hx hb dX0_reap_13 rfl (lv_at hl 1 rfl) ?_
  refine va_get (D := (dC, dI)) (ci := 3) (v := .ref (a 35)) (C := RX0) (T := TX0) (N := 18) hx hb hts bF_X0 hown hK hP 0 rfl rfl 4 (by decide) (ht_at hts 10 rfl) (fun _ h9 => h9) rfl dX0_reap_14 ?_
  refine lv_iload_n hx hb dX0_reap_17 rfl (lv_at hl 0 rfl) ?_
  refine va_zald hx hb hK hP 1 0 rfl rfl (by unfold vp_in; decide) dX0_reap_18 ?_
  refine lv_topi (fun x6 ex6 => ?_)
  obtain rfl : 0 = x6 := (ex6).symm
  refine lv_if_eq (tgt := 24) hx hb dX0_reap_19 (by decide) (fun c7 => ?_) (fun c7 => absurd c7 (by decide))
  refine lv_aload_n hx hb dX0_reap_24 rfl (lv_at hl 1 rfl) ?_
  refine va_get (D := (dC, dI)) (ci := 3) (v := .ref (a 35)) (C := RX0) (T := TX0) (N := 18) hx hb hts bF_X0 hown hK hP 0 rfl rfl 4 (by decide) (ht_at hts 10 rfl) (fun _ h9 => h9) rfl dX0_reap_25 ?_
  refine lv_iload_n hx hb dX0_reap_28 rfl (lv_at hl 0 rfl) ?_
  refine lv_iconst (v := 1) hx hb dX0_reap_29 (by decide) ?_
  refine va_zast hx hb hK hP hD hS 1 0 rfl rfl (by unfold vp_in; decide) dX0_reap_30 (fun H locs hP hD hS => ?_)
  have hP : va_P (dC, dI) vwCl [(a 30, .inr (3, [.ref (a 31), .ref (a 32), .ref (a 33), .ref (a 34), .ref (a 35), .ref (a 36), .ref (a 37), .ref (a 38), .ref (a 50), .ref (a 62), .int (-1), .int 0, .long 0, .long 0, .int 0, .int 0, .int 0, .int 0])), (a 35, .inl ((k 35), 5, .inl (upd (fun _ => 0) (0 : Int32).toNatClampNeg (vp_nar .boolean 1)))), (a 14, .inr (5, [.ref (a 15), .ref (a 16), .ref (a 17), .ref (a 18), .ref (a 19), .ref (a 20), .ref (a 21), .ref (a 22), .ref (a 23), .ref (a 24), .ref (a 25), .int 0, .int 0, .int 0, .int 0])), (a 22, .inl ((k 22), 96, .inl (fun _ => 0))), (a 2, .inr (6, [.ref (a 3), .ref (a 14), .ref (a 26), .int 0, .int 0]))] H := hP
  have hD : va_D A [(a 30, .inr (3, [.ref (a 31), .ref (a 32), .ref (a 33), .ref (a 34), .ref (a 35), .ref (a 36), .ref (a 37), .ref (a 38), .ref (a 50), .ref (a 62), .int (-1), .int 0, .long 0, .long 0, .int 0, .int 0, .int 0, .int 0])), (a 35, .inl ((k 35), 5, .inl (upd (fun _ => 0) (0 : Int32).toNatClampNeg (vp_nar .boolean 1)))), (a 14, .inr (5, [.ref (a 15), .ref (a 16), .ref (a 17), .ref (a 18), .ref (a 19), .ref (a 20), .ref (a 21), .ref (a 22), .ref (a 23), .ref (a 24), .ref (a 25), .int 0, .int 0, .int 0, .int 0])), (a 22, .inl ((k 22), 96, .inl (fun _ => 0))), (a 2, .inr (6, [.ref (a 3), .ref (a 14), .ref (a 26), .int 0, .int 0]))] := hD
  refine lv_iconst (v := 0) hx hb dX0_reap_31 (by decide) ?_
  refine lv_istore_n (lv' := [(3, .int 0), (2, .int 0), (0, .ref (a 30)), (1, .ref (a 2))]) hx hb dX0_reap_32 rfl hl (by decide) rfl (fun ls hl => ?_)
  refine lv_iconst (v := 0) hx hb dX0_reap_33 (by decide) ?_
  refine lv_istore (lv' := [(4, .int 0), (3, .int 0), (2, .int 0), (0, .ref (a 30)), (1, .ref (a 2))]) hx hb dX0_reap_34 hl (by decide) rfl (fun ls hl => ?_)
  refine lv_iload hx hb dX0_reap_36 (lv_at hl 0 rfl) ?_
  refine lv_aload_n hx hb dX0_reap_38 rfl (lv_at hl 3 rfl) ?_
  refine va_get (D := (dC, dI)) (ci := 3) (v := .int 0) (C := RX0) (T := TX0) (N := 18) hx hb hts bF_X0 hown hK hP 0 rfl rfl 14 (by decide) (ht_at hts 11 rfl) (fun _ h9 => h9) rfl dX0_reap_39 ?_
  refine lv_icmp_ge (tgt := 106) hx hb dX0_reap_42 (by decide) (fun c8 => ?_) (fun c8 => absurd c8 (by decide))
  refine lv_aload_n hx hb dX0_reap_106 rfl (lv_at hl 4 rfl) ?_
  refine va_getN (D := (dC, dI)) (ci := 6) (v := .ref (a 14)) (C := RX3) (T := TX3) (N := 5) hx hb hts bF_X3 hown hK hP 4 rfl rfl 1 (by decide) (hE.nw 73 rfl) (fun _ h9 => h9) rfl dX0_reap_107 ?_
  refine va_getN (D := (dC, dI)) (ci := 5) (v := .ref (a 22)) (C := RX2) (T := TX2) (N := 15) hx hb hts bF_X2 hown hK hP 2 rfl rfl 7 (by decide) (hE.nw 76 rfl) (fun _ h9 => h9) rfl dX0_reap_110 ?_
  refine lv_iconst (v := 0) hx hb dX0_reap_113 (by decide) ?_
  have hPc := hP.sub (ws' := [(a 22, .inl ((k 22), 96, .inl (fun _ => 0)))]) [3] rfl
  have hDc := hD.sub (ws' := [(a 22, .inl ((k 22), 96, .inl (fun _ => 0)))]) [3] (by decide) rfl
  have hKc := hK.sub (tys' := [((k 22), .int)]) [1] rfl
  have hFc := va_free (wc := [(a 22, .inl ((k 22), 96, .inl (fun _ => 0)))]) hD hS hA [3] rfl
  refine va_callv (va_runS (As := [.ref (a 22), .int 0]) (rest := []) ⟨hx, hb, hml, hown, hts⟩ (j_fill96 l dC dI (a 22) (k 22) (fun _ => 0) 0 H.size ) (va_cwS 2 hts (goodIn_app (goodIn_r _ [14, 15, 16] (by decide +kernel) (by decide +kernel)) (goodIn_ca (goodIn_r _ [13] (by decide +kernel) (by decide +kernel)) (bs_in _ _))) rfl rfl rfl (by decide +kernel) ⟨(Nat.le_of_ble_eq_true rfl), (Nat.le_of_ble_eq_true rfl)⟩) ⟨fun a U g mk q => by obtain ⟨q0, q1, qP, qK, qD⟩ := q; exact ⟨q0, q1, qP, va_K.moved (u := U) (U := U.calling g mk a) (Vm.Alike.refl U.vm) qK, qD⟩, fun U hU hW => ⟨rfl, by rw [hU], by rw [hU]; exact hPc, va_K.moved hW.alike hKc, hDc.weaken (fun _ _ _ _ => trivial)⟩⟩ rfl rfl hl.1 rfl (lv_room (Nat.le_of_ble_eq_true rfl)) dX0_reap_114 ⟨(Nat.le_of_ble_eq_true rfl), (Nat.le_of_ble_eq_true rfl)⟩) hS (fun q _ h => hFc q h) hFc (fun u t H1 locs ht hvm hw11 hB hz1 hk1 hS => ?_)
  obtain ⟨g12, rfl⟩ : ∃ z, z = u := ⟨_, rfl⟩
  obtain ⟨hP1, hD1⟩ := hB
  rw [ht] at hP1
  obtain ⟨hP, hD⟩ := va_join (wr := [(a 30, .inr (3, [.ref (a 31), .ref (a 32), .ref (a 33), .ref (a 34), .ref (a 35), .ref (a 36), .ref (a 37), .ref (a 38), .ref (a 50), .ref (a 62), .int (-1), .int 0, .long 0, .long 0, .int 0, .int 0, .int 0, .int 0])), (a 35, .inl ((k 35), 5, .inl (upd (fun _ => 0) (0 : Int32).toNatClampNeg (vp_nar .boolean 1)))), (a 14, .inr (5, [.ref (a 15), .ref (a 16), .ref (a 17), .ref (a 18), .ref (a 19), .ref (a 20), .ref (a 21), .ref (a 22), .ref (a 23), .ref (a 24), .ref (a 25), .int 0, .int 0, .int 0, .int 0])), (a 2, .inr (6, [.ref (a 3), .ref (a 14), .ref (a 26), .int 0, .int 0]))]) (w1 := [(a 22, .inl ((k 22), 96, .inl g12))]) hP hD [3] [0, 1, 2, 4] rfl rfl (by decide) (by decide) hk1 hFc hP1 hD1
  generalize H1 = H at hP hS ⊢
  have hP : va_P (dC, dI) vwCl [(a 30, .inr (3, [.ref (a 31), .ref (a 32), .ref (a 33), .ref (a 34), .ref (a 35), .ref (a 36), .ref (a 37), .ref (a 38), .ref (a 50), .ref (a 62), .int (-1), .int 0, .long 0, .long 0, .int 0, .int 0, .int 0, .int 0])), (a 35, .inl ((k 35), 5, .inl (upd (fun _ => 0) (0 : Int32).toNatClampNeg (vp_nar .boolean 1)))), (a 14, .inr (5, [.ref (a 15), .ref (a 16), .ref (a 17), .ref (a 18), .ref (a 19), .ref (a 20), .ref (a 21), .ref (a 22), .ref (a 23), .ref (a 24), .ref (a 25), .int 0, .int 0, .int 0, .int 0])), (a 2, .inr (6, [.ref (a 3), .ref (a 14), .ref (a 26), .int 0, .int 0])), (a 22, .inl ((k 22), 96, .inl g12))] H := hP
  have hD : va_D A [(a 30, .inr (3, [.ref (a 31), .ref (a 32), .ref (a 33), .ref (a 34), .ref (a 35), .ref (a 36), .ref (a 37), .ref (a 38), .ref (a 50), .ref (a 62), .int (-1), .int 0, .long 0, .long 0, .int 0, .int 0, .int 0, .int 0])), (a 35, .inl ((k 35), 5, .inl (upd (fun _ => 0) (0 : Int32).toNatClampNeg (vp_nar .boolean 1)))), (a 14, .inr (5, [.ref (a 15), .ref (a 16), .ref (a 17), .ref (a 18), .ref (a 19), .ref (a 20), .ref (a 21), .ref (a 22), .ref (a 23), .ref (a 24), .ref (a 25), .int 0, .int 0, .int 0, .int 0])), (a 2, .inr (6, [.ref (a 3), .ref (a 14), .ref (a 26), .int 0, .int 0])), (a 22, .inl ((k 22), 96, .inl g12))] := hD
  try dsimp only at hw11
  refine lv_iload_n hx hb dX0_reap_117 rfl (lv_at hl 1 rfl) ?_
  exact W.iret (v := 0) hx hb hr (fun t ht hW => ⟨⟨0, (), rfl, (by rfl), trivial⟩, hS.F ht⟩) hS.2.2 dX0_reap_118
def w_x_harvest : List Cond := .code yX11_harvest cX11_harvest 1 (some .int) :: ([.fieldLink RX11 30 "SeaLand" "board" "LSeaLand$Board;", .fieldLink RX11 16 "SeaLand" "lake" "LSeaLand$Lake;", .code yX0_reap cX0_reap 5 (some .int), .code yX3_dayNow cX3_dayNow 1 (some .int), .fieldLink RX3 32 "SeaLand$Lake" "hour" "I", .methodLink RX0 195 yX3_dayNow, .instanceMethod yX3_dayNow, .selects RX3 yX3_dayNow yX3_dayNow, .initialized RX3, .methodLink RX0 166 Lib.Math.min.name, .static Lib.Math.min.name, .initialized "java/lang/Math", .code Lib.Math.min.name Lib.Math.min.code 2 (some .int), .fieldLink RX0 28 "SeaLand$Board" "harvested" "[Z", .fieldLink RX0 75 "SeaLand$Board" "settled" "I", .code yJ7_fill_53178 cJ7_fill_53178 4 none, .methodLink RX0 55 yJ7_fill_53178, .static yJ7_fill_53178, .initialized RJ7, .methodLink RX11 386 yX0_reap, .instanceMethod yX0_reap, .selects RX0 yX0_reap yX0_reap, .initialized RX0] ++ bs)
set_option maxHeartbeats 4000000 in
set_option maxRecDepth 100000 in
theorem x_harvest (l : Launch) (dC : Nat → ClassId) (dI : Nat → Nat → Nat) (a : Nat → Nat) (k : Nat → ClassId) (sz : Nat) : Met l yX11_harvest w_x_harvest ({ frames := 2, cells := 0, slots := 0, locals := 64 }) (va_Pc [.ref (a 0)] (fun U => U.heap.size = sz ∧ va_P (dC, dI) vwCl [(a 0, .inr (14, [.ref (a 1), .ref (a 2), .ref (a 27), .ref (a 30), .ref (a 74), .ref (a 75), .null, .int 0, .int 0])), (a 30, .inr (3, [.ref (a 31), .ref (a 32), .ref (a 33), .ref (a 34), .ref (a 35), .ref (a 36), .ref (a 37), .ref (a 38), .ref (a 50), .ref (a 62), .int (-1), .int 0, .long 0, .long 0, .int 0, .int 0, .int 0, .int 0])), (a 2, .inr (6, [.ref (a 3), .ref (a 14), .ref (a 26), .int 0, .int 0])), (a 35, .inl ((k 35), 5, .inl (fun _ => 0))), (a 14, .inr (5, [.ref (a 15), .ref (a 16), .ref (a 17), .ref (a 18), .ref (a 19), .ref (a 20), .ref (a 21), .ref (a 22), .ref (a 23), .ref (a 24), .ref (a 25), .int 0, .int 0, .int 0, .int 0])), (a 22, .inl ((k 22), 96, .inl (fun _ => 0)))] U.heap ∧ va_K (dC, dI) vwCl [((k 35), .boolean), ((k 22), .int)] U ∧ va_D (fun _ => True) [(a 0, .inr (14, [.ref (a 1), .ref (a 2), .ref (a 27), .ref (a 30), .ref (a 74), .ref (a 75), .null, .int 0, .int 0])), (a 30, .inr (3, [.ref (a 31), .ref (a 32), .ref (a 33), .ref (a 34), .ref (a 35), .ref (a 36), .ref (a 37), .ref (a 38), .ref (a 50), .ref (a 62), .int (-1), .int 0, .long 0, .long 0, .int 0, .int 0, .int 0, .int 0])), (a 2, .inr (6, [.ref (a 3), .ref (a 14), .ref (a 26), .int 0, .int 0])), (a 35, .inl ((k 35), 5, .inl (fun _ => 0))), (a 14, .inr (5, [.ref (a 15), .ref (a 16), .ref (a 17), .ref (a 18), .ref (a 19), .ref (a 20), .ref (a 21), .ref (a 22), .ref (a 23), .ref (a 24), .ref (a 25), .int 0, .int 0, .int 0, .int 0])), (a 22, .inl ((k 22), 96, .inl (fun _ => 0)))] ∧ EV (va_A [(a 0, .inr (14, [.ref (a 1), .ref (a 2), .ref (a 27), .ref (a 30), .ref (a 74), .ref (a 75), .null, .int 0, .int 0])), (a 30, .inr (3, [.ref (a 31), .ref (a 32), .ref (a 33), .ref (a 34), .ref (a 35), .ref (a 36), .ref (a 37), .ref (a 38), .ref (a 50), .ref (a 62), .int (-1), .int 0, .long 0, .long 0, .int 0, .int 0, .int 0, .int 0])), (a 2, .inr (6, [.ref (a 3), .ref (a 14), .ref (a 26), .int 0, .int 0])), (a 35, .inl ((k 35), 5, .inl (fun _ => 0))), (a 14, .inr (5, [.ref (a 15), .ref (a 16), .ref (a 17), .ref (a 18), .ref (a 19), .ref (a 20), .ref (a 21), .ref (a 22), .ref (a 23), .ref (a 24), .ref (a 25), .int 0, .int 0, .int 0, .int 0])), (a 22, .inl ((k 22), 96, .inl (fun _ => 0)))] sz) U U.heap)) (va_Qi (fun (r : Int32) (u : Unit) => r = 0) (fun (_ : Unit) (_ : State) => True) (va_A [(a 0, .inr (14, [.ref (a 1), .ref (a 2), .ref (a 27), .ref (a 30), .ref (a 74), .ref (a 75), .null, .int 0, .int 0])), (a 30, .inr (3, [.ref (a 31), .ref (a 32), .ref (a 33), .ref (a 34), .ref (a 35), .ref (a 36), .ref (a 37), .ref (a 38), .ref (a 50), .ref (a 62), .int (-1), .int 0, .long 0, .long 0, .int 0, .int 0, .int 0, .int 0])), (a 2, .inr (6, [.ref (a 3), .ref (a 14), .ref (a 26), .int 0, .int 0])), (a 35, .inl ((k 35), 5, .inl (fun _ => 0))), (a 14, .inr (5, [.ref (a 15), .ref (a 16), .ref (a 17), .ref (a 18), .ref (a 19), .ref (a 20), .ref (a 21), .ref (a 22), .ref (a 23), .ref (a 24), .ref (a 25), .int 0, .int 0, .int 0, .int 0])), (a 22, .inl ((k 22), 96, .inl (fun _ => 0)))] sz)) 0 0 (va_A [(a 0, .inr (14, [.ref (a 1), .ref (a 2), .ref (a 27), .ref (a 30), .ref (a 74), .ref (a 75), .null, .int 0, .int 0])), (a 30, .inr (3, [.ref (a 31), .ref (a 32), .ref (a 33), .ref (a 34), .ref (a 35), .ref (a 36), .ref (a 37), .ref (a 38), .ref (a 50), .ref (a 62), .int (-1), .int 0, .long 0, .long 0, .int 0, .int 0, .int 0, .int 0])), (a 2, .inr (6, [.ref (a 3), .ref (a 14), .ref (a 26), .int 0, .int 0])), (a 35, .inl ((k 35), 5, .inl (fun _ => 0))), (a 14, .inr (5, [.ref (a 15), .ref (a 16), .ref (a 17), .ref (a 18), .ref (a 19), .ref (a 20), .ref (a 21), .ref (a 22), .ref (a 23), .ref (a 24), .ref (a 25), .int 0, .int 0, .int 0, .int 0])), (a 22, .inl ((k 22), 96, .inl (fun _ => 0)))] sz) := by
  refine Met.ofW (cc := cX11_harvest) (maxL := 1) (ret := (some .int)) (by decide) rfl ?_
  intro p e s m args below meth c s₁ B hml hv
  obtain ⟨rfl, hsz, hP, hK, hD0, hE⟩ := hv
  have hx := B.exec
  have hb := B.bytes
  have hr := B.returns
  have hts := atoms_spec (ws := w_x_harvest) B.pre
  have hown : s.vm.findClass RX11 = some m.cls := findClass_of_methodNamed B.named
  have hlocks := B.notSynchronized
  subst hsz
  have hD := hD0.self (sz := s.heap.size)
  generalize hAe : va_A [(a 0, .inr (14, [.ref (a 1), .ref (a 2), .ref (a 27), .ref (a 30), .ref (a 74), .ref (a 75), .null, .int 0, .int 0])), (a 30, .inr (3, [.ref (a 31), .ref (a 32), .ref (a 33), .ref (a 34), .ref (a 35), .ref (a 36), .ref (a 37), .ref (a 38), .ref (a 50), .ref (a 62), .int (-1), .int 0, .long 0, .long 0, .int 0, .int 0, .int 0, .int 0])), (a 2, .inr (6, [.ref (a 3), .ref (a 14), .ref (a 26), .int 0, .int 0])), (a 35, .inl ((k 35), 5, .inl (fun _ => 0))), (a 14, .inr (5, [.ref (a 15), .ref (a 16), .ref (a 17), .ref (a 18), .ref (a 19), .ref (a 20), .ref (a 21), .ref (a 22), .ref (a 23), .ref (a 24), .ref (a 25), .int 0, .int 0, .int 0, .int 0])), (a 22, .inl ((k 22), 96, .inl (fun _ => 0)))] s.heap.size = A at hD hE ⊢
  have hA : ∀ q : Nat, s.heap.size ≤ q → A q := fun q h => by rw [← hAe]; exact Or.inr h
  have hS : va_S A s.heap s.heap [] := va_S.rf
  have hP : va_P (dC, dI) vwCl [(a 0, .inr (14, [.ref (a 1), .ref (a 2), .ref (a 27), .ref (a 30), .ref (a 74), .ref (a 75), .null, .int 0, .int 0])), (a 30, .inr (3, [.ref (a 31), .ref (a 32), .ref (a 33), .ref (a 34), .ref (a 35), .ref (a 36), .ref (a 37), .ref (a 38), .ref (a 50), .ref (a 62), .int (-1), .int 0, .long 0, .long 0, .int 0, .int 0, .int 0, .int 0])), (a 2, .inr (6, [.ref (a 3), .ref (a 14), .ref (a 26), .int 0, .int 0])), (a 35, .inl ((k 35), 5, .inl (fun _ => 0))), (a 14, .inr (5, [.ref (a 15), .ref (a 16), .ref (a 17), .ref (a 18), .ref (a 19), .ref (a 20), .ref (a 21), .ref (a 22), .ref (a 23), .ref (a 24), .ref (a 25), .int 0, .int 0, .int 0, .int 0])), (a 22, .inl ((k 22), 96, .inl (fun _ => 0)))] s.heap := hP
  have hl := lv_entry ([.ref (a 0)]) (n := 1) (Nat.le_of_ble_eq_true rfl)
  rw [lg_entry_eq]
  generalize (lg_sl ([.ref (a 0)]) ++ List.replicate (1 - (lg_sl ([.ref (a 0)])).length) Slot.unset).toArray = ls at hl ⊢
  have hl : lv_has ls 1 [(0, .ref (a 0))] := hl
  refine lv_aload_n hx hb dX11_harvest_0 rfl (lv_at hl 0 rfl) ?_
  refine va_get (D := (dC, dI)) (ci := 14) (v := .ref (a 30)) (C := RX11) (T := TX11) (N := 9) hx hb hts bF_X11 hown hK hP 0 rfl rfl 3 (by decide) (ht_at hts 0 rfl) (fun _ h9 => h9) rfl dX11_harvest_1 ?_
  refine lv_aload_n hx hb dX11_harvest_4 rfl (lv_at hl 0 rfl) ?_
  refine va_get (D := (dC, dI)) (ci := 14) (v := .ref (a 2)) (C := RX11) (T := TX11) (N := 9) hx hb hts bF_X11 hown hK hP 0 rfl rfl 1 (by decide) (ht_at hts 1 rfl) (fun _ h9 => h9) rfl dX11_harvest_5 ?_
  have hPc := hP.sub (ws' := [(a 30, .inr (3, [.ref (a 31), .ref (a 32), .ref (a 33), .ref (a 34), .ref (a 35), .ref (a 36), .ref (a 37), .ref (a 38), .ref (a 50), .ref (a 62), .int (-1), .int 0, .long 0, .long 0, .int 0, .int 0, .int 0, .int 0])), (a 2, .inr (6, [.ref (a 3), .ref (a 14), .ref (a 26), .int 0, .int 0])), (a 35, .inl ((k 35), 5, .inl (fun _ => 0))), (a 14, .inr (5, [.ref (a 15), .ref (a 16), .ref (a 17), .ref (a 18), .ref (a 19), .ref (a 20), .ref (a 21), .ref (a 22), .ref (a 23), .ref (a 24), .ref (a 25), .int 0, .int 0, .int 0, .int 0])), (a 22, .inl ((k 22), 96, .inl (fun _ => 0)))]) [1, 2, 3, 4, 5] rfl
  have hDc := hD.sub (ws' := [(a 30, .inr (3, [.ref (a 31), .ref (a 32), .ref (a 33), .ref (a 34), .ref (a 35), .ref (a 36), .ref (a 37), .ref (a 38), .ref (a 50), .ref (a 62), .int (-1), .int 0, .long 0, .long 0, .int 0, .int 0, .int 0, .int 0])), (a 2, .inr (6, [.ref (a 3), .ref (a 14), .ref (a 26), .int 0, .int 0])), (a 35, .inl ((k 35), 5, .inl (fun _ => 0))), (a 14, .inr (5, [.ref (a 15), .ref (a 16), .ref (a 17), .ref (a 18), .ref (a 19), .ref (a 20), .ref (a 21), .ref (a 22), .ref (a 23), .ref (a 24), .ref (a 25), .int 0, .int 0, .int 0, .int 0])), (a 22, .inl ((k 22), 96, .inl (fun _ => 0)))]) [1, 2, 3, 4, 5] (by decide) rfl
  have hKc := hK.sub (tys' := [((k 35), .boolean), ((k 22), .int)]) [0, 1] rfl
  have hFc := va_free (wc := [(a 30, .inr (3, [.ref (a 31), .ref (a 32), .ref (a 33), .ref (a 34), .ref (a 35), .ref (a 36), .ref (a 37), .ref (a 38), .ref (a 50), .ref (a 62), .int (-1), .int 0, .long 0, .long 0, .int 0, .int 0, .int 0, .int 0])), (a 2, .inr (6, [.ref (a 3), .ref (a 14), .ref (a 26), .int 0, .int 0])), (a 35, .inl ((k 35), 5, .inl (fun _ => 0))), (a 14, .inr (5, [.ref (a 15), .ref (a 16), .ref (a 17), .ref (a 18), .ref (a 19), .ref (a 20), .ref (a 21), .ref (a 22), .ref (a 23), .ref (a 24), .ref (a 25), .int 0, .int 0, .int 0, .int 0])), (a 22, .inl ((k 22), 96, .inl (fun _ => 0)))]) hD hS hA [1, 2, 3, 4, 5] rfl
  refine va_calli (va_runV (As := [.ref (a 2)]) (rest := []) ⟨hx, hb, hml, hown, hts⟩ (x_reap l dC dI a k s.heap.size ) (cwV 1 hts (goodIn_app (goodIn_r _ [20, 21, 22, 23] (by decide +kernel) (by decide +kernel)) (goodIn_ca (goodIn_r _ [3, 4, 5, 6, 7, 8, 9, 10, 11, 12, 13, 14, 15, 16, 17, 18, 19] (by decide +kernel) (by decide +kernel)) (bs_in _ _))) rfl rfl rfl (by decide +kernel) ⟨(Nat.le_of_ble_eq_true rfl), (Nat.le_of_ble_eq_true rfl)⟩) ⟨fun a U g mk q => by obtain ⟨q0, q1, qP, qK, qD, qE⟩ := q; exact ⟨q0, q1, qP, va_K.moved (u := U) (U := U.calling g mk a) (Vm.Alike.refl U.vm) qK, qD, EV.blind g mk a qE⟩, va_recv hKc hPc (ci := 3) (q0 := 0) rfl rfl, fun U hU hW => ⟨rfl, by rw [hU], by rw [hU]; exact hPc, va_K.moved hW.alike hKc, hDc.weaken (fun _ _ _ _ => trivial), hE.call hS hFc hU hW⟩⟩ rfl rfl hl.1 rfl (lv_room (Nat.le_of_ble_eq_true rfl)) dX11_harvest_8 ⟨(Nat.le_of_ble_eq_true rfl), (Nat.le_of_ble_eq_true rfl)⟩) hS (fun q _ h => hFc q h) hFc (fun r2 u t H1 locs ht hvm hw3 hB hz1 hk1 hS => ?_)
  have hP1 : va_P (dC, dI) vwCl [] H1 := nilP
  have hD1 : va_D (va_A [(a 30, .inr (3, [.ref (a 31), .ref (a 32), .ref (a 33), .ref (a 34), .ref (a 35), .ref (a 36), .ref (a 37), .ref (a 38), .ref (a 50), .ref (a 62), .int (-1), .int 0, .long 0, .long 0, .int 0, .int 0, .int 0, .int 0])), (a 2, .inr (6, [.ref (a 3), .ref (a 14), .ref (a 26), .int 0, .int 0])), (a 35, .inl ((k 35), 5, .inl (fun _ => 0))), (a 14, .inr (5, [.ref (a 15), .ref (a 16), .ref (a 17), .ref (a 18), .ref (a 19), .ref (a 20), .ref (a 21), .ref (a 22), .ref (a 23), .ref (a 24), .ref (a 25), .int 0, .int 0, .int 0, .int 0])), (a 22, .inl ((k 22), 96, .inl (fun _ => 0)))] s.heap.size) [] := nilD
  have hK := hK
  obtain ⟨hP, hD⟩ := va_join (wr := [(a 0, .inr (14, [.ref (a 1), .ref (a 2), .ref (a 27), .ref (a 30), .ref (a 74), .ref (a 75), .null, .int 0, .int 0]))]) (w1 := []) hP hD [1, 2, 3, 4, 5] [0] rfl rfl (by decide) (by decide) hk1 hFc hP1 hD1
  generalize H1 = H at hP hS ⊢
  have hP : va_P (dC, dI) vwCl [(a 0, .inr (14, [.ref (a 1), .ref (a 2), .ref (a 27), .ref (a 30), .ref (a 74), .ref (a 75), .null, .int 0, .int 0]))] H := hP
  have hD : va_D A [(a 0, .inr (14, [.ref (a 1), .ref (a 2), .ref (a 27), .ref (a 30), .ref (a 74), .ref (a 75), .null, .int 0, .int 0]))] := hD
  try dsimp only at hw3
  obtain rfl : 0 = r2 := (hw3).symm
  exact W.iret (v := 0) hx hb hr (fun t ht hW => ⟨⟨0, (), rfl, (by rfl), trivial⟩, hS.F ht⟩) hS.2.2 dX11_harvest_11
def w_m_arrears : List Cond := .code yX12_arrears cX12_arrears 5 (some .int) :: ([.fieldLink RX12 194 "SeaLandModel" "thrown" "I", .fieldLink RX12 495 "SeaLandModel" "settlers" "I"] ++ bs)
set_option maxHeartbeats 4000000 in
set_option maxRecDepth 100000 in
theorem m_arrears (l : Launch) (dC : Nat → ClassId) (dI : Nat → Nat → Nat) (h0 : Nat) (q : Nat → Nat) (cm : Nat → ClassId) (p0 : Int32) (sz : Nat) : Met l yX12_arrears w_m_arrears ({ frames := 0, cells := 0, slots := 0, locals := 0 }) (va_Pc [.ref h0, .int p0] (fun U => U.heap.size = sz ∧ va_P (dC, dI) vwCl [(h0, .inr (15, mF q 0))] U.heap ∧ va_K (dC, dI) vwCl [] U ∧ va_D (fun _ => True) [(h0, .inr (15, mF q 0))])) (va_Qi (fun (r : Int32) (u : List Value) => u[0]? = some (.int (T_arrears p0).1) ∧ ((T_arrears p0).1 = 0 → r = (T_arrears p0).2)) (fun (fs : List Value) (t : State) => va_P (dC, dI) vwCl [(h0, .inr (15, fs))] t.heap ∧ va_D (va_A [(h0, .inr (15, mF q 0))] sz) [(h0, .inr (15, fs))]) (va_A [(h0, .inr (15, mF q 0))] sz)) 0 0 (va_A [(h0, .inr (15, mF q 0))] sz) := by
  refine Met.ofW (cc := cX12_arrears) (maxL := 5) (ret := (some .int)) (by decide) rfl ?_
  intro p e s m args below meth c s₁ B hml hv
  obtain ⟨rfl, hsz, hP, hK, hD0⟩ := hv
  have hx := B.exec
  have hb := B.bytes
  have hr := B.returns
  have hts := atoms_spec (ws := w_m_arrears) B.pre
  have hown : s.vm.findClass RX12 = some m.cls := findClass_of_methodNamed B.named
  have hlocks := B.notSynchronized
  subst hsz
  have hD := hD0.self (sz := s.heap.size)
  generalize hAe : va_A [(h0, .inr (15, mF q 0))] s.heap.size = A at hD ⊢
  have hA : ∀ q : Nat, s.heap.size ≤ q → A q := fun q h => by rw [← hAe]; exact Or.inr h
  have hS : va_S A s.heap s.heap [] := va_S.rf
  have hP : va_P (dC, dI) vwCl [(h0, .inr (15, mF q 0))] s.heap := hP
  have hl := lv_entry ([.ref h0, .int p0]) (n := 5) (Nat.le_of_ble_eq_true rfl)
  rw [lg_entry_eq]
  generalize (lg_sl ([.ref h0, .int p0]) ++ List.replicate (5 - (lg_sl ([.ref h0, .int p0])).length) Slot.unset).toArray = ls at hl ⊢
  have hl : lv_has ls 5 [(0, .ref h0), (1, .int p0)] := hl
  refine lv_aload_n hx hb dX12_arrears_0 rfl (lv_at hl 0 rfl) ?_
  refine lv_iconst (v := 0) hx hb dX12_arrears_1 (by decide) ?_
  refine va_put (D := (dC, dI)) (ci := 15) (v := .int 0) (ty := .int) (C := RX12) (T := TX12) (N := 78) hx hb hts bF_X12 tyX12 tyX12_ok nmX12 hown hK hP hD hS 0 rfl rfl 0 (by decide) (ht_at hts 0 rfl) (fun _ h9 => h9) rfl (by decide +kernel) rfl rfl (Nat.le_of_ble_eq_true rfl) dX12_arrears_2 (fun H locs hP hD hS => ?_)
  have hP : va_P (dC, dI) vwCl [(h0, .inr (15, mF q 0))] H := hP
  have hD : va_D A [(h0, .inr (15, mF q 0))] := hD
  refine lv_iload_n hx hb dX12_arrears_5 rfl (lv_at hl 1 rfl) ?_
  refine lv_if_lt (tgt := 17) hx hb dX12_arrears_6 (by decide) (fun c1 => ?_) (fun c1 => ?_)
  · refine lv_iconst (v := (-1)) hx hb dX12_arrears_17 (by decide) ?_
    exact W.iret (v := (-1)) hx hb hr (fun t ht hW => ⟨⟨(-1), (mF q 0), rfl, (by unfold T_arrears; (first | exact ⟨rfl, fun _ => rfl⟩ | exact ⟨rfl, fun h => absurd h (by decide)⟩)), by rw [ht]; exact hP.sub (ws' := [(h0, .inr (15, mF q 0))]) [0] rfl, hD.sub (ws' := [(h0, .inr (15, mF q 0))]) [0] (by decide) rfl⟩, hS.F ht⟩) hS.2.2 dX12_arrears_18
  · refine lv_iload_n hx hb dX12_arrears_9 rfl (lv_at hl 1 rfl) ?_
    refine lv_aload_n hx hb dX12_arrears_10 rfl (lv_at hl 0 rfl) ?_
    refine va_get (D := (dC, dI)) (ci := 15) (v := .int 0) (C := RX12) (T := TX12) (N := 78) hx hb hts bF_X12 hown hK hP 0 rfl rfl 42 (by decide) (ht_at hts 1 rfl) (fun _ h9 => h9) rfl dX12_arrears_11 ?_
    refine lv_icmp_lt (tgt := 19) hx hb dX12_arrears_14 (by decide) (fun c2 => absurd c2 c1) (fun c2 => ?_)
    refine lv_iconst (v := (-1)) hx hb dX12_arrears_17 (by decide) ?_
    exact W.iret (v := (-1)) hx hb hr (fun t ht hW => ⟨⟨(-1), (mF q 0), rfl, (by unfold T_arrears; (first | exact ⟨rfl, fun _ => rfl⟩ | exact ⟨rfl, fun h => absurd h (by decide)⟩)), by rw [ht]; exact hP.sub (ws' := [(h0, .inr (15, mF q 0))]) [0] rfl, hD.sub (ws' := [(h0, .inr (15, mF q 0))]) [0] (by decide) rfl⟩, hS.F ht⟩) hS.2.2 dX12_arrears_18
def w_m_choose : List Cond := .code yX12_choose cX12_choose 6 (some .int) :: ([.fieldLink RX12 194 "SeaLandModel" "thrown" "I", .code yX12_in cX12_in 3 (some .boolean), .methodLink RX12 197 yX12_in, .static yX12_in, .initialized RX12, .code yX12_throwsIf cX12_throwsIf 3 (some .boolean), .methodLink RX12 224 yX12_throwsIf, .instanceMethod yX12_throwsIf, .selects RX12 yX12_throwsIf yX12_throwsIf, .fieldLink RX12 495 "SeaLandModel" "settlers" "I", .code yX12_nextOne cX12_nextOne 3 (some .int), .methodLink RX12 508 yX12_nextOne, .instanceMethod yX12_nextOne, .selects RX12 yX12_nextOne yX12_nextOne, .code yX12_bestFarm cX12_bestFarm 3 (some .int), .fieldLink RX12 498 "SeaLandModel" "farms" "I", .methodLink RX12 511 yX12_bestFarm, .instanceMethod yX12_bestFarm, .selects RX12 yX12_bestFarm yX12_bestFarm] ++ bs)
set_option maxHeartbeats 4000000 in
set_option maxRecDepth 100000 in
theorem m_choose (l : Launch) (dC : Nat → ClassId) (dI : Nat → Nat → Nat) (h0 : Nat) (q : Nat → Nat) (cm : Nat → ClassId) (p0 : Int32) (sz : Nat) : Met l yX12_choose w_m_choose ({ frames := 1, cells := 0, slots := 0, locals := 22 }) (va_Pc [.ref h0, .int p0] (fun U => U.heap.size = sz ∧ va_P (dC, dI) vwCl [(h0, .inr (15, mF q 0))] U.heap ∧ va_K (dC, dI) vwCl [] U ∧ va_D (fun _ => True) [(h0, .inr (15, mF q 0))])) (va_Qi (fun (r : Int32) (u : List Value) => u[0]? = some (.int (T_choose p0).1) ∧ ((T_choose p0).1 = 0 → r = (T_choose p0).2)) (fun (fs : List Value) (t : State) => va_P (dC, dI) vwCl [(h0, .inr (15, fs))] t.heap ∧ va_D (va_A [(h0, .inr (15, mF q 0))] sz) [(h0, .inr (15, fs))]) (va_A [(h0, .inr (15, mF q 0))] sz)) 0 0 (va_A [(h0, .inr (15, mF q 0))] sz) := by
  refine Met.ofW (cc := cX12_choose) (maxL := 6) (ret := (some .int)) (by decide) rfl ?_
  intro p e s m args below meth c s₁ B hml hv
  obtain ⟨rfl, hsz, hP, hK, hD0⟩ := hv
  have hx := B.exec
  have hb := B.bytes
  have hr := B.returns
  have hts := atoms_spec (ws := w_m_choose) B.pre
  have hown : s.vm.findClass RX12 = some m.cls := findClass_of_methodNamed B.named
  have hlocks := B.notSynchronized
  subst hsz
  have hD := hD0.self (sz := s.heap.size)
  generalize hAe : va_A [(h0, .inr (15, mF q 0))] s.heap.size = A at hD ⊢
  have hA : ∀ q : Nat, s.heap.size ≤ q → A q := fun q h => by rw [← hAe]; exact Or.inr h
  have hS : va_S A s.heap s.heap [] := va_S.rf
  have hP : va_P (dC, dI) vwCl [(h0, .inr (15, mF q 0))] s.heap := hP
  have hl := lv_entry ([.ref h0, .int p0]) (n := 6) (Nat.le_of_ble_eq_true rfl)
  rw [lg_entry_eq]
  generalize (lg_sl ([.ref h0, .int p0]) ++ List.replicate (6 - (lg_sl ([.ref h0, .int p0])).length) Slot.unset).toArray = ls at hl ⊢
  have hl : lv_has ls 6 [(0, .ref h0), (1, .int p0)] := hl
  refine lv_aload_n hx hb dX12_choose_0 rfl (lv_at hl 0 rfl) ?_
  refine lv_iconst (v := 0) hx hb dX12_choose_1 (by decide) ?_
  refine va_put (D := (dC, dI)) (ci := 15) (v := .int 0) (ty := .int) (C := RX12) (T := TX12) (N := 78) hx hb hts bF_X12 tyX12 tyX12_ok nmX12 hown hK hP hD hS 0 rfl rfl 0 (by decide) (ht_at hts 0 rfl) (fun _ h9 => h9) rfl (by decide +kernel) rfl rfl (Nat.le_of_ble_eq_true rfl) dX12_choose_2 (fun H locs hP hD hS => ?_)
  have hP : va_P (dC, dI) vwCl [(h0, .inr (15, mF q 0))] H := hP
  have hD : va_D A [(h0, .inr (15, mF q 0))] := hD
  refine lv_aload_n hx hb dX12_choose_5 rfl (lv_at hl 0 rfl) ?_
  refine lv_iload_n hx hb dX12_choose_6 rfl (lv_at hl 1 rfl) ?_
  refine lv_iconst (v := 0) hx hb dX12_choose_7 (by decide) ?_
  refine lv_bipush (v := 60) hx hb dX12_choose_8 (by decide) ?_
  have hPc := hP.sub (ws' := []) [] rfl
  have hDc := hD.sub (ws' := []) [] (by decide) rfl
  have hKc := hK.sub (tys' := []) [] rfl
  have hFc := va_free (wc := []) hD hS hA [] rfl
  refine va_calli (va_runS (As := [.int p0, .int 0, .int 60]) (rest := [.ref h0]) ⟨hx, hb, hml, hown, hts⟩ (c_min_ l dC dI p0 0 60 H.size ) (va_cwS 3 hts (goodIn_app (goodIn_r _ [3, 4, 5] (by decide +kernel) (by decide +kernel)) (goodIn_ca (goodIn_r _ [2] (by decide +kernel) (by decide +kernel)) (bs_in _ _))) rfl rfl rfl (by decide +kernel) ⟨(Nat.le_of_ble_eq_true rfl), (Nat.le_of_ble_eq_true rfl)⟩) ⟨fun a U g mk q => by obtain ⟨q0, q1, qP, qK, qD⟩ := q; exact ⟨q0, q1, qP, va_K.moved (u := U) (U := U.calling g mk a) (Vm.Alike.refl U.vm) qK, qD⟩, fun U hU hW => ⟨rfl, by rw [hU], by rw [hU]; exact hPc, va_K.moved hW.alike hKc, hDc.weaken (fun _ _ _ _ => trivial)⟩⟩ rfl rfl hl.1 rfl (lv_room (Nat.le_of_ble_eq_true rfl)) dX12_choose_10 ⟨(Nat.le_of_ble_eq_true rfl), (Nat.le_of_ble_eq_true rfl)⟩) hS (fun q _ h => hFc q h) hFc (fun r2 u t H1 locs ht hvm hw3 hB hz1 hk1 hS => ?_)
  have hP1 : va_P (dC, dI) vwCl [] H1 := nilP
  have hD1 : va_D (va_A [] H.size) [] := nilD
  have hK := hK
  obtain ⟨hP, hD⟩ := va_join (wr := [(h0, .inr (15, mF q 0))]) (w1 := []) hP hD [] [0] rfl rfl (by decide) (by decide) hk1 hFc hP1 hD1
  generalize H1 = H at hP hS ⊢
  have hP : va_P (dC, dI) vwCl [(h0, .inr (15, mF q 0))] H := hP
  have hD : va_D A [(h0, .inr (15, mF q 0))] := hD
  try dsimp only at hw3
  by_cases hc4 : (0 : Int32) ≤ p0 ∧ p0 ≤ (60 : Int32)
  · rw [if_pos hc4] at hw3
    subst hw3
    refine lv_if_ne (tgt := 20) hx hb dX12_choose_13 (by decide) (fun c5 => ?_) (fun c5 => absurd c5 (by decide))
    refine lv_iconst (v := 0) hx hb dX12_choose_20 (by decide) ?_
    refine lv_iconst (v := 1) hx hb dX12_choose_21 (by decide) ?_
    have hPc := hP.sub (ws' := [(h0, .inr (15, mF q 0))]) [0] rfl
    have hDc := hD.sub (ws' := [(h0, .inr (15, mF q 0))]) [0] (by decide) rfl
    have hKc := hK.sub (tys' := []) [] rfl
    have hFc := va_free (wc := [(h0, .inr (15, mF q 0))]) hD hS hA [0] rfl
    refine va_calli (va_runV (As := [.int 0, .int 1]) (rest := []) ⟨hx, hb, hml, hown, hts⟩ (c_m_throwsIf0 l dC dI h0 (mF q 0) 1 H.size ) (cwV 2 hts (goodIn_app (goodIn_r _ [7, 8, 9, 5] (by decide +kernel) (by decide +kernel)) (goodIn_ca (goodIn_r _ [6] (by decide +kernel) (by decide +kernel)) (bs_in _ _))) rfl rfl rfl (by decide +kernel) ⟨(Nat.le_of_ble_eq_true rfl), (Nat.le_of_ble_eq_true rfl)⟩) ⟨fun a U g mk q => by obtain ⟨q0, q1, qP, qK, qD⟩ := q; exact ⟨q0, q1, qP, va_K.moved (u := U) (U := U.calling g mk a) (Vm.Alike.refl U.vm) qK, qD⟩, va_recv hKc hPc (ci := 15) (q0 := 0) rfl rfl, fun U hU hW => ⟨rfl, by rw [hU], by rw [hU]; exact hPc, va_K.moved hW.alike hKc, hDc.weaken (fun _ _ _ _ => trivial)⟩⟩ rfl rfl hl.1 rfl (lv_room (Nat.le_of_ble_eq_true rfl)) dX12_choose_22 ⟨(Nat.le_of_ble_eq_true rfl), (Nat.le_of_ble_eq_true rfl)⟩) hS (fun q _ h => hFc q h) hFc (fun r7 u t H1 locs ht hvm hw8 hB hz1 hk1 hS => ?_)
    obtain ⟨hP1, hD1⟩ := hB
    rw [ht] at hP1
    obtain ⟨hP, hD⟩ := va_join (wr := []) (w1 := [(h0, .inr (15, mF q 0))]) hP hD [0] [] rfl rfl (by decide) (by decide) hk1 hFc hP1 hD1
    generalize H1 = H at hP hS ⊢
    have hP : va_P (dC, dI) vwCl [(h0, .inr (15, mF q 0))] H := hP
    have hD : va_D A [(h0, .inr (15, mF q 0))] := hD
    try dsimp only at hw8
    obtain rfl : 0 = r7 := (hw8).symm
    refine lv_if_eq (tgt := 30) hx hb dX12_choose_25 (by decide) (fun c9 => ?_) (fun c9 => absurd c9 (by decide))
    refine lv_iconst (v := 0) hx hb dX12_choose_30 (by decide) ?_
    refine lv_istore_n (lv' := [(2, .int 0), (0, .ref h0), (1, .int p0)]) hx hb dX12_choose_31 rfl hl (by decide) rfl (fun ls hl => ?_)
    refine lv_iload_n hx hb dX12_choose_32 rfl (lv_at hl 0 rfl) ?_
    refine lv_aload_n hx hb dX12_choose_33 rfl (lv_at hl 1 rfl) ?_
    refine va_get (D := (dC, dI)) (ci := 15) (v := .int 0) (C := RX12) (T := TX12) (N := 78) hx hb hts bF_X12 hown hK hP 0 rfl rfl 42 (by decide) (ht_at hts 9 rfl) (fun _ h9 => h9) rfl dX12_choose_34 ?_
    refine lv_icmp_ge (tgt := 90) hx hb dX12_choose_37 (by decide) (fun c10 => ?_) (fun c10 => absurd c10 (by decide))
    refine lv_iconst (v := 0) hx hb dX12_choose_90 (by decide) ?_
    refine lv_istore_n (lv' := [(2, .int 0), (0, .ref h0), (1, .int p0)]) hx hb dX12_choose_91 rfl hl (by decide) rfl (fun ls hl => ?_)
    refine lv_iconst (v := 0) hx hb dX12_choose_92 (by decide) ?_
    refine lv_istore_n (lv' := [(3, .int 0), (2, .int 0), (0, .ref h0), (1, .int p0)]) hx hb dX12_choose_93 rfl hl (by decide) rfl (fun ls hl => ?_)
    refine lv_iload_n hx hb dX12_choose_94 rfl (lv_at hl 0 rfl) ?_
    refine lv_iload_n hx hb dX12_choose_95 rfl (lv_at hl 3 rfl) ?_
    refine lv_icmp_ge (tgt := 158) hx hb dX12_choose_96 (by decide) (fun c11 => ?_) (fun c11 => ?_)
    · refine lv_iload_n hx hb dX12_choose_158 rfl (lv_at hl 1 rfl) ?_
      exact W.iret (v := 0) hx hb hr (fun t ht hW => ⟨⟨0, (mF q 0), rfl, (by unfold T_choose; rw [if_pos hc4]; (first | exact ⟨rfl, fun _ => rfl⟩ | exact ⟨rfl, fun h => absurd h (by decide)⟩)), by rw [ht]; exact hP.sub (ws' := [(h0, .inr (15, mF q 0))]) [0] rfl, hD.sub (ws' := [(h0, .inr (15, mF q 0))]) [0] (by decide) rfl⟩, hS.F ht⟩) hS.2.2 dX12_choose_159
    · refine lv_aload_n hx hb dX12_choose_99 rfl (lv_at hl 2 rfl) ?_
      have hPc := hP.sub (ws' := [(h0, .inr (15, mF q 0))]) [0] rfl
      have hDc := hD.sub (ws' := [(h0, .inr (15, mF q 0))]) [0] (by decide) rfl
      have hKc := hK.sub (tys' := []) [] rfl
      have hFc := va_free (wc := [(h0, .inr (15, mF q 0))]) hD hS hA [0] rfl
      refine va_calli (va_runV (As := []) (rest := []) ⟨hx, hb, hml, hown, hts⟩ (m_nextOne l dC dI h0 q cm H.size ) (cwV 0 hts (goodIn_app (goodIn_r _ [12, 13, 14, 5] (by decide +kernel) (by decide +kernel)) (goodIn_ca (goodIn_r _ [11, 10] (by decide +kernel) (by decide +kernel)) (bs_in _ _))) rfl rfl rfl (by decide +kernel) ⟨(Nat.le_of_ble_eq_true rfl), (Nat.le_of_ble_eq_true rfl)⟩) ⟨fun a U g mk q => by obtain ⟨q0, q1, qP, qK, qD⟩ := q; exact ⟨q0, q1, qP, va_K.moved (u := U) (U := U.calling g mk a) (Vm.Alike.refl U.vm) qK, qD⟩, va_recv hKc hPc (ci := 15) (q0 := 0) rfl rfl, fun U hU hW => ⟨rfl, by rw [hU], by rw [hU]; exact hPc, va_K.moved hW.alike hKc, hDc.weaken (fun _ _ _ _ => trivial)⟩⟩ rfl rfl hl.1 rfl (lv_room (Nat.le_of_ble_eq_true rfl)) dX12_choose_100 ⟨(Nat.le_of_ble_eq_true rfl), (Nat.le_of_ble_eq_true rfl)⟩) hS (fun q _ h => hFc q h) hFc (fun r13 u t H1 locs ht hvm hw14 hB hz1 hk1 hS => ?_)
      obtain ⟨hP1, hD1⟩ := hB
      rw [ht] at hP1
      obtain ⟨hP, hD⟩ := va_join (wr := []) (w1 := [(h0, .inr (15, mF q 0))]) hP hD [0] [] rfl rfl (by decide) (by decide) hk1 hFc hP1 hD1
      generalize H1 = H at hP hS ⊢
      have hP : va_P (dC, dI) vwCl [(h0, .inr (15, mF q 0))] H := hP
      have hD : va_D A [(h0, .inr (15, mF q 0))] := hD
      try dsimp only at hw14
      obtain rfl : (-1) = r13 := (hw14).symm
      refine lv_istore (lv' := [(4, .int (-1)), (3, .int 0), (2, .int 0), (0, .ref h0), (1, .int p0)]) hx hb dX12_choose_103 hl (by decide) rfl (fun ls hl => ?_)
      refine lv_aload_n hx hb dX12_choose_105 rfl (lv_at hl 3 rfl) ?_
      have hPc := hP.sub (ws' := [(h0, .inr (15, mF q 0))]) [0] rfl
      have hDc := hD.sub (ws' := [(h0, .inr (15, mF q 0))]) [0] (by decide) rfl
      have hKc := hK.sub (tys' := []) [] rfl
      have hFc := va_free (wc := [(h0, .inr (15, mF q 0))]) hD hS hA [0] rfl
      refine va_calli (va_runV (As := []) (rest := []) ⟨hx, hb, hml, hown, hts⟩ (m_bestFarm l dC dI h0 q cm H.size ) (cwV 0 hts (goodIn_app (goodIn_r _ [17, 18, 19, 5] (by decide +kernel) (by decide +kernel)) (goodIn_ca (goodIn_r _ [15, 16] (by decide +kernel) (by decide +kernel)) (bs_in _ _))) rfl rfl rfl (by decide +kernel) ⟨(Nat.le_of_ble_eq_true rfl), (Nat.le_of_ble_eq_true rfl)⟩) ⟨fun a U g mk q => by obtain ⟨q0, q1, qP, qK, qD⟩ := q; exact ⟨q0, q1, qP, va_K.moved (u := U) (U := U.calling g mk a) (Vm.Alike.refl U.vm) qK, qD⟩, va_recv hKc hPc (ci := 15) (q0 := 0) rfl rfl, fun U hU hW => ⟨rfl, by rw [hU], by rw [hU]; exact hPc, va_K.moved hW.alike hKc, hDc.weaken (fun _ _ _ _ => trivial)⟩⟩ rfl rfl hl.1 rfl (lv_room (Nat.le_of_ble_eq_true rfl)) dX12_choose_106 ⟨(Nat.le_of_ble_eq_true rfl), (Nat.le_of_ble_eq_true rfl)⟩) hS (fun q _ h => hFc q h) hFc (fun r16 u t H1 locs ht hvm hw17 hB hz1 hk1 hS => ?_)
      obtain ⟨hP1, hD1⟩ := hB
      rw [ht] at hP1
      obtain ⟨hP, hD⟩ := va_join (wr := []) (w1 := [(h0, .inr (15, mF q 0))]) hP hD [0] [] rfl rfl (by decide) (by decide) hk1 hFc hP1 hD1
      generalize H1 = H at hP hS ⊢
      have hP : va_P (dC, dI) vwCl [(h0, .inr (15, mF q 0))] H := hP
      have hD : va_D A [(h0, .inr (15, mF q 0))] := hD
      try dsimp only at hw17
      obtain rfl : (-1) = r16 := (hw17).symm
      refine lv_istore (lv' := [(5, .int (-1)), (4, .int (-1)), (3, .int 0), (2, .int 0), (0, .ref h0), (1, .int p0)]) hx hb dX12_choose_109 hl (by decide) rfl (fun ls hl => ?_)
      refine lv_iload hx hb dX12_choose_111 (lv_at hl 1 rfl) ?_
      refine lv_if_lt (tgt := 121) hx hb dX12_choose_113 (by decide) (fun c18 => ?_) (fun c18 => absurd c18 (by decide))
      refine lv_iload_n hx hb dX12_choose_121 rfl (lv_at hl 3 rfl) ?_
      exact W.iret (v := 0) hx hb hr (fun t ht hW => ⟨⟨0, (mF q 0), rfl, (by unfold T_choose; rw [if_pos hc4]; (first | exact ⟨rfl, fun _ => rfl⟩ | exact ⟨rfl, fun h => absurd h (by decide)⟩)), by rw [ht]; exact hP.sub (ws' := [(h0, .inr (15, mF q 0))]) [0] rfl, hD.sub (ws' := [(h0, .inr (15, mF q 0))]) [0] (by decide) rfl⟩, hS.F ht⟩) hS.2.2 dX12_choose_122
  · rw [if_neg hc4] at hw3
    subst hw3
    refine lv_if_ne (tgt := 20) hx hb dX12_choose_13 (by decide) (fun c19 => absurd c19 (by decide)) (fun c19 => ?_)
    refine lv_iconst (v := 1) hx hb dX12_choose_16 (by decide) ?_
    refine lv_goto (tgt := 21) hx hb dX12_choose_17 (by decide) ?_
    refine lv_iconst (v := 1) hx hb dX12_choose_21 (by decide) ?_
    have hPc := hP.sub (ws' := [(h0, .inr (15, mF q 0))]) [0] rfl
    have hDc := hD.sub (ws' := [(h0, .inr (15, mF q 0))]) [0] (by decide) rfl
    have hKc := hK.sub (tys' := []) [] rfl
    have hFc := va_free (wc := [(h0, .inr (15, mF q 0))]) hD hS hA [0] rfl
    refine va_calli (va_runV (As := [.int 1, .int 1]) (rest := []) ⟨hx, hb, hml, hown, hts⟩ (c_m_throwsIf1 l dC dI h0 (mF q 0) 1 H.size rfl) (cwV 2 hts (goodIn_app (goodIn_r _ [7, 8, 9, 5] (by decide +kernel) (by decide +kernel)) (goodIn_ca (goodIn_r _ [6, 1] (by decide +kernel) (by decide +kernel)) (bs_in _ _))) rfl rfl rfl (by decide +kernel) ⟨(Nat.le_of_ble_eq_true rfl), (Nat.le_of_ble_eq_true rfl)⟩) ⟨fun a U g mk q => by obtain ⟨q0, q1, qP, qK, qD⟩ := q; exact ⟨q0, q1, qP, va_K.moved (u := U) (U := U.calling g mk a) (Vm.Alike.refl U.vm) qK, qD⟩, va_recv hKc hPc (ci := 15) (q0 := 0) rfl rfl, fun U hU hW => ⟨rfl, by rw [hU], by rw [hU]; exact hPc, va_K.moved hW.alike hKc, hDc.weaken (fun _ _ _ _ => trivial)⟩⟩ rfl rfl hl.1 rfl (lv_room (Nat.le_of_ble_eq_true rfl)) dX12_choose_22 ⟨(Nat.le_of_ble_eq_true rfl), (Nat.le_of_ble_eq_true rfl)⟩) hS (fun q _ h => hFc q h) hFc (fun r21 u t H1 locs ht hvm hw22 hB hz1 hk1 hS => ?_)
    obtain ⟨hP1, hD1⟩ := hB
    rw [ht] at hP1
    obtain ⟨hP, hD⟩ := va_join (wr := []) (w1 := [(h0, .inr (15, mF q 1))]) hP hD [0] [] rfl rfl (by decide) (by decide) hk1 hFc hP1 hD1
    generalize H1 = H at hP hS ⊢
    have hP : va_P (dC, dI) vwCl [(h0, .inr (15, mF q 1))] H := hP
    have hD : va_D A [(h0, .inr (15, mF q 1))] := hD
    try dsimp only at hw22
    obtain rfl : 1 = r21 := (hw22).symm
    refine lv_if_eq (tgt := 30) hx hb dX12_choose_25 (by decide) (fun c23 => absurd c23 (by decide)) (fun c23 => ?_)
    refine lv_iconst (v := 0) hx hb dX12_choose_28 (by decide) ?_
    exact W.iret (v := 0) hx hb hr (fun t ht hW => ⟨⟨0, (mF q 1), rfl, (by unfold T_choose; rw [if_neg hc4]; (first | exact ⟨rfl, fun _ => rfl⟩ | exact ⟨rfl, fun h => absurd h (by decide)⟩)), by rw [ht]; exact hP.sub (ws' := [(h0, .inr (15, mF q 1))]) [0] rfl, hD.sub (ws' := [(h0, .inr (15, mF q 1))]) [0] (by decide) rfl⟩, hS.F ht⟩) hS.2.2 dX12_choose_29
def w_m_orders : List Cond := .code yX12_orders cX12_orders 10 none :: ([.fieldLink RX12 553 "SeaLandModel" "jobs" "I", .fieldLink RX12 556 "SeaLandModel" "lateness" "I"] ++ bs)
set_option maxHeartbeats 4000000 in
set_option maxRecDepth 100000 in
theorem m_orders (l : Launch) (dC : Nat → ClassId) (dI : Nat → Nat → Nat) (h0 : Nat) (q : Nat → Nat) (cm : Nat → ClassId) (cs : Int32) (sz : Nat) : Met l yX12_orders w_m_orders ({ frames := 0, cells := 0, slots := 0, locals := 0 }) (va_Pc [.ref h0, .int 0, .int 0, .int 0, .int cs, .int 0, .int 0] (fun U => U.heap.size = sz ∧ va_P (dC, dI) vwCl [(h0, .inr (15, (.int 0 :: .ref (q 1) :: .ref (q 2) :: .int 0 :: .ref (q 4) :: .ref (q 5) :: .ref (q 6) :: .ref (q 7) :: .ref (q 8) :: .int 0 :: .ref (q 10) :: .int 0 :: .int 0 :: .int 0 :: .int 0 :: .int 0 :: .int (-1) :: .ref (q 17) :: .ref (q 18) :: .ref (q 19) :: .ref (q 20) :: .ref (q 21) :: .ref (q 22) :: .ref (q 23) :: .ref (q 24) :: .ref (q 25) :: .ref (q 26) :: .ref (q 27) :: .int 0 :: .ref (q 29) :: .ref (q 30) :: .ref (q 31) :: .ref (q 32) :: .ref (q 33) :: .ref (q 34) :: .ref (q 35) :: .ref (q 36) :: .ref (q 37) :: .ref (q 38) :: .ref (q 39) :: .ref (q 40) :: .ref (q 41) :: .int 0 :: .ref (q 43) :: .ref (q 44) :: .ref (q 45) :: .ref (q 46) :: .int 0 :: .int 0 :: .int (-1) :: .ref (q 50) :: .ref (q 51) :: .int 0 :: .long 0 :: .long 0 :: .ref (q 55) :: .ref (q 56) :: .ref (q 57) :: .ref (q 58) :: .ref (q 59) :: .ref (q 60) :: .ref (q 61) :: .ref (q 62) :: .ref (q 63) :: .int 0 :: .ref (q 65) :: .ref (q 66) :: .ref (q 67) :: .ref (q 68) :: .ref (q 69) :: .ref (q 70) :: .ref (q 71) :: .ref (q 72) :: .ref (q 73) :: .int 0 :: .ref (q 75) :: .ref (q 76) :: .int (-1) :: [])))] U.heap ∧ va_K (dC, dI) vwCl [] U ∧ va_D (fun _ => True) [(h0, .inr (15, (.int 0 :: .ref (q 1) :: .ref (q 2) :: .int 0 :: .ref (q 4) :: .ref (q 5) :: .ref (q 6) :: .ref (q 7) :: .ref (q 8) :: .int 0 :: .ref (q 10) :: .int 0 :: .int 0 :: .int 0 :: .int 0 :: .int 0 :: .int (-1) :: .ref (q 17) :: .ref (q 18) :: .ref (q 19) :: .ref (q 20) :: .ref (q 21) :: .ref (q 22) :: .ref (q 23) :: .ref (q 24) :: .ref (q 25) :: .ref (q 26) :: .ref (q 27) :: .int 0 :: .ref (q 29) :: .ref (q 30) :: .ref (q 31) :: .ref (q 32) :: .ref (q 33) :: .ref (q 34) :: .ref (q 35) :: .ref (q 36) :: .ref (q 37) :: .ref (q 38) :: .ref (q 39) :: .ref (q 40) :: .ref (q 41) :: .int 0 :: .ref (q 43) :: .ref (q 44) :: .ref (q 45) :: .ref (q 46) :: .int 0 :: .int 0 :: .int (-1) :: .ref (q 50) :: .ref (q 51) :: .int 0 :: .long 0 :: .long 0 :: .ref (q 55) :: .ref (q 56) :: .ref (q 57) :: .ref (q 58) :: .ref (q 59) :: .ref (q 60) :: .ref (q 61) :: .ref (q 62) :: .ref (q 63) :: .int 0 :: .ref (q 65) :: .ref (q 66) :: .ref (q 67) :: .ref (q 68) :: .ref (q 69) :: .ref (q 70) :: .ref (q 71) :: .ref (q 72) :: .ref (q 73) :: .int 0 :: .ref (q 75) :: .ref (q 76) :: .int (-1) :: [])))])) (va_Qv (fun (u : Unit) => True) (fun (_ : Unit) (t : State) => va_P (dC, dI) vwCl [(h0, .inr (15, mF q 0))] t.heap ∧ va_D (va_A [(h0, .inr (15, (.int 0 :: .ref (q 1) :: .ref (q 2) :: .int 0 :: .ref (q 4) :: .ref (q 5) :: .ref (q 6) :: .ref (q 7) :: .ref (q 8) :: .int 0 :: .ref (q 10) :: .int 0 :: .int 0 :: .int 0 :: .int 0 :: .int 0 :: .int (-1) :: .ref (q 17) :: .ref (q 18) :: .ref (q 19) :: .ref (q 20) :: .ref (q 21) :: .ref (q 22) :: .ref (q 23) :: .ref (q 24) :: .ref (q 25) :: .ref (q 26) :: .ref (q 27) :: .int 0 :: .ref (q 29) :: .ref (q 30) :: .ref (q 31) :: .ref (q 32) :: .ref (q 33) :: .ref (q 34) :: .ref (q 35) :: .ref (q 36) :: .ref (q 37) :: .ref (q 38) :: .ref (q 39) :: .ref (q 40) :: .ref (q 41) :: .int 0 :: .ref (q 43) :: .ref (q 44) :: .ref (q 45) :: .ref (q 46) :: .int 0 :: .int 0 :: .int (-1) :: .ref (q 50) :: .ref (q 51) :: .int 0 :: .long 0 :: .long 0 :: .ref (q 55) :: .ref (q 56) :: .ref (q 57) :: .ref (q 58) :: .ref (q 59) :: .ref (q 60) :: .ref (q 61) :: .ref (q 62) :: .ref (q 63) :: .int 0 :: .ref (q 65) :: .ref (q 66) :: .ref (q 67) :: .ref (q 68) :: .ref (q 69) :: .ref (q 70) :: .ref (q 71) :: .ref (q 72) :: .ref (q 73) :: .int 0 :: .ref (q 75) :: .ref (q 76) :: .int (-1) :: [])))] sz) [(h0, .inr (15, mF q 0))]) (va_A [(h0, .inr (15, (.int 0 :: .ref (q 1) :: .ref (q 2) :: .int 0 :: .ref (q 4) :: .ref (q 5) :: .ref (q 6) :: .ref (q 7) :: .ref (q 8) :: .int 0 :: .ref (q 10) :: .int 0 :: .int 0 :: .int 0 :: .int 0 :: .int 0 :: .int (-1) :: .ref (q 17) :: .ref (q 18) :: .ref (q 19) :: .ref (q 20) :: .ref (q 21) :: .ref (q 22) :: .ref (q 23) :: .ref (q 24) :: .ref (q 25) :: .ref (q 26) :: .ref (q 27) :: .int 0 :: .ref (q 29) :: .ref (q 30) :: .ref (q 31) :: .ref (q 32) :: .ref (q 33) :: .ref (q 34) :: .ref (q 35) :: .ref (q 36) :: .ref (q 37) :: .ref (q 38) :: .ref (q 39) :: .ref (q 40) :: .ref (q 41) :: .int 0 :: .ref (q 43) :: .ref (q 44) :: .ref (q 45) :: .ref (q 46) :: .int 0 :: .int 0 :: .int (-1) :: .ref (q 50) :: .ref (q 51) :: .int 0 :: .long 0 :: .long 0 :: .ref (q 55) :: .ref (q 56) :: .ref (q 57) :: .ref (q 58) :: .ref (q 59) :: .ref (q 60) :: .ref (q 61) :: .ref (q 62) :: .ref (q 63) :: .int 0 :: .ref (q 65) :: .ref (q 66) :: .ref (q 67) :: .ref (q 68) :: .ref (q 69) :: .ref (q 70) :: .ref (q 71) :: .ref (q 72) :: .ref (q 73) :: .int 0 :: .ref (q 75) :: .ref (q 76) :: .int (-1) :: [])))] sz)) 0 0 (va_A [(h0, .inr (15, (.int 0 :: .ref (q 1) :: .ref (q 2) :: .int 0 :: .ref (q 4) :: .ref (q 5) :: .ref (q 6) :: .ref (q 7) :: .ref (q 8) :: .int 0 :: .ref (q 10) :: .int 0 :: .int 0 :: .int 0 :: .int 0 :: .int 0 :: .int (-1) :: .ref (q 17) :: .ref (q 18) :: .ref (q 19) :: .ref (q 20) :: .ref (q 21) :: .ref (q 22) :: .ref (q 23) :: .ref (q 24) :: .ref (q 25) :: .ref (q 26) :: .ref (q 27) :: .int 0 :: .ref (q 29) :: .ref (q 30) :: .ref (q 31) :: .ref (q 32) :: .ref (q 33) :: .ref (q 34) :: .ref (q 35) :: .ref (q 36) :: .ref (q 37) :: .ref (q 38) :: .ref (q 39) :: .ref (q 40) :: .ref (q 41) :: .int 0 :: .ref (q 43) :: .ref (q 44) :: .ref (q 45) :: .ref (q 46) :: .int 0 :: .int 0 :: .int (-1) :: .ref (q 50) :: .ref (q 51) :: .int 0 :: .long 0 :: .long 0 :: .ref (q 55) :: .ref (q 56) :: .ref (q 57) :: .ref (q 58) :: .ref (q 59) :: .ref (q 60) :: .ref (q 61) :: .ref (q 62) :: .ref (q 63) :: .int 0 :: .ref (q 65) :: .ref (q 66) :: .ref (q 67) :: .ref (q 68) :: .ref (q 69) :: .ref (q 70) :: .ref (q 71) :: .ref (q 72) :: .ref (q 73) :: .int 0 :: .ref (q 75) :: .ref (q 76) :: .int (-1) :: [])))] sz) := by
  refine Met.ofW (cc := cX12_orders) (maxL := 10) (ret := none) (by decide) rfl ?_
  intro p e s m args below meth c s₁ B hml hv
  obtain ⟨rfl, hsz, hP, hK, hD0⟩ := hv
  have hx := B.exec
  have hb := B.bytes
  have hr := B.returns
  have hts := atoms_spec (ws := w_m_orders) B.pre
  have hown : s.vm.findClass RX12 = some m.cls := findClass_of_methodNamed B.named
  have hlocks := B.notSynchronized
  subst hsz
  have hD := hD0.self (sz := s.heap.size)
  generalize hAe : va_A [(h0, .inr (15, (.int 0 :: .ref (q 1) :: .ref (q 2) :: .int 0 :: .ref (q 4) :: .ref (q 5) :: .ref (q 6) :: .ref (q 7) :: .ref (q 8) :: .int 0 :: .ref (q 10) :: .int 0 :: .int 0 :: .int 0 :: .int 0 :: .int 0 :: .int (-1) :: .ref (q 17) :: .ref (q 18) :: .ref (q 19) :: .ref (q 20) :: .ref (q 21) :: .ref (q 22) :: .ref (q 23) :: .ref (q 24) :: .ref (q 25) :: .ref (q 26) :: .ref (q 27) :: .int 0 :: .ref (q 29) :: .ref (q 30) :: .ref (q 31) :: .ref (q 32) :: .ref (q 33) :: .ref (q 34) :: .ref (q 35) :: .ref (q 36) :: .ref (q 37) :: .ref (q 38) :: .ref (q 39) :: .ref (q 40) :: .ref (q 41) :: .int 0 :: .ref (q 43) :: .ref (q 44) :: .ref (q 45) :: .ref (q 46) :: .int 0 :: .int 0 :: .int (-1) :: .ref (q 50) :: .ref (q 51) :: .int 0 :: .long 0 :: .long 0 :: .ref (q 55) :: .ref (q 56) :: .ref (q 57) :: .ref (q 58) :: .ref (q 59) :: .ref (q 60) :: .ref (q 61) :: .ref (q 62) :: .ref (q 63) :: .int 0 :: .ref (q 65) :: .ref (q 66) :: .ref (q 67) :: .ref (q 68) :: .ref (q 69) :: .ref (q 70) :: .ref (q 71) :: .ref (q 72) :: .ref (q 73) :: .int 0 :: .ref (q 75) :: .ref (q 76) :: .int (-1) :: [])))] s.heap.size = A at hD ⊢
  have hA : ∀ q : Nat, s.heap.size ≤ q → A q := fun q h => by rw [← hAe]; exact Or.inr h
  have hS : va_S A s.heap s.heap [] := va_S.rf
  have hP : va_P (dC, dI) vwCl [(h0, .inr (15, (.int 0 :: .ref (q 1) :: .ref (q 2) :: .int 0 :: .ref (q 4) :: .ref (q 5) :: .ref (q 6) :: .ref (q 7) :: .ref (q 8) :: .int 0 :: .ref (q 10) :: .int 0 :: .int 0 :: .int 0 :: .int 0 :: .int 0 :: .int (-1) :: .ref (q 17) :: .ref (q 18) :: .ref (q 19) :: .ref (q 20) :: .ref (q 21) :: .ref (q 22) :: .ref (q 23) :: .ref (q 24) :: .ref (q 25) :: .ref (q 26) :: .ref (q 27) :: .int 0 :: .ref (q 29) :: .ref (q 30) :: .ref (q 31) :: .ref (q 32) :: .ref (q 33) :: .ref (q 34) :: .ref (q 35) :: .ref (q 36) :: .ref (q 37) :: .ref (q 38) :: .ref (q 39) :: .ref (q 40) :: .ref (q 41) :: .int 0 :: .ref (q 43) :: .ref (q 44) :: .ref (q 45) :: .ref (q 46) :: .int 0 :: .int 0 :: .int (-1) :: .ref (q 50) :: .ref (q 51) :: .int 0 :: .long 0 :: .long 0 :: .ref (q 55) :: .ref (q 56) :: .ref (q 57) :: .ref (q 58) :: .ref (q 59) :: .ref (q 60) :: .ref (q 61) :: .ref (q 62) :: .ref (q 63) :: .int 0 :: .ref (q 65) :: .ref (q 66) :: .ref (q 67) :: .ref (q 68) :: .ref (q 69) :: .ref (q 70) :: .ref (q 71) :: .ref (q 72) :: .ref (q 73) :: .int 0 :: .ref (q 75) :: .ref (q 76) :: .int (-1) :: [])))] s.heap := hP
  have hl := lv_entry ([.ref h0, .int 0, .int 0, .int 0, .int cs, .int 0, .int 0]) (n := 10) (Nat.le_of_ble_eq_true rfl)
  rw [lg_entry_eq]
  generalize (lg_sl ([.ref h0, .int 0, .int 0, .int 0, .int cs, .int 0, .int 0]) ++ List.replicate (10 - (lg_sl ([.ref h0, .int 0, .int 0, .int 0, .int cs, .int 0, .int 0])).length) Slot.unset).toArray = ls at hl ⊢
  have hl : lv_has ls 10 [(0, .ref h0), (1, .int 0), (2, .int 0), (3, .int 0), (4, .int cs), (5, .int 0), (6, .int 0)] := hl
  refine lv_iload_n hx hb dX12_orders_0 rfl (lv_at hl 1 rfl) ?_
  refine lv_aload_n hx hb dX12_orders_1 rfl (lv_at hl 0 rfl) ?_
  refine va_get (D := (dC, dI)) (ci := 15) (v := .int 0) (C := RX12) (T := TX12) (N := 78) hx hb hts bF_X12 hown hK hP 0 rfl rfl 74 (by decide) (ht_at hts 0 rfl) (fun _ h9 => h9) rfl dX12_orders_2 ?_
  refine lv_icmp_ne (tgt := 61) hx hb dX12_orders_5 (by decide) (fun c1 => absurd c1 (by decide)) (fun c1 => ?_)
  refine lv_aload_n hx hb dX12_orders_8 rfl (lv_at hl 0 rfl) ?_
  refine va_get (D := (dC, dI)) (ci := 15) (v := .int (-1)) (C := RX12) (T := TX12) (N := 78) hx hb hts bF_X12 hown hK hP 0 rfl rfl 77 (by decide) (ht_at hts 1 rfl) (fun _ h9 => h9) rfl dX12_orders_9 ?_
  refine lv_if_lt (tgt := 25) hx hb dX12_orders_12 (by decide) (fun c2 => ?_) (fun c2 => absurd c2 (by decide))
  refine lv_aload_n hx hb dX12_orders_25 rfl (lv_at hl 0 rfl) ?_
  refine lv_iload hx hb dX12_orders_26 (lv_at hl 6 rfl) ?_
  refine va_put (D := (dC, dI)) (ci := 15) (v := .int 0) (ty := .int) (C := RX12) (T := TX12) (N := 78) hx hb hts bF_X12 tyX12 tyX12_ok nmX12 hown hK hP hD hS 0 rfl rfl 77 (by decide) (ht_at hts 1 rfl) (fun _ h9 => h9) rfl (by decide +kernel) rfl rfl (Nat.le_of_ble_eq_true rfl) dX12_orders_28 (fun H locs hP hD hS => ?_)
  have hP : va_P (dC, dI) vwCl [(h0, .inr (15, mF q 0))] H := hP
  have hD : va_D A [(h0, .inr (15, mF q 0))] := hD
  refine lv_iconst (v := 0) hx hb dX12_orders_31 (by decide) ?_
  refine lv_istore (lv' := [(7, .int 0), (0, .ref h0), (1, .int 0), (2, .int 0), (3, .int 0), (4, .int cs), (5, .int 0), (6, .int 0)]) hx hb dX12_orders_32 hl (by decide) rfl (fun ls hl => ?_)
  refine lv_iload hx hb dX12_orders_34 (lv_at hl 0 rfl) ?_
  refine lv_iload_n hx hb dX12_orders_36 rfl (lv_at hl 2 rfl) ?_
  refine lv_icmp_ge (tgt := 60) hx hb dX12_orders_37 (by decide) (fun c3 => ?_) (fun c3 => absurd c3 (by decide))
  exact W.vret hx hb hr (fun t ht hW => ⟨⟨(), rfl, (by trivial), by rw [ht]; exact hP.sub (ws' := [(h0, .inr (15, mF q 0))]) [0] rfl, hD.sub (ws' := [(h0, .inr (15, mF q 0))]) [0] (by decide) rfl⟩, hS.F ht⟩) hS.2.2 dX12_orders_60
def w_m_order : List Cond := .code yX12_order cX12_order 3 (some .int) :: ([.fieldLink RX12 194 "SeaLandModel" "thrown" "I", .constant RX12 536 1000000, .code yX12_in cX12_in 3 (some .boolean), .methodLink RX12 197 yX12_in, .static yX12_in, .initialized RX12, .code yX12_throwsIf cX12_throwsIf 3 (some .boolean), .methodLink RX12 224 yX12_throwsIf, .instanceMethod yX12_throwsIf, .selects RX12 yX12_throwsIf yX12_throwsIf, .fieldLink RX12 556 "SeaLandModel" "lateness" "I", .code yX12_orders cX12_orders 10 none, .fieldLink RX12 553 "SeaLandModel" "jobs" "I", .methodLink RX12 559 yX12_orders, .instanceMethod yX12_orders, .selects RX12 yX12_orders yX12_orders] ++ bs)
set_option maxHeartbeats 4000000 in
set_option maxRecDepth 100000 in
theorem m_order (l : Launch) (dC : Nat → ClassId) (dI : Nat → Nat → Nat) (h0 : Nat) (q : Nat → Nat) (cm : Nat → ClassId) (p0 p1 : Int32) (sz : Nat) : Met l yX12_order w_m_order ({ frames := 1, cells := 0, slots := 0, locals := 29 }) (va_Pc [.ref h0, .int p0, .int p1] (fun U => U.heap.size = sz ∧ va_P (dC, dI) vwCl [(h0, .inr (15, mF q 0))] U.heap ∧ va_K (dC, dI) vwCl [] U ∧ va_D (fun _ => True) [(h0, .inr (15, mF q 0))])) (va_Qi (fun (r : Int32) (u : List Value) => u[0]? = some (.int (T_order p0 p1).1) ∧ ((T_order p0 p1).1 = 0 → r = (T_order p0 p1).2)) (fun (fs : List Value) (t : State) => va_P (dC, dI) vwCl [(h0, .inr (15, fs))] t.heap ∧ va_D (va_A [(h0, .inr (15, mF q 0))] sz) [(h0, .inr (15, fs))]) (va_A [(h0, .inr (15, mF q 0))] sz)) 0 0 (va_A [(h0, .inr (15, mF q 0))] sz) := by
  refine Met.ofW (cc := cX12_order) (maxL := 3) (ret := (some .int)) (by decide) rfl ?_
  intro p e s m args below meth c s₁ B hml hv
  obtain ⟨rfl, hsz, hP, hK, hD0⟩ := hv
  have hx := B.exec
  have hb := B.bytes
  have hr := B.returns
  have hts := atoms_spec (ws := w_m_order) B.pre
  have hown : s.vm.findClass RX12 = some m.cls := findClass_of_methodNamed B.named
  have hlocks := B.notSynchronized
  subst hsz
  have hD := hD0.self (sz := s.heap.size)
  generalize hAe : va_A [(h0, .inr (15, mF q 0))] s.heap.size = A at hD ⊢
  have hA : ∀ q : Nat, s.heap.size ≤ q → A q := fun q h => by rw [← hAe]; exact Or.inr h
  have hS : va_S A s.heap s.heap [] := va_S.rf
  have hP : va_P (dC, dI) vwCl [(h0, .inr (15, mF q 0))] s.heap := hP
  have hl := lv_entry ([.ref h0, .int p0, .int p1]) (n := 3) (Nat.le_of_ble_eq_true rfl)
  rw [lg_entry_eq]
  generalize (lg_sl ([.ref h0, .int p0, .int p1]) ++ List.replicate (3 - (lg_sl ([.ref h0, .int p0, .int p1])).length) Slot.unset).toArray = ls at hl ⊢
  have hl : lv_has ls 3 [(0, .ref h0), (1, .int p0), (2, .int p1)] := hl
  refine lv_aload_n hx hb dX12_order_0 rfl (lv_at hl 0 rfl) ?_
  refine lv_iconst (v := 0) hx hb dX12_order_1 (by decide) ?_
  refine va_put (D := (dC, dI)) (ci := 15) (v := .int 0) (ty := .int) (C := RX12) (T := TX12) (N := 78) hx hb hts bF_X12 tyX12 tyX12_ok nmX12 hown hK hP hD hS 0 rfl rfl 0 (by decide) (ht_at hts 0 rfl) (fun _ h9 => h9) rfl (by decide +kernel) rfl rfl (Nat.le_of_ble_eq_true rfl) dX12_order_2 (fun H locs hP hD hS => ?_)
  have hP : va_P (dC, dI) vwCl [(h0, .inr (15, mF q 0))] H := hP
  have hD : va_D A [(h0, .inr (15, mF q 0))] := hD
  refine lv_aload_n hx hb dX12_order_5 rfl (lv_at hl 0 rfl) ?_
  refine lv_iload_n hx hb dX12_order_6 rfl (lv_at hl 1 rfl) ?_
  refine lv_iconst (v := 0) hx hb dX12_order_7 (by decide) ?_
  refine lv_ldcw (v := 1000000) hx hb hown (ht_at hts 1 rfl) dX12_order_8 ?_
  have hPc := hP.sub (ws' := []) [] rfl
  have hDc := hD.sub (ws' := []) [] (by decide) rfl
  have hKc := hK.sub (tys' := []) [] rfl
  have hFc := va_free (wc := []) hD hS hA [] rfl
  refine va_calli (va_runS (As := [.int p0, .int 0, .int 1000000]) (rest := [.ref h0]) ⟨hx, hb, hml, hown, hts⟩ (c_min_ l dC dI p0 0 1000000 H.size ) (va_cwS 3 hts (goodIn_app (goodIn_r _ [4, 5, 6] (by decide +kernel) (by decide +kernel)) (goodIn_ca (goodIn_r _ [3] (by decide +kernel) (by decide +kernel)) (bs_in _ _))) rfl rfl rfl (by decide +kernel) ⟨(Nat.le_of_ble_eq_true rfl), (Nat.le_of_ble_eq_true rfl)⟩) ⟨fun a U g mk q => by obtain ⟨q0, q1, qP, qK, qD⟩ := q; exact ⟨q0, q1, qP, va_K.moved (u := U) (U := U.calling g mk a) (Vm.Alike.refl U.vm) qK, qD⟩, fun U hU hW => ⟨rfl, by rw [hU], by rw [hU]; exact hPc, va_K.moved hW.alike hKc, hDc.weaken (fun _ _ _ _ => trivial)⟩⟩ rfl rfl hl.1 rfl (lv_room (Nat.le_of_ble_eq_true rfl)) dX12_order_11 ⟨(Nat.le_of_ble_eq_true rfl), (Nat.le_of_ble_eq_true rfl)⟩) hS (fun q _ h => hFc q h) hFc (fun r2 u t H1 locs ht hvm hw3 hB hz1 hk1 hS => ?_)
  have hP1 : va_P (dC, dI) vwCl [] H1 := nilP
  have hD1 : va_D (va_A [] H.size) [] := nilD
  have hK := hK
  obtain ⟨hP, hD⟩ := va_join (wr := [(h0, .inr (15, mF q 0))]) (w1 := []) hP hD [] [0] rfl rfl (by decide) (by decide) hk1 hFc hP1 hD1
  generalize H1 = H at hP hS ⊢
  have hP : va_P (dC, dI) vwCl [(h0, .inr (15, mF q 0))] H := hP
  have hD : va_D A [(h0, .inr (15, mF q 0))] := hD
  try dsimp only at hw3
  by_cases hc4 : (0 : Int32) ≤ p0 ∧ p0 ≤ (1000000 : Int32)
  · rw [if_pos hc4] at hw3
    subst hw3
    refine lv_if_ne (tgt := 21) hx hb dX12_order_14 (by decide) (fun c5 => ?_) (fun c5 => absurd c5 (by decide))
    refine lv_iconst (v := 0) hx hb dX12_order_21 (by decide) ?_
    refine lv_iconst (v := 1) hx hb dX12_order_22 (by decide) ?_
    have hPc := hP.sub (ws' := [(h0, .inr (15, mF q 0))]) [0] rfl
    have hDc := hD.sub (ws' := [(h0, .inr (15, mF q 0))]) [0] (by decide) rfl
    have hKc := hK.sub (tys' := []) [] rfl
    have hFc := va_free (wc := [(h0, .inr (15, mF q 0))]) hD hS hA [0] rfl
    refine va_calli (va_runV (As := [.int 0, .int 1]) (rest := []) ⟨hx, hb, hml, hown, hts⟩ (c_m_throwsIf0 l dC dI h0 (mF q 0) 1 H.size ) (cwV 2 hts (goodIn_app (goodIn_r _ [8, 9, 10, 6] (by decide +kernel) (by decide +kernel)) (goodIn_ca (goodIn_r _ [7] (by decide +kernel) (by decide +kernel)) (bs_in _ _))) rfl rfl rfl (by decide +kernel) ⟨(Nat.le_of_ble_eq_true rfl), (Nat.le_of_ble_eq_true rfl)⟩) ⟨fun a U g mk q => by obtain ⟨q0, q1, qP, qK, qD⟩ := q; exact ⟨q0, q1, qP, va_K.moved (u := U) (U := U.calling g mk a) (Vm.Alike.refl U.vm) qK, qD⟩, va_recv hKc hPc (ci := 15) (q0 := 0) rfl rfl, fun U hU hW => ⟨rfl, by rw [hU], by rw [hU]; exact hPc, va_K.moved hW.alike hKc, hDc.weaken (fun _ _ _ _ => trivial)⟩⟩ rfl rfl hl.1 rfl (lv_room (Nat.le_of_ble_eq_true rfl)) dX12_order_23 ⟨(Nat.le_of_ble_eq_true rfl), (Nat.le_of_ble_eq_true rfl)⟩) hS (fun q _ h => hFc q h) hFc (fun r7 u t H1 locs ht hvm hw8 hB hz1 hk1 hS => ?_)
    obtain ⟨hP1, hD1⟩ := hB
    rw [ht] at hP1
    obtain ⟨hP, hD⟩ := va_join (wr := []) (w1 := [(h0, .inr (15, mF q 0))]) hP hD [0] [] rfl rfl (by decide) (by decide) hk1 hFc hP1 hD1
    generalize H1 = H at hP hS ⊢
    have hP : va_P (dC, dI) vwCl [(h0, .inr (15, mF q 0))] H := hP
    have hD : va_D A [(h0, .inr (15, mF q 0))] := hD
    try dsimp only at hw8
    obtain rfl : 0 = r7 := (hw8).symm
    refine lv_if_eq (tgt := 31) hx hb dX12_order_26 (by decide) (fun c9 => ?_) (fun c9 => absurd c9 (by decide))
    refine lv_aload_n hx hb dX12_order_31 rfl (lv_at hl 0 rfl) ?_
    refine lv_iconst (v := (-1)) hx hb dX12_order_32 (by decide) ?_
    refine va_put (D := (dC, dI)) (ci := 15) (v := .int (-1)) (ty := .int) (C := RX12) (T := TX12) (N := 78) hx hb hts bF_X12 tyX12 tyX12_ok nmX12 hown hK hP hD hS 0 rfl rfl 77 (by decide) (ht_at hts 10 rfl) (fun _ h9 => h9) rfl (by decide +kernel) rfl rfl (Nat.le_of_ble_eq_true rfl) dX12_order_33 (fun H locs hP hD hS => ?_)
    have hP : va_P (dC, dI) vwCl [(h0, .inr (15, (.int 0 :: .ref (q 1) :: .ref (q 2) :: .int 0 :: .ref (q 4) :: .ref (q 5) :: .ref (q 6) :: .ref (q 7) :: .ref (q 8) :: .int 0 :: .ref (q 10) :: .int 0 :: .int 0 :: .int 0 :: .int 0 :: .int 0 :: .int (-1) :: .ref (q 17) :: .ref (q 18) :: .ref (q 19) :: .ref (q 20) :: .ref (q 21) :: .ref (q 22) :: .ref (q 23) :: .ref (q 24) :: .ref (q 25) :: .ref (q 26) :: .ref (q 27) :: .int 0 :: .ref (q 29) :: .ref (q 30) :: .ref (q 31) :: .ref (q 32) :: .ref (q 33) :: .ref (q 34) :: .ref (q 35) :: .ref (q 36) :: .ref (q 37) :: .ref (q 38) :: .ref (q 39) :: .ref (q 40) :: .ref (q 41) :: .int 0 :: .ref (q 43) :: .ref (q 44) :: .ref (q 45) :: .ref (q 46) :: .int 0 :: .int 0 :: .int (-1) :: .ref (q 50) :: .ref (q 51) :: .int 0 :: .long 0 :: .long 0 :: .ref (q 55) :: .ref (q 56) :: .ref (q 57) :: .ref (q 58) :: .ref (q 59) :: .ref (q 60) :: .ref (q 61) :: .ref (q 62) :: .ref (q 63) :: .int 0 :: .ref (q 65) :: .ref (q 66) :: .ref (q 67) :: .ref (q 68) :: .ref (q 69) :: .ref (q 70) :: .ref (q 71) :: .ref (q 72) :: .ref (q 73) :: .int 0 :: .ref (q 75) :: .ref (q 76) :: .int (-1) :: [])))] H := hP
    have hD : va_D A [(h0, .inr (15, (.int 0 :: .ref (q 1) :: .ref (q 2) :: .int 0 :: .ref (q 4) :: .ref (q 5) :: .ref (q 6) :: .ref (q 7) :: .ref (q 8) :: .int 0 :: .ref (q 10) :: .int 0 :: .int 0 :: .int 0 :: .int 0 :: .int 0 :: .int (-1) :: .ref (q 17) :: .ref (q 18) :: .ref (q 19) :: .ref (q 20) :: .ref (q 21) :: .ref (q 22) :: .ref (q 23) :: .ref (q 24) :: .ref (q 25) :: .ref (q 26) :: .ref (q 27) :: .int 0 :: .ref (q 29) :: .ref (q 30) :: .ref (q 31) :: .ref (q 32) :: .ref (q 33) :: .ref (q 34) :: .ref (q 35) :: .ref (q 36) :: .ref (q 37) :: .ref (q 38) :: .ref (q 39) :: .ref (q 40) :: .ref (q 41) :: .int 0 :: .ref (q 43) :: .ref (q 44) :: .ref (q 45) :: .ref (q 46) :: .int 0 :: .int 0 :: .int (-1) :: .ref (q 50) :: .ref (q 51) :: .int 0 :: .long 0 :: .long 0 :: .ref (q 55) :: .ref (q 56) :: .ref (q 57) :: .ref (q 58) :: .ref (q 59) :: .ref (q 60) :: .ref (q 61) :: .ref (q 62) :: .ref (q 63) :: .int 0 :: .ref (q 65) :: .ref (q 66) :: .ref (q 67) :: .ref (q 68) :: .ref (q 69) :: .ref (q 70) :: .ref (q 71) :: .ref (q 72) :: .ref (q 73) :: .int 0 :: .ref (q 75) :: .ref (q 76) :: .int (-1) :: [])))] := hD
    refine lv_aload_n hx hb dX12_order_36 rfl (lv_at hl 0 rfl) ?_
    refine lv_iconst (v := 0) hx hb dX12_order_37 (by decide) ?_
    refine lv_iconst (v := 0) hx hb dX12_order_38 (by decide) ?_
    refine lv_iconst (v := 0) hx hb dX12_order_39 (by decide) ?_
    refine lv_iload_n hx hb dX12_order_40 rfl (lv_at hl 1 rfl) ?_
    refine lv_iconst (v := 0) hx hb dX12_order_41 (by decide) ?_
    refine lv_iconst (v := 0) hx hb dX12_order_42 (by decide) ?_
    have hPc := hP.sub (ws' := [(h0, .inr (15, (.int 0 :: .ref (q 1) :: .ref (q 2) :: .int 0 :: .ref (q 4) :: .ref (q 5) :: .ref (q 6) :: .ref (q 7) :: .ref (q 8) :: .int 0 :: .ref (q 10) :: .int 0 :: .int 0 :: .int 0 :: .int 0 :: .int 0 :: .int (-1) :: .ref (q 17) :: .ref (q 18) :: .ref (q 19) :: .ref (q 20) :: .ref (q 21) :: .ref (q 22) :: .ref (q 23) :: .ref (q 24) :: .ref (q 25) :: .ref (q 26) :: .ref (q 27) :: .int 0 :: .ref (q 29) :: .ref (q 30) :: .ref (q 31) :: .ref (q 32) :: .ref (q 33) :: .ref (q 34) :: .ref (q 35) :: .ref (q 36) :: .ref (q 37) :: .ref (q 38) :: .ref (q 39) :: .ref (q 40) :: .ref (q 41) :: .int 0 :: .ref (q 43) :: .ref (q 44) :: .ref (q 45) :: .ref (q 46) :: .int 0 :: .int 0 :: .int (-1) :: .ref (q 50) :: .ref (q 51) :: .int 0 :: .long 0 :: .long 0 :: .ref (q 55) :: .ref (q 56) :: .ref (q 57) :: .ref (q 58) :: .ref (q 59) :: .ref (q 60) :: .ref (q 61) :: .ref (q 62) :: .ref (q 63) :: .int 0 :: .ref (q 65) :: .ref (q 66) :: .ref (q 67) :: .ref (q 68) :: .ref (q 69) :: .ref (q 70) :: .ref (q 71) :: .ref (q 72) :: .ref (q 73) :: .int 0 :: .ref (q 75) :: .ref (q 76) :: .int (-1) :: [])))]) [0] rfl
    have hDc := hD.sub (ws' := [(h0, .inr (15, (.int 0 :: .ref (q 1) :: .ref (q 2) :: .int 0 :: .ref (q 4) :: .ref (q 5) :: .ref (q 6) :: .ref (q 7) :: .ref (q 8) :: .int 0 :: .ref (q 10) :: .int 0 :: .int 0 :: .int 0 :: .int 0 :: .int 0 :: .int (-1) :: .ref (q 17) :: .ref (q 18) :: .ref (q 19) :: .ref (q 20) :: .ref (q 21) :: .ref (q 22) :: .ref (q 23) :: .ref (q 24) :: .ref (q 25) :: .ref (q 26) :: .ref (q 27) :: .int 0 :: .ref (q 29) :: .ref (q 30) :: .ref (q 31) :: .ref (q 32) :: .ref (q 33) :: .ref (q 34) :: .ref (q 35) :: .ref (q 36) :: .ref (q 37) :: .ref (q 38) :: .ref (q 39) :: .ref (q 40) :: .ref (q 41) :: .int 0 :: .ref (q 43) :: .ref (q 44) :: .ref (q 45) :: .ref (q 46) :: .int 0 :: .int 0 :: .int (-1) :: .ref (q 50) :: .ref (q 51) :: .int 0 :: .long 0 :: .long 0 :: .ref (q 55) :: .ref (q 56) :: .ref (q 57) :: .ref (q 58) :: .ref (q 59) :: .ref (q 60) :: .ref (q 61) :: .ref (q 62) :: .ref (q 63) :: .int 0 :: .ref (q 65) :: .ref (q 66) :: .ref (q 67) :: .ref (q 68) :: .ref (q 69) :: .ref (q 70) :: .ref (q 71) :: .ref (q 72) :: .ref (q 73) :: .int 0 :: .ref (q 75) :: .ref (q 76) :: .int (-1) :: [])))]) [0] (by decide) rfl
    have hKc := hK.sub (tys' := []) [] rfl
    have hFc := va_free (wc := [(h0, .inr (15, (.int 0 :: .ref (q 1) :: .ref (q 2) :: .int 0 :: .ref (q 4) :: .ref (q 5) :: .ref (q 6) :: .ref (q 7) :: .ref (q 8) :: .int 0 :: .ref (q 10) :: .int 0 :: .int 0 :: .int 0 :: .int 0 :: .int 0 :: .int (-1) :: .ref (q 17) :: .ref (q 18) :: .ref (q 19) :: .ref (q 20) :: .ref (q 21) :: .ref (q 22) :: .ref (q 23) :: .ref (q 24) :: .ref (q 25) :: .ref (q 26) :: .ref (q 27) :: .int 0 :: .ref (q 29) :: .ref (q 30) :: .ref (q 31) :: .ref (q 32) :: .ref (q 33) :: .ref (q 34) :: .ref (q 35) :: .ref (q 36) :: .ref (q 37) :: .ref (q 38) :: .ref (q 39) :: .ref (q 40) :: .ref (q 41) :: .int 0 :: .ref (q 43) :: .ref (q 44) :: .ref (q 45) :: .ref (q 46) :: .int 0 :: .int 0 :: .int (-1) :: .ref (q 50) :: .ref (q 51) :: .int 0 :: .long 0 :: .long 0 :: .ref (q 55) :: .ref (q 56) :: .ref (q 57) :: .ref (q 58) :: .ref (q 59) :: .ref (q 60) :: .ref (q 61) :: .ref (q 62) :: .ref (q 63) :: .int 0 :: .ref (q 65) :: .ref (q 66) :: .ref (q 67) :: .ref (q 68) :: .ref (q 69) :: .ref (q 70) :: .ref (q 71) :: .ref (q 72) :: .ref (q 73) :: .int 0 :: .ref (q 75) :: .ref (q 76) :: .int (-1) :: [])))]) hD hS hA [0] rfl
    refine va_callv (va_runV (As := [.int 0, .int 0, .int 0, .int p0, .int 0, .int 0]) (rest := []) ⟨hx, hb, hml, hown, hts⟩ (m_orders l dC dI h0 q cm p0 H.size ) (cwV 6 hts (goodIn_app (goodIn_r _ [14, 15, 16, 6] (by decide +kernel) (by decide +kernel)) (goodIn_ca (goodIn_r _ [12, 13, 11] (by decide +kernel) (by decide +kernel)) (bs_in _ _))) rfl rfl rfl (by decide +kernel) ⟨(Nat.le_of_ble_eq_true rfl), (Nat.le_of_ble_eq_true rfl)⟩) ⟨fun a U g mk q => by obtain ⟨q0, q1, qP, qK, qD⟩ := q; exact ⟨q0, q1, qP, va_K.moved (u := U) (U := U.calling g mk a) (Vm.Alike.refl U.vm) qK, qD⟩, va_recv hKc hPc (ci := 15) (q0 := 0) rfl rfl, fun U hU hW => ⟨rfl, by rw [hU], by rw [hU]; exact hPc, va_K.moved hW.alike hKc, hDc.weaken (fun _ _ _ _ => trivial)⟩⟩ rfl rfl hl.1 rfl (lv_room (Nat.le_of_ble_eq_true rfl)) dX12_order_43 ⟨(Nat.le_of_ble_eq_true rfl), (Nat.le_of_ble_eq_true rfl)⟩) hS (fun q _ h => hFc q h) hFc (fun u t H1 locs ht hvm hw12 hB hz1 hk1 hS => ?_)
    obtain ⟨hP1, hD1⟩ := hB
    rw [ht] at hP1
    obtain ⟨hP, hD⟩ := va_join (wr := []) (w1 := [(h0, .inr (15, mF q 0))]) hP hD [0] [] rfl rfl (by decide) (by decide) hk1 hFc hP1 hD1
    generalize H1 = H at hP hS ⊢
    have hP : va_P (dC, dI) vwCl [(h0, .inr (15, mF q 0))] H := hP
    have hD : va_D A [(h0, .inr (15, mF q 0))] := hD
    try dsimp only at hw12
    refine lv_aload_n hx hb dX12_order_46 rfl (lv_at hl 0 rfl) ?_
    refine va_get (D := (dC, dI)) (ci := 15) (v := .int 0) (C := RX12) (T := TX12) (N := 78) hx hb hts bF_X12 hown hK hP 0 rfl rfl 77 (by decide) (ht_at hts 10 rfl) (fun _ h9 => h9) rfl dX12_order_47 ?_
    refine lv_if_lt (tgt := 58) hx hb dX12_order_50 (by decide) (fun c13 => absurd c13 (by decide)) (fun c13 => ?_)
    refine lv_iload_n hx hb dX12_order_53 rfl (lv_at hl 2 rfl) ?_
    refine lv_iconst (v := (-1)) hx hb dX12_order_54 (by decide) ?_
    refine lv_icmp_ne (tgt := 63) hx hb dX12_order_55 (by decide) (fun c14 => ?_) (fun c14 => ?_)
    · refine lv_iload_n hx hb dX12_order_63 rfl (lv_at hl 2 rfl) ?_
      refine lv_iconst (v := 0) hx hb dX12_order_64 (by decide) ?_
      refine lv_aload_n hx hb dX12_order_65 rfl (lv_at hl 0 rfl) ?_
      refine va_get (D := (dC, dI)) (ci := 15) (v := .int 0) (C := RX12) (T := TX12) (N := 78) hx hb hts bF_X12 hown hK hP 0 rfl rfl 74 (by decide) (ht_at hts 12 rfl) (fun _ h9 => h9) rfl dX12_order_66 ?_
      refine lv_iconst (v := 1) hx hb dX12_order_69 (by decide) ?_
      refine lv_isub hx hb dX12_order_70 ?_
      refine lv_topi (fun x15 ex15 => ?_)
      obtain rfl : x15 = (-1) := ex15.trans (by decide)
      have hPc := hP.sub (ws' := []) [] rfl
      have hDc := hD.sub (ws' := []) [] (by decide) rfl
      have hKc := hK.sub (tys' := []) [] rfl
      have hFc := va_free (wc := []) hD hS hA [] rfl
      refine va_calli (va_runS (As := [.int p1, .int 0, .int (-1)]) (rest := []) ⟨hx, hb, hml, hown, hts⟩ (c_min_ l dC dI p1 0 (-1) H.size ) (va_cwS 3 hts (goodIn_app (goodIn_r _ [4, 5, 6] (by decide +kernel) (by decide +kernel)) (goodIn_ca (goodIn_r _ [3] (by decide +kernel) (by decide +kernel)) (bs_in _ _))) rfl rfl rfl (by decide +kernel) ⟨(Nat.le_of_ble_eq_true rfl), (Nat.le_of_ble_eq_true rfl)⟩) ⟨fun a U g mk q => by obtain ⟨q0, q1, qP, qK, qD⟩ := q; exact ⟨q0, q1, qP, va_K.moved (u := U) (U := U.calling g mk a) (Vm.Alike.refl U.vm) qK, qD⟩, fun U hU hW => ⟨rfl, by rw [hU], by rw [hU]; exact hPc, va_K.moved hW.alike hKc, hDc.weaken (fun _ _ _ _ => trivial)⟩⟩ rfl rfl hl.1 rfl (lv_room (Nat.le_of_ble_eq_true rfl)) dX12_order_71 ⟨(Nat.le_of_ble_eq_true rfl), (Nat.le_of_ble_eq_true rfl)⟩) hS (fun q _ h => hFc q h) hFc (fun r17 u t H1 locs ht hvm hw18 hB hz1 hk1 hS => ?_)
      have hP1 : va_P (dC, dI) vwCl [] H1 := nilP
      have hD1 : va_D (va_A [] H.size) [] := nilD
      have hK := hK
      obtain ⟨hP, hD⟩ := va_join (wr := [(h0, .inr (15, mF q 0))]) (w1 := []) hP hD [] [0] rfl rfl (by decide) (by decide) hk1 hFc hP1 hD1
      generalize H1 = H at hP hS ⊢
      have hP : va_P (dC, dI) vwCl [(h0, .inr (15, mF q 0))] H := hP
      have hD : va_D A [(h0, .inr (15, mF q 0))] := hD
      try dsimp only at hw18
      have hc19 : ¬ ((0 : Int32) ≤ p1 ∧ p1 ≤ (-1 : Int32)) := no01
      rw [if_neg hc19] at hw18
      subst hw18
      refine lv_if_eq (tgt := 86) hx hb dX12_order_74 (by decide) (fun c20 => ?_) (fun c20 => absurd c20 (by decide))
      refine lv_iconst (v := (-1)) hx hb dX12_order_86 (by decide) ?_
      exact W.iret (v := (-1)) hx hb hr (fun t ht hW => ⟨⟨(-1), (mF q 0), rfl, (by unfold T_order; rw [if_pos hc4, if_neg c14]; (first | exact ⟨rfl, fun _ => rfl⟩ | exact ⟨rfl, fun h => absurd h (by decide)⟩)), by rw [ht]; exact hP.sub (ws' := [(h0, .inr (15, mF q 0))]) [0] rfl, hD.sub (ws' := [(h0, .inr (15, mF q 0))]) [0] (by decide) rfl⟩, hS.F ht⟩) hS.2.2 dX12_order_87
    · refine lv_aload_n hx hb dX12_order_58 rfl (lv_at hl 0 rfl) ?_
      refine va_get (D := (dC, dI)) (ci := 15) (v := .int 0) (C := RX12) (T := TX12) (N := 78) hx hb hts bF_X12 hown hK hP 0 rfl rfl 77 (by decide) (ht_at hts 10 rfl) (fun _ h9 => h9) rfl dX12_order_59 ?_
      exact W.iret (v := 0) hx hb hr (fun t ht hW => ⟨⟨0, (mF q 0), rfl, (by unfold T_order; rw [if_pos hc4, if_pos c14]; (first | exact ⟨rfl, fun _ => rfl⟩ | exact ⟨rfl, fun h => absurd h (by decide)⟩)), by rw [ht]; exact hP.sub (ws' := [(h0, .inr (15, mF q 0))]) [0] rfl, hD.sub (ws' := [(h0, .inr (15, mF q 0))]) [0] (by decide) rfl⟩, hS.F ht⟩) hS.2.2 dX12_order_62
  · rw [if_neg hc4] at hw3
    subst hw3
    refine lv_if_ne (tgt := 21) hx hb dX12_order_14 (by decide) (fun c21 => absurd c21 (by decide)) (fun c21 => ?_)
    refine lv_iconst (v := 1) hx hb dX12_order_17 (by decide) ?_
    refine lv_goto (tgt := 22) hx hb dX12_order_18 (by decide) ?_
    refine lv_iconst (v := 1) hx hb dX12_order_22 (by decide) ?_
    have hPc := hP.sub (ws' := [(h0, .inr (15, mF q 0))]) [0] rfl
    have hDc := hD.sub (ws' := [(h0, .inr (15, mF q 0))]) [0] (by decide) rfl
    have hKc := hK.sub (tys' := []) [] rfl
    have hFc := va_free (wc := [(h0, .inr (15, mF q 0))]) hD hS hA [0] rfl
    refine va_calli (va_runV (As := [.int 1, .int 1]) (rest := []) ⟨hx, hb, hml, hown, hts⟩ (c_m_throwsIf1 l dC dI h0 (mF q 0) 1 H.size rfl) (cwV 2 hts (goodIn_app (goodIn_r _ [8, 9, 10, 6] (by decide +kernel) (by decide +kernel)) (goodIn_ca (goodIn_r _ [7, 1] (by decide +kernel) (by decide +kernel)) (bs_in _ _))) rfl rfl rfl (by decide +kernel) ⟨(Nat.le_of_ble_eq_true rfl), (Nat.le_of_ble_eq_true rfl)⟩) ⟨fun a U g mk q => by obtain ⟨q0, q1, qP, qK, qD⟩ := q; exact ⟨q0, q1, qP, va_K.moved (u := U) (U := U.calling g mk a) (Vm.Alike.refl U.vm) qK, qD⟩, va_recv hKc hPc (ci := 15) (q0 := 0) rfl rfl, fun U hU hW => ⟨rfl, by rw [hU], by rw [hU]; exact hPc, va_K.moved hW.alike hKc, hDc.weaken (fun _ _ _ _ => trivial)⟩⟩ rfl rfl hl.1 rfl (lv_room (Nat.le_of_ble_eq_true rfl)) dX12_order_23 ⟨(Nat.le_of_ble_eq_true rfl), (Nat.le_of_ble_eq_true rfl)⟩) hS (fun q _ h => hFc q h) hFc (fun r23 u t H1 locs ht hvm hw24 hB hz1 hk1 hS => ?_)
    obtain ⟨hP1, hD1⟩ := hB
    rw [ht] at hP1
    obtain ⟨hP, hD⟩ := va_join (wr := []) (w1 := [(h0, .inr (15, mF q 1))]) hP hD [0] [] rfl rfl (by decide) (by decide) hk1 hFc hP1 hD1
    generalize H1 = H at hP hS ⊢
    have hP : va_P (dC, dI) vwCl [(h0, .inr (15, mF q 1))] H := hP
    have hD : va_D A [(h0, .inr (15, mF q 1))] := hD
    try dsimp only at hw24
    obtain rfl : 1 = r23 := (hw24).symm
    refine lv_if_eq (tgt := 31) hx hb dX12_order_26 (by decide) (fun c25 => absurd c25 (by decide)) (fun c25 => ?_)
    refine lv_iconst (v := 0) hx hb dX12_order_29 (by decide) ?_
    exact W.iret (v := 0) hx hb hr (fun t ht hW => ⟨⟨0, (mF q 1), rfl, (by unfold T_order; rw [if_neg hc4]; (first | exact ⟨rfl, fun _ => rfl⟩ | exact ⟨rfl, fun h => absurd h (by decide)⟩)), by rw [ht]; exact hP.sub (ws' := [(h0, .inr (15, mF q 1))]) [0] rfl, hD.sub (ws' := [(h0, .inr (15, mF q 1))]) [0] (by decide) rfl⟩, hS.F ht⟩) hS.2.2 dX12_order_30
def w_m_sumLand384 : List Cond := .code yX12_sumLand cX12_sumLand 4 (some .int) :: ([.fieldLink RX12 9 "SeaLandModel" "world" "[I"] ++ bs)
set_option maxHeartbeats 4000000 in
set_option maxRecDepth 100000 in
theorem m_sumLand384 (l : Launch) (dC : Nat → ClassId) (dI : Nat → Nat → Nat) (h0 : Nat) (q : Nat → Nat) (cm : Nat → ClassId)  (sz : Nat) : Met l yX12_sumLand w_m_sumLand384 ({ frames := 0, cells := 0, slots := 0, locals := 0 }) (va_Pc [.ref h0, .int 384] (fun U => U.heap.size = sz ∧ va_P (dC, dI) vwCl [(h0, .inr (15, mF q 0)), (q 1, .inl ((cm 1), 1749, .inl (fun _ => 0)))] U.heap ∧ va_K (dC, dI) vwCl [((cm 1), .int)] U ∧ va_D (fun _ => True) [(h0, .inr (15, mF q 0)), (q 1, .inl ((cm 1), 1749, .inl (fun _ => 0)))])) (va_Qi (fun (r : Int32) (u : Unit) => r = 0) (fun (_ : Unit) (t : State) => va_P (dC, dI) vwCl [(h0, .inr (15, mF q 0)), (q 1, .inl ((cm 1), 1749, .inl (fun _ => 0)))] t.heap ∧ va_D (va_A [(h0, .inr (15, mF q 0)), (q 1, .inl ((cm 1), 1749, .inl (fun _ => 0)))] sz) [(h0, .inr (15, mF q 0)), (q 1, .inl ((cm 1), 1749, .inl (fun _ => 0)))]) (va_A [(h0, .inr (15, mF q 0)), (q 1, .inl ((cm 1), 1749, .inl (fun _ => 0)))] sz)) 0 0 (va_A [(h0, .inr (15, mF q 0)), (q 1, .inl ((cm 1), 1749, .inl (fun _ => 0)))] sz) := by
  refine Met.ofW (cc := cX12_sumLand) (maxL := 4) (ret := (some .int)) (by decide) rfl ?_
  intro p e s m args below meth c s₁ B hml hv
  obtain ⟨rfl, hsz, hP, hK, hD0⟩ := hv
  have hx := B.exec
  have hb := B.bytes
  have hr := B.returns
  have hts := atoms_spec (ws := w_m_sumLand384) B.pre
  have hown : s.vm.findClass RX12 = some m.cls := findClass_of_methodNamed B.named
  have hlocks := B.notSynchronized
  subst hsz
  have hD := hD0.self (sz := s.heap.size)
  generalize hAe : va_A [(h0, .inr (15, mF q 0)), (q 1, .inl ((cm 1), 1749, .inl (fun _ => 0)))] s.heap.size = A at hD ⊢
  have hA : ∀ q : Nat, s.heap.size ≤ q → A q := fun q h => by rw [← hAe]; exact Or.inr h
  have hS : va_S A s.heap s.heap [] := va_S.rf
  have hP : va_P (dC, dI) vwCl [(h0, .inr (15, mF q 0)), (q 1, .inl ((cm 1), 1749, .inl (fun _ => 0)))] s.heap := hP
  have hl := lv_entry ([.ref h0, .int 384]) (n := 4) (Nat.le_of_ble_eq_true rfl)
  rw [lg_entry_eq]
  generalize (lg_sl ([.ref h0, .int 384]) ++ List.replicate (4 - (lg_sl ([.ref h0, .int 384])).length) Slot.unset).toArray = ls at hl ⊢
  have hl : lv_has ls 4 [(0, .ref h0), (1, .int 384)] := hl
  refine lv_iconst (v := 0) hx hb dX12_sumLand_0 (by decide) ?_
  refine lv_istore_n (lv' := [(2, .int 0), (0, .ref h0), (1, .int 384)]) hx hb dX12_sumLand_1 rfl hl (by decide) rfl (fun ls hl => ?_)
  refine lv_iconst (v := 0) hx hb dX12_sumLand_2 (by decide) ?_
  refine lv_istore_n (lv' := [(3, .int 0), (2, .int 0), (0, .ref h0), (1, .int 384)]) hx hb dX12_sumLand_3 rfl hl (by decide) rfl (fun ls hl => ?_)
  have key1 : ∀ (n1 i : Nat), i + n1 = 96 → ∀ (H : Heap) (locs : List Loc), va_P (dC, dI) vwCl [(h0, .inr (15, mF q 0)), (q 1, .inl ((cm 1), 1749, .inl (fun _ => 0)))] H → va_D A [(h0, .inr (15, mF q 0)), (q 1, .inl ((cm 1), 1749, .inl (fun _ => 0)))] → va_S A s.heap H locs → ∀ ls : Array Slot, lv_has ls 4 [(3, .int (nI i)), (2, .int 0), (0, .ref h0), (1, .int 384)] → W p l e (headSpec w_m_sumLand384 ({ frames := 0, cells := 0, slots := 0, locals := 0 })).room s m #[.ref h0, .int 384] below meth c H locs 0 0 (MQ below (va_Qi (fun (r : Int32) (u : Unit) => r = 0) (fun (_ : Unit) (t : State) => va_P (dC, dI) vwCl [(h0, .inr (15, mF q 0)), (q 1, .inl ((cm 1), 1749, .inl (fun _ => 0)))] t.heap ∧ va_D A [(h0, .inr (15, mF q 0)), (q 1, .inl ((cm 1), 1749, .inl (fun _ => 0)))]) A) #[.ref h0, .int 384] s 0 0 A) (F0 m 4 ls []) := by
    intro n1
    induction n1 with
    | zero =>
      intro i hn1 H locs hP hD hS ls hl
      obtain rfl : 96 = i := by omega
      refine lv_iload_n hx hb dX12_sumLand_4 rfl (lv_at hl 0 rfl) ?_
      refine lv_bipush (v := 96) hx hb dX12_sumLand_5 (by decide) ?_
      refine lv_icmp_ge (tgt := 27) hx hb dX12_sumLand_7 (by decide) (fun c2 => ?_) (fun c2 => absurd c2 (by decide))
      refine lv_iload_n hx hb dX12_sumLand_27 rfl (lv_at hl 1 rfl) ?_
      exact W.iret (v := 0) hx hb hr (fun t ht hW => ⟨⟨0, (), rfl, (by rfl), by rw [ht]; exact hP.sub (ws' := [(h0, .inr (15, mF q 0)), (q 1, .inl ((cm 1), 1749, .inl (fun _ => 0)))]) [0, 1] rfl, hD.sub (ws' := [(h0, .inr (15, mF q 0)), (q 1, .inl ((cm 1), 1749, .inl (fun _ => 0)))]) [0, 1] (by decide) rfl⟩, hS.F ht⟩) hS.2.2 dX12_sumLand_28
    | succ n1 ih1 =>
      intro i hn1 H locs hP hD hS ls hl
      have hlt3 : i < 96 := by omega
      refine lv_iload_n hx hb dX12_sumLand_4 rfl (lv_at hl 0 rfl) ?_
      refine lv_bipush (v := 96) hx hb dX12_sumLand_5 (by decide) ?_
      refine lv_icmp_ge (tgt := 27) hx hb dX12_sumLand_7 (by decide) (fun c4 => absurd c4 (nI_ge (b := 96) hlt3 (by decide))) (fun c4 => ?_)
      refine lv_iload_n hx hb dX12_sumLand_10 rfl (lv_at hl 1 rfl) ?_
      refine lv_aload_n hx hb dX12_sumLand_11 rfl (lv_at hl 2 rfl) ?_
      refine va_get (D := (dC, dI)) (ci := 15) (v := .ref (q 1)) (C := RX12) (T := TX12) (N := 78) hx hb hts bF_X12 hown hK hP 0 rfl rfl 1 (by decide) (ht_at hts 0 rfl) (fun _ h9 => h9) rfl dX12_sumLand_12 ?_
      refine lv_iload_n hx hb dX12_sumLand_15 rfl (lv_at hl 3 rfl) ?_
      refine lv_iload_n hx hb dX12_sumLand_16 rfl (lv_at hl 0 rfl) ?_
      refine lv_iadd hx hb dX12_sumLand_17 ?_
      refine lv_topi (fun x5 ex5 => ?_)
      refine va_iald hx hb hK hP 1 0 rfl rfl (by rw [ex5]; exact vin_ni (c := 384) (by omega) (by decide)) dX12_sumLand_18 ?_
      refine lv_topi (fun x6 ex6 => ?_)
      obtain rfl : 0 = x6 := (ex6).symm
      refine lv_iadd hx hb dX12_sumLand_19 ?_
      refine lv_topi (fun x7 ex7 => ?_)
      obtain rfl : x7 = 0 := ex7.trans (by decide)
      refine lv_istore_n (lv' := [(2, .int 0), (3, .int (nI i)), (0, .ref h0), (1, .int 384)]) hx hb dX12_sumLand_20 rfl hl (by decide) rfl (fun ls hl => ?_)
      obtain ⟨x8, ex8⟩ : ∃ y : Int32, y = (nI i) + 1 := ⟨_, rfl⟩
      refine lv_iinc (v := x8) (lv' := [(3, .int x8), (2, .int 0), (0, .ref h0), (1, .int 384)]) hx hb dX12_sumLand_21 hl (k := 1) rfl (by rw [ex8]; rfl) (by decide) rfl (fun ls hl => ?_)
      refine lv_goto (tgt := 4) hx hb dX12_sumLand_24 (by decide) ?_
      obtain rfl : x8 = nI (i + 1) := ex8.trans (nI_1 i)
      exact ih1 (i + 1) (by omega) _ _ (hP.sub [0, 1] rfl) (hD.sub [0, 1] (by decide) rfl) hS ls (lv_sub hl [0, 1, 2, 3] rfl)
  exact key1 96 0 (by decide) _ _ (hP.sub [0, 1] rfl) (hD.sub [0, 1] (by decide) rfl) hS ls (lv_sub hl [0, 1, 2, 3] rfl)
def w_m_sumLand480 : List Cond := .code yX12_sumLand cX12_sumLand 4 (some .int) :: ([.fieldLink RX12 9 "SeaLandModel" "world" "[I"] ++ bs)
set_option maxHeartbeats 4000000 in
set_option maxRecDepth 100000 in
theorem m_sumLand480 (l : Launch) (dC : Nat → ClassId) (dI : Nat → Nat → Nat) (h0 : Nat) (q : Nat → Nat) (cm : Nat → ClassId)  (sz : Nat) : Met l yX12_sumLand w_m_sumLand480 ({ frames := 0, cells := 0, slots := 0, locals := 0 }) (va_Pc [.ref h0, .int 480] (fun U => U.heap.size = sz ∧ va_P (dC, dI) vwCl [(h0, .inr (15, mF q 0)), (q 1, .inl ((cm 1), 1749, .inl (fun _ => 0)))] U.heap ∧ va_K (dC, dI) vwCl [((cm 1), .int)] U ∧ va_D (fun _ => True) [(h0, .inr (15, mF q 0)), (q 1, .inl ((cm 1), 1749, .inl (fun _ => 0)))])) (va_Qi (fun (r : Int32) (u : Unit) => r = 0) (fun (_ : Unit) (t : State) => va_P (dC, dI) vwCl [(h0, .inr (15, mF q 0)), (q 1, .inl ((cm 1), 1749, .inl (fun _ => 0)))] t.heap ∧ va_D (va_A [(h0, .inr (15, mF q 0)), (q 1, .inl ((cm 1), 1749, .inl (fun _ => 0)))] sz) [(h0, .inr (15, mF q 0)), (q 1, .inl ((cm 1), 1749, .inl (fun _ => 0)))]) (va_A [(h0, .inr (15, mF q 0)), (q 1, .inl ((cm 1), 1749, .inl (fun _ => 0)))] sz)) 0 0 (va_A [(h0, .inr (15, mF q 0)), (q 1, .inl ((cm 1), 1749, .inl (fun _ => 0)))] sz) := by
  refine Met.ofW (cc := cX12_sumLand) (maxL := 4) (ret := (some .int)) (by decide) rfl ?_
  intro p e s m args below meth c s₁ B hml hv
  obtain ⟨rfl, hsz, hP, hK, hD0⟩ := hv
  have hx := B.exec
  have hb := B.bytes
  have hr := B.returns
  have hts := atoms_spec (ws := w_m_sumLand480) B.pre
  have hown : s.vm.findClass RX12 = some m.cls := findClass_of_methodNamed B.named
  have hlocks := B.notSynchronized
  subst hsz
  have hD := hD0.self (sz := s.heap.size)
  generalize hAe : va_A [(h0, .inr (15, mF q 0)), (q 1, .inl ((cm 1), 1749, .inl (fun _ => 0)))] s.heap.size = A at hD ⊢
  have hA : ∀ q : Nat, s.heap.size ≤ q → A q := fun q h => by rw [← hAe]; exact Or.inr h
  have hS : va_S A s.heap s.heap [] := va_S.rf
  have hP : va_P (dC, dI) vwCl [(h0, .inr (15, mF q 0)), (q 1, .inl ((cm 1), 1749, .inl (fun _ => 0)))] s.heap := hP
  have hl := lv_entry ([.ref h0, .int 480]) (n := 4) (Nat.le_of_ble_eq_true rfl)
  rw [lg_entry_eq]
  generalize (lg_sl ([.ref h0, .int 480]) ++ List.replicate (4 - (lg_sl ([.ref h0, .int 480])).length) Slot.unset).toArray = ls at hl ⊢
  have hl : lv_has ls 4 [(0, .ref h0), (1, .int 480)] := hl
  refine lv_iconst (v := 0) hx hb dX12_sumLand_0 (by decide) ?_
  refine lv_istore_n (lv' := [(2, .int 0), (0, .ref h0), (1, .int 480)]) hx hb dX12_sumLand_1 rfl hl (by decide) rfl (fun ls hl => ?_)
  refine lv_iconst (v := 0) hx hb dX12_sumLand_2 (by decide) ?_
  refine lv_istore_n (lv' := [(3, .int 0), (2, .int 0), (0, .ref h0), (1, .int 480)]) hx hb dX12_sumLand_3 rfl hl (by decide) rfl (fun ls hl => ?_)
  have key1 : ∀ (n1 i : Nat), i + n1 = 96 → ∀ (H : Heap) (locs : List Loc), va_P (dC, dI) vwCl [(h0, .inr (15, mF q 0)), (q 1, .inl ((cm 1), 1749, .inl (fun _ => 0)))] H → va_D A [(h0, .inr (15, mF q 0)), (q 1, .inl ((cm 1), 1749, .inl (fun _ => 0)))] → va_S A s.heap H locs → ∀ ls : Array Slot, lv_has ls 4 [(3, .int (nI i)), (2, .int 0), (0, .ref h0), (1, .int 480)] → W p l e (headSpec w_m_sumLand480 ({ frames := 0, cells := 0, slots := 0, locals := 0 })).room s m #[.ref h0, .int 480] below meth c H locs 0 0 (MQ below (va_Qi (fun (r : Int32) (u : Unit) => r = 0) (fun (_ : Unit) (t : State) => va_P (dC, dI) vwCl [(h0, .inr (15, mF q 0)), (q 1, .inl ((cm 1), 1749, .inl (fun _ => 0)))] t.heap ∧ va_D A [(h0, .inr (15, mF q 0)), (q 1, .inl ((cm 1), 1749, .inl (fun _ => 0)))]) A) #[.ref h0, .int 480] s 0 0 A) (F0 m 4 ls []) := by
    intro n1
    induction n1 with
    | zero =>
      intro i hn1 H locs hP hD hS ls hl
      obtain rfl : 96 = i := by omega
      refine lv_iload_n hx hb dX12_sumLand_4 rfl (lv_at hl 0 rfl) ?_
      refine lv_bipush (v := 96) hx hb dX12_sumLand_5 (by decide) ?_
      refine lv_icmp_ge (tgt := 27) hx hb dX12_sumLand_7 (by decide) (fun c2 => ?_) (fun c2 => absurd c2 (by decide))
      refine lv_iload_n hx hb dX12_sumLand_27 rfl (lv_at hl 1 rfl) ?_
      exact W.iret (v := 0) hx hb hr (fun t ht hW => ⟨⟨0, (), rfl, (by rfl), by rw [ht]; exact hP.sub (ws' := [(h0, .inr (15, mF q 0)), (q 1, .inl ((cm 1), 1749, .inl (fun _ => 0)))]) [0, 1] rfl, hD.sub (ws' := [(h0, .inr (15, mF q 0)), (q 1, .inl ((cm 1), 1749, .inl (fun _ => 0)))]) [0, 1] (by decide) rfl⟩, hS.F ht⟩) hS.2.2 dX12_sumLand_28
    | succ n1 ih1 =>
      intro i hn1 H locs hP hD hS ls hl
      have hlt3 : i < 96 := by omega
      refine lv_iload_n hx hb dX12_sumLand_4 rfl (lv_at hl 0 rfl) ?_
      refine lv_bipush (v := 96) hx hb dX12_sumLand_5 (by decide) ?_
      refine lv_icmp_ge (tgt := 27) hx hb dX12_sumLand_7 (by decide) (fun c4 => absurd c4 (nI_ge (b := 96) hlt3 (by decide))) (fun c4 => ?_)
      refine lv_iload_n hx hb dX12_sumLand_10 rfl (lv_at hl 1 rfl) ?_
      refine lv_aload_n hx hb dX12_sumLand_11 rfl (lv_at hl 2 rfl) ?_
      refine va_get (D := (dC, dI)) (ci := 15) (v := .ref (q 1)) (C := RX12) (T := TX12) (N := 78) hx hb hts bF_X12 hown hK hP 0 rfl rfl 1 (by decide) (ht_at hts 0 rfl) (fun _ h9 => h9) rfl dX12_sumLand_12 ?_
      refine lv_iload_n hx hb dX12_sumLand_15 rfl (lv_at hl 3 rfl) ?_
      refine lv_iload_n hx hb dX12_sumLand_16 rfl (lv_at hl 0 rfl) ?_
      refine lv_iadd hx hb dX12_sumLand_17 ?_
      refine lv_topi (fun x5 ex5 => ?_)
      refine va_iald hx hb hK hP 1 0 rfl rfl (by rw [ex5]; exact vin_ni (c := 480) (by omega) (by decide)) dX12_sumLand_18 ?_
      refine lv_topi (fun x6 ex6 => ?_)
      obtain rfl : 0 = x6 := (ex6).symm
      refine lv_iadd hx hb dX12_sumLand_19 ?_
      refine lv_topi (fun x7 ex7 => ?_)
      obtain rfl : x7 = 0 := ex7.trans (by decide)
      refine lv_istore_n (lv' := [(2, .int 0), (3, .int (nI i)), (0, .ref h0), (1, .int 480)]) hx hb dX12_sumLand_20 rfl hl (by decide) rfl (fun ls hl => ?_)
      obtain ⟨x8, ex8⟩ : ∃ y : Int32, y = (nI i) + 1 := ⟨_, rfl⟩
      refine lv_iinc (v := x8) (lv' := [(3, .int x8), (2, .int 0), (0, .ref h0), (1, .int 480)]) hx hb dX12_sumLand_21 hl (k := 1) rfl (by rw [ex8]; rfl) (by decide) rfl (fun ls hl => ?_)
      refine lv_goto (tgt := 4) hx hb dX12_sumLand_24 (by decide) ?_
      obtain rfl : x8 = nI (i + 1) := ex8.trans (nI_1 i)
      exact ih1 (i + 1) (by omega) _ _ (hP.sub [0, 1] rfl) (hD.sub [0, 1] (by decide) rfl) hS ls (lv_sub hl [0, 1, 2, 3] rfl)
  exact key1 96 0 (by decide) _ _ (hP.sub [0, 1] rfl) (hD.sub [0, 1] (by decide) rfl) hS ls (lv_sub hl [0, 1, 2, 3] rfl)
def w_m_harvest : List Cond := .code yX12_harvest cX12_harvest 6 (some .int) :: ([.fieldLink RX12 194 "SeaLandModel" "thrown" "I", .code yX12_hour cX12_hour 1 (some .int), .fieldLink RX12 9 "SeaLandModel" "world" "[I", .methodLink RX12 228 yX12_hour, .instanceMethod yX12_hour, .selects RX12 yX12_hour yX12_hour, .initialized RX12, .fieldLink RX12 125 "SeaLandModel" "harvested" "I", .fieldLink RX12 495 "SeaLandModel" "settlers" "I"] ++ bs)
set_option maxHeartbeats 4000000 in
set_option maxRecDepth 100000 in
theorem m_harvest (l : Launch) (dC : Nat → ClassId) (dI : Nat → Nat → Nat) (h0 : Nat) (q : Nat → Nat) (cm : Nat → ClassId)  (sz : Nat) : Met l yX12_harvest w_m_harvest ({ frames := 1, cells := 0, slots := 0, locals := 20 }) (va_Pc [.ref h0] (fun U => U.heap.size = sz ∧ va_P (dC, dI) vwCl [(h0, .inr (15, mF q 0)), (q 1, .inl ((cm 1), 1749, .inl (fun _ => 0)))] U.heap ∧ va_K (dC, dI) vwCl [((cm 1), .int)] U ∧ va_D (fun _ => True) [(h0, .inr (15, mF q 0)), (q 1, .inl ((cm 1), 1749, .inl (fun _ => 0)))])) (va_Qi (fun (r : Int32) (u : List Value) => u[0]? = some (.int (T_harvest).1) ∧ ((T_harvest).1 = 0 → r = (T_harvest).2)) (fun (fs : List Value) (t : State) => va_P (dC, dI) vwCl [(h0, .inr (15, fs))] t.heap ∧ va_D (va_A [(h0, .inr (15, mF q 0)), (q 1, .inl ((cm 1), 1749, .inl (fun _ => 0)))] sz) [(h0, .inr (15, fs))]) (va_A [(h0, .inr (15, mF q 0)), (q 1, .inl ((cm 1), 1749, .inl (fun _ => 0)))] sz)) 0 0 (va_A [(h0, .inr (15, mF q 0)), (q 1, .inl ((cm 1), 1749, .inl (fun _ => 0)))] sz) := by
  refine Met.ofW (cc := cX12_harvest) (maxL := 6) (ret := (some .int)) (by decide) rfl ?_
  intro p e s m args below meth c s₁ B hml hv
  obtain ⟨rfl, hsz, hP, hK, hD0⟩ := hv
  have hx := B.exec
  have hb := B.bytes
  have hr := B.returns
  have hts := atoms_spec (ws := w_m_harvest) B.pre
  have hown : s.vm.findClass RX12 = some m.cls := findClass_of_methodNamed B.named
  have hlocks := B.notSynchronized
  subst hsz
  have hD := hD0.self (sz := s.heap.size)
  generalize hAe : va_A [(h0, .inr (15, mF q 0)), (q 1, .inl ((cm 1), 1749, .inl (fun _ => 0)))] s.heap.size = A at hD ⊢
  have hA : ∀ q : Nat, s.heap.size ≤ q → A q := fun q h => by rw [← hAe]; exact Or.inr h
  have hS : va_S A s.heap s.heap [] := va_S.rf
  have hP : va_P (dC, dI) vwCl [(h0, .inr (15, mF q 0)), (q 1, .inl ((cm 1), 1749, .inl (fun _ => 0)))] s.heap := hP
  have hl := lv_entry ([.ref h0]) (n := 6) (Nat.le_of_ble_eq_true rfl)
  rw [lg_entry_eq]
  generalize (lg_sl ([.ref h0]) ++ List.replicate (6 - (lg_sl ([.ref h0])).length) Slot.unset).toArray = ls at hl ⊢
  have hl : lv_has ls 6 [(0, .ref h0)] := hl
  refine lv_aload_n hx hb dX12_harvest_0 rfl (lv_at hl 0 rfl) ?_
  refine lv_iconst (v := 0) hx hb dX12_harvest_1 (by decide) ?_
  refine va_put (D := (dC, dI)) (ci := 15) (v := .int 0) (ty := .int) (C := RX12) (T := TX12) (N := 78) hx hb hts bF_X12 tyX12 tyX12_ok nmX12 hown hK hP hD hS 0 rfl rfl 0 (by decide) (ht_at hts 0 rfl) (fun _ h9 => h9) rfl (by decide +kernel) rfl rfl (Nat.le_of_ble_eq_true rfl) dX12_harvest_2 (fun H locs hP hD hS => ?_)
  have hP : va_P (dC, dI) vwCl [(h0, .inr (15, mF q 0)), (q 1, .inl ((cm 1), 1749, .inl (fun _ => 0)))] H := hP
  have hD : va_D A [(h0, .inr (15, mF q 0)), (q 1, .inl ((cm 1), 1749, .inl (fun _ => 0)))] := hD
  refine lv_aload_n hx hb dX12_harvest_5 rfl (lv_at hl 0 rfl) ?_
  have hPc := hP.sub (ws' := [(h0, .inr (15, mF q 0)), (q 1, .inl ((cm 1), 1749, .inl (fun _ => 0)))]) [0, 1] rfl
  have hDc := hD.sub (ws' := [(h0, .inr (15, mF q 0)), (q 1, .inl ((cm 1), 1749, .inl (fun _ => 0)))]) [0, 1] (by decide) rfl
  have hKc := hK.sub (tys' := [((cm 1), .int)]) [0] rfl
  have hFc := va_free (wc := [(h0, .inr (15, mF q 0)), (q 1, .inl ((cm 1), 1749, .inl (fun _ => 0)))]) hD hS hA [0, 1] rfl
  refine va_calli (va_runV (As := []) (rest := []) ⟨hx, hb, hml, hown, hts⟩ (m_hour l dC dI h0 q cm H.size ) (cwV 0 hts (goodIn_app (goodIn_r _ [4, 5, 6, 7] (by decide +kernel) (by decide +kernel)) (goodIn_ca (goodIn_r _ [2, 3] (by decide +kernel) (by decide +kernel)) (bs_in _ _))) rfl rfl rfl (by decide +kernel) ⟨(Nat.le_of_ble_eq_true rfl), (Nat.le_of_ble_eq_true rfl)⟩) ⟨fun a U g mk q => by obtain ⟨q0, q1, qP, qK, qD⟩ := q; exact ⟨q0, q1, qP, va_K.moved (u := U) (U := U.calling g mk a) (Vm.Alike.refl U.vm) qK, qD⟩, va_recv hKc hPc (ci := 15) (q0 := 0) rfl rfl, fun U hU hW => ⟨rfl, by rw [hU], by rw [hU]; exact hPc, va_K.moved hW.alike hKc, hDc.weaken (fun _ _ _ _ => trivial)⟩⟩ rfl rfl hl.1 rfl (lv_room (Nat.le_of_ble_eq_true rfl)) dX12_harvest_6 ⟨(Nat.le_of_ble_eq_true rfl), (Nat.le_of_ble_eq_true rfl)⟩) hS (fun q _ h => hFc q h) hFc (fun r2 u t H1 locs ht hvm hw3 hB hz1 hk1 hS => ?_)
  obtain ⟨hP1, hD1⟩ := hB
  rw [ht] at hP1
  obtain ⟨hP, hD⟩ := va_join (wr := []) (w1 := [(h0, .inr (15, mF q 0)), (q 1, .inl ((cm 1), 1749, .inl (fun _ => 0)))]) hP hD [0, 1] [] rfl rfl (by decide) (by decide) hk1 hFc hP1 hD1
  generalize H1 = H at hP hS ⊢
  have hP : va_P (dC, dI) vwCl [(h0, .inr (15, mF q 0)), (q 1, .inl ((cm 1), 1749, .inl (fun _ => 0)))] H := hP
  have hD : va_D A [(h0, .inr (15, mF q 0)), (q 1, .inl ((cm 1), 1749, .inl (fun _ => 0)))] := hD
  try dsimp only at hw3
  obtain rfl : 0 = r2 := (hw3).symm
  refine lv_bipush (v := 24) hx hb dX12_harvest_9 (by decide) ?_
  refine lv_idiv hx hb dX12_harvest_11 (by decide) ?_
  refine lv_topi (fun x4 ex4 => ?_)
  obtain rfl : x4 = 0 := ex4.trans (by decide)
  refine lv_sipush (v := 360) hx hb dX12_harvest_12 (by decide) ?_
  refine lv_idiv hx hb dX12_harvest_15 (by decide) ?_
  refine lv_topi (fun x5 ex5 => ?_)
  obtain rfl : x5 = 0 := ex5.trans (by decide)
  refine lv_istore_n (lv' := [(1, .int 0), (0, .ref h0)]) hx hb dX12_harvest_16 rfl hl (by decide) rfl (fun ls hl => ?_)
  refine lv_aload_n hx hb dX12_harvest_17 rfl (lv_at hl 1 rfl) ?_
  refine va_get (D := (dC, dI)) (ci := 15) (v := .int (-1)) (C := RX12) (T := TX12) (N := 78) hx hb hts bF_X12 hown hK hP 0 rfl rfl 49 (by decide) (ht_at hts 7 rfl) (fun _ h9 => h9) rfl dX12_harvest_18 ?_
  refine lv_iload_n hx hb dX12_harvest_21 rfl (lv_at hl 0 rfl) ?_
  refine lv_icmp_ne (tgt := 27) hx hb dX12_harvest_22 (by decide) (fun c6 => ?_) (fun c6 => absurd c6 (by decide))
  refine lv_aload_n hx hb dX12_harvest_27 rfl (lv_at hl 1 rfl) ?_
  refine lv_iload_n hx hb dX12_harvest_28 rfl (lv_at hl 0 rfl) ?_
  refine va_put (D := (dC, dI)) (ci := 15) (v := .int 0) (ty := .int) (C := RX12) (T := TX12) (N := 78) hx hb hts bF_X12 tyX12 tyX12_ok nmX12 hown hK hP hD hS 0 rfl rfl 49 (by decide) (ht_at hts 7 rfl) (fun _ h9 => h9) rfl (by decide +kernel) rfl rfl (Nat.le_of_ble_eq_true rfl) dX12_harvest_29 (fun H locs hP hD hS => ?_)
  have hP : va_P (dC, dI) vwCl [(h0, .inr (15, (.int 0 :: .ref (q 1) :: .ref (q 2) :: .int 0 :: .ref (q 4) :: .ref (q 5) :: .ref (q 6) :: .ref (q 7) :: .ref (q 8) :: .int 0 :: .ref (q 10) :: .int 0 :: .int 0 :: .int 0 :: .int 0 :: .int 0 :: .int (-1) :: .ref (q 17) :: .ref (q 18) :: .ref (q 19) :: .ref (q 20) :: .ref (q 21) :: .ref (q 22) :: .ref (q 23) :: .ref (q 24) :: .ref (q 25) :: .ref (q 26) :: .ref (q 27) :: .int 0 :: .ref (q 29) :: .ref (q 30) :: .ref (q 31) :: .ref (q 32) :: .ref (q 33) :: .ref (q 34) :: .ref (q 35) :: .ref (q 36) :: .ref (q 37) :: .ref (q 38) :: .ref (q 39) :: .ref (q 40) :: .ref (q 41) :: .int 0 :: .ref (q 43) :: .ref (q 44) :: .ref (q 45) :: .ref (q 46) :: .int 0 :: .int 0 :: .int 0 :: .ref (q 50) :: .ref (q 51) :: .int 0 :: .long 0 :: .long 0 :: .ref (q 55) :: .ref (q 56) :: .ref (q 57) :: .ref (q 58) :: .ref (q 59) :: .ref (q 60) :: .ref (q 61) :: .ref (q 62) :: .ref (q 63) :: .int 0 :: .ref (q 65) :: .ref (q 66) :: .ref (q 67) :: .ref (q 68) :: .ref (q 69) :: .ref (q 70) :: .ref (q 71) :: .ref (q 72) :: .ref (q 73) :: .int 0 :: .ref (q 75) :: .ref (q 76) :: .int 0 :: []))), (q 1, .inl ((cm 1), 1749, .inl (fun _ => 0)))] H := hP
  have hD : va_D A [(h0, .inr (15, (.int 0 :: .ref (q 1) :: .ref (q 2) :: .int 0 :: .ref (q 4) :: .ref (q 5) :: .ref (q 6) :: .ref (q 7) :: .ref (q 8) :: .int 0 :: .ref (q 10) :: .int 0 :: .int 0 :: .int 0 :: .int 0 :: .int 0 :: .int (-1) :: .ref (q 17) :: .ref (q 18) :: .ref (q 19) :: .ref (q 20) :: .ref (q 21) :: .ref (q 22) :: .ref (q 23) :: .ref (q 24) :: .ref (q 25) :: .ref (q 26) :: .ref (q 27) :: .int 0 :: .ref (q 29) :: .ref (q 30) :: .ref (q 31) :: .ref (q 32) :: .ref (q 33) :: .ref (q 34) :: .ref (q 35) :: .ref (q 36) :: .ref (q 37) :: .ref (q 38) :: .ref (q 39) :: .ref (q 40) :: .ref (q 41) :: .int 0 :: .ref (q 43) :: .ref (q 44) :: .ref (q 45) :: .ref (q 46) :: .int 0 :: .int 0 :: .int 0 :: .ref (q 50) :: .ref (q 51) :: .int 0 :: .long 0 :: .long 0 :: .ref (q 55) :: .ref (q 56) :: .ref (q 57) :: .ref (q 58) :: .ref (q 59) :: .ref (q 60) :: .ref (q 61) :: .ref (q 62) :: .ref (q 63) :: .int 0 :: .ref (q 65) :: .ref (q 66) :: .ref (q 67) :: .ref (q 68) :: .ref (q 69) :: .ref (q 70) :: .ref (q 71) :: .ref (q 72) :: .ref (q 73) :: .int 0 :: .ref (q 75) :: .ref (q 76) :: .int 0 :: []))), (q 1, .inl ((cm 1), 1749, .inl (fun _ => 0)))] := hD
  refine lv_iconst (v := 0) hx hb dX12_harvest_32 (by decide) ?_
  refine lv_istore_n (lv' := [(2, .int 0), (1, .int 0), (0, .ref h0)]) hx hb dX12_harvest_33 rfl hl (by decide) rfl (fun ls hl => ?_)
  refine lv_iconst (v := 0) hx hb dX12_harvest_34 (by decide) ?_
  refine lv_istore_n (lv' := [(3, .int 0), (2, .int 0), (1, .int 0), (0, .ref h0)]) hx hb dX12_harvest_35 rfl hl (by decide) rfl (fun ls hl => ?_)
  refine lv_iload_n hx hb dX12_harvest_36 rfl (lv_at hl 0 rfl) ?_
  refine lv_aload_n hx hb dX12_harvest_37 rfl (lv_at hl 3 rfl) ?_
  refine va_get (D := (dC, dI)) (ci := 15) (v := .int 0) (C := RX12) (T := TX12) (N := 78) hx hb hts bF_X12 hown hK hP 0 rfl rfl 42 (by decide) (ht_at hts 8 rfl) (fun _ h9 => h9) rfl dX12_harvest_38 ?_
  refine lv_icmp_ge (tgt := 102) hx hb dX12_harvest_41 (by decide) (fun c7 => ?_) (fun c7 => absurd c7 (by decide))
  refine lv_iconst (v := 0) hx hb dX12_harvest_102 (by decide) ?_
  refine lv_istore_n (lv' := [(3, .int 0), (2, .int 0), (1, .int 0), (0, .ref h0)]) hx hb dX12_harvest_103 rfl hl (by decide) rfl (fun ls hl => ?_)
  have key8 : ∀ (n8 i : Nat), i + n8 = 96 → ∀ (g : Nat → Int32), ∀ (H : Heap) (locs : List Loc), va_P (dC, dI) vwCl [(h0, .inr (15, (.int 0 :: .ref (q 1) :: .ref (q 2) :: .int 0 :: .ref (q 4) :: .ref (q 5) :: .ref (q 6) :: .ref (q 7) :: .ref (q 8) :: .int 0 :: .ref (q 10) :: .int 0 :: .int 0 :: .int 0 :: .int 0 :: .int 0 :: .int (-1) :: .ref (q 17) :: .ref (q 18) :: .ref (q 19) :: .ref (q 20) :: .ref (q 21) :: .ref (q 22) :: .ref (q 23) :: .ref (q 24) :: .ref (q 25) :: .ref (q 26) :: .ref (q 27) :: .int 0 :: .ref (q 29) :: .ref (q 30) :: .ref (q 31) :: .ref (q 32) :: .ref (q 33) :: .ref (q 34) :: .ref (q 35) :: .ref (q 36) :: .ref (q 37) :: .ref (q 38) :: .ref (q 39) :: .ref (q 40) :: .ref (q 41) :: .int 0 :: .ref (q 43) :: .ref (q 44) :: .ref (q 45) :: .ref (q 46) :: .int 0 :: .int 0 :: .int 0 :: .ref (q 50) :: .ref (q 51) :: .int 0 :: .long 0 :: .long 0 :: .ref (q 55) :: .ref (q 56) :: .ref (q 57) :: .ref (q 58) :: .ref (q 59) :: .ref (q 60) :: .ref (q 61) :: .ref (q 62) :: .ref (q 63) :: .int 0 :: .ref (q 65) :: .ref (q 66) :: .ref (q 67) :: .ref (q 68) :: .ref (q 69) :: .ref (q 70) :: .ref (q 71) :: .ref (q 72) :: .ref (q 73) :: .int 0 :: .ref (q 75) :: .ref (q 76) :: .int 0 :: []))), (q 1, .inl ((cm 1), 1749, .inl g))] H → va_D A [(h0, .inr (15, (.int 0 :: .ref (q 1) :: .ref (q 2) :: .int 0 :: .ref (q 4) :: .ref (q 5) :: .ref (q 6) :: .ref (q 7) :: .ref (q 8) :: .int 0 :: .ref (q 10) :: .int 0 :: .int 0 :: .int 0 :: .int 0 :: .int 0 :: .int (-1) :: .ref (q 17) :: .ref (q 18) :: .ref (q 19) :: .ref (q 20) :: .ref (q 21) :: .ref (q 22) :: .ref (q 23) :: .ref (q 24) :: .ref (q 25) :: .ref (q 26) :: .ref (q 27) :: .int 0 :: .ref (q 29) :: .ref (q 30) :: .ref (q 31) :: .ref (q 32) :: .ref (q 33) :: .ref (q 34) :: .ref (q 35) :: .ref (q 36) :: .ref (q 37) :: .ref (q 38) :: .ref (q 39) :: .ref (q 40) :: .ref (q 41) :: .int 0 :: .ref (q 43) :: .ref (q 44) :: .ref (q 45) :: .ref (q 46) :: .int 0 :: .int 0 :: .int 0 :: .ref (q 50) :: .ref (q 51) :: .int 0 :: .long 0 :: .long 0 :: .ref (q 55) :: .ref (q 56) :: .ref (q 57) :: .ref (q 58) :: .ref (q 59) :: .ref (q 60) :: .ref (q 61) :: .ref (q 62) :: .ref (q 63) :: .int 0 :: .ref (q 65) :: .ref (q 66) :: .ref (q 67) :: .ref (q 68) :: .ref (q 69) :: .ref (q 70) :: .ref (q 71) :: .ref (q 72) :: .ref (q 73) :: .int 0 :: .ref (q 75) :: .ref (q 76) :: .int 0 :: []))), (q 1, .inl ((cm 1), 1749, .inl g))] → va_S A s.heap H locs → ∀ ls : Array Slot, lv_has ls 6 [(3, .int (nI i)), (2, .int 0), (0, .ref h0), (1, .int 0)] → W p l e (headSpec w_m_harvest ({ frames := 1, cells := 0, slots := 0, locals := 20 })).room s m #[.ref h0] below meth c H locs 0 0 (MQ below (va_Qi (fun (r : Int32) (u : List Value) => u[0]? = some (.int (T_harvest).1) ∧ ((T_harvest).1 = 0 → r = (T_harvest).2)) (fun (fs : List Value) (t : State) => va_P (dC, dI) vwCl [(h0, .inr (15, fs))] t.heap ∧ va_D A [(h0, .inr (15, fs))]) A) #[.ref h0] s 0 0 A) (F0 m 104 ls []) := by
    intro n8
    induction n8 with
    | zero =>
      intro i hn8 g H locs hP hD hS ls hl
      obtain rfl : 96 = i := by omega
      refine lv_iload_n hx hb dX12_harvest_104 rfl (lv_at hl 0 rfl) ?_
      refine lv_bipush (v := 96) hx hb dX12_harvest_105 (by decide) ?_
      refine lv_icmp_ge (tgt := 127) hx hb dX12_harvest_107 (by decide) (fun c9 => ?_) (fun c9 => absurd c9 (by decide))
      refine lv_iconst (v := 0) hx hb dX12_harvest_127 (by decide) ?_
      refine lv_istore_n (lv' := [(3, .int 0), (2, .int 0), (0, .ref h0), (1, .int 0)]) hx hb dX12_harvest_128 rfl hl (by decide) rfl (fun ls hl => ?_)
      refine lv_iload_n hx hb dX12_harvest_129 rfl (lv_at hl 0 rfl) ?_
      refine lv_aload_n hx hb dX12_harvest_130 rfl (lv_at hl 2 rfl) ?_
      refine va_get (D := (dC, dI)) (ci := 15) (v := .int 0) (C := RX12) (T := TX12) (N := 78) hx hb hts bF_X12 hown hK hP 0 rfl rfl 42 (by decide) (ht_at hts 8 rfl) (fun _ h9 => h9) rfl dX12_harvest_131 ?_
      refine lv_icmp_ge (tgt := 266) hx hb dX12_harvest_134 (by decide) (fun c10 => ?_) (fun c10 => absurd c10 (by decide))
      refine lv_iload_n hx hb dX12_harvest_266 rfl (lv_at hl 1 rfl) ?_
      exact W.iret (v := 0) hx hb hr (fun t ht hW => ⟨⟨0, (.int 0 :: .ref (q 1) :: .ref (q 2) :: .int 0 :: .ref (q 4) :: .ref (q 5) :: .ref (q 6) :: .ref (q 7) :: .ref (q 8) :: .int 0 :: .ref (q 10) :: .int 0 :: .int 0 :: .int 0 :: .int 0 :: .int 0 :: .int (-1) :: .ref (q 17) :: .ref (q 18) :: .ref (q 19) :: .ref (q 20) :: .ref (q 21) :: .ref (q 22) :: .ref (q 23) :: .ref (q 24) :: .ref (q 25) :: .ref (q 26) :: .ref (q 27) :: .int 0 :: .ref (q 29) :: .ref (q 30) :: .ref (q 31) :: .ref (q 32) :: .ref (q 33) :: .ref (q 34) :: .ref (q 35) :: .ref (q 36) :: .ref (q 37) :: .ref (q 38) :: .ref (q 39) :: .ref (q 40) :: .ref (q 41) :: .int 0 :: .ref (q 43) :: .ref (q 44) :: .ref (q 45) :: .ref (q 46) :: .int 0 :: .int 0 :: .int 0 :: .ref (q 50) :: .ref (q 51) :: .int 0 :: .long 0 :: .long 0 :: .ref (q 55) :: .ref (q 56) :: .ref (q 57) :: .ref (q 58) :: .ref (q 59) :: .ref (q 60) :: .ref (q 61) :: .ref (q 62) :: .ref (q 63) :: .int 0 :: .ref (q 65) :: .ref (q 66) :: .ref (q 67) :: .ref (q 68) :: .ref (q 69) :: .ref (q 70) :: .ref (q 71) :: .ref (q 72) :: .ref (q 73) :: .int 0 :: .ref (q 75) :: .ref (q 76) :: .int 0 :: []), rfl, (by unfold T_harvest; (first | exact ⟨rfl, fun _ => rfl⟩ | exact ⟨rfl, fun h => absurd h (by decide)⟩)), by rw [ht]; exact hP.sub (ws' := [(h0, .inr (15, (.int 0 :: .ref (q 1) :: .ref (q 2) :: .int 0 :: .ref (q 4) :: .ref (q 5) :: .ref (q 6) :: .ref (q 7) :: .ref (q 8) :: .int 0 :: .ref (q 10) :: .int 0 :: .int 0 :: .int 0 :: .int 0 :: .int 0 :: .int (-1) :: .ref (q 17) :: .ref (q 18) :: .ref (q 19) :: .ref (q 20) :: .ref (q 21) :: .ref (q 22) :: .ref (q 23) :: .ref (q 24) :: .ref (q 25) :: .ref (q 26) :: .ref (q 27) :: .int 0 :: .ref (q 29) :: .ref (q 30) :: .ref (q 31) :: .ref (q 32) :: .ref (q 33) :: .ref (q 34) :: .ref (q 35) :: .ref (q 36) :: .ref (q 37) :: .ref (q 38) :: .ref (q 39) :: .ref (q 40) :: .ref (q 41) :: .int 0 :: .ref (q 43) :: .ref (q 44) :: .ref (q 45) :: .ref (q 46) :: .int 0 :: .int 0 :: .int 0 :: .ref (q 50) :: .ref (q 51) :: .int 0 :: .long 0 :: .long 0 :: .ref (q 55) :: .ref (q 56) :: .ref (q 57) :: .ref (q 58) :: .ref (q 59) :: .ref (q 60) :: .ref (q 61) :: .ref (q 62) :: .ref (q 63) :: .int 0 :: .ref (q 65) :: .ref (q 66) :: .ref (q 67) :: .ref (q 68) :: .ref (q 69) :: .ref (q 70) :: .ref (q 71) :: .ref (q 72) :: .ref (q 73) :: .int 0 :: .ref (q 75) :: .ref (q 76) :: .int 0 :: [])))]) [0] rfl, hD.sub (ws' := [(h0, .inr (15, (.int 0 :: .ref (q 1) :: .ref (q 2) :: .int 0 :: .ref (q 4) :: .ref (q 5) :: .ref (q 6) :: .ref (q 7) :: .ref (q 8) :: .int 0 :: .ref (q 10) :: .int 0 :: .int 0 :: .int 0 :: .int 0 :: .int 0 :: .int (-1) :: .ref (q 17) :: .ref (q 18) :: .ref (q 19) :: .ref (q 20) :: .ref (q 21) :: .ref (q 22) :: .ref (q 23) :: .ref (q 24) :: .ref (q 25) :: .ref (q 26) :: .ref (q 27) :: .int 0 :: .ref (q 29) :: .ref (q 30) :: .ref (q 31) :: .ref (q 32) :: .ref (q 33) :: .ref (q 34) :: .ref (q 35) :: .ref (q 36) :: .ref (q 37) :: .ref (q 38) :: .ref (q 39) :: .ref (q 40) :: .ref (q 41) :: .int 0 :: .ref (q 43) :: .ref (q 44) :: .ref (q 45) :: .ref (q 46) :: .int 0 :: .int 0 :: .int 0 :: .ref (q 50) :: .ref (q 51) :: .int 0 :: .long 0 :: .long 0 :: .ref (q 55) :: .ref (q 56) :: .ref (q 57) :: .ref (q 58) :: .ref (q 59) :: .ref (q 60) :: .ref (q 61) :: .ref (q 62) :: .ref (q 63) :: .int 0 :: .ref (q 65) :: .ref (q 66) :: .ref (q 67) :: .ref (q 68) :: .ref (q 69) :: .ref (q 70) :: .ref (q 71) :: .ref (q 72) :: .ref (q 73) :: .int 0 :: .ref (q 75) :: .ref (q 76) :: .int 0 :: [])))]) [0] (by decide) rfl⟩, hS.F ht⟩) hS.2.2 dX12_harvest_267
    | succ n8 ih8 =>
      intro i hn8 g H locs hP hD hS ls hl
      have hlt11 : i < 96 := by omega
      refine lv_iload_n hx hb dX12_harvest_104 rfl (lv_at hl 0 rfl) ?_
      refine lv_bipush (v := 96) hx hb dX12_harvest_105 (by decide) ?_
      refine lv_icmp_ge (tgt := 127) hx hb dX12_harvest_107 (by decide) (fun c12 => absurd c12 (nI_ge (b := 96) hlt11 (by decide))) (fun c12 => ?_)
      refine lv_aload_n hx hb dX12_harvest_110 rfl (lv_at hl 2 rfl) ?_
      refine va_get (D := (dC, dI)) (ci := 15) (v := .ref (q 1)) (C := RX12) (T := TX12) (N := 78) hx hb hts bF_X12 hown hK hP 0 rfl rfl 1 (by decide) (ht_at hts 2 rfl) (fun _ h9 => h9) rfl dX12_harvest_111 ?_
      refine lv_sipush (v := 672) hx hb dX12_harvest_114 (by decide) ?_
      refine lv_iload_n hx hb dX12_harvest_117 rfl (lv_at hl 0 rfl) ?_
      refine lv_iadd hx hb dX12_harvest_118 ?_
      refine lv_topi (fun x13 ex13 => ?_)
      refine lv_iconst (v := 0) hx hb dX12_harvest_119 (by decide) ?_
      refine va_iast hx hb hK hP hD hS 1 0 rfl rfl (by rw [ex13]; exact vin_ni (c := 672) (by omega) (by decide)) dX12_harvest_120 (fun H locs hP hD hS => ?_)
      have hP : va_P (dC, dI) vwCl [(h0, .inr (15, (.int 0 :: .ref (q 1) :: .ref (q 2) :: .int 0 :: .ref (q 4) :: .ref (q 5) :: .ref (q 6) :: .ref (q 7) :: .ref (q 8) :: .int 0 :: .ref (q 10) :: .int 0 :: .int 0 :: .int 0 :: .int 0 :: .int 0 :: .int (-1) :: .ref (q 17) :: .ref (q 18) :: .ref (q 19) :: .ref (q 20) :: .ref (q 21) :: .ref (q 22) :: .ref (q 23) :: .ref (q 24) :: .ref (q 25) :: .ref (q 26) :: .ref (q 27) :: .int 0 :: .ref (q 29) :: .ref (q 30) :: .ref (q 31) :: .ref (q 32) :: .ref (q 33) :: .ref (q 34) :: .ref (q 35) :: .ref (q 36) :: .ref (q 37) :: .ref (q 38) :: .ref (q 39) :: .ref (q 40) :: .ref (q 41) :: .int 0 :: .ref (q 43) :: .ref (q 44) :: .ref (q 45) :: .ref (q 46) :: .int 0 :: .int 0 :: .int 0 :: .ref (q 50) :: .ref (q 51) :: .int 0 :: .long 0 :: .long 0 :: .ref (q 55) :: .ref (q 56) :: .ref (q 57) :: .ref (q 58) :: .ref (q 59) :: .ref (q 60) :: .ref (q 61) :: .ref (q 62) :: .ref (q 63) :: .int 0 :: .ref (q 65) :: .ref (q 66) :: .ref (q 67) :: .ref (q 68) :: .ref (q 69) :: .ref (q 70) :: .ref (q 71) :: .ref (q 72) :: .ref (q 73) :: .int 0 :: .ref (q 75) :: .ref (q 76) :: .int 0 :: []))), (q 1, .inl ((cm 1), 1749, .inl (upd g x13.toNatClampNeg 0)))] H := hP
      have hD : va_D A [(h0, .inr (15, (.int 0 :: .ref (q 1) :: .ref (q 2) :: .int 0 :: .ref (q 4) :: .ref (q 5) :: .ref (q 6) :: .ref (q 7) :: .ref (q 8) :: .int 0 :: .ref (q 10) :: .int 0 :: .int 0 :: .int 0 :: .int 0 :: .int 0 :: .int (-1) :: .ref (q 17) :: .ref (q 18) :: .ref (q 19) :: .ref (q 20) :: .ref (q 21) :: .ref (q 22) :: .ref (q 23) :: .ref (q 24) :: .ref (q 25) :: .ref (q 26) :: .ref (q 27) :: .int 0 :: .ref (q 29) :: .ref (q 30) :: .ref (q 31) :: .ref (q 32) :: .ref (q 33) :: .ref (q 34) :: .ref (q 35) :: .ref (q 36) :: .ref (q 37) :: .ref (q 38) :: .ref (q 39) :: .ref (q 40) :: .ref (q 41) :: .int 0 :: .ref (q 43) :: .ref (q 44) :: .ref (q 45) :: .ref (q 46) :: .int 0 :: .int 0 :: .int 0 :: .ref (q 50) :: .ref (q 51) :: .int 0 :: .long 0 :: .long 0 :: .ref (q 55) :: .ref (q 56) :: .ref (q 57) :: .ref (q 58) :: .ref (q 59) :: .ref (q 60) :: .ref (q 61) :: .ref (q 62) :: .ref (q 63) :: .int 0 :: .ref (q 65) :: .ref (q 66) :: .ref (q 67) :: .ref (q 68) :: .ref (q 69) :: .ref (q 70) :: .ref (q 71) :: .ref (q 72) :: .ref (q 73) :: .int 0 :: .ref (q 75) :: .ref (q 76) :: .int 0 :: []))), (q 1, .inl ((cm 1), 1749, .inl (upd g x13.toNatClampNeg 0)))] := hD
      obtain ⟨x14, ex14⟩ : ∃ y : Int32, y = (nI i) + 1 := ⟨_, rfl⟩
      refine lv_iinc (v := x14) (lv' := [(3, .int x14), (2, .int 0), (0, .ref h0), (1, .int 0)]) hx hb dX12_harvest_121 hl (k := 0) rfl (by rw [ex14]; rfl) (by decide) rfl (fun ls hl => ?_)
      refine lv_goto (tgt := 104) hx hb dX12_harvest_124 (by decide) ?_
      obtain rfl : x14 = nI (i + 1) := ex14.trans (nI_1 i)
      exact ih8 (i + 1) (by omega) (upd g x13.toNatClampNeg 0) _ _ (hP.sub [0, 1] rfl) (hD.sub [0, 1] (by decide) rfl) hS ls (lv_sub hl [0, 1, 2, 3] rfl)
  exact key8 96 0 (by decide) (fun _ => 0) _ _ (hP.sub [0, 1] rfl) (hD.sub [0, 1] (by decide) rfl) hS ls (lv_sub hl [0, 1, 3, 2] rfl)
def w_m_count : List Cond := .code yX12_count cX12_count 4 (some .int) :: ([.fieldLink RX12 194 "SeaLandModel" "thrown" "I", .code yX12_hour cX12_hour 1 (some .int), .fieldLink RX12 9 "SeaLandModel" "world" "[I", .methodLink RX12 228 yX12_hour, .instanceMethod yX12_hour, .selects RX12 yX12_hour yX12_hour, .initialized RX12, .code yX12_sumLand cX12_sumLand 4 (some .int), .methodLink RX12 563 yX12_sumLand, .instanceMethod yX12_sumLand, .selects RX12 yX12_sumLand yX12_sumLand, .fieldLink RX12 42 "SeaLandModel" "lines" "[I", .fieldLink RX12 495 "SeaLandModel" "settlers" "I", .code yX12_holders cX12_holders 3 (some .int), .methodLink RX12 460 yX12_holders, .instanceMethod yX12_holders, .selects RX12 yX12_holders yX12_holders, .fieldLink RX12 498 "SeaLandModel" "farms" "I", .fieldLink RX12 519 "SeaLandModel" "board" "I", .fieldLink RX12 533 "SeaLandModel" "contracts" "I", .fieldLink RX12 238 "SeaLandModel" "rows" "I"] ++ bs)
set_option maxHeartbeats 4000000 in
set_option maxRecDepth 100000 in
theorem m_count (l : Launch) (dC : Nat → ClassId) (dI : Nat → Nat → Nat) (h0 : Nat) (q : Nat → Nat) (cm : Nat → ClassId) (p0 : Int32) (sz : Nat) : Met l yX12_count w_m_count ({ frames := 1, cells := 0, slots := 0, locals := 23 }) (va_Pc [.ref h0, .int p0] (fun U => U.heap.size = sz ∧ va_P (dC, dI) vwCl [(h0, .inr (15, mF q 0)), (q 1, .inl ((cm 1), 1749, .inl (fun _ => 0))), (q 18, .inl ((cm 18), 3, .inl (fun _ => 0)))] U.heap ∧ va_K (dC, dI) vwCl [((cm 1), .int), ((cm 18), .int)] U ∧ va_D (fun _ => True) [(h0, .inr (15, mF q 0)), (q 1, .inl ((cm 1), 1749, .inl (fun _ => 0))), (q 18, .inl ((cm 18), 3, .inl (fun _ => 0)))])) (va_Qi (fun (r : Int32) (u : List Value) => u[0]? = some (.int (T_count p0).1) ∧ ((T_count p0).1 = 0 → r = (T_count p0).2)) (fun (fs : List Value) (t : State) => va_P (dC, dI) vwCl [(h0, .inr (15, fs))] t.heap ∧ va_D (va_A [(h0, .inr (15, mF q 0)), (q 1, .inl ((cm 1), 1749, .inl (fun _ => 0))), (q 18, .inl ((cm 18), 3, .inl (fun _ => 0)))] sz) [(h0, .inr (15, fs))]) (va_A [(h0, .inr (15, mF q 0)), (q 1, .inl ((cm 1), 1749, .inl (fun _ => 0))), (q 18, .inl ((cm 18), 3, .inl (fun _ => 0)))] sz)) 0 0 (va_A [(h0, .inr (15, mF q 0)), (q 1, .inl ((cm 1), 1749, .inl (fun _ => 0))), (q 18, .inl ((cm 18), 3, .inl (fun _ => 0)))] sz) := by
  refine Met.ofW (cc := cX12_count) (maxL := 4) (ret := (some .int)) (by decide) rfl ?_
  intro p e s m args below meth c s₁ B hml hv
  obtain ⟨rfl, hsz, hP, hK, hD0⟩ := hv
  have hx := B.exec
  have hb := B.bytes
  have hr := B.returns
  have hts := atoms_spec (ws := w_m_count) B.pre
  have hown : s.vm.findClass RX12 = some m.cls := findClass_of_methodNamed B.named
  have hlocks := B.notSynchronized
  subst hsz
  have hD := hD0.self (sz := s.heap.size)
  generalize hAe : va_A [(h0, .inr (15, mF q 0)), (q 1, .inl ((cm 1), 1749, .inl (fun _ => 0))), (q 18, .inl ((cm 18), 3, .inl (fun _ => 0)))] s.heap.size = A at hD ⊢
  have hA : ∀ q : Nat, s.heap.size ≤ q → A q := fun q h => by rw [← hAe]; exact Or.inr h
  have hS : va_S A s.heap s.heap [] := va_S.rf
  have hP : va_P (dC, dI) vwCl [(h0, .inr (15, mF q 0)), (q 1, .inl ((cm 1), 1749, .inl (fun _ => 0))), (q 18, .inl ((cm 18), 3, .inl (fun _ => 0)))] s.heap := hP
  have hl := lv_entry ([.ref h0, .int p0]) (n := 4) (Nat.le_of_ble_eq_true rfl)
  rw [lg_entry_eq]
  generalize (lg_sl ([.ref h0, .int p0]) ++ List.replicate (4 - (lg_sl ([.ref h0, .int p0])).length) Slot.unset).toArray = ls at hl ⊢
  have hl : lv_has ls 4 [(0, .ref h0), (1, .int p0)] := hl
  refine lv_aload_n hx hb dX12_count_0 rfl (lv_at hl 0 rfl) ?_
  refine lv_iconst (v := 0) hx hb dX12_count_1 (by decide) ?_
  refine va_put (D := (dC, dI)) (ci := 15) (v := .int 0) (ty := .int) (C := RX12) (T := TX12) (N := 78) hx hb hts bF_X12 tyX12 tyX12_ok nmX12 hown hK hP hD hS 0 rfl rfl 0 (by decide) (ht_at hts 0 rfl) (fun _ h9 => h9) rfl (by decide +kernel) rfl rfl (Nat.le_of_ble_eq_true rfl) dX12_count_2 (fun H locs hP hD hS => ?_)
  have hP : va_P (dC, dI) vwCl [(h0, .inr (15, mF q 0)), (q 1, .inl ((cm 1), 1749, .inl (fun _ => 0))), (q 18, .inl ((cm 18), 3, .inl (fun _ => 0)))] H := hP
  have hD : va_D A [(h0, .inr (15, mF q 0)), (q 1, .inl ((cm 1), 1749, .inl (fun _ => 0))), (q 18, .inl ((cm 18), 3, .inl (fun _ => 0)))] := hD
  refine lv_iconst (v := 0) hx hb dX12_count_5 (by decide) ?_
  refine lv_istore_n (lv' := [(2, .int 0), (0, .ref h0), (1, .int p0)]) hx hb dX12_count_6 rfl hl (by decide) rfl (fun ls hl => ?_)
  refine lv_iload_n hx hb dX12_count_7 rfl (lv_at hl 2 rfl) ?_
  by_cases hs1 : p0 = 0
  · subst hs1
    refine lv_tableIn (x := 0) (off := 88) (tgt := 96) hx hb dX12_count_8 (by decide) (by decide) (by decide) (by decide) ?_
    refine lv_aload_n hx hb dX12_count_96 rfl (lv_at hl 1 rfl) ?_
    have hPc := hP.sub (ws' := [(h0, .inr (15, mF q 0)), (q 1, .inl ((cm 1), 1749, .inl (fun _ => 0)))]) [0, 1] rfl
    have hDc := hD.sub (ws' := [(h0, .inr (15, mF q 0)), (q 1, .inl ((cm 1), 1749, .inl (fun _ => 0)))]) [0, 1] (by decide) rfl
    have hKc := hK.sub (tys' := [((cm 1), .int)]) [0] rfl
    have hFc := va_free (wc := [(h0, .inr (15, mF q 0)), (q 1, .inl ((cm 1), 1749, .inl (fun _ => 0)))]) hD hS hA [0, 1] rfl
    refine va_calli (va_runV (As := []) (rest := []) ⟨hx, hb, hml, hown, hts⟩ (m_hour l dC dI h0 q cm H.size ) (cwV 0 hts (goodIn_app (goodIn_r _ [4, 5, 6, 7] (by decide +kernel) (by decide +kernel)) (goodIn_ca (goodIn_r _ [2, 3] (by decide +kernel) (by decide +kernel)) (bs_in _ _))) rfl rfl rfl (by decide +kernel) ⟨(Nat.le_of_ble_eq_true rfl), (Nat.le_of_ble_eq_true rfl)⟩) ⟨fun a U g mk q => by obtain ⟨q0, q1, qP, qK, qD⟩ := q; exact ⟨q0, q1, qP, va_K.moved (u := U) (U := U.calling g mk a) (Vm.Alike.refl U.vm) qK, qD⟩, va_recv hKc hPc (ci := 15) (q0 := 0) rfl rfl, fun U hU hW => ⟨rfl, by rw [hU], by rw [hU]; exact hPc, va_K.moved hW.alike hKc, hDc.weaken (fun _ _ _ _ => trivial)⟩⟩ rfl rfl hl.1 rfl (lv_room (Nat.le_of_ble_eq_true rfl)) dX12_count_97 ⟨(Nat.le_of_ble_eq_true rfl), (Nat.le_of_ble_eq_true rfl)⟩) hS (fun q _ h => hFc q h) hFc (fun r3 u t H1 locs ht hvm hw4 hB hz1 hk1 hS => ?_)
    obtain ⟨hP1, hD1⟩ := hB
    rw [ht] at hP1
    obtain ⟨hP, hD⟩ := va_join (wr := [(q 18, .inl ((cm 18), 3, .inl (fun _ => 0)))]) (w1 := [(h0, .inr (15, mF q 0)), (q 1, .inl ((cm 1), 1749, .inl (fun _ => 0)))]) hP hD [0, 1] [2] rfl rfl (by decide) (by decide) hk1 hFc hP1 hD1
    generalize H1 = H at hP hS ⊢
    have hP : va_P (dC, dI) vwCl [(q 18, .inl ((cm 18), 3, .inl (fun _ => 0))), (h0, .inr (15, mF q 0)), (q 1, .inl ((cm 1), 1749, .inl (fun _ => 0)))] H := hP
    have hD : va_D A [(q 18, .inl ((cm 18), 3, .inl (fun _ => 0))), (h0, .inr (15, mF q 0)), (q 1, .inl ((cm 1), 1749, .inl (fun _ => 0)))] := hD
    try dsimp only at hw4
    obtain rfl : 0 = r3 := (hw4).symm
    exact W.iret (v := 0) hx hb hr (fun t ht hW => ⟨⟨0, (mF q 0), rfl, (by exact ⟨rfl, fun _ => by decide⟩), by rw [ht]; exact hP.sub (ws' := [(h0, .inr (15, mF q 0))]) [1] rfl, hD.sub (ws' := [(h0, .inr (15, mF q 0))]) [1] (by decide) rfl⟩, hS.F ht⟩) hS.2.2 dX12_count_100
  by_cases hs5 : p0 = 1
  · subst hs5
    refine lv_tableIn (x := 1) (off := 93) (tgt := 101) hx hb dX12_count_8 (by decide) (by decide) (by decide) (by decide) ?_
    refine lv_aload_n hx hb dX12_count_101 rfl (lv_at hl 1 rfl) ?_
    have hPc := hP.sub (ws' := [(h0, .inr (15, mF q 0)), (q 1, .inl ((cm 1), 1749, .inl (fun _ => 0)))]) [0, 1] rfl
    have hDc := hD.sub (ws' := [(h0, .inr (15, mF q 0)), (q 1, .inl ((cm 1), 1749, .inl (fun _ => 0)))]) [0, 1] (by decide) rfl
    have hKc := hK.sub (tys' := [((cm 1), .int)]) [0] rfl
    have hFc := va_free (wc := [(h0, .inr (15, mF q 0)), (q 1, .inl ((cm 1), 1749, .inl (fun _ => 0)))]) hD hS hA [0, 1] rfl
    refine va_calli (va_runV (As := []) (rest := []) ⟨hx, hb, hml, hown, hts⟩ (m_hour l dC dI h0 q cm H.size ) (cwV 0 hts (goodIn_app (goodIn_r _ [4, 5, 6, 7] (by decide +kernel) (by decide +kernel)) (goodIn_ca (goodIn_r _ [2, 3] (by decide +kernel) (by decide +kernel)) (bs_in _ _))) rfl rfl rfl (by decide +kernel) ⟨(Nat.le_of_ble_eq_true rfl), (Nat.le_of_ble_eq_true rfl)⟩) ⟨fun a U g mk q => by obtain ⟨q0, q1, qP, qK, qD⟩ := q; exact ⟨q0, q1, qP, va_K.moved (u := U) (U := U.calling g mk a) (Vm.Alike.refl U.vm) qK, qD⟩, va_recv hKc hPc (ci := 15) (q0 := 0) rfl rfl, fun U hU hW => ⟨rfl, by rw [hU], by rw [hU]; exact hPc, va_K.moved hW.alike hKc, hDc.weaken (fun _ _ _ _ => trivial)⟩⟩ rfl rfl hl.1 rfl (lv_room (Nat.le_of_ble_eq_true rfl)) dX12_count_102 ⟨(Nat.le_of_ble_eq_true rfl), (Nat.le_of_ble_eq_true rfl)⟩) hS (fun q _ h => hFc q h) hFc (fun r7 u t H1 locs ht hvm hw8 hB hz1 hk1 hS => ?_)
    obtain ⟨hP1, hD1⟩ := hB
    rw [ht] at hP1
    obtain ⟨hP, hD⟩ := va_join (wr := [(q 18, .inl ((cm 18), 3, .inl (fun _ => 0)))]) (w1 := [(h0, .inr (15, mF q 0)), (q 1, .inl ((cm 1), 1749, .inl (fun _ => 0)))]) hP hD [0, 1] [2] rfl rfl (by decide) (by decide) hk1 hFc hP1 hD1
    generalize H1 = H at hP hS ⊢
    have hP : va_P (dC, dI) vwCl [(q 18, .inl ((cm 18), 3, .inl (fun _ => 0))), (h0, .inr (15, mF q 0)), (q 1, .inl ((cm 1), 1749, .inl (fun _ => 0)))] H := hP
    have hD : va_D A [(q 18, .inl ((cm 18), 3, .inl (fun _ => 0))), (h0, .inr (15, mF q 0)), (q 1, .inl ((cm 1), 1749, .inl (fun _ => 0)))] := hD
    try dsimp only at hw8
    obtain rfl : 0 = r7 := (hw8).symm
    refine lv_bipush (v := 24) hx hb dX12_count_105 (by decide) ?_
    refine lv_idiv hx hb dX12_count_107 (by decide) ?_
    refine lv_topi (fun x9 ex9 => ?_)
    obtain rfl : x9 = 0 := ex9.trans (by decide)
    exact W.iret (v := 0) hx hb hr (fun t ht hW => ⟨⟨0, (mF q 0), rfl, (by exact ⟨rfl, fun _ => by decide⟩), by rw [ht]; exact hP.sub (ws' := [(h0, .inr (15, mF q 0))]) [1] rfl, hD.sub (ws' := [(h0, .inr (15, mF q 0))]) [1] (by decide) rfl⟩, hS.F ht⟩) hS.2.2 dX12_count_108
  by_cases hs10 : p0 = 2
  · subst hs10
    refine lv_tableIn (x := 2) (off := 101) (tgt := 109) hx hb dX12_count_8 (by decide) (by decide) (by decide) (by decide) ?_
    refine lv_aload_n hx hb dX12_count_109 rfl (lv_at hl 1 rfl) ?_
    refine va_get (D := (dC, dI)) (ci := 15) (v := .ref (q 1)) (C := RX12) (T := TX12) (N := 78) hx hb hts bF_X12 hown hK hP 0 rfl rfl 1 (by decide) (ht_at hts 2 rfl) (fun _ h9 => h9) rfl dX12_count_110 ?_
    refine lv_sipush (v := 1428) hx hb dX12_count_113 (by decide) ?_
    refine va_iald hx hb hK hP 1 0 rfl rfl (by unfold vp_in; decide) dX12_count_116 ?_
    refine lv_topi (fun x11 ex11 => ?_)
    obtain rfl : 0 = x11 := (ex11).symm
    exact W.iret (v := 0) hx hb hr (fun t ht hW => ⟨⟨0, (mF q 0), rfl, (by exact ⟨rfl, fun _ => by decide⟩), by rw [ht]; exact hP.sub (ws' := [(h0, .inr (15, mF q 0))]) [0] rfl, hD.sub (ws' := [(h0, .inr (15, mF q 0))]) [0] (by decide) rfl⟩, hS.F ht⟩) hS.2.2 dX12_count_117
  by_cases hs12 : p0 = 3
  · subst hs12
    refine lv_tableIn (x := 3) (off := 110) (tgt := 118) hx hb dX12_count_8 (by decide) (by decide) (by decide) (by decide) ?_
    refine lv_iconst (v := 0) hx hb dX12_count_118 (by decide) ?_
    refine lv_istore_n (lv' := [(3, .int 0), (2, .int 0), (0, .ref h0), (1, .int 3)]) hx hb dX12_count_119 rfl hl (by decide) rfl (fun ls hl => ?_)
    refine lv_iload_n hx hb dX12_count_120 rfl (lv_at hl 0 rfl) ?_
    refine lv_aload_n hx hb dX12_count_121 rfl (lv_at hl 2 rfl) ?_
    refine va_get (D := (dC, dI)) (ci := 15) (v := .ref (q 1)) (C := RX12) (T := TX12) (N := 78) hx hb hts bF_X12 hown hK hP 0 rfl rfl 1 (by decide) (ht_at hts 2 rfl) (fun _ h9 => h9) rfl dX12_count_122 ?_
    refine lv_sipush (v := 1428) hx hb dX12_count_125 (by decide) ?_
    refine va_iald hx hb hK hP 1 0 rfl rfl (by unfold vp_in; decide) dX12_count_128 ?_
    refine lv_topi (fun x13 ex13 => ?_)
    obtain rfl : 0 = x13 := (ex13).symm
    refine lv_icmp_ge (tgt := 156) hx hb dX12_count_129 (by decide) (fun c14 => ?_) (fun c14 => absurd c14 (by decide))
    refine lv_iload_n hx hb dX12_count_156 rfl (lv_at hl 1 rfl) ?_
    exact W.iret (v := 0) hx hb hr (fun t ht hW => ⟨⟨0, (mF q 0), rfl, (by exact ⟨rfl, fun _ => by decide⟩), by rw [ht]; exact hP.sub (ws' := [(h0, .inr (15, mF q 0))]) [0] rfl, hD.sub (ws' := [(h0, .inr (15, mF q 0))]) [0] (by decide) rfl⟩, hS.F ht⟩) hS.2.2 dX12_count_157
  by_cases hs15 : p0 = 4
  · subst hs15
    refine lv_tableIn (x := 4) (off := 150) (tgt := 158) hx hb dX12_count_8 (by decide) (by decide) (by decide) (by decide) ?_
    refine lv_aload_n hx hb dX12_count_158 rfl (lv_at hl 1 rfl) ?_
    refine lv_sipush (v := 384) hx hb dX12_count_159 (by decide) ?_
    have hPc := hP.sub (ws' := [(h0, .inr (15, mF q 0)), (q 1, .inl ((cm 1), 1749, .inl (fun _ => 0)))]) [0, 1] rfl
    have hDc := hD.sub (ws' := [(h0, .inr (15, mF q 0)), (q 1, .inl ((cm 1), 1749, .inl (fun _ => 0)))]) [0, 1] (by decide) rfl
    have hKc := hK.sub (tys' := [((cm 1), .int)]) [0] rfl
    have hFc := va_free (wc := [(h0, .inr (15, mF q 0)), (q 1, .inl ((cm 1), 1749, .inl (fun _ => 0)))]) hD hS hA [0, 1] rfl
    refine va_calli (va_runV (As := [.int 384]) (rest := []) ⟨hx, hb, hml, hown, hts⟩ (m_sumLand384 l dC dI h0 q cm H.size ) (cwV 1 hts (goodIn_app (goodIn_r _ [9, 10, 11, 7] (by decide +kernel) (by decide +kernel)) (goodIn_ca (goodIn_r _ [8, 3] (by decide +kernel) (by decide +kernel)) (bs_in _ _))) rfl rfl rfl (by decide +kernel) ⟨(Nat.le_of_ble_eq_true rfl), (Nat.le_of_ble_eq_true rfl)⟩) ⟨fun a U g mk q => by obtain ⟨q0, q1, qP, qK, qD⟩ := q; exact ⟨q0, q1, qP, va_K.moved (u := U) (U := U.calling g mk a) (Vm.Alike.refl U.vm) qK, qD⟩, va_recv hKc hPc (ci := 15) (q0 := 0) rfl rfl, fun U hU hW => ⟨rfl, by rw [hU], by rw [hU]; exact hPc, va_K.moved hW.alike hKc, hDc.weaken (fun _ _ _ _ => trivial)⟩⟩ rfl rfl hl.1 rfl (lv_room (Nat.le_of_ble_eq_true rfl)) dX12_count_162 ⟨(Nat.le_of_ble_eq_true rfl), (Nat.le_of_ble_eq_true rfl)⟩) hS (fun q _ h => hFc q h) hFc (fun r17 u t H1 locs ht hvm hw18 hB hz1 hk1 hS => ?_)
    obtain ⟨hP1, hD1⟩ := hB
    rw [ht] at hP1
    obtain ⟨hP, hD⟩ := va_join (wr := [(q 18, .inl ((cm 18), 3, .inl (fun _ => 0)))]) (w1 := [(h0, .inr (15, mF q 0)), (q 1, .inl ((cm 1), 1749, .inl (fun _ => 0)))]) hP hD [0, 1] [2] rfl rfl (by decide) (by decide) hk1 hFc hP1 hD1
    generalize H1 = H at hP hS ⊢
    have hP : va_P (dC, dI) vwCl [(q 18, .inl ((cm 18), 3, .inl (fun _ => 0))), (h0, .inr (15, mF q 0)), (q 1, .inl ((cm 1), 1749, .inl (fun _ => 0)))] H := hP
    have hD : va_D A [(q 18, .inl ((cm 18), 3, .inl (fun _ => 0))), (h0, .inr (15, mF q 0)), (q 1, .inl ((cm 1), 1749, .inl (fun _ => 0)))] := hD
    try dsimp only at hw18
    obtain rfl : 0 = r17 := (hw18).symm
    exact W.iret (v := 0) hx hb hr (fun t ht hW => ⟨⟨0, (mF q 0), rfl, (by exact ⟨rfl, fun _ => by decide⟩), by rw [ht]; exact hP.sub (ws' := [(h0, .inr (15, mF q 0))]) [1] rfl, hD.sub (ws' := [(h0, .inr (15, mF q 0))]) [1] (by decide) rfl⟩, hS.F ht⟩) hS.2.2 dX12_count_165
  by_cases hs19 : p0 = 5
  · subst hs19
    refine lv_tableIn (x := 5) (off := 158) (tgt := 166) hx hb dX12_count_8 (by decide) (by decide) (by decide) (by decide) ?_
    refine lv_aload_n hx hb dX12_count_166 rfl (lv_at hl 1 rfl) ?_
    refine lv_sipush (v := 480) hx hb dX12_count_167 (by decide) ?_
    have hPc := hP.sub (ws' := [(h0, .inr (15, mF q 0)), (q 1, .inl ((cm 1), 1749, .inl (fun _ => 0)))]) [0, 1] rfl
    have hDc := hD.sub (ws' := [(h0, .inr (15, mF q 0)), (q 1, .inl ((cm 1), 1749, .inl (fun _ => 0)))]) [0, 1] (by decide) rfl
    have hKc := hK.sub (tys' := [((cm 1), .int)]) [0] rfl
    have hFc := va_free (wc := [(h0, .inr (15, mF q 0)), (q 1, .inl ((cm 1), 1749, .inl (fun _ => 0)))]) hD hS hA [0, 1] rfl
    refine va_calli (va_runV (As := [.int 480]) (rest := []) ⟨hx, hb, hml, hown, hts⟩ (m_sumLand480 l dC dI h0 q cm H.size ) (cwV 1 hts (goodIn_app (goodIn_r _ [9, 10, 11, 7] (by decide +kernel) (by decide +kernel)) (goodIn_ca (goodIn_r _ [8, 3] (by decide +kernel) (by decide +kernel)) (bs_in _ _))) rfl rfl rfl (by decide +kernel) ⟨(Nat.le_of_ble_eq_true rfl), (Nat.le_of_ble_eq_true rfl)⟩) ⟨fun a U g mk q => by obtain ⟨q0, q1, qP, qK, qD⟩ := q; exact ⟨q0, q1, qP, va_K.moved (u := U) (U := U.calling g mk a) (Vm.Alike.refl U.vm) qK, qD⟩, va_recv hKc hPc (ci := 15) (q0 := 0) rfl rfl, fun U hU hW => ⟨rfl, by rw [hU], by rw [hU]; exact hPc, va_K.moved hW.alike hKc, hDc.weaken (fun _ _ _ _ => trivial)⟩⟩ rfl rfl hl.1 rfl (lv_room (Nat.le_of_ble_eq_true rfl)) dX12_count_170 ⟨(Nat.le_of_ble_eq_true rfl), (Nat.le_of_ble_eq_true rfl)⟩) hS (fun q _ h => hFc q h) hFc (fun r21 u t H1 locs ht hvm hw22 hB hz1 hk1 hS => ?_)
    obtain ⟨hP1, hD1⟩ := hB
    rw [ht] at hP1
    obtain ⟨hP, hD⟩ := va_join (wr := [(q 18, .inl ((cm 18), 3, .inl (fun _ => 0)))]) (w1 := [(h0, .inr (15, mF q 0)), (q 1, .inl ((cm 1), 1749, .inl (fun _ => 0)))]) hP hD [0, 1] [2] rfl rfl (by decide) (by decide) hk1 hFc hP1 hD1
    generalize H1 = H at hP hS ⊢
    have hP : va_P (dC, dI) vwCl [(q 18, .inl ((cm 18), 3, .inl (fun _ => 0))), (h0, .inr (15, mF q 0)), (q 1, .inl ((cm 1), 1749, .inl (fun _ => 0)))] H := hP
    have hD : va_D A [(q 18, .inl ((cm 18), 3, .inl (fun _ => 0))), (h0, .inr (15, mF q 0)), (q 1, .inl ((cm 1), 1749, .inl (fun _ => 0)))] := hD
    try dsimp only at hw22
    obtain rfl : 0 = r21 := (hw22).symm
    exact W.iret (v := 0) hx hb hr (fun t ht hW => ⟨⟨0, (mF q 0), rfl, (by exact ⟨rfl, fun _ => by decide⟩), by rw [ht]; exact hP.sub (ws' := [(h0, .inr (15, mF q 0))]) [1] rfl, hD.sub (ws' := [(h0, .inr (15, mF q 0))]) [1] (by decide) rfl⟩, hS.F ht⟩) hS.2.2 dX12_count_173
  by_cases hs23 : p0 = 6
  · subst hs23
    refine lv_tableIn (x := 6) (off := 166) (tgt := 174) hx hb dX12_count_8 (by decide) (by decide) (by decide) (by decide) ?_
    refine lv_aload_n hx hb dX12_count_174 rfl (lv_at hl 1 rfl) ?_
    refine va_get (D := (dC, dI)) (ci := 15) (v := .ref (q 18)) (C := RX12) (T := TX12) (N := 78) hx hb hts bF_X12 hown hK hP 0 rfl rfl 18 (by decide) (ht_at hts 11 rfl) (fun _ h9 => h9) rfl dX12_count_175 ?_
    refine lv_iconst (v := 0) hx hb dX12_count_178 (by decide) ?_
    refine va_iald hx hb hK hP 2 1 rfl rfl (by unfold vp_in; decide) dX12_count_179 ?_
    refine lv_topi (fun x24 ex24 => ?_)
    obtain rfl : 0 = x24 := (ex24).symm
    exact W.iret (v := 0) hx hb hr (fun t ht hW => ⟨⟨0, (mF q 0), rfl, (by exact ⟨rfl, fun _ => by decide⟩), by rw [ht]; exact hP.sub (ws' := [(h0, .inr (15, mF q 0))]) [0] rfl, hD.sub (ws' := [(h0, .inr (15, mF q 0))]) [0] (by decide) rfl⟩, hS.F ht⟩) hS.2.2 dX12_count_180
  by_cases hs25 : p0 = 7
  · subst hs25
    refine lv_tableIn (x := 7) (off := 173) (tgt := 181) hx hb dX12_count_8 (by decide) (by decide) (by decide) (by decide) ?_
    refine lv_aload_n hx hb dX12_count_181 rfl (lv_at hl 1 rfl) ?_
    refine va_get (D := (dC, dI)) (ci := 15) (v := .int 0) (C := RX12) (T := TX12) (N := 78) hx hb hts bF_X12 hown hK hP 0 rfl rfl 42 (by decide) (ht_at hts 12 rfl) (fun _ h9 => h9) rfl dX12_count_182 ?_
    exact W.iret (v := 0) hx hb hr (fun t ht hW => ⟨⟨0, (mF q 0), rfl, (by exact ⟨rfl, fun _ => by decide⟩), by rw [ht]; exact hP.sub (ws' := [(h0, .inr (15, mF q 0))]) [0] rfl, hD.sub (ws' := [(h0, .inr (15, mF q 0))]) [0] (by decide) rfl⟩, hS.F ht⟩) hS.2.2 dX12_count_185
  by_cases hs26 : p0 = 8
  · subst hs26
    refine lv_tableIn (x := 8) (off := 178) (tgt := 186) hx hb dX12_count_8 (by decide) (by decide) (by decide) (by decide) ?_
    refine lv_aload_n hx hb dX12_count_186 rfl (lv_at hl 1 rfl) ?_
    have hPc := hP.sub (ws' := [(h0, .inr (15, mF q 0))]) [0] rfl
    have hDc := hD.sub (ws' := [(h0, .inr (15, mF q 0))]) [0] (by decide) rfl
    have hKc := hK.sub (tys' := []) [] rfl
    have hFc := va_free (wc := [(h0, .inr (15, mF q 0))]) hD hS hA [0] rfl
    refine va_calli (va_runV (As := []) (rest := []) ⟨hx, hb, hml, hown, hts⟩ (m_holders l dC dI h0 q cm H.size ) (cwV 0 hts (goodIn_app (goodIn_r _ [15, 16, 17, 7] (by decide +kernel) (by decide +kernel)) (goodIn_ca (goodIn_r _ [14, 13] (by decide +kernel) (by decide +kernel)) (bs_in _ _))) rfl rfl rfl (by decide +kernel) ⟨(Nat.le_of_ble_eq_true rfl), (Nat.le_of_ble_eq_true rfl)⟩) ⟨fun a U g mk q => by obtain ⟨q0, q1, qP, qK, qD⟩ := q; exact ⟨q0, q1, qP, va_K.moved (u := U) (U := U.calling g mk a) (Vm.Alike.refl U.vm) qK, qD⟩, va_recv hKc hPc (ci := 15) (q0 := 0) rfl rfl, fun U hU hW => ⟨rfl, by rw [hU], by rw [hU]; exact hPc, va_K.moved hW.alike hKc, hDc.weaken (fun _ _ _ _ => trivial)⟩⟩ rfl rfl hl.1 rfl (lv_room (Nat.le_of_ble_eq_true rfl)) dX12_count_187 ⟨(Nat.le_of_ble_eq_true rfl), (Nat.le_of_ble_eq_true rfl)⟩) hS (fun q _ h => hFc q h) hFc (fun r28 u t H1 locs ht hvm hw29 hB hz1 hk1 hS => ?_)
    obtain ⟨hP1, hD1⟩ := hB
    rw [ht] at hP1
    obtain ⟨hP, hD⟩ := va_join (wr := [(q 1, .inl ((cm 1), 1749, .inl (fun _ => 0))), (q 18, .inl ((cm 18), 3, .inl (fun _ => 0)))]) (w1 := [(h0, .inr (15, mF q 0))]) hP hD [0] [1, 2] rfl rfl (by decide) (by decide) hk1 hFc hP1 hD1
    generalize H1 = H at hP hS ⊢
    have hP : va_P (dC, dI) vwCl [(q 1, .inl ((cm 1), 1749, .inl (fun _ => 0))), (q 18, .inl ((cm 18), 3, .inl (fun _ => 0))), (h0, .inr (15, mF q 0))] H := hP
    have hD : va_D A [(q 1, .inl ((cm 1), 1749, .inl (fun _ => 0))), (q 18, .inl ((cm 18), 3, .inl (fun _ => 0))), (h0, .inr (15, mF q 0))] := hD
    try dsimp only at hw29
    obtain rfl : 0 = r28 := (hw29).symm
    exact W.iret (v := 0) hx hb hr (fun t ht hW => ⟨⟨0, (mF q 0), rfl, (by exact ⟨rfl, fun _ => by decide⟩), by rw [ht]; exact hP.sub (ws' := [(h0, .inr (15, mF q 0))]) [2] rfl, hD.sub (ws' := [(h0, .inr (15, mF q 0))]) [2] (by decide) rfl⟩, hS.F ht⟩) hS.2.2 dX12_count_190
  by_cases hs30 : p0 = 9
  · subst hs30
    refine lv_tableIn (x := 9) (off := 183) (tgt := 191) hx hb dX12_count_8 (by decide) (by decide) (by decide) (by decide) ?_
    refine lv_aload_n hx hb dX12_count_191 rfl (lv_at hl 1 rfl) ?_
    refine va_get (D := (dC, dI)) (ci := 15) (v := .int 0) (C := RX12) (T := TX12) (N := 78) hx hb hts bF_X12 hown hK hP 0 rfl rfl 47 (by decide) (ht_at hts 17 rfl) (fun _ h9 => h9) rfl dX12_count_192 ?_
    exact W.iret (v := 0) hx hb hr (fun t ht hW => ⟨⟨0, (mF q 0), rfl, (by exact ⟨rfl, fun _ => by decide⟩), by rw [ht]; exact hP.sub (ws' := [(h0, .inr (15, mF q 0))]) [0] rfl, hD.sub (ws' := [(h0, .inr (15, mF q 0))]) [0] (by decide) rfl⟩, hS.F ht⟩) hS.2.2 dX12_count_195
  by_cases hs31 : p0 = 10
  · subst hs31
    refine lv_tableIn (x := 10) (off := 188) (tgt := 196) hx hb dX12_count_8 (by decide) (by decide) (by decide) (by decide) ?_
    refine lv_aload_n hx hb dX12_count_196 rfl (lv_at hl 1 rfl) ?_
    refine va_get (D := (dC, dI)) (ci := 15) (v := .int 0) (C := RX12) (T := TX12) (N := 78) hx hb hts bF_X12 hown hK hP 0 rfl rfl 48 (by decide) (ht_at hts 18 rfl) (fun _ h9 => h9) rfl dX12_count_197 ?_
    exact W.iret (v := 0) hx hb hr (fun t ht hW => ⟨⟨0, (mF q 0), rfl, (by exact ⟨rfl, fun _ => by decide⟩), by rw [ht]; exact hP.sub (ws' := [(h0, .inr (15, mF q 0))]) [0] rfl, hD.sub (ws' := [(h0, .inr (15, mF q 0))]) [0] (by decide) rfl⟩, hS.F ht⟩) hS.2.2 dX12_count_200
  by_cases hs32 : p0 = 11
  · subst hs32
    refine lv_tableIn (x := 11) (off := 193) (tgt := 201) hx hb dX12_count_8 (by decide) (by decide) (by decide) (by decide) ?_
    refine lv_iconst (v := 0) hx hb dX12_count_201 (by decide) ?_
    refine lv_istore_n (lv' := [(3, .int 0), (2, .int 0), (0, .ref h0), (1, .int 11)]) hx hb dX12_count_202 rfl hl (by decide) rfl (fun ls hl => ?_)
    refine lv_iload_n hx hb dX12_count_203 rfl (lv_at hl 0 rfl) ?_
    refine lv_aload_n hx hb dX12_count_204 rfl (lv_at hl 2 rfl) ?_
    refine va_get (D := (dC, dI)) (ci := 15) (v := .int 0) (C := RX12) (T := TX12) (N := 78) hx hb hts bF_X12 hown hK hP 0 rfl rfl 42 (by decide) (ht_at hts 12 rfl) (fun _ h9 => h9) rfl dX12_count_205 ?_
    refine lv_icmp_ge (tgt := 226) hx hb dX12_count_208 (by decide) (fun c33 => ?_) (fun c33 => absurd c33 (by decide))
    refine lv_iload_n hx hb dX12_count_226 rfl (lv_at hl 1 rfl) ?_
    exact W.iret (v := 0) hx hb hr (fun t ht hW => ⟨⟨0, (mF q 0), rfl, (by exact ⟨rfl, fun _ => by decide⟩), by rw [ht]; exact hP.sub (ws' := [(h0, .inr (15, mF q 0))]) [0] rfl, hD.sub (ws' := [(h0, .inr (15, mF q 0))]) [0] (by decide) rfl⟩, hS.F ht⟩) hS.2.2 dX12_count_227
  by_cases hs34 : p0 = 12
  · subst hs34
    refine lv_tableIn (x := 12) (off := 220) (tgt := 228) hx hb dX12_count_8 (by decide) (by decide) (by decide) (by decide) ?_
    refine lv_aload_n hx hb dX12_count_228 rfl (lv_at hl 1 rfl) ?_
    refine va_get (D := (dC, dI)) (ci := 15) (v := .int 0) (C := RX12) (T := TX12) (N := 78) hx hb hts bF_X12 hown hK hP 0 rfl rfl 64 (by decide) (ht_at hts 19 rfl) (fun _ h9 => h9) rfl dX12_count_229 ?_
    exact W.iret (v := 0) hx hb hr (fun t ht hW => ⟨⟨0, (mF q 0), rfl, (by exact ⟨rfl, fun _ => by decide⟩), by rw [ht]; exact hP.sub (ws' := [(h0, .inr (15, mF q 0))]) [0] rfl, hD.sub (ws' := [(h0, .inr (15, mF q 0))]) [0] (by decide) rfl⟩, hS.F ht⟩) hS.2.2 dX12_count_232
  by_cases hs35 : p0 = 13
  · subst hs35
    refine lv_tableIn (x := 13) (off := 225) (tgt := 233) hx hb dX12_count_8 (by decide) (by decide) (by decide) (by decide) ?_
    refine lv_aload_n hx hb dX12_count_233 rfl (lv_at hl 1 rfl) ?_
    refine va_get (D := (dC, dI)) (ci := 15) (v := .ref (q 1)) (C := RX12) (T := TX12) (N := 78) hx hb hts bF_X12 hown hK hP 0 rfl rfl 1 (by decide) (ht_at hts 2 rfl) (fun _ h9 => h9) rfl dX12_count_234 ?_
    refine lv_sipush (v := 1745) hx hb dX12_count_237 (by decide) ?_
    refine va_iald hx hb hK hP 1 0 rfl rfl (by unfold vp_in; decide) dX12_count_240 ?_
    refine lv_topi (fun x36 ex36 => ?_)
    obtain rfl : 0 = x36 := (ex36).symm
    exact W.iret (v := 0) hx hb hr (fun t ht hW => ⟨⟨0, (mF q 0), rfl, (by exact ⟨rfl, fun _ => by decide⟩), by rw [ht]; exact hP.sub (ws' := [(h0, .inr (15, mF q 0))]) [0] rfl, hD.sub (ws' := [(h0, .inr (15, mF q 0))]) [0] (by decide) rfl⟩, hS.F ht⟩) hS.2.2 dX12_count_241
  by_cases hs37 : p0 = 14
  · subst hs37
    refine lv_tableIn (x := 14) (off := 234) (tgt := 242) hx hb dX12_count_8 (by decide) (by decide) (by decide) (by decide) ?_
    refine lv_aload_n hx hb dX12_count_242 rfl (lv_at hl 1 rfl) ?_
    refine va_get (D := (dC, dI)) (ci := 15) (v := .ref (q 1)) (C := RX12) (T := TX12) (N := 78) hx hb hts bF_X12 hown hK hP 0 rfl rfl 1 (by decide) (ht_at hts 2 rfl) (fun _ h9 => h9) rfl dX12_count_243 ?_
    refine lv_sipush (v := 1746) hx hb dX12_count_246 (by decide) ?_
    refine va_iald hx hb hK hP 1 0 rfl rfl (by unfold vp_in; decide) dX12_count_249 ?_
    refine lv_topi (fun x38 ex38 => ?_)
    obtain rfl : 0 = x38 := (ex38).symm
    exact W.iret (v := 0) hx hb hr (fun t ht hW => ⟨⟨0, (mF q 0), rfl, (by exact ⟨rfl, fun _ => by decide⟩), by rw [ht]; exact hP.sub (ws' := [(h0, .inr (15, mF q 0))]) [0] rfl, hD.sub (ws' := [(h0, .inr (15, mF q 0))]) [0] (by decide) rfl⟩, hS.F ht⟩) hS.2.2 dX12_count_250
  by_cases hs39 : p0 = 15
  · subst hs39
    refine lv_tableIn (x := 15) (off := 243) (tgt := 251) hx hb dX12_count_8 (by decide) (by decide) (by decide) (by decide) ?_
    refine lv_aload_n hx hb dX12_count_251 rfl (lv_at hl 1 rfl) ?_
    refine va_get (D := (dC, dI)) (ci := 15) (v := .ref (q 1)) (C := RX12) (T := TX12) (N := 78) hx hb hts bF_X12 hown hK hP 0 rfl rfl 1 (by decide) (ht_at hts 2 rfl) (fun _ h9 => h9) rfl dX12_count_252 ?_
    refine lv_sipush (v := 1747) hx hb dX12_count_255 (by decide) ?_
    refine va_iald hx hb hK hP 1 0 rfl rfl (by unfold vp_in; decide) dX12_count_258 ?_
    refine lv_topi (fun x40 ex40 => ?_)
    obtain rfl : 0 = x40 := (ex40).symm
    exact W.iret (v := 0) hx hb hr (fun t ht hW => ⟨⟨0, (mF q 0), rfl, (by exact ⟨rfl, fun _ => by decide⟩), by rw [ht]; exact hP.sub (ws' := [(h0, .inr (15, mF q 0))]) [0] rfl, hD.sub (ws' := [(h0, .inr (15, mF q 0))]) [0] (by decide) rfl⟩, hS.F ht⟩) hS.2.2 dX12_count_259
  by_cases hs41 : p0 = 16
  · subst hs41
    refine lv_tableIn (x := 16) (off := 252) (tgt := 260) hx hb dX12_count_8 (by decide) (by decide) (by decide) (by decide) ?_
    refine lv_aload_n hx hb dX12_count_260 rfl (lv_at hl 1 rfl) ?_
    refine va_get (D := (dC, dI)) (ci := 15) (v := .ref (q 1)) (C := RX12) (T := TX12) (N := 78) hx hb hts bF_X12 hown hK hP 0 rfl rfl 1 (by decide) (ht_at hts 2 rfl) (fun _ h9 => h9) rfl dX12_count_261 ?_
    refine lv_sipush (v := 1748) hx hb dX12_count_264 (by decide) ?_
    refine va_iald hx hb hK hP 1 0 rfl rfl (by unfold vp_in; decide) dX12_count_267 ?_
    refine lv_topi (fun x42 ex42 => ?_)
    obtain rfl : 0 = x42 := (ex42).symm
    exact W.iret (v := 0) hx hb hr (fun t ht hW => ⟨⟨0, (mF q 0), rfl, (by exact ⟨rfl, fun _ => by decide⟩), by rw [ht]; exact hP.sub (ws' := [(h0, .inr (15, mF q 0))]) [0] rfl, hD.sub (ws' := [(h0, .inr (15, mF q 0))]) [0] (by decide) rfl⟩, hS.F ht⟩) hS.2.2 dX12_count_268
  by_cases hs43 : p0 = 17
  · subst hs43
    refine lv_tableIn (x := 17) (off := 261) (tgt := 269) hx hb dX12_count_8 (by decide) (by decide) (by decide) (by decide) ?_
    refine lv_aload_n hx hb dX12_count_269 rfl (lv_at hl 1 rfl) ?_
    refine va_get (D := (dC, dI)) (ci := 15) (v := .int 0) (C := RX12) (T := TX12) (N := 78) hx hb hts bF_X12 hown hK hP 0 rfl rfl 9 (by decide) (ht_at hts 20 rfl) (fun _ h9 => h9) rfl dX12_count_270 ?_
    exact W.iret (v := 0) hx hb hr (fun t ht hW => ⟨⟨0, (mF q 0), rfl, (by exact ⟨rfl, fun _ => by decide⟩), by rw [ht]; exact hP.sub (ws' := [(h0, .inr (15, mF q 0))]) [0] rfl, hD.sub (ws' := [(h0, .inr (15, mF q 0))]) [0] (by decide) rfl⟩, hS.F ht⟩) hS.2.2 dX12_count_273
  have ho44 : p0.toInt < 0 ∨ 17 < p0.toInt := by
    have ehs1 : p0.toInt ≠ 0 := fun e => hs1 (Int32.toInt_inj.mp (e.trans (by decide)))
    have ehs5 : p0.toInt ≠ 1 := fun e => hs5 (Int32.toInt_inj.mp (e.trans (by decide)))
    have ehs10 : p0.toInt ≠ 2 := fun e => hs10 (Int32.toInt_inj.mp (e.trans (by decide)))
    have ehs12 : p0.toInt ≠ 3 := fun e => hs12 (Int32.toInt_inj.mp (e.trans (by decide)))
    have ehs15 : p0.toInt ≠ 4 := fun e => hs15 (Int32.toInt_inj.mp (e.trans (by decide)))
    have ehs19 : p0.toInt ≠ 5 := fun e => hs19 (Int32.toInt_inj.mp (e.trans (by decide)))
    have ehs23 : p0.toInt ≠ 6 := fun e => hs23 (Int32.toInt_inj.mp (e.trans (by decide)))
    have ehs25 : p0.toInt ≠ 7 := fun e => hs25 (Int32.toInt_inj.mp (e.trans (by decide)))
    have ehs26 : p0.toInt ≠ 8 := fun e => hs26 (Int32.toInt_inj.mp (e.trans (by decide)))
    have ehs30 : p0.toInt ≠ 9 := fun e => hs30 (Int32.toInt_inj.mp (e.trans (by decide)))
    have ehs31 : p0.toInt ≠ 10 := fun e => hs31 (Int32.toInt_inj.mp (e.trans (by decide)))
    have ehs32 : p0.toInt ≠ 11 := fun e => hs32 (Int32.toInt_inj.mp (e.trans (by decide)))
    have ehs34 : p0.toInt ≠ 12 := fun e => hs34 (Int32.toInt_inj.mp (e.trans (by decide)))
    have ehs35 : p0.toInt ≠ 13 := fun e => hs35 (Int32.toInt_inj.mp (e.trans (by decide)))
    have ehs37 : p0.toInt ≠ 14 := fun e => hs37 (Int32.toInt_inj.mp (e.trans (by decide)))
    have ehs39 : p0.toInt ≠ 15 := fun e => hs39 (Int32.toInt_inj.mp (e.trans (by decide)))
    have ehs41 : p0.toInt ≠ 16 := fun e => hs41 (Int32.toInt_inj.mp (e.trans (by decide)))
    have ehs43 : p0.toInt ≠ 17 := fun e => hs43 (Int32.toInt_inj.mp (e.trans (by decide)))
    omega
  refine lv_tableOut (tgt := 274) hx hb dX12_count_8 ho44 (by decide) ?_
  refine lv_iconst (v := (-1)) hx hb dX12_count_274 (by decide) ?_
  exact W.iret (v := (-1)) hx hb hr (fun t ht hW => ⟨⟨(-1), (mF q 0), rfl, (by unfold T_count; exact ⟨rfl, fun _ => by rw [if_neg (w_out ho44 (by decide) (by decide))]⟩), by rw [ht]; exact hP.sub (ws' := [(h0, .inr (15, mF q 0))]) [0] rfl, hD.sub (ws' := [(h0, .inr (15, mF q 0))]) [0] (by decide) rfl⟩, hS.F ht⟩) hS.2.2 dX12_count_275
