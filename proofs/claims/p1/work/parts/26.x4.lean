theorem nx_xor (a b : Nat) : nI a ^^^ nI b = nI (a ^^^ b) := by
  apply Int32.toBitVec_inj.1
  show BitVec.ofNat 32 a ^^^ BitVec.ofNat 32 b = BitVec.ofNat 32 (a ^^^ b)
  apply BitVec.eq_of_getLsbD_eq
  intro i hi
  simp [hi]
theorem xor12 {x y : Int32} (h : 0 ≤ x) (e : y = x ^^^ 12) : 0 ≤ y := by
  obtain ⟨j, hj, rfl⟩ := nI_of (Int32.not_lt.mpr h)
  rw [e, show (12 : Int32) = nI 12 from rfl, nx_xor]
  exact nI_pos' (Nat.xor_lt_two_pow hj (by decide))
theorem mod12 {x y : Int32} (h : 0 ≤ x) (e : y = x - x / 12 * 12) : 0 ≤ y ∧ y ≤ 11 := by
  obtain ⟨j, hj, rfl⟩ := nI_of (Int32.not_lt.mpr h)
  have h12 := pk_rem (a := j) (d := 12) hj (by decide) (by decide)
  rw [e, show (12 : Int32) = nI 12 from rfl, h12]
  have : j % 12 < 12 := Nat.mod_lt _ (by decide)
  exact ⟨nI_pos' (by omega), nI_le (b := 11) (by omega) (by decide)⟩
theorem w_out {x lo hi : Int32} {L M : Int} (h : x.toInt < L ∨ M < x.toInt) (h1 : L ≤ lo.toInt) (h2 : hi.toInt ≤ M) : ¬ (lo ≤ x ∧ x ≤ hi) := fun q => by
  have a := Int32.le_iff_toInt_le.mp q.1
  have b := Int32.le_iff_toInt_le.mp q.2
  omega
def T_storm (p0 p1 p2 : Int32) : Int32 × Int32 := if p0 < 0 then (1, 0) else if p1 < p0 then (1, 0) else if 40000 < p1 then (1, 0) else if 1 ≤ p2 ∧ p2 ≤ 500 then (0, 1) else (1, 0)
def T_weather0 (p0 p1 : Int32) : Int32 × Int32 := if 0 ≤ p0 ∧ p0 ≤ 40000 then if (-1) ≤ p1 ∧ p1 ≤ 9 then (0, 1) else (1, 0) else (1, 0)
def T_weather1 (p0 p1 : Int32) : Int32 × Int32 := if 0 ≤ p0 ∧ p0 ≤ 40000 then if 0 ≤ p1 ∧ p1 ≤ 20 then (0, 1) else (1, 0) else (1, 0)
def T_sky (p0 p1 : Int32) : Int32 × Int32 := if 0 ≤ p0 ∧ p0 ≤ 40000 then if 0 ≤ p1 ∧ p1 ≤ 2 then (0, 0) else (1, 0) else (1, 0)
def T_square (p0 p1 : Int32) : Int32 × Int32 := if 0 ≤ p0 ∧ p0 ≤ 95 then (if 0 ≤ p1 ∧ p1 ≤ 8 then (0, 0) else if 9 ≤ p1 ∧ p1 ≤ 10 then (0, (-1)) else (2, 0)) else (1, 0)
def T_end (p0 : Int32) : Int32 × Int32 := if p0 < 0 then (0, 0) else if p0 ≤ 0 then (0, 1) else (0, 0)
def w_x_floorMod : List Cond := .code yJ9_floorMod_7cf53 cJ9_floorMod_7cf53 3 (some .int) :: ([] ++ bs)
set_option maxHeartbeats 4000000 in
set_option maxRecDepth 100000 in
theorem x_floorMod (l : Launch) (dC : Nat → ClassId) (dI : Nat → Nat → Nat) (x : Int32) (sz : Nat) (hx0 : 0 ≤ x) : Met l yJ9_floorMod_7cf53 w_x_floorMod ({ frames := 0, cells := 0, slots := 0, locals := 0 }) (va_Pc [.int x, .int 12] (fun U => U.heap.size = sz ∧ va_P (dC, dI) vwCl [] U.heap ∧ va_K (dC, dI) vwCl [] U ∧ va_D (fun _ => True) [])) (va_Qi (fun (r : Int32) (u : Unit) => 0 ≤ r ∧ r ≤ 11) (fun (_ : Unit) (_ : State) => True) (va_A [] sz)) 0 0 (va_A [] sz) := by
  refine va_MetF (cc := cJ9_floorMod_7cf53) (maxL := 3) (ret := (some .int)) (by decide +kernel) rfl ?_
  intro p e s m args below meth c s₁ B hml hv
  obtain ⟨rfl, hsz, hP, hK, hD0⟩ := hv
  have hx := B.exec
  have hb := B.bytes
  have hr := B.returns
  have hts := atoms_spec (ws := w_x_floorMod) B.pre
  have hown : s.vm.findClass RJ9 = some m.cls := findClass_of_methodNamed B.named
  have hlocks := B.notSynchronized
  subst hsz
  have hD := hD0.self (sz := s.heap.size)
  generalize hAe : va_A [] s.heap.size = A at hD ⊢
  have hA : ∀ q : Nat, s.heap.size ≤ q → A q := fun q h => by rw [← hAe]; exact Or.inr h
  have hS : va_S A s.heap s.heap [] := va_S.rf
  have hP : va_P (dC, dI) vwCl [] s.heap := hP
  have hl := lv_entry ([.int x, .int 12]) (n := 3) (Nat.le_of_ble_eq_true rfl)
  rw [lg_entry_eq]
  generalize (lg_sl ([.int x, .int 12]) ++ List.replicate (3 - (lg_sl ([.int x, .int 12])).length) Slot.unset).toArray = ls at hl ⊢
  have hl : lv_has ls 3 [(0, .int x), (1, .int 12)] := hl
  refine lv_iload_n hx hb dJ9_floorMod_7cf53_0 rfl (lv_at hl 0 rfl) ?_
  refine lv_iload_n hx hb dJ9_floorMod_7cf53_1 rfl (lv_at hl 1 rfl) ?_
  refine lv_irem hx hb dJ9_floorMod_7cf53_2 (by decide) ?_
  refine lv_topi (fun x1 ex1 => ?_)
  refine lv_istore_n (lv' := [(2, .int x1), (0, .int x), (1, .int 12)]) hx hb dJ9_floorMod_7cf53_3 rfl hl (by decide) rfl (fun ls hl => ?_)
  refine lv_iload_n hx hb dJ9_floorMod_7cf53_4 rfl (lv_at hl 1 rfl) ?_
  refine lv_iload_n hx hb dJ9_floorMod_7cf53_5 rfl (lv_at hl 2 rfl) ?_
  refine lv_ixor hx hb dJ9_floorMod_7cf53_6 ?_
  refine lv_topi (fun x2 ex2 => ?_)
  refine lv_if_ge (tgt := 18) hx hb dJ9_floorMod_7cf53_7 (by decide) (fun c3 => ?_) (fun c3 => absurd (xor12 hx0 ex2) c3)
  refine lv_iload_n hx hb dJ9_floorMod_7cf53_18 rfl (lv_at hl 0 rfl) ?_
  exact W.iret (v := x1) hx hb hr (fun t ht hW => ⟨⟨x1, (), rfl, (by exact mod12 hx0 ex1), trivial⟩, hS.F ht⟩) hS.2.2 dJ9_floorMod_7cf53_19
def w_x_outsideAt : List Cond := .code yX8_outsideAt cX8_outsideAt 4 (some .int) :: ([.fieldLink RX8 9 "SeaLand$Sky" "tides" "[I", .code yJ9_floorMod_7cf53 cJ9_floorMod_7cf53 3 (some .int), .methodLink RX8 38 yJ9_floorMod_7cf53, .static yJ9_floorMod_7cf53, .initialized RJ9, .fieldLink RX8 34 "SeaLand$Sky" "storms" "I"] ++ bs)
set_option maxHeartbeats 4000000 in
set_option maxRecDepth 100000 in
theorem x_outsideAt (l : Launch) (dC : Nat → ClassId) (dI : Nat → Nat → Nat) (a : Nat → Nat) (k : Nat → ClassId) (h : Int32) (sz : Nat) (hh0 : 0 ≤ h) : Met l yX8_outsideAt w_x_outsideAt ({ frames := 1, cells := 0, slots := 0, locals := 22 }) (va_Pc [.ref (a 3), .int h] (fun U => U.heap.size = sz ∧ va_P (dC, dI) vwCl [(a 3, .inr (11, [.ref (a 4), .ref (a 5), .ref (a 6), .ref (a 7), .ref (a 8), .ref (a 11), .int 0])), (a 4, .inl ((k 4), 12, .inl (fun _ => 0)))] U.heap ∧ va_K (dC, dI) vwCl [((k 4), .int)] U ∧ va_D (fun _ => True) [(a 3, .inr (11, [.ref (a 4), .ref (a 5), .ref (a 6), .ref (a 7), .ref (a 8), .ref (a 11), .int 0])), (a 4, .inl ((k 4), 12, .inl (fun _ => 0)))] ∧ EV (va_A [(a 3, .inr (11, [.ref (a 4), .ref (a 5), .ref (a 6), .ref (a 7), .ref (a 8), .ref (a 11), .int 0])), (a 4, .inl ((k 4), 12, .inl (fun _ => 0)))] sz) U U.heap)) (va_Qi (fun (r : Int32) (u : Unit) => r = 0) (fun (_ : Unit) (t : State) => va_P (dC, dI) vwCl [(a 3, .inr (11, [.ref (a 4), .ref (a 5), .ref (a 6), .ref (a 7), .ref (a 8), .ref (a 11), .int 0])), (a 4, .inl ((k 4), 12, .inl (fun _ => 0)))] t.heap ∧ va_D (va_A [(a 3, .inr (11, [.ref (a 4), .ref (a 5), .ref (a 6), .ref (a 7), .ref (a 8), .ref (a 11), .int 0])), (a 4, .inl ((k 4), 12, .inl (fun _ => 0)))] sz) [(a 3, .inr (11, [.ref (a 4), .ref (a 5), .ref (a 6), .ref (a 7), .ref (a 8), .ref (a 11), .int 0])), (a 4, .inl ((k 4), 12, .inl (fun _ => 0)))]) (va_A [(a 3, .inr (11, [.ref (a 4), .ref (a 5), .ref (a 6), .ref (a 7), .ref (a 8), .ref (a 11), .int 0])), (a 4, .inl ((k 4), 12, .inl (fun _ => 0)))] sz)) 0 0 (va_A [(a 3, .inr (11, [.ref (a 4), .ref (a 5), .ref (a 6), .ref (a 7), .ref (a 8), .ref (a 11), .int 0])), (a 4, .inl ((k 4), 12, .inl (fun _ => 0)))] sz) := by
  refine Met.ofW (cc := cX8_outsideAt) (maxL := 4) (ret := (some .int)) (by decide) rfl ?_
  intro p e s m args below meth c s₁ B hml hv
  obtain ⟨rfl, hsz, hP, hK, hD0, hE⟩ := hv
  have hx := B.exec
  have hb := B.bytes
  have hr := B.returns
  have hts := atoms_spec (ws := w_x_outsideAt) B.pre
  have hown : s.vm.findClass RX8 = some m.cls := findClass_of_methodNamed B.named
  have hlocks := B.notSynchronized
  subst hsz
  have hD := hD0.self (sz := s.heap.size)
  generalize hAe : va_A [(a 3, .inr (11, [.ref (a 4), .ref (a 5), .ref (a 6), .ref (a 7), .ref (a 8), .ref (a 11), .int 0])), (a 4, .inl ((k 4), 12, .inl (fun _ => 0)))] s.heap.size = A at hD hE ⊢
  have hA : ∀ q : Nat, s.heap.size ≤ q → A q := fun q h => by rw [← hAe]; exact Or.inr h
  have hS : va_S A s.heap s.heap [] := va_S.rf
  have hP : va_P (dC, dI) vwCl [(a 3, .inr (11, [.ref (a 4), .ref (a 5), .ref (a 6), .ref (a 7), .ref (a 8), .ref (a 11), .int 0])), (a 4, .inl ((k 4), 12, .inl (fun _ => 0)))] s.heap := hP
  have hl := lv_entry ([.ref (a 3), .int h]) (n := 4) (Nat.le_of_ble_eq_true rfl)
  rw [lg_entry_eq]
  generalize (lg_sl ([.ref (a 3), .int h]) ++ List.replicate (4 - (lg_sl ([.ref (a 3), .int h])).length) Slot.unset).toArray = ls at hl ⊢
  have hl : lv_has ls 4 [(0, .ref (a 3)), (1, .int h)] := hl
  refine lv_aload_n hx hb dX8_outsideAt_0 rfl (lv_at hl 0 rfl) ?_
  refine va_get (D := (dC, dI)) (ci := 11) (v := .ref (a 4)) (C := RX8) (T := TX8) (N := 7) hx hb hts bF_X8 hown hK hP 0 rfl rfl 0 (by decide) (ht_at hts 0 rfl) (fun _ h9 => h9) rfl dX8_outsideAt_1 ?_
  refine lv_iload_n hx hb dX8_outsideAt_4 rfl (lv_at hl 1 rfl) ?_
  refine lv_bipush (v := 12) hx hb dX8_outsideAt_5 (by decide) ?_
  have hPc := hP.sub (ws' := []) [] rfl
  have hDc := hD.sub (ws' := []) [] (by decide) rfl
  have hKc := hK.sub (tys' := []) [] rfl
  have hFc := va_free (wc := []) hD hS hA [] rfl
  refine va_calli (va_runS (As := [.int h, .int 12]) (rest := [.ref (a 4)]) ⟨hx, hb, hml, hown, hts⟩ (x_floorMod l dC dI h s.heap.size hh0) (va_cwS 2 hts (goodIn_app (goodIn_r _ [3, 4, 5] (by decide +kernel) (by decide +kernel)) (goodIn_ca (goodIn_r _ [2] (by decide +kernel) (by decide +kernel)) (bs_in _ _))) rfl rfl rfl (by decide +kernel) ⟨(Nat.le_of_ble_eq_true rfl), (Nat.le_of_ble_eq_true rfl)⟩) ⟨fun a U g mk q => by obtain ⟨q0, q1, qP, qK, qD⟩ := q; exact ⟨q0, q1, qP, va_K.moved (u := U) (U := U.calling g mk a) (Vm.Alike.refl U.vm) qK, qD⟩, fun U hU hW => ⟨rfl, by rw [hU], by rw [hU]; exact hPc, va_K.moved hW.alike hKc, hDc.weaken (fun _ _ _ _ => trivial)⟩⟩ rfl rfl hl.1 rfl (lv_room (Nat.le_of_ble_eq_true rfl)) dX8_outsideAt_7 ⟨(Nat.le_of_ble_eq_true rfl), (Nat.le_of_ble_eq_true rfl)⟩) hS (fun q _ h => hFc q h) hFc (fun r2 u t H1 locs ht hvm hw3 hB hz1 hk1 hS => ?_)
  have hP1 : va_P (dC, dI) vwCl [] H1 := nilP
  have hD1 : va_D (va_A [] s.heap.size) [] := nilD
  have hK := hK
  obtain ⟨hP, hD⟩ := va_join (wr := [(a 3, .inr (11, [.ref (a 4), .ref (a 5), .ref (a 6), .ref (a 7), .ref (a 8), .ref (a 11), .int 0])), (a 4, .inl ((k 4), 12, .inl (fun _ => 0)))]) (w1 := []) hP hD [] [0, 1] rfl rfl (by decide) (by decide) hk1 hFc hP1 hD1
  generalize H1 = H at hP hS ⊢
  have hP : va_P (dC, dI) vwCl [(a 3, .inr (11, [.ref (a 4), .ref (a 5), .ref (a 6), .ref (a 7), .ref (a 8), .ref (a 11), .int 0])), (a 4, .inl ((k 4), 12, .inl (fun _ => 0)))] H := hP
  have hD : va_D A [(a 3, .inr (11, [.ref (a 4), .ref (a 5), .ref (a 6), .ref (a 7), .ref (a 8), .ref (a 11), .int 0])), (a 4, .inl ((k 4), 12, .inl (fun _ => 0)))] := hD
  try dsimp only at hw3
  refine va_iald hx hb hK hP 1 0 rfl rfl (vin hw3 (by decide)) dX8_outsideAt_10 ?_
  refine lv_topi (fun x4 ex4 => ?_)
  obtain rfl : 0 = x4 := (ex4).symm
  refine lv_istore_n (lv' := [(2, .int 0), (0, .ref (a 3)), (1, .int h)]) hx hb dX8_outsideAt_11 rfl hl (by decide) rfl (fun ls hl => ?_)
  refine lv_iconst (v := 0) hx hb dX8_outsideAt_12 (by decide) ?_
  refine lv_istore_n (lv' := [(3, .int 0), (2, .int 0), (0, .ref (a 3)), (1, .int h)]) hx hb dX8_outsideAt_13 rfl hl (by decide) rfl (fun ls hl => ?_)
  refine lv_iload_n hx hb dX8_outsideAt_14 rfl (lv_at hl 0 rfl) ?_
  refine lv_aload_n hx hb dX8_outsideAt_15 rfl (lv_at hl 2 rfl) ?_
  refine va_get (D := (dC, dI)) (ci := 11) (v := .int 0) (C := RX8) (T := TX8) (N := 7) hx hb hts bF_X8 hown hK hP 0 rfl rfl 6 (by decide) (ht_at hts 5 rfl) (fun _ h9 => h9) rfl dX8_outsideAt_16 ?_
  refine lv_icmp_ge (tgt := 57) hx hb dX8_outsideAt_19 (by decide) (fun c5 => ?_) (fun c5 => absurd c5 (by decide))
  refine lv_iload_n hx hb dX8_outsideAt_57 rfl (lv_at hl 1 rfl) ?_
  exact W.iret (v := 0) hx hb hr (fun t ht hW => ⟨⟨0, (), rfl, (by rfl), by rw [ht]; exact hP.sub (ws' := [(a 3, .inr (11, [.ref (a 4), .ref (a 5), .ref (a 6), .ref (a 7), .ref (a 8), .ref (a 11), .int 0])), (a 4, .inl ((k 4), 12, .inl (fun _ => 0)))]) [0, 1] rfl, hD.sub (ws' := [(a 3, .inr (11, [.ref (a 4), .ref (a 5), .ref (a 6), .ref (a 7), .ref (a 8), .ref (a 11), .int 0])), (a 4, .inl ((k 4), 12, .inl (fun _ => 0)))]) [0, 1] (by decide) rfl⟩, hS.F ht⟩) hS.2.2 dX8_outsideAt_58
def w_x_storm : List Cond := .code yX11_storm cX11_storm 4 (some .int) :: ([.code yX11_needNumbers cX11_needNumbers 1 none, .classLink RX11 547 "java/lang/IllegalArgumentException", .initialized "java/lang/IllegalArgumentException", .methodLink RX11 62 yX11_needNumbers, .static yX11_needNumbers, .initialized RX11, .constant RX11 110 40000, .code yX11_within cX11_within 3 (some .boolean), .methodLink RX11 58 yX11_within, .static yX11_within, .fieldLink RX11 16 "SeaLand" "lake" "LSeaLand$Lake;", .fieldLink RX11 23 "SeaLand" "rows" "LSeaLand$Rows;", .code yX6_forget cX6_forget 1 none, .fieldLink RX6 18 "SeaLand$Rows" "kept" "I", .fieldLink RX6 22 "SeaLand$Rows" "oldest" "I", .methodLink RX11 76 yX6_forget, .instanceMethod yX6_forget, .selects RX6 yX6_forget yX6_forget, .initialized RX6, .code yX8_tellStorm cX8_tellStorm 4 (some .int), .fieldLink RX8 15 "SeaLand$Sky" "stormFrom" "[I", .fieldLink RX8 34 "SeaLand$Sky" "storms" "I", .fieldLink RX8 18 "SeaLand$Sky" "stormTo" "[I", .fieldLink RX8 21 "SeaLand$Sky" "stormMore" "[I", .methodLink RX11 114 yX8_tellStorm, .instanceMethod yX8_tellStorm, .selects RX8 yX8_tellStorm yX8_tellStorm, .initialized RX8] ++ bs)
set_option maxHeartbeats 4000000 in
set_option maxRecDepth 100000 in
theorem x_storm (l : Launch) (hlt : l.stackTraces = false) (dC : Nat → ClassId) (dI : Nat → Nat → Nat) (a : Nat → Nat) (k : Nat → ClassId) (p0 p1 p2 : Int32) (sz : Nat) : vx_Met l yX11_storm w_x_storm ({ frames := 7, cells := 1, slots := 6, locals := 120 }) (va_Pc [.ref (a 0), .int p0, .int p1, .int p2] (fun U => U.heap.size = sz ∧ va_P (dC, dI) vwCl [(a 0, .inr (14, [.ref (a 1), .ref (a 2), .ref (a 27), .ref (a 30), .ref (a 74), .ref (a 75), .null, .int 0, .int 0])), (a 2, .inr (6, [.ref (a 3), .ref (a 14), .ref (a 26), .int 0, .int 0])), (a 3, .inr (11, [.ref (a 4), .ref (a 5), .ref (a 6), .ref (a 7), .ref (a 8), .ref (a 11), .int 0])), (a 5, .inl ((k 5), 20, .inl (fun _ => 0))), (a 6, .inl ((k 6), 20, .inl (fun _ => 0))), (a 7, .inl ((k 7), 20, .inl (fun _ => 0))), (a 27, .inr (9, [.ref (a 28), .ref (a 29), .int 0, .int 0]))] U.heap ∧ va_K (dC, dI) vwCl [((k 5), .int), ((k 6), .int), ((k 7), .int)] U ∧ va_D (fun _ => True) [(a 0, .inr (14, [.ref (a 1), .ref (a 2), .ref (a 27), .ref (a 30), .ref (a 74), .ref (a 75), .null, .int 0, .int 0])), (a 2, .inr (6, [.ref (a 3), .ref (a 14), .ref (a 26), .int 0, .int 0])), (a 3, .inr (11, [.ref (a 4), .ref (a 5), .ref (a 6), .ref (a 7), .ref (a 8), .ref (a 11), .int 0])), (a 5, .inl ((k 5), 20, .inl (fun _ => 0))), (a 6, .inl ((k 6), 20, .inl (fun _ => 0))), (a 7, .inl ((k 7), 20, .inl (fun _ => 0))), (a 27, .inr (9, [.ref (a 28), .ref (a 29), .int 0, .int 0]))] ∧ EV (va_A [(a 0, .inr (14, [.ref (a 1), .ref (a 2), .ref (a 27), .ref (a 30), .ref (a 74), .ref (a 75), .null, .int 0, .int 0])), (a 2, .inr (6, [.ref (a 3), .ref (a 14), .ref (a 26), .int 0, .int 0])), (a 3, .inr (11, [.ref (a 4), .ref (a 5), .ref (a 6), .ref (a 7), .ref (a 8), .ref (a 11), .int 0])), (a 5, .inl ((k 5), 20, .inl (fun _ => 0))), (a 6, .inl ((k 6), 20, .inl (fun _ => 0))), (a 7, .inl ((k 7), 20, .inl (fun _ => 0))), (a 27, .inr (9, [.ref (a 28), .ref (a 29), .int 0, .int 0]))] sz) U U.heap)) (va_Qi (fun (r : Int32) (u : Unit) => r = (T_storm p0 p1 p2).2 ∧ (T_storm p0 p1 p2).1 = 0) (fun (_ : Unit) (_ : State) => True) (va_A [(a 0, .inr (14, [.ref (a 1), .ref (a 2), .ref (a 27), .ref (a 30), .ref (a 74), .ref (a 75), .null, .int 0, .int 0])), (a 2, .inr (6, [.ref (a 3), .ref (a 14), .ref (a 26), .int 0, .int 0])), (a 3, .inr (11, [.ref (a 4), .ref (a 5), .ref (a 6), .ref (a 7), .ref (a 8), .ref (a 11), .int 0])), (a 5, .inl ((k 5), 20, .inl (fun _ => 0))), (a 6, .inl ((k 6), 20, .inl (fun _ => 0))), (a 7, .inl ((k 7), 20, .inl (fun _ => 0))), (a 27, .inr (9, [.ref (a 28), .ref (a 29), .int 0, .int 0]))] sz)) (vx_X (fun _ : Unit => True) (fun E _ _ => (E = "java/lang/IllegalArgumentException" ∧ (T_storm p0 p1 p2).1 = 1)) (va_A [(a 0, .inr (14, [.ref (a 1), .ref (a 2), .ref (a 27), .ref (a 30), .ref (a 74), .ref (a 75), .null, .int 0, .int 0])), (a 2, .inr (6, [.ref (a 3), .ref (a 14), .ref (a 26), .int 0, .int 0])), (a 3, .inr (11, [.ref (a 4), .ref (a 5), .ref (a 6), .ref (a 7), .ref (a 8), .ref (a 11), .int 0])), (a 5, .inl ((k 5), 20, .inl (fun _ => 0))), (a 6, .inl ((k 6), 20, .inl (fun _ => 0))), (a 7, .inl ((k 7), 20, .inl (fun _ => 0))), (a 27, .inr (9, [.ref (a 28), .ref (a 29), .int 0, .int 0]))] sz)) 1 6 (va_A [(a 0, .inr (14, [.ref (a 1), .ref (a 2), .ref (a 27), .ref (a 30), .ref (a 74), .ref (a 75), .null, .int 0, .int 0])), (a 2, .inr (6, [.ref (a 3), .ref (a 14), .ref (a 26), .int 0, .int 0])), (a 3, .inr (11, [.ref (a 4), .ref (a 5), .ref (a 6), .ref (a 7), .ref (a 8), .ref (a 11), .int 0])), (a 5, .inl ((k 5), 20, .inl (fun _ => 0))), (a 6, .inl ((k 6), 20, .inl (fun _ => 0))), (a 7, .inl ((k 7), 20, .inl (fun _ => 0))), (a 27, .inr (9, [.ref (a 28), .ref (a 29), .int 0, .int 0]))] sz) := by
  refine vx_ofW (cc := cX11_storm) (maxL := 4) (ret := (some .int)) (by decide) rfl ?_
  intro p e s m args below meth c s₁ B hml hnt hv
  obtain ⟨rfl, hsz, hP, hK, hD0, hE⟩ := hv
  have hx := B.exec
  have hb := B.bytes
  have hr := B.returns
  have hts := atoms_spec (ws := w_x_storm) B.pre
  have hown : s.vm.findClass RX11 = some m.cls := findClass_of_methodNamed B.named
  have hlocks := B.notSynchronized
  subst hsz
  have hD := hD0.self (sz := s.heap.size)
  generalize hAe : va_A [(a 0, .inr (14, [.ref (a 1), .ref (a 2), .ref (a 27), .ref (a 30), .ref (a 74), .ref (a 75), .null, .int 0, .int 0])), (a 2, .inr (6, [.ref (a 3), .ref (a 14), .ref (a 26), .int 0, .int 0])), (a 3, .inr (11, [.ref (a 4), .ref (a 5), .ref (a 6), .ref (a 7), .ref (a 8), .ref (a 11), .int 0])), (a 5, .inl ((k 5), 20, .inl (fun _ => 0))), (a 6, .inl ((k 6), 20, .inl (fun _ => 0))), (a 7, .inl ((k 7), 20, .inl (fun _ => 0))), (a 27, .inr (9, [.ref (a 28), .ref (a 29), .int 0, .int 0]))] s.heap.size = A at hD hE ⊢
  have hA : ∀ q : Nat, s.heap.size ≤ q → A q := fun q h => by rw [← hAe]; exact Or.inr h
  have hS : va_S A s.heap s.heap [] := va_S.rf
  have hP : va_P (dC, dI) vwCl [(a 0, .inr (14, [.ref (a 1), .ref (a 2), .ref (a 27), .ref (a 30), .ref (a 74), .ref (a 75), .null, .int 0, .int 0])), (a 2, .inr (6, [.ref (a 3), .ref (a 14), .ref (a 26), .int 0, .int 0])), (a 3, .inr (11, [.ref (a 4), .ref (a 5), .ref (a 6), .ref (a 7), .ref (a 8), .ref (a 11), .int 0])), (a 5, .inl ((k 5), 20, .inl (fun _ => 0))), (a 6, .inl ((k 6), 20, .inl (fun _ => 0))), (a 7, .inl ((k 7), 20, .inl (fun _ => 0))), (a 27, .inr (9, [.ref (a 28), .ref (a 29), .int 0, .int 0]))] s.heap := hP
  have hl := lv_entry ([.ref (a 0), .int p0, .int p1, .int p2]) (n := 4) (Nat.le_of_ble_eq_true rfl)
  rw [lg_entry_eq]
  generalize (lg_sl ([.ref (a 0), .int p0, .int p1, .int p2]) ++ List.replicate (4 - (lg_sl ([.ref (a 0), .int p0, .int p1, .int p2])).length) Slot.unset).toArray = ls at hl ⊢
  have hl : lv_has ls 4 [(0, .ref (a 0)), (1, .int p0), (2, .int p1), (3, .int p2)] := hl
  refine lv_iconst (v := 0) hx hb dX11_storm_0 (by decide) ?_
  refine lv_iload_n hx hb dX11_storm_1 rfl (lv_at hl 1 rfl) ?_
  refine lv_icmp_gt (tgt := 31) hx hb dX11_storm_2 (by decide) (fun c1 => ?_) (fun c1 => ?_)
  · refine lv_iconst (v := 0) hx hb dX11_storm_31 (by decide) ?_
    have hPc := hP.sub (ws' := []) [] rfl
    have hDc := hD.sub (ws' := []) [] (by decide) rfl
    have hKc := hK.sub (tys' := []) [] rfl
    have hFc := va_free (wc := []) hD hS hA [] rfl
    refine vx_callN (vx_runS (As := [.int 0]) (rest := []) ⟨hx, hb, hml, hown, hts⟩ (c_needNumbers0 l hlt dC dI s.heap.size ) (va_cwS 1 hts (goodIn_app (goodIn_r _ [4, 5, 6] (by decide +kernel) (by decide +kernel)) (goodIn_ca (goodIn_r _ [1, 2, 3] (by decide +kernel) (by decide +kernel)) (bs_in _ _))) rfl rfl rfl (by decide +kernel) ⟨(Nat.le_of_ble_eq_true rfl), (Nat.le_of_ble_eq_true rfl)⟩) ⟨fun a U g mk q => by obtain ⟨q0, q1, qP, qK, qD, qE⟩ := q; exact ⟨q0, q1, qP, va_K.moved (u := U) (U := U.calling g mk a) (Vm.Alike.refl U.vm) qK, qD, EV.blind g mk a qE⟩, fun U hU hW => ⟨rfl, by rw [hU], by rw [hU]; exact hPc, va_K.moved hW.alike hKc, hDc.weaken (fun _ _ _ _ => trivial), hE.call hS hFc hU hW⟩⟩ rfl rfl hl.1 rfl (lv_room (Nat.le_of_ble_eq_true rfl)) dX11_storm_32 ⟨(Nat.le_of_ble_eq_true rfl), (Nat.le_of_ble_eq_true rfl)⟩) hS hFc (fun q _ h => hFc q h) (fun E ce q9 u t H1 locs ht hvm _ hw4 hz1 hk1 hS hce hcv hcl => ?_)
    exact vx_out (fun x h => (hnt x h).elim) hlocks hce hcv hcl (fun t2 h2 hW => ⟨(), trivial, (by exact ⟨hw4, by unfold T_storm; rw [if_pos c1]⟩), hS.F h2⟩) hS.2.2 (by decide) (by decide)
  · refine lv_iload_n hx hb dX11_storm_5 rfl (lv_at hl 1 rfl) ?_
    refine lv_iload_n hx hb dX11_storm_6 rfl (lv_at hl 2 rfl) ?_
    refine lv_icmp_gt (tgt := 31) hx hb dX11_storm_7 (by decide) (fun c5 => ?_) (fun c5 => ?_)
    · refine lv_iconst (v := 0) hx hb dX11_storm_31 (by decide) ?_
      have hPc := hP.sub (ws' := []) [] rfl
      have hDc := hD.sub (ws' := []) [] (by decide) rfl
      have hKc := hK.sub (tys' := []) [] rfl
      have hFc := va_free (wc := []) hD hS hA [] rfl
      refine vx_callN (vx_runS (As := [.int 0]) (rest := []) ⟨hx, hb, hml, hown, hts⟩ (c_needNumbers0 l hlt dC dI s.heap.size ) (va_cwS 1 hts (goodIn_app (goodIn_r _ [4, 5, 6] (by decide +kernel) (by decide +kernel)) (goodIn_ca (goodIn_r _ [1, 2, 3] (by decide +kernel) (by decide +kernel)) (bs_in _ _))) rfl rfl rfl (by decide +kernel) ⟨(Nat.le_of_ble_eq_true rfl), (Nat.le_of_ble_eq_true rfl)⟩) ⟨fun a U g mk q => by obtain ⟨q0, q1, qP, qK, qD, qE⟩ := q; exact ⟨q0, q1, qP, va_K.moved (u := U) (U := U.calling g mk a) (Vm.Alike.refl U.vm) qK, qD, EV.blind g mk a qE⟩, fun U hU hW => ⟨rfl, by rw [hU], by rw [hU]; exact hPc, va_K.moved hW.alike hKc, hDc.weaken (fun _ _ _ _ => trivial), hE.call hS hFc hU hW⟩⟩ rfl rfl hl.1 rfl (lv_room (Nat.le_of_ble_eq_true rfl)) dX11_storm_32 ⟨(Nat.le_of_ble_eq_true rfl), (Nat.le_of_ble_eq_true rfl)⟩) hS hFc (fun q _ h => hFc q h) (fun E ce q9 u t H1 locs ht hvm _ hw8 hz1 hk1 hS hce hcv hcl => ?_)
      exact vx_out (fun x h => (hnt x h).elim) hlocks hce hcv hcl (fun t2 h2 hW => ⟨(), trivial, (by exact ⟨hw8, by unfold T_storm; rw [if_neg c1, if_pos c5]⟩), hS.F h2⟩) hS.2.2 (by decide) (by decide)
    · refine lv_iload_n hx hb dX11_storm_10 rfl (lv_at hl 2 rfl) ?_
      refine lv_ldc (v := 40000) hx hb hown (ht_at hts 6 rfl) dX11_storm_11 ?_
      refine lv_icmp_gt (tgt := 31) hx hb dX11_storm_13 (by decide) (fun c9 => ?_) (fun c9 => ?_)
      · refine lv_iconst (v := 0) hx hb dX11_storm_31 (by decide) ?_
        have hPc := hP.sub (ws' := []) [] rfl
        have hDc := hD.sub (ws' := []) [] (by decide) rfl
        have hKc := hK.sub (tys' := []) [] rfl
        have hFc := va_free (wc := []) hD hS hA [] rfl
        refine vx_callN (vx_runS (As := [.int 0]) (rest := []) ⟨hx, hb, hml, hown, hts⟩ (c_needNumbers0 l hlt dC dI s.heap.size ) (va_cwS 1 hts (goodIn_app (goodIn_r _ [4, 5, 6] (by decide +kernel) (by decide +kernel)) (goodIn_ca (goodIn_r _ [1, 2, 3] (by decide +kernel) (by decide +kernel)) (bs_in _ _))) rfl rfl rfl (by decide +kernel) ⟨(Nat.le_of_ble_eq_true rfl), (Nat.le_of_ble_eq_true rfl)⟩) ⟨fun a U g mk q => by obtain ⟨q0, q1, qP, qK, qD, qE⟩ := q; exact ⟨q0, q1, qP, va_K.moved (u := U) (U := U.calling g mk a) (Vm.Alike.refl U.vm) qK, qD, EV.blind g mk a qE⟩, fun U hU hW => ⟨rfl, by rw [hU], by rw [hU]; exact hPc, va_K.moved hW.alike hKc, hDc.weaken (fun _ _ _ _ => trivial), hE.call hS hFc hU hW⟩⟩ rfl rfl hl.1 rfl (lv_room (Nat.le_of_ble_eq_true rfl)) dX11_storm_32 ⟨(Nat.le_of_ble_eq_true rfl), (Nat.le_of_ble_eq_true rfl)⟩) hS hFc (fun q _ h => hFc q h) (fun E ce q9 u t H1 locs ht hvm _ hw12 hz1 hk1 hS hce hcv hcl => ?_)
        exact vx_out (fun x h => (hnt x h).elim) hlocks hce hcv hcl (fun t2 h2 hW => ⟨(), trivial, (by exact ⟨hw12, by unfold T_storm; rw [if_neg c1, if_neg c5, if_pos c9]⟩), hS.F h2⟩) hS.2.2 (by decide) (by decide)
      · refine lv_iload_n hx hb dX11_storm_16 rfl (lv_at hl 3 rfl) ?_
        refine lv_iconst (v := 1) hx hb dX11_storm_17 (by decide) ?_
        refine lv_sipush (v := 500) hx hb dX11_storm_18 (by decide) ?_
        have hPc := hP.sub (ws' := []) [] rfl
        have hDc := hD.sub (ws' := []) [] (by decide) rfl
        have hKc := hK.sub (tys' := []) [] rfl
        have hFc := va_free (wc := []) hD hS hA [] rfl
        refine va_calli (va_runS (As := [.int p2, .int 1, .int 500]) (rest := []) ⟨hx, hb, hml, hown, hts⟩ (c_within l dC dI p2 1 500 s.heap.size ) (va_cwS 3 hts (goodIn_app (goodIn_r _ [9, 10, 6] (by decide +kernel) (by decide +kernel)) (goodIn_ca (goodIn_r _ [8] (by decide +kernel) (by decide +kernel)) (bs_in _ _))) rfl rfl rfl (by decide +kernel) ⟨(Nat.le_of_ble_eq_true rfl), (Nat.le_of_ble_eq_true rfl)⟩) ⟨fun a U g mk q => by obtain ⟨q0, q1, qP, qK, qD⟩ := q; exact ⟨q0, q1, qP, va_K.moved (u := U) (U := U.calling g mk a) (Vm.Alike.refl U.vm) qK, qD⟩, fun U hU hW => ⟨rfl, by rw [hU], by rw [hU]; exact hPc, va_K.moved hW.alike hKc, hDc.weaken (fun _ _ _ _ => trivial)⟩⟩ rfl rfl hl.1 rfl (lv_room (Nat.le_of_ble_eq_true rfl)) dX11_storm_21 ⟨(Nat.le_of_ble_eq_true rfl), (Nat.le_of_ble_eq_true rfl)⟩) hS (fun q _ h => hFc q h) hFc (fun r14 u t H1 locs ht hvm hw15 hB hz1 hk1 hS => ?_)
        have hP1 : va_P (dC, dI) vwCl [] H1 := nilP
        have hD1 : va_D (va_A [] s.heap.size) [] := nilD
        have hK := hK
        obtain ⟨hP, hD⟩ := va_join (wr := [(a 0, .inr (14, [.ref (a 1), .ref (a 2), .ref (a 27), .ref (a 30), .ref (a 74), .ref (a 75), .null, .int 0, .int 0])), (a 2, .inr (6, [.ref (a 3), .ref (a 14), .ref (a 26), .int 0, .int 0])), (a 3, .inr (11, [.ref (a 4), .ref (a 5), .ref (a 6), .ref (a 7), .ref (a 8), .ref (a 11), .int 0])), (a 5, .inl ((k 5), 20, .inl (fun _ => 0))), (a 6, .inl ((k 6), 20, .inl (fun _ => 0))), (a 7, .inl ((k 7), 20, .inl (fun _ => 0))), (a 27, .inr (9, [.ref (a 28), .ref (a 29), .int 0, .int 0]))]) (w1 := []) hP hD [] [0, 1, 2, 3, 4, 5, 6] rfl rfl (by decide) (by decide) hk1 hFc hP1 hD1
        generalize H1 = H at hP hS ⊢
        have hP : va_P (dC, dI) vwCl [(a 0, .inr (14, [.ref (a 1), .ref (a 2), .ref (a 27), .ref (a 30), .ref (a 74), .ref (a 75), .null, .int 0, .int 0])), (a 2, .inr (6, [.ref (a 3), .ref (a 14), .ref (a 26), .int 0, .int 0])), (a 3, .inr (11, [.ref (a 4), .ref (a 5), .ref (a 6), .ref (a 7), .ref (a 8), .ref (a 11), .int 0])), (a 5, .inl ((k 5), 20, .inl (fun _ => 0))), (a 6, .inl ((k 6), 20, .inl (fun _ => 0))), (a 7, .inl ((k 7), 20, .inl (fun _ => 0))), (a 27, .inr (9, [.ref (a 28), .ref (a 29), .int 0, .int 0]))] H := hP
        have hD : va_D A [(a 0, .inr (14, [.ref (a 1), .ref (a 2), .ref (a 27), .ref (a 30), .ref (a 74), .ref (a 75), .null, .int 0, .int 0])), (a 2, .inr (6, [.ref (a 3), .ref (a 14), .ref (a 26), .int 0, .int 0])), (a 3, .inr (11, [.ref (a 4), .ref (a 5), .ref (a 6), .ref (a 7), .ref (a 8), .ref (a 11), .int 0])), (a 5, .inl ((k 5), 20, .inl (fun _ => 0))), (a 6, .inl ((k 6), 20, .inl (fun _ => 0))), (a 7, .inl ((k 7), 20, .inl (fun _ => 0))), (a 27, .inr (9, [.ref (a 28), .ref (a 29), .int 0, .int 0]))] := hD
        try dsimp only at hw15
        by_cases hc16 : (1 : Int32) ≤ p2 ∧ p2 ≤ (500 : Int32)
        · rw [if_pos hc16] at hw15
          subst hw15
          refine lv_if_eq (tgt := 31) hx hb dX11_storm_24 (by decide) (fun c17 => absurd c17 (by decide)) (fun c17 => ?_)
          refine lv_iconst (v := 1) hx hb dX11_storm_27 (by decide) ?_
          refine lv_goto (tgt := 32) hx hb dX11_storm_28 (by decide) ?_
          have hPc := hP.sub (ws' := []) [] rfl
          have hDc := hD.sub (ws' := []) [] (by decide) rfl
          have hKc := hK.sub (tys' := []) [] rfl
          have hFc := va_free (wc := []) hD hS hA [] rfl
          refine va_callv (va_runS (As := [.int 1]) (rest := []) ⟨hx, hb, hml, hown, hts⟩ (c_needNumbers1 l dC dI H.size ) (va_cwS 1 hts (goodIn_app (goodIn_r _ [4, 5, 6] (by decide +kernel) (by decide +kernel)) (goodIn_ca (goodIn_r _ [1] (by decide +kernel) (by decide +kernel)) (bs_in _ _))) rfl rfl rfl (by decide +kernel) ⟨(Nat.le_of_ble_eq_true rfl), (Nat.le_of_ble_eq_true rfl)⟩) ⟨fun a U g mk q => by obtain ⟨q0, q1, qP, qK, qD⟩ := q; exact ⟨q0, q1, qP, va_K.moved (u := U) (U := U.calling g mk a) (Vm.Alike.refl U.vm) qK, qD⟩, fun U hU hW => ⟨rfl, by rw [hU], by rw [hU]; exact hPc, va_K.moved hW.alike hKc, hDc.weaken (fun _ _ _ _ => trivial)⟩⟩ rfl rfl hl.1 rfl (lv_room (Nat.le_of_ble_eq_true rfl)) dX11_storm_32 ⟨(Nat.le_of_ble_eq_true rfl), (Nat.le_of_ble_eq_true rfl)⟩) hS (fun q _ h => hFc q h) hFc (fun u t H1 locs ht hvm hw20 hB hz1 hk1 hS => ?_)
          have hP1 : va_P (dC, dI) vwCl [] H1 := nilP
          have hD1 : va_D (va_A [] H.size) [] := nilD
          have hK := hK
          obtain ⟨hP, hD⟩ := va_join (wr := [(a 0, .inr (14, [.ref (a 1), .ref (a 2), .ref (a 27), .ref (a 30), .ref (a 74), .ref (a 75), .null, .int 0, .int 0])), (a 2, .inr (6, [.ref (a 3), .ref (a 14), .ref (a 26), .int 0, .int 0])), (a 3, .inr (11, [.ref (a 4), .ref (a 5), .ref (a 6), .ref (a 7), .ref (a 8), .ref (a 11), .int 0])), (a 5, .inl ((k 5), 20, .inl (fun _ => 0))), (a 6, .inl ((k 6), 20, .inl (fun _ => 0))), (a 7, .inl ((k 7), 20, .inl (fun _ => 0))), (a 27, .inr (9, [.ref (a 28), .ref (a 29), .int 0, .int 0]))]) (w1 := []) hP hD [] [0, 1, 2, 3, 4, 5, 6] rfl rfl (by decide) (by decide) hk1 hFc hP1 hD1
          generalize H1 = H at hP hS ⊢
          have hP : va_P (dC, dI) vwCl [(a 0, .inr (14, [.ref (a 1), .ref (a 2), .ref (a 27), .ref (a 30), .ref (a 74), .ref (a 75), .null, .int 0, .int 0])), (a 2, .inr (6, [.ref (a 3), .ref (a 14), .ref (a 26), .int 0, .int 0])), (a 3, .inr (11, [.ref (a 4), .ref (a 5), .ref (a 6), .ref (a 7), .ref (a 8), .ref (a 11), .int 0])), (a 5, .inl ((k 5), 20, .inl (fun _ => 0))), (a 6, .inl ((k 6), 20, .inl (fun _ => 0))), (a 7, .inl ((k 7), 20, .inl (fun _ => 0))), (a 27, .inr (9, [.ref (a 28), .ref (a 29), .int 0, .int 0]))] H := hP
          have hD : va_D A [(a 0, .inr (14, [.ref (a 1), .ref (a 2), .ref (a 27), .ref (a 30), .ref (a 74), .ref (a 75), .null, .int 0, .int 0])), (a 2, .inr (6, [.ref (a 3), .ref (a 14), .ref (a 26), .int 0, .int 0])), (a 3, .inr (11, [.ref (a 4), .ref (a 5), .ref (a 6), .ref (a 7), .ref (a 8), .ref (a 11), .int 0])), (a 5, .inl ((k 5), 20, .inl (fun _ => 0))), (a 6, .inl ((k 6), 20, .inl (fun _ => 0))), (a 7, .inl ((k 7), 20, .inl (fun _ => 0))), (a 27, .inr (9, [.ref (a 28), .ref (a 29), .int 0, .int 0]))] := hD
          try dsimp only at hw20
          refine lv_aload_n hx hb dX11_storm_35 rfl (lv_at hl 0 rfl) ?_
          refine va_get (D := (dC, dI)) (ci := 14) (v := .ref (a 2)) (C := RX11) (T := TX11) (N := 9) hx hb hts bF_X11 hown hK hP 0 rfl rfl 1 (by decide) (ht_at hts 10 rfl) (fun _ h9 => h9) rfl dX11_storm_36 ?_
          refine va_getN (D := (dC, dI)) (ci := 6) (v := .ref (a 3)) (C := RX3) (T := TX3) (N := 5) hx hb hts bF_X3 hown hK hP 1 rfl rfl 0 (by decide) (hE.nw 3 rfl) (fun _ h9 => h9) rfl dX11_storm_39 ?_
          refine va_getN (D := (dC, dI)) (ci := 11) (v := .int 0) (C := RX8) (T := TX8) (N := 7) hx hb hts bF_X8 hown hK hP 2 rfl rfl 6 (by decide) (hE.nw 5 rfl) (fun _ h9 => h9) rfl dX11_storm_42 ?_
          refine lv_bipush (v := 20) hx hb dX11_storm_45 (by decide) ?_
          refine lv_icmp_ne (tgt := 52) hx hb dX11_storm_47 (by decide) (fun c21 => ?_) (fun c21 => absurd c21 (by decide))
          refine lv_aload_n hx hb dX11_storm_52 rfl (lv_at hl 0 rfl) ?_
          refine va_get (D := (dC, dI)) (ci := 14) (v := .ref (a 27)) (C := RX11) (T := TX11) (N := 9) hx hb hts bF_X11 hown hK hP 0 rfl rfl 2 (by decide) (ht_at hts 11 rfl) (fun _ h9 => h9) rfl dX11_storm_53 ?_
          have hPc := hP.sub (ws' := [(a 27, .inr (9, [.ref (a 28), .ref (a 29), .int 0, .int 0]))]) [6] rfl
          have hDc := hD.sub (ws' := [(a 27, .inr (9, [.ref (a 28), .ref (a 29), .int 0, .int 0]))]) [6] (by decide) rfl
          have hKc := hK.sub (tys' := []) [] rfl
          have hFc := va_free (wc := [(a 27, .inr (9, [.ref (a 28), .ref (a 29), .int 0, .int 0]))]) hD hS hA [6] rfl
          refine va_callv (va_runV (As := []) (rest := []) ⟨hx, hb, hml, hown, hts⟩ (x_forget l dC dI a k H.size ) (cwV 0 hts (goodIn_app (goodIn_r _ [16, 17, 18, 19] (by decide +kernel) (by decide +kernel)) (goodIn_ca (goodIn_r _ [13, 14, 15] (by decide +kernel) (by decide +kernel)) (bs_in _ _))) rfl rfl rfl (by decide +kernel) ⟨(Nat.le_of_ble_eq_true rfl), (Nat.le_of_ble_eq_true rfl)⟩) ⟨fun a U g mk q => by obtain ⟨q0, q1, qP, qK, qD, qE⟩ := q; exact ⟨q0, q1, qP, va_K.moved (u := U) (U := U.calling g mk a) (Vm.Alike.refl U.vm) qK, qD, EV.blind g mk a qE⟩, va_recv hKc hPc (ci := 9) (q0 := 0) rfl rfl, fun U hU hW => ⟨rfl, by rw [hU], by rw [hU]; exact hPc, va_K.moved hW.alike hKc, hDc.weaken (fun _ _ _ _ => trivial), hE.call hS hFc hU hW⟩⟩ rfl rfl hl.1 rfl (lv_room (Nat.le_of_ble_eq_true rfl)) dX11_storm_56 ⟨(Nat.le_of_ble_eq_true rfl), (Nat.le_of_ble_eq_true rfl)⟩) hS (fun q _ h => hFc q h) hFc (fun u t H1 locs ht hvm hw24 hB hz1 hk1 hS => ?_)
          obtain ⟨hP1, hD1⟩ := hB
          rw [ht] at hP1
          obtain ⟨hP, hD⟩ := va_join (wr := [(a 0, .inr (14, [.ref (a 1), .ref (a 2), .ref (a 27), .ref (a 30), .ref (a 74), .ref (a 75), .null, .int 0, .int 0])), (a 2, .inr (6, [.ref (a 3), .ref (a 14), .ref (a 26), .int 0, .int 0])), (a 3, .inr (11, [.ref (a 4), .ref (a 5), .ref (a 6), .ref (a 7), .ref (a 8), .ref (a 11), .int 0])), (a 5, .inl ((k 5), 20, .inl (fun _ => 0))), (a 6, .inl ((k 6), 20, .inl (fun _ => 0))), (a 7, .inl ((k 7), 20, .inl (fun _ => 0)))]) (w1 := [(a 27, .inr (9, [.ref (a 28), .ref (a 29), .int 0, .int 0]))]) hP hD [6] [0, 1, 2, 3, 4, 5] rfl rfl (by decide) (by decide) hk1 hFc hP1 hD1
          generalize H1 = H at hP hS ⊢
          have hP : va_P (dC, dI) vwCl [(a 0, .inr (14, [.ref (a 1), .ref (a 2), .ref (a 27), .ref (a 30), .ref (a 74), .ref (a 75), .null, .int 0, .int 0])), (a 2, .inr (6, [.ref (a 3), .ref (a 14), .ref (a 26), .int 0, .int 0])), (a 3, .inr (11, [.ref (a 4), .ref (a 5), .ref (a 6), .ref (a 7), .ref (a 8), .ref (a 11), .int 0])), (a 5, .inl ((k 5), 20, .inl (fun _ => 0))), (a 6, .inl ((k 6), 20, .inl (fun _ => 0))), (a 7, .inl ((k 7), 20, .inl (fun _ => 0))), (a 27, .inr (9, [.ref (a 28), .ref (a 29), .int 0, .int 0]))] H := hP
          have hD : va_D A [(a 0, .inr (14, [.ref (a 1), .ref (a 2), .ref (a 27), .ref (a 30), .ref (a 74), .ref (a 75), .null, .int 0, .int 0])), (a 2, .inr (6, [.ref (a 3), .ref (a 14), .ref (a 26), .int 0, .int 0])), (a 3, .inr (11, [.ref (a 4), .ref (a 5), .ref (a 6), .ref (a 7), .ref (a 8), .ref (a 11), .int 0])), (a 5, .inl ((k 5), 20, .inl (fun _ => 0))), (a 6, .inl ((k 6), 20, .inl (fun _ => 0))), (a 7, .inl ((k 7), 20, .inl (fun _ => 0))), (a 27, .inr (9, [.ref (a 28), .ref (a 29), .int 0, .int 0]))] := hD
          try dsimp only at hw24
          refine lv_aload_n hx hb dX11_storm_59 rfl (lv_at hl 0 rfl) ?_
          refine va_get (D := (dC, dI)) (ci := 14) (v := .ref (a 2)) (C := RX11) (T := TX11) (N := 9) hx hb hts bF_X11 hown hK hP 0 rfl rfl 1 (by decide) (ht_at hts 10 rfl) (fun _ h9 => h9) rfl dX11_storm_60 ?_
          refine va_getN (D := (dC, dI)) (ci := 6) (v := .ref (a 3)) (C := RX3) (T := TX3) (N := 5) hx hb hts bF_X3 hown hK hP 1 rfl rfl 0 (by decide) (hE.nw 3 rfl) (fun _ h9 => h9) rfl dX11_storm_63 ?_
          refine lv_iload_n hx hb dX11_storm_66 rfl (lv_at hl 1 rfl) ?_
          refine lv_iload_n hx hb dX11_storm_67 rfl (lv_at hl 2 rfl) ?_
          refine lv_iload_n hx hb dX11_storm_68 rfl (lv_at hl 3 rfl) ?_
          have hPc := hP.sub (ws' := [(a 3, .inr (11, [.ref (a 4), .ref (a 5), .ref (a 6), .ref (a 7), .ref (a 8), .ref (a 11), .int 0])), (a 5, .inl ((k 5), 20, .inl (fun _ => 0))), (a 6, .inl ((k 6), 20, .inl (fun _ => 0))), (a 7, .inl ((k 7), 20, .inl (fun _ => 0)))]) [2, 3, 4, 5] rfl
          have hDc := hD.sub (ws' := [(a 3, .inr (11, [.ref (a 4), .ref (a 5), .ref (a 6), .ref (a 7), .ref (a 8), .ref (a 11), .int 0])), (a 5, .inl ((k 5), 20, .inl (fun _ => 0))), (a 6, .inl ((k 6), 20, .inl (fun _ => 0))), (a 7, .inl ((k 7), 20, .inl (fun _ => 0)))]) [2, 3, 4, 5] (by decide) rfl
          have hKc := hK.sub (tys' := [((k 5), .int), ((k 6), .int), ((k 7), .int)]) [0, 1, 2] rfl
          have hFc := va_free (wc := [(a 3, .inr (11, [.ref (a 4), .ref (a 5), .ref (a 6), .ref (a 7), .ref (a 8), .ref (a 11), .int 0])), (a 5, .inl ((k 5), 20, .inl (fun _ => 0))), (a 6, .inl ((k 6), 20, .inl (fun _ => 0))), (a 7, .inl ((k 7), 20, .inl (fun _ => 0)))]) hD hS hA [2, 3, 4, 5] rfl
          refine va_calli (va_runV (As := [.int p0, .int p1, .int p2]) (rest := []) ⟨hx, hb, hml, hown, hts⟩ (x_tellStorm l dC dI a k p0 p1 p2 H.size ) (cwV 3 hts (goodIn_app (goodIn_r _ [25, 26, 27, 28] (by decide +kernel) (by decide +kernel)) (goodIn_ca (goodIn_r _ [20, 21, 22, 23, 24] (by decide +kernel) (by decide +kernel)) (bs_in _ _))) rfl rfl rfl (by decide +kernel) ⟨(Nat.le_of_ble_eq_true rfl), (Nat.le_of_ble_eq_true rfl)⟩) ⟨fun a U g mk q => by obtain ⟨q0, q1, qP, qK, qD, qE⟩ := q; exact ⟨q0, q1, qP, va_K.moved (u := U) (U := U.calling g mk a) (Vm.Alike.refl U.vm) qK, qD, EV.blind g mk a qE⟩, va_recv hKc hPc (ci := 11) (q0 := 0) rfl rfl, fun U hU hW => ⟨rfl, by rw [hU], by rw [hU]; exact hPc, va_K.moved hW.alike hKc, hDc.weaken (fun _ _ _ _ => trivial), hE.call hS hFc hU hW⟩⟩ rfl rfl hl.1 rfl (lv_room (Nat.le_of_ble_eq_true rfl)) dX11_storm_69 ⟨(Nat.le_of_ble_eq_true rfl), (Nat.le_of_ble_eq_true rfl)⟩) hS (fun q _ h => hFc q h) hFc (fun r26 u t H1 locs ht hvm hw27 hB hz1 hk1 hS => ?_)
          have hP1 : va_P (dC, dI) vwCl [] H1 := nilP
          have hD1 : va_D (va_A [(a 3, .inr (11, [.ref (a 4), .ref (a 5), .ref (a 6), .ref (a 7), .ref (a 8), .ref (a 11), .int 0])), (a 5, .inl ((k 5), 20, .inl (fun _ => 0))), (a 6, .inl ((k 6), 20, .inl (fun _ => 0))), (a 7, .inl ((k 7), 20, .inl (fun _ => 0)))] H.size) [] := nilD
          have hK := hK
          obtain ⟨hP, hD⟩ := va_join (wr := [(a 0, .inr (14, [.ref (a 1), .ref (a 2), .ref (a 27), .ref (a 30), .ref (a 74), .ref (a 75), .null, .int 0, .int 0])), (a 2, .inr (6, [.ref (a 3), .ref (a 14), .ref (a 26), .int 0, .int 0])), (a 27, .inr (9, [.ref (a 28), .ref (a 29), .int 0, .int 0]))]) (w1 := []) hP hD [2, 3, 4, 5] [0, 1, 6] rfl rfl (by decide) (by decide) hk1 hFc hP1 hD1
          generalize H1 = H at hP hS ⊢
          have hP : va_P (dC, dI) vwCl [(a 0, .inr (14, [.ref (a 1), .ref (a 2), .ref (a 27), .ref (a 30), .ref (a 74), .ref (a 75), .null, .int 0, .int 0])), (a 2, .inr (6, [.ref (a 3), .ref (a 14), .ref (a 26), .int 0, .int 0])), (a 27, .inr (9, [.ref (a 28), .ref (a 29), .int 0, .int 0]))] H := hP
          have hD : va_D A [(a 0, .inr (14, [.ref (a 1), .ref (a 2), .ref (a 27), .ref (a 30), .ref (a 74), .ref (a 75), .null, .int 0, .int 0])), (a 2, .inr (6, [.ref (a 3), .ref (a 14), .ref (a 26), .int 0, .int 0])), (a 27, .inr (9, [.ref (a 28), .ref (a 29), .int 0, .int 0]))] := hD
          try dsimp only at hw27
          obtain rfl : 1 = r26 := (hw27).symm
          refine W.widen (k := 1) (n := 6) (by decide) (by decide) ?_
          exact vx_ret (W.iret (v := 1) hx hb hr (fun t ht hW => ⟨⟨1, (), rfl, (by unfold T_storm; rw [if_neg c1, if_neg c5, if_neg c9, if_pos hc16]; exact ⟨rfl, rfl⟩), trivial⟩, hS.F ht⟩) hS.2.2 dX11_storm_72)
        · rw [if_neg hc16] at hw15
          subst hw15
          refine lv_if_eq (tgt := 31) hx hb dX11_storm_24 (by decide) (fun c28 => ?_) (fun c28 => absurd c28 (by decide))
          refine lv_iconst (v := 0) hx hb dX11_storm_31 (by decide) ?_
          have hPc := hP.sub (ws' := []) [] rfl
          have hDc := hD.sub (ws' := []) [] (by decide) rfl
          have hKc := hK.sub (tys' := []) [] rfl
          have hFc := va_free (wc := []) hD hS hA [] rfl
          refine vx_callN (vx_runS (As := [.int 0]) (rest := []) ⟨hx, hb, hml, hown, hts⟩ (c_needNumbers0 l hlt dC dI H.size ) (va_cwS 1 hts (goodIn_app (goodIn_r _ [4, 5, 6] (by decide +kernel) (by decide +kernel)) (goodIn_ca (goodIn_r _ [1, 2, 3] (by decide +kernel) (by decide +kernel)) (bs_in _ _))) rfl rfl rfl (by decide +kernel) ⟨(Nat.le_of_ble_eq_true rfl), (Nat.le_of_ble_eq_true rfl)⟩) ⟨fun a U g mk q => by obtain ⟨q0, q1, qP, qK, qD, qE⟩ := q; exact ⟨q0, q1, qP, va_K.moved (u := U) (U := U.calling g mk a) (Vm.Alike.refl U.vm) qK, qD, EV.blind g mk a qE⟩, fun U hU hW => ⟨rfl, by rw [hU], by rw [hU]; exact hPc, va_K.moved hW.alike hKc, hDc.weaken (fun _ _ _ _ => trivial), hE.call hS hFc hU hW⟩⟩ rfl rfl hl.1 rfl (lv_room (Nat.le_of_ble_eq_true rfl)) dX11_storm_32 ⟨(Nat.le_of_ble_eq_true rfl), (Nat.le_of_ble_eq_true rfl)⟩) hS hFc (fun q _ h => hFc q h) (fun E ce q9 u t H1 locs ht hvm _ hw31 hz1 hk1 hS hce hcv hcl => ?_)
          exact vx_out (fun x h => (hnt x h).elim) hlocks hce hcv hcl (fun t2 h2 hW => ⟨(), trivial, (by exact ⟨hw31, by unfold T_storm; rw [if_neg c1, if_neg c5, if_neg c9, if_neg hc16]⟩), hS.F h2⟩) hS.2.2 (by decide) (by decide)
def w_x_weather0 : List Cond := .code yX11_weather cX11_weather 5 (some .int) :: ([.constant RX11 110 40000, .code yX11_within cX11_within 3 (some .boolean), .methodLink RX11 58 yX11_within, .static yX11_within, .initialized RX11, .code yX11_needNumbers cX11_needNumbers 1 none, .methodLink RX11 62 yX11_needNumbers, .static yX11_needNumbers, .fieldLink RX11 16 "SeaLand" "lake" "LSeaLand$Lake;", .fieldLink RX11 23 "SeaLand" "rows" "LSeaLand$Rows;", .code yX6_forget cX6_forget 1 none, .fieldLink RX6 18 "SeaLand$Rows" "kept" "I", .fieldLink RX6 22 "SeaLand$Rows" "oldest" "I", .methodLink RX11 76 yX6_forget, .instanceMethod yX6_forget, .selects RX6 yX6_forget yX6_forget, .initialized RX6, .code yX9_tell cX9_tell 4 (some .int), .fieldLink RX9 18 "SeaLand$Tellings" "told" "I", .fieldLink RX9 9 "SeaLand$Tellings" "hours" "[I", .fieldLink RX9 15 "SeaLand$Tellings" "numbers" "[I", .methodLink RX11 130 yX9_tell, .instanceMethod yX9_tell, .selects RX9 yX9_tell yX9_tell, .initialized RX9, .classLink RX11 547 "java/lang/IllegalArgumentException", .initialized "java/lang/IllegalArgumentException"] ++ bs)
set_option maxHeartbeats 4000000 in
set_option maxRecDepth 100000 in
theorem x_weather0 (l : Launch) (hlt : l.stackTraces = false) (dC : Nat → ClassId) (dI : Nat → Nat → Nat) (a : Nat → Nat) (k : Nat → ClassId) (p0 p1 : Int32) (sz : Nat) : vx_Met l yX11_weather w_x_weather0 ({ frames := 7, cells := 1, slots := 6, locals := 120 }) (va_Pc [.ref (a 0), .int 0, .int p0, .int p1] (fun U => U.heap.size = sz ∧ va_P (dC, dI) vwCl [(a 0, .inr (14, [.ref (a 1), .ref (a 2), .ref (a 27), .ref (a 30), .ref (a 74), .ref (a 75), .null, .int 0, .int 0])), (a 2, .inr (6, [.ref (a 3), .ref (a 14), .ref (a 26), .int 0, .int 0])), (a 3, .inr (11, [.ref (a 4), .ref (a 5), .ref (a 6), .ref (a 7), .ref (a 8), .ref (a 11), .int 0])), (a 27, .inr (9, [.ref (a 28), .ref (a 29), .int 0, .int 0])), (a 8, .inr (12, [.ref (a 9), .ref (a 10), .int 0])), (a 9, .inl ((k 9), 60, .inl (fun _ => 0))), (a 10, .inl ((k 10), 60, .inl (fun _ => 0)))] U.heap ∧ va_K (dC, dI) vwCl [((k 9), .int), ((k 10), .int)] U ∧ va_D (fun _ => True) [(a 0, .inr (14, [.ref (a 1), .ref (a 2), .ref (a 27), .ref (a 30), .ref (a 74), .ref (a 75), .null, .int 0, .int 0])), (a 2, .inr (6, [.ref (a 3), .ref (a 14), .ref (a 26), .int 0, .int 0])), (a 3, .inr (11, [.ref (a 4), .ref (a 5), .ref (a 6), .ref (a 7), .ref (a 8), .ref (a 11), .int 0])), (a 27, .inr (9, [.ref (a 28), .ref (a 29), .int 0, .int 0])), (a 8, .inr (12, [.ref (a 9), .ref (a 10), .int 0])), (a 9, .inl ((k 9), 60, .inl (fun _ => 0))), (a 10, .inl ((k 10), 60, .inl (fun _ => 0)))] ∧ EV (va_A [(a 0, .inr (14, [.ref (a 1), .ref (a 2), .ref (a 27), .ref (a 30), .ref (a 74), .ref (a 75), .null, .int 0, .int 0])), (a 2, .inr (6, [.ref (a 3), .ref (a 14), .ref (a 26), .int 0, .int 0])), (a 3, .inr (11, [.ref (a 4), .ref (a 5), .ref (a 6), .ref (a 7), .ref (a 8), .ref (a 11), .int 0])), (a 27, .inr (9, [.ref (a 28), .ref (a 29), .int 0, .int 0])), (a 8, .inr (12, [.ref (a 9), .ref (a 10), .int 0])), (a 9, .inl ((k 9), 60, .inl (fun _ => 0))), (a 10, .inl ((k 10), 60, .inl (fun _ => 0)))] sz) U U.heap)) (va_Qi (fun (r : Int32) (u : Unit) => r = (T_weather0 p0 p1).2 ∧ (T_weather0 p0 p1).1 = 0) (fun (_ : Unit) (_ : State) => True) (va_A [(a 0, .inr (14, [.ref (a 1), .ref (a 2), .ref (a 27), .ref (a 30), .ref (a 74), .ref (a 75), .null, .int 0, .int 0])), (a 2, .inr (6, [.ref (a 3), .ref (a 14), .ref (a 26), .int 0, .int 0])), (a 3, .inr (11, [.ref (a 4), .ref (a 5), .ref (a 6), .ref (a 7), .ref (a 8), .ref (a 11), .int 0])), (a 27, .inr (9, [.ref (a 28), .ref (a 29), .int 0, .int 0])), (a 8, .inr (12, [.ref (a 9), .ref (a 10), .int 0])), (a 9, .inl ((k 9), 60, .inl (fun _ => 0))), (a 10, .inl ((k 10), 60, .inl (fun _ => 0)))] sz)) (vx_X (fun _ : Unit => True) (fun E _ _ => (E = "java/lang/IllegalArgumentException" ∧ (T_weather0 p0 p1).1 = 1)) (va_A [(a 0, .inr (14, [.ref (a 1), .ref (a 2), .ref (a 27), .ref (a 30), .ref (a 74), .ref (a 75), .null, .int 0, .int 0])), (a 2, .inr (6, [.ref (a 3), .ref (a 14), .ref (a 26), .int 0, .int 0])), (a 3, .inr (11, [.ref (a 4), .ref (a 5), .ref (a 6), .ref (a 7), .ref (a 8), .ref (a 11), .int 0])), (a 27, .inr (9, [.ref (a 28), .ref (a 29), .int 0, .int 0])), (a 8, .inr (12, [.ref (a 9), .ref (a 10), .int 0])), (a 9, .inl ((k 9), 60, .inl (fun _ => 0))), (a 10, .inl ((k 10), 60, .inl (fun _ => 0)))] sz)) 1 6 (va_A [(a 0, .inr (14, [.ref (a 1), .ref (a 2), .ref (a 27), .ref (a 30), .ref (a 74), .ref (a 75), .null, .int 0, .int 0])), (a 2, .inr (6, [.ref (a 3), .ref (a 14), .ref (a 26), .int 0, .int 0])), (a 3, .inr (11, [.ref (a 4), .ref (a 5), .ref (a 6), .ref (a 7), .ref (a 8), .ref (a 11), .int 0])), (a 27, .inr (9, [.ref (a 28), .ref (a 29), .int 0, .int 0])), (a 8, .inr (12, [.ref (a 9), .ref (a 10), .int 0])), (a 9, .inl ((k 9), 60, .inl (fun _ => 0))), (a 10, .inl ((k 10), 60, .inl (fun _ => 0)))] sz) := by
  refine vx_ofW (cc := cX11_weather) (maxL := 5) (ret := (some .int)) (by decide) rfl ?_
  intro p e s m args below meth c s₁ B hml hnt hv
  obtain ⟨rfl, hsz, hP, hK, hD0, hE⟩ := hv
  have hx := B.exec
  have hb := B.bytes
  have hr := B.returns
  have hts := atoms_spec (ws := w_x_weather0) B.pre
  have hown : s.vm.findClass RX11 = some m.cls := findClass_of_methodNamed B.named
  have hlocks := B.notSynchronized
  subst hsz
  have hD := hD0.self (sz := s.heap.size)
  generalize hAe : va_A [(a 0, .inr (14, [.ref (a 1), .ref (a 2), .ref (a 27), .ref (a 30), .ref (a 74), .ref (a 75), .null, .int 0, .int 0])), (a 2, .inr (6, [.ref (a 3), .ref (a 14), .ref (a 26), .int 0, .int 0])), (a 3, .inr (11, [.ref (a 4), .ref (a 5), .ref (a 6), .ref (a 7), .ref (a 8), .ref (a 11), .int 0])), (a 27, .inr (9, [.ref (a 28), .ref (a 29), .int 0, .int 0])), (a 8, .inr (12, [.ref (a 9), .ref (a 10), .int 0])), (a 9, .inl ((k 9), 60, .inl (fun _ => 0))), (a 10, .inl ((k 10), 60, .inl (fun _ => 0)))] s.heap.size = A at hD hE ⊢
  have hA : ∀ q : Nat, s.heap.size ≤ q → A q := fun q h => by rw [← hAe]; exact Or.inr h
  have hS : va_S A s.heap s.heap [] := va_S.rf
  have hP : va_P (dC, dI) vwCl [(a 0, .inr (14, [.ref (a 1), .ref (a 2), .ref (a 27), .ref (a 30), .ref (a 74), .ref (a 75), .null, .int 0, .int 0])), (a 2, .inr (6, [.ref (a 3), .ref (a 14), .ref (a 26), .int 0, .int 0])), (a 3, .inr (11, [.ref (a 4), .ref (a 5), .ref (a 6), .ref (a 7), .ref (a 8), .ref (a 11), .int 0])), (a 27, .inr (9, [.ref (a 28), .ref (a 29), .int 0, .int 0])), (a 8, .inr (12, [.ref (a 9), .ref (a 10), .int 0])), (a 9, .inl ((k 9), 60, .inl (fun _ => 0))), (a 10, .inl ((k 10), 60, .inl (fun _ => 0)))] s.heap := hP
  have hl := lv_entry ([.ref (a 0), .int 0, .int p0, .int p1]) (n := 5) (Nat.le_of_ble_eq_true rfl)
  rw [lg_entry_eq]
  generalize (lg_sl ([.ref (a 0), .int 0, .int p0, .int p1]) ++ List.replicate (5 - (lg_sl ([.ref (a 0), .int 0, .int p0, .int p1])).length) Slot.unset).toArray = ls at hl ⊢
  have hl : lv_has ls 5 [(0, .ref (a 0)), (1, .int 0), (2, .int p0), (3, .int p1)] := hl
  refine lv_iload_n hx hb dX11_weather_0 rfl (lv_at hl 2 rfl) ?_
  refine lv_iconst (v := 0) hx hb dX11_weather_1 (by decide) ?_
  refine lv_ldc (v := 40000) hx hb hown (ht_at hts 0 rfl) dX11_weather_2 ?_
  have hPc := hP.sub (ws' := []) [] rfl
  have hDc := hD.sub (ws' := []) [] (by decide) rfl
  have hKc := hK.sub (tys' := []) [] rfl
  have hFc := va_free (wc := []) hD hS hA [] rfl
  refine va_calli (va_runS (As := [.int p0, .int 0, .int 40000]) (rest := []) ⟨hx, hb, hml, hown, hts⟩ (c_within l dC dI p0 0 40000 s.heap.size ) (va_cwS 3 hts (goodIn_app (goodIn_r _ [3, 4, 5] (by decide +kernel) (by decide +kernel)) (goodIn_ca (goodIn_r _ [2] (by decide +kernel) (by decide +kernel)) (bs_in _ _))) rfl rfl rfl (by decide +kernel) ⟨(Nat.le_of_ble_eq_true rfl), (Nat.le_of_ble_eq_true rfl)⟩) ⟨fun a U g mk q => by obtain ⟨q0, q1, qP, qK, qD⟩ := q; exact ⟨q0, q1, qP, va_K.moved (u := U) (U := U.calling g mk a) (Vm.Alike.refl U.vm) qK, qD⟩, fun U hU hW => ⟨rfl, by rw [hU], by rw [hU]; exact hPc, va_K.moved hW.alike hKc, hDc.weaken (fun _ _ _ _ => trivial)⟩⟩ rfl rfl hl.1 rfl (lv_room (Nat.le_of_ble_eq_true rfl)) dX11_weather_4 ⟨(Nat.le_of_ble_eq_true rfl), (Nat.le_of_ble_eq_true rfl)⟩) hS (fun q _ h => hFc q h) hFc (fun r2 u t H1 locs ht hvm hw3 hB hz1 hk1 hS => ?_)
  have hP1 : va_P (dC, dI) vwCl [] H1 := nilP
  have hD1 : va_D (va_A [] s.heap.size) [] := nilD
  have hK := hK
  obtain ⟨hP, hD⟩ := va_join (wr := [(a 0, .inr (14, [.ref (a 1), .ref (a 2), .ref (a 27), .ref (a 30), .ref (a 74), .ref (a 75), .null, .int 0, .int 0])), (a 2, .inr (6, [.ref (a 3), .ref (a 14), .ref (a 26), .int 0, .int 0])), (a 3, .inr (11, [.ref (a 4), .ref (a 5), .ref (a 6), .ref (a 7), .ref (a 8), .ref (a 11), .int 0])), (a 27, .inr (9, [.ref (a 28), .ref (a 29), .int 0, .int 0])), (a 8, .inr (12, [.ref (a 9), .ref (a 10), .int 0])), (a 9, .inl ((k 9), 60, .inl (fun _ => 0))), (a 10, .inl ((k 10), 60, .inl (fun _ => 0)))]) (w1 := []) hP hD [] [0, 1, 2, 3, 4, 5, 6] rfl rfl (by decide) (by decide) hk1 hFc hP1 hD1
  generalize H1 = H at hP hS ⊢
  have hP : va_P (dC, dI) vwCl [(a 0, .inr (14, [.ref (a 1), .ref (a 2), .ref (a 27), .ref (a 30), .ref (a 74), .ref (a 75), .null, .int 0, .int 0])), (a 2, .inr (6, [.ref (a 3), .ref (a 14), .ref (a 26), .int 0, .int 0])), (a 3, .inr (11, [.ref (a 4), .ref (a 5), .ref (a 6), .ref (a 7), .ref (a 8), .ref (a 11), .int 0])), (a 27, .inr (9, [.ref (a 28), .ref (a 29), .int 0, .int 0])), (a 8, .inr (12, [.ref (a 9), .ref (a 10), .int 0])), (a 9, .inl ((k 9), 60, .inl (fun _ => 0))), (a 10, .inl ((k 10), 60, .inl (fun _ => 0)))] H := hP
  have hD : va_D A [(a 0, .inr (14, [.ref (a 1), .ref (a 2), .ref (a 27), .ref (a 30), .ref (a 74), .ref (a 75), .null, .int 0, .int 0])), (a 2, .inr (6, [.ref (a 3), .ref (a 14), .ref (a 26), .int 0, .int 0])), (a 3, .inr (11, [.ref (a 4), .ref (a 5), .ref (a 6), .ref (a 7), .ref (a 8), .ref (a 11), .int 0])), (a 27, .inr (9, [.ref (a 28), .ref (a 29), .int 0, .int 0])), (a 8, .inr (12, [.ref (a 9), .ref (a 10), .int 0])), (a 9, .inl ((k 9), 60, .inl (fun _ => 0))), (a 10, .inl ((k 10), 60, .inl (fun _ => 0)))] := hD
  try dsimp only at hw3
  by_cases hc4 : (0 : Int32) ≤ p0 ∧ p0 ≤ (40000 : Int32)
  · rw [if_pos hc4] at hw3
    subst hw3
    refine lv_if_eq (tgt := 41) hx hb dX11_weather_7 (by decide) (fun c5 => absurd c5 (by decide)) (fun c5 => ?_)
    refine lv_iload_n hx hb dX11_weather_10 rfl (lv_at hl 1 rfl) ?_
    refine lv_if_eq (tgt := 27) hx hb dX11_weather_11 (by decide) (fun c6 => ?_) (fun c6 => absurd c6 (by decide))
    refine lv_iload_n hx hb dX11_weather_27 rfl (lv_at hl 3 rfl) ?_
    refine lv_iconst (v := (-1)) hx hb dX11_weather_28 (by decide) ?_
    refine lv_bipush (v := 9) hx hb dX11_weather_29 (by decide) ?_
    have hPc := hP.sub (ws' := []) [] rfl
    have hDc := hD.sub (ws' := []) [] (by decide) rfl
    have hKc := hK.sub (tys' := []) [] rfl
    have hFc := va_free (wc := []) hD hS hA [] rfl
    refine va_calli (va_runS (As := [.int p1, .int (-1), .int 9]) (rest := []) ⟨hx, hb, hml, hown, hts⟩ (c_within l dC dI p1 (-1) 9 H.size ) (va_cwS 3 hts (goodIn_app (goodIn_r _ [3, 4, 5] (by decide +kernel) (by decide +kernel)) (goodIn_ca (goodIn_r _ [2] (by decide +kernel) (by decide +kernel)) (bs_in _ _))) rfl rfl rfl (by decide +kernel) ⟨(Nat.le_of_ble_eq_true rfl), (Nat.le_of_ble_eq_true rfl)⟩) ⟨fun a U g mk q => by obtain ⟨q0, q1, qP, qK, qD⟩ := q; exact ⟨q0, q1, qP, va_K.moved (u := U) (U := U.calling g mk a) (Vm.Alike.refl U.vm) qK, qD⟩, fun U hU hW => ⟨rfl, by rw [hU], by rw [hU]; exact hPc, va_K.moved hW.alike hKc, hDc.weaken (fun _ _ _ _ => trivial)⟩⟩ rfl rfl hl.1 rfl (lv_room (Nat.le_of_ble_eq_true rfl)) dX11_weather_31 ⟨(Nat.le_of_ble_eq_true rfl), (Nat.le_of_ble_eq_true rfl)⟩) hS (fun q _ h => hFc q h) hFc (fun r8 u t H1 locs ht hvm hw9 hB hz1 hk1 hS => ?_)
    have hP1 : va_P (dC, dI) vwCl [] H1 := nilP
    have hD1 : va_D (va_A [] H.size) [] := nilD
    have hK := hK
    obtain ⟨hP, hD⟩ := va_join (wr := [(a 0, .inr (14, [.ref (a 1), .ref (a 2), .ref (a 27), .ref (a 30), .ref (a 74), .ref (a 75), .null, .int 0, .int 0])), (a 2, .inr (6, [.ref (a 3), .ref (a 14), .ref (a 26), .int 0, .int 0])), (a 3, .inr (11, [.ref (a 4), .ref (a 5), .ref (a 6), .ref (a 7), .ref (a 8), .ref (a 11), .int 0])), (a 27, .inr (9, [.ref (a 28), .ref (a 29), .int 0, .int 0])), (a 8, .inr (12, [.ref (a 9), .ref (a 10), .int 0])), (a 9, .inl ((k 9), 60, .inl (fun _ => 0))), (a 10, .inl ((k 10), 60, .inl (fun _ => 0)))]) (w1 := []) hP hD [] [0, 1, 2, 3, 4, 5, 6] rfl rfl (by decide) (by decide) hk1 hFc hP1 hD1
    generalize H1 = H at hP hS ⊢
    have hP : va_P (dC, dI) vwCl [(a 0, .inr (14, [.ref (a 1), .ref (a 2), .ref (a 27), .ref (a 30), .ref (a 74), .ref (a 75), .null, .int 0, .int 0])), (a 2, .inr (6, [.ref (a 3), .ref (a 14), .ref (a 26), .int 0, .int 0])), (a 3, .inr (11, [.ref (a 4), .ref (a 5), .ref (a 6), .ref (a 7), .ref (a 8), .ref (a 11), .int 0])), (a 27, .inr (9, [.ref (a 28), .ref (a 29), .int 0, .int 0])), (a 8, .inr (12, [.ref (a 9), .ref (a 10), .int 0])), (a 9, .inl ((k 9), 60, .inl (fun _ => 0))), (a 10, .inl ((k 10), 60, .inl (fun _ => 0)))] H := hP
    have hD : va_D A [(a 0, .inr (14, [.ref (a 1), .ref (a 2), .ref (a 27), .ref (a 30), .ref (a 74), .ref (a 75), .null, .int 0, .int 0])), (a 2, .inr (6, [.ref (a 3), .ref (a 14), .ref (a 26), .int 0, .int 0])), (a 3, .inr (11, [.ref (a 4), .ref (a 5), .ref (a 6), .ref (a 7), .ref (a 8), .ref (a 11), .int 0])), (a 27, .inr (9, [.ref (a 28), .ref (a 29), .int 0, .int 0])), (a 8, .inr (12, [.ref (a 9), .ref (a 10), .int 0])), (a 9, .inl ((k 9), 60, .inl (fun _ => 0))), (a 10, .inl ((k 10), 60, .inl (fun _ => 0)))] := hD
    try dsimp only at hw9
    by_cases hc10 : (-1 : Int32) ≤ p1 ∧ p1 ≤ (9 : Int32)
    · rw [if_pos hc10] at hw9
      subst hw9
      refine lv_if_eq (tgt := 41) hx hb dX11_weather_34 (by decide) (fun c11 => absurd c11 (by decide)) (fun c11 => ?_)
      refine lv_iconst (v := 1) hx hb dX11_weather_37 (by decide) ?_
      refine lv_goto (tgt := 42) hx hb dX11_weather_38 (by decide) ?_
      have hPc := hP.sub (ws' := []) [] rfl
      have hDc := hD.sub (ws' := []) [] (by decide) rfl
      have hKc := hK.sub (tys' := []) [] rfl
      have hFc := va_free (wc := []) hD hS hA [] rfl
      refine va_callv (va_runS (As := [.int 1]) (rest := []) ⟨hx, hb, hml, hown, hts⟩ (c_needNumbers1 l dC dI H.size ) (va_cwS 1 hts (goodIn_app (goodIn_r _ [7, 8, 5] (by decide +kernel) (by decide +kernel)) (goodIn_ca (goodIn_r _ [6] (by decide +kernel) (by decide +kernel)) (bs_in _ _))) rfl rfl rfl (by decide +kernel) ⟨(Nat.le_of_ble_eq_true rfl), (Nat.le_of_ble_eq_true rfl)⟩) ⟨fun a U g mk q => by obtain ⟨q0, q1, qP, qK, qD⟩ := q; exact ⟨q0, q1, qP, va_K.moved (u := U) (U := U.calling g mk a) (Vm.Alike.refl U.vm) qK, qD⟩, fun U hU hW => ⟨rfl, by rw [hU], by rw [hU]; exact hPc, va_K.moved hW.alike hKc, hDc.weaken (fun _ _ _ _ => trivial)⟩⟩ rfl rfl hl.1 rfl (lv_room (Nat.le_of_ble_eq_true rfl)) dX11_weather_42 ⟨(Nat.le_of_ble_eq_true rfl), (Nat.le_of_ble_eq_true rfl)⟩) hS (fun q _ h => hFc q h) hFc (fun u t H1 locs ht hvm hw14 hB hz1 hk1 hS => ?_)
      have hP1 : va_P (dC, dI) vwCl [] H1 := nilP
      have hD1 : va_D (va_A [] H.size) [] := nilD
      have hK := hK
      obtain ⟨hP, hD⟩ := va_join (wr := [(a 0, .inr (14, [.ref (a 1), .ref (a 2), .ref (a 27), .ref (a 30), .ref (a 74), .ref (a 75), .null, .int 0, .int 0])), (a 2, .inr (6, [.ref (a 3), .ref (a 14), .ref (a 26), .int 0, .int 0])), (a 3, .inr (11, [.ref (a 4), .ref (a 5), .ref (a 6), .ref (a 7), .ref (a 8), .ref (a 11), .int 0])), (a 27, .inr (9, [.ref (a 28), .ref (a 29), .int 0, .int 0])), (a 8, .inr (12, [.ref (a 9), .ref (a 10), .int 0])), (a 9, .inl ((k 9), 60, .inl (fun _ => 0))), (a 10, .inl ((k 10), 60, .inl (fun _ => 0)))]) (w1 := []) hP hD [] [0, 1, 2, 3, 4, 5, 6] rfl rfl (by decide) (by decide) hk1 hFc hP1 hD1
      generalize H1 = H at hP hS ⊢
      have hP : va_P (dC, dI) vwCl [(a 0, .inr (14, [.ref (a 1), .ref (a 2), .ref (a 27), .ref (a 30), .ref (a 74), .ref (a 75), .null, .int 0, .int 0])), (a 2, .inr (6, [.ref (a 3), .ref (a 14), .ref (a 26), .int 0, .int 0])), (a 3, .inr (11, [.ref (a 4), .ref (a 5), .ref (a 6), .ref (a 7), .ref (a 8), .ref (a 11), .int 0])), (a 27, .inr (9, [.ref (a 28), .ref (a 29), .int 0, .int 0])), (a 8, .inr (12, [.ref (a 9), .ref (a 10), .int 0])), (a 9, .inl ((k 9), 60, .inl (fun _ => 0))), (a 10, .inl ((k 10), 60, .inl (fun _ => 0)))] H := hP
      have hD : va_D A [(a 0, .inr (14, [.ref (a 1), .ref (a 2), .ref (a 27), .ref (a 30), .ref (a 74), .ref (a 75), .null, .int 0, .int 0])), (a 2, .inr (6, [.ref (a 3), .ref (a 14), .ref (a 26), .int 0, .int 0])), (a 3, .inr (11, [.ref (a 4), .ref (a 5), .ref (a 6), .ref (a 7), .ref (a 8), .ref (a 11), .int 0])), (a 27, .inr (9, [.ref (a 28), .ref (a 29), .int 0, .int 0])), (a 8, .inr (12, [.ref (a 9), .ref (a 10), .int 0])), (a 9, .inl ((k 9), 60, .inl (fun _ => 0))), (a 10, .inl ((k 10), 60, .inl (fun _ => 0)))] := hD
      try dsimp only at hw14
      refine lv_iload_n hx hb dX11_weather_45 rfl (lv_at hl 1 rfl) ?_
      refine lv_if_eq (tgt := 62) hx hb dX11_weather_46 (by decide) (fun c15 => ?_) (fun c15 => absurd c15 (by decide))
      refine lv_aload_n hx hb dX11_weather_62 rfl (lv_at hl 0 rfl) ?_
      refine va_get (D := (dC, dI)) (ci := 14) (v := .ref (a 2)) (C := RX11) (T := TX11) (N := 9) hx hb hts bF_X11 hown hK hP 0 rfl rfl 1 (by decide) (ht_at hts 8 rfl) (fun _ h9 => h9) rfl dX11_weather_63 ?_
      refine va_getN (D := (dC, dI)) (ci := 6) (v := .ref (a 3)) (C := RX3) (T := TX3) (N := 5) hx hb hts bF_X3 hown hK hP 1 rfl rfl 0 (by decide) (hE.nw 3 rfl) (fun _ h9 => h9) rfl dX11_weather_66 ?_
      refine va_getN (D := (dC, dI)) (ci := 11) (v := .ref (a 8)) (C := RX8) (T := TX8) (N := 7) hx hb hts bF_X8 hown hK hP 2 rfl rfl 4 (by decide) (hE.nw 7 rfl) (fun _ h9 => h9) rfl dX11_weather_69 ?_
      refine lv_astore (lv' := [(4, .ref (a 8)), (0, .ref (a 0)), (1, .int 0), (2, .int p0), (3, .int p1)]) hx hb dX11_weather_72 hl (by decide) rfl (fun ls hl => ?_)
      refine lv_aload hx hb dX11_weather_74 (lv_at hl 0 rfl) ?_
      refine va_getN (D := (dC, dI)) (ci := 12) (v := .int 0) (C := RX9) (T := TX9) (N := 3) hx hb hts bF_X9 hown hK hP 4 rfl rfl 2 (by decide) (hE.nw 8 rfl) (fun _ h9 => h9) rfl dX11_weather_76 ?_
      refine lv_bipush (v := 60) hx hb dX11_weather_79 (by decide) ?_
      refine lv_icmp_ne (tgt := 86) hx hb dX11_weather_81 (by decide) (fun c16 => ?_) (fun c16 => absurd c16 (by decide))
      refine lv_aload_n hx hb dX11_weather_86 rfl (lv_at hl 1 rfl) ?_
      refine va_get (D := (dC, dI)) (ci := 14) (v := .ref (a 27)) (C := RX11) (T := TX11) (N := 9) hx hb hts bF_X11 hown hK hP 0 rfl rfl 2 (by decide) (ht_at hts 9 rfl) (fun _ h9 => h9) rfl dX11_weather_87 ?_
      have hPc := hP.sub (ws' := [(a 27, .inr (9, [.ref (a 28), .ref (a 29), .int 0, .int 0]))]) [3] rfl
      have hDc := hD.sub (ws' := [(a 27, .inr (9, [.ref (a 28), .ref (a 29), .int 0, .int 0]))]) [3] (by decide) rfl
      have hKc := hK.sub (tys' := []) [] rfl
      have hFc := va_free (wc := [(a 27, .inr (9, [.ref (a 28), .ref (a 29), .int 0, .int 0]))]) hD hS hA [3] rfl
      refine va_callv (va_runV (As := []) (rest := []) ⟨hx, hb, hml, hown, hts⟩ (x_forget l dC dI a k H.size ) (cwV 0 hts (goodIn_app (goodIn_r _ [14, 15, 16, 17] (by decide +kernel) (by decide +kernel)) (goodIn_ca (goodIn_r _ [11, 12, 13] (by decide +kernel) (by decide +kernel)) (bs_in _ _))) rfl rfl rfl (by decide +kernel) ⟨(Nat.le_of_ble_eq_true rfl), (Nat.le_of_ble_eq_true rfl)⟩) ⟨fun a U g mk q => by obtain ⟨q0, q1, qP, qK, qD, qE⟩ := q; exact ⟨q0, q1, qP, va_K.moved (u := U) (U := U.calling g mk a) (Vm.Alike.refl U.vm) qK, qD, EV.blind g mk a qE⟩, va_recv hKc hPc (ci := 9) (q0 := 0) rfl rfl, fun U hU hW => ⟨rfl, by rw [hU], by rw [hU]; exact hPc, va_K.moved hW.alike hKc, hDc.weaken (fun _ _ _ _ => trivial), hE.call hS hFc hU hW⟩⟩ rfl rfl hl.1 rfl (lv_room (Nat.le_of_ble_eq_true rfl)) dX11_weather_90 ⟨(Nat.le_of_ble_eq_true rfl), (Nat.le_of_ble_eq_true rfl)⟩) hS (fun q _ h => hFc q h) hFc (fun u t H1 locs ht hvm hw19 hB hz1 hk1 hS => ?_)
      obtain ⟨hP1, hD1⟩ := hB
      rw [ht] at hP1
      obtain ⟨hP, hD⟩ := va_join (wr := [(a 0, .inr (14, [.ref (a 1), .ref (a 2), .ref (a 27), .ref (a 30), .ref (a 74), .ref (a 75), .null, .int 0, .int 0])), (a 2, .inr (6, [.ref (a 3), .ref (a 14), .ref (a 26), .int 0, .int 0])), (a 3, .inr (11, [.ref (a 4), .ref (a 5), .ref (a 6), .ref (a 7), .ref (a 8), .ref (a 11), .int 0])), (a 8, .inr (12, [.ref (a 9), .ref (a 10), .int 0])), (a 9, .inl ((k 9), 60, .inl (fun _ => 0))), (a 10, .inl ((k 10), 60, .inl (fun _ => 0)))]) (w1 := [(a 27, .inr (9, [.ref (a 28), .ref (a 29), .int 0, .int 0]))]) hP hD [3] [0, 1, 2, 4, 5, 6] rfl rfl (by decide) (by decide) hk1 hFc hP1 hD1
      generalize H1 = H at hP hS ⊢
      have hP : va_P (dC, dI) vwCl [(a 0, .inr (14, [.ref (a 1), .ref (a 2), .ref (a 27), .ref (a 30), .ref (a 74), .ref (a 75), .null, .int 0, .int 0])), (a 2, .inr (6, [.ref (a 3), .ref (a 14), .ref (a 26), .int 0, .int 0])), (a 3, .inr (11, [.ref (a 4), .ref (a 5), .ref (a 6), .ref (a 7), .ref (a 8), .ref (a 11), .int 0])), (a 8, .inr (12, [.ref (a 9), .ref (a 10), .int 0])), (a 9, .inl ((k 9), 60, .inl (fun _ => 0))), (a 10, .inl ((k 10), 60, .inl (fun _ => 0))), (a 27, .inr (9, [.ref (a 28), .ref (a 29), .int 0, .int 0]))] H := hP
      have hD : va_D A [(a 0, .inr (14, [.ref (a 1), .ref (a 2), .ref (a 27), .ref (a 30), .ref (a 74), .ref (a 75), .null, .int 0, .int 0])), (a 2, .inr (6, [.ref (a 3), .ref (a 14), .ref (a 26), .int 0, .int 0])), (a 3, .inr (11, [.ref (a 4), .ref (a 5), .ref (a 6), .ref (a 7), .ref (a 8), .ref (a 11), .int 0])), (a 8, .inr (12, [.ref (a 9), .ref (a 10), .int 0])), (a 9, .inl ((k 9), 60, .inl (fun _ => 0))), (a 10, .inl ((k 10), 60, .inl (fun _ => 0))), (a 27, .inr (9, [.ref (a 28), .ref (a 29), .int 0, .int 0]))] := hD
      try dsimp only at hw19
      refine lv_aload hx hb dX11_weather_93 (lv_at hl 0 rfl) ?_
      refine lv_iload_n hx hb dX11_weather_95 rfl (lv_at hl 3 rfl) ?_
      refine lv_iload_n hx hb dX11_weather_96 rfl (lv_at hl 4 rfl) ?_
      have hPc := hP.sub (ws' := [(a 8, .inr (12, [.ref (a 9), .ref (a 10), .int 0])), (a 9, .inl ((k 9), 60, .inl (fun _ => 0))), (a 10, .inl ((k 10), 60, .inl (fun _ => 0)))]) [3, 4, 5] rfl
      have hDc := hD.sub (ws' := [(a 8, .inr (12, [.ref (a 9), .ref (a 10), .int 0])), (a 9, .inl ((k 9), 60, .inl (fun _ => 0))), (a 10, .inl ((k 10), 60, .inl (fun _ => 0)))]) [3, 4, 5] (by decide) rfl
      have hKc := hK.sub (tys' := [((k 9), .int), ((k 10), .int)]) [0, 1] rfl
      have hFc := va_free (wc := [(a 8, .inr (12, [.ref (a 9), .ref (a 10), .int 0])), (a 9, .inl ((k 9), 60, .inl (fun _ => 0))), (a 10, .inl ((k 10), 60, .inl (fun _ => 0)))]) hD hS hA [3, 4, 5] rfl
      refine va_calli (va_runV (As := [.int p0, .int p1]) (rest := []) ⟨hx, hb, hml, hown, hts⟩ (x_tellW l dC dI a k p0 p1 H.size ) (cwV 2 hts (goodIn_app (goodIn_r _ [22, 23, 24, 25] (by decide +kernel) (by decide +kernel)) (goodIn_ca (goodIn_r _ [18, 19, 20, 21] (by decide +kernel) (by decide +kernel)) (bs_in _ _))) rfl rfl rfl (by decide +kernel) ⟨(Nat.le_of_ble_eq_true rfl), (Nat.le_of_ble_eq_true rfl)⟩) ⟨fun a U g mk q => by obtain ⟨q0, q1, qP, qK, qD, qE⟩ := q; exact ⟨q0, q1, qP, va_K.moved (u := U) (U := U.calling g mk a) (Vm.Alike.refl U.vm) qK, qD, EV.blind g mk a qE⟩, va_recv hKc hPc (ci := 12) (q0 := 0) rfl rfl, fun U hU hW => ⟨rfl, by rw [hU], by rw [hU]; exact hPc, va_K.moved hW.alike hKc, hDc.weaken (fun _ _ _ _ => trivial), hE.call hS hFc hU hW⟩⟩ rfl rfl hl.1 rfl (lv_room (Nat.le_of_ble_eq_true rfl)) dX11_weather_97 ⟨(Nat.le_of_ble_eq_true rfl), (Nat.le_of_ble_eq_true rfl)⟩) hS (fun q _ h => hFc q h) hFc (fun r21 u t H1 locs ht hvm hw22 hB hz1 hk1 hS => ?_)
      have hP1 : va_P (dC, dI) vwCl [] H1 := nilP
      have hD1 : va_D (va_A [(a 8, .inr (12, [.ref (a 9), .ref (a 10), .int 0])), (a 9, .inl ((k 9), 60, .inl (fun _ => 0))), (a 10, .inl ((k 10), 60, .inl (fun _ => 0)))] H.size) [] := nilD
      have hK := hK
      obtain ⟨hP, hD⟩ := va_join (wr := [(a 0, .inr (14, [.ref (a 1), .ref (a 2), .ref (a 27), .ref (a 30), .ref (a 74), .ref (a 75), .null, .int 0, .int 0])), (a 2, .inr (6, [.ref (a 3), .ref (a 14), .ref (a 26), .int 0, .int 0])), (a 3, .inr (11, [.ref (a 4), .ref (a 5), .ref (a 6), .ref (a 7), .ref (a 8), .ref (a 11), .int 0])), (a 27, .inr (9, [.ref (a 28), .ref (a 29), .int 0, .int 0]))]) (w1 := []) hP hD [3, 4, 5] [0, 1, 2, 6] rfl rfl (by decide) (by decide) hk1 hFc hP1 hD1
      generalize H1 = H at hP hS ⊢
      have hP : va_P (dC, dI) vwCl [(a 0, .inr (14, [.ref (a 1), .ref (a 2), .ref (a 27), .ref (a 30), .ref (a 74), .ref (a 75), .null, .int 0, .int 0])), (a 2, .inr (6, [.ref (a 3), .ref (a 14), .ref (a 26), .int 0, .int 0])), (a 3, .inr (11, [.ref (a 4), .ref (a 5), .ref (a 6), .ref (a 7), .ref (a 8), .ref (a 11), .int 0])), (a 27, .inr (9, [.ref (a 28), .ref (a 29), .int 0, .int 0]))] H := hP
      have hD : va_D A [(a 0, .inr (14, [.ref (a 1), .ref (a 2), .ref (a 27), .ref (a 30), .ref (a 74), .ref (a 75), .null, .int 0, .int 0])), (a 2, .inr (6, [.ref (a 3), .ref (a 14), .ref (a 26), .int 0, .int 0])), (a 3, .inr (11, [.ref (a 4), .ref (a 5), .ref (a 6), .ref (a 7), .ref (a 8), .ref (a 11), .int 0])), (a 27, .inr (9, [.ref (a 28), .ref (a 29), .int 0, .int 0]))] := hD
      try dsimp only at hw22
      obtain rfl : 1 = r21 := (hw22).symm
      refine W.widen (k := 1) (n := 6) (by decide) (by decide) ?_
      exact vx_ret (W.iret (v := 1) hx hb hr (fun t ht hW => ⟨⟨1, (), rfl, (by unfold T_weather0; rw [if_pos hc4, if_pos hc10]; exact ⟨rfl, rfl⟩), trivial⟩, hS.F ht⟩) hS.2.2 dX11_weather_100)
    · rw [if_neg hc10] at hw9
      subst hw9
      refine lv_if_eq (tgt := 41) hx hb dX11_weather_34 (by decide) (fun c23 => ?_) (fun c23 => absurd c23 (by decide))
      refine lv_iconst (v := 0) hx hb dX11_weather_41 (by decide) ?_
      have hPc := hP.sub (ws' := []) [] rfl
      have hDc := hD.sub (ws' := []) [] (by decide) rfl
      have hKc := hK.sub (tys' := []) [] rfl
      have hFc := va_free (wc := []) hD hS hA [] rfl
      refine vx_callN (vx_runS (As := [.int 0]) (rest := []) ⟨hx, hb, hml, hown, hts⟩ (c_needNumbers0 l hlt dC dI H.size ) (va_cwS 1 hts (goodIn_app (goodIn_r _ [7, 8, 5] (by decide +kernel) (by decide +kernel)) (goodIn_ca (goodIn_r _ [6, 26, 27] (by decide +kernel) (by decide +kernel)) (bs_in _ _))) rfl rfl rfl (by decide +kernel) ⟨(Nat.le_of_ble_eq_true rfl), (Nat.le_of_ble_eq_true rfl)⟩) ⟨fun a U g mk q => by obtain ⟨q0, q1, qP, qK, qD, qE⟩ := q; exact ⟨q0, q1, qP, va_K.moved (u := U) (U := U.calling g mk a) (Vm.Alike.refl U.vm) qK, qD, EV.blind g mk a qE⟩, fun U hU hW => ⟨rfl, by rw [hU], by rw [hU]; exact hPc, va_K.moved hW.alike hKc, hDc.weaken (fun _ _ _ _ => trivial), hE.call hS hFc hU hW⟩⟩ rfl rfl hl.1 rfl (lv_room (Nat.le_of_ble_eq_true rfl)) dX11_weather_42 ⟨(Nat.le_of_ble_eq_true rfl), (Nat.le_of_ble_eq_true rfl)⟩) hS hFc (fun q _ h => hFc q h) (fun E ce q9 u t H1 locs ht hvm _ hw26 hz1 hk1 hS hce hcv hcl => ?_)
      exact vx_out (fun x h => (hnt x h).elim) hlocks hce hcv hcl (fun t2 h2 hW => ⟨(), trivial, (by exact ⟨hw26, by unfold T_weather0; rw [if_pos hc4, if_neg hc10]⟩), hS.F h2⟩) hS.2.2 (by decide) (by decide)
  · rw [if_neg hc4] at hw3
    subst hw3
    refine lv_if_eq (tgt := 41) hx hb dX11_weather_7 (by decide) (fun c27 => ?_) (fun c27 => absurd c27 (by decide))
    refine lv_iconst (v := 0) hx hb dX11_weather_41 (by decide) ?_
    have hPc := hP.sub (ws' := []) [] rfl
    have hDc := hD.sub (ws' := []) [] (by decide) rfl
    have hKc := hK.sub (tys' := []) [] rfl
    have hFc := va_free (wc := []) hD hS hA [] rfl
    refine vx_callN (vx_runS (As := [.int 0]) (rest := []) ⟨hx, hb, hml, hown, hts⟩ (c_needNumbers0 l hlt dC dI H.size ) (va_cwS 1 hts (goodIn_app (goodIn_r _ [7, 8, 5] (by decide +kernel) (by decide +kernel)) (goodIn_ca (goodIn_r _ [6, 26, 27] (by decide +kernel) (by decide +kernel)) (bs_in _ _))) rfl rfl rfl (by decide +kernel) ⟨(Nat.le_of_ble_eq_true rfl), (Nat.le_of_ble_eq_true rfl)⟩) ⟨fun a U g mk q => by obtain ⟨q0, q1, qP, qK, qD, qE⟩ := q; exact ⟨q0, q1, qP, va_K.moved (u := U) (U := U.calling g mk a) (Vm.Alike.refl U.vm) qK, qD, EV.blind g mk a qE⟩, fun U hU hW => ⟨rfl, by rw [hU], by rw [hU]; exact hPc, va_K.moved hW.alike hKc, hDc.weaken (fun _ _ _ _ => trivial), hE.call hS hFc hU hW⟩⟩ rfl rfl hl.1 rfl (lv_room (Nat.le_of_ble_eq_true rfl)) dX11_weather_42 ⟨(Nat.le_of_ble_eq_true rfl), (Nat.le_of_ble_eq_true rfl)⟩) hS hFc (fun q _ h => hFc q h) (fun E ce q9 u t H1 locs ht hvm _ hw30 hz1 hk1 hS hce hcv hcl => ?_)
    exact vx_out (fun x h => (hnt x h).elim) hlocks hce hcv hcl (fun t2 h2 hW => ⟨(), trivial, (by exact ⟨hw30, by unfold T_weather0; rw [if_neg hc4]⟩), hS.F h2⟩) hS.2.2 (by decide) (by decide)
def w_x_weather1 : List Cond := .code yX11_weather cX11_weather 5 (some .int) :: ([.constant RX11 110 40000, .code yX11_within cX11_within 3 (some .boolean), .methodLink RX11 58 yX11_within, .static yX11_within, .initialized RX11, .code yX11_needNumbers cX11_needNumbers 1 none, .methodLink RX11 62 yX11_needNumbers, .static yX11_needNumbers, .fieldLink RX11 16 "SeaLand" "lake" "LSeaLand$Lake;", .fieldLink RX11 23 "SeaLand" "rows" "LSeaLand$Rows;", .code yX6_forget cX6_forget 1 none, .fieldLink RX6 18 "SeaLand$Rows" "kept" "I", .fieldLink RX6 22 "SeaLand$Rows" "oldest" "I", .methodLink RX11 76 yX6_forget, .instanceMethod yX6_forget, .selects RX6 yX6_forget yX6_forget, .initialized RX6, .code yX9_tell cX9_tell 4 (some .int), .fieldLink RX9 18 "SeaLand$Tellings" "told" "I", .fieldLink RX9 9 "SeaLand$Tellings" "hours" "[I", .fieldLink RX9 15 "SeaLand$Tellings" "numbers" "[I", .methodLink RX11 130 yX9_tell, .instanceMethod yX9_tell, .selects RX9 yX9_tell yX9_tell, .initialized RX9, .classLink RX11 547 "java/lang/IllegalArgumentException", .initialized "java/lang/IllegalArgumentException"] ++ bs)
set_option maxHeartbeats 4000000 in
set_option maxRecDepth 100000 in
theorem x_weather1 (l : Launch) (hlt : l.stackTraces = false) (dC : Nat → ClassId) (dI : Nat → Nat → Nat) (a : Nat → Nat) (k : Nat → ClassId) (p0 p1 : Int32) (sz : Nat) : vx_Met l yX11_weather w_x_weather1 ({ frames := 7, cells := 1, slots := 6, locals := 120 }) (va_Pc [.ref (a 0), .int 1, .int p0, .int p1] (fun U => U.heap.size = sz ∧ va_P (dC, dI) vwCl [(a 0, .inr (14, [.ref (a 1), .ref (a 2), .ref (a 27), .ref (a 30), .ref (a 74), .ref (a 75), .null, .int 0, .int 0])), (a 2, .inr (6, [.ref (a 3), .ref (a 14), .ref (a 26), .int 0, .int 0])), (a 3, .inr (11, [.ref (a 4), .ref (a 5), .ref (a 6), .ref (a 7), .ref (a 8), .ref (a 11), .int 0])), (a 27, .inr (9, [.ref (a 28), .ref (a 29), .int 0, .int 0])), (a 11, .inr (12, [.ref (a 12), .ref (a 13), .int 0])), (a 12, .inl ((k 12), 60, .inl (fun _ => 0))), (a 13, .inl ((k 13), 60, .inl (fun _ => 0)))] U.heap ∧ va_K (dC, dI) vwCl [((k 12), .int), ((k 13), .int)] U ∧ va_D (fun _ => True) [(a 0, .inr (14, [.ref (a 1), .ref (a 2), .ref (a 27), .ref (a 30), .ref (a 74), .ref (a 75), .null, .int 0, .int 0])), (a 2, .inr (6, [.ref (a 3), .ref (a 14), .ref (a 26), .int 0, .int 0])), (a 3, .inr (11, [.ref (a 4), .ref (a 5), .ref (a 6), .ref (a 7), .ref (a 8), .ref (a 11), .int 0])), (a 27, .inr (9, [.ref (a 28), .ref (a 29), .int 0, .int 0])), (a 11, .inr (12, [.ref (a 12), .ref (a 13), .int 0])), (a 12, .inl ((k 12), 60, .inl (fun _ => 0))), (a 13, .inl ((k 13), 60, .inl (fun _ => 0)))] ∧ EV (va_A [(a 0, .inr (14, [.ref (a 1), .ref (a 2), .ref (a 27), .ref (a 30), .ref (a 74), .ref (a 75), .null, .int 0, .int 0])), (a 2, .inr (6, [.ref (a 3), .ref (a 14), .ref (a 26), .int 0, .int 0])), (a 3, .inr (11, [.ref (a 4), .ref (a 5), .ref (a 6), .ref (a 7), .ref (a 8), .ref (a 11), .int 0])), (a 27, .inr (9, [.ref (a 28), .ref (a 29), .int 0, .int 0])), (a 11, .inr (12, [.ref (a 12), .ref (a 13), .int 0])), (a 12, .inl ((k 12), 60, .inl (fun _ => 0))), (a 13, .inl ((k 13), 60, .inl (fun _ => 0)))] sz) U U.heap)) (va_Qi (fun (r : Int32) (u : Unit) => r = (T_weather1 p0 p1).2 ∧ (T_weather1 p0 p1).1 = 0) (fun (_ : Unit) (_ : State) => True) (va_A [(a 0, .inr (14, [.ref (a 1), .ref (a 2), .ref (a 27), .ref (a 30), .ref (a 74), .ref (a 75), .null, .int 0, .int 0])), (a 2, .inr (6, [.ref (a 3), .ref (a 14), .ref (a 26), .int 0, .int 0])), (a 3, .inr (11, [.ref (a 4), .ref (a 5), .ref (a 6), .ref (a 7), .ref (a 8), .ref (a 11), .int 0])), (a 27, .inr (9, [.ref (a 28), .ref (a 29), .int 0, .int 0])), (a 11, .inr (12, [.ref (a 12), .ref (a 13), .int 0])), (a 12, .inl ((k 12), 60, .inl (fun _ => 0))), (a 13, .inl ((k 13), 60, .inl (fun _ => 0)))] sz)) (vx_X (fun _ : Unit => True) (fun E _ _ => (E = "java/lang/IllegalArgumentException" ∧ (T_weather1 p0 p1).1 = 1)) (va_A [(a 0, .inr (14, [.ref (a 1), .ref (a 2), .ref (a 27), .ref (a 30), .ref (a 74), .ref (a 75), .null, .int 0, .int 0])), (a 2, .inr (6, [.ref (a 3), .ref (a 14), .ref (a 26), .int 0, .int 0])), (a 3, .inr (11, [.ref (a 4), .ref (a 5), .ref (a 6), .ref (a 7), .ref (a 8), .ref (a 11), .int 0])), (a 27, .inr (9, [.ref (a 28), .ref (a 29), .int 0, .int 0])), (a 11, .inr (12, [.ref (a 12), .ref (a 13), .int 0])), (a 12, .inl ((k 12), 60, .inl (fun _ => 0))), (a 13, .inl ((k 13), 60, .inl (fun _ => 0)))] sz)) 1 6 (va_A [(a 0, .inr (14, [.ref (a 1), .ref (a 2), .ref (a 27), .ref (a 30), .ref (a 74), .ref (a 75), .null, .int 0, .int 0])), (a 2, .inr (6, [.ref (a 3), .ref (a 14), .ref (a 26), .int 0, .int 0])), (a 3, .inr (11, [.ref (a 4), .ref (a 5), .ref (a 6), .ref (a 7), .ref (a 8), .ref (a 11), .int 0])), (a 27, .inr (9, [.ref (a 28), .ref (a 29), .int 0, .int 0])), (a 11, .inr (12, [.ref (a 12), .ref (a 13), .int 0])), (a 12, .inl ((k 12), 60, .inl (fun _ => 0))), (a 13, .inl ((k 13), 60, .inl (fun _ => 0)))] sz) := by
  refine vx_ofW (cc := cX11_weather) (maxL := 5) (ret := (some .int)) (by decide) rfl ?_
  intro p e s m args below meth c s₁ B hml hnt hv
  obtain ⟨rfl, hsz, hP, hK, hD0, hE⟩ := hv
  have hx := B.exec
  have hb := B.bytes
  have hr := B.returns
  have hts := atoms_spec (ws := w_x_weather1) B.pre
  have hown : s.vm.findClass RX11 = some m.cls := findClass_of_methodNamed B.named
  have hlocks := B.notSynchronized
  subst hsz
  have hD := hD0.self (sz := s.heap.size)
  generalize hAe : va_A [(a 0, .inr (14, [.ref (a 1), .ref (a 2), .ref (a 27), .ref (a 30), .ref (a 74), .ref (a 75), .null, .int 0, .int 0])), (a 2, .inr (6, [.ref (a 3), .ref (a 14), .ref (a 26), .int 0, .int 0])), (a 3, .inr (11, [.ref (a 4), .ref (a 5), .ref (a 6), .ref (a 7), .ref (a 8), .ref (a 11), .int 0])), (a 27, .inr (9, [.ref (a 28), .ref (a 29), .int 0, .int 0])), (a 11, .inr (12, [.ref (a 12), .ref (a 13), .int 0])), (a 12, .inl ((k 12), 60, .inl (fun _ => 0))), (a 13, .inl ((k 13), 60, .inl (fun _ => 0)))] s.heap.size = A at hD hE ⊢
  have hA : ∀ q : Nat, s.heap.size ≤ q → A q := fun q h => by rw [← hAe]; exact Or.inr h
  have hS : va_S A s.heap s.heap [] := va_S.rf
  have hP : va_P (dC, dI) vwCl [(a 0, .inr (14, [.ref (a 1), .ref (a 2), .ref (a 27), .ref (a 30), .ref (a 74), .ref (a 75), .null, .int 0, .int 0])), (a 2, .inr (6, [.ref (a 3), .ref (a 14), .ref (a 26), .int 0, .int 0])), (a 3, .inr (11, [.ref (a 4), .ref (a 5), .ref (a 6), .ref (a 7), .ref (a 8), .ref (a 11), .int 0])), (a 27, .inr (9, [.ref (a 28), .ref (a 29), .int 0, .int 0])), (a 11, .inr (12, [.ref (a 12), .ref (a 13), .int 0])), (a 12, .inl ((k 12), 60, .inl (fun _ => 0))), (a 13, .inl ((k 13), 60, .inl (fun _ => 0)))] s.heap := hP
  have hl := lv_entry ([.ref (a 0), .int 1, .int p0, .int p1]) (n := 5) (Nat.le_of_ble_eq_true rfl)
  rw [lg_entry_eq]
  generalize (lg_sl ([.ref (a 0), .int 1, .int p0, .int p1]) ++ List.replicate (5 - (lg_sl ([.ref (a 0), .int 1, .int p0, .int p1])).length) Slot.unset).toArray = ls at hl ⊢
  have hl : lv_has ls 5 [(0, .ref (a 0)), (1, .int 1), (2, .int p0), (3, .int p1)] := hl
  refine lv_iload_n hx hb dX11_weather_0 rfl (lv_at hl 2 rfl) ?_
  refine lv_iconst (v := 0) hx hb dX11_weather_1 (by decide) ?_
  refine lv_ldc (v := 40000) hx hb hown (ht_at hts 0 rfl) dX11_weather_2 ?_
  have hPc := hP.sub (ws' := []) [] rfl
  have hDc := hD.sub (ws' := []) [] (by decide) rfl
  have hKc := hK.sub (tys' := []) [] rfl
  have hFc := va_free (wc := []) hD hS hA [] rfl
  refine va_calli (va_runS (As := [.int p0, .int 0, .int 40000]) (rest := []) ⟨hx, hb, hml, hown, hts⟩ (c_within l dC dI p0 0 40000 s.heap.size ) (va_cwS 3 hts (goodIn_app (goodIn_r _ [3, 4, 5] (by decide +kernel) (by decide +kernel)) (goodIn_ca (goodIn_r _ [2] (by decide +kernel) (by decide +kernel)) (bs_in _ _))) rfl rfl rfl (by decide +kernel) ⟨(Nat.le_of_ble_eq_true rfl), (Nat.le_of_ble_eq_true rfl)⟩) ⟨fun a U g mk q => by obtain ⟨q0, q1, qP, qK, qD⟩ := q; exact ⟨q0, q1, qP, va_K.moved (u := U) (U := U.calling g mk a) (Vm.Alike.refl U.vm) qK, qD⟩, fun U hU hW => ⟨rfl, by rw [hU], by rw [hU]; exact hPc, va_K.moved hW.alike hKc, hDc.weaken (fun _ _ _ _ => trivial)⟩⟩ rfl rfl hl.1 rfl (lv_room (Nat.le_of_ble_eq_true rfl)) dX11_weather_4 ⟨(Nat.le_of_ble_eq_true rfl), (Nat.le_of_ble_eq_true rfl)⟩) hS (fun q _ h => hFc q h) hFc (fun r2 u t H1 locs ht hvm hw3 hB hz1 hk1 hS => ?_)
  have hP1 : va_P (dC, dI) vwCl [] H1 := nilP
  have hD1 : va_D (va_A [] s.heap.size) [] := nilD
  have hK := hK
  obtain ⟨hP, hD⟩ := va_join (wr := [(a 0, .inr (14, [.ref (a 1), .ref (a 2), .ref (a 27), .ref (a 30), .ref (a 74), .ref (a 75), .null, .int 0, .int 0])), (a 2, .inr (6, [.ref (a 3), .ref (a 14), .ref (a 26), .int 0, .int 0])), (a 3, .inr (11, [.ref (a 4), .ref (a 5), .ref (a 6), .ref (a 7), .ref (a 8), .ref (a 11), .int 0])), (a 27, .inr (9, [.ref (a 28), .ref (a 29), .int 0, .int 0])), (a 11, .inr (12, [.ref (a 12), .ref (a 13), .int 0])), (a 12, .inl ((k 12), 60, .inl (fun _ => 0))), (a 13, .inl ((k 13), 60, .inl (fun _ => 0)))]) (w1 := []) hP hD [] [0, 1, 2, 3, 4, 5, 6] rfl rfl (by decide) (by decide) hk1 hFc hP1 hD1
  generalize H1 = H at hP hS ⊢
  have hP : va_P (dC, dI) vwCl [(a 0, .inr (14, [.ref (a 1), .ref (a 2), .ref (a 27), .ref (a 30), .ref (a 74), .ref (a 75), .null, .int 0, .int 0])), (a 2, .inr (6, [.ref (a 3), .ref (a 14), .ref (a 26), .int 0, .int 0])), (a 3, .inr (11, [.ref (a 4), .ref (a 5), .ref (a 6), .ref (a 7), .ref (a 8), .ref (a 11), .int 0])), (a 27, .inr (9, [.ref (a 28), .ref (a 29), .int 0, .int 0])), (a 11, .inr (12, [.ref (a 12), .ref (a 13), .int 0])), (a 12, .inl ((k 12), 60, .inl (fun _ => 0))), (a 13, .inl ((k 13), 60, .inl (fun _ => 0)))] H := hP
  have hD : va_D A [(a 0, .inr (14, [.ref (a 1), .ref (a 2), .ref (a 27), .ref (a 30), .ref (a 74), .ref (a 75), .null, .int 0, .int 0])), (a 2, .inr (6, [.ref (a 3), .ref (a 14), .ref (a 26), .int 0, .int 0])), (a 3, .inr (11, [.ref (a 4), .ref (a 5), .ref (a 6), .ref (a 7), .ref (a 8), .ref (a 11), .int 0])), (a 27, .inr (9, [.ref (a 28), .ref (a 29), .int 0, .int 0])), (a 11, .inr (12, [.ref (a 12), .ref (a 13), .int 0])), (a 12, .inl ((k 12), 60, .inl (fun _ => 0))), (a 13, .inl ((k 13), 60, .inl (fun _ => 0)))] := hD
  try dsimp only at hw3
  by_cases hc4 : (0 : Int32) ≤ p0 ∧ p0 ≤ (40000 : Int32)
  · rw [if_pos hc4] at hw3
    subst hw3
    refine lv_if_eq (tgt := 41) hx hb dX11_weather_7 (by decide) (fun c5 => absurd c5 (by decide)) (fun c5 => ?_)
    refine lv_iload_n hx hb dX11_weather_10 rfl (lv_at hl 1 rfl) ?_
    refine lv_if_eq (tgt := 27) hx hb dX11_weather_11 (by decide) (fun c6 => absurd c6 (by decide)) (fun c6 => ?_)
    refine lv_iload_n hx hb dX11_weather_14 rfl (lv_at hl 3 rfl) ?_
    refine lv_iconst (v := 0) hx hb dX11_weather_15 (by decide) ?_
    refine lv_bipush (v := 20) hx hb dX11_weather_16 (by decide) ?_
    have hPc := hP.sub (ws' := []) [] rfl
    have hDc := hD.sub (ws' := []) [] (by decide) rfl
    have hKc := hK.sub (tys' := []) [] rfl
    have hFc := va_free (wc := []) hD hS hA [] rfl
    refine va_calli (va_runS (As := [.int p1, .int 0, .int 20]) (rest := []) ⟨hx, hb, hml, hown, hts⟩ (c_within l dC dI p1 0 20 H.size ) (va_cwS 3 hts (goodIn_app (goodIn_r _ [3, 4, 5] (by decide +kernel) (by decide +kernel)) (goodIn_ca (goodIn_r _ [2] (by decide +kernel) (by decide +kernel)) (bs_in _ _))) rfl rfl rfl (by decide +kernel) ⟨(Nat.le_of_ble_eq_true rfl), (Nat.le_of_ble_eq_true rfl)⟩) ⟨fun a U g mk q => by obtain ⟨q0, q1, qP, qK, qD⟩ := q; exact ⟨q0, q1, qP, va_K.moved (u := U) (U := U.calling g mk a) (Vm.Alike.refl U.vm) qK, qD⟩, fun U hU hW => ⟨rfl, by rw [hU], by rw [hU]; exact hPc, va_K.moved hW.alike hKc, hDc.weaken (fun _ _ _ _ => trivial)⟩⟩ rfl rfl hl.1 rfl (lv_room (Nat.le_of_ble_eq_true rfl)) dX11_weather_18 ⟨(Nat.le_of_ble_eq_true rfl), (Nat.le_of_ble_eq_true rfl)⟩) hS (fun q _ h => hFc q h) hFc (fun r8 u t H1 locs ht hvm hw9 hB hz1 hk1 hS => ?_)
    have hP1 : va_P (dC, dI) vwCl [] H1 := nilP
    have hD1 : va_D (va_A [] H.size) [] := nilD
    have hK := hK
    obtain ⟨hP, hD⟩ := va_join (wr := [(a 0, .inr (14, [.ref (a 1), .ref (a 2), .ref (a 27), .ref (a 30), .ref (a 74), .ref (a 75), .null, .int 0, .int 0])), (a 2, .inr (6, [.ref (a 3), .ref (a 14), .ref (a 26), .int 0, .int 0])), (a 3, .inr (11, [.ref (a 4), .ref (a 5), .ref (a 6), .ref (a 7), .ref (a 8), .ref (a 11), .int 0])), (a 27, .inr (9, [.ref (a 28), .ref (a 29), .int 0, .int 0])), (a 11, .inr (12, [.ref (a 12), .ref (a 13), .int 0])), (a 12, .inl ((k 12), 60, .inl (fun _ => 0))), (a 13, .inl ((k 13), 60, .inl (fun _ => 0)))]) (w1 := []) hP hD [] [0, 1, 2, 3, 4, 5, 6] rfl rfl (by decide) (by decide) hk1 hFc hP1 hD1
    generalize H1 = H at hP hS ⊢
    have hP : va_P (dC, dI) vwCl [(a 0, .inr (14, [.ref (a 1), .ref (a 2), .ref (a 27), .ref (a 30), .ref (a 74), .ref (a 75), .null, .int 0, .int 0])), (a 2, .inr (6, [.ref (a 3), .ref (a 14), .ref (a 26), .int 0, .int 0])), (a 3, .inr (11, [.ref (a 4), .ref (a 5), .ref (a 6), .ref (a 7), .ref (a 8), .ref (a 11), .int 0])), (a 27, .inr (9, [.ref (a 28), .ref (a 29), .int 0, .int 0])), (a 11, .inr (12, [.ref (a 12), .ref (a 13), .int 0])), (a 12, .inl ((k 12), 60, .inl (fun _ => 0))), (a 13, .inl ((k 13), 60, .inl (fun _ => 0)))] H := hP
    have hD : va_D A [(a 0, .inr (14, [.ref (a 1), .ref (a 2), .ref (a 27), .ref (a 30), .ref (a 74), .ref (a 75), .null, .int 0, .int 0])), (a 2, .inr (6, [.ref (a 3), .ref (a 14), .ref (a 26), .int 0, .int 0])), (a 3, .inr (11, [.ref (a 4), .ref (a 5), .ref (a 6), .ref (a 7), .ref (a 8), .ref (a 11), .int 0])), (a 27, .inr (9, [.ref (a 28), .ref (a 29), .int 0, .int 0])), (a 11, .inr (12, [.ref (a 12), .ref (a 13), .int 0])), (a 12, .inl ((k 12), 60, .inl (fun _ => 0))), (a 13, .inl ((k 13), 60, .inl (fun _ => 0)))] := hD
    try dsimp only at hw9
    by_cases hc10 : (0 : Int32) ≤ p1 ∧ p1 ≤ (20 : Int32)
    · rw [if_pos hc10] at hw9
      subst hw9
      refine lv_if_eq (tgt := 41) hx hb dX11_weather_21 (by decide) (fun c11 => absurd c11 (by decide)) (fun c11 => ?_)
      refine lv_goto (tgt := 37) hx hb dX11_weather_24 (by decide) ?_
      refine lv_iconst (v := 1) hx hb dX11_weather_37 (by decide) ?_
      refine lv_goto (tgt := 42) hx hb dX11_weather_38 (by decide) ?_
      have hPc := hP.sub (ws' := []) [] rfl
      have hDc := hD.sub (ws' := []) [] (by decide) rfl
      have hKc := hK.sub (tys' := []) [] rfl
      have hFc := va_free (wc := []) hD hS hA [] rfl
      refine va_callv (va_runS (As := [.int 1]) (rest := []) ⟨hx, hb, hml, hown, hts⟩ (c_needNumbers1 l dC dI H.size ) (va_cwS 1 hts (goodIn_app (goodIn_r _ [7, 8, 5] (by decide +kernel) (by decide +kernel)) (goodIn_ca (goodIn_r _ [6] (by decide +kernel) (by decide +kernel)) (bs_in _ _))) rfl rfl rfl (by decide +kernel) ⟨(Nat.le_of_ble_eq_true rfl), (Nat.le_of_ble_eq_true rfl)⟩) ⟨fun a U g mk q => by obtain ⟨q0, q1, qP, qK, qD⟩ := q; exact ⟨q0, q1, qP, va_K.moved (u := U) (U := U.calling g mk a) (Vm.Alike.refl U.vm) qK, qD⟩, fun U hU hW => ⟨rfl, by rw [hU], by rw [hU]; exact hPc, va_K.moved hW.alike hKc, hDc.weaken (fun _ _ _ _ => trivial)⟩⟩ rfl rfl hl.1 rfl (lv_room (Nat.le_of_ble_eq_true rfl)) dX11_weather_42 ⟨(Nat.le_of_ble_eq_true rfl), (Nat.le_of_ble_eq_true rfl)⟩) hS (fun q _ h => hFc q h) hFc (fun u t H1 locs ht hvm hw14 hB hz1 hk1 hS => ?_)
      have hP1 : va_P (dC, dI) vwCl [] H1 := nilP
      have hD1 : va_D (va_A [] H.size) [] := nilD
      have hK := hK
      obtain ⟨hP, hD⟩ := va_join (wr := [(a 0, .inr (14, [.ref (a 1), .ref (a 2), .ref (a 27), .ref (a 30), .ref (a 74), .ref (a 75), .null, .int 0, .int 0])), (a 2, .inr (6, [.ref (a 3), .ref (a 14), .ref (a 26), .int 0, .int 0])), (a 3, .inr (11, [.ref (a 4), .ref (a 5), .ref (a 6), .ref (a 7), .ref (a 8), .ref (a 11), .int 0])), (a 27, .inr (9, [.ref (a 28), .ref (a 29), .int 0, .int 0])), (a 11, .inr (12, [.ref (a 12), .ref (a 13), .int 0])), (a 12, .inl ((k 12), 60, .inl (fun _ => 0))), (a 13, .inl ((k 13), 60, .inl (fun _ => 0)))]) (w1 := []) hP hD [] [0, 1, 2, 3, 4, 5, 6] rfl rfl (by decide) (by decide) hk1 hFc hP1 hD1
      generalize H1 = H at hP hS ⊢
      have hP : va_P (dC, dI) vwCl [(a 0, .inr (14, [.ref (a 1), .ref (a 2), .ref (a 27), .ref (a 30), .ref (a 74), .ref (a 75), .null, .int 0, .int 0])), (a 2, .inr (6, [.ref (a 3), .ref (a 14), .ref (a 26), .int 0, .int 0])), (a 3, .inr (11, [.ref (a 4), .ref (a 5), .ref (a 6), .ref (a 7), .ref (a 8), .ref (a 11), .int 0])), (a 27, .inr (9, [.ref (a 28), .ref (a 29), .int 0, .int 0])), (a 11, .inr (12, [.ref (a 12), .ref (a 13), .int 0])), (a 12, .inl ((k 12), 60, .inl (fun _ => 0))), (a 13, .inl ((k 13), 60, .inl (fun _ => 0)))] H := hP
      have hD : va_D A [(a 0, .inr (14, [.ref (a 1), .ref (a 2), .ref (a 27), .ref (a 30), .ref (a 74), .ref (a 75), .null, .int 0, .int 0])), (a 2, .inr (6, [.ref (a 3), .ref (a 14), .ref (a 26), .int 0, .int 0])), (a 3, .inr (11, [.ref (a 4), .ref (a 5), .ref (a 6), .ref (a 7), .ref (a 8), .ref (a 11), .int 0])), (a 27, .inr (9, [.ref (a 28), .ref (a 29), .int 0, .int 0])), (a 11, .inr (12, [.ref (a 12), .ref (a 13), .int 0])), (a 12, .inl ((k 12), 60, .inl (fun _ => 0))), (a 13, .inl ((k 13), 60, .inl (fun _ => 0)))] := hD
      try dsimp only at hw14
      refine lv_iload_n hx hb dX11_weather_45 rfl (lv_at hl 1 rfl) ?_
      refine lv_if_eq (tgt := 62) hx hb dX11_weather_46 (by decide) (fun c15 => absurd c15 (by decide)) (fun c15 => ?_)
      refine lv_aload_n hx hb dX11_weather_49 rfl (lv_at hl 0 rfl) ?_
      refine va_get (D := (dC, dI)) (ci := 14) (v := .ref (a 2)) (C := RX11) (T := TX11) (N := 9) hx hb hts bF_X11 hown hK hP 0 rfl rfl 1 (by decide) (ht_at hts 8 rfl) (fun _ h9 => h9) rfl dX11_weather_50 ?_
      refine va_getN (D := (dC, dI)) (ci := 6) (v := .ref (a 3)) (C := RX3) (T := TX3) (N := 5) hx hb hts bF_X3 hown hK hP 1 rfl rfl 0 (by decide) (hE.nw 3 rfl) (fun _ h9 => h9) rfl dX11_weather_53 ?_
      refine va_getN (D := (dC, dI)) (ci := 11) (v := .ref (a 11)) (C := RX8) (T := TX8) (N := 7) hx hb hts bF_X8 hown hK hP 2 rfl rfl 5 (by decide) (hE.nw 6 rfl) (fun _ h9 => h9) rfl dX11_weather_56 ?_
      refine lv_goto (tgt := 72) hx hb dX11_weather_59 (by decide) ?_
      refine lv_astore (lv' := [(4, .ref (a 11)), (0, .ref (a 0)), (1, .int 1), (2, .int p0), (3, .int p1)]) hx hb dX11_weather_72 hl (by decide) rfl (fun ls hl => ?_)
      refine lv_aload hx hb dX11_weather_74 (lv_at hl 0 rfl) ?_
      refine va_getN (D := (dC, dI)) (ci := 12) (v := .int 0) (C := RX9) (T := TX9) (N := 3) hx hb hts bF_X9 hown hK hP 4 rfl rfl 2 (by decide) (hE.nw 8 rfl) (fun _ h9 => h9) rfl dX11_weather_76 ?_
      refine lv_bipush (v := 60) hx hb dX11_weather_79 (by decide) ?_
      refine lv_icmp_ne (tgt := 86) hx hb dX11_weather_81 (by decide) (fun c16 => ?_) (fun c16 => absurd c16 (by decide))
      refine lv_aload_n hx hb dX11_weather_86 rfl (lv_at hl 1 rfl) ?_
      refine va_get (D := (dC, dI)) (ci := 14) (v := .ref (a 27)) (C := RX11) (T := TX11) (N := 9) hx hb hts bF_X11 hown hK hP 0 rfl rfl 2 (by decide) (ht_at hts 9 rfl) (fun _ h9 => h9) rfl dX11_weather_87 ?_
      have hPc := hP.sub (ws' := [(a 27, .inr (9, [.ref (a 28), .ref (a 29), .int 0, .int 0]))]) [3] rfl
      have hDc := hD.sub (ws' := [(a 27, .inr (9, [.ref (a 28), .ref (a 29), .int 0, .int 0]))]) [3] (by decide) rfl
      have hKc := hK.sub (tys' := []) [] rfl
      have hFc := va_free (wc := [(a 27, .inr (9, [.ref (a 28), .ref (a 29), .int 0, .int 0]))]) hD hS hA [3] rfl
      refine va_callv (va_runV (As := []) (rest := []) ⟨hx, hb, hml, hown, hts⟩ (x_forget l dC dI a k H.size ) (cwV 0 hts (goodIn_app (goodIn_r _ [14, 15, 16, 17] (by decide +kernel) (by decide +kernel)) (goodIn_ca (goodIn_r _ [11, 12, 13] (by decide +kernel) (by decide +kernel)) (bs_in _ _))) rfl rfl rfl (by decide +kernel) ⟨(Nat.le_of_ble_eq_true rfl), (Nat.le_of_ble_eq_true rfl)⟩) ⟨fun a U g mk q => by obtain ⟨q0, q1, qP, qK, qD, qE⟩ := q; exact ⟨q0, q1, qP, va_K.moved (u := U) (U := U.calling g mk a) (Vm.Alike.refl U.vm) qK, qD, EV.blind g mk a qE⟩, va_recv hKc hPc (ci := 9) (q0 := 0) rfl rfl, fun U hU hW => ⟨rfl, by rw [hU], by rw [hU]; exact hPc, va_K.moved hW.alike hKc, hDc.weaken (fun _ _ _ _ => trivial), hE.call hS hFc hU hW⟩⟩ rfl rfl hl.1 rfl (lv_room (Nat.le_of_ble_eq_true rfl)) dX11_weather_90 ⟨(Nat.le_of_ble_eq_true rfl), (Nat.le_of_ble_eq_true rfl)⟩) hS (fun q _ h => hFc q h) hFc (fun u t H1 locs ht hvm hw19 hB hz1 hk1 hS => ?_)
      obtain ⟨hP1, hD1⟩ := hB
      rw [ht] at hP1
      obtain ⟨hP, hD⟩ := va_join (wr := [(a 0, .inr (14, [.ref (a 1), .ref (a 2), .ref (a 27), .ref (a 30), .ref (a 74), .ref (a 75), .null, .int 0, .int 0])), (a 2, .inr (6, [.ref (a 3), .ref (a 14), .ref (a 26), .int 0, .int 0])), (a 3, .inr (11, [.ref (a 4), .ref (a 5), .ref (a 6), .ref (a 7), .ref (a 8), .ref (a 11), .int 0])), (a 11, .inr (12, [.ref (a 12), .ref (a 13), .int 0])), (a 12, .inl ((k 12), 60, .inl (fun _ => 0))), (a 13, .inl ((k 13), 60, .inl (fun _ => 0)))]) (w1 := [(a 27, .inr (9, [.ref (a 28), .ref (a 29), .int 0, .int 0]))]) hP hD [3] [0, 1, 2, 4, 5, 6] rfl rfl (by decide) (by decide) hk1 hFc hP1 hD1
      generalize H1 = H at hP hS ⊢
      have hP : va_P (dC, dI) vwCl [(a 0, .inr (14, [.ref (a 1), .ref (a 2), .ref (a 27), .ref (a 30), .ref (a 74), .ref (a 75), .null, .int 0, .int 0])), (a 2, .inr (6, [.ref (a 3), .ref (a 14), .ref (a 26), .int 0, .int 0])), (a 3, .inr (11, [.ref (a 4), .ref (a 5), .ref (a 6), .ref (a 7), .ref (a 8), .ref (a 11), .int 0])), (a 11, .inr (12, [.ref (a 12), .ref (a 13), .int 0])), (a 12, .inl ((k 12), 60, .inl (fun _ => 0))), (a 13, .inl ((k 13), 60, .inl (fun _ => 0))), (a 27, .inr (9, [.ref (a 28), .ref (a 29), .int 0, .int 0]))] H := hP
      have hD : va_D A [(a 0, .inr (14, [.ref (a 1), .ref (a 2), .ref (a 27), .ref (a 30), .ref (a 74), .ref (a 75), .null, .int 0, .int 0])), (a 2, .inr (6, [.ref (a 3), .ref (a 14), .ref (a 26), .int 0, .int 0])), (a 3, .inr (11, [.ref (a 4), .ref (a 5), .ref (a 6), .ref (a 7), .ref (a 8), .ref (a 11), .int 0])), (a 11, .inr (12, [.ref (a 12), .ref (a 13), .int 0])), (a 12, .inl ((k 12), 60, .inl (fun _ => 0))), (a 13, .inl ((k 13), 60, .inl (fun _ => 0))), (a 27, .inr (9, [.ref (a 28), .ref (a 29), .int 0, .int 0]))] := hD
      try dsimp only at hw19
      refine lv_aload hx hb dX11_weather_93 (lv_at hl 0 rfl) ?_
      refine lv_iload_n hx hb dX11_weather_95 rfl (lv_at hl 3 rfl) ?_
      refine lv_iload_n hx hb dX11_weather_96 rfl (lv_at hl 4 rfl) ?_
      have hPc := hP.sub (ws' := [(a 11, .inr (12, [.ref (a 12), .ref (a 13), .int 0])), (a 12, .inl ((k 12), 60, .inl (fun _ => 0))), (a 13, .inl ((k 13), 60, .inl (fun _ => 0)))]) [3, 4, 5] rfl
      have hDc := hD.sub (ws' := [(a 11, .inr (12, [.ref (a 12), .ref (a 13), .int 0])), (a 12, .inl ((k 12), 60, .inl (fun _ => 0))), (a 13, .inl ((k 13), 60, .inl (fun _ => 0)))]) [3, 4, 5] (by decide) rfl
      have hKc := hK.sub (tys' := [((k 12), .int), ((k 13), .int)]) [0, 1] rfl
      have hFc := va_free (wc := [(a 11, .inr (12, [.ref (a 12), .ref (a 13), .int 0])), (a 12, .inl ((k 12), 60, .inl (fun _ => 0))), (a 13, .inl ((k 13), 60, .inl (fun _ => 0)))]) hD hS hA [3, 4, 5] rfl
      refine va_calli (va_runV (As := [.int p0, .int p1]) (rest := []) ⟨hx, hb, hml, hown, hts⟩ (x_tellR l dC dI a k p0 p1 H.size ) (cwV 2 hts (goodIn_app (goodIn_r _ [22, 23, 24, 25] (by decide +kernel) (by decide +kernel)) (goodIn_ca (goodIn_r _ [18, 19, 20, 21] (by decide +kernel) (by decide +kernel)) (bs_in _ _))) rfl rfl rfl (by decide +kernel) ⟨(Nat.le_of_ble_eq_true rfl), (Nat.le_of_ble_eq_true rfl)⟩) ⟨fun a U g mk q => by obtain ⟨q0, q1, qP, qK, qD, qE⟩ := q; exact ⟨q0, q1, qP, va_K.moved (u := U) (U := U.calling g mk a) (Vm.Alike.refl U.vm) qK, qD, EV.blind g mk a qE⟩, va_recv hKc hPc (ci := 12) (q0 := 0) rfl rfl, fun U hU hW => ⟨rfl, by rw [hU], by rw [hU]; exact hPc, va_K.moved hW.alike hKc, hDc.weaken (fun _ _ _ _ => trivial), hE.call hS hFc hU hW⟩⟩ rfl rfl hl.1 rfl (lv_room (Nat.le_of_ble_eq_true rfl)) dX11_weather_97 ⟨(Nat.le_of_ble_eq_true rfl), (Nat.le_of_ble_eq_true rfl)⟩) hS (fun q _ h => hFc q h) hFc (fun r21 u t H1 locs ht hvm hw22 hB hz1 hk1 hS => ?_)
      have hP1 : va_P (dC, dI) vwCl [] H1 := nilP
      have hD1 : va_D (va_A [(a 11, .inr (12, [.ref (a 12), .ref (a 13), .int 0])), (a 12, .inl ((k 12), 60, .inl (fun _ => 0))), (a 13, .inl ((k 13), 60, .inl (fun _ => 0)))] H.size) [] := nilD
      have hK := hK
      obtain ⟨hP, hD⟩ := va_join (wr := [(a 0, .inr (14, [.ref (a 1), .ref (a 2), .ref (a 27), .ref (a 30), .ref (a 74), .ref (a 75), .null, .int 0, .int 0])), (a 2, .inr (6, [.ref (a 3), .ref (a 14), .ref (a 26), .int 0, .int 0])), (a 3, .inr (11, [.ref (a 4), .ref (a 5), .ref (a 6), .ref (a 7), .ref (a 8), .ref (a 11), .int 0])), (a 27, .inr (9, [.ref (a 28), .ref (a 29), .int 0, .int 0]))]) (w1 := []) hP hD [3, 4, 5] [0, 1, 2, 6] rfl rfl (by decide) (by decide) hk1 hFc hP1 hD1
      generalize H1 = H at hP hS ⊢
      have hP : va_P (dC, dI) vwCl [(a 0, .inr (14, [.ref (a 1), .ref (a 2), .ref (a 27), .ref (a 30), .ref (a 74), .ref (a 75), .null, .int 0, .int 0])), (a 2, .inr (6, [.ref (a 3), .ref (a 14), .ref (a 26), .int 0, .int 0])), (a 3, .inr (11, [.ref (a 4), .ref (a 5), .ref (a 6), .ref (a 7), .ref (a 8), .ref (a 11), .int 0])), (a 27, .inr (9, [.ref (a 28), .ref (a 29), .int 0, .int 0]))] H := hP
      have hD : va_D A [(a 0, .inr (14, [.ref (a 1), .ref (a 2), .ref (a 27), .ref (a 30), .ref (a 74), .ref (a 75), .null, .int 0, .int 0])), (a 2, .inr (6, [.ref (a 3), .ref (a 14), .ref (a 26), .int 0, .int 0])), (a 3, .inr (11, [.ref (a 4), .ref (a 5), .ref (a 6), .ref (a 7), .ref (a 8), .ref (a 11), .int 0])), (a 27, .inr (9, [.ref (a 28), .ref (a 29), .int 0, .int 0]))] := hD
      try dsimp only at hw22
      obtain rfl : 1 = r21 := (hw22).symm
      refine W.widen (k := 1) (n := 6) (by decide) (by decide) ?_
      exact vx_ret (W.iret (v := 1) hx hb hr (fun t ht hW => ⟨⟨1, (), rfl, (by unfold T_weather1; rw [if_pos hc4, if_pos hc10]; exact ⟨rfl, rfl⟩), trivial⟩, hS.F ht⟩) hS.2.2 dX11_weather_100)
    · rw [if_neg hc10] at hw9
      subst hw9
      refine lv_if_eq (tgt := 41) hx hb dX11_weather_21 (by decide) (fun c23 => ?_) (fun c23 => absurd c23 (by decide))
      refine lv_iconst (v := 0) hx hb dX11_weather_41 (by decide) ?_
      have hPc := hP.sub (ws' := []) [] rfl
      have hDc := hD.sub (ws' := []) [] (by decide) rfl
      have hKc := hK.sub (tys' := []) [] rfl
      have hFc := va_free (wc := []) hD hS hA [] rfl
      refine vx_callN (vx_runS (As := [.int 0]) (rest := []) ⟨hx, hb, hml, hown, hts⟩ (c_needNumbers0 l hlt dC dI H.size ) (va_cwS 1 hts (goodIn_app (goodIn_r _ [7, 8, 5] (by decide +kernel) (by decide +kernel)) (goodIn_ca (goodIn_r _ [6, 26, 27] (by decide +kernel) (by decide +kernel)) (bs_in _ _))) rfl rfl rfl (by decide +kernel) ⟨(Nat.le_of_ble_eq_true rfl), (Nat.le_of_ble_eq_true rfl)⟩) ⟨fun a U g mk q => by obtain ⟨q0, q1, qP, qK, qD, qE⟩ := q; exact ⟨q0, q1, qP, va_K.moved (u := U) (U := U.calling g mk a) (Vm.Alike.refl U.vm) qK, qD, EV.blind g mk a qE⟩, fun U hU hW => ⟨rfl, by rw [hU], by rw [hU]; exact hPc, va_K.moved hW.alike hKc, hDc.weaken (fun _ _ _ _ => trivial), hE.call hS hFc hU hW⟩⟩ rfl rfl hl.1 rfl (lv_room (Nat.le_of_ble_eq_true rfl)) dX11_weather_42 ⟨(Nat.le_of_ble_eq_true rfl), (Nat.le_of_ble_eq_true rfl)⟩) hS hFc (fun q _ h => hFc q h) (fun E ce q9 u t H1 locs ht hvm _ hw26 hz1 hk1 hS hce hcv hcl => ?_)
      exact vx_out (fun x h => (hnt x h).elim) hlocks hce hcv hcl (fun t2 h2 hW => ⟨(), trivial, (by exact ⟨hw26, by unfold T_weather1; rw [if_pos hc4, if_neg hc10]⟩), hS.F h2⟩) hS.2.2 (by decide) (by decide)
  · rw [if_neg hc4] at hw3
    subst hw3
    refine lv_if_eq (tgt := 41) hx hb dX11_weather_7 (by decide) (fun c27 => ?_) (fun c27 => absurd c27 (by decide))
    refine lv_iconst (v := 0) hx hb dX11_weather_41 (by decide) ?_
    have hPc := hP.sub (ws' := []) [] rfl
    have hDc := hD.sub (ws' := []) [] (by decide) rfl
    have hKc := hK.sub (tys' := []) [] rfl
    have hFc := va_free (wc := []) hD hS hA [] rfl
    refine vx_callN (vx_runS (As := [.int 0]) (rest := []) ⟨hx, hb, hml, hown, hts⟩ (c_needNumbers0 l hlt dC dI H.size ) (va_cwS 1 hts (goodIn_app (goodIn_r _ [7, 8, 5] (by decide +kernel) (by decide +kernel)) (goodIn_ca (goodIn_r _ [6, 26, 27] (by decide +kernel) (by decide +kernel)) (bs_in _ _))) rfl rfl rfl (by decide +kernel) ⟨(Nat.le_of_ble_eq_true rfl), (Nat.le_of_ble_eq_true rfl)⟩) ⟨fun a U g mk q => by obtain ⟨q0, q1, qP, qK, qD, qE⟩ := q; exact ⟨q0, q1, qP, va_K.moved (u := U) (U := U.calling g mk a) (Vm.Alike.refl U.vm) qK, qD, EV.blind g mk a qE⟩, fun U hU hW => ⟨rfl, by rw [hU], by rw [hU]; exact hPc, va_K.moved hW.alike hKc, hDc.weaken (fun _ _ _ _ => trivial), hE.call hS hFc hU hW⟩⟩ rfl rfl hl.1 rfl (lv_room (Nat.le_of_ble_eq_true rfl)) dX11_weather_42 ⟨(Nat.le_of_ble_eq_true rfl), (Nat.le_of_ble_eq_true rfl)⟩) hS hFc (fun q _ h => hFc q h) (fun E ce q9 u t H1 locs ht hvm _ hw30 hz1 hk1 hS hce hcv hcl => ?_)
    exact vx_out (fun x h => (hnt x h).elim) hlocks hce hcv hcl (fun t2 h2 hW => ⟨(), trivial, (by exact ⟨hw30, by unfold T_weather1; rw [if_neg hc4]⟩), hS.F h2⟩) hS.2.2 (by decide) (by decide)
def w_x_sky : List Cond := .code yX11_sky cX11_sky 3 (some .int) :: ([.constant RX11 110 40000, .code yX11_within cX11_within 3 (some .boolean), .methodLink RX11 58 yX11_within, .static yX11_within, .initialized RX11, .fieldLink RX11 16 "SeaLand" "lake" "LSeaLand$Lake;", .code yX8_rainAt cX8_rainAt 3 (some .int), .fieldLink RX8 31 "SeaLand$Sky" "rain" "LSeaLand$Tellings;", .code yX9_standingAt cX9_standingAt 5 (some .int), .fieldLink RX9 18 "SeaLand$Tellings" "told" "I", .methodLink RX8 44 yX9_standingAt, .instanceMethod yX9_standingAt, .selects RX9 yX9_standingAt yX9_standingAt, .initialized RX9, .methodLink RX11 146 yX8_rainAt, .instanceMethod yX8_rainAt, .selects RX8 yX8_rainAt yX8_rainAt, .initialized RX8, .code yX8_windAt cX8_windAt 4 (some .int), .fieldLink RX8 27 "SeaLand$Sky" "wind" "LSeaLand$Tellings;", .methodLink RX11 143 yX8_windAt, .instanceMethod yX8_windAt, .selects RX8 yX8_windAt yX8_windAt, .code yX8_outsideAt cX8_outsideAt 4 (some .int), .fieldLink RX8 9 "SeaLand$Sky" "tides" "[I", .code yJ9_floorMod_7cf53 cJ9_floorMod_7cf53 3 (some .int), .methodLink RX8 38 yJ9_floorMod_7cf53, .static yJ9_floorMod_7cf53, .initialized RJ9, .fieldLink RX8 34 "SeaLand$Sky" "storms" "I", .methodLink RX11 139 yX8_outsideAt, .instanceMethod yX8_outsideAt, .selects RX8 yX8_outsideAt yX8_outsideAt, .classLink RX11 134 "java/util/NoSuchElementException", .initialized "java/util/NoSuchElementException"] ++ bs)
set_option maxHeartbeats 4000000 in
set_option maxRecDepth 100000 in
theorem x_sky (l : Launch) (hlt : l.stackTraces = false) (dC : Nat → ClassId) (dI : Nat → Nat → Nat) (a : Nat → Nat) (k : Nat → ClassId) (p0 p1 : Int32) (sz : Nat) : vx_Met l yX11_sky w_x_sky ({ frames := 6, cells := 1, slots := 6, locals := 100 }) (va_Pc [.ref (a 0), .int p0, .int p1] (fun U => U.heap.size = sz ∧ va_P (dC, dI) vwCl [(a 0, .inr (14, [.ref (a 1), .ref (a 2), .ref (a 27), .ref (a 30), .ref (a 74), .ref (a 75), .null, .int 0, .int 0])), (a 2, .inr (6, [.ref (a 3), .ref (a 14), .ref (a 26), .int 0, .int 0])), (a 3, .inr (11, [.ref (a 4), .ref (a 5), .ref (a 6), .ref (a 7), .ref (a 8), .ref (a 11), .int 0])), (a 4, .inl ((k 4), 12, .inl (fun _ => 0))), (a 8, .inr (12, [.ref (a 9), .ref (a 10), .int 0])), (a 11, .inr (12, [.ref (a 12), .ref (a 13), .int 0]))] U.heap ∧ va_K (dC, dI) vwCl [((k 4), .int)] U ∧ va_D (fun _ => True) [(a 0, .inr (14, [.ref (a 1), .ref (a 2), .ref (a 27), .ref (a 30), .ref (a 74), .ref (a 75), .null, .int 0, .int 0])), (a 2, .inr (6, [.ref (a 3), .ref (a 14), .ref (a 26), .int 0, .int 0])), (a 3, .inr (11, [.ref (a 4), .ref (a 5), .ref (a 6), .ref (a 7), .ref (a 8), .ref (a 11), .int 0])), (a 4, .inl ((k 4), 12, .inl (fun _ => 0))), (a 8, .inr (12, [.ref (a 9), .ref (a 10), .int 0])), (a 11, .inr (12, [.ref (a 12), .ref (a 13), .int 0]))] ∧ EV (va_A [(a 0, .inr (14, [.ref (a 1), .ref (a 2), .ref (a 27), .ref (a 30), .ref (a 74), .ref (a 75), .null, .int 0, .int 0])), (a 2, .inr (6, [.ref (a 3), .ref (a 14), .ref (a 26), .int 0, .int 0])), (a 3, .inr (11, [.ref (a 4), .ref (a 5), .ref (a 6), .ref (a 7), .ref (a 8), .ref (a 11), .int 0])), (a 4, .inl ((k 4), 12, .inl (fun _ => 0))), (a 8, .inr (12, [.ref (a 9), .ref (a 10), .int 0])), (a 11, .inr (12, [.ref (a 12), .ref (a 13), .int 0]))] sz) U U.heap)) (va_Qi (fun (r : Int32) (u : Unit) => r = (T_sky p0 p1).2 ∧ (T_sky p0 p1).1 = 0) (fun (_ : Unit) (_ : State) => True) (va_A [(a 0, .inr (14, [.ref (a 1), .ref (a 2), .ref (a 27), .ref (a 30), .ref (a 74), .ref (a 75), .null, .int 0, .int 0])), (a 2, .inr (6, [.ref (a 3), .ref (a 14), .ref (a 26), .int 0, .int 0])), (a 3, .inr (11, [.ref (a 4), .ref (a 5), .ref (a 6), .ref (a 7), .ref (a 8), .ref (a 11), .int 0])), (a 4, .inl ((k 4), 12, .inl (fun _ => 0))), (a 8, .inr (12, [.ref (a 9), .ref (a 10), .int 0])), (a 11, .inr (12, [.ref (a 12), .ref (a 13), .int 0]))] sz)) (vx_X (fun _ : Unit => True) (fun E _ _ => (E = "java/util/NoSuchElementException" ∧ (T_sky p0 p1).1 = 1)) (va_A [(a 0, .inr (14, [.ref (a 1), .ref (a 2), .ref (a 27), .ref (a 30), .ref (a 74), .ref (a 75), .null, .int 0, .int 0])), (a 2, .inr (6, [.ref (a 3), .ref (a 14), .ref (a 26), .int 0, .int 0])), (a 3, .inr (11, [.ref (a 4), .ref (a 5), .ref (a 6), .ref (a 7), .ref (a 8), .ref (a 11), .int 0])), (a 4, .inl ((k 4), 12, .inl (fun _ => 0))), (a 8, .inr (12, [.ref (a 9), .ref (a 10), .int 0])), (a 11, .inr (12, [.ref (a 12), .ref (a 13), .int 0]))] sz)) 1 6 (va_A [(a 0, .inr (14, [.ref (a 1), .ref (a 2), .ref (a 27), .ref (a 30), .ref (a 74), .ref (a 75), .null, .int 0, .int 0])), (a 2, .inr (6, [.ref (a 3), .ref (a 14), .ref (a 26), .int 0, .int 0])), (a 3, .inr (11, [.ref (a 4), .ref (a 5), .ref (a 6), .ref (a 7), .ref (a 8), .ref (a 11), .int 0])), (a 4, .inl ((k 4), 12, .inl (fun _ => 0))), (a 8, .inr (12, [.ref (a 9), .ref (a 10), .int 0])), (a 11, .inr (12, [.ref (a 12), .ref (a 13), .int 0]))] sz) := by
  refine vx_ofW (cc := cX11_sky) (maxL := 3) (ret := (some .int)) (by decide) rfl ?_
  intro p e s m args below meth c s₁ B hml hnt hv
  obtain ⟨rfl, hsz, hP, hK, hD0, hE⟩ := hv
  have hx := B.exec
  have hb := B.bytes
  have hr := B.returns
  have hts := atoms_spec (ws := w_x_sky) B.pre
  have hown : s.vm.findClass RX11 = some m.cls := findClass_of_methodNamed B.named
  have hlocks := B.notSynchronized
  subst hsz
  have hD := hD0.self (sz := s.heap.size)
  generalize hAe : va_A [(a 0, .inr (14, [.ref (a 1), .ref (a 2), .ref (a 27), .ref (a 30), .ref (a 74), .ref (a 75), .null, .int 0, .int 0])), (a 2, .inr (6, [.ref (a 3), .ref (a 14), .ref (a 26), .int 0, .int 0])), (a 3, .inr (11, [.ref (a 4), .ref (a 5), .ref (a 6), .ref (a 7), .ref (a 8), .ref (a 11), .int 0])), (a 4, .inl ((k 4), 12, .inl (fun _ => 0))), (a 8, .inr (12, [.ref (a 9), .ref (a 10), .int 0])), (a 11, .inr (12, [.ref (a 12), .ref (a 13), .int 0]))] s.heap.size = A at hD hE ⊢
  have hA : ∀ q : Nat, s.heap.size ≤ q → A q := fun q h => by rw [← hAe]; exact Or.inr h
  have hS : va_S A s.heap s.heap [] := va_S.rf
  have hP : va_P (dC, dI) vwCl [(a 0, .inr (14, [.ref (a 1), .ref (a 2), .ref (a 27), .ref (a 30), .ref (a 74), .ref (a 75), .null, .int 0, .int 0])), (a 2, .inr (6, [.ref (a 3), .ref (a 14), .ref (a 26), .int 0, .int 0])), (a 3, .inr (11, [.ref (a 4), .ref (a 5), .ref (a 6), .ref (a 7), .ref (a 8), .ref (a 11), .int 0])), (a 4, .inl ((k 4), 12, .inl (fun _ => 0))), (a 8, .inr (12, [.ref (a 9), .ref (a 10), .int 0])), (a 11, .inr (12, [.ref (a 12), .ref (a 13), .int 0]))] s.heap := hP
  have hl := lv_entry ([.ref (a 0), .int p0, .int p1]) (n := 3) (Nat.le_of_ble_eq_true rfl)
  rw [lg_entry_eq]
  generalize (lg_sl ([.ref (a 0), .int p0, .int p1]) ++ List.replicate (3 - (lg_sl ([.ref (a 0), .int p0, .int p1])).length) Slot.unset).toArray = ls at hl ⊢
  have hl : lv_has ls 3 [(0, .ref (a 0)), (1, .int p0), (2, .int p1)] := hl
  refine lv_iload_n hx hb dX11_sky_0 rfl (lv_at hl 1 rfl) ?_
  refine lv_iconst (v := 0) hx hb dX11_sky_1 (by decide) ?_
  refine lv_ldc (v := 40000) hx hb hown (ht_at hts 0 rfl) dX11_sky_2 ?_
  have hPc := hP.sub (ws' := []) [] rfl
  have hDc := hD.sub (ws' := []) [] (by decide) rfl
  have hKc := hK.sub (tys' := []) [] rfl
  have hFc := va_free (wc := []) hD hS hA [] rfl
  refine va_calli (va_runS (As := [.int p0, .int 0, .int 40000]) (rest := []) ⟨hx, hb, hml, hown, hts⟩ (c_within l dC dI p0 0 40000 s.heap.size ) (va_cwS 3 hts (goodIn_app (goodIn_r _ [3, 4, 5] (by decide +kernel) (by decide +kernel)) (goodIn_ca (goodIn_r _ [2] (by decide +kernel) (by decide +kernel)) (bs_in _ _))) rfl rfl rfl (by decide +kernel) ⟨(Nat.le_of_ble_eq_true rfl), (Nat.le_of_ble_eq_true rfl)⟩) ⟨fun a U g mk q => by obtain ⟨q0, q1, qP, qK, qD⟩ := q; exact ⟨q0, q1, qP, va_K.moved (u := U) (U := U.calling g mk a) (Vm.Alike.refl U.vm) qK, qD⟩, fun U hU hW => ⟨rfl, by rw [hU], by rw [hU]; exact hPc, va_K.moved hW.alike hKc, hDc.weaken (fun _ _ _ _ => trivial)⟩⟩ rfl rfl hl.1 rfl (lv_room (Nat.le_of_ble_eq_true rfl)) dX11_sky_4 ⟨(Nat.le_of_ble_eq_true rfl), (Nat.le_of_ble_eq_true rfl)⟩) hS (fun q _ h => hFc q h) hFc (fun r2 u t H1 locs ht hvm hw3 hB hz1 hk1 hS => ?_)
  have hP1 : va_P (dC, dI) vwCl [] H1 := nilP
  have hD1 : va_D (va_A [] s.heap.size) [] := nilD
  have hK := hK
  obtain ⟨hP, hD⟩ := va_join (wr := [(a 0, .inr (14, [.ref (a 1), .ref (a 2), .ref (a 27), .ref (a 30), .ref (a 74), .ref (a 75), .null, .int 0, .int 0])), (a 2, .inr (6, [.ref (a 3), .ref (a 14), .ref (a 26), .int 0, .int 0])), (a 3, .inr (11, [.ref (a 4), .ref (a 5), .ref (a 6), .ref (a 7), .ref (a 8), .ref (a 11), .int 0])), (a 4, .inl ((k 4), 12, .inl (fun _ => 0))), (a 8, .inr (12, [.ref (a 9), .ref (a 10), .int 0])), (a 11, .inr (12, [.ref (a 12), .ref (a 13), .int 0]))]) (w1 := []) hP hD [] [0, 1, 2, 3, 4, 5] rfl rfl (by decide) (by decide) hk1 hFc hP1 hD1
  generalize H1 = H at hP hS ⊢
  have hP : va_P (dC, dI) vwCl [(a 0, .inr (14, [.ref (a 1), .ref (a 2), .ref (a 27), .ref (a 30), .ref (a 74), .ref (a 75), .null, .int 0, .int 0])), (a 2, .inr (6, [.ref (a 3), .ref (a 14), .ref (a 26), .int 0, .int 0])), (a 3, .inr (11, [.ref (a 4), .ref (a 5), .ref (a 6), .ref (a 7), .ref (a 8), .ref (a 11), .int 0])), (a 4, .inl ((k 4), 12, .inl (fun _ => 0))), (a 8, .inr (12, [.ref (a 9), .ref (a 10), .int 0])), (a 11, .inr (12, [.ref (a 12), .ref (a 13), .int 0]))] H := hP
  have hD : va_D A [(a 0, .inr (14, [.ref (a 1), .ref (a 2), .ref (a 27), .ref (a 30), .ref (a 74), .ref (a 75), .null, .int 0, .int 0])), (a 2, .inr (6, [.ref (a 3), .ref (a 14), .ref (a 26), .int 0, .int 0])), (a 3, .inr (11, [.ref (a 4), .ref (a 5), .ref (a 6), .ref (a 7), .ref (a 8), .ref (a 11), .int 0])), (a 4, .inl ((k 4), 12, .inl (fun _ => 0))), (a 8, .inr (12, [.ref (a 9), .ref (a 10), .int 0])), (a 11, .inr (12, [.ref (a 12), .ref (a 13), .int 0]))] := hD
  try dsimp only at hw3
  by_cases hc4 : (0 : Int32) ≤ p0 ∧ p0 ≤ (40000 : Int32)
  · rw [if_pos hc4] at hw3
    subst hw3
    refine lv_if_eq (tgt := 19) hx hb dX11_sky_7 (by decide) (fun c5 => absurd c5 (by decide)) (fun c5 => ?_)
    refine lv_iload_n hx hb dX11_sky_10 rfl (lv_at hl 2 rfl) ?_
    refine lv_iconst (v := 0) hx hb dX11_sky_11 (by decide) ?_
    refine lv_iconst (v := 2) hx hb dX11_sky_12 (by decide) ?_
    have hPc := hP.sub (ws' := []) [] rfl
    have hDc := hD.sub (ws' := []) [] (by decide) rfl
    have hKc := hK.sub (tys' := []) [] rfl
    have hFc := va_free (wc := []) hD hS hA [] rfl
    refine va_calli (va_runS (As := [.int p1, .int 0, .int 2]) (rest := []) ⟨hx, hb, hml, hown, hts⟩ (c_within l dC dI p1 0 2 H.size ) (va_cwS 3 hts (goodIn_app (goodIn_r _ [3, 4, 5] (by decide +kernel) (by decide +kernel)) (goodIn_ca (goodIn_r _ [2] (by decide +kernel) (by decide +kernel)) (bs_in _ _))) rfl rfl rfl (by decide +kernel) ⟨(Nat.le_of_ble_eq_true rfl), (Nat.le_of_ble_eq_true rfl)⟩) ⟨fun a U g mk q => by obtain ⟨q0, q1, qP, qK, qD⟩ := q; exact ⟨q0, q1, qP, va_K.moved (u := U) (U := U.calling g mk a) (Vm.Alike.refl U.vm) qK, qD⟩, fun U hU hW => ⟨rfl, by rw [hU], by rw [hU]; exact hPc, va_K.moved hW.alike hKc, hDc.weaken (fun _ _ _ _ => trivial)⟩⟩ rfl rfl hl.1 rfl (lv_room (Nat.le_of_ble_eq_true rfl)) dX11_sky_13 ⟨(Nat.le_of_ble_eq_true rfl), (Nat.le_of_ble_eq_true rfl)⟩) hS (fun q _ h => hFc q h) hFc (fun r7 u t H1 locs ht hvm hw8 hB hz1 hk1 hS => ?_)
    have hP1 : va_P (dC, dI) vwCl [] H1 := nilP
    have hD1 : va_D (va_A [] H.size) [] := nilD
    have hK := hK
    obtain ⟨hP, hD⟩ := va_join (wr := [(a 0, .inr (14, [.ref (a 1), .ref (a 2), .ref (a 27), .ref (a 30), .ref (a 74), .ref (a 75), .null, .int 0, .int 0])), (a 2, .inr (6, [.ref (a 3), .ref (a 14), .ref (a 26), .int 0, .int 0])), (a 3, .inr (11, [.ref (a 4), .ref (a 5), .ref (a 6), .ref (a 7), .ref (a 8), .ref (a 11), .int 0])), (a 4, .inl ((k 4), 12, .inl (fun _ => 0))), (a 8, .inr (12, [.ref (a 9), .ref (a 10), .int 0])), (a 11, .inr (12, [.ref (a 12), .ref (a 13), .int 0]))]) (w1 := []) hP hD [] [0, 1, 2, 3, 4, 5] rfl rfl (by decide) (by decide) hk1 hFc hP1 hD1
    generalize H1 = H at hP hS ⊢
    have hP : va_P (dC, dI) vwCl [(a 0, .inr (14, [.ref (a 1), .ref (a 2), .ref (a 27), .ref (a 30), .ref (a 74), .ref (a 75), .null, .int 0, .int 0])), (a 2, .inr (6, [.ref (a 3), .ref (a 14), .ref (a 26), .int 0, .int 0])), (a 3, .inr (11, [.ref (a 4), .ref (a 5), .ref (a 6), .ref (a 7), .ref (a 8), .ref (a 11), .int 0])), (a 4, .inl ((k 4), 12, .inl (fun _ => 0))), (a 8, .inr (12, [.ref (a 9), .ref (a 10), .int 0])), (a 11, .inr (12, [.ref (a 12), .ref (a 13), .int 0]))] H := hP
    have hD : va_D A [(a 0, .inr (14, [.ref (a 1), .ref (a 2), .ref (a 27), .ref (a 30), .ref (a 74), .ref (a 75), .null, .int 0, .int 0])), (a 2, .inr (6, [.ref (a 3), .ref (a 14), .ref (a 26), .int 0, .int 0])), (a 3, .inr (11, [.ref (a 4), .ref (a 5), .ref (a 6), .ref (a 7), .ref (a 8), .ref (a 11), .int 0])), (a 4, .inl ((k 4), 12, .inl (fun _ => 0))), (a 8, .inr (12, [.ref (a 9), .ref (a 10), .int 0])), (a 11, .inr (12, [.ref (a 12), .ref (a 13), .int 0]))] := hD
    try dsimp only at hw8
    by_cases hc9 : (0 : Int32) ≤ p1 ∧ p1 ≤ (2 : Int32)
    · rw [if_pos hc9] at hw8
      subst hw8
      refine lv_if_ne (tgt := 29) hx hb dX11_sky_16 (by decide) (fun c10 => ?_) (fun c10 => absurd c10 (by decide))
      refine lv_iload_n hx hb dX11_sky_29 rfl (lv_at hl 2 rfl) ?_
      refine lv_if_ne (tgt := 45) hx hb dX11_sky_30 (by decide) (fun c11 => ?_) (fun c11 => ?_)
      · refine lv_iload_n hx hb dX11_sky_45 rfl (lv_at hl 2 rfl) ?_
        refine lv_iconst (v := 1) hx hb dX11_sky_46 (by decide) ?_
        refine lv_icmp_ne (tgt := 64) hx hb dX11_sky_47 (by decide) (fun c12 => ?_) (fun c12 => ?_)
        · refine lv_aload_n hx hb dX11_sky_64 rfl (lv_at hl 0 rfl) ?_
          refine va_get (D := (dC, dI)) (ci := 14) (v := .ref (a 2)) (C := RX11) (T := TX11) (N := 9) hx hb hts bF_X11 hown hK hP 0 rfl rfl 1 (by decide) (ht_at hts 5 rfl) (fun _ h9 => h9) rfl dX11_sky_65 ?_
          refine va_getN (D := (dC, dI)) (ci := 6) (v := .ref (a 3)) (C := RX3) (T := TX3) (N := 5) hx hb hts bF_X3 hown hK hP 1 rfl rfl 0 (by decide) (hE.nw 3 rfl) (fun _ h9 => h9) rfl dX11_sky_68 ?_
          refine lv_iload_n hx hb dX11_sky_71 rfl (lv_at hl 1 rfl) ?_
          have hPc := hP.sub (ws' := [(a 3, .inr (11, [.ref (a 4), .ref (a 5), .ref (a 6), .ref (a 7), .ref (a 8), .ref (a 11), .int 0])), (a 11, .inr (12, [.ref (a 12), .ref (a 13), .int 0]))]) [2, 5] rfl
          have hDc := hD.sub (ws' := [(a 3, .inr (11, [.ref (a 4), .ref (a 5), .ref (a 6), .ref (a 7), .ref (a 8), .ref (a 11), .int 0])), (a 11, .inr (12, [.ref (a 12), .ref (a 13), .int 0]))]) [2, 5] (by decide) rfl
          have hKc := hK.sub (tys' := []) [] rfl
          have hFc := va_free (wc := [(a 3, .inr (11, [.ref (a 4), .ref (a 5), .ref (a 6), .ref (a 7), .ref (a 8), .ref (a 11), .int 0])), (a 11, .inr (12, [.ref (a 12), .ref (a 13), .int 0]))]) hD hS hA [2, 5] rfl
          refine va_calli (va_runV (As := [.int p0]) (rest := []) ⟨hx, hb, hml, hown, hts⟩ (x_rainAt l dC dI a k p0 H.size ) (cwV 1 hts (goodIn_app (goodIn_r _ [15, 16, 17, 18] (by decide +kernel) (by decide +kernel)) (goodIn_ca (goodIn_r _ [7, 8, 9, 10, 11, 12, 13, 14] (by decide +kernel) (by decide +kernel)) (bs_in _ _))) rfl rfl rfl (by decide +kernel) ⟨(Nat.le_of_ble_eq_true rfl), (Nat.le_of_ble_eq_true rfl)⟩) ⟨fun a U g mk q => by obtain ⟨q0, q1, qP, qK, qD, qE⟩ := q; exact ⟨q0, q1, qP, va_K.moved (u := U) (U := U.calling g mk a) (Vm.Alike.refl U.vm) qK, qD, EV.blind g mk a qE⟩, va_recv hKc hPc (ci := 11) (q0 := 0) rfl rfl, fun U hU hW => ⟨rfl, by rw [hU], by rw [hU]; exact hPc, va_K.moved hW.alike hKc, hDc.weaken (fun _ _ _ _ => trivial), hE.call hS hFc hU hW⟩⟩ rfl rfl hl.1 rfl (lv_room (Nat.le_of_ble_eq_true rfl)) dX11_sky_72 ⟨(Nat.le_of_ble_eq_true rfl), (Nat.le_of_ble_eq_true rfl)⟩) hS (fun q _ h => hFc q h) hFc (fun r14 u t H1 locs ht hvm hw15 hB hz1 hk1 hS => ?_)
          obtain ⟨hP1, hD1⟩ := hB
          rw [ht] at hP1
          obtain ⟨hP, hD⟩ := va_join (wr := [(a 0, .inr (14, [.ref (a 1), .ref (a 2), .ref (a 27), .ref (a 30), .ref (a 74), .ref (a 75), .null, .int 0, .int 0])), (a 2, .inr (6, [.ref (a 3), .ref (a 14), .ref (a 26), .int 0, .int 0])), (a 4, .inl ((k 4), 12, .inl (fun _ => 0))), (a 8, .inr (12, [.ref (a 9), .ref (a 10), .int 0]))]) (w1 := [(a 3, .inr (11, [.ref (a 4), .ref (a 5), .ref (a 6), .ref (a 7), .ref (a 8), .ref (a 11), .int 0])), (a 11, .inr (12, [.ref (a 12), .ref (a 13), .int 0]))]) hP hD [2, 5] [0, 1, 3, 4] rfl rfl (by decide) (by decide) hk1 hFc hP1 hD1
          generalize H1 = H at hP hS ⊢
          have hP : va_P (dC, dI) vwCl [(a 0, .inr (14, [.ref (a 1), .ref (a 2), .ref (a 27), .ref (a 30), .ref (a 74), .ref (a 75), .null, .int 0, .int 0])), (a 2, .inr (6, [.ref (a 3), .ref (a 14), .ref (a 26), .int 0, .int 0])), (a 4, .inl ((k 4), 12, .inl (fun _ => 0))), (a 8, .inr (12, [.ref (a 9), .ref (a 10), .int 0])), (a 3, .inr (11, [.ref (a 4), .ref (a 5), .ref (a 6), .ref (a 7), .ref (a 8), .ref (a 11), .int 0])), (a 11, .inr (12, [.ref (a 12), .ref (a 13), .int 0]))] H := hP
          have hD : va_D A [(a 0, .inr (14, [.ref (a 1), .ref (a 2), .ref (a 27), .ref (a 30), .ref (a 74), .ref (a 75), .null, .int 0, .int 0])), (a 2, .inr (6, [.ref (a 3), .ref (a 14), .ref (a 26), .int 0, .int 0])), (a 4, .inl ((k 4), 12, .inl (fun _ => 0))), (a 8, .inr (12, [.ref (a 9), .ref (a 10), .int 0])), (a 3, .inr (11, [.ref (a 4), .ref (a 5), .ref (a 6), .ref (a 7), .ref (a 8), .ref (a 11), .int 0])), (a 11, .inr (12, [.ref (a 12), .ref (a 13), .int 0]))] := hD
          try dsimp only at hw15
          obtain rfl : 0 = r14 := (hw15).symm
          refine W.widen (k := 1) (n := 6) (by decide) (by decide) ?_
          exact vx_ret (W.iret (v := 0) hx hb hr (fun t ht hW => ⟨⟨0, (), rfl, (by unfold T_sky; rw [if_pos hc4, if_pos hc9]; exact ⟨rfl, rfl⟩), trivial⟩, hS.F ht⟩) hS.2.2 dX11_sky_75)
        · refine lv_aload_n hx hb dX11_sky_50 rfl (lv_at hl 0 rfl) ?_
          refine va_get (D := (dC, dI)) (ci := 14) (v := .ref (a 2)) (C := RX11) (T := TX11) (N := 9) hx hb hts bF_X11 hown hK hP 0 rfl rfl 1 (by decide) (ht_at hts 5 rfl) (fun _ h9 => h9) rfl dX11_sky_51 ?_
          refine va_getN (D := (dC, dI)) (ci := 6) (v := .ref (a 3)) (C := RX3) (T := TX3) (N := 5) hx hb hts bF_X3 hown hK hP 1 rfl rfl 0 (by decide) (hE.nw 3 rfl) (fun _ h9 => h9) rfl dX11_sky_54 ?_
          refine lv_iload_n hx hb dX11_sky_57 rfl (lv_at hl 1 rfl) ?_
          have hPc := hP.sub (ws' := [(a 3, .inr (11, [.ref (a 4), .ref (a 5), .ref (a 6), .ref (a 7), .ref (a 8), .ref (a 11), .int 0])), (a 8, .inr (12, [.ref (a 9), .ref (a 10), .int 0]))]) [2, 4] rfl
          have hDc := hD.sub (ws' := [(a 3, .inr (11, [.ref (a 4), .ref (a 5), .ref (a 6), .ref (a 7), .ref (a 8), .ref (a 11), .int 0])), (a 8, .inr (12, [.ref (a 9), .ref (a 10), .int 0]))]) [2, 4] (by decide) rfl
          have hKc := hK.sub (tys' := []) [] rfl
          have hFc := va_free (wc := [(a 3, .inr (11, [.ref (a 4), .ref (a 5), .ref (a 6), .ref (a 7), .ref (a 8), .ref (a 11), .int 0])), (a 8, .inr (12, [.ref (a 9), .ref (a 10), .int 0]))]) hD hS hA [2, 4] rfl
          refine va_calli (va_runV (As := [.int p0]) (rest := []) ⟨hx, hb, hml, hown, hts⟩ (x_windAt l dC dI a k p0 H.size ) (cwV 1 hts (goodIn_app (goodIn_r _ [21, 22, 23, 18] (by decide +kernel) (by decide +kernel)) (goodIn_ca (goodIn_r _ [19, 20, 9, 10, 11, 12, 13, 14] (by decide +kernel) (by decide +kernel)) (bs_in _ _))) rfl rfl rfl (by decide +kernel) ⟨(Nat.le_of_ble_eq_true rfl), (Nat.le_of_ble_eq_true rfl)⟩) ⟨fun a U g mk q => by obtain ⟨q0, q1, qP, qK, qD, qE⟩ := q; exact ⟨q0, q1, qP, va_K.moved (u := U) (U := U.calling g mk a) (Vm.Alike.refl U.vm) qK, qD, EV.blind g mk a qE⟩, va_recv hKc hPc (ci := 11) (q0 := 0) rfl rfl, fun U hU hW => ⟨rfl, by rw [hU], by rw [hU]; exact hPc, va_K.moved hW.alike hKc, hDc.weaken (fun _ _ _ _ => trivial), hE.call hS hFc hU hW⟩⟩ rfl rfl hl.1 rfl (lv_room (Nat.le_of_ble_eq_true rfl)) dX11_sky_58 ⟨(Nat.le_of_ble_eq_true rfl), (Nat.le_of_ble_eq_true rfl)⟩) hS (fun q _ h => hFc q h) hFc (fun r17 u t H1 locs ht hvm hw18 hB hz1 hk1 hS => ?_)
          obtain ⟨hP1, hD1⟩ := hB
          rw [ht] at hP1
          obtain ⟨hP, hD⟩ := va_join (wr := [(a 0, .inr (14, [.ref (a 1), .ref (a 2), .ref (a 27), .ref (a 30), .ref (a 74), .ref (a 75), .null, .int 0, .int 0])), (a 2, .inr (6, [.ref (a 3), .ref (a 14), .ref (a 26), .int 0, .int 0])), (a 4, .inl ((k 4), 12, .inl (fun _ => 0))), (a 11, .inr (12, [.ref (a 12), .ref (a 13), .int 0]))]) (w1 := [(a 3, .inr (11, [.ref (a 4), .ref (a 5), .ref (a 6), .ref (a 7), .ref (a 8), .ref (a 11), .int 0])), (a 8, .inr (12, [.ref (a 9), .ref (a 10), .int 0]))]) hP hD [2, 4] [0, 1, 3, 5] rfl rfl (by decide) (by decide) hk1 hFc hP1 hD1
          generalize H1 = H at hP hS ⊢
          have hP : va_P (dC, dI) vwCl [(a 0, .inr (14, [.ref (a 1), .ref (a 2), .ref (a 27), .ref (a 30), .ref (a 74), .ref (a 75), .null, .int 0, .int 0])), (a 2, .inr (6, [.ref (a 3), .ref (a 14), .ref (a 26), .int 0, .int 0])), (a 4, .inl ((k 4), 12, .inl (fun _ => 0))), (a 11, .inr (12, [.ref (a 12), .ref (a 13), .int 0])), (a 3, .inr (11, [.ref (a 4), .ref (a 5), .ref (a 6), .ref (a 7), .ref (a 8), .ref (a 11), .int 0])), (a 8, .inr (12, [.ref (a 9), .ref (a 10), .int 0]))] H := hP
          have hD : va_D A [(a 0, .inr (14, [.ref (a 1), .ref (a 2), .ref (a 27), .ref (a 30), .ref (a 74), .ref (a 75), .null, .int 0, .int 0])), (a 2, .inr (6, [.ref (a 3), .ref (a 14), .ref (a 26), .int 0, .int 0])), (a 4, .inl ((k 4), 12, .inl (fun _ => 0))), (a 11, .inr (12, [.ref (a 12), .ref (a 13), .int 0])), (a 3, .inr (11, [.ref (a 4), .ref (a 5), .ref (a 6), .ref (a 7), .ref (a 8), .ref (a 11), .int 0])), (a 8, .inr (12, [.ref (a 9), .ref (a 10), .int 0]))] := hD
          try dsimp only at hw18
          obtain rfl : 0 = r17 := (hw18).symm
          refine lv_goto (tgt := 75) hx hb dX11_sky_61 (by decide) ?_
          refine W.widen (k := 1) (n := 6) (by decide) (by decide) ?_
          exact vx_ret (W.iret (v := 0) hx hb hr (fun t ht hW => ⟨⟨0, (), rfl, (by unfold T_sky; rw [if_pos hc4, if_pos hc9]; exact ⟨rfl, rfl⟩), trivial⟩, hS.F ht⟩) hS.2.2 dX11_sky_75)
      · refine lv_aload_n hx hb dX11_sky_33 rfl (lv_at hl 0 rfl) ?_
        refine va_get (D := (dC, dI)) (ci := 14) (v := .ref (a 2)) (C := RX11) (T := TX11) (N := 9) hx hb hts bF_X11 hown hK hP 0 rfl rfl 1 (by decide) (ht_at hts 5 rfl) (fun _ h9 => h9) rfl dX11_sky_34 ?_
        refine va_getN (D := (dC, dI)) (ci := 6) (v := .ref (a 3)) (C := RX3) (T := TX3) (N := 5) hx hb hts bF_X3 hown hK hP 1 rfl rfl 0 (by decide) (hE.nw 3 rfl) (fun _ h9 => h9) rfl dX11_sky_37 ?_
        refine lv_iload_n hx hb dX11_sky_40 rfl (lv_at hl 1 rfl) ?_
        have hPc := hP.sub (ws' := [(a 3, .inr (11, [.ref (a 4), .ref (a 5), .ref (a 6), .ref (a 7), .ref (a 8), .ref (a 11), .int 0])), (a 4, .inl ((k 4), 12, .inl (fun _ => 0)))]) [2, 3] rfl
        have hDc := hD.sub (ws' := [(a 3, .inr (11, [.ref (a 4), .ref (a 5), .ref (a 6), .ref (a 7), .ref (a 8), .ref (a 11), .int 0])), (a 4, .inl ((k 4), 12, .inl (fun _ => 0)))]) [2, 3] (by decide) rfl
        have hKc := hK.sub (tys' := [((k 4), .int)]) [0] rfl
        have hFc := va_free (wc := [(a 3, .inr (11, [.ref (a 4), .ref (a 5), .ref (a 6), .ref (a 7), .ref (a 8), .ref (a 11), .int 0])), (a 4, .inl ((k 4), 12, .inl (fun _ => 0)))]) hD hS hA [2, 3] rfl
        refine va_calli (va_runV (As := [.int p0]) (rest := []) ⟨hx, hb, hml, hown, hts⟩ (x_outsideAt l dC dI a k p0 H.size hc4.1) (cwV 1 hts (goodIn_app (goodIn_r _ [31, 32, 33, 18] (by decide +kernel) (by decide +kernel)) (goodIn_ca (goodIn_r _ [24, 25, 26, 27, 28, 29, 30] (by decide +kernel) (by decide +kernel)) (bs_in _ _))) rfl rfl rfl (by decide +kernel) ⟨(Nat.le_of_ble_eq_true rfl), (Nat.le_of_ble_eq_true rfl)⟩) ⟨fun a U g mk q => by obtain ⟨q0, q1, qP, qK, qD, qE⟩ := q; exact ⟨q0, q1, qP, va_K.moved (u := U) (U := U.calling g mk a) (Vm.Alike.refl U.vm) qK, qD, EV.blind g mk a qE⟩, va_recv hKc hPc (ci := 11) (q0 := 0) rfl rfl, fun U hU hW => ⟨rfl, by rw [hU], by rw [hU]; exact hPc, va_K.moved hW.alike hKc, hDc.weaken (fun _ _ _ _ => trivial), hE.call hS hFc hU hW⟩⟩ rfl rfl hl.1 rfl (lv_room (Nat.le_of_ble_eq_true rfl)) dX11_sky_41 ⟨(Nat.le_of_ble_eq_true rfl), (Nat.le_of_ble_eq_true rfl)⟩) hS (fun q _ h => hFc q h) hFc (fun r20 u t H1 locs ht hvm hw21 hB hz1 hk1 hS => ?_)
        obtain ⟨hP1, hD1⟩ := hB
        rw [ht] at hP1
        obtain ⟨hP, hD⟩ := va_join (wr := [(a 0, .inr (14, [.ref (a 1), .ref (a 2), .ref (a 27), .ref (a 30), .ref (a 74), .ref (a 75), .null, .int 0, .int 0])), (a 2, .inr (6, [.ref (a 3), .ref (a 14), .ref (a 26), .int 0, .int 0])), (a 8, .inr (12, [.ref (a 9), .ref (a 10), .int 0])), (a 11, .inr (12, [.ref (a 12), .ref (a 13), .int 0]))]) (w1 := [(a 3, .inr (11, [.ref (a 4), .ref (a 5), .ref (a 6), .ref (a 7), .ref (a 8), .ref (a 11), .int 0])), (a 4, .inl ((k 4), 12, .inl (fun _ => 0)))]) hP hD [2, 3] [0, 1, 4, 5] rfl rfl (by decide) (by decide) hk1 hFc hP1 hD1
        generalize H1 = H at hP hS ⊢
        have hP : va_P (dC, dI) vwCl [(a 0, .inr (14, [.ref (a 1), .ref (a 2), .ref (a 27), .ref (a 30), .ref (a 74), .ref (a 75), .null, .int 0, .int 0])), (a 2, .inr (6, [.ref (a 3), .ref (a 14), .ref (a 26), .int 0, .int 0])), (a 8, .inr (12, [.ref (a 9), .ref (a 10), .int 0])), (a 11, .inr (12, [.ref (a 12), .ref (a 13), .int 0])), (a 3, .inr (11, [.ref (a 4), .ref (a 5), .ref (a 6), .ref (a 7), .ref (a 8), .ref (a 11), .int 0])), (a 4, .inl ((k 4), 12, .inl (fun _ => 0)))] H := hP
        have hD : va_D A [(a 0, .inr (14, [.ref (a 1), .ref (a 2), .ref (a 27), .ref (a 30), .ref (a 74), .ref (a 75), .null, .int 0, .int 0])), (a 2, .inr (6, [.ref (a 3), .ref (a 14), .ref (a 26), .int 0, .int 0])), (a 8, .inr (12, [.ref (a 9), .ref (a 10), .int 0])), (a 11, .inr (12, [.ref (a 12), .ref (a 13), .int 0])), (a 3, .inr (11, [.ref (a 4), .ref (a 5), .ref (a 6), .ref (a 7), .ref (a 8), .ref (a 11), .int 0])), (a 4, .inl ((k 4), 12, .inl (fun _ => 0)))] := hD
        try dsimp only at hw21
        obtain rfl : 0 = r20 := (hw21).symm
        refine W.widen (k := 1) (n := 6) (by decide) (by decide) ?_
        exact vx_ret (W.iret (v := 0) hx hb hr (fun t ht hW => ⟨⟨0, (), rfl, (by unfold T_sky; rw [if_pos hc4, if_pos hc9]; exact ⟨rfl, rfl⟩), trivial⟩, hS.F ht⟩) hS.2.2 dX11_sky_44)
    · rw [if_neg hc9] at hw8
      subst hw8
      refine lv_if_ne (tgt := 29) hx hb dX11_sky_16 (by decide) (fun c22 => absurd c22 (by decide)) (fun c22 => ?_)
      obtain ⟨sa23, hsa23⟩ := hE.str 1 rfl
      exact vy_throwS rxN_0 rxN_1 rxN_2 rxN_5 (names := ["java/lang/RuntimeException", "java/lang/Exception"]) hx hb hlt hown (by decide +kernel) (by decide +kernel) (ht_at hts 33 rfl) (ht_at hts 34 rfl) hsa23 (bX_at2 hts hE) bX_ok2_134 hE.2.2.1 hE.2.2.2 hS (by rw [hml]; exact hl.1) dX11_sky_19 dX11_sky_22 dX11_sky_23 dX11_sky_25 dX11_sky_28 (fun x h => (hnt x h).elim) (by decide) (Nat.le_of_ble_eq_true rfl) (Nat.le_of_ble_eq_true rfl) (Nat.le_of_ble_eq_true rfl) hlocks (fun t hW hz hq => ⟨(), trivial, (by exact ⟨rfl, by unfold T_sky; rw [if_pos hc4, if_neg hc9]⟩), Nat.le_trans hS.1 hz, fun q h1 h2 => (hq q (Nat.lt_of_lt_of_le h1 hS.1)).trans (hS.2.1 q h1 h2)⟩) hS.2.2 (by decide) (by decide)
  · rw [if_neg hc4] at hw3
    subst hw3
    refine lv_if_eq (tgt := 19) hx hb dX11_sky_7 (by decide) (fun c24 => ?_) (fun c24 => absurd c24 (by decide))
    obtain ⟨sa25, hsa25⟩ := hE.str 1 rfl
    exact vy_throwS rxN_0 rxN_1 rxN_2 rxN_5 (names := ["java/lang/RuntimeException", "java/lang/Exception"]) hx hb hlt hown (by decide +kernel) (by decide +kernel) (ht_at hts 33 rfl) (ht_at hts 34 rfl) hsa25 (bX_at2 hts hE) bX_ok2_134 hE.2.2.1 hE.2.2.2 hS (by rw [hml]; exact hl.1) dX11_sky_19 dX11_sky_22 dX11_sky_23 dX11_sky_25 dX11_sky_28 (fun x h => (hnt x h).elim) (by decide) (Nat.le_of_ble_eq_true rfl) (Nat.le_of_ble_eq_true rfl) (Nat.le_of_ble_eq_true rfl) hlocks (fun t hW hz hq => ⟨(), trivial, (by exact ⟨rfl, by unfold T_sky; rw [if_neg hc4]⟩), Nat.le_trans hS.1 hz, fun q h1 h2 => (hq q (Nat.lt_of_lt_of_le h1 hS.1)).trans (hS.2.1 q h1 h2)⟩) hS.2.2 (by decide) (by decide)
def w_x_levelNow : List Cond := .code yX3_levelNow cX3_levelNow 2 (some .int) :: ([.fieldLink RX3 21 "SeaLand$Lake" "ground" "LSeaLand$Ground;", .fieldLink RX3 12 "SeaLand$Lake" "sky" "LSeaLand$Sky;", .fieldLink RX3 32 "SeaLand$Lake" "hour" "I", .code yX8_outsideAt cX8_outsideAt 4 (some .int), .fieldLink RX8 9 "SeaLand$Sky" "tides" "[I", .code yJ9_floorMod_7cf53 cJ9_floorMod_7cf53 3 (some .int), .methodLink RX8 38 yJ9_floorMod_7cf53, .static yJ9_floorMod_7cf53, .initialized RJ9, .fieldLink RX8 34 "SeaLand$Sky" "storms" "I", .methodLink RX3 44 yX8_outsideAt, .instanceMethod yX8_outsideAt, .selects RX8 yX8_outsideAt yX8_outsideAt, .initialized RX8] ++ bs)
set_option maxHeartbeats 4000000 in
set_option maxRecDepth 100000 in
theorem x_levelNow (l : Launch) (dC : Nat → ClassId) (dI : Nat → Nat → Nat) (a : Nat → Nat) (k : Nat → ClassId) (sq : Int32) (sz : Nat) (hsq : 0 ≤ sq ∧ sq ≤ 95) : Met l yX3_levelNow w_x_levelNow ({ frames := 2, cells := 0, slots := 0, locals := 45 }) (va_Pc [.ref (a 2), .int sq] (fun U => U.heap.size = sz ∧ va_P (dC, dI) vwCl [(a 2, .inr (6, [.ref (a 3), .ref (a 14), .ref (a 26), .int 0, .int 0])), (a 14, .inr (5, [.ref (a 15), .ref (a 16), .ref (a 17), .ref (a 18), .ref (a 19), .ref (a 20), .ref (a 21), .ref (a 22), .ref (a 23), .ref (a 24), .ref (a 25), .int 0, .int 0, .int 0, .int 0])), (a 15, .inl ((k 15), 96, .inl (fun _ => 0))), (a 3, .inr (11, [.ref (a 4), .ref (a 5), .ref (a 6), .ref (a 7), .ref (a 8), .ref (a 11), .int 0])), (a 4, .inl ((k 4), 12, .inl (fun _ => 0)))] U.heap ∧ va_K (dC, dI) vwCl [((k 15), .boolean), ((k 4), .int)] U ∧ va_D (fun _ => True) [(a 2, .inr (6, [.ref (a 3), .ref (a 14), .ref (a 26), .int 0, .int 0])), (a 14, .inr (5, [.ref (a 15), .ref (a 16), .ref (a 17), .ref (a 18), .ref (a 19), .ref (a 20), .ref (a 21), .ref (a 22), .ref (a 23), .ref (a 24), .ref (a 25), .int 0, .int 0, .int 0, .int 0])), (a 15, .inl ((k 15), 96, .inl (fun _ => 0))), (a 3, .inr (11, [.ref (a 4), .ref (a 5), .ref (a 6), .ref (a 7), .ref (a 8), .ref (a 11), .int 0])), (a 4, .inl ((k 4), 12, .inl (fun _ => 0)))] ∧ EV (va_A [(a 2, .inr (6, [.ref (a 3), .ref (a 14), .ref (a 26), .int 0, .int 0])), (a 14, .inr (5, [.ref (a 15), .ref (a 16), .ref (a 17), .ref (a 18), .ref (a 19), .ref (a 20), .ref (a 21), .ref (a 22), .ref (a 23), .ref (a 24), .ref (a 25), .int 0, .int 0, .int 0, .int 0])), (a 15, .inl ((k 15), 96, .inl (fun _ => 0))), (a 3, .inr (11, [.ref (a 4), .ref (a 5), .ref (a 6), .ref (a 7), .ref (a 8), .ref (a 11), .int 0])), (a 4, .inl ((k 4), 12, .inl (fun _ => 0)))] sz) U U.heap)) (va_Qi (fun (r : Int32) (u : Unit) => r = 0) (fun (_ : Unit) (t : State) => va_P (dC, dI) vwCl [(a 2, .inr (6, [.ref (a 3), .ref (a 14), .ref (a 26), .int 0, .int 0])), (a 14, .inr (5, [.ref (a 15), .ref (a 16), .ref (a 17), .ref (a 18), .ref (a 19), .ref (a 20), .ref (a 21), .ref (a 22), .ref (a 23), .ref (a 24), .ref (a 25), .int 0, .int 0, .int 0, .int 0])), (a 15, .inl ((k 15), 96, .inl (fun _ => 0))), (a 3, .inr (11, [.ref (a 4), .ref (a 5), .ref (a 6), .ref (a 7), .ref (a 8), .ref (a 11), .int 0])), (a 4, .inl ((k 4), 12, .inl (fun _ => 0)))] t.heap ∧ va_D (va_A [(a 2, .inr (6, [.ref (a 3), .ref (a 14), .ref (a 26), .int 0, .int 0])), (a 14, .inr (5, [.ref (a 15), .ref (a 16), .ref (a 17), .ref (a 18), .ref (a 19), .ref (a 20), .ref (a 21), .ref (a 22), .ref (a 23), .ref (a 24), .ref (a 25), .int 0, .int 0, .int 0, .int 0])), (a 15, .inl ((k 15), 96, .inl (fun _ => 0))), (a 3, .inr (11, [.ref (a 4), .ref (a 5), .ref (a 6), .ref (a 7), .ref (a 8), .ref (a 11), .int 0])), (a 4, .inl ((k 4), 12, .inl (fun _ => 0)))] sz) [(a 2, .inr (6, [.ref (a 3), .ref (a 14), .ref (a 26), .int 0, .int 0])), (a 14, .inr (5, [.ref (a 15), .ref (a 16), .ref (a 17), .ref (a 18), .ref (a 19), .ref (a 20), .ref (a 21), .ref (a 22), .ref (a 23), .ref (a 24), .ref (a 25), .int 0, .int 0, .int 0, .int 0])), (a 15, .inl ((k 15), 96, .inl (fun _ => 0))), (a 3, .inr (11, [.ref (a 4), .ref (a 5), .ref (a 6), .ref (a 7), .ref (a 8), .ref (a 11), .int 0])), (a 4, .inl ((k 4), 12, .inl (fun _ => 0)))]) (va_A [(a 2, .inr (6, [.ref (a 3), .ref (a 14), .ref (a 26), .int 0, .int 0])), (a 14, .inr (5, [.ref (a 15), .ref (a 16), .ref (a 17), .ref (a 18), .ref (a 19), .ref (a 20), .ref (a 21), .ref (a 22), .ref (a 23), .ref (a 24), .ref (a 25), .int 0, .int 0, .int 0, .int 0])), (a 15, .inl ((k 15), 96, .inl (fun _ => 0))), (a 3, .inr (11, [.ref (a 4), .ref (a 5), .ref (a 6), .ref (a 7), .ref (a 8), .ref (a 11), .int 0])), (a 4, .inl ((k 4), 12, .inl (fun _ => 0)))] sz)) 0 0 (va_A [(a 2, .inr (6, [.ref (a 3), .ref (a 14), .ref (a 26), .int 0, .int 0])), (a 14, .inr (5, [.ref (a 15), .ref (a 16), .ref (a 17), .ref (a 18), .ref (a 19), .ref (a 20), .ref (a 21), .ref (a 22), .ref (a 23), .ref (a 24), .ref (a 25), .int 0, .int 0, .int 0, .int 0])), (a 15, .inl ((k 15), 96, .inl (fun _ => 0))), (a 3, .inr (11, [.ref (a 4), .ref (a 5), .ref (a 6), .ref (a 7), .ref (a 8), .ref (a 11), .int 0])), (a 4, .inl ((k 4), 12, .inl (fun _ => 0)))] sz) := by
  refine Met.ofW (cc := cX3_levelNow) (maxL := 2) (ret := (some .int)) (by decide) rfl ?_
  intro p e s m args below meth c s₁ B hml hv
  obtain ⟨rfl, hsz, hP, hK, hD0, hE⟩ := hv
  have hx := B.exec
  have hb := B.bytes
  have hr := B.returns
  have hts := atoms_spec (ws := w_x_levelNow) B.pre
  have hown : s.vm.findClass RX3 = some m.cls := findClass_of_methodNamed B.named
  have hlocks := B.notSynchronized
  subst hsz
  have hD := hD0.self (sz := s.heap.size)
  generalize hAe : va_A [(a 2, .inr (6, [.ref (a 3), .ref (a 14), .ref (a 26), .int 0, .int 0])), (a 14, .inr (5, [.ref (a 15), .ref (a 16), .ref (a 17), .ref (a 18), .ref (a 19), .ref (a 20), .ref (a 21), .ref (a 22), .ref (a 23), .ref (a 24), .ref (a 25), .int 0, .int 0, .int 0, .int 0])), (a 15, .inl ((k 15), 96, .inl (fun _ => 0))), (a 3, .inr (11, [.ref (a 4), .ref (a 5), .ref (a 6), .ref (a 7), .ref (a 8), .ref (a 11), .int 0])), (a 4, .inl ((k 4), 12, .inl (fun _ => 0)))] s.heap.size = A at hD hE ⊢
  have hA : ∀ q : Nat, s.heap.size ≤ q → A q := fun q h => by rw [← hAe]; exact Or.inr h
  have hS : va_S A s.heap s.heap [] := va_S.rf
  have hP : va_P (dC, dI) vwCl [(a 2, .inr (6, [.ref (a 3), .ref (a 14), .ref (a 26), .int 0, .int 0])), (a 14, .inr (5, [.ref (a 15), .ref (a 16), .ref (a 17), .ref (a 18), .ref (a 19), .ref (a 20), .ref (a 21), .ref (a 22), .ref (a 23), .ref (a 24), .ref (a 25), .int 0, .int 0, .int 0, .int 0])), (a 15, .inl ((k 15), 96, .inl (fun _ => 0))), (a 3, .inr (11, [.ref (a 4), .ref (a 5), .ref (a 6), .ref (a 7), .ref (a 8), .ref (a 11), .int 0])), (a 4, .inl ((k 4), 12, .inl (fun _ => 0)))] s.heap := hP
  have hl := lv_entry ([.ref (a 2), .int sq]) (n := 2) (Nat.le_of_ble_eq_true rfl)
  rw [lg_entry_eq]
  generalize (lg_sl ([.ref (a 2), .int sq]) ++ List.replicate (2 - (lg_sl ([.ref (a 2), .int sq])).length) Slot.unset).toArray = ls at hl ⊢
  have hl : lv_has ls 2 [(0, .ref (a 2)), (1, .int sq)] := hl
  refine lv_aload_n hx hb dX3_levelNow_0 rfl (lv_at hl 0 rfl) ?_
  refine va_get (D := (dC, dI)) (ci := 6) (v := .ref (a 14)) (C := RX3) (T := TX3) (N := 5) hx hb hts bF_X3 hown hK hP 0 rfl rfl 1 (by decide) (ht_at hts 0 rfl) (fun _ h9 => h9) rfl dX3_levelNow_1 ?_
  refine va_getN (D := (dC, dI)) (ci := 5) (v := .ref (a 15)) (C := RX2) (T := TX2) (N := 15) hx hb hts bF_X2 hown hK hP 1 rfl rfl 0 (by decide) (hE.nw 77 rfl) (fun _ h9 => h9) rfl dX3_levelNow_4 ?_
  refine lv_iload_n hx hb dX3_levelNow_7 rfl (lv_at hl 1 rfl) ?_
  refine va_zald hx hb hK hP 2 0 rfl rfl (vin hsq (by decide)) dX3_levelNow_8 ?_
  refine lv_topi (fun x1 ex1 => ?_)
  obtain rfl : 0 = x1 := (ex1).symm
  refine lv_if_eq (tgt := 23) hx hb dX3_levelNow_9 (by decide) (fun c2 => ?_) (fun c2 => absurd c2 (by decide))
  refine lv_aload_n hx hb dX3_levelNow_23 rfl (lv_at hl 0 rfl) ?_
  refine va_get (D := (dC, dI)) (ci := 6) (v := .ref (a 3)) (C := RX3) (T := TX3) (N := 5) hx hb hts bF_X3 hown hK hP 0 rfl rfl 0 (by decide) (ht_at hts 1 rfl) (fun _ h9 => h9) rfl dX3_levelNow_24 ?_
  refine lv_aload_n hx hb dX3_levelNow_27 rfl (lv_at hl 0 rfl) ?_
  refine va_get (D := (dC, dI)) (ci := 6) (v := .int 0) (C := RX3) (T := TX3) (N := 5) hx hb hts bF_X3 hown hK hP 0 rfl rfl 4 (by decide) (ht_at hts 2 rfl) (fun _ h9 => h9) rfl dX3_levelNow_28 ?_
  have hPc := hP.sub (ws' := [(a 3, .inr (11, [.ref (a 4), .ref (a 5), .ref (a 6), .ref (a 7), .ref (a 8), .ref (a 11), .int 0])), (a 4, .inl ((k 4), 12, .inl (fun _ => 0)))]) [3, 4] rfl
  have hDc := hD.sub (ws' := [(a 3, .inr (11, [.ref (a 4), .ref (a 5), .ref (a 6), .ref (a 7), .ref (a 8), .ref (a 11), .int 0])), (a 4, .inl ((k 4), 12, .inl (fun _ => 0)))]) [3, 4] (by decide) rfl
  have hKc := hK.sub (tys' := [((k 4), .int)]) [1] rfl
  have hFc := va_free (wc := [(a 3, .inr (11, [.ref (a 4), .ref (a 5), .ref (a 6), .ref (a 7), .ref (a 8), .ref (a 11), .int 0])), (a 4, .inl ((k 4), 12, .inl (fun _ => 0)))]) hD hS hA [3, 4] rfl
  refine va_calli (va_runV (As := [.int 0]) (rest := []) ⟨hx, hb, hml, hown, hts⟩ (x_outsideAt l dC dI a k 0 s.heap.size (by decide)) (cwV 1 hts (goodIn_app (goodIn_r _ [11, 12, 13, 14] (by decide +kernel) (by decide +kernel)) (goodIn_ca (goodIn_r _ [4, 5, 6, 7, 8, 9, 10] (by decide +kernel) (by decide +kernel)) (bs_in _ _))) rfl rfl rfl (by decide +kernel) ⟨(Nat.le_of_ble_eq_true rfl), (Nat.le_of_ble_eq_true rfl)⟩) ⟨fun a U g mk q => by obtain ⟨q0, q1, qP, qK, qD, qE⟩ := q; exact ⟨q0, q1, qP, va_K.moved (u := U) (U := U.calling g mk a) (Vm.Alike.refl U.vm) qK, qD, EV.blind g mk a qE⟩, va_recv hKc hPc (ci := 11) (q0 := 0) rfl rfl, fun U hU hW => ⟨rfl, by rw [hU], by rw [hU]; exact hPc, va_K.moved hW.alike hKc, hDc.weaken (fun _ _ _ _ => trivial), hE.call hS hFc hU hW⟩⟩ rfl rfl hl.1 rfl (lv_room (Nat.le_of_ble_eq_true rfl)) dX3_levelNow_31 ⟨(Nat.le_of_ble_eq_true rfl), (Nat.le_of_ble_eq_true rfl)⟩) hS (fun q _ h => hFc q h) hFc (fun r4 u t H1 locs ht hvm hw5 hB hz1 hk1 hS => ?_)
  obtain ⟨hP1, hD1⟩ := hB
  rw [ht] at hP1
  obtain ⟨hP, hD⟩ := va_join (wr := [(a 2, .inr (6, [.ref (a 3), .ref (a 14), .ref (a 26), .int 0, .int 0])), (a 14, .inr (5, [.ref (a 15), .ref (a 16), .ref (a 17), .ref (a 18), .ref (a 19), .ref (a 20), .ref (a 21), .ref (a 22), .ref (a 23), .ref (a 24), .ref (a 25), .int 0, .int 0, .int 0, .int 0])), (a 15, .inl ((k 15), 96, .inl (fun _ => 0)))]) (w1 := [(a 3, .inr (11, [.ref (a 4), .ref (a 5), .ref (a 6), .ref (a 7), .ref (a 8), .ref (a 11), .int 0])), (a 4, .inl ((k 4), 12, .inl (fun _ => 0)))]) hP hD [3, 4] [0, 1, 2] rfl rfl (by decide) (by decide) hk1 hFc hP1 hD1
  generalize H1 = H at hP hS ⊢
  have hP : va_P (dC, dI) vwCl [(a 2, .inr (6, [.ref (a 3), .ref (a 14), .ref (a 26), .int 0, .int 0])), (a 14, .inr (5, [.ref (a 15), .ref (a 16), .ref (a 17), .ref (a 18), .ref (a 19), .ref (a 20), .ref (a 21), .ref (a 22), .ref (a 23), .ref (a 24), .ref (a 25), .int 0, .int 0, .int 0, .int 0])), (a 15, .inl ((k 15), 96, .inl (fun _ => 0))), (a 3, .inr (11, [.ref (a 4), .ref (a 5), .ref (a 6), .ref (a 7), .ref (a 8), .ref (a 11), .int 0])), (a 4, .inl ((k 4), 12, .inl (fun _ => 0)))] H := hP
  have hD : va_D A [(a 2, .inr (6, [.ref (a 3), .ref (a 14), .ref (a 26), .int 0, .int 0])), (a 14, .inr (5, [.ref (a 15), .ref (a 16), .ref (a 17), .ref (a 18), .ref (a 19), .ref (a 20), .ref (a 21), .ref (a 22), .ref (a 23), .ref (a 24), .ref (a 25), .int 0, .int 0, .int 0, .int 0])), (a 15, .inl ((k 15), 96, .inl (fun _ => 0))), (a 3, .inr (11, [.ref (a 4), .ref (a 5), .ref (a 6), .ref (a 7), .ref (a 8), .ref (a 11), .int 0])), (a 4, .inl ((k 4), 12, .inl (fun _ => 0)))] := hD
  try dsimp only at hw5
  obtain rfl : 0 = r4 := (hw5).symm
  exact W.iret (v := 0) hx hb hr (fun t ht hW => ⟨⟨0, (), rfl, (by rfl), by rw [ht]; exact hP.sub (ws' := [(a 2, .inr (6, [.ref (a 3), .ref (a 14), .ref (a 26), .int 0, .int 0])), (a 14, .inr (5, [.ref (a 15), .ref (a 16), .ref (a 17), .ref (a 18), .ref (a 19), .ref (a 20), .ref (a 21), .ref (a 22), .ref (a 23), .ref (a 24), .ref (a 25), .int 0, .int 0, .int 0, .int 0])), (a 15, .inl ((k 15), 96, .inl (fun _ => 0))), (a 3, .inr (11, [.ref (a 4), .ref (a 5), .ref (a 6), .ref (a 7), .ref (a 8), .ref (a 11), .int 0])), (a 4, .inl ((k 4), 12, .inl (fun _ => 0)))]) [0, 1, 2, 3, 4] rfl, hD.sub (ws' := [(a 2, .inr (6, [.ref (a 3), .ref (a 14), .ref (a 26), .int 0, .int 0])), (a 14, .inr (5, [.ref (a 15), .ref (a 16), .ref (a 17), .ref (a 18), .ref (a 19), .ref (a 20), .ref (a 21), .ref (a 22), .ref (a 23), .ref (a 24), .ref (a 25), .int 0, .int 0, .int 0, .int 0])), (a 15, .inl ((k 15), 96, .inl (fun _ => 0))), (a 3, .inr (11, [.ref (a 4), .ref (a 5), .ref (a 6), .ref (a 7), .ref (a 8), .ref (a 11), .int 0])), (a 4, .inl ((k 4), 12, .inl (fun _ => 0)))]) [0, 1, 2, 3, 4] (by decide) rfl⟩, hS.F ht⟩) hS.2.2 dX3_levelNow_34
def w_x_square : List Cond := .code yX11_square cX11_square 4 (some .int) :: ([.code yX11_needSquare cX11_needSquare 1 none, .code yX11_within cX11_within 3 (some .boolean), .methodLink RX11 58 yX11_within, .static yX11_within, .initialized RX11, .classLink RX11 557 "java/lang/IndexOutOfBoundsException", .initialized "java/lang/IndexOutOfBoundsException", .methodLink RX11 55 yX11_needSquare, .static yX11_needSquare, .fieldLink RX11 16 "SeaLand" "lake" "LSeaLand$Lake;", .code yX3_levelNow cX3_levelNow 2 (some .int), .fieldLink RX3 21 "SeaLand$Lake" "ground" "LSeaLand$Ground;", .fieldLink RX3 12 "SeaLand$Lake" "sky" "LSeaLand$Sky;", .fieldLink RX3 32 "SeaLand$Lake" "hour" "I", .code yX8_outsideAt cX8_outsideAt 4 (some .int), .fieldLink RX8 9 "SeaLand$Sky" "tides" "[I", .code yJ9_floorMod_7cf53 cJ9_floorMod_7cf53 3 (some .int), .methodLink RX8 38 yJ9_floorMod_7cf53, .static yJ9_floorMod_7cf53, .initialized RJ9, .fieldLink RX8 34 "SeaLand$Sky" "storms" "I", .methodLink RX3 44 yX8_outsideAt, .instanceMethod yX8_outsideAt, .selects RX8 yX8_outsideAt yX8_outsideAt, .initialized RX8, .methodLink RX11 245 yX3_levelNow, .instanceMethod yX3_levelNow, .selects RX3 yX3_levelNow yX3_levelNow, .initialized RX3, .fieldLink RX11 30 "SeaLand" "board" "LSeaLand$Board;", .code yX3_workOn cX3_workOn 3 (some .int), .fieldLink RX3 47 "SeaLand$Lake" "built" "I", .methodLink RX11 257 yX3_workOn, .instanceMethod yX3_workOn, .selects RX3 yX3_workOn yX3_workOn, .classLink RX11 134 "java/util/NoSuchElementException", .initialized "java/util/NoSuchElementException"] ++ bs)
set_option maxHeartbeats 4000000 in
set_option maxRecDepth 100000 in
theorem x_square (l : Launch) (hlt : l.stackTraces = false) (dC : Nat → ClassId) (dI : Nat → Nat → Nat) (a : Nat → Nat) (k : Nat → ClassId) (p0 p1 : Int32) (sz : Nat) : vx_Met l yX11_square w_x_square ({ frames := 7, cells := 2, slots := 12, locals := 120 }) (va_Pc [.ref (a 0), .int p0, .int p1] (fun U => U.heap.size = sz ∧ va_P (dC, dI) vwCl [(a 0, .inr (14, [.ref (a 1), .ref (a 2), .ref (a 27), .ref (a 30), .ref (a 74), .ref (a 75), .null, .int 0, .int 0])), (a 2, .inr (6, [.ref (a 3), .ref (a 14), .ref (a 26), .int 0, .int 0])), (a 14, .inr (5, [.ref (a 15), .ref (a 16), .ref (a 17), .ref (a 18), .ref (a 19), .ref (a 20), .ref (a 21), .ref (a 22), .ref (a 23), .ref (a 24), .ref (a 25), .int 0, .int 0, .int 0, .int 0])), (a 15, .inl ((k 15), 96, .inl (fun _ => 0))), (a 16, .inl ((k 16), 96, .inl (fun _ => 0))), (a 17, .inl ((k 17), 96, .inl (fun _ => 0))), (a 18, .inl ((k 18), 96, .inl (fun _ => 0))), (a 19, .inl ((k 19), 96, .inl (fun _ => 0))), (a 20, .inl ((k 20), 96, .inl (fun _ => 0))), (a 21, .inl ((k 21), 96, .inl (fun _ => 0))), (a 22, .inl ((k 22), 96, .inl (fun _ => 0))), (a 3, .inr (11, [.ref (a 4), .ref (a 5), .ref (a 6), .ref (a 7), .ref (a 8), .ref (a 11), .int 0])), (a 4, .inl ((k 4), 12, .inl (fun _ => 0))), (a 30, .inr (3, [.ref (a 31), .ref (a 32), .ref (a 33), .ref (a 34), .ref (a 35), .ref (a 36), .ref (a 37), .ref (a 38), .ref (a 50), .ref (a 62), .int (-1), .int 0, .long 0, .long 0, .int 0, .int 0, .int 0, .int 0])), (a 32, .inl ((k 32), 96, .inl (fun _ => (-1))))] U.heap ∧ va_K (dC, dI) vwCl [((k 15), .boolean), ((k 16), .int), ((k 17), .int), ((k 18), .int), ((k 19), .int), ((k 20), .int), ((k 21), .int), ((k 22), .int), ((k 4), .int), ((k 32), .int)] U ∧ va_D (fun _ => True) [(a 0, .inr (14, [.ref (a 1), .ref (a 2), .ref (a 27), .ref (a 30), .ref (a 74), .ref (a 75), .null, .int 0, .int 0])), (a 2, .inr (6, [.ref (a 3), .ref (a 14), .ref (a 26), .int 0, .int 0])), (a 14, .inr (5, [.ref (a 15), .ref (a 16), .ref (a 17), .ref (a 18), .ref (a 19), .ref (a 20), .ref (a 21), .ref (a 22), .ref (a 23), .ref (a 24), .ref (a 25), .int 0, .int 0, .int 0, .int 0])), (a 15, .inl ((k 15), 96, .inl (fun _ => 0))), (a 16, .inl ((k 16), 96, .inl (fun _ => 0))), (a 17, .inl ((k 17), 96, .inl (fun _ => 0))), (a 18, .inl ((k 18), 96, .inl (fun _ => 0))), (a 19, .inl ((k 19), 96, .inl (fun _ => 0))), (a 20, .inl ((k 20), 96, .inl (fun _ => 0))), (a 21, .inl ((k 21), 96, .inl (fun _ => 0))), (a 22, .inl ((k 22), 96, .inl (fun _ => 0))), (a 3, .inr (11, [.ref (a 4), .ref (a 5), .ref (a 6), .ref (a 7), .ref (a 8), .ref (a 11), .int 0])), (a 4, .inl ((k 4), 12, .inl (fun _ => 0))), (a 30, .inr (3, [.ref (a 31), .ref (a 32), .ref (a 33), .ref (a 34), .ref (a 35), .ref (a 36), .ref (a 37), .ref (a 38), .ref (a 50), .ref (a 62), .int (-1), .int 0, .long 0, .long 0, .int 0, .int 0, .int 0, .int 0])), (a 32, .inl ((k 32), 96, .inl (fun _ => (-1))))] ∧ EV (va_A [(a 0, .inr (14, [.ref (a 1), .ref (a 2), .ref (a 27), .ref (a 30), .ref (a 74), .ref (a 75), .null, .int 0, .int 0])), (a 2, .inr (6, [.ref (a 3), .ref (a 14), .ref (a 26), .int 0, .int 0])), (a 14, .inr (5, [.ref (a 15), .ref (a 16), .ref (a 17), .ref (a 18), .ref (a 19), .ref (a 20), .ref (a 21), .ref (a 22), .ref (a 23), .ref (a 24), .ref (a 25), .int 0, .int 0, .int 0, .int 0])), (a 15, .inl ((k 15), 96, .inl (fun _ => 0))), (a 16, .inl ((k 16), 96, .inl (fun _ => 0))), (a 17, .inl ((k 17), 96, .inl (fun _ => 0))), (a 18, .inl ((k 18), 96, .inl (fun _ => 0))), (a 19, .inl ((k 19), 96, .inl (fun _ => 0))), (a 20, .inl ((k 20), 96, .inl (fun _ => 0))), (a 21, .inl ((k 21), 96, .inl (fun _ => 0))), (a 22, .inl ((k 22), 96, .inl (fun _ => 0))), (a 3, .inr (11, [.ref (a 4), .ref (a 5), .ref (a 6), .ref (a 7), .ref (a 8), .ref (a 11), .int 0])), (a 4, .inl ((k 4), 12, .inl (fun _ => 0))), (a 30, .inr (3, [.ref (a 31), .ref (a 32), .ref (a 33), .ref (a 34), .ref (a 35), .ref (a 36), .ref (a 37), .ref (a 38), .ref (a 50), .ref (a 62), .int (-1), .int 0, .long 0, .long 0, .int 0, .int 0, .int 0, .int 0])), (a 32, .inl ((k 32), 96, .inl (fun _ => (-1))))] sz) U U.heap)) (va_Qi (fun (r : Int32) (u : Unit) => r = (T_square p0 p1).2 ∧ (T_square p0 p1).1 = 0) (fun (_ : Unit) (_ : State) => True) (va_A [(a 0, .inr (14, [.ref (a 1), .ref (a 2), .ref (a 27), .ref (a 30), .ref (a 74), .ref (a 75), .null, .int 0, .int 0])), (a 2, .inr (6, [.ref (a 3), .ref (a 14), .ref (a 26), .int 0, .int 0])), (a 14, .inr (5, [.ref (a 15), .ref (a 16), .ref (a 17), .ref (a 18), .ref (a 19), .ref (a 20), .ref (a 21), .ref (a 22), .ref (a 23), .ref (a 24), .ref (a 25), .int 0, .int 0, .int 0, .int 0])), (a 15, .inl ((k 15), 96, .inl (fun _ => 0))), (a 16, .inl ((k 16), 96, .inl (fun _ => 0))), (a 17, .inl ((k 17), 96, .inl (fun _ => 0))), (a 18, .inl ((k 18), 96, .inl (fun _ => 0))), (a 19, .inl ((k 19), 96, .inl (fun _ => 0))), (a 20, .inl ((k 20), 96, .inl (fun _ => 0))), (a 21, .inl ((k 21), 96, .inl (fun _ => 0))), (a 22, .inl ((k 22), 96, .inl (fun _ => 0))), (a 3, .inr (11, [.ref (a 4), .ref (a 5), .ref (a 6), .ref (a 7), .ref (a 8), .ref (a 11), .int 0])), (a 4, .inl ((k 4), 12, .inl (fun _ => 0))), (a 30, .inr (3, [.ref (a 31), .ref (a 32), .ref (a 33), .ref (a 34), .ref (a 35), .ref (a 36), .ref (a 37), .ref (a 38), .ref (a 50), .ref (a 62), .int (-1), .int 0, .long 0, .long 0, .int 0, .int 0, .int 0, .int 0])), (a 32, .inl ((k 32), 96, .inl (fun _ => (-1))))] sz)) (vx_X (fun _ : Unit => True) (fun E _ _ => (E = "java/lang/IndexOutOfBoundsException" ∧ (T_square p0 p1).1 = 1) ∨ (E = "java/util/NoSuchElementException" ∧ (T_square p0 p1).1 = 2)) (va_A [(a 0, .inr (14, [.ref (a 1), .ref (a 2), .ref (a 27), .ref (a 30), .ref (a 74), .ref (a 75), .null, .int 0, .int 0])), (a 2, .inr (6, [.ref (a 3), .ref (a 14), .ref (a 26), .int 0, .int 0])), (a 14, .inr (5, [.ref (a 15), .ref (a 16), .ref (a 17), .ref (a 18), .ref (a 19), .ref (a 20), .ref (a 21), .ref (a 22), .ref (a 23), .ref (a 24), .ref (a 25), .int 0, .int 0, .int 0, .int 0])), (a 15, .inl ((k 15), 96, .inl (fun _ => 0))), (a 16, .inl ((k 16), 96, .inl (fun _ => 0))), (a 17, .inl ((k 17), 96, .inl (fun _ => 0))), (a 18, .inl ((k 18), 96, .inl (fun _ => 0))), (a 19, .inl ((k 19), 96, .inl (fun _ => 0))), (a 20, .inl ((k 20), 96, .inl (fun _ => 0))), (a 21, .inl ((k 21), 96, .inl (fun _ => 0))), (a 22, .inl ((k 22), 96, .inl (fun _ => 0))), (a 3, .inr (11, [.ref (a 4), .ref (a 5), .ref (a 6), .ref (a 7), .ref (a 8), .ref (a 11), .int 0])), (a 4, .inl ((k 4), 12, .inl (fun _ => 0))), (a 30, .inr (3, [.ref (a 31), .ref (a 32), .ref (a 33), .ref (a 34), .ref (a 35), .ref (a 36), .ref (a 37), .ref (a 38), .ref (a 50), .ref (a 62), .int (-1), .int 0, .long 0, .long 0, .int 0, .int 0, .int 0, .int 0])), (a 32, .inl ((k 32), 96, .inl (fun _ => (-1))))] sz)) 2 12 (va_A [(a 0, .inr (14, [.ref (a 1), .ref (a 2), .ref (a 27), .ref (a 30), .ref (a 74), .ref (a 75), .null, .int 0, .int 0])), (a 2, .inr (6, [.ref (a 3), .ref (a 14), .ref (a 26), .int 0, .int 0])), (a 14, .inr (5, [.ref (a 15), .ref (a 16), .ref (a 17), .ref (a 18), .ref (a 19), .ref (a 20), .ref (a 21), .ref (a 22), .ref (a 23), .ref (a 24), .ref (a 25), .int 0, .int 0, .int 0, .int 0])), (a 15, .inl ((k 15), 96, .inl (fun _ => 0))), (a 16, .inl ((k 16), 96, .inl (fun _ => 0))), (a 17, .inl ((k 17), 96, .inl (fun _ => 0))), (a 18, .inl ((k 18), 96, .inl (fun _ => 0))), (a 19, .inl ((k 19), 96, .inl (fun _ => 0))), (a 20, .inl ((k 20), 96, .inl (fun _ => 0))), (a 21, .inl ((k 21), 96, .inl (fun _ => 0))), (a 22, .inl ((k 22), 96, .inl (fun _ => 0))), (a 3, .inr (11, [.ref (a 4), .ref (a 5), .ref (a 6), .ref (a 7), .ref (a 8), .ref (a 11), .int 0])), (a 4, .inl ((k 4), 12, .inl (fun _ => 0))), (a 30, .inr (3, [.ref (a 31), .ref (a 32), .ref (a 33), .ref (a 34), .ref (a 35), .ref (a 36), .ref (a 37), .ref (a 38), .ref (a 50), .ref (a 62), .int (-1), .int 0, .long 0, .long 0, .int 0, .int 0, .int 0, .int 0])), (a 32, .inl ((k 32), 96, .inl (fun _ => (-1))))] sz) := by
  refine vx_ofW (cc := cX11_square) (maxL := 4) (ret := (some .int)) (by decide) rfl ?_
  intro p e s m args below meth c s₁ B hml hnt hv
  obtain ⟨rfl, hsz, hP, hK, hD0, hE⟩ := hv
  have hx := B.exec
  have hb := B.bytes
  have hr := B.returns
  have hts := atoms_spec (ws := w_x_square) B.pre
  have hown : s.vm.findClass RX11 = some m.cls := findClass_of_methodNamed B.named
  have hlocks := B.notSynchronized
  subst hsz
  have hD := hD0.self (sz := s.heap.size)
  generalize hAe : va_A [(a 0, .inr (14, [.ref (a 1), .ref (a 2), .ref (a 27), .ref (a 30), .ref (a 74), .ref (a 75), .null, .int 0, .int 0])), (a 2, .inr (6, [.ref (a 3), .ref (a 14), .ref (a 26), .int 0, .int 0])), (a 14, .inr (5, [.ref (a 15), .ref (a 16), .ref (a 17), .ref (a 18), .ref (a 19), .ref (a 20), .ref (a 21), .ref (a 22), .ref (a 23), .ref (a 24), .ref (a 25), .int 0, .int 0, .int 0, .int 0])), (a 15, .inl ((k 15), 96, .inl (fun _ => 0))), (a 16, .inl ((k 16), 96, .inl (fun _ => 0))), (a 17, .inl ((k 17), 96, .inl (fun _ => 0))), (a 18, .inl ((k 18), 96, .inl (fun _ => 0))), (a 19, .inl ((k 19), 96, .inl (fun _ => 0))), (a 20, .inl ((k 20), 96, .inl (fun _ => 0))), (a 21, .inl ((k 21), 96, .inl (fun _ => 0))), (a 22, .inl ((k 22), 96, .inl (fun _ => 0))), (a 3, .inr (11, [.ref (a 4), .ref (a 5), .ref (a 6), .ref (a 7), .ref (a 8), .ref (a 11), .int 0])), (a 4, .inl ((k 4), 12, .inl (fun _ => 0))), (a 30, .inr (3, [.ref (a 31), .ref (a 32), .ref (a 33), .ref (a 34), .ref (a 35), .ref (a 36), .ref (a 37), .ref (a 38), .ref (a 50), .ref (a 62), .int (-1), .int 0, .long 0, .long 0, .int 0, .int 0, .int 0, .int 0])), (a 32, .inl ((k 32), 96, .inl (fun _ => (-1))))] s.heap.size = A at hD hE ⊢
  have hA : ∀ q : Nat, s.heap.size ≤ q → A q := fun q h => by rw [← hAe]; exact Or.inr h
  have hS : va_S A s.heap s.heap [] := va_S.rf
  have hP : va_P (dC, dI) vwCl [(a 0, .inr (14, [.ref (a 1), .ref (a 2), .ref (a 27), .ref (a 30), .ref (a 74), .ref (a 75), .null, .int 0, .int 0])), (a 2, .inr (6, [.ref (a 3), .ref (a 14), .ref (a 26), .int 0, .int 0])), (a 14, .inr (5, [.ref (a 15), .ref (a 16), .ref (a 17), .ref (a 18), .ref (a 19), .ref (a 20), .ref (a 21), .ref (a 22), .ref (a 23), .ref (a 24), .ref (a 25), .int 0, .int 0, .int 0, .int 0])), (a 15, .inl ((k 15), 96, .inl (fun _ => 0))), (a 16, .inl ((k 16), 96, .inl (fun _ => 0))), (a 17, .inl ((k 17), 96, .inl (fun _ => 0))), (a 18, .inl ((k 18), 96, .inl (fun _ => 0))), (a 19, .inl ((k 19), 96, .inl (fun _ => 0))), (a 20, .inl ((k 20), 96, .inl (fun _ => 0))), (a 21, .inl ((k 21), 96, .inl (fun _ => 0))), (a 22, .inl ((k 22), 96, .inl (fun _ => 0))), (a 3, .inr (11, [.ref (a 4), .ref (a 5), .ref (a 6), .ref (a 7), .ref (a 8), .ref (a 11), .int 0])), (a 4, .inl ((k 4), 12, .inl (fun _ => 0))), (a 30, .inr (3, [.ref (a 31), .ref (a 32), .ref (a 33), .ref (a 34), .ref (a 35), .ref (a 36), .ref (a 37), .ref (a 38), .ref (a 50), .ref (a 62), .int (-1), .int 0, .long 0, .long 0, .int 0, .int 0, .int 0, .int 0])), (a 32, .inl ((k 32), 96, .inl (fun _ => (-1))))] s.heap := hP
  have hl := lv_entry ([.ref (a 0), .int p0, .int p1]) (n := 4) (Nat.le_of_ble_eq_true rfl)
  rw [lg_entry_eq]
  generalize (lg_sl ([.ref (a 0), .int p0, .int p1]) ++ List.replicate (4 - (lg_sl ([.ref (a 0), .int p0, .int p1])).length) Slot.unset).toArray = ls at hl ⊢
  have hl : lv_has ls 4 [(0, .ref (a 0)), (1, .int p0), (2, .int p1)] := hl
  refine lv_iload_n hx hb dX11_square_0 rfl (lv_at hl 1 rfl) ?_
  have hPc := hP.sub (ws' := []) [] rfl
  have hDc := hD.sub (ws' := []) [] (by decide) rfl
  have hKc := hK.sub (tys' := []) [] rfl
  have hFc := va_free (wc := []) hD hS hA [] rfl
  refine vx_callv (vx_runS (As := [.int p0]) (rest := []) ⟨hx, hb, hml, hown, hts⟩ (c_needSquare l hlt dC dI p0 s.heap.size ) (va_cwS 1 hts (goodIn_app (goodIn_r _ [8, 9, 5] (by decide +kernel) (by decide +kernel)) (goodIn_ca (goodIn_r _ [1, 2, 3, 4, 5, 6, 7] (by decide +kernel) (by decide +kernel)) (bs_in _ _))) rfl rfl rfl (by decide +kernel) ⟨(Nat.le_of_ble_eq_true rfl), (Nat.le_of_ble_eq_true rfl)⟩) ⟨fun a U g mk q => by obtain ⟨q0, q1, qP, qK, qD, qE⟩ := q; exact ⟨q0, q1, qP, va_K.moved (u := U) (U := U.calling g mk a) (Vm.Alike.refl U.vm) qK, qD, EV.blind g mk a qE⟩, fun U hU hW => ⟨rfl, by rw [hU], by rw [hU]; exact hPc, va_K.moved hW.alike hKc, hDc.weaken (fun _ _ _ _ => trivial), hE.call hS hFc hU hW⟩⟩ rfl rfl hl.1 rfl (lv_room (Nat.le_of_ble_eq_true rfl)) dX11_square_1 ⟨(Nat.le_of_ble_eq_true rfl), (Nat.le_of_ble_eq_true rfl)⟩) hS (fun q _ h => hFc q h) hFc (fun q _ h => hFc q h) (fun E ce q9 u t H1 locs ht hvm _ hw3 hz1 hk1 hS hce hcv hcl => ?_) (fun u t H1 locs ht hvm hw3 hB hz1 hk1 hS => ?_)
  · exact vx_out (fun x h => (hnt x h).elim) hlocks hce hcv hcl (fun t2 h2 hW => ⟨(), trivial, (by exact Or.inl (⟨hw3.1, by unfold T_square; rw [if_neg hw3.2]⟩)), hS.F h2⟩) hS.2.2 (by decide) (by decide)
  · have hP1 : va_P (dC, dI) vwCl [] H1 := nilP
    have hD1 : va_D (va_A [] s.heap.size) [] := nilD
    have hK := hK
    obtain ⟨hP, hD⟩ := va_join (wr := [(a 0, .inr (14, [.ref (a 1), .ref (a 2), .ref (a 27), .ref (a 30), .ref (a 74), .ref (a 75), .null, .int 0, .int 0])), (a 2, .inr (6, [.ref (a 3), .ref (a 14), .ref (a 26), .int 0, .int 0])), (a 14, .inr (5, [.ref (a 15), .ref (a 16), .ref (a 17), .ref (a 18), .ref (a 19), .ref (a 20), .ref (a 21), .ref (a 22), .ref (a 23), .ref (a 24), .ref (a 25), .int 0, .int 0, .int 0, .int 0])), (a 15, .inl ((k 15), 96, .inl (fun _ => 0))), (a 16, .inl ((k 16), 96, .inl (fun _ => 0))), (a 17, .inl ((k 17), 96, .inl (fun _ => 0))), (a 18, .inl ((k 18), 96, .inl (fun _ => 0))), (a 19, .inl ((k 19), 96, .inl (fun _ => 0))), (a 20, .inl ((k 20), 96, .inl (fun _ => 0))), (a 21, .inl ((k 21), 96, .inl (fun _ => 0))), (a 22, .inl ((k 22), 96, .inl (fun _ => 0))), (a 3, .inr (11, [.ref (a 4), .ref (a 5), .ref (a 6), .ref (a 7), .ref (a 8), .ref (a 11), .int 0])), (a 4, .inl ((k 4), 12, .inl (fun _ => 0))), (a 30, .inr (3, [.ref (a 31), .ref (a 32), .ref (a 33), .ref (a 34), .ref (a 35), .ref (a 36), .ref (a 37), .ref (a 38), .ref (a 50), .ref (a 62), .int (-1), .int 0, .long 0, .long 0, .int 0, .int 0, .int 0, .int 0])), (a 32, .inl ((k 32), 96, .inl (fun _ => (-1))))]) (w1 := []) hP hD [] [0, 1, 2, 3, 4, 5, 6, 7, 8, 9, 10, 11, 12, 13, 14] rfl rfl (by decide) (by decide) hk1 hFc hP1 hD1
    generalize H1 = H at hP hS ⊢
    have hP : va_P (dC, dI) vwCl [(a 0, .inr (14, [.ref (a 1), .ref (a 2), .ref (a 27), .ref (a 30), .ref (a 74), .ref (a 75), .null, .int 0, .int 0])), (a 2, .inr (6, [.ref (a 3), .ref (a 14), .ref (a 26), .int 0, .int 0])), (a 14, .inr (5, [.ref (a 15), .ref (a 16), .ref (a 17), .ref (a 18), .ref (a 19), .ref (a 20), .ref (a 21), .ref (a 22), .ref (a 23), .ref (a 24), .ref (a 25), .int 0, .int 0, .int 0, .int 0])), (a 15, .inl ((k 15), 96, .inl (fun _ => 0))), (a 16, .inl ((k 16), 96, .inl (fun _ => 0))), (a 17, .inl ((k 17), 96, .inl (fun _ => 0))), (a 18, .inl ((k 18), 96, .inl (fun _ => 0))), (a 19, .inl ((k 19), 96, .inl (fun _ => 0))), (a 20, .inl ((k 20), 96, .inl (fun _ => 0))), (a 21, .inl ((k 21), 96, .inl (fun _ => 0))), (a 22, .inl ((k 22), 96, .inl (fun _ => 0))), (a 3, .inr (11, [.ref (a 4), .ref (a 5), .ref (a 6), .ref (a 7), .ref (a 8), .ref (a 11), .int 0])), (a 4, .inl ((k 4), 12, .inl (fun _ => 0))), (a 30, .inr (3, [.ref (a 31), .ref (a 32), .ref (a 33), .ref (a 34), .ref (a 35), .ref (a 36), .ref (a 37), .ref (a 38), .ref (a 50), .ref (a 62), .int (-1), .int 0, .long 0, .long 0, .int 0, .int 0, .int 0, .int 0])), (a 32, .inl ((k 32), 96, .inl (fun _ => (-1))))] H := hP
    have hD : va_D A [(a 0, .inr (14, [.ref (a 1), .ref (a 2), .ref (a 27), .ref (a 30), .ref (a 74), .ref (a 75), .null, .int 0, .int 0])), (a 2, .inr (6, [.ref (a 3), .ref (a 14), .ref (a 26), .int 0, .int 0])), (a 14, .inr (5, [.ref (a 15), .ref (a 16), .ref (a 17), .ref (a 18), .ref (a 19), .ref (a 20), .ref (a 21), .ref (a 22), .ref (a 23), .ref (a 24), .ref (a 25), .int 0, .int 0, .int 0, .int 0])), (a 15, .inl ((k 15), 96, .inl (fun _ => 0))), (a 16, .inl ((k 16), 96, .inl (fun _ => 0))), (a 17, .inl ((k 17), 96, .inl (fun _ => 0))), (a 18, .inl ((k 18), 96, .inl (fun _ => 0))), (a 19, .inl ((k 19), 96, .inl (fun _ => 0))), (a 20, .inl ((k 20), 96, .inl (fun _ => 0))), (a 21, .inl ((k 21), 96, .inl (fun _ => 0))), (a 22, .inl ((k 22), 96, .inl (fun _ => 0))), (a 3, .inr (11, [.ref (a 4), .ref (a 5), .ref (a 6), .ref (a 7), .ref (a 8), .ref (a 11), .int 0])), (a 4, .inl ((k 4), 12, .inl (fun _ => 0))), (a 30, .inr (3, [.ref (a 31), .ref (a 32), .ref (a 33), .ref (a 34), .ref (a 35), .ref (a 36), .ref (a 37), .ref (a 38), .ref (a 50), .ref (a 62), .int (-1), .int 0, .long 0, .long 0, .int 0, .int 0, .int 0, .int 0])), (a 32, .inl ((k 32), 96, .inl (fun _ => (-1))))] := hD
    try dsimp only at hw3
    refine lv_aload_n hx hb dX11_square_4 rfl (lv_at hl 0 rfl) ?_
    refine va_get (D := (dC, dI)) (ci := 14) (v := .ref (a 2)) (C := RX11) (T := TX11) (N := 9) hx hb hts bF_X11 hown hK hP 0 rfl rfl 1 (by decide) (ht_at hts 9 rfl) (fun _ h9 => h9) rfl dX11_square_5 ?_
    refine va_getN (D := (dC, dI)) (ci := 6) (v := .ref (a 14)) (C := RX3) (T := TX3) (N := 5) hx hb hts bF_X3 hown hK hP 1 rfl rfl 1 (by decide) (hE.nw 1 rfl) (fun _ h9 => h9) rfl dX11_square_8 ?_
    refine lv_astore_n (lv' := [(3, .ref (a 14)), (0, .ref (a 0)), (1, .int p0), (2, .int p1)]) hx hb dX11_square_11 rfl hl (by decide) rfl (fun ls hl => ?_)
    refine lv_iload_n hx hb dX11_square_12 rfl (lv_at hl 3 rfl) ?_
    by_cases hs4 : p1 = 0
    · subst hs4
      refine lv_tableIn (x := 0) (off := 59) (tgt := 72) hx hb dX11_square_13 (by decide) (by decide) (by decide) (by decide) ?_
      refine lv_aload_n hx hb dX11_square_72 rfl (lv_at hl 0 rfl) ?_
      refine va_getN (D := (dC, dI)) (ci := 5) (v := .ref (a 15)) (C := RX2) (T := TX2) (N := 15) hx hb hts bF_X2 hown hK hP 2 rfl rfl 0 (by decide) (hE.nw 2 rfl) (fun _ h9 => h9) rfl dX11_square_73 ?_
      refine lv_iload_n hx hb dX11_square_76 rfl (lv_at hl 2 rfl) ?_
      refine va_zald hx hb hK hP 3 0 rfl rfl (vin hw3 (by decide)) dX11_square_77 ?_
      refine lv_topi (fun x5 ex5 => ?_)
      obtain rfl : 0 = x5 := (ex5).symm
      refine lv_if_eq (tgt := 85) hx hb dX11_square_78 (by decide) (fun c6 => ?_) (fun c6 => absurd c6 (by decide))
      refine lv_iconst (v := 0) hx hb dX11_square_85 (by decide) ?_
      refine W.widen (k := 2) (n := 12) (by decide) (by decide) ?_
      exact vx_ret (W.iret (v := 0) hx hb hr (fun t ht hW => ⟨⟨0, (), rfl, (by unfold T_square; rw [if_pos hw3]; exact ⟨by decide, by decide⟩), trivial⟩, hS.F ht⟩) hS.2.2 dX11_square_86)
    by_cases hs7 : p1 = 1
    · subst hs7
      refine lv_tableIn (x := 1) (off := 74) (tgt := 87) hx hb dX11_square_13 (by decide) (by decide) (by decide) (by decide) ?_
      refine lv_aload_n hx hb dX11_square_87 rfl (lv_at hl 0 rfl) ?_
      refine va_getN (D := (dC, dI)) (ci := 5) (v := .ref (a 16)) (C := RX2) (T := TX2) (N := 15) hx hb hts bF_X2 hown hK hP 2 rfl rfl 1 (by decide) (hE.nw 16 rfl) (fun _ h9 => h9) rfl dX11_square_88 ?_
      refine lv_iload_n hx hb dX11_square_91 rfl (lv_at hl 2 rfl) ?_
      refine va_iald hx hb hK hP 4 1 rfl rfl (vin hw3 (by decide)) dX11_square_92 ?_
      refine lv_topi (fun x8 ex8 => ?_)
      obtain rfl : 0 = x8 := (ex8).symm
      refine W.widen (k := 2) (n := 12) (by decide) (by decide) ?_
      exact vx_ret (W.iret (v := 0) hx hb hr (fun t ht hW => ⟨⟨0, (), rfl, (by unfold T_square; rw [if_pos hw3]; exact ⟨by decide, by decide⟩), trivial⟩, hS.F ht⟩) hS.2.2 dX11_square_93)
    by_cases hs9 : p1 = 2
    · subst hs9
      refine lv_tableIn (x := 2) (off := 81) (tgt := 94) hx hb dX11_square_13 (by decide) (by decide) (by decide) (by decide) ?_
      refine lv_aload_n hx hb dX11_square_94 rfl (lv_at hl 0 rfl) ?_
      refine va_getN (D := (dC, dI)) (ci := 5) (v := .ref (a 17)) (C := RX2) (T := TX2) (N := 15) hx hb hts bF_X2 hown hK hP 2 rfl rfl 2 (by decide) (hE.nw 17 rfl) (fun _ h9 => h9) rfl dX11_square_95 ?_
      refine lv_iload_n hx hb dX11_square_98 rfl (lv_at hl 2 rfl) ?_
      refine va_iald hx hb hK hP 5 2 rfl rfl (vin hw3 (by decide)) dX11_square_99 ?_
      refine lv_topi (fun x10 ex10 => ?_)
      obtain rfl : 0 = x10 := (ex10).symm
      refine W.widen (k := 2) (n := 12) (by decide) (by decide) ?_
      exact vx_ret (W.iret (v := 0) hx hb hr (fun t ht hW => ⟨⟨0, (), rfl, (by unfold T_square; rw [if_pos hw3]; exact ⟨by decide, by decide⟩), trivial⟩, hS.F ht⟩) hS.2.2 dX11_square_100)
    by_cases hs11 : p1 = 3
    · subst hs11
      refine lv_tableIn (x := 3) (off := 88) (tgt := 101) hx hb dX11_square_13 (by decide) (by decide) (by decide) (by decide) ?_
      refine lv_aload_n hx hb dX11_square_101 rfl (lv_at hl 0 rfl) ?_
      refine va_getN (D := (dC, dI)) (ci := 5) (v := .ref (a 18)) (C := RX2) (T := TX2) (N := 15) hx hb hts bF_X2 hown hK hP 2 rfl rfl 3 (by decide) (hE.nw 18 rfl) (fun _ h9 => h9) rfl dX11_square_102 ?_
      refine lv_iload_n hx hb dX11_square_105 rfl (lv_at hl 2 rfl) ?_
      refine va_iald hx hb hK hP 6 3 rfl rfl (vin hw3 (by decide)) dX11_square_106 ?_
      refine lv_topi (fun x12 ex12 => ?_)
      obtain rfl : 0 = x12 := (ex12).symm
      refine W.widen (k := 2) (n := 12) (by decide) (by decide) ?_
      exact vx_ret (W.iret (v := 0) hx hb hr (fun t ht hW => ⟨⟨0, (), rfl, (by unfold T_square; rw [if_pos hw3]; exact ⟨by decide, by decide⟩), trivial⟩, hS.F ht⟩) hS.2.2 dX11_square_107)
    by_cases hs13 : p1 = 4
    · subst hs13
      refine lv_tableIn (x := 4) (off := 95) (tgt := 108) hx hb dX11_square_13 (by decide) (by decide) (by decide) (by decide) ?_
      refine lv_aload_n hx hb dX11_square_108 rfl (lv_at hl 0 rfl) ?_
      refine va_getN (D := (dC, dI)) (ci := 5) (v := .ref (a 19)) (C := RX2) (T := TX2) (N := 15) hx hb hts bF_X2 hown hK hP 2 rfl rfl 4 (by decide) (hE.nw 19 rfl) (fun _ h9 => h9) rfl dX11_square_109 ?_
      refine lv_iload_n hx hb dX11_square_112 rfl (lv_at hl 2 rfl) ?_
      refine va_iald hx hb hK hP 7 4 rfl rfl (vin hw3 (by decide)) dX11_square_113 ?_
      refine lv_topi (fun x14 ex14 => ?_)
      obtain rfl : 0 = x14 := (ex14).symm
      refine W.widen (k := 2) (n := 12) (by decide) (by decide) ?_
      exact vx_ret (W.iret (v := 0) hx hb hr (fun t ht hW => ⟨⟨0, (), rfl, (by unfold T_square; rw [if_pos hw3]; exact ⟨by decide, by decide⟩), trivial⟩, hS.F ht⟩) hS.2.2 dX11_square_114)
    by_cases hs15 : p1 = 5
    · subst hs15
      refine lv_tableIn (x := 5) (off := 102) (tgt := 115) hx hb dX11_square_13 (by decide) (by decide) (by decide) (by decide) ?_
      refine lv_aload_n hx hb dX11_square_115 rfl (lv_at hl 0 rfl) ?_
      refine va_getN (D := (dC, dI)) (ci := 5) (v := .ref (a 20)) (C := RX2) (T := TX2) (N := 15) hx hb hts bF_X2 hown hK hP 2 rfl rfl 5 (by decide) (hE.nw 20 rfl) (fun _ h9 => h9) rfl dX11_square_116 ?_
      refine lv_iload_n hx hb dX11_square_119 rfl (lv_at hl 2 rfl) ?_
      refine va_iald hx hb hK hP 8 5 rfl rfl (vin hw3 (by decide)) dX11_square_120 ?_
      refine lv_topi (fun x16 ex16 => ?_)
      obtain rfl : 0 = x16 := (ex16).symm
      refine W.widen (k := 2) (n := 12) (by decide) (by decide) ?_
      exact vx_ret (W.iret (v := 0) hx hb hr (fun t ht hW => ⟨⟨0, (), rfl, (by unfold T_square; rw [if_pos hw3]; exact ⟨by decide, by decide⟩), trivial⟩, hS.F ht⟩) hS.2.2 dX11_square_121)
    by_cases hs17 : p1 = 6
    · subst hs17
      refine lv_tableIn (x := 6) (off := 109) (tgt := 122) hx hb dX11_square_13 (by decide) (by decide) (by decide) (by decide) ?_
      refine lv_aload_n hx hb dX11_square_122 rfl (lv_at hl 1 rfl) ?_
      refine va_get (D := (dC, dI)) (ci := 14) (v := .ref (a 2)) (C := RX11) (T := TX11) (N := 9) hx hb hts bF_X11 hown hK hP 0 rfl rfl 1 (by decide) (ht_at hts 9 rfl) (fun _ h9 => h9) rfl dX11_square_123 ?_
      refine lv_iload_n hx hb dX11_square_126 rfl (lv_at hl 2 rfl) ?_
      have hPc := hP.sub (ws' := [(a 2, .inr (6, [.ref (a 3), .ref (a 14), .ref (a 26), .int 0, .int 0])), (a 14, .inr (5, [.ref (a 15), .ref (a 16), .ref (a 17), .ref (a 18), .ref (a 19), .ref (a 20), .ref (a 21), .ref (a 22), .ref (a 23), .ref (a 24), .ref (a 25), .int 0, .int 0, .int 0, .int 0])), (a 15, .inl ((k 15), 96, .inl (fun _ => 0))), (a 3, .inr (11, [.ref (a 4), .ref (a 5), .ref (a 6), .ref (a 7), .ref (a 8), .ref (a 11), .int 0])), (a 4, .inl ((k 4), 12, .inl (fun _ => 0)))]) [1, 2, 3, 11, 12] rfl
      have hDc := hD.sub (ws' := [(a 2, .inr (6, [.ref (a 3), .ref (a 14), .ref (a 26), .int 0, .int 0])), (a 14, .inr (5, [.ref (a 15), .ref (a 16), .ref (a 17), .ref (a 18), .ref (a 19), .ref (a 20), .ref (a 21), .ref (a 22), .ref (a 23), .ref (a 24), .ref (a 25), .int 0, .int 0, .int 0, .int 0])), (a 15, .inl ((k 15), 96, .inl (fun _ => 0))), (a 3, .inr (11, [.ref (a 4), .ref (a 5), .ref (a 6), .ref (a 7), .ref (a 8), .ref (a 11), .int 0])), (a 4, .inl ((k 4), 12, .inl (fun _ => 0)))]) [1, 2, 3, 11, 12] (by decide) rfl
      have hKc := hK.sub (tys' := [((k 15), .boolean), ((k 4), .int)]) [0, 8] rfl
      have hFc := va_free (wc := [(a 2, .inr (6, [.ref (a 3), .ref (a 14), .ref (a 26), .int 0, .int 0])), (a 14, .inr (5, [.ref (a 15), .ref (a 16), .ref (a 17), .ref (a 18), .ref (a 19), .ref (a 20), .ref (a 21), .ref (a 22), .ref (a 23), .ref (a 24), .ref (a 25), .int 0, .int 0, .int 0, .int 0])), (a 15, .inl ((k 15), 96, .inl (fun _ => 0))), (a 3, .inr (11, [.ref (a 4), .ref (a 5), .ref (a 6), .ref (a 7), .ref (a 8), .ref (a 11), .int 0])), (a 4, .inl ((k 4), 12, .inl (fun _ => 0)))]) hD hS hA [1, 2, 3, 11, 12] rfl
      refine va_calli (va_runV (As := [.int p0]) (rest := []) ⟨hx, hb, hml, hown, hts⟩ (x_levelNow l dC dI a k p0 H.size hw3) (cwV 1 hts (goodIn_app (goodIn_r _ [26, 27, 28, 29] (by decide +kernel) (by decide +kernel)) (goodIn_ca (goodIn_r _ [11, 12, 13, 14, 15, 16, 17, 18, 19, 20, 21, 22, 23, 24, 25] (by decide +kernel) (by decide +kernel)) (bs_in _ _))) rfl rfl rfl (by decide +kernel) ⟨(Nat.le_of_ble_eq_true rfl), (Nat.le_of_ble_eq_true rfl)⟩) ⟨fun a U g mk q => by obtain ⟨q0, q1, qP, qK, qD, qE⟩ := q; exact ⟨q0, q1, qP, va_K.moved (u := U) (U := U.calling g mk a) (Vm.Alike.refl U.vm) qK, qD, EV.blind g mk a qE⟩, va_recv hKc hPc (ci := 6) (q0 := 0) rfl rfl, fun U hU hW => ⟨rfl, by rw [hU], by rw [hU]; exact hPc, va_K.moved hW.alike hKc, hDc.weaken (fun _ _ _ _ => trivial), hE.call hS hFc hU hW⟩⟩ rfl rfl hl.1 rfl (lv_room (Nat.le_of_ble_eq_true rfl)) dX11_square_127 ⟨(Nat.le_of_ble_eq_true rfl), (Nat.le_of_ble_eq_true rfl)⟩) hS (fun q _ h => hFc q h) hFc (fun r19 u t H1 locs ht hvm hw20 hB hz1 hk1 hS => ?_)
      obtain ⟨hP1, hD1⟩ := hB
      rw [ht] at hP1
      obtain ⟨hP, hD⟩ := va_join (wr := [(a 0, .inr (14, [.ref (a 1), .ref (a 2), .ref (a 27), .ref (a 30), .ref (a 74), .ref (a 75), .null, .int 0, .int 0])), (a 16, .inl ((k 16), 96, .inl (fun _ => 0))), (a 17, .inl ((k 17), 96, .inl (fun _ => 0))), (a 18, .inl ((k 18), 96, .inl (fun _ => 0))), (a 19, .inl ((k 19), 96, .inl (fun _ => 0))), (a 20, .inl ((k 20), 96, .inl (fun _ => 0))), (a 21, .inl ((k 21), 96, .inl (fun _ => 0))), (a 22, .inl ((k 22), 96, .inl (fun _ => 0))), (a 30, .inr (3, [.ref (a 31), .ref (a 32), .ref (a 33), .ref (a 34), .ref (a 35), .ref (a 36), .ref (a 37), .ref (a 38), .ref (a 50), .ref (a 62), .int (-1), .int 0, .long 0, .long 0, .int 0, .int 0, .int 0, .int 0])), (a 32, .inl ((k 32), 96, .inl (fun _ => (-1))))]) (w1 := [(a 2, .inr (6, [.ref (a 3), .ref (a 14), .ref (a 26), .int 0, .int 0])), (a 14, .inr (5, [.ref (a 15), .ref (a 16), .ref (a 17), .ref (a 18), .ref (a 19), .ref (a 20), .ref (a 21), .ref (a 22), .ref (a 23), .ref (a 24), .ref (a 25), .int 0, .int 0, .int 0, .int 0])), (a 15, .inl ((k 15), 96, .inl (fun _ => 0))), (a 3, .inr (11, [.ref (a 4), .ref (a 5), .ref (a 6), .ref (a 7), .ref (a 8), .ref (a 11), .int 0])), (a 4, .inl ((k 4), 12, .inl (fun _ => 0)))]) hP hD [1, 2, 3, 11, 12] [0, 4, 5, 6, 7, 8, 9, 10, 13, 14] rfl rfl (by decide) (by decide) hk1 hFc hP1 hD1
      generalize H1 = H at hP hS ⊢
      have hP : va_P (dC, dI) vwCl [(a 0, .inr (14, [.ref (a 1), .ref (a 2), .ref (a 27), .ref (a 30), .ref (a 74), .ref (a 75), .null, .int 0, .int 0])), (a 16, .inl ((k 16), 96, .inl (fun _ => 0))), (a 17, .inl ((k 17), 96, .inl (fun _ => 0))), (a 18, .inl ((k 18), 96, .inl (fun _ => 0))), (a 19, .inl ((k 19), 96, .inl (fun _ => 0))), (a 20, .inl ((k 20), 96, .inl (fun _ => 0))), (a 21, .inl ((k 21), 96, .inl (fun _ => 0))), (a 22, .inl ((k 22), 96, .inl (fun _ => 0))), (a 30, .inr (3, [.ref (a 31), .ref (a 32), .ref (a 33), .ref (a 34), .ref (a 35), .ref (a 36), .ref (a 37), .ref (a 38), .ref (a 50), .ref (a 62), .int (-1), .int 0, .long 0, .long 0, .int 0, .int 0, .int 0, .int 0])), (a 32, .inl ((k 32), 96, .inl (fun _ => (-1)))), (a 2, .inr (6, [.ref (a 3), .ref (a 14), .ref (a 26), .int 0, .int 0])), (a 14, .inr (5, [.ref (a 15), .ref (a 16), .ref (a 17), .ref (a 18), .ref (a 19), .ref (a 20), .ref (a 21), .ref (a 22), .ref (a 23), .ref (a 24), .ref (a 25), .int 0, .int 0, .int 0, .int 0])), (a 15, .inl ((k 15), 96, .inl (fun _ => 0))), (a 3, .inr (11, [.ref (a 4), .ref (a 5), .ref (a 6), .ref (a 7), .ref (a 8), .ref (a 11), .int 0])), (a 4, .inl ((k 4), 12, .inl (fun _ => 0)))] H := hP
      have hD : va_D A [(a 0, .inr (14, [.ref (a 1), .ref (a 2), .ref (a 27), .ref (a 30), .ref (a 74), .ref (a 75), .null, .int 0, .int 0])), (a 16, .inl ((k 16), 96, .inl (fun _ => 0))), (a 17, .inl ((k 17), 96, .inl (fun _ => 0))), (a 18, .inl ((k 18), 96, .inl (fun _ => 0))), (a 19, .inl ((k 19), 96, .inl (fun _ => 0))), (a 20, .inl ((k 20), 96, .inl (fun _ => 0))), (a 21, .inl ((k 21), 96, .inl (fun _ => 0))), (a 22, .inl ((k 22), 96, .inl (fun _ => 0))), (a 30, .inr (3, [.ref (a 31), .ref (a 32), .ref (a 33), .ref (a 34), .ref (a 35), .ref (a 36), .ref (a 37), .ref (a 38), .ref (a 50), .ref (a 62), .int (-1), .int 0, .long 0, .long 0, .int 0, .int 0, .int 0, .int 0])), (a 32, .inl ((k 32), 96, .inl (fun _ => (-1)))), (a 2, .inr (6, [.ref (a 3), .ref (a 14), .ref (a 26), .int 0, .int 0])), (a 14, .inr (5, [.ref (a 15), .ref (a 16), .ref (a 17), .ref (a 18), .ref (a 19), .ref (a 20), .ref (a 21), .ref (a 22), .ref (a 23), .ref (a 24), .ref (a 25), .int 0, .int 0, .int 0, .int 0])), (a 15, .inl ((k 15), 96, .inl (fun _ => 0))), (a 3, .inr (11, [.ref (a 4), .ref (a 5), .ref (a 6), .ref (a 7), .ref (a 8), .ref (a 11), .int 0])), (a 4, .inl ((k 4), 12, .inl (fun _ => 0)))] := hD
      try dsimp only at hw20
      obtain rfl : 0 = r19 := (hw20).symm
      refine W.widen (k := 2) (n := 12) (by decide) (by decide) ?_
      exact vx_ret (W.iret (v := 0) hx hb hr (fun t ht hW => ⟨⟨0, (), rfl, (by unfold T_square; rw [if_pos hw3]; exact ⟨by decide, by decide⟩), trivial⟩, hS.F ht⟩) hS.2.2 dX11_square_130)
    by_cases hs21 : p1 = 7
    · subst hs21
      refine lv_tableIn (x := 7) (off := 118) (tgt := 131) hx hb dX11_square_13 (by decide) (by decide) (by decide) (by decide) ?_
      refine lv_aload_n hx hb dX11_square_131 rfl (lv_at hl 0 rfl) ?_
      refine va_getN (D := (dC, dI)) (ci := 5) (v := .ref (a 21)) (C := RX2) (T := TX2) (N := 15) hx hb hts bF_X2 hown hK hP 2 rfl rfl 6 (by decide) (hE.nw 21 rfl) (fun _ h9 => h9) rfl dX11_square_132 ?_
      refine lv_iload_n hx hb dX11_square_135 rfl (lv_at hl 2 rfl) ?_
      refine va_iald hx hb hK hP 9 6 rfl rfl (vin hw3 (by decide)) dX11_square_136 ?_
      refine lv_topi (fun x22 ex22 => ?_)
      obtain rfl : 0 = x22 := (ex22).symm
      refine W.widen (k := 2) (n := 12) (by decide) (by decide) ?_
      exact vx_ret (W.iret (v := 0) hx hb hr (fun t ht hW => ⟨⟨0, (), rfl, (by unfold T_square; rw [if_pos hw3]; exact ⟨by decide, by decide⟩), trivial⟩, hS.F ht⟩) hS.2.2 dX11_square_137)
    by_cases hs23 : p1 = 8
    · subst hs23
      refine lv_tableIn (x := 8) (off := 125) (tgt := 138) hx hb dX11_square_13 (by decide) (by decide) (by decide) (by decide) ?_
      refine lv_aload_n hx hb dX11_square_138 rfl (lv_at hl 0 rfl) ?_
      refine va_getN (D := (dC, dI)) (ci := 5) (v := .ref (a 22)) (C := RX2) (T := TX2) (N := 15) hx hb hts bF_X2 hown hK hP 2 rfl rfl 7 (by decide) (hE.nw 22 rfl) (fun _ h9 => h9) rfl dX11_square_139 ?_
      refine lv_iload_n hx hb dX11_square_142 rfl (lv_at hl 2 rfl) ?_
      refine va_iald hx hb hK hP 10 7 rfl rfl (vin hw3 (by decide)) dX11_square_143 ?_
      refine lv_topi (fun x24 ex24 => ?_)
      obtain rfl : 0 = x24 := (ex24).symm
      refine W.widen (k := 2) (n := 12) (by decide) (by decide) ?_
      exact vx_ret (W.iret (v := 0) hx hb hr (fun t ht hW => ⟨⟨0, (), rfl, (by unfold T_square; rw [if_pos hw3]; exact ⟨by decide, by decide⟩), trivial⟩, hS.F ht⟩) hS.2.2 dX11_square_144)
    by_cases hs25 : p1 = 9
    · subst hs25
      refine lv_tableIn (x := 9) (off := 132) (tgt := 145) hx hb dX11_square_13 (by decide) (by decide) (by decide) (by decide) ?_
      refine lv_aload_n hx hb dX11_square_145 rfl (lv_at hl 1 rfl) ?_
      refine va_get (D := (dC, dI)) (ci := 14) (v := .ref (a 30)) (C := RX11) (T := TX11) (N := 9) hx hb hts bF_X11 hown hK hP 0 rfl rfl 3 (by decide) (ht_at hts 29 rfl) (fun _ h9 => h9) rfl dX11_square_146 ?_
      refine va_getN (D := (dC, dI)) (ci := 3) (v := .ref (a 32)) (C := RX0) (T := TX0) (N := 18) hx hb hts bF_X0 hown hK hP 13 rfl rfl 1 (by decide) (hE.nw 23 rfl) (fun _ h9 => h9) rfl dX11_square_149 ?_
      refine lv_iload_n hx hb dX11_square_152 rfl (lv_at hl 2 rfl) ?_
      refine va_iald hx hb hK hP 14 9 rfl rfl (vin hw3 (by decide)) dX11_square_153 ?_
      refine lv_topi (fun x26 ex26 => ?_)
      obtain rfl : (-1) = x26 := (ex26).symm
      refine W.widen (k := 2) (n := 12) (by decide) (by decide) ?_
      exact vx_ret (W.iret (v := (-1)) hx hb hr (fun t ht hW => ⟨⟨(-1), (), rfl, (by unfold T_square; rw [if_pos hw3]; exact ⟨by decide, by decide⟩), trivial⟩, hS.F ht⟩) hS.2.2 dX11_square_154)
    by_cases hs27 : p1 = 10
    · subst hs27
      refine lv_tableIn (x := 10) (off := 142) (tgt := 155) hx hb dX11_square_13 (by decide) (by decide) (by decide) (by decide) ?_
      refine lv_aload_n hx hb dX11_square_155 rfl (lv_at hl 1 rfl) ?_
      refine va_get (D := (dC, dI)) (ci := 14) (v := .ref (a 2)) (C := RX11) (T := TX11) (N := 9) hx hb hts bF_X11 hown hK hP 0 rfl rfl 1 (by decide) (ht_at hts 9 rfl) (fun _ h9 => h9) rfl dX11_square_156 ?_
      refine lv_iload_n hx hb dX11_square_159 rfl (lv_at hl 2 rfl) ?_
      have hPc := hP.sub (ws' := [(a 2, .inr (6, [.ref (a 3), .ref (a 14), .ref (a 26), .int 0, .int 0]))]) [1] rfl
      have hDc := hD.sub (ws' := [(a 2, .inr (6, [.ref (a 3), .ref (a 14), .ref (a 26), .int 0, .int 0]))]) [1] (by decide) rfl
      have hKc := hK.sub (tys' := []) [] rfl
      have hFc := va_free (wc := [(a 2, .inr (6, [.ref (a 3), .ref (a 14), .ref (a 26), .int 0, .int 0]))]) hD hS hA [1] rfl
      refine va_calli (va_runV (As := [.int p0]) (rest := []) ⟨hx, hb, hml, hown, hts⟩ (x_workOn l dC dI a k p0 H.size ) (cwV 1 hts (goodIn_app (goodIn_r _ [33, 34, 35, 29] (by decide +kernel) (by decide +kernel)) (goodIn_ca (goodIn_r _ [31, 32] (by decide +kernel) (by decide +kernel)) (bs_in _ _))) rfl rfl rfl (by decide +kernel) ⟨(Nat.le_of_ble_eq_true rfl), (Nat.le_of_ble_eq_true rfl)⟩) ⟨fun a U g mk q => by obtain ⟨q0, q1, qP, qK, qD, qE⟩ := q; exact ⟨q0, q1, qP, va_K.moved (u := U) (U := U.calling g mk a) (Vm.Alike.refl U.vm) qK, qD, EV.blind g mk a qE⟩, va_recv hKc hPc (ci := 6) (q0 := 0) rfl rfl, fun U hU hW => ⟨rfl, by rw [hU], by rw [hU]; exact hPc, va_K.moved hW.alike hKc, hDc.weaken (fun _ _ _ _ => trivial), hE.call hS hFc hU hW⟩⟩ rfl rfl hl.1 rfl (lv_room (Nat.le_of_ble_eq_true rfl)) dX11_square_160 ⟨(Nat.le_of_ble_eq_true rfl), (Nat.le_of_ble_eq_true rfl)⟩) hS (fun q _ h => hFc q h) hFc (fun r29 u t H1 locs ht hvm hw30 hB hz1 hk1 hS => ?_)
      obtain ⟨hP1, hD1⟩ := hB
      rw [ht] at hP1
      obtain ⟨hP, hD⟩ := va_join (wr := [(a 0, .inr (14, [.ref (a 1), .ref (a 2), .ref (a 27), .ref (a 30), .ref (a 74), .ref (a 75), .null, .int 0, .int 0])), (a 14, .inr (5, [.ref (a 15), .ref (a 16), .ref (a 17), .ref (a 18), .ref (a 19), .ref (a 20), .ref (a 21), .ref (a 22), .ref (a 23), .ref (a 24), .ref (a 25), .int 0, .int 0, .int 0, .int 0])), (a 15, .inl ((k 15), 96, .inl (fun _ => 0))), (a 16, .inl ((k 16), 96, .inl (fun _ => 0))), (a 17, .inl ((k 17), 96, .inl (fun _ => 0))), (a 18, .inl ((k 18), 96, .inl (fun _ => 0))), (a 19, .inl ((k 19), 96, .inl (fun _ => 0))), (a 20, .inl ((k 20), 96, .inl (fun _ => 0))), (a 21, .inl ((k 21), 96, .inl (fun _ => 0))), (a 22, .inl ((k 22), 96, .inl (fun _ => 0))), (a 3, .inr (11, [.ref (a 4), .ref (a 5), .ref (a 6), .ref (a 7), .ref (a 8), .ref (a 11), .int 0])), (a 4, .inl ((k 4), 12, .inl (fun _ => 0))), (a 30, .inr (3, [.ref (a 31), .ref (a 32), .ref (a 33), .ref (a 34), .ref (a 35), .ref (a 36), .ref (a 37), .ref (a 38), .ref (a 50), .ref (a 62), .int (-1), .int 0, .long 0, .long 0, .int 0, .int 0, .int 0, .int 0])), (a 32, .inl ((k 32), 96, .inl (fun _ => (-1))))]) (w1 := [(a 2, .inr (6, [.ref (a 3), .ref (a 14), .ref (a 26), .int 0, .int 0]))]) hP hD [1] [0, 2, 3, 4, 5, 6, 7, 8, 9, 10, 11, 12, 13, 14] rfl rfl (by decide) (by decide) hk1 hFc hP1 hD1
      generalize H1 = H at hP hS ⊢
      have hP : va_P (dC, dI) vwCl [(a 0, .inr (14, [.ref (a 1), .ref (a 2), .ref (a 27), .ref (a 30), .ref (a 74), .ref (a 75), .null, .int 0, .int 0])), (a 14, .inr (5, [.ref (a 15), .ref (a 16), .ref (a 17), .ref (a 18), .ref (a 19), .ref (a 20), .ref (a 21), .ref (a 22), .ref (a 23), .ref (a 24), .ref (a 25), .int 0, .int 0, .int 0, .int 0])), (a 15, .inl ((k 15), 96, .inl (fun _ => 0))), (a 16, .inl ((k 16), 96, .inl (fun _ => 0))), (a 17, .inl ((k 17), 96, .inl (fun _ => 0))), (a 18, .inl ((k 18), 96, .inl (fun _ => 0))), (a 19, .inl ((k 19), 96, .inl (fun _ => 0))), (a 20, .inl ((k 20), 96, .inl (fun _ => 0))), (a 21, .inl ((k 21), 96, .inl (fun _ => 0))), (a 22, .inl ((k 22), 96, .inl (fun _ => 0))), (a 3, .inr (11, [.ref (a 4), .ref (a 5), .ref (a 6), .ref (a 7), .ref (a 8), .ref (a 11), .int 0])), (a 4, .inl ((k 4), 12, .inl (fun _ => 0))), (a 30, .inr (3, [.ref (a 31), .ref (a 32), .ref (a 33), .ref (a 34), .ref (a 35), .ref (a 36), .ref (a 37), .ref (a 38), .ref (a 50), .ref (a 62), .int (-1), .int 0, .long 0, .long 0, .int 0, .int 0, .int 0, .int 0])), (a 32, .inl ((k 32), 96, .inl (fun _ => (-1)))), (a 2, .inr (6, [.ref (a 3), .ref (a 14), .ref (a 26), .int 0, .int 0]))] H := hP
      have hD : va_D A [(a 0, .inr (14, [.ref (a 1), .ref (a 2), .ref (a 27), .ref (a 30), .ref (a 74), .ref (a 75), .null, .int 0, .int 0])), (a 14, .inr (5, [.ref (a 15), .ref (a 16), .ref (a 17), .ref (a 18), .ref (a 19), .ref (a 20), .ref (a 21), .ref (a 22), .ref (a 23), .ref (a 24), .ref (a 25), .int 0, .int 0, .int 0, .int 0])), (a 15, .inl ((k 15), 96, .inl (fun _ => 0))), (a 16, .inl ((k 16), 96, .inl (fun _ => 0))), (a 17, .inl ((k 17), 96, .inl (fun _ => 0))), (a 18, .inl ((k 18), 96, .inl (fun _ => 0))), (a 19, .inl ((k 19), 96, .inl (fun _ => 0))), (a 20, .inl ((k 20), 96, .inl (fun _ => 0))), (a 21, .inl ((k 21), 96, .inl (fun _ => 0))), (a 22, .inl ((k 22), 96, .inl (fun _ => 0))), (a 3, .inr (11, [.ref (a 4), .ref (a 5), .ref (a 6), .ref (a 7), .ref (a 8), .ref (a 11), .int 0])), (a 4, .inl ((k 4), 12, .inl (fun _ => 0))), (a 30, .inr (3, [.ref (a 31), .ref (a 32), .ref (a 33), .ref (a 34), .ref (a 35), .ref (a 36), .ref (a 37), .ref (a 38), .ref (a 50), .ref (a 62), .int (-1), .int 0, .long 0, .long 0, .int 0, .int 0, .int 0, .int 0])), (a 32, .inl ((k 32), 96, .inl (fun _ => (-1)))), (a 2, .inr (6, [.ref (a 3), .ref (a 14), .ref (a 26), .int 0, .int 0]))] := hD
      try dsimp only at hw30
      obtain rfl : (-1) = r29 := (hw30).symm
      refine W.widen (k := 2) (n := 12) (by decide) (by decide) ?_
      exact vx_ret (W.iret (v := (-1)) hx hb hr (fun t ht hW => ⟨⟨(-1), (), rfl, (by unfold T_square; rw [if_pos hw3]; exact ⟨by decide, by decide⟩), trivial⟩, hS.F ht⟩) hS.2.2 dX11_square_163)
    have ho31 : p1.toInt < 0 ∨ 10 < p1.toInt := by
      have ehs4 : p1.toInt ≠ 0 := fun e => hs4 (Int32.toInt_inj.mp (e.trans (by decide)))
      have ehs7 : p1.toInt ≠ 1 := fun e => hs7 (Int32.toInt_inj.mp (e.trans (by decide)))
      have ehs9 : p1.toInt ≠ 2 := fun e => hs9 (Int32.toInt_inj.mp (e.trans (by decide)))
      have ehs11 : p1.toInt ≠ 3 := fun e => hs11 (Int32.toInt_inj.mp (e.trans (by decide)))
      have ehs13 : p1.toInt ≠ 4 := fun e => hs13 (Int32.toInt_inj.mp (e.trans (by decide)))
      have ehs15 : p1.toInt ≠ 5 := fun e => hs15 (Int32.toInt_inj.mp (e.trans (by decide)))
      have ehs17 : p1.toInt ≠ 6 := fun e => hs17 (Int32.toInt_inj.mp (e.trans (by decide)))
      have ehs21 : p1.toInt ≠ 7 := fun e => hs21 (Int32.toInt_inj.mp (e.trans (by decide)))
      have ehs23 : p1.toInt ≠ 8 := fun e => hs23 (Int32.toInt_inj.mp (e.trans (by decide)))
      have ehs25 : p1.toInt ≠ 9 := fun e => hs25 (Int32.toInt_inj.mp (e.trans (by decide)))
      have ehs27 : p1.toInt ≠ 10 := fun e => hs27 (Int32.toInt_inj.mp (e.trans (by decide)))
      omega
    refine lv_tableOut (tgt := 164) hx hb dX11_square_13 ho31 (by decide) ?_
    obtain ⟨sa32, hsa32⟩ := hE.str 3 rfl
    exact vy_throwSW rxN_0 rxN_1 rxN_2 rxN_5 (names := ["java/lang/RuntimeException", "java/lang/Exception"]) hx hb hlt hown (by decide +kernel) (by decide +kernel) (ht_at hts 35 rfl) (ht_at hts 36 rfl) hsa32 (bX_at2 hts hE) bX_ok2_134 hE.2.2.1 hE.2.2.2 hS (by rw [hml]; exact hl.1) dX11_square_164 dX11_square_167 dX11_square_168 dX11_square_171 dX11_square_174 (fun x h => (hnt x h).elim) (by decide) (Nat.le_of_ble_eq_true rfl) (Nat.le_of_ble_eq_true rfl) (Nat.le_of_ble_eq_true rfl) hlocks (fun t hW hz hq => ⟨(), trivial, (by exact Or.inr ⟨rfl, by unfold T_square; rw [if_pos hw3, if_neg (w_out ho31 (by decide) (by decide)), if_neg (w_out ho31 (by decide) (by decide))]⟩), Nat.le_trans hS.1 hz, fun q h1 h2 => (hq q (Nat.lt_of_lt_of_le h1 hS.1)).trans (hS.2.1 q h1 h2)⟩) hS.2.2 (by decide) (by decide)
def w_x_end : List Cond := .code yX11_end cX11_end 2 (some .boolean) :: ([.fieldLink RX11 47 "SeaLand" "taped" "I"] ++ bs)
set_option maxHeartbeats 4000000 in
set_option maxRecDepth 100000 in
theorem x_end (l : Launch) (dC : Nat → ClassId) (dI : Nat → Nat → Nat) (a : Nat → Nat) (k : Nat → ClassId) (p0 : Int32) (sz : Nat) : Met l yX11_end w_x_end ({ frames := 0, cells := 0, slots := 0, locals := 0 }) (va_Pc [.ref (a 0), .int p0] (fun U => U.heap.size = sz ∧ va_P (dC, dI) vwCl [(a 0, .inr (14, [.ref (a 1), .ref (a 2), .ref (a 27), .ref (a 30), .ref (a 74), .ref (a 75), .null, .int 0, .int 0]))] U.heap ∧ va_K (dC, dI) vwCl [] U ∧ va_D (fun _ => True) [(a 0, .inr (14, [.ref (a 1), .ref (a 2), .ref (a 27), .ref (a 30), .ref (a 74), .ref (a 75), .null, .int 0, .int 0]))] ∧ EV (va_A [(a 0, .inr (14, [.ref (a 1), .ref (a 2), .ref (a 27), .ref (a 30), .ref (a 74), .ref (a 75), .null, .int 0, .int 0]))] sz) U U.heap)) (va_Qi (fun (r : Int32) (u : Unit) => r = (T_end p0).2 ∧ (T_end p0).1 = 0) (fun (_ : Unit) (_ : State) => True) (va_A [(a 0, .inr (14, [.ref (a 1), .ref (a 2), .ref (a 27), .ref (a 30), .ref (a 74), .ref (a 75), .null, .int 0, .int 0]))] sz)) 0 0 (va_A [(a 0, .inr (14, [.ref (a 1), .ref (a 2), .ref (a 27), .ref (a 30), .ref (a 74), .ref (a 75), .null, .int 0, .int 0]))] sz) := by
  refine Met.ofW (cc := cX11_end) (maxL := 2) (ret := (some .boolean)) (by decide) rfl ?_
  intro p e s m args below meth c s₁ B hml hv
  obtain ⟨rfl, hsz, hP, hK, hD0, hE⟩ := hv
  have hx := B.exec
  have hb := B.bytes
  have hr := B.returns
  have hts := atoms_spec (ws := w_x_end) B.pre
  have hown : s.vm.findClass RX11 = some m.cls := findClass_of_methodNamed B.named
  have hlocks := B.notSynchronized
  subst hsz
  have hD := hD0.self (sz := s.heap.size)
  generalize hAe : va_A [(a 0, .inr (14, [.ref (a 1), .ref (a 2), .ref (a 27), .ref (a 30), .ref (a 74), .ref (a 75), .null, .int 0, .int 0]))] s.heap.size = A at hD hE ⊢
  have hA : ∀ q : Nat, s.heap.size ≤ q → A q := fun q h => by rw [← hAe]; exact Or.inr h
  have hS : va_S A s.heap s.heap [] := va_S.rf
  have hP : va_P (dC, dI) vwCl [(a 0, .inr (14, [.ref (a 1), .ref (a 2), .ref (a 27), .ref (a 30), .ref (a 74), .ref (a 75), .null, .int 0, .int 0]))] s.heap := hP
  have hl := lv_entry ([.ref (a 0), .int p0]) (n := 2) (Nat.le_of_ble_eq_true rfl)
  rw [lg_entry_eq]
  generalize (lg_sl ([.ref (a 0), .int p0]) ++ List.replicate (2 - (lg_sl ([.ref (a 0), .int p0])).length) Slot.unset).toArray = ls at hl ⊢
  have hl : lv_has ls 2 [(0, .ref (a 0)), (1, .int p0)] := hl
  refine lv_iload_n hx hb dX11_end_0 rfl (lv_at hl 1 rfl) ?_
  refine lv_if_lt (tgt := 12) hx hb dX11_end_1 (by decide) (fun c1 => ?_) (fun c1 => ?_)
  · refine lv_iconst (v := 0) hx hb dX11_end_12 (by decide) ?_
    exact W.zret (v := 0) hx hb hr (by decide) (fun t ht hW => ⟨⟨0, (), rfl, (by unfold T_end; rw [if_pos c1]; exact ⟨rfl, rfl⟩), trivial⟩, hS.F ht⟩) hS.2.2 dX11_end_13
  · refine lv_iload_n hx hb dX11_end_4 rfl (lv_at hl 1 rfl) ?_
    refine lv_aload_n hx hb dX11_end_5 rfl (lv_at hl 0 rfl) ?_
    refine va_get (D := (dC, dI)) (ci := 14) (v := .int 0) (C := RX11) (T := TX11) (N := 9) hx hb hts bF_X11 hown hK hP 0 rfl rfl 7 (by decide) (ht_at hts 0 rfl) (fun _ h9 => h9) rfl dX11_end_6 ?_
    refine lv_icmp_le (tgt := 14) hx hb dX11_end_9 (by decide) (fun c2 => ?_) (fun c2 => ?_)
    · refine lv_aload_n hx hb dX11_end_14 rfl (lv_at hl 0 rfl) ?_
      refine lv_iload_n hx hb dX11_end_15 rfl (lv_at hl 1 rfl) ?_
      refine va_put (D := (dC, dI)) (ci := 14) (v := .int p0) (ty := .int) (C := RX11) (T := TX11) (N := 9) hx hb hts bF_X11 tyX11 tyX11_ok nmX11 hown hK hP hD hS 0 rfl rfl 7 (by decide) (ht_at hts 0 rfl) (fun _ h9 => h9) rfl (by decide +kernel) rfl rfl (Nat.le_of_ble_eq_true rfl) dX11_end_16 (fun H locs hP hD hS => ?_)
      have hP : va_P (dC, dI) vwCl [(a 0, .inr (14, [.ref (a 1), .ref (a 2), .ref (a 27), .ref (a 30), .ref (a 74), .ref (a 75), .null, .int p0, .int 0]))] H := hP
      have hD : va_D A [(a 0, .inr (14, [.ref (a 1), .ref (a 2), .ref (a 27), .ref (a 30), .ref (a 74), .ref (a 75), .null, .int p0, .int 0]))] := hD
      refine lv_iconst (v := 1) hx hb dX11_end_19 (by decide) ?_
      exact W.zret (v := 1) hx hb hr (by decide) (fun t ht hW => ⟨⟨1, (), rfl, (by unfold T_end; rw [if_neg c1, if_pos c2]; exact ⟨rfl, rfl⟩), trivial⟩, hS.F ht⟩) hS.2.2 dX11_end_20
    · refine lv_iconst (v := 0) hx hb dX11_end_12 (by decide) ?_
      exact W.zret (v := 0) hx hb hr (by decide) (fun t ht hW => ⟨⟨0, (), rfl, (by unfold T_end; rw [if_neg c1, if_neg c2]; exact ⟨rfl, rfl⟩), trivial⟩, hS.F ht⟩) hS.2.2 dX11_end_13
