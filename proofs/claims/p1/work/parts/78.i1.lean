/-- what the basin has behind hour i, while it is not above its limit -/
def lq (a b c : Nat) : Nat → Option Nat
  | 0 => some a
  | i + 1 => match lq a b c i with | some v => if v + b ≤ c then some (v + b) else none | none => none
def lnx (b c : Nat) : Option Nat → Option Nat
  | some v => if v + b ≤ c then some (v + b) else none
  | none => none
theorem lq_s (a b c i : Nat) : lq a b c (i + 1) = lnx b c (lq a b c i) := by
  show (match lq a b c i with | some v => if v + b ≤ c then some (v + b) else none | none => none) = _
  cases lq a b c i <;> rfl
theorem lq_le {a b c : Nat} (ha : a ≤ 1000) (hc : c ≤ 1000) : ∀ (i v : Nat), lq a b c i = some v → v ≤ 1000
  | 0, v, h => by cases h; exact ha
  | i + 1, v, h => by
    rw [lq_s] at h
    cases e : lq a b c i with
    | none => rw [e] at h; cases h
    | some w =>
      rw [e] at h
      have h : (if w + b ≤ c then some (w + b) else none) = some v := h
      by_cases k : w + b ≤ c
      · rw [if_pos k] at h; cases h; omega
      · rw [if_neg k] at h; cases h
theorem onS (o : Option Nat) : o = none ∨ ∃ v, o = some v := by cases o <;> simp
/-- the class's table: by coal, the least that the basin has -/
def cq (o : Option Nat) (j : Nat) : Int32 := if j = 0 then (match o with | some v => nI v | none => 2147483647) else 2147483647
theorem cq_some {v : Nat} : cq (some v) 0 = nI v := rfl
theorem cq_none (j : Nat) : cq none j = 2147483647 := by unfold cq; split <;> rfl
theorem cq_pos {o : Option Nat} {j : Nat} (h : j ≠ 0) : cq o j = 2147483647 := if_neg h
def lL (o : Option Nat) : Int32 := match o with | some _ => 0 | none => (-1)
theorem lL_n {o : Option Nat} (h : ∀ v, o = some v → (121 : Nat) = 0) : (-1 : Int32) = lL o := by
  rcases onS o with e | ⟨v, e⟩
  · rw [e]; rfl
  · exact absurd (h v e) (by decide)
theorem nI_max0 {t : Nat} (h : t < 2 ^ 31) : (if (0 : Int32) < nI t then nI t else 0) = nI t := by
  by_cases e : t = 0
  · subst e; rfl
  · rw [if_pos (by rw [← nI_0]; exact nI_lt (by omega) h)]
theorem ge1 {x : Int32} (h : 1 ≤ x) : ¬ x < 0 := by
  have h1 := Int32.le_iff_toInt_le.mp h
  have h2 : (1 : Int32).toInt = 1 := by decide
  intro h3
  have h4 := Int32.lt_iff_toInt_lt.mp h3
  rw [i0] at h4
  omega
theorem gt_e {x y : Int32} {a b : Nat} (ex : x = nI a) (ey : y = nI b) (h : b < a) (ha : a < 2 ^ 31) : y < x := by rw [ex, ey]; exact nI_lt h ha
theorem ngt_e {x y : Int32} {a b : Nat} (ex : x = nI a) (ey : y = nI b) (h : a ≤ b) (hb : b < 2 ^ 31) : ¬ y < x := by rw [ex, ey]; exact nI_nlt h hb
theorem nM {v : Nat} (h : v ≤ 2000) : ¬ (nI v : Int32) = 2147483647 := fun e => by
  have := (nI_eq (a := v) (b := 2147483647) (by omega) (by decide)).mp e
  omega
theorem ltM {v : Nat} (h : v ≤ 2000) : ¬ (2147483647 : Int32) ≤ nI v := nI_ge (a := v) (b := 2147483647) (by omega) (by decide)
theorem cq0 {a : Nat} {g : Nat → Int32} {x : Int32} (e : x = nI a) (h : ∀ j, j < 121 → g j = 2147483647) : ∀ j, j < 121 → upd g (0 : Int32).toNatClampNeg x j = cq (some a) j := by
  intro j hj
  have e0 : (0 : Int32).toNatClampNeg = 0 := by decide
  rw [e0]
  by_cases k : j = 0
  · subst k; rw [pk_us, e]; rfl
  · rw [pk_un k, h j hj, cq_pos k]
def w_x_allMillsLift : List Cond := .code yX3_allMillsLift cX3_allMillsLift 5 (some .int) :: ([.fieldLink RX3 12 "SeaLand$Lake" "sky" "LSeaLand$Sky;", .code yX8_windAt cX8_windAt 4 (some .int), .fieldLink RX8 27 "SeaLand$Sky" "wind" "LSeaLand$Tellings;", .code yX9_standingAt cX9_standingAt 5 (some .int), .fieldLink RX9 18 "SeaLand$Tellings" "told" "I", .methodLink RX8 44 yX9_standingAt, .instanceMethod yX9_standingAt, .selects RX9 yX9_standingAt yX9_standingAt, .initialized RX9, .methodLink RX3 120 yX8_windAt, .instanceMethod yX8_windAt, .selects RX8 yX8_windAt yX8_windAt, .initialized RX8, .fieldLink RX3 47 "SeaLand$Lake" "built" "I"] ++ bs)
set_option maxHeartbeats 4000000 in
set_option maxRecDepth 100000 in
theorem x_allMillsLift (l : Launch) (dC : Nat → ClassId) (dI : Nat → Nat → Nat) (a : Nat → Nat) (k : Nat → ClassId) (h : Int32) (sz : Nat) : Met l yX3_allMillsLift w_x_allMillsLift ({ frames := 2, cells := 0, slots := 0, locals := 47 }) (va_Pc [.ref (a 2), .int h] (fun U => U.heap.size = sz ∧ va_P (dC, dI) vwCl [(a 2, .inr (6, [.ref (a 3), .ref (a 14), .ref (a 26), .int 0, .int 0])), (a 3, .inr (11, [.ref (a 4), .ref (a 5), .ref (a 6), .ref (a 7), .ref (a 8), .ref (a 11), .int 0])), (a 8, .inr (12, [.ref (a 9), .ref (a 10), .int 0]))] U.heap ∧ va_K (dC, dI) vwCl [] U ∧ va_D (fun _ => True) [(a 2, .inr (6, [.ref (a 3), .ref (a 14), .ref (a 26), .int 0, .int 0])), (a 3, .inr (11, [.ref (a 4), .ref (a 5), .ref (a 6), .ref (a 7), .ref (a 8), .ref (a 11), .int 0])), (a 8, .inr (12, [.ref (a 9), .ref (a 10), .int 0]))] ∧ EV (va_A [(a 2, .inr (6, [.ref (a 3), .ref (a 14), .ref (a 26), .int 0, .int 0])), (a 3, .inr (11, [.ref (a 4), .ref (a 5), .ref (a 6), .ref (a 7), .ref (a 8), .ref (a 11), .int 0])), (a 8, .inr (12, [.ref (a 9), .ref (a 10), .int 0]))] sz) U U.heap)) (va_Qi (fun (r : Int32) (u : Unit) => r = 0) (fun (_ : Unit) (t : State) => va_P (dC, dI) vwCl [(a 2, .inr (6, [.ref (a 3), .ref (a 14), .ref (a 26), .int 0, .int 0])), (a 3, .inr (11, [.ref (a 4), .ref (a 5), .ref (a 6), .ref (a 7), .ref (a 8), .ref (a 11), .int 0])), (a 8, .inr (12, [.ref (a 9), .ref (a 10), .int 0]))] t.heap ∧ va_D (va_A [(a 2, .inr (6, [.ref (a 3), .ref (a 14), .ref (a 26), .int 0, .int 0])), (a 3, .inr (11, [.ref (a 4), .ref (a 5), .ref (a 6), .ref (a 7), .ref (a 8), .ref (a 11), .int 0])), (a 8, .inr (12, [.ref (a 9), .ref (a 10), .int 0]))] sz) [(a 2, .inr (6, [.ref (a 3), .ref (a 14), .ref (a 26), .int 0, .int 0])), (a 3, .inr (11, [.ref (a 4), .ref (a 5), .ref (a 6), .ref (a 7), .ref (a 8), .ref (a 11), .int 0])), (a 8, .inr (12, [.ref (a 9), .ref (a 10), .int 0]))]) (va_A [(a 2, .inr (6, [.ref (a 3), .ref (a 14), .ref (a 26), .int 0, .int 0])), (a 3, .inr (11, [.ref (a 4), .ref (a 5), .ref (a 6), .ref (a 7), .ref (a 8), .ref (a 11), .int 0])), (a 8, .inr (12, [.ref (a 9), .ref (a 10), .int 0]))] sz)) 0 0 (va_A [(a 2, .inr (6, [.ref (a 3), .ref (a 14), .ref (a 26), .int 0, .int 0])), (a 3, .inr (11, [.ref (a 4), .ref (a 5), .ref (a 6), .ref (a 7), .ref (a 8), .ref (a 11), .int 0])), (a 8, .inr (12, [.ref (a 9), .ref (a 10), .int 0]))] sz) := by
  refine Met.ofW (cc := cX3_allMillsLift) (maxL := 5) (ret := (some .int)) (by decide) rfl ?_
  intro p e s m args below meth c s₁ B hml hv
  obtain ⟨rfl, hsz, hP, hK, hD0, hE⟩ := hv
  have hx := B.exec
  have hb := B.bytes
  have hr := B.returns
  have hts := atoms_spec (ws := w_x_allMillsLift) B.pre
  have hown : s.vm.findClass RX3 = some m.cls := findClass_of_methodNamed B.named
  have hlocks := B.notSynchronized
  subst hsz
  have hD := hD0.self (sz := s.heap.size)
  generalize hAe : va_A [(a 2, .inr (6, [.ref (a 3), .ref (a 14), .ref (a 26), .int 0, .int 0])), (a 3, .inr (11, [.ref (a 4), .ref (a 5), .ref (a 6), .ref (a 7), .ref (a 8), .ref (a 11), .int 0])), (a 8, .inr (12, [.ref (a 9), .ref (a 10), .int 0]))] s.heap.size = A at hD hE ⊢
  have hA : ∀ q : Nat, s.heap.size ≤ q → A q := fun q h => by rw [← hAe]; exact Or.inr h
  have hS : va_S A s.heap s.heap [] := va_S.rf
  have hP : va_P (dC, dI) vwCl [(a 2, .inr (6, [.ref (a 3), .ref (a 14), .ref (a 26), .int 0, .int 0])), (a 3, .inr (11, [.ref (a 4), .ref (a 5), .ref (a 6), .ref (a 7), .ref (a 8), .ref (a 11), .int 0])), (a 8, .inr (12, [.ref (a 9), .ref (a 10), .int 0]))] s.heap := hP
  have hl := lv_entry ([.ref (a 2), .int h]) (n := 5) (Nat.le_of_ble_eq_true rfl)
  rw [lg_entry_eq]
  generalize (lg_sl ([.ref (a 2), .int h]) ++ List.replicate (5 - (lg_sl ([.ref (a 2), .int h])).length) Slot.unset).toArray = ls at hl ⊢
  have hl : lv_has ls 5 [(0, .ref (a 2)), (1, .int h)] := hl
  refine lv_aload_n hx hb dX3_allMillsLift_0 rfl (lv_at hl 0 rfl) ?_
  refine va_get (D := (dC, dI)) (ci := 6) (v := .ref (a 3)) (C := RX3) (T := TX3) (N := 5) hx hb hts bF_X3 hown hK hP 0 rfl rfl 0 (by decide) (ht_at hts 0 rfl) (fun _ h9 => h9) rfl dX3_allMillsLift_1 ?_
  refine lv_iload_n hx hb dX3_allMillsLift_4 rfl (lv_at hl 1 rfl) ?_
  have hPc := hP.sub (ws' := [(a 3, .inr (11, [.ref (a 4), .ref (a 5), .ref (a 6), .ref (a 7), .ref (a 8), .ref (a 11), .int 0])), (a 8, .inr (12, [.ref (a 9), .ref (a 10), .int 0]))]) [1, 2] rfl
  have hDc := hD.sub (ws' := [(a 3, .inr (11, [.ref (a 4), .ref (a 5), .ref (a 6), .ref (a 7), .ref (a 8), .ref (a 11), .int 0])), (a 8, .inr (12, [.ref (a 9), .ref (a 10), .int 0]))]) [1, 2] (by decide) rfl
  have hKc := hK.sub (tys' := []) [] rfl
  have hFc := va_free (wc := [(a 3, .inr (11, [.ref (a 4), .ref (a 5), .ref (a 6), .ref (a 7), .ref (a 8), .ref (a 11), .int 0])), (a 8, .inr (12, [.ref (a 9), .ref (a 10), .int 0]))]) hD hS hA [1, 2] rfl
  refine va_calli (va_runV (As := [.int h]) (rest := []) ⟨hx, hb, hml, hown, hts⟩ (x_windAt l dC dI a k h s.heap.size ) (cwV 1 hts (goodIn_app (goodIn_r _ [10, 11, 12, 13] (by decide +kernel) (by decide +kernel)) (goodIn_ca (goodIn_r _ [2, 3, 4, 5, 6, 7, 8, 9] (by decide +kernel) (by decide +kernel)) (bs_in _ _))) rfl rfl rfl (by decide +kernel) ⟨(Nat.le_of_ble_eq_true rfl), (Nat.le_of_ble_eq_true rfl)⟩) ⟨fun a U g mk q => by obtain ⟨q0, q1, qP, qK, qD, qE⟩ := q; exact ⟨q0, q1, qP, va_K.moved (u := U) (U := U.calling g mk a) (Vm.Alike.refl U.vm) qK, qD, EV.blind g mk a qE⟩, va_recv hKc hPc (ci := 11) (q0 := 0) rfl rfl, fun U hU hW => ⟨rfl, by rw [hU], by rw [hU]; exact hPc, va_K.moved hW.alike hKc, hDc.weaken (fun _ _ _ _ => trivial), hE.call hS hFc hU hW⟩⟩ rfl rfl hl.1 rfl (lv_room (Nat.le_of_ble_eq_true rfl)) dX3_allMillsLift_5 ⟨(Nat.le_of_ble_eq_true rfl), (Nat.le_of_ble_eq_true rfl)⟩) hS (fun q _ h => hFc q h) hFc (fun r2 u t H1 locs ht hvm hw3 hB hz1 hk1 hS => ?_)
  obtain ⟨hP1, hD1⟩ := hB
  rw [ht] at hP1
  obtain ⟨hP, hD⟩ := va_join (wr := [(a 2, .inr (6, [.ref (a 3), .ref (a 14), .ref (a 26), .int 0, .int 0]))]) (w1 := [(a 3, .inr (11, [.ref (a 4), .ref (a 5), .ref (a 6), .ref (a 7), .ref (a 8), .ref (a 11), .int 0])), (a 8, .inr (12, [.ref (a 9), .ref (a 10), .int 0]))]) hP hD [1, 2] [0] rfl rfl (by decide) (by decide) hk1 hFc hP1 hD1
  generalize H1 = H at hP hS ⊢
  have hP : va_P (dC, dI) vwCl [(a 2, .inr (6, [.ref (a 3), .ref (a 14), .ref (a 26), .int 0, .int 0])), (a 3, .inr (11, [.ref (a 4), .ref (a 5), .ref (a 6), .ref (a 7), .ref (a 8), .ref (a 11), .int 0])), (a 8, .inr (12, [.ref (a 9), .ref (a 10), .int 0]))] H := hP
  have hD : va_D A [(a 2, .inr (6, [.ref (a 3), .ref (a 14), .ref (a 26), .int 0, .int 0])), (a 3, .inr (11, [.ref (a 4), .ref (a 5), .ref (a 6), .ref (a 7), .ref (a 8), .ref (a 11), .int 0])), (a 8, .inr (12, [.ref (a 9), .ref (a 10), .int 0]))] := hD
  try dsimp only at hw3
  obtain rfl : 0 = r2 := (hw3).symm
  refine lv_istore_n (lv' := [(2, .int 0), (0, .ref (a 2)), (1, .int h)]) hx hb dX3_allMillsLift_8 rfl hl (by decide) rfl (fun ls hl => ?_)
  refine lv_iconst (v := 0) hx hb dX3_allMillsLift_9 (by decide) ?_
  refine lv_istore_n (lv' := [(3, .int 0), (2, .int 0), (0, .ref (a 2)), (1, .int h)]) hx hb dX3_allMillsLift_10 rfl hl (by decide) rfl (fun ls hl => ?_)
  refine lv_iconst (v := 0) hx hb dX3_allMillsLift_11 (by decide) ?_
  refine lv_istore (lv' := [(4, .int 0), (3, .int 0), (2, .int 0), (0, .ref (a 2)), (1, .int h)]) hx hb dX3_allMillsLift_12 hl (by decide) rfl (fun ls hl => ?_)
  refine lv_iload hx hb dX3_allMillsLift_14 (lv_at hl 0 rfl) ?_
  refine lv_aload_n hx hb dX3_allMillsLift_16 rfl (lv_at hl 3 rfl) ?_
  refine va_get (D := (dC, dI)) (ci := 6) (v := .int 0) (C := RX3) (T := TX3) (N := 5) hx hb hts bF_X3 hown hK hP 0 rfl rfl 3 (by decide) (ht_at hts 13 rfl) (fun _ h9 => h9) rfl dX3_allMillsLift_17 ?_
  refine lv_icmp_ge (tgt := 65) hx hb dX3_allMillsLift_20 (by decide) (fun c4 => ?_) (fun c4 => absurd c4 (by decide))
  refine lv_iload_n hx hb dX3_allMillsLift_65 rfl (lv_at hl 1 rfl) ?_
  exact W.iret (v := 0) hx hb hr (fun t ht hW => ⟨⟨0, (), rfl, (by rfl), by rw [ht]; exact hP.sub (ws' := [(a 2, .inr (6, [.ref (a 3), .ref (a 14), .ref (a 26), .int 0, .int 0])), (a 3, .inr (11, [.ref (a 4), .ref (a 5), .ref (a 6), .ref (a 7), .ref (a 8), .ref (a 11), .int 0])), (a 8, .inr (12, [.ref (a 9), .ref (a 10), .int 0]))]) [0, 1, 2] rfl, hD.sub (ws' := [(a 2, .inr (6, [.ref (a 3), .ref (a 14), .ref (a 26), .int 0, .int 0])), (a 3, .inr (11, [.ref (a 4), .ref (a 5), .ref (a 6), .ref (a 7), .ref (a 8), .ref (a 11), .int 0])), (a 8, .inr (12, [.ref (a 9), .ref (a 10), .int 0]))]) [0, 1, 2] (by decide) rfl⟩, hS.F ht⟩) hS.2.2 dX3_allMillsLift_66
def w_x_gatherEngines : List Cond := .code yX5_gatherEngines cX5_gatherEngines 4 none :: ([.fieldLink RX5 76 "SeaLand$Plans" "engines" "I", .fieldLink RX5 13 "SeaLand$Plans" "liftOf" "[I"] ++ bs)
set_option maxHeartbeats 4000000 in
set_option maxRecDepth 100000 in
theorem x_gatherEngines (l : Launch) (dC : Nat → ClassId) (dI : Nat → Nat → Nat) (a : Nat → Nat) (k : Nat → ClassId) (sz : Nat) : Met l yX5_gatherEngines w_x_gatherEngines ({ frames := 0, cells := 0, slots := 0, locals := 0 }) (va_Pc [.ref (a 75), .ref (a 2)] (fun U => U.heap.size = sz ∧ va_P (dC, dI) vwCl [(a 75, .inr (8, [.ref (a 76), .ref (a 77), .ref (a 78), .ref (a 79), .ref (a 80), .ref (a 81), .ref (a 82), .ref (a 83), .ref (a 84), .ref (a 85), .ref (a 86), .ref (a 87), .int 0, .int 0, .int 0, .int 0, .int 0])), (a 76, .inl ((k 76), 6, .inl (fun _ => 0))), (a 2, .inr (6, [.ref (a 3), .ref (a 14), .ref (a 26), .int 0, .int 0]))] U.heap ∧ va_K (dC, dI) vwCl [((k 76), .int)] U ∧ va_D (fun _ => True) [(a 75, .inr (8, [.ref (a 76), .ref (a 77), .ref (a 78), .ref (a 79), .ref (a 80), .ref (a 81), .ref (a 82), .ref (a 83), .ref (a 84), .ref (a 85), .ref (a 86), .ref (a 87), .int 0, .int 0, .int 0, .int 0, .int 0])), (a 76, .inl ((k 76), 6, .inl (fun _ => 0))), (a 2, .inr (6, [.ref (a 3), .ref (a 14), .ref (a 26), .int 0, .int 0]))] ∧ EV (va_A [(a 75, .inr (8, [.ref (a 76), .ref (a 77), .ref (a 78), .ref (a 79), .ref (a 80), .ref (a 81), .ref (a 82), .ref (a 83), .ref (a 84), .ref (a 85), .ref (a 86), .ref (a 87), .int 0, .int 0, .int 0, .int 0, .int 0])), (a 76, .inl ((k 76), 6, .inl (fun _ => 0))), (a 2, .inr (6, [.ref (a 3), .ref (a 14), .ref (a 26), .int 0, .int 0]))] sz) U U.heap)) (va_Qv (fun (u : Nat → Int32) => u 0 = 0) (fun (lo : Nat → Int32) (t : State) => va_P (dC, dI) vwCl [(a 75, .inr (8, [.ref (a 76), .ref (a 77), .ref (a 78), .ref (a 79), .ref (a 80), .ref (a 81), .ref (a 82), .ref (a 83), .ref (a 84), .ref (a 85), .ref (a 86), .ref (a 87), .int 0, .int 0, .int 0, .int 0, .int 0])), (a 76, .inl ((k 76), 6, .inl lo)), (a 2, .inr (6, [.ref (a 3), .ref (a 14), .ref (a 26), .int 0, .int 0]))] t.heap ∧ va_D (va_A [(a 75, .inr (8, [.ref (a 76), .ref (a 77), .ref (a 78), .ref (a 79), .ref (a 80), .ref (a 81), .ref (a 82), .ref (a 83), .ref (a 84), .ref (a 85), .ref (a 86), .ref (a 87), .int 0, .int 0, .int 0, .int 0, .int 0])), (a 76, .inl ((k 76), 6, .inl (fun _ => 0))), (a 2, .inr (6, [.ref (a 3), .ref (a 14), .ref (a 26), .int 0, .int 0]))] sz) [(a 75, .inr (8, [.ref (a 76), .ref (a 77), .ref (a 78), .ref (a 79), .ref (a 80), .ref (a 81), .ref (a 82), .ref (a 83), .ref (a 84), .ref (a 85), .ref (a 86), .ref (a 87), .int 0, .int 0, .int 0, .int 0, .int 0])), (a 76, .inl ((k 76), 6, .inl lo)), (a 2, .inr (6, [.ref (a 3), .ref (a 14), .ref (a 26), .int 0, .int 0]))]) (va_A [(a 75, .inr (8, [.ref (a 76), .ref (a 77), .ref (a 78), .ref (a 79), .ref (a 80), .ref (a 81), .ref (a 82), .ref (a 83), .ref (a 84), .ref (a 85), .ref (a 86), .ref (a 87), .int 0, .int 0, .int 0, .int 0, .int 0])), (a 76, .inl ((k 76), 6, .inl (fun _ => 0))), (a 2, .inr (6, [.ref (a 3), .ref (a 14), .ref (a 26), .int 0, .int 0]))] sz)) 0 0 (va_A [(a 75, .inr (8, [.ref (a 76), .ref (a 77), .ref (a 78), .ref (a 79), .ref (a 80), .ref (a 81), .ref (a 82), .ref (a 83), .ref (a 84), .ref (a 85), .ref (a 86), .ref (a 87), .int 0, .int 0, .int 0, .int 0, .int 0])), (a 76, .inl ((k 76), 6, .inl (fun _ => 0))), (a 2, .inr (6, [.ref (a 3), .ref (a 14), .ref (a 26), .int 0, .int 0]))] sz) := by
  refine Met.ofW (cc := cX5_gatherEngines) (maxL := 4) (ret := none) (by decide) rfl ?_
  intro p e s m args below meth c s₁ B hml hv
  obtain ⟨rfl, hsz, hP, hK, hD0, hE⟩ := hv
  have hx := B.exec
  have hb := B.bytes
  have hr := B.returns
  have hts := atoms_spec (ws := w_x_gatherEngines) B.pre
  have hown : s.vm.findClass RX5 = some m.cls := findClass_of_methodNamed B.named
  have hlocks := B.notSynchronized
  subst hsz
  have hD := hD0.self (sz := s.heap.size)
  generalize hAe : va_A [(a 75, .inr (8, [.ref (a 76), .ref (a 77), .ref (a 78), .ref (a 79), .ref (a 80), .ref (a 81), .ref (a 82), .ref (a 83), .ref (a 84), .ref (a 85), .ref (a 86), .ref (a 87), .int 0, .int 0, .int 0, .int 0, .int 0])), (a 76, .inl ((k 76), 6, .inl (fun _ => 0))), (a 2, .inr (6, [.ref (a 3), .ref (a 14), .ref (a 26), .int 0, .int 0]))] s.heap.size = A at hD hE ⊢
  have hA : ∀ q : Nat, s.heap.size ≤ q → A q := fun q h => by rw [← hAe]; exact Or.inr h
  have hS : va_S A s.heap s.heap [] := va_S.rf
  have hP : va_P (dC, dI) vwCl [(a 75, .inr (8, [.ref (a 76), .ref (a 77), .ref (a 78), .ref (a 79), .ref (a 80), .ref (a 81), .ref (a 82), .ref (a 83), .ref (a 84), .ref (a 85), .ref (a 86), .ref (a 87), .int 0, .int 0, .int 0, .int 0, .int 0])), (a 76, .inl ((k 76), 6, .inl (fun _ => 0))), (a 2, .inr (6, [.ref (a 3), .ref (a 14), .ref (a 26), .int 0, .int 0]))] s.heap := hP
  have hl := lv_entry ([.ref (a 75), .ref (a 2)]) (n := 4) (Nat.le_of_ble_eq_true rfl)
  rw [lg_entry_eq]
  generalize (lg_sl ([.ref (a 75), .ref (a 2)]) ++ List.replicate (4 - (lg_sl ([.ref (a 75), .ref (a 2)])).length) Slot.unset).toArray = ls at hl ⊢
  have hl : lv_has ls 4 [(0, .ref (a 75)), (1, .ref (a 2))] := hl
  refine lv_aload_n hx hb dX5_gatherEngines_0 rfl (lv_at hl 0 rfl) ?_
  refine lv_iconst (v := 0) hx hb dX5_gatherEngines_1 (by decide) ?_
  refine va_put (D := (dC, dI)) (ci := 8) (v := .int 0) (ty := .int) (C := RX5) (T := TX5) (N := 17) hx hb hts bF_X5 tyX5 tyX5_ok nmX5 hown hK hP hD hS 0 rfl rfl 12 (by decide) (ht_at hts 0 rfl) (fun _ h9 => h9) rfl (by decide +kernel) rfl rfl (Nat.le_of_ble_eq_true rfl) dX5_gatherEngines_2 (fun H locs hP hD hS => ?_)
  have hP : va_P (dC, dI) vwCl [(a 75, .inr (8, [.ref (a 76), .ref (a 77), .ref (a 78), .ref (a 79), .ref (a 80), .ref (a 81), .ref (a 82), .ref (a 83), .ref (a 84), .ref (a 85), .ref (a 86), .ref (a 87), .int 0, .int 0, .int 0, .int 0, .int 0])), (a 76, .inl ((k 76), 6, .inl (fun _ => 0))), (a 2, .inr (6, [.ref (a 3), .ref (a 14), .ref (a 26), .int 0, .int 0]))] H := hP
  have hD : va_D A [(a 75, .inr (8, [.ref (a 76), .ref (a 77), .ref (a 78), .ref (a 79), .ref (a 80), .ref (a 81), .ref (a 82), .ref (a 83), .ref (a 84), .ref (a 85), .ref (a 86), .ref (a 87), .int 0, .int 0, .int 0, .int 0, .int 0])), (a 76, .inl ((k 76), 6, .inl (fun _ => 0))), (a 2, .inr (6, [.ref (a 3), .ref (a 14), .ref (a 26), .int 0, .int 0]))] := hD
  refine lv_iconst (v := 0) hx hb dX5_gatherEngines_5 (by decide) ?_
  refine lv_istore_n (lv' := [(2, .int 0), (0, .ref (a 75)), (1, .ref (a 2))]) hx hb dX5_gatherEngines_6 rfl hl (by decide) rfl (fun ls hl => ?_)
  refine lv_iload_n hx hb dX5_gatherEngines_7 rfl (lv_at hl 0 rfl) ?_
  refine lv_aload_n hx hb dX5_gatherEngines_8 rfl (lv_at hl 2 rfl) ?_
  refine va_getN (D := (dC, dI)) (ci := 6) (v := .int 0) (C := RX3) (T := TX3) (N := 5) hx hb hts bF_X3 hown hK hP 2 rfl rfl 3 (by decide) (hE.nw 88 rfl) (fun _ h9 => h9) rfl dX5_gatherEngines_9 ?_
  refine lv_icmp_ge (tgt := 117) hx hb dX5_gatherEngines_12 (by decide) (fun c1 => ?_) (fun c1 => absurd c1 (by decide))
  refine lv_aload_n hx hb dX5_gatherEngines_117 rfl (lv_at hl 1 rfl) ?_
  refine va_get (D := (dC, dI)) (ci := 8) (v := .ref (a 76)) (C := RX5) (T := TX5) (N := 17) hx hb hts bF_X5 hown hK hP 0 rfl rfl 0 (by decide) (ht_at hts 1 rfl) (fun _ h9 => h9) rfl dX5_gatherEngines_118 ?_
  refine lv_iconst (v := 0) hx hb dX5_gatherEngines_121 (by decide) ?_
  refine lv_iconst (v := 0) hx hb dX5_gatherEngines_122 (by decide) ?_
  refine va_iast hx hb hK hP hD hS 1 0 rfl rfl (by unfold vp_in; decide) dX5_gatherEngines_123 (fun H locs hP hD hS => ?_)
  have hP : va_P (dC, dI) vwCl [(a 75, .inr (8, [.ref (a 76), .ref (a 77), .ref (a 78), .ref (a 79), .ref (a 80), .ref (a 81), .ref (a 82), .ref (a 83), .ref (a 84), .ref (a 85), .ref (a 86), .ref (a 87), .int 0, .int 0, .int 0, .int 0, .int 0])), (a 76, .inl ((k 76), 6, .inl (upd (fun _ => 0) (0 : Int32).toNatClampNeg 0))), (a 2, .inr (6, [.ref (a 3), .ref (a 14), .ref (a 26), .int 0, .int 0]))] H := hP
  have hD : va_D A [(a 75, .inr (8, [.ref (a 76), .ref (a 77), .ref (a 78), .ref (a 79), .ref (a 80), .ref (a 81), .ref (a 82), .ref (a 83), .ref (a 84), .ref (a 85), .ref (a 86), .ref (a 87), .int 0, .int 0, .int 0, .int 0, .int 0])), (a 76, .inl ((k 76), 6, .inl (upd (fun _ => 0) (0 : Int32).toNatClampNeg 0))), (a 2, .inr (6, [.ref (a 3), .ref (a 14), .ref (a 26), .int 0, .int 0]))] := hD
  refine lv_iconst (v := 1) hx hb dX5_gatherEngines_124 (by decide) ?_
  refine lv_istore_n (lv' := [(2, .int 1), (0, .ref (a 75)), (1, .ref (a 2))]) hx hb dX5_gatherEngines_125 rfl hl (by decide) rfl (fun ls hl => ?_)
  refine lv_iload_n hx hb dX5_gatherEngines_126 rfl (lv_at hl 0 rfl) ?_
  refine lv_aload_n hx hb dX5_gatherEngines_127 rfl (lv_at hl 1 rfl) ?_
  refine va_get (D := (dC, dI)) (ci := 8) (v := .int 0) (C := RX5) (T := TX5) (N := 17) hx hb hts bF_X5 hown hK hP 0 rfl rfl 12 (by decide) (ht_at hts 0 rfl) (fun _ h9 => h9) rfl dX5_gatherEngines_128 ?_
  refine lv_icmp_gt (tgt := 157) hx hb dX5_gatherEngines_131 (by decide) (fun c2 => ?_) (fun c2 => absurd c2 (by decide))
  exact W.vret hx hb hr (fun t ht hW => ⟨⟨(upd (fun _ => 0) (0 : Int32).toNatClampNeg 0), rfl, (by rfl), by rw [ht]; exact hP.sub (ws' := [(a 75, .inr (8, [.ref (a 76), .ref (a 77), .ref (a 78), .ref (a 79), .ref (a 80), .ref (a 81), .ref (a 82), .ref (a 83), .ref (a 84), .ref (a 85), .ref (a 86), .ref (a 87), .int 0, .int 0, .int 0, .int 0, .int 0])), (a 76, .inl ((k 76), 6, .inl (upd (fun _ => 0) (0 : Int32).toNatClampNeg 0))), (a 2, .inr (6, [.ref (a 3), .ref (a 14), .ref (a 26), .int 0, .int 0]))]) [0, 1, 2] rfl, hD.sub (ws' := [(a 75, .inr (8, [.ref (a 76), .ref (a 77), .ref (a 78), .ref (a 79), .ref (a 80), .ref (a 81), .ref (a 82), .ref (a 83), .ref (a 84), .ref (a 85), .ref (a 86), .ref (a 87), .int 0, .int 0, .int 0, .int 0, .int 0])), (a 76, .inl ((k 76), 6, .inl (upd (fun _ => 0) (0 : Int32).toNatClampNeg 0))), (a 2, .inr (6, [.ref (a 3), .ref (a 14), .ref (a 26), .int 0, .int 0]))]) [0, 1, 2] (by decide) rfl⟩, hS.F ht⟩) hS.2.2 dX5_gatherEngines_157
def w_x_passPlannedHour : List Cond := .code yX5_passPlannedHour cX5_passPlannedHour 7 none :: ([.fieldLink RX5 20 "SeaLand$Plans" "leastThen" "[I", .constant RX5 55 2147483647, .code yJ7_fill_53178 cJ7_fill_53178 4 none, .methodLink RX5 56 yJ7_fill_53178, .static yJ7_fill_53178, .initialized RJ7, .fieldLink RX5 17 "SeaLand$Plans" "leastNow" "[I", .methodLink RX5 100 arraycopyName, .native arraycopyName, .static arraycopyName, .initialized "java/lang/System", .fieldLink RX5 76 "SeaLand$Plans" "engines" "I", .fieldLink RX5 13 "SeaLand$Plans" "liftOf" "[I", .methodLink RX5 94 Lib.Math.max.name, .static Lib.Math.max.name, .initialized "java/lang/Math", .code Lib.Math.max.name Lib.Math.max.code 2 (some .int)] ++ bs)
set_option maxHeartbeats 4000000 in
set_option maxRecDepth 100000 in
theorem x_passPlannedHour (l : Launch) (dC : Nat → ClassId) (dI : Nat → Nat → Nat) (a : Nat → Nat) (k : Nat → ClassId) (p1 p3 : Int32) (wb wc : Nat) (o : Option Nat) (lo f g : Nat → Int32) (sz : Nat) (e1 : p1 = nI wb) (e3 : p3 = nI wc) (hwb : wb ≤ 100) (hwc : wc ≤ 1000) (ho : ∀ v, o = some v → v ≤ 1000) (hlo : lo 0 = 0) (hf : ∀ j, j < 121 → f j = cq o j) : Met l yX5_passPlannedHour w_x_passPlannedHour ({ frames := 2, cells := 0, slots := 0, locals := 60 }) (va_Pc [.ref (a 75), .int p1, .int 0, .int p3] (fun U => U.heap.size = sz ∧ va_P (dC, dI) vwCl [(a 75, .inr (8, [.ref (a 76), .ref (a 77), .ref (a 78), .ref (a 79), .ref (a 80), .ref (a 81), .ref (a 82), .ref (a 83), .ref (a 84), .ref (a 85), .ref (a 86), .ref (a 87), .int 0, .int 0, .int 0, .int 0, .int 0])), (a 76, .inl ((k 76), 6, .inl lo)), (a 77, .inl ((k 77), 121, .inl f)), (a 78, .inl ((k 78), 121, .inl g))] U.heap ∧ va_K (dC, dI) vwCl [((k 76), .int), ((k 77), .int), ((k 78), .int)] U ∧ va_D (fun _ => True) [(a 75, .inr (8, [.ref (a 76), .ref (a 77), .ref (a 78), .ref (a 79), .ref (a 80), .ref (a 81), .ref (a 82), .ref (a 83), .ref (a 84), .ref (a 85), .ref (a 86), .ref (a 87), .int 0, .int 0, .int 0, .int 0, .int 0])), (a 76, .inl ((k 76), 6, .inl lo)), (a 77, .inl ((k 77), 121, .inl f)), (a 78, .inl ((k 78), 121, .inl g))] ∧ EV (va_A [(a 75, .inr (8, [.ref (a 76), .ref (a 77), .ref (a 78), .ref (a 79), .ref (a 80), .ref (a 81), .ref (a 82), .ref (a 83), .ref (a 84), .ref (a 85), .ref (a 86), .ref (a 87), .int 0, .int 0, .int 0, .int 0, .int 0])), (a 76, .inl ((k 76), 6, .inl lo)), (a 77, .inl ((k 77), 121, .inl f)), (a 78, .inl ((k 78), 121, .inl g))] sz) U U.heap)) (va_Qv (fun (u : (Nat → Int32) × (Nat → Int32)) => ∀ j, j < 121 → u.1 j = cq (lnx wb wc o) j) (fun (u : (Nat → Int32) × (Nat → Int32)) (t : State) => match u with | (f2, g2) => va_P (dC, dI) vwCl [(a 75, .inr (8, [.ref (a 76), .ref (a 77), .ref (a 78), .ref (a 79), .ref (a 80), .ref (a 81), .ref (a 82), .ref (a 83), .ref (a 84), .ref (a 85), .ref (a 86), .ref (a 87), .int 0, .int 0, .int 0, .int 0, .int 0])), (a 76, .inl ((k 76), 6, .inl lo)), (a 77, .inl ((k 77), 121, .inl f2)), (a 78, .inl ((k 78), 121, .inl g2))] t.heap ∧ va_D (va_A [(a 75, .inr (8, [.ref (a 76), .ref (a 77), .ref (a 78), .ref (a 79), .ref (a 80), .ref (a 81), .ref (a 82), .ref (a 83), .ref (a 84), .ref (a 85), .ref (a 86), .ref (a 87), .int 0, .int 0, .int 0, .int 0, .int 0])), (a 76, .inl ((k 76), 6, .inl lo)), (a 77, .inl ((k 77), 121, .inl f)), (a 78, .inl ((k 78), 121, .inl g))] sz) [(a 75, .inr (8, [.ref (a 76), .ref (a 77), .ref (a 78), .ref (a 79), .ref (a 80), .ref (a 81), .ref (a 82), .ref (a 83), .ref (a 84), .ref (a 85), .ref (a 86), .ref (a 87), .int 0, .int 0, .int 0, .int 0, .int 0])), (a 76, .inl ((k 76), 6, .inl lo)), (a 77, .inl ((k 77), 121, .inl f2)), (a 78, .inl ((k 78), 121, .inl g2))]) (va_A [(a 75, .inr (8, [.ref (a 76), .ref (a 77), .ref (a 78), .ref (a 79), .ref (a 80), .ref (a 81), .ref (a 82), .ref (a 83), .ref (a 84), .ref (a 85), .ref (a 86), .ref (a 87), .int 0, .int 0, .int 0, .int 0, .int 0])), (a 76, .inl ((k 76), 6, .inl lo)), (a 77, .inl ((k 77), 121, .inl f)), (a 78, .inl ((k 78), 121, .inl g))] sz)) 0 0 (va_A [(a 75, .inr (8, [.ref (a 76), .ref (a 77), .ref (a 78), .ref (a 79), .ref (a 80), .ref (a 81), .ref (a 82), .ref (a 83), .ref (a 84), .ref (a 85), .ref (a 86), .ref (a 87), .int 0, .int 0, .int 0, .int 0, .int 0])), (a 76, .inl ((k 76), 6, .inl lo)), (a 77, .inl ((k 77), 121, .inl f)), (a 78, .inl ((k 78), 121, .inl g))] sz) := by
  refine Met.ofW (cc := cX5_passPlannedHour) (maxL := 7) (ret := none) (by decide) rfl ?_
  intro p e s m args below meth c s₁ B hml hv
  obtain ⟨rfl, hsz, hP, hK, hD0, hE⟩ := hv
  have hx := B.exec
  have hb := B.bytes
  have hr := B.returns
  have hts := atoms_spec (ws := w_x_passPlannedHour) B.pre
  have hown : s.vm.findClass RX5 = some m.cls := findClass_of_methodNamed B.named
  have hlocks := B.notSynchronized
  subst hsz
  have hD := hD0.self (sz := s.heap.size)
  generalize hAe : va_A [(a 75, .inr (8, [.ref (a 76), .ref (a 77), .ref (a 78), .ref (a 79), .ref (a 80), .ref (a 81), .ref (a 82), .ref (a 83), .ref (a 84), .ref (a 85), .ref (a 86), .ref (a 87), .int 0, .int 0, .int 0, .int 0, .int 0])), (a 76, .inl ((k 76), 6, .inl lo)), (a 77, .inl ((k 77), 121, .inl f)), (a 78, .inl ((k 78), 121, .inl g))] s.heap.size = A at hD hE ⊢
  have hA : ∀ q : Nat, s.heap.size ≤ q → A q := fun q h => by rw [← hAe]; exact Or.inr h
  have hS : va_S A s.heap s.heap [] := va_S.rf
  have hP : va_P (dC, dI) vwCl [(a 75, .inr (8, [.ref (a 76), .ref (a 77), .ref (a 78), .ref (a 79), .ref (a 80), .ref (a 81), .ref (a 82), .ref (a 83), .ref (a 84), .ref (a 85), .ref (a 86), .ref (a 87), .int 0, .int 0, .int 0, .int 0, .int 0])), (a 76, .inl ((k 76), 6, .inl lo)), (a 77, .inl ((k 77), 121, .inl f)), (a 78, .inl ((k 78), 121, .inl g))] s.heap := hP
  have hl := lv_entry ([.ref (a 75), .int p1, .int 0, .int p3]) (n := 7) (Nat.le_of_ble_eq_true rfl)
  rw [lg_entry_eq]
  generalize (lg_sl ([.ref (a 75), .int p1, .int 0, .int p3]) ++ List.replicate (7 - (lg_sl ([.ref (a 75), .int p1, .int 0, .int p3])).length) Slot.unset).toArray = ls at hl ⊢
  have hl : lv_has ls 7 [(0, .ref (a 75)), (1, .int p1), (2, .int 0), (3, .int p3)] := hl
  refine lv_aload_n hx hb dX5_passPlannedHour_0 rfl (lv_at hl 0 rfl) ?_
  refine va_get (D := (dC, dI)) (ci := 8) (v := .ref (a 78)) (C := RX5) (T := TX5) (N := 17) hx hb hts bF_X5 hown hK hP 0 rfl rfl 2 (by decide) (ht_at hts 0 rfl) (fun _ h9 => h9) rfl dX5_passPlannedHour_1 ?_
  refine lv_ldc (v := 2147483647) hx hb hown (ht_at hts 1 rfl) dX5_passPlannedHour_4 ?_
  have hPc := hP.sub (ws' := [(a 78, .inl ((k 78), 121, .inl g))]) [3] rfl
  have hDc := hD.sub (ws' := [(a 78, .inl ((k 78), 121, .inl g))]) [3] (by decide) rfl
  have hKc := hK.sub (tys' := [((k 78), .int)]) [2] rfl
  have hFc := va_free (wc := [(a 78, .inl ((k 78), 121, .inl g))]) hD hS hA [3] rfl
  refine va_callv (va_runS (As := [.ref (a 78), .int 2147483647]) (rest := []) ⟨hx, hb, hml, hown, hts⟩ (j_fill121 l dC dI (a 78) (k 78) g 2147483647 s.heap.size ) (va_cwS 2 hts (goodIn_app (goodIn_r _ [4, 5, 6] (by decide +kernel) (by decide +kernel)) (goodIn_ca (goodIn_r _ [3] (by decide +kernel) (by decide +kernel)) (bs_in _ _))) rfl rfl rfl (by decide +kernel) ⟨(Nat.le_of_ble_eq_true rfl), (Nat.le_of_ble_eq_true rfl)⟩) ⟨fun a U g mk q => by obtain ⟨q0, q1, qP, qK, qD⟩ := q; exact ⟨q0, q1, qP, va_K.moved (u := U) (U := U.calling g mk a) (Vm.Alike.refl U.vm) qK, qD⟩, fun U hU hW => ⟨rfl, by rw [hU], by rw [hU]; exact hPc, va_K.moved hW.alike hKc, hDc.weaken (fun _ _ _ _ => trivial)⟩⟩ rfl rfl hl.1 rfl (lv_room (Nat.le_of_ble_eq_true rfl)) dX5_passPlannedHour_6 ⟨(Nat.le_of_ble_eq_true rfl), (Nat.le_of_ble_eq_true rfl)⟩) hS (fun q _ h => hFc q h) hFc (fun u t H1 locs ht hvm hw3 hB hz1 hk1 hS => ?_)
  obtain ⟨g4, rfl⟩ : ∃ z, z = u := ⟨_, rfl⟩
  obtain ⟨hP1, hD1⟩ := hB
  rw [ht] at hP1
  obtain ⟨hP, hD⟩ := va_join (wr := [(a 75, .inr (8, [.ref (a 76), .ref (a 77), .ref (a 78), .ref (a 79), .ref (a 80), .ref (a 81), .ref (a 82), .ref (a 83), .ref (a 84), .ref (a 85), .ref (a 86), .ref (a 87), .int 0, .int 0, .int 0, .int 0, .int 0])), (a 76, .inl ((k 76), 6, .inl lo)), (a 77, .inl ((k 77), 121, .inl f))]) (w1 := [(a 78, .inl ((k 78), 121, .inl g4))]) hP hD [3] [0, 1, 2] rfl rfl (by decide) (by decide) hk1 hFc hP1 hD1
  generalize H1 = H at hP hS ⊢
  have hP : va_P (dC, dI) vwCl [(a 75, .inr (8, [.ref (a 76), .ref (a 77), .ref (a 78), .ref (a 79), .ref (a 80), .ref (a 81), .ref (a 82), .ref (a 83), .ref (a 84), .ref (a 85), .ref (a 86), .ref (a 87), .int 0, .int 0, .int 0, .int 0, .int 0])), (a 76, .inl ((k 76), 6, .inl lo)), (a 77, .inl ((k 77), 121, .inl f)), (a 78, .inl ((k 78), 121, .inl g4))] H := hP
  have hD : va_D A [(a 75, .inr (8, [.ref (a 76), .ref (a 77), .ref (a 78), .ref (a 79), .ref (a 80), .ref (a 81), .ref (a 82), .ref (a 83), .ref (a 84), .ref (a 85), .ref (a 86), .ref (a 87), .int 0, .int 0, .int 0, .int 0, .int 0])), (a 76, .inl ((k 76), 6, .inl lo)), (a 77, .inl ((k 77), 121, .inl f)), (a 78, .inl ((k 78), 121, .inl g4))] := hD
  try dsimp only at hw3
  refine lv_iconst (v := 0) hx hb dX5_passPlannedHour_9 (by decide) ?_
  refine lv_istore (lv' := [(4, .int 0), (0, .ref (a 75)), (1, .int p1), (2, .int 0), (3, .int p3)]) hx hb dX5_passPlannedHour_10 hl (by decide) rfl (fun ls hl => ?_)
  have key5 : ∀ (n5 i : Nat), i + n5 = 121 → ∀ (y : Nat → Int32), ∀ (hg : ∀ j, j < 121 → y j = cq (if 0 < i then lnx wb wc o else none) j), ∀ (H : Heap) (locs : List Loc), va_P (dC, dI) vwCl [(a 75, .inr (8, [.ref (a 76), .ref (a 77), .ref (a 78), .ref (a 79), .ref (a 80), .ref (a 81), .ref (a 82), .ref (a 83), .ref (a 84), .ref (a 85), .ref (a 86), .ref (a 87), .int 0, .int 0, .int 0, .int 0, .int 0])), (a 76, .inl ((k 76), 6, .inl lo)), (a 77, .inl ((k 77), 121, .inl f)), (a 78, .inl ((k 78), 121, .inl y))] H → va_D A [(a 75, .inr (8, [.ref (a 76), .ref (a 77), .ref (a 78), .ref (a 79), .ref (a 80), .ref (a 81), .ref (a 82), .ref (a 83), .ref (a 84), .ref (a 85), .ref (a 86), .ref (a 87), .int 0, .int 0, .int 0, .int 0, .int 0])), (a 76, .inl ((k 76), 6, .inl lo)), (a 77, .inl ((k 77), 121, .inl f)), (a 78, .inl ((k 78), 121, .inl y))] → va_S A s.heap H locs → ∀ ls : Array Slot, lv_has ls 7 [(4, .int (nI i)), (0, .ref (a 75)), (1, .int p1), (2, .int 0), (3, .int p3)] → W p l e (headSpec w_x_passPlannedHour ({ frames := 2, cells := 0, slots := 0, locals := 60 })).room s m #[.ref (a 75), .int p1, .int 0, .int p3] below meth c H locs 0 0 (MQ below (va_Qv (fun (u : (Nat → Int32) × (Nat → Int32)) => ∀ j, j < 121 → u.1 j = cq (lnx wb wc o) j) (fun (u : (Nat → Int32) × (Nat → Int32)) (t : State) => match u with | (f2, g2) => va_P (dC, dI) vwCl [(a 75, .inr (8, [.ref (a 76), .ref (a 77), .ref (a 78), .ref (a 79), .ref (a 80), .ref (a 81), .ref (a 82), .ref (a 83), .ref (a 84), .ref (a 85), .ref (a 86), .ref (a 87), .int 0, .int 0, .int 0, .int 0, .int 0])), (a 76, .inl ((k 76), 6, .inl lo)), (a 77, .inl ((k 77), 121, .inl f2)), (a 78, .inl ((k 78), 121, .inl g2))] t.heap ∧ va_D A [(a 75, .inr (8, [.ref (a 76), .ref (a 77), .ref (a 78), .ref (a 79), .ref (a 80), .ref (a 81), .ref (a 82), .ref (a 83), .ref (a 84), .ref (a 85), .ref (a 86), .ref (a 87), .int 0, .int 0, .int 0, .int 0, .int 0])), (a 76, .inl ((k 76), 6, .inl lo)), (a 77, .inl ((k 77), 121, .inl f2)), (a 78, .inl ((k 78), 121, .inl g2))]) A) #[.ref (a 75), .int p1, .int 0, .int p3] s 0 0 A) (F0 m 12 ls []) := by
    intro n5
    induction n5 with
    | zero =>
      intro i hn5 y hg H locs hP hD hS ls hl
      obtain rfl : 121 = i := by omega
      refine lv_iload hx hb dX5_passPlannedHour_12 (lv_at hl 0 rfl) ?_
      refine lv_bipush (v := 120) hx hb dX5_passPlannedHour_14 (by decide) ?_
      refine lv_icmp_gt (tgt := 123) hx hb dX5_passPlannedHour_16 (by decide) (fun c6 => ?_) (fun c6 => absurd (nI_lt (a := 120) (b := 121) (by decide) (by decide)) c6)
      refine lv_aload_n hx hb dX5_passPlannedHour_123 rfl (lv_at hl 1 rfl) ?_
      refine va_get (D := (dC, dI)) (ci := 8) (v := .ref (a 78)) (C := RX5) (T := TX5) (N := 17) hx hb hts bF_X5 hown hK hP 0 rfl rfl 2 (by decide) (ht_at hts 0 rfl) (fun _ h9 => h9) rfl dX5_passPlannedHour_124 ?_
      refine lv_iconst (v := 0) hx hb dX5_passPlannedHour_127 (by decide) ?_
      refine lv_aload_n hx hb dX5_passPlannedHour_128 rfl (lv_at hl 1 rfl) ?_
      refine va_get (D := (dC, dI)) (ci := 8) (v := .ref (a 77)) (C := RX5) (T := TX5) (N := 17) hx hb hts bF_X5 hown hK hP 0 rfl rfl 1 (by decide) (ht_at hts 6 rfl) (fun _ h9 => h9) rfl dX5_passPlannedHour_129 ?_
      refine lv_iconst (v := 0) hx hb dX5_passPlannedHour_132 (by decide) ?_
      refine lv_bipush (v := 121) hx hb dX5_passPlannedHour_133 (by decide) ?_
      refine va_copyi (ty := .int) hx hb (hml.trans hl.1.symm) hown (ht_at hts 7 rfl) (ht_at hts 8 rfl) (ht_at hts 9 rfl) (ht_at hts 10 rfl) hK hP hD hS 3 2 2 1 rfl rfl rfl rfl rfl (by decide) (by decide) (by decide) (by decide) (by decide) (fun i hi => rfl) (Nat.le_of_ble_eq_true rfl) (Nat.le_of_ble_eq_true rfl) dX5_passPlannedHour_135 (fun H locs hP hD hS => ?_)
      have hP : va_P (dC, dI) vwCl [(a 75, .inr (8, [.ref (a 76), .ref (a 77), .ref (a 78), .ref (a 79), .ref (a 80), .ref (a 81), .ref (a 82), .ref (a 83), .ref (a 84), .ref (a 85), .ref (a 86), .ref (a 87), .int 0, .int 0, .int 0, .int 0, .int 0])), (a 76, .inl ((k 76), 6, .inl lo)), (a 77, .inl ((k 77), 121, .inl (va_cpy y f (0 : Int32).toNatClampNeg (0 : Int32).toNatClampNeg (121 : Int32).toNatClampNeg))), (a 78, .inl ((k 78), 121, .inl y))] H := hP
      have hD : va_D A [(a 75, .inr (8, [.ref (a 76), .ref (a 77), .ref (a 78), .ref (a 79), .ref (a 80), .ref (a 81), .ref (a 82), .ref (a 83), .ref (a 84), .ref (a 85), .ref (a 86), .ref (a 87), .int 0, .int 0, .int 0, .int 0, .int 0])), (a 76, .inl ((k 76), 6, .inl lo)), (a 77, .inl ((k 77), 121, .inl (va_cpy y f (0 : Int32).toNatClampNeg (0 : Int32).toNatClampNeg (121 : Int32).toNatClampNeg))), (a 78, .inl ((k 78), 121, .inl y))] := hD
      exact W.vret hx hb hr (fun t ht hW => ⟨⟨(va_cpy y f (0 : Int32).toNatClampNeg (0 : Int32).toNatClampNeg (121 : Int32).toNatClampNeg, y), rfl, (by intro j hj; show va_cpy y f (0 : Int32).toNatClampNeg (0 : Int32).toNatClampNeg (121 : Int32).toNatClampNeg j = _; rw [show (0 : Int32).toNatClampNeg = 0 from by decide, show (121 : Int32).toNatClampNeg = 121 from by decide, pk_cpy_in (Nat.zero_le _) (by omega), Nat.zero_add, Nat.sub_zero, hg j hj, if_pos (by decide)]), by rw [ht]; exact hP.sub (ws' := [(a 75, .inr (8, [.ref (a 76), .ref (a 77), .ref (a 78), .ref (a 79), .ref (a 80), .ref (a 81), .ref (a 82), .ref (a 83), .ref (a 84), .ref (a 85), .ref (a 86), .ref (a 87), .int 0, .int 0, .int 0, .int 0, .int 0])), (a 76, .inl ((k 76), 6, .inl lo)), (a 77, .inl ((k 77), 121, .inl (va_cpy y f (0 : Int32).toNatClampNeg (0 : Int32).toNatClampNeg (121 : Int32).toNatClampNeg))), (a 78, .inl ((k 78), 121, .inl y))]) [0, 1, 2, 3] rfl, hD.sub (ws' := [(a 75, .inr (8, [.ref (a 76), .ref (a 77), .ref (a 78), .ref (a 79), .ref (a 80), .ref (a 81), .ref (a 82), .ref (a 83), .ref (a 84), .ref (a 85), .ref (a 86), .ref (a 87), .int 0, .int 0, .int 0, .int 0, .int 0])), (a 76, .inl ((k 76), 6, .inl lo)), (a 77, .inl ((k 77), 121, .inl (va_cpy y f (0 : Int32).toNatClampNeg (0 : Int32).toNatClampNeg (121 : Int32).toNatClampNeg))), (a 78, .inl ((k 78), 121, .inl y))]) [0, 1, 2, 3] (by decide) rfl⟩, hS.F ht⟩) hS.2.2 dX5_passPlannedHour_138
    | succ n5 ih5 =>
      intro i hn5 y hg H locs hP hD hS ls hl
      have hlt7 : i < 121 := by omega
      refine lv_iload hx hb dX5_passPlannedHour_12 (lv_at hl 0 rfl) ?_
      refine lv_bipush (v := 120) hx hb dX5_passPlannedHour_14 (by decide) ?_
      refine lv_icmp_gt (tgt := 123) hx hb dX5_passPlannedHour_16 (by decide) (fun c8 => absurd c8 (ngt_e (b := 120) rfl rfl (by omega) (by decide))) (fun c8 => ?_)
      refine lv_iconst (v := 0) hx hb dX5_passPlannedHour_19 (by decide) ?_
      refine lv_istore (lv' := [(5, .int 0), (4, .int (nI i)), (0, .ref (a 75)), (1, .int p1), (2, .int 0), (3, .int p3)]) hx hb dX5_passPlannedHour_20 hl (by decide) rfl (fun ls hl => ?_)
      refine lv_iload hx hb dX5_passPlannedHour_22 (lv_at hl 0 rfl) ?_
      refine lv_aload_n hx hb dX5_passPlannedHour_24 rfl (lv_at hl 2 rfl) ?_
      refine va_get (D := (dC, dI)) (ci := 8) (v := .int 0) (C := RX5) (T := TX5) (N := 17) hx hb hts bF_X5 hown hK hP 0 rfl rfl 12 (by decide) (ht_at hts 11 rfl) (fun _ h9 => h9) rfl dX5_passPlannedHour_25 ?_
      refine lv_icmp_gt (tgt := 117) hx hb dX5_passPlannedHour_28 (by decide) (fun c9 => absurd c9 (by decide)) (fun c9 => ?_)
      refine lv_iload hx hb dX5_passPlannedHour_31 (lv_at hl 1 rfl) ?_
      refine lv_iload hx hb dX5_passPlannedHour_33 (lv_at hl 0 rfl) ?_
      refine lv_iadd hx hb dX5_passPlannedHour_35 ?_
      refine lv_topi (fun x10 ex10 => ?_)
      obtain rfl : nI i = x10 := (ex10.trans (Int32.add_zero _)).symm
      refine lv_bipush (v := 120) hx hb dX5_passPlannedHour_36 (by decide) ?_
      refine lv_icmp_gt (tgt := 117) hx hb dX5_passPlannedHour_38 (by decide) (fun c11 => absurd c11 (ngt_e (b := 120) rfl rfl (by omega) (by decide))) (fun c11 => ?_)
      by_cases hi0 : i = 0
      · rcases onS o with ho9 | ⟨v9, ho9⟩
        · refine lv_aload_n hx hb dX5_passPlannedHour_41 rfl (lv_at hl 2 rfl) ?_
          refine va_get (D := (dC, dI)) (ci := 8) (v := .ref (a 77)) (C := RX5) (T := TX5) (N := 17) hx hb hts bF_X5 hown hK hP 0 rfl rfl 1 (by decide) (ht_at hts 6 rfl) (fun _ h9 => h9) rfl dX5_passPlannedHour_42 ?_
          refine lv_iload hx hb dX5_passPlannedHour_45 (lv_at hl 1 rfl) ?_
          refine va_iald hx hb hK hP 2 1 rfl rfl (vp_in_nI (by omega) (by decide)) dX5_passPlannedHour_47 ?_
          refine lv_topi (fun x12 ex12 => ?_)
          obtain rfl : 2147483647 = x12 := (ex12.trans (by rw [nI_clamp (by omega), hf _ (by omega), ho9, cq_none])).symm
          refine lv_ldc (v := 2147483647) hx hb hown (ht_at hts 1 rfl) dX5_passPlannedHour_48 ?_
          refine lv_icmp_eq (tgt := 117) hx hb dX5_passPlannedHour_50 (by decide) (fun c13 => ?_) (fun c13 => absurd rfl c13)
          obtain ⟨x14, ex14⟩ : ∃ y : Int32, y = (nI i) + 1 := ⟨_, rfl⟩
          refine lv_iinc (v := x14) (lv' := [(4, .int x14), (5, .int 0), (0, .ref (a 75)), (1, .int p1), (2, .int 0), (3, .int p3)]) hx hb dX5_passPlannedHour_117 hl (k := 1) rfl (by rw [ex14]; rfl) (by decide) rfl (fun ls hl => ?_)
          refine lv_goto (tgt := 12) hx hb dX5_passPlannedHour_120 (by decide) ?_
          obtain rfl : x14 = nI (i + 1) := ex14.trans (nI_1 i)
          exact ih5 (i + 1) (by omega) y (fun j hj => by rw [hg j hj, ho9, if_pos (Nat.succ_pos _), if_neg (by omega)]; rfl) _ _ (hP.sub [0, 1, 2, 3] rfl) (hD.sub [0, 1, 2, 3] (by decide) rfl) hS ls (lv_sub hl [0, 2, 3, 4, 5] rfl)
        · have hv9 : v9 ≤ 1000 := ho v9 ho9
          refine lv_aload_n hx hb dX5_passPlannedHour_41 rfl (lv_at hl 2 rfl) ?_
          refine va_get (D := (dC, dI)) (ci := 8) (v := .ref (a 77)) (C := RX5) (T := TX5) (N := 17) hx hb hts bF_X5 hown hK hP 0 rfl rfl 1 (by decide) (ht_at hts 6 rfl) (fun _ h9 => h9) rfl dX5_passPlannedHour_42 ?_
          refine lv_iload hx hb dX5_passPlannedHour_45 (lv_at hl 1 rfl) ?_
          refine va_iald hx hb hK hP 2 1 rfl rfl (vp_in_nI (by omega) (by decide)) dX5_passPlannedHour_47 ?_
          refine lv_topi (fun x15 ex15 => ?_)
          obtain rfl : nI v9 = x15 := (ex15.trans (by rw [hi0, nI_clamp (by decide), hf _ (by decide), ho9]; rfl)).symm
          refine lv_ldc (v := 2147483647) hx hb hown (ht_at hts 1 rfl) dX5_passPlannedHour_48 ?_
          refine lv_icmp_eq (tgt := 117) hx hb dX5_passPlannedHour_50 (by decide) (fun c16 => absurd c16 (nM (by omega))) (fun c16 => ?_)
          refine lv_iconst (v := 0) hx hb dX5_passPlannedHour_53 (by decide) ?_
          refine lv_aload_n hx hb dX5_passPlannedHour_54 rfl (lv_at hl 2 rfl) ?_
          refine va_get (D := (dC, dI)) (ci := 8) (v := .ref (a 77)) (C := RX5) (T := TX5) (N := 17) hx hb hts bF_X5 hown hK hP 0 rfl rfl 1 (by decide) (ht_at hts 6 rfl) (fun _ h9 => h9) rfl dX5_passPlannedHour_55 ?_
          refine lv_iload hx hb dX5_passPlannedHour_58 (lv_at hl 1 rfl) ?_
          refine va_iald hx hb hK hP 2 1 rfl rfl (vp_in_nI (by omega) (by decide)) dX5_passPlannedHour_60 ?_
          refine lv_topi (fun x17 ex17 => ?_)
          obtain rfl : nI v9 = x17 := (ex17.trans (by rw [hi0, nI_clamp (by decide), hf _ (by decide), ho9]; rfl)).symm
          refine lv_iload_n hx hb dX5_passPlannedHour_61 rfl (lv_at hl 3 rfl) ?_
          refine lv_iadd hx hb dX5_passPlannedHour_62 ?_
          refine lv_topi (fun x18 ex18 => ?_)
          obtain rfl : nI (v9 + wb) = x18 := (ex18.trans (by rw [e1, nI_add])).symm
          refine lv_iload_n hx hb dX5_passPlannedHour_63 rfl (lv_at hl 4 rfl) ?_
          refine lv_isub hx hb dX5_passPlannedHour_64 ?_
          refine lv_topi (fun x19 ex19 => ?_)
          obtain rfl : nI (v9 + wb) = x19 := (ex19.trans (Int32.sub_zero _)).symm
          refine lv_aload_n hx hb dX5_passPlannedHour_65 rfl (lv_at hl 2 rfl) ?_
          refine va_get (D := (dC, dI)) (ci := 8) (v := .ref (a 76)) (C := RX5) (T := TX5) (N := 17) hx hb hts bF_X5 hown hK hP 0 rfl rfl 0 (by decide) (ht_at hts 12 rfl) (fun _ h9 => h9) rfl dX5_passPlannedHour_66 ?_
          refine lv_iload hx hb dX5_passPlannedHour_69 (lv_at hl 0 rfl) ?_
          refine va_iald hx hb hK hP 1 0 rfl rfl (by unfold vp_in; decide) dX5_passPlannedHour_71 ?_
          refine lv_topi (fun x20 ex20 => ?_)
          obtain rfl : 0 = x20 := (ex20.trans hlo).symm
          refine lv_isub hx hb dX5_passPlannedHour_72 ?_
          refine lv_topi (fun x21 ex21 => ?_)
          obtain rfl : nI (v9 + wb) = x21 := (ex21.trans (Int32.sub_zero _)).symm
          refine va_mmax hx hb (hml.trans hl.1.symm) hown (ht_at hts 13 rfl) (ht_at hts 14 rfl) (ht_at hts 15 rfl) (ht_at hts 16 rfl) (Nat.le_of_ble_eq_true rfl) (Nat.le_of_ble_eq_true rfl) (Nat.le_of_ble_eq_true rfl) (Nat.le_of_ble_eq_true rfl) dX5_passPlannedHour_73 ?_
          refine lv_topi (fun x22 ex22 => ?_)
          obtain rfl : nI (v9 + wb) = x22 := (ex22.trans (nI_max0 (by omega))).symm
          refine lv_istore (lv' := [(6, .int (nI (v9 + wb))), (5, .int 0), (4, .int (nI i)), (0, .ref (a 75)), (1, .int p1), (2, .int 0), (3, .int p3)]) hx hb dX5_passPlannedHour_76 hl (by decide) rfl (fun ls hl => ?_)
          refine lv_iload hx hb dX5_passPlannedHour_78 (lv_at hl 0 rfl) ?_
          refine lv_iload_n hx hb dX5_passPlannedHour_80 rfl (lv_at hl 6 rfl) ?_
          refine lv_icmp_gt (tgt := 111) hx hb dX5_passPlannedHour_81 (by decide) (fun c23 => ?_) (fun c23 => ?_)
          · refine lv_iinc (v := 1) (lv' := [(5, .int 1), (6, .int (nI (v9 + wb))), (4, .int (nI i)), (0, .ref (a 75)), (1, .int p1), (2, .int 0), (3, .int p3)]) hx hb dX5_passPlannedHour_111 hl (k := 1) rfl (by decide) (by decide) rfl (fun ls hl => ?_)
            refine lv_goto (tgt := 22) hx hb dX5_passPlannedHour_114 (by decide) ?_
            refine lv_iload hx hb dX5_passPlannedHour_22 (lv_at hl 0 rfl) ?_
            refine lv_aload_n hx hb dX5_passPlannedHour_24 rfl (lv_at hl 3 rfl) ?_
            refine va_get (D := (dC, dI)) (ci := 8) (v := .int 0) (C := RX5) (T := TX5) (N := 17) hx hb hts bF_X5 hown hK hP 0 rfl rfl 12 (by decide) (ht_at hts 11 rfl) (fun _ h9 => h9) rfl dX5_passPlannedHour_25 ?_
            refine lv_icmp_gt (tgt := 117) hx hb dX5_passPlannedHour_28 (by decide) (fun c24 => ?_) (fun c24 => absurd c24 (by decide))
            obtain ⟨x25, ex25⟩ : ∃ y : Int32, y = (nI i) + 1 := ⟨_, rfl⟩
            refine lv_iinc (v := x25) (lv' := [(4, .int x25), (5, .int 1), (6, .int (nI (v9 + wb))), (0, .ref (a 75)), (1, .int p1), (2, .int 0), (3, .int p3)]) hx hb dX5_passPlannedHour_117 hl (k := 2) rfl (by rw [ex25]; rfl) (by decide) rfl (fun ls hl => ?_)
            refine lv_goto (tgt := 12) hx hb dX5_passPlannedHour_120 (by decide) ?_
            obtain rfl : x25 = nI (i + 1) := ex25.trans (nI_1 i)
            exact ih5 (i + 1) (by omega) y (fun j hj => by rw [hg j hj, ho9, if_pos (Nat.succ_pos _), if_neg (by omega)]; show cq none j = cq (if v9 + wb ≤ wc then some (v9 + wb) else none) j; rw [if_neg (fun k => absurd c23 (ngt_e rfl e3 k (by omega)))]) _ _ (hP.sub [0, 1, 2, 3] rfl) (hD.sub [0, 1, 2, 3] (by decide) rfl) hS ls (lv_sub hl [0, 3, 4, 5, 6] rfl)
          · have hk9 : v9 + wb ≤ wc := Nat.le_of_not_lt (fun k => c23 (gt_e rfl e3 k (by omega)))
            refine lv_iload hx hb dX5_passPlannedHour_84 (lv_at hl 0 rfl) ?_
            refine lv_aload_n hx hb dX5_passPlannedHour_86 rfl (lv_at hl 3 rfl) ?_
            refine va_get (D := (dC, dI)) (ci := 8) (v := .ref (a 78)) (C := RX5) (T := TX5) (N := 17) hx hb hts bF_X5 hown hK hP 0 rfl rfl 2 (by decide) (ht_at hts 0 rfl) (fun _ h9 => h9) rfl dX5_passPlannedHour_87 ?_
            refine lv_iload hx hb dX5_passPlannedHour_90 (lv_at hl 2 rfl) ?_
            refine lv_iload hx hb dX5_passPlannedHour_92 (lv_at hl 1 rfl) ?_
            refine lv_iadd hx hb dX5_passPlannedHour_94 ?_
            refine lv_topi (fun x26 ex26 => ?_)
            obtain rfl : nI i = x26 := (ex26.trans (Int32.add_zero _)).symm
            refine va_iald hx hb hK hP 3 2 rfl rfl (vp_in_nI (by omega) (by decide)) dX5_passPlannedHour_95 ?_
            refine lv_topi (fun x27 ex27 => ?_)
            obtain rfl : 2147483647 = x27 := (ex27.trans (by rw [hi0, nI_clamp (by decide), hg _ (by decide), if_neg (by omega), cq_none])).symm
            refine lv_icmp_ge (tgt := 111) hx hb dX5_passPlannedHour_96 (by decide) (fun c28 => absurd c28 (ltM (by omega))) (fun c28 => ?_)
            refine lv_aload_n hx hb dX5_passPlannedHour_99 rfl (lv_at hl 3 rfl) ?_
            refine va_get (D := (dC, dI)) (ci := 8) (v := .ref (a 78)) (C := RX5) (T := TX5) (N := 17) hx hb hts bF_X5 hown hK hP 0 rfl rfl 2 (by decide) (ht_at hts 0 rfl) (fun _ h9 => h9) rfl dX5_passPlannedHour_100 ?_
            refine lv_iload hx hb dX5_passPlannedHour_103 (lv_at hl 2 rfl) ?_
            refine lv_iload hx hb dX5_passPlannedHour_105 (lv_at hl 1 rfl) ?_
            refine lv_iadd hx hb dX5_passPlannedHour_107 ?_
            refine lv_topi (fun x29 ex29 => ?_)
            obtain rfl : nI i = x29 := (ex29.trans (Int32.add_zero _)).symm
            refine lv_iload hx hb dX5_passPlannedHour_108 (lv_at hl 0 rfl) ?_
            refine va_iast hx hb hK hP hD hS 3 2 rfl rfl (vp_in_nI (by omega) (by decide)) dX5_passPlannedHour_110 (fun H locs hP hD hS => ?_)
            have hP : va_P (dC, dI) vwCl [(a 75, .inr (8, [.ref (a 76), .ref (a 77), .ref (a 78), .ref (a 79), .ref (a 80), .ref (a 81), .ref (a 82), .ref (a 83), .ref (a 84), .ref (a 85), .ref (a 86), .ref (a 87), .int 0, .int 0, .int 0, .int 0, .int 0])), (a 76, .inl ((k 76), 6, .inl lo)), (a 77, .inl ((k 77), 121, .inl f)), (a 78, .inl ((k 78), 121, .inl (upd y (nI i).toNatClampNeg (nI (v9 + wb)))))] H := hP
            have hD : va_D A [(a 75, .inr (8, [.ref (a 76), .ref (a 77), .ref (a 78), .ref (a 79), .ref (a 80), .ref (a 81), .ref (a 82), .ref (a 83), .ref (a 84), .ref (a 85), .ref (a 86), .ref (a 87), .int 0, .int 0, .int 0, .int 0, .int 0])), (a 76, .inl ((k 76), 6, .inl lo)), (a 77, .inl ((k 77), 121, .inl f)), (a 78, .inl ((k 78), 121, .inl (upd y (nI i).toNatClampNeg (nI (v9 + wb)))))] := hD
            refine lv_iinc (v := 1) (lv' := [(5, .int 1), (6, .int (nI (v9 + wb))), (4, .int (nI i)), (0, .ref (a 75)), (1, .int p1), (2, .int 0), (3, .int p3)]) hx hb dX5_passPlannedHour_111 hl (k := 1) rfl (by decide) (by decide) rfl (fun ls hl => ?_)
            refine lv_goto (tgt := 22) hx hb dX5_passPlannedHour_114 (by decide) ?_
            refine lv_iload hx hb dX5_passPlannedHour_22 (lv_at hl 0 rfl) ?_
            refine lv_aload_n hx hb dX5_passPlannedHour_24 rfl (lv_at hl 3 rfl) ?_
            refine va_get (D := (dC, dI)) (ci := 8) (v := .int 0) (C := RX5) (T := TX5) (N := 17) hx hb hts bF_X5 hown hK hP 0 rfl rfl 12 (by decide) (ht_at hts 11 rfl) (fun _ h9 => h9) rfl dX5_passPlannedHour_25 ?_
            refine lv_icmp_gt (tgt := 117) hx hb dX5_passPlannedHour_28 (by decide) (fun c30 => ?_) (fun c30 => absurd c30 (by decide))
            obtain ⟨x31, ex31⟩ : ∃ y : Int32, y = (nI i) + 1 := ⟨_, rfl⟩
            refine lv_iinc (v := x31) (lv' := [(4, .int x31), (5, .int 1), (6, .int (nI (v9 + wb))), (0, .ref (a 75)), (1, .int p1), (2, .int 0), (3, .int p3)]) hx hb dX5_passPlannedHour_117 hl (k := 2) rfl (by rw [ex31]; rfl) (by decide) rfl (fun ls hl => ?_)
            refine lv_goto (tgt := 12) hx hb dX5_passPlannedHour_120 (by decide) ?_
            obtain rfl : x31 = nI (i + 1) := ex31.trans (nI_1 i)
            exact ih5 (i + 1) (by omega) (upd y (nI i).toNatClampNeg (nI (v9 + wb))) (fun j hj => by
        rw [if_pos (Nat.succ_pos _), show lnx wb wc o = some (v9 + wb) from by rw [ho9]; exact if_pos hk9, hi0, nI_clamp (by decide)]
        by_cases kk : j = 0
        · subst kk; rw [pk_us]; rfl
        · rw [pk_un kk, hg j hj, cq_pos kk, cq_pos kk]) _ _ (hP.sub [0, 1, 2, 3] rfl) (hD.sub [0, 1, 2, 3] (by decide) rfl) hS ls (lv_sub hl [0, 3, 4, 5, 6] rfl)
      · refine lv_aload_n hx hb dX5_passPlannedHour_41 rfl (lv_at hl 2 rfl) ?_
        refine va_get (D := (dC, dI)) (ci := 8) (v := .ref (a 77)) (C := RX5) (T := TX5) (N := 17) hx hb hts bF_X5 hown hK hP 0 rfl rfl 1 (by decide) (ht_at hts 6 rfl) (fun _ h9 => h9) rfl dX5_passPlannedHour_42 ?_
        refine lv_iload hx hb dX5_passPlannedHour_45 (lv_at hl 1 rfl) ?_
        refine va_iald hx hb hK hP 2 1 rfl rfl (vp_in_nI (by omega) (by decide)) dX5_passPlannedHour_47 ?_
        refine lv_topi (fun x32 ex32 => ?_)
        obtain rfl : 2147483647 = x32 := (ex32.trans (by rw [nI_clamp (by omega), hf _ (by omega), cq_pos hi0])).symm
        refine lv_ldc (v := 2147483647) hx hb hown (ht_at hts 1 rfl) dX5_passPlannedHour_48 ?_
        refine lv_icmp_eq (tgt := 117) hx hb dX5_passPlannedHour_50 (by decide) (fun c33 => ?_) (fun c33 => absurd rfl c33)
        obtain ⟨x34, ex34⟩ : ∃ y : Int32, y = (nI i) + 1 := ⟨_, rfl⟩
        refine lv_iinc (v := x34) (lv' := [(4, .int x34), (5, .int 0), (0, .ref (a 75)), (1, .int p1), (2, .int 0), (3, .int p3)]) hx hb dX5_passPlannedHour_117 hl (k := 1) rfl (by rw [ex34]; rfl) (by decide) rfl (fun ls hl => ?_)
        refine lv_goto (tgt := 12) hx hb dX5_passPlannedHour_120 (by decide) ?_
        obtain rfl : x34 = nI (i + 1) := ex34.trans (nI_1 i)
        exact ih5 (i + 1) (by omega) y (fun j hj => by rw [hg j hj, if_pos (Nat.succ_pos _), if_pos (by omega)]) _ _ (hP.sub [0, 1, 2, 3] rfl) (hD.sub [0, 1, 2, 3] (by decide) rfl) hS ls (lv_sub hl [0, 2, 3, 4, 5] rfl)
  exact key5 121 0 (by decide) g4 (fun j hj => by rw [hw3 j hj, if_neg (by decide), cq_none]) _ _ (hP.sub [0, 1, 2, 3] rfl) (hD.sub [0, 1, 2, 3] (by decide) rfl) hS ls (lv_sub hl [0, 1, 2, 3, 4] rfl)
