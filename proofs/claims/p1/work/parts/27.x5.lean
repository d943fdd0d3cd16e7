theorem fill_step {g : Nat → Int32} {i n : Nat} {v : Int32} (hi : i < n) (hn : n < 2 ^ 31) (h : ∀ j, j < i → g j = v) : ∀ j, j < i + 1 → upd g (nI i).toNatClampNeg v j = v := by
  intro j hj
  rw [nI_clamp (by omega)]
  by_cases e : j = i
  · rw [e, pk_us]
  · rw [pk_un e, h j (by omega)]
theorem fill_0 {g : Nat → Int32} {v : Int32} : ∀ j, j < 0 → g j = v := fun _ h => absurd h (Nat.not_lt_zero _)
def T_count (p0 : Int32) : Int32 × Int32 := (0, if 0 ≤ p0 ∧ p0 ≤ 17 then 0 else (-1))
def w_j_fill96 : List Cond := .code yJ7_fill_53178 cJ7_fill_53178 4 none :: ([] ++ bs)
set_option maxHeartbeats 4000000 in
set_option maxRecDepth 100000 in
theorem j_fill96 (l : Launch) (dC : Nat → ClassId) (dI : Nat → Nat → Nat) (z : Nat) (kz : ClassId) (f : Nat → Int32) (v : Int32) (sz : Nat) : Met l yJ7_fill_53178 w_j_fill96 ({ frames := 0, cells := 0, slots := 0, locals := 0 }) (va_Pc [.ref z, .int v] (fun U => U.heap.size = sz ∧ va_P (dC, dI) vwCl [(z, .inl (kz, 96, .inl f))] U.heap ∧ va_K (dC, dI) vwCl [(kz, .int)] U ∧ va_D (fun _ => True) [(z, .inl (kz, 96, .inl f))])) (va_Qv (fun (u : Nat → Int32) => ∀ j, j < 96 → u j = v) (fun (g : Nat → Int32) (t : State) => va_P (dC, dI) vwCl [(z, .inl (kz, 96, .inl g))] t.heap ∧ va_D (va_A [(z, .inl (kz, 96, .inl f))] sz) [(z, .inl (kz, 96, .inl g))]) (va_A [(z, .inl (kz, 96, .inl f))] sz)) 0 0 (va_A [(z, .inl (kz, 96, .inl f))] sz) := by
  refine va_MetF (cc := cJ7_fill_53178) (maxL := 4) (ret := none) (by decide +kernel) rfl ?_
  intro p e s m args below meth c s₁ B hml hv
  obtain ⟨rfl, hsz, hP, hK, hD0⟩ := hv
  have hx := B.exec
  have hb := B.bytes
  have hr := B.returns
  have hts := atoms_spec (ws := w_j_fill96) B.pre
  have hown : s.vm.findClass RJ7 = some m.cls := findClass_of_methodNamed B.named
  have hlocks := B.notSynchronized
  subst hsz
  have hD := hD0.self (sz := s.heap.size)
  generalize hAe : va_A [(z, .inl (kz, 96, .inl f))] s.heap.size = A at hD ⊢
  have hA : ∀ q : Nat, s.heap.size ≤ q → A q := fun q h => by rw [← hAe]; exact Or.inr h
  have hS : va_S A s.heap s.heap [] := va_S.rf
  have hP : va_P (dC, dI) vwCl [(z, .inl (kz, 96, .inl f))] s.heap := hP
  have hl := lv_entry ([.ref z, .int v]) (n := 4) (Nat.le_of_ble_eq_true rfl)
  rw [lg_entry_eq]
  generalize (lg_sl ([.ref z, .int v]) ++ List.replicate (4 - (lg_sl ([.ref z, .int v])).length) Slot.unset).toArray = ls at hl ⊢
  have hl : lv_has ls 4 [(0, .ref z), (1, .int v)] := hl
  refine lv_iconst (v := 0) hx hb dJ7_fill_53178_0 (by decide) ?_
  refine lv_istore_n (lv' := [(2, .int 0), (0, .ref z), (1, .int v)]) hx hb dJ7_fill_53178_1 rfl hl (by decide) rfl (fun ls hl => ?_)
  refine lv_aload_n hx hb dJ7_fill_53178_2 rfl (lv_at hl 1 rfl) ?_
  refine va_alen (v := 96) hx hb hK hP 0 0 rfl rfl rfl dJ7_fill_53178_3 ?_
  refine lv_istore_n (lv' := [(3, .int 96), (2, .int 0), (0, .ref z), (1, .int v)]) hx hb dJ7_fill_53178_4 rfl hl (by decide) rfl (fun ls hl => ?_)
  have key1 : ∀ (n1 i : Nat), i + n1 = 96 → ∀ (g : Nat → Int32), ∀ (hg : ∀ j, j < i → g j = v), ∀ (H : Heap) (locs : List Loc), va_P (dC, dI) vwCl [(z, .inl (kz, 96, .inl g))] H → va_D A [(z, .inl (kz, 96, .inl g))] → va_S A s.heap H locs → ∀ ls : Array Slot, lv_has ls 4 [(2, .int (nI i)), (3, .int 96), (0, .ref z), (1, .int v)] → W p l e (headSpec w_j_fill96 ({ frames := 0, cells := 0, slots := 0, locals := 0 })).room s m #[.ref z, .int v] below meth c H locs 0 0 (MQ below (va_Qv (fun (u : Nat → Int32) => ∀ j, j < 96 → u j = v) (fun (g : Nat → Int32) (t : State) => va_P (dC, dI) vwCl [(z, .inl (kz, 96, .inl g))] t.heap ∧ va_D A [(z, .inl (kz, 96, .inl g))]) A) #[.ref z, .int v] s 0 0 A) (F0 m 5 ls []) := by
    intro n1
    induction n1 with
    | zero =>
      intro i hn1 g hg H locs hP hD hS ls hl
      obtain rfl : 96 = i := by omega
      refine lv_iload_n hx hb dJ7_fill_53178_5 rfl (lv_at hl 0 rfl) ?_
      refine lv_iload_n hx hb dJ7_fill_53178_6 rfl (lv_at hl 1 rfl) ?_
      refine lv_icmp_ge (tgt := 20) hx hb dJ7_fill_53178_7 (by decide) (fun c2 => ?_) (fun c2 => absurd c2 (by decide))
      exact W.vret hx hb hr (fun t ht hW => ⟨⟨g, rfl, (by exact hg), by rw [ht]; exact hP.sub (ws' := [(z, .inl (kz, 96, .inl g))]) [0] rfl, hD.sub (ws' := [(z, .inl (kz, 96, .inl g))]) [0] (by decide) rfl⟩, hS.F ht⟩) hS.2.2 dJ7_fill_53178_20
    | succ n1 ih1 =>
      intro i hn1 g hg H locs hP hD hS ls hl
      have hlt3 : i < 96 := by omega
      refine lv_iload_n hx hb dJ7_fill_53178_5 rfl (lv_at hl 0 rfl) ?_
      refine lv_iload_n hx hb dJ7_fill_53178_6 rfl (lv_at hl 1 rfl) ?_
      refine lv_icmp_ge (tgt := 20) hx hb dJ7_fill_53178_7 (by decide) (fun c4 => absurd c4 (nI_ge (b := 96) hlt3 (by decide))) (fun c4 => ?_)
      refine lv_aload_n hx hb dJ7_fill_53178_10 rfl (lv_at hl 2 rfl) ?_
      refine lv_iload_n hx hb dJ7_fill_53178_11 rfl (lv_at hl 0 rfl) ?_
      refine lv_iload_n hx hb dJ7_fill_53178_12 rfl (lv_at hl 3 rfl) ?_
      refine va_iast hx hb hK hP hD hS 0 0 rfl rfl (vp_in_nI (Nat.lt_of_lt_of_le hlt3 (by decide)) (by decide)) dJ7_fill_53178_13 (fun H locs hP hD hS => ?_)
      have hP : va_P (dC, dI) vwCl [(z, .inl (kz, 96, .inl (upd g (nI i).toNatClampNeg v)))] H := hP
      have hD : va_D A [(z, .inl (kz, 96, .inl (upd g (nI i).toNatClampNeg v)))] := hD
      obtain ⟨x5, ex5⟩ : ∃ y : Int32, y = (nI i) + 1 := ⟨_, rfl⟩
      refine lv_iinc (v := x5) (lv' := [(2, .int x5), (3, .int 96), (0, .ref z), (1, .int v)]) hx hb dJ7_fill_53178_14 hl (k := 0) rfl (by rw [ex5]; rfl) (by decide) rfl (fun ls hl => ?_)
      refine lv_goto (tgt := 5) hx hb dJ7_fill_53178_17 (by decide) ?_
      obtain rfl : x5 = nI (i + 1) := ex5.trans (nI_1 i)
      exact ih1 (i + 1) (by omega) _ (fill_step hlt3 (by decide) hg) _ _ (hP.sub [0] rfl) (hD.sub [0] (by decide) rfl) hS ls (lv_sub hl [0, 1, 2, 3] rfl)
  exact key1 96 0 (by decide) f fill_0 _ _ (hP.sub [0] rfl) (hD.sub [0] (by decide) rfl) hS ls (lv_sub hl [1, 0, 2, 3] rfl)
def w_j_fill121 : List Cond := .code yJ7_fill_53178 cJ7_fill_53178 4 none :: ([] ++ bs)
set_option maxHeartbeats 4000000 in
set_option maxRecDepth 100000 in
theorem j_fill121 (l : Launch) (dC : Nat → ClassId) (dI : Nat → Nat → Nat) (z : Nat) (kz : ClassId) (f : Nat → Int32) (v : Int32) (sz : Nat) : Met l yJ7_fill_53178 w_j_fill121 ({ frames := 0, cells := 0, slots := 0, locals := 0 }) (va_Pc [.ref z, .int v] (fun U => U.heap.size = sz ∧ va_P (dC, dI) vwCl [(z, .inl (kz, 121, .inl f))] U.heap ∧ va_K (dC, dI) vwCl [(kz, .int)] U ∧ va_D (fun _ => True) [(z, .inl (kz, 121, .inl f))])) (va_Qv (fun (u : Nat → Int32) => ∀ j, j < 121 → u j = v) (fun (g : Nat → Int32) (t : State) => va_P (dC, dI) vwCl [(z, .inl (kz, 121, .inl g))] t.heap ∧ va_D (va_A [(z, .inl (kz, 121, .inl f))] sz) [(z, .inl (kz, 121, .inl g))]) (va_A [(z, .inl (kz, 121, .inl f))] sz)) 0 0 (va_A [(z, .inl (kz, 121, .inl f))] sz) := by
  refine va_MetF (cc := cJ7_fill_53178) (maxL := 4) (ret := none) (by decide +kernel) rfl ?_
  intro p e s m args below meth c s₁ B hml hv
  obtain ⟨rfl, hsz, hP, hK, hD0⟩ := hv
  have hx := B.exec
  have hb := B.bytes
  have hr := B.returns
  have hts := atoms_spec (ws := w_j_fill121) B.pre
  have hown : s.vm.findClass RJ7 = some m.cls := findClass_of_methodNamed B.named
  have hlocks := B.notSynchronized
  subst hsz
  have hD := hD0.self (sz := s.heap.size)
  generalize hAe : va_A [(z, .inl (kz, 121, .inl f))] s.heap.size = A at hD ⊢
  have hA : ∀ q : Nat, s.heap.size ≤ q → A q := fun q h => by rw [← hAe]; exact Or.inr h
  have hS : va_S A s.heap s.heap [] := va_S.rf
  have hP : va_P (dC, dI) vwCl [(z, .inl (kz, 121, .inl f))] s.heap := hP
  have hl := lv_entry ([.ref z, .int v]) (n := 4) (Nat.le_of_ble_eq_true rfl)
  rw [lg_entry_eq]
  generalize (lg_sl ([.ref z, .int v]) ++ List.replicate (4 - (lg_sl ([.ref z, .int v])).length) Slot.unset).toArray = ls at hl ⊢
  have hl : lv_has ls 4 [(0, .ref z), (1, .int v)] := hl
  refine lv_iconst (v := 0) hx hb dJ7_fill_53178_0 (by decide) ?_
  refine lv_istore_n (lv' := [(2, .int 0), (0, .ref z), (1, .int v)]) hx hb dJ7_fill_53178_1 rfl hl (by decide) rfl (fun ls hl => ?_)
  refine lv_aload_n hx hb dJ7_fill_53178_2 rfl (lv_at hl 1 rfl) ?_
  refine va_alen (v := 121) hx hb hK hP 0 0 rfl rfl rfl dJ7_fill_53178_3 ?_
  refine lv_istore_n (lv' := [(3, .int 121), (2, .int 0), (0, .ref z), (1, .int v)]) hx hb dJ7_fill_53178_4 rfl hl (by decide) rfl (fun ls hl => ?_)
  have key1 : ∀ (n1 i : Nat), i + n1 = 121 → ∀ (g : Nat → Int32), ∀ (hg : ∀ j, j < i → g j = v), ∀ (H : Heap) (locs : List Loc), va_P (dC, dI) vwCl [(z, .inl (kz, 121, .inl g))] H → va_D A [(z, .inl (kz, 121, .inl g))] → va_S A s.heap H locs → ∀ ls : Array Slot, lv_has ls 4 [(2, .int (nI i)), (3, .int 121), (0, .ref z), (1, .int v)] → W p l e (headSpec w_j_fill121 ({ frames := 0, cells := 0, slots := 0, locals := 0 })).room s m #[.ref z, .int v] below meth c H locs 0 0 (MQ below (va_Qv (fun (u : Nat → Int32) => ∀ j, j < 121 → u j = v) (fun (g : Nat → Int32) (t : State) => va_P (dC, dI) vwCl [(z, .inl (kz, 121, .inl g))] t.heap ∧ va_D A [(z, .inl (kz, 121, .inl g))]) A) #[.ref z, .int v] s 0 0 A) (F0 m 5 ls []) := by
    intro n1
    induction n1 with
    | zero =>
      intro i hn1 g hg H locs hP hD hS ls hl
      obtain rfl : 121 = i := by omega
      refine lv_iload_n hx hb dJ7_fill_53178_5 rfl (lv_at hl 0 rfl) ?_
      refine lv_iload_n hx hb dJ7_fill_53178_6 rfl (lv_at hl 1 rfl) ?_
      refine lv_icmp_ge (tgt := 20) hx hb dJ7_fill_53178_7 (by decide) (fun c2 => ?_) (fun c2 => absurd c2 (by decide))
      exact W.vret hx hb hr (fun t ht hW => ⟨⟨g, rfl, (by exact hg), by rw [ht]; exact hP.sub (ws' := [(z, .inl (kz, 121, .inl g))]) [0] rfl, hD.sub (ws' := [(z, .inl (kz, 121, .inl g))]) [0] (by decide) rfl⟩, hS.F ht⟩) hS.2.2 dJ7_fill_53178_20
    | succ n1 ih1 =>
      intro i hn1 g hg H locs hP hD hS ls hl
      have hlt3 : i < 121 := by omega
      refine lv_iload_n hx hb dJ7_fill_53178_5 rfl (lv_at hl 0 rfl) ?_
      refine lv_iload_n hx hb dJ7_fill_53178_6 rfl (lv_at hl 1 rfl) ?_
      refine lv_icmp_ge (tgt := 20) hx hb dJ7_fill_53178_7 (by decide) (fun c4 => absurd c4 (nI_ge (b := 121) hlt3 (by decide))) (fun c4 => ?_)
      refine lv_aload_n hx hb dJ7_fill_53178_10 rfl (lv_at hl 2 rfl) ?_
      refine lv_iload_n hx hb dJ7_fill_53178_11 rfl (lv_at hl 0 rfl) ?_
      refine lv_iload_n hx hb dJ7_fill_53178_12 rfl (lv_at hl 3 rfl) ?_
      refine va_iast hx hb hK hP hD hS 0 0 rfl rfl (vp_in_nI (Nat.lt_of_lt_of_le hlt3 (by decide)) (by decide)) dJ7_fill_53178_13 (fun H locs hP hD hS => ?_)
      have hP : va_P (dC, dI) vwCl [(z, .inl (kz, 121, .inl (upd g (nI i).toNatClampNeg v)))] H := hP
      have hD : va_D A [(z, .inl (kz, 121, .inl (upd g (nI i).toNatClampNeg v)))] := hD
      obtain ⟨x5, ex5⟩ : ∃ y : Int32, y = (nI i) + 1 := ⟨_, rfl⟩
      refine lv_iinc (v := x5) (lv' := [(2, .int x5), (3, .int 121), (0, .ref z), (1, .int v)]) hx hb dJ7_fill_53178_14 hl (k := 0) rfl (by rw [ex5]; rfl) (by decide) rfl (fun ls hl => ?_)
      refine lv_goto (tgt := 5) hx hb dJ7_fill_53178_17 (by decide) ?_
      obtain rfl : x5 = nI (i + 1) := ex5.trans (nI_1 i)
      exact ih1 (i + 1) (by omega) _ (fill_step hlt3 (by decide) hg) _ _ (hP.sub [0] rfl) (hD.sub [0] (by decide) rfl) hS ls (lv_sub hl [0, 1, 2, 3] rfl)
  exact key1 121 0 (by decide) f fill_0 _ _ (hP.sub [0] rfl) (hD.sub [0] (by decide) rfl) hS ls (lv_sub hl [1, 0, 2, 3] rfl)
def w_x_allWater : List Cond := .code yX2_allWater cX2_allWater 3 (some .int) :: ([.fieldLink RX2 25 "SeaLand$Ground" "water" "[I"] ++ bs)
set_option maxHeartbeats 4000000 in
set_option maxRecDepth 100000 in
theorem x_allWater (l : Launch) (dC : Nat → ClassId) (dI : Nat → Nat → Nat) (a : Nat → Nat) (k : Nat → ClassId)  (sz : Nat) : Met l yX2_allWater w_x_allWater ({ frames := 0, cells := 0, slots := 0, locals := 0 }) (va_Pc [.ref (a 14)] (fun U => U.heap.size = sz ∧ va_P (dC, dI) vwCl [(a 14, .inr (5, [.ref (a 15), .ref (a 16), .ref (a 17), .ref (a 18), .ref (a 19), .ref (a 20), .ref (a 21), .ref (a 22), .ref (a 23), .ref (a 24), .ref (a 25), .int 0, .int 0, .int 0, .int 0])), (a 19, .inl ((k 19), 96, .inl (fun _ => 0)))] U.heap ∧ va_K (dC, dI) vwCl [((k 19), .int)] U ∧ va_D (fun _ => True) [(a 14, .inr (5, [.ref (a 15), .ref (a 16), .ref (a 17), .ref (a 18), .ref (a 19), .ref (a 20), .ref (a 21), .ref (a 22), .ref (a 23), .ref (a 24), .ref (a 25), .int 0, .int 0, .int 0, .int 0])), (a 19, .inl ((k 19), 96, .inl (fun _ => 0)))] ∧ EV (va_A [(a 14, .inr (5, [.ref (a 15), .ref (a 16), .ref (a 17), .ref (a 18), .ref (a 19), .ref (a 20), .ref (a 21), .ref (a 22), .ref (a 23), .ref (a 24), .ref (a 25), .int 0, .int 0, .int 0, .int 0])), (a 19, .inl ((k 19), 96, .inl (fun _ => 0)))] sz) U U.heap)) (va_Qi (fun (r : Int32) (u : Unit) => r = 0) (fun (_ : Unit) (t : State) => va_P (dC, dI) vwCl [(a 14, .inr (5, [.ref (a 15), .ref (a 16), .ref (a 17), .ref (a 18), .ref (a 19), .ref (a 20), .ref (a 21), .ref (a 22), .ref (a 23), .ref (a 24), .ref (a 25), .int 0, .int 0, .int 0, .int 0])), (a 19, .inl ((k 19), 96, .inl (fun _ => 0)))] t.heap ∧ va_D (va_A [(a 14, .inr (5, [.ref (a 15), .ref (a 16), .ref (a 17), .ref (a 18), .ref (a 19), .ref (a 20), .ref (a 21), .ref (a 22), .ref (a 23), .ref (a 24), .ref (a 25), .int 0, .int 0, .int 0, .int 0])), (a 19, .inl ((k 19), 96, .inl (fun _ => 0)))] sz) [(a 14, .inr (5, [.ref (a 15), .ref (a 16), .ref (a 17), .ref (a 18), .ref (a 19), .ref (a 20), .ref (a 21), .ref (a 22), .ref (a 23), .ref (a 24), .ref (a 25), .int 0, .int 0, .int 0, .int 0])), (a 19, .inl ((k 19), 96, .inl (fun _ => 0)))]) (va_A [(a 14, .inr (5, [.ref (a 15), .ref (a 16), .ref (a 17), .ref (a 18), .ref (a 19), .ref (a 20), .ref (a 21), .ref (a 22), .ref (a 23), .ref (a 24), .ref (a 25), .int 0, .int 0, .int 0, .int 0])), (a 19, .inl ((k 19), 96, .inl (fun _ => 0)))] sz)) 0 0 (va_A [(a 14, .inr (5, [.ref (a 15), .ref (a 16), .ref (a 17), .ref (a 18), .ref (a 19), .ref (a 20), .ref (a 21), .ref (a 22), .ref (a 23), .ref (a 24), .ref (a 25), .int 0, .int 0, .int 0, .int 0])), (a 19, .inl ((k 19), 96, .inl (fun _ => 0)))] sz) := by
  refine Met.ofW (cc := cX2_allWater) (maxL := 3) (ret := (some .int)) (by decide) rfl ?_
  intro p e s m args below meth c s₁ B hml hv
  obtain ⟨rfl, hsz, hP, hK, hD0, hE⟩ := hv
  have hx := B.exec
  have hb := B.bytes
  have hr := B.returns
  have hts := atoms_spec (ws := w_x_allWater) B.pre
  have hown : s.vm.findClass RX2 = some m.cls := findClass_of_methodNamed B.named
  have hlocks := B.notSynchronized
  subst hsz
  have hD := hD0.self (sz := s.heap.size)
  generalize hAe : va_A [(a 14, .inr (5, [.ref (a 15), .ref (a 16), .ref (a 17), .ref (a 18), .ref (a 19), .ref (a 20), .ref (a 21), .ref (a 22), .ref (a 23), .ref (a 24), .ref (a 25), .int 0, .int 0, .int 0, .int 0])), (a 19, .inl ((k 19), 96, .inl (fun _ => 0)))] s.heap.size = A at hD hE ⊢
  have hA : ∀ q : Nat, s.heap.size ≤ q → A q := fun q h => by rw [← hAe]; exact Or.inr h
  have hS : va_S A s.heap s.heap [] := va_S.rf
  have hP : va_P (dC, dI) vwCl [(a 14, .inr (5, [.ref (a 15), .ref (a 16), .ref (a 17), .ref (a 18), .ref (a 19), .ref (a 20), .ref (a 21), .ref (a 22), .ref (a 23), .ref (a 24), .ref (a 25), .int 0, .int 0, .int 0, .int 0])), (a 19, .inl ((k 19), 96, .inl (fun _ => 0)))] s.heap := hP
  have hl := lv_entry ([.ref (a 14)]) (n := 3) (Nat.le_of_ble_eq_true rfl)
  rw [lg_entry_eq]
  generalize (lg_sl ([.ref (a 14)]) ++ List.replicate (3 - (lg_sl ([.ref (a 14)])).length) Slot.unset).toArray = ls at hl ⊢
  have hl : lv_has ls 3 [(0, .ref (a 14))] := hl
  refine lv_iconst (v := 0) hx hb dX2_allWater_0 (by decide) ?_
  refine lv_istore_n (lv' := [(1, .int 0), (0, .ref (a 14))]) hx hb dX2_allWater_1 rfl hl (by decide) rfl (fun ls hl => ?_)
  refine lv_iconst (v := 0) hx hb dX2_allWater_2 (by decide) ?_
  refine lv_istore_n (lv' := [(2, .int 0), (1, .int 0), (0, .ref (a 14))]) hx hb dX2_allWater_3 rfl hl (by decide) rfl (fun ls hl => ?_)
  have key1 : ∀ (n1 i : Nat), i + n1 = 96 → ∀ (H : Heap) (locs : List Loc), va_P (dC, dI) vwCl [(a 14, .inr (5, [.ref (a 15), .ref (a 16), .ref (a 17), .ref (a 18), .ref (a 19), .ref (a 20), .ref (a 21), .ref (a 22), .ref (a 23), .ref (a 24), .ref (a 25), .int 0, .int 0, .int 0, .int 0])), (a 19, .inl ((k 19), 96, .inl (fun _ => 0)))] H → va_D A [(a 14, .inr (5, [.ref (a 15), .ref (a 16), .ref (a 17), .ref (a 18), .ref (a 19), .ref (a 20), .ref (a 21), .ref (a 22), .ref (a 23), .ref (a 24), .ref (a 25), .int 0, .int 0, .int 0, .int 0])), (a 19, .inl ((k 19), 96, .inl (fun _ => 0)))] → va_S A s.heap H locs → ∀ ls : Array Slot, lv_has ls 3 [(2, .int (nI i)), (1, .int 0), (0, .ref (a 14))] → W p l e (headSpec w_x_allWater ({ frames := 0, cells := 0, slots := 0, locals := 0 })).room s m #[.ref (a 14)] below meth c H locs 0 0 (MQ below (va_Qi (fun (r : Int32) (u : Unit) => r = 0) (fun (_ : Unit) (t : State) => va_P (dC, dI) vwCl [(a 14, .inr (5, [.ref (a 15), .ref (a 16), .ref (a 17), .ref (a 18), .ref (a 19), .ref (a 20), .ref (a 21), .ref (a 22), .ref (a 23), .ref (a 24), .ref (a 25), .int 0, .int 0, .int 0, .int 0])), (a 19, .inl ((k 19), 96, .inl (fun _ => 0)))] t.heap ∧ va_D A [(a 14, .inr (5, [.ref (a 15), .ref (a 16), .ref (a 17), .ref (a 18), .ref (a 19), .ref (a 20), .ref (a 21), .ref (a 22), .ref (a 23), .ref (a 24), .ref (a 25), .int 0, .int 0, .int 0, .int 0])), (a 19, .inl ((k 19), 96, .inl (fun _ => 0)))]) A) #[.ref (a 14)] s 0 0 A) (F0 m 4 ls []) := by
    intro n1
    induction n1 with
    | zero =>
      intro i hn1 H locs hP hD hS ls hl
      obtain rfl : 96 = i := by omega
      refine lv_iload_n hx hb dX2_allWater_4 rfl (lv_at hl 0 rfl) ?_
      refine lv_bipush (v := 96) hx hb dX2_allWater_5 (by decide) ?_
      refine lv_icmp_ge (tgt := 25) hx hb dX2_allWater_7 (by decide) (fun c2 => ?_) (fun c2 => absurd c2 (by decide))
      refine lv_iload_n hx hb dX2_allWater_25 rfl (lv_at hl 1 rfl) ?_
      exact W.iret (v := 0) hx hb hr (fun t ht hW => ⟨⟨0, (), rfl, (by rfl), by rw [ht]; exact hP.sub (ws' := [(a 14, .inr (5, [.ref (a 15), .ref (a 16), .ref (a 17), .ref (a 18), .ref (a 19), .ref (a 20), .ref (a 21), .ref (a 22), .ref (a 23), .ref (a 24), .ref (a 25), .int 0, .int 0, .int 0, .int 0])), (a 19, .inl ((k 19), 96, .inl (fun _ => 0)))]) [0, 1] rfl, hD.sub (ws' := [(a 14, .inr (5, [.ref (a 15), .ref (a 16), .ref (a 17), .ref (a 18), .ref (a 19), .ref (a 20), .ref (a 21), .ref (a 22), .ref (a 23), .ref (a 24), .ref (a 25), .int 0, .int 0, .int 0, .int 0])), (a 19, .inl ((k 19), 96, .inl (fun _ => 0)))]) [0, 1] (by decide) rfl⟩, hS.F ht⟩) hS.2.2 dX2_allWater_26
    | succ n1 ih1 =>
      intro i hn1 H locs hP hD hS ls hl
      have hlt3 : i < 96 := by omega
      refine lv_iload_n hx hb dX2_allWater_4 rfl (lv_at hl 0 rfl) ?_
      refine lv_bipush (v := 96) hx hb dX2_allWater_5 (by decide) ?_
      refine lv_icmp_ge (tgt := 25) hx hb dX2_allWater_7 (by decide) (fun c4 => absurd c4 (nI_ge (b := 96) hlt3 (by decide))) (fun c4 => ?_)
      refine lv_iload_n hx hb dX2_allWater_10 rfl (lv_at hl 1 rfl) ?_
      refine lv_aload_n hx hb dX2_allWater_11 rfl (lv_at hl 2 rfl) ?_
      refine va_get (D := (dC, dI)) (ci := 5) (v := .ref (a 19)) (C := RX2) (T := TX2) (N := 15) hx hb hts bF_X2 hown hK hP 0 rfl rfl 4 (by decide) (ht_at hts 0 rfl) (fun _ h9 => h9) rfl dX2_allWater_12 ?_
      refine lv_iload_n hx hb dX2_allWater_15 rfl (lv_at hl 0 rfl) ?_
      refine va_iald hx hb hK hP 1 0 rfl rfl (vp_in_nI (Nat.lt_of_lt_of_le hlt3 (by decide)) (by decide)) dX2_allWater_16 ?_
      refine lv_topi (fun x5 ex5 => ?_)
      obtain rfl : 0 = x5 := (ex5).symm
      refine lv_iadd hx hb dX2_allWater_17 ?_
      refine lv_topi (fun x6 ex6 => ?_)
      obtain rfl : x6 = 0 := ex6.trans (by decide)
      refine lv_istore_n (lv' := [(1, .int 0), (2, .int (nI i)), (0, .ref (a 14))]) hx hb dX2_allWater_18 rfl hl (by decide) rfl (fun ls hl => ?_)
      obtain ⟨x7, ex7⟩ : ∃ y : Int32, y = (nI i) + 1 := ⟨_, rfl⟩
      refine lv_iinc (v := x7) (lv' := [(2, .int x7), (1, .int 0), (0, .ref (a 14))]) hx hb dX2_allWater_19 hl (k := 1) rfl (by rw [ex7]; rfl) (by decide) rfl (fun ls hl => ?_)
      refine lv_goto (tgt := 4) hx hb dX2_allWater_22 (by decide) ?_
      obtain rfl : x7 = nI (i + 1) := ex7.trans (nI_1 i)
      exact ih1 (i + 1) (by omega) _ _ (hP.sub [0, 1] rfl) (hD.sub [0, 1] (by decide) rfl) hS ls (lv_sub hl [0, 1, 2] rfl)
  exact key1 96 0 (by decide) _ _ (hP.sub [0, 1] rfl) (hD.sub [0, 1] (by decide) rfl) hS ls (lv_sub hl [0, 1, 2] rfl)
def w_x_allSalt : List Cond := .code yX2_allSalt cX2_allSalt 3 (some .int) :: ([.fieldLink RX2 28 "SeaLand$Ground" "salt" "[I"] ++ bs)
set_option maxHeartbeats 4000000 in
set_option maxRecDepth 100000 in
theorem x_allSalt (l : Launch) (dC : Nat → ClassId) (dI : Nat → Nat → Nat) (a : Nat → Nat) (k : Nat → ClassId)  (sz : Nat) : Met l yX2_allSalt w_x_allSalt ({ frames := 0, cells := 0, slots := 0, locals := 0 }) (va_Pc [.ref (a 14)] (fun U => U.heap.size = sz ∧ va_P (dC, dI) vwCl [(a 14, .inr (5, [.ref (a 15), .ref (a 16), .ref (a 17), .ref (a 18), .ref (a 19), .ref (a 20), .ref (a 21), .ref (a 22), .ref (a 23), .ref (a 24), .ref (a 25), .int 0, .int 0, .int 0, .int 0])), (a 20, .inl ((k 20), 96, .inl (fun _ => 0)))] U.heap ∧ va_K (dC, dI) vwCl [((k 20), .int)] U ∧ va_D (fun _ => True) [(a 14, .inr (5, [.ref (a 15), .ref (a 16), .ref (a 17), .ref (a 18), .ref (a 19), .ref (a 20), .ref (a 21), .ref (a 22), .ref (a 23), .ref (a 24), .ref (a 25), .int 0, .int 0, .int 0, .int 0])), (a 20, .inl ((k 20), 96, .inl (fun _ => 0)))] ∧ EV (va_A [(a 14, .inr (5, [.ref (a 15), .ref (a 16), .ref (a 17), .ref (a 18), .ref (a 19), .ref (a 20), .ref (a 21), .ref (a 22), .ref (a 23), .ref (a 24), .ref (a 25), .int 0, .int 0, .int 0, .int 0])), (a 20, .inl ((k 20), 96, .inl (fun _ => 0)))] sz) U U.heap)) (va_Qi (fun (r : Int32) (u : Unit) => r = 0) (fun (_ : Unit) (t : State) => va_P (dC, dI) vwCl [(a 14, .inr (5, [.ref (a 15), .ref (a 16), .ref (a 17), .ref (a 18), .ref (a 19), .ref (a 20), .ref (a 21), .ref (a 22), .ref (a 23), .ref (a 24), .ref (a 25), .int 0, .int 0, .int 0, .int 0])), (a 20, .inl ((k 20), 96, .inl (fun _ => 0)))] t.heap ∧ va_D (va_A [(a 14, .inr (5, [.ref (a 15), .ref (a 16), .ref (a 17), .ref (a 18), .ref (a 19), .ref (a 20), .ref (a 21), .ref (a 22), .ref (a 23), .ref (a 24), .ref (a 25), .int 0, .int 0, .int 0, .int 0])), (a 20, .inl ((k 20), 96, .inl (fun _ => 0)))] sz) [(a 14, .inr (5, [.ref (a 15), .ref (a 16), .ref (a 17), .ref (a 18), .ref (a 19), .ref (a 20), .ref (a 21), .ref (a 22), .ref (a 23), .ref (a 24), .ref (a 25), .int 0, .int 0, .int 0, .int 0])), (a 20, .inl ((k 20), 96, .inl (fun _ => 0)))]) (va_A [(a 14, .inr (5, [.ref (a 15), .ref (a 16), .ref (a 17), .ref (a 18), .ref (a 19), .ref (a 20), .ref (a 21), .ref (a 22), .ref (a 23), .ref (a 24), .ref (a 25), .int 0, .int 0, .int 0, .int 0])), (a 20, .inl ((k 20), 96, .inl (fun _ => 0)))] sz)) 0 0 (va_A [(a 14, .inr (5, [.ref (a 15), .ref (a 16), .ref (a 17), .ref (a 18), .ref (a 19), .ref (a 20), .ref (a 21), .ref (a 22), .ref (a 23), .ref (a 24), .ref (a 25), .int 0, .int 0, .int 0, .int 0])), (a 20, .inl ((k 20), 96, .inl (fun _ => 0)))] sz) := by
  refine Met.ofW (cc := cX2_allSalt) (maxL := 3) (ret := (some .int)) (by decide) rfl ?_
  intro p e s m args below meth c s₁ B hml hv
  obtain ⟨rfl, hsz, hP, hK, hD0, hE⟩ := hv
  have hx := B.exec
  have hb := B.bytes
  have hr := B.returns
  have hts := atoms_spec (ws := w_x_allSalt) B.pre
  have hown : s.vm.findClass RX2 = some m.cls := findClass_of_methodNamed B.named
  have hlocks := B.notSynchronized
  subst hsz
  have hD := hD0.self (sz := s.heap.size)
  generalize hAe : va_A [(a 14, .inr (5, [.ref (a 15), .ref (a 16), .ref (a 17), .ref (a 18), .ref (a 19), .ref (a 20), .ref (a 21), .ref (a 22), .ref (a 23), .ref (a 24), .ref (a 25), .int 0, .int 0, .int 0, .int 0])), (a 20, .inl ((k 20), 96, .inl (fun _ => 0)))] s.heap.size = A at hD hE ⊢
  have hA : ∀ q : Nat, s.heap.size ≤ q → A q := fun q h => by rw [← hAe]; exact Or.inr h
  have hS : va_S A s.heap s.heap [] := va_S.rf
  have hP : va_P (dC, dI) vwCl [(a 14, .inr (5, [.ref (a 15), .ref (a 16), .ref (a 17), .ref (a 18), .ref (a 19), .ref (a 20), .ref (a 21), .ref (a 22), .ref (a 23), .ref (a 24), .ref (a 25), .int 0, .int 0, .int 0, .int 0])), (a 20, .inl ((k 20), 96, .inl (fun _ => 0)))] s.heap := hP
  have hl := lv_entry ([.ref (a 14)]) (n := 3) (Nat.le_of_ble_eq_true rfl)
  rw [lg_entry_eq]
  generalize (lg_sl ([.ref (a 14)]) ++ List.replicate (3 - (lg_sl ([.ref (a 14)])).length) Slot.unset).toArray = ls at hl ⊢
  have hl : lv_has ls 3 [(0, .ref (a 14))] := hl
  refine lv_iconst (v := 0) hx hb dX2_allSalt_0 (by decide) ?_
  refine lv_istore_n (lv' := [(1, .int 0), (0, .ref (a 14))]) hx hb dX2_allSalt_1 rfl hl (by decide) rfl (fun ls hl => ?_)
  refine lv_iconst (v := 0) hx hb dX2_allSalt_2 (by decide) ?_
  refine lv_istore_n (lv' := [(2, .int 0), (1, .int 0), (0, .ref (a 14))]) hx hb dX2_allSalt_3 rfl hl (by decide) rfl (fun ls hl => ?_)
  have key1 : ∀ (n1 i : Nat), i + n1 = 96 → ∀ (H : Heap) (locs : List Loc), va_P (dC, dI) vwCl [(a 14, .inr (5, [.ref (a 15), .ref (a 16), .ref (a 17), .ref (a 18), .ref (a 19), .ref (a 20), .ref (a 21), .ref (a 22), .ref (a 23), .ref (a 24), .ref (a 25), .int 0, .int 0, .int 0, .int 0])), (a 20, .inl ((k 20), 96, .inl (fun _ => 0)))] H → va_D A [(a 14, .inr (5, [.ref (a 15), .ref (a 16), .ref (a 17), .ref (a 18), .ref (a 19), .ref (a 20), .ref (a 21), .ref (a 22), .ref (a 23), .ref (a 24), .ref (a 25), .int 0, .int 0, .int 0, .int 0])), (a 20, .inl ((k 20), 96, .inl (fun _ => 0)))] → va_S A s.heap H locs → ∀ ls : Array Slot, lv_has ls 3 [(2, .int (nI i)), (1, .int 0), (0, .ref (a 14))] → W p l e (headSpec w_x_allSalt ({ frames := 0, cells := 0, slots := 0, locals := 0 })).room s m #[.ref (a 14)] below meth c H locs 0 0 (MQ below (va_Qi (fun (r : Int32) (u : Unit) => r = 0) (fun (_ : Unit) (t : State) => va_P (dC, dI) vwCl [(a 14, .inr (5, [.ref (a 15), .ref (a 16), .ref (a 17), .ref (a 18), .ref (a 19), .ref (a 20), .ref (a 21), .ref (a 22), .ref (a 23), .ref (a 24), .ref (a 25), .int 0, .int 0, .int 0, .int 0])), (a 20, .inl ((k 20), 96, .inl (fun _ => 0)))] t.heap ∧ va_D A [(a 14, .inr (5, [.ref (a 15), .ref (a 16), .ref (a 17), .ref (a 18), .ref (a 19), .ref (a 20), .ref (a 21), .ref (a 22), .ref (a 23), .ref (a 24), .ref (a 25), .int 0, .int 0, .int 0, .int 0])), (a 20, .inl ((k 20), 96, .inl (fun _ => 0)))]) A) #[.ref (a 14)] s 0 0 A) (F0 m 4 ls []) := by
    intro n1
    induction n1 with
    | zero =>
      intro i hn1 H locs hP hD hS ls hl
      obtain rfl : 96 = i := by omega
      refine lv_iload_n hx hb dX2_allSalt_4 rfl (lv_at hl 0 rfl) ?_
      refine lv_bipush (v := 96) hx hb dX2_allSalt_5 (by decide) ?_
      refine lv_icmp_ge (tgt := 25) hx hb dX2_allSalt_7 (by decide) (fun c2 => ?_) (fun c2 => absurd c2 (by decide))
      refine lv_iload_n hx hb dX2_allSalt_25 rfl (lv_at hl 1 rfl) ?_
      exact W.iret (v := 0) hx hb hr (fun t ht hW => ⟨⟨0, (), rfl, (by rfl), by rw [ht]; exact hP.sub (ws' := [(a 14, .inr (5, [.ref (a 15), .ref (a 16), .ref (a 17), .ref (a 18), .ref (a 19), .ref (a 20), .ref (a 21), .ref (a 22), .ref (a 23), .ref (a 24), .ref (a 25), .int 0, .int 0, .int 0, .int 0])), (a 20, .inl ((k 20), 96, .inl (fun _ => 0)))]) [0, 1] rfl, hD.sub (ws' := [(a 14, .inr (5, [.ref (a 15), .ref (a 16), .ref (a 17), .ref (a 18), .ref (a 19), .ref (a 20), .ref (a 21), .ref (a 22), .ref (a 23), .ref (a 24), .ref (a 25), .int 0, .int 0, .int 0, .int 0])), (a 20, .inl ((k 20), 96, .inl (fun _ => 0)))]) [0, 1] (by decide) rfl⟩, hS.F ht⟩) hS.2.2 dX2_allSalt_26
    | succ n1 ih1 =>
      intro i hn1 H locs hP hD hS ls hl
      have hlt3 : i < 96 := by omega
      refine lv_iload_n hx hb dX2_allSalt_4 rfl (lv_at hl 0 rfl) ?_
      refine lv_bipush (v := 96) hx hb dX2_allSalt_5 (by decide) ?_
      refine lv_icmp_ge (tgt := 25) hx hb dX2_allSalt_7 (by decide) (fun c4 => absurd c4 (nI_ge (b := 96) hlt3 (by decide))) (fun c4 => ?_)
      refine lv_iload_n hx hb dX2_allSalt_10 rfl (lv_at hl 1 rfl) ?_
      refine lv_aload_n hx hb dX2_allSalt_11 rfl (lv_at hl 2 rfl) ?_
      refine va_get (D := (dC, dI)) (ci := 5) (v := .ref (a 20)) (C := RX2) (T := TX2) (N := 15) hx hb hts bF_X2 hown hK hP 0 rfl rfl 5 (by decide) (ht_at hts 0 rfl) (fun _ h9 => h9) rfl dX2_allSalt_12 ?_
      refine lv_iload_n hx hb dX2_allSalt_15 rfl (lv_at hl 0 rfl) ?_
      refine va_iald hx hb hK hP 1 0 rfl rfl (vp_in_nI (Nat.lt_of_lt_of_le hlt3 (by decide)) (by decide)) dX2_allSalt_16 ?_
      refine lv_topi (fun x5 ex5 => ?_)
      obtain rfl : 0 = x5 := (ex5).symm
      refine lv_iadd hx hb dX2_allSalt_17 ?_
      refine lv_topi (fun x6 ex6 => ?_)
      obtain rfl : x6 = 0 := ex6.trans (by decide)
      refine lv_istore_n (lv' := [(1, .int 0), (2, .int (nI i)), (0, .ref (a 14))]) hx hb dX2_allSalt_18 rfl hl (by decide) rfl (fun ls hl => ?_)
      obtain ⟨x7, ex7⟩ : ∃ y : Int32, y = (nI i) + 1 := ⟨_, rfl⟩
      refine lv_iinc (v := x7) (lv' := [(2, .int x7), (1, .int 0), (0, .ref (a 14))]) hx hb dX2_allSalt_19 hl (k := 1) rfl (by rw [ex7]; rfl) (by decide) rfl (fun ls hl => ?_)
      refine lv_goto (tgt := 4) hx hb dX2_allSalt_22 (by decide) ?_
      obtain rfl : x7 = nI (i + 1) := ex7.trans (nI_1 i)
      exact ih1 (i + 1) (by omega) _ _ (hP.sub [0, 1] rfl) (hD.sub [0, 1] (by decide) rfl) hS ls (lv_sub hl [0, 1, 2] rfl)
  exact key1 96 0 (by decide) _ _ (hP.sub [0, 1] rfl) (hD.sub [0, 1] (by decide) rfl) hS ls (lv_sub hl [0, 1, 2] rfl)
def w_x_countPeople : List Cond := .code yX11_countPeople cX11_countPeople 2 (some .int) :: ([.fieldLink RX11 30 "SeaLand" "board" "LSeaLand$Board;", .code yX0_allArrears cX0_allArrears 3 (some .int), .fieldLink RX0 75 "SeaLand$Board" "settled" "I", .methodLink RX11 544 yX0_allArrears, .instanceMethod yX0_allArrears, .selects RX0 yX0_allArrears yX0_allArrears, .initialized RX0, .fieldLink RX11 414 "SeaLand" "contracted" "I"] ++ bs)
set_option maxHeartbeats 4000000 in
set_option maxRecDepth 100000 in
theorem x_countPeople (l : Launch) (dC : Nat → ClassId) (dI : Nat → Nat → Nat) (a : Nat → Nat) (k : Nat → ClassId) (p0 : Int32) (sz : Nat) : Met l yX11_countPeople w_x_countPeople ({ frames := 1, cells := 0, slots := 0, locals := 22 }) (va_Pc [.ref (a 0), .int p0] (fun U => U.heap.size = sz ∧ va_P (dC, dI) vwCl [(a 0, .inr (14, [.ref (a 1), .ref (a 2), .ref (a 27), .ref (a 30), .ref (a 74), .ref (a 75), .null, .int 0, .int 0])), (a 30, .inr (3, [.ref (a 31), .ref (a 32), .ref (a 33), .ref (a 34), .ref (a 35), .ref (a 36), .ref (a 37), .ref (a 38), .ref (a 50), .ref (a 62), .int (-1), .int 0, .long 0, .long 0, .int 0, .int 0, .int 0, .int 0])), (a 38, .inr (7, [.ref (a 39), .ref (a 40), .ref (a 41), .ref (a 42), .ref (a 43), .ref (a 44), .ref (a 45), .ref (a 46), .ref (a 47), .ref (a 48), .ref (a 49), .int 0, .int 0, .int 0]))] U.heap ∧ va_K (dC, dI) vwCl [] U ∧ va_D (fun _ => True) [(a 0, .inr (14, [.ref (a 1), .ref (a 2), .ref (a 27), .ref (a 30), .ref (a 74), .ref (a 75), .null, .int 0, .int 0])), (a 30, .inr (3, [.ref (a 31), .ref (a 32), .ref (a 33), .ref (a 34), .ref (a 35), .ref (a 36), .ref (a 37), .ref (a 38), .ref (a 50), .ref (a 62), .int (-1), .int 0, .long 0, .long 0, .int 0, .int 0, .int 0, .int 0])), (a 38, .inr (7, [.ref (a 39), .ref (a 40), .ref (a 41), .ref (a 42), .ref (a 43), .ref (a 44), .ref (a 45), .ref (a 46), .ref (a 47), .ref (a 48), .ref (a 49), .int 0, .int 0, .int 0]))] ∧ EV (va_A [(a 0, .inr (14, [.ref (a 1), .ref (a 2), .ref (a 27), .ref (a 30), .ref (a 74), .ref (a 75), .null, .int 0, .int 0])), (a 30, .inr (3, [.ref (a 31), .ref (a 32), .ref (a 33), .ref (a 34), .ref (a 35), .ref (a 36), .ref (a 37), .ref (a 38), .ref (a 50), .ref (a 62), .int (-1), .int 0, .long 0, .long 0, .int 0, .int 0, .int 0, .int 0])), (a 38, .inr (7, [.ref (a 39), .ref (a 40), .ref (a 41), .ref (a 42), .ref (a 43), .ref (a 44), .ref (a 45), .ref (a 46), .ref (a 47), .ref (a 48), .ref (a 49), .int 0, .int 0, .int 0]))] sz) U U.heap)) (va_Qi (fun (r : Int32) (u : Unit) => r = if 6 ≤ p0 ∧ p0 ≤ 12 then 0 else (-1)) (fun (_ : Unit) (_ : State) => True) (va_A [(a 0, .inr (14, [.ref (a 1), .ref (a 2), .ref (a 27), .ref (a 30), .ref (a 74), .ref (a 75), .null, .int 0, .int 0])), (a 30, .inr (3, [.ref (a 31), .ref (a 32), .ref (a 33), .ref (a 34), .ref (a 35), .ref (a 36), .ref (a 37), .ref (a 38), .ref (a 50), .ref (a 62), .int (-1), .int 0, .long 0, .long 0, .int 0, .int 0, .int 0, .int 0])), (a 38, .inr (7, [.ref (a 39), .ref (a 40), .ref (a 41), .ref (a 42), .ref (a 43), .ref (a 44), .ref (a 45), .ref (a 46), .ref (a 47), .ref (a 48), .ref (a 49), .int 0, .int 0, .int 0]))] sz)) 0 0 (va_A [(a 0, .inr (14, [.ref (a 1), .ref (a 2), .ref (a 27), .ref (a 30), .ref (a 74), .ref (a 75), .null, .int 0, .int 0])), (a 30, .inr (3, [.ref (a 31), .ref (a 32), .ref (a 33), .ref (a 34), .ref (a 35), .ref (a 36), .ref (a 37), .ref (a 38), .ref (a 50), .ref (a 62), .int (-1), .int 0, .long 0, .long 0, .int 0, .int 0, .int 0, .int 0])), (a 38, .inr (7, [.ref (a 39), .ref (a 40), .ref (a 41), .ref (a 42), .ref (a 43), .ref (a 44), .ref (a 45), .ref (a 46), .ref (a 47), .ref (a 48), .ref (a 49), .int 0, .int 0, .int 0]))] sz) := by
  refine Met.ofW (cc := cX11_countPeople) (maxL := 2) (ret := (some .int)) (by decide) rfl ?_
  intro p e s m args below meth c s₁ B hml hv
  obtain ⟨rfl, hsz, hP, hK, hD0, hE⟩ := hv
  have hx := B.exec
  have hb := B.bytes
  have hr := B.returns
  have hts := atoms_spec (ws := w_x_countPeople) B.pre
  have hown : s.vm.findClass RX11 = some m.cls := findClass_of_methodNamed B.named
  have hlocks := B.notSynchronized
  subst hsz
  have hD := hD0.self (sz := s.heap.size)
  generalize hAe : va_A [(a 0, .inr (14, [.ref (a 1), .ref (a 2), .ref (a 27), .ref (a 30), .ref (a 74), .ref (a 75), .null, .int 0, .int 0])), (a 30, .inr (3, [.ref (a 31), .ref (a 32), .ref (a 33), .ref (a 34), .ref (a 35), .ref (a 36), .ref (a 37), .ref (a 38), .ref (a 50), .ref (a 62), .int (-1), .int 0, .long 0, .long 0, .int 0, .int 0, .int 0, .int 0])), (a 38, .inr (7, [.ref (a 39), .ref (a 40), .ref (a 41), .ref (a 42), .ref (a 43), .ref (a 44), .ref (a 45), .ref (a 46), .ref (a 47), .ref (a 48), .ref (a 49), .int 0, .int 0, .int 0]))] s.heap.size = A at hD hE ⊢
  have hA : ∀ q : Nat, s.heap.size ≤ q → A q := fun q h => by rw [← hAe]; exact Or.inr h
  have hS : va_S A s.heap s.heap [] := va_S.rf
  have hP : va_P (dC, dI) vwCl [(a 0, .inr (14, [.ref (a 1), .ref (a 2), .ref (a 27), .ref (a 30), .ref (a 74), .ref (a 75), .null, .int 0, .int 0])), (a 30, .inr (3, [.ref (a 31), .ref (a 32), .ref (a 33), .ref (a 34), .ref (a 35), .ref (a 36), .ref (a 37), .ref (a 38), .ref (a 50), .ref (a 62), .int (-1), .int 0, .long 0, .long 0, .int 0, .int 0, .int 0, .int 0])), (a 38, .inr (7, [.ref (a 39), .ref (a 40), .ref (a 41), .ref (a 42), .ref (a 43), .ref (a 44), .ref (a 45), .ref (a 46), .ref (a 47), .ref (a 48), .ref (a 49), .int 0, .int 0, .int 0]))] s.heap := hP
  have hl := lv_entry ([.ref (a 0), .int p0]) (n := 2) (Nat.le_of_ble_eq_true rfl)
  rw [lg_entry_eq]
  generalize (lg_sl ([.ref (a 0), .int p0]) ++ List.replicate (2 - (lg_sl ([.ref (a 0), .int p0])).length) Slot.unset).toArray = ls at hl ⊢
  have hl : lv_has ls 2 [(0, .ref (a 0)), (1, .int p0)] := hl
  refine lv_iload_n hx hb dX11_countPeople_0 rfl (lv_at hl 1 rfl) ?_
  by_cases hs1 : p0 = 6
  · subst hs1
    refine lv_tableIn (x := 6) (off := 43) (tgt := 44) hx hb dX11_countPeople_1 (by decide) (by decide) (by decide) (by decide) ?_
    refine lv_aload_n hx hb dX11_countPeople_44 rfl (lv_at hl 0 rfl) ?_
    refine va_get (D := (dC, dI)) (ci := 14) (v := .ref (a 30)) (C := RX11) (T := TX11) (N := 9) hx hb hts bF_X11 hown hK hP 0 rfl rfl 3 (by decide) (ht_at hts 0 rfl) (fun _ h9 => h9) rfl dX11_countPeople_45 ?_
    refine va_getN (D := (dC, dI)) (ci := 3) (v := .ref (a 38)) (C := RX0) (T := TX0) (N := 18) hx hb hts bF_X0 hown hK hP 1 rfl rfl 7 (by decide) (hE.nw 28 rfl) (fun _ h9 => h9) rfl dX11_countPeople_48 ?_
    refine va_getN (D := (dC, dI)) (ci := 7) (v := .int 0) (C := RX4) (T := TX4) (N := 14) hx hb hts bF_X4 hown hK hP 2 rfl rfl 11 (by decide) (hE.nw 56 rfl) (fun _ h9 => h9) rfl dX11_countPeople_51 ?_
    exact W.iret (v := 0) hx hb hr (fun t ht hW => ⟨⟨0, (), rfl, (by decide), trivial⟩, hS.F ht⟩) hS.2.2 dX11_countPeople_54
  by_cases hs2 : p0 = 7
  · subst hs2
    refine lv_tableIn (x := 7) (off := 54) (tgt := 55) hx hb dX11_countPeople_1 (by decide) (by decide) (by decide) (by decide) ?_
    refine lv_aload_n hx hb dX11_countPeople_55 rfl (lv_at hl 0 rfl) ?_
    refine va_get (D := (dC, dI)) (ci := 14) (v := .ref (a 30)) (C := RX11) (T := TX11) (N := 9) hx hb hts bF_X11 hown hK hP 0 rfl rfl 3 (by decide) (ht_at hts 0 rfl) (fun _ h9 => h9) rfl dX11_countPeople_56 ?_
    refine va_getN (D := (dC, dI)) (ci := 3) (v := .int 0) (C := RX0) (T := TX0) (N := 18) hx hb hts bF_X0 hown hK hP 1 rfl rfl 14 (by decide) (hE.nw 30 rfl) (fun _ h9 => h9) rfl dX11_countPeople_59 ?_
    exact W.iret (v := 0) hx hb hr (fun t ht hW => ⟨⟨0, (), rfl, (by decide), trivial⟩, hS.F ht⟩) hS.2.2 dX11_countPeople_62
  by_cases hs3 : p0 = 8
  · subst hs3
    refine lv_tableIn (x := 8) (off := 62) (tgt := 63) hx hb dX11_countPeople_1 (by decide) (by decide) (by decide) (by decide) ?_
    refine lv_aload_n hx hb dX11_countPeople_63 rfl (lv_at hl 0 rfl) ?_
    refine va_get (D := (dC, dI)) (ci := 14) (v := .ref (a 30)) (C := RX11) (T := TX11) (N := 9) hx hb hts bF_X11 hown hK hP 0 rfl rfl 3 (by decide) (ht_at hts 0 rfl) (fun _ h9 => h9) rfl dX11_countPeople_64 ?_
    refine va_getN (D := (dC, dI)) (ci := 3) (v := .int 0) (C := RX0) (T := TX0) (N := 18) hx hb hts bF_X0 hown hK hP 1 rfl rfl 15 (by decide) (hE.nw 26 rfl) (fun _ h9 => h9) rfl dX11_countPeople_67 ?_
    exact W.iret (v := 0) hx hb hr (fun t ht hW => ⟨⟨0, (), rfl, (by decide), trivial⟩, hS.F ht⟩) hS.2.2 dX11_countPeople_70
  by_cases hs4 : p0 = 9
  · subst hs4
    refine lv_tableIn (x := 9) (off := 70) (tgt := 71) hx hb dX11_countPeople_1 (by decide) (by decide) (by decide) (by decide) ?_
    refine lv_aload_n hx hb dX11_countPeople_71 rfl (lv_at hl 0 rfl) ?_
    refine va_get (D := (dC, dI)) (ci := 14) (v := .ref (a 30)) (C := RX11) (T := TX11) (N := 9) hx hb hts bF_X11 hown hK hP 0 rfl rfl 3 (by decide) (ht_at hts 0 rfl) (fun _ h9 => h9) rfl dX11_countPeople_72 ?_
    refine va_getN (D := (dC, dI)) (ci := 3) (v := .int 0) (C := RX0) (T := TX0) (N := 18) hx hb hts bF_X0 hown hK hP 1 rfl rfl 16 (by decide) (hE.nw 57 rfl) (fun _ h9 => h9) rfl dX11_countPeople_75 ?_
    exact W.iret (v := 0) hx hb hr (fun t ht hW => ⟨⟨0, (), rfl, (by decide), trivial⟩, hS.F ht⟩) hS.2.2 dX11_countPeople_78
  by_cases hs5 : p0 = 10
  · subst hs5
    refine lv_tableIn (x := 10) (off := 78) (tgt := 79) hx hb dX11_countPeople_1 (by decide) (by decide) (by decide) (by decide) ?_
    refine lv_aload_n hx hb dX11_countPeople_79 rfl (lv_at hl 0 rfl) ?_
    refine va_get (D := (dC, dI)) (ci := 14) (v := .ref (a 30)) (C := RX11) (T := TX11) (N := 9) hx hb hts bF_X11 hown hK hP 0 rfl rfl 3 (by decide) (ht_at hts 0 rfl) (fun _ h9 => h9) rfl dX11_countPeople_80 ?_
    refine va_getN (D := (dC, dI)) (ci := 3) (v := .int 0) (C := RX0) (T := TX0) (N := 18) hx hb hts bF_X0 hown hK hP 1 rfl rfl 17 (by decide) (hE.nw 37 rfl) (fun _ h9 => h9) rfl dX11_countPeople_83 ?_
    exact W.iret (v := 0) hx hb hr (fun t ht hW => ⟨⟨0, (), rfl, (by decide), trivial⟩, hS.F ht⟩) hS.2.2 dX11_countPeople_86
  by_cases hs6 : p0 = 11
  · subst hs6
    refine lv_tableIn (x := 11) (off := 86) (tgt := 87) hx hb dX11_countPeople_1 (by decide) (by decide) (by decide) (by decide) ?_
    refine lv_aload_n hx hb dX11_countPeople_87 rfl (lv_at hl 0 rfl) ?_
    refine va_get (D := (dC, dI)) (ci := 14) (v := .ref (a 30)) (C := RX11) (T := TX11) (N := 9) hx hb hts bF_X11 hown hK hP 0 rfl rfl 3 (by decide) (ht_at hts 0 rfl) (fun _ h9 => h9) rfl dX11_countPeople_88 ?_
    have hPc := hP.sub (ws' := [(a 30, .inr (3, [.ref (a 31), .ref (a 32), .ref (a 33), .ref (a 34), .ref (a 35), .ref (a 36), .ref (a 37), .ref (a 38), .ref (a 50), .ref (a 62), .int (-1), .int 0, .long 0, .long 0, .int 0, .int 0, .int 0, .int 0]))]) [1] rfl
    have hDc := hD.sub (ws' := [(a 30, .inr (3, [.ref (a 31), .ref (a 32), .ref (a 33), .ref (a 34), .ref (a 35), .ref (a 36), .ref (a 37), .ref (a 38), .ref (a 50), .ref (a 62), .int (-1), .int 0, .long 0, .long 0, .int 0, .int 0, .int 0, .int 0]))]) [1] (by decide) rfl
    have hKc := hK.sub (tys' := []) [] rfl
    have hFc := va_free (wc := [(a 30, .inr (3, [.ref (a 31), .ref (a 32), .ref (a 33), .ref (a 34), .ref (a 35), .ref (a 36), .ref (a 37), .ref (a 38), .ref (a 50), .ref (a 62), .int (-1), .int 0, .long 0, .long 0, .int 0, .int 0, .int 0, .int 0]))]) hD hS hA [1] rfl
    refine va_calli (va_runV (As := []) (rest := []) ⟨hx, hb, hml, hown, hts⟩ (x_allArrears l dC dI a k s.heap.size ) (cwV 0 hts (goodIn_app (goodIn_r _ [4, 5, 6, 7] (by decide +kernel) (by decide +kernel)) (goodIn_ca (goodIn_r _ [2, 3] (by decide +kernel) (by decide +kernel)) (bs_in _ _))) rfl rfl rfl (by decide +kernel) ⟨(Nat.le_of_ble_eq_true rfl), (Nat.le_of_ble_eq_true rfl)⟩) ⟨fun a U g mk q => by obtain ⟨q0, q1, qP, qK, qD, qE⟩ := q; exact ⟨q0, q1, qP, va_K.moved (u := U) (U := U.calling g mk a) (Vm.Alike.refl U.vm) qK, qD, EV.blind g mk a qE⟩, va_recv hKc hPc (ci := 3) (q0 := 0) rfl rfl, fun U hU hW => ⟨rfl, by rw [hU], by rw [hU]; exact hPc, va_K.moved hW.alike hKc, hDc.weaken (fun _ _ _ _ => trivial), hE.call hS hFc hU hW⟩⟩ rfl rfl hl.1 rfl (lv_room (Nat.le_of_ble_eq_true rfl)) dX11_countPeople_91 ⟨(Nat.le_of_ble_eq_true rfl), (Nat.le_of_ble_eq_true rfl)⟩) hS (fun q _ h => hFc q h) hFc (fun r8 u t H1 locs ht hvm hw9 hB hz1 hk1 hS => ?_)
    obtain ⟨hP1, hD1⟩ := hB
    rw [ht] at hP1
    obtain ⟨hP, hD⟩ := va_join (wr := [(a 0, .inr (14, [.ref (a 1), .ref (a 2), .ref (a 27), .ref (a 30), .ref (a 74), .ref (a 75), .null, .int 0, .int 0])), (a 38, .inr (7, [.ref (a 39), .ref (a 40), .ref (a 41), .ref (a 42), .ref (a 43), .ref (a 44), .ref (a 45), .ref (a 46), .ref (a 47), .ref (a 48), .ref (a 49), .int 0, .int 0, .int 0]))]) (w1 := [(a 30, .inr (3, [.ref (a 31), .ref (a 32), .ref (a 33), .ref (a 34), .ref (a 35), .ref (a 36), .ref (a 37), .ref (a 38), .ref (a 50), .ref (a 62), .int (-1), .int 0, .long 0, .long 0, .int 0, .int 0, .int 0, .int 0]))]) hP hD [1] [0, 2] rfl rfl (by decide) (by decide) hk1 hFc hP1 hD1
    generalize H1 = H at hP hS ⊢
    have hP : va_P (dC, dI) vwCl [(a 0, .inr (14, [.ref (a 1), .ref (a 2), .ref (a 27), .ref (a 30), .ref (a 74), .ref (a 75), .null, .int 0, .int 0])), (a 38, .inr (7, [.ref (a 39), .ref (a 40), .ref (a 41), .ref (a 42), .ref (a 43), .ref (a 44), .ref (a 45), .ref (a 46), .ref (a 47), .ref (a 48), .ref (a 49), .int 0, .int 0, .int 0])), (a 30, .inr (3, [.ref (a 31), .ref (a 32), .ref (a 33), .ref (a 34), .ref (a 35), .ref (a 36), .ref (a 37), .ref (a 38), .ref (a 50), .ref (a 62), .int (-1), .int 0, .long 0, .long 0, .int 0, .int 0, .int 0, .int 0]))] H := hP
    have hD : va_D A [(a 0, .inr (14, [.ref (a 1), .ref (a 2), .ref (a 27), .ref (a 30), .ref (a 74), .ref (a 75), .null, .int 0, .int 0])), (a 38, .inr (7, [.ref (a 39), .ref (a 40), .ref (a 41), .ref (a 42), .ref (a 43), .ref (a 44), .ref (a 45), .ref (a 46), .ref (a 47), .ref (a 48), .ref (a 49), .int 0, .int 0, .int 0])), (a 30, .inr (3, [.ref (a 31), .ref (a 32), .ref (a 33), .ref (a 34), .ref (a 35), .ref (a 36), .ref (a 37), .ref (a 38), .ref (a 50), .ref (a 62), .int (-1), .int 0, .long 0, .long 0, .int 0, .int 0, .int 0, .int 0]))] := hD
    try dsimp only at hw9
    obtain rfl : 0 = r8 := (hw9).symm
    exact W.iret (v := 0) hx hb hr (fun t ht hW => ⟨⟨0, (), rfl, (by decide), trivial⟩, hS.F ht⟩) hS.2.2 dX11_countPeople_94
  by_cases hs10 : p0 = 12
  · subst hs10
    refine lv_tableIn (x := 12) (off := 94) (tgt := 95) hx hb dX11_countPeople_1 (by decide) (by decide) (by decide) (by decide) ?_
    refine lv_aload_n hx hb dX11_countPeople_95 rfl (lv_at hl 0 rfl) ?_
    refine va_get (D := (dC, dI)) (ci := 14) (v := .int 0) (C := RX11) (T := TX11) (N := 9) hx hb hts bF_X11 hown hK hP 0 rfl rfl 8 (by decide) (ht_at hts 7 rfl) (fun _ h9 => h9) rfl dX11_countPeople_96 ?_
    exact W.iret (v := 0) hx hb hr (fun t ht hW => ⟨⟨0, (), rfl, (by decide), trivial⟩, hS.F ht⟩) hS.2.2 dX11_countPeople_99
  have ho11 : p0.toInt < 6 ∨ 12 < p0.toInt := by
    have ehs1 : p0.toInt ≠ 6 := fun e => hs1 (Int32.toInt_inj.mp (e.trans (by decide)))
    have ehs2 : p0.toInt ≠ 7 := fun e => hs2 (Int32.toInt_inj.mp (e.trans (by decide)))
    have ehs3 : p0.toInt ≠ 8 := fun e => hs3 (Int32.toInt_inj.mp (e.trans (by decide)))
    have ehs4 : p0.toInt ≠ 9 := fun e => hs4 (Int32.toInt_inj.mp (e.trans (by decide)))
    have ehs5 : p0.toInt ≠ 10 := fun e => hs5 (Int32.toInt_inj.mp (e.trans (by decide)))
    have ehs6 : p0.toInt ≠ 11 := fun e => hs6 (Int32.toInt_inj.mp (e.trans (by decide)))
    have ehs10 : p0.toInt ≠ 12 := fun e => hs10 (Int32.toInt_inj.mp (e.trans (by decide)))
    omega
  refine lv_tableOut (tgt := 100) hx hb dX11_countPeople_1 ho11 (by decide) ?_
  refine lv_iconst (v := (-1)) hx hb dX11_countPeople_100 (by decide) ?_
  exact W.iret (v := (-1)) hx hb hr (fun t ht hW => ⟨⟨(-1), (), rfl, (by rw [if_neg (w_out ho11 (by decide) (by decide))]), trivial⟩, hS.F ht⟩) hS.2.2 dX11_countPeople_101
