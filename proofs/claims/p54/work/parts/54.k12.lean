def w_c_fill_wet : List Cond := .code yJ7_fill_53178 cJ7_fill_53178 4 none :: (HAppend.hAppend (α := List Cond) (β := List Cond) (γ := List Cond) [] bs2)
set_option maxHeartbeats 4000000 in
set_option maxRecDepth 100000 in
theorem c_fill_wet (l : Launch) (dC : Nat → ClassId) (dI : Nat → Nat → Nat) (kA : Nat → ClassId) (adK adV : Nat → Nat) (G : gT) (H0 : Heap) (nC nS : Int) (fa : Nat) (vf : Int32)  (hT : gH (dC, dI) kA (SHc nC nS) G H0) (hr_fa : G fa = some 32) (hgC : 0 ≤ nC ∧ nC ≤ 40) (hgS : 0 ≤ nS ∧ nS ≤ 60) : Met l yJ7_fill_53178 w_c_fill_wet ({ frames := 0, cells := 0, slots := 0, locals := 0 }) (va_Pc [.ref fa, .int vf] (fun U => U.heap = H0 ∧ va_K (dC, dI) vwCl (tyl kA) U ∧ EVC adK adV (gA G H0.size) U U.heap)) (va_Qv (fun (u : Unit) => True) (fun (_ : Unit) (t : State) => gH (dC, dI) kA (SHc nC nS) G t.heap ∧ gF (dC, dI) SKc G ([(32, 0)] : List (Nat × Nat)) H0 t.heap) (gA G H0.size)) 0 0 (gA G H0.size) := by
  refine va_MetF (cc := cJ7_fill_53178) (maxL := 4) (ret := none) (by decide +kernel) rfl ?_
  intro p e s m args below meth c s₁ B hml hv
  obtain ⟨rfl, hH0, hK, hE⟩ := hv
  have hx := B.exec
  have hb := B.bytes
  have hr := B.returns
  have hts := atoms_spec (ws := w_c_fill_wet) B.pre
  have hown : s.vm.findClass RJ7 = some m.cls := findClass_of_methodNamed B.named
  have hlocks := B.notSynchronized
  subst hH0
  generalize hAe : gA G s.heap.size = A at hE ⊢
  have hA : ∀ q : Nat, s.heap.size ≤ q → A q := fun q h => by rw [← hAe]; exact Or.inr h
  have hG := gA_of hAe
  have hS : va_S A s.heap s.heap [] := va_S.rf
  have hF : gF (dC, dI) SKc G ([(32, 0)] : List (Nat × Nat)) s.heap s.heap := gF.rf
  have hl := lv_entry ([.ref fa, .int vf]) (n := 4) (Nat.le_of_ble_eq_true rfl)
  rw [lg_entry_eq]
  generalize (lg_sl ([.ref fa, .int vf]) ++ List.replicate (4 - (lg_sl ([.ref fa, .int vf])).length) Slot.unset).toArray = ls at hl ⊢
  have hl : lv_has ls 4 [(0, .ref fa), (1, .int vf)] := hl
  refine lv_iconst (v := 0) hx hb dJ7_fill_53178_0 (by decide) ?_
  refine lv_istore_n (lv' := [(2, .int 0), (0, .ref fa), (1, .int vf)]) hx hb dJ7_fill_53178_1 rfl hl (by decide) rfl (fun ls hl => ?_)
  refine lv_aload_n hx hb dJ7_fill_53178_2 rfl (lv_at hl 1 rfl) ?_
  refine tw_alen (v := 96) hx hb hK hT hr_fa shc_32 rfl rfl dJ7_fill_53178_3 ?_
  refine lv_istore_n (lv' := [(3, .int 96), (2, .int 0), (0, .ref fa), (1, .int vf)]) hx hb dJ7_fill_53178_4 rfl hl (by decide) rfl (fun ls hl => ?_)
  have key5 : ∀ (n5 i1 : Nat), i1 + n5 = 96 → 0 ≤ i1 → ∀ (H : Heap) (locs : List Loc), gH (dC, dI) kA (SHc nC nS) G H → gF (dC, dI) SKc G ([(32, 0)] : List (Nat × Nat)) s.heap H → va_S A s.heap H locs → ∀ ls : Array Slot, lv_has ls 4 [(3, .int 96), (2, .int (nI i1)), (0, .ref fa), (1, .int vf)] → W p l e (headSpec w_c_fill_wet ({ frames := 0, cells := 0, slots := 0, locals := 0 })).room s m #[.ref fa, .int vf] below meth c H locs 0 0 (MQ below (va_Qv (fun (u : Unit) => True) (fun (_ : Unit) (t : State) => gH (dC, dI) kA (SHc nC nS) G t.heap ∧ gF (dC, dI) SKc G ([(32, 0)] : List (Nat × Nat)) s.heap t.heap) A) #[.ref fa, .int vf] s 0 0 A) (F0 m 5 ls []) := by
    intro n5
    induction n5 with
    | zero =>
      intro i1 hn5 hlo6  H locs hT hF hS  ls hl
      obtain rfl : 96 = i1 := by omega
      refine lv_iload_n hx hb dJ7_fill_53178_5 rfl (lv_at hl 1 rfl) ?_
      refine lv_iload_n hx hb dJ7_fill_53178_6 rfl (lv_at hl 0 rfl) ?_
      refine lv_icmp_ge (tgt := 20) hx hb dJ7_fill_53178_7 (by decide) (fun c7 => ?_) (fun c7 => (by exfalso; have q9 : ((96 : Nat) : Int) < 96 := ti_nle c7 (by decide) (nI_toInt (by omega)); omega))
      have t8 : 96 ≤ ((96 : Nat) : Int) := ti_le c7 (by decide) (nI_toInt (by omega))
      exact W.vret hx hb hr (fun t ht hW => ⟨⟨(), rfl, (by exact trivial), by (try dsimp only); rw [ht]; exact ⟨hT, hF⟩⟩, hS.F ht⟩) hS.2.2 dJ7_fill_53178_20
    | succ n5 ih5 =>
      intro i1 hn5 hlo6  H locs hT hF hS  ls hl
      have hlt8 : i1 < 96 := by omega
      refine lv_iload_n hx hb dJ7_fill_53178_5 rfl (lv_at hl 1 rfl) ?_
      refine lv_iload_n hx hb dJ7_fill_53178_6 rfl (lv_at hl 0 rfl) ?_
      refine lv_icmp_ge (tgt := 20) hx hb dJ7_fill_53178_7 (by decide) (fun c9 => (by exfalso; have q9 : 96 ≤ ((i1 : Nat) : Int) := ti_le c9 (by decide) (nI_toInt (by omega)); omega)) (fun c9 => ?_)
      have t10 : ((i1 : Nat) : Int) < 96 := ti_nle c9 (by decide) (nI_toInt (by omega))
      refine lv_aload_n hx hb dJ7_fill_53178_10 rfl (lv_at hl 2 rfl) ?_
      refine lv_iload_n hx hb dJ7_fill_53178_11 rfl (lv_at hl 1 rfl) ?_
      refine lv_iload_n hx hb dJ7_fill_53178_12 rfl (lv_at hl 3 rfl) ?_
      refine tw_iast (i := (nI i1)) (x := vf) hx hb hK hT hG hS hr_fa shc_32 rfl (vp_in_nI (by omega) (by decide)) (gi_all _) dJ7_fill_53178_13 (fun H locs hT oq m11 oi hS => ?_)
      have hF := hF.ast hr_fa skc_32 oq (by decide)
      refine lv_iinc (v := nI (i1 + 1)) (lv' := [(2, .int (nI (i1 + 1))), (3, .int 96), (0, .ref fa), (1, .int vf)]) hx hb dJ7_fill_53178_14 hl (k := 1) rfl (nI_add i1 1) (by decide) rfl (fun ls hl => ?_)
      refine lv_goto (tgt := 5) hx hb dJ7_fill_53178_17 (by decide) ?_
      exact ih5 (i1 + 1) (by omega) (by omega) _ _ hT hF hS ls (lv_sub hl [1, 0, 2, 3] rfl)
  exact key5 (96 - 0) 0 (by omega) (Nat.le_refl _) _ _ hT hF hS ls (lv_sub hl [0, 1, 2, 3] rfl)
def w_c_fill_leastNow : List Cond := .code yJ7_fill_53178 cJ7_fill_53178 4 none :: (HAppend.hAppend (α := List Cond) (β := List Cond) (γ := List Cond) [] bs2)
set_option maxHeartbeats 4000000 in
set_option maxRecDepth 100000 in
theorem c_fill_leastNow (l : Launch) (dC : Nat → ClassId) (dI : Nat → Nat → Nat) (kA : Nat → ClassId) (adK adV : Nat → Nat) (G : gT) (H0 : Heap) (nC nS : Int) (fa : Nat) (vf : Int32)  (hT : gH (dC, dI) kA (SHc nC nS) G H0) (hr_fa : G fa = some 59) (hgC : 0 ≤ nC ∧ nC ≤ 40) (hgS : 0 ≤ nS ∧ nS ≤ 60) : Met l yJ7_fill_53178 w_c_fill_leastNow ({ frames := 0, cells := 0, slots := 0, locals := 0 }) (va_Pc [.ref fa, .int vf] (fun U => U.heap = H0 ∧ va_K (dC, dI) vwCl (tyl kA) U ∧ EVC adK adV (gA G H0.size) U U.heap)) (va_Qv (fun (u : Unit) => True) (fun (_ : Unit) (t : State) => gH (dC, dI) kA (SHc nC nS) G t.heap ∧ gF (dC, dI) SKc G ([(59, 0)] : List (Nat × Nat)) H0 t.heap) (gA G H0.size)) 0 0 (gA G H0.size) := by
  refine va_MetF (cc := cJ7_fill_53178) (maxL := 4) (ret := none) (by decide +kernel) rfl ?_
  intro p e s m args below meth c s₁ B hml hv
  obtain ⟨rfl, hH0, hK, hE⟩ := hv
  have hx := B.exec
  have hb := B.bytes
  have hr := B.returns
  have hts := atoms_spec (ws := w_c_fill_leastNow) B.pre
  have hown : s.vm.findClass RJ7 = some m.cls := findClass_of_methodNamed B.named
  have hlocks := B.notSynchronized
  subst hH0
  generalize hAe : gA G s.heap.size = A at hE ⊢
  have hA : ∀ q : Nat, s.heap.size ≤ q → A q := fun q h => by rw [← hAe]; exact Or.inr h
  have hG := gA_of hAe
  have hS : va_S A s.heap s.heap [] := va_S.rf
  have hF : gF (dC, dI) SKc G ([(59, 0)] : List (Nat × Nat)) s.heap s.heap := gF.rf
  have hl := lv_entry ([.ref fa, .int vf]) (n := 4) (Nat.le_of_ble_eq_true rfl)
  rw [lg_entry_eq]
  generalize (lg_sl ([.ref fa, .int vf]) ++ List.replicate (4 - (lg_sl ([.ref fa, .int vf])).length) Slot.unset).toArray = ls at hl ⊢
  have hl : lv_has ls 4 [(0, .ref fa), (1, .int vf)] := hl
  refine lv_iconst (v := 0) hx hb dJ7_fill_53178_0 (by decide) ?_
  refine lv_istore_n (lv' := [(2, .int 0), (0, .ref fa), (1, .int vf)]) hx hb dJ7_fill_53178_1 rfl hl (by decide) rfl (fun ls hl => ?_)
  refine lv_aload_n hx hb dJ7_fill_53178_2 rfl (lv_at hl 1 rfl) ?_
  refine tw_alen (v := 121) hx hb hK hT hr_fa shc_59 rfl rfl dJ7_fill_53178_3 ?_
  refine lv_istore_n (lv' := [(3, .int 121), (2, .int 0), (0, .ref fa), (1, .int vf)]) hx hb dJ7_fill_53178_4 rfl hl (by decide) rfl (fun ls hl => ?_)
  have key5 : ∀ (n5 i1 : Nat), i1 + n5 = 121 → 0 ≤ i1 → ∀ (H : Heap) (locs : List Loc), gH (dC, dI) kA (SHc nC nS) G H → gF (dC, dI) SKc G ([(59, 0)] : List (Nat × Nat)) s.heap H → va_S A s.heap H locs → ∀ ls : Array Slot, lv_has ls 4 [(3, .int 121), (2, .int (nI i1)), (0, .ref fa), (1, .int vf)] → W p l e (headSpec w_c_fill_leastNow ({ frames := 0, cells := 0, slots := 0, locals := 0 })).room s m #[.ref fa, .int vf] below meth c H locs 0 0 (MQ below (va_Qv (fun (u : Unit) => True) (fun (_ : Unit) (t : State) => gH (dC, dI) kA (SHc nC nS) G t.heap ∧ gF (dC, dI) SKc G ([(59, 0)] : List (Nat × Nat)) s.heap t.heap) A) #[.ref fa, .int vf] s 0 0 A) (F0 m 5 ls []) := by
    intro n5
    induction n5 with
    | zero =>
      intro i1 hn5 hlo6  H locs hT hF hS  ls hl
      obtain rfl : 121 = i1 := by omega
      refine lv_iload_n hx hb dJ7_fill_53178_5 rfl (lv_at hl 1 rfl) ?_
      refine lv_iload_n hx hb dJ7_fill_53178_6 rfl (lv_at hl 0 rfl) ?_
      refine lv_icmp_ge (tgt := 20) hx hb dJ7_fill_53178_7 (by decide) (fun c7 => ?_) (fun c7 => (by exfalso; have q9 : ((121 : Nat) : Int) < 121 := ti_nle c7 (by decide) (nI_toInt (by omega)); omega))
      have t8 : 121 ≤ ((121 : Nat) : Int) := ti_le c7 (by decide) (nI_toInt (by omega))
      exact W.vret hx hb hr (fun t ht hW => ⟨⟨(), rfl, (by exact trivial), by (try dsimp only); rw [ht]; exact ⟨hT, hF⟩⟩, hS.F ht⟩) hS.2.2 dJ7_fill_53178_20
    | succ n5 ih5 =>
      intro i1 hn5 hlo6  H locs hT hF hS  ls hl
      have hlt8 : i1 < 121 := by omega
      refine lv_iload_n hx hb dJ7_fill_53178_5 rfl (lv_at hl 1 rfl) ?_
      refine lv_iload_n hx hb dJ7_fill_53178_6 rfl (lv_at hl 0 rfl) ?_
      refine lv_icmp_ge (tgt := 20) hx hb dJ7_fill_53178_7 (by decide) (fun c9 => (by exfalso; have q9 : 121 ≤ ((i1 : Nat) : Int) := ti_le c9 (by decide) (nI_toInt (by omega)); omega)) (fun c9 => ?_)
      have t10 : ((i1 : Nat) : Int) < 121 := ti_nle c9 (by decide) (nI_toInt (by omega))
      refine lv_aload_n hx hb dJ7_fill_53178_10 rfl (lv_at hl 2 rfl) ?_
      refine lv_iload_n hx hb dJ7_fill_53178_11 rfl (lv_at hl 1 rfl) ?_
      refine lv_iload_n hx hb dJ7_fill_53178_12 rfl (lv_at hl 3 rfl) ?_
      refine tw_iast (i := (nI i1)) (x := vf) hx hb hK hT hG hS hr_fa shc_59 rfl (vp_in_nI (by omega) (by decide)) (gi_all _) dJ7_fill_53178_13 (fun H locs hT oq m11 oi hS => ?_)
      have hF := hF.ast hr_fa skc_59 oq (by decide)
      refine lv_iinc (v := nI (i1 + 1)) (lv' := [(2, .int (nI (i1 + 1))), (3, .int 121), (0, .ref fa), (1, .int vf)]) hx hb dJ7_fill_53178_14 hl (k := 1) rfl (nI_add i1 1) (by decide) rfl (fun ls hl => ?_)
      refine lv_goto (tgt := 5) hx hb dJ7_fill_53178_17 (by decide) ?_
      exact ih5 (i1 + 1) (by omega) (by omega) _ _ hT hF hS ls (lv_sub hl [1, 0, 2, 3] rfl)
  exact key5 (121 - 0) 0 (by omega) (Nat.le_refl _) _ _ hT hF hS ls (lv_sub hl [0, 1, 2, 3] rfl)
def w_c_fill_leastThen : List Cond := .code yJ7_fill_53178 cJ7_fill_53178 4 none :: (HAppend.hAppend (α := List Cond) (β := List Cond) (γ := List Cond) [] bs2)
set_option maxHeartbeats 4000000 in
set_option maxRecDepth 100000 in
theorem c_fill_leastThen (l : Launch) (dC : Nat → ClassId) (dI : Nat → Nat → Nat) (kA : Nat → ClassId) (adK adV : Nat → Nat) (G : gT) (H0 : Heap) (nC nS : Int) (fa : Nat) (vf : Int32)  (hT : gH (dC, dI) kA (SHc nC nS) G H0) (hr_fa : G fa = some 60) (hgC : 0 ≤ nC ∧ nC ≤ 40) (hgS : 0 ≤ nS ∧ nS ≤ 60) : Met l yJ7_fill_53178 w_c_fill_leastThen ({ frames := 0, cells := 0, slots := 0, locals := 0 }) (va_Pc [.ref fa, .int vf] (fun U => U.heap = H0 ∧ va_K (dC, dI) vwCl (tyl kA) U ∧ EVC adK adV (gA G H0.size) U U.heap)) (va_Qv (fun (u : Unit) => True) (fun (_ : Unit) (t : State) => gH (dC, dI) kA (SHc nC nS) G t.heap ∧ gF (dC, dI) SKc G ([(60, 0)] : List (Nat × Nat)) H0 t.heap) (gA G H0.size)) 0 0 (gA G H0.size) := by
  refine va_MetF (cc := cJ7_fill_53178) (maxL := 4) (ret := none) (by decide +kernel) rfl ?_
  intro p e s m args below meth c s₁ B hml hv
  obtain ⟨rfl, hH0, hK, hE⟩ := hv
  have hx := B.exec
  have hb := B.bytes
  have hr := B.returns
  have hts := atoms_spec (ws := w_c_fill_leastThen) B.pre
  have hown : s.vm.findClass RJ7 = some m.cls := findClass_of_methodNamed B.named
  have hlocks := B.notSynchronized
  subst hH0
  generalize hAe : gA G s.heap.size = A at hE ⊢
  have hA : ∀ q : Nat, s.heap.size ≤ q → A q := fun q h => by rw [← hAe]; exact Or.inr h
  have hG := gA_of hAe
  have hS : va_S A s.heap s.heap [] := va_S.rf
  have hF : gF (dC, dI) SKc G ([(60, 0)] : List (Nat × Nat)) s.heap s.heap := gF.rf
  have hl := lv_entry ([.ref fa, .int vf]) (n := 4) (Nat.le_of_ble_eq_true rfl)
  rw [lg_entry_eq]
  generalize (lg_sl ([.ref fa, .int vf]) ++ List.replicate (4 - (lg_sl ([.ref fa, .int vf])).length) Slot.unset).toArray = ls at hl ⊢
  have hl : lv_has ls 4 [(0, .ref fa), (1, .int vf)] := hl
  refine lv_iconst (v := 0) hx hb dJ7_fill_53178_0 (by decide) ?_
  refine lv_istore_n (lv' := [(2, .int 0), (0, .ref fa), (1, .int vf)]) hx hb dJ7_fill_53178_1 rfl hl (by decide) rfl (fun ls hl => ?_)
  refine lv_aload_n hx hb dJ7_fill_53178_2 rfl (lv_at hl 1 rfl) ?_
  refine tw_alen (v := 121) hx hb hK hT hr_fa shc_60 rfl rfl dJ7_fill_53178_3 ?_
  refine lv_istore_n (lv' := [(3, .int 121), (2, .int 0), (0, .ref fa), (1, .int vf)]) hx hb dJ7_fill_53178_4 rfl hl (by decide) rfl (fun ls hl => ?_)
  have key5 : ∀ (n5 i1 : Nat), i1 + n5 = 121 → 0 ≤ i1 → ∀ (H : Heap) (locs : List Loc), gH (dC, dI) kA (SHc nC nS) G H → gF (dC, dI) SKc G ([(60, 0)] : List (Nat × Nat)) s.heap H → va_S A s.heap H locs → ∀ ls : Array Slot, lv_has ls 4 [(3, .int 121), (2, .int (nI i1)), (0, .ref fa), (1, .int vf)] → W p l e (headSpec w_c_fill_leastThen ({ frames := 0, cells := 0, slots := 0, locals := 0 })).room s m #[.ref fa, .int vf] below meth c H locs 0 0 (MQ below (va_Qv (fun (u : Unit) => True) (fun (_ : Unit) (t : State) => gH (dC, dI) kA (SHc nC nS) G t.heap ∧ gF (dC, dI) SKc G ([(60, 0)] : List (Nat × Nat)) s.heap t.heap) A) #[.ref fa, .int vf] s 0 0 A) (F0 m 5 ls []) := by
    intro n5
    induction n5 with
    | zero =>
      intro i1 hn5 hlo6  H locs hT hF hS  ls hl
      obtain rfl : 121 = i1 := by omega
      refine lv_iload_n hx hb dJ7_fill_53178_5 rfl (lv_at hl 1 rfl) ?_
      refine lv_iload_n hx hb dJ7_fill_53178_6 rfl (lv_at hl 0 rfl) ?_
      refine lv_icmp_ge (tgt := 20) hx hb dJ7_fill_53178_7 (by decide) (fun c7 => ?_) (fun c7 => (by exfalso; have q9 : ((121 : Nat) : Int) < 121 := ti_nle c7 (by decide) (nI_toInt (by omega)); omega))
      have t8 : 121 ≤ ((121 : Nat) : Int) := ti_le c7 (by decide) (nI_toInt (by omega))
      exact W.vret hx hb hr (fun t ht hW => ⟨⟨(), rfl, (by exact trivial), by (try dsimp only); rw [ht]; exact ⟨hT, hF⟩⟩, hS.F ht⟩) hS.2.2 dJ7_fill_53178_20
    | succ n5 ih5 =>
      intro i1 hn5 hlo6  H locs hT hF hS  ls hl
      have hlt8 : i1 < 121 := by omega
      refine lv_iload_n hx hb dJ7_fill_53178_5 rfl (lv_at hl 1 rfl) ?_
      refine lv_iload_n hx hb dJ7_fill_53178_6 rfl (lv_at hl 0 rfl) ?_
      refine lv_icmp_ge (tgt := 20) hx hb dJ7_fill_53178_7 (by decide) (fun c9 => (by exfalso; have q9 : 121 ≤ ((i1 : Nat) : Int) := ti_le c9 (by decide) (nI_toInt (by omega)); omega)) (fun c9 => ?_)
      have t10 : ((i1 : Nat) : Int) < 121 := ti_nle c9 (by decide) (nI_toInt (by omega))
      refine lv_aload_n hx hb dJ7_fill_53178_10 rfl (lv_at hl 2 rfl) ?_
      refine lv_iload_n hx hb dJ7_fill_53178_11 rfl (lv_at hl 1 rfl) ?_
      refine lv_iload_n hx hb dJ7_fill_53178_12 rfl (lv_at hl 3 rfl) ?_
      refine tw_iast (i := (nI i1)) (x := vf) hx hb hK hT hG hS hr_fa shc_60 rfl (vp_in_nI (by omega) (by decide)) (gi_all _) dJ7_fill_53178_13 (fun H locs hT oq m11 oi hS => ?_)
      have hF := hF.ast hr_fa skc_60 oq (by decide)
      refine lv_iinc (v := nI (i1 + 1)) (lv' := [(2, .int (nI (i1 + 1))), (3, .int 121), (0, .ref fa), (1, .int vf)]) hx hb dJ7_fill_53178_14 hl (k := 1) rfl (nI_add i1 1) (by decide) rfl (fun ls hl => ?_)
      refine lv_goto (tgt := 5) hx hb dJ7_fill_53178_17 (by decide) ?_
      exact ih5 (i1 + 1) (by omega) (by omega) _ _ hT hF hS ls (lv_sub hl [1, 0, 2, 3] rfl)
  exact key5 (121 - 0) 0 (by omega) (Nat.le_refl _) _ _ hT hF hS ls (lv_sub hl [0, 1, 2, 3] rfl)
def w_c_giveFarms : List Cond := .code yX0_giveFarms cX0_giveFarms 7 (some .int) :: (HAppend.hAppend (α := List Cond) (β := List Cond) (γ := List Cond) [.fieldLink RX0 75 "SeaLand$Board" "settled" "I", .fieldLink RX0 185 "SeaLand$Board" "holding" "I", .code yX0_firstByMark cX0_firstByMark 3 (some .int), .fieldLink RX0 37 "SeaLand$Board" "marks" "[I", .fieldLink RX0 11 "SeaLand$Board" "settlers" "[LSeaLand$Settler;", .methodLink RX0 173 yX0_firstByMark, .instanceMethod yX0_firstByMark, .selects RX0 yX0_firstByMark yX0_firstByMark, .initialized RX0, .code yX0_bestFreeFarm cX0_bestFreeFarm 6 (some .int), .fieldLink RX0 143 "SeaLand$Board" "farms" "I", .fieldLink RX0 24 "SeaLand$Board" "held" "[Z", .code yX0_worthOf cX0_worthOf 7 (some .int), .fieldLink RX0 17 "SeaLand$Board" "farmOf" "[I", .methodLink RX0 161 Lib.Math.max.name, .static Lib.Math.max.name, .initialized "java/lang/Math", .code Lib.Math.max.name Lib.Math.max.code 2 (some .int), .methodLink RX0 191 yX0_worthOf, .instanceMethod yX0_worthOf, .selects RX0 yX0_worthOf yX0_worthOf, .methodLink RX0 181 yX0_bestFreeFarm, .instanceMethod yX0_bestFreeFarm, .selects RX0 yX0_bestFreeFarm yX0_bestFreeFarm, .code yX0_gatherFacts cX0_gatherFacts 3 none, .fieldLink RX0 33 "SeaLand$Board" "facts" "[J", .code yX0_acresOf cX0_acresOf 4 (some .int), .methodLink RX0 98 yX0_acresOf, .instanceMethod yX0_acresOf, .selects RX0 yX0_acresOf yX0_acresOf, .code yX0_nearOf cX0_nearOf 5 (some .int), .code yX3_stepsToBank cX3_stepsToBank 4 (some .int), .fieldLink RX3 47 "SeaLand$Lake" "built" "I", .fieldLink RX3 27 "SeaLand$Lake" "works" "[LSeaLand$Work;", .code yX10_isBank cX10_isBank 1 (some .boolean), .fieldLink RX10 18 "SeaLand$Work" "kind" "I", .methodLink RX3 67 yX10_isBank, .instanceMethod yX10_isBank, .selects RX10 yX10_isBank yX10_isBank, .initialized RX10, .code yX11_stepsApart cX11_stepsApart 2 (some .int), .methodLink RX11 580 Lib.Math.abs.name, .static Lib.Math.abs.name, .code Lib.Math.abs.name Lib.Math.abs.code 1 (some .int), .initialized RX11, .static yX11_stepsApart, .methodLink RX3 71 Lib.Math.min.name, .static Lib.Math.min.name, .code Lib.Math.min.name Lib.Math.min.code 2 (some .int), .methodLink RX0 138 yX3_stepsToBank, .instanceMethod yX3_stepsToBank, .selects RX3 yX3_stepsToBank yX3_stepsToBank, .initialized RX3, .methodLink RX0 166 Lib.Math.min.name, .methodLink RX0 123 yX0_nearOf, .instanceMethod yX0_nearOf, .selects RX0 yX0_nearOf yX0_nearOf, .methodLink RX0 84 yX0_gatherFacts, .instanceMethod yX0_gatherFacts, .selects RX0 yX0_gatherFacts yX0_gatherFacts, .code yX0_isRuled cX0_isRuled 2 (some .boolean), .fieldLink RX0 41 "SeaLand$Board" "force" "LSeaLand$Law;", .code yX4_firstThatHolds cX4_firstThatHolds 4 (some .int), .fieldLink RX4 60 "SeaLand$Law" "lines" "I", .fieldLink RX4 18 "SeaLand$Law" "kinds" "[I", .code yX4_lineHolds cX4_lineHolds 6 (some .boolean), .fieldLink RX4 33 "SeaLand$Law" "stepFrom" "[I", .fieldLink RX4 36 "SeaLand$Law" "stepTo" "[I", .fieldLink RX4 39 "SeaLand$Law" "steps" "[I", .fieldLink RX4 42 "SeaLand$Law" "stack" "[J", .code yX4_joined cX4_joined 5 (some .long), .methodLink RX4 199 Lib.MathLoose.max_long.x, .static Lib.MathLoose.max_long.x, .code Lib.MathLoose.max_long.x Lib.MathLoose.max_long.code 4 (some .long), .methodLink RX4 195 yX4_joined, .static yX4_joined, .initialized RX4, .methodLink RX4 203 yX4_lineHolds, .instanceMethod yX4_lineHolds, .selects RX4 yX4_lineHolds yX4_lineHolds, .methodLink RX0 134 yX4_firstThatHolds, .instanceMethod yX4_firstThatHolds, .selects RX4 yX4_firstThatHolds yX4_firstThatHolds, .methodLink RX0 169 yX0_isRuled, .instanceMethod yX0_isRuled, .selects RX0 yX0_isRuled yX0_isRuled, .code yX0_ruled cX0_ruled 2 (some .int), .code yX4_sumThatHolds cX4_sumThatHolds 6 (some .long), .fieldLink RX4 21 "SeaLand$Law" "firsts" "[I", .methodLink RX0 130 yX4_sumThatHolds, .instanceMethod yX4_sumThatHolds, .selects RX4 yX4_sumThatHolds yX4_sumThatHolds, .methodLink RX0 88 yX0_ruled, .instanceMethod yX0_ruled, .selects RX0 yX0_ruled yX0_ruled] bs2)
set_option maxHeartbeats 4000000 in
set_option maxRecDepth 100000 in
theorem c_giveFarms (l : Launch) (dC : Nat → ClassId) (dI : Nat → Nat → Nat) (kA : Nat → ClassId) (adK adV : Nat → Nat) (G : gT) (H0 : Heap) (nC nS : Int) (o0 : Nat) (p0 : Int32) (p1 : Nat)  (hT : gH (dC, dI) kA (SHc nC nS) G H0) (hr_p1 : G p1 = some 6) (hr_o0 : G o0 = some 3) (hgC : 0 ≤ nC ∧ nC ≤ 40) (hgS : 0 ≤ nS ∧ nS ≤ 60) : Met l yX0_giveFarms w_c_giveFarms ({ frames := 5, cells := 0, slots := 0, locals := 135 }) (va_Pc [.ref o0, .int p0, .ref p1] (fun U => U.heap = H0 ∧ va_K (dC, dI) vwCl (tyl kA) U ∧ EVC adK adV (gA G H0.size) U U.heap)) (va_Qi (fun (r : Int32) (u : Unit) => True) (fun (_ : Unit) (t : State) => gH (dC, dI) kA (SHc nC nS) G t.heap ∧ gF (dC, dI) SKc G ([(3, 15), (10, 7), (50, 0), (54, 0), (56, 0), (57, 0)] : List (Nat × Nat)) H0 t.heap) (gA G H0.size)) 0 0 (gA G H0.size) := by
  refine Met.ofW (cc := cX0_giveFarms) (maxL := 7) (ret := (some .int)) (by decide) rfl ?_
  intro p e s m args below meth c s₁ B hml hv
  obtain ⟨rfl, hH0, hK, hE⟩ := hv
  have hx := B.exec
  have hb := B.bytes
  have hr := B.returns
  have hts := atoms_spec (ws := w_c_giveFarms) B.pre
  have hown : s.vm.findClass RX0 = some m.cls := findClass_of_methodNamed B.named
  have hlocks := B.notSynchronized
  subst hH0
  generalize hAe : gA G s.heap.size = A at hE ⊢
  have hA : ∀ q : Nat, s.heap.size ≤ q → A q := fun q h => by rw [← hAe]; exact Or.inr h
  have hG := gA_of hAe
  have hS : va_S A s.heap s.heap [] := va_S.rf
  have hF : gF (dC, dI) SKc G ([(3, 15), (10, 7), (50, 0), (54, 0), (56, 0), (57, 0)] : List (Nat × Nat)) s.heap s.heap := gF.rf
  have hl := lv_entry ([.ref o0, .int p0, .ref p1]) (n := 7) (Nat.le_of_ble_eq_true rfl)
  rw [lg_entry_eq]
  generalize (lg_sl ([.ref o0, .int p0, .ref p1]) ++ List.replicate (7 - (lg_sl ([.ref o0, .int p0, .ref p1])).length) Slot.unset).toArray = ls at hl ⊢
  have hl : lv_has ls 7 [(0, .ref o0), (1, .int p0), (2, .ref p1)] := hl
  refine lv_iconst (v := 0) hx hb dX0_giveFarms_0 (by decide) ?_
  refine lv_istore_n (lv' := [(3, .int 0), (0, .ref o0), (1, .int p0), (2, .ref p1)]) hx hb dX0_giveFarms_1 rfl hl (by decide) rfl (fun ls hl => ?_)
  have key284 : ∀ (n284 i1 : Nat), i1 + n284 = 60 → 0 ≤ i1 → ∀ (H : Heap) (locs : List Loc), gH (dC, dI) kA (SHc nC nS) G H → gF (dC, dI) SKc G ([(3, 15), (10, 7), (50, 0), (54, 0), (56, 0), (57, 0)] : List (Nat × Nat)) s.heap H → va_S A s.heap H locs → ∀ ls : Array Slot, lv_has ls 7 [(3, .int (nI i1)), (0, .ref o0), (1, .int p0), (2, .ref p1)] → W p l e (headSpec w_c_giveFarms ({ frames := 5, cells := 0, slots := 0, locals := 135 })).room s m #[.ref o0, .int p0, .ref p1] below meth c H locs 0 0 (MQ below (va_Qi (fun (r : Int32) (u : Unit) => True) (fun (_ : Unit) (t : State) => gH (dC, dI) kA (SHc nC nS) G t.heap ∧ gF (dC, dI) SKc G ([(3, 15), (10, 7), (50, 0), (54, 0), (56, 0), (57, 0)] : List (Nat × Nat)) s.heap t.heap) A) #[.ref o0, .int p0, .ref p1] s 0 0 A) (F0 m 2 ls []) := by
    intro n284
    induction n284 with
    | zero =>
      intro i1 hn284 hlo285  H locs hT hF hS  ls hl
      obtain rfl : 60 = i1 := by omega
      refine lv_iload_n hx hb dX0_giveFarms_2 rfl (lv_at hl 0 rfl) ?_
      refine lv_aload_n hx hb dX0_giveFarms_3 rfl (lv_at hl 1 rfl) ?_
      refine tw_get hx hb hts bF2_X0 hown hK hT hr_o0 shc_3 rfl 14 (by decide) (ht_at2 hts 0 rfl) (fun _ h9 => h9) dX0_giveFarms_4 (fun v9 m286 h9 => ?_)
      obtain ⟨x287, rfl, gx287, kx287⟩ := h9 _ rfl
      refine lv_icmp_ge (tgt := 76) hx hb dX0_giveFarms_7 (by decide) (fun c288 => ?_) (fun c288 => (by exfalso; have q9 : ((60 : Nat) : Int) < x287.toInt := ti_nle c288 rfl (nI_toInt (by omega)); omega))
      have t289 : x287.toInt ≤ ((60 : Nat) : Int) := ti_le c288 rfl (nI_toInt (by omega))
      refine lv_iconst (v := 0) hx hb dX0_giveFarms_76 (by decide) ?_
      refine lv_istore_n (lv' := [(3, .int 0), (0, .ref o0), (1, .int p0), (2, .ref p1)]) hx hb dX0_giveFarms_77 rfl hl (by decide) rfl (fun ls hl => ?_)
      refine lv_iconst (v := 0) hx hb dX0_giveFarms_78 (by decide) ?_
      refine lv_istore (lv' := [(4, .int 0), (3, .int 0), (0, .ref o0), (1, .int p0), (2, .ref p1)]) hx hb dX0_giveFarms_79 hl (by decide) rfl (fun ls hl => ?_)
      have jn429 : ∀ (z425 : Int32), ∀ (z427 : Int32), ((0 ≤ z425.toInt ∧ z425.toInt ≤ 2147483647)) → ∀ (H : Heap) (locs : List Loc), gH (dC, dI) kA (SHc nC nS) G H → gF (dC, dI) SKc G ([(3, 15), (10, 7), (50, 0), (54, 0), (56, 0), (57, 0)] : List (Nat × Nat)) s.heap H → va_S A s.heap H locs → el H o0 (dI 3 14) = some (.int x287) → ∀ ls : Array Slot, lv_has ls 7 [(4, .int z425), (3, .int z427), (0, .ref o0), (1, .int p0), (2, .ref p1)] → W p l e (headSpec w_c_giveFarms ({ frames := 5, cells := 0, slots := 0, locals := 135 })).room s m #[.ref o0, .int p0, .ref p1] below meth c H locs 0 0 (MQ below (va_Qi (fun (r : Int32) (u : Unit) => True) (fun (_ : Unit) (t : State) => gH (dC, dI) kA (SHc nC nS) G t.heap ∧ gF (dC, dI) SKc G ([(3, 15), (10, 7), (50, 0), (54, 0), (56, 0), (57, 0)] : List (Nat × Nat)) s.heap t.heap) A) #[.ref o0, .int p0, .ref p1] s 0 0 A) (F0 m 155 ls []) := by
        intro z425 z427 h426 H locs hT hF hS m428 ls hl
        refine lv_aload_n hx hb dX0_giveFarms_155 rfl (lv_at hl 2 rfl) ?_
        refine lv_dup hx hb dX0_giveFarms_156 rfl ?_
        refine tw_get hx hb hts bF2_X0 hown hK hT hr_o0 shc_3 rfl 15 (by decide) (ht_at2 hts 1 rfl) (fun _ h9 => h9) dX0_giveFarms_157 (fun v9 m430 h9 => ?_)
        obtain ⟨x431, rfl, gx431, kx431⟩ := h9 _ rfl
        refine lv_iload_n hx hb dX0_giveFarms_160 rfl (lv_at hl 1 rfl) ?_
        refine lv_iadd hx hb dX0_giveFarms_161 ?_
        refine lv_topi (fun x432 ex432 => ?_)
        refine tw_put (v := .int x432) (ty := .int) hx hb hts bF2_X0 tyX0 tyX0_ok nmX0 hown hK hT hG hS hr_o0 shc_3 rfl 15 (by decide) (ht_at2 hts 1 rfl) (fun _ h9 => h9) rfl (by decide +kernel) rfl rfl (gl_at rfl (gi_all _)) dX0_giveFarms_162 (fun H locs hT oq m433 oj hS => ?_)
        have hF := hF.put hr_o0 skc_3 oq oj (by decide)
        refine lv_iload_n hx hb dX0_giveFarms_165 rfl (lv_at hl 1 rfl) ?_
        exact W.iret (v := z427) hx hb hr (fun t ht hW => ⟨⟨z427, (), rfl, (by exact trivial), by (try dsimp only); rw [ht]; exact ⟨hT, hF⟩⟩, hS.F ht⟩) hS.2.2 dX0_giveFarms_166
      have key435 : ∀ (n435 i290 : Nat), i290 + n435 = 2147483647 → 0 ≤ i290 → ∀ (z291 : Int32), ∀ (H : Heap) (locs : List Loc), gH (dC, dI) kA (SHc nC nS) G H → gF (dC, dI) SKc G ([(3, 15), (10, 7), (50, 0), (54, 0), (56, 0), (57, 0)] : List (Nat × Nat)) s.heap H → va_S A s.heap H locs → el H o0 (dI 3 14) = some (.int x287) → ∀ ls : Array Slot, lv_has ls 7 [(4, .int (nI i290)), (3, .int z291), (0, .ref o0), (1, .int p0), (2, .ref p1)] → W p l e (headSpec w_c_giveFarms ({ frames := 5, cells := 0, slots := 0, locals := 135 })).room s m #[.ref o0, .int p0, .ref p1] below meth c H locs 0 0 (MQ below (va_Qi (fun (r : Int32) (u : Unit) => True) (fun (_ : Unit) (t : State) => gH (dC, dI) kA (SHc nC nS) G t.heap ∧ gF (dC, dI) SKc G ([(3, 15), (10, 7), (50, 0), (54, 0), (56, 0), (57, 0)] : List (Nat × Nat)) s.heap t.heap) A) #[.ref o0, .int p0, .ref p1] s 0 0 A) (F0 m 81 ls []) := by
        intro n435
        induction n435 with
        | zero =>
          intro i290 hn435 hlo436 z291 H locs hT hF hS m292 ls hl
          obtain rfl : 2147483647 = i290 := by omega
          refine lv_iload hx hb dX0_giveFarms_81 (lv_at hl 0 rfl) ?_
          refine lv_iload_n hx hb dX0_giveFarms_83 rfl (lv_at hl 3 rfl) ?_
          have t437 : -2147483648 ≤ p0.toInt ∧ p0.toInt ≤ 2147483647 := ti_all p0
          refine lv_icmp_ge (tgt := 155) hx hb dX0_giveFarms_84 (by decide) (fun c438 => ?_) (fun c438 => (by exfalso; have q9 : ((2147483647 : Nat) : Int) < p0.toInt := ti_nle c438 rfl (nI_toInt (by omega)); have := ti_all p0; omega))
          have t439 : p0.toInt ≤ ((2147483647 : Nat) : Int) := ti_le c438 rfl (nI_toInt (by omega))
          exact jn429 (nI 2147483647) z291 (rg_t (a := ((2147483647 : Nat) : Int)) (nI_toInt (by omega)) (by omega) (by omega)) _ _ hT hF hS m292 ls (lv_sub hl [0, 1, 2, 3, 4] rfl)
        | succ n435 ih435 =>
          intro i290 hn435 hlo436 z291 H locs hT hF hS m292 ls hl
          have hlt439 : i290 < 2147483647 := by omega
          refine lv_iload hx hb dX0_giveFarms_81 (lv_at hl 0 rfl) ?_
          refine lv_iload_n hx hb dX0_giveFarms_83 rfl (lv_at hl 3 rfl) ?_
          have t440 : -2147483648 ≤ p0.toInt ∧ p0.toInt ≤ 2147483647 := ti_all p0
          refine lv_icmp_ge (tgt := 155) hx hb dX0_giveFarms_84 (by decide) (fun c441 => ?_) (fun c441 => ?_)
          · have t442 : p0.toInt ≤ ((i290 : Nat) : Int) := ti_le c441 rfl (nI_toInt (by omega))
            exact jn429 (nI i290) z291 (rg_t (a := ((i290 : Nat) : Int)) (nI_toInt (by omega)) (by omega) (by omega)) _ _ hT hF hS m292 ls (lv_sub hl [0, 1, 2, 3, 4] rfl)
          · have t443 : ((i290 : Nat) : Int) < p0.toInt := ti_nle c441 rfl (nI_toInt (by omega))
            refine lv_aload_n hx hb dX0_giveFarms_87 rfl (lv_at hl 2 rfl) ?_
            have hFc := gA_free hG hA hS
            refine va_calli (va_runV (As := []) (rest := []) ⟨hx, hb, hml, hown, hts⟩ (c_firstByMark l dC dI kA adK adV G H nC nS o0 hT hr_o0 (by omega) (by omega)) (cwV 0 hts (goodIn_app (goodIn_r _ [6, 7, 8, 9] rfl (by decide +kernel)) (goodIn_ca (goodIn_r _ [3, 1, 4, 5] rfl (by decide +kernel)) (bs2_in _ _))) rfl rfl rfl (by decide +kernel) ⟨(Nat.le_of_ble_eq_true rfl), (Nat.le_of_ble_eq_true rfl)⟩) ⟨fun a U g mk q => by obtain ⟨q0, q1, qK, qE⟩ := q; exact ⟨q0, q1, va_K.moved (u := U) (U := U.calling g mk a) (Vm.Alike.refl U.vm) qK, EVC.blind g mk a qE⟩, gH_rc hK hT hr_o0 shc_3 rfl, fun U hU hW => ⟨rfl, hU, va_K.moved hW.alike hK, hE.call hS hFc hU hW⟩⟩ rfl rfl hl.1 rfl (lv_room (Nat.le_of_ble_eq_true rfl)) dX0_giveFarms_88 ⟨(Nat.le_of_ble_eq_true rfl), (Nat.le_of_ble_eq_true rfl)⟩) hS (fun q _ h => hFc q h) hFc (fun r444 u t H locs ht hvm hw445 hB _ _ hS => ?_)
            obtain ⟨hT, hF1⟩ := hB
            rw [ht] at hT hF1
            have m446 := (hF1.fld hr_o0 skc_3 (k := 14) (by decide) (by decide)).trans m292
            have hF := hF.more hF1 (by decide)
            try dsimp only at hw445
            obtain ⟨h447, hf448⟩ := hw445
            refine lv_istore (lv' := [(5, .int r444), (4, .int (nI i290)), (3, .int z291), (0, .ref o0), (1, .int p0), (2, .ref p1)]) hx hb dX0_giveFarms_91 hl (by decide) rfl (fun ls hl => ?_)
            refine lv_aload_n hx hb dX0_giveFarms_93 rfl (lv_at hl 3 rfl) ?_
            refine lv_aload_n hx hb dX0_giveFarms_94 rfl (lv_at hl 5 rfl) ?_
            refine tw_getN hx hb hts bF2_X3 hown hK hT hr_p1 shc_6 rfl 1 (by decide) (hE.nw 73 rfl) (fun _ h9 => h9) dX0_giveFarms_95 (fun v9 m449 h9 => ?_)
            obtain ⟨b450, rfl, hg451⟩ := h9 _ rfl
            have hFc := gA_free hG hA hS
            refine va_calli (va_runV (As := [.ref b450]) (rest := []) ⟨hx, hb, hml, hown, hts⟩ (c_bestFreeFarm l dC dI kA adK adV G H nC nS o0 b450 hT hg451 hr_o0 (by omega) (by omega)) (cwV 1 hts (goodIn_app (goodIn_r _ [22, 23, 24, 9] rfl (by decide +kernel)) (goodIn_ca (goodIn_r _ [10, 11, 12, 13, 14, 15, 16, 17, 18, 19, 20, 21, 9] rfl (by decide +kernel)) (bs2_in _ _))) rfl rfl rfl (by decide +kernel) ⟨(Nat.le_of_ble_eq_true rfl), (Nat.le_of_ble_eq_true rfl)⟩) ⟨fun a U g mk q => by obtain ⟨q0, q1, qK, qE⟩ := q; exact ⟨q0, q1, va_K.moved (u := U) (U := U.calling g mk a) (Vm.Alike.refl U.vm) qK, EVC.blind g mk a qE⟩, gH_rc hK hT hr_o0 shc_3 rfl, fun U hU hW => ⟨rfl, hU, va_K.moved hW.alike hK, hE.call hS hFc hU hW⟩⟩ rfl rfl hl.1 rfl (lv_room (Nat.le_of_ble_eq_true rfl)) dX0_giveFarms_98 ⟨(Nat.le_of_ble_eq_true rfl), (Nat.le_of_ble_eq_true rfl)⟩) hS (fun q _ h => hFc q h) hFc (fun r452 u t H locs ht hvm hw453 hB _ _ hS => ?_)
            obtain ⟨hT, hF1⟩ := hB
            rw [ht] at hT hF1
            have m454 := (hF1.fld hr_o0 skc_3 (k := 14) (by decide) (by decide)).trans m446
            have hF := hF.more hF1 (by decide)
            try dsimp only at hw453
            have h456 := hw453
            refine lv_istore (lv' := [(6, .int r452), (5, .int r444), (4, .int (nI i290)), (3, .int z291), (0, .ref o0), (1, .int p0), (2, .ref p1)]) hx hb dX0_giveFarms_101 hl (by decide) rfl (fun ls hl => ?_)
            refine lv_iload hx hb dX0_giveFarms_103 (lv_at hl 1 rfl) ?_
            refine lv_iconst (v := (-1)) hx hb dX0_giveFarms_105 (by decide) ?_
            refine lv_icmp_eq (tgt := 155) hx hb dX0_giveFarms_106 (by decide) (fun c457 => ?_) (fun c457 => ?_)
            · have t458 : r444.toInt = (-1) := ti_eq c457 rfl (by decide)
              exact jn429 (nI i290) z291 (rg_t (a := ((i290 : Nat) : Int)) (nI_toInt (by omega)) (by omega) (by omega)) _ _ hT hF hS m454 ls (lv_sub hl [2, 3, 4, 5, 6] rfl)
            · have t459 : r444.toInt ≠ (-1) := ti_ne c457 rfl (by decide)
              refine lv_iload hx hb dX0_giveFarms_109 (lv_at hl 0 rfl) ?_
              refine lv_iconst (v := (-1)) hx hb dX0_giveFarms_111 (by decide) ?_
              refine lv_icmp_ne (tgt := 118) hx hb dX0_giveFarms_112 (by decide) (fun c460 => ?_) (fun c460 => ?_)
              · have t461 : r452.toInt ≠ (-1) := ti_ne c460 rfl (by decide)
                refine lv_aload_n hx hb dX0_giveFarms_118 rfl (lv_at hl 4 rfl) ?_
                refine tw_get hx hb hts bF2_X0 hown hK hT hr_o0 shc_3 rfl 6 (by decide) (ht_at2 hts 3 rfl) (fun _ h9 => h9) dX0_giveFarms_119 (fun v9 m462 h9 => ?_)
                obtain ⟨b463, rfl, hg464⟩ := h9 _ rfl
                refine lv_iload hx hb dX0_giveFarms_122 (lv_at hl 1 rfl) ?_
                refine lv_iconst (v := (-1)) hx hb dX0_giveFarms_124 (by decide) ?_
                refine tw_iast (i := r444) (x := (-1)) hx hb hK hT hG hS hg464 shc_57 rfl (vin_t (a := r444.toInt) rfl (by omega) (by omega)) (gi_all _) dX0_giveFarms_125 (fun H locs hT oq m465 oi hS => ?_)
                have hF := hF.ast hg464 skc_57 oq (by decide)
                have m466 := (el_kept (oq _ (gne hr_o0 hg464 (by decide)))).trans m454
                refine lv_aload_n hx hb dX0_giveFarms_126 rfl (lv_at hl 4 rfl) ?_
                refine tw_get hx hb hts bF2_X0 hown hK hT hr_o0 shc_3 rfl 0 (by decide) (ht_at2 hts 4 rfl) (fun _ h9 => h9) dX0_giveFarms_127 (fun v9 m469 h9 => ?_)
                obtain ⟨b470, rfl, hg471⟩ := h9 _ rfl
                refine lv_iload hx hb dX0_giveFarms_130 (lv_at hl 1 rfl) ?_
                refine tw_aald (i := r444) hx hb hK hT hg471 shc_51 rfl (vin_t (a := r444.toInt) rfl (by omega) (by omega)) dX0_giveFarms_132 (fun v9 m472 h9 => ?_)
                obtain ⟨b473, rfl, hg474⟩ := (h9.1 (by have q9 := tn_of (show r444.toInt = r444.toInt from rfl) (by omega); omega))
                refine lv_iload hx hb dX0_giveFarms_133 (lv_at hl 0 rfl) ?_
                refine tw_putN (v := .int r452) (ty := .int) hx hb hts bF2_X7 tyX7 tyX7_ok nmX7 hown hK hT hG hS hg474 shc_10 rfl 7 (by decide) (hE.nw 61 rfl) (fun _ h9 => h9) rfl (by decide +kernel) rfl rfl (gl_at rfl (gi_of (show r452.toInt = r452.toInt from rfl) (by omega) (by omega))) dX0_giveFarms_135 (fun H locs hT oq m475 oj hS => ?_)
                have hF := hF.put hg474 skc_10 oq oj (by decide)
                have m476 := (el_kept (oq _ (gne hr_o0 hg474 (by decide)))).trans m466
                refine lv_aload_n hx hb dX0_giveFarms_138 rfl (lv_at hl 4 rfl) ?_
                refine tw_get hx hb hts bF2_X0 hown hK hT hr_o0 shc_3 rfl 3 (by decide) (ht_at2 hts 11 rfl) (fun _ h9 => h9) dX0_giveFarms_139 (fun v9 m482 h9 => ?_)
                obtain ⟨b483, rfl, hg484⟩ := h9 _ rfl
                refine lv_iload hx hb dX0_giveFarms_142 (lv_at hl 0 rfl) ?_
                refine lv_iconst (v := 1) hx hb dX0_giveFarms_144 (by decide) ?_
                refine tw_zast (i := r452) (x := 1) hx hb hK hT hG hS hg484 shc_54 rfl (vin_t (a := r452.toInt) rfl (by omega) (by omega)) (gi_z (rg_t (a := 1) (by decide) (by first | decide | omega) (by first | decide | omega)) (by decide) (by decide)) dX0_giveFarms_145 (fun H locs hT oq m485 oi hS => ?_)
                have hF := hF.ast hg484 skc_54 oq (by decide)
                have m486 := (el_kept (oq _ (gne hr_o0 hg484 (by decide)))).trans m476
                obtain ⟨x494, ex494⟩ : ∃ y : Int32, y = z291 + 1 := ⟨_, rfl⟩
                refine lv_iinc (v := x494) (lv' := [(3, .int x494), (6, .int r452), (5, .int r444), (4, .int (nI i290)), (0, .ref o0), (1, .int p0), (2, .ref p1)]) hx hb dX0_giveFarms_146 hl (k := 3) rfl (by first | (rw [ex494]; done) | (rw [ex494]; rfl)) (by decide) rfl (fun ls hl => ?_)
                refine lv_iinc (v := nI (i290 + 1)) (lv' := [(4, .int (nI (i290 + 1))), (3, .int x494), (6, .int r452), (5, .int r444), (0, .ref o0), (1, .int p0), (2, .ref p1)]) hx hb dX0_giveFarms_149 hl (k := 3) rfl (nI_add i290 1) (by decide) rfl (fun ls hl => ?_)
                refine lv_goto (tgt := 81) hx hb dX0_giveFarms_152 (by decide) ?_
                exact ih435 (i290 + 1) (by omega) (by omega) x494 _ _ hT hF hS m486 ls (lv_sub hl [0, 1, 4, 5, 6] rfl)
              · have t495 : r452.toInt = (-1) := ti_eq c460 rfl (by decide)
                refine lv_goto (tgt := 155) hx hb dX0_giveFarms_115 (by decide) ?_
                exact jn429 (nI i290) z291 (rg_t (a := ((i290 : Nat) : Int)) (nI_toInt (by omega)) (by omega) (by omega)) _ _ hT hF hS m454 ls (lv_sub hl [2, 3, 4, 5, 6] rfl)
      exact key435 (2147483647 - 0) 0 (by omega) (Nat.le_refl _) 0 _ _ hT hF hS m286 ls (lv_sub hl [0, 1, 2, 3, 4] rfl)
    | succ n284 ih284 =>
      intro i1 hn284 hlo285  H locs hT hF hS  ls hl
      have hlt495 : i1 < 60 := by omega
      refine lv_iload_n hx hb dX0_giveFarms_2 rfl (lv_at hl 0 rfl) ?_
      refine lv_aload_n hx hb dX0_giveFarms_3 rfl (lv_at hl 1 rfl) ?_
      refine tw_get hx hb hts bF2_X0 hown hK hT hr_o0 shc_3 rfl 14 (by decide) (ht_at2 hts 0 rfl) (fun _ h9 => h9) dX0_giveFarms_4 (fun v9 m496 h9 => ?_)
      obtain ⟨x497, rfl, gx497, kx497⟩ := h9 _ rfl
      refine lv_icmp_ge (tgt := 76) hx hb dX0_giveFarms_7 (by decide) (fun c498 => ?_) (fun c498 => ?_)
      · have t499 : x497.toInt ≤ ((i1 : Nat) : Int) := ti_le c498 rfl (nI_toInt (by omega))
        refine lv_iconst (v := 0) hx hb dX0_giveFarms_76 (by decide) ?_
        refine lv_istore_n (lv' := [(3, .int 0), (0, .ref o0), (1, .int p0), (2, .ref p1)]) hx hb dX0_giveFarms_77 rfl hl (by decide) rfl (fun ls hl => ?_)
        refine lv_iconst (v := 0) hx hb dX0_giveFarms_78 (by decide) ?_
        refine lv_istore (lv' := [(4, .int 0), (3, .int 0), (0, .ref o0), (1, .int p0), (2, .ref p1)]) hx hb dX0_giveFarms_79 hl (by decide) rfl (fun ls hl => ?_)
        have jn639 : ∀ (z635 : Int32), ∀ (z637 : Int32), ((0 ≤ z635.toInt ∧ z635.toInt ≤ 2147483647)) → ∀ (H : Heap) (locs : List Loc), gH (dC, dI) kA (SHc nC nS) G H → gF (dC, dI) SKc G ([(3, 15), (10, 7), (50, 0), (54, 0), (56, 0), (57, 0)] : List (Nat × Nat)) s.heap H → va_S A s.heap H locs → el H o0 (dI 3 14) = some (.int x497) → ∀ ls : Array Slot, lv_has ls 7 [(4, .int z635), (3, .int z637), (0, .ref o0), (1, .int p0), (2, .ref p1)] → W p l e (headSpec w_c_giveFarms ({ frames := 5, cells := 0, slots := 0, locals := 135 })).room s m #[.ref o0, .int p0, .ref p1] below meth c H locs 0 0 (MQ below (va_Qi (fun (r : Int32) (u : Unit) => True) (fun (_ : Unit) (t : State) => gH (dC, dI) kA (SHc nC nS) G t.heap ∧ gF (dC, dI) SKc G ([(3, 15), (10, 7), (50, 0), (54, 0), (56, 0), (57, 0)] : List (Nat × Nat)) s.heap t.heap) A) #[.ref o0, .int p0, .ref p1] s 0 0 A) (F0 m 155 ls []) := by
          intro z635 z637 h636 H locs hT hF hS m638 ls hl
          refine lv_aload_n hx hb dX0_giveFarms_155 rfl (lv_at hl 2 rfl) ?_
          refine lv_dup hx hb dX0_giveFarms_156 rfl ?_
          refine tw_get hx hb hts bF2_X0 hown hK hT hr_o0 shc_3 rfl 15 (by decide) (ht_at2 hts 1 rfl) (fun _ h9 => h9) dX0_giveFarms_157 (fun v9 m640 h9 => ?_)
          obtain ⟨x641, rfl, gx641, kx641⟩ := h9 _ rfl
          refine lv_iload_n hx hb dX0_giveFarms_160 rfl (lv_at hl 1 rfl) ?_
          refine lv_iadd hx hb dX0_giveFarms_161 ?_
          refine lv_topi (fun x642 ex642 => ?_)
          refine tw_put (v := .int x642) (ty := .int) hx hb hts bF2_X0 tyX0 tyX0_ok nmX0 hown hK hT hG hS hr_o0 shc_3 rfl 15 (by decide) (ht_at2 hts 1 rfl) (fun _ h9 => h9) rfl (by decide +kernel) rfl rfl (gl_at rfl (gi_all _)) dX0_giveFarms_162 (fun H locs hT oq m643 oj hS => ?_)
          have hF := hF.put hr_o0 skc_3 oq oj (by decide)
          refine lv_iload_n hx hb dX0_giveFarms_165 rfl (lv_at hl 1 rfl) ?_
          exact W.iret (v := z637) hx hb hr (fun t ht hW => ⟨⟨z637, (), rfl, (by exact trivial), by (try dsimp only); rw [ht]; exact ⟨hT, hF⟩⟩, hS.F ht⟩) hS.2.2 dX0_giveFarms_166
        have key645 : ∀ (n645 i500 : Nat), i500 + n645 = 2147483647 → 0 ≤ i500 → ∀ (z501 : Int32), ∀ (H : Heap) (locs : List Loc), gH (dC, dI) kA (SHc nC nS) G H → gF (dC, dI) SKc G ([(3, 15), (10, 7), (50, 0), (54, 0), (56, 0), (57, 0)] : List (Nat × Nat)) s.heap H → va_S A s.heap H locs → el H o0 (dI 3 14) = some (.int x497) → ∀ ls : Array Slot, lv_has ls 7 [(4, .int (nI i500)), (3, .int z501), (0, .ref o0), (1, .int p0), (2, .ref p1)] → W p l e (headSpec w_c_giveFarms ({ frames := 5, cells := 0, slots := 0, locals := 135 })).room s m #[.ref o0, .int p0, .ref p1] below meth c H locs 0 0 (MQ below (va_Qi (fun (r : Int32) (u : Unit) => True) (fun (_ : Unit) (t : State) => gH (dC, dI) kA (SHc nC nS) G t.heap ∧ gF (dC, dI) SKc G ([(3, 15), (10, 7), (50, 0), (54, 0), (56, 0), (57, 0)] : List (Nat × Nat)) s.heap t.heap) A) #[.ref o0, .int p0, .ref p1] s 0 0 A) (F0 m 81 ls []) := by
          intro n645
          induction n645 with
          | zero =>
            intro i500 hn645 hlo646 z501 H locs hT hF hS m502 ls hl
            obtain rfl : 2147483647 = i500 := by omega
            refine lv_iload hx hb dX0_giveFarms_81 (lv_at hl 0 rfl) ?_
            refine lv_iload_n hx hb dX0_giveFarms_83 rfl (lv_at hl 3 rfl) ?_
            have t647 : -2147483648 ≤ p0.toInt ∧ p0.toInt ≤ 2147483647 := ti_all p0
            refine lv_icmp_ge (tgt := 155) hx hb dX0_giveFarms_84 (by decide) (fun c648 => ?_) (fun c648 => (by exfalso; have q9 : ((2147483647 : Nat) : Int) < p0.toInt := ti_nle c648 rfl (nI_toInt (by omega)); have := ti_all p0; omega))
            have t649 : p0.toInt ≤ ((2147483647 : Nat) : Int) := ti_le c648 rfl (nI_toInt (by omega))
            exact jn639 (nI 2147483647) z501 (rg_t (a := ((2147483647 : Nat) : Int)) (nI_toInt (by omega)) (by omega) (by omega)) _ _ hT hF hS m502 ls (lv_sub hl [0, 1, 2, 3, 4] rfl)
          | succ n645 ih645 =>
            intro i500 hn645 hlo646 z501 H locs hT hF hS m502 ls hl
            have hlt649 : i500 < 2147483647 := by omega
            refine lv_iload hx hb dX0_giveFarms_81 (lv_at hl 0 rfl) ?_
            refine lv_iload_n hx hb dX0_giveFarms_83 rfl (lv_at hl 3 rfl) ?_
            have t650 : -2147483648 ≤ p0.toInt ∧ p0.toInt ≤ 2147483647 := ti_all p0
            refine lv_icmp_ge (tgt := 155) hx hb dX0_giveFarms_84 (by decide) (fun c651 => ?_) (fun c651 => ?_)
            · have t652 : p0.toInt ≤ ((i500 : Nat) : Int) := ti_le c651 rfl (nI_toInt (by omega))
              exact jn639 (nI i500) z501 (rg_t (a := ((i500 : Nat) : Int)) (nI_toInt (by omega)) (by omega) (by omega)) _ _ hT hF hS m502 ls (lv_sub hl [0, 1, 2, 3, 4] rfl)
            · have t653 : ((i500 : Nat) : Int) < p0.toInt := ti_nle c651 rfl (nI_toInt (by omega))
              refine lv_aload_n hx hb dX0_giveFarms_87 rfl (lv_at hl 2 rfl) ?_
              have hFc := gA_free hG hA hS
              refine va_calli (va_runV (As := []) (rest := []) ⟨hx, hb, hml, hown, hts⟩ (c_firstByMark l dC dI kA adK adV G H nC nS o0 hT hr_o0 (by omega) (by omega)) (cwV 0 hts (goodIn_app (goodIn_r _ [6, 7, 8, 9] rfl (by decide +kernel)) (goodIn_ca (goodIn_r _ [3, 1, 4, 5] rfl (by decide +kernel)) (bs2_in _ _))) rfl rfl rfl (by decide +kernel) ⟨(Nat.le_of_ble_eq_true rfl), (Nat.le_of_ble_eq_true rfl)⟩) ⟨fun a U g mk q => by obtain ⟨q0, q1, qK, qE⟩ := q; exact ⟨q0, q1, va_K.moved (u := U) (U := U.calling g mk a) (Vm.Alike.refl U.vm) qK, EVC.blind g mk a qE⟩, gH_rc hK hT hr_o0 shc_3 rfl, fun U hU hW => ⟨rfl, hU, va_K.moved hW.alike hK, hE.call hS hFc hU hW⟩⟩ rfl rfl hl.1 rfl (lv_room (Nat.le_of_ble_eq_true rfl)) dX0_giveFarms_88 ⟨(Nat.le_of_ble_eq_true rfl), (Nat.le_of_ble_eq_true rfl)⟩) hS (fun q _ h => hFc q h) hFc (fun r654 u t H locs ht hvm hw655 hB _ _ hS => ?_)
              obtain ⟨hT, hF1⟩ := hB
              rw [ht] at hT hF1
              have m656 := (hF1.fld hr_o0 skc_3 (k := 14) (by decide) (by decide)).trans m502
              have hF := hF.more hF1 (by decide)
              try dsimp only at hw655
              obtain ⟨h657, hf658⟩ := hw655
              refine lv_istore (lv' := [(5, .int r654), (4, .int (nI i500)), (3, .int z501), (0, .ref o0), (1, .int p0), (2, .ref p1)]) hx hb dX0_giveFarms_91 hl (by decide) rfl (fun ls hl => ?_)
              refine lv_aload_n hx hb dX0_giveFarms_93 rfl (lv_at hl 3 rfl) ?_
              refine lv_aload_n hx hb dX0_giveFarms_94 rfl (lv_at hl 5 rfl) ?_
              refine tw_getN hx hb hts bF2_X3 hown hK hT hr_p1 shc_6 rfl 1 (by decide) (hE.nw 73 rfl) (fun _ h9 => h9) dX0_giveFarms_95 (fun v9 m659 h9 => ?_)
              obtain ⟨b660, rfl, hg661⟩ := h9 _ rfl
              have hFc := gA_free hG hA hS
              refine va_calli (va_runV (As := [.ref b660]) (rest := []) ⟨hx, hb, hml, hown, hts⟩ (c_bestFreeFarm l dC dI kA adK adV G H nC nS o0 b660 hT hg661 hr_o0 (by omega) (by omega)) (cwV 1 hts (goodIn_app (goodIn_r _ [22, 23, 24, 9] rfl (by decide +kernel)) (goodIn_ca (goodIn_r _ [10, 11, 12, 13, 14, 15, 16, 17, 18, 19, 20, 21, 9] rfl (by decide +kernel)) (bs2_in _ _))) rfl rfl rfl (by decide +kernel) ⟨(Nat.le_of_ble_eq_true rfl), (Nat.le_of_ble_eq_true rfl)⟩) ⟨fun a U g mk q => by obtain ⟨q0, q1, qK, qE⟩ := q; exact ⟨q0, q1, va_K.moved (u := U) (U := U.calling g mk a) (Vm.Alike.refl U.vm) qK, EVC.blind g mk a qE⟩, gH_rc hK hT hr_o0 shc_3 rfl, fun U hU hW => ⟨rfl, hU, va_K.moved hW.alike hK, hE.call hS hFc hU hW⟩⟩ rfl rfl hl.1 rfl (lv_room (Nat.le_of_ble_eq_true rfl)) dX0_giveFarms_98 ⟨(Nat.le_of_ble_eq_true rfl), (Nat.le_of_ble_eq_true rfl)⟩) hS (fun q _ h => hFc q h) hFc (fun r662 u t H locs ht hvm hw663 hB _ _ hS => ?_)
              obtain ⟨hT, hF1⟩ := hB
              rw [ht] at hT hF1
              have m664 := (hF1.fld hr_o0 skc_3 (k := 14) (by decide) (by decide)).trans m656
              have hF := hF.more hF1 (by decide)
              try dsimp only at hw663
              have h666 := hw663
              refine lv_istore (lv' := [(6, .int r662), (5, .int r654), (4, .int (nI i500)), (3, .int z501), (0, .ref o0), (1, .int p0), (2, .ref p1)]) hx hb dX0_giveFarms_101 hl (by decide) rfl (fun ls hl => ?_)
              refine lv_iload hx hb dX0_giveFarms_103 (lv_at hl 1 rfl) ?_
              refine lv_iconst (v := (-1)) hx hb dX0_giveFarms_105 (by decide) ?_
              refine lv_icmp_eq (tgt := 155) hx hb dX0_giveFarms_106 (by decide) (fun c667 => ?_) (fun c667 => ?_)
              · have t668 : r654.toInt = (-1) := ti_eq c667 rfl (by decide)
                exact jn639 (nI i500) z501 (rg_t (a := ((i500 : Nat) : Int)) (nI_toInt (by omega)) (by omega) (by omega)) _ _ hT hF hS m664 ls (lv_sub hl [2, 3, 4, 5, 6] rfl)
              · have t669 : r654.toInt ≠ (-1) := ti_ne c667 rfl (by decide)
                refine lv_iload hx hb dX0_giveFarms_109 (lv_at hl 0 rfl) ?_
                refine lv_iconst (v := (-1)) hx hb dX0_giveFarms_111 (by decide) ?_
                refine lv_icmp_ne (tgt := 118) hx hb dX0_giveFarms_112 (by decide) (fun c670 => ?_) (fun c670 => ?_)
                · have t671 : r662.toInt ≠ (-1) := ti_ne c670 rfl (by decide)
                  refine lv_aload_n hx hb dX0_giveFarms_118 rfl (lv_at hl 4 rfl) ?_
                  refine tw_get hx hb hts bF2_X0 hown hK hT hr_o0 shc_3 rfl 6 (by decide) (ht_at2 hts 3 rfl) (fun _ h9 => h9) dX0_giveFarms_119 (fun v9 m672 h9 => ?_)
                  obtain ⟨b673, rfl, hg674⟩ := h9 _ rfl
                  refine lv_iload hx hb dX0_giveFarms_122 (lv_at hl 1 rfl) ?_
                  refine lv_iconst (v := (-1)) hx hb dX0_giveFarms_124 (by decide) ?_
                  refine tw_iast (i := r654) (x := (-1)) hx hb hK hT hG hS hg674 shc_57 rfl (vin_t (a := r654.toInt) rfl (by omega) (by omega)) (gi_all _) dX0_giveFarms_125 (fun H locs hT oq m675 oi hS => ?_)
                  have hF := hF.ast hg674 skc_57 oq (by decide)
                  have m676 := (el_kept (oq _ (gne hr_o0 hg674 (by decide)))).trans m664
                  refine lv_aload_n hx hb dX0_giveFarms_126 rfl (lv_at hl 4 rfl) ?_
                  refine tw_get hx hb hts bF2_X0 hown hK hT hr_o0 shc_3 rfl 0 (by decide) (ht_at2 hts 4 rfl) (fun _ h9 => h9) dX0_giveFarms_127 (fun v9 m679 h9 => ?_)
                  obtain ⟨b680, rfl, hg681⟩ := h9 _ rfl
                  refine lv_iload hx hb dX0_giveFarms_130 (lv_at hl 1 rfl) ?_
                  refine tw_aald (i := r654) hx hb hK hT hg681 shc_51 rfl (vin_t (a := r654.toInt) rfl (by omega) (by omega)) dX0_giveFarms_132 (fun v9 m682 h9 => ?_)
                  obtain ⟨b683, rfl, hg684⟩ := (h9.1 (by have q9 := tn_of (show r654.toInt = r654.toInt from rfl) (by omega); omega))
                  refine lv_iload hx hb dX0_giveFarms_133 (lv_at hl 0 rfl) ?_
                  refine tw_putN (v := .int r662) (ty := .int) hx hb hts bF2_X7 tyX7 tyX7_ok nmX7 hown hK hT hG hS hg684 shc_10 rfl 7 (by decide) (hE.nw 61 rfl) (fun _ h9 => h9) rfl (by decide +kernel) rfl rfl (gl_at rfl (gi_of (show r662.toInt = r662.toInt from rfl) (by omega) (by omega))) dX0_giveFarms_135 (fun H locs hT oq m685 oj hS => ?_)
                  have hF := hF.put hg684 skc_10 oq oj (by decide)
                  have m686 := (el_kept (oq _ (gne hr_o0 hg684 (by decide)))).trans m676
                  refine lv_aload_n hx hb dX0_giveFarms_138 rfl (lv_at hl 4 rfl) ?_
                  refine tw_get hx hb hts bF2_X0 hown hK hT hr_o0 shc_3 rfl 3 (by decide) (ht_at2 hts 11 rfl) (fun _ h9 => h9) dX0_giveFarms_139 (fun v9 m692 h9 => ?_)
                  obtain ⟨b693, rfl, hg694⟩ := h9 _ rfl
                  refine lv_iload hx hb dX0_giveFarms_142 (lv_at hl 0 rfl) ?_
                  refine lv_iconst (v := 1) hx hb dX0_giveFarms_144 (by decide) ?_
                  refine tw_zast (i := r662) (x := 1) hx hb hK hT hG hS hg694 shc_54 rfl (vin_t (a := r662.toInt) rfl (by omega) (by omega)) (gi_z (rg_t (a := 1) (by decide) (by first | decide | omega) (by first | decide | omega)) (by decide) (by decide)) dX0_giveFarms_145 (fun H locs hT oq m695 oi hS => ?_)
                  have hF := hF.ast hg694 skc_54 oq (by decide)
                  have m696 := (el_kept (oq _ (gne hr_o0 hg694 (by decide)))).trans m686
                  obtain ⟨x704, ex704⟩ : ∃ y : Int32, y = z501 + 1 := ⟨_, rfl⟩
                  refine lv_iinc (v := x704) (lv' := [(3, .int x704), (6, .int r662), (5, .int r654), (4, .int (nI i500)), (0, .ref o0), (1, .int p0), (2, .ref p1)]) hx hb dX0_giveFarms_146 hl (k := 3) rfl (by first | (rw [ex704]; done) | (rw [ex704]; rfl)) (by decide) rfl (fun ls hl => ?_)
                  refine lv_iinc (v := nI (i500 + 1)) (lv' := [(4, .int (nI (i500 + 1))), (3, .int x704), (6, .int r662), (5, .int r654), (0, .ref o0), (1, .int p0), (2, .ref p1)]) hx hb dX0_giveFarms_149 hl (k := 3) rfl (nI_add i500 1) (by decide) rfl (fun ls hl => ?_)
                  refine lv_goto (tgt := 81) hx hb dX0_giveFarms_152 (by decide) ?_
                  exact ih645 (i500 + 1) (by omega) (by omega) x704 _ _ hT hF hS m696 ls (lv_sub hl [0, 1, 4, 5, 6] rfl)
                · have t705 : r662.toInt = (-1) := ti_eq c670 rfl (by decide)
                  refine lv_goto (tgt := 155) hx hb dX0_giveFarms_115 (by decide) ?_
                  exact jn639 (nI i500) z501 (rg_t (a := ((i500 : Nat) : Int)) (nI_toInt (by omega)) (by omega) (by omega)) _ _ hT hF hS m664 ls (lv_sub hl [2, 3, 4, 5, 6] rfl)
        exact key645 (2147483647 - 0) 0 (by omega) (Nat.le_refl _) 0 _ _ hT hF hS m496 ls (lv_sub hl [0, 1, 2, 3, 4] rfl)
      · have t706 : ((i1 : Nat) : Int) < x497.toInt := ti_nle c498 rfl (nI_toInt (by omega))
        refine lv_aload_n hx hb dX0_giveFarms_10 rfl (lv_at hl 1 rfl) ?_
        refine lv_aload_n hx hb dX0_giveFarms_11 rfl (lv_at hl 1 rfl) ?_
        refine tw_get hx hb hts bF2_X0 hown hK hT hr_o0 shc_3 rfl 0 (by decide) (ht_at2 hts 4 rfl) (fun _ h9 => h9) dX0_giveFarms_12 (fun v9 m707 h9 => ?_)
        obtain ⟨b708, rfl, hg709⟩ := h9 _ rfl
        refine lv_iload_n hx hb dX0_giveFarms_15 rfl (lv_at hl 0 rfl) ?_
        refine tw_aald (i := (nI i1)) hx hb hK hT hg709 shc_51 rfl (vp_in_nI (by omega) (by decide)) dX0_giveFarms_16 (fun v9 m710 h9 => ?_)
        obtain ⟨b711, rfl, hg712⟩ := (h9.1 (by have q9 := tn_of (show (nI i1).toInt = ((i1 : Nat) : Int) from (nI_toInt (by omega))) (by omega); omega))
        refine lv_aload_n hx hb dX0_giveFarms_17 rfl (lv_at hl 3 rfl) ?_
        have hFc := gA_free hG hA hS
        refine va_callv (va_runV (As := [.ref b711, .ref p1]) (rest := []) ⟨hx, hb, hml, hown, hts⟩ (c_gatherFacts l dC dI kA adK adV G H nC nS o0 b711 p1 hT hg712 hr_p1 hr_o0 (by omega) (by omega)) (cwV 2 hts (goodIn_app (goodIn_r _ [58, 59, 60, 9] rfl (by decide +kernel)) (goodIn_ca (goodIn_r _ [25, 26, 27, 14, 28, 29, 30, 9, 31, 32, 33, 34, 35, 36, 37, 38, 39, 40, 41, 42, 43, 17, 44, 45, 46, 47, 48, 49, 50, 51, 52, 53, 54, 55, 56, 57] rfl (by decide +kernel)) (bs2_in _ _))) rfl rfl rfl (by decide +kernel) ⟨(Nat.le_of_ble_eq_true rfl), (Nat.le_of_ble_eq_true rfl)⟩) ⟨fun a U g mk q => by obtain ⟨q0, q1, qK, qE⟩ := q; exact ⟨q0, q1, va_K.moved (u := U) (U := U.calling g mk a) (Vm.Alike.refl U.vm) qK, EVC.blind g mk a qE⟩, gH_rc hK hT hr_o0 shc_3 rfl, fun U hU hW => ⟨rfl, hU, va_K.moved hW.alike hK, hE.call hS hFc hU hW⟩⟩ rfl rfl hl.1 rfl (lv_room (Nat.le_of_ble_eq_true rfl)) dX0_giveFarms_18 ⟨(Nat.le_of_ble_eq_true rfl), (Nat.le_of_ble_eq_true rfl)⟩) hS (fun q _ h => hFc q h) hFc (fun u t H locs ht hvm hw714 hB _ _ hS => ?_)
        obtain ⟨hT, hF1⟩ := hB
        rw [ht] at hT hF1
        have m715 := (hF1.fld hr_o0 skc_3 (k := 14) (by decide) (by decide)).trans m496
        have m716 := (hF1.fld hr_o0 skc_3 (k := 0) (by decide) (by decide)).trans m707
        have m717 := (el_kept (hF1.arr hg709 skc_51 (by decide))).trans m710
        have hF := hF.more hF1 (by decide)
        try dsimp only at hw714
        refine lv_aload_n hx hb dX0_giveFarms_21 rfl (lv_at hl 1 rfl) ?_
        refine tw_getM (v := .ref b708) hx hb hts bF2_X0 hown hK hT hr_o0 shc_3 rfl 0 (by decide) (ht_at2 hts 4 rfl) (fun _ h9 => h9) m716 dX0_giveFarms_22 ?_
        refine lv_iload_n hx hb dX0_giveFarms_25 rfl (lv_at hl 0 rfl) ?_
        refine tw_aald (i := (nI i1)) hx hb hK hT hg709 shc_51 rfl (vp_in_nI (by omega) (by decide)) dX0_giveFarms_26 (fun v9 m718 h9 => ?_)
        obtain ⟨b719, rfl, hg720⟩ := (h9.1 (by have q9 := tn_of (show (nI i1).toInt = ((i1 : Nat) : Int) from (nI_toInt (by omega))) (by omega); omega))
        obtain rfl : b711 = b719 := (el_sameR m718 m717 (show (nI i1).toInt = (nI i1).toInt from by have q9 := (show (nI i1).toInt = ((i1 : Nat) : Int) from (nI_toInt (by omega))); have q8 := (show (nI i1).toInt = ((i1 : Nat) : Int) from (nI_toInt (by omega))); omega)).symm
        refine tw_getN hx hb hts bF2_X7 hown hK hT hg712 shc_10 rfl 7 (by decide) (hE.nw 61 rfl) (fun _ h9 => h9) dX0_giveFarms_27 (fun v9 m721 h9 => ?_)
        obtain ⟨x722, rfl, gx722, kx722⟩ := h9 _ rfl
        refine lv_iconst (v := (-1)) hx hb dX0_giveFarms_30 (by decide) ?_
        have jn739 : ∀ (z733 : Int32), ((0 ≤ z733.toInt ∧ z733.toInt ≤ 1)) → ∀ (H : Heap) (locs : List Loc), gH (dC, dI) kA (SHc nC nS) G H → gF (dC, dI) SKc G ([(3, 15), (10, 7), (50, 0), (54, 0), (56, 0), (57, 0)] : List (Nat × Nat)) s.heap H → va_S A s.heap H locs → el H o0 (dI 3 14) = some (.int x497) → el H o0 (dI 3 0) = some (.ref b708) → el H b708 (nI i1).toNatClampNeg = some (.ref b711) → el H b711 (dI 10 7) = some (.int x722) → ∀ ls : Array Slot, lv_has ls 7 [(3, .int (nI i1)), (0, .ref o0), (1, .int p0), (2, .ref p1)] → W p l e (headSpec w_c_giveFarms ({ frames := 5, cells := 0, slots := 0, locals := 135 })).room s m #[.ref o0, .int p0, .ref p1] below meth c H locs 0 0 (MQ below (va_Qi (fun (r : Int32) (u : Unit) => True) (fun (_ : Unit) (t : State) => gH (dC, dI) kA (SHc nC nS) G t.heap ∧ gF (dC, dI) SKc G ([(3, 15), (10, 7), (50, 0), (54, 0), (56, 0), (57, 0)] : List (Nat × Nat)) s.heap t.heap) A) #[.ref o0, .int p0, .ref p1] s 0 0 A) (F0 m 48 ls [.int z733]) := by
          intro z733 h734 H locs hT hF hS m735 m736 m737 m738 ls hl
          refine lv_istore (lv' := [(4, .int z733), (3, .int (nI i1)), (0, .ref o0), (1, .int p0), (2, .ref p1)]) hx hb dX0_giveFarms_48 hl (by decide) rfl (fun ls hl => ?_)
          refine lv_aload_n hx hb dX0_giveFarms_50 rfl (lv_at hl 2 rfl) ?_
          refine tw_get hx hb hts bF2_X0 hown hK hT hr_o0 shc_3 rfl 6 (by decide) (ht_at2 hts 3 rfl) (fun _ h9 => h9) dX0_giveFarms_51 (fun v9 m740 h9 => ?_)
          obtain ⟨b741, rfl, hg742⟩ := h9 _ rfl
          refine lv_iload_n hx hb dX0_giveFarms_54 rfl (lv_at hl 1 rfl) ?_
          refine lv_iload hx hb dX0_giveFarms_55 (lv_at hl 0 rfl) ?_
          refine lv_if_eq (tgt := 68) hx hb dX0_giveFarms_57 (by decide) (fun c743 => ?_) (fun c743 => ?_)
          · have t744 : z733.toInt = 0 := ti_eq c743 rfl (by decide)
            refine lv_iconst (v := (-1)) hx hb dX0_giveFarms_68 (by decide) ?_
            refine tw_iast (i := (nI i1)) (x := (-1)) hx hb hK hT hG hS hg742 shc_57 rfl (vp_in_nI (by omega) (by decide)) (gi_all _) dX0_giveFarms_69 (fun H locs hT oq m745 oi hS => ?_)
            have hF := hF.ast hg742 skc_57 oq (by decide)
            refine lv_iinc (v := nI (i1 + 1)) (lv' := [(3, .int (nI (i1 + 1))), (4, .int z733), (0, .ref o0), (1, .int p0), (2, .ref p1)]) hx hb dX0_giveFarms_70 hl (k := 1) rfl (nI_add i1 1) (by decide) rfl (fun ls hl => ?_)
            refine lv_goto (tgt := 2) hx hb dX0_giveFarms_73 (by decide) ?_
            exact ih284 (i1 + 1) (by omega) (by omega) _ _ hT hF hS ls (lv_sub hl [0, 2, 3, 4] rfl)
          · have t751 : z733.toInt ≠ 0 := ti_ne c743 rfl (by decide)
            refine lv_aload_n hx hb dX0_giveFarms_60 rfl (lv_at hl 2 rfl) ?_
            refine lv_iconst (v := 4) hx hb dX0_giveFarms_61 (by decide) ?_
            have hFc := gA_free hG hA hS
            refine va_calli (va_runV (As := [.int 4]) (rest := [.int (nI i1), .ref b741]) ⟨hx, hb, hml, hown, hts⟩ (c_ruled l dC dI kA adK adV G H nC nS o0 4 hT hr_o0 (by omega) (by omega)) (cwV 1 hts (goodIn_app (goodIn_r _ [93, 94, 95, 9] rfl (by decide +kernel)) (goodIn_ca (goodIn_r _ [87, 62, 26, 88, 64, 65, 66, 67, 68, 69, 70, 71, 72, 73, 17, 74, 75, 76, 77, 78, 79, 80, 89, 90, 91, 92] rfl (by decide +kernel)) (bs2_in _ _))) rfl rfl rfl (by decide +kernel) ⟨(Nat.le_of_ble_eq_true rfl), (Nat.le_of_ble_eq_true rfl)⟩) ⟨fun a U g mk q => by obtain ⟨q0, q1, qK, qE⟩ := q; exact ⟨q0, q1, va_K.moved (u := U) (U := U.calling g mk a) (Vm.Alike.refl U.vm) qK, EVC.blind g mk a qE⟩, gH_rc hK hT hr_o0 shc_3 rfl, fun U hU hW => ⟨rfl, hU, va_K.moved hW.alike hK, hE.call hS hFc hU hW⟩⟩ rfl rfl hl.1 rfl (lv_room (Nat.le_of_ble_eq_true rfl)) dX0_giveFarms_62 ⟨(Nat.le_of_ble_eq_true rfl), (Nat.le_of_ble_eq_true rfl)⟩) hS (fun q _ h => hFc q h) hFc (fun r752 u t H locs ht hvm hw753 hB _ _ hS => ?_)
            obtain ⟨hT, hF1⟩ := hB
            rw [ht] at hT hF1
            have hF := hF.more hF1 (by decide)
            try dsimp only at hw753
            refine lv_goto (tgt := 69) hx hb dX0_giveFarms_65 (by decide) ?_
            refine tw_iast (i := (nI i1)) (x := r752) hx hb hK hT hG hS hg742 shc_57 rfl (vp_in_nI (by omega) (by decide)) (gi_all _) dX0_giveFarms_69 (fun H locs hT oq m759 oi hS => ?_)
            have hF := hF.ast hg742 skc_57 oq (by decide)
            refine lv_iinc (v := nI (i1 + 1)) (lv' := [(3, .int (nI (i1 + 1))), (4, .int z733), (0, .ref o0), (1, .int p0), (2, .ref p1)]) hx hb dX0_giveFarms_70 hl (k := 1) rfl (nI_add i1 1) (by decide) rfl (fun ls hl => ?_)
            refine lv_goto (tgt := 2) hx hb dX0_giveFarms_73 (by decide) ?_
            exact ih284 (i1 + 1) (by omega) (by omega) _ _ hT hF hS ls (lv_sub hl [0, 2, 3, 4] rfl)
        refine lv_icmp_ne (tgt := 47) hx hb dX0_giveFarms_31 (by decide) (fun c765 => ?_) (fun c765 => ?_)
        · have t766 : x722.toInt ≠ (-1) := ti_ne c765 rfl (by decide)
          refine lv_iconst (v := 0) hx hb dX0_giveFarms_47 (by decide) ?_
          exact jn739 0 (rg_t (a := 0) (by decide) (by first | decide | omega) (by first | decide | omega)) _ _ hT hF hS m715 m716 m717 m721 ls (lv_sub hl [0, 1, 2, 3] rfl)
        · have t767 : x722.toInt = (-1) := ti_eq c765 rfl (by decide)
          refine lv_aload_n hx hb dX0_giveFarms_34 rfl (lv_at hl 1 rfl) ?_
          refine lv_bipush (v := 6) hx hb dX0_giveFarms_35 (by decide) ?_
          have hFc := gA_free hG hA hS
          refine va_calli (va_runV (As := [.int 6]) (rest := []) ⟨hx, hb, hml, hown, hts⟩ (c_isRuled l dC dI kA adK adV G H nC nS o0 6 hT hr_o0 (by omega) (by omega)) (cwV 1 hts (goodIn_app (goodIn_r _ [84, 85, 86, 9] rfl (by decide +kernel)) (goodIn_ca (goodIn_r _ [61, 62, 26, 63, 64, 65, 66, 67, 68, 69, 70, 71, 72, 73, 17, 74, 75, 76, 77, 78, 79, 80, 81, 82, 83] rfl (by decide +kernel)) (bs2_in _ _))) rfl rfl rfl (by decide +kernel) ⟨(Nat.le_of_ble_eq_true rfl), (Nat.le_of_ble_eq_true rfl)⟩) ⟨fun a U g mk q => by obtain ⟨q0, q1, qK, qE⟩ := q; exact ⟨q0, q1, va_K.moved (u := U) (U := U.calling g mk a) (Vm.Alike.refl U.vm) qK, EVC.blind g mk a qE⟩, gH_rc hK hT hr_o0 shc_3 rfl, fun U hU hW => ⟨rfl, hU, va_K.moved hW.alike hK, hE.call hS hFc hU hW⟩⟩ rfl rfl hl.1 rfl (lv_room (Nat.le_of_ble_eq_true rfl)) dX0_giveFarms_37 ⟨(Nat.le_of_ble_eq_true rfl), (Nat.le_of_ble_eq_true rfl)⟩) hS (fun q _ h => hFc q h) hFc (fun r768 u t H locs ht hvm hw769 hB _ _ hS => ?_)
          obtain ⟨hT, hF1⟩ := hB
          rw [ht] at hT hF1
          have m770 := (hF1.fld hr_o0 skc_3 (k := 14) (by decide) (by decide)).trans m715
          have m771 := (hF1.fld hr_o0 skc_3 (k := 0) (by decide) (by decide)).trans m716
          have m772 := (el_kept (hF1.arr hg709 skc_51 (by decide))).trans m717
          have m773 := (hF1.fld hg712 skc_10 (k := 7) (by decide) (by decide)).trans m721
          have hF := hF.more hF1 (by decide)
          try dsimp only at hw769
          have h774 := hw769
          refine lv_if_ne (tgt := 47) hx hb dX0_giveFarms_40 (by decide) (fun c775 => ?_) (fun c775 => ?_)
          · have t776 : r768.toInt ≠ 0 := ti_ne c775 rfl (by decide)
            refine lv_iconst (v := 0) hx hb dX0_giveFarms_47 (by decide) ?_
            exact jn739 0 (rg_t (a := 0) (by decide) (by first | decide | omega) (by first | decide | omega)) _ _ hT hF hS m770 m771 m772 m773 ls (lv_sub hl [0, 1, 2, 3] rfl)
          · have t777 : r768.toInt = 0 := ti_eq c775 rfl (by decide)
            refine lv_iconst (v := 1) hx hb dX0_giveFarms_43 (by decide) ?_
            refine lv_goto (tgt := 48) hx hb dX0_giveFarms_44 (by decide) ?_
            exact jn739 1 (rg_t (a := 1) (by decide) (by first | decide | omega) (by first | decide | omega)) _ _ hT hF hS m770 m771 m772 m773 ls (lv_sub hl [0, 1, 2, 3] rfl)
  exact key284 (60 - 0) 0 (by omega) (Nat.le_refl _) _ _ hT hF hS ls (lv_sub hl [0, 1, 2, 3] rfl)
def w_c_broughtBy : List Cond := .code yX0_broughtBy cX0_broughtBy 6 (some .int) :: (HAppend.hAppend (α := List Cond) (β := List Cond) (γ := List Cond) [] bs2)
set_option maxHeartbeats 4000000 in
set_option maxRecDepth 100000 in
theorem c_broughtBy (l : Launch) (dC : Nat → ClassId) (dI : Nat → Nat → Nat) (kA : Nat → ClassId) (adK adV : Nat → Nat) (G : gT) (H0 : Heap) (nC nS : Int) (p0 : Int32) (p1 : Int32) (p2 : Int32)  (hT : gH (dC, dI) kA (SHc nC nS) G H0) (hgC : 0 ≤ nC ∧ nC ≤ 40) (hgS : 0 ≤ nS ∧ nS ≤ 60) : Met l yX0_broughtBy w_c_broughtBy ({ frames := 0, cells := 0, slots := 0, locals := 0 }) (va_Pc [.int p0, .int p1, .int p2] (fun U => U.heap = H0 ∧ va_K (dC, dI) vwCl (tyl kA) U ∧ EVC adK adV (gA G H0.size) U U.heap)) (va_Qi (fun (r : Int32) (u : Unit) => (0 ≤ r.toInt ∧ r.toInt ≤ 50)) (fun (_ : Unit) (t : State) => gH (dC, dI) kA (SHc nC nS) G t.heap ∧ gF (dC, dI) SKc G ([] : List (Nat × Nat)) H0 t.heap) (gA G H0.size)) 0 0 (gA G H0.size) := by
  refine Met.ofW (cc := cX0_broughtBy) (maxL := 6) (ret := (some .int)) (by decide) rfl ?_
  intro p e s m args below meth c s₁ B hml hv
  obtain ⟨rfl, hH0, hK, hE⟩ := hv
  have hx := B.exec
  have hb := B.bytes
  have hr := B.returns
  have hts := atoms_spec (ws := w_c_broughtBy) B.pre
  have hown : s.vm.findClass RX0 = some m.cls := findClass_of_methodNamed B.named
  have hlocks := B.notSynchronized
  subst hH0
  generalize hAe : gA G s.heap.size = A at hE ⊢
  have hA : ∀ q : Nat, s.heap.size ≤ q → A q := fun q h => by rw [← hAe]; exact Or.inr h
  have hG := gA_of hAe
  have hS : va_S A s.heap s.heap [] := va_S.rf
  have hF : gF (dC, dI) SKc G ([] : List (Nat × Nat)) s.heap s.heap := gF.rf
  have hl := lv_entry ([.int p0, .int p1, .int p2]) (n := 6) (Nat.le_of_ble_eq_true rfl)
  rw [lg_entry_eq]
  generalize (lg_sl ([.int p0, .int p1, .int p2]) ++ List.replicate (6 - (lg_sl ([.int p0, .int p1, .int p2])).length) Slot.unset).toArray = ls at hl ⊢
  have hl : lv_has ls 6 [(0, .int p0), (1, .int p1), (2, .int p2)] := hl
  refine lv_iload_n hx hb dX0_broughtBy_0 rfl (lv_at hl 0 rfl) ?_
  have t1 : -2147483648 ≤ p0.toInt ∧ p0.toInt ≤ 2147483647 := ti_all p0
  refine lv_if_ne (tgt := 6) hx hb dX0_broughtBy_1 (by decide) (fun c2 => ?_) (fun c2 => ?_)
  · have t3 : p0.toInt ≠ 0 := ti_ne c2 rfl (by decide)
    refine lv_iload_n hx hb dX0_broughtBy_6 rfl (lv_at hl 0 rfl) ?_
    refine lv_iconst (v := 1) hx hb dX0_broughtBy_7 (by decide) ?_
    have jn9 : ∀ (z7 : Int32), ((20 ≤ z7.toInt ∧ z7.toInt ≤ 50)) → ∀ (H : Heap) (locs : List Loc), gH (dC, dI) kA (SHc nC nS) G H → gF (dC, dI) SKc G ([] : List (Nat × Nat)) s.heap H → va_S A s.heap H locs → ∀ ls : Array Slot, lv_has ls 6 [(0, .int p0), (1, .int p1), (2, .int p2)] → W p l e (headSpec w_c_broughtBy ({ frames := 0, cells := 0, slots := 0, locals := 0 })).room s m #[.int p0, .int p1, .int p2] below meth c H locs 0 0 (MQ below (va_Qi (fun (r : Int32) (u : Unit) => (0 ≤ r.toInt ∧ r.toInt ≤ 50)) (fun (_ : Unit) (t : State) => gH (dC, dI) kA (SHc nC nS) G t.heap ∧ gF (dC, dI) SKc G ([] : List (Nat × Nat)) s.heap t.heap) A) #[.int p0, .int p1, .int p2] s 0 0 A) (F0 m 28 ls [.int z7]) := by
      intro z7 h8 H locs hT hF hS  ls hl
      refine lv_istore_n (lv' := [(3, .int z7), (0, .int p0), (1, .int p1), (2, .int p2)]) hx hb dX0_broughtBy_28 rfl hl (by decide) rfl (fun ls hl => ?_)
      refine lv_iload_n hx hb dX0_broughtBy_29 rfl (lv_at hl 2 rfl) ?_
      refine lv_iload_n hx hb dX0_broughtBy_30 rfl (lv_at hl 1 rfl) ?_
      refine lv_iconst (v := 1) hx hb dX0_broughtBy_31 (by decide) ?_
      have jn15 : ∀ (z13 : Int32), ((10 ≤ z13.toInt ∧ z13.toInt ≤ 60)) → ∀ (H : Heap) (locs : List Loc), gH (dC, dI) kA (SHc nC nS) G H → gF (dC, dI) SKc G ([] : List (Nat × Nat)) s.heap H → va_S A s.heap H locs → ∀ ls : Array Slot, lv_has ls 6 [(3, .int z7), (0, .int p0), (1, .int p1), (2, .int p2)] → W p l e (headSpec w_c_broughtBy ({ frames := 0, cells := 0, slots := 0, locals := 0 })).room s m #[.int p0, .int p1, .int p2] below meth c H locs 0 0 (MQ below (va_Qi (fun (r : Int32) (u : Unit) => (0 ≤ r.toInt ∧ r.toInt ≤ 50)) (fun (_ : Unit) (t : State) => gH (dC, dI) kA (SHc nC nS) G t.heap ∧ gF (dC, dI) SKc G ([] : List (Nat × Nat)) s.heap t.heap) A) #[.int p0, .int p1, .int p2] s 0 0 A) (F0 m 52 ls [.int z13, .int p1]) := by
        intro z13 h14 H locs hT hF hS  ls hl
        have jn18 : ∀ (z16 : Int32), ((0 ≤ z16.toInt ∧ z16.toInt ≤ 1)) → ∀ (H : Heap) (locs : List Loc), gH (dC, dI) kA (SHc nC nS) G H → gF (dC, dI) SKc G ([] : List (Nat × Nat)) s.heap H → va_S A s.heap H locs → ∀ ls : Array Slot, lv_has ls 6 [(3, .int z7), (0, .int p0), (1, .int p1), (2, .int p2)] → W p l e (headSpec w_c_broughtBy ({ frames := 0, cells := 0, slots := 0, locals := 0 })).room s m #[.int p0, .int p1, .int p2] below meth c H locs 0 0 (MQ below (va_Qi (fun (r : Int32) (u : Unit) => (0 ≤ r.toInt ∧ r.toInt ≤ 50)) (fun (_ : Unit) (t : State) => gH (dC, dI) kA (SHc nC nS) G t.heap ∧ gF (dC, dI) SKc G ([] : List (Nat × Nat)) s.heap t.heap) A) #[.int p0, .int p1, .int p2] s 0 0 A) (F0 m 60 ls [.int z16]) := by
          intro z16 h17 H locs hT hF hS  ls hl
          refine lv_istore (lv' := [(4, .int z16), (3, .int z7), (0, .int p0), (1, .int p1), (2, .int p2)]) hx hb dX0_broughtBy_60 hl (by decide) rfl (fun ls hl => ?_)
          refine lv_iload_n hx hb dX0_broughtBy_62 rfl (lv_at hl 4 rfl) ?_
          refine lv_iload_n hx hb dX0_broughtBy_63 rfl (lv_at hl 2 rfl) ?_
          refine lv_iconst (v := 1) hx hb dX0_broughtBy_64 (by decide) ?_
          have jn24 : ∀ (z22 : Int32), ((2000 ≤ z22.toInt ∧ z22.toInt ≤ 8000)) → ∀ (H : Heap) (locs : List Loc), gH (dC, dI) kA (SHc nC nS) G H → gF (dC, dI) SKc G ([] : List (Nat × Nat)) s.heap H → va_S A s.heap H locs → ∀ ls : Array Slot, lv_has ls 6 [(4, .int z16), (3, .int z7), (0, .int p0), (1, .int p1), (2, .int p2)] → W p l e (headSpec w_c_broughtBy ({ frames := 0, cells := 0, slots := 0, locals := 0 })).room s m #[.int p0, .int p1, .int p2] below meth c H locs 0 0 (MQ below (va_Qi (fun (r : Int32) (u : Unit) => (0 ≤ r.toInt ∧ r.toInt ≤ 50)) (fun (_ : Unit) (t : State) => gH (dC, dI) kA (SHc nC nS) G t.heap ∧ gF (dC, dI) SKc G ([] : List (Nat × Nat)) s.heap t.heap) A) #[.int p0, .int p1, .int p2] s 0 0 A) (F0 m 88 ls [.int z22, .int p2]) := by
            intro z22 h23 H locs hT hF hS  ls hl
            have jn27 : ∀ (z25 : Int32), ((0 ≤ z25.toInt ∧ z25.toInt ≤ 1)) → ∀ (H : Heap) (locs : List Loc), gH (dC, dI) kA (SHc nC nS) G H → gF (dC, dI) SKc G ([] : List (Nat × Nat)) s.heap H → va_S A s.heap H locs → ∀ ls : Array Slot, lv_has ls 6 [(4, .int z16), (3, .int z7), (0, .int p0), (1, .int p1), (2, .int p2)] → W p l e (headSpec w_c_broughtBy ({ frames := 0, cells := 0, slots := 0, locals := 0 })).room s m #[.int p0, .int p1, .int p2] below meth c H locs 0 0 (MQ below (va_Qi (fun (r : Int32) (u : Unit) => (0 ≤ r.toInt ∧ r.toInt ≤ 50)) (fun (_ : Unit) (t : State) => gH (dC, dI) kA (SHc nC nS) G t.heap ∧ gF (dC, dI) SKc G ([] : List (Nat × Nat)) s.heap t.heap) A) #[.int p0, .int p1, .int p2] s 0 0 A) (F0 m 96 ls [.int z25]) := by
              intro z25 h26 H locs hT hF hS  ls hl
              refine lv_istore (lv' := [(5, .int z25), (4, .int z16), (3, .int z7), (0, .int p0), (1, .int p1), (2, .int p2)]) hx hb dX0_broughtBy_96 hl (by decide) rfl (fun ls hl => ?_)
              refine lv_iload hx hb dX0_broughtBy_98 (lv_at hl 1 rfl) ?_
              refine lv_if_eq (tgt := 110) hx hb dX0_broughtBy_100 (by decide) (fun c28 => ?_) (fun c28 => ?_)
              · have t29 : z16.toInt = 0 := ti_eq c28 rfl (by decide)
                refine lv_iload hx hb dX0_broughtBy_110 (lv_at hl 1 rfl) ?_
                refine lv_if_ne (tgt := 120) hx hb dX0_broughtBy_112 (by decide) (fun c30 => (by exfalso; have q9 : z16.toInt ≠ 0 := ti_ne c30 rfl (by decide); omega)) (fun c30 => ?_)
                have t31 : z16.toInt = 0 := ti_eq c30 rfl (by decide)
                refine lv_iload hx hb dX0_broughtBy_115 (lv_at hl 0 rfl) ?_
                refine lv_if_eq (tgt := 126) hx hb dX0_broughtBy_117 (by decide) (fun c32 => ?_) (fun c32 => ?_)
                · have t33 : z25.toInt = 0 := ti_eq c32 rfl (by decide)
                  refine lv_iconst (v := 0) hx hb dX0_broughtBy_126 (by decide) ?_
                  exact W.iret (v := 0) hx hb hr (fun t ht hW => ⟨⟨0, (), rfl, (by exact (rg_t (a := 0) (by decide) (by first | decide | omega) (by first | decide | omega))), by (try dsimp only); rw [ht]; exact ⟨hT, hF⟩⟩, hS.F ht⟩) hS.2.2 dX0_broughtBy_127
                · have t34 : z25.toInt ≠ 0 := ti_ne c32 rfl (by decide)
                  refine lv_iload_n hx hb dX0_broughtBy_120 rfl (lv_at hl 2 rfl) ?_
                  refine lv_iconst (v := 2) hx hb dX0_broughtBy_121 (by decide) ?_
                  refine lv_idiv hx hb dX0_broughtBy_122 (by decide) ?_
                  refine lv_topi (fun x35 ex35 => ?_)
                  have t36 : x35.toInt = z7.toInt / 2 := ti_div ex35 rfl (by decide) (by omega) (by omega)
                  refine lv_goto (tgt := 127) hx hb dX0_broughtBy_123 (by decide) ?_
                  exact W.iret (v := x35) hx hb hr (fun t ht hW => ⟨⟨x35, (), rfl, (by exact (by have q8 := ti_all x35; omega)), by (try dsimp only); rw [ht]; exact ⟨hT, hF⟩⟩, hS.F ht⟩) hS.2.2 dX0_broughtBy_127
              · have t37 : z16.toInt ≠ 0 := ti_ne c28 rfl (by decide)
                refine lv_iload hx hb dX0_broughtBy_103 (lv_at hl 0 rfl) ?_
                refine lv_if_eq (tgt := 110) hx hb dX0_broughtBy_105 (by decide) (fun c38 => ?_) (fun c38 => ?_)
                · have t39 : z25.toInt = 0 := ti_eq c38 rfl (by decide)
                  refine lv_iload hx hb dX0_broughtBy_110 (lv_at hl 1 rfl) ?_
                  refine lv_if_ne (tgt := 120) hx hb dX0_broughtBy_112 (by decide) (fun c40 => ?_) (fun c40 => (by exfalso; have q9 : z16.toInt = 0 := ti_eq c40 rfl (by decide); omega))
                  have t41 : z16.toInt ≠ 0 := ti_ne c40 rfl (by decide)
                  refine lv_iload_n hx hb dX0_broughtBy_120 rfl (lv_at hl 2 rfl) ?_
                  refine lv_iconst (v := 2) hx hb dX0_broughtBy_121 (by decide) ?_
                  refine lv_idiv hx hb dX0_broughtBy_122 (by decide) ?_
                  refine lv_topi (fun x42 ex42 => ?_)
                  have t43 : x42.toInt = z7.toInt / 2 := ti_div ex42 rfl (by decide) (by omega) (by omega)
                  refine lv_goto (tgt := 127) hx hb dX0_broughtBy_123 (by decide) ?_
                  exact W.iret (v := x42) hx hb hr (fun t ht hW => ⟨⟨x42, (), rfl, (by exact (by have q8 := ti_all x42; omega)), by (try dsimp only); rw [ht]; exact ⟨hT, hF⟩⟩, hS.F ht⟩) hS.2.2 dX0_broughtBy_127
                · have t44 : z25.toInt ≠ 0 := ti_ne c38 rfl (by decide)
                  refine lv_iload_n hx hb dX0_broughtBy_108 rfl (lv_at hl 2 rfl) ?_
                  exact W.iret (v := z7) hx hb hr (fun t ht hW => ⟨⟨z7, (), rfl, (by exact (by have q8 := ti_all z7; omega)), by (try dsimp only); rw [ht]; exact ⟨hT, hF⟩⟩, hS.F ht⟩) hS.2.2 dX0_broughtBy_109
            have t45 : -2147483648 ≤ p2.toInt ∧ p2.toInt ≤ 2147483647 := ti_all p2
            refine lv_icmp_gt (tgt := 95) hx hb dX0_broughtBy_88 (by decide) (fun c46 => ?_) (fun c46 => ?_)
            · have t47 : z22.toInt < p2.toInt := ti_lt c46 rfl rfl
              refine lv_iconst (v := 0) hx hb dX0_broughtBy_95 (by decide) ?_
              exact jn27 0 (rg_t (a := 0) (by decide) (by first | decide | omega) (by first | decide | omega)) _ _ hT hF hS ls (lv_sub hl [0, 1, 2, 3, 4] rfl)
            · have t48 : p2.toInt ≤ z22.toInt := ti_nlt c46 rfl rfl
              refine lv_iconst (v := 1) hx hb dX0_broughtBy_91 (by decide) ?_
              refine lv_goto (tgt := 96) hx hb dX0_broughtBy_92 (by decide) ?_
              exact jn27 1 (rg_t (a := 1) (by decide) (by first | decide | omega) (by first | decide | omega)) _ _ hT hF hS ls (lv_sub hl [0, 1, 2, 3, 4] rfl)
          refine lv_icmp_ne (tgt := 74) hx hb dX0_broughtBy_65 (by decide) (fun c49 => ?_) (fun c49 => ?_)
          · have t50 : p0.toInt ≠ 1 := ti_ne c49 rfl (by decide)
            refine lv_iload_n hx hb dX0_broughtBy_74 rfl (lv_at hl 2 rfl) ?_
            refine lv_iconst (v := 2) hx hb dX0_broughtBy_75 (by decide) ?_
            refine lv_icmp_ne (tgt := 85) hx hb dX0_broughtBy_76 (by decide) (fun c51 => ?_) (fun c51 => ?_)
            · have t52 : p0.toInt ≠ 2 := ti_ne c51 rfl (by decide)
              refine lv_sipush (v := 8000) hx hb dX0_broughtBy_85 (by decide) ?_
              exact jn24 8000 (rg_t (a := 8000) (by decide) (by first | decide | omega) (by first | decide | omega)) _ _ hT hF hS ls (lv_sub hl [0, 1, 2, 3, 4] rfl)
            · have t53 : p0.toInt = 2 := ti_eq c51 rfl (by decide)
              refine lv_sipush (v := 2000) hx hb dX0_broughtBy_79 (by decide) ?_
              refine lv_goto (tgt := 88) hx hb dX0_broughtBy_82 (by decide) ?_
              exact jn24 2000 (rg_t (a := 2000) (by decide) (by first | decide | omega) (by first | decide | omega)) _ _ hT hF hS ls (lv_sub hl [0, 1, 2, 3, 4] rfl)
          · have t54 : p0.toInt = 1 := ti_eq c49 rfl (by decide)
            refine lv_sipush (v := 4000) hx hb dX0_broughtBy_68 (by decide) ?_
            refine lv_goto (tgt := 88) hx hb dX0_broughtBy_71 (by decide) ?_
            exact jn24 4000 (rg_t (a := 4000) (by decide) (by first | decide | omega) (by first | decide | omega)) _ _ hT hF hS ls (lv_sub hl [0, 1, 2, 3, 4] rfl)
        have t55 : -2147483648 ≤ p1.toInt ∧ p1.toInt ≤ 2147483647 := ti_all p1
        refine lv_icmp_gt (tgt := 59) hx hb dX0_broughtBy_52 (by decide) (fun c56 => ?_) (fun c56 => ?_)
        · have t57 : z13.toInt < p1.toInt := ti_lt c56 rfl rfl
          refine lv_iconst (v := 0) hx hb dX0_broughtBy_59 (by decide) ?_
          exact jn18 0 (rg_t (a := 0) (by decide) (by first | decide | omega) (by first | decide | omega)) _ _ hT hF hS ls (lv_sub hl [0, 1, 2, 3] rfl)
        · have t58 : p1.toInt ≤ z13.toInt := ti_nlt c56 rfl rfl
          refine lv_iconst (v := 1) hx hb dX0_broughtBy_55 (by decide) ?_
          refine lv_goto (tgt := 60) hx hb dX0_broughtBy_56 (by decide) ?_
          exact jn18 1 (rg_t (a := 1) (by decide) (by first | decide | omega) (by first | decide | omega)) _ _ hT hF hS ls (lv_sub hl [0, 1, 2, 3] rfl)
      refine lv_icmp_ne (tgt := 40) hx hb dX0_broughtBy_32 (by decide) (fun c59 => ?_) (fun c59 => ?_)
      · have t60 : p0.toInt ≠ 1 := ti_ne c59 rfl (by decide)
        refine lv_iload_n hx hb dX0_broughtBy_40 rfl (lv_at hl 1 rfl) ?_
        refine lv_iconst (v := 2) hx hb dX0_broughtBy_41 (by decide) ?_
        refine lv_icmp_ne (tgt := 50) hx hb dX0_broughtBy_42 (by decide) (fun c61 => ?_) (fun c61 => ?_)
        · have t62 : p0.toInt ≠ 2 := ti_ne c61 rfl (by decide)
          refine lv_bipush (v := 10) hx hb dX0_broughtBy_50 (by decide) ?_
          exact jn15 10 (rg_t (a := 10) (by decide) (by first | decide | omega) (by first | decide | omega)) _ _ hT hF hS ls (lv_sub hl [0, 1, 2, 3] rfl)
        · have t63 : p0.toInt = 2 := ti_eq c61 rfl (by decide)
          refine lv_bipush (v := 20) hx hb dX0_broughtBy_45 (by decide) ?_
          refine lv_goto (tgt := 52) hx hb dX0_broughtBy_47 (by decide) ?_
          exact jn15 20 (rg_t (a := 20) (by decide) (by first | decide | omega) (by first | decide | omega)) _ _ hT hF hS ls (lv_sub hl [0, 1, 2, 3] rfl)
      · have t64 : p0.toInt = 1 := ti_eq c59 rfl (by decide)
        refine lv_bipush (v := 60) hx hb dX0_broughtBy_35 (by decide) ?_
        refine lv_goto (tgt := 52) hx hb dX0_broughtBy_37 (by decide) ?_
        exact jn15 60 (rg_t (a := 60) (by decide) (by first | decide | omega) (by first | decide | omega)) _ _ hT hF hS ls (lv_sub hl [0, 1, 2, 3] rfl)
    refine lv_icmp_ne (tgt := 16) hx hb dX0_broughtBy_8 (by decide) (fun c65 => ?_) (fun c65 => ?_)
    · have t66 : p0.toInt ≠ 1 := ti_ne c65 rfl (by decide)
      refine lv_iload_n hx hb dX0_broughtBy_16 rfl (lv_at hl 0 rfl) ?_
      refine lv_iconst (v := 2) hx hb dX0_broughtBy_17 (by decide) ?_
      refine lv_icmp_ne (tgt := 26) hx hb dX0_broughtBy_18 (by decide) (fun c67 => ?_) (fun c67 => ?_)
      · have t68 : p0.toInt ≠ 2 := ti_ne c67 rfl (by decide)
        refine lv_bipush (v := 40) hx hb dX0_broughtBy_26 (by decide) ?_
        exact jn9 40 (rg_t (a := 40) (by decide) (by first | decide | omega) (by first | decide | omega)) _ _ hT hF hS ls (lv_sub hl [0, 1, 2] rfl)
      · have t69 : p0.toInt = 2 := ti_eq c67 rfl (by decide)
        refine lv_bipush (v := 50) hx hb dX0_broughtBy_21 (by decide) ?_
        refine lv_goto (tgt := 28) hx hb dX0_broughtBy_23 (by decide) ?_
        exact jn9 50 (rg_t (a := 50) (by decide) (by first | decide | omega) (by first | decide | omega)) _ _ hT hF hS ls (lv_sub hl [0, 1, 2] rfl)
    · have t70 : p0.toInt = 1 := ti_eq c65 rfl (by decide)
      refine lv_bipush (v := 20) hx hb dX0_broughtBy_11 (by decide) ?_
      refine lv_goto (tgt := 28) hx hb dX0_broughtBy_13 (by decide) ?_
      exact jn9 20 (rg_t (a := 20) (by decide) (by first | decide | omega) (by first | decide | omega)) _ _ hT hF hS ls (lv_sub hl [0, 1, 2] rfl)
  · have t71 : p0.toInt = 0 := ti_eq c2 rfl (by decide)
    refine lv_iconst (v := 0) hx hb dX0_broughtBy_4 (by decide) ?_
    exact W.iret (v := 0) hx hb hr (fun t ht hW => ⟨⟨0, (), rfl, (by exact (rg_t (a := 0) (by decide) (by first | decide | omega) (by first | decide | omega))), by (try dsimp only); rw [ht]; exact ⟨hT, hF⟩⟩, hS.F ht⟩) hS.2.2 dX0_broughtBy_5
def w_c_reapFor : List Cond := .code yX0_reapFor cX0_reapFor 5 (some .int) :: (HAppend.hAppend (α := List Cond) (β := List Cond) (γ := List Cond) [.fieldLink RX0 17 "SeaLand$Board" "farmOf" "[I", .fieldLink RX0 21 "SeaLand$Board" "crops" "[I", .code yX0_broughtBy cX0_broughtBy 6 (some .int), .methodLink RX0 211 yX0_broughtBy, .static yX0_broughtBy, .initialized RX0] bs2)
set_option maxHeartbeats 4000000 in
set_option maxRecDepth 100000 in
theorem c_reapFor (l : Launch) (dC : Nat → ClassId) (dI : Nat → Nat → Nat) (kA : Nat → ClassId) (adK adV : Nat → Nat) (G : gT) (H0 : Heap) (nC nS : Int) (o0 : Nat) (p0 : Nat) (p1 : Nat) (fm : Int32)  (hT : gH (dC, dI) kA (SHc nC nS) G H0) (hr_p0 : G p0 = some 10) (hr_p1 : G p1 = some 5) (hr_o0 : G o0 = some 3) (hm_fm : el H0 p0 (dI 10 7) = some (.int fm)) (hq0 : 0 ≤ fm.toInt ∧ fm.toInt ≤ 29) (hgC : 0 ≤ nC ∧ nC ≤ 40) (hgS : 0 ≤ nS ∧ nS ≤ 60) : Met l yX0_reapFor w_c_reapFor ({ frames := 1, cells := 0, slots := 0, locals := 25 }) (va_Pc [.ref o0, .ref p0, .ref p1] (fun U => U.heap = H0 ∧ va_K (dC, dI) vwCl (tyl kA) U ∧ EVC adK adV (gA G H0.size) U U.heap)) (va_Qi (fun (r : Int32) (u : Unit) => True) (fun (_ : Unit) (t : State) => gH (dC, dI) kA (SHc nC nS) G t.heap ∧ gF (dC, dI) SKc G ([(10, 6), (10, 8)] : List (Nat × Nat)) H0 t.heap) (gA G H0.size)) 0 0 (gA G H0.size) := by
  refine Met.ofW (cc := cX0_reapFor) (maxL := 5) (ret := (some .int)) (by decide) rfl ?_
  intro p e s m args below meth c s₁ B hml hv
  obtain ⟨rfl, hH0, hK, hE⟩ := hv
  have hx := B.exec
  have hb := B.bytes
  have hr := B.returns
  have hts := atoms_spec (ws := w_c_reapFor) B.pre
  have hown : s.vm.findClass RX0 = some m.cls := findClass_of_methodNamed B.named
  have hlocks := B.notSynchronized
  subst hH0
  generalize hAe : gA G s.heap.size = A at hE ⊢
  have hA : ∀ q : Nat, s.heap.size ≤ q → A q := fun q h => by rw [← hAe]; exact Or.inr h
  have hG := gA_of hAe
  have hS : va_S A s.heap s.heap [] := va_S.rf
  have hF : gF (dC, dI) SKc G ([(10, 6), (10, 8)] : List (Nat × Nat)) s.heap s.heap := gF.rf
  have hl := lv_entry ([.ref o0, .ref p0, .ref p1]) (n := 5) (Nat.le_of_ble_eq_true rfl)
  rw [lg_entry_eq]
  generalize (lg_sl ([.ref o0, .ref p0, .ref p1]) ++ List.replicate (5 - (lg_sl ([.ref o0, .ref p0, .ref p1])).length) Slot.unset).toArray = ls at hl ⊢
  have hl : lv_has ls 5 [(0, .ref o0), (1, .ref p0), (2, .ref p1)] := hl
  refine lv_iconst (v := 0) hx hb dX0_reapFor_0 (by decide) ?_
  refine lv_istore_n (lv' := [(3, .int 0), (0, .ref o0), (1, .ref p0), (2, .ref p1)]) hx hb dX0_reapFor_1 rfl hl (by decide) rfl (fun ls hl => ?_)
  refine lv_iconst (v := 0) hx hb dX0_reapFor_2 (by decide) ?_
  refine lv_istore (lv' := [(4, .int 0), (3, .int 0), (0, .ref o0), (1, .ref p0), (2, .ref p1)]) hx hb dX0_reapFor_3 hl (by decide) rfl (fun ls hl => ?_)
  have jn86 : ∀ (z84 : Int32), ∀ (H : Heap) (locs : List Loc), gH (dC, dI) kA (SHc nC nS) G H → gF (dC, dI) SKc G ([(10, 6), (10, 8)] : List (Nat × Nat)) s.heap H → va_S A s.heap H locs → el H p0 (dI 10 7) = some (.int fm) → ∀ ls : Array Slot, lv_has ls 5 [(4, .int (nI 96)), (3, .int z84), (0, .ref o0), (1, .ref p0), (2, .ref p1)] → W p l e (headSpec w_c_reapFor ({ frames := 1, cells := 0, slots := 0, locals := 25 })).room s m #[.ref o0, .ref p0, .ref p1] below meth c H locs 0 0 (MQ below (va_Qi (fun (r : Int32) (u : Unit) => True) (fun (_ : Unit) (t : State) => gH (dC, dI) kA (SHc nC nS) G t.heap ∧ gF (dC, dI) SKc G ([(10, 6), (10, 8)] : List (Nat × Nat)) s.heap t.heap) A) #[.ref o0, .ref p0, .ref p1] s 0 0 A) (F0 m 61 ls []) := by
    intro z84 H locs hT hF hS m85 ls hl
    refine lv_aload_n hx hb dX0_reapFor_61 rfl (lv_at hl 3 rfl) ?_
    refine lv_iload_n hx hb dX0_reapFor_62 rfl (lv_at hl 1 rfl) ?_
    refine tw_putN (v := .int z84) (ty := .int) hx hb hts bF2_X7 tyX7 tyX7_ok nmX7 hown hK hT hG hS hr_p0 shc_10 rfl 8 (by decide) (hE.nw 62 rfl) (fun _ h9 => h9) rfl (by decide +kernel) rfl rfl (gl_at rfl (gi_all _)) dX0_reapFor_63 (fun H locs hT oq m87 oj hS => ?_)
    have hF := hF.put hr_p0 skc_10 oq oj (by decide)
    refine lv_aload_n hx hb dX0_reapFor_66 rfl (lv_at hl 3 rfl) ?_
    refine lv_dup hx hb dX0_reapFor_67 rfl ?_
    refine tw_getN hx hb hts bF2_X7 hown hK hT hr_p0 shc_10 rfl 6 (by decide) (hE.nw 65 rfl) (fun _ h9 => h9) dX0_reapFor_68 (fun v9 m89 h9 => ?_)
    obtain ⟨x90, rfl, gx90, kx90⟩ := h9 _ rfl
    refine lv_iload_n hx hb dX0_reapFor_71 rfl (lv_at hl 1 rfl) ?_
    refine lv_iadd hx hb dX0_reapFor_72 ?_
    refine lv_topi (fun x91 ex91 => ?_)
    refine tw_putN (v := .int x91) (ty := .int) hx hb hts bF2_X7 tyX7 tyX7_ok nmX7 hown hK hT hG hS hr_p0 shc_10 rfl 6 (by decide) (hE.nw 65 rfl) (fun _ h9 => h9) rfl (by decide +kernel) rfl rfl (gl_at rfl (gi_all _)) dX0_reapFor_73 (fun H locs hT oq m92 oj hS => ?_)
    have hF := hF.put hr_p0 skc_10 oq oj (by decide)
    refine lv_iload_n hx hb dX0_reapFor_76 rfl (lv_at hl 1 rfl) ?_
    exact W.iret (v := z84) hx hb hr (fun t ht hW => ⟨⟨z84, (), rfl, (by exact trivial), by (try dsimp only); rw [ht]; exact ⟨hT, hF⟩⟩, hS.F ht⟩) hS.2.2 dX0_reapFor_77
  have key95 : ∀ (n95 i1 : Nat), i1 + n95 = 96 → 0 ≤ i1 → ∀ (z2 : Int32), ∀ (H : Heap) (locs : List Loc), gH (dC, dI) kA (SHc nC nS) G H → gF (dC, dI) SKc G ([(10, 6), (10, 8)] : List (Nat × Nat)) s.heap H → va_S A s.heap H locs → el H p0 (dI 10 7) = some (.int fm) → ∀ ls : Array Slot, lv_has ls 5 [(4, .int (nI i1)), (3, .int z2), (0, .ref o0), (1, .ref p0), (2, .ref p1)] → W p l e (headSpec w_c_reapFor ({ frames := 1, cells := 0, slots := 0, locals := 25 })).room s m #[.ref o0, .ref p0, .ref p1] below meth c H locs 0 0 (MQ below (va_Qi (fun (r : Int32) (u : Unit) => True) (fun (_ : Unit) (t : State) => gH (dC, dI) kA (SHc nC nS) G t.heap ∧ gF (dC, dI) SKc G ([(10, 6), (10, 8)] : List (Nat × Nat)) s.heap t.heap) A) #[.ref o0, .ref p0, .ref p1] s 0 0 A) (F0 m 5 ls []) := by
    intro n95
    induction n95 with
    | zero =>
      intro i1 hn95 hlo96 z2 H locs hT hF hS m3 ls hl
      obtain rfl : 96 = i1 := by omega
      refine lv_iload hx hb dX0_reapFor_5 (lv_at hl 0 rfl) ?_
      refine lv_bipush (v := 96) hx hb dX0_reapFor_7 (by decide) ?_
      refine lv_icmp_ge (tgt := 61) hx hb dX0_reapFor_9 (by decide) (fun c97 => ?_) (fun c97 => (by exfalso; have q9 : ((96 : Nat) : Int) < 96 := ti_nle c97 (by decide) (nI_toInt (by omega)); omega))
      have t98 : 96 ≤ ((96 : Nat) : Int) := ti_le c97 (by decide) (nI_toInt (by omega))
      exact jn86 z2 _ _ hT hF hS m3 ls (lv_sub hl [0, 1, 2, 3, 4] rfl)
    | succ n95 ih95 =>
      intro i1 hn95 hlo96 z2 H locs hT hF hS m3 ls hl
      have hlt98 : i1 < 96 := by omega
      refine lv_iload hx hb dX0_reapFor_5 (lv_at hl 0 rfl) ?_
      refine lv_bipush (v := 96) hx hb dX0_reapFor_7 (by decide) ?_
      refine lv_icmp_ge (tgt := 61) hx hb dX0_reapFor_9 (by decide) (fun c99 => (by exfalso; have q9 : 96 ≤ ((i1 : Nat) : Int) := ti_le c99 (by decide) (nI_toInt (by omega)); omega)) (fun c99 => ?_)
      have t100 : ((i1 : Nat) : Int) < 96 := ti_nle c99 (by decide) (nI_toInt (by omega))
      refine lv_aload_n hx hb dX0_reapFor_12 rfl (lv_at hl 2 rfl) ?_
      refine tw_get hx hb hts bF2_X0 hown hK hT hr_o0 shc_3 rfl 1 (by decide) (ht_at2 hts 0 rfl) (fun _ h9 => h9) dX0_reapFor_13 (fun v9 m101 h9 => ?_)
      obtain ⟨b102, rfl, hg103⟩ := h9 _ rfl
      refine lv_iload hx hb dX0_reapFor_16 (lv_at hl 0 rfl) ?_
      refine tw_iald (i := (nI i1)) hx hb hK hT hg103 shc_52 rfl (vp_in_nI (by omega) (by decide)) dX0_reapFor_18 (fun v9 m104 h9 => ?_)
      obtain ⟨x105, rfl, gx105, kx105⟩ := h9
      refine lv_aload_n hx hb dX0_reapFor_19 rfl (lv_at hl 3 rfl) ?_
      refine tw_getNM (v := .int fm) hx hb hts bF2_X7 hown hK hT hr_p0 shc_10 rfl 7 (by decide) (hE.nw 61 rfl) (fun _ h9 => h9) m3 dX0_reapFor_20 ?_
      have t106 : -2147483648 ≤ x105.toInt ∧ x105.toInt ≤ 2147483647 := ti_all x105
      refine lv_icmp_ne (tgt := 55) hx hb dX0_reapFor_23 (by decide) (fun c107 => ?_) (fun c107 => ?_)
      · have t108 : x105.toInt ≠ fm.toInt := ti_ne c107 rfl rfl
        refine lv_iinc (v := nI (i1 + 1)) (lv' := [(4, .int (nI (i1 + 1))), (3, .int z2), (0, .ref o0), (1, .ref p0), (2, .ref p1)]) hx hb dX0_reapFor_55 hl (k := 0) rfl (nI_add i1 1) (by decide) rfl (fun ls hl => ?_)
        refine lv_goto (tgt := 5) hx hb dX0_reapFor_58 (by decide) ?_
        exact ih95 (i1 + 1) (by omega) (by omega) z2 _ _ hT hF hS m3 ls (lv_sub hl [0, 1, 2, 3, 4] rfl)
      · have t109 : x105.toInt = fm.toInt := ti_eq c107 rfl rfl
        refine lv_iload_n hx hb dX0_reapFor_26 rfl (lv_at hl 1 rfl) ?_
        refine lv_aload_n hx hb dX0_reapFor_27 rfl (lv_at hl 2 rfl) ?_
        refine tw_get hx hb hts bF2_X0 hown hK hT hr_o0 shc_3 rfl 2 (by decide) (ht_at2 hts 1 rfl) (fun _ h9 => h9) dX0_reapFor_28 (fun v9 m110 h9 => ?_)
        obtain ⟨b111, rfl, hg112⟩ := h9 _ rfl
        refine lv_aload_n hx hb dX0_reapFor_31 rfl (lv_at hl 3 rfl) ?_
        refine tw_getNM (v := .int fm) hx hb hts bF2_X7 hown hK hT hr_p0 shc_10 rfl 7 (by decide) (hE.nw 61 rfl) (fun _ h9 => h9) m3 dX0_reapFor_32 ?_
        refine tw_iald (i := fm) hx hb hK hT hg112 shc_53 rfl (vin_t (a := fm.toInt) rfl (by omega) (by omega)) dX0_reapFor_35 (fun v9 m113 h9 => ?_)
        obtain ⟨x114, rfl, gx114, kx114⟩ := h9
        refine lv_aload_n hx hb dX0_reapFor_36 rfl (lv_at hl 4 rfl) ?_
        refine tw_getN hx hb hts bF2_X2 hown hK hT hr_p1 shc_5 rfl 7 (by decide) (hE.nw 76 rfl) (fun _ h9 => h9) dX0_reapFor_37 (fun v9 m115 h9 => ?_)
        obtain ⟨b116, rfl, hg117⟩ := h9 _ rfl
        refine lv_iload hx hb dX0_reapFor_40 (lv_at hl 0 rfl) ?_
        refine tw_iald (i := (nI i1)) hx hb hK hT hg117 shc_32 rfl (vp_in_nI (by omega) (by decide)) dX0_reapFor_42 (fun v9 m118 h9 => ?_)
        obtain ⟨x119, rfl, gx119, kx119⟩ := h9
        refine lv_aload_n hx hb dX0_reapFor_43 rfl (lv_at hl 4 rfl) ?_
        refine tw_getN hx hb hts bF2_X2 hown hK hT hr_p1 shc_5 rfl 5 (by decide) (hE.nw 72 rfl) (fun _ h9 => h9) dX0_reapFor_44 (fun v9 m120 h9 => ?_)
        obtain ⟨b121, rfl, hg122⟩ := h9 _ rfl
        refine lv_iload hx hb dX0_reapFor_47 (lv_at hl 0 rfl) ?_
        refine tw_iald (i := (nI i1)) hx hb hK hT hg122 shc_30 rfl (vp_in_nI (by omega) (by decide)) dX0_reapFor_49 (fun v9 m123 h9 => ?_)
        obtain ⟨x124, rfl, gx124, kx124⟩ := h9
        have hFc := gA_free hG hA hS
        refine va_calli (va_runS (As := [.int x114, .int x119, .int x124]) (rest := [.int z2]) ⟨hx, hb, hml, hown, hts⟩ (c_broughtBy l dC dI kA adK adV G H nC nS x114 x119 x124 hT (by omega) (by omega)) (va_cwS 3 hts (goodIn_app (goodIn_r _ [4, 5, 6] rfl (by decide +kernel)) (goodIn_ca (goodIn_r _ [3] rfl (by decide +kernel)) (bs2_in _ _))) rfl rfl rfl (by decide +kernel) ⟨(Nat.le_of_ble_eq_true rfl), (Nat.le_of_ble_eq_true rfl)⟩) ⟨fun a U g mk q => by obtain ⟨q0, q1, qK, qE⟩ := q; exact ⟨q0, q1, va_K.moved (u := U) (U := U.calling g mk a) (Vm.Alike.refl U.vm) qK, EVC.blind g mk a qE⟩, fun U hU hW => ⟨rfl, hU, va_K.moved hW.alike hK, hE.call hS hFc hU hW⟩⟩ rfl rfl hl.1 rfl (lv_room (Nat.le_of_ble_eq_true rfl)) dX0_reapFor_50 ⟨(Nat.le_of_ble_eq_true rfl), (Nat.le_of_ble_eq_true rfl)⟩) hS (fun q _ h => hFc q h) hFc (fun r125 u t H locs ht hvm hw126 hB _ _ hS => ?_)
        obtain ⟨hT, hF1⟩ := hB
        rw [ht] at hT hF1
        have m127 := (hF1.fld hr_p0 skc_10 (k := 7) (by decide) (by decide)).trans m3
        have hF := hF.more hF1 (by decide)
        try dsimp only at hw126
        have h136 := hw126
        refine lv_iadd hx hb dX0_reapFor_53 ?_
        refine lv_topi (fun x137 ex137 => ?_)
        refine lv_istore_n (lv' := [(3, .int x137), (4, .int (nI i1)), (0, .ref o0), (1, .ref p0), (2, .ref p1)]) hx hb dX0_reapFor_54 rfl hl (by decide) rfl (fun ls hl => ?_)
        refine lv_iinc (v := nI (i1 + 1)) (lv' := [(4, .int (nI (i1 + 1))), (3, .int x137), (0, .ref o0), (1, .ref p0), (2, .ref p1)]) hx hb dX0_reapFor_55 hl (k := 1) rfl (nI_add i1 1) (by decide) rfl (fun ls hl => ?_)
        refine lv_goto (tgt := 5) hx hb dX0_reapFor_58 (by decide) ?_
        exact ih95 (i1 + 1) (by omega) (by omega) x137 _ _ hT hF hS m127 ls (lv_sub hl [0, 1, 2, 3, 4] rfl)
  exact key95 (96 - 0) 0 (by omega) (Nat.le_refl _) 0 _ _ hT hF hS hm_fm ls (lv_sub hl [0, 1, 2, 3, 4] rfl)
def w_c_payDues : List Cond := .code yX0_payDues cX0_payDues 5 none :: (HAppend.hAppend (α := List Cond) (β := List Cond) (γ := List Cond) [.code yX0_gatherFacts cX0_gatherFacts 3 none, .fieldLink RX0 33 "SeaLand$Board" "facts" "[J", .code yX0_acresOf cX0_acresOf 4 (some .int), .fieldLink RX0 17 "SeaLand$Board" "farmOf" "[I", .methodLink RX0 98 yX0_acresOf, .instanceMethod yX0_acresOf, .selects RX0 yX0_acresOf yX0_acresOf, .initialized RX0, .code yX0_nearOf cX0_nearOf 5 (some .int), .code yX3_stepsToBank cX3_stepsToBank 4 (some .int), .fieldLink RX3 47 "SeaLand$Lake" "built" "I", .fieldLink RX3 27 "SeaLand$Lake" "works" "[LSeaLand$Work;", .code yX10_isBank cX10_isBank 1 (some .boolean), .fieldLink RX10 18 "SeaLand$Work" "kind" "I", .methodLink RX3 67 yX10_isBank, .instanceMethod yX10_isBank, .selects RX10 yX10_isBank yX10_isBank, .initialized RX10, .code yX11_stepsApart cX11_stepsApart 2 (some .int), .methodLink RX11 580 Lib.Math.abs.name, .static Lib.Math.abs.name, .initialized "java/lang/Math", .code Lib.Math.abs.name Lib.Math.abs.code 1 (some .int), .initialized RX11, .static yX11_stepsApart, .methodLink RX3 71 Lib.Math.min.name, .static Lib.Math.min.name, .code Lib.Math.min.name Lib.Math.min.code 2 (some .int), .methodLink RX0 138 yX3_stepsToBank, .instanceMethod yX3_stepsToBank, .selects RX3 yX3_stepsToBank yX3_stepsToBank, .initialized RX3, .methodLink RX0 166 Lib.Math.min.name, .methodLink RX0 123 yX0_nearOf, .instanceMethod yX0_nearOf, .selects RX0 yX0_nearOf yX0_nearOf, .methodLink RX0 84 yX0_gatherFacts, .instanceMethod yX0_gatherFacts, .selects RX0 yX0_gatherFacts yX0_gatherFacts, .code yX0_duesAndGain cX0_duesAndGain 3 (some .int), .fieldLink RX0 41 "SeaLand$Board" "force" "LSeaLand$Law;", .code yX4_sumThatHolds cX4_sumThatHolds 6 (some .long), .fieldLink RX4 60 "SeaLand$Law" "lines" "I", .fieldLink RX4 18 "SeaLand$Law" "kinds" "[I", .code yX4_lineHolds cX4_lineHolds 6 (some .boolean), .fieldLink RX4 33 "SeaLand$Law" "stepFrom" "[I", .fieldLink RX4 36 "SeaLand$Law" "stepTo" "[I", .fieldLink RX4 39 "SeaLand$Law" "steps" "[I", .fieldLink RX4 42 "SeaLand$Law" "stack" "[J", .code yX4_joined cX4_joined 5 (some .long), .methodLink RX4 199 Lib.MathLoose.max_long.x, .static Lib.MathLoose.max_long.x, .code Lib.MathLoose.max_long.x Lib.MathLoose.max_long.code 4 (some .long), .methodLink RX4 195 yX4_joined, .static yX4_joined, .initialized RX4, .methodLink RX4 203 yX4_lineHolds, .instanceMethod yX4_lineHolds, .selects RX4 yX4_lineHolds yX4_lineHolds, .fieldLink RX4 21 "SeaLand$Law" "firsts" "[I", .methodLink RX0 130 yX4_sumThatHolds, .instanceMethod yX4_sumThatHolds, .selects RX4 yX4_sumThatHolds yX4_sumThatHolds, .constantLong RX0 92 100, .methodLink RX0 215 yX0_duesAndGain, .instanceMethod yX0_duesAndGain, .selects RX0 yX0_duesAndGain yX0_duesAndGain, .code yX0_isRuled cX0_isRuled 2 (some .boolean), .code yX4_firstThatHolds cX4_firstThatHolds 4 (some .int), .methodLink RX0 134 yX4_firstThatHolds, .instanceMethod yX4_firstThatHolds, .selects RX4 yX4_firstThatHolds yX4_firstThatHolds, .methodLink RX0 169 yX0_isRuled, .instanceMethod yX0_isRuled, .selects RX0 yX0_isRuled yX0_isRuled, .code yX0_ruled cX0_ruled 2 (some .int), .methodLink RX0 88 yX0_ruled, .instanceMethod yX0_ruled, .selects RX0 yX0_ruled yX0_ruled, .constant RX0 218 2000000000, .fieldLink RX0 219 "SeaLand$Board" "coin" "I"] bs2)
set_option maxHeartbeats 4000000 in
set_option maxRecDepth 100000 in
theorem c_payDues (l : Launch) (dC : Nat → ClassId) (dI : Nat → Nat → Nat) (kA : Nat → ClassId) (adK adV : Nat → Nat) (G : gT) (H0 : Heap) (nC nS : Int) (o0 : Nat) (p0 : Nat) (p1 : Nat)  (hT : gH (dC, dI) kA (SHc nC nS) G H0) (hr_p0 : G p0 = some 10) (hr_p1 : G p1 = some 6) (hr_o0 : G o0 = some 3) (hgC : 0 ≤ nC ∧ nC ≤ 40) (hgS : 0 ≤ nS ∧ nS ≤ 60) : Met l yX0_payDues w_c_payDues ({ frames := 5, cells := 0, slots := 0, locals := 136 }) (va_Pc [.ref o0, .ref p0, .ref p1] (fun U => U.heap = H0 ∧ va_K (dC, dI) vwCl (tyl kA) U ∧ EVC adK adV (gA G H0.size) U U.heap)) (va_Qv (fun (u : Unit) => True) (fun (_ : Unit) (t : State) => gH (dC, dI) kA (SHc nC nS) G t.heap ∧ gF (dC, dI) SKc G ([(3, 17), (10, 6), (10, 9), (50, 0), (56, 0)] : List (Nat × Nat)) H0 t.heap) (gA G H0.size)) 0 0 (gA G H0.size) := by
  refine Met.ofW (cc := cX0_payDues) (maxL := 5) (ret := none) (by decide) rfl ?_
  intro p e s m args below meth c s₁ B hml hv
  obtain ⟨rfl, hH0, hK, hE⟩ := hv
  have hx := B.exec
  have hb := B.bytes
  have hr := B.returns
  have hts := atoms_spec (ws := w_c_payDues) B.pre
  have hown : s.vm.findClass RX0 = some m.cls := findClass_of_methodNamed B.named
  have hlocks := B.notSynchronized
  subst hH0
  generalize hAe : gA G s.heap.size = A at hE ⊢
  have hA : ∀ q : Nat, s.heap.size ≤ q → A q := fun q h => by rw [← hAe]; exact Or.inr h
  have hG := gA_of hAe
  have hS : va_S A s.heap s.heap [] := va_S.rf
  have hF : gF (dC, dI) SKc G ([(3, 17), (10, 6), (10, 9), (50, 0), (56, 0)] : List (Nat × Nat)) s.heap s.heap := gF.rf
  have hl := lv_entry ([.ref o0, .ref p0, .ref p1]) (n := 5) (Nat.le_of_ble_eq_true rfl)
  rw [lg_entry_eq]
  generalize (lg_sl ([.ref o0, .ref p0, .ref p1]) ++ List.replicate (5 - (lg_sl ([.ref o0, .ref p0, .ref p1])).length) Slot.unset).toArray = ls at hl ⊢
  have hl : lv_has ls 5 [(0, .ref o0), (1, .ref p0), (2, .ref p1)] := hl
  refine lv_aload_n hx hb dX0_payDues_0 rfl (lv_at hl 0 rfl) ?_
  refine lv_aload_n hx hb dX0_payDues_1 rfl (lv_at hl 1 rfl) ?_
  refine lv_aload_n hx hb dX0_payDues_2 rfl (lv_at hl 2 rfl) ?_
  have hFc := gA_free hG hA hS
  refine va_callv (va_runV (As := [.ref p0, .ref p1]) (rest := []) ⟨hx, hb, hml, hown, hts⟩ (c_gatherFacts l dC dI kA adK adV G s.heap nC nS o0 p0 p1 hT hr_p0 hr_p1 hr_o0 (by omega) (by omega)) (cwV 2 hts (goodIn_app (goodIn_r _ [37, 38, 39, 8] rfl (by decide +kernel)) (goodIn_ca (goodIn_r _ [1, 2, 3, 4, 5, 6, 7, 8, 9, 10, 11, 12, 13, 14, 15, 16, 17, 18, 19, 20, 21, 22, 23, 24, 25, 26, 27, 28, 29, 30, 31, 32, 33, 34, 35, 36] rfl (by decide +kernel)) (bs2_in _ _))) rfl rfl rfl (by decide +kernel) ⟨(Nat.le_of_ble_eq_true rfl), (Nat.le_of_ble_eq_true rfl)⟩) ⟨fun a U g mk q => by obtain ⟨q0, q1, qK, qE⟩ := q; exact ⟨q0, q1, va_K.moved (u := U) (U := U.calling g mk a) (Vm.Alike.refl U.vm) qK, EVC.blind g mk a qE⟩, gH_rc hK hT hr_o0 shc_3 rfl, fun U hU hW => ⟨rfl, hU, va_K.moved hW.alike hK, hE.call hS hFc hU hW⟩⟩ rfl rfl hl.1 rfl (lv_room (Nat.le_of_ble_eq_true rfl)) dX0_payDues_3 ⟨(Nat.le_of_ble_eq_true rfl), (Nat.le_of_ble_eq_true rfl)⟩) hS (fun q _ h => hFc q h) hFc (fun u t H locs ht hvm hw2 hB _ _ hS => ?_)
  obtain ⟨hT, hF1⟩ := hB
  rw [ht] at hT hF1
  have hF := hF.more hF1 (by decide)
  try dsimp only at hw2
  refine lv_aload_n hx hb dX0_payDues_6 rfl (lv_at hl 0 rfl) ?_
  have hFc := gA_free hG hA hS
  refine va_calli (va_runV (As := []) (rest := []) ⟨hx, hb, hml, hown, hts⟩ (c_duesAndGain l dC dI kA adK adV G H nC nS o0 hT hr_o0 (by omega) (by omega)) (cwV 0 hts (goodIn_app (goodIn_r _ [65, 66, 67, 8] rfl (by decide +kernel)) (goodIn_ca (goodIn_r _ [40, 41, 2, 42, 43, 44, 45, 46, 47, 48, 49, 50, 51, 52, 22, 53, 54, 55, 56, 57, 58, 59, 60, 61, 62, 63, 64] rfl (by decide +kernel)) (bs2_in _ _))) rfl rfl rfl (by decide +kernel) ⟨(Nat.le_of_ble_eq_true rfl), (Nat.le_of_ble_eq_true rfl)⟩) ⟨fun a U g mk q => by obtain ⟨q0, q1, qK, qE⟩ := q; exact ⟨q0, q1, va_K.moved (u := U) (U := U.calling g mk a) (Vm.Alike.refl U.vm) qK, EVC.blind g mk a qE⟩, gH_rc hK hT hr_o0 shc_3 rfl, fun U hU hW => ⟨rfl, hU, va_K.moved hW.alike hK, hE.call hS hFc hU hW⟩⟩ rfl rfl hl.1 rfl (lv_room (Nat.le_of_ble_eq_true rfl)) dX0_payDues_7 ⟨(Nat.le_of_ble_eq_true rfl), (Nat.le_of_ble_eq_true rfl)⟩) hS (fun q _ h => hFc q h) hFc (fun r3 u t H locs ht hvm hw4 hB _ _ hS => ?_)
  obtain ⟨hT, hF1⟩ := hB
  rw [ht] at hT hF1
  have hF := hF.more hF1 (by decide)
  try dsimp only at hw4
  refine lv_istore_n (lv' := [(3, .int r3), (0, .ref o0), (1, .ref p0), (2, .ref p1)]) hx hb dX0_payDues_10 rfl hl (by decide) rfl (fun ls hl => ?_)
  refine lv_aload_n hx hb dX0_payDues_11 rfl (lv_at hl 2 rfl) ?_
  refine tw_getN hx hb hts bF2_X7 hown hK hT hr_p0 shc_10 rfl 10 (by decide) (hE.nw 75 rfl) (fun _ h9 => h9) dX0_payDues_12 (fun v9 m5 h9 => ?_)
  obtain ⟨x6, rfl, gx6, kx6⟩ := h9 _ rfl
  have jn20 : ∀ (z18 : Int32), ∀ (H : Heap) (locs : List Loc), gH (dC, dI) kA (SHc nC nS) G H → gF (dC, dI) SKc G ([(3, 17), (10, 6), (10, 9), (50, 0), (56, 0)] : List (Nat × Nat)) s.heap H → va_S A s.heap H locs → el H p0 (dI 10 10) = some (.int x6) → ∀ ls : Array Slot, lv_has ls 5 [(3, .int z18), (0, .ref o0), (1, .ref p0), (2, .ref p1)] → W p l e (headSpec w_c_payDues ({ frames := 5, cells := 0, slots := 0, locals := 136 })).room s m #[.ref o0, .ref p0, .ref p1] below meth c H locs 0 0 (MQ below (va_Qv (fun (u : Unit) => True) (fun (_ : Unit) (t : State) => gH (dC, dI) kA (SHc nC nS) G t.heap ∧ gF (dC, dI) SKc G ([(3, 17), (10, 6), (10, 9), (50, 0), (56, 0)] : List (Nat × Nat)) s.heap t.heap) A) #[.ref o0, .ref p0, .ref p1] s 0 0 A) (F0 m 34 ls []) := by
    intro z18 H locs hT hF hS m19 ls hl
    refine lv_aload_n hx hb dX0_payDues_34 rfl (lv_at hl 2 rfl) ?_
    refine lv_dup hx hb dX0_payDues_35 rfl ?_
    refine tw_getN hx hb hts bF2_X7 hown hK hT hr_p0 shc_10 rfl 9 (by decide) (hE.nw 69 rfl) (fun _ h9 => h9) dX0_payDues_36 (fun v9 m21 h9 => ?_)
    obtain ⟨x22, rfl, gx22, kx22⟩ := h9 _ rfl
    refine lv_iload_n hx hb dX0_payDues_39 rfl (lv_at hl 0 rfl) ?_
    refine lv_iadd hx hb dX0_payDues_40 ?_
    refine lv_topi (fun x23 ex23 => ?_)
    refine tw_putN (v := .int x23) (ty := .int) hx hb hts bF2_X7 tyX7 tyX7_ok nmX7 hown hK hT hG hS hr_p0 shc_10 rfl 9 (by decide) (hE.nw 69 rfl) (fun _ h9 => h9) rfl (by decide +kernel) rfl rfl (gl_at rfl (gi_all _)) dX0_payDues_41 (fun H locs hT oq m24 oj hS => ?_)
    have hF := hF.put hr_p0 skc_10 oq oj (by decide)
    refine lv_aload_n hx hb dX0_payDues_44 rfl (lv_at hl 2 rfl) ?_
    refine tw_getNM (v := .int x23) hx hb hts bF2_X7 hown hK hT hr_p0 shc_10 rfl 9 (by decide) (hE.nw 69 rfl) (fun _ h9 => h9) m24 dX0_payDues_45 ?_
    refine lv_aload_n hx hb dX0_payDues_48 rfl (lv_at hl 2 rfl) ?_
    refine tw_getN hx hb hts bF2_X7 hown hK hT hr_p0 shc_10 rfl 6 (by decide) (hE.nw 65 rfl) (fun _ h9 => h9) dX0_payDues_49 (fun v9 m26 h9 => ?_)
    obtain ⟨x27, rfl, gx27, kx27⟩ := h9 _ rfl
    refine va_mmin hx hb (hml.trans hl.1.symm) hown (ht_at2 hts 32 rfl) (ht_at2 hts 26 rfl) (ht_at2 hts 21 rfl) (ht_at2 hts 27 rfl) (Nat.le_of_ble_eq_true rfl) (Nat.le_of_ble_eq_true rfl) (Nat.le_of_ble_eq_true rfl) (Nat.le_of_ble_eq_true rfl) dX0_payDues_52 ?_
    refine lv_topi (fun x28 ex28 => ?_)
    have t29 : x28.toInt ≤ x23.toInt ∧ x28.toInt ≤ x27.toInt ∧ (x28.toInt = x23.toInt ∨ x28.toInt = x27.toInt) := mn_f ex28 rfl rfl
    refine lv_istore (lv' := [(4, .int x28), (3, .int z18), (0, .ref o0), (1, .ref p0), (2, .ref p1)]) hx hb dX0_payDues_55 hl (by decide) rfl (fun ls hl => ?_)
    refine lv_aload_n hx hb dX0_payDues_57 rfl (lv_at hl 3 rfl) ?_
    refine lv_dup hx hb dX0_payDues_58 rfl ?_
    refine tw_getNM (v := .int x23) hx hb hts bF2_X7 hown hK hT hr_p0 shc_10 rfl 9 (by decide) (hE.nw 69 rfl) (fun _ h9 => h9) m24 dX0_payDues_59 ?_
    refine lv_iload hx hb dX0_payDues_62 (lv_at hl 0 rfl) ?_
    refine lv_isub hx hb dX0_payDues_64 ?_
    refine lv_topi (fun x30 ex30 => ?_)
    refine tw_putN (v := .int x30) (ty := .int) hx hb hts bF2_X7 tyX7 tyX7_ok nmX7 hown hK hT hG hS hr_p0 shc_10 rfl 9 (by decide) (hE.nw 69 rfl) (fun _ h9 => h9) rfl (by decide +kernel) rfl rfl (gl_at rfl (gi_all _)) dX0_payDues_65 (fun H locs hT oq m31 oj hS => ?_)
    have hF := hF.put hr_p0 skc_10 oq oj (by decide)
    have m33 := (oj 6 (by decide) (by decide)).trans m26
    refine lv_aload_n hx hb dX0_payDues_68 rfl (lv_at hl 3 rfl) ?_
    refine lv_dup hx hb dX0_payDues_69 rfl ?_
    refine tw_getNM (v := .int x27) hx hb hts bF2_X7 hown hK hT hr_p0 shc_10 rfl 6 (by decide) (hE.nw 65 rfl) (fun _ h9 => h9) m33 dX0_payDues_70 ?_
    refine lv_iload hx hb dX0_payDues_73 (lv_at hl 0 rfl) ?_
    refine lv_isub hx hb dX0_payDues_75 ?_
    refine lv_topi (fun x34 ex34 => ?_)
    refine tw_putN (v := .int x34) (ty := .int) hx hb hts bF2_X7 tyX7 tyX7_ok nmX7 hown hK hT hG hS hr_p0 shc_10 rfl 6 (by decide) (hE.nw 65 rfl) (fun _ h9 => h9) rfl (by decide +kernel) rfl rfl (gl_at rfl (gi_all _)) dX0_payDues_76 (fun H locs hT oq m35 oj hS => ?_)
    have hF := hF.put hr_p0 skc_10 oq oj (by decide)
    refine lv_aload_n hx hb dX0_payDues_79 rfl (lv_at hl 2 rfl) ?_
    refine lv_ldc (v := 2000000000) hx hb hown (ht_at2 hts 79 rfl) dX0_payDues_80 ?_
    refine lv_iload hx hb dX0_payDues_82 (lv_at hl 0 rfl) ?_
    refine lv_isub hx hb dX0_payDues_84 ?_
    refine lv_topi (fun x38 ex38 => ?_)
    refine lv_aload_n hx hb dX0_payDues_85 rfl (lv_at hl 2 rfl) ?_
    refine tw_get hx hb hts bF2_X0 hown hK hT hr_o0 shc_3 rfl 17 (by decide) (ht_at2 hts 80 rfl) (fun _ h9 => h9) dX0_payDues_86 (fun v9 m39 h9 => ?_)
    obtain ⟨x40, rfl, gx40, kx40⟩ := h9 _ rfl
    refine va_mmin hx hb (hml.trans hl.1.symm) hown (ht_at2 hts 32 rfl) (ht_at2 hts 26 rfl) (ht_at2 hts 21 rfl) (ht_at2 hts 27 rfl) (Nat.le_of_ble_eq_true rfl) (Nat.le_of_ble_eq_true rfl) (Nat.le_of_ble_eq_true rfl) (Nat.le_of_ble_eq_true rfl) dX0_payDues_89 ?_
    refine lv_topi (fun x41 ex41 => ?_)
    have t42 : x41.toInt ≤ x38.toInt ∧ x41.toInt ≤ x40.toInt ∧ (x41.toInt = x38.toInt ∨ x41.toInt = x40.toInt) := mn_f ex41 rfl rfl
    refine lv_iload hx hb dX0_payDues_92 (lv_at hl 0 rfl) ?_
    refine lv_iadd hx hb dX0_payDues_94 ?_
    refine lv_topi (fun x43 ex43 => ?_)
    refine tw_put (v := .int x43) (ty := .int) hx hb hts bF2_X0 tyX0 tyX0_ok nmX0 hown hK hT hG hS hr_o0 shc_3 rfl 17 (by decide) (ht_at2 hts 80 rfl) (fun _ h9 => h9) rfl (by decide +kernel) rfl rfl (gl_at rfl (gi_all _)) dX0_payDues_95 (fun H locs hT oq m44 oj hS => ?_)
    have hF := hF.put hr_o0 skc_3 oq oj (by decide)
    exact W.vret hx hb hr (fun t ht hW => ⟨⟨(), rfl, (by exact trivial), by (try dsimp only); rw [ht]; exact ⟨hT, hF⟩⟩, hS.F ht⟩) hS.2.2 dX0_payDues_98
  refine lv_if_ne (tgt := 34) hx hb dX0_payDues_15 (by decide) (fun c48 => ?_) (fun c48 => ?_)
  · have t49 : x6.toInt ≠ 0 := ti_ne c48 rfl (by decide)
    exact jn20 r3 _ _ hT hF hS m5 ls (lv_sub hl [0, 1, 2, 3] rfl)
  · have t50 : x6.toInt = 0 := ti_eq c48 rfl (by decide)
    refine lv_aload_n hx hb dX0_payDues_18 rfl (lv_at hl 1 rfl) ?_
    refine lv_iconst (v := 5) hx hb dX0_payDues_19 (by decide) ?_
    have hFc := gA_free hG hA hS
    refine va_calli (va_runV (As := [.int 5]) (rest := []) ⟨hx, hb, hml, hown, hts⟩ (c_isRuled l dC dI kA adK adV G H nC nS o0 5 hT hr_o0 (by omega) (by omega)) (cwV 1 hts (goodIn_app (goodIn_r _ [73, 74, 75, 8] rfl (by decide +kernel)) (goodIn_ca (goodIn_r _ [68, 41, 2, 69, 43, 44, 45, 46, 47, 48, 49, 50, 51, 52, 22, 53, 54, 55, 56, 57, 58, 59, 70, 71, 72] rfl (by decide +kernel)) (bs2_in _ _))) rfl rfl rfl (by decide +kernel) ⟨(Nat.le_of_ble_eq_true rfl), (Nat.le_of_ble_eq_true rfl)⟩) ⟨fun a U g mk q => by obtain ⟨q0, q1, qK, qE⟩ := q; exact ⟨q0, q1, va_K.moved (u := U) (U := U.calling g mk a) (Vm.Alike.refl U.vm) qK, EVC.blind g mk a qE⟩, gH_rc hK hT hr_o0 shc_3 rfl, fun U hU hW => ⟨rfl, hU, va_K.moved hW.alike hK, hE.call hS hFc hU hW⟩⟩ rfl rfl hl.1 rfl (lv_room (Nat.le_of_ble_eq_true rfl)) dX0_payDues_20 ⟨(Nat.le_of_ble_eq_true rfl), (Nat.le_of_ble_eq_true rfl)⟩) hS (fun q _ h => hFc q h) hFc (fun r51 u t H locs ht hvm hw52 hB _ _ hS => ?_)
    obtain ⟨hT, hF1⟩ := hB
    rw [ht] at hT hF1
    have m53 := (hF1.fld hr_p0 skc_10 (k := 10) (by decide) (by decide)).trans m5
    have hF := hF.more hF1 (by decide)
    try dsimp only at hw52
    have h54 := hw52
    refine lv_if_eq (tgt := 34) hx hb dX0_payDues_23 (by decide) (fun c55 => ?_) (fun c55 => ?_)
    · have t56 : r51.toInt = 0 := ti_eq c55 rfl (by decide)
      exact jn20 r3 _ _ hT hF hS m53 ls (lv_sub hl [0, 1, 2, 3] rfl)
    · have t57 : r51.toInt ≠ 0 := ti_ne c55 rfl (by decide)
      refine lv_iload_n hx hb dX0_payDues_26 rfl (lv_at hl 0 rfl) ?_
      refine lv_aload_n hx hb dX0_payDues_27 rfl (lv_at hl 1 rfl) ?_
      refine lv_iconst (v := 3) hx hb dX0_payDues_28 (by decide) ?_
      have hFc := gA_free hG hA hS
      refine va_calli (va_runV (As := [.int 3]) (rest := [.int r3]) ⟨hx, hb, hml, hown, hts⟩ (c_ruled l dC dI kA adK adV G H nC nS o0 3 hT hr_o0 (by omega) (by omega)) (cwV 1 hts (goodIn_app (goodIn_r _ [77, 78, 79, 8] rfl (by decide +kernel)) (goodIn_ca (goodIn_r _ [76, 41, 2, 42, 43, 44, 45, 46, 47, 48, 49, 50, 51, 52, 22, 53, 54, 55, 56, 57, 58, 59, 60, 61, 62, 63] rfl (by decide +kernel)) (bs2_in _ _))) rfl rfl rfl (by decide +kernel) ⟨(Nat.le_of_ble_eq_true rfl), (Nat.le_of_ble_eq_true rfl)⟩) ⟨fun a U g mk q => by obtain ⟨q0, q1, qK, qE⟩ := q; exact ⟨q0, q1, va_K.moved (u := U) (U := U.calling g mk a) (Vm.Alike.refl U.vm) qK, EVC.blind g mk a qE⟩, gH_rc hK hT hr_o0 shc_3 rfl, fun U hU hW => ⟨rfl, hU, va_K.moved hW.alike hK, hE.call hS hFc hU hW⟩⟩ rfl rfl hl.1 rfl (lv_room (Nat.le_of_ble_eq_true rfl)) dX0_payDues_29 ⟨(Nat.le_of_ble_eq_true rfl), (Nat.le_of_ble_eq_true rfl)⟩) hS (fun q _ h => hFc q h) hFc (fun r58 u t H locs ht hvm hw59 hB _ _ hS => ?_)
      obtain ⟨hT, hF1⟩ := hB
      rw [ht] at hT hF1
      have m60 := (hF1.fld hr_p0 skc_10 (k := 10) (by decide) (by decide)).trans m53
      have hF := hF.more hF1 (by decide)
      try dsimp only at hw59
      refine lv_iadd hx hb dX0_payDues_32 ?_
      refine lv_topi (fun x61 ex61 => ?_)
      refine lv_istore_n (lv' := [(3, .int x61), (0, .ref o0), (1, .ref p0), (2, .ref p1)]) hx hb dX0_payDues_33 rfl hl (by decide) rfl (fun ls hl => ?_)
      exact jn20 x61 _ _ hT hF hS m60 ls (lv_sub hl [0, 1, 2, 3] rfl)
def w_c_reap : List Cond := .code yX0_reap cX0_reap 5 (some .int) :: (HAppend.hAppend (α := List Cond) (β := List Cond) (γ := List Cond) [.code yX3_dayNow cX3_dayNow 1 (some .int), .fieldLink RX3 32 "SeaLand$Lake" "hour" "I", .methodLink RX0 195 yX3_dayNow, .instanceMethod yX3_dayNow, .selects RX3 yX3_dayNow yX3_dayNow, .initialized RX3, .methodLink RX0 166 Lib.Math.min.name, .static Lib.Math.min.name, .initialized "java/lang/Math", .code Lib.Math.min.name Lib.Math.min.code 2 (some .int), .fieldLink RX0 28 "SeaLand$Board" "harvested" "[Z", .fieldLink RX0 75 "SeaLand$Board" "settled" "I", .fieldLink RX0 11 "SeaLand$Board" "settlers" "[LSeaLand$Settler;", .code yX0_reapFor cX0_reapFor 5 (some .int), .fieldLink RX0 17 "SeaLand$Board" "farmOf" "[I", .fieldLink RX0 21 "SeaLand$Board" "crops" "[I", .code yX0_broughtBy cX0_broughtBy 6 (some .int), .methodLink RX0 211 yX0_broughtBy, .static yX0_broughtBy, .initialized RX0, .methodLink RX0 198 yX0_reapFor, .instanceMethod yX0_reapFor, .selects RX0 yX0_reapFor yX0_reapFor, .code yX0_payDues cX0_payDues 5 none, .code yX0_gatherFacts cX0_gatherFacts 3 none, .fieldLink RX0 33 "SeaLand$Board" "facts" "[J", .code yX0_acresOf cX0_acresOf 4 (some .int), .methodLink RX0 98 yX0_acresOf, .instanceMethod yX0_acresOf, .selects RX0 yX0_acresOf yX0_acresOf, .code yX0_nearOf cX0_nearOf 5 (some .int), .code yX3_stepsToBank cX3_stepsToBank 4 (some .int), .fieldLink RX3 47 "SeaLand$Lake" "built" "I", .fieldLink RX3 27 "SeaLand$Lake" "works" "[LSeaLand$Work;", .code yX10_isBank cX10_isBank 1 (some .boolean), .fieldLink RX10 18 "SeaLand$Work" "kind" "I", .methodLink RX3 67 yX10_isBank, .instanceMethod yX10_isBank, .selects RX10 yX10_isBank yX10_isBank, .initialized RX10, .code yX11_stepsApart cX11_stepsApart 2 (some .int), .methodLink RX11 580 Lib.Math.abs.name, .static Lib.Math.abs.name, .code Lib.Math.abs.name Lib.Math.abs.code 1 (some .int), .initialized RX11, .static yX11_stepsApart, .methodLink RX3 71 Lib.Math.min.name, .methodLink RX0 138 yX3_stepsToBank, .instanceMethod yX3_stepsToBank, .selects RX3 yX3_stepsToBank yX3_stepsToBank, .methodLink RX0 123 yX0_nearOf, .instanceMethod yX0_nearOf, .selects RX0 yX0_nearOf yX0_nearOf, .methodLink RX0 84 yX0_gatherFacts, .instanceMethod yX0_gatherFacts, .selects RX0 yX0_gatherFacts yX0_gatherFacts, .code yX0_duesAndGain cX0_duesAndGain 3 (some .int), .fieldLink RX0 41 "SeaLand$Board" "force" "LSeaLand$Law;", .code yX4_sumThatHolds cX4_sumThatHolds 6 (some .long), .fieldLink RX4 60 "SeaLand$Law" "lines" "I", .fieldLink RX4 18 "SeaLand$Law" "kinds" "[I", .code yX4_lineHolds cX4_lineHolds 6 (some .boolean), .fieldLink RX4 33 "SeaLand$Law" "stepFrom" "[I", .fieldLink RX4 36 "SeaLand$Law" "stepTo" "[I", .fieldLink RX4 39 "SeaLand$Law" "steps" "[I", .fieldLink RX4 42 "SeaLand$Law" "stack" "[J", .code yX4_joined cX4_joined 5 (some .long), .methodLink RX4 199 Lib.MathLoose.max_long.x, .static Lib.MathLoose.max_long.x, .code Lib.MathLoose.max_long.x Lib.MathLoose.max_long.code 4 (some .long), .methodLink RX4 195 yX4_joined, .static yX4_joined, .initialized RX4, .methodLink RX4 203 yX4_lineHolds, .instanceMethod yX4_lineHolds, .selects RX4 yX4_lineHolds yX4_lineHolds, .fieldLink RX4 21 "SeaLand$Law" "firsts" "[I", .methodLink RX0 130 yX4_sumThatHolds, .instanceMethod yX4_sumThatHolds, .selects RX4 yX4_sumThatHolds yX4_sumThatHolds, .constantLong RX0 92 100, .methodLink RX0 215 yX0_duesAndGain, .instanceMethod yX0_duesAndGain, .selects RX0 yX0_duesAndGain yX0_duesAndGain, .code yX0_isRuled cX0_isRuled 2 (some .boolean), .code yX4_firstThatHolds cX4_firstThatHolds 4 (some .int), .methodLink RX0 134 yX4_firstThatHolds, .instanceMethod yX4_firstThatHolds, .selects RX4 yX4_firstThatHolds yX4_firstThatHolds, .methodLink RX0 169 yX0_isRuled, .instanceMethod yX0_isRuled, .selects RX0 yX0_isRuled yX0_isRuled, .code yX0_ruled cX0_ruled 2 (some .int), .methodLink RX0 88 yX0_ruled, .instanceMethod yX0_ruled, .selects RX0 yX0_ruled yX0_ruled, .constant RX0 218 2000000000, .fieldLink RX0 219 "SeaLand$Board" "coin" "I", .methodLink RX0 202 yX0_payDues, .instanceMethod yX0_payDues, .selects RX0 yX0_payDues yX0_payDues, .code yJ7_fill_53178 cJ7_fill_53178 4 none, .methodLink RX0 55 yJ7_fill_53178, .static yJ7_fill_53178, .initialized RJ7] bs2)
set_option maxHeartbeats 4000000 in
set_option maxRecDepth 100000 in
theorem c_reap (l : Launch) (dC : Nat → ClassId) (dI : Nat → Nat → Nat) (kA : Nat → ClassId) (adK adV : Nat → Nat) (G : gT) (H0 : Heap) (nC nS : Int) (o0 : Nat) (p0 : Nat)  (hT : gH (dC, dI) kA (SHc nC nS) G H0) (hr_p0 : G p0 = some 6) (hr_o0 : G o0 = some 3) (hgC : 0 ≤ nC ∧ nC ≤ 40) (hgS : 0 ≤ nS ∧ nS ≤ 60) : Met l yX0_reap w_c_reap ({ frames := 6, cells := 0, slots := 0, locals := 160 }) (va_Pc [.ref o0, .ref p0] (fun U => U.heap = H0 ∧ va_K (dC, dI) vwCl (tyl kA) U ∧ EVC adK adV (gA G H0.size) U U.heap)) (va_Qi (fun (r : Int32) (u : Unit) => True) (fun (_ : Unit) (t : State) => gH (dC, dI) kA (SHc nC nS) G t.heap ∧ gF (dC, dI) SKc G ([(3, 17), (10, 6), (10, 8), (10, 9), (10, 10), (32, 0), (50, 0), (55, 0), (56, 0)] : List (Nat × Nat)) H0 t.heap) (gA G H0.size)) 0 0 (gA G H0.size) := by
  refine Met.ofW (cc := cX0_reap) (maxL := 5) (ret := (some .int)) (by decide) rfl ?_
  intro p e s m args below meth c s₁ B hml hv
  obtain ⟨rfl, hH0, hK, hE⟩ := hv
  have hx := B.exec
  have hb := B.bytes
  have hr := B.returns
  have hts := atoms_spec (ws := w_c_reap) B.pre
  have hown : s.vm.findClass RX0 = some m.cls := findClass_of_methodNamed B.named
  have hlocks := B.notSynchronized
  subst hH0
  generalize hAe : gA G s.heap.size = A at hE ⊢
  have hA : ∀ q : Nat, s.heap.size ≤ q → A q := fun q h => by rw [← hAe]; exact Or.inr h
  have hG := gA_of hAe
  have hS : va_S A s.heap s.heap [] := va_S.rf
  have hF : gF (dC, dI) SKc G ([(3, 17), (10, 6), (10, 8), (10, 9), (10, 10), (32, 0), (50, 0), (55, 0), (56, 0)] : List (Nat × Nat)) s.heap s.heap := gF.rf
  have hl := lv_entry ([.ref o0, .ref p0]) (n := 5) (Nat.le_of_ble_eq_true rfl)
  rw [lg_entry_eq]
  generalize (lg_sl ([.ref o0, .ref p0]) ++ List.replicate (5 - (lg_sl ([.ref o0, .ref p0])).length) Slot.unset).toArray = ls at hl ⊢
  have hl : lv_has ls 5 [(0, .ref o0), (1, .ref p0)] := hl
  refine lv_aload_n hx hb dX0_reap_0 rfl (lv_at hl 1 rfl) ?_
  have hFc := gA_free hG hA hS
  refine va_calli (va_runV (As := []) (rest := []) ⟨hx, hb, hml, hown, hts⟩ (c_dayNow l dC dI kA adK adV G s.heap nC nS p0 hT hr_p0 (by omega) (by omega)) (cwV 0 hts (goodIn_app (goodIn_r _ [3, 4, 5, 6] rfl (by decide +kernel)) (goodIn_ca (goodIn_r _ [1, 2] rfl (by decide +kernel)) (bs2_in _ _))) rfl rfl rfl (by decide +kernel) ⟨(Nat.le_of_ble_eq_true rfl), (Nat.le_of_ble_eq_true rfl)⟩) ⟨fun a U g mk q => by obtain ⟨q0, q1, qK, qE⟩ := q; exact ⟨q0, q1, va_K.moved (u := U) (U := U.calling g mk a) (Vm.Alike.refl U.vm) qK, EVC.blind g mk a qE⟩, gH_rc hK hT hr_p0 shc_6 rfl, fun U hU hW => ⟨rfl, hU, va_K.moved hW.alike hK, hE.call hS hFc hU hW⟩⟩ rfl rfl hl.1 rfl (lv_room (Nat.le_of_ble_eq_true rfl)) dX0_reap_1 ⟨(Nat.le_of_ble_eq_true rfl), (Nat.le_of_ble_eq_true rfl)⟩) hS (fun q _ h => hFc q h) hFc (fun r1 u t H locs ht hvm hw2 hB _ _ hS => ?_)
  obtain ⟨hT, hF1⟩ := hB
  rw [ht] at hT hF1
  have hF := hF.more hF1 (by decide)
  try dsimp only at hw2
  have h3 := hw2
  refine lv_sipush (v := 360) hx hb dX0_reap_4 (by decide) ?_
  refine lv_idiv hx hb dX0_reap_7 (by decide) ?_
  refine lv_topi (fun x4 ex4 => ?_)
  have t5 : x4.toInt = r1.toInt / 360 := ti_div ex4 rfl (by decide) (by omega) (by omega)
  refine lv_iconst (v := 4) hx hb dX0_reap_8 (by decide) ?_
  refine va_mmin hx hb (hml.trans hl.1.symm) hown (ht_at2 hts 6 rfl) (ht_at2 hts 7 rfl) (ht_at2 hts 8 rfl) (ht_at2 hts 9 rfl) (Nat.le_of_ble_eq_true rfl) (Nat.le_of_ble_eq_true rfl) (Nat.le_of_ble_eq_true rfl) (Nat.le_of_ble_eq_true rfl) dX0_reap_9 ?_
  refine lv_topi (fun x6 ex6 => ?_)
  have t7 : x6.toInt ≤ x4.toInt ∧ x6.toInt ≤ 4 ∧ (x6.toInt = x4.toInt ∨ x6.toInt = 4) := mn_f ex6 rfl (by decide)
  refine lv_istore_n (lv' := [(2, .int x6), (0, .ref o0), (1, .ref p0)]) hx hb dX0_reap_12 rfl hl (by decide) rfl (fun ls hl => ?_)
  refine lv_aload_n hx hb dX0_reap_13 rfl (lv_at hl 1 rfl) ?_
  refine tw_get hx hb hts bF2_X0 hown hK hT hr_o0 shc_3 rfl 4 (by decide) (ht_at2 hts 10 rfl) (fun _ h9 => h9) dX0_reap_14 (fun v9 m8 h9 => ?_)
  obtain ⟨b9, rfl, hg10⟩ := h9 _ rfl
  refine lv_iload_n hx hb dX0_reap_17 rfl (lv_at hl 0 rfl) ?_
  refine tw_zald (i := x6) hx hb hK hT hg10 shc_55 rfl (vin_t (a := x6.toInt) rfl (by omega) (by omega)) dX0_reap_18 (fun v9 m11 h9 => ?_)
  obtain ⟨x12, rfl, gx12, kx12⟩ := h9
  refine lv_if_eq (tgt := 24) hx hb dX0_reap_19 (by decide) (fun c13 => ?_) (fun c13 => ?_)
  · have t14 : x12.toInt = 0 := ti_eq c13 rfl (by decide)
    refine lv_aload_n hx hb dX0_reap_24 rfl (lv_at hl 1 rfl) ?_
    refine tw_getM (v := .ref b9) hx hb hts bF2_X0 hown hK hT hr_o0 shc_3 rfl 4 (by decide) (ht_at2 hts 10 rfl) (fun _ h9 => h9) m8 dX0_reap_25 ?_
    refine lv_iload_n hx hb dX0_reap_28 rfl (lv_at hl 0 rfl) ?_
    refine lv_iconst (v := 1) hx hb dX0_reap_29 (by decide) ?_
    refine tw_zast (i := x6) (x := 1) hx hb hK hT hG hS hg10 shc_55 rfl (vin_t (a := x6.toInt) rfl (by omega) (by omega)) (gi_z (rg_t (a := 1) (by decide) (by first | decide | omega) (by first | decide | omega)) (by decide) (by decide)) dX0_reap_30 (fun H locs hT oq m15 oi hS => ?_)
    have hF := hF.ast hg10 skc_55 oq (by decide)
    have m16 := (el_kept (oq _ (gne hr_o0 hg10 (by decide)))).trans m8
    refine lv_iconst (v := 0) hx hb dX0_reap_31 (by decide) ?_
    refine lv_istore_n (lv' := [(3, .int 0), (2, .int x6), (0, .ref o0), (1, .ref p0)]) hx hb dX0_reap_32 rfl hl (by decide) rfl (fun ls hl => ?_)
    refine lv_iconst (v := 0) hx hb dX0_reap_33 (by decide) ?_
    refine lv_istore (lv' := [(4, .int 0), (3, .int 0), (2, .int x6), (0, .ref o0), (1, .ref p0)]) hx hb dX0_reap_34 hl (by decide) rfl (fun ls hl => ?_)
    have jn221 : ∀ (z214 : Int32), ∀ (z216 : Int32), ∀ (z218 : Int32), ((0 ≤ z214.toInt ∧ z214.toInt ≤ 60) ∧ (0 ≤ z218.toInt ∧ z218.toInt ≤ 60)) → ∀ (H : Heap) (locs : List Loc), gH (dC, dI) kA (SHc nC nS) G H → gF (dC, dI) SKc G ([(3, 17), (10, 6), (10, 8), (10, 9), (10, 10), (32, 0), (50, 0), (55, 0), (56, 0)] : List (Nat × Nat)) s.heap H → va_S A s.heap H locs → el H o0 (dI 3 4) = some (.ref b9) → el H o0 (dI 3 14) = some (.int z218) → ∀ ls : Array Slot, lv_has ls 5 [(4, .int z214), (3, .int z216), (2, .int x6), (0, .ref o0), (1, .ref p0)] → W p l e (headSpec w_c_reap ({ frames := 6, cells := 0, slots := 0, locals := 160 })).room s m #[.ref o0, .ref p0] below meth c H locs 0 0 (MQ below (va_Qi (fun (r : Int32) (u : Unit) => True) (fun (_ : Unit) (t : State) => gH (dC, dI) kA (SHc nC nS) G t.heap ∧ gF (dC, dI) SKc G ([(3, 17), (10, 6), (10, 8), (10, 9), (10, 10), (32, 0), (50, 0), (55, 0), (56, 0)] : List (Nat × Nat)) s.heap t.heap) A) #[.ref o0, .ref p0] s 0 0 A) (F0 m 106 ls []) := by
      intro z214 z216 z218 ⟨h215, h219⟩ H locs hT hF hS m217 m220 ls hl
      refine lv_aload_n hx hb dX0_reap_106 rfl (lv_at hl 4 rfl) ?_
      refine tw_getN hx hb hts bF2_X3 hown hK hT hr_p0 shc_6 rfl 1 (by decide) (hE.nw 73 rfl) (fun _ h9 => h9) dX0_reap_107 (fun v9 m222 h9 => ?_)
      obtain ⟨b223, rfl, hg224⟩ := h9 _ rfl
      refine tw_getN hx hb hts bF2_X2 hown hK hT hg224 shc_5 rfl 7 (by decide) (hE.nw 76 rfl) (fun _ h9 => h9) dX0_reap_110 (fun v9 m225 h9 => ?_)
      obtain ⟨b226, rfl, hg227⟩ := h9 _ rfl
      refine lv_iconst (v := 0) hx hb dX0_reap_113 (by decide) ?_
      have hFc := gA_free hG hA hS
      refine va_callv (va_runS (As := [.ref b226, .int 0]) (rest := []) ⟨hx, hb, hml, hown, hts⟩ (c_fill_wet l dC dI kA adK adV G H nC nS b226 0 hT hg227 (by omega) (by omega)) (va_cwS 2 hts (goodIn_app (goodIn_r _ [103, 104, 105] rfl (by decide +kernel)) (goodIn_ca (goodIn_r _ [102] rfl (by decide +kernel)) (bs2_in _ _))) rfl rfl rfl (by decide +kernel) ⟨(Nat.le_of_ble_eq_true rfl), (Nat.le_of_ble_eq_true rfl)⟩) ⟨fun a U g mk q => by obtain ⟨q0, q1, qK, qE⟩ := q; exact ⟨q0, q1, va_K.moved (u := U) (U := U.calling g mk a) (Vm.Alike.refl U.vm) qK, EVC.blind g mk a qE⟩, fun U hU hW => ⟨rfl, hU, va_K.moved hW.alike hK, hE.call hS hFc hU hW⟩⟩ rfl rfl hl.1 rfl (lv_room (Nat.le_of_ble_eq_true rfl)) dX0_reap_114 ⟨(Nat.le_of_ble_eq_true rfl), (Nat.le_of_ble_eq_true rfl)⟩) hS (fun q _ h => hFc q h) hFc (fun u t H locs ht hvm hw229 hB _ _ hS => ?_)
      obtain ⟨hT, hF1⟩ := hB
      rw [ht] at hT hF1
      have hF := hF.more hF1 (by decide)
      try dsimp only at hw229
      refine lv_iload_n hx hb dX0_reap_117 rfl (lv_at hl 1 rfl) ?_
      exact W.iret (v := z216) hx hb hr (fun t ht hW => ⟨⟨z216, (), rfl, (by exact trivial), by (try dsimp only); rw [ht]; exact ⟨hT, hF⟩⟩, hS.F ht⟩) hS.2.2 dX0_reap_118
    have key234 : ∀ (n234 i17 : Nat), i17 + n234 = 60 → 0 ≤ i17 → ∀ (z18 : Int32), ∀ (H : Heap) (locs : List Loc), gH (dC, dI) kA (SHc nC nS) G H → gF (dC, dI) SKc G ([(3, 17), (10, 6), (10, 8), (10, 9), (10, 10), (32, 0), (50, 0), (55, 0), (56, 0)] : List (Nat × Nat)) s.heap H → va_S A s.heap H locs → el H o0 (dI 3 4) = some (.ref b9) → ∀ ls : Array Slot, lv_has ls 5 [(4, .int (nI i17)), (3, .int z18), (2, .int x6), (0, .ref o0), (1, .ref p0)] → W p l e (headSpec w_c_reap ({ frames := 6, cells := 0, slots := 0, locals := 160 })).room s m #[.ref o0, .ref p0] below meth c H locs 0 0 (MQ below (va_Qi (fun (r : Int32) (u : Unit) => True) (fun (_ : Unit) (t : State) => gH (dC, dI) kA (SHc nC nS) G t.heap ∧ gF (dC, dI) SKc G ([(3, 17), (10, 6), (10, 8), (10, 9), (10, 10), (32, 0), (50, 0), (55, 0), (56, 0)] : List (Nat × Nat)) s.heap t.heap) A) #[.ref o0, .ref p0] s 0 0 A) (F0 m 36 ls []) := by
      intro n234
      induction n234 with
      | zero =>
        intro i17 hn234 hlo235 z18 H locs hT hF hS m19 ls hl
        obtain rfl : 60 = i17 := by omega
        refine lv_iload hx hb dX0_reap_36 (lv_at hl 0 rfl) ?_
        refine lv_aload_n hx hb dX0_reap_38 rfl (lv_at hl 3 rfl) ?_
        refine tw_get hx hb hts bF2_X0 hown hK hT hr_o0 shc_3 rfl 14 (by decide) (ht_at2 hts 11 rfl) (fun _ h9 => h9) dX0_reap_39 (fun v9 m236 h9 => ?_)
        obtain ⟨x237, rfl, gx237, kx237⟩ := h9 _ rfl
        refine lv_icmp_ge (tgt := 106) hx hb dX0_reap_42 (by decide) (fun c238 => ?_) (fun c238 => (by exfalso; have q9 : ((60 : Nat) : Int) < x237.toInt := ti_nle c238 rfl (nI_toInt (by omega)); omega))
        have t239 : x237.toInt ≤ ((60 : Nat) : Int) := ti_le c238 rfl (nI_toInt (by omega))
        exact jn221 (nI 60) z18 x237 ⟨(rg_t (a := ((60 : Nat) : Int)) (nI_toInt (by omega)) (by omega) (by omega)), (by have q8 := ti_all x237; omega)⟩ _ _ hT hF hS m19 m236 ls (lv_sub hl [0, 1, 2, 3, 4] rfl)
      | succ n234 ih234 =>
        intro i17 hn234 hlo235 z18 H locs hT hF hS m19 ls hl
        have hlt239 : i17 < 60 := by omega
        refine lv_iload hx hb dX0_reap_36 (lv_at hl 0 rfl) ?_
        refine lv_aload_n hx hb dX0_reap_38 rfl (lv_at hl 3 rfl) ?_
        refine tw_get hx hb hts bF2_X0 hown hK hT hr_o0 shc_3 rfl 14 (by decide) (ht_at2 hts 11 rfl) (fun _ h9 => h9) dX0_reap_39 (fun v9 m240 h9 => ?_)
        obtain ⟨x241, rfl, gx241, kx241⟩ := h9 _ rfl
        refine lv_icmp_ge (tgt := 106) hx hb dX0_reap_42 (by decide) (fun c242 => ?_) (fun c242 => ?_)
        · have t243 : x241.toInt ≤ ((i17 : Nat) : Int) := ti_le c242 rfl (nI_toInt (by omega))
          exact jn221 (nI i17) z18 x241 ⟨(rg_t (a := ((i17 : Nat) : Int)) (nI_toInt (by omega)) (by omega) (by omega)), (by have q8 := ti_all x241; omega)⟩ _ _ hT hF hS m19 m240 ls (lv_sub hl [0, 1, 2, 3, 4] rfl)
        · have t244 : ((i17 : Nat) : Int) < x241.toInt := ti_nle c242 rfl (nI_toInt (by omega))
          refine lv_aload_n hx hb dX0_reap_45 rfl (lv_at hl 3 rfl) ?_
          refine tw_get hx hb hts bF2_X0 hown hK hT hr_o0 shc_3 rfl 0 (by decide) (ht_at2 hts 12 rfl) (fun _ h9 => h9) dX0_reap_46 (fun v9 m245 h9 => ?_)
          obtain ⟨b246, rfl, hg247⟩ := h9 _ rfl
          refine lv_iload hx hb dX0_reap_49 (lv_at hl 0 rfl) ?_
          refine tw_aald (i := (nI i17)) hx hb hK hT hg247 shc_51 rfl (vp_in_nI (by omega) (by decide)) dX0_reap_51 (fun v9 m248 h9 => ?_)
          obtain ⟨b249, rfl, hg250⟩ := (h9.1 (by have q9 := tn_of (show (nI i17).toInt = ((i17 : Nat) : Int) from (nI_toInt (by omega))) (by omega); omega))
          refine tw_getN hx hb hts bF2_X7 hown hK hT hg250 shc_10 rfl 7 (by decide) (hE.nw 61 rfl) (fun _ h9 => h9) dX0_reap_52 (fun v9 m251 h9 => ?_)
          obtain ⟨x252, rfl, gx252, kx252⟩ := h9 _ rfl
          refine lv_iconst (v := (-1)) hx hb dX0_reap_55 (by decide) ?_
          refine lv_icmp_eq (tgt := 89) hx hb dX0_reap_56 (by decide) (fun c253 => ?_) (fun c253 => ?_)
          · have t254 : x252.toInt = (-1) := ti_eq c253 rfl (by decide)
            refine lv_aload_n hx hb dX0_reap_89 rfl (lv_at hl 3 rfl) ?_
            refine tw_getM (v := .ref b246) hx hb hts bF2_X0 hown hK hT hr_o0 shc_3 rfl 0 (by decide) (ht_at2 hts 12 rfl) (fun _ h9 => h9) m245 dX0_reap_90 ?_
            refine lv_iload hx hb dX0_reap_93 (lv_at hl 0 rfl) ?_
            refine tw_aald (i := (nI i17)) hx hb hK hT hg247 shc_51 rfl (vp_in_nI (by omega) (by decide)) dX0_reap_95 (fun v9 m255 h9 => ?_)
            obtain ⟨b256, rfl, hg257⟩ := (h9.1 (by have q9 := tn_of (show (nI i17).toInt = ((i17 : Nat) : Int) from (nI_toInt (by omega))) (by omega); omega))
            obtain rfl : b249 = b256 := (el_sameR m255 m248 (show (nI i17).toInt = (nI i17).toInt from by have q9 := (show (nI i17).toInt = ((i17 : Nat) : Int) from (nI_toInt (by omega))); have q8 := (show (nI i17).toInt = ((i17 : Nat) : Int) from (nI_toInt (by omega))); omega)).symm
            refine lv_iconst (v := 0) hx hb dX0_reap_96 (by decide) ?_
            refine tw_putN (v := .int 0) (ty := .boolean) hx hb hts bF2_X7 tyX7 tyX7_ok nmX7 hown hK hT hG hS hg250 shc_10 rfl 10 (by decide) (hE.nw 75 rfl) (fun _ h9 => h9) rfl (by decide +kernel) rfl rfl (gl_at rfl (gi_of (show (0 : Int32).toInt = 0 from (by decide)) (by first | decide | omega) (by first | decide | omega))) dX0_reap_97 (fun H locs hT oq m258 oj hS => ?_)
            have hF := hF.put hg250 skc_10 oq oj (by decide)
            have m259 := (el_kept (oq _ (gne hr_o0 hg250 (by decide)))).trans m19
            refine lv_iinc (v := nI (i17 + 1)) (lv' := [(4, .int (nI (i17 + 1))), (3, .int z18), (2, .int x6), (0, .ref o0), (1, .ref p0)]) hx hb dX0_reap_100 hl (k := 0) rfl (nI_add i17 1) (by decide) rfl (fun ls hl => ?_)
            refine lv_goto (tgt := 36) hx hb dX0_reap_103 (by decide) ?_
            exact ih234 (i17 + 1) (by omega) (by omega) z18 _ _ hT hF hS m259 ls (lv_sub hl [0, 1, 2, 3, 4] rfl)
          · have t264 : x252.toInt ≠ (-1) := ti_ne c253 rfl (by decide)
            refine lv_iload_n hx hb dX0_reap_59 rfl (lv_at hl 1 rfl) ?_
            refine lv_aload_n hx hb dX0_reap_60 rfl (lv_at hl 3 rfl) ?_
            refine lv_aload_n hx hb dX0_reap_61 rfl (lv_at hl 3 rfl) ?_
            refine tw_getM (v := .ref b246) hx hb hts bF2_X0 hown hK hT hr_o0 shc_3 rfl 0 (by decide) (ht_at2 hts 12 rfl) (fun _ h9 => h9) m245 dX0_reap_62 ?_
            refine lv_iload hx hb dX0_reap_65 (lv_at hl 0 rfl) ?_
            refine tw_aald (i := (nI i17)) hx hb hK hT hg247 shc_51 rfl (vp_in_nI (by omega) (by decide)) dX0_reap_67 (fun v9 m265 h9 => ?_)
            obtain ⟨b266, rfl, hg267⟩ := (h9.1 (by have q9 := tn_of (show (nI i17).toInt = ((i17 : Nat) : Int) from (nI_toInt (by omega))) (by omega); omega))
            obtain rfl : b249 = b266 := (el_sameR m265 m248 (show (nI i17).toInt = (nI i17).toInt from by have q9 := (show (nI i17).toInt = ((i17 : Nat) : Int) from (nI_toInt (by omega))); have q8 := (show (nI i17).toInt = ((i17 : Nat) : Int) from (nI_toInt (by omega))); omega)).symm
            refine lv_aload_n hx hb dX0_reap_68 rfl (lv_at hl 4 rfl) ?_
            refine tw_getN hx hb hts bF2_X3 hown hK hT hr_p0 shc_6 rfl 1 (by decide) (hE.nw 73 rfl) (fun _ h9 => h9) dX0_reap_69 (fun v9 m268 h9 => ?_)
            obtain ⟨b269, rfl, hg270⟩ := h9 _ rfl
            have hFc := gA_free hG hA hS
            refine va_calli (va_runV (As := [.ref b249, .ref b269]) (rest := [.int z18]) ⟨hx, hb, hml, hown, hts⟩ (c_reapFor l dC dI kA adK adV G H nC nS o0 b249 b269 x252 hT hg250 hg270 hr_o0 m251 (by have q8 := ti_all x252; omega) (by omega) (by omega)) (cwV 2 hts (goodIn_app (goodIn_r _ [21, 22, 23, 20] rfl (by decide +kernel)) (goodIn_ca (goodIn_r _ [14, 15, 16, 17, 18, 19, 20] rfl (by decide +kernel)) (bs2_in _ _))) rfl rfl rfl (by decide +kernel) ⟨(Nat.le_of_ble_eq_true rfl), (Nat.le_of_ble_eq_true rfl)⟩) ⟨fun a U g mk q => by obtain ⟨q0, q1, qK, qE⟩ := q; exact ⟨q0, q1, va_K.moved (u := U) (U := U.calling g mk a) (Vm.Alike.refl U.vm) qK, EVC.blind g mk a qE⟩, gH_rc hK hT hr_o0 shc_3 rfl, fun U hU hW => ⟨rfl, hU, va_K.moved hW.alike hK, hE.call hS hFc hU hW⟩⟩ rfl rfl hl.1 rfl (lv_room (Nat.le_of_ble_eq_true rfl)) dX0_reap_72 ⟨(Nat.le_of_ble_eq_true rfl), (Nat.le_of_ble_eq_true rfl)⟩) hS (fun q _ h => hFc q h) hFc (fun r271 u t H locs ht hvm hw272 hB _ _ hS => ?_)
            obtain ⟨hT, hF1⟩ := hB
            rw [ht] at hT hF1
            have m273 := (hF1.fld hr_o0 skc_3 (k := 4) (by decide) (by decide)).trans m19
            have m275 := (hF1.fld hr_o0 skc_3 (k := 0) (by decide) (by decide)).trans m245
            have m276 := (el_kept (hF1.arr hg247 skc_51 (by decide))).trans m248
            have hF := hF.more hF1 (by decide)
            try dsimp only at hw272
            refine lv_iadd hx hb dX0_reap_75 ?_
            refine lv_topi (fun x279 ex279 => ?_)
            refine lv_istore_n (lv' := [(3, .int x279), (4, .int (nI i17)), (2, .int x6), (0, .ref o0), (1, .ref p0)]) hx hb dX0_reap_76 rfl hl (by decide) rfl (fun ls hl => ?_)
            refine lv_aload_n hx hb dX0_reap_77 rfl (lv_at hl 3 rfl) ?_
            refine lv_aload_n hx hb dX0_reap_78 rfl (lv_at hl 3 rfl) ?_
            refine tw_getM (v := .ref b246) hx hb hts bF2_X0 hown hK hT hr_o0 shc_3 rfl 0 (by decide) (ht_at2 hts 12 rfl) (fun _ h9 => h9) m275 dX0_reap_79 ?_
            refine lv_iload hx hb dX0_reap_82 (lv_at hl 1 rfl) ?_
            refine tw_aald (i := (nI i17)) hx hb hK hT hg247 shc_51 rfl (vp_in_nI (by omega) (by decide)) dX0_reap_84 (fun v9 m280 h9 => ?_)
            obtain ⟨b281, rfl, hg282⟩ := (h9.1 (by have q9 := tn_of (show (nI i17).toInt = ((i17 : Nat) : Int) from (nI_toInt (by omega))) (by omega); omega))
            obtain rfl : b249 = b281 := (el_sameR m280 m276 (show (nI i17).toInt = (nI i17).toInt from by have q9 := (show (nI i17).toInt = ((i17 : Nat) : Int) from (nI_toInt (by omega))); have q8 := (show (nI i17).toInt = ((i17 : Nat) : Int) from (nI_toInt (by omega))); omega)).symm
            refine lv_aload_n hx hb dX0_reap_85 rfl (lv_at hl 4 rfl) ?_
            have hFc := gA_free hG hA hS
            refine va_callv (va_runV (As := [.ref b249, .ref p0]) (rest := []) ⟨hx, hb, hml, hown, hts⟩ (c_payDues l dC dI kA adK adV G H nC nS o0 b249 p0 hT hg250 hr_p0 hr_o0 (by omega) (by omega)) (cwV 2 hts (goodIn_app (goodIn_r _ [99, 100, 101, 20] rfl (by decide +kernel)) (goodIn_ca (goodIn_r _ [24, 25, 26, 27, 15, 28, 29, 30, 20, 31, 32, 33, 34, 35, 36, 37, 38, 39, 40, 41, 42, 43, 9, 44, 45, 46, 47, 8, 10, 48, 49, 50, 6, 7, 51, 52, 53, 54, 55, 56, 57, 58, 59, 60, 61, 62, 63, 64, 65, 66, 67, 68, 69, 70, 71, 72, 73, 74, 75, 76, 77, 78, 79, 80, 81, 82, 83, 84, 85, 86, 87, 88, 89, 90, 91, 92, 93, 94, 95, 96, 97, 98] rfl (by decide +kernel)) (bs2_in _ _))) rfl rfl rfl (by decide +kernel) ⟨(Nat.le_of_ble_eq_true rfl), (Nat.le_of_ble_eq_true rfl)⟩) ⟨fun a U g mk q => by obtain ⟨q0, q1, qK, qE⟩ := q; exact ⟨q0, q1, va_K.moved (u := U) (U := U.calling g mk a) (Vm.Alike.refl U.vm) qK, EVC.blind g mk a qE⟩, gH_rc hK hT hr_o0 shc_3 rfl, fun U hU hW => ⟨rfl, hU, va_K.moved hW.alike hK, hE.call hS hFc hU hW⟩⟩ rfl rfl hl.1 rfl (lv_room (Nat.le_of_ble_eq_true rfl)) dX0_reap_86 ⟨(Nat.le_of_ble_eq_true rfl), (Nat.le_of_ble_eq_true rfl)⟩) hS (fun q _ h => hFc q h) hFc (fun u t H locs ht hvm hw284 hB _ _ hS => ?_)
            obtain ⟨hT, hF1⟩ := hB
            rw [ht] at hT hF1
            have m285 := (hF1.fld hr_o0 skc_3 (k := 4) (by decide) (by decide)).trans m273
            have m287 := (hF1.fld hr_o0 skc_3 (k := 0) (by decide) (by decide)).trans m275
            have m288 := (el_kept (hF1.arr hg247 skc_51 (by decide))).trans m276
            have hF := hF.more hF1 (by decide)
            try dsimp only at hw284
            refine lv_aload_n hx hb dX0_reap_89 rfl (lv_at hl 3 rfl) ?_
            refine tw_getM (v := .ref b246) hx hb hts bF2_X0 hown hK hT hr_o0 shc_3 rfl 0 (by decide) (ht_at2 hts 12 rfl) (fun _ h9 => h9) m287 dX0_reap_90 ?_
            refine lv_iload hx hb dX0_reap_93 (lv_at hl 1 rfl) ?_
            refine tw_aald (i := (nI i17)) hx hb hK hT hg247 shc_51 rfl (vp_in_nI (by omega) (by decide)) dX0_reap_95 (fun v9 m291 h9 => ?_)
            obtain ⟨b292, rfl, hg293⟩ := (h9.1 (by have q9 := tn_of (show (nI i17).toInt = ((i17 : Nat) : Int) from (nI_toInt (by omega))) (by omega); omega))
            obtain rfl : b249 = b292 := (el_sameR m291 m288 (show (nI i17).toInt = (nI i17).toInt from by have q9 := (show (nI i17).toInt = ((i17 : Nat) : Int) from (nI_toInt (by omega))); have q8 := (show (nI i17).toInt = ((i17 : Nat) : Int) from (nI_toInt (by omega))); omega)).symm
            refine lv_iconst (v := 0) hx hb dX0_reap_96 (by decide) ?_
            refine tw_putN (v := .int 0) (ty := .boolean) hx hb hts bF2_X7 tyX7 tyX7_ok nmX7 hown hK hT hG hS hg250 shc_10 rfl 10 (by decide) (hE.nw 75 rfl) (fun _ h9 => h9) rfl (by decide +kernel) rfl rfl (gl_at rfl (gi_of (show (0 : Int32).toInt = 0 from (by decide)) (by first | decide | omega) (by first | decide | omega))) dX0_reap_97 (fun H locs hT oq m294 oj hS => ?_)
            have hF := hF.put hg250 skc_10 oq oj (by decide)
            have m295 := (el_kept (oq _ (gne hr_o0 hg250 (by decide)))).trans m285
            refine lv_iinc (v := nI (i17 + 1)) (lv' := [(4, .int (nI (i17 + 1))), (3, .int x279), (2, .int x6), (0, .ref o0), (1, .ref p0)]) hx hb dX0_reap_100 hl (k := 1) rfl (nI_add i17 1) (by decide) rfl (fun ls hl => ?_)
            refine lv_goto (tgt := 36) hx hb dX0_reap_103 (by decide) ?_
            exact ih234 (i17 + 1) (by omega) (by omega) x279 _ _ hT hF hS m295 ls (lv_sub hl [0, 1, 2, 3, 4] rfl)
    exact key234 (60 - 0) 0 (by omega) (Nat.le_refl _) 0 _ _ hT hF hS m16 ls (lv_sub hl [0, 1, 2, 3, 4] rfl)
  · have t301 : x12.toInt ≠ 0 := ti_ne c13 rfl (by decide)
    refine lv_iconst (v := (-1)) hx hb dX0_reap_22 (by decide) ?_
    exact W.iret (v := (-1)) hx hb hr (fun t ht hW => ⟨⟨(-1), (), rfl, (by exact trivial), by (try dsimp only); rw [ht]; exact ⟨hT, hF⟩⟩, hS.F ht⟩) hS.2.2 dX0_reap_23
def w_c_debtorsAheadOf : List Cond := .code yX0_debtorsAheadOf cX0_debtorsAheadOf 5 (some .int) :: (HAppend.hAppend (α := List Cond) (β := List Cond) (γ := List Cond) [.fieldLink RX0 75 "SeaLand$Board" "settled" "I", .fieldLink RX0 11 "SeaLand$Board" "settlers" "[LSeaLand$Settler;"] bs2)
set_option maxHeartbeats 4000000 in
set_option maxRecDepth 100000 in
theorem c_debtorsAheadOf (l : Launch) (dC : Nat → ClassId) (dI : Nat → Nat → Nat) (kA : Nat → ClassId) (adK adV : Nat → Nat) (G : gT) (H0 : Heap) (nC nS : Int) (o0 : Nat) (p0 : Int32)  (hT : gH (dC, dI) kA (SHc nC nS) G H0) (hr_o0 : G o0 = some 3) (hq0 : 0 ≤ p0.toInt ∧ p0.toInt ≤ 59) (hps : p0.toInt < nS) (hgC : 0 ≤ nC ∧ nC ≤ 40) (hgS : 0 ≤ nS ∧ nS ≤ 60) : Met l yX0_debtorsAheadOf w_c_debtorsAheadOf ({ frames := 0, cells := 0, slots := 0, locals := 0 }) (va_Pc [.ref o0, .int p0] (fun U => U.heap = H0 ∧ va_K (dC, dI) vwCl (tyl kA) U ∧ EVC adK adV (gA G H0.size) U U.heap)) (va_Qi (fun (r : Int32) (u : Unit) => True) (fun (_ : Unit) (t : State) => gH (dC, dI) kA (SHc nC nS) G t.heap ∧ gF (dC, dI) SKc G ([] : List (Nat × Nat)) H0 t.heap) (gA G H0.size)) 0 0 (gA G H0.size) := by
  refine Met.ofW (cc := cX0_debtorsAheadOf) (maxL := 5) (ret := (some .int)) (by decide) rfl ?_
  intro p e s m args below meth c s₁ B hml hv
  obtain ⟨rfl, hH0, hK, hE⟩ := hv
  have hx := B.exec
  have hb := B.bytes
  have hr := B.returns
  have hts := atoms_spec (ws := w_c_debtorsAheadOf) B.pre
  have hown : s.vm.findClass RX0 = some m.cls := findClass_of_methodNamed B.named
  have hlocks := B.notSynchronized
  subst hH0
  generalize hAe : gA G s.heap.size = A at hE ⊢
  have hA : ∀ q : Nat, s.heap.size ≤ q → A q := fun q h => by rw [← hAe]; exact Or.inr h
  have hG := gA_of hAe
  have hS : va_S A s.heap s.heap [] := va_S.rf
  have hF : gF (dC, dI) SKc G ([] : List (Nat × Nat)) s.heap s.heap := gF.rf
  have hl := lv_entry ([.ref o0, .int p0]) (n := 5) (Nat.le_of_ble_eq_true rfl)
  rw [lg_entry_eq]
  generalize (lg_sl ([.ref o0, .int p0]) ++ List.replicate (5 - (lg_sl ([.ref o0, .int p0])).length) Slot.unset).toArray = ls at hl ⊢
  have hl : lv_has ls 5 [(0, .ref o0), (1, .int p0)] := hl
  refine lv_iconst (v := 0) hx hb dX0_debtorsAheadOf_0 (by decide) ?_
  refine lv_istore_n (lv' := [(2, .int 0), (0, .ref o0), (1, .int p0)]) hx hb dX0_debtorsAheadOf_1 rfl hl (by decide) rfl (fun ls hl => ?_)
  refine lv_iconst (v := 0) hx hb dX0_debtorsAheadOf_2 (by decide) ?_
  refine lv_istore_n (lv' := [(3, .int 0), (2, .int 0), (0, .ref o0), (1, .int p0)]) hx hb dX0_debtorsAheadOf_3 rfl hl (by decide) rfl (fun ls hl => ?_)
  have key40 : ∀ (n40 i1 : Nat), i1 + n40 = 59 → 0 ≤ i1 → ∀ (z2 : Int32), ∀ (H : Heap) (locs : List Loc), gH (dC, dI) kA (SHc nC nS) G H → gF (dC, dI) SKc G ([] : List (Nat × Nat)) s.heap H → va_S A s.heap H locs → ∀ ls : Array Slot, lv_has ls 5 [(3, .int (nI i1)), (2, .int z2), (0, .ref o0), (1, .int p0)] → W p l e (headSpec w_c_debtorsAheadOf ({ frames := 0, cells := 0, slots := 0, locals := 0 })).room s m #[.ref o0, .int p0] below meth c H locs 0 0 (MQ below (va_Qi (fun (r : Int32) (u : Unit) => True) (fun (_ : Unit) (t : State) => gH (dC, dI) kA (SHc nC nS) G t.heap ∧ gF (dC, dI) SKc G ([] : List (Nat × Nat)) s.heap t.heap) A) #[.ref o0, .int p0] s 0 0 A) (F0 m 4 ls []) := by
    intro n40
    induction n40 with
    | zero =>
      intro i1 hn40 hlo41 z2 H locs hT hF hS  ls hl
      obtain rfl : 59 = i1 := by omega
      refine lv_iload_n hx hb dX0_debtorsAheadOf_4 rfl (lv_at hl 0 rfl) ?_
      refine lv_aload_n hx hb dX0_debtorsAheadOf_5 rfl (lv_at hl 2 rfl) ?_
      refine tw_get hx hb hts bF2_X0 hown hK hT hr_o0 shc_3 rfl 14 (by decide) (ht_at2 hts 0 rfl) (fun _ h9 => h9) dX0_debtorsAheadOf_6 (fun v9 m42 h9 => ?_)
      obtain ⟨x43, rfl, gx43, kx43⟩ := h9 _ rfl
      refine lv_icmp_ge (tgt := 62) hx hb dX0_debtorsAheadOf_9 (by decide) (fun c44 => ?_) (fun c44 => ?_)
      · have t45 : x43.toInt ≤ ((59 : Nat) : Int) := ti_le c44 rfl (nI_toInt (by omega))
        refine lv_iload_n hx hb dX0_debtorsAheadOf_62 rfl (lv_at hl 1 rfl) ?_
        exact W.iret (v := z2) hx hb hr (fun t ht hW => ⟨⟨z2, (), rfl, (by exact trivial), by (try dsimp only); rw [ht]; exact ⟨hT, hF⟩⟩, hS.F ht⟩) hS.2.2 dX0_debtorsAheadOf_63
      · have t46 : ((59 : Nat) : Int) < x43.toInt := ti_nle c44 rfl (nI_toInt (by omega))
        refine lv_aload_n hx hb dX0_debtorsAheadOf_12 rfl (lv_at hl 2 rfl) ?_
        refine tw_get hx hb hts bF2_X0 hown hK hT hr_o0 shc_3 rfl 0 (by decide) (ht_at2 hts 1 rfl) (fun _ h9 => h9) dX0_debtorsAheadOf_13 (fun v9 m47 h9 => ?_)
        obtain ⟨b48, rfl, hg49⟩ := h9 _ rfl
        refine lv_iload_n hx hb dX0_debtorsAheadOf_16 rfl (lv_at hl 0 rfl) ?_
        refine tw_aald (i := (nI 59)) hx hb hK hT hg49 shc_51 rfl (vp_in_nI (by omega) (by decide)) dX0_debtorsAheadOf_17 (fun v9 m50 h9 => ?_)
        obtain ⟨b51, rfl, hg52⟩ := (h9.1 (by have q9 := tn_of (show (nI 59).toInt = ((59 : Nat) : Int) from (nI_toInt (by omega))) (by omega); omega))
        refine tw_getN hx hb hts bF2_X7 hown hK hT hg52 shc_10 rfl 9 (by decide) (hE.nw 69 rfl) (fun _ h9 => h9) dX0_debtorsAheadOf_18 (fun v9 m53 h9 => ?_)
        obtain ⟨x54, rfl, gx54, kx54⟩ := h9 _ rfl
        refine lv_aload_n hx hb dX0_debtorsAheadOf_21 rfl (lv_at hl 2 rfl) ?_
        refine tw_getM (v := .ref b48) hx hb hts bF2_X0 hown hK hT hr_o0 shc_3 rfl 0 (by decide) (ht_at2 hts 1 rfl) (fun _ h9 => h9) m47 dX0_debtorsAheadOf_22 ?_
        refine lv_iload_n hx hb dX0_debtorsAheadOf_25 rfl (lv_at hl 3 rfl) ?_
        refine tw_aald (i := p0) hx hb hK hT hg49 shc_51 rfl (vin_t (a := p0.toInt) rfl (by omega) (by omega)) dX0_debtorsAheadOf_26 (fun v9 m55 h9 => ?_)
        obtain ⟨b56, rfl, hg57⟩ := (h9.1 (by have q9 := tn_of (show p0.toInt = p0.toInt from rfl) (by omega); omega))
        refine tw_getN hx hb hts bF2_X7 hown hK hT hg57 shc_10 rfl 9 (by decide) (hE.nw 69 rfl) (fun _ h9 => h9) dX0_debtorsAheadOf_27 (fun v9 m58 h9 => ?_)
        obtain ⟨x59, rfl, gx59, kx59⟩ := h9 _ rfl
        refine lv_isub hx hb dX0_debtorsAheadOf_30 ?_
        refine lv_topi (fun x60 ex60 => ?_)
        refine lv_istore (lv' := [(4, .int x60), (3, .int (nI 59)), (2, .int z2), (0, .ref o0), (1, .int p0)]) hx hb dX0_debtorsAheadOf_31 hl (by decide) rfl (fun ls hl => ?_)
        refine lv_iload_n hx hb dX0_debtorsAheadOf_33 rfl (lv_at hl 2 rfl) ?_
        refine lv_iload hx hb dX0_debtorsAheadOf_34 (lv_at hl 0 rfl) ?_
        have t61 : -2147483648 ≤ x60.toInt ∧ x60.toInt ≤ 2147483647 := ti_all x60
        refine lv_if_gt (tgt := 49) hx hb dX0_debtorsAheadOf_36 (by decide) (fun c62 => ?_) (fun c62 => ?_)
        · have t63 : 0 < x60.toInt := ti_lt c62 (by decide) rfl
          refine lv_iconst (v := 1) hx hb dX0_debtorsAheadOf_49 (by decide) ?_
          refine lv_goto (tgt := 54) hx hb dX0_debtorsAheadOf_50 (by decide) ?_
          refine lv_iadd hx hb dX0_debtorsAheadOf_54 ?_
          refine lv_topi (fun x64 ex64 => ?_)
          refine lv_istore_n (lv' := [(2, .int x64), (4, .int x60), (3, .int (nI 59)), (0, .ref o0), (1, .int p0)]) hx hb dX0_debtorsAheadOf_55 rfl hl (by decide) rfl (fun ls hl => ?_)
          refine lv_iinc (v := nI (59 + 1)) (lv' := [(3, .int (nI (59 + 1))), (2, .int x64), (4, .int x60), (0, .ref o0), (1, .int p0)]) hx hb dX0_debtorsAheadOf_56 hl (k := 2) rfl (nI_add 59 1) (by decide) rfl (fun ls hl => ?_)
          refine lv_goto (tgt := 4) hx hb dX0_debtorsAheadOf_59 (by decide) ?_
          have key74 : ∀ (n74 i65 : Nat), i65 + n74 = 60 → (59 + 1) ≤ i65 → ∀ (H : Heap) (locs : List Loc), gH (dC, dI) kA (SHc nC nS) G H → gF (dC, dI) SKc G ([] : List (Nat × Nat)) s.heap H → va_S A s.heap H locs → el H o0 (dI 3 14) = some (.int x43) → el H o0 (dI 3 0) = some (.ref b48) → el H b48 (nI 59).toNatClampNeg = some (.ref b51) → el H b51 (dI 10 9) = some (.int x54) → el H b48 p0.toNatClampNeg = some (.ref b56) → el H b56 (dI 10 9) = some (.int x59) → ∀ ls : Array Slot, lv_has ls 5 [(3, .int (nI i65)), (2, .int x64), (4, .int x60), (0, .ref o0), (1, .int p0)] → W p l e (headSpec w_c_debtorsAheadOf ({ frames := 0, cells := 0, slots := 0, locals := 0 })).room s m #[.ref o0, .int p0] below meth c H locs 0 0 (MQ below (va_Qi (fun (r : Int32) (u : Unit) => True) (fun (_ : Unit) (t : State) => gH (dC, dI) kA (SHc nC nS) G t.heap ∧ gF (dC, dI) SKc G ([] : List (Nat × Nat)) s.heap t.heap) A) #[.ref o0, .int p0] s 0 0 A) (F0 m 4 ls []) := by
            intro n74
            induction n74 with
            | zero =>
              intro i65 hn74 hlo75  H locs hT hF hS m66 m67 m68 m69 m70 m71 ls hl
              obtain rfl : 60 = i65 := by omega
              refine lv_iload_n hx hb dX0_debtorsAheadOf_4 rfl (lv_at hl 0 rfl) ?_
              refine lv_aload_n hx hb dX0_debtorsAheadOf_5 rfl (lv_at hl 3 rfl) ?_
              refine tw_getM (v := .int x43) hx hb hts bF2_X0 hown hK hT hr_o0 shc_3 rfl 14 (by decide) (ht_at2 hts 0 rfl) (fun _ h9 => h9) m66 dX0_debtorsAheadOf_6 ?_
              refine lv_icmp_ge (tgt := 62) hx hb dX0_debtorsAheadOf_9 (by decide) (fun c76 => ?_) (fun c76 => (by exfalso; have q9 : ((60 : Nat) : Int) < x43.toInt := ti_nle c76 rfl (nI_toInt (by omega)); omega))
              have t77 : x43.toInt ≤ ((60 : Nat) : Int) := ti_le c76 rfl (nI_toInt (by omega))
              refine lv_iload_n hx hb dX0_debtorsAheadOf_62 rfl (lv_at hl 1 rfl) ?_
              exact W.iret (v := x64) hx hb hr (fun t ht hW => ⟨⟨x64, (), rfl, (by exact trivial), by (try dsimp only); rw [ht]; exact ⟨hT, hF⟩⟩, hS.F ht⟩) hS.2.2 dX0_debtorsAheadOf_63
            | succ n74 ih74 =>
              intro i65 hn74 hlo75  H locs hT hF hS m66 m67 m68 m69 m70 m71 ls hl
              have hlt77 : i65 < 60 := by omega
              refine lv_iload_n hx hb dX0_debtorsAheadOf_4 rfl (lv_at hl 0 rfl) ?_
              refine lv_aload_n hx hb dX0_debtorsAheadOf_5 rfl (lv_at hl 3 rfl) ?_
              refine tw_getM (v := .int x43) hx hb hts bF2_X0 hown hK hT hr_o0 shc_3 rfl 14 (by decide) (ht_at2 hts 0 rfl) (fun _ h9 => h9) m66 dX0_debtorsAheadOf_6 ?_
              refine lv_icmp_ge (tgt := 62) hx hb dX0_debtorsAheadOf_9 (by decide) (fun c78 => ?_) (fun c78 => (by exfalso; have q9 : ((i65 : Nat) : Int) < x43.toInt := ti_nle c78 rfl (nI_toInt (by omega)); omega))
              have t79 : x43.toInt ≤ ((i65 : Nat) : Int) := ti_le c78 rfl (nI_toInt (by omega))
              refine lv_iload_n hx hb dX0_debtorsAheadOf_62 rfl (lv_at hl 1 rfl) ?_
              exact W.iret (v := x64) hx hb hr (fun t ht hW => ⟨⟨x64, (), rfl, (by exact trivial), by (try dsimp only); rw [ht]; exact ⟨hT, hF⟩⟩, hS.F ht⟩) hS.2.2 dX0_debtorsAheadOf_63
          exact key74 (60 - (59 + 1)) (59 + 1) (by omega) (Nat.le_refl _) _ _ hT hF hS m42 m47 m50 m53 m55 m58 ls (lv_sub hl [0, 1, 2, 3, 4] rfl)
        · have t80 : x60.toInt ≤ 0 := ti_nlt c62 (by decide) rfl
          refine lv_iload hx hb dX0_debtorsAheadOf_39 (lv_at hl 0 rfl) ?_
          refine lv_if_ne (tgt := 53) hx hb dX0_debtorsAheadOf_41 (by decide) (fun c81 => ?_) (fun c81 => ?_)
          · have t82 : x60.toInt ≠ 0 := ti_ne c81 rfl (by decide)
            refine lv_iconst (v := 0) hx hb dX0_debtorsAheadOf_53 (by decide) ?_
            refine lv_iadd hx hb dX0_debtorsAheadOf_54 ?_
            refine lv_topi (fun x83 ex83 => ?_)
            have t84 : -2147483648 ≤ z2.toInt ∧ z2.toInt ≤ 2147483647 := ti_all z2
            have t85 : x83.toInt = z2.toInt + 0 := ti_add ex83 rfl (by decide) (by omega) (by omega)
            refine lv_istore_n (lv' := [(2, .int x83), (4, .int x60), (3, .int (nI 59)), (0, .ref o0), (1, .int p0)]) hx hb dX0_debtorsAheadOf_55 rfl hl (by decide) rfl (fun ls hl => ?_)
            refine lv_iinc (v := nI (59 + 1)) (lv' := [(3, .int (nI (59 + 1))), (2, .int x83), (4, .int x60), (0, .ref o0), (1, .int p0)]) hx hb dX0_debtorsAheadOf_56 hl (k := 2) rfl (nI_add 59 1) (by decide) rfl (fun ls hl => ?_)
            refine lv_goto (tgt := 4) hx hb dX0_debtorsAheadOf_59 (by decide) ?_
            have key95 : ∀ (n95 i86 : Nat), i86 + n95 = 60 → (59 + 1) ≤ i86 → ∀ (H : Heap) (locs : List Loc), gH (dC, dI) kA (SHc nC nS) G H → gF (dC, dI) SKc G ([] : List (Nat × Nat)) s.heap H → va_S A s.heap H locs → el H o0 (dI 3 14) = some (.int x43) → el H o0 (dI 3 0) = some (.ref b48) → el H b48 (nI 59).toNatClampNeg = some (.ref b51) → el H b51 (dI 10 9) = some (.int x54) → el H b48 p0.toNatClampNeg = some (.ref b56) → el H b56 (dI 10 9) = some (.int x59) → ∀ ls : Array Slot, lv_has ls 5 [(3, .int (nI i86)), (2, .int x83), (4, .int x60), (0, .ref o0), (1, .int p0)] → W p l e (headSpec w_c_debtorsAheadOf ({ frames := 0, cells := 0, slots := 0, locals := 0 })).room s m #[.ref o0, .int p0] below meth c H locs 0 0 (MQ below (va_Qi (fun (r : Int32) (u : Unit) => True) (fun (_ : Unit) (t : State) => gH (dC, dI) kA (SHc nC nS) G t.heap ∧ gF (dC, dI) SKc G ([] : List (Nat × Nat)) s.heap t.heap) A) #[.ref o0, .int p0] s 0 0 A) (F0 m 4 ls []) := by
              intro n95
              induction n95 with
              | zero =>
                intro i86 hn95 hlo96  H locs hT hF hS m87 m88 m89 m90 m91 m92 ls hl
                obtain rfl : 60 = i86 := by omega
                refine lv_iload_n hx hb dX0_debtorsAheadOf_4 rfl (lv_at hl 0 rfl) ?_
                refine lv_aload_n hx hb dX0_debtorsAheadOf_5 rfl (lv_at hl 3 rfl) ?_
                refine tw_getM (v := .int x43) hx hb hts bF2_X0 hown hK hT hr_o0 shc_3 rfl 14 (by decide) (ht_at2 hts 0 rfl) (fun _ h9 => h9) m87 dX0_debtorsAheadOf_6 ?_
                refine lv_icmp_ge (tgt := 62) hx hb dX0_debtorsAheadOf_9 (by decide) (fun c97 => ?_) (fun c97 => (by exfalso; have q9 : ((60 : Nat) : Int) < x43.toInt := ti_nle c97 rfl (nI_toInt (by omega)); omega))
                have t98 : x43.toInt ≤ ((60 : Nat) : Int) := ti_le c97 rfl (nI_toInt (by omega))
                refine lv_iload_n hx hb dX0_debtorsAheadOf_62 rfl (lv_at hl 1 rfl) ?_
                exact W.iret (v := x83) hx hb hr (fun t ht hW => ⟨⟨x83, (), rfl, (by exact trivial), by (try dsimp only); rw [ht]; exact ⟨hT, hF⟩⟩, hS.F ht⟩) hS.2.2 dX0_debtorsAheadOf_63
              | succ n95 ih95 =>
                intro i86 hn95 hlo96  H locs hT hF hS m87 m88 m89 m90 m91 m92 ls hl
                have hlt98 : i86 < 60 := by omega
                refine lv_iload_n hx hb dX0_debtorsAheadOf_4 rfl (lv_at hl 0 rfl) ?_
                refine lv_aload_n hx hb dX0_debtorsAheadOf_5 rfl (lv_at hl 3 rfl) ?_
                refine tw_getM (v := .int x43) hx hb hts bF2_X0 hown hK hT hr_o0 shc_3 rfl 14 (by decide) (ht_at2 hts 0 rfl) (fun _ h9 => h9) m87 dX0_debtorsAheadOf_6 ?_
                refine lv_icmp_ge (tgt := 62) hx hb dX0_debtorsAheadOf_9 (by decide) (fun c99 => ?_) (fun c99 => (by exfalso; have q9 : ((i86 : Nat) : Int) < x43.toInt := ti_nle c99 rfl (nI_toInt (by omega)); omega))
                have t100 : x43.toInt ≤ ((i86 : Nat) : Int) := ti_le c99 rfl (nI_toInt (by omega))
                refine lv_iload_n hx hb dX0_debtorsAheadOf_62 rfl (lv_at hl 1 rfl) ?_
                exact W.iret (v := x83) hx hb hr (fun t ht hW => ⟨⟨x83, (), rfl, (by exact trivial), by (try dsimp only); rw [ht]; exact ⟨hT, hF⟩⟩, hS.F ht⟩) hS.2.2 dX0_debtorsAheadOf_63
            exact key95 (60 - (59 + 1)) (59 + 1) (by omega) (Nat.le_refl _) _ _ hT hF hS m42 m47 m50 m53 m55 m58 ls (lv_sub hl [0, 1, 2, 3, 4] rfl)
          · have t101 : x60.toInt = 0 := ti_eq c81 rfl (by decide)
            refine lv_iload_n hx hb dX0_debtorsAheadOf_44 rfl (lv_at hl 1 rfl) ?_
            refine lv_iload_n hx hb dX0_debtorsAheadOf_45 rfl (lv_at hl 4 rfl) ?_
            refine lv_icmp_ge (tgt := 53) hx hb dX0_debtorsAheadOf_46 (by decide) (fun c102 => ?_) (fun c102 => (by exfalso; have q9 : ((59 : Nat) : Int) < p0.toInt := ti_nle c102 rfl (nI_toInt (by omega)); omega))
            have t103 : p0.toInt ≤ ((59 : Nat) : Int) := ti_le c102 rfl (nI_toInt (by omega))
            refine lv_iconst (v := 0) hx hb dX0_debtorsAheadOf_53 (by decide) ?_
            refine lv_iadd hx hb dX0_debtorsAheadOf_54 ?_
            refine lv_topi (fun x104 ex104 => ?_)
            have t105 : -2147483648 ≤ z2.toInt ∧ z2.toInt ≤ 2147483647 := ti_all z2
            have t106 : x104.toInt = z2.toInt + 0 := ti_add ex104 rfl (by decide) (by omega) (by omega)
            refine lv_istore_n (lv' := [(2, .int x104), (4, .int x60), (3, .int (nI 59)), (0, .ref o0), (1, .int p0)]) hx hb dX0_debtorsAheadOf_55 rfl hl (by decide) rfl (fun ls hl => ?_)
            refine lv_iinc (v := nI (59 + 1)) (lv' := [(3, .int (nI (59 + 1))), (2, .int x104), (4, .int x60), (0, .ref o0), (1, .int p0)]) hx hb dX0_debtorsAheadOf_56 hl (k := 2) rfl (nI_add 59 1) (by decide) rfl (fun ls hl => ?_)
            refine lv_goto (tgt := 4) hx hb dX0_debtorsAheadOf_59 (by decide) ?_
            have key116 : ∀ (n116 i107 : Nat), i107 + n116 = 60 → (59 + 1) ≤ i107 → ∀ (H : Heap) (locs : List Loc), gH (dC, dI) kA (SHc nC nS) G H → gF (dC, dI) SKc G ([] : List (Nat × Nat)) s.heap H → va_S A s.heap H locs → el H o0 (dI 3 14) = some (.int x43) → el H o0 (dI 3 0) = some (.ref b48) → el H b48 (nI 59).toNatClampNeg = some (.ref b51) → el H b51 (dI 10 9) = some (.int x54) → el H b48 p0.toNatClampNeg = some (.ref b56) → el H b56 (dI 10 9) = some (.int x59) → ∀ ls : Array Slot, lv_has ls 5 [(3, .int (nI i107)), (2, .int x104), (4, .int x60), (0, .ref o0), (1, .int p0)] → W p l e (headSpec w_c_debtorsAheadOf ({ frames := 0, cells := 0, slots := 0, locals := 0 })).room s m #[.ref o0, .int p0] below meth c H locs 0 0 (MQ below (va_Qi (fun (r : Int32) (u : Unit) => True) (fun (_ : Unit) (t : State) => gH (dC, dI) kA (SHc nC nS) G t.heap ∧ gF (dC, dI) SKc G ([] : List (Nat × Nat)) s.heap t.heap) A) #[.ref o0, .int p0] s 0 0 A) (F0 m 4 ls []) := by
              intro n116
              induction n116 with
              | zero =>
                intro i107 hn116 hlo117  H locs hT hF hS m108 m109 m110 m111 m112 m113 ls hl
                obtain rfl : 60 = i107 := by omega
                refine lv_iload_n hx hb dX0_debtorsAheadOf_4 rfl (lv_at hl 0 rfl) ?_
                refine lv_aload_n hx hb dX0_debtorsAheadOf_5 rfl (lv_at hl 3 rfl) ?_
                refine tw_getM (v := .int x43) hx hb hts bF2_X0 hown hK hT hr_o0 shc_3 rfl 14 (by decide) (ht_at2 hts 0 rfl) (fun _ h9 => h9) m108 dX0_debtorsAheadOf_6 ?_
                refine lv_icmp_ge (tgt := 62) hx hb dX0_debtorsAheadOf_9 (by decide) (fun c118 => ?_) (fun c118 => (by exfalso; have q9 : ((60 : Nat) : Int) < x43.toInt := ti_nle c118 rfl (nI_toInt (by omega)); omega))
                have t119 : x43.toInt ≤ ((60 : Nat) : Int) := ti_le c118 rfl (nI_toInt (by omega))
                refine lv_iload_n hx hb dX0_debtorsAheadOf_62 rfl (lv_at hl 1 rfl) ?_
                exact W.iret (v := x104) hx hb hr (fun t ht hW => ⟨⟨x104, (), rfl, (by exact trivial), by (try dsimp only); rw [ht]; exact ⟨hT, hF⟩⟩, hS.F ht⟩) hS.2.2 dX0_debtorsAheadOf_63
              | succ n116 ih116 =>
                intro i107 hn116 hlo117  H locs hT hF hS m108 m109 m110 m111 m112 m113 ls hl
                have hlt119 : i107 < 60 := by omega
                refine lv_iload_n hx hb dX0_debtorsAheadOf_4 rfl (lv_at hl 0 rfl) ?_
                refine lv_aload_n hx hb dX0_debtorsAheadOf_5 rfl (lv_at hl 3 rfl) ?_
                refine tw_getM (v := .int x43) hx hb hts bF2_X0 hown hK hT hr_o0 shc_3 rfl 14 (by decide) (ht_at2 hts 0 rfl) (fun _ h9 => h9) m108 dX0_debtorsAheadOf_6 ?_
                refine lv_icmp_ge (tgt := 62) hx hb dX0_debtorsAheadOf_9 (by decide) (fun c120 => ?_) (fun c120 => (by exfalso; have q9 : ((i107 : Nat) : Int) < x43.toInt := ti_nle c120 rfl (nI_toInt (by omega)); omega))
                have t121 : x43.toInt ≤ ((i107 : Nat) : Int) := ti_le c120 rfl (nI_toInt (by omega))
                refine lv_iload_n hx hb dX0_debtorsAheadOf_62 rfl (lv_at hl 1 rfl) ?_
                exact W.iret (v := x104) hx hb hr (fun t ht hW => ⟨⟨x104, (), rfl, (by exact trivial), by (try dsimp only); rw [ht]; exact ⟨hT, hF⟩⟩, hS.F ht⟩) hS.2.2 dX0_debtorsAheadOf_63
            exact key116 (60 - (59 + 1)) (59 + 1) (by omega) (Nat.le_refl _) _ _ hT hF hS m42 m47 m50 m53 m55 m58 ls (lv_sub hl [0, 1, 2, 3, 4] rfl)
    | succ n40 ih40 =>
      intro i1 hn40 hlo41 z2 H locs hT hF hS  ls hl
      have hlt121 : i1 < 59 := by omega
      refine lv_iload_n hx hb dX0_debtorsAheadOf_4 rfl (lv_at hl 0 rfl) ?_
      refine lv_aload_n hx hb dX0_debtorsAheadOf_5 rfl (lv_at hl 2 rfl) ?_
      refine tw_get hx hb hts bF2_X0 hown hK hT hr_o0 shc_3 rfl 14 (by decide) (ht_at2 hts 0 rfl) (fun _ h9 => h9) dX0_debtorsAheadOf_6 (fun v9 m122 h9 => ?_)
      obtain ⟨x123, rfl, gx123, kx123⟩ := h9 _ rfl
      refine lv_icmp_ge (tgt := 62) hx hb dX0_debtorsAheadOf_9 (by decide) (fun c124 => ?_) (fun c124 => ?_)
      · have t125 : x123.toInt ≤ ((i1 : Nat) : Int) := ti_le c124 rfl (nI_toInt (by omega))
        refine lv_iload_n hx hb dX0_debtorsAheadOf_62 rfl (lv_at hl 1 rfl) ?_
        exact W.iret (v := z2) hx hb hr (fun t ht hW => ⟨⟨z2, (), rfl, (by exact trivial), by (try dsimp only); rw [ht]; exact ⟨hT, hF⟩⟩, hS.F ht⟩) hS.2.2 dX0_debtorsAheadOf_63
      · have t126 : ((i1 : Nat) : Int) < x123.toInt := ti_nle c124 rfl (nI_toInt (by omega))
        refine lv_aload_n hx hb dX0_debtorsAheadOf_12 rfl (lv_at hl 2 rfl) ?_
        refine tw_get hx hb hts bF2_X0 hown hK hT hr_o0 shc_3 rfl 0 (by decide) (ht_at2 hts 1 rfl) (fun _ h9 => h9) dX0_debtorsAheadOf_13 (fun v9 m127 h9 => ?_)
        obtain ⟨b128, rfl, hg129⟩ := h9 _ rfl
        refine lv_iload_n hx hb dX0_debtorsAheadOf_16 rfl (lv_at hl 0 rfl) ?_
        refine tw_aald (i := (nI i1)) hx hb hK hT hg129 shc_51 rfl (vp_in_nI (by omega) (by decide)) dX0_debtorsAheadOf_17 (fun v9 m130 h9 => ?_)
        obtain ⟨b131, rfl, hg132⟩ := (h9.1 (by have q9 := tn_of (show (nI i1).toInt = ((i1 : Nat) : Int) from (nI_toInt (by omega))) (by omega); omega))
        refine tw_getN hx hb hts bF2_X7 hown hK hT hg132 shc_10 rfl 9 (by decide) (hE.nw 69 rfl) (fun _ h9 => h9) dX0_debtorsAheadOf_18 (fun v9 m133 h9 => ?_)
        obtain ⟨x134, rfl, gx134, kx134⟩ := h9 _ rfl
        refine lv_aload_n hx hb dX0_debtorsAheadOf_21 rfl (lv_at hl 2 rfl) ?_
        refine tw_getM (v := .ref b128) hx hb hts bF2_X0 hown hK hT hr_o0 shc_3 rfl 0 (by decide) (ht_at2 hts 1 rfl) (fun _ h9 => h9) m127 dX0_debtorsAheadOf_22 ?_
        refine lv_iload_n hx hb dX0_debtorsAheadOf_25 rfl (lv_at hl 3 rfl) ?_
        refine tw_aald (i := p0) hx hb hK hT hg129 shc_51 rfl (vin_t (a := p0.toInt) rfl (by omega) (by omega)) dX0_debtorsAheadOf_26 (fun v9 m135 h9 => ?_)
        obtain ⟨b136, rfl, hg137⟩ := (h9.1 (by have q9 := tn_of (show p0.toInt = p0.toInt from rfl) (by omega); omega))
        refine tw_getN hx hb hts bF2_X7 hown hK hT hg137 shc_10 rfl 9 (by decide) (hE.nw 69 rfl) (fun _ h9 => h9) dX0_debtorsAheadOf_27 (fun v9 m138 h9 => ?_)
        obtain ⟨x139, rfl, gx139, kx139⟩ := h9 _ rfl
        refine lv_isub hx hb dX0_debtorsAheadOf_30 ?_
        refine lv_topi (fun x140 ex140 => ?_)
        refine lv_istore (lv' := [(4, .int x140), (3, .int (nI i1)), (2, .int z2), (0, .ref o0), (1, .int p0)]) hx hb dX0_debtorsAheadOf_31 hl (by decide) rfl (fun ls hl => ?_)
        refine lv_iload_n hx hb dX0_debtorsAheadOf_33 rfl (lv_at hl 2 rfl) ?_
        refine lv_iload hx hb dX0_debtorsAheadOf_34 (lv_at hl 0 rfl) ?_
        have t141 : -2147483648 ≤ x140.toInt ∧ x140.toInt ≤ 2147483647 := ti_all x140
        refine lv_if_gt (tgt := 49) hx hb dX0_debtorsAheadOf_36 (by decide) (fun c142 => ?_) (fun c142 => ?_)
        · have t143 : 0 < x140.toInt := ti_lt c142 (by decide) rfl
          refine lv_iconst (v := 1) hx hb dX0_debtorsAheadOf_49 (by decide) ?_
          refine lv_goto (tgt := 54) hx hb dX0_debtorsAheadOf_50 (by decide) ?_
          refine lv_iadd hx hb dX0_debtorsAheadOf_54 ?_
          refine lv_topi (fun x144 ex144 => ?_)
          refine lv_istore_n (lv' := [(2, .int x144), (4, .int x140), (3, .int (nI i1)), (0, .ref o0), (1, .int p0)]) hx hb dX0_debtorsAheadOf_55 rfl hl (by decide) rfl (fun ls hl => ?_)
          refine lv_iinc (v := nI (i1 + 1)) (lv' := [(3, .int (nI (i1 + 1))), (2, .int x144), (4, .int x140), (0, .ref o0), (1, .int p0)]) hx hb dX0_debtorsAheadOf_56 hl (k := 2) rfl (nI_add i1 1) (by decide) rfl (fun ls hl => ?_)
          refine lv_goto (tgt := 4) hx hb dX0_debtorsAheadOf_59 (by decide) ?_
          exact ih40 (i1 + 1) (by omega) (by omega) x144 _ _ hT hF hS ls (lv_sub hl [0, 1, 3, 4] rfl)
        · have t145 : x140.toInt ≤ 0 := ti_nlt c142 (by decide) rfl
          refine lv_iload hx hb dX0_debtorsAheadOf_39 (lv_at hl 0 rfl) ?_
          refine lv_if_ne (tgt := 53) hx hb dX0_debtorsAheadOf_41 (by decide) (fun c146 => ?_) (fun c146 => ?_)
          · have t147 : x140.toInt ≠ 0 := ti_ne c146 rfl (by decide)
            refine lv_iconst (v := 0) hx hb dX0_debtorsAheadOf_53 (by decide) ?_
            refine lv_iadd hx hb dX0_debtorsAheadOf_54 ?_
            refine lv_topi (fun x148 ex148 => ?_)
            have t149 : -2147483648 ≤ z2.toInt ∧ z2.toInt ≤ 2147483647 := ti_all z2
            have t150 : x148.toInt = z2.toInt + 0 := ti_add ex148 rfl (by decide) (by omega) (by omega)
            refine lv_istore_n (lv' := [(2, .int x148), (4, .int x140), (3, .int (nI i1)), (0, .ref o0), (1, .int p0)]) hx hb dX0_debtorsAheadOf_55 rfl hl (by decide) rfl (fun ls hl => ?_)
            refine lv_iinc (v := nI (i1 + 1)) (lv' := [(3, .int (nI (i1 + 1))), (2, .int x148), (4, .int x140), (0, .ref o0), (1, .int p0)]) hx hb dX0_debtorsAheadOf_56 hl (k := 2) rfl (nI_add i1 1) (by decide) rfl (fun ls hl => ?_)
            refine lv_goto (tgt := 4) hx hb dX0_debtorsAheadOf_59 (by decide) ?_
            exact ih40 (i1 + 1) (by omega) (by omega) x148 _ _ hT hF hS ls (lv_sub hl [0, 1, 3, 4] rfl)
          · have t151 : x140.toInt = 0 := ti_eq c146 rfl (by decide)
            refine lv_iload_n hx hb dX0_debtorsAheadOf_44 rfl (lv_at hl 1 rfl) ?_
            refine lv_iload_n hx hb dX0_debtorsAheadOf_45 rfl (lv_at hl 4 rfl) ?_
            refine lv_icmp_ge (tgt := 53) hx hb dX0_debtorsAheadOf_46 (by decide) (fun c152 => ?_) (fun c152 => ?_)
            · have t153 : p0.toInt ≤ ((i1 : Nat) : Int) := ti_le c152 rfl (nI_toInt (by omega))
              refine lv_iconst (v := 0) hx hb dX0_debtorsAheadOf_53 (by decide) ?_
              refine lv_iadd hx hb dX0_debtorsAheadOf_54 ?_
              refine lv_topi (fun x154 ex154 => ?_)
              have t155 : -2147483648 ≤ z2.toInt ∧ z2.toInt ≤ 2147483647 := ti_all z2
              have t156 : x154.toInt = z2.toInt + 0 := ti_add ex154 rfl (by decide) (by omega) (by omega)
              refine lv_istore_n (lv' := [(2, .int x154), (4, .int x140), (3, .int (nI i1)), (0, .ref o0), (1, .int p0)]) hx hb dX0_debtorsAheadOf_55 rfl hl (by decide) rfl (fun ls hl => ?_)
              refine lv_iinc (v := nI (i1 + 1)) (lv' := [(3, .int (nI (i1 + 1))), (2, .int x154), (4, .int x140), (0, .ref o0), (1, .int p0)]) hx hb dX0_debtorsAheadOf_56 hl (k := 2) rfl (nI_add i1 1) (by decide) rfl (fun ls hl => ?_)
              refine lv_goto (tgt := 4) hx hb dX0_debtorsAheadOf_59 (by decide) ?_
              exact ih40 (i1 + 1) (by omega) (by omega) x154 _ _ hT hF hS ls (lv_sub hl [0, 1, 3, 4] rfl)
            · have t157 : ((i1 : Nat) : Int) < p0.toInt := ti_nle c152 rfl (nI_toInt (by omega))
              refine lv_iconst (v := 1) hx hb dX0_debtorsAheadOf_49 (by decide) ?_
              refine lv_goto (tgt := 54) hx hb dX0_debtorsAheadOf_50 (by decide) ?_
              refine lv_iadd hx hb dX0_debtorsAheadOf_54 ?_
              refine lv_topi (fun x158 ex158 => ?_)
              refine lv_istore_n (lv' := [(2, .int x158), (4, .int x140), (3, .int (nI i1)), (0, .ref o0), (1, .int p0)]) hx hb dX0_debtorsAheadOf_55 rfl hl (by decide) rfl (fun ls hl => ?_)
              refine lv_iinc (v := nI (i1 + 1)) (lv' := [(3, .int (nI (i1 + 1))), (2, .int x158), (4, .int x140), (0, .ref o0), (1, .int p0)]) hx hb dX0_debtorsAheadOf_56 hl (k := 2) rfl (nI_add i1 1) (by decide) rfl (fun ls hl => ?_)
              refine lv_goto (tgt := 4) hx hb dX0_debtorsAheadOf_59 (by decide) ?_
              exact ih40 (i1 + 1) (by omega) (by omega) x158 _ _ hT hF hS ls (lv_sub hl [0, 1, 3, 4] rfl)
  exact key40 (59 - 0) 0 (by omega) (Nat.le_refl _) 0 _ _ hT hF hS ls (lv_sub hl [0, 1, 2, 3] rfl)
def w_c_debtorOfRank : List Cond := .code yX0_debtorOfRank cX0_debtorOfRank 3 (some .int) :: (HAppend.hAppend (α := List Cond) (β := List Cond) (γ := List Cond) [.fieldLink RX0 75 "SeaLand$Board" "settled" "I", .fieldLink RX0 11 "SeaLand$Board" "settlers" "[LSeaLand$Settler;", .code yX0_debtorsAheadOf cX0_debtorsAheadOf 5 (some .int), .methodLink RX0 220 yX0_debtorsAheadOf, .instanceMethod yX0_debtorsAheadOf, .selects RX0 yX0_debtorsAheadOf yX0_debtorsAheadOf, .initialized RX0] bs2)
set_option maxHeartbeats 4000000 in
set_option maxRecDepth 100000 in
theorem c_debtorOfRank (l : Launch) (dC : Nat → ClassId) (dI : Nat → Nat → Nat) (kA : Nat → ClassId) (adK adV : Nat → Nat) (G : gT) (H0 : Heap) (nC nS : Int) (o0 : Nat) (p0 : Int32)  (hT : gH (dC, dI) kA (SHc nC nS) G H0) (hr_o0 : G o0 = some 3) (hgC : 0 ≤ nC ∧ nC ≤ 40) (hgS : 0 ≤ nS ∧ nS ≤ 60) : Met l yX0_debtorOfRank w_c_debtorOfRank ({ frames := 1, cells := 0, slots := 0, locals := 24 }) (va_Pc [.ref o0, .int p0] (fun U => U.heap = H0 ∧ va_K (dC, dI) vwCl (tyl kA) U ∧ EVC adK adV (gA G H0.size) U U.heap)) (va_Qi (fun (r : Int32) (u : Unit) => (-1 ≤ r.toInt ∧ r.toInt ≤ 59)) (fun (_ : Unit) (t : State) => gH (dC, dI) kA (SHc nC nS) G t.heap ∧ gF (dC, dI) SKc G ([] : List (Nat × Nat)) H0 t.heap) (gA G H0.size)) 0 0 (gA G H0.size) := by
  refine Met.ofW (cc := cX0_debtorOfRank) (maxL := 3) (ret := (some .int)) (by decide) rfl ?_
  intro p e s m args below meth c s₁ B hml hv
  obtain ⟨rfl, hH0, hK, hE⟩ := hv
  have hx := B.exec
  have hb := B.bytes
  have hr := B.returns
  have hts := atoms_spec (ws := w_c_debtorOfRank) B.pre
  have hown : s.vm.findClass RX0 = some m.cls := findClass_of_methodNamed B.named
  have hlocks := B.notSynchronized
  subst hH0
  generalize hAe : gA G s.heap.size = A at hE ⊢
  have hA : ∀ q : Nat, s.heap.size ≤ q → A q := fun q h => by rw [← hAe]; exact Or.inr h
  have hG := gA_of hAe
  have hS : va_S A s.heap s.heap [] := va_S.rf
  have hF : gF (dC, dI) SKc G ([] : List (Nat × Nat)) s.heap s.heap := gF.rf
  have hl := lv_entry ([.ref o0, .int p0]) (n := 3) (Nat.le_of_ble_eq_true rfl)
  rw [lg_entry_eq]
  generalize (lg_sl ([.ref o0, .int p0]) ++ List.replicate (3 - (lg_sl ([.ref o0, .int p0])).length) Slot.unset).toArray = ls at hl ⊢
  have hl : lv_has ls 3 [(0, .ref o0), (1, .int p0)] := hl
  refine lv_iconst (v := 0) hx hb dX0_debtorOfRank_0 (by decide) ?_
  refine lv_istore_n (lv' := [(2, .int 0), (0, .ref o0), (1, .int p0)]) hx hb dX0_debtorOfRank_1 rfl hl (by decide) rfl (fun ls hl => ?_)
  have key30 : ∀ (n30 i1 : Nat), i1 + n30 = 60 → 0 ≤ i1 → ∀ (H : Heap) (locs : List Loc), gH (dC, dI) kA (SHc nC nS) G H → gF (dC, dI) SKc G ([] : List (Nat × Nat)) s.heap H → va_S A s.heap H locs → ∀ ls : Array Slot, lv_has ls 3 [(2, .int (nI i1)), (0, .ref o0), (1, .int p0)] → W p l e (headSpec w_c_debtorOfRank ({ frames := 1, cells := 0, slots := 0, locals := 24 })).room s m #[.ref o0, .int p0] below meth c H locs 0 0 (MQ below (va_Qi (fun (r : Int32) (u : Unit) => (-1 ≤ r.toInt ∧ r.toInt ≤ 59)) (fun (_ : Unit) (t : State) => gH (dC, dI) kA (SHc nC nS) G t.heap ∧ gF (dC, dI) SKc G ([] : List (Nat × Nat)) s.heap t.heap) A) #[.ref o0, .int p0] s 0 0 A) (F0 m 2 ls []) := by
    intro n30
    induction n30 with
    | zero =>
      intro i1 hn30 hlo31  H locs hT hF hS  ls hl
      obtain rfl : 60 = i1 := by omega
      refine lv_iload_n hx hb dX0_debtorOfRank_2 rfl (lv_at hl 0 rfl) ?_
      refine lv_aload_n hx hb dX0_debtorOfRank_3 rfl (lv_at hl 1 rfl) ?_
      refine tw_get hx hb hts bF2_X0 hown hK hT hr_o0 shc_3 rfl 14 (by decide) (ht_at2 hts 0 rfl) (fun _ h9 => h9) dX0_debtorOfRank_4 (fun v9 m32 h9 => ?_)
      obtain ⟨x33, rfl, gx33, kx33⟩ := h9 _ rfl
      refine lv_icmp_ge (tgt := 39) hx hb dX0_debtorOfRank_7 (by decide) (fun c34 => ?_) (fun c34 => (by exfalso; have q9 : ((60 : Nat) : Int) < x33.toInt := ti_nle c34 rfl (nI_toInt (by omega)); omega))
      have t35 : x33.toInt ≤ ((60 : Nat) : Int) := ti_le c34 rfl (nI_toInt (by omega))
      refine lv_iconst (v := (-1)) hx hb dX0_debtorOfRank_39 (by decide) ?_
      exact W.iret (v := (-1)) hx hb hr (fun t ht hW => ⟨⟨(-1), (), rfl, (by exact (rg_t (a := (-1)) (by decide) (by first | decide | omega) (by first | decide | omega))), by (try dsimp only); rw [ht]; exact ⟨hT, hF⟩⟩, hS.F ht⟩) hS.2.2 dX0_debtorOfRank_40
    | succ n30 ih30 =>
      intro i1 hn30 hlo31  H locs hT hF hS  ls hl
      have hlt35 : i1 < 60 := by omega
      refine lv_iload_n hx hb dX0_debtorOfRank_2 rfl (lv_at hl 0 rfl) ?_
      refine lv_aload_n hx hb dX0_debtorOfRank_3 rfl (lv_at hl 1 rfl) ?_
      refine tw_get hx hb hts bF2_X0 hown hK hT hr_o0 shc_3 rfl 14 (by decide) (ht_at2 hts 0 rfl) (fun _ h9 => h9) dX0_debtorOfRank_4 (fun v9 m36 h9 => ?_)
      obtain ⟨x37, rfl, gx37, kx37⟩ := h9 _ rfl
      refine lv_icmp_ge (tgt := 39) hx hb dX0_debtorOfRank_7 (by decide) (fun c38 => ?_) (fun c38 => ?_)
      · have t39 : x37.toInt ≤ ((i1 : Nat) : Int) := ti_le c38 rfl (nI_toInt (by omega))
        refine lv_iconst (v := (-1)) hx hb dX0_debtorOfRank_39 (by decide) ?_
        exact W.iret (v := (-1)) hx hb hr (fun t ht hW => ⟨⟨(-1), (), rfl, (by exact (rg_t (a := (-1)) (by decide) (by first | decide | omega) (by first | decide | omega))), by (try dsimp only); rw [ht]; exact ⟨hT, hF⟩⟩, hS.F ht⟩) hS.2.2 dX0_debtorOfRank_40
      · have t40 : ((i1 : Nat) : Int) < x37.toInt := ti_nle c38 rfl (nI_toInt (by omega))
        refine lv_aload_n hx hb dX0_debtorOfRank_10 rfl (lv_at hl 1 rfl) ?_
        refine tw_get hx hb hts bF2_X0 hown hK hT hr_o0 shc_3 rfl 0 (by decide) (ht_at2 hts 1 rfl) (fun _ h9 => h9) dX0_debtorOfRank_11 (fun v9 m41 h9 => ?_)
        obtain ⟨b42, rfl, hg43⟩ := h9 _ rfl
        refine lv_iload_n hx hb dX0_debtorOfRank_14 rfl (lv_at hl 0 rfl) ?_
        refine tw_aald (i := (nI i1)) hx hb hK hT hg43 shc_51 rfl (vp_in_nI (by omega) (by decide)) dX0_debtorOfRank_15 (fun v9 m44 h9 => ?_)
        obtain ⟨b45, rfl, hg46⟩ := (h9.1 (by have q9 := tn_of (show (nI i1).toInt = ((i1 : Nat) : Int) from (nI_toInt (by omega))) (by omega); omega))
        refine tw_getN hx hb hts bF2_X7 hown hK hT hg46 shc_10 rfl 9 (by decide) (hE.nw 69 rfl) (fun _ h9 => h9) dX0_debtorOfRank_16 (fun v9 m47 h9 => ?_)
        obtain ⟨x48, rfl, gx48, kx48⟩ := h9 _ rfl
        have t49 : -2147483648 ≤ x48.toInt ∧ x48.toInt ≤ 2147483647 := ti_all x48
        refine lv_if_le (tgt := 33) hx hb dX0_debtorOfRank_19 (by decide) (fun c50 => ?_) (fun c50 => ?_)
        · have t51 : x48.toInt ≤ 0 := ti_le c50 rfl (by decide)
          refine lv_iinc (v := nI (i1 + 1)) (lv' := [(2, .int (nI (i1 + 1))), (0, .ref o0), (1, .int p0)]) hx hb dX0_debtorOfRank_33 hl (k := 0) rfl (nI_add i1 1) (by decide) rfl (fun ls hl => ?_)
          refine lv_goto (tgt := 2) hx hb dX0_debtorOfRank_36 (by decide) ?_
          exact ih30 (i1 + 1) (by omega) (by omega) _ _ hT hF hS ls (lv_sub hl [0, 1, 2] rfl)
        · have t52 : 0 < x48.toInt := ti_nle c50 rfl (by decide)
          refine lv_aload_n hx hb dX0_debtorOfRank_22 rfl (lv_at hl 1 rfl) ?_
          refine lv_iload_n hx hb dX0_debtorOfRank_23 rfl (lv_at hl 0 rfl) ?_
          have hFc := gA_free hG hA hS
          refine va_calli (va_runV (As := [.int (nI i1)]) (rest := []) ⟨hx, hb, hml, hown, hts⟩ (c_debtorsAheadOf l dC dI kA adK adV G H nC nS o0 (nI i1) hT hr_o0 (rg_t (a := ((i1 : Nat) : Int)) (nI_toInt (by omega)) (by omega) (by omega)) (by have := (show (nI i1).toInt = ((i1 : Nat) : Int) from (nI_toInt (by omega))); omega) (by omega) (by omega)) (cwV 1 hts (goodIn_app (goodIn_r _ [4, 5, 6, 7] rfl (by decide +kernel)) (goodIn_ca (goodIn_r _ [3, 1, 2] rfl (by decide +kernel)) (bs2_in _ _))) rfl rfl rfl (by decide +kernel) ⟨(Nat.le_of_ble_eq_true rfl), (Nat.le_of_ble_eq_true rfl)⟩) ⟨fun a U g mk q => by obtain ⟨q0, q1, qK, qE⟩ := q; exact ⟨q0, q1, va_K.moved (u := U) (U := U.calling g mk a) (Vm.Alike.refl U.vm) qK, EVC.blind g mk a qE⟩, gH_rc hK hT hr_o0 shc_3 rfl, fun U hU hW => ⟨rfl, hU, va_K.moved hW.alike hK, hE.call hS hFc hU hW⟩⟩ rfl rfl hl.1 rfl (lv_room (Nat.le_of_ble_eq_true rfl)) dX0_debtorOfRank_24 ⟨(Nat.le_of_ble_eq_true rfl), (Nat.le_of_ble_eq_true rfl)⟩) hS (fun q _ h => hFc q h) hFc (fun r53 u t H locs ht hvm hw54 hB _ _ hS => ?_)
          obtain ⟨hT, hF1⟩ := hB
          rw [ht] at hT hF1
          have hF := hF.more hF1 (by decide)
          try dsimp only at hw54
          refine lv_iload_n hx hb dX0_debtorOfRank_27 rfl (lv_at hl 2 rfl) ?_
          have t59 : -2147483648 ≤ r53.toInt ∧ r53.toInt ≤ 2147483647 := ti_all r53
          have t60 : -2147483648 ≤ p0.toInt ∧ p0.toInt ≤ 2147483647 := ti_all p0
          refine lv_icmp_ne (tgt := 33) hx hb dX0_debtorOfRank_28 (by decide) (fun c61 => ?_) (fun c61 => ?_)
          · have t62 : r53.toInt ≠ p0.toInt := ti_ne c61 rfl rfl
            refine lv_iinc (v := nI (i1 + 1)) (lv' := [(2, .int (nI (i1 + 1))), (0, .ref o0), (1, .int p0)]) hx hb dX0_debtorOfRank_33 hl (k := 0) rfl (nI_add i1 1) (by decide) rfl (fun ls hl => ?_)
            refine lv_goto (tgt := 2) hx hb dX0_debtorOfRank_36 (by decide) ?_
            exact ih30 (i1 + 1) (by omega) (by omega) _ _ hT hF hS ls (lv_sub hl [0, 1, 2] rfl)
          · have t63 : r53.toInt = p0.toInt := ti_eq c61 rfl rfl
            refine lv_iload_n hx hb dX0_debtorOfRank_31 rfl (lv_at hl 0 rfl) ?_
            exact W.iret (v := nI i1) hx hb hr (fun t ht hW => ⟨⟨nI i1, (), rfl, (by exact (rg_t (a := ((i1 : Nat) : Int)) (nI_toInt (by omega)) (by omega) (by omega))), by (try dsimp only); rw [ht]; exact ⟨hT, hF⟩⟩, hS.F ht⟩) hS.2.2 dX0_debtorOfRank_32
  exact key30 (60 - 0) 0 (by omega) (Nat.le_refl _) _ _ hT hF hS ls (lv_sub hl [0, 1, 2] rfl)
def w_c_allArrears : List Cond := .code yX0_allArrears cX0_allArrears 3 (some .int) :: (HAppend.hAppend (α := List Cond) (β := List Cond) (γ := List Cond) [.fieldLink RX0 75 "SeaLand$Board" "settled" "I", .fieldLink RX0 11 "SeaLand$Board" "settlers" "[LSeaLand$Settler;"] bs2)
set_option maxHeartbeats 4000000 in
set_option maxRecDepth 100000 in
theorem c_allArrears (l : Launch) (dC : Nat → ClassId) (dI : Nat → Nat → Nat) (kA : Nat → ClassId) (adK adV : Nat → Nat) (G : gT) (H0 : Heap) (nC nS : Int) (o0 : Nat)  (hT : gH (dC, dI) kA (SHc nC nS) G H0) (hr_o0 : G o0 = some 3) (hgC : 0 ≤ nC ∧ nC ≤ 40) (hgS : 0 ≤ nS ∧ nS ≤ 60) : Met l yX0_allArrears w_c_allArrears ({ frames := 0, cells := 0, slots := 0, locals := 0 }) (va_Pc [.ref o0] (fun U => U.heap = H0 ∧ va_K (dC, dI) vwCl (tyl kA) U ∧ EVC adK adV (gA G H0.size) U U.heap)) (va_Qi (fun (r : Int32) (u : Unit) => True) (fun (_ : Unit) (t : State) => gH (dC, dI) kA (SHc nC nS) G t.heap ∧ gF (dC, dI) SKc G ([] : List (Nat × Nat)) H0 t.heap) (gA G H0.size)) 0 0 (gA G H0.size) := by
  refine Met.ofW (cc := cX0_allArrears) (maxL := 3) (ret := (some .int)) (by decide) rfl ?_
  intro p e s m args below meth c s₁ B hml hv
  obtain ⟨rfl, hH0, hK, hE⟩ := hv
  have hx := B.exec
  have hb := B.bytes
  have hr := B.returns
  have hts := atoms_spec (ws := w_c_allArrears) B.pre
  have hown : s.vm.findClass RX0 = some m.cls := findClass_of_methodNamed B.named
  have hlocks := B.notSynchronized
  subst hH0
  generalize hAe : gA G s.heap.size = A at hE ⊢
  have hA : ∀ q : Nat, s.heap.size ≤ q → A q := fun q h => by rw [← hAe]; exact Or.inr h
  have hG := gA_of hAe
  have hS : va_S A s.heap s.heap [] := va_S.rf
  have hF : gF (dC, dI) SKc G ([] : List (Nat × Nat)) s.heap s.heap := gF.rf
  have hl := lv_entry ([.ref o0]) (n := 3) (Nat.le_of_ble_eq_true rfl)
  rw [lg_entry_eq]
  generalize (lg_sl ([.ref o0]) ++ List.replicate (3 - (lg_sl ([.ref o0])).length) Slot.unset).toArray = ls at hl ⊢
  have hl : lv_has ls 3 [(0, .ref o0)] := hl
  refine lv_iconst (v := 0) hx hb dX0_allArrears_0 (by decide) ?_
  refine lv_istore_n (lv' := [(1, .int 0), (0, .ref o0)]) hx hb dX0_allArrears_1 rfl hl (by decide) rfl (fun ls hl => ?_)
  refine lv_iconst (v := 0) hx hb dX0_allArrears_2 (by decide) ?_
  refine lv_istore_n (lv' := [(2, .int 0), (1, .int 0), (0, .ref o0)]) hx hb dX0_allArrears_3 rfl hl (by decide) rfl (fun ls hl => ?_)
  have key17 : ∀ (n17 i1 : Nat), i1 + n17 = 60 → 0 ≤ i1 → ∀ (z2 : Int32), ∀ (H : Heap) (locs : List Loc), gH (dC, dI) kA (SHc nC nS) G H → gF (dC, dI) SKc G ([] : List (Nat × Nat)) s.heap H → va_S A s.heap H locs → ∀ ls : Array Slot, lv_has ls 3 [(2, .int (nI i1)), (1, .int z2), (0, .ref o0)] → W p l e (headSpec w_c_allArrears ({ frames := 0, cells := 0, slots := 0, locals := 0 })).room s m #[.ref o0] below meth c H locs 0 0 (MQ below (va_Qi (fun (r : Int32) (u : Unit) => True) (fun (_ : Unit) (t : State) => gH (dC, dI) kA (SHc nC nS) G t.heap ∧ gF (dC, dI) SKc G ([] : List (Nat × Nat)) s.heap t.heap) A) #[.ref o0] s 0 0 A) (F0 m 4 ls []) := by
    intro n17
    induction n17 with
    | zero =>
      intro i1 hn17 hlo18 z2 H locs hT hF hS  ls hl
      obtain rfl : 60 = i1 := by omega
      refine lv_iload_n hx hb dX0_allArrears_4 rfl (lv_at hl 0 rfl) ?_
      refine lv_aload_n hx hb dX0_allArrears_5 rfl (lv_at hl 2 rfl) ?_
      refine tw_get hx hb hts bF2_X0 hown hK hT hr_o0 shc_3 rfl 14 (by decide) (ht_at2 hts 0 rfl) (fun _ h9 => h9) dX0_allArrears_6 (fun v9 m19 h9 => ?_)
      obtain ⟨x20, rfl, gx20, kx20⟩ := h9 _ rfl
      refine lv_icmp_ge (tgt := 30) hx hb dX0_allArrears_9 (by decide) (fun c21 => ?_) (fun c21 => (by exfalso; have q9 : ((60 : Nat) : Int) < x20.toInt := ti_nle c21 rfl (nI_toInt (by omega)); omega))
      have t22 : x20.toInt ≤ ((60 : Nat) : Int) := ti_le c21 rfl (nI_toInt (by omega))
      refine lv_iload_n hx hb dX0_allArrears_30 rfl (lv_at hl 1 rfl) ?_
      exact W.iret (v := z2) hx hb hr (fun t ht hW => ⟨⟨z2, (), rfl, (by exact trivial), by (try dsimp only); rw [ht]; exact ⟨hT, hF⟩⟩, hS.F ht⟩) hS.2.2 dX0_allArrears_31
    | succ n17 ih17 =>
      intro i1 hn17 hlo18 z2 H locs hT hF hS  ls hl
      have hlt22 : i1 < 60 := by omega
      refine lv_iload_n hx hb dX0_allArrears_4 rfl (lv_at hl 0 rfl) ?_
      refine lv_aload_n hx hb dX0_allArrears_5 rfl (lv_at hl 2 rfl) ?_
      refine tw_get hx hb hts bF2_X0 hown hK hT hr_o0 shc_3 rfl 14 (by decide) (ht_at2 hts 0 rfl) (fun _ h9 => h9) dX0_allArrears_6 (fun v9 m23 h9 => ?_)
      obtain ⟨x24, rfl, gx24, kx24⟩ := h9 _ rfl
      refine lv_icmp_ge (tgt := 30) hx hb dX0_allArrears_9 (by decide) (fun c25 => ?_) (fun c25 => ?_)
      · have t26 : x24.toInt ≤ ((i1 : Nat) : Int) := ti_le c25 rfl (nI_toInt (by omega))
        refine lv_iload_n hx hb dX0_allArrears_30 rfl (lv_at hl 1 rfl) ?_
        exact W.iret (v := z2) hx hb hr (fun t ht hW => ⟨⟨z2, (), rfl, (by exact trivial), by (try dsimp only); rw [ht]; exact ⟨hT, hF⟩⟩, hS.F ht⟩) hS.2.2 dX0_allArrears_31
      · have t27 : ((i1 : Nat) : Int) < x24.toInt := ti_nle c25 rfl (nI_toInt (by omega))
        refine lv_iload_n hx hb dX0_allArrears_12 rfl (lv_at hl 1 rfl) ?_
        refine lv_aload_n hx hb dX0_allArrears_13 rfl (lv_at hl 2 rfl) ?_
        refine tw_get hx hb hts bF2_X0 hown hK hT hr_o0 shc_3 rfl 0 (by decide) (ht_at2 hts 1 rfl) (fun _ h9 => h9) dX0_allArrears_14 (fun v9 m28 h9 => ?_)
        obtain ⟨b29, rfl, hg30⟩ := h9 _ rfl
        refine lv_iload_n hx hb dX0_allArrears_17 rfl (lv_at hl 0 rfl) ?_
        refine tw_aald (i := (nI i1)) hx hb hK hT hg30 shc_51 rfl (vp_in_nI (by omega) (by decide)) dX0_allArrears_18 (fun v9 m31 h9 => ?_)
        obtain ⟨b32, rfl, hg33⟩ := (h9.1 (by have q9 := tn_of (show (nI i1).toInt = ((i1 : Nat) : Int) from (nI_toInt (by omega))) (by omega); omega))
        refine tw_getN hx hb hts bF2_X7 hown hK hT hg33 shc_10 rfl 9 (by decide) (hE.nw 69 rfl) (fun _ h9 => h9) dX0_allArrears_19 (fun v9 m34 h9 => ?_)
        obtain ⟨x35, rfl, gx35, kx35⟩ := h9 _ rfl
        refine lv_iadd hx hb dX0_allArrears_22 ?_
        refine lv_topi (fun x36 ex36 => ?_)
        refine lv_istore_n (lv' := [(1, .int x36), (2, .int (nI i1)), (0, .ref o0)]) hx hb dX0_allArrears_23 rfl hl (by decide) rfl (fun ls hl => ?_)
        refine lv_iinc (v := nI (i1 + 1)) (lv' := [(2, .int (nI (i1 + 1))), (1, .int x36), (0, .ref o0)]) hx hb dX0_allArrears_24 hl (k := 1) rfl (nI_add i1 1) (by decide) rfl (fun ls hl => ?_)
        refine lv_goto (tgt := 4) hx hb dX0_allArrears_27 (by decide) ?_
        exact ih17 (i1 + 1) (by omega) (by omega) x36 _ _ hT hF hS ls (lv_sub hl [0, 1, 2] rfl)
  exact key17 (60 - 0) 0 (by omega) (Nat.le_refl _) 0 _ _ hT hF hS ls (lv_sub hl [0, 1, 2] rfl)
