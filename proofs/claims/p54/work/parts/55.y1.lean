theorem gC.growT {D : va_G} {kA : Nat → ClassId} {G : gT} {H : Heap} {q ci N t : Nat} {E E1 : gE} (h : gC D kA (.inl (ci, N, E)) G q H) (hk : ∀ k v, k < N → el H q (D.2 ci k) = some v → E G k v → E1 (gU G q t) k v) : gC D kA (.inl (ci, N, E1)) (gU G q t) q H := by
  obtain ⟨V, ⟨cell, q1, q2, q3, q4⟩, h2⟩ := h
  refine ⟨V, ⟨cell, q1, q2, q3, q4⟩, fun k hk' => hk k (V k) hk' ?_ (h2 k hk')⟩
  unfold el
  rw [q1]
  exact q4 k hk'
def w_c_fill_farmOf : List Cond := .code yJ7_fill_53178 cJ7_fill_53178 4 none :: (HAppend.hAppend (α := List Cond) (β := List Cond) (γ := List Cond) [] bs2)
set_option maxHeartbeats 4000000 in
set_option maxRecDepth 100000 in
theorem c_fill_farmOf (l : Launch) (dC : Nat → ClassId) (dI : Nat → Nat → Nat) (kA : Nat → ClassId) (adK adV : Nat → Nat) (G : gT) (H0 : Heap) (nC nS : Int) (fa : Nat) (vf : Int32) (V0 : Nat → Int32)  (hT : gH (dC, dI) kA (SHc nC nS) G H0) (hr_fa : G fa = some 52) (hc_V0 : ct H0 fa 96 V0) (hgC : 0 ≤ nC ∧ nC ≤ 40) (hgS : 0 ≤ nS ∧ nS ≤ 60) : Met l yJ7_fill_53178 w_c_fill_farmOf ({ frames := 0, cells := 0, slots := 0, locals := 0 }) (va_Pc [.ref fa, .int vf] (fun U => U.heap = H0 ∧ va_K (dC, dI) vwCl (tyl kA) U ∧ EVC adK adV (gA G H0.size) U U.heap)) (va_Qv (fun (u : Unit) => True) (fun (_ : Unit) (t : State) => gH (dC, dI) kA (SHc nC nS) G t.heap ∧ gF (dC, dI) SKc G ([(52, 0)] : List (Nat × Nat)) H0 t.heap ∧ ct t.heap fa 96 (fun _ => vf)) (gA G H0.size)) 0 0 (gA G H0.size) := by
  refine va_MetF (cc := cJ7_fill_53178) (maxL := 4) (ret := none) (by decide +kernel) rfl ?_
  intro p e s m args below meth c s₁ B hml hv
  obtain ⟨rfl, hH0, hK, hE⟩ := hv
  have hx := B.exec
  have hb := B.bytes
  have hr := B.returns
  have hts := atoms_spec (ws := w_c_fill_farmOf) B.pre
  have hown : s.vm.findClass RJ7 = some m.cls := findClass_of_methodNamed B.named
  have hlocks := B.notSynchronized
  subst hH0
  generalize hAe : gA G s.heap.size = A at hE ⊢
  have hA : ∀ q : Nat, s.heap.size ≤ q → A q := fun q h => by rw [← hAe]; exact Or.inr h
  have hG := gA_of hAe
  have hS : va_S A s.heap s.heap [] := va_S.rf
  have hF : gF (dC, dI) SKc G ([(52, 0)] : List (Nat × Nat)) s.heap s.heap := gF.rf
  have hl := lv_entry ([.ref fa, .int vf]) (n := 4) (Nat.le_of_ble_eq_true rfl)
  rw [lg_entry_eq]
  generalize (lg_sl ([.ref fa, .int vf]) ++ List.replicate (4 - (lg_sl ([.ref fa, .int vf])).length) Slot.unset).toArray = ls at hl ⊢
  have hl : lv_has ls 4 [(0, .ref fa), (1, .int vf)] := hl
  refine lv_iconst (v := 0) hx hb dJ7_fill_53178_0 (by decide) ?_
  refine lv_istore_n (lv' := [(2, .int 0), (0, .ref fa), (1, .int vf)]) hx hb dJ7_fill_53178_1 rfl hl (by decide) rfl (fun ls hl => ?_)
  refine lv_aload_n hx hb dJ7_fill_53178_2 rfl (lv_at hl 1 rfl) ?_
  refine tw_alen (v := 96) hx hb hK hT hr_fa shc_52 rfl rfl dJ7_fill_53178_3 ?_
  refine lv_istore_n (lv' := [(3, .int 96), (2, .int 0), (0, .ref fa), (1, .int vf)]) hx hb dJ7_fill_53178_4 rfl hl (by decide) rfl (fun ls hl => ?_)
  have key7 : ∀ (n7 i1 : Nat), i1 + n7 = 96 → 0 ≤ i1 → ∀ (H : Heap) (locs : List Loc), gH (dC, dI) kA (SHc nC nS) G H → gF (dC, dI) SKc G ([(52, 0)] : List (Nat × Nat)) s.heap H → va_S A s.heap H locs → ct H fa 96 (flV V0 vf i1) → ∀ ls : Array Slot, lv_has ls 4 [(3, .int 96), (2, .int (nI i1)), (0, .ref fa), (1, .int vf)] → W p l e (headSpec w_c_fill_farmOf ({ frames := 0, cells := 0, slots := 0, locals := 0 })).room s m #[.ref fa, .int vf] below meth c H locs 0 0 (MQ below (va_Qv (fun (u : Unit) => True) (fun (_ : Unit) (t : State) => gH (dC, dI) kA (SHc nC nS) G t.heap ∧ gF (dC, dI) SKc G ([(52, 0)] : List (Nat × Nat)) s.heap t.heap ∧ ct t.heap fa 96 (fun _ => vf)) A) #[.ref fa, .int vf] s 0 0 A) (F0 m 5 ls []) := by
    intro n7
    induction n7 with
    | zero =>
      intro i1 hn7 hlo8  H locs hT hF hS m2 ls hl
      obtain rfl : 96 = i1 := by omega
      refine lv_iload_n hx hb dJ7_fill_53178_5 rfl (lv_at hl 1 rfl) ?_
      refine lv_iload_n hx hb dJ7_fill_53178_6 rfl (lv_at hl 0 rfl) ?_
      refine lv_icmp_ge (tgt := 20) hx hb dJ7_fill_53178_7 (by decide) (fun c9 => ?_) (fun c9 => (by exfalso; have q9 : ((96 : Nat) : Int) < 96 := ti_nle c9 (by decide) (nI_toInt (by omega)); omega))
      have t10 : 96 ≤ ((96 : Nat) : Int) := ti_le c9 (by decide) (nI_toInt (by omega))
      exact W.vret hx hb hr (fun t ht hW => ⟨⟨(), rfl, (by exact trivial), by (try dsimp only); rw [ht]; exact ⟨hT, hF, (m2.ext (fun _ h9 => fl_e h9))⟩⟩, hS.F ht⟩) hS.2.2 dJ7_fill_53178_20
    | succ n7 ih7 =>
      intro i1 hn7 hlo8  H locs hT hF hS m2 ls hl
      have hlt10 : i1 < 96 := by omega
      refine lv_iload_n hx hb dJ7_fill_53178_5 rfl (lv_at hl 1 rfl) ?_
      refine lv_iload_n hx hb dJ7_fill_53178_6 rfl (lv_at hl 0 rfl) ?_
      refine lv_icmp_ge (tgt := 20) hx hb dJ7_fill_53178_7 (by decide) (fun c11 => (by exfalso; have q9 : 96 ≤ ((i1 : Nat) : Int) := ti_le c11 (by decide) (nI_toInt (by omega)); omega)) (fun c11 => ?_)
      have t12 : ((i1 : Nat) : Int) < 96 := ti_nle c11 (by decide) (nI_toInt (by omega))
      refine lv_aload_n hx hb dJ7_fill_53178_10 rfl (lv_at hl 2 rfl) ?_
      refine lv_iload_n hx hb dJ7_fill_53178_11 rfl (lv_at hl 1 rfl) ?_
      refine lv_iload_n hx hb dJ7_fill_53178_12 rfl (lv_at hl 3 rfl) ?_
      refine tw_iast (i := (nI i1)) (x := vf) hx hb hK hT hG hS hr_fa shc_52 rfl (vp_in_nI (by omega) (by decide)) (gi_all _) dJ7_fill_53178_13 (fun H locs hT oq m13 oi hS => ?_)
      have hF := hF.ast hr_fa skc_52 oq (by decide)
      have m14 := m2.put m13 oi
      refine lv_iinc (v := nI (i1 + 1)) (lv' := [(2, .int (nI (i1 + 1))), (3, .int 96), (0, .ref fa), (1, .int vf)]) hx hb dJ7_fill_53178_14 hl (k := 1) rfl (nI_add i1 1) (by decide) rfl (fun ls hl => ?_)
      refine lv_goto (tgt := 5) hx hb dJ7_fill_53178_17 (by decide) ?_
      exact ih7 (i1 + 1) (by omega) (by omega) _ _ hT hF hS (m14.ext (fun _ _ => by rw [tn_nI (by omega)]; exact fl_s)) ls (lv_sub hl [1, 0, 2, 3] rfl)
  exact key7 (96 - 0) 0 (by omega) (Nat.le_refl _) _ _ hT hF hS (hc_V0.ext (fun _ _ => fl_0)) ls (lv_sub hl [0, 1, 2, 3] rfl)
theorem nd_103 : ∀ (G : gT) (k : Nat), k < 18 → (gl [gN 51, gN 52, gN 53, gN 54, gN 55, gN 56, gN 57, gN 7, gN 7, gN 7, gI (-2147483648) 2147483647, gI 0 1, gJ, gJ, gI 0 0, gI (-2147483648) 2147483647, gI 0 30, gI (-2147483648) 2147483647]) G k (defaultValue (tyX0 k)) := fun G k hk => match k, hk with
  | 0, _ => gl_at rfl ⟨none, rfl, fun _ h => by cases h⟩
  | 1, _ => gl_at rfl ⟨none, rfl, fun _ h => by cases h⟩
  | 2, _ => gl_at rfl ⟨none, rfl, fun _ h => by cases h⟩
  | 3, _ => gl_at rfl ⟨none, rfl, fun _ h => by cases h⟩
  | 4, _ => gl_at rfl ⟨none, rfl, fun _ h => by cases h⟩
  | 5, _ => gl_at rfl ⟨none, rfl, fun _ h => by cases h⟩
  | 6, _ => gl_at rfl ⟨none, rfl, fun _ h => by cases h⟩
  | 7, _ => gl_at rfl ⟨none, rfl, fun _ h => by cases h⟩
  | 8, _ => gl_at rfl ⟨none, rfl, fun _ h => by cases h⟩
  | 9, _ => gl_at rfl ⟨none, rfl, fun _ h => by cases h⟩
  | 10, _ => gl_at rfl ⟨0, rfl, by decide, by decide⟩
  | 11, _ => gl_at rfl ⟨0, rfl, by decide, by decide⟩
  | 12, _ => gl_at rfl ⟨0, rfl⟩
  | 13, _ => gl_at rfl ⟨0, rfl⟩
  | 14, _ => gl_at rfl ⟨0, rfl, by decide, by decide⟩
  | 15, _ => gl_at rfl ⟨0, rfl, by decide, by decide⟩
  | 16, _ => gl_at rfl ⟨0, rfl, by decide, by decide⟩
  | 17, _ => gl_at rfl ⟨0, rfl, by decide, by decide⟩
  | k + 18, hk => absurd hk (by omega)
theorem nd_105 : ∀ (G : gT) (k : Nat), k < 15 → (gl [gN 25, gN 26, gN 27, gN 28, gN 29, gN 30, gN 31, gN 32, gN 33, gN 34, gN 35, gI (-2147483648) 2147483647, gI (-2147483648) 2147483647, gI (-2147483648) 2147483647, gI (-2147483648) 2147483647]) G k (defaultValue (tyX2 k)) := fun G k hk => match k, hk with
  | 0, _ => gl_at rfl ⟨none, rfl, fun _ h => by cases h⟩
  | 1, _ => gl_at rfl ⟨none, rfl, fun _ h => by cases h⟩
  | 2, _ => gl_at rfl ⟨none, rfl, fun _ h => by cases h⟩
  | 3, _ => gl_at rfl ⟨none, rfl, fun _ h => by cases h⟩
  | 4, _ => gl_at rfl ⟨none, rfl, fun _ h => by cases h⟩
  | 5, _ => gl_at rfl ⟨none, rfl, fun _ h => by cases h⟩
  | 6, _ => gl_at rfl ⟨none, rfl, fun _ h => by cases h⟩
  | 7, _ => gl_at rfl ⟨none, rfl, fun _ h => by cases h⟩
  | 8, _ => gl_at rfl ⟨none, rfl, fun _ h => by cases h⟩
  | 9, _ => gl_at rfl ⟨none, rfl, fun _ h => by cases h⟩
  | 10, _ => gl_at rfl ⟨none, rfl, fun _ h => by cases h⟩
  | 11, _ => gl_at rfl ⟨0, rfl, by decide, by decide⟩
  | 12, _ => gl_at rfl ⟨0, rfl, by decide, by decide⟩
  | 13, _ => gl_at rfl ⟨0, rfl, by decide, by decide⟩
  | 14, _ => gl_at rfl ⟨0, rfl, by decide, by decide⟩
  | k + 15, hk => absurd hk (by omega)
theorem nd_106 : ∀ (G : gT) (k : Nat), k < 5 → (gl [gN 11, gN 5, gV, gI 0 30, gI 0 40000]) G k (defaultValue (tyX3 k)) := fun G k hk => match k, hk with
  | 0, _ => gl_at rfl ⟨none, rfl, fun _ h => by cases h⟩
  | 1, _ => gl_at rfl ⟨none, rfl, fun _ h => by cases h⟩
  | 2, _ => gl_at rfl ⟨none, rfl⟩
  | 3, _ => gl_at rfl ⟨0, rfl, by decide, by decide⟩
  | 4, _ => gl_at rfl ⟨0, rfl, by decide, by decide⟩
  | k + 5, hk => absurd hk (by omega)
theorem nd_107 : ∀ (G : gT) (k : Nat), k < 14 → (gl [gN 40, gN 41, gN 42, gN 43, gN 44, gN 45, gN 46, gN 47, gN 48, gN 49, gN 50, gI 0 20, gI 0 400, gI 0 400]) G k (defaultValue (tyX4 k)) := fun G k hk => match k, hk with
  | 0, _ => gl_at rfl ⟨none, rfl, fun _ h => by cases h⟩
  | 1, _ => gl_at rfl ⟨none, rfl, fun _ h => by cases h⟩
  | 2, _ => gl_at rfl ⟨none, rfl, fun _ h => by cases h⟩
  | 3, _ => gl_at rfl ⟨none, rfl, fun _ h => by cases h⟩
  | 4, _ => gl_at rfl ⟨none, rfl, fun _ h => by cases h⟩
  | 5, _ => gl_at rfl ⟨none, rfl, fun _ h => by cases h⟩
  | 6, _ => gl_at rfl ⟨none, rfl, fun _ h => by cases h⟩
  | 7, _ => gl_at rfl ⟨none, rfl, fun _ h => by cases h⟩
  | 8, _ => gl_at rfl ⟨none, rfl, fun _ h => by cases h⟩
  | 9, _ => gl_at rfl ⟨none, rfl, fun _ h => by cases h⟩
  | 10, _ => gl_at rfl ⟨none, rfl, fun _ h => by cases h⟩
  | 11, _ => gl_at rfl ⟨0, rfl, by decide, by decide⟩
  | 12, _ => gl_at rfl ⟨0, rfl, by decide, by decide⟩
  | 13, _ => gl_at rfl ⟨0, rfl, by decide, by decide⟩
  | k + 14, hk => absurd hk (by omega)
theorem nd_108 : ∀ (G : gT) (k : Nat), k < 17 → (gl [gN 58, gN 59, gN 60, gN 61, gN 62, gN 63, gN 64, gN 65, gN 66, gN 67, gN 68, gN 69, gI 0 5, gI 0 6, gI (-2147483648) 2147483647, gI 0 7, gI (-2147483648) 2147483647]) G k (defaultValue (tyX5 k)) := fun G k hk => match k, hk with
  | 0, _ => gl_at rfl ⟨none, rfl, fun _ h => by cases h⟩
  | 1, _ => gl_at rfl ⟨none, rfl, fun _ h => by cases h⟩
  | 2, _ => gl_at rfl ⟨none, rfl, fun _ h => by cases h⟩
  | 3, _ => gl_at rfl ⟨none, rfl, fun _ h => by cases h⟩
  | 4, _ => gl_at rfl ⟨none, rfl, fun _ h => by cases h⟩
  | 5, _ => gl_at rfl ⟨none, rfl, fun _ h => by cases h⟩
  | 6, _ => gl_at rfl ⟨none, rfl, fun _ h => by cases h⟩
  | 7, _ => gl_at rfl ⟨none, rfl, fun _ h => by cases h⟩
  | 8, _ => gl_at rfl ⟨none, rfl, fun _ h => by cases h⟩
  | 9, _ => gl_at rfl ⟨none, rfl, fun _ h => by cases h⟩
  | 10, _ => gl_at rfl ⟨none, rfl, fun _ h => by cases h⟩
  | 11, _ => gl_at rfl ⟨none, rfl, fun _ h => by cases h⟩
  | 12, _ => gl_at rfl ⟨0, rfl, by decide, by decide⟩
  | 13, _ => gl_at rfl ⟨0, rfl, by decide, by decide⟩
  | 14, _ => gl_at rfl ⟨0, rfl, by decide, by decide⟩
  | 15, _ => gl_at rfl ⟨0, rfl, by decide, by decide⟩
  | 16, _ => gl_at rfl ⟨0, rfl, by decide, by decide⟩
  | k + 17, hk => absurd hk (by omega)
theorem nd_109 : ∀ (G : gT) (k : Nat), k < 4 → (gl [gN 38, gN 39, gI 0 24, gI 0 23]) G k (defaultValue (tyX6 k)) := fun G k hk => match k, hk with
  | 0, _ => gl_at rfl ⟨none, rfl, fun _ h => by cases h⟩
  | 1, _ => gl_at rfl ⟨none, rfl, fun _ h => by cases h⟩
  | 2, _ => gl_at rfl ⟨0, rfl, by decide, by decide⟩
  | 3, _ => gl_at rfl ⟨0, rfl, by decide, by decide⟩
  | k + 4, hk => absurd hk (by omega)
theorem nd_111 : ∀ (G : gT) (k : Nat), k < 7 → (gl [gN 19, gN 20, gN 21, gN 22, gN 12, gN 12, gI 0 20]) G k (defaultValue (tyX8 k)) := fun G k hk => match k, hk with
  | 0, _ => gl_at rfl ⟨none, rfl, fun _ h => by cases h⟩
  | 1, _ => gl_at rfl ⟨none, rfl, fun _ h => by cases h⟩
  | 2, _ => gl_at rfl ⟨none, rfl, fun _ h => by cases h⟩
  | 3, _ => gl_at rfl ⟨none, rfl, fun _ h => by cases h⟩
  | 4, _ => gl_at rfl ⟨none, rfl, fun _ h => by cases h⟩
  | 5, _ => gl_at rfl ⟨none, rfl, fun _ h => by cases h⟩
  | 6, _ => gl_at rfl ⟨0, rfl, by decide, by decide⟩
  | k + 7, hk => absurd hk (by omega)
theorem nd_112 : ∀ (G : gT) (k : Nat), k < 3 → (gl [gN 23, gN 24, gI 0 60]) G k (defaultValue (tyX9 k)) := fun G k hk => match k, hk with
  | 0, _ => gl_at rfl ⟨none, rfl, fun _ h => by cases h⟩
  | 1, _ => gl_at rfl ⟨none, rfl, fun _ h => by cases h⟩
  | 2, _ => gl_at rfl ⟨0, rfl, by decide, by decide⟩
  | k + 3, hk => absurd hk (by omega)
theorem nd_113 : ∀ (G : gT) (k : Nat), k < 12 → (gl [gN 36, gN 37, gI (-2147483648) 2147483647, gI 0 95, gI 0 95, gI (-2147483648) 2147483647, gI (-2147483648) 2147483647, gI 0 6, gI (-2147483648) 2147483647, gI 0 1, gI (-2147483648) 2147483647, gI (-2147483648) 2147483647]) G k (defaultValue (tyX10 k)) := fun G k hk => match k, hk with
  | 0, _ => gl_at rfl ⟨none, rfl, fun _ h => by cases h⟩
  | 1, _ => gl_at rfl ⟨none, rfl, fun _ h => by cases h⟩
  | 2, _ => gl_at rfl ⟨0, rfl, by decide, by decide⟩
  | 3, _ => gl_at rfl ⟨0, rfl, by decide, by decide⟩
  | 4, _ => gl_at rfl ⟨0, rfl, by decide, by decide⟩
  | 5, _ => gl_at rfl ⟨0, rfl, by decide, by decide⟩
  | 6, _ => gl_at rfl ⟨0, rfl, by decide, by decide⟩
  | 7, _ => gl_at rfl ⟨0, rfl, by decide, by decide⟩
  | 8, _ => gl_at rfl ⟨0, rfl, by decide, by decide⟩
  | 9, _ => gl_at rfl ⟨0, rfl, by decide, by decide⟩
  | 10, _ => gl_at rfl ⟨0, rfl, by decide, by decide⟩
  | 11, _ => gl_at rfl ⟨0, rfl, by decide, by decide⟩
  | k + 12, hk => absurd hk (by omega)
theorem nd_114 : ∀ (G : gT) (k : Nat), k < 9 → (gl [gN 16, gN 6, gN 9, gN 3, gN 17, gN 8, gN 90, gI 0 400, gI 0 0]) G k (defaultValue (tyX11 k)) := fun G k hk => match k, hk with
  | 0, _ => gl_at rfl ⟨none, rfl, fun _ h => by cases h⟩
  | 1, _ => gl_at rfl ⟨none, rfl, fun _ h => by cases h⟩
  | 2, _ => gl_at rfl ⟨none, rfl, fun _ h => by cases h⟩
  | 3, _ => gl_at rfl ⟨none, rfl, fun _ h => by cases h⟩
  | 4, _ => gl_at rfl ⟨none, rfl, fun _ h => by cases h⟩
  | 5, _ => gl_at rfl ⟨none, rfl, fun _ h => by cases h⟩
  | 6, _ => gl_at rfl ⟨none, rfl, fun _ h => by cases h⟩
  | 7, _ => gl_at rfl ⟨0, rfl, by decide, by decide⟩
  | 8, _ => gl_at rfl ⟨0, rfl, by decide, by decide⟩
  | k + 9, hk => absurd hk (by omega)
theorem nd_120 : ∀ (G : gT) (k : Nat), k < 5 → (gl [gN 91, gN 93, gV, gI 0 30, gI 0 40000]) G k (defaultValue (tyX3 k)) := fun G k hk => match k, hk with
  | 0, _ => gl_at rfl ⟨none, rfl, fun _ h => by cases h⟩
  | 1, _ => gl_at rfl ⟨none, rfl, fun _ h => by cases h⟩
  | 2, _ => gl_at rfl ⟨none, rfl⟩
  | 3, _ => gl_at rfl ⟨0, rfl, by decide, by decide⟩
  | 4, _ => gl_at rfl ⟨0, rfl, by decide, by decide⟩
  | k + 5, hk => absurd hk (by omega)
theorem nd_121 : ∀ (G : gT) (k : Nat), k < 7 → (gl [gN 71, gN 72, gN 73, gN 74, gN 92, gN 92, gI 0 20]) G k (defaultValue (tyX8 k)) := fun G k hk => match k, hk with
  | 0, _ => gl_at rfl ⟨none, rfl, fun _ h => by cases h⟩
  | 1, _ => gl_at rfl ⟨none, rfl, fun _ h => by cases h⟩
  | 2, _ => gl_at rfl ⟨none, rfl, fun _ h => by cases h⟩
  | 3, _ => gl_at rfl ⟨none, rfl, fun _ h => by cases h⟩
  | 4, _ => gl_at rfl ⟨none, rfl, fun _ h => by cases h⟩
  | 5, _ => gl_at rfl ⟨none, rfl, fun _ h => by cases h⟩
  | 6, _ => gl_at rfl ⟨0, rfl, by decide, by decide⟩
  | k + 7, hk => absurd hk (by omega)
theorem nd_122 : ∀ (G : gT) (k : Nat), k < 3 → (gl [gN 75, gN 76, gI 0 60]) G k (defaultValue (tyX9 k)) := fun G k hk => match k, hk with
  | 0, _ => gl_at rfl ⟨none, rfl, fun _ h => by cases h⟩
  | 1, _ => gl_at rfl ⟨none, rfl, fun _ h => by cases h⟩
  | 2, _ => gl_at rfl ⟨0, rfl, by decide, by decide⟩
  | k + 3, hk => absurd hk (by omega)
theorem nd_123 : ∀ (G : gT) (k : Nat), k < 15 → (gl [gN 77, gN 78, gN 79, gN 80, gN 81, gN 82, gN 83, gN 84, gN 85, gN 86, gN 87, gI (-2147483648) 2147483647, gI (-2147483648) 2147483647, gI (-2147483648) 2147483647, gI (-2147483648) 2147483647]) G k (defaultValue (tyX2 k)) := fun G k hk => match k, hk with
  | 0, _ => gl_at rfl ⟨none, rfl, fun _ h => by cases h⟩
  | 1, _ => gl_at rfl ⟨none, rfl, fun _ h => by cases h⟩
  | 2, _ => gl_at rfl ⟨none, rfl, fun _ h => by cases h⟩
  | 3, _ => gl_at rfl ⟨none, rfl, fun _ h => by cases h⟩
  | 4, _ => gl_at rfl ⟨none, rfl, fun _ h => by cases h⟩
  | 5, _ => gl_at rfl ⟨none, rfl, fun _ h => by cases h⟩
  | 6, _ => gl_at rfl ⟨none, rfl, fun _ h => by cases h⟩
  | 7, _ => gl_at rfl ⟨none, rfl, fun _ h => by cases h⟩
  | 8, _ => gl_at rfl ⟨none, rfl, fun _ h => by cases h⟩
  | 9, _ => gl_at rfl ⟨none, rfl, fun _ h => by cases h⟩
  | 10, _ => gl_at rfl ⟨none, rfl, fun _ h => by cases h⟩
  | 11, _ => gl_at rfl ⟨0, rfl, by decide, by decide⟩
  | 12, _ => gl_at rfl ⟨0, rfl, by decide, by decide⟩
  | 13, _ => gl_at rfl ⟨0, rfl, by decide, by decide⟩
  | 14, _ => gl_at rfl ⟨0, rfl, by decide, by decide⟩
  | k + 15, hk => absurd hk (by omega)
theorem nd_124 : ∀ (G : gT) (k : Nat), k < 12 → (gl [gN 88, gN 89, gI (-2147483648) 2147483647, gI 0 95, gI 0 95, gI (-2147483648) 2147483647, gI (-2147483648) 2147483647, gI 0 6, gI (-2147483648) 2147483647, gI 0 1, gI (-2147483648) 2147483647, gI (-2147483648) 2147483647]) G k (defaultValue (tyX10 k)) := fun G k hk => match k, hk with
  | 0, _ => gl_at rfl ⟨none, rfl, fun _ h => by cases h⟩
  | 1, _ => gl_at rfl ⟨none, rfl, fun _ h => by cases h⟩
  | 2, _ => gl_at rfl ⟨0, rfl, by decide, by decide⟩
  | 3, _ => gl_at rfl ⟨0, rfl, by decide, by decide⟩
  | 4, _ => gl_at rfl ⟨0, rfl, by decide, by decide⟩
  | 5, _ => gl_at rfl ⟨0, rfl, by decide, by decide⟩
  | 6, _ => gl_at rfl ⟨0, rfl, by decide, by decide⟩
  | 7, _ => gl_at rfl ⟨0, rfl, by decide, by decide⟩
  | 8, _ => gl_at rfl ⟨0, rfl, by decide, by decide⟩
  | 9, _ => gl_at rfl ⟨0, rfl, by decide, by decide⟩
  | 10, _ => gl_at rfl ⟨0, rfl, by decide, by decide⟩
  | 11, _ => gl_at rfl ⟨0, rfl, by decide, by decide⟩
  | k + 12, hk => absurd hk (by omega)
theorem nd_10 : ∀ (G : gT) (k : Nat), k < 12 → (gl [gI (-2147483648) 2147483647, gI (-2147483648) 2147483647, gI (-2147483648) 2147483647, gI 0 1, gI 0 1, gI (-2147483648) 2147483647, gI (-2147483648) 2147483647, gI (-1) 29, gI (-2147483648) 2147483647, gI (-2147483648) 2147483647, gI 0 1, gI 0 1]) G k (defaultValue (tyX7 k)) := fun G k hk => match k, hk with
  | 0, _ => gl_at rfl ⟨0, rfl, by decide, by decide⟩
  | 1, _ => gl_at rfl ⟨0, rfl, by decide, by decide⟩
  | 2, _ => gl_at rfl ⟨0, rfl, by decide, by decide⟩
  | 3, _ => gl_at rfl ⟨0, rfl, by decide, by decide⟩
  | 4, _ => gl_at rfl ⟨0, rfl, by decide, by decide⟩
  | 5, _ => gl_at rfl ⟨0, rfl, by decide, by decide⟩
  | 6, _ => gl_at rfl ⟨0, rfl, by decide, by decide⟩
  | 7, _ => gl_at rfl ⟨0, rfl, by decide, by decide⟩
  | 8, _ => gl_at rfl ⟨0, rfl, by decide, by decide⟩
  | 9, _ => gl_at rfl ⟨0, rfl, by decide, by decide⟩
  | 10, _ => gl_at rfl ⟨0, rfl, by decide, by decide⟩
  | 11, _ => gl_at rfl ⟨0, rfl, by decide, by decide⟩
  | k + 12, hk => absurd hk (by omega)
theorem nd_4 : ∀ (G : gT) (k : Nat), k < 8 → (gl [gI 0 29, gI (-2147483648) 2147483647, gI (-2147483648) 2147483647, gI (-2147483648) 2147483647, gI 0 1, gI (-2147483648) 2147483647, gI (-2147483648) 2147483647, gI 0 1]) G k (defaultValue (tyX1 k)) := fun G k hk => match k, hk with
  | 0, _ => gl_at rfl ⟨0, rfl, by decide, by decide⟩
  | 1, _ => gl_at rfl ⟨0, rfl, by decide, by decide⟩
  | 2, _ => gl_at rfl ⟨0, rfl, by decide, by decide⟩
  | 3, _ => gl_at rfl ⟨0, rfl, by decide, by decide⟩
  | 4, _ => gl_at rfl ⟨0, rfl, by decide, by decide⟩
  | 5, _ => gl_at rfl ⟨0, rfl, by decide, by decide⟩
  | 6, _ => gl_at rfl ⟨0, rfl, by decide, by decide⟩
  | 7, _ => gl_at rfl ⟨0, rfl, by decide, by decide⟩
  | k + 8, hk => absurd hk (by omega)
def w_n_X9 : List Cond := .code yX9_init cX9_init 1 none :: (HAppend.hAppend (α := List Cond) (β := List Cond) (γ := List Cond) [.methodLink RX9 3 objectInit, .instanceMethod objectInit, .code objectInit ⟨#[0xb1]⟩ 1 none, .arrayClass .int, .fieldLink RX9 9 "SeaLand$Tellings" "hours" "[I", .fieldLink RX9 15 "SeaLand$Tellings" "numbers" "[I"] bs2)
set_option maxHeartbeats 4000000 in
set_option maxRecDepth 100000 in
theorem n_X9 (l : Launch) (dC : Nat → ClassId) (dI : Nat → Nat → Nat) (kA : Nat → ClassId) (adK adV : Nat → Nat) (G : gT) (H0 : Heap) (nC nS : Int) (o0 : Nat) (hT : gH (dC, dI) kA (SHc nC nS) G H0) (hr_o0 : G o0 = some 112) (hgC : 0 ≤ nC ∧ nC ≤ 40) (hgS : 0 ≤ nS ∧ nS ≤ 60) : Met l yX9_init w_n_X9 ({ frames := 1, cells := 2, slots := 120, locals := 30 }) (va_Pc [.ref o0] (fun U => U.heap = H0 ∧ va_K (dC, dI) vwCl (tyl kA) U ∧ EVC adK adV (gA G H0.size) U U.heap ∧ AO U)) (va_Qv (fun (u : gT) => True) (fun (G1 : gT) (t : State) => gH (dC, dI) kA (SHc nC nS) G1 t.heap ∧ G1 o0 = some 12 ∧ gY ([23, 24] : List Nat) 12 o0 G G1 H0 t.heap) (gA G H0.size)) 2 120 (gA G H0.size) := by
  refine Met.ofW (cc := cX9_init) (maxL := 1) (ret := none) (by decide) rfl ?_
  intro p e s m args below meth c s₁ B hml hv
  obtain ⟨rfl, hH0, hK, hE, hAO⟩ := hv
  have hx := B.exec
  have hb := B.bytes
  have hr := B.returns
  have hts := atoms_spec (ws := w_n_X9) B.pre
  have hown : s.vm.findClass RX9 = some m.cls := findClass_of_methodNamed B.named
  have hlocks := B.notSynchronized
  have hin : meth.name = "<init>" := (name_of_methodNamed B.named B.method).1
  subst hH0
  generalize hAe : gA G s.heap.size = A at hE ⊢
  have hA : ∀ q : Nat, s.heap.size ≤ q → A q := fun q h => by rw [← hAe]; exact Or.inr h
  have hG := gA_of hAe
  have hS : va_S A s.heap s.heap [] := va_S.rf
  have hl := lv_entry ([.ref o0]) (n := 1) (Nat.le_of_ble_eq_true rfl)
  rw [lg_entry_eq]
  generalize (lg_sl ([.ref o0]) ++ List.replicate (1 - (lg_sl ([.ref o0])).length) Slot.unset).toArray = ls at hl ⊢
  have hl : lv_has ls 1 [(0, .ref o0)] := hl
  have hG0 := hG
  have hY : gY ([23, 24] : List Nat) 12 o0 G G s.heap s.heap := gY.rf hT
  have hAo := hG _ _ hr_o0
  refine lv_aload_n hx hb dX9_init_0 rfl (lv_at hl 0 rfl) ?_
  refine W.objInit hx hb hown (ht_at2 hts 0 rfl) (ht_at2 hts 1 rfl) (ht_at2 hts 2 rfl) rfl (by rw [hml]; exact hl.1) rfl dX9_init_1 (Nat.le_of_ble_eq_true rfl) (Nat.le_of_ble_eq_true rfl) ?_
  refine W.eq (g2 := F0 m 4 ls []) rfl ?_
  refine lv_aload_n hx hb dX9_init_4 rfl (lv_at hl 0 rfl) ?_
  refine lv_bipush (v := 60) hx hb dX9_init_5 (by decide) ?_
  have hz9 := hS.1
  refine tw_newa (ty := .int) hx hb (ht_at2 hts 3 rfl) rfl hK mon_c hT hS hG hA (shc_23) rfl (fun _ _ _ => ⟨0, rfl, by decide, by decide⟩) (by decide) rfl (Nat.le_of_ble_eq_true rfl) (Nat.le_of_ble_eq_true rfl) (Nat.le_of_ble_eq_true rfl) dX9_init_7 (fun q1 G1 H hq9 eG hz1 hz2 hT hx9 hG hm9 hS => ?_)
  have hn_q1 : s.heap.size ≤ q1 := Nat.le_trans hz9 (Nat.le_of_eq hz2)
  have hY := hY.new hn_q1 eG hx9 (by decide)
  have hg2 := (hx9 _ _ hr_o0).1
  have hg3 : G1 q1 = some 23 := by rw [eG]; exact gU_at
  refine tw_putF (v := .ref q1) (ty := (.array .int)) hx hb hts bF2_X9 tyX9 tyX9_ok nmX9 hown hK hT hG hS hg2 shc_112 rfl 0 (by decide) (ht_at2 hts 4 rfl) (fun _ h9 => h9) rfl hin rfl (by decide +kernel) rfl rfl (gl_at rfl ⟨some _, rfl, fun _ h => by cases h; exact hg3⟩) dX9_init_9 (fun H locs hT oq m4 oj hS => ?_)
  have hY := hY.put oq
  refine lv_aload_n hx hb dX9_init_12 rfl (lv_at hl 0 rfl) ?_
  refine lv_bipush (v := 60) hx hb dX9_init_13 (by decide) ?_
  have hz9 := hS.1
  refine tw_newa (ty := .int) hx hb (ht_at2 hts 3 rfl) rfl hK mon_c hT hS hG hA (shc_24) rfl (fun _ _ _ => ⟨0, rfl, by decide, by decide⟩) (by decide) rfl (Nat.le_of_ble_eq_true rfl) (Nat.le_of_ble_eq_true rfl) (Nat.le_of_ble_eq_true rfl) dX9_init_15 (fun q5 G2 H hq9 eG hz1 hz2 hT hx9 hG hm9 hS => ?_)
  have hn_q5 : s.heap.size ≤ q5 := Nat.le_trans hz9 (Nat.le_of_eq hz2)
  have hY := hY.new hn_q5 eG hx9 (by decide)
  have m6 := (el_kept (hx9 _ _ hg2).2).trans m4
  have hg7 := (hx9 _ _ hg2).1
  have hg8 := (hx9 _ _ hg3).1
  have hg9 : G2 q5 = some 24 := by rw [eG]; exact gU_at
  refine tw_putF (v := .ref q5) (ty := (.array .int)) hx hb hts bF2_X9 tyX9 tyX9_ok nmX9 hown hK hT hG hS hg7 shc_112 rfl 1 (by decide) (ht_at2 hts 5 rfl) (fun _ h9 => h9) rfl hin rfl (by decide +kernel) rfl rfl (gl_at rfl ⟨some _, rfl, fun _ h => by cases h; exact hg9⟩) dX9_init_17 (fun H locs hT oq m10 oj hS => ?_)
  have hY := hY.put oq
  have m11 := (oj 0 (by decide) (by decide)).trans m6
  have hT := hT.grown (t := 12) mon_c hg7 (by decide) (by
    have h8 := hT _ _ hg7; rw [shc_112] at h8; rw [shc_12]
    refine gC.grow h8 (fun k v hk hm hv => match k, hk, hm, hv with
      | 0, _, hm, hv => gl_at rfl (by obtain rfl : v = .ref q1 := Option.some.inj (hm.symm.trans m11); exact ⟨_, rfl, (gU_ne (gne hg8 hg7 (by decide))).trans hg8⟩)
      | 1, _, hm, hv => gl_at rfl (by obtain rfl : v = .ref q5 := Option.some.inj (hm.symm.trans m10); exact ⟨_, rfl, (gU_ne (gne hg9 hg7 (by decide))).trans hg9⟩)
      | 2, _, hm, hv => gl_at rfl (hv _ rfl)
      | k + 3, hk, _, _ => absurd hk (by omega)))
  have hY := hY.grow
  exact W.vret hx hb hr (fun t ht hW => ⟨⟨_, rfl, trivial, by (try dsimp only); rw [ht]; exact ⟨hT, gU_at, hY⟩⟩, hS.F ht⟩) hS.2.2 dX9_init_20
def w_n_X10 : List Cond := .code yX10_init cX10_init 1 none :: (HAppend.hAppend (α := List Cond) (β := List Cond) (γ := List Cond) [.methodLink RX10 3 objectInit, .instanceMethod objectInit, .code objectInit ⟨#[0xb1]⟩ 1 none, .arrayClass .int, .fieldLink RX10 9 "SeaLand$Work" "thick" "[I", .fieldLink RX10 15 "SeaLand$Work" "clay" "[I"] bs2)
set_option maxHeartbeats 4000000 in
set_option maxRecDepth 100000 in
theorem n_X10 (l : Launch) (dC : Nat → ClassId) (dI : Nat → Nat → Nat) (kA : Nat → ClassId) (adK adV : Nat → Nat) (G : gT) (H0 : Heap) (nC nS : Int) (o0 : Nat) (hT : gH (dC, dI) kA (SHc nC nS) G H0) (hr_o0 : G o0 = some 113) (hgC : 0 ≤ nC ∧ nC ≤ 40) (hgS : 0 ≤ nS ∧ nS ≤ 60) : Met l yX10_init w_n_X10 ({ frames := 1, cells := 2, slots := 12, locals := 30 }) (va_Pc [.ref o0] (fun U => U.heap = H0 ∧ va_K (dC, dI) vwCl (tyl kA) U ∧ EVC adK adV (gA G H0.size) U U.heap ∧ AO U)) (va_Qv (fun (u : gT) => True) (fun (G1 : gT) (t : State) => gH (dC, dI) kA (SHc nC nS) G1 t.heap ∧ G1 o0 = some 13 ∧ gY ([36, 37] : List Nat) 13 o0 G G1 H0 t.heap) (gA G H0.size)) 2 12 (gA G H0.size) := by
  refine Met.ofW (cc := cX10_init) (maxL := 1) (ret := none) (by decide) rfl ?_
  intro p e s m args below meth c s₁ B hml hv
  obtain ⟨rfl, hH0, hK, hE, hAO⟩ := hv
  have hx := B.exec
  have hb := B.bytes
  have hr := B.returns
  have hts := atoms_spec (ws := w_n_X10) B.pre
  have hown : s.vm.findClass RX10 = some m.cls := findClass_of_methodNamed B.named
  have hlocks := B.notSynchronized
  have hin : meth.name = "<init>" := (name_of_methodNamed B.named B.method).1
  subst hH0
  generalize hAe : gA G s.heap.size = A at hE ⊢
  have hA : ∀ q : Nat, s.heap.size ≤ q → A q := fun q h => by rw [← hAe]; exact Or.inr h
  have hG := gA_of hAe
  have hS : va_S A s.heap s.heap [] := va_S.rf
  have hl := lv_entry ([.ref o0]) (n := 1) (Nat.le_of_ble_eq_true rfl)
  rw [lg_entry_eq]
  generalize (lg_sl ([.ref o0]) ++ List.replicate (1 - (lg_sl ([.ref o0])).length) Slot.unset).toArray = ls at hl ⊢
  have hl : lv_has ls 1 [(0, .ref o0)] := hl
  have hG0 := hG
  have hY : gY ([36, 37] : List Nat) 13 o0 G G s.heap s.heap := gY.rf hT
  have hAo := hG _ _ hr_o0
  refine lv_aload_n hx hb dX10_init_0 rfl (lv_at hl 0 rfl) ?_
  refine W.objInit hx hb hown (ht_at2 hts 0 rfl) (ht_at2 hts 1 rfl) (ht_at2 hts 2 rfl) rfl (by rw [hml]; exact hl.1) rfl dX10_init_1 (Nat.le_of_ble_eq_true rfl) (Nat.le_of_ble_eq_true rfl) ?_
  refine W.eq (g2 := F0 m 4 ls []) rfl ?_
  refine lv_aload_n hx hb dX10_init_4 rfl (lv_at hl 0 rfl) ?_
  refine lv_bipush (v := 6) hx hb dX10_init_5 (by decide) ?_
  have hz9 := hS.1
  refine tw_newa (ty := .int) hx hb (ht_at2 hts 3 rfl) rfl hK mon_c hT hS hG hA (shc_36) rfl (fun _ _ _ => ⟨0, rfl, by decide, by decide⟩) (by decide) rfl (Nat.le_of_ble_eq_true rfl) (Nat.le_of_ble_eq_true rfl) (Nat.le_of_ble_eq_true rfl) dX10_init_7 (fun q1 G1 H hq9 eG hz1 hz2 hT hx9 hG hm9 hS => ?_)
  have hn_q1 : s.heap.size ≤ q1 := Nat.le_trans hz9 (Nat.le_of_eq hz2)
  have hY := hY.new hn_q1 eG hx9 (by decide)
  have hg2 := (hx9 _ _ hr_o0).1
  have hg3 : G1 q1 = some 36 := by rw [eG]; exact gU_at
  refine tw_putF (v := .ref q1) (ty := (.array .int)) hx hb hts bF2_X10 tyX10 tyX10_ok nmX10 hown hK hT hG hS hg2 shc_113 rfl 0 (by decide) (ht_at2 hts 4 rfl) (fun _ h9 => h9) rfl hin rfl (by decide +kernel) rfl rfl (gl_at rfl ⟨some _, rfl, fun _ h => by cases h; exact hg3⟩) dX10_init_9 (fun H locs hT oq m4 oj hS => ?_)
  have hY := hY.put oq
  refine lv_aload_n hx hb dX10_init_12 rfl (lv_at hl 0 rfl) ?_
  refine lv_bipush (v := 6) hx hb dX10_init_13 (by decide) ?_
  have hz9 := hS.1
  refine tw_newa (ty := .int) hx hb (ht_at2 hts 3 rfl) rfl hK mon_c hT hS hG hA (shc_37) rfl (fun _ _ _ => ⟨0, rfl, by decide, by decide⟩) (by decide) rfl (Nat.le_of_ble_eq_true rfl) (Nat.le_of_ble_eq_true rfl) (Nat.le_of_ble_eq_true rfl) dX10_init_15 (fun q5 G2 H hq9 eG hz1 hz2 hT hx9 hG hm9 hS => ?_)
  have hn_q5 : s.heap.size ≤ q5 := Nat.le_trans hz9 (Nat.le_of_eq hz2)
  have hY := hY.new hn_q5 eG hx9 (by decide)
  have m6 := (el_kept (hx9 _ _ hg2).2).trans m4
  have hg7 := (hx9 _ _ hg2).1
  have hg8 := (hx9 _ _ hg3).1
  have hg9 : G2 q5 = some 37 := by rw [eG]; exact gU_at
  refine tw_putF (v := .ref q5) (ty := (.array .int)) hx hb hts bF2_X10 tyX10 tyX10_ok nmX10 hown hK hT hG hS hg7 shc_113 rfl 1 (by decide) (ht_at2 hts 5 rfl) (fun _ h9 => h9) rfl hin rfl (by decide +kernel) rfl rfl (gl_at rfl ⟨some _, rfl, fun _ h => by cases h; exact hg9⟩) dX10_init_17 (fun H locs hT oq m10 oj hS => ?_)
  have hY := hY.put oq
  have m11 := (oj 0 (by decide) (by decide)).trans m6
  have hT := hT.grown (t := 13) mon_c hg7 (by decide) (by
    have h8 := hT _ _ hg7; rw [shc_113] at h8; rw [shc_13]
    refine gC.grow h8 (fun k v hk hm hv => match k, hk, hm, hv with
      | 0, _, hm, hv => gl_at rfl (by obtain rfl : v = .ref q1 := Option.some.inj (hm.symm.trans m11); exact ⟨_, rfl, (gU_ne (gne hg8 hg7 (by decide))).trans hg8⟩)
      | 1, _, hm, hv => gl_at rfl (by obtain rfl : v = .ref q5 := Option.some.inj (hm.symm.trans m10); exact ⟨_, rfl, (gU_ne (gne hg9 hg7 (by decide))).trans hg9⟩)
      | 2, _, hm, hv => gl_at rfl (hv _ rfl)
      | 3, _, hm, hv => gl_at rfl (hv _ rfl)
      | 4, _, hm, hv => gl_at rfl (hv _ rfl)
      | 5, _, hm, hv => gl_at rfl (hv _ rfl)
      | 6, _, hm, hv => gl_at rfl (hv _ rfl)
      | 7, _, hm, hv => gl_at rfl (hv _ rfl)
      | 8, _, hm, hv => gl_at rfl (hv _ rfl)
      | 9, _, hm, hv => gl_at rfl (hv _ rfl)
      | 10, _, hm, hv => gl_at rfl (hv _ rfl)
      | 11, _, hm, hv => gl_at rfl (hv _ rfl)
      | k + 12, hk, _, _ => absurd hk (by omega)))
  have hY := hY.grow
  exact W.vret hx hb hr (fun t ht hW => ⟨⟨_, rfl, trivial, by (try dsimp only); rw [ht]; exact ⟨hT, gU_at, hY⟩⟩, hS.F ht⟩) hS.2.2 dX10_init_20
def w_n_X6 : List Cond := .code yX6_init cX6_init 1 none :: (HAppend.hAppend (α := List Cond) (β := List Cond) (γ := List Cond) [.methodLink RX6 3 objectInit, .instanceMethod objectInit, .code objectInit ⟨#[0xb1]⟩ 1 none, .arrayClass .int, .fieldLink RX6 9 "SeaLand$Rows" "shown" "[I", .fieldLink RX6 15 "SeaLand$Rows" "proof" "[I"] bs2)
set_option maxHeartbeats 4000000 in
set_option maxRecDepth 100000 in
theorem n_X6 (l : Launch) (dC : Nat → ClassId) (dI : Nat → Nat → Nat) (kA : Nat → ClassId) (adK adV : Nat → Nat) (G : gT) (H0 : Heap) (nC nS : Int) (o0 : Nat) (hT : gH (dC, dI) kA (SHc nC nS) G H0) (hr_o0 : G o0 = some 109) (hgC : 0 ≤ nC ∧ nC ≤ 40) (hgS : 0 ≤ nS ∧ nS ≤ 60) : Met l yX6_init w_n_X6 ({ frames := 1, cells := 2, slots := 4608, locals := 30 }) (va_Pc [.ref o0] (fun U => U.heap = H0 ∧ va_K (dC, dI) vwCl (tyl kA) U ∧ EVC adK adV (gA G H0.size) U U.heap ∧ AO U)) (va_Qv (fun (u : gT) => True) (fun (G1 : gT) (t : State) => gH (dC, dI) kA (SHc nC nS) G1 t.heap ∧ G1 o0 = some 9 ∧ gY ([38, 39] : List Nat) 9 o0 G G1 H0 t.heap) (gA G H0.size)) 2 4608 (gA G H0.size) := by
  refine Met.ofW (cc := cX6_init) (maxL := 1) (ret := none) (by decide) rfl ?_
  intro p e s m args below meth c s₁ B hml hv
  obtain ⟨rfl, hH0, hK, hE, hAO⟩ := hv
  have hx := B.exec
  have hb := B.bytes
  have hr := B.returns
  have hts := atoms_spec (ws := w_n_X6) B.pre
  have hown : s.vm.findClass RX6 = some m.cls := findClass_of_methodNamed B.named
  have hlocks := B.notSynchronized
  have hin : meth.name = "<init>" := (name_of_methodNamed B.named B.method).1
  subst hH0
  generalize hAe : gA G s.heap.size = A at hE ⊢
  have hA : ∀ q : Nat, s.heap.size ≤ q → A q := fun q h => by rw [← hAe]; exact Or.inr h
  have hG := gA_of hAe
  have hS : va_S A s.heap s.heap [] := va_S.rf
  have hl := lv_entry ([.ref o0]) (n := 1) (Nat.le_of_ble_eq_true rfl)
  rw [lg_entry_eq]
  generalize (lg_sl ([.ref o0]) ++ List.replicate (1 - (lg_sl ([.ref o0])).length) Slot.unset).toArray = ls at hl ⊢
  have hl : lv_has ls 1 [(0, .ref o0)] := hl
  have hG0 := hG
  have hY : gY ([38, 39] : List Nat) 9 o0 G G s.heap s.heap := gY.rf hT
  have hAo := hG _ _ hr_o0
  refine lv_aload_n hx hb dX6_init_0 rfl (lv_at hl 0 rfl) ?_
  refine W.objInit hx hb hown (ht_at2 hts 0 rfl) (ht_at2 hts 1 rfl) (ht_at2 hts 2 rfl) rfl (by rw [hml]; exact hl.1) rfl dX6_init_1 (Nat.le_of_ble_eq_true rfl) (Nat.le_of_ble_eq_true rfl) ?_
  refine W.eq (g2 := F0 m 4 ls []) rfl ?_
  refine lv_aload_n hx hb dX6_init_4 rfl (lv_at hl 0 rfl) ?_
  refine lv_sipush (v := 2304) hx hb dX6_init_5 (by decide) ?_
  have hz9 := hS.1
  refine tw_newa (ty := .int) hx hb (ht_at2 hts 3 rfl) rfl hK mon_c hT hS hG hA (shc_38) rfl (fun _ _ _ => ⟨0, rfl, by decide, by decide⟩) (by decide) rfl (Nat.le_of_ble_eq_true rfl) (Nat.le_of_ble_eq_true rfl) (Nat.le_of_ble_eq_true rfl) dX6_init_8 (fun q1 G1 H hq9 eG hz1 hz2 hT hx9 hG hm9 hS => ?_)
  have hn_q1 : s.heap.size ≤ q1 := Nat.le_trans hz9 (Nat.le_of_eq hz2)
  have hY := hY.new hn_q1 eG hx9 (by decide)
  have hg2 := (hx9 _ _ hr_o0).1
  have hg3 : G1 q1 = some 38 := by rw [eG]; exact gU_at
  refine tw_putF (v := .ref q1) (ty := (.array .int)) hx hb hts bF2_X6 tyX6 tyX6_ok nmX6 hown hK hT hG hS hg2 shc_109 rfl 0 (by decide) (ht_at2 hts 4 rfl) (fun _ h9 => h9) rfl hin rfl (by decide +kernel) rfl rfl (gl_at rfl ⟨some _, rfl, fun _ h => by cases h; exact hg3⟩) dX6_init_10 (fun H locs hT oq m4 oj hS => ?_)
  have hY := hY.put oq
  refine lv_aload_n hx hb dX6_init_13 rfl (lv_at hl 0 rfl) ?_
  refine lv_sipush (v := 2304) hx hb dX6_init_14 (by decide) ?_
  have hz9 := hS.1
  refine tw_newa (ty := .int) hx hb (ht_at2 hts 3 rfl) rfl hK mon_c hT hS hG hA (shc_39) rfl (fun _ _ _ => ⟨0, rfl, by decide, by decide⟩) (by decide) rfl (Nat.le_of_ble_eq_true rfl) (Nat.le_of_ble_eq_true rfl) (Nat.le_of_ble_eq_true rfl) dX6_init_17 (fun q5 G2 H hq9 eG hz1 hz2 hT hx9 hG hm9 hS => ?_)
  have hn_q5 : s.heap.size ≤ q5 := Nat.le_trans hz9 (Nat.le_of_eq hz2)
  have hY := hY.new hn_q5 eG hx9 (by decide)
  have m6 := (el_kept (hx9 _ _ hg2).2).trans m4
  have hg7 := (hx9 _ _ hg2).1
  have hg8 := (hx9 _ _ hg3).1
  have hg9 : G2 q5 = some 39 := by rw [eG]; exact gU_at
  refine tw_putF (v := .ref q5) (ty := (.array .int)) hx hb hts bF2_X6 tyX6 tyX6_ok nmX6 hown hK hT hG hS hg7 shc_109 rfl 1 (by decide) (ht_at2 hts 5 rfl) (fun _ h9 => h9) rfl hin rfl (by decide +kernel) rfl rfl (gl_at rfl ⟨some _, rfl, fun _ h => by cases h; exact hg9⟩) dX6_init_19 (fun H locs hT oq m10 oj hS => ?_)
  have hY := hY.put oq
  have m11 := (oj 0 (by decide) (by decide)).trans m6
  have hT := hT.grown (t := 9) mon_c hg7 (by decide) (by
    have h8 := hT _ _ hg7; rw [shc_109] at h8; rw [shc_9]
    refine gC.grow h8 (fun k v hk hm hv => match k, hk, hm, hv with
      | 0, _, hm, hv => gl_at rfl (by obtain rfl : v = .ref q1 := Option.some.inj (hm.symm.trans m11); exact ⟨_, rfl, (gU_ne (gne hg8 hg7 (by decide))).trans hg8⟩)
      | 1, _, hm, hv => gl_at rfl (by obtain rfl : v = .ref q5 := Option.some.inj (hm.symm.trans m10); exact ⟨_, rfl, (gU_ne (gne hg9 hg7 (by decide))).trans hg9⟩)
      | 2, _, hm, hv => gl_at rfl (hv _ rfl)
      | 3, _, hm, hv => gl_at rfl (hv _ rfl)
      | k + 4, hk, _, _ => absurd hk (by omega)))
  have hY := hY.grow
  exact W.vret hx hb hr (fun t ht hW => ⟨⟨_, rfl, trivial, by (try dsimp only); rw [ht]; exact ⟨hT, gU_at, hY⟩⟩, hS.F ht⟩) hS.2.2 dX6_init_22
def w_n_X2 : List Cond := .code yX2_init cX2_init 1 none :: (HAppend.hAppend (α := List Cond) (β := List Cond) (γ := List Cond) [.methodLink RX2 3 objectInit, .instanceMethod objectInit, .code objectInit ⟨#[0xb1]⟩ 1 none, .arrayClass .boolean, .fieldLink RX2 9 "SeaLand$Ground" "isLand" "[Z", .arrayClass .int, .fieldLink RX2 15 "SeaLand$Ground" "height" "[I", .fieldLink RX2 19 "SeaLand$Ground" "soil" "[I", .fieldLink RX2 22 "SeaLand$Ground" "ditch" "[I", .fieldLink RX2 25 "SeaLand$Ground" "water" "[I", .fieldLink RX2 28 "SeaLand$Ground" "salt" "[I", .fieldLink RX2 31 "SeaLand$Ground" "dry" "[I", .fieldLink RX2 34 "SeaLand$Ground" "wet" "[I", .fieldLink RX2 37 "SeaLand$Ground" "ditchTo" "[I", .fieldLink RX2 40 "SeaLand$Ground" "ditchWater" "[I", .fieldLink RX2 43 "SeaLand$Ground" "ditchSalt" "[I"] bs2)
set_option maxHeartbeats 4000000 in
set_option maxRecDepth 100000 in
theorem n_X2 (l : Launch) (dC : Nat → ClassId) (dI : Nat → Nat → Nat) (kA : Nat → ClassId) (adK adV : Nat → Nat) (G : gT) (H0 : Heap) (nC nS : Int) (o0 : Nat) (hT : gH (dC, dI) kA (SHc nC nS) G H0) (hr_o0 : G o0 = some 105) (hgC : 0 ≤ nC ∧ nC ≤ 40) (hgS : 0 ≤ nS ∧ nS ≤ 60) : Met l yX2_init w_n_X2 ({ frames := 1, cells := 11, slots := 1056, locals := 30 }) (va_Pc [.ref o0] (fun U => U.heap = H0 ∧ va_K (dC, dI) vwCl (tyl kA) U ∧ EVC adK adV (gA G H0.size) U U.heap ∧ AO U)) (va_Qv (fun (u : gT) => True) (fun (G1 : gT) (t : State) => gH (dC, dI) kA (SHc nC nS) G1 t.heap ∧ G1 o0 = some 5 ∧ gY ([25, 26, 27, 28, 29, 30, 31, 32, 33, 34, 35] : List Nat) 5 o0 G G1 H0 t.heap ∧ (∃ a1, el t.heap o0 (dI 5 0) = some (.ref a1) ∧ G1 a1 = some 25 ∧ ct t.heap a1 96 (fun _ => 0))) (gA G H0.size)) 11 1056 (gA G H0.size) := by
  refine Met.ofW (cc := cX2_init) (maxL := 1) (ret := none) (by decide) rfl ?_
  intro p e s m args below meth c s₁ B hml hv
  obtain ⟨rfl, hH0, hK, hE, hAO⟩ := hv
  have hx := B.exec
  have hb := B.bytes
  have hr := B.returns
  have hts := atoms_spec (ws := w_n_X2) B.pre
  have hown : s.vm.findClass RX2 = some m.cls := findClass_of_methodNamed B.named
  have hlocks := B.notSynchronized
  have hin : meth.name = "<init>" := (name_of_methodNamed B.named B.method).1
  subst hH0
  generalize hAe : gA G s.heap.size = A at hE ⊢
  have hA : ∀ q : Nat, s.heap.size ≤ q → A q := fun q h => by rw [← hAe]; exact Or.inr h
  have hG := gA_of hAe
  have hS : va_S A s.heap s.heap [] := va_S.rf
  have hl := lv_entry ([.ref o0]) (n := 1) (Nat.le_of_ble_eq_true rfl)
  rw [lg_entry_eq]
  generalize (lg_sl ([.ref o0]) ++ List.replicate (1 - (lg_sl ([.ref o0])).length) Slot.unset).toArray = ls at hl ⊢
  have hl : lv_has ls 1 [(0, .ref o0)] := hl
  have hG0 := hG
  have hY : gY ([25, 26, 27, 28, 29, 30, 31, 32, 33, 34, 35] : List Nat) 5 o0 G G s.heap s.heap := gY.rf hT
  have hAo := hG _ _ hr_o0
  refine lv_aload_n hx hb dX2_init_0 rfl (lv_at hl 0 rfl) ?_
  refine W.objInit hx hb hown (ht_at2 hts 0 rfl) (ht_at2 hts 1 rfl) (ht_at2 hts 2 rfl) rfl (by rw [hml]; exact hl.1) rfl dX2_init_1 (Nat.le_of_ble_eq_true rfl) (Nat.le_of_ble_eq_true rfl) ?_
  refine W.eq (g2 := F0 m 4 ls []) rfl ?_
  refine lv_aload_n hx hb dX2_init_4 rfl (lv_at hl 0 rfl) ?_
  refine lv_bipush (v := 96) hx hb dX2_init_5 (by decide) ?_
  have hz9 := hS.1
  refine tw_newa (ty := .boolean) hx hb (ht_at2 hts 3 rfl) rfl hK mon_c hT hS hG hA (shc_25) rfl (fun _ _ _ => ⟨0, rfl, by decide, by decide⟩) (by decide) rfl (Nat.le_of_ble_eq_true rfl) (Nat.le_of_ble_eq_true rfl) (Nat.le_of_ble_eq_true rfl) dX2_init_7 (fun q1 G1 H hq9 eG hz1 hz2 hT hx9 hG hm9 hS => ?_)
  have hn_q1 : s.heap.size ≤ q1 := Nat.le_trans hz9 (Nat.le_of_eq hz2)
  have hY := hY.new hn_q1 eG hx9 (by decide)
  have hg2 := (hx9 _ _ hr_o0).1
  have hg3 : G1 q1 = some 25 := by rw [eG]; exact gU_at
  have m4 : ct H q1 96 (fun _ => 0) := fun i9 h9 => hm9 i9 h9
  refine tw_putF (v := .ref q1) (ty := (.array .boolean)) hx hb hts bF2_X2 tyX2 tyX2_ok nmX2 hown hK hT hG hS hg2 shc_105 rfl 0 (by decide) (ht_at2 hts 4 rfl) (fun _ h9 => h9) rfl hin rfl (by decide +kernel) rfl rfl (gl_at rfl ⟨some _, rfl, fun _ h => by cases h; exact hg3⟩) dX2_init_9 (fun H locs hT oq m5 oj hS => ?_)
  have hY := hY.put oq
  have m6 := m4.kept (oq _ (gne hg3 hg2 (by decide)))
  refine lv_aload_n hx hb dX2_init_12 rfl (lv_at hl 0 rfl) ?_
  refine lv_bipush (v := 96) hx hb dX2_init_13 (by decide) ?_
  have hz9 := hS.1
  refine tw_newa (ty := .int) hx hb (ht_at2 hts 5 rfl) rfl hK mon_c hT hS hG hA (shc_26) rfl (fun _ _ _ => ⟨0, rfl, by decide, by decide⟩) (by decide) rfl (Nat.le_of_ble_eq_true rfl) (Nat.le_of_ble_eq_true rfl) (Nat.le_of_ble_eq_true rfl) dX2_init_15 (fun q7 G2 H hq9 eG hz1 hz2 hT hx9 hG hm9 hS => ?_)
  have hn_q7 : s.heap.size ≤ q7 := Nat.le_trans hz9 (Nat.le_of_eq hz2)
  have hY := hY.new hn_q7 eG hx9 (by decide)
  have m8 := m6.kept (hx9 _ _ hg3).2
  have m9 := (el_kept (hx9 _ _ hg2).2).trans m5
  have hg10 := (hx9 _ _ hg2).1
  have hg11 := (hx9 _ _ hg3).1
  have hg12 : G2 q7 = some 26 := by rw [eG]; exact gU_at
  refine tw_putF (v := .ref q7) (ty := (.array .int)) hx hb hts bF2_X2 tyX2 tyX2_ok nmX2 hown hK hT hG hS hg10 shc_105 rfl 1 (by decide) (ht_at2 hts 6 rfl) (fun _ h9 => h9) rfl hin rfl (by decide +kernel) rfl rfl (gl_at rfl ⟨some _, rfl, fun _ h => by cases h; exact hg12⟩) dX2_init_17 (fun H locs hT oq m13 oj hS => ?_)
  have hY := hY.put oq
  have m14 := m8.kept (oq _ (gne hg11 hg10 (by decide)))
  have m15 := (oj 0 (by decide) (by decide)).trans m9
  refine lv_aload_n hx hb dX2_init_20 rfl (lv_at hl 0 rfl) ?_
  refine lv_bipush (v := 96) hx hb dX2_init_21 (by decide) ?_
  have hz9 := hS.1
  refine tw_newa (ty := .int) hx hb (ht_at2 hts 5 rfl) rfl hK mon_c hT hS hG hA (shc_27) rfl (fun _ _ _ => ⟨0, rfl, by decide, by decide⟩) (by decide) rfl (Nat.le_of_ble_eq_true rfl) (Nat.le_of_ble_eq_true rfl) (Nat.le_of_ble_eq_true rfl) dX2_init_23 (fun q16 G3 H hq9 eG hz1 hz2 hT hx9 hG hm9 hS => ?_)
  have hn_q16 : s.heap.size ≤ q16 := Nat.le_trans hz9 (Nat.le_of_eq hz2)
  have hY := hY.new hn_q16 eG hx9 (by decide)
  have m17 := m14.kept (hx9 _ _ hg11).2
  have m18 := (el_kept (hx9 _ _ hg10).2).trans m15
  have m19 := (el_kept (hx9 _ _ hg10).2).trans m13
  have hg20 := (hx9 _ _ hg10).1
  have hg21 := (hx9 _ _ hg11).1
  have hg22 := (hx9 _ _ hg12).1
  have hg23 : G3 q16 = some 27 := by rw [eG]; exact gU_at
  refine tw_putF (v := .ref q16) (ty := (.array .int)) hx hb hts bF2_X2 tyX2 tyX2_ok nmX2 hown hK hT hG hS hg20 shc_105 rfl 2 (by decide) (ht_at2 hts 7 rfl) (fun _ h9 => h9) rfl hin rfl (by decide +kernel) rfl rfl (gl_at rfl ⟨some _, rfl, fun _ h => by cases h; exact hg23⟩) dX2_init_25 (fun H locs hT oq m24 oj hS => ?_)
  have hY := hY.put oq
  have m25 := m17.kept (oq _ (gne hg21 hg20 (by decide)))
  have m26 := (oj 0 (by decide) (by decide)).trans m18
  have m27 := (oj 1 (by decide) (by decide)).trans m19
  refine lv_aload_n hx hb dX2_init_28 rfl (lv_at hl 0 rfl) ?_
  refine lv_bipush (v := 96) hx hb dX2_init_29 (by decide) ?_
  have hz9 := hS.1
  refine tw_newa (ty := .int) hx hb (ht_at2 hts 5 rfl) rfl hK mon_c hT hS hG hA (shc_28) rfl (fun _ _ _ => ⟨0, rfl, by decide, by decide⟩) (by decide) rfl (Nat.le_of_ble_eq_true rfl) (Nat.le_of_ble_eq_true rfl) (Nat.le_of_ble_eq_true rfl) dX2_init_31 (fun q28 G4 H hq9 eG hz1 hz2 hT hx9 hG hm9 hS => ?_)
  have hn_q28 : s.heap.size ≤ q28 := Nat.le_trans hz9 (Nat.le_of_eq hz2)
  have hY := hY.new hn_q28 eG hx9 (by decide)
  have m29 := m25.kept (hx9 _ _ hg21).2
  have m30 := (el_kept (hx9 _ _ hg20).2).trans m26
  have m31 := (el_kept (hx9 _ _ hg20).2).trans m27
  have m32 := (el_kept (hx9 _ _ hg20).2).trans m24
  have hg33 := (hx9 _ _ hg20).1
  have hg34 := (hx9 _ _ hg21).1
  have hg35 := (hx9 _ _ hg22).1
  have hg36 := (hx9 _ _ hg23).1
  have hg37 : G4 q28 = some 28 := by rw [eG]; exact gU_at
  refine tw_putF (v := .ref q28) (ty := (.array .int)) hx hb hts bF2_X2 tyX2 tyX2_ok nmX2 hown hK hT hG hS hg33 shc_105 rfl 3 (by decide) (ht_at2 hts 8 rfl) (fun _ h9 => h9) rfl hin rfl (by decide +kernel) rfl rfl (gl_at rfl ⟨some _, rfl, fun _ h => by cases h; exact hg37⟩) dX2_init_33 (fun H locs hT oq m38 oj hS => ?_)
  have hY := hY.put oq
  have m39 := m29.kept (oq _ (gne hg34 hg33 (by decide)))
  have m40 := (oj 0 (by decide) (by decide)).trans m30
  have m41 := (oj 1 (by decide) (by decide)).trans m31
  have m42 := (oj 2 (by decide) (by decide)).trans m32
  refine lv_aload_n hx hb dX2_init_36 rfl (lv_at hl 0 rfl) ?_
  refine lv_bipush (v := 96) hx hb dX2_init_37 (by decide) ?_
  have hz9 := hS.1
  refine tw_newa (ty := .int) hx hb (ht_at2 hts 5 rfl) rfl hK mon_c hT hS hG hA (shc_29) rfl (fun _ _ _ => ⟨0, rfl, by decide, by decide⟩) (by decide) rfl (Nat.le_of_ble_eq_true rfl) (Nat.le_of_ble_eq_true rfl) (Nat.le_of_ble_eq_true rfl) dX2_init_39 (fun q43 G5 H hq9 eG hz1 hz2 hT hx9 hG hm9 hS => ?_)
  have hn_q43 : s.heap.size ≤ q43 := Nat.le_trans hz9 (Nat.le_of_eq hz2)
  have hY := hY.new hn_q43 eG hx9 (by decide)
  have m44 := m39.kept (hx9 _ _ hg34).2
  have m45 := (el_kept (hx9 _ _ hg33).2).trans m40
  have m46 := (el_kept (hx9 _ _ hg33).2).trans m41
  have m47 := (el_kept (hx9 _ _ hg33).2).trans m42
  have m48 := (el_kept (hx9 _ _ hg33).2).trans m38
  have hg49 := (hx9 _ _ hg33).1
  have hg50 := (hx9 _ _ hg34).1
  have hg51 := (hx9 _ _ hg35).1
  have hg52 := (hx9 _ _ hg36).1
  have hg53 := (hx9 _ _ hg37).1
  have hg54 : G5 q43 = some 29 := by rw [eG]; exact gU_at
  refine tw_putF (v := .ref q43) (ty := (.array .int)) hx hb hts bF2_X2 tyX2 tyX2_ok nmX2 hown hK hT hG hS hg49 shc_105 rfl 4 (by decide) (ht_at2 hts 9 rfl) (fun _ h9 => h9) rfl hin rfl (by decide +kernel) rfl rfl (gl_at rfl ⟨some _, rfl, fun _ h => by cases h; exact hg54⟩) dX2_init_41 (fun H locs hT oq m55 oj hS => ?_)
  have hY := hY.put oq
  have m56 := m44.kept (oq _ (gne hg50 hg49 (by decide)))
  have m57 := (oj 0 (by decide) (by decide)).trans m45
  have m58 := (oj 1 (by decide) (by decide)).trans m46
  have m59 := (oj 2 (by decide) (by decide)).trans m47
  have m60 := (oj 3 (by decide) (by decide)).trans m48
  refine lv_aload_n hx hb dX2_init_44 rfl (lv_at hl 0 rfl) ?_
  refine lv_bipush (v := 96) hx hb dX2_init_45 (by decide) ?_
  have hz9 := hS.1
  refine tw_newa (ty := .int) hx hb (ht_at2 hts 5 rfl) rfl hK mon_c hT hS hG hA (shc_30) rfl (fun _ _ _ => ⟨0, rfl, by decide, by decide⟩) (by decide) rfl (Nat.le_of_ble_eq_true rfl) (Nat.le_of_ble_eq_true rfl) (Nat.le_of_ble_eq_true rfl) dX2_init_47 (fun q61 G6 H hq9 eG hz1 hz2 hT hx9 hG hm9 hS => ?_)
  have hn_q61 : s.heap.size ≤ q61 := Nat.le_trans hz9 (Nat.le_of_eq hz2)
  have hY := hY.new hn_q61 eG hx9 (by decide)
  have m62 := m56.kept (hx9 _ _ hg50).2
  have m63 := (el_kept (hx9 _ _ hg49).2).trans m57
  have m64 := (el_kept (hx9 _ _ hg49).2).trans m58
  have m65 := (el_kept (hx9 _ _ hg49).2).trans m59
  have m66 := (el_kept (hx9 _ _ hg49).2).trans m60
  have m67 := (el_kept (hx9 _ _ hg49).2).trans m55
  have hg68 := (hx9 _ _ hg49).1
  have hg69 := (hx9 _ _ hg50).1
  have hg70 := (hx9 _ _ hg51).1
  have hg71 := (hx9 _ _ hg52).1
  have hg72 := (hx9 _ _ hg53).1
  have hg73 := (hx9 _ _ hg54).1
  have hg74 : G6 q61 = some 30 := by rw [eG]; exact gU_at
  refine tw_putF (v := .ref q61) (ty := (.array .int)) hx hb hts bF2_X2 tyX2 tyX2_ok nmX2 hown hK hT hG hS hg68 shc_105 rfl 5 (by decide) (ht_at2 hts 10 rfl) (fun _ h9 => h9) rfl hin rfl (by decide +kernel) rfl rfl (gl_at rfl ⟨some _, rfl, fun _ h => by cases h; exact hg74⟩) dX2_init_49 (fun H locs hT oq m75 oj hS => ?_)
  have hY := hY.put oq
  have m76 := m62.kept (oq _ (gne hg69 hg68 (by decide)))
  have m77 := (oj 0 (by decide) (by decide)).trans m63
  have m78 := (oj 1 (by decide) (by decide)).trans m64
  have m79 := (oj 2 (by decide) (by decide)).trans m65
  have m80 := (oj 3 (by decide) (by decide)).trans m66
  have m81 := (oj 4 (by decide) (by decide)).trans m67
  refine lv_aload_n hx hb dX2_init_52 rfl (lv_at hl 0 rfl) ?_
  refine lv_bipush (v := 96) hx hb dX2_init_53 (by decide) ?_
  have hz9 := hS.1
  refine tw_newa (ty := .int) hx hb (ht_at2 hts 5 rfl) rfl hK mon_c hT hS hG hA (shc_31) rfl (fun _ _ _ => ⟨0, rfl, by decide, by decide⟩) (by decide) rfl (Nat.le_of_ble_eq_true rfl) (Nat.le_of_ble_eq_true rfl) (Nat.le_of_ble_eq_true rfl) dX2_init_55 (fun q82 G7 H hq9 eG hz1 hz2 hT hx9 hG hm9 hS => ?_)
  have hn_q82 : s.heap.size ≤ q82 := Nat.le_trans hz9 (Nat.le_of_eq hz2)
  have hY := hY.new hn_q82 eG hx9 (by decide)
  have m83 := m76.kept (hx9 _ _ hg69).2
  have m84 := (el_kept (hx9 _ _ hg68).2).trans m77
  have m85 := (el_kept (hx9 _ _ hg68).2).trans m78
  have m86 := (el_kept (hx9 _ _ hg68).2).trans m79
  have m87 := (el_kept (hx9 _ _ hg68).2).trans m80
  have m88 := (el_kept (hx9 _ _ hg68).2).trans m81
  have m89 := (el_kept (hx9 _ _ hg68).2).trans m75
  have hg90 := (hx9 _ _ hg68).1
  have hg91 := (hx9 _ _ hg69).1
  have hg92 := (hx9 _ _ hg70).1
  have hg93 := (hx9 _ _ hg71).1
  have hg94 := (hx9 _ _ hg72).1
  have hg95 := (hx9 _ _ hg73).1
  have hg96 := (hx9 _ _ hg74).1
  have hg97 : G7 q82 = some 31 := by rw [eG]; exact gU_at
  refine tw_putF (v := .ref q82) (ty := (.array .int)) hx hb hts bF2_X2 tyX2 tyX2_ok nmX2 hown hK hT hG hS hg90 shc_105 rfl 6 (by decide) (ht_at2 hts 11 rfl) (fun _ h9 => h9) rfl hin rfl (by decide +kernel) rfl rfl (gl_at rfl ⟨some _, rfl, fun _ h => by cases h; exact hg97⟩) dX2_init_57 (fun H locs hT oq m98 oj hS => ?_)
  have hY := hY.put oq
  have m99 := m83.kept (oq _ (gne hg91 hg90 (by decide)))
  have m100 := (oj 0 (by decide) (by decide)).trans m84
  have m101 := (oj 1 (by decide) (by decide)).trans m85
  have m102 := (oj 2 (by decide) (by decide)).trans m86
  have m103 := (oj 3 (by decide) (by decide)).trans m87
  have m104 := (oj 4 (by decide) (by decide)).trans m88
  have m105 := (oj 5 (by decide) (by decide)).trans m89
  refine lv_aload_n hx hb dX2_init_60 rfl (lv_at hl 0 rfl) ?_
  refine lv_bipush (v := 96) hx hb dX2_init_61 (by decide) ?_
  have hz9 := hS.1
  refine tw_newa (ty := .int) hx hb (ht_at2 hts 5 rfl) rfl hK mon_c hT hS hG hA (shc_32) rfl (fun _ _ _ => ⟨0, rfl, by decide, by decide⟩) (by decide) rfl (Nat.le_of_ble_eq_true rfl) (Nat.le_of_ble_eq_true rfl) (Nat.le_of_ble_eq_true rfl) dX2_init_63 (fun q106 G8 H hq9 eG hz1 hz2 hT hx9 hG hm9 hS => ?_)
  have hn_q106 : s.heap.size ≤ q106 := Nat.le_trans hz9 (Nat.le_of_eq hz2)
  have hY := hY.new hn_q106 eG hx9 (by decide)
  have m107 := m99.kept (hx9 _ _ hg91).2
  have m108 := (el_kept (hx9 _ _ hg90).2).trans m100
  have m109 := (el_kept (hx9 _ _ hg90).2).trans m101
  have m110 := (el_kept (hx9 _ _ hg90).2).trans m102
  have m111 := (el_kept (hx9 _ _ hg90).2).trans m103
  have m112 := (el_kept (hx9 _ _ hg90).2).trans m104
  have m113 := (el_kept (hx9 _ _ hg90).2).trans m105
  have m114 := (el_kept (hx9 _ _ hg90).2).trans m98
  have hg115 := (hx9 _ _ hg90).1
  have hg116 := (hx9 _ _ hg91).1
  have hg117 := (hx9 _ _ hg92).1
  have hg118 := (hx9 _ _ hg93).1
  have hg119 := (hx9 _ _ hg94).1
  have hg120 := (hx9 _ _ hg95).1
  have hg121 := (hx9 _ _ hg96).1
  have hg122 := (hx9 _ _ hg97).1
  have hg123 : G8 q106 = some 32 := by rw [eG]; exact gU_at
  refine tw_putF (v := .ref q106) (ty := (.array .int)) hx hb hts bF2_X2 tyX2 tyX2_ok nmX2 hown hK hT hG hS hg115 shc_105 rfl 7 (by decide) (ht_at2 hts 12 rfl) (fun _ h9 => h9) rfl hin rfl (by decide +kernel) rfl rfl (gl_at rfl ⟨some _, rfl, fun _ h => by cases h; exact hg123⟩) dX2_init_65 (fun H locs hT oq m124 oj hS => ?_)
  have hY := hY.put oq
  have m125 := m107.kept (oq _ (gne hg116 hg115 (by decide)))
  have m126 := (oj 0 (by decide) (by decide)).trans m108
  have m127 := (oj 1 (by decide) (by decide)).trans m109
  have m128 := (oj 2 (by decide) (by decide)).trans m110
  have m129 := (oj 3 (by decide) (by decide)).trans m111
  have m130 := (oj 4 (by decide) (by decide)).trans m112
  have m131 := (oj 5 (by decide) (by decide)).trans m113
  have m132 := (oj 6 (by decide) (by decide)).trans m114
  refine lv_aload_n hx hb dX2_init_68 rfl (lv_at hl 0 rfl) ?_
  refine lv_bipush (v := 96) hx hb dX2_init_69 (by decide) ?_
  have hz9 := hS.1
  refine tw_newa (ty := .int) hx hb (ht_at2 hts 5 rfl) rfl hK mon_c hT hS hG hA (shc_33) rfl (fun _ _ _ => ⟨0, rfl, by decide, by decide⟩) (by decide) rfl (Nat.le_of_ble_eq_true rfl) (Nat.le_of_ble_eq_true rfl) (Nat.le_of_ble_eq_true rfl) dX2_init_71 (fun q133 G9 H hq9 eG hz1 hz2 hT hx9 hG hm9 hS => ?_)
  have hn_q133 : s.heap.size ≤ q133 := Nat.le_trans hz9 (Nat.le_of_eq hz2)
  have hY := hY.new hn_q133 eG hx9 (by decide)
  have m134 := m125.kept (hx9 _ _ hg116).2
  have m135 := (el_kept (hx9 _ _ hg115).2).trans m126
  have m136 := (el_kept (hx9 _ _ hg115).2).trans m127
  have m137 := (el_kept (hx9 _ _ hg115).2).trans m128
  have m138 := (el_kept (hx9 _ _ hg115).2).trans m129
  have m139 := (el_kept (hx9 _ _ hg115).2).trans m130
  have m140 := (el_kept (hx9 _ _ hg115).2).trans m131
  have m141 := (el_kept (hx9 _ _ hg115).2).trans m132
  have m142 := (el_kept (hx9 _ _ hg115).2).trans m124
  have hg143 := (hx9 _ _ hg115).1
  have hg144 := (hx9 _ _ hg116).1
  have hg145 := (hx9 _ _ hg117).1
  have hg146 := (hx9 _ _ hg118).1
  have hg147 := (hx9 _ _ hg119).1
  have hg148 := (hx9 _ _ hg120).1
  have hg149 := (hx9 _ _ hg121).1
  have hg150 := (hx9 _ _ hg122).1
  have hg151 := (hx9 _ _ hg123).1
  have hg152 : G9 q133 = some 33 := by rw [eG]; exact gU_at
  refine tw_putF (v := .ref q133) (ty := (.array .int)) hx hb hts bF2_X2 tyX2 tyX2_ok nmX2 hown hK hT hG hS hg143 shc_105 rfl 8 (by decide) (ht_at2 hts 13 rfl) (fun _ h9 => h9) rfl hin rfl (by decide +kernel) rfl rfl (gl_at rfl ⟨some _, rfl, fun _ h => by cases h; exact hg152⟩) dX2_init_73 (fun H locs hT oq m153 oj hS => ?_)
  have hY := hY.put oq
  have m154 := m134.kept (oq _ (gne hg144 hg143 (by decide)))
  have m155 := (oj 0 (by decide) (by decide)).trans m135
  have m156 := (oj 1 (by decide) (by decide)).trans m136
  have m157 := (oj 2 (by decide) (by decide)).trans m137
  have m158 := (oj 3 (by decide) (by decide)).trans m138
  have m159 := (oj 4 (by decide) (by decide)).trans m139
  have m160 := (oj 5 (by decide) (by decide)).trans m140
  have m161 := (oj 6 (by decide) (by decide)).trans m141
  have m162 := (oj 7 (by decide) (by decide)).trans m142
  refine lv_aload_n hx hb dX2_init_76 rfl (lv_at hl 0 rfl) ?_
  refine lv_bipush (v := 96) hx hb dX2_init_77 (by decide) ?_
  have hz9 := hS.1
  refine tw_newa (ty := .int) hx hb (ht_at2 hts 5 rfl) rfl hK mon_c hT hS hG hA (shc_34) rfl (fun _ _ _ => ⟨0, rfl, by decide, by decide⟩) (by decide) rfl (Nat.le_of_ble_eq_true rfl) (Nat.le_of_ble_eq_true rfl) (Nat.le_of_ble_eq_true rfl) dX2_init_79 (fun q163 G10 H hq9 eG hz1 hz2 hT hx9 hG hm9 hS => ?_)
  have hn_q163 : s.heap.size ≤ q163 := Nat.le_trans hz9 (Nat.le_of_eq hz2)
  have hY := hY.new hn_q163 eG hx9 (by decide)
  have m164 := m154.kept (hx9 _ _ hg144).2
  have m165 := (el_kept (hx9 _ _ hg143).2).trans m155
  have m166 := (el_kept (hx9 _ _ hg143).2).trans m156
  have m167 := (el_kept (hx9 _ _ hg143).2).trans m157
  have m168 := (el_kept (hx9 _ _ hg143).2).trans m158
  have m169 := (el_kept (hx9 _ _ hg143).2).trans m159
  have m170 := (el_kept (hx9 _ _ hg143).2).trans m160
  have m171 := (el_kept (hx9 _ _ hg143).2).trans m161
  have m172 := (el_kept (hx9 _ _ hg143).2).trans m162
  have m173 := (el_kept (hx9 _ _ hg143).2).trans m153
  have hg174 := (hx9 _ _ hg143).1
  have hg175 := (hx9 _ _ hg144).1
  have hg176 := (hx9 _ _ hg145).1
  have hg177 := (hx9 _ _ hg146).1
  have hg178 := (hx9 _ _ hg147).1
  have hg179 := (hx9 _ _ hg148).1
  have hg180 := (hx9 _ _ hg149).1
  have hg181 := (hx9 _ _ hg150).1
  have hg182 := (hx9 _ _ hg151).1
  have hg183 := (hx9 _ _ hg152).1
  have hg184 : G10 q163 = some 34 := by rw [eG]; exact gU_at
  refine tw_putF (v := .ref q163) (ty := (.array .int)) hx hb hts bF2_X2 tyX2 tyX2_ok nmX2 hown hK hT hG hS hg174 shc_105 rfl 9 (by decide) (ht_at2 hts 14 rfl) (fun _ h9 => h9) rfl hin rfl (by decide +kernel) rfl rfl (gl_at rfl ⟨some _, rfl, fun _ h => by cases h; exact hg184⟩) dX2_init_81 (fun H locs hT oq m185 oj hS => ?_)
  have hY := hY.put oq
  have m186 := m164.kept (oq _ (gne hg175 hg174 (by decide)))
  have m187 := (oj 0 (by decide) (by decide)).trans m165
  have m188 := (oj 1 (by decide) (by decide)).trans m166
  have m189 := (oj 2 (by decide) (by decide)).trans m167
  have m190 := (oj 3 (by decide) (by decide)).trans m168
  have m191 := (oj 4 (by decide) (by decide)).trans m169
  have m192 := (oj 5 (by decide) (by decide)).trans m170
  have m193 := (oj 6 (by decide) (by decide)).trans m171
  have m194 := (oj 7 (by decide) (by decide)).trans m172
  have m195 := (oj 8 (by decide) (by decide)).trans m173
  refine lv_aload_n hx hb dX2_init_84 rfl (lv_at hl 0 rfl) ?_
  refine lv_bipush (v := 96) hx hb dX2_init_85 (by decide) ?_
  have hz9 := hS.1
  refine tw_newa (ty := .int) hx hb (ht_at2 hts 5 rfl) rfl hK mon_c hT hS hG hA (shc_35) rfl (fun _ _ _ => ⟨0, rfl, by decide, by decide⟩) (by decide) rfl (Nat.le_of_ble_eq_true rfl) (Nat.le_of_ble_eq_true rfl) (Nat.le_of_ble_eq_true rfl) dX2_init_87 (fun q196 G11 H hq9 eG hz1 hz2 hT hx9 hG hm9 hS => ?_)
  have hn_q196 : s.heap.size ≤ q196 := Nat.le_trans hz9 (Nat.le_of_eq hz2)
  have hY := hY.new hn_q196 eG hx9 (by decide)
  have m197 := m186.kept (hx9 _ _ hg175).2
  have m198 := (el_kept (hx9 _ _ hg174).2).trans m187
  have m199 := (el_kept (hx9 _ _ hg174).2).trans m188
  have m200 := (el_kept (hx9 _ _ hg174).2).trans m189
  have m201 := (el_kept (hx9 _ _ hg174).2).trans m190
  have m202 := (el_kept (hx9 _ _ hg174).2).trans m191
  have m203 := (el_kept (hx9 _ _ hg174).2).trans m192
  have m204 := (el_kept (hx9 _ _ hg174).2).trans m193
  have m205 := (el_kept (hx9 _ _ hg174).2).trans m194
  have m206 := (el_kept (hx9 _ _ hg174).2).trans m195
  have m207 := (el_kept (hx9 _ _ hg174).2).trans m185
  have hg208 := (hx9 _ _ hg174).1
  have hg209 := (hx9 _ _ hg175).1
  have hg210 := (hx9 _ _ hg176).1
  have hg211 := (hx9 _ _ hg177).1
  have hg212 := (hx9 _ _ hg178).1
  have hg213 := (hx9 _ _ hg179).1
  have hg214 := (hx9 _ _ hg180).1
  have hg215 := (hx9 _ _ hg181).1
  have hg216 := (hx9 _ _ hg182).1
  have hg217 := (hx9 _ _ hg183).1
  have hg218 := (hx9 _ _ hg184).1
  have hg219 : G11 q196 = some 35 := by rw [eG]; exact gU_at
  refine tw_putF (v := .ref q196) (ty := (.array .int)) hx hb hts bF2_X2 tyX2 tyX2_ok nmX2 hown hK hT hG hS hg208 shc_105 rfl 10 (by decide) (ht_at2 hts 15 rfl) (fun _ h9 => h9) rfl hin rfl (by decide +kernel) rfl rfl (gl_at rfl ⟨some _, rfl, fun _ h => by cases h; exact hg219⟩) dX2_init_89 (fun H locs hT oq m220 oj hS => ?_)
  have hY := hY.put oq
  have m221 := m197.kept (oq _ (gne hg209 hg208 (by decide)))
  have m222 := (oj 0 (by decide) (by decide)).trans m198
  have m223 := (oj 1 (by decide) (by decide)).trans m199
  have m224 := (oj 2 (by decide) (by decide)).trans m200
  have m225 := (oj 3 (by decide) (by decide)).trans m201
  have m226 := (oj 4 (by decide) (by decide)).trans m202
  have m227 := (oj 5 (by decide) (by decide)).trans m203
  have m228 := (oj 6 (by decide) (by decide)).trans m204
  have m229 := (oj 7 (by decide) (by decide)).trans m205
  have m230 := (oj 8 (by decide) (by decide)).trans m206
  have m231 := (oj 9 (by decide) (by decide)).trans m207
  have hT := hT.grown (t := 5) mon_c hg208 (by decide) (by
    have h8 := hT _ _ hg208; rw [shc_105] at h8; rw [shc_5]
    refine gC.grow h8 (fun k v hk hm hv => match k, hk, hm, hv with
      | 0, _, hm, hv => gl_at rfl (by obtain rfl : v = .ref q1 := Option.some.inj (hm.symm.trans m222); exact ⟨_, rfl, (gU_ne (gne hg209 hg208 (by decide))).trans hg209⟩)
      | 1, _, hm, hv => gl_at rfl (by obtain rfl : v = .ref q7 := Option.some.inj (hm.symm.trans m223); exact ⟨_, rfl, (gU_ne (gne hg210 hg208 (by decide))).trans hg210⟩)
      | 2, _, hm, hv => gl_at rfl (by obtain rfl : v = .ref q16 := Option.some.inj (hm.symm.trans m224); exact ⟨_, rfl, (gU_ne (gne hg211 hg208 (by decide))).trans hg211⟩)
      | 3, _, hm, hv => gl_at rfl (by obtain rfl : v = .ref q28 := Option.some.inj (hm.symm.trans m225); exact ⟨_, rfl, (gU_ne (gne hg212 hg208 (by decide))).trans hg212⟩)
      | 4, _, hm, hv => gl_at rfl (by obtain rfl : v = .ref q43 := Option.some.inj (hm.symm.trans m226); exact ⟨_, rfl, (gU_ne (gne hg213 hg208 (by decide))).trans hg213⟩)
      | 5, _, hm, hv => gl_at rfl (by obtain rfl : v = .ref q61 := Option.some.inj (hm.symm.trans m227); exact ⟨_, rfl, (gU_ne (gne hg214 hg208 (by decide))).trans hg214⟩)
      | 6, _, hm, hv => gl_at rfl (by obtain rfl : v = .ref q82 := Option.some.inj (hm.symm.trans m228); exact ⟨_, rfl, (gU_ne (gne hg215 hg208 (by decide))).trans hg215⟩)
      | 7, _, hm, hv => gl_at rfl (by obtain rfl : v = .ref q106 := Option.some.inj (hm.symm.trans m229); exact ⟨_, rfl, (gU_ne (gne hg216 hg208 (by decide))).trans hg216⟩)
      | 8, _, hm, hv => gl_at rfl (by obtain rfl : v = .ref q133 := Option.some.inj (hm.symm.trans m230); exact ⟨_, rfl, (gU_ne (gne hg217 hg208 (by decide))).trans hg217⟩)
      | 9, _, hm, hv => gl_at rfl (by obtain rfl : v = .ref q163 := Option.some.inj (hm.symm.trans m231); exact ⟨_, rfl, (gU_ne (gne hg218 hg208 (by decide))).trans hg218⟩)
      | 10, _, hm, hv => gl_at rfl (by obtain rfl : v = .ref q196 := Option.some.inj (hm.symm.trans m220); exact ⟨_, rfl, (gU_ne (gne hg219 hg208 (by decide))).trans hg219⟩)
      | 11, _, hm, hv => gl_at rfl (hv _ rfl)
      | 12, _, hm, hv => gl_at rfl (hv _ rfl)
      | 13, _, hm, hv => gl_at rfl (hv _ rfl)
      | 14, _, hm, hv => gl_at rfl (hv _ rfl)
      | k + 15, hk, _, _ => absurd hk (by omega)))
  have hY := hY.grow
  exact W.vret hx hb hr (fun t ht hW => ⟨⟨_, rfl, trivial, by (try dsimp only); rw [ht]; exact ⟨hT, gU_at, hY, ⟨_, m222, (gU_ne (gne hg209 hg208 (by decide))).trans hg209, m221⟩⟩⟩, hS.F ht⟩) hS.2.2 dX2_init_92
def w_n_X4 : List Cond := .code yX4_init cX4_init 1 none :: (HAppend.hAppend (α := List Cond) (β := List Cond) (γ := List Cond) [.methodLink RX4 5 objectInit, .instanceMethod objectInit, .code objectInit ⟨#[0xb1]⟩ 1 none, .arrayClass .int, .fieldLink RX4 11 "SeaLand$Law" "things" "[I", .fieldLink RX4 15 "SeaLand$Law" "begins" "[I", .fieldLink RX4 18 "SeaLand$Law" "kinds" "[I", .fieldLink RX4 21 "SeaLand$Law" "firsts" "[I", .fieldLink RX4 24 "SeaLand$Law" "seconds" "[I", .fieldLink RX4 27 "SeaLand$Law" "froms" "[I", .fieldLink RX4 30 "SeaLand$Law" "tos" "[I", .fieldLink RX4 33 "SeaLand$Law" "stepFrom" "[I", .fieldLink RX4 36 "SeaLand$Law" "stepTo" "[I", .fieldLink RX4 39 "SeaLand$Law" "steps" "[I", .arrayClass .long, .fieldLink RX4 42 "SeaLand$Law" "stack" "[J"] bs2)
set_option maxHeartbeats 4000000 in
set_option maxRecDepth 100000 in
theorem n_X4 (l : Launch) (dC : Nat → ClassId) (dI : Nat → Nat → Nat) (kA : Nat → ClassId) (adK adV : Nat → Nat) (G : gT) (H0 : Heap) (nC nS : Int) (o0 : Nat) (hT : gH (dC, dI) kA (SHc nC nS) G H0) (hr_o0 : G o0 = some 107) (hgC : 0 ≤ nC ∧ nC ≤ 40) (hgS : 0 ≤ nS ∧ nS ≤ 60) : Met l yX4_init w_n_X4 ({ frames := 1, cells := 11, slots := 1362, locals := 30 }) (va_Pc [.ref o0] (fun U => U.heap = H0 ∧ va_K (dC, dI) vwCl (tyl kA) U ∧ EVC adK adV (gA G H0.size) U U.heap ∧ AO U)) (va_Qv (fun (u : gT) => True) (fun (G1 : gT) (t : State) => gH (dC, dI) kA (SHc nC nS) G1 t.heap ∧ G1 o0 = some 7 ∧ gY ([40, 41, 42, 43, 44, 45, 46, 47, 48, 49, 50] : List Nat) 7 o0 G G1 H0 t.heap) (gA G H0.size)) 11 1362 (gA G H0.size) := by
  refine Met.ofW (cc := cX4_init) (maxL := 1) (ret := none) (by decide) rfl ?_
  intro p e s m args below meth c s₁ B hml hv
  obtain ⟨rfl, hH0, hK, hE, hAO⟩ := hv
  have hx := B.exec
  have hb := B.bytes
  have hr := B.returns
  have hts := atoms_spec (ws := w_n_X4) B.pre
  have hown : s.vm.findClass RX4 = some m.cls := findClass_of_methodNamed B.named
  have hlocks := B.notSynchronized
  have hin : meth.name = "<init>" := (name_of_methodNamed B.named B.method).1
  subst hH0
  generalize hAe : gA G s.heap.size = A at hE ⊢
  have hA : ∀ q : Nat, s.heap.size ≤ q → A q := fun q h => by rw [← hAe]; exact Or.inr h
  have hG := gA_of hAe
  have hS : va_S A s.heap s.heap [] := va_S.rf
  have hl := lv_entry ([.ref o0]) (n := 1) (Nat.le_of_ble_eq_true rfl)
  rw [lg_entry_eq]
  generalize (lg_sl ([.ref o0]) ++ List.replicate (1 - (lg_sl ([.ref o0])).length) Slot.unset).toArray = ls at hl ⊢
  have hl : lv_has ls 1 [(0, .ref o0)] := hl
  have hG0 := hG
  have hY : gY ([40, 41, 42, 43, 44, 45, 46, 47, 48, 49, 50] : List Nat) 7 o0 G G s.heap s.heap := gY.rf hT
  have hAo := hG _ _ hr_o0
  refine lv_aload_n hx hb dX4_init_0 rfl (lv_at hl 0 rfl) ?_
  refine W.objInit hx hb hown (ht_at2 hts 0 rfl) (ht_at2 hts 1 rfl) (ht_at2 hts 2 rfl) rfl (by rw [hml]; exact hl.1) rfl dX4_init_1 (Nat.le_of_ble_eq_true rfl) (Nat.le_of_ble_eq_true rfl) ?_
  refine W.eq (g2 := F0 m 4 ls []) rfl ?_
  refine lv_aload_n hx hb dX4_init_4 rfl (lv_at hl 0 rfl) ?_
  refine lv_sipush (v := 401) hx hb dX4_init_5 (by decide) ?_
  have hz9 := hS.1
  refine tw_newa (ty := .int) hx hb (ht_at2 hts 3 rfl) rfl hK mon_c hT hS hG hA (shc_40) rfl (fun _ _ _ => ⟨0, rfl, by decide, by decide⟩) (by decide) rfl (Nat.le_of_ble_eq_true rfl) (Nat.le_of_ble_eq_true rfl) (Nat.le_of_ble_eq_true rfl) dX4_init_8 (fun q1 G1 H hq9 eG hz1 hz2 hT hx9 hG hm9 hS => ?_)
  have hn_q1 : s.heap.size ≤ q1 := Nat.le_trans hz9 (Nat.le_of_eq hz2)
  have hY := hY.new hn_q1 eG hx9 (by decide)
  have hg2 := (hx9 _ _ hr_o0).1
  have hg3 : G1 q1 = some 40 := by rw [eG]; exact gU_at
  refine tw_putF (v := .ref q1) (ty := (.array .int)) hx hb hts bF2_X4 tyX4 tyX4_ok nmX4 hown hK hT hG hS hg2 shc_107 rfl 0 (by decide) (ht_at2 hts 4 rfl) (fun _ h9 => h9) rfl hin rfl (by decide +kernel) rfl rfl (gl_at rfl ⟨some _, rfl, fun _ h => by cases h; exact hg3⟩) dX4_init_10 (fun H locs hT oq m4 oj hS => ?_)
  have hY := hY.put oq
  refine lv_aload_n hx hb dX4_init_13 rfl (lv_at hl 0 rfl) ?_
  refine lv_sipush (v := 401) hx hb dX4_init_14 (by decide) ?_
  have hz9 := hS.1
  refine tw_newa (ty := .int) hx hb (ht_at2 hts 3 rfl) rfl hK mon_c hT hS hG hA (shc_41) rfl (fun _ _ _ => ⟨0, rfl, by decide, by decide⟩) (by decide) rfl (Nat.le_of_ble_eq_true rfl) (Nat.le_of_ble_eq_true rfl) (Nat.le_of_ble_eq_true rfl) dX4_init_17 (fun q5 G2 H hq9 eG hz1 hz2 hT hx9 hG hm9 hS => ?_)
  have hn_q5 : s.heap.size ≤ q5 := Nat.le_trans hz9 (Nat.le_of_eq hz2)
  have hY := hY.new hn_q5 eG hx9 (by decide)
  have m6 := (el_kept (hx9 _ _ hg2).2).trans m4
  have hg7 := (hx9 _ _ hg2).1
  have hg8 := (hx9 _ _ hg3).1
  have hg9 : G2 q5 = some 41 := by rw [eG]; exact gU_at
  refine tw_putF (v := .ref q5) (ty := (.array .int)) hx hb hts bF2_X4 tyX4 tyX4_ok nmX4 hown hK hT hG hS hg7 shc_107 rfl 1 (by decide) (ht_at2 hts 5 rfl) (fun _ h9 => h9) rfl hin rfl (by decide +kernel) rfl rfl (gl_at rfl ⟨some _, rfl, fun _ h => by cases h; exact hg9⟩) dX4_init_19 (fun H locs hT oq m10 oj hS => ?_)
  have hY := hY.put oq
  have m11 := (oj 0 (by decide) (by decide)).trans m6
  refine lv_aload_n hx hb dX4_init_22 rfl (lv_at hl 0 rfl) ?_
  refine lv_bipush (v := 20) hx hb dX4_init_23 (by decide) ?_
  have hz9 := hS.1
  refine tw_newa (ty := .int) hx hb (ht_at2 hts 3 rfl) rfl hK mon_c hT hS hG hA (shc_42) rfl (fun _ _ _ => ⟨0, rfl, by decide, by decide⟩) (by decide) rfl (Nat.le_of_ble_eq_true rfl) (Nat.le_of_ble_eq_true rfl) (Nat.le_of_ble_eq_true rfl) dX4_init_25 (fun q12 G3 H hq9 eG hz1 hz2 hT hx9 hG hm9 hS => ?_)
  have hn_q12 : s.heap.size ≤ q12 := Nat.le_trans hz9 (Nat.le_of_eq hz2)
  have hY := hY.new hn_q12 eG hx9 (by decide)
  have m13 := (el_kept (hx9 _ _ hg7).2).trans m11
  have m14 := (el_kept (hx9 _ _ hg7).2).trans m10
  have hg15 := (hx9 _ _ hg7).1
  have hg16 := (hx9 _ _ hg8).1
  have hg17 := (hx9 _ _ hg9).1
  have hg18 : G3 q12 = some 42 := by rw [eG]; exact gU_at
  refine tw_putF (v := .ref q12) (ty := (.array .int)) hx hb hts bF2_X4 tyX4 tyX4_ok nmX4 hown hK hT hG hS hg15 shc_107 rfl 2 (by decide) (ht_at2 hts 6 rfl) (fun _ h9 => h9) rfl hin rfl (by decide +kernel) rfl rfl (gl_at rfl ⟨some _, rfl, fun _ h => by cases h; exact hg18⟩) dX4_init_27 (fun H locs hT oq m19 oj hS => ?_)
  have hY := hY.put oq
  have m20 := (oj 0 (by decide) (by decide)).trans m13
  have m21 := (oj 1 (by decide) (by decide)).trans m14
  refine lv_aload_n hx hb dX4_init_30 rfl (lv_at hl 0 rfl) ?_
  refine lv_bipush (v := 20) hx hb dX4_init_31 (by decide) ?_
  have hz9 := hS.1
  refine tw_newa (ty := .int) hx hb (ht_at2 hts 3 rfl) rfl hK mon_c hT hS hG hA (shc_43) rfl (fun _ _ _ => ⟨0, rfl, by decide, by decide⟩) (by decide) rfl (Nat.le_of_ble_eq_true rfl) (Nat.le_of_ble_eq_true rfl) (Nat.le_of_ble_eq_true rfl) dX4_init_33 (fun q22 G4 H hq9 eG hz1 hz2 hT hx9 hG hm9 hS => ?_)
  have hn_q22 : s.heap.size ≤ q22 := Nat.le_trans hz9 (Nat.le_of_eq hz2)
  have hY := hY.new hn_q22 eG hx9 (by decide)
  have m23 := (el_kept (hx9 _ _ hg15).2).trans m20
  have m24 := (el_kept (hx9 _ _ hg15).2).trans m21
  have m25 := (el_kept (hx9 _ _ hg15).2).trans m19
  have hg26 := (hx9 _ _ hg15).1
  have hg27 := (hx9 _ _ hg16).1
  have hg28 := (hx9 _ _ hg17).1
  have hg29 := (hx9 _ _ hg18).1
  have hg30 : G4 q22 = some 43 := by rw [eG]; exact gU_at
  refine tw_putF (v := .ref q22) (ty := (.array .int)) hx hb hts bF2_X4 tyX4 tyX4_ok nmX4 hown hK hT hG hS hg26 shc_107 rfl 3 (by decide) (ht_at2 hts 7 rfl) (fun _ h9 => h9) rfl hin rfl (by decide +kernel) rfl rfl (gl_at rfl ⟨some _, rfl, fun _ h => by cases h; exact hg30⟩) dX4_init_35 (fun H locs hT oq m31 oj hS => ?_)
  have hY := hY.put oq
  have m32 := (oj 0 (by decide) (by decide)).trans m23
  have m33 := (oj 1 (by decide) (by decide)).trans m24
  have m34 := (oj 2 (by decide) (by decide)).trans m25
  refine lv_aload_n hx hb dX4_init_38 rfl (lv_at hl 0 rfl) ?_
  refine lv_bipush (v := 20) hx hb dX4_init_39 (by decide) ?_
  have hz9 := hS.1
  refine tw_newa (ty := .int) hx hb (ht_at2 hts 3 rfl) rfl hK mon_c hT hS hG hA (shc_44) rfl (fun _ _ _ => ⟨0, rfl, by decide, by decide⟩) (by decide) rfl (Nat.le_of_ble_eq_true rfl) (Nat.le_of_ble_eq_true rfl) (Nat.le_of_ble_eq_true rfl) dX4_init_41 (fun q35 G5 H hq9 eG hz1 hz2 hT hx9 hG hm9 hS => ?_)
  have hn_q35 : s.heap.size ≤ q35 := Nat.le_trans hz9 (Nat.le_of_eq hz2)
  have hY := hY.new hn_q35 eG hx9 (by decide)
  have m36 := (el_kept (hx9 _ _ hg26).2).trans m32
  have m37 := (el_kept (hx9 _ _ hg26).2).trans m33
  have m38 := (el_kept (hx9 _ _ hg26).2).trans m34
  have m39 := (el_kept (hx9 _ _ hg26).2).trans m31
  have hg40 := (hx9 _ _ hg26).1
  have hg41 := (hx9 _ _ hg27).1
  have hg42 := (hx9 _ _ hg28).1
  have hg43 := (hx9 _ _ hg29).1
  have hg44 := (hx9 _ _ hg30).1
  have hg45 : G5 q35 = some 44 := by rw [eG]; exact gU_at
  refine tw_putF (v := .ref q35) (ty := (.array .int)) hx hb hts bF2_X4 tyX4 tyX4_ok nmX4 hown hK hT hG hS hg40 shc_107 rfl 4 (by decide) (ht_at2 hts 8 rfl) (fun _ h9 => h9) rfl hin rfl (by decide +kernel) rfl rfl (gl_at rfl ⟨some _, rfl, fun _ h => by cases h; exact hg45⟩) dX4_init_43 (fun H locs hT oq m46 oj hS => ?_)
  have hY := hY.put oq
  have m47 := (oj 0 (by decide) (by decide)).trans m36
  have m48 := (oj 1 (by decide) (by decide)).trans m37
  have m49 := (oj 2 (by decide) (by decide)).trans m38
  have m50 := (oj 3 (by decide) (by decide)).trans m39
  refine lv_aload_n hx hb dX4_init_46 rfl (lv_at hl 0 rfl) ?_
  refine lv_bipush (v := 20) hx hb dX4_init_47 (by decide) ?_
  have hz9 := hS.1
  refine tw_newa (ty := .int) hx hb (ht_at2 hts 3 rfl) rfl hK mon_c hT hS hG hA (shc_45) rfl (fun _ _ _ => ⟨0, rfl, by decide, by decide⟩) (by decide) rfl (Nat.le_of_ble_eq_true rfl) (Nat.le_of_ble_eq_true rfl) (Nat.le_of_ble_eq_true rfl) dX4_init_49 (fun q51 G6 H hq9 eG hz1 hz2 hT hx9 hG hm9 hS => ?_)
  have hn_q51 : s.heap.size ≤ q51 := Nat.le_trans hz9 (Nat.le_of_eq hz2)
  have hY := hY.new hn_q51 eG hx9 (by decide)
  have m52 := (el_kept (hx9 _ _ hg40).2).trans m47
  have m53 := (el_kept (hx9 _ _ hg40).2).trans m48
  have m54 := (el_kept (hx9 _ _ hg40).2).trans m49
  have m55 := (el_kept (hx9 _ _ hg40).2).trans m50
  have m56 := (el_kept (hx9 _ _ hg40).2).trans m46
  have hg57 := (hx9 _ _ hg40).1
  have hg58 := (hx9 _ _ hg41).1
  have hg59 := (hx9 _ _ hg42).1
  have hg60 := (hx9 _ _ hg43).1
  have hg61 := (hx9 _ _ hg44).1
  have hg62 := (hx9 _ _ hg45).1
  have hg63 : G6 q51 = some 45 := by rw [eG]; exact gU_at
  refine tw_putF (v := .ref q51) (ty := (.array .int)) hx hb hts bF2_X4 tyX4 tyX4_ok nmX4 hown hK hT hG hS hg57 shc_107 rfl 5 (by decide) (ht_at2 hts 9 rfl) (fun _ h9 => h9) rfl hin rfl (by decide +kernel) rfl rfl (gl_at rfl ⟨some _, rfl, fun _ h => by cases h; exact hg63⟩) dX4_init_51 (fun H locs hT oq m64 oj hS => ?_)
  have hY := hY.put oq
  have m65 := (oj 0 (by decide) (by decide)).trans m52
  have m66 := (oj 1 (by decide) (by decide)).trans m53
  have m67 := (oj 2 (by decide) (by decide)).trans m54
  have m68 := (oj 3 (by decide) (by decide)).trans m55
  have m69 := (oj 4 (by decide) (by decide)).trans m56
  refine lv_aload_n hx hb dX4_init_54 rfl (lv_at hl 0 rfl) ?_
  refine lv_bipush (v := 20) hx hb dX4_init_55 (by decide) ?_
  have hz9 := hS.1
  refine tw_newa (ty := .int) hx hb (ht_at2 hts 3 rfl) rfl hK mon_c hT hS hG hA (shc_46) rfl (fun _ _ _ => ⟨0, rfl, by decide, by decide⟩) (by decide) rfl (Nat.le_of_ble_eq_true rfl) (Nat.le_of_ble_eq_true rfl) (Nat.le_of_ble_eq_true rfl) dX4_init_57 (fun q70 G7 H hq9 eG hz1 hz2 hT hx9 hG hm9 hS => ?_)
  have hn_q70 : s.heap.size ≤ q70 := Nat.le_trans hz9 (Nat.le_of_eq hz2)
  have hY := hY.new hn_q70 eG hx9 (by decide)
  have m71 := (el_kept (hx9 _ _ hg57).2).trans m65
  have m72 := (el_kept (hx9 _ _ hg57).2).trans m66
  have m73 := (el_kept (hx9 _ _ hg57).2).trans m67
  have m74 := (el_kept (hx9 _ _ hg57).2).trans m68
  have m75 := (el_kept (hx9 _ _ hg57).2).trans m69
  have m76 := (el_kept (hx9 _ _ hg57).2).trans m64
  have hg77 := (hx9 _ _ hg57).1
  have hg78 := (hx9 _ _ hg58).1
  have hg79 := (hx9 _ _ hg59).1
  have hg80 := (hx9 _ _ hg60).1
  have hg81 := (hx9 _ _ hg61).1
  have hg82 := (hx9 _ _ hg62).1
  have hg83 := (hx9 _ _ hg63).1
  have hg84 : G7 q70 = some 46 := by rw [eG]; exact gU_at
  refine tw_putF (v := .ref q70) (ty := (.array .int)) hx hb hts bF2_X4 tyX4 tyX4_ok nmX4 hown hK hT hG hS hg77 shc_107 rfl 6 (by decide) (ht_at2 hts 10 rfl) (fun _ h9 => h9) rfl hin rfl (by decide +kernel) rfl rfl (gl_at rfl ⟨some _, rfl, fun _ h => by cases h; exact hg84⟩) dX4_init_59 (fun H locs hT oq m85 oj hS => ?_)
  have hY := hY.put oq
  have m86 := (oj 0 (by decide) (by decide)).trans m71
  have m87 := (oj 1 (by decide) (by decide)).trans m72
  have m88 := (oj 2 (by decide) (by decide)).trans m73
  have m89 := (oj 3 (by decide) (by decide)).trans m74
  have m90 := (oj 4 (by decide) (by decide)).trans m75
  have m91 := (oj 5 (by decide) (by decide)).trans m76
  refine lv_aload_n hx hb dX4_init_62 rfl (lv_at hl 0 rfl) ?_
  refine lv_bipush (v := 20) hx hb dX4_init_63 (by decide) ?_
  have hz9 := hS.1
  refine tw_newa (ty := .int) hx hb (ht_at2 hts 3 rfl) rfl hK mon_c hT hS hG hA (shc_47) rfl (fun _ _ _ => ⟨0, rfl, by decide, by decide⟩) (by decide) rfl (Nat.le_of_ble_eq_true rfl) (Nat.le_of_ble_eq_true rfl) (Nat.le_of_ble_eq_true rfl) dX4_init_65 (fun q92 G8 H hq9 eG hz1 hz2 hT hx9 hG hm9 hS => ?_)
  have hn_q92 : s.heap.size ≤ q92 := Nat.le_trans hz9 (Nat.le_of_eq hz2)
  have hY := hY.new hn_q92 eG hx9 (by decide)
  have m93 := (el_kept (hx9 _ _ hg77).2).trans m86
  have m94 := (el_kept (hx9 _ _ hg77).2).trans m87
  have m95 := (el_kept (hx9 _ _ hg77).2).trans m88
  have m96 := (el_kept (hx9 _ _ hg77).2).trans m89
  have m97 := (el_kept (hx9 _ _ hg77).2).trans m90
  have m98 := (el_kept (hx9 _ _ hg77).2).trans m91
  have m99 := (el_kept (hx9 _ _ hg77).2).trans m85
  have hg100 := (hx9 _ _ hg77).1
  have hg101 := (hx9 _ _ hg78).1
  have hg102 := (hx9 _ _ hg79).1
  have hg103 := (hx9 _ _ hg80).1
  have hg104 := (hx9 _ _ hg81).1
  have hg105 := (hx9 _ _ hg82).1
  have hg106 := (hx9 _ _ hg83).1
  have hg107 := (hx9 _ _ hg84).1
  have hg108 : G8 q92 = some 47 := by rw [eG]; exact gU_at
  refine tw_putF (v := .ref q92) (ty := (.array .int)) hx hb hts bF2_X4 tyX4 tyX4_ok nmX4 hown hK hT hG hS hg100 shc_107 rfl 7 (by decide) (ht_at2 hts 11 rfl) (fun _ h9 => h9) rfl hin rfl (by decide +kernel) rfl rfl (gl_at rfl ⟨some _, rfl, fun _ h => by cases h; exact hg108⟩) dX4_init_67 (fun H locs hT oq m109 oj hS => ?_)
  have hY := hY.put oq
  have m110 := (oj 0 (by decide) (by decide)).trans m93
  have m111 := (oj 1 (by decide) (by decide)).trans m94
  have m112 := (oj 2 (by decide) (by decide)).trans m95
  have m113 := (oj 3 (by decide) (by decide)).trans m96
  have m114 := (oj 4 (by decide) (by decide)).trans m97
  have m115 := (oj 5 (by decide) (by decide)).trans m98
  have m116 := (oj 6 (by decide) (by decide)).trans m99
  refine lv_aload_n hx hb dX4_init_70 rfl (lv_at hl 0 rfl) ?_
  refine lv_bipush (v := 20) hx hb dX4_init_71 (by decide) ?_
  have hz9 := hS.1
  refine tw_newa (ty := .int) hx hb (ht_at2 hts 3 rfl) rfl hK mon_c hT hS hG hA (shc_48) rfl (fun _ _ _ => ⟨0, rfl, by decide, by decide⟩) (by decide) rfl (Nat.le_of_ble_eq_true rfl) (Nat.le_of_ble_eq_true rfl) (Nat.le_of_ble_eq_true rfl) dX4_init_73 (fun q117 G9 H hq9 eG hz1 hz2 hT hx9 hG hm9 hS => ?_)
  have hn_q117 : s.heap.size ≤ q117 := Nat.le_trans hz9 (Nat.le_of_eq hz2)
  have hY := hY.new hn_q117 eG hx9 (by decide)
  have m118 := (el_kept (hx9 _ _ hg100).2).trans m110
  have m119 := (el_kept (hx9 _ _ hg100).2).trans m111
  have m120 := (el_kept (hx9 _ _ hg100).2).trans m112
  have m121 := (el_kept (hx9 _ _ hg100).2).trans m113
  have m122 := (el_kept (hx9 _ _ hg100).2).trans m114
  have m123 := (el_kept (hx9 _ _ hg100).2).trans m115
  have m124 := (el_kept (hx9 _ _ hg100).2).trans m116
  have m125 := (el_kept (hx9 _ _ hg100).2).trans m109
  have hg126 := (hx9 _ _ hg100).1
  have hg127 := (hx9 _ _ hg101).1
  have hg128 := (hx9 _ _ hg102).1
  have hg129 := (hx9 _ _ hg103).1
  have hg130 := (hx9 _ _ hg104).1
  have hg131 := (hx9 _ _ hg105).1
  have hg132 := (hx9 _ _ hg106).1
  have hg133 := (hx9 _ _ hg107).1
  have hg134 := (hx9 _ _ hg108).1
  have hg135 : G9 q117 = some 48 := by rw [eG]; exact gU_at
  refine tw_putF (v := .ref q117) (ty := (.array .int)) hx hb hts bF2_X4 tyX4 tyX4_ok nmX4 hown hK hT hG hS hg126 shc_107 rfl 8 (by decide) (ht_at2 hts 12 rfl) (fun _ h9 => h9) rfl hin rfl (by decide +kernel) rfl rfl (gl_at rfl ⟨some _, rfl, fun _ h => by cases h; exact hg135⟩) dX4_init_75 (fun H locs hT oq m136 oj hS => ?_)
  have hY := hY.put oq
  have m137 := (oj 0 (by decide) (by decide)).trans m118
  have m138 := (oj 1 (by decide) (by decide)).trans m119
  have m139 := (oj 2 (by decide) (by decide)).trans m120
  have m140 := (oj 3 (by decide) (by decide)).trans m121
  have m141 := (oj 4 (by decide) (by decide)).trans m122
  have m142 := (oj 5 (by decide) (by decide)).trans m123
  have m143 := (oj 6 (by decide) (by decide)).trans m124
  have m144 := (oj 7 (by decide) (by decide)).trans m125
  refine lv_aload_n hx hb dX4_init_78 rfl (lv_at hl 0 rfl) ?_
  refine lv_sipush (v := 400) hx hb dX4_init_79 (by decide) ?_
  have hz9 := hS.1
  refine tw_newa (ty := .int) hx hb (ht_at2 hts 3 rfl) rfl hK mon_c hT hS hG hA (shc_49) rfl (fun _ _ _ => ⟨0, rfl, by decide, by decide⟩) (by decide) rfl (Nat.le_of_ble_eq_true rfl) (Nat.le_of_ble_eq_true rfl) (Nat.le_of_ble_eq_true rfl) dX4_init_82 (fun q145 G10 H hq9 eG hz1 hz2 hT hx9 hG hm9 hS => ?_)
  have hn_q145 : s.heap.size ≤ q145 := Nat.le_trans hz9 (Nat.le_of_eq hz2)
  have hY := hY.new hn_q145 eG hx9 (by decide)
  have m146 := (el_kept (hx9 _ _ hg126).2).trans m137
  have m147 := (el_kept (hx9 _ _ hg126).2).trans m138
  have m148 := (el_kept (hx9 _ _ hg126).2).trans m139
  have m149 := (el_kept (hx9 _ _ hg126).2).trans m140
  have m150 := (el_kept (hx9 _ _ hg126).2).trans m141
  have m151 := (el_kept (hx9 _ _ hg126).2).trans m142
  have m152 := (el_kept (hx9 _ _ hg126).2).trans m143
  have m153 := (el_kept (hx9 _ _ hg126).2).trans m144
  have m154 := (el_kept (hx9 _ _ hg126).2).trans m136
  have hg155 := (hx9 _ _ hg126).1
  have hg156 := (hx9 _ _ hg127).1
  have hg157 := (hx9 _ _ hg128).1
  have hg158 := (hx9 _ _ hg129).1
  have hg159 := (hx9 _ _ hg130).1
  have hg160 := (hx9 _ _ hg131).1
  have hg161 := (hx9 _ _ hg132).1
  have hg162 := (hx9 _ _ hg133).1
  have hg163 := (hx9 _ _ hg134).1
  have hg164 := (hx9 _ _ hg135).1
  have hg165 : G10 q145 = some 49 := by rw [eG]; exact gU_at
  refine tw_putF (v := .ref q145) (ty := (.array .int)) hx hb hts bF2_X4 tyX4 tyX4_ok nmX4 hown hK hT hG hS hg155 shc_107 rfl 9 (by decide) (ht_at2 hts 13 rfl) (fun _ h9 => h9) rfl hin rfl (by decide +kernel) rfl rfl (gl_at rfl ⟨some _, rfl, fun _ h => by cases h; exact hg165⟩) dX4_init_84 (fun H locs hT oq m166 oj hS => ?_)
  have hY := hY.put oq
  have m167 := (oj 0 (by decide) (by decide)).trans m146
  have m168 := (oj 1 (by decide) (by decide)).trans m147
  have m169 := (oj 2 (by decide) (by decide)).trans m148
  have m170 := (oj 3 (by decide) (by decide)).trans m149
  have m171 := (oj 4 (by decide) (by decide)).trans m150
  have m172 := (oj 5 (by decide) (by decide)).trans m151
  have m173 := (oj 6 (by decide) (by decide)).trans m152
  have m174 := (oj 7 (by decide) (by decide)).trans m153
  have m175 := (oj 8 (by decide) (by decide)).trans m154
  refine lv_aload_n hx hb dX4_init_87 rfl (lv_at hl 0 rfl) ?_
  refine lv_bipush (v := 20) hx hb dX4_init_88 (by decide) ?_
  have hz9 := hS.1
  refine tw_newa (ty := .long) hx hb (ht_at2 hts 14 rfl) rfl hK mon_c hT hS hG hA (shc_50) rfl (fun _ _ _ => ⟨0, rfl⟩) (by decide) rfl (Nat.le_of_ble_eq_true rfl) (Nat.le_of_ble_eq_true rfl) (Nat.le_of_ble_eq_true rfl) dX4_init_90 (fun q176 G11 H hq9 eG hz1 hz2 hT hx9 hG hm9 hS => ?_)
  have hn_q176 : s.heap.size ≤ q176 := Nat.le_trans hz9 (Nat.le_of_eq hz2)
  have hY := hY.new hn_q176 eG hx9 (by decide)
  have m177 := (el_kept (hx9 _ _ hg155).2).trans m167
  have m178 := (el_kept (hx9 _ _ hg155).2).trans m168
  have m179 := (el_kept (hx9 _ _ hg155).2).trans m169
  have m180 := (el_kept (hx9 _ _ hg155).2).trans m170
  have m181 := (el_kept (hx9 _ _ hg155).2).trans m171
  have m182 := (el_kept (hx9 _ _ hg155).2).trans m172
  have m183 := (el_kept (hx9 _ _ hg155).2).trans m173
  have m184 := (el_kept (hx9 _ _ hg155).2).trans m174
  have m185 := (el_kept (hx9 _ _ hg155).2).trans m175
  have m186 := (el_kept (hx9 _ _ hg155).2).trans m166
  have hg187 := (hx9 _ _ hg155).1
  have hg188 := (hx9 _ _ hg156).1
  have hg189 := (hx9 _ _ hg157).1
  have hg190 := (hx9 _ _ hg158).1
  have hg191 := (hx9 _ _ hg159).1
  have hg192 := (hx9 _ _ hg160).1
  have hg193 := (hx9 _ _ hg161).1
  have hg194 := (hx9 _ _ hg162).1
  have hg195 := (hx9 _ _ hg163).1
  have hg196 := (hx9 _ _ hg164).1
  have hg197 := (hx9 _ _ hg165).1
  have hg198 : G11 q176 = some 50 := by rw [eG]; exact gU_at
  refine tw_putF (v := .ref q176) (ty := (.array .long)) hx hb hts bF2_X4 tyX4 tyX4_ok nmX4 hown hK hT hG hS hg187 shc_107 rfl 10 (by decide) (ht_at2 hts 15 rfl) (fun _ h9 => h9) rfl hin rfl (by decide +kernel) rfl rfl (gl_at rfl ⟨some _, rfl, fun _ h => by cases h; exact hg198⟩) dX4_init_92 (fun H locs hT oq m199 oj hS => ?_)
  have hY := hY.put oq
  have m200 := (oj 0 (by decide) (by decide)).trans m177
  have m201 := (oj 1 (by decide) (by decide)).trans m178
  have m202 := (oj 2 (by decide) (by decide)).trans m179
  have m203 := (oj 3 (by decide) (by decide)).trans m180
  have m204 := (oj 4 (by decide) (by decide)).trans m181
  have m205 := (oj 5 (by decide) (by decide)).trans m182
  have m206 := (oj 6 (by decide) (by decide)).trans m183
  have m207 := (oj 7 (by decide) (by decide)).trans m184
  have m208 := (oj 8 (by decide) (by decide)).trans m185
  have m209 := (oj 9 (by decide) (by decide)).trans m186
  have hT := hT.grown (t := 7) mon_c hg187 (by decide) (by
    have h8 := hT _ _ hg187; rw [shc_107] at h8; rw [shc_7]
    refine gC.grow h8 (fun k v hk hm hv => match k, hk, hm, hv with
      | 0, _, hm, hv => gl_at rfl (by obtain rfl : v = .ref q1 := Option.some.inj (hm.symm.trans m200); exact ⟨_, rfl, (gU_ne (gne hg188 hg187 (by decide))).trans hg188⟩)
      | 1, _, hm, hv => gl_at rfl (by obtain rfl : v = .ref q5 := Option.some.inj (hm.symm.trans m201); exact ⟨_, rfl, (gU_ne (gne hg189 hg187 (by decide))).trans hg189⟩)
      | 2, _, hm, hv => gl_at rfl (by obtain rfl : v = .ref q12 := Option.some.inj (hm.symm.trans m202); exact ⟨_, rfl, (gU_ne (gne hg190 hg187 (by decide))).trans hg190⟩)
      | 3, _, hm, hv => gl_at rfl (by obtain rfl : v = .ref q22 := Option.some.inj (hm.symm.trans m203); exact ⟨_, rfl, (gU_ne (gne hg191 hg187 (by decide))).trans hg191⟩)
      | 4, _, hm, hv => gl_at rfl (by obtain rfl : v = .ref q35 := Option.some.inj (hm.symm.trans m204); exact ⟨_, rfl, (gU_ne (gne hg192 hg187 (by decide))).trans hg192⟩)
      | 5, _, hm, hv => gl_at rfl (by obtain rfl : v = .ref q51 := Option.some.inj (hm.symm.trans m205); exact ⟨_, rfl, (gU_ne (gne hg193 hg187 (by decide))).trans hg193⟩)
      | 6, _, hm, hv => gl_at rfl (by obtain rfl : v = .ref q70 := Option.some.inj (hm.symm.trans m206); exact ⟨_, rfl, (gU_ne (gne hg194 hg187 (by decide))).trans hg194⟩)
      | 7, _, hm, hv => gl_at rfl (by obtain rfl : v = .ref q92 := Option.some.inj (hm.symm.trans m207); exact ⟨_, rfl, (gU_ne (gne hg195 hg187 (by decide))).trans hg195⟩)
      | 8, _, hm, hv => gl_at rfl (by obtain rfl : v = .ref q117 := Option.some.inj (hm.symm.trans m208); exact ⟨_, rfl, (gU_ne (gne hg196 hg187 (by decide))).trans hg196⟩)
      | 9, _, hm, hv => gl_at rfl (by obtain rfl : v = .ref q145 := Option.some.inj (hm.symm.trans m209); exact ⟨_, rfl, (gU_ne (gne hg197 hg187 (by decide))).trans hg197⟩)
      | 10, _, hm, hv => gl_at rfl (by obtain rfl : v = .ref q176 := Option.some.inj (hm.symm.trans m199); exact ⟨_, rfl, (gU_ne (gne hg198 hg187 (by decide))).trans hg198⟩)
      | 11, _, hm, hv => gl_at rfl (hv _ rfl)
      | 12, _, hm, hv => gl_at rfl (hv _ rfl)
      | 13, _, hm, hv => gl_at rfl (hv _ rfl)
      | k + 14, hk, _, _ => absurd hk (by omega)))
  have hY := hY.grow
  exact W.vret hx hb hr (fun t ht hW => ⟨⟨_, rfl, trivial, by (try dsimp only); rw [ht]; exact ⟨hT, gU_at, hY⟩⟩, hS.F ht⟩) hS.2.2 dX4_init_95
def w_n_X5 : List Cond := .code yX5_init cX5_init 1 none :: (HAppend.hAppend (α := List Cond) (β := List Cond) (γ := List Cond) [.methodLink RX5 5 objectInit, .instanceMethod objectInit, .code objectInit ⟨#[0xb1]⟩ 1 none, .arrayClass .int, .fieldLink RX5 13 "SeaLand$Plans" "liftOf" "[I", .fieldLink RX5 17 "SeaLand$Plans" "leastNow" "[I", .fieldLink RX5 20 "SeaLand$Plans" "leastThen" "[I", .fieldLink RX5 23 "SeaLand$Plans" "fields" "[I", .fieldLink RX5 26 "SeaLand$Plans" "fieldLevels" "[I", .fieldLink RX5 29 "SeaLand$Plans" "costs" "[I", .fieldLink RX5 32 "SeaLand$Plans" "lasts" "[I", .fieldLink RX5 35 "SeaLand$Plans" "incomes" "[I", .fieldLink RX5 38 "SeaLand$Plans" "acres" "[I", .arrayClass .boolean, .fieldLink RX5 41 "SeaLand$Plans" "placed" "[Z", .fieldLink RX5 45 "SeaLand$Plans" "trial" "[I", .fieldLink RX5 48 "SeaLand$Plans" "best" "[I"] bs2)
set_option maxHeartbeats 4000000 in
set_option maxRecDepth 100000 in
theorem n_X5 (l : Launch) (dC : Nat → ClassId) (dI : Nat → Nat → Nat) (kA : Nat → ClassId) (adK adV : Nat → Nat) (G : gT) (H0 : Heap) (nC nS : Int) (o0 : Nat) (hT : gH (dC, dI) kA (SHc nC nS) G H0) (hr_o0 : G o0 = some 108) (hgC : 0 ≤ nC ∧ nC ≤ 40) (hgS : 0 ≤ nS ∧ nS ≤ 60) : Met l yX5_init w_n_X5 ({ frames := 1, cells := 12, slots := 309, locals := 30 }) (va_Pc [.ref o0] (fun U => U.heap = H0 ∧ va_K (dC, dI) vwCl (tyl kA) U ∧ EVC adK adV (gA G H0.size) U U.heap ∧ AO U)) (va_Qv (fun (u : gT) => True) (fun (G1 : gT) (t : State) => gH (dC, dI) kA (SHc nC nS) G1 t.heap ∧ G1 o0 = some 8 ∧ gY ([58, 59, 60, 61, 62, 63, 64, 65, 66, 67, 68, 69] : List Nat) 8 o0 G G1 H0 t.heap) (gA G H0.size)) 12 309 (gA G H0.size) := by
  refine Met.ofW (cc := cX5_init) (maxL := 1) (ret := none) (by decide) rfl ?_
  intro p e s m args below meth c s₁ B hml hv
  obtain ⟨rfl, hH0, hK, hE, hAO⟩ := hv
  have hx := B.exec
  have hb := B.bytes
  have hr := B.returns
  have hts := atoms_spec (ws := w_n_X5) B.pre
  have hown : s.vm.findClass RX5 = some m.cls := findClass_of_methodNamed B.named
  have hlocks := B.notSynchronized
  have hin : meth.name = "<init>" := (name_of_methodNamed B.named B.method).1
  subst hH0
  generalize hAe : gA G s.heap.size = A at hE ⊢
  have hA : ∀ q : Nat, s.heap.size ≤ q → A q := fun q h => by rw [← hAe]; exact Or.inr h
  have hG := gA_of hAe
  have hS : va_S A s.heap s.heap [] := va_S.rf
  have hl := lv_entry ([.ref o0]) (n := 1) (Nat.le_of_ble_eq_true rfl)
  rw [lg_entry_eq]
  generalize (lg_sl ([.ref o0]) ++ List.replicate (1 - (lg_sl ([.ref o0])).length) Slot.unset).toArray = ls at hl ⊢
  have hl : lv_has ls 1 [(0, .ref o0)] := hl
  have hG0 := hG
  have hY : gY ([58, 59, 60, 61, 62, 63, 64, 65, 66, 67, 68, 69] : List Nat) 8 o0 G G s.heap s.heap := gY.rf hT
  have hAo := hG _ _ hr_o0
  refine lv_aload_n hx hb dX5_init_0 rfl (lv_at hl 0 rfl) ?_
  refine W.objInit hx hb hown (ht_at2 hts 0 rfl) (ht_at2 hts 1 rfl) (ht_at2 hts 2 rfl) rfl (by rw [hml]; exact hl.1) rfl dX5_init_1 (Nat.le_of_ble_eq_true rfl) (Nat.le_of_ble_eq_true rfl) ?_
  refine W.eq (g2 := F0 m 4 ls []) rfl ?_
  refine lv_aload_n hx hb dX5_init_4 rfl (lv_at hl 0 rfl) ?_
  refine lv_bipush (v := 6) hx hb dX5_init_5 (by decide) ?_
  have hz9 := hS.1
  refine tw_newa (ty := .int) hx hb (ht_at2 hts 3 rfl) rfl hK mon_c hT hS hG hA (shc_58) rfl (fun _ _ _ => ⟨0, rfl, by decide, by decide⟩) (by decide) rfl (Nat.le_of_ble_eq_true rfl) (Nat.le_of_ble_eq_true rfl) (Nat.le_of_ble_eq_true rfl) dX5_init_7 (fun q1 G1 H hq9 eG hz1 hz2 hT hx9 hG hm9 hS => ?_)
  have hn_q1 : s.heap.size ≤ q1 := Nat.le_trans hz9 (Nat.le_of_eq hz2)
  have hY := hY.new hn_q1 eG hx9 (by decide)
  have hg2 := (hx9 _ _ hr_o0).1
  have hg3 : G1 q1 = some 58 := by rw [eG]; exact gU_at
  refine tw_putF (v := .ref q1) (ty := (.array .int)) hx hb hts bF2_X5 tyX5 tyX5_ok nmX5 hown hK hT hG hS hg2 shc_108 rfl 0 (by decide) (ht_at2 hts 4 rfl) (fun _ h9 => h9) rfl hin rfl (by decide +kernel) rfl rfl (gl_at rfl ⟨some _, rfl, fun _ h => by cases h; exact hg3⟩) dX5_init_9 (fun H locs hT oq m4 oj hS => ?_)
  have hY := hY.put oq
  refine lv_aload_n hx hb dX5_init_12 rfl (lv_at hl 0 rfl) ?_
  refine lv_bipush (v := 121) hx hb dX5_init_13 (by decide) ?_
  have hz9 := hS.1
  refine tw_newa (ty := .int) hx hb (ht_at2 hts 3 rfl) rfl hK mon_c hT hS hG hA (shc_59) rfl (fun _ _ _ => ⟨0, rfl, by decide, by decide⟩) (by decide) rfl (Nat.le_of_ble_eq_true rfl) (Nat.le_of_ble_eq_true rfl) (Nat.le_of_ble_eq_true rfl) dX5_init_15 (fun q5 G2 H hq9 eG hz1 hz2 hT hx9 hG hm9 hS => ?_)
  have hn_q5 : s.heap.size ≤ q5 := Nat.le_trans hz9 (Nat.le_of_eq hz2)
  have hY := hY.new hn_q5 eG hx9 (by decide)
  have m6 := (el_kept (hx9 _ _ hg2).2).trans m4
  have hg7 := (hx9 _ _ hg2).1
  have hg8 := (hx9 _ _ hg3).1
  have hg9 : G2 q5 = some 59 := by rw [eG]; exact gU_at
  refine tw_putF (v := .ref q5) (ty := (.array .int)) hx hb hts bF2_X5 tyX5 tyX5_ok nmX5 hown hK hT hG hS hg7 shc_108 rfl 1 (by decide) (ht_at2 hts 5 rfl) (fun _ h9 => h9) rfl hin rfl (by decide +kernel) rfl rfl (gl_at rfl ⟨some _, rfl, fun _ h => by cases h; exact hg9⟩) dX5_init_17 (fun H locs hT oq m10 oj hS => ?_)
  have hY := hY.put oq
  have m11 := (oj 0 (by decide) (by decide)).trans m6
  refine lv_aload_n hx hb dX5_init_20 rfl (lv_at hl 0 rfl) ?_
  refine lv_bipush (v := 121) hx hb dX5_init_21 (by decide) ?_
  have hz9 := hS.1
  refine tw_newa (ty := .int) hx hb (ht_at2 hts 3 rfl) rfl hK mon_c hT hS hG hA (shc_60) rfl (fun _ _ _ => ⟨0, rfl, by decide, by decide⟩) (by decide) rfl (Nat.le_of_ble_eq_true rfl) (Nat.le_of_ble_eq_true rfl) (Nat.le_of_ble_eq_true rfl) dX5_init_23 (fun q12 G3 H hq9 eG hz1 hz2 hT hx9 hG hm9 hS => ?_)
  have hn_q12 : s.heap.size ≤ q12 := Nat.le_trans hz9 (Nat.le_of_eq hz2)
  have hY := hY.new hn_q12 eG hx9 (by decide)
  have m13 := (el_kept (hx9 _ _ hg7).2).trans m11
  have m14 := (el_kept (hx9 _ _ hg7).2).trans m10
  have hg15 := (hx9 _ _ hg7).1
  have hg16 := (hx9 _ _ hg8).1
  have hg17 := (hx9 _ _ hg9).1
  have hg18 : G3 q12 = some 60 := by rw [eG]; exact gU_at
  refine tw_putF (v := .ref q12) (ty := (.array .int)) hx hb hts bF2_X5 tyX5 tyX5_ok nmX5 hown hK hT hG hS hg15 shc_108 rfl 2 (by decide) (ht_at2 hts 6 rfl) (fun _ h9 => h9) rfl hin rfl (by decide +kernel) rfl rfl (gl_at rfl ⟨some _, rfl, fun _ h => by cases h; exact hg18⟩) dX5_init_25 (fun H locs hT oq m19 oj hS => ?_)
  have hY := hY.put oq
  have m20 := (oj 0 (by decide) (by decide)).trans m13
  have m21 := (oj 1 (by decide) (by decide)).trans m14
  refine lv_aload_n hx hb dX5_init_28 rfl (lv_at hl 0 rfl) ?_
  refine lv_bipush (v := 6) hx hb dX5_init_29 (by decide) ?_
  have hz9 := hS.1
  refine tw_newa (ty := .int) hx hb (ht_at2 hts 3 rfl) rfl hK mon_c hT hS hG hA (shc_61) rfl (fun _ _ _ => ⟨0, rfl, by decide, by decide⟩) (by decide) rfl (Nat.le_of_ble_eq_true rfl) (Nat.le_of_ble_eq_true rfl) (Nat.le_of_ble_eq_true rfl) dX5_init_31 (fun q22 G4 H hq9 eG hz1 hz2 hT hx9 hG hm9 hS => ?_)
  have hn_q22 : s.heap.size ≤ q22 := Nat.le_trans hz9 (Nat.le_of_eq hz2)
  have hY := hY.new hn_q22 eG hx9 (by decide)
  have m23 := (el_kept (hx9 _ _ hg15).2).trans m20
  have m24 := (el_kept (hx9 _ _ hg15).2).trans m21
  have m25 := (el_kept (hx9 _ _ hg15).2).trans m19
  have hg26 := (hx9 _ _ hg15).1
  have hg27 := (hx9 _ _ hg16).1
  have hg28 := (hx9 _ _ hg17).1
  have hg29 := (hx9 _ _ hg18).1
  have hg30 : G4 q22 = some 61 := by rw [eG]; exact gU_at
  refine tw_putF (v := .ref q22) (ty := (.array .int)) hx hb hts bF2_X5 tyX5 tyX5_ok nmX5 hown hK hT hG hS hg26 shc_108 rfl 3 (by decide) (ht_at2 hts 7 rfl) (fun _ h9 => h9) rfl hin rfl (by decide +kernel) rfl rfl (gl_at rfl ⟨some _, rfl, fun _ h => by cases h; exact hg30⟩) dX5_init_33 (fun H locs hT oq m31 oj hS => ?_)
  have hY := hY.put oq
  have m32 := (oj 0 (by decide) (by decide)).trans m23
  have m33 := (oj 1 (by decide) (by decide)).trans m24
  have m34 := (oj 2 (by decide) (by decide)).trans m25
  refine lv_aload_n hx hb dX5_init_36 rfl (lv_at hl 0 rfl) ?_
  refine lv_bipush (v := 6) hx hb dX5_init_37 (by decide) ?_
  have hz9 := hS.1
  refine tw_newa (ty := .int) hx hb (ht_at2 hts 3 rfl) rfl hK mon_c hT hS hG hA (shc_62) rfl (fun _ _ _ => ⟨0, rfl, by decide, by decide⟩) (by decide) rfl (Nat.le_of_ble_eq_true rfl) (Nat.le_of_ble_eq_true rfl) (Nat.le_of_ble_eq_true rfl) dX5_init_39 (fun q35 G5 H hq9 eG hz1 hz2 hT hx9 hG hm9 hS => ?_)
  have hn_q35 : s.heap.size ≤ q35 := Nat.le_trans hz9 (Nat.le_of_eq hz2)
  have hY := hY.new hn_q35 eG hx9 (by decide)
  have m36 := (el_kept (hx9 _ _ hg26).2).trans m32
  have m37 := (el_kept (hx9 _ _ hg26).2).trans m33
  have m38 := (el_kept (hx9 _ _ hg26).2).trans m34
  have m39 := (el_kept (hx9 _ _ hg26).2).trans m31
  have hg40 := (hx9 _ _ hg26).1
  have hg41 := (hx9 _ _ hg27).1
  have hg42 := (hx9 _ _ hg28).1
  have hg43 := (hx9 _ _ hg29).1
  have hg44 := (hx9 _ _ hg30).1
  have hg45 : G5 q35 = some 62 := by rw [eG]; exact gU_at
  refine tw_putF (v := .ref q35) (ty := (.array .int)) hx hb hts bF2_X5 tyX5 tyX5_ok nmX5 hown hK hT hG hS hg40 shc_108 rfl 4 (by decide) (ht_at2 hts 8 rfl) (fun _ h9 => h9) rfl hin rfl (by decide +kernel) rfl rfl (gl_at rfl ⟨some _, rfl, fun _ h => by cases h; exact hg45⟩) dX5_init_41 (fun H locs hT oq m46 oj hS => ?_)
  have hY := hY.put oq
  have m47 := (oj 0 (by decide) (by decide)).trans m36
  have m48 := (oj 1 (by decide) (by decide)).trans m37
  have m49 := (oj 2 (by decide) (by decide)).trans m38
  have m50 := (oj 3 (by decide) (by decide)).trans m39
  refine lv_aload_n hx hb dX5_init_44 rfl (lv_at hl 0 rfl) ?_
  refine lv_bipush (v := 7) hx hb dX5_init_45 (by decide) ?_
  have hz9 := hS.1
  refine tw_newa (ty := .int) hx hb (ht_at2 hts 3 rfl) rfl hK mon_c hT hS hG hA (shc_63) rfl (fun _ _ _ => ⟨0, rfl, by decide, by decide⟩) (by decide) rfl (Nat.le_of_ble_eq_true rfl) (Nat.le_of_ble_eq_true rfl) (Nat.le_of_ble_eq_true rfl) dX5_init_47 (fun q51 G6 H hq9 eG hz1 hz2 hT hx9 hG hm9 hS => ?_)
  have hn_q51 : s.heap.size ≤ q51 := Nat.le_trans hz9 (Nat.le_of_eq hz2)
  have hY := hY.new hn_q51 eG hx9 (by decide)
  have m52 := (el_kept (hx9 _ _ hg40).2).trans m47
  have m53 := (el_kept (hx9 _ _ hg40).2).trans m48
  have m54 := (el_kept (hx9 _ _ hg40).2).trans m49
  have m55 := (el_kept (hx9 _ _ hg40).2).trans m50
  have m56 := (el_kept (hx9 _ _ hg40).2).trans m46
  have hg57 := (hx9 _ _ hg40).1
  have hg58 := (hx9 _ _ hg41).1
  have hg59 := (hx9 _ _ hg42).1
  have hg60 := (hx9 _ _ hg43).1
  have hg61 := (hx9 _ _ hg44).1
  have hg62 := (hx9 _ _ hg45).1
  have hg63 : G6 q51 = some 63 := by rw [eG]; exact gU_at
  refine tw_putF (v := .ref q51) (ty := (.array .int)) hx hb hts bF2_X5 tyX5 tyX5_ok nmX5 hown hK hT hG hS hg57 shc_108 rfl 5 (by decide) (ht_at2 hts 9 rfl) (fun _ h9 => h9) rfl hin rfl (by decide +kernel) rfl rfl (gl_at rfl ⟨some _, rfl, fun _ h => by cases h; exact hg63⟩) dX5_init_49 (fun H locs hT oq m64 oj hS => ?_)
  have hY := hY.put oq
  have m65 := (oj 0 (by decide) (by decide)).trans m52
  have m66 := (oj 1 (by decide) (by decide)).trans m53
  have m67 := (oj 2 (by decide) (by decide)).trans m54
  have m68 := (oj 3 (by decide) (by decide)).trans m55
  have m69 := (oj 4 (by decide) (by decide)).trans m56
  refine lv_aload_n hx hb dX5_init_52 rfl (lv_at hl 0 rfl) ?_
  refine lv_bipush (v := 7) hx hb dX5_init_53 (by decide) ?_
  have hz9 := hS.1
  refine tw_newa (ty := .int) hx hb (ht_at2 hts 3 rfl) rfl hK mon_c hT hS hG hA (shc_64) rfl (fun _ _ _ => ⟨0, rfl, by decide, by decide⟩) (by decide) rfl (Nat.le_of_ble_eq_true rfl) (Nat.le_of_ble_eq_true rfl) (Nat.le_of_ble_eq_true rfl) dX5_init_55 (fun q70 G7 H hq9 eG hz1 hz2 hT hx9 hG hm9 hS => ?_)
  have hn_q70 : s.heap.size ≤ q70 := Nat.le_trans hz9 (Nat.le_of_eq hz2)
  have hY := hY.new hn_q70 eG hx9 (by decide)
  have m71 := (el_kept (hx9 _ _ hg57).2).trans m65
  have m72 := (el_kept (hx9 _ _ hg57).2).trans m66
  have m73 := (el_kept (hx9 _ _ hg57).2).trans m67
  have m74 := (el_kept (hx9 _ _ hg57).2).trans m68
  have m75 := (el_kept (hx9 _ _ hg57).2).trans m69
  have m76 := (el_kept (hx9 _ _ hg57).2).trans m64
  have hg77 := (hx9 _ _ hg57).1
  have hg78 := (hx9 _ _ hg58).1
  have hg79 := (hx9 _ _ hg59).1
  have hg80 := (hx9 _ _ hg60).1
  have hg81 := (hx9 _ _ hg61).1
  have hg82 := (hx9 _ _ hg62).1
  have hg83 := (hx9 _ _ hg63).1
  have hg84 : G7 q70 = some 64 := by rw [eG]; exact gU_at
  refine tw_putF (v := .ref q70) (ty := (.array .int)) hx hb hts bF2_X5 tyX5 tyX5_ok nmX5 hown hK hT hG hS hg77 shc_108 rfl 6 (by decide) (ht_at2 hts 10 rfl) (fun _ h9 => h9) rfl hin rfl (by decide +kernel) rfl rfl (gl_at rfl ⟨some _, rfl, fun _ h => by cases h; exact hg84⟩) dX5_init_57 (fun H locs hT oq m85 oj hS => ?_)
  have hY := hY.put oq
  have m86 := (oj 0 (by decide) (by decide)).trans m71
  have m87 := (oj 1 (by decide) (by decide)).trans m72
  have m88 := (oj 2 (by decide) (by decide)).trans m73
  have m89 := (oj 3 (by decide) (by decide)).trans m74
  have m90 := (oj 4 (by decide) (by decide)).trans m75
  have m91 := (oj 5 (by decide) (by decide)).trans m76
  refine lv_aload_n hx hb dX5_init_60 rfl (lv_at hl 0 rfl) ?_
  refine lv_bipush (v := 7) hx hb dX5_init_61 (by decide) ?_
  have hz9 := hS.1
  refine tw_newa (ty := .int) hx hb (ht_at2 hts 3 rfl) rfl hK mon_c hT hS hG hA (shc_65) rfl (fun _ _ _ => ⟨0, rfl, by decide, by decide⟩) (by decide) rfl (Nat.le_of_ble_eq_true rfl) (Nat.le_of_ble_eq_true rfl) (Nat.le_of_ble_eq_true rfl) dX5_init_63 (fun q92 G8 H hq9 eG hz1 hz2 hT hx9 hG hm9 hS => ?_)
  have hn_q92 : s.heap.size ≤ q92 := Nat.le_trans hz9 (Nat.le_of_eq hz2)
  have hY := hY.new hn_q92 eG hx9 (by decide)
  have m93 := (el_kept (hx9 _ _ hg77).2).trans m86
  have m94 := (el_kept (hx9 _ _ hg77).2).trans m87
  have m95 := (el_kept (hx9 _ _ hg77).2).trans m88
  have m96 := (el_kept (hx9 _ _ hg77).2).trans m89
  have m97 := (el_kept (hx9 _ _ hg77).2).trans m90
  have m98 := (el_kept (hx9 _ _ hg77).2).trans m91
  have m99 := (el_kept (hx9 _ _ hg77).2).trans m85
  have hg100 := (hx9 _ _ hg77).1
  have hg101 := (hx9 _ _ hg78).1
  have hg102 := (hx9 _ _ hg79).1
  have hg103 := (hx9 _ _ hg80).1
  have hg104 := (hx9 _ _ hg81).1
  have hg105 := (hx9 _ _ hg82).1
  have hg106 := (hx9 _ _ hg83).1
  have hg107 := (hx9 _ _ hg84).1
  have hg108 : G8 q92 = some 65 := by rw [eG]; exact gU_at
  refine tw_putF (v := .ref q92) (ty := (.array .int)) hx hb hts bF2_X5 tyX5 tyX5_ok nmX5 hown hK hT hG hS hg100 shc_108 rfl 7 (by decide) (ht_at2 hts 11 rfl) (fun _ h9 => h9) rfl hin rfl (by decide +kernel) rfl rfl (gl_at rfl ⟨some _, rfl, fun _ h => by cases h; exact hg108⟩) dX5_init_65 (fun H locs hT oq m109 oj hS => ?_)
  have hY := hY.put oq
  have m110 := (oj 0 (by decide) (by decide)).trans m93
  have m111 := (oj 1 (by decide) (by decide)).trans m94
  have m112 := (oj 2 (by decide) (by decide)).trans m95
  have m113 := (oj 3 (by decide) (by decide)).trans m96
  have m114 := (oj 4 (by decide) (by decide)).trans m97
  have m115 := (oj 5 (by decide) (by decide)).trans m98
  have m116 := (oj 6 (by decide) (by decide)).trans m99
  refine lv_aload_n hx hb dX5_init_68 rfl (lv_at hl 0 rfl) ?_
  refine lv_bipush (v := 7) hx hb dX5_init_69 (by decide) ?_
  have hz9 := hS.1
  refine tw_newa (ty := .int) hx hb (ht_at2 hts 3 rfl) rfl hK mon_c hT hS hG hA (shc_66) rfl (fun _ _ _ => ⟨0, rfl, by decide, by decide⟩) (by decide) rfl (Nat.le_of_ble_eq_true rfl) (Nat.le_of_ble_eq_true rfl) (Nat.le_of_ble_eq_true rfl) dX5_init_71 (fun q117 G9 H hq9 eG hz1 hz2 hT hx9 hG hm9 hS => ?_)
  have hn_q117 : s.heap.size ≤ q117 := Nat.le_trans hz9 (Nat.le_of_eq hz2)
  have hY := hY.new hn_q117 eG hx9 (by decide)
  have m118 := (el_kept (hx9 _ _ hg100).2).trans m110
  have m119 := (el_kept (hx9 _ _ hg100).2).trans m111
  have m120 := (el_kept (hx9 _ _ hg100).2).trans m112
  have m121 := (el_kept (hx9 _ _ hg100).2).trans m113
  have m122 := (el_kept (hx9 _ _ hg100).2).trans m114
  have m123 := (el_kept (hx9 _ _ hg100).2).trans m115
  have m124 := (el_kept (hx9 _ _ hg100).2).trans m116
  have m125 := (el_kept (hx9 _ _ hg100).2).trans m109
  have hg126 := (hx9 _ _ hg100).1
  have hg127 := (hx9 _ _ hg101).1
  have hg128 := (hx9 _ _ hg102).1
  have hg129 := (hx9 _ _ hg103).1
  have hg130 := (hx9 _ _ hg104).1
  have hg131 := (hx9 _ _ hg105).1
  have hg132 := (hx9 _ _ hg106).1
  have hg133 := (hx9 _ _ hg107).1
  have hg134 := (hx9 _ _ hg108).1
  have hg135 : G9 q117 = some 66 := by rw [eG]; exact gU_at
  refine tw_putF (v := .ref q117) (ty := (.array .int)) hx hb hts bF2_X5 tyX5 tyX5_ok nmX5 hown hK hT hG hS hg126 shc_108 rfl 8 (by decide) (ht_at2 hts 12 rfl) (fun _ h9 => h9) rfl hin rfl (by decide +kernel) rfl rfl (gl_at rfl ⟨some _, rfl, fun _ h => by cases h; exact hg135⟩) dX5_init_73 (fun H locs hT oq m136 oj hS => ?_)
  have hY := hY.put oq
  have m137 := (oj 0 (by decide) (by decide)).trans m118
  have m138 := (oj 1 (by decide) (by decide)).trans m119
  have m139 := (oj 2 (by decide) (by decide)).trans m120
  have m140 := (oj 3 (by decide) (by decide)).trans m121
  have m141 := (oj 4 (by decide) (by decide)).trans m122
  have m142 := (oj 5 (by decide) (by decide)).trans m123
  have m143 := (oj 6 (by decide) (by decide)).trans m124
  have m144 := (oj 7 (by decide) (by decide)).trans m125
  refine lv_aload_n hx hb dX5_init_76 rfl (lv_at hl 0 rfl) ?_
  refine lv_bipush (v := 7) hx hb dX5_init_77 (by decide) ?_
  have hz9 := hS.1
  refine tw_newa (ty := .boolean) hx hb (ht_at2 hts 13 rfl) rfl hK mon_c hT hS hG hA (shc_67) rfl (fun _ _ _ => ⟨0, rfl, by decide, by decide⟩) (by decide) rfl (Nat.le_of_ble_eq_true rfl) (Nat.le_of_ble_eq_true rfl) (Nat.le_of_ble_eq_true rfl) dX5_init_79 (fun q145 G10 H hq9 eG hz1 hz2 hT hx9 hG hm9 hS => ?_)
  have hn_q145 : s.heap.size ≤ q145 := Nat.le_trans hz9 (Nat.le_of_eq hz2)
  have hY := hY.new hn_q145 eG hx9 (by decide)
  have m146 := (el_kept (hx9 _ _ hg126).2).trans m137
  have m147 := (el_kept (hx9 _ _ hg126).2).trans m138
  have m148 := (el_kept (hx9 _ _ hg126).2).trans m139
  have m149 := (el_kept (hx9 _ _ hg126).2).trans m140
  have m150 := (el_kept (hx9 _ _ hg126).2).trans m141
  have m151 := (el_kept (hx9 _ _ hg126).2).trans m142
  have m152 := (el_kept (hx9 _ _ hg126).2).trans m143
  have m153 := (el_kept (hx9 _ _ hg126).2).trans m144
  have m154 := (el_kept (hx9 _ _ hg126).2).trans m136
  have hg155 := (hx9 _ _ hg126).1
  have hg156 := (hx9 _ _ hg127).1
  have hg157 := (hx9 _ _ hg128).1
  have hg158 := (hx9 _ _ hg129).1
  have hg159 := (hx9 _ _ hg130).1
  have hg160 := (hx9 _ _ hg131).1
  have hg161 := (hx9 _ _ hg132).1
  have hg162 := (hx9 _ _ hg133).1
  have hg163 := (hx9 _ _ hg134).1
  have hg164 := (hx9 _ _ hg135).1
  have hg165 : G10 q145 = some 67 := by rw [eG]; exact gU_at
  refine tw_putF (v := .ref q145) (ty := (.array .boolean)) hx hb hts bF2_X5 tyX5 tyX5_ok nmX5 hown hK hT hG hS hg155 shc_108 rfl 9 (by decide) (ht_at2 hts 14 rfl) (fun _ h9 => h9) rfl hin rfl (by decide +kernel) rfl rfl (gl_at rfl ⟨some _, rfl, fun _ h => by cases h; exact hg165⟩) dX5_init_81 (fun H locs hT oq m166 oj hS => ?_)
  have hY := hY.put oq
  have m167 := (oj 0 (by decide) (by decide)).trans m146
  have m168 := (oj 1 (by decide) (by decide)).trans m147
  have m169 := (oj 2 (by decide) (by decide)).trans m148
  have m170 := (oj 3 (by decide) (by decide)).trans m149
  have m171 := (oj 4 (by decide) (by decide)).trans m150
  have m172 := (oj 5 (by decide) (by decide)).trans m151
  have m173 := (oj 6 (by decide) (by decide)).trans m152
  have m174 := (oj 7 (by decide) (by decide)).trans m153
  have m175 := (oj 8 (by decide) (by decide)).trans m154
  refine lv_aload_n hx hb dX5_init_84 rfl (lv_at hl 0 rfl) ?_
  refine lv_bipush (v := 7) hx hb dX5_init_85 (by decide) ?_
  have hz9 := hS.1
  refine tw_newa (ty := .int) hx hb (ht_at2 hts 3 rfl) rfl hK mon_c hT hS hG hA (shc_68) rfl (fun _ _ _ => ⟨0, rfl, by decide, by decide⟩) (by decide) rfl (Nat.le_of_ble_eq_true rfl) (Nat.le_of_ble_eq_true rfl) (Nat.le_of_ble_eq_true rfl) dX5_init_87 (fun q176 G11 H hq9 eG hz1 hz2 hT hx9 hG hm9 hS => ?_)
  have hn_q176 : s.heap.size ≤ q176 := Nat.le_trans hz9 (Nat.le_of_eq hz2)
  have hY := hY.new hn_q176 eG hx9 (by decide)
  have m177 := (el_kept (hx9 _ _ hg155).2).trans m167
  have m178 := (el_kept (hx9 _ _ hg155).2).trans m168
  have m179 := (el_kept (hx9 _ _ hg155).2).trans m169
  have m180 := (el_kept (hx9 _ _ hg155).2).trans m170
  have m181 := (el_kept (hx9 _ _ hg155).2).trans m171
  have m182 := (el_kept (hx9 _ _ hg155).2).trans m172
  have m183 := (el_kept (hx9 _ _ hg155).2).trans m173
  have m184 := (el_kept (hx9 _ _ hg155).2).trans m174
  have m185 := (el_kept (hx9 _ _ hg155).2).trans m175
  have m186 := (el_kept (hx9 _ _ hg155).2).trans m166
  have hg187 := (hx9 _ _ hg155).1
  have hg188 := (hx9 _ _ hg156).1
  have hg189 := (hx9 _ _ hg157).1
  have hg190 := (hx9 _ _ hg158).1
  have hg191 := (hx9 _ _ hg159).1
  have hg192 := (hx9 _ _ hg160).1
  have hg193 := (hx9 _ _ hg161).1
  have hg194 := (hx9 _ _ hg162).1
  have hg195 := (hx9 _ _ hg163).1
  have hg196 := (hx9 _ _ hg164).1
  have hg197 := (hx9 _ _ hg165).1
  have hg198 : G11 q176 = some 68 := by rw [eG]; exact gU_at
  refine tw_putF (v := .ref q176) (ty := (.array .int)) hx hb hts bF2_X5 tyX5 tyX5_ok nmX5 hown hK hT hG hS hg187 shc_108 rfl 10 (by decide) (ht_at2 hts 15 rfl) (fun _ h9 => h9) rfl hin rfl (by decide +kernel) rfl rfl (gl_at rfl ⟨some _, rfl, fun _ h => by cases h; exact hg198⟩) dX5_init_89 (fun H locs hT oq m199 oj hS => ?_)
  have hY := hY.put oq
  have m200 := (oj 0 (by decide) (by decide)).trans m177
  have m201 := (oj 1 (by decide) (by decide)).trans m178
  have m202 := (oj 2 (by decide) (by decide)).trans m179
  have m203 := (oj 3 (by decide) (by decide)).trans m180
  have m204 := (oj 4 (by decide) (by decide)).trans m181
  have m205 := (oj 5 (by decide) (by decide)).trans m182
  have m206 := (oj 6 (by decide) (by decide)).trans m183
  have m207 := (oj 7 (by decide) (by decide)).trans m184
  have m208 := (oj 8 (by decide) (by decide)).trans m185
  have m209 := (oj 9 (by decide) (by decide)).trans m186
  refine lv_aload_n hx hb dX5_init_92 rfl (lv_at hl 0 rfl) ?_
  refine lv_bipush (v := 7) hx hb dX5_init_93 (by decide) ?_
  have hz9 := hS.1
  refine tw_newa (ty := .int) hx hb (ht_at2 hts 3 rfl) rfl hK mon_c hT hS hG hA (shc_69) rfl (fun _ _ _ => ⟨0, rfl, by decide, by decide⟩) (by decide) rfl (Nat.le_of_ble_eq_true rfl) (Nat.le_of_ble_eq_true rfl) (Nat.le_of_ble_eq_true rfl) dX5_init_95 (fun q210 G12 H hq9 eG hz1 hz2 hT hx9 hG hm9 hS => ?_)
  have hn_q210 : s.heap.size ≤ q210 := Nat.le_trans hz9 (Nat.le_of_eq hz2)
  have hY := hY.new hn_q210 eG hx9 (by decide)
  have m211 := (el_kept (hx9 _ _ hg187).2).trans m200
  have m212 := (el_kept (hx9 _ _ hg187).2).trans m201
  have m213 := (el_kept (hx9 _ _ hg187).2).trans m202
  have m214 := (el_kept (hx9 _ _ hg187).2).trans m203
  have m215 := (el_kept (hx9 _ _ hg187).2).trans m204
  have m216 := (el_kept (hx9 _ _ hg187).2).trans m205
  have m217 := (el_kept (hx9 _ _ hg187).2).trans m206
  have m218 := (el_kept (hx9 _ _ hg187).2).trans m207
  have m219 := (el_kept (hx9 _ _ hg187).2).trans m208
  have m220 := (el_kept (hx9 _ _ hg187).2).trans m209
  have m221 := (el_kept (hx9 _ _ hg187).2).trans m199
  have hg222 := (hx9 _ _ hg187).1
  have hg223 := (hx9 _ _ hg188).1
  have hg224 := (hx9 _ _ hg189).1
  have hg225 := (hx9 _ _ hg190).1
  have hg226 := (hx9 _ _ hg191).1
  have hg227 := (hx9 _ _ hg192).1
  have hg228 := (hx9 _ _ hg193).1
  have hg229 := (hx9 _ _ hg194).1
  have hg230 := (hx9 _ _ hg195).1
  have hg231 := (hx9 _ _ hg196).1
  have hg232 := (hx9 _ _ hg197).1
  have hg233 := (hx9 _ _ hg198).1
  have hg234 : G12 q210 = some 69 := by rw [eG]; exact gU_at
  refine tw_putF (v := .ref q210) (ty := (.array .int)) hx hb hts bF2_X5 tyX5 tyX5_ok nmX5 hown hK hT hG hS hg222 shc_108 rfl 11 (by decide) (ht_at2 hts 16 rfl) (fun _ h9 => h9) rfl hin rfl (by decide +kernel) rfl rfl (gl_at rfl ⟨some _, rfl, fun _ h => by cases h; exact hg234⟩) dX5_init_97 (fun H locs hT oq m235 oj hS => ?_)
  have hY := hY.put oq
  have m236 := (oj 0 (by decide) (by decide)).trans m211
  have m237 := (oj 1 (by decide) (by decide)).trans m212
  have m238 := (oj 2 (by decide) (by decide)).trans m213
  have m239 := (oj 3 (by decide) (by decide)).trans m214
  have m240 := (oj 4 (by decide) (by decide)).trans m215
  have m241 := (oj 5 (by decide) (by decide)).trans m216
  have m242 := (oj 6 (by decide) (by decide)).trans m217
  have m243 := (oj 7 (by decide) (by decide)).trans m218
  have m244 := (oj 8 (by decide) (by decide)).trans m219
  have m245 := (oj 9 (by decide) (by decide)).trans m220
  have m246 := (oj 10 (by decide) (by decide)).trans m221
  have hT := hT.grown (t := 8) mon_c hg222 (by decide) (by
    have h8 := hT _ _ hg222; rw [shc_108] at h8; rw [shc_8]
    refine gC.grow h8 (fun k v hk hm hv => match k, hk, hm, hv with
      | 0, _, hm, hv => gl_at rfl (by obtain rfl : v = .ref q1 := Option.some.inj (hm.symm.trans m236); exact ⟨_, rfl, (gU_ne (gne hg223 hg222 (by decide))).trans hg223⟩)
      | 1, _, hm, hv => gl_at rfl (by obtain rfl : v = .ref q5 := Option.some.inj (hm.symm.trans m237); exact ⟨_, rfl, (gU_ne (gne hg224 hg222 (by decide))).trans hg224⟩)
      | 2, _, hm, hv => gl_at rfl (by obtain rfl : v = .ref q12 := Option.some.inj (hm.symm.trans m238); exact ⟨_, rfl, (gU_ne (gne hg225 hg222 (by decide))).trans hg225⟩)
      | 3, _, hm, hv => gl_at rfl (by obtain rfl : v = .ref q22 := Option.some.inj (hm.symm.trans m239); exact ⟨_, rfl, (gU_ne (gne hg226 hg222 (by decide))).trans hg226⟩)
      | 4, _, hm, hv => gl_at rfl (by obtain rfl : v = .ref q35 := Option.some.inj (hm.symm.trans m240); exact ⟨_, rfl, (gU_ne (gne hg227 hg222 (by decide))).trans hg227⟩)
      | 5, _, hm, hv => gl_at rfl (by obtain rfl : v = .ref q51 := Option.some.inj (hm.symm.trans m241); exact ⟨_, rfl, (gU_ne (gne hg228 hg222 (by decide))).trans hg228⟩)
      | 6, _, hm, hv => gl_at rfl (by obtain rfl : v = .ref q70 := Option.some.inj (hm.symm.trans m242); exact ⟨_, rfl, (gU_ne (gne hg229 hg222 (by decide))).trans hg229⟩)
      | 7, _, hm, hv => gl_at rfl (by obtain rfl : v = .ref q92 := Option.some.inj (hm.symm.trans m243); exact ⟨_, rfl, (gU_ne (gne hg230 hg222 (by decide))).trans hg230⟩)
      | 8, _, hm, hv => gl_at rfl (by obtain rfl : v = .ref q117 := Option.some.inj (hm.symm.trans m244); exact ⟨_, rfl, (gU_ne (gne hg231 hg222 (by decide))).trans hg231⟩)
      | 9, _, hm, hv => gl_at rfl (by obtain rfl : v = .ref q145 := Option.some.inj (hm.symm.trans m245); exact ⟨_, rfl, (gU_ne (gne hg232 hg222 (by decide))).trans hg232⟩)
      | 10, _, hm, hv => gl_at rfl (by obtain rfl : v = .ref q176 := Option.some.inj (hm.symm.trans m246); exact ⟨_, rfl, (gU_ne (gne hg233 hg222 (by decide))).trans hg233⟩)
      | 11, _, hm, hv => gl_at rfl (by obtain rfl : v = .ref q210 := Option.some.inj (hm.symm.trans m235); exact ⟨_, rfl, (gU_ne (gne hg234 hg222 (by decide))).trans hg234⟩)
      | 12, _, hm, hv => gl_at rfl (hv _ rfl)
      | 13, _, hm, hv => gl_at rfl (hv _ rfl)
      | 14, _, hm, hv => gl_at rfl (hv _ rfl)
      | 15, _, hm, hv => gl_at rfl (hv _ rfl)
      | 16, _, hm, hv => gl_at rfl (hv _ rfl)
      | k + 17, hk, _, _ => absurd hk (by omega)))
  have hY := hY.grow
  exact W.vret hx hb hr (fun t ht hW => ⟨⟨_, rfl, trivial, by (try dsimp only); rw [ht]; exact ⟨hT, gU_at, hY⟩⟩, hS.F ht⟩) hS.2.2 dX5_init_100
def w_n_X8 : List Cond := .code yX8_init cX8_init 1 none :: (HAppend.hAppend (α := List Cond) (β := List Cond) (γ := List Cond) [.methodLink RX8 3 objectInit, .instanceMethod objectInit, .code objectInit ⟨#[0xb1]⟩ 1 none, .arrayClass .int, .fieldLink RX8 9 "SeaLand$Sky" "tides" "[I", .fieldLink RX8 15 "SeaLand$Sky" "stormFrom" "[I", .fieldLink RX8 18 "SeaLand$Sky" "stormTo" "[I", .fieldLink RX8 21 "SeaLand$Sky" "stormMore" "[I", .classLink RX8 24 RX9, .instantiable RX9 3, .initialized RX9, .code yX9_init cX9_init 1 none, .methodLink RX9 3 objectInit, .fieldLink RX9 9 "SeaLand$Tellings" "hours" "[I", .fieldLink RX9 15 "SeaLand$Tellings" "numbers" "[I", .instanceMethod yX9_init, .fieldLink RX8 27 "SeaLand$Sky" "wind" "LSeaLand$Tellings;", .fieldLink RX8 31 "SeaLand$Sky" "rain" "LSeaLand$Tellings;"] bs2)
set_option maxHeartbeats 4000000 in
set_option maxRecDepth 100000 in
theorem n_X8 (l : Launch) (dC : Nat → ClassId) (dI : Nat → Nat → Nat) (kA : Nat → ClassId) (adK adV : Nat → Nat) (G : gT) (H0 : Heap) (nC nS : Int) (o0 : Nat) (hT : gH (dC, dI) kA (SHc nC nS) G H0) (hr_o0 : G o0 = some 111) (hgC : 0 ≤ nC ∧ nC ≤ 40) (hgS : 0 ≤ nS ∧ nS ≤ 60) : Met l yX8_init w_n_X8 ({ frames := 2, cells := 10, slots := 318, locals := 58 }) (va_Pc [.ref o0] (fun U => U.heap = H0 ∧ va_K (dC, dI) vwCl (tyl kA) U ∧ EVC adK adV (gA G H0.size) U U.heap ∧ AO U)) (va_Qv (fun (u : gT) => True) (fun (G1 : gT) (t : State) => gH (dC, dI) kA (SHc nC nS) G1 t.heap ∧ G1 o0 = some 11 ∧ gY ([12, 19, 20, 21, 22, 23, 24, 112] : List Nat) 11 o0 G G1 H0 t.heap) (gA G H0.size)) 10 318 (gA G H0.size) := by
  refine Met.ofW (cc := cX8_init) (maxL := 1) (ret := none) (by decide) rfl ?_
  intro p e s m args below meth c s₁ B hml hv
  obtain ⟨rfl, hH0, hK, hE, hAO⟩ := hv
  have hx := B.exec
  have hb := B.bytes
  have hr := B.returns
  have hts := atoms_spec (ws := w_n_X8) B.pre
  have hown : s.vm.findClass RX8 = some m.cls := findClass_of_methodNamed B.named
  have hlocks := B.notSynchronized
  have hin : meth.name = "<init>" := (name_of_methodNamed B.named B.method).1
  subst hH0
  generalize hAe : gA G s.heap.size = A at hE ⊢
  have hA : ∀ q : Nat, s.heap.size ≤ q → A q := fun q h => by rw [← hAe]; exact Or.inr h
  have hG := gA_of hAe
  have hS : va_S A s.heap s.heap [] := va_S.rf
  have hl := lv_entry ([.ref o0]) (n := 1) (Nat.le_of_ble_eq_true rfl)
  rw [lg_entry_eq]
  generalize (lg_sl ([.ref o0]) ++ List.replicate (1 - (lg_sl ([.ref o0])).length) Slot.unset).toArray = ls at hl ⊢
  have hl : lv_has ls 1 [(0, .ref o0)] := hl
  have hG0 := hG
  have hY : gY ([12, 19, 20, 21, 22, 23, 24, 112] : List Nat) 11 o0 G G s.heap s.heap := gY.rf hT
  have hAo := hG _ _ hr_o0
  refine lv_aload_n hx hb dX8_init_0 rfl (lv_at hl 0 rfl) ?_
  refine W.objInit hx hb hown (ht_at2 hts 0 rfl) (ht_at2 hts 1 rfl) (ht_at2 hts 2 rfl) rfl (by rw [hml]; exact hl.1) rfl dX8_init_1 (Nat.le_of_ble_eq_true rfl) (Nat.le_of_ble_eq_true rfl) ?_
  refine W.eq (g2 := F0 m 4 ls []) rfl ?_
  refine lv_aload_n hx hb dX8_init_4 rfl (lv_at hl 0 rfl) ?_
  refine lv_bipush (v := 12) hx hb dX8_init_5 (by decide) ?_
  have hz9 := hS.1
  refine tw_newa (ty := .int) hx hb (ht_at2 hts 3 rfl) rfl hK mon_c hT hS hG hA (shc_19) rfl (fun _ _ _ => ⟨0, rfl, by decide, by decide⟩) (by decide) rfl (Nat.le_of_ble_eq_true rfl) (Nat.le_of_ble_eq_true rfl) (Nat.le_of_ble_eq_true rfl) dX8_init_7 (fun q1 G1 H hq9 eG hz1 hz2 hT hx9 hG hm9 hS => ?_)
  have hn_q1 : s.heap.size ≤ q1 := Nat.le_trans hz9 (Nat.le_of_eq hz2)
  have hY := hY.new hn_q1 eG hx9 (by decide)
  have hg2 := (hx9 _ _ hr_o0).1
  have hg3 : G1 q1 = some 19 := by rw [eG]; exact gU_at
  refine tw_putF (v := .ref q1) (ty := (.array .int)) hx hb hts bF2_X8 tyX8 tyX8_ok nmX8 hown hK hT hG hS hg2 shc_111 rfl 0 (by decide) (ht_at2 hts 4 rfl) (fun _ h9 => h9) rfl hin rfl (by decide +kernel) rfl rfl (gl_at rfl ⟨some _, rfl, fun _ h => by cases h; exact hg3⟩) dX8_init_9 (fun H locs hT oq m4 oj hS => ?_)
  have hY := hY.put oq
  refine lv_aload_n hx hb dX8_init_12 rfl (lv_at hl 0 rfl) ?_
  refine lv_bipush (v := 20) hx hb dX8_init_13 (by decide) ?_
  have hz9 := hS.1
  refine tw_newa (ty := .int) hx hb (ht_at2 hts 3 rfl) rfl hK mon_c hT hS hG hA (shc_20) rfl (fun _ _ _ => ⟨0, rfl, by decide, by decide⟩) (by decide) rfl (Nat.le_of_ble_eq_true rfl) (Nat.le_of_ble_eq_true rfl) (Nat.le_of_ble_eq_true rfl) dX8_init_15 (fun q5 G2 H hq9 eG hz1 hz2 hT hx9 hG hm9 hS => ?_)
  have hn_q5 : s.heap.size ≤ q5 := Nat.le_trans hz9 (Nat.le_of_eq hz2)
  have hY := hY.new hn_q5 eG hx9 (by decide)
  have m6 := (el_kept (hx9 _ _ hg2).2).trans m4
  have hg7 := (hx9 _ _ hg2).1
  have hg8 := (hx9 _ _ hg3).1
  have hg9 : G2 q5 = some 20 := by rw [eG]; exact gU_at
  refine tw_putF (v := .ref q5) (ty := (.array .int)) hx hb hts bF2_X8 tyX8 tyX8_ok nmX8 hown hK hT hG hS hg7 shc_111 rfl 1 (by decide) (ht_at2 hts 5 rfl) (fun _ h9 => h9) rfl hin rfl (by decide +kernel) rfl rfl (gl_at rfl ⟨some _, rfl, fun _ h => by cases h; exact hg9⟩) dX8_init_17 (fun H locs hT oq m10 oj hS => ?_)
  have hY := hY.put oq
  have m11 := (oj 0 (by decide) (by decide)).trans m6
  refine lv_aload_n hx hb dX8_init_20 rfl (lv_at hl 0 rfl) ?_
  refine lv_bipush (v := 20) hx hb dX8_init_21 (by decide) ?_
  have hz9 := hS.1
  refine tw_newa (ty := .int) hx hb (ht_at2 hts 3 rfl) rfl hK mon_c hT hS hG hA (shc_21) rfl (fun _ _ _ => ⟨0, rfl, by decide, by decide⟩) (by decide) rfl (Nat.le_of_ble_eq_true rfl) (Nat.le_of_ble_eq_true rfl) (Nat.le_of_ble_eq_true rfl) dX8_init_23 (fun q12 G3 H hq9 eG hz1 hz2 hT hx9 hG hm9 hS => ?_)
  have hn_q12 : s.heap.size ≤ q12 := Nat.le_trans hz9 (Nat.le_of_eq hz2)
  have hY := hY.new hn_q12 eG hx9 (by decide)
  have m13 := (el_kept (hx9 _ _ hg7).2).trans m11
  have m14 := (el_kept (hx9 _ _ hg7).2).trans m10
  have hg15 := (hx9 _ _ hg7).1
  have hg16 := (hx9 _ _ hg8).1
  have hg17 := (hx9 _ _ hg9).1
  have hg18 : G3 q12 = some 21 := by rw [eG]; exact gU_at
  refine tw_putF (v := .ref q12) (ty := (.array .int)) hx hb hts bF2_X8 tyX8 tyX8_ok nmX8 hown hK hT hG hS hg15 shc_111 rfl 2 (by decide) (ht_at2 hts 6 rfl) (fun _ h9 => h9) rfl hin rfl (by decide +kernel) rfl rfl (gl_at rfl ⟨some _, rfl, fun _ h => by cases h; exact hg18⟩) dX8_init_25 (fun H locs hT oq m19 oj hS => ?_)
  have hY := hY.put oq
  have m20 := (oj 0 (by decide) (by decide)).trans m13
  have m21 := (oj 1 (by decide) (by decide)).trans m14
  refine lv_aload_n hx hb dX8_init_28 rfl (lv_at hl 0 rfl) ?_
  refine lv_bipush (v := 20) hx hb dX8_init_29 (by decide) ?_
  have hz9 := hS.1
  refine tw_newa (ty := .int) hx hb (ht_at2 hts 3 rfl) rfl hK mon_c hT hS hG hA (shc_22) rfl (fun _ _ _ => ⟨0, rfl, by decide, by decide⟩) (by decide) rfl (Nat.le_of_ble_eq_true rfl) (Nat.le_of_ble_eq_true rfl) (Nat.le_of_ble_eq_true rfl) dX8_init_31 (fun q22 G4 H hq9 eG hz1 hz2 hT hx9 hG hm9 hS => ?_)
  have hn_q22 : s.heap.size ≤ q22 := Nat.le_trans hz9 (Nat.le_of_eq hz2)
  have hY := hY.new hn_q22 eG hx9 (by decide)
  have m23 := (el_kept (hx9 _ _ hg15).2).trans m20
  have m24 := (el_kept (hx9 _ _ hg15).2).trans m21
  have m25 := (el_kept (hx9 _ _ hg15).2).trans m19
  have hg26 := (hx9 _ _ hg15).1
  have hg27 := (hx9 _ _ hg16).1
  have hg28 := (hx9 _ _ hg17).1
  have hg29 := (hx9 _ _ hg18).1
  have hg30 : G4 q22 = some 22 := by rw [eG]; exact gU_at
  refine tw_putF (v := .ref q22) (ty := (.array .int)) hx hb hts bF2_X8 tyX8 tyX8_ok nmX8 hown hK hT hG hS hg26 shc_111 rfl 3 (by decide) (ht_at2 hts 7 rfl) (fun _ h9 => h9) rfl hin rfl (by decide +kernel) rfl rfl (gl_at rfl ⟨some _, rfl, fun _ h => by cases h; exact hg30⟩) dX8_init_33 (fun H locs hT oq m31 oj hS => ?_)
  have hY := hY.put oq
  have m32 := (oj 0 (by decide) (by decide)).trans m23
  have m33 := (oj 1 (by decide) (by decide)).trans m24
  have m34 := (oj 2 (by decide) (by decide)).trans m25
  refine lv_aload_n hx hb dX8_init_36 rfl (lv_at hl 0 rfl) ?_
  have hz9 := hS.1
  refine tw_new hx hb hts bF2_X9 tyX9 tyX9_ok hown (ht_at2 hts 8 rfl) (ht_at2 hts 9 rfl) (ht_at2 hts 10 rfl) hK mon_c hT hS hG hA (shc_112) rfl nd_112 (Nat.le_of_ble_eq_true rfl) (Nat.le_of_ble_eq_true rfl) dX8_init_37 (fun q35 G5 H hq9 eG hz1 hz2 hT hx9 hG hm9 hS => ?_)
  have hn_q35 : s.heap.size ≤ q35 := Nat.le_trans hz9 (Nat.le_of_eq hz2)
  have hY := hY.new hn_q35 eG hx9 (by decide)
  have m36 := (el_kept (hx9 _ _ hg26).2).trans m32
  have m37 := (el_kept (hx9 _ _ hg26).2).trans m33
  have m38 := (el_kept (hx9 _ _ hg26).2).trans m34
  have m39 := (el_kept (hx9 _ _ hg26).2).trans m31
  have hg40 := (hx9 _ _ hg26).1
  have hg41 := (hx9 _ _ hg27).1
  have hg42 := (hx9 _ _ hg28).1
  have hg43 := (hx9 _ _ hg29).1
  have hg44 := (hx9 _ _ hg30).1
  have hg45 : G5 q35 = some 112 := by rw [eG]; exact gU_at
  refine lv_dup hx hb dX8_init_40 rfl ?_
  have hFc := gA_free hG hA hS
  have hz9 := hS.1
  refine va_callv (va_runIN (As := []) (rest := [.ref q35, .ref o0]) ⟨hx, hb, hml, hown, hts⟩ (n_X9 l dC dI kA adK adV G5 H nC nS q35 hT hg45 (by omega) (by omega)) ⟨va_cnB 0 hts (goodIn_ca (goodIn_r _ [12, 13, 2, 3, 4, 14, 15] rfl (by decide +kernel)) (bs2_in _ _)) rfl rfl rfl (hE.nm 112 rfl) (ht_at2 hts 10 rfl) (by decide +kernel) ⟨(Nat.le_of_ble_eq_true rfl), (Nat.le_of_ble_eq_true rfl)⟩, rfl, (ht_at2 hts 15 rfl)⟩ ⟨fun a U g mk q => by obtain ⟨q0, q1, qK, qE, qA⟩ := q; exact ⟨q0, q1, va_K.moved (u := U) (U := U.calling g mk a) (Vm.Alike.refl U.vm) qK, EVC.blind g mk a qE, AO.blind g mk a qA⟩, fun U hU hW => ⟨rfl, hU, va_K.moved hW.alike hK, hE.call hS hFc hU hW, hAO.call hW⟩⟩ rfl rfl hl.1 rfl (lv_room (Nat.le_of_ble_eq_true rfl)) dX8_init_41 ⟨(Nat.le_of_ble_eq_true rfl), (Nat.le_of_ble_eq_true rfl)⟩) hS (fun q _ h => hFc q h) hFc (fun G6 t H locs ht hvm _ hB _ _ hS => ?_)
  (try dsimp only at hB); rw [ht] at hB; obtain ⟨hT, hg46, hY1⟩ := hB
  have hY := hY.call hn_q35 hY1 hz9 (by decide)
  have hG := hY.A hG0 hAo hA
  have m47 := (el_kept (hY1.1 _ _ (gne hg40 hg45 (by decide)) hg40).2).trans m36
  have m48 := (el_kept (hY1.1 _ _ (gne hg40 hg45 (by decide)) hg40).2).trans m37
  have m49 := (el_kept (hY1.1 _ _ (gne hg40 hg45 (by decide)) hg40).2).trans m38
  have m50 := (el_kept (hY1.1 _ _ (gne hg40 hg45 (by decide)) hg40).2).trans m39
  have hg51 := (hY1.1 _ _ (gne hg40 hg45 (by decide)) hg40).1
  have hg52 := (hY1.1 _ _ (gne hg41 hg45 (by decide)) hg41).1
  have hg53 := (hY1.1 _ _ (gne hg42 hg45 (by decide)) hg42).1
  have hg54 := (hY1.1 _ _ (gne hg43 hg45 (by decide)) hg43).1
  have hg55 := (hY1.1 _ _ (gne hg44 hg45 (by decide)) hg44).1
  refine tw_putF (v := .ref q35) (ty := (.object "SeaLand$Tellings")) hx hb hts bF2_X8 tyX8 tyX8_ok nmX8 hown hK hT hG hS hg51 shc_111 rfl 4 (by decide) (ht_at2 hts 16 rfl) (fun _ h9 => h9) rfl hin rfl (by decide +kernel) rfl rfl (gl_at rfl ⟨some _, rfl, fun _ h => by cases h; exact hg46⟩) dX8_init_44 (fun H locs hT oq m56 oj hS => ?_)
  have hY := hY.put oq
  have m57 := (oj 0 (by decide) (by decide)).trans m47
  have m58 := (oj 1 (by decide) (by decide)).trans m48
  have m59 := (oj 2 (by decide) (by decide)).trans m49
  have m60 := (oj 3 (by decide) (by decide)).trans m50
  refine lv_aload_n hx hb dX8_init_47 rfl (lv_at hl 0 rfl) ?_
  have hz9 := hS.1
  refine tw_new hx hb hts bF2_X9 tyX9 tyX9_ok hown (ht_at2 hts 8 rfl) (ht_at2 hts 9 rfl) (ht_at2 hts 10 rfl) hK mon_c hT hS hG hA (shc_112) rfl nd_112 (Nat.le_of_ble_eq_true rfl) (Nat.le_of_ble_eq_true rfl) dX8_init_48 (fun q61 G7 H hq9 eG hz1 hz2 hT hx9 hG hm9 hS => ?_)
  have hn_q61 : s.heap.size ≤ q61 := Nat.le_trans hz9 (Nat.le_of_eq hz2)
  have hY := hY.new hn_q61 eG hx9 (by decide)
  have m62 := (el_kept (hx9 _ _ hg51).2).trans m57
  have m63 := (el_kept (hx9 _ _ hg51).2).trans m58
  have m64 := (el_kept (hx9 _ _ hg51).2).trans m59
  have m65 := (el_kept (hx9 _ _ hg51).2).trans m60
  have m66 := (el_kept (hx9 _ _ hg51).2).trans m56
  have hg67 := (hx9 _ _ hg51).1
  have hg68 := (hx9 _ _ hg52).1
  have hg69 := (hx9 _ _ hg53).1
  have hg70 := (hx9 _ _ hg54).1
  have hg71 := (hx9 _ _ hg55).1
  have hg72 := (hx9 _ _ hg46).1
  have hg73 : G7 q61 = some 112 := by rw [eG]; exact gU_at
  refine lv_dup hx hb dX8_init_51 rfl ?_
  have hFc := gA_free hG hA hS
  have hz9 := hS.1
  refine va_callv (va_runIN (As := []) (rest := [.ref q61, .ref o0]) ⟨hx, hb, hml, hown, hts⟩ (n_X9 l dC dI kA adK adV G7 H nC nS q61 hT hg73 (by omega) (by omega)) ⟨va_cnB 0 hts (goodIn_ca (goodIn_r _ [12, 13, 2, 3, 4, 14, 15] rfl (by decide +kernel)) (bs2_in _ _)) rfl rfl rfl (hE.nm 112 rfl) (ht_at2 hts 10 rfl) (by decide +kernel) ⟨(Nat.le_of_ble_eq_true rfl), (Nat.le_of_ble_eq_true rfl)⟩, rfl, (ht_at2 hts 15 rfl)⟩ ⟨fun a U g mk q => by obtain ⟨q0, q1, qK, qE, qA⟩ := q; exact ⟨q0, q1, va_K.moved (u := U) (U := U.calling g mk a) (Vm.Alike.refl U.vm) qK, EVC.blind g mk a qE, AO.blind g mk a qA⟩, fun U hU hW => ⟨rfl, hU, va_K.moved hW.alike hK, hE.call hS hFc hU hW, hAO.call hW⟩⟩ rfl rfl hl.1 rfl (lv_room (Nat.le_of_ble_eq_true rfl)) dX8_init_52 ⟨(Nat.le_of_ble_eq_true rfl), (Nat.le_of_ble_eq_true rfl)⟩) hS (fun q _ h => hFc q h) hFc (fun G8 t H locs ht hvm _ hB _ _ hS => ?_)
  (try dsimp only at hB); rw [ht] at hB; obtain ⟨hT, hg74, hY1⟩ := hB
  have hY := hY.call hn_q61 hY1 hz9 (by decide)
  have hG := hY.A hG0 hAo hA
  have m75 := (el_kept (hY1.1 _ _ (gne hg67 hg73 (by decide)) hg67).2).trans m62
  have m76 := (el_kept (hY1.1 _ _ (gne hg67 hg73 (by decide)) hg67).2).trans m63
  have m77 := (el_kept (hY1.1 _ _ (gne hg67 hg73 (by decide)) hg67).2).trans m64
  have m78 := (el_kept (hY1.1 _ _ (gne hg67 hg73 (by decide)) hg67).2).trans m65
  have m79 := (el_kept (hY1.1 _ _ (gne hg67 hg73 (by decide)) hg67).2).trans m66
  have hg80 := (hY1.1 _ _ (gne hg67 hg73 (by decide)) hg67).1
  have hg81 := (hY1.1 _ _ (gne hg68 hg73 (by decide)) hg68).1
  have hg82 := (hY1.1 _ _ (gne hg69 hg73 (by decide)) hg69).1
  have hg83 := (hY1.1 _ _ (gne hg70 hg73 (by decide)) hg70).1
  have hg84 := (hY1.1 _ _ (gne hg71 hg73 (by decide)) hg71).1
  have hg85 := (hY1.1 _ _ (gne hg72 hg73 (by decide)) hg72).1
  refine tw_putF (v := .ref q61) (ty := (.object "SeaLand$Tellings")) hx hb hts bF2_X8 tyX8 tyX8_ok nmX8 hown hK hT hG hS hg80 shc_111 rfl 5 (by decide) (ht_at2 hts 17 rfl) (fun _ h9 => h9) rfl hin rfl (by decide +kernel) rfl rfl (gl_at rfl ⟨some _, rfl, fun _ h => by cases h; exact hg74⟩) dX8_init_55 (fun H locs hT oq m86 oj hS => ?_)
  have hY := hY.put oq
  have m87 := (oj 0 (by decide) (by decide)).trans m75
  have m88 := (oj 1 (by decide) (by decide)).trans m76
  have m89 := (oj 2 (by decide) (by decide)).trans m77
  have m90 := (oj 3 (by decide) (by decide)).trans m78
  have m91 := (oj 4 (by decide) (by decide)).trans m79
  have hT := hT.grown (t := 11) mon_c hg80 (by decide) (by
    have h8 := hT _ _ hg80; rw [shc_111] at h8; rw [shc_11]
    refine gC.grow h8 (fun k v hk hm hv => match k, hk, hm, hv with
      | 0, _, hm, hv => gl_at rfl (by obtain rfl : v = .ref q1 := Option.some.inj (hm.symm.trans m87); exact ⟨_, rfl, (gU_ne (gne hg81 hg80 (by decide))).trans hg81⟩)
      | 1, _, hm, hv => gl_at rfl (by obtain rfl : v = .ref q5 := Option.some.inj (hm.symm.trans m88); exact ⟨_, rfl, (gU_ne (gne hg82 hg80 (by decide))).trans hg82⟩)
      | 2, _, hm, hv => gl_at rfl (by obtain rfl : v = .ref q12 := Option.some.inj (hm.symm.trans m89); exact ⟨_, rfl, (gU_ne (gne hg83 hg80 (by decide))).trans hg83⟩)
      | 3, _, hm, hv => gl_at rfl (by obtain rfl : v = .ref q22 := Option.some.inj (hm.symm.trans m90); exact ⟨_, rfl, (gU_ne (gne hg84 hg80 (by decide))).trans hg84⟩)
      | 4, _, hm, hv => gl_at rfl (by obtain rfl : v = .ref q35 := Option.some.inj (hm.symm.trans m91); exact ⟨_, rfl, (gU_ne (gne hg85 hg80 (by decide))).trans hg85⟩)
      | 5, _, hm, hv => gl_at rfl (by obtain rfl : v = .ref q61 := Option.some.inj (hm.symm.trans m86); exact ⟨_, rfl, (gU_ne (gne hg74 hg80 (by decide))).trans hg74⟩)
      | 6, _, hm, hv => gl_at rfl (hv _ rfl)
      | k + 7, hk, _, _ => absurd hk (by omega)))
  have hY := hY.grow
  exact W.vret hx hb hr (fun t ht hW => ⟨⟨_, rfl, trivial, by (try dsimp only); rw [ht]; exact ⟨hT, gU_at, hY⟩⟩, hS.F ht⟩) hS.2.2 dX8_init_58
def w_n_I9 : List Cond := .code yX9_init cX9_init 1 none :: (HAppend.hAppend (α := List Cond) (β := List Cond) (γ := List Cond) [.methodLink RX9 3 objectInit, .instanceMethod objectInit, .code objectInit ⟨#[0xb1]⟩ 1 none, .arrayClass .int, .fieldLink RX9 9 "SeaLand$Tellings" "hours" "[I", .fieldLink RX9 15 "SeaLand$Tellings" "numbers" "[I"] bs2)
set_option maxHeartbeats 4000000 in
set_option maxRecDepth 100000 in
theorem n_I9 (l : Launch) (dC : Nat → ClassId) (dI : Nat → Nat → Nat) (kA : Nat → ClassId) (adK adV : Nat → Nat) (G : gT) (H0 : Heap) (nC nS : Int) (o0 : Nat) (hT : gH (dC, dI) kA (SHc nC nS) G H0) (hr_o0 : G o0 = some 122) (hgC : 0 ≤ nC ∧ nC ≤ 40) (hgS : 0 ≤ nS ∧ nS ≤ 60) : Met l yX9_init w_n_I9 ({ frames := 1, cells := 2, slots := 120, locals := 30 }) (va_Pc [.ref o0] (fun U => U.heap = H0 ∧ va_K (dC, dI) vwCl (tyl kA) U ∧ EVC adK adV (gA G H0.size) U U.heap ∧ AO U)) (va_Qv (fun (u : gT) => True) (fun (G1 : gT) (t : State) => gH (dC, dI) kA (SHc nC nS) G1 t.heap ∧ G1 o0 = some 92 ∧ gY ([75, 76] : List Nat) 92 o0 G G1 H0 t.heap) (gA G H0.size)) 2 120 (gA G H0.size) := by
  refine Met.ofW (cc := cX9_init) (maxL := 1) (ret := none) (by decide) rfl ?_
  intro p e s m args below meth c s₁ B hml hv
  obtain ⟨rfl, hH0, hK, hE, hAO⟩ := hv
  have hx := B.exec
  have hb := B.bytes
  have hr := B.returns
  have hts := atoms_spec (ws := w_n_I9) B.pre
  have hown : s.vm.findClass RX9 = some m.cls := findClass_of_methodNamed B.named
  have hlocks := B.notSynchronized
  have hin : meth.name = "<init>" := (name_of_methodNamed B.named B.method).1
  subst hH0
  generalize hAe : gA G s.heap.size = A at hE ⊢
  have hA : ∀ q : Nat, s.heap.size ≤ q → A q := fun q h => by rw [← hAe]; exact Or.inr h
  have hG := gA_of hAe
  have hS : va_S A s.heap s.heap [] := va_S.rf
  have hl := lv_entry ([.ref o0]) (n := 1) (Nat.le_of_ble_eq_true rfl)
  rw [lg_entry_eq]
  generalize (lg_sl ([.ref o0]) ++ List.replicate (1 - (lg_sl ([.ref o0])).length) Slot.unset).toArray = ls at hl ⊢
  have hl : lv_has ls 1 [(0, .ref o0)] := hl
  have hG0 := hG
  have hY : gY ([75, 76] : List Nat) 92 o0 G G s.heap s.heap := gY.rf hT
  have hAo := hG _ _ hr_o0
  refine lv_aload_n hx hb dX9_init_0 rfl (lv_at hl 0 rfl) ?_
  refine W.objInit hx hb hown (ht_at2 hts 0 rfl) (ht_at2 hts 1 rfl) (ht_at2 hts 2 rfl) rfl (by rw [hml]; exact hl.1) rfl dX9_init_1 (Nat.le_of_ble_eq_true rfl) (Nat.le_of_ble_eq_true rfl) ?_
  refine W.eq (g2 := F0 m 4 ls []) rfl ?_
  refine lv_aload_n hx hb dX9_init_4 rfl (lv_at hl 0 rfl) ?_
  refine lv_bipush (v := 60) hx hb dX9_init_5 (by decide) ?_
  have hz9 := hS.1
  refine tw_newa (ty := .int) hx hb (ht_at2 hts 3 rfl) rfl hK mon_c hT hS hG hA (shc_75) rfl (fun _ _ _ => ⟨0, rfl, by decide, by decide⟩) (by decide) rfl (Nat.le_of_ble_eq_true rfl) (Nat.le_of_ble_eq_true rfl) (Nat.le_of_ble_eq_true rfl) dX9_init_7 (fun q1 G1 H hq9 eG hz1 hz2 hT hx9 hG hm9 hS => ?_)
  have hn_q1 : s.heap.size ≤ q1 := Nat.le_trans hz9 (Nat.le_of_eq hz2)
  have hY := hY.new hn_q1 eG hx9 (by decide)
  have hg2 := (hx9 _ _ hr_o0).1
  have hg3 : G1 q1 = some 75 := by rw [eG]; exact gU_at
  refine tw_putF (v := .ref q1) (ty := (.array .int)) hx hb hts bF2_X9 tyX9 tyX9_ok nmX9 hown hK hT hG hS hg2 shc_122 rfl 0 (by decide) (ht_at2 hts 4 rfl) (fun _ h9 => h9) rfl hin rfl (by decide +kernel) rfl rfl (gl_at rfl ⟨some _, rfl, fun _ h => by cases h; exact hg3⟩) dX9_init_9 (fun H locs hT oq m4 oj hS => ?_)
  have hY := hY.put oq
  refine lv_aload_n hx hb dX9_init_12 rfl (lv_at hl 0 rfl) ?_
  refine lv_bipush (v := 60) hx hb dX9_init_13 (by decide) ?_
  have hz9 := hS.1
  refine tw_newa (ty := .int) hx hb (ht_at2 hts 3 rfl) rfl hK mon_c hT hS hG hA (shc_76) rfl (fun _ _ _ => ⟨0, rfl, by decide, by decide⟩) (by decide) rfl (Nat.le_of_ble_eq_true rfl) (Nat.le_of_ble_eq_true rfl) (Nat.le_of_ble_eq_true rfl) dX9_init_15 (fun q5 G2 H hq9 eG hz1 hz2 hT hx9 hG hm9 hS => ?_)
  have hn_q5 : s.heap.size ≤ q5 := Nat.le_trans hz9 (Nat.le_of_eq hz2)
  have hY := hY.new hn_q5 eG hx9 (by decide)
  have m6 := (el_kept (hx9 _ _ hg2).2).trans m4
  have hg7 := (hx9 _ _ hg2).1
  have hg8 := (hx9 _ _ hg3).1
  have hg9 : G2 q5 = some 76 := by rw [eG]; exact gU_at
  refine tw_putF (v := .ref q5) (ty := (.array .int)) hx hb hts bF2_X9 tyX9 tyX9_ok nmX9 hown hK hT hG hS hg7 shc_122 rfl 1 (by decide) (ht_at2 hts 5 rfl) (fun _ h9 => h9) rfl hin rfl (by decide +kernel) rfl rfl (gl_at rfl ⟨some _, rfl, fun _ h => by cases h; exact hg9⟩) dX9_init_17 (fun H locs hT oq m10 oj hS => ?_)
  have hY := hY.put oq
  have m11 := (oj 0 (by decide) (by decide)).trans m6
  have hT := hT.grown (t := 92) mon_c hg7 (by decide) (by
    have h8 := hT _ _ hg7; rw [shc_122] at h8; rw [shc_92]
    refine gC.growT h8 (fun k v hk hm hv => match k, hk, hm, hv with
      | 0, _, hm, hv => gl_at rfl (by obtain rfl : v = .ref q1 := Option.some.inj (hm.symm.trans m11); exact ⟨_, rfl, (gU_ne (gne hg8 hg7 (by decide))).trans hg8⟩)
      | 1, _, hm, hv => gl_at rfl (by obtain rfl : v = .ref q5 := Option.some.inj (hm.symm.trans m10); exact ⟨_, rfl, (gU_ne (gne hg9 hg7 (by decide))).trans hg9⟩)
      | 2, _, hm, hv => gl_at rfl (hv _ rfl)
      | k + 3, hk, _, _ => absurd hk (by omega)))
  have hY := hY.grow
  exact W.vret hx hb hr (fun t ht hW => ⟨⟨_, rfl, trivial, by (try dsimp only); rw [ht]; exact ⟨hT, gU_at, hY⟩⟩, hS.F ht⟩) hS.2.2 dX9_init_20
def w_n_I10 : List Cond := .code yX10_init cX10_init 1 none :: (HAppend.hAppend (α := List Cond) (β := List Cond) (γ := List Cond) [.methodLink RX10 3 objectInit, .instanceMethod objectInit, .code objectInit ⟨#[0xb1]⟩ 1 none, .arrayClass .int, .fieldLink RX10 9 "SeaLand$Work" "thick" "[I", .fieldLink RX10 15 "SeaLand$Work" "clay" "[I"] bs2)
set_option maxHeartbeats 4000000 in
set_option maxRecDepth 100000 in
theorem n_I10 (l : Launch) (dC : Nat → ClassId) (dI : Nat → Nat → Nat) (kA : Nat → ClassId) (adK adV : Nat → Nat) (G : gT) (H0 : Heap) (nC nS : Int) (o0 : Nat) (hT : gH (dC, dI) kA (SHc nC nS) G H0) (hr_o0 : G o0 = some 124) (hgC : 0 ≤ nC ∧ nC ≤ 40) (hgS : 0 ≤ nS ∧ nS ≤ 60) : Met l yX10_init w_n_I10 ({ frames := 1, cells := 2, slots := 12, locals := 30 }) (va_Pc [.ref o0] (fun U => U.heap = H0 ∧ va_K (dC, dI) vwCl (tyl kA) U ∧ EVC adK adV (gA G H0.size) U U.heap ∧ AO U)) (va_Qv (fun (u : gT) => True) (fun (G1 : gT) (t : State) => gH (dC, dI) kA (SHc nC nS) G1 t.heap ∧ G1 o0 = some 94 ∧ gY ([88, 89] : List Nat) 94 o0 G G1 H0 t.heap) (gA G H0.size)) 2 12 (gA G H0.size) := by
  refine Met.ofW (cc := cX10_init) (maxL := 1) (ret := none) (by decide) rfl ?_
  intro p e s m args below meth c s₁ B hml hv
  obtain ⟨rfl, hH0, hK, hE, hAO⟩ := hv
  have hx := B.exec
  have hb := B.bytes
  have hr := B.returns
  have hts := atoms_spec (ws := w_n_I10) B.pre
  have hown : s.vm.findClass RX10 = some m.cls := findClass_of_methodNamed B.named
  have hlocks := B.notSynchronized
  have hin : meth.name = "<init>" := (name_of_methodNamed B.named B.method).1
  subst hH0
  generalize hAe : gA G s.heap.size = A at hE ⊢
  have hA : ∀ q : Nat, s.heap.size ≤ q → A q := fun q h => by rw [← hAe]; exact Or.inr h
  have hG := gA_of hAe
  have hS : va_S A s.heap s.heap [] := va_S.rf
  have hl := lv_entry ([.ref o0]) (n := 1) (Nat.le_of_ble_eq_true rfl)
  rw [lg_entry_eq]
  generalize (lg_sl ([.ref o0]) ++ List.replicate (1 - (lg_sl ([.ref o0])).length) Slot.unset).toArray = ls at hl ⊢
  have hl : lv_has ls 1 [(0, .ref o0)] := hl
  have hG0 := hG
  have hY : gY ([88, 89] : List Nat) 94 o0 G G s.heap s.heap := gY.rf hT
  have hAo := hG _ _ hr_o0
  refine lv_aload_n hx hb dX10_init_0 rfl (lv_at hl 0 rfl) ?_
  refine W.objInit hx hb hown (ht_at2 hts 0 rfl) (ht_at2 hts 1 rfl) (ht_at2 hts 2 rfl) rfl (by rw [hml]; exact hl.1) rfl dX10_init_1 (Nat.le_of_ble_eq_true rfl) (Nat.le_of_ble_eq_true rfl) ?_
  refine W.eq (g2 := F0 m 4 ls []) rfl ?_
  refine lv_aload_n hx hb dX10_init_4 rfl (lv_at hl 0 rfl) ?_
  refine lv_bipush (v := 6) hx hb dX10_init_5 (by decide) ?_
  have hz9 := hS.1
  refine tw_newa (ty := .int) hx hb (ht_at2 hts 3 rfl) rfl hK mon_c hT hS hG hA (shc_88) rfl (fun _ _ _ => ⟨0, rfl, by decide, by decide⟩) (by decide) rfl (Nat.le_of_ble_eq_true rfl) (Nat.le_of_ble_eq_true rfl) (Nat.le_of_ble_eq_true rfl) dX10_init_7 (fun q1 G1 H hq9 eG hz1 hz2 hT hx9 hG hm9 hS => ?_)
  have hn_q1 : s.heap.size ≤ q1 := Nat.le_trans hz9 (Nat.le_of_eq hz2)
  have hY := hY.new hn_q1 eG hx9 (by decide)
  have hg2 := (hx9 _ _ hr_o0).1
  have hg3 : G1 q1 = some 88 := by rw [eG]; exact gU_at
  refine tw_putF (v := .ref q1) (ty := (.array .int)) hx hb hts bF2_X10 tyX10 tyX10_ok nmX10 hown hK hT hG hS hg2 shc_124 rfl 0 (by decide) (ht_at2 hts 4 rfl) (fun _ h9 => h9) rfl hin rfl (by decide +kernel) rfl rfl (gl_at rfl ⟨some _, rfl, fun _ h => by cases h; exact hg3⟩) dX10_init_9 (fun H locs hT oq m4 oj hS => ?_)
  have hY := hY.put oq
  refine lv_aload_n hx hb dX10_init_12 rfl (lv_at hl 0 rfl) ?_
  refine lv_bipush (v := 6) hx hb dX10_init_13 (by decide) ?_
  have hz9 := hS.1
  refine tw_newa (ty := .int) hx hb (ht_at2 hts 3 rfl) rfl hK mon_c hT hS hG hA (shc_89) rfl (fun _ _ _ => ⟨0, rfl, by decide, by decide⟩) (by decide) rfl (Nat.le_of_ble_eq_true rfl) (Nat.le_of_ble_eq_true rfl) (Nat.le_of_ble_eq_true rfl) dX10_init_15 (fun q5 G2 H hq9 eG hz1 hz2 hT hx9 hG hm9 hS => ?_)
  have hn_q5 : s.heap.size ≤ q5 := Nat.le_trans hz9 (Nat.le_of_eq hz2)
  have hY := hY.new hn_q5 eG hx9 (by decide)
  have m6 := (el_kept (hx9 _ _ hg2).2).trans m4
  have hg7 := (hx9 _ _ hg2).1
  have hg8 := (hx9 _ _ hg3).1
  have hg9 : G2 q5 = some 89 := by rw [eG]; exact gU_at
  refine tw_putF (v := .ref q5) (ty := (.array .int)) hx hb hts bF2_X10 tyX10 tyX10_ok nmX10 hown hK hT hG hS hg7 shc_124 rfl 1 (by decide) (ht_at2 hts 5 rfl) (fun _ h9 => h9) rfl hin rfl (by decide +kernel) rfl rfl (gl_at rfl ⟨some _, rfl, fun _ h => by cases h; exact hg9⟩) dX10_init_17 (fun H locs hT oq m10 oj hS => ?_)
  have hY := hY.put oq
  have m11 := (oj 0 (by decide) (by decide)).trans m6
  have hT := hT.grown (t := 94) mon_c hg7 (by decide) (by
    have h8 := hT _ _ hg7; rw [shc_124] at h8; rw [shc_94]
    refine gC.growT h8 (fun k v hk hm hv => match k, hk, hm, hv with
      | 0, _, hm, hv => gl_at rfl (by obtain rfl : v = .ref q1 := Option.some.inj (hm.symm.trans m11); exact ⟨_, rfl, (gU_ne (gne hg8 hg7 (by decide))).trans hg8⟩)
      | 1, _, hm, hv => gl_at rfl (by obtain rfl : v = .ref q5 := Option.some.inj (hm.symm.trans m10); exact ⟨_, rfl, (gU_ne (gne hg9 hg7 (by decide))).trans hg9⟩)
      | 2, _, hm, hv => gl_at rfl (hv _ rfl)
      | 3, _, hm, hv => gl_at rfl (hv _ rfl)
      | 4, _, hm, hv => gl_at rfl (hv _ rfl)
      | 5, _, hm, hv => gl_at rfl (hv _ rfl)
      | 6, _, hm, hv => gl_at rfl (hv _ rfl)
      | 7, _, hm, hv => gl_at rfl (hv _ rfl)
      | 8, _, hm, hv => gl_at rfl (hv _ rfl)
      | 9, _, hm, hv => gl_at rfl (hv _ rfl)
      | 10, _, hm, hv => gl_at rfl (hv _ rfl)
      | 11, _, hm, hv => gl_at rfl (hv _ rfl)
      | k + 12, hk, _, _ => absurd hk (by omega)))
  have hY := hY.grow
  exact W.vret hx hb hr (fun t ht hW => ⟨⟨_, rfl, trivial, by (try dsimp only); rw [ht]; exact ⟨hT, gU_at, hY⟩⟩, hS.F ht⟩) hS.2.2 dX10_init_20
def w_n_I2 : List Cond := .code yX2_init cX2_init 1 none :: (HAppend.hAppend (α := List Cond) (β := List Cond) (γ := List Cond) [.methodLink RX2 3 objectInit, .instanceMethod objectInit, .code objectInit ⟨#[0xb1]⟩ 1 none, .arrayClass .boolean, .fieldLink RX2 9 "SeaLand$Ground" "isLand" "[Z", .arrayClass .int, .fieldLink RX2 15 "SeaLand$Ground" "height" "[I", .fieldLink RX2 19 "SeaLand$Ground" "soil" "[I", .fieldLink RX2 22 "SeaLand$Ground" "ditch" "[I", .fieldLink RX2 25 "SeaLand$Ground" "water" "[I", .fieldLink RX2 28 "SeaLand$Ground" "salt" "[I", .fieldLink RX2 31 "SeaLand$Ground" "dry" "[I", .fieldLink RX2 34 "SeaLand$Ground" "wet" "[I", .fieldLink RX2 37 "SeaLand$Ground" "ditchTo" "[I", .fieldLink RX2 40 "SeaLand$Ground" "ditchWater" "[I", .fieldLink RX2 43 "SeaLand$Ground" "ditchSalt" "[I"] bs2)
set_option maxHeartbeats 4000000 in
set_option maxRecDepth 100000 in
theorem n_I2 (l : Launch) (dC : Nat → ClassId) (dI : Nat → Nat → Nat) (kA : Nat → ClassId) (adK adV : Nat → Nat) (G : gT) (H0 : Heap) (nC nS : Int) (o0 : Nat) (hT : gH (dC, dI) kA (SHc nC nS) G H0) (hr_o0 : G o0 = some 123) (hgC : 0 ≤ nC ∧ nC ≤ 40) (hgS : 0 ≤ nS ∧ nS ≤ 60) : Met l yX2_init w_n_I2 ({ frames := 1, cells := 11, slots := 1056, locals := 30 }) (va_Pc [.ref o0] (fun U => U.heap = H0 ∧ va_K (dC, dI) vwCl (tyl kA) U ∧ EVC adK adV (gA G H0.size) U U.heap ∧ AO U)) (va_Qv (fun (u : gT) => True) (fun (G1 : gT) (t : State) => gH (dC, dI) kA (SHc nC nS) G1 t.heap ∧ G1 o0 = some 93 ∧ gY ([77, 78, 79, 80, 81, 82, 83, 84, 85, 86, 87] : List Nat) 93 o0 G G1 H0 t.heap) (gA G H0.size)) 11 1056 (gA G H0.size) := by
  refine Met.ofW (cc := cX2_init) (maxL := 1) (ret := none) (by decide) rfl ?_
  intro p e s m args below meth c s₁ B hml hv
  obtain ⟨rfl, hH0, hK, hE, hAO⟩ := hv
  have hx := B.exec
  have hb := B.bytes
  have hr := B.returns
  have hts := atoms_spec (ws := w_n_I2) B.pre
  have hown : s.vm.findClass RX2 = some m.cls := findClass_of_methodNamed B.named
  have hlocks := B.notSynchronized
  have hin : meth.name = "<init>" := (name_of_methodNamed B.named B.method).1
  subst hH0
  generalize hAe : gA G s.heap.size = A at hE ⊢
  have hA : ∀ q : Nat, s.heap.size ≤ q → A q := fun q h => by rw [← hAe]; exact Or.inr h
  have hG := gA_of hAe
  have hS : va_S A s.heap s.heap [] := va_S.rf
  have hl := lv_entry ([.ref o0]) (n := 1) (Nat.le_of_ble_eq_true rfl)
  rw [lg_entry_eq]
  generalize (lg_sl ([.ref o0]) ++ List.replicate (1 - (lg_sl ([.ref o0])).length) Slot.unset).toArray = ls at hl ⊢
  have hl : lv_has ls 1 [(0, .ref o0)] := hl
  have hG0 := hG
  have hY : gY ([77, 78, 79, 80, 81, 82, 83, 84, 85, 86, 87] : List Nat) 93 o0 G G s.heap s.heap := gY.rf hT
  have hAo := hG _ _ hr_o0
  refine lv_aload_n hx hb dX2_init_0 rfl (lv_at hl 0 rfl) ?_
  refine W.objInit hx hb hown (ht_at2 hts 0 rfl) (ht_at2 hts 1 rfl) (ht_at2 hts 2 rfl) rfl (by rw [hml]; exact hl.1) rfl dX2_init_1 (Nat.le_of_ble_eq_true rfl) (Nat.le_of_ble_eq_true rfl) ?_
  refine W.eq (g2 := F0 m 4 ls []) rfl ?_
  refine lv_aload_n hx hb dX2_init_4 rfl (lv_at hl 0 rfl) ?_
  refine lv_bipush (v := 96) hx hb dX2_init_5 (by decide) ?_
  have hz9 := hS.1
  refine tw_newa (ty := .boolean) hx hb (ht_at2 hts 3 rfl) rfl hK mon_c hT hS hG hA (shc_77) rfl (fun _ _ _ => ⟨0, rfl, by decide, by decide⟩) (by decide) rfl (Nat.le_of_ble_eq_true rfl) (Nat.le_of_ble_eq_true rfl) (Nat.le_of_ble_eq_true rfl) dX2_init_7 (fun q1 G1 H hq9 eG hz1 hz2 hT hx9 hG hm9 hS => ?_)
  have hn_q1 : s.heap.size ≤ q1 := Nat.le_trans hz9 (Nat.le_of_eq hz2)
  have hY := hY.new hn_q1 eG hx9 (by decide)
  have hg2 := (hx9 _ _ hr_o0).1
  have hg3 : G1 q1 = some 77 := by rw [eG]; exact gU_at
  refine tw_putF (v := .ref q1) (ty := (.array .boolean)) hx hb hts bF2_X2 tyX2 tyX2_ok nmX2 hown hK hT hG hS hg2 shc_123 rfl 0 (by decide) (ht_at2 hts 4 rfl) (fun _ h9 => h9) rfl hin rfl (by decide +kernel) rfl rfl (gl_at rfl ⟨some _, rfl, fun _ h => by cases h; exact hg3⟩) dX2_init_9 (fun H locs hT oq m4 oj hS => ?_)
  have hY := hY.put oq
  refine lv_aload_n hx hb dX2_init_12 rfl (lv_at hl 0 rfl) ?_
  refine lv_bipush (v := 96) hx hb dX2_init_13 (by decide) ?_
  have hz9 := hS.1
  refine tw_newa (ty := .int) hx hb (ht_at2 hts 5 rfl) rfl hK mon_c hT hS hG hA (shc_78) rfl (fun _ _ _ => ⟨0, rfl, by decide, by decide⟩) (by decide) rfl (Nat.le_of_ble_eq_true rfl) (Nat.le_of_ble_eq_true rfl) (Nat.le_of_ble_eq_true rfl) dX2_init_15 (fun q5 G2 H hq9 eG hz1 hz2 hT hx9 hG hm9 hS => ?_)
  have hn_q5 : s.heap.size ≤ q5 := Nat.le_trans hz9 (Nat.le_of_eq hz2)
  have hY := hY.new hn_q5 eG hx9 (by decide)
  have m6 := (el_kept (hx9 _ _ hg2).2).trans m4
  have hg7 := (hx9 _ _ hg2).1
  have hg8 := (hx9 _ _ hg3).1
  have hg9 : G2 q5 = some 78 := by rw [eG]; exact gU_at
  refine tw_putF (v := .ref q5) (ty := (.array .int)) hx hb hts bF2_X2 tyX2 tyX2_ok nmX2 hown hK hT hG hS hg7 shc_123 rfl 1 (by decide) (ht_at2 hts 6 rfl) (fun _ h9 => h9) rfl hin rfl (by decide +kernel) rfl rfl (gl_at rfl ⟨some _, rfl, fun _ h => by cases h; exact hg9⟩) dX2_init_17 (fun H locs hT oq m10 oj hS => ?_)
  have hY := hY.put oq
  have m11 := (oj 0 (by decide) (by decide)).trans m6
  refine lv_aload_n hx hb dX2_init_20 rfl (lv_at hl 0 rfl) ?_
  refine lv_bipush (v := 96) hx hb dX2_init_21 (by decide) ?_
  have hz9 := hS.1
  refine tw_newa (ty := .int) hx hb (ht_at2 hts 5 rfl) rfl hK mon_c hT hS hG hA (shc_79) rfl (fun _ _ _ => ⟨0, rfl, by decide, by decide⟩) (by decide) rfl (Nat.le_of_ble_eq_true rfl) (Nat.le_of_ble_eq_true rfl) (Nat.le_of_ble_eq_true rfl) dX2_init_23 (fun q12 G3 H hq9 eG hz1 hz2 hT hx9 hG hm9 hS => ?_)
  have hn_q12 : s.heap.size ≤ q12 := Nat.le_trans hz9 (Nat.le_of_eq hz2)
  have hY := hY.new hn_q12 eG hx9 (by decide)
  have m13 := (el_kept (hx9 _ _ hg7).2).trans m11
  have m14 := (el_kept (hx9 _ _ hg7).2).trans m10
  have hg15 := (hx9 _ _ hg7).1
  have hg16 := (hx9 _ _ hg8).1
  have hg17 := (hx9 _ _ hg9).1
  have hg18 : G3 q12 = some 79 := by rw [eG]; exact gU_at
  refine tw_putF (v := .ref q12) (ty := (.array .int)) hx hb hts bF2_X2 tyX2 tyX2_ok nmX2 hown hK hT hG hS hg15 shc_123 rfl 2 (by decide) (ht_at2 hts 7 rfl) (fun _ h9 => h9) rfl hin rfl (by decide +kernel) rfl rfl (gl_at rfl ⟨some _, rfl, fun _ h => by cases h; exact hg18⟩) dX2_init_25 (fun H locs hT oq m19 oj hS => ?_)
  have hY := hY.put oq
  have m20 := (oj 0 (by decide) (by decide)).trans m13
  have m21 := (oj 1 (by decide) (by decide)).trans m14
  refine lv_aload_n hx hb dX2_init_28 rfl (lv_at hl 0 rfl) ?_
  refine lv_bipush (v := 96) hx hb dX2_init_29 (by decide) ?_
  have hz9 := hS.1
  refine tw_newa (ty := .int) hx hb (ht_at2 hts 5 rfl) rfl hK mon_c hT hS hG hA (shc_80) rfl (fun _ _ _ => ⟨0, rfl, by decide, by decide⟩) (by decide) rfl (Nat.le_of_ble_eq_true rfl) (Nat.le_of_ble_eq_true rfl) (Nat.le_of_ble_eq_true rfl) dX2_init_31 (fun q22 G4 H hq9 eG hz1 hz2 hT hx9 hG hm9 hS => ?_)
  have hn_q22 : s.heap.size ≤ q22 := Nat.le_trans hz9 (Nat.le_of_eq hz2)
  have hY := hY.new hn_q22 eG hx9 (by decide)
  have m23 := (el_kept (hx9 _ _ hg15).2).trans m20
  have m24 := (el_kept (hx9 _ _ hg15).2).trans m21
  have m25 := (el_kept (hx9 _ _ hg15).2).trans m19
  have hg26 := (hx9 _ _ hg15).1
  have hg27 := (hx9 _ _ hg16).1
  have hg28 := (hx9 _ _ hg17).1
  have hg29 := (hx9 _ _ hg18).1
  have hg30 : G4 q22 = some 80 := by rw [eG]; exact gU_at
  refine tw_putF (v := .ref q22) (ty := (.array .int)) hx hb hts bF2_X2 tyX2 tyX2_ok nmX2 hown hK hT hG hS hg26 shc_123 rfl 3 (by decide) (ht_at2 hts 8 rfl) (fun _ h9 => h9) rfl hin rfl (by decide +kernel) rfl rfl (gl_at rfl ⟨some _, rfl, fun _ h => by cases h; exact hg30⟩) dX2_init_33 (fun H locs hT oq m31 oj hS => ?_)
  have hY := hY.put oq
  have m32 := (oj 0 (by decide) (by decide)).trans m23
  have m33 := (oj 1 (by decide) (by decide)).trans m24
  have m34 := (oj 2 (by decide) (by decide)).trans m25
  refine lv_aload_n hx hb dX2_init_36 rfl (lv_at hl 0 rfl) ?_
  refine lv_bipush (v := 96) hx hb dX2_init_37 (by decide) ?_
  have hz9 := hS.1
  refine tw_newa (ty := .int) hx hb (ht_at2 hts 5 rfl) rfl hK mon_c hT hS hG hA (shc_81) rfl (fun _ _ _ => ⟨0, rfl, by decide, by decide⟩) (by decide) rfl (Nat.le_of_ble_eq_true rfl) (Nat.le_of_ble_eq_true rfl) (Nat.le_of_ble_eq_true rfl) dX2_init_39 (fun q35 G5 H hq9 eG hz1 hz2 hT hx9 hG hm9 hS => ?_)
  have hn_q35 : s.heap.size ≤ q35 := Nat.le_trans hz9 (Nat.le_of_eq hz2)
  have hY := hY.new hn_q35 eG hx9 (by decide)
  have m36 := (el_kept (hx9 _ _ hg26).2).trans m32
  have m37 := (el_kept (hx9 _ _ hg26).2).trans m33
  have m38 := (el_kept (hx9 _ _ hg26).2).trans m34
  have m39 := (el_kept (hx9 _ _ hg26).2).trans m31
  have hg40 := (hx9 _ _ hg26).1
  have hg41 := (hx9 _ _ hg27).1
  have hg42 := (hx9 _ _ hg28).1
  have hg43 := (hx9 _ _ hg29).1
  have hg44 := (hx9 _ _ hg30).1
  have hg45 : G5 q35 = some 81 := by rw [eG]; exact gU_at
  refine tw_putF (v := .ref q35) (ty := (.array .int)) hx hb hts bF2_X2 tyX2 tyX2_ok nmX2 hown hK hT hG hS hg40 shc_123 rfl 4 (by decide) (ht_at2 hts 9 rfl) (fun _ h9 => h9) rfl hin rfl (by decide +kernel) rfl rfl (gl_at rfl ⟨some _, rfl, fun _ h => by cases h; exact hg45⟩) dX2_init_41 (fun H locs hT oq m46 oj hS => ?_)
  have hY := hY.put oq
  have m47 := (oj 0 (by decide) (by decide)).trans m36
  have m48 := (oj 1 (by decide) (by decide)).trans m37
  have m49 := (oj 2 (by decide) (by decide)).trans m38
  have m50 := (oj 3 (by decide) (by decide)).trans m39
  refine lv_aload_n hx hb dX2_init_44 rfl (lv_at hl 0 rfl) ?_
  refine lv_bipush (v := 96) hx hb dX2_init_45 (by decide) ?_
  have hz9 := hS.1
  refine tw_newa (ty := .int) hx hb (ht_at2 hts 5 rfl) rfl hK mon_c hT hS hG hA (shc_82) rfl (fun _ _ _ => ⟨0, rfl, by decide, by decide⟩) (by decide) rfl (Nat.le_of_ble_eq_true rfl) (Nat.le_of_ble_eq_true rfl) (Nat.le_of_ble_eq_true rfl) dX2_init_47 (fun q51 G6 H hq9 eG hz1 hz2 hT hx9 hG hm9 hS => ?_)
  have hn_q51 : s.heap.size ≤ q51 := Nat.le_trans hz9 (Nat.le_of_eq hz2)
  have hY := hY.new hn_q51 eG hx9 (by decide)
  have m52 := (el_kept (hx9 _ _ hg40).2).trans m47
  have m53 := (el_kept (hx9 _ _ hg40).2).trans m48
  have m54 := (el_kept (hx9 _ _ hg40).2).trans m49
  have m55 := (el_kept (hx9 _ _ hg40).2).trans m50
  have m56 := (el_kept (hx9 _ _ hg40).2).trans m46
  have hg57 := (hx9 _ _ hg40).1
  have hg58 := (hx9 _ _ hg41).1
  have hg59 := (hx9 _ _ hg42).1
  have hg60 := (hx9 _ _ hg43).1
  have hg61 := (hx9 _ _ hg44).1
  have hg62 := (hx9 _ _ hg45).1
  have hg63 : G6 q51 = some 82 := by rw [eG]; exact gU_at
  refine tw_putF (v := .ref q51) (ty := (.array .int)) hx hb hts bF2_X2 tyX2 tyX2_ok nmX2 hown hK hT hG hS hg57 shc_123 rfl 5 (by decide) (ht_at2 hts 10 rfl) (fun _ h9 => h9) rfl hin rfl (by decide +kernel) rfl rfl (gl_at rfl ⟨some _, rfl, fun _ h => by cases h; exact hg63⟩) dX2_init_49 (fun H locs hT oq m64 oj hS => ?_)
  have hY := hY.put oq
  have m65 := (oj 0 (by decide) (by decide)).trans m52
  have m66 := (oj 1 (by decide) (by decide)).trans m53
  have m67 := (oj 2 (by decide) (by decide)).trans m54
  have m68 := (oj 3 (by decide) (by decide)).trans m55
  have m69 := (oj 4 (by decide) (by decide)).trans m56
  refine lv_aload_n hx hb dX2_init_52 rfl (lv_at hl 0 rfl) ?_
  refine lv_bipush (v := 96) hx hb dX2_init_53 (by decide) ?_
  have hz9 := hS.1
  refine tw_newa (ty := .int) hx hb (ht_at2 hts 5 rfl) rfl hK mon_c hT hS hG hA (shc_83) rfl (fun _ _ _ => ⟨0, rfl, by decide, by decide⟩) (by decide) rfl (Nat.le_of_ble_eq_true rfl) (Nat.le_of_ble_eq_true rfl) (Nat.le_of_ble_eq_true rfl) dX2_init_55 (fun q70 G7 H hq9 eG hz1 hz2 hT hx9 hG hm9 hS => ?_)
  have hn_q70 : s.heap.size ≤ q70 := Nat.le_trans hz9 (Nat.le_of_eq hz2)
  have hY := hY.new hn_q70 eG hx9 (by decide)
  have m71 := (el_kept (hx9 _ _ hg57).2).trans m65
  have m72 := (el_kept (hx9 _ _ hg57).2).trans m66
  have m73 := (el_kept (hx9 _ _ hg57).2).trans m67
  have m74 := (el_kept (hx9 _ _ hg57).2).trans m68
  have m75 := (el_kept (hx9 _ _ hg57).2).trans m69
  have m76 := (el_kept (hx9 _ _ hg57).2).trans m64
  have hg77 := (hx9 _ _ hg57).1
  have hg78 := (hx9 _ _ hg58).1
  have hg79 := (hx9 _ _ hg59).1
  have hg80 := (hx9 _ _ hg60).1
  have hg81 := (hx9 _ _ hg61).1
  have hg82 := (hx9 _ _ hg62).1
  have hg83 := (hx9 _ _ hg63).1
  have hg84 : G7 q70 = some 83 := by rw [eG]; exact gU_at
  refine tw_putF (v := .ref q70) (ty := (.array .int)) hx hb hts bF2_X2 tyX2 tyX2_ok nmX2 hown hK hT hG hS hg77 shc_123 rfl 6 (by decide) (ht_at2 hts 11 rfl) (fun _ h9 => h9) rfl hin rfl (by decide +kernel) rfl rfl (gl_at rfl ⟨some _, rfl, fun _ h => by cases h; exact hg84⟩) dX2_init_57 (fun H locs hT oq m85 oj hS => ?_)
  have hY := hY.put oq
  have m86 := (oj 0 (by decide) (by decide)).trans m71
  have m87 := (oj 1 (by decide) (by decide)).trans m72
  have m88 := (oj 2 (by decide) (by decide)).trans m73
  have m89 := (oj 3 (by decide) (by decide)).trans m74
  have m90 := (oj 4 (by decide) (by decide)).trans m75
  have m91 := (oj 5 (by decide) (by decide)).trans m76
  refine lv_aload_n hx hb dX2_init_60 rfl (lv_at hl 0 rfl) ?_
  refine lv_bipush (v := 96) hx hb dX2_init_61 (by decide) ?_
  have hz9 := hS.1
  refine tw_newa (ty := .int) hx hb (ht_at2 hts 5 rfl) rfl hK mon_c hT hS hG hA (shc_84) rfl (fun _ _ _ => ⟨0, rfl, by decide, by decide⟩) (by decide) rfl (Nat.le_of_ble_eq_true rfl) (Nat.le_of_ble_eq_true rfl) (Nat.le_of_ble_eq_true rfl) dX2_init_63 (fun q92 G8 H hq9 eG hz1 hz2 hT hx9 hG hm9 hS => ?_)
  have hn_q92 : s.heap.size ≤ q92 := Nat.le_trans hz9 (Nat.le_of_eq hz2)
  have hY := hY.new hn_q92 eG hx9 (by decide)
  have m93 := (el_kept (hx9 _ _ hg77).2).trans m86
  have m94 := (el_kept (hx9 _ _ hg77).2).trans m87
  have m95 := (el_kept (hx9 _ _ hg77).2).trans m88
  have m96 := (el_kept (hx9 _ _ hg77).2).trans m89
  have m97 := (el_kept (hx9 _ _ hg77).2).trans m90
  have m98 := (el_kept (hx9 _ _ hg77).2).trans m91
  have m99 := (el_kept (hx9 _ _ hg77).2).trans m85
  have hg100 := (hx9 _ _ hg77).1
  have hg101 := (hx9 _ _ hg78).1
  have hg102 := (hx9 _ _ hg79).1
  have hg103 := (hx9 _ _ hg80).1
  have hg104 := (hx9 _ _ hg81).1
  have hg105 := (hx9 _ _ hg82).1
  have hg106 := (hx9 _ _ hg83).1
  have hg107 := (hx9 _ _ hg84).1
  have hg108 : G8 q92 = some 84 := by rw [eG]; exact gU_at
  refine tw_putF (v := .ref q92) (ty := (.array .int)) hx hb hts bF2_X2 tyX2 tyX2_ok nmX2 hown hK hT hG hS hg100 shc_123 rfl 7 (by decide) (ht_at2 hts 12 rfl) (fun _ h9 => h9) rfl hin rfl (by decide +kernel) rfl rfl (gl_at rfl ⟨some _, rfl, fun _ h => by cases h; exact hg108⟩) dX2_init_65 (fun H locs hT oq m109 oj hS => ?_)
  have hY := hY.put oq
  have m110 := (oj 0 (by decide) (by decide)).trans m93
  have m111 := (oj 1 (by decide) (by decide)).trans m94
  have m112 := (oj 2 (by decide) (by decide)).trans m95
  have m113 := (oj 3 (by decide) (by decide)).trans m96
  have m114 := (oj 4 (by decide) (by decide)).trans m97
  have m115 := (oj 5 (by decide) (by decide)).trans m98
  have m116 := (oj 6 (by decide) (by decide)).trans m99
  refine lv_aload_n hx hb dX2_init_68 rfl (lv_at hl 0 rfl) ?_
  refine lv_bipush (v := 96) hx hb dX2_init_69 (by decide) ?_
  have hz9 := hS.1
  refine tw_newa (ty := .int) hx hb (ht_at2 hts 5 rfl) rfl hK mon_c hT hS hG hA (shc_85) rfl (fun _ _ _ => ⟨0, rfl, by decide, by decide⟩) (by decide) rfl (Nat.le_of_ble_eq_true rfl) (Nat.le_of_ble_eq_true rfl) (Nat.le_of_ble_eq_true rfl) dX2_init_71 (fun q117 G9 H hq9 eG hz1 hz2 hT hx9 hG hm9 hS => ?_)
  have hn_q117 : s.heap.size ≤ q117 := Nat.le_trans hz9 (Nat.le_of_eq hz2)
  have hY := hY.new hn_q117 eG hx9 (by decide)
  have m118 := (el_kept (hx9 _ _ hg100).2).trans m110
  have m119 := (el_kept (hx9 _ _ hg100).2).trans m111
  have m120 := (el_kept (hx9 _ _ hg100).2).trans m112
  have m121 := (el_kept (hx9 _ _ hg100).2).trans m113
  have m122 := (el_kept (hx9 _ _ hg100).2).trans m114
  have m123 := (el_kept (hx9 _ _ hg100).2).trans m115
  have m124 := (el_kept (hx9 _ _ hg100).2).trans m116
  have m125 := (el_kept (hx9 _ _ hg100).2).trans m109
  have hg126 := (hx9 _ _ hg100).1
  have hg127 := (hx9 _ _ hg101).1
  have hg128 := (hx9 _ _ hg102).1
  have hg129 := (hx9 _ _ hg103).1
  have hg130 := (hx9 _ _ hg104).1
  have hg131 := (hx9 _ _ hg105).1
  have hg132 := (hx9 _ _ hg106).1
  have hg133 := (hx9 _ _ hg107).1
  have hg134 := (hx9 _ _ hg108).1
  have hg135 : G9 q117 = some 85 := by rw [eG]; exact gU_at
  refine tw_putF (v := .ref q117) (ty := (.array .int)) hx hb hts bF2_X2 tyX2 tyX2_ok nmX2 hown hK hT hG hS hg126 shc_123 rfl 8 (by decide) (ht_at2 hts 13 rfl) (fun _ h9 => h9) rfl hin rfl (by decide +kernel) rfl rfl (gl_at rfl ⟨some _, rfl, fun _ h => by cases h; exact hg135⟩) dX2_init_73 (fun H locs hT oq m136 oj hS => ?_)
  have hY := hY.put oq
  have m137 := (oj 0 (by decide) (by decide)).trans m118
  have m138 := (oj 1 (by decide) (by decide)).trans m119
  have m139 := (oj 2 (by decide) (by decide)).trans m120
  have m140 := (oj 3 (by decide) (by decide)).trans m121
  have m141 := (oj 4 (by decide) (by decide)).trans m122
  have m142 := (oj 5 (by decide) (by decide)).trans m123
  have m143 := (oj 6 (by decide) (by decide)).trans m124
  have m144 := (oj 7 (by decide) (by decide)).trans m125
  refine lv_aload_n hx hb dX2_init_76 rfl (lv_at hl 0 rfl) ?_
  refine lv_bipush (v := 96) hx hb dX2_init_77 (by decide) ?_
  have hz9 := hS.1
  refine tw_newa (ty := .int) hx hb (ht_at2 hts 5 rfl) rfl hK mon_c hT hS hG hA (shc_86) rfl (fun _ _ _ => ⟨0, rfl, by decide, by decide⟩) (by decide) rfl (Nat.le_of_ble_eq_true rfl) (Nat.le_of_ble_eq_true rfl) (Nat.le_of_ble_eq_true rfl) dX2_init_79 (fun q145 G10 H hq9 eG hz1 hz2 hT hx9 hG hm9 hS => ?_)
  have hn_q145 : s.heap.size ≤ q145 := Nat.le_trans hz9 (Nat.le_of_eq hz2)
  have hY := hY.new hn_q145 eG hx9 (by decide)
  have m146 := (el_kept (hx9 _ _ hg126).2).trans m137
  have m147 := (el_kept (hx9 _ _ hg126).2).trans m138
  have m148 := (el_kept (hx9 _ _ hg126).2).trans m139
  have m149 := (el_kept (hx9 _ _ hg126).2).trans m140
  have m150 := (el_kept (hx9 _ _ hg126).2).trans m141
  have m151 := (el_kept (hx9 _ _ hg126).2).trans m142
  have m152 := (el_kept (hx9 _ _ hg126).2).trans m143
  have m153 := (el_kept (hx9 _ _ hg126).2).trans m144
  have m154 := (el_kept (hx9 _ _ hg126).2).trans m136
  have hg155 := (hx9 _ _ hg126).1
  have hg156 := (hx9 _ _ hg127).1
  have hg157 := (hx9 _ _ hg128).1
  have hg158 := (hx9 _ _ hg129).1
  have hg159 := (hx9 _ _ hg130).1
  have hg160 := (hx9 _ _ hg131).1
  have hg161 := (hx9 _ _ hg132).1
  have hg162 := (hx9 _ _ hg133).1
  have hg163 := (hx9 _ _ hg134).1
  have hg164 := (hx9 _ _ hg135).1
  have hg165 : G10 q145 = some 86 := by rw [eG]; exact gU_at
  refine tw_putF (v := .ref q145) (ty := (.array .int)) hx hb hts bF2_X2 tyX2 tyX2_ok nmX2 hown hK hT hG hS hg155 shc_123 rfl 9 (by decide) (ht_at2 hts 14 rfl) (fun _ h9 => h9) rfl hin rfl (by decide +kernel) rfl rfl (gl_at rfl ⟨some _, rfl, fun _ h => by cases h; exact hg165⟩) dX2_init_81 (fun H locs hT oq m166 oj hS => ?_)
  have hY := hY.put oq
  have m167 := (oj 0 (by decide) (by decide)).trans m146
  have m168 := (oj 1 (by decide) (by decide)).trans m147
  have m169 := (oj 2 (by decide) (by decide)).trans m148
  have m170 := (oj 3 (by decide) (by decide)).trans m149
  have m171 := (oj 4 (by decide) (by decide)).trans m150
  have m172 := (oj 5 (by decide) (by decide)).trans m151
  have m173 := (oj 6 (by decide) (by decide)).trans m152
  have m174 := (oj 7 (by decide) (by decide)).trans m153
  have m175 := (oj 8 (by decide) (by decide)).trans m154
  refine lv_aload_n hx hb dX2_init_84 rfl (lv_at hl 0 rfl) ?_
  refine lv_bipush (v := 96) hx hb dX2_init_85 (by decide) ?_
  have hz9 := hS.1
  refine tw_newa (ty := .int) hx hb (ht_at2 hts 5 rfl) rfl hK mon_c hT hS hG hA (shc_87) rfl (fun _ _ _ => ⟨0, rfl, by decide, by decide⟩) (by decide) rfl (Nat.le_of_ble_eq_true rfl) (Nat.le_of_ble_eq_true rfl) (Nat.le_of_ble_eq_true rfl) dX2_init_87 (fun q176 G11 H hq9 eG hz1 hz2 hT hx9 hG hm9 hS => ?_)
  have hn_q176 : s.heap.size ≤ q176 := Nat.le_trans hz9 (Nat.le_of_eq hz2)
  have hY := hY.new hn_q176 eG hx9 (by decide)
  have m177 := (el_kept (hx9 _ _ hg155).2).trans m167
  have m178 := (el_kept (hx9 _ _ hg155).2).trans m168
  have m179 := (el_kept (hx9 _ _ hg155).2).trans m169
  have m180 := (el_kept (hx9 _ _ hg155).2).trans m170
  have m181 := (el_kept (hx9 _ _ hg155).2).trans m171
  have m182 := (el_kept (hx9 _ _ hg155).2).trans m172
  have m183 := (el_kept (hx9 _ _ hg155).2).trans m173
  have m184 := (el_kept (hx9 _ _ hg155).2).trans m174
  have m185 := (el_kept (hx9 _ _ hg155).2).trans m175
  have m186 := (el_kept (hx9 _ _ hg155).2).trans m166
  have hg187 := (hx9 _ _ hg155).1
  have hg188 := (hx9 _ _ hg156).1
  have hg189 := (hx9 _ _ hg157).1
  have hg190 := (hx9 _ _ hg158).1
  have hg191 := (hx9 _ _ hg159).1
  have hg192 := (hx9 _ _ hg160).1
  have hg193 := (hx9 _ _ hg161).1
  have hg194 := (hx9 _ _ hg162).1
  have hg195 := (hx9 _ _ hg163).1
  have hg196 := (hx9 _ _ hg164).1
  have hg197 := (hx9 _ _ hg165).1
  have hg198 : G11 q176 = some 87 := by rw [eG]; exact gU_at
  refine tw_putF (v := .ref q176) (ty := (.array .int)) hx hb hts bF2_X2 tyX2 tyX2_ok nmX2 hown hK hT hG hS hg187 shc_123 rfl 10 (by decide) (ht_at2 hts 15 rfl) (fun _ h9 => h9) rfl hin rfl (by decide +kernel) rfl rfl (gl_at rfl ⟨some _, rfl, fun _ h => by cases h; exact hg198⟩) dX2_init_89 (fun H locs hT oq m199 oj hS => ?_)
  have hY := hY.put oq
  have m200 := (oj 0 (by decide) (by decide)).trans m177
  have m201 := (oj 1 (by decide) (by decide)).trans m178
  have m202 := (oj 2 (by decide) (by decide)).trans m179
  have m203 := (oj 3 (by decide) (by decide)).trans m180
  have m204 := (oj 4 (by decide) (by decide)).trans m181
  have m205 := (oj 5 (by decide) (by decide)).trans m182
  have m206 := (oj 6 (by decide) (by decide)).trans m183
  have m207 := (oj 7 (by decide) (by decide)).trans m184
  have m208 := (oj 8 (by decide) (by decide)).trans m185
  have m209 := (oj 9 (by decide) (by decide)).trans m186
  have hT := hT.grown (t := 93) mon_c hg187 (by decide) (by
    have h8 := hT _ _ hg187; rw [shc_123] at h8; rw [shc_93]
    refine gC.growT h8 (fun k v hk hm hv => match k, hk, hm, hv with
      | 0, _, hm, hv => gl_at rfl (by obtain rfl : v = .ref q1 := Option.some.inj (hm.symm.trans m200); exact ⟨_, rfl, (gU_ne (gne hg188 hg187 (by decide))).trans hg188⟩)
      | 1, _, hm, hv => gl_at rfl (by obtain rfl : v = .ref q5 := Option.some.inj (hm.symm.trans m201); exact ⟨_, rfl, (gU_ne (gne hg189 hg187 (by decide))).trans hg189⟩)
      | 2, _, hm, hv => gl_at rfl (by obtain rfl : v = .ref q12 := Option.some.inj (hm.symm.trans m202); exact ⟨_, rfl, (gU_ne (gne hg190 hg187 (by decide))).trans hg190⟩)
      | 3, _, hm, hv => gl_at rfl (by obtain rfl : v = .ref q22 := Option.some.inj (hm.symm.trans m203); exact ⟨_, rfl, (gU_ne (gne hg191 hg187 (by decide))).trans hg191⟩)
      | 4, _, hm, hv => gl_at rfl (by obtain rfl : v = .ref q35 := Option.some.inj (hm.symm.trans m204); exact ⟨_, rfl, (gU_ne (gne hg192 hg187 (by decide))).trans hg192⟩)
      | 5, _, hm, hv => gl_at rfl (by obtain rfl : v = .ref q51 := Option.some.inj (hm.symm.trans m205); exact ⟨_, rfl, (gU_ne (gne hg193 hg187 (by decide))).trans hg193⟩)
      | 6, _, hm, hv => gl_at rfl (by obtain rfl : v = .ref q70 := Option.some.inj (hm.symm.trans m206); exact ⟨_, rfl, (gU_ne (gne hg194 hg187 (by decide))).trans hg194⟩)
      | 7, _, hm, hv => gl_at rfl (by obtain rfl : v = .ref q92 := Option.some.inj (hm.symm.trans m207); exact ⟨_, rfl, (gU_ne (gne hg195 hg187 (by decide))).trans hg195⟩)
      | 8, _, hm, hv => gl_at rfl (by obtain rfl : v = .ref q117 := Option.some.inj (hm.symm.trans m208); exact ⟨_, rfl, (gU_ne (gne hg196 hg187 (by decide))).trans hg196⟩)
      | 9, _, hm, hv => gl_at rfl (by obtain rfl : v = .ref q145 := Option.some.inj (hm.symm.trans m209); exact ⟨_, rfl, (gU_ne (gne hg197 hg187 (by decide))).trans hg197⟩)
      | 10, _, hm, hv => gl_at rfl (by obtain rfl : v = .ref q176 := Option.some.inj (hm.symm.trans m199); exact ⟨_, rfl, (gU_ne (gne hg198 hg187 (by decide))).trans hg198⟩)
      | 11, _, hm, hv => gl_at rfl (hv _ rfl)
      | 12, _, hm, hv => gl_at rfl (hv _ rfl)
      | 13, _, hm, hv => gl_at rfl (hv _ rfl)
      | 14, _, hm, hv => gl_at rfl (hv _ rfl)
      | k + 15, hk, _, _ => absurd hk (by omega)))
  have hY := hY.grow
  exact W.vret hx hb hr (fun t ht hW => ⟨⟨_, rfl, trivial, by (try dsimp only); rw [ht]; exact ⟨hT, gU_at, hY⟩⟩, hS.F ht⟩) hS.2.2 dX2_init_92
def w_n_I8 : List Cond := .code yX8_init cX8_init 1 none :: (HAppend.hAppend (α := List Cond) (β := List Cond) (γ := List Cond) [.methodLink RX8 3 objectInit, .instanceMethod objectInit, .code objectInit ⟨#[0xb1]⟩ 1 none, .arrayClass .int, .fieldLink RX8 9 "SeaLand$Sky" "tides" "[I", .fieldLink RX8 15 "SeaLand$Sky" "stormFrom" "[I", .fieldLink RX8 18 "SeaLand$Sky" "stormTo" "[I", .fieldLink RX8 21 "SeaLand$Sky" "stormMore" "[I", .classLink RX8 24 RX9, .instantiable RX9 3, .initialized RX9, .code yX9_init cX9_init 1 none, .methodLink RX9 3 objectInit, .fieldLink RX9 9 "SeaLand$Tellings" "hours" "[I", .fieldLink RX9 15 "SeaLand$Tellings" "numbers" "[I", .instanceMethod yX9_init, .fieldLink RX8 27 "SeaLand$Sky" "wind" "LSeaLand$Tellings;", .fieldLink RX8 31 "SeaLand$Sky" "rain" "LSeaLand$Tellings;"] bs2)
set_option maxHeartbeats 4000000 in
set_option maxRecDepth 100000 in
theorem n_I8 (l : Launch) (dC : Nat → ClassId) (dI : Nat → Nat → Nat) (kA : Nat → ClassId) (adK adV : Nat → Nat) (G : gT) (H0 : Heap) (nC nS : Int) (o0 : Nat) (hT : gH (dC, dI) kA (SHc nC nS) G H0) (hr_o0 : G o0 = some 121) (hgC : 0 ≤ nC ∧ nC ≤ 40) (hgS : 0 ≤ nS ∧ nS ≤ 60) : Met l yX8_init w_n_I8 ({ frames := 2, cells := 10, slots := 318, locals := 58 }) (va_Pc [.ref o0] (fun U => U.heap = H0 ∧ va_K (dC, dI) vwCl (tyl kA) U ∧ EVC adK adV (gA G H0.size) U U.heap ∧ AO U)) (va_Qv (fun (u : gT) => True) (fun (G1 : gT) (t : State) => gH (dC, dI) kA (SHc nC nS) G1 t.heap ∧ G1 o0 = some 91 ∧ gY ([71, 72, 73, 74, 75, 76, 92, 122] : List Nat) 91 o0 G G1 H0 t.heap) (gA G H0.size)) 10 318 (gA G H0.size) := by
  refine Met.ofW (cc := cX8_init) (maxL := 1) (ret := none) (by decide) rfl ?_
  intro p e s m args below meth c s₁ B hml hv
  obtain ⟨rfl, hH0, hK, hE, hAO⟩ := hv
  have hx := B.exec
  have hb := B.bytes
  have hr := B.returns
  have hts := atoms_spec (ws := w_n_I8) B.pre
  have hown : s.vm.findClass RX8 = some m.cls := findClass_of_methodNamed B.named
  have hlocks := B.notSynchronized
  have hin : meth.name = "<init>" := (name_of_methodNamed B.named B.method).1
  subst hH0
  generalize hAe : gA G s.heap.size = A at hE ⊢
  have hA : ∀ q : Nat, s.heap.size ≤ q → A q := fun q h => by rw [← hAe]; exact Or.inr h
  have hG := gA_of hAe
  have hS : va_S A s.heap s.heap [] := va_S.rf
  have hl := lv_entry ([.ref o0]) (n := 1) (Nat.le_of_ble_eq_true rfl)
  rw [lg_entry_eq]
  generalize (lg_sl ([.ref o0]) ++ List.replicate (1 - (lg_sl ([.ref o0])).length) Slot.unset).toArray = ls at hl ⊢
  have hl : lv_has ls 1 [(0, .ref o0)] := hl
  have hG0 := hG
  have hY : gY ([71, 72, 73, 74, 75, 76, 92, 122] : List Nat) 91 o0 G G s.heap s.heap := gY.rf hT
  have hAo := hG _ _ hr_o0
  refine lv_aload_n hx hb dX8_init_0 rfl (lv_at hl 0 rfl) ?_
  refine W.objInit hx hb hown (ht_at2 hts 0 rfl) (ht_at2 hts 1 rfl) (ht_at2 hts 2 rfl) rfl (by rw [hml]; exact hl.1) rfl dX8_init_1 (Nat.le_of_ble_eq_true rfl) (Nat.le_of_ble_eq_true rfl) ?_
  refine W.eq (g2 := F0 m 4 ls []) rfl ?_
  refine lv_aload_n hx hb dX8_init_4 rfl (lv_at hl 0 rfl) ?_
  refine lv_bipush (v := 12) hx hb dX8_init_5 (by decide) ?_
  have hz9 := hS.1
  refine tw_newa (ty := .int) hx hb (ht_at2 hts 3 rfl) rfl hK mon_c hT hS hG hA (shc_71) rfl (fun _ _ _ => ⟨0, rfl, by decide, by decide⟩) (by decide) rfl (Nat.le_of_ble_eq_true rfl) (Nat.le_of_ble_eq_true rfl) (Nat.le_of_ble_eq_true rfl) dX8_init_7 (fun q1 G1 H hq9 eG hz1 hz2 hT hx9 hG hm9 hS => ?_)
  have hn_q1 : s.heap.size ≤ q1 := Nat.le_trans hz9 (Nat.le_of_eq hz2)
  have hY := hY.new hn_q1 eG hx9 (by decide)
  have hg2 := (hx9 _ _ hr_o0).1
  have hg3 : G1 q1 = some 71 := by rw [eG]; exact gU_at
  refine tw_putF (v := .ref q1) (ty := (.array .int)) hx hb hts bF2_X8 tyX8 tyX8_ok nmX8 hown hK hT hG hS hg2 shc_121 rfl 0 (by decide) (ht_at2 hts 4 rfl) (fun _ h9 => h9) rfl hin rfl (by decide +kernel) rfl rfl (gl_at rfl ⟨some _, rfl, fun _ h => by cases h; exact hg3⟩) dX8_init_9 (fun H locs hT oq m4 oj hS => ?_)
  have hY := hY.put oq
  refine lv_aload_n hx hb dX8_init_12 rfl (lv_at hl 0 rfl) ?_
  refine lv_bipush (v := 20) hx hb dX8_init_13 (by decide) ?_
  have hz9 := hS.1
  refine tw_newa (ty := .int) hx hb (ht_at2 hts 3 rfl) rfl hK mon_c hT hS hG hA (shc_72) rfl (fun _ _ _ => ⟨0, rfl, by decide, by decide⟩) (by decide) rfl (Nat.le_of_ble_eq_true rfl) (Nat.le_of_ble_eq_true rfl) (Nat.le_of_ble_eq_true rfl) dX8_init_15 (fun q5 G2 H hq9 eG hz1 hz2 hT hx9 hG hm9 hS => ?_)
  have hn_q5 : s.heap.size ≤ q5 := Nat.le_trans hz9 (Nat.le_of_eq hz2)
  have hY := hY.new hn_q5 eG hx9 (by decide)
  have m6 := (el_kept (hx9 _ _ hg2).2).trans m4
  have hg7 := (hx9 _ _ hg2).1
  have hg8 := (hx9 _ _ hg3).1
  have hg9 : G2 q5 = some 72 := by rw [eG]; exact gU_at
  refine tw_putF (v := .ref q5) (ty := (.array .int)) hx hb hts bF2_X8 tyX8 tyX8_ok nmX8 hown hK hT hG hS hg7 shc_121 rfl 1 (by decide) (ht_at2 hts 5 rfl) (fun _ h9 => h9) rfl hin rfl (by decide +kernel) rfl rfl (gl_at rfl ⟨some _, rfl, fun _ h => by cases h; exact hg9⟩) dX8_init_17 (fun H locs hT oq m10 oj hS => ?_)
  have hY := hY.put oq
  have m11 := (oj 0 (by decide) (by decide)).trans m6
  refine lv_aload_n hx hb dX8_init_20 rfl (lv_at hl 0 rfl) ?_
  refine lv_bipush (v := 20) hx hb dX8_init_21 (by decide) ?_
  have hz9 := hS.1
  refine tw_newa (ty := .int) hx hb (ht_at2 hts 3 rfl) rfl hK mon_c hT hS hG hA (shc_73) rfl (fun _ _ _ => ⟨0, rfl, by decide, by decide⟩) (by decide) rfl (Nat.le_of_ble_eq_true rfl) (Nat.le_of_ble_eq_true rfl) (Nat.le_of_ble_eq_true rfl) dX8_init_23 (fun q12 G3 H hq9 eG hz1 hz2 hT hx9 hG hm9 hS => ?_)
  have hn_q12 : s.heap.size ≤ q12 := Nat.le_trans hz9 (Nat.le_of_eq hz2)
  have hY := hY.new hn_q12 eG hx9 (by decide)
  have m13 := (el_kept (hx9 _ _ hg7).2).trans m11
  have m14 := (el_kept (hx9 _ _ hg7).2).trans m10
  have hg15 := (hx9 _ _ hg7).1
  have hg16 := (hx9 _ _ hg8).1
  have hg17 := (hx9 _ _ hg9).1
  have hg18 : G3 q12 = some 73 := by rw [eG]; exact gU_at
  refine tw_putF (v := .ref q12) (ty := (.array .int)) hx hb hts bF2_X8 tyX8 tyX8_ok nmX8 hown hK hT hG hS hg15 shc_121 rfl 2 (by decide) (ht_at2 hts 6 rfl) (fun _ h9 => h9) rfl hin rfl (by decide +kernel) rfl rfl (gl_at rfl ⟨some _, rfl, fun _ h => by cases h; exact hg18⟩) dX8_init_25 (fun H locs hT oq m19 oj hS => ?_)
  have hY := hY.put oq
  have m20 := (oj 0 (by decide) (by decide)).trans m13
  have m21 := (oj 1 (by decide) (by decide)).trans m14
  refine lv_aload_n hx hb dX8_init_28 rfl (lv_at hl 0 rfl) ?_
  refine lv_bipush (v := 20) hx hb dX8_init_29 (by decide) ?_
  have hz9 := hS.1
  refine tw_newa (ty := .int) hx hb (ht_at2 hts 3 rfl) rfl hK mon_c hT hS hG hA (shc_74) rfl (fun _ _ _ => ⟨0, rfl, by decide, by decide⟩) (by decide) rfl (Nat.le_of_ble_eq_true rfl) (Nat.le_of_ble_eq_true rfl) (Nat.le_of_ble_eq_true rfl) dX8_init_31 (fun q22 G4 H hq9 eG hz1 hz2 hT hx9 hG hm9 hS => ?_)
  have hn_q22 : s.heap.size ≤ q22 := Nat.le_trans hz9 (Nat.le_of_eq hz2)
  have hY := hY.new hn_q22 eG hx9 (by decide)
  have m23 := (el_kept (hx9 _ _ hg15).2).trans m20
  have m24 := (el_kept (hx9 _ _ hg15).2).trans m21
  have m25 := (el_kept (hx9 _ _ hg15).2).trans m19
  have hg26 := (hx9 _ _ hg15).1
  have hg27 := (hx9 _ _ hg16).1
  have hg28 := (hx9 _ _ hg17).1
  have hg29 := (hx9 _ _ hg18).1
  have hg30 : G4 q22 = some 74 := by rw [eG]; exact gU_at
  refine tw_putF (v := .ref q22) (ty := (.array .int)) hx hb hts bF2_X8 tyX8 tyX8_ok nmX8 hown hK hT hG hS hg26 shc_121 rfl 3 (by decide) (ht_at2 hts 7 rfl) (fun _ h9 => h9) rfl hin rfl (by decide +kernel) rfl rfl (gl_at rfl ⟨some _, rfl, fun _ h => by cases h; exact hg30⟩) dX8_init_33 (fun H locs hT oq m31 oj hS => ?_)
  have hY := hY.put oq
  have m32 := (oj 0 (by decide) (by decide)).trans m23
  have m33 := (oj 1 (by decide) (by decide)).trans m24
  have m34 := (oj 2 (by decide) (by decide)).trans m25
  refine lv_aload_n hx hb dX8_init_36 rfl (lv_at hl 0 rfl) ?_
  have hz9 := hS.1
  refine tw_new hx hb hts bF2_X9 tyX9 tyX9_ok hown (ht_at2 hts 8 rfl) (ht_at2 hts 9 rfl) (ht_at2 hts 10 rfl) hK mon_c hT hS hG hA (shc_122) rfl nd_122 (Nat.le_of_ble_eq_true rfl) (Nat.le_of_ble_eq_true rfl) dX8_init_37 (fun q35 G5 H hq9 eG hz1 hz2 hT hx9 hG hm9 hS => ?_)
  have hn_q35 : s.heap.size ≤ q35 := Nat.le_trans hz9 (Nat.le_of_eq hz2)
  have hY := hY.new hn_q35 eG hx9 (by decide)
  have m36 := (el_kept (hx9 _ _ hg26).2).trans m32
  have m37 := (el_kept (hx9 _ _ hg26).2).trans m33
  have m38 := (el_kept (hx9 _ _ hg26).2).trans m34
  have m39 := (el_kept (hx9 _ _ hg26).2).trans m31
  have hg40 := (hx9 _ _ hg26).1
  have hg41 := (hx9 _ _ hg27).1
  have hg42 := (hx9 _ _ hg28).1
  have hg43 := (hx9 _ _ hg29).1
  have hg44 := (hx9 _ _ hg30).1
  have hg45 : G5 q35 = some 122 := by rw [eG]; exact gU_at
  refine lv_dup hx hb dX8_init_40 rfl ?_
  have hFc := gA_free hG hA hS
  have hz9 := hS.1
  refine va_callv (va_runIN (As := []) (rest := [.ref q35, .ref o0]) ⟨hx, hb, hml, hown, hts⟩ (n_I9 l dC dI kA adK adV G5 H nC nS q35 hT hg45 (by omega) (by omega)) ⟨va_cnB 0 hts (goodIn_ca (goodIn_r _ [12, 13, 2, 3, 4, 14, 15] rfl (by decide +kernel)) (bs2_in _ _)) rfl rfl rfl (hE.nm 112 rfl) (ht_at2 hts 10 rfl) (by decide +kernel) ⟨(Nat.le_of_ble_eq_true rfl), (Nat.le_of_ble_eq_true rfl)⟩, rfl, (ht_at2 hts 15 rfl)⟩ ⟨fun a U g mk q => by obtain ⟨q0, q1, qK, qE, qA⟩ := q; exact ⟨q0, q1, va_K.moved (u := U) (U := U.calling g mk a) (Vm.Alike.refl U.vm) qK, EVC.blind g mk a qE, AO.blind g mk a qA⟩, fun U hU hW => ⟨rfl, hU, va_K.moved hW.alike hK, hE.call hS hFc hU hW, hAO.call hW⟩⟩ rfl rfl hl.1 rfl (lv_room (Nat.le_of_ble_eq_true rfl)) dX8_init_41 ⟨(Nat.le_of_ble_eq_true rfl), (Nat.le_of_ble_eq_true rfl)⟩) hS (fun q _ h => hFc q h) hFc (fun G6 t H locs ht hvm _ hB _ _ hS => ?_)
  (try dsimp only at hB); rw [ht] at hB; obtain ⟨hT, hg46, hY1⟩ := hB
  have hY := hY.call hn_q35 hY1 hz9 (by decide)
  have hG := hY.A hG0 hAo hA
  have m47 := (el_kept (hY1.1 _ _ (gne hg40 hg45 (by decide)) hg40).2).trans m36
  have m48 := (el_kept (hY1.1 _ _ (gne hg40 hg45 (by decide)) hg40).2).trans m37
  have m49 := (el_kept (hY1.1 _ _ (gne hg40 hg45 (by decide)) hg40).2).trans m38
  have m50 := (el_kept (hY1.1 _ _ (gne hg40 hg45 (by decide)) hg40).2).trans m39
  have hg51 := (hY1.1 _ _ (gne hg40 hg45 (by decide)) hg40).1
  have hg52 := (hY1.1 _ _ (gne hg41 hg45 (by decide)) hg41).1
  have hg53 := (hY1.1 _ _ (gne hg42 hg45 (by decide)) hg42).1
  have hg54 := (hY1.1 _ _ (gne hg43 hg45 (by decide)) hg43).1
  have hg55 := (hY1.1 _ _ (gne hg44 hg45 (by decide)) hg44).1
  refine tw_putF (v := .ref q35) (ty := (.object "SeaLand$Tellings")) hx hb hts bF2_X8 tyX8 tyX8_ok nmX8 hown hK hT hG hS hg51 shc_121 rfl 4 (by decide) (ht_at2 hts 16 rfl) (fun _ h9 => h9) rfl hin rfl (by decide +kernel) rfl rfl (gl_at rfl ⟨some _, rfl, fun _ h => by cases h; exact hg46⟩) dX8_init_44 (fun H locs hT oq m56 oj hS => ?_)
  have hY := hY.put oq
  have m57 := (oj 0 (by decide) (by decide)).trans m47
  have m58 := (oj 1 (by decide) (by decide)).trans m48
  have m59 := (oj 2 (by decide) (by decide)).trans m49
  have m60 := (oj 3 (by decide) (by decide)).trans m50
  refine lv_aload_n hx hb dX8_init_47 rfl (lv_at hl 0 rfl) ?_
  have hz9 := hS.1
  refine tw_new hx hb hts bF2_X9 tyX9 tyX9_ok hown (ht_at2 hts 8 rfl) (ht_at2 hts 9 rfl) (ht_at2 hts 10 rfl) hK mon_c hT hS hG hA (shc_122) rfl nd_122 (Nat.le_of_ble_eq_true rfl) (Nat.le_of_ble_eq_true rfl) dX8_init_48 (fun q61 G7 H hq9 eG hz1 hz2 hT hx9 hG hm9 hS => ?_)
  have hn_q61 : s.heap.size ≤ q61 := Nat.le_trans hz9 (Nat.le_of_eq hz2)
  have hY := hY.new hn_q61 eG hx9 (by decide)
  have m62 := (el_kept (hx9 _ _ hg51).2).trans m57
  have m63 := (el_kept (hx9 _ _ hg51).2).trans m58
  have m64 := (el_kept (hx9 _ _ hg51).2).trans m59
  have m65 := (el_kept (hx9 _ _ hg51).2).trans m60
  have m66 := (el_kept (hx9 _ _ hg51).2).trans m56
  have hg67 := (hx9 _ _ hg51).1
  have hg68 := (hx9 _ _ hg52).1
  have hg69 := (hx9 _ _ hg53).1
  have hg70 := (hx9 _ _ hg54).1
  have hg71 := (hx9 _ _ hg55).1
  have hg72 := (hx9 _ _ hg46).1
  have hg73 : G7 q61 = some 122 := by rw [eG]; exact gU_at
  refine lv_dup hx hb dX8_init_51 rfl ?_
  have hFc := gA_free hG hA hS
  have hz9 := hS.1
  refine va_callv (va_runIN (As := []) (rest := [.ref q61, .ref o0]) ⟨hx, hb, hml, hown, hts⟩ (n_I9 l dC dI kA adK adV G7 H nC nS q61 hT hg73 (by omega) (by omega)) ⟨va_cnB 0 hts (goodIn_ca (goodIn_r _ [12, 13, 2, 3, 4, 14, 15] rfl (by decide +kernel)) (bs2_in _ _)) rfl rfl rfl (hE.nm 112 rfl) (ht_at2 hts 10 rfl) (by decide +kernel) ⟨(Nat.le_of_ble_eq_true rfl), (Nat.le_of_ble_eq_true rfl)⟩, rfl, (ht_at2 hts 15 rfl)⟩ ⟨fun a U g mk q => by obtain ⟨q0, q1, qK, qE, qA⟩ := q; exact ⟨q0, q1, va_K.moved (u := U) (U := U.calling g mk a) (Vm.Alike.refl U.vm) qK, EVC.blind g mk a qE, AO.blind g mk a qA⟩, fun U hU hW => ⟨rfl, hU, va_K.moved hW.alike hK, hE.call hS hFc hU hW, hAO.call hW⟩⟩ rfl rfl hl.1 rfl (lv_room (Nat.le_of_ble_eq_true rfl)) dX8_init_52 ⟨(Nat.le_of_ble_eq_true rfl), (Nat.le_of_ble_eq_true rfl)⟩) hS (fun q _ h => hFc q h) hFc (fun G8 t H locs ht hvm _ hB _ _ hS => ?_)
  (try dsimp only at hB); rw [ht] at hB; obtain ⟨hT, hg74, hY1⟩ := hB
  have hY := hY.call hn_q61 hY1 hz9 (by decide)
  have hG := hY.A hG0 hAo hA
  have m75 := (el_kept (hY1.1 _ _ (gne hg67 hg73 (by decide)) hg67).2).trans m62
  have m76 := (el_kept (hY1.1 _ _ (gne hg67 hg73 (by decide)) hg67).2).trans m63
  have m77 := (el_kept (hY1.1 _ _ (gne hg67 hg73 (by decide)) hg67).2).trans m64
  have m78 := (el_kept (hY1.1 _ _ (gne hg67 hg73 (by decide)) hg67).2).trans m65
  have m79 := (el_kept (hY1.1 _ _ (gne hg67 hg73 (by decide)) hg67).2).trans m66
  have hg80 := (hY1.1 _ _ (gne hg67 hg73 (by decide)) hg67).1
  have hg81 := (hY1.1 _ _ (gne hg68 hg73 (by decide)) hg68).1
  have hg82 := (hY1.1 _ _ (gne hg69 hg73 (by decide)) hg69).1
  have hg83 := (hY1.1 _ _ (gne hg70 hg73 (by decide)) hg70).1
  have hg84 := (hY1.1 _ _ (gne hg71 hg73 (by decide)) hg71).1
  have hg85 := (hY1.1 _ _ (gne hg72 hg73 (by decide)) hg72).1
  refine tw_putF (v := .ref q61) (ty := (.object "SeaLand$Tellings")) hx hb hts bF2_X8 tyX8 tyX8_ok nmX8 hown hK hT hG hS hg80 shc_121 rfl 5 (by decide) (ht_at2 hts 17 rfl) (fun _ h9 => h9) rfl hin rfl (by decide +kernel) rfl rfl (gl_at rfl ⟨some _, rfl, fun _ h => by cases h; exact hg74⟩) dX8_init_55 (fun H locs hT oq m86 oj hS => ?_)
  have hY := hY.put oq
  have m87 := (oj 0 (by decide) (by decide)).trans m75
  have m88 := (oj 1 (by decide) (by decide)).trans m76
  have m89 := (oj 2 (by decide) (by decide)).trans m77
  have m90 := (oj 3 (by decide) (by decide)).trans m78
  have m91 := (oj 4 (by decide) (by decide)).trans m79
  have hT := hT.grown (t := 91) mon_c hg80 (by decide) (by
    have h8 := hT _ _ hg80; rw [shc_121] at h8; rw [shc_91]
    refine gC.growT h8 (fun k v hk hm hv => match k, hk, hm, hv with
      | 0, _, hm, hv => gl_at rfl (by obtain rfl : v = .ref q1 := Option.some.inj (hm.symm.trans m87); exact ⟨_, rfl, (gU_ne (gne hg81 hg80 (by decide))).trans hg81⟩)
      | 1, _, hm, hv => gl_at rfl (by obtain rfl : v = .ref q5 := Option.some.inj (hm.symm.trans m88); exact ⟨_, rfl, (gU_ne (gne hg82 hg80 (by decide))).trans hg82⟩)
      | 2, _, hm, hv => gl_at rfl (by obtain rfl : v = .ref q12 := Option.some.inj (hm.symm.trans m89); exact ⟨_, rfl, (gU_ne (gne hg83 hg80 (by decide))).trans hg83⟩)
      | 3, _, hm, hv => gl_at rfl (by obtain rfl : v = .ref q22 := Option.some.inj (hm.symm.trans m90); exact ⟨_, rfl, (gU_ne (gne hg84 hg80 (by decide))).trans hg84⟩)
      | 4, _, hm, hv => gl_at rfl (by obtain rfl : v = .ref q35 := Option.some.inj (hm.symm.trans m91); exact ⟨_, rfl, (gU_ne (gne hg85 hg80 (by decide))).trans hg85⟩)
      | 5, _, hm, hv => gl_at rfl (by obtain rfl : v = .ref q61 := Option.some.inj (hm.symm.trans m86); exact ⟨_, rfl, (gU_ne (gne hg74 hg80 (by decide))).trans hg74⟩)
      | 6, _, hm, hv => gl_at rfl (hv _ rfl)
      | k + 7, hk, _, _ => absurd hk (by omega)))
  have hY := hY.grow
  exact W.vret hx hb hr (fun t ht hW => ⟨⟨_, rfl, trivial, by (try dsimp only); rw [ht]; exact ⟨hT, gU_at, hY⟩⟩, hS.F ht⟩) hS.2.2 dX8_init_58
