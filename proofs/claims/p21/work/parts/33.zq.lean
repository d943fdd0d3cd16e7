def w_s_throwsIfQ : List Cond := .code yX12_throwsIf cX12_throwsIf 3 (some .boolean) :: (HAppend.hAppend (α := List Cond) (β := List Cond) (γ := List Cond) [.fieldLink RX12 194 "SeaLandModel" "thrown" "I"] bs)
set_option maxHeartbeats 4000000 in
set_option maxRecDepth 100000 in
theorem s_throwsIfQ (l : Launch) (dC : Nat → ClassId) (dI : Nat → Nat → Nat) (kA : Nat → ClassId) (adK adV : Nat → Nat) (G : gT) (H0 : Heap) (q : Nat → Nat) (wZ wN : Nat → Int) (wH wB wC : Int) (wL wK : Nat → Prop) (wU wV : Nat → Nat) (PI : Nat → Int → Prop) (im : Int) (PM PT : Nat → Int → Prop) (lS lB lE : Nat → Nat → Int → Prop) (lN : Nat → Int) (o0 : Nat) (bo : Int32) (cd : Int32) (t0 : Int32)  (hT : gH (dC, dI) kA (SHm q (wP wZ wN wH wB wC wL wK wU wV) PI im PM PT lS lB lE lN) G H0) (hr_o0 : G o0 = some 0) (hm_t0 : el H0 o0 (dI 15 0) = some (.int t0)) (hq0 : 0 ≤ bo.toInt ∧ bo.toInt ≤ 1) (hgz : ∀ i, 0 ≤ wZ i) (hgn : ∀ i, 6500000 ≤ wN i ∧ wN i ≤ 20200000) (hgh : 0 ≤ wH ∧ wH ≤ 40000) (hgb : 0 ≤ wB ∧ wB ≤ 3850000) (hgc : 0 ≤ wC ∧ wC ≤ 30) (hgi : 0 ≤ im ∧ im ≤ 1) (hgu : ∀ a t, G a = some (t + 1) → a = q t) : Met l yX12_throwsIf w_s_throwsIfQ ({ frames := 0, cells := 0, slots := 0, locals := 0 }) (va_Pc [.ref o0, .int bo, .int cd] (fun U => U.heap = H0 ∧ va_K (dC, dI) vwCl (tyl kA) U ∧ EVS adK adV (gA G H0.size) U U.heap)) (va_Qi (fun (r : Int32) (u : Int32) => (0 ≤ r.toInt ∧ r.toInt ≤ 1) ∧ ((bo.toInt = 1 → u.toInt = cd.toInt) ∧ (bo.toInt = 0 → u.toInt = t0.toInt)) ∧ (r = bo)) (fun (t1 : Int32) (t : State) => gH (dC, dI) kA (SHm q (wP wZ wN wH wB wC wL wK wU wV) PI im PM PT lS lB lE lN) G t.heap ∧ gF (dC, dI) SKm G ([(0, 0)] : List (Nat × Nat)) H0 t.heap ∧ el t.heap o0 (dI 15 0) = some (.int t1)) (gA G H0.size)) 0 0 (gA G H0.size) := by
  refine Met.ofW (cc := cX12_throwsIf) (maxL := 3) (ret := (some .boolean)) (by decide) rfl ?_
  intro p e s m args below meth c s₁ B hml hv
  obtain ⟨rfl, hH0, hK, hE⟩ := hv
  have hx := B.exec
  have hb := B.bytes
  have hr := B.returns
  have hts := atoms_spec (ws := w_s_throwsIfQ) B.pre
  have hown : s.vm.findClass RX12 = some m.cls := findClass_of_methodNamed B.named
  have hlocks := B.notSynchronized
  subst hH0
  generalize hAe : gA G s.heap.size = A at hE ⊢
  have hA : ∀ q : Nat, s.heap.size ≤ q → A q := fun q h => by rw [← hAe]; exact Or.inr h
  have hG := gA_of hAe
  have hS : va_S A s.heap s.heap [] := va_S.rf
  have hF : gF (dC, dI) SKm G ([(0, 0)] : List (Nat × Nat)) s.heap s.heap := gF.rf
  have hl := lv_entry ([.ref o0, .int bo, .int cd]) (n := 3) (Nat.le_of_ble_eq_true rfl)
  rw [lg_entry_eq]
  generalize (lg_sl ([.ref o0, .int bo, .int cd]) ++ List.replicate (3 - (lg_sl ([.ref o0, .int bo, .int cd])).length) Slot.unset).toArray = ls at hl ⊢
  have hl : lv_has ls 3 [(0, .ref o0), (1, .int bo), (2, .int cd)] := hl
  refine lv_iload_n hx hb dX12_throwsIf_0 rfl (lv_at hl 1 rfl) ?_
  refine lv_if_eq (tgt := 9) hx hb dX12_throwsIf_1 (by decide) (fun c1 => ?_) (fun c1 => ?_)
  · have t2 : bo.toInt = 0 := ti_eq c1 rfl (by decide)
    refine lv_iload_n hx hb dX12_throwsIf_9 rfl (lv_at hl 1 rfl) ?_
    exact W.zret (v := bo) hx hb hr (nar_b (by have q8 := ti_all bo; omega)) (fun t ht hW => ⟨⟨bo, t0, rfl, (by exact ⟨(by have q8 := ti_all bo; omega), (by omega), rfl⟩), by (try dsimp only); rw [ht]; exact ⟨hT, hF, hm_t0⟩⟩, hS.F ht⟩) hS.2.2 dX12_throwsIf_10
  · have t3 : bo.toInt ≠ 0 := ti_ne c1 rfl (by decide)
    refine lv_aload_n hx hb dX12_throwsIf_4 rfl (lv_at hl 0 rfl) ?_
    refine lv_iload_n hx hb dX12_throwsIf_5 rfl (lv_at hl 2 rfl) ?_
    refine tw_put (v := .int cd) (ty := .int) hx hb hts bF_X12 tyX12 tyX12_ok nmX12 hown hK hT hG hS hr_o0 shm_0 rfl 0 (by decide) (ht_at hts 0 rfl) (fun _ h9 => h9) rfl (by decide +kernel) rfl rfl (gl_at rfl (gi_all _)) dX12_throwsIf_6 (fun H locs hT oq m4 oj hS => ?_)
    have hF := hF.put hr_o0 skm_0 oq oj (by decide)
    refine lv_iload_n hx hb dX12_throwsIf_9 rfl (lv_at hl 1 rfl) ?_
    exact W.zret (v := bo) hx hb hr (nar_b (by have q8 := ti_all bo; omega)) (fun t ht hW => ⟨⟨bo, cd, rfl, (by exact ⟨(by have q8 := ti_all bo; omega), (by omega), rfl⟩), by (try dsimp only); rw [ht]; exact ⟨hT, hF, m4⟩⟩, hS.F ht⟩) hS.2.2 dX12_throwsIf_10
def w_s_holdersZ : List Cond := .code yX12_holders cX12_holders 3 (some .int) :: (HAppend.hAppend (α := List Cond) (β := List Cond) (γ := List Cond) [.fieldLink RX12 495 "SeaLandModel" "settlers" "I", .fieldLink RX12 101 "SeaLandModel" "holds" "[I"] bs)
set_option maxHeartbeats 4000000 in
set_option maxRecDepth 100000 in
theorem s_holdersZ (l : Launch) (dC : Nat → ClassId) (dI : Nat → Nat → Nat) (kA : Nat → ClassId) (adK adV : Nat → Nat) (G : gT) (H0 : Heap) (q : Nat → Nat) (wZ wN : Nat → Int) (wH wB wC : Int) (wL wK : Nat → Prop) (wU wV : Nat → Nat) (PI : Nat → Int → Prop) (im : Int) (PM PT : Nat → Int → Prop) (lS lB lE : Nat → Nat → Int → Prop) (lN : Nat → Int) (o0 : Nat) (sn : Int32) (vH : Nat → Int32)  (hT : gH (dC, dI) kA (SHm q (wP wZ wN wH wB wC wL wK wU wV) PI im PM PT lS lB lE lN) G H0) (hr_o0 : G o0 = some 0) (hm_sn : el H0 o0 (dI 15 42) = some (.int sn)) (hq0 : 0 ≤ sn.toInt ∧ sn.toInt ≤ 60) (hc_vH : ct H0 (q 38) 60 vH) (hgz : ∀ i, 0 ≤ wZ i) (hgn : ∀ i, 6500000 ≤ wN i ∧ wN i ≤ 20200000) (hgh : 0 ≤ wH ∧ wH ≤ 40000) (hgb : 0 ≤ wB ∧ wB ≤ 3850000) (hgc : 0 ≤ wC ∧ wC ≤ 30) (hgi : 0 ≤ im ∧ im ≤ 1) (hgu : ∀ a t, G a = some (t + 1) → a = q t) : Met l yX12_holders w_s_holdersZ ({ frames := 0, cells := 0, slots := 0, locals := 0 }) (va_Pc [.ref o0] (fun U => U.heap = H0 ∧ va_K (dC, dI) vwCl (tyl kA) U ∧ EVS adK adV (gA G H0.size) U U.heap)) (va_Qi (fun (r : Int32) (u : Unit) => (0 ≤ r.toInt ∧ r.toInt ≤ 60) ∧ ((r.toInt = 0 ∧ ¬ zHb vH sn.toInt) ∨ (0 < r.toInt ∧ zHb vH sn.toInt))) (fun (_ : Unit) (t : State) => gH (dC, dI) kA (SHm q (wP wZ wN wH wB wC wL wK wU wV) PI im PM PT lS lB lE lN) G t.heap ∧ gF (dC, dI) SKm G ([] : List (Nat × Nat)) H0 t.heap) (gA G H0.size)) 0 0 (gA G H0.size) := by
  refine Met.ofW (cc := cX12_holders) (maxL := 3) (ret := (some .int)) (by decide) rfl ?_
  intro p e s m args below meth c s₁ B hml hv
  obtain ⟨rfl, hH0, hK, hE⟩ := hv
  have hx := B.exec
  have hb := B.bytes
  have hr := B.returns
  have hts := atoms_spec (ws := w_s_holdersZ) B.pre
  have hown : s.vm.findClass RX12 = some m.cls := findClass_of_methodNamed B.named
  have hlocks := B.notSynchronized
  subst hH0
  generalize hAe : gA G s.heap.size = A at hE ⊢
  have hA : ∀ q : Nat, s.heap.size ≤ q → A q := fun q h => by rw [← hAe]; exact Or.inr h
  have hG := gA_of hAe
  have hS : va_S A s.heap s.heap [] := va_S.rf
  have hF : gF (dC, dI) SKm G ([] : List (Nat × Nat)) s.heap s.heap := gF.rf
  have hl := lv_entry ([.ref o0]) (n := 3) (Nat.le_of_ble_eq_true rfl)
  rw [lg_entry_eq]
  generalize (lg_sl ([.ref o0]) ++ List.replicate (3 - (lg_sl ([.ref o0])).length) Slot.unset).toArray = ls at hl ⊢
  have hl : lv_has ls 3 [(0, .ref o0)] := hl
  have hg1 : G (q 38) = some 39 := gx_of hT hr_o0 shm_0 (k := 38) (by decide) rfl
  refine lv_iconst (v := 0) hx hb dX12_holders_0 (by decide) ?_
  refine lv_istore_n (lv' := [(1, .int 0), (0, .ref o0)]) hx hb dX12_holders_1 rfl hl (by decide) rfl (fun ls hl => ?_)
  refine lv_iconst (v := 0) hx hb dX12_holders_2 (by decide) ?_
  refine lv_istore_n (lv' := [(2, .int 0), (1, .int 0), (0, .ref o0)]) hx hb dX12_holders_3 rfl hl (by decide) rfl (fun ls hl => ?_)
  have key24 : ∀ (n24 i2 : Nat), i2 + n24 = 60 → 0 ≤ i2 → ∀ (z3 : Int32), ((0 ≤ z3.toInt ∧ z3.toInt ≤ 60) ∧ ((z3.toInt = 0 ∧ ∀ p : Nat, p < i2 → (vH p).toInt < 0) ∨ (0 < z3.toInt ∧ zHb vH ((i2 : Nat) : Int))) ∧ (z3.toInt ≤ ((i2 : Nat) : Int)) ∧ (((i2 : Nat) : Int) ≤ sn.toInt)) → ∀ (H : Heap) (locs : List Loc), gH (dC, dI) kA (SHm q (wP wZ wN wH wB wC wL wK wU wV) PI im PM PT lS lB lE lN) G H → gF (dC, dI) SKm G ([] : List (Nat × Nat)) s.heap H → va_S A s.heap H locs → ct H (q 38) 60 vH → el H o0 (dI 15 42) = some (.int sn) → ∀ ls : Array Slot, lv_has ls 3 [(2, .int (nI i2)), (1, .int z3), (0, .ref o0)] → W p l e (headSpec w_s_holdersZ ({ frames := 0, cells := 0, slots := 0, locals := 0 })).room s m #[.ref o0] below meth c H locs 0 0 (MQ below (va_Qi (fun (r : Int32) (u : Unit) => (0 ≤ r.toInt ∧ r.toInt ≤ 60) ∧ ((r.toInt = 0 ∧ ¬ zHb vH sn.toInt) ∨ (0 < r.toInt ∧ zHb vH sn.toInt))) (fun (_ : Unit) (t : State) => gH (dC, dI) kA (SHm q (wP wZ wN wH wB wC wL wK wU wV) PI im PM PT lS lB lE lN) G t.heap ∧ gF (dC, dI) SKm G ([] : List (Nat × Nat)) s.heap t.heap) A) #[.ref o0] s 0 0 A) (F0 m 4 ls []) := by
    intro n24
    induction n24 with
    | zero =>
      intro i2 hn24 hlo25 z3 ⟨h4, hj7, hj8, hj9⟩ H locs hT hF hS m5 m6 ls hl
      obtain rfl : 60 = i2 := by omega
      refine lv_iload_n hx hb dX12_holders_4 rfl (lv_at hl 0 rfl) ?_
      refine lv_aload_n hx hb dX12_holders_5 rfl (lv_at hl 2 rfl) ?_
      refine tw_getM (v := .int sn) hx hb hts bF_X12 hown hK hT hr_o0 shm_0 rfl 42 (by decide) (ht_at hts 0 rfl) (fun _ h9 => h9) m6 dX12_holders_6 ?_
      refine lv_icmp_ge (tgt := 35) hx hb dX12_holders_9 (by decide) (fun c26 => ?_) (fun c26 => (by exfalso; have q9 : ((60 : Nat) : Int) < sn.toInt := ti_nle c26 rfl (nI_toInt (by omega)); omega))
      have t27 : sn.toInt ≤ ((60 : Nat) : Int) := ti_le c26 rfl (nI_toInt (by omega))
      refine lv_iload_n hx hb dX12_holders_35 rfl (lv_at hl 1 rfl) ?_
      exact W.iret (v := z3) hx hb hr (fun t ht hW => ⟨⟨z3, (), rfl, (by exact ⟨(by have q8 := ti_all z3; omega), (by have n9 := (show z3.toInt = z3.toInt from rfl); rcases hj7 with ⟨h8, h7⟩ | ⟨h8, h7⟩; (exact Or.inl ⟨by omega, zHb_no (fun p hp => h7 p (by omega))⟩); exact Or.inr ⟨by omega, h7.elim (fun p hp => ⟨p, by have := hp.1; omega, hp.2⟩)⟩)⟩), by (try dsimp only); rw [ht]; exact ⟨hT, hF⟩⟩, hS.F ht⟩) hS.2.2 dX12_holders_36
    | succ n24 ih24 =>
      intro i2 hn24 hlo25 z3 ⟨h4, hj7, hj8, hj9⟩ H locs hT hF hS m5 m6 ls hl
      have hlt27 : i2 < 60 := by omega
      refine lv_iload_n hx hb dX12_holders_4 rfl (lv_at hl 0 rfl) ?_
      refine lv_aload_n hx hb dX12_holders_5 rfl (lv_at hl 2 rfl) ?_
      refine tw_getM (v := .int sn) hx hb hts bF_X12 hown hK hT hr_o0 shm_0 rfl 42 (by decide) (ht_at hts 0 rfl) (fun _ h9 => h9) m6 dX12_holders_6 ?_
      refine lv_icmp_ge (tgt := 35) hx hb dX12_holders_9 (by decide) (fun c28 => ?_) (fun c28 => ?_)
      · have t29 : sn.toInt ≤ ((i2 : Nat) : Int) := ti_le c28 rfl (nI_toInt (by omega))
        refine lv_iload_n hx hb dX12_holders_35 rfl (lv_at hl 1 rfl) ?_
        exact W.iret (v := z3) hx hb hr (fun t ht hW => ⟨⟨z3, (), rfl, (by exact ⟨(by have q8 := ti_all z3; omega), (by have n9 := (show z3.toInt = z3.toInt from rfl); rcases hj7 with ⟨h8, h7⟩ | ⟨h8, h7⟩; (exact Or.inl ⟨by omega, zHb_no (fun p hp => h7 p (by omega))⟩); exact Or.inr ⟨by omega, h7.elim (fun p hp => ⟨p, by have := hp.1; omega, hp.2⟩)⟩)⟩), by (try dsimp only); rw [ht]; exact ⟨hT, hF⟩⟩, hS.F ht⟩) hS.2.2 dX12_holders_36
      · have t30 : ((i2 : Nat) : Int) < sn.toInt := ti_nle c28 rfl (nI_toInt (by omega))
        refine lv_iload_n hx hb dX12_holders_12 rfl (lv_at hl 1 rfl) ?_
        refine lv_aload_n hx hb dX12_holders_13 rfl (lv_at hl 2 rfl) ?_
        refine tw_get hx hb hts bF_X12 hown hK hT hr_o0 shm_0 rfl 38 (by decide) (ht_at hts 1 rfl) (fun _ h9 => h9) dX12_holders_14 (fun v9 m31 h9 => ?_)
        obtain ⟨rfl, hg32⟩ := h9 _ rfl
        refine lv_iload_n hx hb dX12_holders_17 rfl (lv_at hl 0 rfl) ?_
        refine tw_iald (i := (nI i2)) hx hb hK hT hg1 shm_39 rfl (vp_in_nI (by omega) (by decide)) dX12_holders_18 (fun v9 m33 h9 => ?_)
        obtain ⟨x34, rfl, gx34, kx34⟩ := h9
        have cx34 := m5.at m33 (by have q9 := tn_of (show (nI i2).toInt = ((i2 : Nat) : Int) from (nI_toInt (by omega))) (by omega); omega)
        refine lv_if_lt (tgt := 26) hx hb dX12_holders_19 (by decide) (fun c35 => ?_) (fun c35 => ?_)
        · have t36 : x34.toInt < 0 := ti_lt c35 rfl (by decide)
          refine lv_iconst (v := 0) hx hb dX12_holders_26 (by decide) ?_
          refine lv_iadd hx hb dX12_holders_27 ?_
          refine lv_topi (fun x37 ex37 => ?_)
          have t38 : x37.toInt = z3.toInt + 0 := ti_add ex37 rfl (by decide) (by omega) (by omega)
          refine lv_istore_n (lv' := [(1, .int x37), (2, .int (nI i2)), (0, .ref o0)]) hx hb dX12_holders_28 rfl hl (by decide) rfl (fun ls hl => ?_)
          refine lv_iinc (v := nI (i2 + 1)) (lv' := [(2, .int (nI (i2 + 1))), (1, .int x37), (0, .ref o0)]) hx hb dX12_holders_29 hl (k := 1) rfl (nI_add i2 1) (by decide) rfl (fun ls hl => ?_)
          refine lv_goto (tgt := 4) hx hb dX12_holders_32 (by decide) ?_
          exact ih24 (i2 + 1) (by omega) (by omega) x37 ⟨(by have q9 := (show x37.toInt = x37.toInt from rfl); (try have q8 := ti_all x37); omega), (by have v9 : (vH i2).toInt = x34.toInt := (by rw [cx34, tn_nI (by omega)]); have n9 := (show x37.toInt = x37.toInt from rfl); rcases hj7 with ⟨h8, h7⟩ | ⟨h8, h7⟩; (by_cases z9 : 0 ≤ x34.toInt; (exact Or.inr ⟨by omega, i2, by omega, by omega⟩); exact Or.inl ⟨by omega, fun p hp => by by_cases e9 : p = i2; (rw [e9]; omega); exact h7 p (by omega)⟩); exact Or.inr ⟨by omega, h7.elim (fun p hp => ⟨p, by have := hp.1; omega, hp.2⟩)⟩), (by have := (show x37.toInt = x37.toInt from rfl); omega), (by omega)⟩ _ _ hT hF hS m5 m6 ls (lv_sub hl [0, 1, 2] rfl)
        · have t39 : 0 ≤ x34.toInt := ti_nlt c35 rfl (by decide)
          refine lv_iconst (v := 1) hx hb dX12_holders_22 (by decide) ?_
          refine lv_goto (tgt := 27) hx hb dX12_holders_23 (by decide) ?_
          refine lv_iadd hx hb dX12_holders_27 ?_
          refine lv_topi (fun x40 ex40 => ?_)
          have t41 : x40.toInt = z3.toInt + 1 := ti_add ex40 rfl (by decide) (by omega) (by omega)
          refine lv_istore_n (lv' := [(1, .int x40), (2, .int (nI i2)), (0, .ref o0)]) hx hb dX12_holders_28 rfl hl (by decide) rfl (fun ls hl => ?_)
          refine lv_iinc (v := nI (i2 + 1)) (lv' := [(2, .int (nI (i2 + 1))), (1, .int x40), (0, .ref o0)]) hx hb dX12_holders_29 hl (k := 1) rfl (nI_add i2 1) (by decide) rfl (fun ls hl => ?_)
          refine lv_goto (tgt := 4) hx hb dX12_holders_32 (by decide) ?_
          exact ih24 (i2 + 1) (by omega) (by omega) x40 ⟨(by have q9 := (show x40.toInt = x40.toInt from rfl); (try have q8 := ti_all x40); omega), (by have v9 : (vH i2).toInt = x34.toInt := (by rw [cx34, tn_nI (by omega)]); have n9 := (show x40.toInt = x40.toInt from rfl); rcases hj7 with ⟨h8, h7⟩ | ⟨h8, h7⟩; (by_cases z9 : 0 ≤ x34.toInt; (exact Or.inr ⟨by omega, i2, by omega, by omega⟩); exact Or.inl ⟨by omega, fun p hp => by by_cases e9 : p = i2; (rw [e9]; omega); exact h7 p (by omega)⟩); exact Or.inr ⟨by omega, h7.elim (fun p hp => ⟨p, by have := hp.1; omega, hp.2⟩)⟩), (by have := (show x40.toInt = x40.toInt from rfl); omega), (by omega)⟩ _ _ hT hF hS m5 m6 ls (lv_sub hl [0, 1, 2] rfl)
  exact key24 (60 - 0) 0 (by omega) (Nat.le_refl _) 0 ⟨(by have q9 := (show (0 : Int32).toInt = 0 from (by decide)); (try have q8 := ti_all (0 : Int32)); omega), (Or.inl ⟨by decide, fun p h => absurd h (Nat.not_lt_zero p)⟩), (by have := (show (0 : Int32).toInt = 0 from (by decide)); omega), (by omega)⟩ _ _ hT hF hS hc_vH hm_sn ls (lv_sub hl [0, 1, 2] rfl)
