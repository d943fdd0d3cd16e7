def w_s_hasSpan : List Cond := .code yX12_hasSpan cX12_hasSpan 2 (some .boolean) :: (HAppend.hAppend (α := List Cond) (β := List Cond) (γ := List Cond) [.fieldLink RX12 155 "SeaLandModel" "isMeasured" "[Z", .fieldLink RX12 149 "SeaLandModel" "kLow" "[I", .fieldLink RX12 152 "SeaLandModel" "kHigh" "[I"] bs)
set_option maxHeartbeats 4000000 in
set_option maxRecDepth 100000 in
theorem s_hasSpan (l : Launch) (dC : Nat → ClassId) (dI : Nat → Nat → Nat) (kA : Nat → ClassId) (adK adV : Nat → Nat) (G : gT) (H0 : Heap) (q : Nat → Nat) (wZ wN : Nat → Int) (wH wB wC : Int) (wL wK : Nat → Prop) (wU wV : Nat → Nat) (PI : Nat → Int → Prop) (im : Int) (PM PT : Nat → Int → Prop) (lS lB lE : Nat → Nat → Int → Prop) (lN : Nat → Int) (o0 : Nat) (ko : Int32)  (hT : gH (dC, dI) kA (SHm q (wP wZ wN wH wB wC wL wK wU wV) PI im PM PT lS lB lE lN) G H0) (hr_o0 : G o0 = some 0) (hq0 : 0 ≤ ko.toInt ∧ ko.toInt ≤ 39) (hgz : ∀ i, 0 ≤ wZ i) (hgn : ∀ i, 6500000 ≤ wN i ∧ wN i ≤ 20200000) (hgh : 0 ≤ wH ∧ wH ≤ 40000) (hgb : 0 ≤ wB ∧ wB ≤ 3850000) (hgc : 0 ≤ wC ∧ wC ≤ 30) (hgi : 0 ≤ im ∧ im ≤ 1) (hgu : ∀ a t, G a = some (t + 1) → a = q t) : Met l yX12_hasSpan w_s_hasSpan ({ frames := 0, cells := 0, slots := 0, locals := 0 }) (va_Pc [.ref o0, .int ko] (fun U => U.heap = H0 ∧ va_K (dC, dI) vwCl (tyl kA) U ∧ EVS adK adV (gA G H0.size) U U.heap)) (va_Qi (fun (r : Int32) (u : Unit) => (0 ≤ r.toInt ∧ r.toInt ≤ 1)) (fun (_ : Unit) (t : State) => gH (dC, dI) kA (SHm q (wP wZ wN wH wB wC wL wK wU wV) PI im PM PT lS lB lE lN) G t.heap ∧ gF (dC, dI) SKm G ([] : List (Nat × Nat)) H0 t.heap) (gA G H0.size)) 0 0 (gA G H0.size) := by
  refine Met.ofW (cc := cX12_hasSpan) (maxL := 2) (ret := (some .boolean)) (by decide) rfl ?_
  intro p e s m args below meth c s₁ B hml hv
  obtain ⟨rfl, hH0, hK, hE⟩ := hv
  have hx := B.exec
  have hb := B.bytes
  have hr := B.returns
  have hts := atoms_spec (ws := w_s_hasSpan) B.pre
  have hown : s.vm.findClass RX12 = some m.cls := findClass_of_methodNamed B.named
  have hlocks := B.notSynchronized
  subst hH0
  generalize hAe : gA G s.heap.size = A at hE ⊢
  have hA : ∀ q : Nat, s.heap.size ≤ q → A q := fun q h => by rw [← hAe]; exact Or.inr h
  have hG := gA_of hAe
  have hS : va_S A s.heap s.heap [] := va_S.rf
  have hF : gF (dC, dI) SKm G ([] : List (Nat × Nat)) s.heap s.heap := gF.rf
  have hl := lv_entry ([.ref o0, .int ko]) (n := 2) (Nat.le_of_ble_eq_true rfl)
  rw [lg_entry_eq]
  generalize (lg_sl ([.ref o0, .int ko]) ++ List.replicate (2 - (lg_sl ([.ref o0, .int ko])).length) Slot.unset).toArray = ls at hl ⊢
  have hl : lv_has ls 2 [(0, .ref o0), (1, .int ko)] := hl
  refine lv_aload_n hx hb dX12_hasSpan_0 rfl (lv_at hl 0 rfl) ?_
  refine tw_get hx hb hts bF_X12 hown hK hT hr_o0 shm_0 rfl 62 (by decide) (ht_at hts 0 rfl) (fun _ h9 => h9) dX12_hasSpan_1 (fun v9 m1 h9 => ?_)
  obtain ⟨rfl, hg2⟩ := h9 _ rfl
  refine lv_iload_n hx hb dX12_hasSpan_4 rfl (lv_at hl 1 rfl) ?_
  refine tw_zald (i := ko) hx hb hK hT hg2 shm_63 rfl (vin_t (a := ko.toInt) rfl (by omega) (by omega)) dX12_hasSpan_5 (fun v9 m3 h9 => ?_)
  obtain ⟨x4, rfl, gx4, kx4⟩ := h9
  refine lv_if_eq (tgt := 28) hx hb dX12_hasSpan_6 (by decide) (fun c5 => ?_) (fun c5 => ?_)
  · have t6 : x4.toInt = 0 := ti_eq c5 rfl (by decide)
    refine lv_iconst (v := 0) hx hb dX12_hasSpan_28 (by decide) ?_
    exact W.zret (v := 0) hx hb hr (by decide) (fun t ht hW => ⟨⟨0, (), rfl, (by exact (rg_t (a := 0) (by decide) (by first | decide | omega) (by first | decide | omega))), by (try dsimp only); rw [ht]; exact ⟨hT, hF⟩⟩, hS.F ht⟩) hS.2.2 dX12_hasSpan_29
  · have t7 : x4.toInt ≠ 0 := ti_ne c5 rfl (by decide)
    refine lv_aload_n hx hb dX12_hasSpan_9 rfl (lv_at hl 0 rfl) ?_
    refine tw_get hx hb hts bF_X12 hown hK hT hr_o0 shm_0 rfl 60 (by decide) (ht_at hts 1 rfl) (fun _ h9 => h9) dX12_hasSpan_10 (fun v9 m8 h9 => ?_)
    obtain ⟨rfl, hg9⟩ := h9 _ rfl
    refine lv_iload_n hx hb dX12_hasSpan_13 rfl (lv_at hl 1 rfl) ?_
    refine tw_iald (i := ko) hx hb hK hT hg9 shm_61 rfl (vin_t (a := ko.toInt) rfl (by omega) (by omega)) dX12_hasSpan_14 (fun v9 m10 h9 => ?_)
    obtain ⟨x11, rfl, gx11, kx11⟩ := h9
    refine lv_aload_n hx hb dX12_hasSpan_15 rfl (lv_at hl 0 rfl) ?_
    refine tw_get hx hb hts bF_X12 hown hK hT hr_o0 shm_0 rfl 61 (by decide) (ht_at hts 2 rfl) (fun _ h9 => h9) dX12_hasSpan_16 (fun v9 m12 h9 => ?_)
    obtain ⟨rfl, hg13⟩ := h9 _ rfl
    refine lv_iload_n hx hb dX12_hasSpan_19 rfl (lv_at hl 1 rfl) ?_
    refine tw_iald (i := ko) hx hb hK hT hg13 shm_62 rfl (vin_t (a := ko.toInt) rfl (by omega) (by omega)) dX12_hasSpan_20 (fun v9 m14 h9 => ?_)
    obtain ⟨x15, rfl, gx15, kx15⟩ := h9
    refine lv_icmp_gt (tgt := 28) hx hb dX12_hasSpan_21 (by decide) (fun c16 => ?_) (fun c16 => ?_)
    · have t17 : x15.toInt < x11.toInt := ti_lt c16 rfl rfl
      refine lv_iconst (v := 0) hx hb dX12_hasSpan_28 (by decide) ?_
      exact W.zret (v := 0) hx hb hr (by decide) (fun t ht hW => ⟨⟨0, (), rfl, (by exact (rg_t (a := 0) (by decide) (by first | decide | omega) (by first | decide | omega))), by (try dsimp only); rw [ht]; exact ⟨hT, hF⟩⟩, hS.F ht⟩) hS.2.2 dX12_hasSpan_29
    · have t18 : x11.toInt ≤ x15.toInt := ti_nlt c16 rfl rfl
      refine lv_iconst (v := 1) hx hb dX12_hasSpan_24 (by decide) ?_
      refine lv_goto (tgt := 29) hx hb dX12_hasSpan_25 (by decide) ?_
      exact W.zret (v := 1) hx hb hr (by decide) (fun t ht hW => ⟨⟨1, (), rfl, (by exact (rg_t (a := 1) (by decide) (by first | decide | omega) (by first | decide | omega))), by (try dsimp only); rw [ht]; exact ⟨hT, hF⟩⟩, hS.F ht⟩) hS.2.2 dX12_hasSpan_29
def w_s_acres : List Cond := .code yX12_acres cX12_acres 4 (some .int) :: (HAppend.hAppend (α := List Cond) (β := List Cond) (γ := List Cond) [.fieldLink RX12 101 "SeaLandModel" "holds" "[I", .fieldLink RX12 113 "SeaLandModel" "farmFrom" "[I", .fieldLink RX12 116 "SeaLandModel" "farmTo" "[I", .code yX12_isIn cX12_isIn 5 (some .boolean), .methodLink RX12 207 Lib.Math.min.name, .static Lib.Math.min.name, .initialized "java/lang/Math", .code Lib.Math.min.name Lib.Math.min.code 2 (some .int), .methodLink RX12 211 Lib.Math.max.name, .static Lib.Math.max.name, .code Lib.Math.max.name Lib.Math.max.code 2 (some .int), .code yX12_in cX12_in 3 (some .boolean), .methodLink RX12 197 yX12_in, .static yX12_in, .initialized RX12, .methodLink RX12 232 yX12_isIn, .static yX12_isIn] bs)
set_option maxHeartbeats 4000000 in
set_option maxRecDepth 100000 in
theorem s_acres (l : Launch) (dC : Nat → ClassId) (dI : Nat → Nat → Nat) (kA : Nat → ClassId) (adK adV : Nat → Nat) (G : gT) (H0 : Heap) (q : Nat → Nat) (wZ wN : Nat → Int) (wH wB wC : Int) (wL wK : Nat → Prop) (wU wV : Nat → Nat) (PI : Nat → Int → Prop) (im : Int) (PM PT : Nat → Int → Prop) (lS lB lE : Nat → Nat → Int → Prop) (lN : Nat → Int) (o0 : Nat) (pe : Int32)  (hT : gH (dC, dI) kA (SHm q (wP wZ wN wH wB wC wL wK wU wV) PI im PM PT lS lB lE lN) G H0) (hr_o0 : G o0 = some 0) (hq0 : 0 ≤ pe.toInt ∧ pe.toInt ≤ 59) (hgz : ∀ i, 0 ≤ wZ i) (hgn : ∀ i, 6500000 ≤ wN i ∧ wN i ≤ 20200000) (hgh : 0 ≤ wH ∧ wH ≤ 40000) (hgb : 0 ≤ wB ∧ wB ≤ 3850000) (hgc : 0 ≤ wC ∧ wC ≤ 30) (hgi : 0 ≤ im ∧ im ≤ 1) (hgu : ∀ a t, G a = some (t + 1) → a = q t) : Met l yX12_acres w_s_acres ({ frames := 2, cells := 0, slots := 0, locals := 64 }) (va_Pc [.ref o0, .int pe] (fun U => U.heap = H0 ∧ va_K (dC, dI) vwCl (tyl kA) U ∧ EVS adK adV (gA G H0.size) U U.heap)) (va_Qi (fun (r : Int32) (u : Unit) => True) (fun (_ : Unit) (t : State) => gH (dC, dI) kA (SHm q (wP wZ wN wH wB wC wL wK wU wV) PI im PM PT lS lB lE lN) G t.heap ∧ gF (dC, dI) SKm G ([] : List (Nat × Nat)) H0 t.heap) (gA G H0.size)) 0 0 (gA G H0.size) := by
  refine Met.ofW (cc := cX12_acres) (maxL := 4) (ret := (some .int)) (by decide) rfl ?_
  intro p e s m args below meth c s₁ B hml hv
  obtain ⟨rfl, hH0, hK, hE⟩ := hv
  have hx := B.exec
  have hb := B.bytes
  have hr := B.returns
  have hts := atoms_spec (ws := w_s_acres) B.pre
  have hown : s.vm.findClass RX12 = some m.cls := findClass_of_methodNamed B.named
  have hlocks := B.notSynchronized
  subst hH0
  generalize hAe : gA G s.heap.size = A at hE ⊢
  have hA : ∀ q : Nat, s.heap.size ≤ q → A q := fun q h => by rw [← hAe]; exact Or.inr h
  have hG := gA_of hAe
  have hS : va_S A s.heap s.heap [] := va_S.rf
  have hF : gF (dC, dI) SKm G ([] : List (Nat × Nat)) s.heap s.heap := gF.rf
  have hl := lv_entry ([.ref o0, .int pe]) (n := 4) (Nat.le_of_ble_eq_true rfl)
  rw [lg_entry_eq]
  generalize (lg_sl ([.ref o0, .int pe]) ++ List.replicate (4 - (lg_sl ([.ref o0, .int pe])).length) Slot.unset).toArray = ls at hl ⊢
  have hl : lv_has ls 4 [(0, .ref o0), (1, .int pe)] := hl
  refine lv_iconst (v := 0) hx hb dX12_acres_0 (by decide) ?_
  refine lv_istore_n (lv' := [(2, .int 0), (0, .ref o0), (1, .int pe)]) hx hb dX12_acres_1 rfl hl (by decide) rfl (fun ls hl => ?_)
  refine lv_iconst (v := 0) hx hb dX12_acres_2 (by decide) ?_
  refine lv_istore_n (lv' := [(3, .int 0), (2, .int 0), (0, .ref o0), (1, .int pe)]) hx hb dX12_acres_3 rfl hl (by decide) rfl (fun ls hl => ?_)
  have key41 : ∀ (n41 i1 : Nat), i1 + n41 = 96 → 0 ≤ i1 → ∀ (z2 : Int32), ∀ (H : Heap) (locs : List Loc), gH (dC, dI) kA (SHm q (wP wZ wN wH wB wC wL wK wU wV) PI im PM PT lS lB lE lN) G H → gF (dC, dI) SKm G ([] : List (Nat × Nat)) s.heap H → va_S A s.heap H locs → ∀ ls : Array Slot, lv_has ls 4 [(3, .int (nI i1)), (2, .int z2), (0, .ref o0), (1, .int pe)] → W p l e (headSpec w_s_acres ({ frames := 2, cells := 0, slots := 0, locals := 64 })).room s m #[.ref o0, .int pe] below meth c H locs 0 0 (MQ below (va_Qi (fun (r : Int32) (u : Unit) => True) (fun (_ : Unit) (t : State) => gH (dC, dI) kA (SHm q (wP wZ wN wH wB wC wL wK wU wV) PI im PM PT lS lB lE lN) G t.heap ∧ gF (dC, dI) SKm G ([] : List (Nat × Nat)) s.heap t.heap) A) #[.ref o0, .int pe] s 0 0 A) (F0 m 4 ls []) := by
    intro n41
    induction n41 with
    | zero =>
      intro i1 hn41 hlo42 z2 H locs hT hF hS  ls hl
      obtain rfl : 96 = i1 := by omega
      refine lv_iload_n hx hb dX12_acres_4 rfl (lv_at hl 0 rfl) ?_
      refine lv_bipush (v := 96) hx hb dX12_acres_5 (by decide) ?_
      refine lv_icmp_ge (tgt := 62) hx hb dX12_acres_7 (by decide) (fun c43 => ?_) (fun c43 => (by exfalso; have q9 : ((96 : Nat) : Int) < 96 := ti_nle c43 (by decide) (nI_toInt (by omega)); omega))
      have t44 : 96 ≤ ((96 : Nat) : Int) := ti_le c43 (by decide) (nI_toInt (by omega))
      refine lv_iload_n hx hb dX12_acres_62 rfl (lv_at hl 1 rfl) ?_
      exact W.iret (v := z2) hx hb hr (fun t ht hW => ⟨⟨z2, (), rfl, (by exact trivial), by (try dsimp only); rw [ht]; exact ⟨hT, hF⟩⟩, hS.F ht⟩) hS.2.2 dX12_acres_63
    | succ n41 ih41 =>
      intro i1 hn41 hlo42 z2 H locs hT hF hS  ls hl
      have hlt44 : i1 < 96 := by omega
      refine lv_iload_n hx hb dX12_acres_4 rfl (lv_at hl 0 rfl) ?_
      refine lv_bipush (v := 96) hx hb dX12_acres_5 (by decide) ?_
      refine lv_icmp_ge (tgt := 62) hx hb dX12_acres_7 (by decide) (fun c45 => (by exfalso; have q9 : 96 ≤ ((i1 : Nat) : Int) := ti_le c45 (by decide) (nI_toInt (by omega)); omega)) (fun c45 => ?_)
      have t46 : ((i1 : Nat) : Int) < 96 := ti_nle c45 (by decide) (nI_toInt (by omega))
      refine lv_aload_n hx hb dX12_acres_10 rfl (lv_at hl 2 rfl) ?_
      refine tw_get hx hb hts bF_X12 hown hK hT hr_o0 shm_0 rfl 38 (by decide) (ht_at hts 0 rfl) (fun _ h9 => h9) dX12_acres_11 (fun v9 m47 h9 => ?_)
      obtain ⟨rfl, hg48⟩ := h9 _ rfl
      refine lv_iload_n hx hb dX12_acres_14 rfl (lv_at hl 3 rfl) ?_
      refine tw_iald (i := pe) hx hb hK hT hg48 shm_39 rfl (vin_t (a := pe.toInt) rfl (by omega) (by omega)) dX12_acres_15 (fun v9 m49 h9 => ?_)
      obtain ⟨x50, rfl, gx50, kx50⟩ := h9
      refine lv_if_lt (tgt := 62) hx hb dX12_acres_16 (by decide) (fun c51 => ?_) (fun c51 => ?_)
      · have t52 : x50.toInt < 0 := ti_lt c51 rfl (by decide)
        refine lv_iload_n hx hb dX12_acres_62 rfl (lv_at hl 1 rfl) ?_
        exact W.iret (v := z2) hx hb hr (fun t ht hW => ⟨⟨z2, (), rfl, (by exact trivial), by (try dsimp only); rw [ht]; exact ⟨hT, hF⟩⟩, hS.F ht⟩) hS.2.2 dX12_acres_63
      · have t53 : 0 ≤ x50.toInt := ti_nlt c51 rfl (by decide)
        refine lv_iload_n hx hb dX12_acres_19 rfl (lv_at hl 1 rfl) ?_
        refine lv_iload_n hx hb dX12_acres_20 rfl (lv_at hl 0 rfl) ?_
        refine lv_aload_n hx hb dX12_acres_21 rfl (lv_at hl 2 rfl) ?_
        refine tw_get hx hb hts bF_X12 hown hK hT hr_o0 shm_0 rfl 43 (by decide) (ht_at hts 1 rfl) (fun _ h9 => h9) dX12_acres_22 (fun v9 m54 h9 => ?_)
        obtain ⟨rfl, hg55⟩ := h9 _ rfl
        refine lv_aload_n hx hb dX12_acres_25 rfl (lv_at hl 2 rfl) ?_
        refine tw_get hx hb hts bF_X12 hown hK hT hr_o0 shm_0 rfl 38 (by decide) (ht_at hts 0 rfl) (fun _ h9 => h9) dX12_acres_26 (fun v9 m56 h9 => ?_)
        obtain ⟨rfl, hg57⟩ := h9 _ rfl
        refine lv_iload_n hx hb dX12_acres_29 rfl (lv_at hl 3 rfl) ?_
        refine tw_iald (i := pe) hx hb hK hT hg48 shm_39 rfl (vin_t (a := pe.toInt) rfl (by omega) (by omega)) dX12_acres_30 (fun v9 m58 h9 => ?_)
        obtain ⟨x59, rfl, gx59, kx59⟩ := h9
        obtain rfl : x50 = x59 := (el_same m58 m49 rfl).symm
        refine tw_iald (i := x50) hx hb hK hT hg55 shm_44 rfl (vin_t (a := x50.toInt) rfl (by omega) (by omega)) dX12_acres_31 (fun v9 m60 h9 => ?_)
        obtain ⟨x61, rfl, gx61, kx61⟩ := h9
        refine lv_aload_n hx hb dX12_acres_32 rfl (lv_at hl 2 rfl) ?_
        refine tw_get hx hb hts bF_X12 hown hK hT hr_o0 shm_0 rfl 44 (by decide) (ht_at hts 2 rfl) (fun _ h9 => h9) dX12_acres_33 (fun v9 m62 h9 => ?_)
        obtain ⟨rfl, hg63⟩ := h9 _ rfl
        refine lv_aload_n hx hb dX12_acres_36 rfl (lv_at hl 2 rfl) ?_
        refine tw_get hx hb hts bF_X12 hown hK hT hr_o0 shm_0 rfl 38 (by decide) (ht_at hts 0 rfl) (fun _ h9 => h9) dX12_acres_37 (fun v9 m64 h9 => ?_)
        obtain ⟨rfl, hg65⟩ := h9 _ rfl
        refine lv_iload_n hx hb dX12_acres_40 rfl (lv_at hl 3 rfl) ?_
        refine tw_iald (i := pe) hx hb hK hT hg48 shm_39 rfl (vin_t (a := pe.toInt) rfl (by omega) (by omega)) dX12_acres_41 (fun v9 m66 h9 => ?_)
        obtain ⟨x67, rfl, gx67, kx67⟩ := h9
        obtain rfl : x50 = x67 := (el_same m66 m49 rfl).symm
        refine tw_iald (i := x50) hx hb hK hT hg63 shm_45 rfl (vin_t (a := x50.toInt) rfl (by omega) (by omega)) dX12_acres_42 (fun v9 m68 h9 => ?_)
        obtain ⟨x69, rfl, gx69, kx69⟩ := h9
        have hFc := gA_free hG hA hS
        refine va_calli (va_runS (As := [.int (nI i1), .int x61, .int x69]) (rest := [.int z2]) ⟨hx, hb, hml, hown, hts⟩ (s_isIn l dC dI kA adK adV G H q wZ wN wH wB wC wL wK wU wV PI im PM PT lS lB lE lN (nI i1) x61 x69 hT hgz hgn hgh hgb hgc hgi hgu) (va_cwS 3 hts (goodIn_app (goodIn_r _ [16, 17, 15] rfl (by decide +kernel)) (goodIn_ca (goodIn_r _ [4, 5, 6, 7, 8, 9, 10, 11, 12, 13, 14, 15] rfl (by decide +kernel)) (bs_in _ _))) rfl rfl rfl (by decide +kernel) ⟨(Nat.le_of_ble_eq_true rfl), (Nat.le_of_ble_eq_true rfl)⟩) ⟨fun a U g mk q => by obtain ⟨q0, q1, qK, qE⟩ := q; exact ⟨q0, q1, va_K.moved (u := U) (U := U.calling g mk a) (Vm.Alike.refl U.vm) qK, EVS.blind g mk a qE⟩, fun U hU hW => ⟨rfl, hU, va_K.moved hW.alike hK, hE.call hS hFc hU hW⟩⟩ rfl rfl hl.1 rfl (lv_room (Nat.le_of_ble_eq_true rfl)) dX12_acres_43 ⟨(Nat.le_of_ble_eq_true rfl), (Nat.le_of_ble_eq_true rfl)⟩) hS (fun q _ h => hFc q h) hFc (fun r70 u t H locs ht hvm hw71 hB _ _ hS => ?_)
        obtain ⟨hT, hF1⟩ := hB
        rw [ht] at hT hF1
        have hF := hF.more hF1 (by decide)
        try dsimp only at hw71
        have h75 := hw71
        refine lv_if_eq (tgt := 53) hx hb dX12_acres_46 (by decide) (fun c76 => ?_) (fun c76 => ?_)
        · have t77 : r70.toInt = 0 := ti_eq c76 rfl (by decide)
          refine lv_iconst (v := 0) hx hb dX12_acres_53 (by decide) ?_
          refine lv_iadd hx hb dX12_acres_54 ?_
          refine lv_topi (fun x78 ex78 => ?_)
          have t79 : -2147483648 ≤ z2.toInt ∧ z2.toInt ≤ 2147483647 := ti_all z2
          have t80 : x78.toInt = z2.toInt + 0 := ti_add ex78 rfl (by decide) (by omega) (by omega)
          refine lv_istore_n (lv' := [(2, .int x78), (3, .int (nI i1)), (0, .ref o0), (1, .int pe)]) hx hb dX12_acres_55 rfl hl (by decide) rfl (fun ls hl => ?_)
          refine lv_iinc (v := nI (i1 + 1)) (lv' := [(3, .int (nI (i1 + 1))), (2, .int x78), (0, .ref o0), (1, .int pe)]) hx hb dX12_acres_56 hl (k := 1) rfl (nI_add i1 1) (by decide) rfl (fun ls hl => ?_)
          refine lv_goto (tgt := 4) hx hb dX12_acres_59 (by decide) ?_
          exact ih41 (i1 + 1) (by omega) (by omega) x78 _ _ hT hF hS ls (lv_sub hl [0, 1, 2, 3] rfl)
        · have t81 : r70.toInt ≠ 0 := ti_ne c76 rfl (by decide)
          refine lv_iconst (v := 1) hx hb dX12_acres_49 (by decide) ?_
          refine lv_goto (tgt := 54) hx hb dX12_acres_50 (by decide) ?_
          refine lv_iadd hx hb dX12_acres_54 ?_
          refine lv_topi (fun x82 ex82 => ?_)
          refine lv_istore_n (lv' := [(2, .int x82), (3, .int (nI i1)), (0, .ref o0), (1, .int pe)]) hx hb dX12_acres_55 rfl hl (by decide) rfl (fun ls hl => ?_)
          refine lv_iinc (v := nI (i1 + 1)) (lv' := [(3, .int (nI (i1 + 1))), (2, .int x82), (0, .ref o0), (1, .int pe)]) hx hb dX12_acres_56 hl (k := 1) rfl (nI_add i1 1) (by decide) rfl (fun ls hl => ?_)
          refine lv_goto (tgt := 4) hx hb dX12_acres_59 (by decide) ?_
          exact ih41 (i1 + 1) (by omega) (by omega) x82 _ _ hT hF hS ls (lv_sub hl [0, 1, 2, 3] rfl)
  exact key41 (96 - 0) 0 (by omega) (Nat.le_refl _) 0 _ _ hT hF hS ls (lv_sub hl [0, 1, 2, 3] rfl)
def w_s_near : List Cond := .code yX12_near cX12_near 5 (some .int) :: (HAppend.hAppend (α := List Cond) (β := List Cond) (γ := List Cond) [.fieldLink RX12 101 "SeaLandModel" "holds" "[I", .fieldLink RX12 113 "SeaLandModel" "farmFrom" "[I", .fieldLink RX12 116 "SeaLandModel" "farmTo" "[I", .code yX12_isIn cX12_isIn 5 (some .boolean), .methodLink RX12 207 Lib.Math.min.name, .static Lib.Math.min.name, .initialized "java/lang/Math", .code Lib.Math.min.name Lib.Math.min.code 2 (some .int), .methodLink RX12 211 Lib.Math.max.name, .static Lib.Math.max.name, .code Lib.Math.max.name Lib.Math.max.code 2 (some .int), .code yX12_in cX12_in 3 (some .boolean), .methodLink RX12 197 yX12_in, .static yX12_in, .initialized RX12, .methodLink RX12 232 yX12_isIn, .static yX12_isIn, .fieldLink RX12 9 "SeaLandModel" "world" "[I", .code yX12_isDike cX12_isDike 2 (some .boolean), .code yX12_of cX12_of 3 (some .int), .code yX12_at cX12_at 2 (some .int), .methodLink RX12 214 yX12_at, .static yX12_at, .methodLink RX12 217 yX12_of, .instanceMethod yX12_of, .selects RX12 yX12_of yX12_of, .methodLink RX12 272 yX12_isDike, .instanceMethod yX12_isDike, .selects RX12 yX12_isDike yX12_isDike, .code yX12_steps cX12_steps 2 (some .int), .methodLink RX12 201 Lib.Math.abs.name, .static Lib.Math.abs.name, .code Lib.Math.abs.name Lib.Math.abs.code 1 (some .int), .methodLink RX12 262 yX12_steps, .static yX12_steps] bs)
set_option maxHeartbeats 4000000 in
set_option maxRecDepth 100000 in
theorem s_near (l : Launch) (dC : Nat → ClassId) (dI : Nat → Nat → Nat) (kA : Nat → ClassId) (adK adV : Nat → Nat) (G : gT) (H0 : Heap) (q : Nat → Nat) (wZ wN : Nat → Int) (wH wB wC : Int) (wL wK : Nat → Prop) (wU wV : Nat → Nat) (PI : Nat → Int → Prop) (im : Int) (PM PT : Nat → Int → Prop) (lS lB lE : Nat → Nat → Int → Prop) (lN : Nat → Int) (o0 : Nat) (pe : Int32)  (hT : gH (dC, dI) kA (SHm q (wP wZ wN wH wB wC wL wK wU wV) PI im PM PT lS lB lE lN) G H0) (hr_o0 : G o0 = some 0) (hq0 : 0 ≤ pe.toInt ∧ pe.toInt ≤ 59) (hgz : ∀ i, 0 ≤ wZ i) (hgn : ∀ i, 6500000 ≤ wN i ∧ wN i ≤ 20200000) (hgh : 0 ≤ wH ∧ wH ≤ 40000) (hgb : 0 ≤ wB ∧ wB ≤ 3850000) (hgc : 0 ≤ wC ∧ wC ≤ 30) (hgi : 0 ≤ im ∧ im ≤ 1) (hgu : ∀ a t, G a = some (t + 1) → a = q t) : Met l yX12_near w_s_near ({ frames := 3, cells := 0, slots := 0, locals := 64 }) (va_Pc [.ref o0, .int pe] (fun U => U.heap = H0 ∧ va_K (dC, dI) vwCl (tyl kA) U ∧ EVS adK adV (gA G H0.size) U U.heap)) (va_Qi (fun (r : Int32) (u : Unit) => (-2147483648 ≤ r.toInt ∧ r.toInt ≤ 99)) (fun (_ : Unit) (t : State) => gH (dC, dI) kA (SHm q (wP wZ wN wH wB wC wL wK wU wV) PI im PM PT lS lB lE lN) G t.heap ∧ gF (dC, dI) SKm G ([] : List (Nat × Nat)) H0 t.heap) (gA G H0.size)) 0 0 (gA G H0.size) := by
  refine Met.ofW (cc := cX12_near) (maxL := 5) (ret := (some .int)) (by decide) rfl ?_
  intro p e s m args below meth c s₁ B hml hv
  obtain ⟨rfl, hH0, hK, hE⟩ := hv
  have hx := B.exec
  have hb := B.bytes
  have hr := B.returns
  have hts := atoms_spec (ws := w_s_near) B.pre
  have hown : s.vm.findClass RX12 = some m.cls := findClass_of_methodNamed B.named
  have hlocks := B.notSynchronized
  subst hH0
  generalize hAe : gA G s.heap.size = A at hE ⊢
  have hA : ∀ q : Nat, s.heap.size ≤ q → A q := fun q h => by rw [← hAe]; exact Or.inr h
  have hG := gA_of hAe
  have hS : va_S A s.heap s.heap [] := va_S.rf
  have hF : gF (dC, dI) SKm G ([] : List (Nat × Nat)) s.heap s.heap := gF.rf
  have hl := lv_entry ([.ref o0, .int pe]) (n := 5) (Nat.le_of_ble_eq_true rfl)
  rw [lg_entry_eq]
  generalize (lg_sl ([.ref o0, .int pe]) ++ List.replicate (5 - (lg_sl ([.ref o0, .int pe])).length) Slot.unset).toArray = ls at hl ⊢
  have hl : lv_has ls 5 [(0, .ref o0), (1, .int pe)] := hl
  refine lv_bipush (v := 99) hx hb dX12_near_0 (by decide) ?_
  refine lv_istore_n (lv' := [(2, .int 99), (0, .ref o0), (1, .int pe)]) hx hb dX12_near_2 rfl hl (by decide) rfl (fun ls hl => ?_)
  refine lv_iconst (v := 0) hx hb dX12_near_3 (by decide) ?_
  refine lv_istore_n (lv' := [(3, .int 0), (2, .int 99), (0, .ref o0), (1, .int pe)]) hx hb dX12_near_4 rfl hl (by decide) rfl (fun ls hl => ?_)
  have key132 : ∀ (n132 i1 : Nat), i1 + n132 = 96 → 0 ≤ i1 → ∀ (z2 : Int32), ((-2147483648 ≤ z2.toInt ∧ z2.toInt ≤ 99)) → ∀ (H : Heap) (locs : List Loc), gH (dC, dI) kA (SHm q (wP wZ wN wH wB wC wL wK wU wV) PI im PM PT lS lB lE lN) G H → gF (dC, dI) SKm G ([] : List (Nat × Nat)) s.heap H → va_S A s.heap H locs → ∀ ls : Array Slot, lv_has ls 5 [(3, .int (nI i1)), (2, .int z2), (0, .ref o0), (1, .int pe)] → W p l e (headSpec w_s_near ({ frames := 3, cells := 0, slots := 0, locals := 64 })).room s m #[.ref o0, .int pe] below meth c H locs 0 0 (MQ below (va_Qi (fun (r : Int32) (u : Unit) => (-2147483648 ≤ r.toInt ∧ r.toInt ≤ 99)) (fun (_ : Unit) (t : State) => gH (dC, dI) kA (SHm q (wP wZ wN wH wB wC wL wK wU wV) PI im PM PT lS lB lE lN) G t.heap ∧ gF (dC, dI) SKm G ([] : List (Nat × Nat)) s.heap t.heap) A) #[.ref o0, .int pe] s 0 0 A) (F0 m 5 ls []) := by
    intro n132
    induction n132 with
    | zero =>
      intro i1 hn132 hlo133 z2 h3 H locs hT hF hS  ls hl
      obtain rfl : 96 = i1 := by omega
      refine lv_iload_n hx hb dX12_near_5 rfl (lv_at hl 0 rfl) ?_
      refine lv_bipush (v := 96) hx hb dX12_near_6 (by decide) ?_
      refine lv_icmp_ge (tgt := 105) hx hb dX12_near_8 (by decide) (fun c134 => ?_) (fun c134 => (by exfalso; have q9 : ((96 : Nat) : Int) < 96 := ti_nle c134 (by decide) (nI_toInt (by omega)); omega))
      have t135 : 96 ≤ ((96 : Nat) : Int) := ti_le c134 (by decide) (nI_toInt (by omega))
      refine lv_iload_n hx hb dX12_near_105 rfl (lv_at hl 1 rfl) ?_
      exact W.iret (v := z2) hx hb hr (fun t ht hW => ⟨⟨z2, (), rfl, (by exact (by have q8 := ti_all z2; omega)), by (try dsimp only); rw [ht]; exact ⟨hT, hF⟩⟩, hS.F ht⟩) hS.2.2 dX12_near_106
    | succ n132 ih132 =>
      intro i1 hn132 hlo133 z2 h3 H locs hT hF hS  ls hl
      have hlt135 : i1 < 96 := by omega
      refine lv_iload_n hx hb dX12_near_5 rfl (lv_at hl 0 rfl) ?_
      refine lv_bipush (v := 96) hx hb dX12_near_6 (by decide) ?_
      refine lv_icmp_ge (tgt := 105) hx hb dX12_near_8 (by decide) (fun c136 => (by exfalso; have q9 : 96 ≤ ((i1 : Nat) : Int) := ti_le c136 (by decide) (nI_toInt (by omega)); omega)) (fun c136 => ?_)
      have t137 : ((i1 : Nat) : Int) < 96 := ti_nle c136 (by decide) (nI_toInt (by omega))
      refine lv_aload_n hx hb dX12_near_11 rfl (lv_at hl 2 rfl) ?_
      refine tw_get hx hb hts bF_X12 hown hK hT hr_o0 shm_0 rfl 38 (by decide) (ht_at hts 0 rfl) (fun _ h9 => h9) dX12_near_12 (fun v9 m138 h9 => ?_)
      obtain ⟨rfl, hg139⟩ := h9 _ rfl
      refine lv_iload_n hx hb dX12_near_15 rfl (lv_at hl 3 rfl) ?_
      refine tw_iald (i := pe) hx hb hK hT hg139 shm_39 rfl (vin_t (a := pe.toInt) rfl (by omega) (by omega)) dX12_near_16 (fun v9 m140 h9 => ?_)
      obtain ⟨x141, rfl, gx141, kx141⟩ := h9
      refine lv_if_lt (tgt := 105) hx hb dX12_near_17 (by decide) (fun c142 => ?_) (fun c142 => ?_)
      · have t143 : x141.toInt < 0 := ti_lt c142 rfl (by decide)
        refine lv_iload_n hx hb dX12_near_105 rfl (lv_at hl 1 rfl) ?_
        exact W.iret (v := z2) hx hb hr (fun t ht hW => ⟨⟨z2, (), rfl, (by exact (by have q8 := ti_all z2; omega)), by (try dsimp only); rw [ht]; exact ⟨hT, hF⟩⟩, hS.F ht⟩) hS.2.2 dX12_near_106
      · have t144 : 0 ≤ x141.toInt := ti_nlt c142 rfl (by decide)
        refine lv_iload_n hx hb dX12_near_20 rfl (lv_at hl 0 rfl) ?_
        refine lv_aload_n hx hb dX12_near_21 rfl (lv_at hl 2 rfl) ?_
        refine tw_get hx hb hts bF_X12 hown hK hT hr_o0 shm_0 rfl 43 (by decide) (ht_at hts 1 rfl) (fun _ h9 => h9) dX12_near_22 (fun v9 m145 h9 => ?_)
        obtain ⟨rfl, hg146⟩ := h9 _ rfl
        refine lv_aload_n hx hb dX12_near_25 rfl (lv_at hl 2 rfl) ?_
        refine tw_get hx hb hts bF_X12 hown hK hT hr_o0 shm_0 rfl 38 (by decide) (ht_at hts 0 rfl) (fun _ h9 => h9) dX12_near_26 (fun v9 m147 h9 => ?_)
        obtain ⟨rfl, hg148⟩ := h9 _ rfl
        refine lv_iload_n hx hb dX12_near_29 rfl (lv_at hl 3 rfl) ?_
        refine tw_iald (i := pe) hx hb hK hT hg139 shm_39 rfl (vin_t (a := pe.toInt) rfl (by omega) (by omega)) dX12_near_30 (fun v9 m149 h9 => ?_)
        obtain ⟨x150, rfl, gx150, kx150⟩ := h9
        obtain rfl : x141 = x150 := (el_same m149 m140 rfl).symm
        refine tw_iald (i := x141) hx hb hK hT hg146 shm_44 rfl (vin_t (a := x141.toInt) rfl (by omega) (by omega)) dX12_near_31 (fun v9 m151 h9 => ?_)
        obtain ⟨x152, rfl, gx152, kx152⟩ := h9
        refine lv_aload_n hx hb dX12_near_32 rfl (lv_at hl 2 rfl) ?_
        refine tw_get hx hb hts bF_X12 hown hK hT hr_o0 shm_0 rfl 44 (by decide) (ht_at hts 2 rfl) (fun _ h9 => h9) dX12_near_33 (fun v9 m153 h9 => ?_)
        obtain ⟨rfl, hg154⟩ := h9 _ rfl
        refine lv_aload_n hx hb dX12_near_36 rfl (lv_at hl 2 rfl) ?_
        refine tw_get hx hb hts bF_X12 hown hK hT hr_o0 shm_0 rfl 38 (by decide) (ht_at hts 0 rfl) (fun _ h9 => h9) dX12_near_37 (fun v9 m155 h9 => ?_)
        obtain ⟨rfl, hg156⟩ := h9 _ rfl
        refine lv_iload_n hx hb dX12_near_40 rfl (lv_at hl 3 rfl) ?_
        refine tw_iald (i := pe) hx hb hK hT hg139 shm_39 rfl (vin_t (a := pe.toInt) rfl (by omega) (by omega)) dX12_near_41 (fun v9 m157 h9 => ?_)
        obtain ⟨x158, rfl, gx158, kx158⟩ := h9
        obtain rfl : x141 = x158 := (el_same m157 m140 rfl).symm
        refine tw_iald (i := x141) hx hb hK hT hg154 shm_45 rfl (vin_t (a := x141.toInt) rfl (by omega) (by omega)) dX12_near_42 (fun v9 m159 h9 => ?_)
        obtain ⟨x160, rfl, gx160, kx160⟩ := h9
        have hFc := gA_free hG hA hS
        refine va_calli (va_runS (As := [.int (nI i1), .int x152, .int x160]) (rest := []) ⟨hx, hb, hml, hown, hts⟩ (s_isIn l dC dI kA adK adV G H q wZ wN wH wB wC wL wK wU wV PI im PM PT lS lB lE lN (nI i1) x152 x160 hT hgz hgn hgh hgb hgc hgi hgu) (va_cwS 3 hts (goodIn_app (goodIn_r _ [16, 17, 15] rfl (by decide +kernel)) (goodIn_ca (goodIn_r _ [4, 5, 6, 7, 8, 9, 10, 11, 12, 13, 14, 15] rfl (by decide +kernel)) (bs_in _ _))) rfl rfl rfl (by decide +kernel) ⟨(Nat.le_of_ble_eq_true rfl), (Nat.le_of_ble_eq_true rfl)⟩) ⟨fun a U g mk q => by obtain ⟨q0, q1, qK, qE⟩ := q; exact ⟨q0, q1, va_K.moved (u := U) (U := U.calling g mk a) (Vm.Alike.refl U.vm) qK, EVS.blind g mk a qE⟩, fun U hU hW => ⟨rfl, hU, va_K.moved hW.alike hK, hE.call hS hFc hU hW⟩⟩ rfl rfl hl.1 rfl (lv_room (Nat.le_of_ble_eq_true rfl)) dX12_near_43 ⟨(Nat.le_of_ble_eq_true rfl), (Nat.le_of_ble_eq_true rfl)⟩) hS (fun q _ h => hFc q h) hFc (fun r161 u t H locs ht hvm hw162 hB _ _ hS => ?_)
        obtain ⟨hT, hF1⟩ := hB
        rw [ht] at hT hF1
        have m163 := (el_kept (hF1.arr hg139 skm_39 (by decide))).trans m140
        have m164 := (el_kept (hF1.arr hg146 skm_44 (by decide))).trans m151
        have m165 := (el_kept (hF1.arr hg154 skm_45 (by decide))).trans m159
        have hF := hF.more hF1 (by decide)
        try dsimp only at hw162
        have h166 := hw162
        refine lv_if_ne (tgt := 52) hx hb dX12_near_46 (by decide) (fun c167 => ?_) (fun c167 => ?_)
        · have t168 : r161.toInt ≠ 0 := ti_ne c167 rfl (by decide)
          refine lv_iconst (v := 0) hx hb dX12_near_52 (by decide) ?_
          refine lv_istore (lv' := [(4, .int 0), (3, .int (nI i1)), (2, .int z2), (0, .ref o0), (1, .int pe)]) hx hb dX12_near_53 hl (by decide) rfl (fun ls hl => ?_)
          have key301 : ∀ (n301 i169 : Nat), i169 + n301 = 30 → 0 ≤ i169 → ∀ (z256 : Int32), ((-2147483648 ≤ z256.toInt ∧ z256.toInt ≤ 99)) → ∀ (H : Heap) (locs : List Loc), gH (dC, dI) kA (SHm q (wP wZ wN wH wB wC wL wK wU wV) PI im PM PT lS lB lE lN) G H → gF (dC, dI) SKm G ([] : List (Nat × Nat)) s.heap H → va_S A s.heap H locs → el H (q 38) pe.toNatClampNeg = some (.int x141) → el H (q 43) x141.toNatClampNeg = some (.int x152) → el H (q 44) x141.toNatClampNeg = some (.int x160) → ∀ ls : Array Slot, lv_has ls 5 [(4, .int (nI i169)), (3, .int (nI i1)), (2, .int z256), (0, .ref o0), (1, .int pe)] → W p l e (headSpec w_s_near ({ frames := 3, cells := 0, slots := 0, locals := 64 })).room s m #[.ref o0, .int pe] below meth c H locs 0 0 (MQ below (va_Qi (fun (r : Int32) (u : Unit) => (-2147483648 ≤ r.toInt ∧ r.toInt ≤ 99)) (fun (_ : Unit) (t : State) => gH (dC, dI) kA (SHm q (wP wZ wN wH wB wC wL wK wU wV) PI im PM PT lS lB lE lN) G t.heap ∧ gF (dC, dI) SKm G ([] : List (Nat × Nat)) s.heap t.heap) A) #[.ref o0, .int pe] s 0 0 A) (F0 m 55 ls []) := by
            intro n301
            induction n301 with
            | zero =>
              intro i169 hn301 hlo302 z256 h257 H locs hT hF hS m258 m259 m260 ls hl
              obtain rfl : 30 = i169 := by omega
              refine lv_iload hx hb dX12_near_55 (lv_at hl 0 rfl) ?_
              refine lv_aload_n hx hb dX12_near_57 rfl (lv_at hl 3 rfl) ?_
              refine tw_get hx hb hts bF_X12 hown hK hT hr_o0 shm_0 rfl 1 (by decide) (ht_at hts 17 rfl) (fun _ h9 => h9) dX12_near_58 (fun v9 m303 h9 => ?_)
              obtain ⟨rfl, hg304⟩ := h9 _ rfl
              refine lv_sipush (v := 1428) hx hb dX12_near_61 (by decide) ?_
              refine tw_iald (i := 1428) hx hb hK hT hg304 shm_2 rfl (by unfold vp_in; decide) dX12_near_64 (fun v9 m305 h9 => ?_)
              obtain ⟨x306, rfl, gx306, kx306⟩ := (gp_at h9 (w_wct (by have q9 := tn_of (show (1428 : Int32).toInt = 1428 from (by decide)) (show (0 : Int) ≤ 1428 from by omega); omega)))
              refine lv_icmp_ge (tgt := 99) hx hb dX12_near_65 (by decide) (fun c307 => ?_) (fun c307 => (by exfalso; have q9 : ((30 : Nat) : Int) < x306.toInt := ti_nle c307 rfl (nI_toInt (by omega)); omega))
              have t308 : x306.toInt ≤ ((30 : Nat) : Int) := ti_le c307 rfl (nI_toInt (by omega))
              refine lv_iinc (v := nI (i1 + 1)) (lv' := [(3, .int (nI (i1 + 1))), (4, .int (nI 30)), (2, .int z256), (0, .ref o0), (1, .int pe)]) hx hb dX12_near_99 hl (k := 1) rfl (nI_add i1 1) (by decide) rfl (fun ls hl => ?_)
              refine lv_goto (tgt := 5) hx hb dX12_near_102 (by decide) ?_
              exact ih132 (i1 + 1) (by omega) (by omega) z256 (by have q8 := ti_all z256; omega) _ _ hT hF hS ls (lv_sub hl [0, 2, 3, 4] rfl)
            | succ n301 ih301 =>
              intro i169 hn301 hlo302 z256 h257 H locs hT hF hS m258 m259 m260 ls hl
              have hlt308 : i169 < 30 := by omega
              refine lv_iload hx hb dX12_near_55 (lv_at hl 0 rfl) ?_
              refine lv_aload_n hx hb dX12_near_57 rfl (lv_at hl 3 rfl) ?_
              refine tw_get hx hb hts bF_X12 hown hK hT hr_o0 shm_0 rfl 1 (by decide) (ht_at hts 17 rfl) (fun _ h9 => h9) dX12_near_58 (fun v9 m309 h9 => ?_)
              obtain ⟨rfl, hg310⟩ := h9 _ rfl
              refine lv_sipush (v := 1428) hx hb dX12_near_61 (by decide) ?_
              refine tw_iald (i := 1428) hx hb hK hT hg310 shm_2 rfl (by unfold vp_in; decide) dX12_near_64 (fun v9 m311 h9 => ?_)
              obtain ⟨x312, rfl, gx312, kx312⟩ := (gp_at h9 (w_wct (by have q9 := tn_of (show (1428 : Int32).toInt = 1428 from (by decide)) (show (0 : Int) ≤ 1428 from by omega); omega)))
              refine lv_icmp_ge (tgt := 99) hx hb dX12_near_65 (by decide) (fun c313 => ?_) (fun c313 => ?_)
              · have t314 : x312.toInt ≤ ((i169 : Nat) : Int) := ti_le c313 rfl (nI_toInt (by omega))
                refine lv_iinc (v := nI (i1 + 1)) (lv' := [(3, .int (nI (i1 + 1))), (4, .int (nI i169)), (2, .int z256), (0, .ref o0), (1, .int pe)]) hx hb dX12_near_99 hl (k := 1) rfl (nI_add i1 1) (by decide) rfl (fun ls hl => ?_)
                refine lv_goto (tgt := 5) hx hb dX12_near_102 (by decide) ?_
                exact ih132 (i1 + 1) (by omega) (by omega) z256 (by have q8 := ti_all z256; omega) _ _ hT hF hS ls (lv_sub hl [0, 2, 3, 4] rfl)
              · have t315 : ((i169 : Nat) : Int) < x312.toInt := ti_nle c313 rfl (nI_toInt (by omega))
                refine lv_aload_n hx hb dX12_near_68 rfl (lv_at hl 3 rfl) ?_
                refine lv_iload hx hb dX12_near_69 (lv_at hl 0 rfl) ?_
                have hFc := gA_free hG hA hS
                refine va_calli (va_runV (As := [.int (nI i169)]) (rest := []) ⟨hx, hb, hml, hown, hts⟩ (s_isDike l dC dI kA adK adV G H q wZ wN wH wB wC wL wK wU wV PI im PM PT lS lB lE lN o0 (nI i169) hT hr_o0 (rg_t (a := ((i169 : Nat) : Int)) (nI_toInt (by omega)) (by omega) (by omega)) hgz hgn hgh hgb hgc hgi hgu) (cwV 1 hts (goodIn_app (goodIn_r _ [27, 28, 29, 15] rfl (by decide +kernel)) (goodIn_ca (goodIn_r _ [19, 20, 18, 21, 22, 23, 15, 24, 25, 26] rfl (by decide +kernel)) (bs_in _ _))) rfl rfl rfl (by decide +kernel) ⟨(Nat.le_of_ble_eq_true rfl), (Nat.le_of_ble_eq_true rfl)⟩) ⟨fun a U g mk q => by obtain ⟨q0, q1, qK, qE⟩ := q; exact ⟨q0, q1, va_K.moved (u := U) (U := U.calling g mk a) (Vm.Alike.refl U.vm) qK, EVS.blind g mk a qE⟩, gH_rc hK hT hr_o0 shm_0 rfl, fun U hU hW => ⟨rfl, hU, va_K.moved hW.alike hK, hE.call hS hFc hU hW⟩⟩ rfl rfl hl.1 rfl (lv_room (Nat.le_of_ble_eq_true rfl)) dX12_near_71 ⟨(Nat.le_of_ble_eq_true rfl), (Nat.le_of_ble_eq_true rfl)⟩) hS (fun q _ h => hFc q h) hFc (fun r316 u t H locs ht hvm hw317 hB _ _ hS => ?_)
                obtain ⟨hT, hF1⟩ := hB
                rw [ht] at hT hF1
                have m318 := (el_kept (hF1.arr hg139 skm_39 (by decide))).trans m258
                have m319 := (el_kept (hF1.arr hg146 skm_44 (by decide))).trans m259
                have m320 := (el_kept (hF1.arr hg154 skm_45 (by decide))).trans m260
                have hF := hF.more hF1 (by decide)
                try dsimp only at hw317
                obtain ⟨h322, hi323⟩ := hw317
                refine lv_if_eq (tgt := 93) hx hb dX12_near_74 (by decide) (fun c324 => ?_) (fun c324 => ?_)
                · have t325 : r316.toInt = 0 := ti_eq c324 rfl (by decide)
                  refine lv_iinc (v := nI (i169 + 1)) (lv' := [(4, .int (nI (i169 + 1))), (3, .int (nI i1)), (2, .int z256), (0, .ref o0), (1, .int pe)]) hx hb dX12_near_93 hl (k := 0) rfl (nI_add i169 1) (by decide) rfl (fun ls hl => ?_)
                  refine lv_goto (tgt := 55) hx hb dX12_near_96 (by decide) ?_
                  exact ih301 (i169 + 1) (by omega) (by omega) z256 (by have q8 := ti_all z256; omega) _ _ hT hF hS m318 m319 m320 ls (lv_sub hl [0, 1, 2, 3, 4] rfl)
                · have t326 : r316.toInt ≠ 0 := ti_ne c324 rfl (by decide)
                  have t327 : (nI i169).toInt = ((i169 : Nat) : Int) := nI_toInt (by omega)
                  have t328 : (nI i169).toInt < wC → wK (nI i169).toNatClampNeg := hi323 ((bit_of ⟨by omega, by omega⟩).resolve_left c324)
                  refine lv_iload_n hx hb dX12_near_77 rfl (lv_at hl 2 rfl) ?_
                  refine lv_iload_n hx hb dX12_near_78 rfl (lv_at hl 1 rfl) ?_
                  refine lv_aload_n hx hb dX12_near_79 rfl (lv_at hl 3 rfl) ?_
                  refine lv_iload hx hb dX12_near_80 (lv_at hl 0 rfl) ?_
                  refine lv_iconst (v := 1) hx hb dX12_near_82 (by decide) ?_
                  have hFc := gA_free hG hA hS
                  refine va_calli (va_runV (As := [.int (nI i169), .int 1]) (rest := [.int (nI i1), .int z256]) ⟨hx, hb, hml, hown, hts⟩ (s_of1 l dC dI kA adK adV G H q wZ wN wH wB wC wL wK wU wV PI im PM PT lS lB lE lN o0 (nI i169) hT hr_o0 (rg_t (a := ((i169 : Nat) : Int)) (nI_toInt (by omega)) (by omega) (by omega)) hgz hgn hgh hgb hgc hgi hgu) (cwV 2 hts (goodIn_app (goodIn_r _ [24, 25, 26, 15] rfl (by decide +kernel)) (goodIn_ca (goodIn_r _ [20, 18, 21, 22, 23, 15] rfl (by decide +kernel)) (bs_in _ _))) rfl rfl rfl (by decide +kernel) ⟨(Nat.le_of_ble_eq_true rfl), (Nat.le_of_ble_eq_true rfl)⟩) ⟨fun a U g mk q => by obtain ⟨q0, q1, qK, qE⟩ := q; exact ⟨q0, q1, va_K.moved (u := U) (U := U.calling g mk a) (Vm.Alike.refl U.vm) qK, EVS.blind g mk a qE⟩, gH_rc hK hT hr_o0 shm_0 rfl, fun U hU hW => ⟨rfl, hU, va_K.moved hW.alike hK, hE.call hS hFc hU hW⟩⟩ rfl rfl hl.1 rfl (lv_room (Nat.le_of_ble_eq_true rfl)) dX12_near_83 ⟨(Nat.le_of_ble_eq_true rfl), (Nat.le_of_ble_eq_true rfl)⟩) hS (fun q _ h => hFc q h) hFc (fun r329 u t H locs ht hvm hw330 hB _ _ hS => ?_)
                  obtain ⟨hT, hF1⟩ := hB
                  rw [ht] at hT hF1
                  have m331 := (el_kept (hF1.arr hg139 skm_39 (by decide))).trans m318
                  have m332 := (el_kept (hF1.arr hg146 skm_44 (by decide))).trans m319
                  have m333 := (el_kept (hF1.arr hg154 skm_45 (by decide))).trans m320
                  have hF := hF.more hF1 (by decide)
                  try dsimp only at hw330
                  obtain ⟨h335, ⟨ix336, hix336, m337⟩⟩ := hw330
                  have t338 : (nI i169).toInt = ((i169 : Nat) : Int) := nI_toInt (by omega)
                  have hFc := gA_free hG hA hS
                  refine va_calli (va_runS (As := [.int (nI i1), .int r329]) (rest := [.int z256]) ⟨hx, hb, hml, hown, hts⟩ (s_steps l dC dI kA adK adV G H q wZ wN wH wB wC wL wK wU wV PI im PM PT lS lB lE lN (nI i1) r329 hT hgz hgn hgh hgb hgc hgi hgu) (va_cwS 2 hts (goodIn_app (goodIn_r _ [34, 35, 15] rfl (by decide +kernel)) (goodIn_ca (goodIn_r _ [30, 31, 32, 7, 33] rfl (by decide +kernel)) (bs_in _ _))) rfl rfl rfl (by decide +kernel) ⟨(Nat.le_of_ble_eq_true rfl), (Nat.le_of_ble_eq_true rfl)⟩) ⟨fun a U g mk q => by obtain ⟨q0, q1, qK, qE⟩ := q; exact ⟨q0, q1, va_K.moved (u := U) (U := U.calling g mk a) (Vm.Alike.refl U.vm) qK, EVS.blind g mk a qE⟩, fun U hU hW => ⟨rfl, hU, va_K.moved hW.alike hK, hE.call hS hFc hU hW⟩⟩ rfl rfl hl.1 rfl (lv_room (Nat.le_of_ble_eq_true rfl)) dX12_near_86 ⟨(Nat.le_of_ble_eq_true rfl), (Nat.le_of_ble_eq_true rfl)⟩) hS (fun q _ h => hFc q h) hFc (fun r340 u t H locs ht hvm hw341 hB _ _ hS => ?_)
                  obtain ⟨hT, hF1⟩ := hB
                  rw [ht] at hT hF1
                  have m342 := (el_kept (hF1.arr hg139 skm_39 (by decide))).trans m331
                  have m343 := (el_kept (hF1.arr hg146 skm_44 (by decide))).trans m332
                  have m344 := (el_kept (hF1.arr hg154 skm_45 (by decide))).trans m333
                  have hF := hF.more hF1 (by decide)
                  try dsimp only at hw341
                  refine va_mmin hx hb (hml.trans hl.1.symm) hown (ht_at hts 4 rfl) (ht_at hts 5 rfl) (ht_at hts 6 rfl) (ht_at hts 7 rfl) (Nat.le_of_ble_eq_true rfl) (Nat.le_of_ble_eq_true rfl) (Nat.le_of_ble_eq_true rfl) (Nat.le_of_ble_eq_true rfl) dX12_near_89 ?_
                  refine lv_topi (fun x347 ex347 => ?_)
                  have t348 : x347.toInt ≤ z256.toInt ∧ x347.toInt ≤ r340.toInt ∧ (x347.toInt = z256.toInt ∨ x347.toInt = r340.toInt) := mn_f ex347 rfl rfl
                  refine lv_istore_n (lv' := [(2, .int x347), (4, .int (nI i169)), (3, .int (nI i1)), (0, .ref o0), (1, .int pe)]) hx hb dX12_near_92 rfl hl (by decide) rfl (fun ls hl => ?_)
                  refine lv_iinc (v := nI (i169 + 1)) (lv' := [(4, .int (nI (i169 + 1))), (2, .int x347), (3, .int (nI i1)), (0, .ref o0), (1, .int pe)]) hx hb dX12_near_93 hl (k := 1) rfl (nI_add i169 1) (by decide) rfl (fun ls hl => ?_)
                  refine lv_goto (tgt := 55) hx hb dX12_near_96 (by decide) ?_
                  exact ih301 (i169 + 1) (by omega) (by omega) x347 (by have q8 := ti_all x347; omega) _ _ hT hF hS m342 m343 m344 ls (lv_sub hl [0, 2, 1, 3, 4] rfl)
          exact key301 (30 - 0) 0 (by omega) (Nat.le_refl _) z2 (by have q8 := ti_all z2; omega) _ _ hT hF hS m163 m164 m165 ls (lv_sub hl [0, 1, 2, 3, 4] rfl)
        · have t349 : r161.toInt = 0 := ti_eq c167 rfl (by decide)
          refine lv_goto (tgt := 99) hx hb dX12_near_49 (by decide) ?_
          refine lv_iinc (v := nI (i1 + 1)) (lv' := [(3, .int (nI (i1 + 1))), (2, .int z2), (0, .ref o0), (1, .int pe)]) hx hb dX12_near_99 hl (k := 0) rfl (nI_add i1 1) (by decide) rfl (fun ls hl => ?_)
          refine lv_goto (tgt := 5) hx hb dX12_near_102 (by decide) ?_
          exact ih132 (i1 + 1) (by omega) (by omega) z2 (by have q8 := ti_all z2; omega) _ _ hT hF hS ls (lv_sub hl [0, 1, 2, 3] rfl)
  exact key132 (96 - 0) 0 (by omega) (Nat.le_refl _) 99 (rg_t (a := 99) (by decide) (by first | decide | omega) (by first | decide | omega)) _ _ hT hF hS ls (lv_sub hl [0, 1, 2, 3] rfl)
def w_s_worthOf : List Cond := .code yX12_worthOf cX12_worthOf 5 (some .int) :: (HAppend.hAppend (α := List Cond) (β := List Cond) (γ := List Cond) [.fieldLink RX12 113 "SeaLandModel" "farmFrom" "[I", .fieldLink RX12 116 "SeaLandModel" "farmTo" "[I", .code yX12_isIn cX12_isIn 5 (some .boolean), .methodLink RX12 207 Lib.Math.min.name, .static Lib.Math.min.name, .initialized "java/lang/Math", .code Lib.Math.min.name Lib.Math.min.code 2 (some .int), .methodLink RX12 211 Lib.Math.max.name, .static Lib.Math.max.name, .code Lib.Math.max.name Lib.Math.max.code 2 (some .int), .code yX12_in cX12_in 3 (some .boolean), .methodLink RX12 197 yX12_in, .static yX12_in, .initialized RX12, .methodLink RX12 232 yX12_isIn, .static yX12_isIn, .fieldLink RX12 9 "SeaLandModel" "world" "[I"] bs)
set_option maxHeartbeats 4000000 in
set_option maxRecDepth 100000 in
theorem s_worthOf (l : Launch) (dC : Nat → ClassId) (dI : Nat → Nat → Nat) (kA : Nat → ClassId) (adK adV : Nat → Nat) (G : gT) (H0 : Heap) (q : Nat → Nat) (wZ wN : Nat → Int) (wH wB wC : Int) (wL wK : Nat → Prop) (wU wV : Nat → Nat) (PI : Nat → Int → Prop) (im : Int) (PM PT : Nat → Int → Prop) (lS lB lE : Nat → Nat → Int → Prop) (lN : Nat → Int) (o0 : Nat) (fa : Int32)  (hT : gH (dC, dI) kA (SHm q (wP wZ wN wH wB wC wL wK wU wV) PI im PM PT lS lB lE lN) G H0) (hr_o0 : G o0 = some 0) (hq0 : 0 ≤ fa.toInt ∧ fa.toInt ≤ 29) (hgz : ∀ i, 0 ≤ wZ i) (hgn : ∀ i, 6500000 ≤ wN i ∧ wN i ≤ 20200000) (hgh : 0 ≤ wH ∧ wH ≤ 40000) (hgb : 0 ≤ wB ∧ wB ≤ 3850000) (hgc : 0 ≤ wC ∧ wC ≤ 30) (hgi : 0 ≤ im ∧ im ≤ 1) (hgu : ∀ a t, G a = some (t + 1) → a = q t) : Met l yX12_worthOf w_s_worthOf ({ frames := 2, cells := 0, slots := 0, locals := 64 }) (va_Pc [.ref o0, .int fa] (fun U => U.heap = H0 ∧ va_K (dC, dI) vwCl (tyl kA) U ∧ EVS adK adV (gA G H0.size) U U.heap)) (va_Qi (fun (r : Int32) (u : Unit) => True) (fun (_ : Unit) (t : State) => gH (dC, dI) kA (SHm q (wP wZ wN wH wB wC wL wK wU wV) PI im PM PT lS lB lE lN) G t.heap ∧ gF (dC, dI) SKm G ([] : List (Nat × Nat)) H0 t.heap) (gA G H0.size)) 0 0 (gA G H0.size) := by
  refine Met.ofW (cc := cX12_worthOf) (maxL := 5) (ret := (some .int)) (by decide) rfl ?_
  intro p e s m args below meth c s₁ B hml hv
  obtain ⟨rfl, hH0, hK, hE⟩ := hv
  have hx := B.exec
  have hb := B.bytes
  have hr := B.returns
  have hts := atoms_spec (ws := w_s_worthOf) B.pre
  have hown : s.vm.findClass RX12 = some m.cls := findClass_of_methodNamed B.named
  have hlocks := B.notSynchronized
  subst hH0
  generalize hAe : gA G s.heap.size = A at hE ⊢
  have hA : ∀ q : Nat, s.heap.size ≤ q → A q := fun q h => by rw [← hAe]; exact Or.inr h
  have hG := gA_of hAe
  have hS : va_S A s.heap s.heap [] := va_S.rf
  have hF : gF (dC, dI) SKm G ([] : List (Nat × Nat)) s.heap s.heap := gF.rf
  have hl := lv_entry ([.ref o0, .int fa]) (n := 5) (Nat.le_of_ble_eq_true rfl)
  rw [lg_entry_eq]
  generalize (lg_sl ([.ref o0, .int fa]) ++ List.replicate (5 - (lg_sl ([.ref o0, .int fa])).length) Slot.unset).toArray = ls at hl ⊢
  have hl : lv_has ls 5 [(0, .ref o0), (1, .int fa)] := hl
  refine lv_iconst (v := 0) hx hb dX12_worthOf_0 (by decide) ?_
  refine lv_istore_n (lv' := [(2, .int 0), (0, .ref o0), (1, .int fa)]) hx hb dX12_worthOf_1 rfl hl (by decide) rfl (fun ls hl => ?_)
  refine lv_iconst (v := 0) hx hb dX12_worthOf_2 (by decide) ?_
  refine lv_istore_n (lv' := [(3, .int 0), (2, .int 0), (0, .ref o0), (1, .int fa)]) hx hb dX12_worthOf_3 rfl hl (by decide) rfl (fun ls hl => ?_)
  have key64 : ∀ (n64 i1 : Nat), i1 + n64 = 96 → 0 ≤ i1 → ∀ (z2 : Int32), ∀ (H : Heap) (locs : List Loc), gH (dC, dI) kA (SHm q (wP wZ wN wH wB wC wL wK wU wV) PI im PM PT lS lB lE lN) G H → gF (dC, dI) SKm G ([] : List (Nat × Nat)) s.heap H → va_S A s.heap H locs → ∀ ls : Array Slot, lv_has ls 5 [(3, .int (nI i1)), (2, .int z2), (0, .ref o0), (1, .int fa)] → W p l e (headSpec w_s_worthOf ({ frames := 2, cells := 0, slots := 0, locals := 64 })).room s m #[.ref o0, .int fa] below meth c H locs 0 0 (MQ below (va_Qi (fun (r : Int32) (u : Unit) => True) (fun (_ : Unit) (t : State) => gH (dC, dI) kA (SHm q (wP wZ wN wH wB wC wL wK wU wV) PI im PM PT lS lB lE lN) G t.heap ∧ gF (dC, dI) SKm G ([] : List (Nat × Nat)) s.heap t.heap) A) #[.ref o0, .int fa] s 0 0 A) (F0 m 4 ls []) := by
    intro n64
    induction n64 with
    | zero =>
      intro i1 hn64 hlo65 z2 H locs hT hF hS  ls hl
      obtain rfl : 96 = i1 := by omega
      refine lv_iload_n hx hb dX12_worthOf_4 rfl (lv_at hl 0 rfl) ?_
      refine lv_bipush (v := 96) hx hb dX12_worthOf_5 (by decide) ?_
      refine lv_icmp_ge (tgt := 103) hx hb dX12_worthOf_7 (by decide) (fun c66 => ?_) (fun c66 => (by exfalso; have q9 : ((96 : Nat) : Int) < 96 := ti_nle c66 (by decide) (nI_toInt (by omega)); omega))
      have t67 : 96 ≤ ((96 : Nat) : Int) := ti_le c66 (by decide) (nI_toInt (by omega))
      refine lv_iload_n hx hb dX12_worthOf_103 rfl (lv_at hl 1 rfl) ?_
      exact W.iret (v := z2) hx hb hr (fun t ht hW => ⟨⟨z2, (), rfl, (by exact trivial), by (try dsimp only); rw [ht]; exact ⟨hT, hF⟩⟩, hS.F ht⟩) hS.2.2 dX12_worthOf_104
    | succ n64 ih64 =>
      intro i1 hn64 hlo65 z2 H locs hT hF hS  ls hl
      have hlt67 : i1 < 96 := by omega
      refine lv_iload_n hx hb dX12_worthOf_4 rfl (lv_at hl 0 rfl) ?_
      refine lv_bipush (v := 96) hx hb dX12_worthOf_5 (by decide) ?_
      refine lv_icmp_ge (tgt := 103) hx hb dX12_worthOf_7 (by decide) (fun c68 => (by exfalso; have q9 : 96 ≤ ((i1 : Nat) : Int) := ti_le c68 (by decide) (nI_toInt (by omega)); omega)) (fun c68 => ?_)
      have t69 : ((i1 : Nat) : Int) < 96 := ti_nle c68 (by decide) (nI_toInt (by omega))
      refine lv_iload_n hx hb dX12_worthOf_10 rfl (lv_at hl 0 rfl) ?_
      refine lv_aload_n hx hb dX12_worthOf_11 rfl (lv_at hl 2 rfl) ?_
      refine tw_get hx hb hts bF_X12 hown hK hT hr_o0 shm_0 rfl 43 (by decide) (ht_at hts 0 rfl) (fun _ h9 => h9) dX12_worthOf_12 (fun v9 m70 h9 => ?_)
      obtain ⟨rfl, hg71⟩ := h9 _ rfl
      refine lv_iload_n hx hb dX12_worthOf_15 rfl (lv_at hl 3 rfl) ?_
      refine tw_iald (i := fa) hx hb hK hT hg71 shm_44 rfl (vin_t (a := fa.toInt) rfl (by omega) (by omega)) dX12_worthOf_16 (fun v9 m72 h9 => ?_)
      obtain ⟨x73, rfl, gx73, kx73⟩ := h9
      refine lv_aload_n hx hb dX12_worthOf_17 rfl (lv_at hl 2 rfl) ?_
      refine tw_get hx hb hts bF_X12 hown hK hT hr_o0 shm_0 rfl 44 (by decide) (ht_at hts 1 rfl) (fun _ h9 => h9) dX12_worthOf_18 (fun v9 m74 h9 => ?_)
      obtain ⟨rfl, hg75⟩ := h9 _ rfl
      refine lv_iload_n hx hb dX12_worthOf_21 rfl (lv_at hl 3 rfl) ?_
      refine tw_iald (i := fa) hx hb hK hT hg75 shm_45 rfl (vin_t (a := fa.toInt) rfl (by omega) (by omega)) dX12_worthOf_22 (fun v9 m76 h9 => ?_)
      obtain ⟨x77, rfl, gx77, kx77⟩ := h9
      have hFc := gA_free hG hA hS
      refine va_calli (va_runS (As := [.int (nI i1), .int x73, .int x77]) (rest := []) ⟨hx, hb, hml, hown, hts⟩ (s_isIn l dC dI kA adK adV G H q wZ wN wH wB wC wL wK wU wV PI im PM PT lS lB lE lN (nI i1) x73 x77 hT hgz hgn hgh hgb hgc hgi hgu) (va_cwS 3 hts (goodIn_app (goodIn_r _ [15, 16, 14] rfl (by decide +kernel)) (goodIn_ca (goodIn_r _ [3, 4, 5, 6, 7, 8, 9, 10, 11, 12, 13, 14] rfl (by decide +kernel)) (bs_in _ _))) rfl rfl rfl (by decide +kernel) ⟨(Nat.le_of_ble_eq_true rfl), (Nat.le_of_ble_eq_true rfl)⟩) ⟨fun a U g mk q => by obtain ⟨q0, q1, qK, qE⟩ := q; exact ⟨q0, q1, va_K.moved (u := U) (U := U.calling g mk a) (Vm.Alike.refl U.vm) qK, EVS.blind g mk a qE⟩, fun U hU hW => ⟨rfl, hU, va_K.moved hW.alike hK, hE.call hS hFc hU hW⟩⟩ rfl rfl hl.1 rfl (lv_room (Nat.le_of_ble_eq_true rfl)) dX12_worthOf_23 ⟨(Nat.le_of_ble_eq_true rfl), (Nat.le_of_ble_eq_true rfl)⟩) hS (fun q _ h => hFc q h) hFc (fun r78 u t H locs ht hvm hw79 hB _ _ hS => ?_)
      obtain ⟨hT, hF1⟩ := hB
      rw [ht] at hT hF1
      have m80 := (el_kept (hF1.arr hg71 skm_44 (by decide))).trans m72
      have m81 := (el_kept (hF1.arr hg75 skm_45 (by decide))).trans m76
      have hF := hF.more hF1 (by decide)
      try dsimp only at hw79
      have h82 := hw79
      refine lv_if_ne (tgt := 32) hx hb dX12_worthOf_26 (by decide) (fun c83 => ?_) (fun c83 => ?_)
      · have t84 : r78.toInt ≠ 0 := ti_ne c83 rfl (by decide)
        refine lv_aload_n hx hb dX12_worthOf_32 rfl (lv_at hl 2 rfl) ?_
        refine tw_get hx hb hts bF_X12 hown hK hT hr_o0 shm_0 rfl 1 (by decide) (ht_at hts 16 rfl) (fun _ h9 => h9) dX12_worthOf_33 (fun v9 m85 h9 => ?_)
        obtain ⟨rfl, hg86⟩ := h9 _ rfl
        refine lv_sipush (v := 192) hx hb dX12_worthOf_36 (by decide) ?_
        refine lv_iload_n hx hb dX12_worthOf_39 rfl (lv_at hl 0 rfl) ?_
        refine lv_iadd hx hb dX12_worthOf_40 ?_
        refine lv_topi (fun x87 ex87 => ?_)
        obtain rfl : nI (192 + i1) = x87 := (ex87.trans (nI_add 192 i1)).symm
        refine tw_iald (i := (nI (192 + i1))) hx hb hK hT hg86 shm_2 rfl (vp_in_nI (by omega) (by decide)) dX12_worthOf_41 (fun v9 m88 h9 => ?_)
        obtain ⟨x89, rfl, gx89, kx89⟩ := (gp_at h9 (w_fre (by have q9 := tn_of (show (nI (192 + i1)).toInt = ((192 + i1 : Nat) : Int) from (nI_toInt (by omega))) (show (0 : Int) ≤ ((192 + i1 : Nat) : Int) from by omega); omega)))
        have jn103 : ∀ (z98 : Int32), ((60 ≤ z98.toInt ∧ z98.toInt ≤ 150)) → ∀ (H : Heap) (locs : List Loc), gH (dC, dI) kA (SHm q (wP wZ wN wH wB wC wL wK wU wV) PI im PM PT lS lB lE lN) G H → gF (dC, dI) SKm G ([] : List (Nat × Nat)) s.heap H → va_S A s.heap H locs → el H (q 43) fa.toNatClampNeg = some (.int x73) → el H (q 44) fa.toNatClampNeg = some (.int x77) → el H (q 1) (nI (192 + i1)).toNatClampNeg = some (.int x89) → ∀ ls : Array Slot, lv_has ls 5 [(3, .int (nI i1)), (2, .int z2), (0, .ref o0), (1, .int fa)] → W p l e (headSpec w_s_worthOf ({ frames := 2, cells := 0, slots := 0, locals := 64 })).room s m #[.ref o0, .int fa] below meth c H locs 0 0 (MQ below (va_Qi (fun (r : Int32) (u : Unit) => True) (fun (_ : Unit) (t : State) => gH (dC, dI) kA (SHm q (wP wZ wN wH wB wC wL wK wU wV) PI im PM PT lS lB lE lN) G t.heap ∧ gF (dC, dI) SKm G ([] : List (Nat × Nat)) s.heap t.heap) A) #[.ref o0, .int fa] s 0 0 A) (F0 m 72 ls [.int z98]) := by
          intro z98 h99 H locs hT hF hS m100 m101 m102 ls hl
          refine lv_istore (lv' := [(4, .int z98), (3, .int (nI i1)), (2, .int z2), (0, .ref o0), (1, .int fa)]) hx hb dX12_worthOf_72 hl (by decide) rfl (fun ls hl => ?_)
          refine lv_iload_n hx hb dX12_worthOf_74 rfl (lv_at hl 2 rfl) ?_
          refine lv_iconst (v := 0) hx hb dX12_worthOf_75 (by decide) ?_
          refine lv_iload hx hb dX12_worthOf_76 (lv_at hl 0 rfl) ?_
          refine lv_aload_n hx hb dX12_worthOf_78 rfl (lv_at hl 3 rfl) ?_
          refine tw_get hx hb hts bF_X12 hown hK hT hr_o0 shm_0 rfl 1 (by decide) (ht_at hts 16 rfl) (fun _ h9 => h9) dX12_worthOf_79 (fun v9 m104 h9 => ?_)
          obtain ⟨rfl, hg105⟩ := h9 _ rfl
          refine lv_sipush (v := 480) hx hb dX12_worthOf_82 (by decide) ?_
          refine lv_iload_n hx hb dX12_worthOf_85 rfl (lv_at hl 1 rfl) ?_
          refine lv_iadd hx hb dX12_worthOf_86 ?_
          refine lv_topi (fun x106 ex106 => ?_)
          obtain rfl : nI (480 + i1) = x106 := (ex106.trans (nI_add 480 i1)).symm
          refine tw_iald (i := (nI (480 + i1))) hx hb hK hT hg86 shm_2 rfl (vp_in_nI (by omega) (by decide)) dX12_worthOf_87 (fun v9 m107 h9 => ?_)
          obtain ⟨x108, rfl, gx108, kx108⟩ := (gp_at h9 (w_fre (by have q9 := tn_of (show (nI (480 + i1)).toInt = ((480 + i1 : Nat) : Int) from (nI_toInt (by omega))) (show (0 : Int) ≤ ((480 + i1 : Nat) : Int) from by omega); omega)))
          refine lv_bipush (v := 100) hx hb dX12_worthOf_88 (by decide) ?_
          have t109 : -2147483648 ≤ x108.toInt ∧ x108.toInt ≤ 2147483647 := ti_all x108
          refine lv_idiv hx hb dX12_worthOf_90 (by decide) ?_
          refine lv_topi (fun x110 ex110 => ?_)
          have t111 : (0 ≤ x108.toInt ∧ x110.toInt = x108.toInt / 100) ∨ (x108.toInt < 0 ∧ x110.toInt = -((-x108.toInt) / 100)) := ti_divs ex110 rfl (by decide) (by decide)
          refine lv_isub hx hb dX12_worthOf_91 ?_
          refine lv_topi (fun x112 ex112 => ?_)
          have t113 : x112.toInt = z98.toInt - x110.toInt := ti_sub ex112 rfl rfl (by omega) (by omega)
          refine va_mmax hx hb (hml.trans hl.1.symm) hown (ht_at hts 7 rfl) (ht_at hts 8 rfl) (ht_at hts 5 rfl) (ht_at hts 9 rfl) (Nat.le_of_ble_eq_true rfl) (Nat.le_of_ble_eq_true rfl) (Nat.le_of_ble_eq_true rfl) (Nat.le_of_ble_eq_true rfl) dX12_worthOf_92 ?_
          refine lv_topi (fun x114 ex114 => ?_)
          have t115 : 0 ≤ x114.toInt ∧ x112.toInt ≤ x114.toInt ∧ (x114.toInt = 0 ∨ x114.toInt = x112.toInt) := mx_f ex114 (by decide) rfl
          refine lv_iadd hx hb dX12_worthOf_95 ?_
          refine lv_topi (fun x116 ex116 => ?_)
          refine lv_istore_n (lv' := [(2, .int x116), (4, .int z98), (3, .int (nI i1)), (0, .ref o0), (1, .int fa)]) hx hb dX12_worthOf_96 rfl hl (by decide) rfl (fun ls hl => ?_)
          refine lv_iinc (v := nI (i1 + 1)) (lv' := [(3, .int (nI (i1 + 1))), (2, .int x116), (4, .int z98), (0, .ref o0), (1, .int fa)]) hx hb dX12_worthOf_97 hl (k := 2) rfl (nI_add i1 1) (by decide) rfl (fun ls hl => ?_)
          refine lv_goto (tgt := 4) hx hb dX12_worthOf_100 (by decide) ?_
          exact ih64 (i1 + 1) (by omega) (by omega) x116 _ _ hT hF hS ls (lv_sub hl [0, 1, 3, 4] rfl)
        refine lv_if_ne (tgt := 50) hx hb dX12_worthOf_42 (by decide) (fun c117 => ?_) (fun c117 => ?_)
        · have t118 : x89.toInt ≠ 0 := ti_ne c117 rfl (by decide)
          refine lv_aload_n hx hb dX12_worthOf_50 rfl (lv_at hl 2 rfl) ?_
          refine tw_get hx hb hts bF_X12 hown hK hT hr_o0 shm_0 rfl 1 (by decide) (ht_at hts 16 rfl) (fun _ h9 => h9) dX12_worthOf_51 (fun v9 m119 h9 => ?_)
          obtain ⟨rfl, hg120⟩ := h9 _ rfl
          refine lv_sipush (v := 192) hx hb dX12_worthOf_54 (by decide) ?_
          refine lv_iload_n hx hb dX12_worthOf_57 rfl (lv_at hl 0 rfl) ?_
          refine lv_iadd hx hb dX12_worthOf_58 ?_
          refine lv_topi (fun x121 ex121 => ?_)
          obtain rfl : nI (192 + i1) = x121 := (ex121.trans (nI_add 192 i1)).symm
          refine tw_iald (i := (nI (192 + i1))) hx hb hK hT hg86 shm_2 rfl (vp_in_nI (by omega) (by decide)) dX12_worthOf_59 (fun v9 m122 h9 => ?_)
          obtain ⟨x123, rfl, gx123, kx123⟩ := (gp_at h9 (w_fre (by have q9 := tn_of (show (nI (192 + i1)).toInt = ((192 + i1 : Nat) : Int) from (nI_toInt (by omega))) (show (0 : Int) ≤ ((192 + i1 : Nat) : Int) from by omega); omega)))
          obtain rfl : x89 = x123 := (el_same m122 m88 rfl).symm
          refine lv_iconst (v := 1) hx hb dX12_worthOf_60 (by decide) ?_
          refine lv_icmp_ne (tgt := 70) hx hb dX12_worthOf_61 (by decide) (fun c124 => ?_) (fun c124 => ?_)
          · have t125 : x89.toInt ≠ 1 := ti_ne c124 rfl (by decide)
            refine lv_bipush (v := 60) hx hb dX12_worthOf_70 (by decide) ?_
            exact jn103 60 (rg_t (a := 60) (by decide) (by first | decide | omega) (by first | decide | omega)) _ _ hT hF hS m80 m81 m88 ls (lv_sub hl [0, 1, 2, 3] rfl)
          · have t126 : x89.toInt = 1 := ti_eq c124 rfl (by decide)
            refine lv_sipush (v := 150) hx hb dX12_worthOf_64 (by decide) ?_
            refine lv_goto (tgt := 72) hx hb dX12_worthOf_67 (by decide) ?_
            exact jn103 150 (rg_t (a := 150) (by decide) (by first | decide | omega) (by first | decide | omega)) _ _ hT hF hS m80 m81 m88 ls (lv_sub hl [0, 1, 2, 3] rfl)
        · have t127 : x89.toInt = 0 := ti_eq c117 rfl (by decide)
          refine lv_bipush (v := 100) hx hb dX12_worthOf_45 (by decide) ?_
          refine lv_goto (tgt := 72) hx hb dX12_worthOf_47 (by decide) ?_
          exact jn103 100 (rg_t (a := 100) (by decide) (by first | decide | omega) (by first | decide | omega)) _ _ hT hF hS m80 m81 m88 ls (lv_sub hl [0, 1, 2, 3] rfl)
      · have t128 : r78.toInt = 0 := ti_eq c83 rfl (by decide)
        refine lv_goto (tgt := 97) hx hb dX12_worthOf_29 (by decide) ?_
        refine lv_iinc (v := nI (i1 + 1)) (lv' := [(3, .int (nI (i1 + 1))), (2, .int z2), (0, .ref o0), (1, .int fa)]) hx hb dX12_worthOf_97 hl (k := 0) rfl (nI_add i1 1) (by decide) rfl (fun ls hl => ?_)
        refine lv_goto (tgt := 4) hx hb dX12_worthOf_100 (by decide) ?_
        exact ih64 (i1 + 1) (by omega) (by omega) z2 _ _ hT hF hS ls (lv_sub hl [0, 1, 2, 3] rfl)
  exact key64 (96 - 0) 0 (by omega) (Nat.le_refl _) 0 _ _ hT hF hS ls (lv_sub hl [0, 1, 2, 3] rfl)
def w_s_bringsOf : List Cond := .code yX12_bringsOf cX12_bringsOf 8 (some .int) :: (HAppend.hAppend (α := List Cond) (β := List Cond) (γ := List Cond) [.fieldLink RX12 119 "SeaLandModel" "crop" "[I", .fieldLink RX12 113 "SeaLandModel" "farmFrom" "[I", .fieldLink RX12 116 "SeaLandModel" "farmTo" "[I", .code yX12_isIn cX12_isIn 5 (some .boolean), .methodLink RX12 207 Lib.Math.min.name, .static Lib.Math.min.name, .initialized "java/lang/Math", .code Lib.Math.min.name Lib.Math.min.code 2 (some .int), .methodLink RX12 211 Lib.Math.max.name, .static Lib.Math.max.name, .code Lib.Math.max.name Lib.Math.max.code 2 (some .int), .code yX12_in cX12_in 3 (some .boolean), .methodLink RX12 197 yX12_in, .static yX12_in, .initialized RX12, .methodLink RX12 232 yX12_isIn, .static yX12_isIn, .fieldLink RX12 9 "SeaLandModel" "world" "[I"] bs)
set_option maxHeartbeats 4000000 in
set_option maxRecDepth 100000 in
theorem s_bringsOf (l : Launch) (dC : Nat → ClassId) (dI : Nat → Nat → Nat) (kA : Nat → ClassId) (adK adV : Nat → Nat) (G : gT) (H0 : Heap) (q : Nat → Nat) (wZ wN : Nat → Int) (wH wB wC : Int) (wL wK : Nat → Prop) (wU wV : Nat → Nat) (PI : Nat → Int → Prop) (im : Int) (PM PT : Nat → Int → Prop) (lS lB lE : Nat → Nat → Int → Prop) (lN : Nat → Int) (o0 : Nat) (fa : Int32)  (hT : gH (dC, dI) kA (SHm q (wP wZ wN wH wB wC wL wK wU wV) PI im PM PT lS lB lE lN) G H0) (hr_o0 : G o0 = some 0) (hq0 : 0 ≤ fa.toInt ∧ fa.toInt ≤ 29) (hgz : ∀ i, 0 ≤ wZ i) (hgn : ∀ i, 6500000 ≤ wN i ∧ wN i ≤ 20200000) (hgh : 0 ≤ wH ∧ wH ≤ 40000) (hgb : 0 ≤ wB ∧ wB ≤ 3850000) (hgc : 0 ≤ wC ∧ wC ≤ 30) (hgi : 0 ≤ im ∧ im ≤ 1) (hgu : ∀ a t, G a = some (t + 1) → a = q t) : Met l yX12_bringsOf w_s_bringsOf ({ frames := 2, cells := 0, slots := 0, locals := 64 }) (va_Pc [.ref o0, .int fa] (fun U => U.heap = H0 ∧ va_K (dC, dI) vwCl (tyl kA) U ∧ EVS adK adV (gA G H0.size) U U.heap)) (va_Qi (fun (r : Int32) (u : Unit) => True) (fun (_ : Unit) (t : State) => gH (dC, dI) kA (SHm q (wP wZ wN wH wB wC wL wK wU wV) PI im PM PT lS lB lE lN) G t.heap ∧ gF (dC, dI) SKm G ([] : List (Nat × Nat)) H0 t.heap) (gA G H0.size)) 0 0 (gA G H0.size) := by
  refine Met.ofW (cc := cX12_bringsOf) (maxL := 8) (ret := (some .int)) (by decide) rfl ?_
  intro p e s m args below meth c s₁ B hml hv
  obtain ⟨rfl, hH0, hK, hE⟩ := hv
  have hx := B.exec
  have hb := B.bytes
  have hr := B.returns
  have hts := atoms_spec (ws := w_s_bringsOf) B.pre
  have hown : s.vm.findClass RX12 = some m.cls := findClass_of_methodNamed B.named
  have hlocks := B.notSynchronized
  subst hH0
  generalize hAe : gA G s.heap.size = A at hE ⊢
  have hA : ∀ q : Nat, s.heap.size ≤ q → A q := fun q h => by rw [← hAe]; exact Or.inr h
  have hG := gA_of hAe
  have hS : va_S A s.heap s.heap [] := va_S.rf
  have hF : gF (dC, dI) SKm G ([] : List (Nat × Nat)) s.heap s.heap := gF.rf
  have hl := lv_entry ([.ref o0, .int fa]) (n := 8) (Nat.le_of_ble_eq_true rfl)
  rw [lg_entry_eq]
  generalize (lg_sl ([.ref o0, .int fa]) ++ List.replicate (8 - (lg_sl ([.ref o0, .int fa])).length) Slot.unset).toArray = ls at hl ⊢
  have hl : lv_has ls 8 [(0, .ref o0), (1, .int fa)] := hl
  refine lv_aload_n hx hb dX12_bringsOf_0 rfl (lv_at hl 0 rfl) ?_
  refine tw_get hx hb hts bF_X12 hown hK hT hr_o0 shm_0 rfl 45 (by decide) (ht_at hts 0 rfl) (fun _ h9 => h9) dX12_bringsOf_1 (fun v9 m1 h9 => ?_)
  obtain ⟨rfl, hg2⟩ := h9 _ rfl
  refine lv_iload_n hx hb dX12_bringsOf_4 rfl (lv_at hl 1 rfl) ?_
  refine tw_iald (i := fa) hx hb hK hT hg2 shm_46 rfl (vin_t (a := fa.toInt) rfl (by omega) (by omega)) dX12_bringsOf_5 (fun v9 m3 h9 => ?_)
  obtain ⟨x4, rfl, gx4, kx4⟩ := h9
  refine lv_iconst (v := 1) hx hb dX12_bringsOf_6 (by decide) ?_
  have jn15 : ∀ (z12 : Int32), ((10 ≤ z12.toInt ∧ z12.toInt ≤ 60)) → ∀ (H : Heap) (locs : List Loc), gH (dC, dI) kA (SHm q (wP wZ wN wH wB wC wL wK wU wV) PI im PM PT lS lB lE lN) G H → gF (dC, dI) SKm G ([] : List (Nat × Nat)) s.heap H → va_S A s.heap H locs → el H (q 45) fa.toNatClampNeg = some (.int x4) → ∀ ls : Array Slot, lv_has ls 8 [(0, .ref o0), (1, .int fa)] → W p l e (headSpec w_s_bringsOf ({ frames := 2, cells := 0, slots := 0, locals := 64 })).room s m #[.ref o0, .int fa] below meth c H locs 0 0 (MQ below (va_Qi (fun (r : Int32) (u : Unit) => True) (fun (_ : Unit) (t : State) => gH (dC, dI) kA (SHm q (wP wZ wN wH wB wC wL wK wU wV) PI im PM PT lS lB lE lN) G t.heap ∧ gF (dC, dI) SKm G ([] : List (Nat × Nat)) s.heap t.heap) A) #[.ref o0, .int fa] s 0 0 A) (F0 m 32 ls [.int z12]) := by
    intro z12 h13 H locs hT hF hS m14 ls hl
    refine lv_istore_n (lv' := [(2, .int z12), (0, .ref o0), (1, .int fa)]) hx hb dX12_bringsOf_32 rfl hl (by decide) rfl (fun ls hl => ?_)
    refine lv_aload_n hx hb dX12_bringsOf_33 rfl (lv_at hl 1 rfl) ?_
    refine tw_get hx hb hts bF_X12 hown hK hT hr_o0 shm_0 rfl 45 (by decide) (ht_at hts 0 rfl) (fun _ h9 => h9) dX12_bringsOf_34 (fun v9 m16 h9 => ?_)
    obtain ⟨rfl, hg17⟩ := h9 _ rfl
    refine lv_iload_n hx hb dX12_bringsOf_37 rfl (lv_at hl 2 rfl) ?_
    refine tw_iald (i := fa) hx hb hK hT hg2 shm_46 rfl (vin_t (a := fa.toInt) rfl (by omega) (by omega)) dX12_bringsOf_38 (fun v9 m18 h9 => ?_)
    obtain ⟨x19, rfl, gx19, kx19⟩ := h9
    obtain rfl : x4 = x19 := (el_same m18 m14 rfl).symm
    refine lv_iconst (v := 1) hx hb dX12_bringsOf_39 (by decide) ?_
    have jn30 : ∀ (z27 : Int32), ((2000 ≤ z27.toInt ∧ z27.toInt ≤ 8000)) → ∀ (H : Heap) (locs : List Loc), gH (dC, dI) kA (SHm q (wP wZ wN wH wB wC wL wK wU wV) PI im PM PT lS lB lE lN) G H → gF (dC, dI) SKm G ([] : List (Nat × Nat)) s.heap H → va_S A s.heap H locs → el H (q 45) fa.toNatClampNeg = some (.int x4) → ∀ ls : Array Slot, lv_has ls 8 [(2, .int z12), (0, .ref o0), (1, .int fa)] → W p l e (headSpec w_s_bringsOf ({ frames := 2, cells := 0, slots := 0, locals := 64 })).room s m #[.ref o0, .int fa] below meth c H locs 0 0 (MQ below (va_Qi (fun (r : Int32) (u : Unit) => True) (fun (_ : Unit) (t : State) => gH (dC, dI) kA (SHm q (wP wZ wN wH wB wC wL wK wU wV) PI im PM PT lS lB lE lN) G t.heap ∧ gF (dC, dI) SKm G ([] : List (Nat × Nat)) s.heap t.heap) A) #[.ref o0, .int fa] s 0 0 A) (F0 m 68 ls [.int z27]) := by
      intro z27 h28 H locs hT hF hS m29 ls hl
      refine lv_istore_n (lv' := [(3, .int z27), (2, .int z12), (0, .ref o0), (1, .int fa)]) hx hb dX12_bringsOf_68 rfl hl (by decide) rfl (fun ls hl => ?_)
      refine lv_aload_n hx hb dX12_bringsOf_69 rfl (lv_at hl 2 rfl) ?_
      refine tw_get hx hb hts bF_X12 hown hK hT hr_o0 shm_0 rfl 45 (by decide) (ht_at hts 0 rfl) (fun _ h9 => h9) dX12_bringsOf_70 (fun v9 m31 h9 => ?_)
      obtain ⟨rfl, hg32⟩ := h9 _ rfl
      refine lv_iload_n hx hb dX12_bringsOf_73 rfl (lv_at hl 3 rfl) ?_
      refine tw_iald (i := fa) hx hb hK hT hg2 shm_46 rfl (vin_t (a := fa.toInt) rfl (by omega) (by omega)) dX12_bringsOf_74 (fun v9 m33 h9 => ?_)
      obtain ⟨x34, rfl, gx34, kx34⟩ := h9
      obtain rfl : x4 = x34 := (el_same m33 m29 rfl).symm
      refine lv_if_ne (tgt := 82) hx hb dX12_bringsOf_75 (by decide) (fun c35 => ?_) (fun c35 => ?_)
      · have t36 : x4.toInt ≠ 0 := ti_ne c35 rfl (by decide)
        refine lv_aload_n hx hb dX12_bringsOf_82 rfl (lv_at hl 2 rfl) ?_
        refine tw_get hx hb hts bF_X12 hown hK hT hr_o0 shm_0 rfl 45 (by decide) (ht_at hts 0 rfl) (fun _ h9 => h9) dX12_bringsOf_83 (fun v9 m37 h9 => ?_)
        obtain ⟨rfl, hg38⟩ := h9 _ rfl
        refine lv_iload_n hx hb dX12_bringsOf_86 rfl (lv_at hl 3 rfl) ?_
        refine tw_iald (i := fa) hx hb hK hT hg2 shm_46 rfl (vin_t (a := fa.toInt) rfl (by omega) (by omega)) dX12_bringsOf_87 (fun v9 m39 h9 => ?_)
        obtain ⟨x40, rfl, gx40, kx40⟩ := h9
        obtain rfl : x4 = x40 := (el_same m39 m29 rfl).symm
        refine lv_iconst (v := 1) hx hb dX12_bringsOf_88 (by decide) ?_
        refine lv_icmp_ne (tgt := 97) hx hb dX12_bringsOf_89 (by decide) (fun c41 => ?_) (fun c41 => ?_)
        · have t42 : x4.toInt ≠ 1 := ti_ne c41 rfl (by decide)
          refine lv_aload_n hx hb dX12_bringsOf_97 rfl (lv_at hl 2 rfl) ?_
          refine tw_get hx hb hts bF_X12 hown hK hT hr_o0 shm_0 rfl 45 (by decide) (ht_at hts 0 rfl) (fun _ h9 => h9) dX12_bringsOf_98 (fun v9 m43 h9 => ?_)
          obtain ⟨rfl, hg44⟩ := h9 _ rfl
          refine lv_iload_n hx hb dX12_bringsOf_101 rfl (lv_at hl 3 rfl) ?_
          refine tw_iald (i := fa) hx hb hK hT hg2 shm_46 rfl (vin_t (a := fa.toInt) rfl (by omega) (by omega)) dX12_bringsOf_102 (fun v9 m45 h9 => ?_)
          obtain ⟨x46, rfl, gx46, kx46⟩ := h9
          obtain rfl : x4 = x46 := (el_same m45 m29 rfl).symm
          refine lv_iconst (v := 2) hx hb dX12_bringsOf_103 (by decide) ?_
          refine lv_icmp_ne (tgt := 112) hx hb dX12_bringsOf_104 (by decide) (fun c47 => ?_) (fun c47 => ?_)
          · have t48 : x4.toInt ≠ 2 := ti_ne c47 rfl (by decide)
            refine lv_bipush (v := 40) hx hb dX12_bringsOf_112 (by decide) ?_
            refine lv_istore (lv' := [(4, .int 40), (3, .int z27), (2, .int z12), (0, .ref o0), (1, .int fa)]) hx hb dX12_bringsOf_114 hl (by decide) rfl (fun ls hl => ?_)
            refine lv_iconst (v := 0) hx hb dX12_bringsOf_116 (by decide) ?_
            refine lv_istore (lv' := [(5, .int 0), (4, .int 40), (3, .int z27), (2, .int z12), (0, .ref o0), (1, .int fa)]) hx hb dX12_bringsOf_117 hl (by decide) rfl (fun ls hl => ?_)
            refine lv_iconst (v := 0) hx hb dX12_bringsOf_119 (by decide) ?_
            refine lv_istore (lv' := [(6, .int 0), (5, .int 0), (4, .int 40), (3, .int z27), (2, .int z12), (0, .ref o0), (1, .int fa)]) hx hb dX12_bringsOf_120 hl (by decide) rfl (fun ls hl => ?_)
            have key116 : ∀ (n116 i49 : Nat), i49 + n116 = 96 → 0 ≤ i49 → ∀ (z50 : Int32), ∀ (H : Heap) (locs : List Loc), gH (dC, dI) kA (SHm q (wP wZ wN wH wB wC wL wK wU wV) PI im PM PT lS lB lE lN) G H → gF (dC, dI) SKm G ([] : List (Nat × Nat)) s.heap H → va_S A s.heap H locs → el H (q 45) fa.toNatClampNeg = some (.int x4) → ∀ ls : Array Slot, lv_has ls 8 [(6, .int (nI i49)), (5, .int z50), (4, .int 40), (3, .int z27), (2, .int z12), (0, .ref o0), (1, .int fa)] → W p l e (headSpec w_s_bringsOf ({ frames := 2, cells := 0, slots := 0, locals := 64 })).room s m #[.ref o0, .int fa] below meth c H locs 0 0 (MQ below (va_Qi (fun (r : Int32) (u : Unit) => True) (fun (_ : Unit) (t : State) => gH (dC, dI) kA (SHm q (wP wZ wN wH wB wC wL wK wU wV) PI im PM PT lS lB lE lN) G t.heap ∧ gF (dC, dI) SKm G ([] : List (Nat × Nat)) s.heap t.heap) A) #[.ref o0, .int fa] s 0 0 A) (F0 m 122 ls []) := by
              intro n116
              induction n116 with
              | zero =>
                intro i49 hn116 hlo117 z50 H locs hT hF hS m51 ls hl
                obtain rfl : 96 = i49 := by omega
                refine lv_iload hx hb dX12_bringsOf_122 (lv_at hl 0 rfl) ?_
                refine lv_bipush (v := 96) hx hb dX12_bringsOf_124 (by decide) ?_
                refine lv_icmp_ge (tgt := 230) hx hb dX12_bringsOf_126 (by decide) (fun c118 => ?_) (fun c118 => (by exfalso; have q9 : ((96 : Nat) : Int) < 96 := ti_nle c118 (by decide) (nI_toInt (by omega)); omega))
                have t119 : 96 ≤ ((96 : Nat) : Int) := ti_le c118 (by decide) (nI_toInt (by omega))
                refine lv_iload hx hb dX12_bringsOf_230 (lv_at hl 1 rfl) ?_
                exact W.iret (v := z50) hx hb hr (fun t ht hW => ⟨⟨z50, (), rfl, (by exact trivial), by (try dsimp only); rw [ht]; exact ⟨hT, hF⟩⟩, hS.F ht⟩) hS.2.2 dX12_bringsOf_232
              | succ n116 ih116 =>
                intro i49 hn116 hlo117 z50 H locs hT hF hS m51 ls hl
                have hlt119 : i49 < 96 := by omega
                refine lv_iload hx hb dX12_bringsOf_122 (lv_at hl 0 rfl) ?_
                refine lv_bipush (v := 96) hx hb dX12_bringsOf_124 (by decide) ?_
                refine lv_icmp_ge (tgt := 230) hx hb dX12_bringsOf_126 (by decide) (fun c120 => (by exfalso; have q9 : 96 ≤ ((i49 : Nat) : Int) := ti_le c120 (by decide) (nI_toInt (by omega)); omega)) (fun c120 => ?_)
                have t121 : ((i49 : Nat) : Int) < 96 := ti_nle c120 (by decide) (nI_toInt (by omega))
                refine lv_iload hx hb dX12_bringsOf_129 (lv_at hl 0 rfl) ?_
                refine lv_aload_n hx hb dX12_bringsOf_131 rfl (lv_at hl 5 rfl) ?_
                refine tw_get hx hb hts bF_X12 hown hK hT hr_o0 shm_0 rfl 43 (by decide) (ht_at hts 1 rfl) (fun _ h9 => h9) dX12_bringsOf_132 (fun v9 m122 h9 => ?_)
                obtain ⟨rfl, hg123⟩ := h9 _ rfl
                refine lv_iload_n hx hb dX12_bringsOf_135 rfl (lv_at hl 6 rfl) ?_
                refine tw_iald (i := fa) hx hb hK hT hg123 shm_44 rfl (vin_t (a := fa.toInt) rfl (by omega) (by omega)) dX12_bringsOf_136 (fun v9 m124 h9 => ?_)
                obtain ⟨x125, rfl, gx125, kx125⟩ := h9
                refine lv_aload_n hx hb dX12_bringsOf_137 rfl (lv_at hl 5 rfl) ?_
                refine tw_get hx hb hts bF_X12 hown hK hT hr_o0 shm_0 rfl 44 (by decide) (ht_at hts 2 rfl) (fun _ h9 => h9) dX12_bringsOf_138 (fun v9 m126 h9 => ?_)
                obtain ⟨rfl, hg127⟩ := h9 _ rfl
                refine lv_iload_n hx hb dX12_bringsOf_141 rfl (lv_at hl 6 rfl) ?_
                refine tw_iald (i := fa) hx hb hK hT hg127 shm_45 rfl (vin_t (a := fa.toInt) rfl (by omega) (by omega)) dX12_bringsOf_142 (fun v9 m128 h9 => ?_)
                obtain ⟨x129, rfl, gx129, kx129⟩ := h9
                have hFc := gA_free hG hA hS
                refine va_calli (va_runS (As := [.int (nI i49), .int x125, .int x129]) (rest := []) ⟨hx, hb, hml, hown, hts⟩ (s_isIn l dC dI kA adK adV G H q wZ wN wH wB wC wL wK wU wV PI im PM PT lS lB lE lN (nI i49) x125 x129 hT hgz hgn hgh hgb hgc hgi hgu) (va_cwS 3 hts (goodIn_app (goodIn_r _ [16, 17, 15] rfl (by decide +kernel)) (goodIn_ca (goodIn_r _ [4, 5, 6, 7, 8, 9, 10, 11, 12, 13, 14, 15] rfl (by decide +kernel)) (bs_in _ _))) rfl rfl rfl (by decide +kernel) ⟨(Nat.le_of_ble_eq_true rfl), (Nat.le_of_ble_eq_true rfl)⟩) ⟨fun a U g mk q => by obtain ⟨q0, q1, qK, qE⟩ := q; exact ⟨q0, q1, va_K.moved (u := U) (U := U.calling g mk a) (Vm.Alike.refl U.vm) qK, EVS.blind g mk a qE⟩, fun U hU hW => ⟨rfl, hU, va_K.moved hW.alike hK, hE.call hS hFc hU hW⟩⟩ rfl rfl hl.1 rfl (lv_room (Nat.le_of_ble_eq_true rfl)) dX12_bringsOf_143 ⟨(Nat.le_of_ble_eq_true rfl), (Nat.le_of_ble_eq_true rfl)⟩) hS (fun q _ h => hFc q h) hFc (fun r130 u t H locs ht hvm hw131 hB _ _ hS => ?_)
                obtain ⟨hT, hF1⟩ := hB
                rw [ht] at hT hF1
                have m132 := (el_kept (hF1.arr hg2 skm_46 (by decide))).trans m51
                have m133 := (el_kept (hF1.arr hg123 skm_44 (by decide))).trans m124
                have m134 := (el_kept (hF1.arr hg127 skm_45 (by decide))).trans m128
                have hF := hF.more hF1 (by decide)
                try dsimp only at hw131
                have h135 := hw131
                refine lv_if_ne (tgt := 152) hx hb dX12_bringsOf_146 (by decide) (fun c136 => ?_) (fun c136 => ?_)
                · have t137 : r130.toInt ≠ 0 := ti_ne c136 rfl (by decide)
                  refine lv_aload_n hx hb dX12_bringsOf_152 rfl (lv_at hl 5 rfl) ?_
                  refine tw_get hx hb hts bF_X12 hown hK hT hr_o0 shm_0 rfl 1 (by decide) (ht_at hts 17 rfl) (fun _ h9 => h9) dX12_bringsOf_153 (fun v9 m138 h9 => ?_)
                  obtain ⟨rfl, hg139⟩ := h9 _ rfl
                  refine lv_sipush (v := 672) hx hb dX12_bringsOf_156 (by decide) ?_
                  refine lv_iload hx hb dX12_bringsOf_159 (lv_at hl 0 rfl) ?_
                  refine lv_iadd hx hb dX12_bringsOf_161 ?_
                  refine lv_topi (fun x140 ex140 => ?_)
                  obtain rfl : nI (672 + i49) = x140 := (ex140.trans (nI_add 672 i49)).symm
                  refine tw_iald (i := (nI (672 + i49))) hx hb hK hT hg139 shm_2 rfl (vp_in_nI (by omega) (by decide)) dX12_bringsOf_162 (fun v9 m141 h9 => ?_)
                  obtain ⟨x142, rfl, gx142, kx142⟩ := (gp_at h9 (w_fre (by have q9 := tn_of (show (nI (672 + i49)).toInt = ((672 + i49 : Nat) : Int) from (nI_toInt (by omega))) (show (0 : Int) ≤ ((672 + i49 : Nat) : Int) from by omega); omega)))
                  refine lv_iload_n hx hb dX12_bringsOf_163 rfl (lv_at hl 4 rfl) ?_
                  have jn149 : ∀ (z143 : Int32), ((0 ≤ z143.toInt ∧ z143.toInt ≤ 1)) → ∀ (H : Heap) (locs : List Loc), gH (dC, dI) kA (SHm q (wP wZ wN wH wB wC wL wK wU wV) PI im PM PT lS lB lE lN) G H → gF (dC, dI) SKm G ([] : List (Nat × Nat)) s.heap H → va_S A s.heap H locs → el H (q 45) fa.toNatClampNeg = some (.int x4) → el H (q 43) fa.toNatClampNeg = some (.int x125) → el H (q 44) fa.toNatClampNeg = some (.int x129) → el H (q 1) (nI (672 + i49)).toNatClampNeg = some (.int x142) → ∀ ls : Array Slot, lv_has ls 8 [(6, .int (nI i49)), (5, .int z50), (4, .int 40), (3, .int z27), (2, .int z12), (0, .ref o0), (1, .int fa)] → W p l e (headSpec w_s_bringsOf ({ frames := 2, cells := 0, slots := 0, locals := 64 })).room s m #[.ref o0, .int fa] below meth c H locs 0 0 (MQ below (va_Qi (fun (r : Int32) (u : Unit) => True) (fun (_ : Unit) (t : State) => gH (dC, dI) kA (SHm q (wP wZ wN wH wB wC wL wK wU wV) PI im PM PT lS lB lE lN) G t.heap ∧ gF (dC, dI) SKm G ([] : List (Nat × Nat)) s.heap t.heap) A) #[.ref o0, .int fa] s 0 0 A) (F0 m 172 ls [.int z143]) := by
                    intro z143 h144 H locs hT hF hS m145 m146 m147 m148 ls hl
                    refine lv_aload_n hx hb dX12_bringsOf_172 rfl (lv_at hl 5 rfl) ?_
                    refine tw_get hx hb hts bF_X12 hown hK hT hr_o0 shm_0 rfl 1 (by decide) (ht_at hts 17 rfl) (fun _ h9 => h9) dX12_bringsOf_173 (fun v9 m150 h9 => ?_)
                    obtain ⟨rfl, hg151⟩ := h9 _ rfl
                    refine lv_sipush (v := 480) hx hb dX12_bringsOf_176 (by decide) ?_
                    refine lv_iload hx hb dX12_bringsOf_179 (lv_at hl 0 rfl) ?_
                    refine lv_iadd hx hb dX12_bringsOf_181 ?_
                    refine lv_topi (fun x152 ex152 => ?_)
                    obtain rfl : nI (480 + i49) = x152 := (ex152.trans (nI_add 480 i49)).symm
                    refine tw_iald (i := (nI (480 + i49))) hx hb hK hT hg139 shm_2 rfl (vp_in_nI (by omega) (by decide)) dX12_bringsOf_182 (fun v9 m153 h9 => ?_)
                    obtain ⟨x154, rfl, gx154, kx154⟩ := (gp_at h9 (w_fre (by have q9 := tn_of (show (nI (480 + i49)).toInt = ((480 + i49 : Nat) : Int) from (nI_toInt (by omega))) (show (0 : Int) ≤ ((480 + i49 : Nat) : Int) from by omega); omega)))
                    refine lv_iload_n hx hb dX12_bringsOf_183 rfl (lv_at hl 3 rfl) ?_
                    have jn162 : ∀ (z155 : Int32), ((0 ≤ z155.toInt ∧ z155.toInt ≤ 1)) → ∀ (H : Heap) (locs : List Loc), gH (dC, dI) kA (SHm q (wP wZ wN wH wB wC wL wK wU wV) PI im PM PT lS lB lE lN) G H → gF (dC, dI) SKm G ([] : List (Nat × Nat)) s.heap H → va_S A s.heap H locs → el H (q 45) fa.toNatClampNeg = some (.int x4) → el H (q 43) fa.toNatClampNeg = some (.int x125) → el H (q 44) fa.toNatClampNeg = some (.int x129) → el H (q 1) (nI (672 + i49)).toNatClampNeg = some (.int x142) → el H (q 1) (nI (480 + i49)).toNatClampNeg = some (.int x154) → ∀ ls : Array Slot, lv_has ls 8 [(6, .int (nI i49)), (5, .int z50), (4, .int 40), (3, .int z27), (2, .int z12), (0, .ref o0), (1, .int fa)] → W p l e (headSpec w_s_bringsOf ({ frames := 2, cells := 0, slots := 0, locals := 64 })).room s m #[.ref o0, .int fa] below meth c H locs 0 0 (MQ below (va_Qi (fun (r : Int32) (u : Unit) => True) (fun (_ : Unit) (t : State) => gH (dC, dI) kA (SHm q (wP wZ wN wH wB wC wL wK wU wV) PI im PM PT lS lB lE lN) G t.heap ∧ gF (dC, dI) SKm G ([] : List (Nat × Nat)) s.heap t.heap) A) #[.ref o0, .int fa] s 0 0 A) (F0 m 192 ls [.int z155, .int z143]) := by
                      intro z155 h156 H locs hT hF hS m157 m158 m159 m160 m161 ls hl
                      refine lv_iadd hx hb dX12_bringsOf_192 ?_
                      refine lv_topi (fun x163 ex163 => ?_)
                      have t164 : x163.toInt = z143.toInt + z155.toInt := ti_add ex163 rfl rfl (by omega) (by omega)
                      refine lv_istore (lv' := [(7, .int x163), (6, .int (nI i49)), (5, .int z50), (4, .int 40), (3, .int z27), (2, .int z12), (0, .ref o0), (1, .int fa)]) hx hb dX12_bringsOf_193 hl (by decide) rfl (fun ls hl => ?_)
                      refine lv_iload hx hb dX12_bringsOf_195 (lv_at hl 2 rfl) ?_
                      refine lv_iload hx hb dX12_bringsOf_197 (lv_at hl 0 rfl) ?_
                      refine lv_if_ne (tgt := 207) hx hb dX12_bringsOf_199 (by decide) (fun c165 => ?_) (fun c165 => ?_)
                      · have t166 : x163.toInt ≠ 0 := ti_ne c165 rfl (by decide)
                        refine lv_iload hx hb dX12_bringsOf_207 (lv_at hl 0 rfl) ?_
                        refine lv_iconst (v := 1) hx hb dX12_bringsOf_209 (by decide) ?_
                        refine lv_icmp_ne (tgt := 220) hx hb dX12_bringsOf_210 (by decide) (fun c167 => ?_) (fun c167 => ?_)
                        · have t168 : x163.toInt ≠ 1 := ti_ne c167 rfl (by decide)
                          refine lv_iconst (v := 0) hx hb dX12_bringsOf_220 (by decide) ?_
                          refine lv_iadd hx hb dX12_bringsOf_221 ?_
                          refine lv_topi (fun x169 ex169 => ?_)
                          have t170 : -2147483648 ≤ z50.toInt ∧ z50.toInt ≤ 2147483647 := ti_all z50
                          have t171 : x169.toInt = z50.toInt + 0 := ti_add ex169 rfl (by decide) (by omega) (by omega)
                          refine lv_istore (lv' := [(5, .int x169), (7, .int x163), (6, .int (nI i49)), (4, .int 40), (3, .int z27), (2, .int z12), (0, .ref o0), (1, .int fa)]) hx hb dX12_bringsOf_222 hl (by decide) rfl (fun ls hl => ?_)
                          refine lv_iinc (v := nI (i49 + 1)) (lv' := [(6, .int (nI (i49 + 1))), (5, .int x169), (7, .int x163), (4, .int 40), (3, .int z27), (2, .int z12), (0, .ref o0), (1, .int fa)]) hx hb dX12_bringsOf_224 hl (k := 2) rfl (nI_add i49 1) (by decide) rfl (fun ls hl => ?_)
                          refine lv_goto (tgt := 122) hx hb dX12_bringsOf_227 (by decide) ?_
                          exact ih116 (i49 + 1) (by omega) (by omega) x169 _ _ hT hF hS m157 ls (lv_sub hl [0, 1, 3, 4, 5, 6, 7] rfl)
                        · have t172 : x163.toInt = 1 := ti_eq c167 rfl (by decide)
                          refine lv_iload hx hb dX12_bringsOf_213 (lv_at hl 3 rfl) ?_
                          refine lv_iconst (v := 2) hx hb dX12_bringsOf_215 (by decide) ?_
                          refine lv_idiv hx hb dX12_bringsOf_216 (by decide) ?_
                          refine lv_topi (fun x173 ex173 => ?_)
                          obtain rfl : x173 = 20 := ex173.trans (by decide)
                          refine lv_goto (tgt := 221) hx hb dX12_bringsOf_217 (by decide) ?_
                          refine lv_iadd hx hb dX12_bringsOf_221 ?_
                          refine lv_topi (fun x174 ex174 => ?_)
                          refine lv_istore (lv' := [(5, .int x174), (7, .int x163), (6, .int (nI i49)), (4, .int 40), (3, .int z27), (2, .int z12), (0, .ref o0), (1, .int fa)]) hx hb dX12_bringsOf_222 hl (by decide) rfl (fun ls hl => ?_)
                          refine lv_iinc (v := nI (i49 + 1)) (lv' := [(6, .int (nI (i49 + 1))), (5, .int x174), (7, .int x163), (4, .int 40), (3, .int z27), (2, .int z12), (0, .ref o0), (1, .int fa)]) hx hb dX12_bringsOf_224 hl (k := 2) rfl (nI_add i49 1) (by decide) rfl (fun ls hl => ?_)
                          refine lv_goto (tgt := 122) hx hb dX12_bringsOf_227 (by decide) ?_
                          exact ih116 (i49 + 1) (by omega) (by omega) x174 _ _ hT hF hS m157 ls (lv_sub hl [0, 1, 3, 4, 5, 6, 7] rfl)
                      · have t175 : x163.toInt = 0 := ti_eq c165 rfl (by decide)
                        refine lv_iload hx hb dX12_bringsOf_202 (lv_at hl 3 rfl) ?_
                        refine lv_goto (tgt := 221) hx hb dX12_bringsOf_204 (by decide) ?_
                        refine lv_iadd hx hb dX12_bringsOf_221 ?_
                        refine lv_topi (fun x176 ex176 => ?_)
                        refine lv_istore (lv' := [(5, .int x176), (7, .int x163), (6, .int (nI i49)), (4, .int 40), (3, .int z27), (2, .int z12), (0, .ref o0), (1, .int fa)]) hx hb dX12_bringsOf_222 hl (by decide) rfl (fun ls hl => ?_)
                        refine lv_iinc (v := nI (i49 + 1)) (lv' := [(6, .int (nI (i49 + 1))), (5, .int x176), (7, .int x163), (4, .int 40), (3, .int z27), (2, .int z12), (0, .ref o0), (1, .int fa)]) hx hb dX12_bringsOf_224 hl (k := 2) rfl (nI_add i49 1) (by decide) rfl (fun ls hl => ?_)
                        refine lv_goto (tgt := 122) hx hb dX12_bringsOf_227 (by decide) ?_
                        exact ih116 (i49 + 1) (by omega) (by omega) x176 _ _ hT hF hS m157 ls (lv_sub hl [0, 1, 3, 4, 5, 6, 7] rfl)
                    refine lv_icmp_le (tgt := 191) hx hb dX12_bringsOf_184 (by decide) (fun c177 => ?_) (fun c177 => ?_)
                    · have t178 : x154.toInt ≤ z27.toInt := ti_le c177 rfl rfl
                      refine lv_iconst (v := 0) hx hb dX12_bringsOf_191 (by decide) ?_
                      exact jn162 0 (rg_t (a := 0) (by decide) (by first | decide | omega) (by first | decide | omega)) _ _ hT hF hS m145 m146 m147 m148 m153 ls (lv_sub hl [0, 1, 2, 3, 4, 5, 6] rfl)
                    · have t179 : z27.toInt < x154.toInt := ti_nle c177 rfl rfl
                      refine lv_iconst (v := 1) hx hb dX12_bringsOf_187 (by decide) ?_
                      refine lv_goto (tgt := 192) hx hb dX12_bringsOf_188 (by decide) ?_
                      exact jn162 1 (rg_t (a := 1) (by decide) (by first | decide | omega) (by first | decide | omega)) _ _ hT hF hS m145 m146 m147 m148 m153 ls (lv_sub hl [0, 1, 2, 3, 4, 5, 6] rfl)
                  refine lv_icmp_le (tgt := 171) hx hb dX12_bringsOf_164 (by decide) (fun c180 => ?_) (fun c180 => ?_)
                  · have t181 : x142.toInt ≤ z12.toInt := ti_le c180 rfl rfl
                    refine lv_iconst (v := 0) hx hb dX12_bringsOf_171 (by decide) ?_
                    exact jn149 0 (rg_t (a := 0) (by decide) (by first | decide | omega) (by first | decide | omega)) _ _ hT hF hS m132 m133 m134 m141 ls (lv_sub hl [0, 1, 2, 3, 4, 5, 6] rfl)
                  · have t182 : z12.toInt < x142.toInt := ti_nle c180 rfl rfl
                    refine lv_iconst (v := 1) hx hb dX12_bringsOf_167 (by decide) ?_
                    refine lv_goto (tgt := 172) hx hb dX12_bringsOf_168 (by decide) ?_
                    exact jn149 1 (rg_t (a := 1) (by decide) (by first | decide | omega) (by first | decide | omega)) _ _ hT hF hS m132 m133 m134 m141 ls (lv_sub hl [0, 1, 2, 3, 4, 5, 6] rfl)
                · have t183 : r130.toInt = 0 := ti_eq c136 rfl (by decide)
                  refine lv_goto (tgt := 224) hx hb dX12_bringsOf_149 (by decide) ?_
                  refine lv_iinc (v := nI (i49 + 1)) (lv' := [(6, .int (nI (i49 + 1))), (5, .int z50), (4, .int 40), (3, .int z27), (2, .int z12), (0, .ref o0), (1, .int fa)]) hx hb dX12_bringsOf_224 hl (k := 0) rfl (nI_add i49 1) (by decide) rfl (fun ls hl => ?_)
                  refine lv_goto (tgt := 122) hx hb dX12_bringsOf_227 (by decide) ?_
                  exact ih116 (i49 + 1) (by omega) (by omega) z50 _ _ hT hF hS m132 ls (lv_sub hl [0, 1, 2, 3, 4, 5, 6] rfl)
            exact key116 (96 - 0) 0 (by omega) (Nat.le_refl _) 0 _ _ hT hF hS m29 ls (lv_sub hl [0, 1, 2, 3, 4, 5, 6] rfl)
          · have t184 : x4.toInt = 2 := ti_eq c47 rfl (by decide)
            refine lv_bipush (v := 50) hx hb dX12_bringsOf_107 (by decide) ?_
            refine lv_goto (tgt := 114) hx hb dX12_bringsOf_109 (by decide) ?_
            refine lv_istore (lv' := [(4, .int 50), (3, .int z27), (2, .int z12), (0, .ref o0), (1, .int fa)]) hx hb dX12_bringsOf_114 hl (by decide) rfl (fun ls hl => ?_)
            refine lv_iconst (v := 0) hx hb dX12_bringsOf_116 (by decide) ?_
            refine lv_istore (lv' := [(5, .int 0), (4, .int 50), (3, .int z27), (2, .int z12), (0, .ref o0), (1, .int fa)]) hx hb dX12_bringsOf_117 hl (by decide) rfl (fun ls hl => ?_)
            refine lv_iconst (v := 0) hx hb dX12_bringsOf_119 (by decide) ?_
            refine lv_istore (lv' := [(6, .int 0), (5, .int 0), (4, .int 50), (3, .int z27), (2, .int z12), (0, .ref o0), (1, .int fa)]) hx hb dX12_bringsOf_120 hl (by decide) rfl (fun ls hl => ?_)
            have key252 : ∀ (n252 i185 : Nat), i185 + n252 = 96 → 0 ≤ i185 → ∀ (z186 : Int32), ∀ (H : Heap) (locs : List Loc), gH (dC, dI) kA (SHm q (wP wZ wN wH wB wC wL wK wU wV) PI im PM PT lS lB lE lN) G H → gF (dC, dI) SKm G ([] : List (Nat × Nat)) s.heap H → va_S A s.heap H locs → el H (q 45) fa.toNatClampNeg = some (.int x4) → ∀ ls : Array Slot, lv_has ls 8 [(6, .int (nI i185)), (5, .int z186), (4, .int 50), (3, .int z27), (2, .int z12), (0, .ref o0), (1, .int fa)] → W p l e (headSpec w_s_bringsOf ({ frames := 2, cells := 0, slots := 0, locals := 64 })).room s m #[.ref o0, .int fa] below meth c H locs 0 0 (MQ below (va_Qi (fun (r : Int32) (u : Unit) => True) (fun (_ : Unit) (t : State) => gH (dC, dI) kA (SHm q (wP wZ wN wH wB wC wL wK wU wV) PI im PM PT lS lB lE lN) G t.heap ∧ gF (dC, dI) SKm G ([] : List (Nat × Nat)) s.heap t.heap) A) #[.ref o0, .int fa] s 0 0 A) (F0 m 122 ls []) := by
              intro n252
              induction n252 with
              | zero =>
                intro i185 hn252 hlo253 z186 H locs hT hF hS m187 ls hl
                obtain rfl : 96 = i185 := by omega
                refine lv_iload hx hb dX12_bringsOf_122 (lv_at hl 0 rfl) ?_
                refine lv_bipush (v := 96) hx hb dX12_bringsOf_124 (by decide) ?_
                refine lv_icmp_ge (tgt := 230) hx hb dX12_bringsOf_126 (by decide) (fun c254 => ?_) (fun c254 => (by exfalso; have q9 : ((96 : Nat) : Int) < 96 := ti_nle c254 (by decide) (nI_toInt (by omega)); omega))
                have t255 : 96 ≤ ((96 : Nat) : Int) := ti_le c254 (by decide) (nI_toInt (by omega))
                refine lv_iload hx hb dX12_bringsOf_230 (lv_at hl 1 rfl) ?_
                exact W.iret (v := z186) hx hb hr (fun t ht hW => ⟨⟨z186, (), rfl, (by exact trivial), by (try dsimp only); rw [ht]; exact ⟨hT, hF⟩⟩, hS.F ht⟩) hS.2.2 dX12_bringsOf_232
              | succ n252 ih252 =>
                intro i185 hn252 hlo253 z186 H locs hT hF hS m187 ls hl
                have hlt255 : i185 < 96 := by omega
                refine lv_iload hx hb dX12_bringsOf_122 (lv_at hl 0 rfl) ?_
                refine lv_bipush (v := 96) hx hb dX12_bringsOf_124 (by decide) ?_
                refine lv_icmp_ge (tgt := 230) hx hb dX12_bringsOf_126 (by decide) (fun c256 => (by exfalso; have q9 : 96 ≤ ((i185 : Nat) : Int) := ti_le c256 (by decide) (nI_toInt (by omega)); omega)) (fun c256 => ?_)
                have t257 : ((i185 : Nat) : Int) < 96 := ti_nle c256 (by decide) (nI_toInt (by omega))
                refine lv_iload hx hb dX12_bringsOf_129 (lv_at hl 0 rfl) ?_
                refine lv_aload_n hx hb dX12_bringsOf_131 rfl (lv_at hl 5 rfl) ?_
                refine tw_get hx hb hts bF_X12 hown hK hT hr_o0 shm_0 rfl 43 (by decide) (ht_at hts 1 rfl) (fun _ h9 => h9) dX12_bringsOf_132 (fun v9 m258 h9 => ?_)
                obtain ⟨rfl, hg259⟩ := h9 _ rfl
                refine lv_iload_n hx hb dX12_bringsOf_135 rfl (lv_at hl 6 rfl) ?_
                refine tw_iald (i := fa) hx hb hK hT hg259 shm_44 rfl (vin_t (a := fa.toInt) rfl (by omega) (by omega)) dX12_bringsOf_136 (fun v9 m260 h9 => ?_)
                obtain ⟨x261, rfl, gx261, kx261⟩ := h9
                refine lv_aload_n hx hb dX12_bringsOf_137 rfl (lv_at hl 5 rfl) ?_
                refine tw_get hx hb hts bF_X12 hown hK hT hr_o0 shm_0 rfl 44 (by decide) (ht_at hts 2 rfl) (fun _ h9 => h9) dX12_bringsOf_138 (fun v9 m262 h9 => ?_)
                obtain ⟨rfl, hg263⟩ := h9 _ rfl
                refine lv_iload_n hx hb dX12_bringsOf_141 rfl (lv_at hl 6 rfl) ?_
                refine tw_iald (i := fa) hx hb hK hT hg263 shm_45 rfl (vin_t (a := fa.toInt) rfl (by omega) (by omega)) dX12_bringsOf_142 (fun v9 m264 h9 => ?_)
                obtain ⟨x265, rfl, gx265, kx265⟩ := h9
                have hFc := gA_free hG hA hS
                refine va_calli (va_runS (As := [.int (nI i185), .int x261, .int x265]) (rest := []) ⟨hx, hb, hml, hown, hts⟩ (s_isIn l dC dI kA adK adV G H q wZ wN wH wB wC wL wK wU wV PI im PM PT lS lB lE lN (nI i185) x261 x265 hT hgz hgn hgh hgb hgc hgi hgu) (va_cwS 3 hts (goodIn_app (goodIn_r _ [16, 17, 15] rfl (by decide +kernel)) (goodIn_ca (goodIn_r _ [4, 5, 6, 7, 8, 9, 10, 11, 12, 13, 14, 15] rfl (by decide +kernel)) (bs_in _ _))) rfl rfl rfl (by decide +kernel) ⟨(Nat.le_of_ble_eq_true rfl), (Nat.le_of_ble_eq_true rfl)⟩) ⟨fun a U g mk q => by obtain ⟨q0, q1, qK, qE⟩ := q; exact ⟨q0, q1, va_K.moved (u := U) (U := U.calling g mk a) (Vm.Alike.refl U.vm) qK, EVS.blind g mk a qE⟩, fun U hU hW => ⟨rfl, hU, va_K.moved hW.alike hK, hE.call hS hFc hU hW⟩⟩ rfl rfl hl.1 rfl (lv_room (Nat.le_of_ble_eq_true rfl)) dX12_bringsOf_143 ⟨(Nat.le_of_ble_eq_true rfl), (Nat.le_of_ble_eq_true rfl)⟩) hS (fun q _ h => hFc q h) hFc (fun r266 u t H locs ht hvm hw267 hB _ _ hS => ?_)
                obtain ⟨hT, hF1⟩ := hB
                rw [ht] at hT hF1
                have m268 := (el_kept (hF1.arr hg2 skm_46 (by decide))).trans m187
                have m269 := (el_kept (hF1.arr hg259 skm_44 (by decide))).trans m260
                have m270 := (el_kept (hF1.arr hg263 skm_45 (by decide))).trans m264
                have hF := hF.more hF1 (by decide)
                try dsimp only at hw267
                have h271 := hw267
                refine lv_if_ne (tgt := 152) hx hb dX12_bringsOf_146 (by decide) (fun c272 => ?_) (fun c272 => ?_)
                · have t273 : r266.toInt ≠ 0 := ti_ne c272 rfl (by decide)
                  refine lv_aload_n hx hb dX12_bringsOf_152 rfl (lv_at hl 5 rfl) ?_
                  refine tw_get hx hb hts bF_X12 hown hK hT hr_o0 shm_0 rfl 1 (by decide) (ht_at hts 17 rfl) (fun _ h9 => h9) dX12_bringsOf_153 (fun v9 m274 h9 => ?_)
                  obtain ⟨rfl, hg275⟩ := h9 _ rfl
                  refine lv_sipush (v := 672) hx hb dX12_bringsOf_156 (by decide) ?_
                  refine lv_iload hx hb dX12_bringsOf_159 (lv_at hl 0 rfl) ?_
                  refine lv_iadd hx hb dX12_bringsOf_161 ?_
                  refine lv_topi (fun x276 ex276 => ?_)
                  obtain rfl : nI (672 + i185) = x276 := (ex276.trans (nI_add 672 i185)).symm
                  refine tw_iald (i := (nI (672 + i185))) hx hb hK hT hg275 shm_2 rfl (vp_in_nI (by omega) (by decide)) dX12_bringsOf_162 (fun v9 m277 h9 => ?_)
                  obtain ⟨x278, rfl, gx278, kx278⟩ := (gp_at h9 (w_fre (by have q9 := tn_of (show (nI (672 + i185)).toInt = ((672 + i185 : Nat) : Int) from (nI_toInt (by omega))) (show (0 : Int) ≤ ((672 + i185 : Nat) : Int) from by omega); omega)))
                  refine lv_iload_n hx hb dX12_bringsOf_163 rfl (lv_at hl 4 rfl) ?_
                  have jn285 : ∀ (z279 : Int32), ((0 ≤ z279.toInt ∧ z279.toInt ≤ 1)) → ∀ (H : Heap) (locs : List Loc), gH (dC, dI) kA (SHm q (wP wZ wN wH wB wC wL wK wU wV) PI im PM PT lS lB lE lN) G H → gF (dC, dI) SKm G ([] : List (Nat × Nat)) s.heap H → va_S A s.heap H locs → el H (q 45) fa.toNatClampNeg = some (.int x4) → el H (q 43) fa.toNatClampNeg = some (.int x261) → el H (q 44) fa.toNatClampNeg = some (.int x265) → el H (q 1) (nI (672 + i185)).toNatClampNeg = some (.int x278) → ∀ ls : Array Slot, lv_has ls 8 [(6, .int (nI i185)), (5, .int z186), (4, .int 50), (3, .int z27), (2, .int z12), (0, .ref o0), (1, .int fa)] → W p l e (headSpec w_s_bringsOf ({ frames := 2, cells := 0, slots := 0, locals := 64 })).room s m #[.ref o0, .int fa] below meth c H locs 0 0 (MQ below (va_Qi (fun (r : Int32) (u : Unit) => True) (fun (_ : Unit) (t : State) => gH (dC, dI) kA (SHm q (wP wZ wN wH wB wC wL wK wU wV) PI im PM PT lS lB lE lN) G t.heap ∧ gF (dC, dI) SKm G ([] : List (Nat × Nat)) s.heap t.heap) A) #[.ref o0, .int fa] s 0 0 A) (F0 m 172 ls [.int z279]) := by
                    intro z279 h280 H locs hT hF hS m281 m282 m283 m284 ls hl
                    refine lv_aload_n hx hb dX12_bringsOf_172 rfl (lv_at hl 5 rfl) ?_
                    refine tw_get hx hb hts bF_X12 hown hK hT hr_o0 shm_0 rfl 1 (by decide) (ht_at hts 17 rfl) (fun _ h9 => h9) dX12_bringsOf_173 (fun v9 m286 h9 => ?_)
                    obtain ⟨rfl, hg287⟩ := h9 _ rfl
                    refine lv_sipush (v := 480) hx hb dX12_bringsOf_176 (by decide) ?_
                    refine lv_iload hx hb dX12_bringsOf_179 (lv_at hl 0 rfl) ?_
                    refine lv_iadd hx hb dX12_bringsOf_181 ?_
                    refine lv_topi (fun x288 ex288 => ?_)
                    obtain rfl : nI (480 + i185) = x288 := (ex288.trans (nI_add 480 i185)).symm
                    refine tw_iald (i := (nI (480 + i185))) hx hb hK hT hg275 shm_2 rfl (vp_in_nI (by omega) (by decide)) dX12_bringsOf_182 (fun v9 m289 h9 => ?_)
                    obtain ⟨x290, rfl, gx290, kx290⟩ := (gp_at h9 (w_fre (by have q9 := tn_of (show (nI (480 + i185)).toInt = ((480 + i185 : Nat) : Int) from (nI_toInt (by omega))) (show (0 : Int) ≤ ((480 + i185 : Nat) : Int) from by omega); omega)))
                    refine lv_iload_n hx hb dX12_bringsOf_183 rfl (lv_at hl 3 rfl) ?_
                    have jn298 : ∀ (z291 : Int32), ((0 ≤ z291.toInt ∧ z291.toInt ≤ 1)) → ∀ (H : Heap) (locs : List Loc), gH (dC, dI) kA (SHm q (wP wZ wN wH wB wC wL wK wU wV) PI im PM PT lS lB lE lN) G H → gF (dC, dI) SKm G ([] : List (Nat × Nat)) s.heap H → va_S A s.heap H locs → el H (q 45) fa.toNatClampNeg = some (.int x4) → el H (q 43) fa.toNatClampNeg = some (.int x261) → el H (q 44) fa.toNatClampNeg = some (.int x265) → el H (q 1) (nI (672 + i185)).toNatClampNeg = some (.int x278) → el H (q 1) (nI (480 + i185)).toNatClampNeg = some (.int x290) → ∀ ls : Array Slot, lv_has ls 8 [(6, .int (nI i185)), (5, .int z186), (4, .int 50), (3, .int z27), (2, .int z12), (0, .ref o0), (1, .int fa)] → W p l e (headSpec w_s_bringsOf ({ frames := 2, cells := 0, slots := 0, locals := 64 })).room s m #[.ref o0, .int fa] below meth c H locs 0 0 (MQ below (va_Qi (fun (r : Int32) (u : Unit) => True) (fun (_ : Unit) (t : State) => gH (dC, dI) kA (SHm q (wP wZ wN wH wB wC wL wK wU wV) PI im PM PT lS lB lE lN) G t.heap ∧ gF (dC, dI) SKm G ([] : List (Nat × Nat)) s.heap t.heap) A) #[.ref o0, .int fa] s 0 0 A) (F0 m 192 ls [.int z291, .int z279]) := by
                      intro z291 h292 H locs hT hF hS m293 m294 m295 m296 m297 ls hl
                      refine lv_iadd hx hb dX12_bringsOf_192 ?_
                      refine lv_topi (fun x299 ex299 => ?_)
                      have t300 : x299.toInt = z279.toInt + z291.toInt := ti_add ex299 rfl rfl (by omega) (by omega)
                      refine lv_istore (lv' := [(7, .int x299), (6, .int (nI i185)), (5, .int z186), (4, .int 50), (3, .int z27), (2, .int z12), (0, .ref o0), (1, .int fa)]) hx hb dX12_bringsOf_193 hl (by decide) rfl (fun ls hl => ?_)
                      refine lv_iload hx hb dX12_bringsOf_195 (lv_at hl 2 rfl) ?_
                      refine lv_iload hx hb dX12_bringsOf_197 (lv_at hl 0 rfl) ?_
                      refine lv_if_ne (tgt := 207) hx hb dX12_bringsOf_199 (by decide) (fun c301 => ?_) (fun c301 => ?_)
                      · have t302 : x299.toInt ≠ 0 := ti_ne c301 rfl (by decide)
                        refine lv_iload hx hb dX12_bringsOf_207 (lv_at hl 0 rfl) ?_
                        refine lv_iconst (v := 1) hx hb dX12_bringsOf_209 (by decide) ?_
                        refine lv_icmp_ne (tgt := 220) hx hb dX12_bringsOf_210 (by decide) (fun c303 => ?_) (fun c303 => ?_)
                        · have t304 : x299.toInt ≠ 1 := ti_ne c303 rfl (by decide)
                          refine lv_iconst (v := 0) hx hb dX12_bringsOf_220 (by decide) ?_
                          refine lv_iadd hx hb dX12_bringsOf_221 ?_
                          refine lv_topi (fun x305 ex305 => ?_)
                          have t306 : -2147483648 ≤ z186.toInt ∧ z186.toInt ≤ 2147483647 := ti_all z186
                          have t307 : x305.toInt = z186.toInt + 0 := ti_add ex305 rfl (by decide) (by omega) (by omega)
                          refine lv_istore (lv' := [(5, .int x305), (7, .int x299), (6, .int (nI i185)), (4, .int 50), (3, .int z27), (2, .int z12), (0, .ref o0), (1, .int fa)]) hx hb dX12_bringsOf_222 hl (by decide) rfl (fun ls hl => ?_)
                          refine lv_iinc (v := nI (i185 + 1)) (lv' := [(6, .int (nI (i185 + 1))), (5, .int x305), (7, .int x299), (4, .int 50), (3, .int z27), (2, .int z12), (0, .ref o0), (1, .int fa)]) hx hb dX12_bringsOf_224 hl (k := 2) rfl (nI_add i185 1) (by decide) rfl (fun ls hl => ?_)
                          refine lv_goto (tgt := 122) hx hb dX12_bringsOf_227 (by decide) ?_
                          exact ih252 (i185 + 1) (by omega) (by omega) x305 _ _ hT hF hS m293 ls (lv_sub hl [0, 1, 3, 4, 5, 6, 7] rfl)
                        · have t308 : x299.toInt = 1 := ti_eq c303 rfl (by decide)
                          refine lv_iload hx hb dX12_bringsOf_213 (lv_at hl 3 rfl) ?_
                          refine lv_iconst (v := 2) hx hb dX12_bringsOf_215 (by decide) ?_
                          refine lv_idiv hx hb dX12_bringsOf_216 (by decide) ?_
                          refine lv_topi (fun x309 ex309 => ?_)
                          obtain rfl : x309 = 25 := ex309.trans (by decide)
                          refine lv_goto (tgt := 221) hx hb dX12_bringsOf_217 (by decide) ?_
                          refine lv_iadd hx hb dX12_bringsOf_221 ?_
                          refine lv_topi (fun x310 ex310 => ?_)
                          refine lv_istore (lv' := [(5, .int x310), (7, .int x299), (6, .int (nI i185)), (4, .int 50), (3, .int z27), (2, .int z12), (0, .ref o0), (1, .int fa)]) hx hb dX12_bringsOf_222 hl (by decide) rfl (fun ls hl => ?_)
                          refine lv_iinc (v := nI (i185 + 1)) (lv' := [(6, .int (nI (i185 + 1))), (5, .int x310), (7, .int x299), (4, .int 50), (3, .int z27), (2, .int z12), (0, .ref o0), (1, .int fa)]) hx hb dX12_bringsOf_224 hl (k := 2) rfl (nI_add i185 1) (by decide) rfl (fun ls hl => ?_)
                          refine lv_goto (tgt := 122) hx hb dX12_bringsOf_227 (by decide) ?_
                          exact ih252 (i185 + 1) (by omega) (by omega) x310 _ _ hT hF hS m293 ls (lv_sub hl [0, 1, 3, 4, 5, 6, 7] rfl)
                      · have t311 : x299.toInt = 0 := ti_eq c301 rfl (by decide)
                        refine lv_iload hx hb dX12_bringsOf_202 (lv_at hl 3 rfl) ?_
                        refine lv_goto (tgt := 221) hx hb dX12_bringsOf_204 (by decide) ?_
                        refine lv_iadd hx hb dX12_bringsOf_221 ?_
                        refine lv_topi (fun x312 ex312 => ?_)
                        refine lv_istore (lv' := [(5, .int x312), (7, .int x299), (6, .int (nI i185)), (4, .int 50), (3, .int z27), (2, .int z12), (0, .ref o0), (1, .int fa)]) hx hb dX12_bringsOf_222 hl (by decide) rfl (fun ls hl => ?_)
                        refine lv_iinc (v := nI (i185 + 1)) (lv' := [(6, .int (nI (i185 + 1))), (5, .int x312), (7, .int x299), (4, .int 50), (3, .int z27), (2, .int z12), (0, .ref o0), (1, .int fa)]) hx hb dX12_bringsOf_224 hl (k := 2) rfl (nI_add i185 1) (by decide) rfl (fun ls hl => ?_)
                        refine lv_goto (tgt := 122) hx hb dX12_bringsOf_227 (by decide) ?_
                        exact ih252 (i185 + 1) (by omega) (by omega) x312 _ _ hT hF hS m293 ls (lv_sub hl [0, 1, 3, 4, 5, 6, 7] rfl)
                    refine lv_icmp_le (tgt := 191) hx hb dX12_bringsOf_184 (by decide) (fun c313 => ?_) (fun c313 => ?_)
                    · have t314 : x290.toInt ≤ z27.toInt := ti_le c313 rfl rfl
                      refine lv_iconst (v := 0) hx hb dX12_bringsOf_191 (by decide) ?_
                      exact jn298 0 (rg_t (a := 0) (by decide) (by first | decide | omega) (by first | decide | omega)) _ _ hT hF hS m281 m282 m283 m284 m289 ls (lv_sub hl [0, 1, 2, 3, 4, 5, 6] rfl)
                    · have t315 : z27.toInt < x290.toInt := ti_nle c313 rfl rfl
                      refine lv_iconst (v := 1) hx hb dX12_bringsOf_187 (by decide) ?_
                      refine lv_goto (tgt := 192) hx hb dX12_bringsOf_188 (by decide) ?_
                      exact jn298 1 (rg_t (a := 1) (by decide) (by first | decide | omega) (by first | decide | omega)) _ _ hT hF hS m281 m282 m283 m284 m289 ls (lv_sub hl [0, 1, 2, 3, 4, 5, 6] rfl)
                  refine lv_icmp_le (tgt := 171) hx hb dX12_bringsOf_164 (by decide) (fun c316 => ?_) (fun c316 => ?_)
                  · have t317 : x278.toInt ≤ z12.toInt := ti_le c316 rfl rfl
                    refine lv_iconst (v := 0) hx hb dX12_bringsOf_171 (by decide) ?_
                    exact jn285 0 (rg_t (a := 0) (by decide) (by first | decide | omega) (by first | decide | omega)) _ _ hT hF hS m268 m269 m270 m277 ls (lv_sub hl [0, 1, 2, 3, 4, 5, 6] rfl)
                  · have t318 : z12.toInt < x278.toInt := ti_nle c316 rfl rfl
                    refine lv_iconst (v := 1) hx hb dX12_bringsOf_167 (by decide) ?_
                    refine lv_goto (tgt := 172) hx hb dX12_bringsOf_168 (by decide) ?_
                    exact jn285 1 (rg_t (a := 1) (by decide) (by first | decide | omega) (by first | decide | omega)) _ _ hT hF hS m268 m269 m270 m277 ls (lv_sub hl [0, 1, 2, 3, 4, 5, 6] rfl)
                · have t319 : r266.toInt = 0 := ti_eq c272 rfl (by decide)
                  refine lv_goto (tgt := 224) hx hb dX12_bringsOf_149 (by decide) ?_
                  refine lv_iinc (v := nI (i185 + 1)) (lv' := [(6, .int (nI (i185 + 1))), (5, .int z186), (4, .int 50), (3, .int z27), (2, .int z12), (0, .ref o0), (1, .int fa)]) hx hb dX12_bringsOf_224 hl (k := 0) rfl (nI_add i185 1) (by decide) rfl (fun ls hl => ?_)
                  refine lv_goto (tgt := 122) hx hb dX12_bringsOf_227 (by decide) ?_
                  exact ih252 (i185 + 1) (by omega) (by omega) z186 _ _ hT hF hS m268 ls (lv_sub hl [0, 1, 2, 3, 4, 5, 6] rfl)
            exact key252 (96 - 0) 0 (by omega) (Nat.le_refl _) 0 _ _ hT hF hS m29 ls (lv_sub hl [0, 1, 2, 3, 4, 5, 6] rfl)
        · have t320 : x4.toInt = 1 := ti_eq c41 rfl (by decide)
          refine lv_bipush (v := 20) hx hb dX12_bringsOf_92 (by decide) ?_
          refine lv_goto (tgt := 114) hx hb dX12_bringsOf_94 (by decide) ?_
          refine lv_istore (lv' := [(4, .int 20), (3, .int z27), (2, .int z12), (0, .ref o0), (1, .int fa)]) hx hb dX12_bringsOf_114 hl (by decide) rfl (fun ls hl => ?_)
          refine lv_iconst (v := 0) hx hb dX12_bringsOf_116 (by decide) ?_
          refine lv_istore (lv' := [(5, .int 0), (4, .int 20), (3, .int z27), (2, .int z12), (0, .ref o0), (1, .int fa)]) hx hb dX12_bringsOf_117 hl (by decide) rfl (fun ls hl => ?_)
          refine lv_iconst (v := 0) hx hb dX12_bringsOf_119 (by decide) ?_
          refine lv_istore (lv' := [(6, .int 0), (5, .int 0), (4, .int 20), (3, .int z27), (2, .int z12), (0, .ref o0), (1, .int fa)]) hx hb dX12_bringsOf_120 hl (by decide) rfl (fun ls hl => ?_)
          have key388 : ∀ (n388 i321 : Nat), i321 + n388 = 96 → 0 ≤ i321 → ∀ (z322 : Int32), ∀ (H : Heap) (locs : List Loc), gH (dC, dI) kA (SHm q (wP wZ wN wH wB wC wL wK wU wV) PI im PM PT lS lB lE lN) G H → gF (dC, dI) SKm G ([] : List (Nat × Nat)) s.heap H → va_S A s.heap H locs → el H (q 45) fa.toNatClampNeg = some (.int x4) → ∀ ls : Array Slot, lv_has ls 8 [(6, .int (nI i321)), (5, .int z322), (4, .int 20), (3, .int z27), (2, .int z12), (0, .ref o0), (1, .int fa)] → W p l e (headSpec w_s_bringsOf ({ frames := 2, cells := 0, slots := 0, locals := 64 })).room s m #[.ref o0, .int fa] below meth c H locs 0 0 (MQ below (va_Qi (fun (r : Int32) (u : Unit) => True) (fun (_ : Unit) (t : State) => gH (dC, dI) kA (SHm q (wP wZ wN wH wB wC wL wK wU wV) PI im PM PT lS lB lE lN) G t.heap ∧ gF (dC, dI) SKm G ([] : List (Nat × Nat)) s.heap t.heap) A) #[.ref o0, .int fa] s 0 0 A) (F0 m 122 ls []) := by
            intro n388
            induction n388 with
            | zero =>
              intro i321 hn388 hlo389 z322 H locs hT hF hS m323 ls hl
              obtain rfl : 96 = i321 := by omega
              refine lv_iload hx hb dX12_bringsOf_122 (lv_at hl 0 rfl) ?_
              refine lv_bipush (v := 96) hx hb dX12_bringsOf_124 (by decide) ?_
              refine lv_icmp_ge (tgt := 230) hx hb dX12_bringsOf_126 (by decide) (fun c390 => ?_) (fun c390 => (by exfalso; have q9 : ((96 : Nat) : Int) < 96 := ti_nle c390 (by decide) (nI_toInt (by omega)); omega))
              have t391 : 96 ≤ ((96 : Nat) : Int) := ti_le c390 (by decide) (nI_toInt (by omega))
              refine lv_iload hx hb dX12_bringsOf_230 (lv_at hl 1 rfl) ?_
              exact W.iret (v := z322) hx hb hr (fun t ht hW => ⟨⟨z322, (), rfl, (by exact trivial), by (try dsimp only); rw [ht]; exact ⟨hT, hF⟩⟩, hS.F ht⟩) hS.2.2 dX12_bringsOf_232
            | succ n388 ih388 =>
              intro i321 hn388 hlo389 z322 H locs hT hF hS m323 ls hl
              have hlt391 : i321 < 96 := by omega
              refine lv_iload hx hb dX12_bringsOf_122 (lv_at hl 0 rfl) ?_
              refine lv_bipush (v := 96) hx hb dX12_bringsOf_124 (by decide) ?_
              refine lv_icmp_ge (tgt := 230) hx hb dX12_bringsOf_126 (by decide) (fun c392 => (by exfalso; have q9 : 96 ≤ ((i321 : Nat) : Int) := ti_le c392 (by decide) (nI_toInt (by omega)); omega)) (fun c392 => ?_)
              have t393 : ((i321 : Nat) : Int) < 96 := ti_nle c392 (by decide) (nI_toInt (by omega))
              refine lv_iload hx hb dX12_bringsOf_129 (lv_at hl 0 rfl) ?_
              refine lv_aload_n hx hb dX12_bringsOf_131 rfl (lv_at hl 5 rfl) ?_
              refine tw_get hx hb hts bF_X12 hown hK hT hr_o0 shm_0 rfl 43 (by decide) (ht_at hts 1 rfl) (fun _ h9 => h9) dX12_bringsOf_132 (fun v9 m394 h9 => ?_)
              obtain ⟨rfl, hg395⟩ := h9 _ rfl
              refine lv_iload_n hx hb dX12_bringsOf_135 rfl (lv_at hl 6 rfl) ?_
              refine tw_iald (i := fa) hx hb hK hT hg395 shm_44 rfl (vin_t (a := fa.toInt) rfl (by omega) (by omega)) dX12_bringsOf_136 (fun v9 m396 h9 => ?_)
              obtain ⟨x397, rfl, gx397, kx397⟩ := h9
              refine lv_aload_n hx hb dX12_bringsOf_137 rfl (lv_at hl 5 rfl) ?_
              refine tw_get hx hb hts bF_X12 hown hK hT hr_o0 shm_0 rfl 44 (by decide) (ht_at hts 2 rfl) (fun _ h9 => h9) dX12_bringsOf_138 (fun v9 m398 h9 => ?_)
              obtain ⟨rfl, hg399⟩ := h9 _ rfl
              refine lv_iload_n hx hb dX12_bringsOf_141 rfl (lv_at hl 6 rfl) ?_
              refine tw_iald (i := fa) hx hb hK hT hg399 shm_45 rfl (vin_t (a := fa.toInt) rfl (by omega) (by omega)) dX12_bringsOf_142 (fun v9 m400 h9 => ?_)
              obtain ⟨x401, rfl, gx401, kx401⟩ := h9
              have hFc := gA_free hG hA hS
              refine va_calli (va_runS (As := [.int (nI i321), .int x397, .int x401]) (rest := []) ⟨hx, hb, hml, hown, hts⟩ (s_isIn l dC dI kA adK adV G H q wZ wN wH wB wC wL wK wU wV PI im PM PT lS lB lE lN (nI i321) x397 x401 hT hgz hgn hgh hgb hgc hgi hgu) (va_cwS 3 hts (goodIn_app (goodIn_r _ [16, 17, 15] rfl (by decide +kernel)) (goodIn_ca (goodIn_r _ [4, 5, 6, 7, 8, 9, 10, 11, 12, 13, 14, 15] rfl (by decide +kernel)) (bs_in _ _))) rfl rfl rfl (by decide +kernel) ⟨(Nat.le_of_ble_eq_true rfl), (Nat.le_of_ble_eq_true rfl)⟩) ⟨fun a U g mk q => by obtain ⟨q0, q1, qK, qE⟩ := q; exact ⟨q0, q1, va_K.moved (u := U) (U := U.calling g mk a) (Vm.Alike.refl U.vm) qK, EVS.blind g mk a qE⟩, fun U hU hW => ⟨rfl, hU, va_K.moved hW.alike hK, hE.call hS hFc hU hW⟩⟩ rfl rfl hl.1 rfl (lv_room (Nat.le_of_ble_eq_true rfl)) dX12_bringsOf_143 ⟨(Nat.le_of_ble_eq_true rfl), (Nat.le_of_ble_eq_true rfl)⟩) hS (fun q _ h => hFc q h) hFc (fun r402 u t H locs ht hvm hw403 hB _ _ hS => ?_)
              obtain ⟨hT, hF1⟩ := hB
              rw [ht] at hT hF1
              have m404 := (el_kept (hF1.arr hg2 skm_46 (by decide))).trans m323
              have m405 := (el_kept (hF1.arr hg395 skm_44 (by decide))).trans m396
              have m406 := (el_kept (hF1.arr hg399 skm_45 (by decide))).trans m400
              have hF := hF.more hF1 (by decide)
              try dsimp only at hw403
              have h407 := hw403
              refine lv_if_ne (tgt := 152) hx hb dX12_bringsOf_146 (by decide) (fun c408 => ?_) (fun c408 => ?_)
              · have t409 : r402.toInt ≠ 0 := ti_ne c408 rfl (by decide)
                refine lv_aload_n hx hb dX12_bringsOf_152 rfl (lv_at hl 5 rfl) ?_
                refine tw_get hx hb hts bF_X12 hown hK hT hr_o0 shm_0 rfl 1 (by decide) (ht_at hts 17 rfl) (fun _ h9 => h9) dX12_bringsOf_153 (fun v9 m410 h9 => ?_)
                obtain ⟨rfl, hg411⟩ := h9 _ rfl
                refine lv_sipush (v := 672) hx hb dX12_bringsOf_156 (by decide) ?_
                refine lv_iload hx hb dX12_bringsOf_159 (lv_at hl 0 rfl) ?_
                refine lv_iadd hx hb dX12_bringsOf_161 ?_
                refine lv_topi (fun x412 ex412 => ?_)
                obtain rfl : nI (672 + i321) = x412 := (ex412.trans (nI_add 672 i321)).symm
                refine tw_iald (i := (nI (672 + i321))) hx hb hK hT hg411 shm_2 rfl (vp_in_nI (by omega) (by decide)) dX12_bringsOf_162 (fun v9 m413 h9 => ?_)
                obtain ⟨x414, rfl, gx414, kx414⟩ := (gp_at h9 (w_fre (by have q9 := tn_of (show (nI (672 + i321)).toInt = ((672 + i321 : Nat) : Int) from (nI_toInt (by omega))) (show (0 : Int) ≤ ((672 + i321 : Nat) : Int) from by omega); omega)))
                refine lv_iload_n hx hb dX12_bringsOf_163 rfl (lv_at hl 4 rfl) ?_
                have jn421 : ∀ (z415 : Int32), ((0 ≤ z415.toInt ∧ z415.toInt ≤ 1)) → ∀ (H : Heap) (locs : List Loc), gH (dC, dI) kA (SHm q (wP wZ wN wH wB wC wL wK wU wV) PI im PM PT lS lB lE lN) G H → gF (dC, dI) SKm G ([] : List (Nat × Nat)) s.heap H → va_S A s.heap H locs → el H (q 45) fa.toNatClampNeg = some (.int x4) → el H (q 43) fa.toNatClampNeg = some (.int x397) → el H (q 44) fa.toNatClampNeg = some (.int x401) → el H (q 1) (nI (672 + i321)).toNatClampNeg = some (.int x414) → ∀ ls : Array Slot, lv_has ls 8 [(6, .int (nI i321)), (5, .int z322), (4, .int 20), (3, .int z27), (2, .int z12), (0, .ref o0), (1, .int fa)] → W p l e (headSpec w_s_bringsOf ({ frames := 2, cells := 0, slots := 0, locals := 64 })).room s m #[.ref o0, .int fa] below meth c H locs 0 0 (MQ below (va_Qi (fun (r : Int32) (u : Unit) => True) (fun (_ : Unit) (t : State) => gH (dC, dI) kA (SHm q (wP wZ wN wH wB wC wL wK wU wV) PI im PM PT lS lB lE lN) G t.heap ∧ gF (dC, dI) SKm G ([] : List (Nat × Nat)) s.heap t.heap) A) #[.ref o0, .int fa] s 0 0 A) (F0 m 172 ls [.int z415]) := by
                  intro z415 h416 H locs hT hF hS m417 m418 m419 m420 ls hl
                  refine lv_aload_n hx hb dX12_bringsOf_172 rfl (lv_at hl 5 rfl) ?_
                  refine tw_get hx hb hts bF_X12 hown hK hT hr_o0 shm_0 rfl 1 (by decide) (ht_at hts 17 rfl) (fun _ h9 => h9) dX12_bringsOf_173 (fun v9 m422 h9 => ?_)
                  obtain ⟨rfl, hg423⟩ := h9 _ rfl
                  refine lv_sipush (v := 480) hx hb dX12_bringsOf_176 (by decide) ?_
                  refine lv_iload hx hb dX12_bringsOf_179 (lv_at hl 0 rfl) ?_
                  refine lv_iadd hx hb dX12_bringsOf_181 ?_
                  refine lv_topi (fun x424 ex424 => ?_)
                  obtain rfl : nI (480 + i321) = x424 := (ex424.trans (nI_add 480 i321)).symm
                  refine tw_iald (i := (nI (480 + i321))) hx hb hK hT hg411 shm_2 rfl (vp_in_nI (by omega) (by decide)) dX12_bringsOf_182 (fun v9 m425 h9 => ?_)
                  obtain ⟨x426, rfl, gx426, kx426⟩ := (gp_at h9 (w_fre (by have q9 := tn_of (show (nI (480 + i321)).toInt = ((480 + i321 : Nat) : Int) from (nI_toInt (by omega))) (show (0 : Int) ≤ ((480 + i321 : Nat) : Int) from by omega); omega)))
                  refine lv_iload_n hx hb dX12_bringsOf_183 rfl (lv_at hl 3 rfl) ?_
                  have jn434 : ∀ (z427 : Int32), ((0 ≤ z427.toInt ∧ z427.toInt ≤ 1)) → ∀ (H : Heap) (locs : List Loc), gH (dC, dI) kA (SHm q (wP wZ wN wH wB wC wL wK wU wV) PI im PM PT lS lB lE lN) G H → gF (dC, dI) SKm G ([] : List (Nat × Nat)) s.heap H → va_S A s.heap H locs → el H (q 45) fa.toNatClampNeg = some (.int x4) → el H (q 43) fa.toNatClampNeg = some (.int x397) → el H (q 44) fa.toNatClampNeg = some (.int x401) → el H (q 1) (nI (672 + i321)).toNatClampNeg = some (.int x414) → el H (q 1) (nI (480 + i321)).toNatClampNeg = some (.int x426) → ∀ ls : Array Slot, lv_has ls 8 [(6, .int (nI i321)), (5, .int z322), (4, .int 20), (3, .int z27), (2, .int z12), (0, .ref o0), (1, .int fa)] → W p l e (headSpec w_s_bringsOf ({ frames := 2, cells := 0, slots := 0, locals := 64 })).room s m #[.ref o0, .int fa] below meth c H locs 0 0 (MQ below (va_Qi (fun (r : Int32) (u : Unit) => True) (fun (_ : Unit) (t : State) => gH (dC, dI) kA (SHm q (wP wZ wN wH wB wC wL wK wU wV) PI im PM PT lS lB lE lN) G t.heap ∧ gF (dC, dI) SKm G ([] : List (Nat × Nat)) s.heap t.heap) A) #[.ref o0, .int fa] s 0 0 A) (F0 m 192 ls [.int z427, .int z415]) := by
                    intro z427 h428 H locs hT hF hS m429 m430 m431 m432 m433 ls hl
                    refine lv_iadd hx hb dX12_bringsOf_192 ?_
                    refine lv_topi (fun x435 ex435 => ?_)
                    have t436 : x435.toInt = z415.toInt + z427.toInt := ti_add ex435 rfl rfl (by omega) (by omega)
                    refine lv_istore (lv' := [(7, .int x435), (6, .int (nI i321)), (5, .int z322), (4, .int 20), (3, .int z27), (2, .int z12), (0, .ref o0), (1, .int fa)]) hx hb dX12_bringsOf_193 hl (by decide) rfl (fun ls hl => ?_)
                    refine lv_iload hx hb dX12_bringsOf_195 (lv_at hl 2 rfl) ?_
                    refine lv_iload hx hb dX12_bringsOf_197 (lv_at hl 0 rfl) ?_
                    refine lv_if_ne (tgt := 207) hx hb dX12_bringsOf_199 (by decide) (fun c437 => ?_) (fun c437 => ?_)
                    · have t438 : x435.toInt ≠ 0 := ti_ne c437 rfl (by decide)
                      refine lv_iload hx hb dX12_bringsOf_207 (lv_at hl 0 rfl) ?_
                      refine lv_iconst (v := 1) hx hb dX12_bringsOf_209 (by decide) ?_
                      refine lv_icmp_ne (tgt := 220) hx hb dX12_bringsOf_210 (by decide) (fun c439 => ?_) (fun c439 => ?_)
                      · have t440 : x435.toInt ≠ 1 := ti_ne c439 rfl (by decide)
                        refine lv_iconst (v := 0) hx hb dX12_bringsOf_220 (by decide) ?_
                        refine lv_iadd hx hb dX12_bringsOf_221 ?_
                        refine lv_topi (fun x441 ex441 => ?_)
                        have t442 : -2147483648 ≤ z322.toInt ∧ z322.toInt ≤ 2147483647 := ti_all z322
                        have t443 : x441.toInt = z322.toInt + 0 := ti_add ex441 rfl (by decide) (by omega) (by omega)
                        refine lv_istore (lv' := [(5, .int x441), (7, .int x435), (6, .int (nI i321)), (4, .int 20), (3, .int z27), (2, .int z12), (0, .ref o0), (1, .int fa)]) hx hb dX12_bringsOf_222 hl (by decide) rfl (fun ls hl => ?_)
                        refine lv_iinc (v := nI (i321 + 1)) (lv' := [(6, .int (nI (i321 + 1))), (5, .int x441), (7, .int x435), (4, .int 20), (3, .int z27), (2, .int z12), (0, .ref o0), (1, .int fa)]) hx hb dX12_bringsOf_224 hl (k := 2) rfl (nI_add i321 1) (by decide) rfl (fun ls hl => ?_)
                        refine lv_goto (tgt := 122) hx hb dX12_bringsOf_227 (by decide) ?_
                        exact ih388 (i321 + 1) (by omega) (by omega) x441 _ _ hT hF hS m429 ls (lv_sub hl [0, 1, 3, 4, 5, 6, 7] rfl)
                      · have t444 : x435.toInt = 1 := ti_eq c439 rfl (by decide)
                        refine lv_iload hx hb dX12_bringsOf_213 (lv_at hl 3 rfl) ?_
                        refine lv_iconst (v := 2) hx hb dX12_bringsOf_215 (by decide) ?_
                        refine lv_idiv hx hb dX12_bringsOf_216 (by decide) ?_
                        refine lv_topi (fun x445 ex445 => ?_)
                        obtain rfl : x445 = 10 := ex445.trans (by decide)
                        refine lv_goto (tgt := 221) hx hb dX12_bringsOf_217 (by decide) ?_
                        refine lv_iadd hx hb dX12_bringsOf_221 ?_
                        refine lv_topi (fun x446 ex446 => ?_)
                        refine lv_istore (lv' := [(5, .int x446), (7, .int x435), (6, .int (nI i321)), (4, .int 20), (3, .int z27), (2, .int z12), (0, .ref o0), (1, .int fa)]) hx hb dX12_bringsOf_222 hl (by decide) rfl (fun ls hl => ?_)
                        refine lv_iinc (v := nI (i321 + 1)) (lv' := [(6, .int (nI (i321 + 1))), (5, .int x446), (7, .int x435), (4, .int 20), (3, .int z27), (2, .int z12), (0, .ref o0), (1, .int fa)]) hx hb dX12_bringsOf_224 hl (k := 2) rfl (nI_add i321 1) (by decide) rfl (fun ls hl => ?_)
                        refine lv_goto (tgt := 122) hx hb dX12_bringsOf_227 (by decide) ?_
                        exact ih388 (i321 + 1) (by omega) (by omega) x446 _ _ hT hF hS m429 ls (lv_sub hl [0, 1, 3, 4, 5, 6, 7] rfl)
                    · have t447 : x435.toInt = 0 := ti_eq c437 rfl (by decide)
                      refine lv_iload hx hb dX12_bringsOf_202 (lv_at hl 3 rfl) ?_
                      refine lv_goto (tgt := 221) hx hb dX12_bringsOf_204 (by decide) ?_
                      refine lv_iadd hx hb dX12_bringsOf_221 ?_
                      refine lv_topi (fun x448 ex448 => ?_)
                      refine lv_istore (lv' := [(5, .int x448), (7, .int x435), (6, .int (nI i321)), (4, .int 20), (3, .int z27), (2, .int z12), (0, .ref o0), (1, .int fa)]) hx hb dX12_bringsOf_222 hl (by decide) rfl (fun ls hl => ?_)
                      refine lv_iinc (v := nI (i321 + 1)) (lv' := [(6, .int (nI (i321 + 1))), (5, .int x448), (7, .int x435), (4, .int 20), (3, .int z27), (2, .int z12), (0, .ref o0), (1, .int fa)]) hx hb dX12_bringsOf_224 hl (k := 2) rfl (nI_add i321 1) (by decide) rfl (fun ls hl => ?_)
                      refine lv_goto (tgt := 122) hx hb dX12_bringsOf_227 (by decide) ?_
                      exact ih388 (i321 + 1) (by omega) (by omega) x448 _ _ hT hF hS m429 ls (lv_sub hl [0, 1, 3, 4, 5, 6, 7] rfl)
                  refine lv_icmp_le (tgt := 191) hx hb dX12_bringsOf_184 (by decide) (fun c449 => ?_) (fun c449 => ?_)
                  · have t450 : x426.toInt ≤ z27.toInt := ti_le c449 rfl rfl
                    refine lv_iconst (v := 0) hx hb dX12_bringsOf_191 (by decide) ?_
                    exact jn434 0 (rg_t (a := 0) (by decide) (by first | decide | omega) (by first | decide | omega)) _ _ hT hF hS m417 m418 m419 m420 m425 ls (lv_sub hl [0, 1, 2, 3, 4, 5, 6] rfl)
                  · have t451 : z27.toInt < x426.toInt := ti_nle c449 rfl rfl
                    refine lv_iconst (v := 1) hx hb dX12_bringsOf_187 (by decide) ?_
                    refine lv_goto (tgt := 192) hx hb dX12_bringsOf_188 (by decide) ?_
                    exact jn434 1 (rg_t (a := 1) (by decide) (by first | decide | omega) (by first | decide | omega)) _ _ hT hF hS m417 m418 m419 m420 m425 ls (lv_sub hl [0, 1, 2, 3, 4, 5, 6] rfl)
                refine lv_icmp_le (tgt := 171) hx hb dX12_bringsOf_164 (by decide) (fun c452 => ?_) (fun c452 => ?_)
                · have t453 : x414.toInt ≤ z12.toInt := ti_le c452 rfl rfl
                  refine lv_iconst (v := 0) hx hb dX12_bringsOf_171 (by decide) ?_
                  exact jn421 0 (rg_t (a := 0) (by decide) (by first | decide | omega) (by first | decide | omega)) _ _ hT hF hS m404 m405 m406 m413 ls (lv_sub hl [0, 1, 2, 3, 4, 5, 6] rfl)
                · have t454 : z12.toInt < x414.toInt := ti_nle c452 rfl rfl
                  refine lv_iconst (v := 1) hx hb dX12_bringsOf_167 (by decide) ?_
                  refine lv_goto (tgt := 172) hx hb dX12_bringsOf_168 (by decide) ?_
                  exact jn421 1 (rg_t (a := 1) (by decide) (by first | decide | omega) (by first | decide | omega)) _ _ hT hF hS m404 m405 m406 m413 ls (lv_sub hl [0, 1, 2, 3, 4, 5, 6] rfl)
              · have t455 : r402.toInt = 0 := ti_eq c408 rfl (by decide)
                refine lv_goto (tgt := 224) hx hb dX12_bringsOf_149 (by decide) ?_
                refine lv_iinc (v := nI (i321 + 1)) (lv' := [(6, .int (nI (i321 + 1))), (5, .int z322), (4, .int 20), (3, .int z27), (2, .int z12), (0, .ref o0), (1, .int fa)]) hx hb dX12_bringsOf_224 hl (k := 0) rfl (nI_add i321 1) (by decide) rfl (fun ls hl => ?_)
                refine lv_goto (tgt := 122) hx hb dX12_bringsOf_227 (by decide) ?_
                exact ih388 (i321 + 1) (by omega) (by omega) z322 _ _ hT hF hS m404 ls (lv_sub hl [0, 1, 2, 3, 4, 5, 6] rfl)
          exact key388 (96 - 0) 0 (by omega) (Nat.le_refl _) 0 _ _ hT hF hS m29 ls (lv_sub hl [0, 1, 2, 3, 4, 5, 6] rfl)
      · have t456 : x4.toInt = 0 := ti_eq c35 rfl (by decide)
        refine lv_iconst (v := 0) hx hb dX12_bringsOf_78 (by decide) ?_
        refine lv_goto (tgt := 114) hx hb dX12_bringsOf_79 (by decide) ?_
        refine lv_istore (lv' := [(4, .int 0), (3, .int z27), (2, .int z12), (0, .ref o0), (1, .int fa)]) hx hb dX12_bringsOf_114 hl (by decide) rfl (fun ls hl => ?_)
        refine lv_iconst (v := 0) hx hb dX12_bringsOf_116 (by decide) ?_
        refine lv_istore (lv' := [(5, .int 0), (4, .int 0), (3, .int z27), (2, .int z12), (0, .ref o0), (1, .int fa)]) hx hb dX12_bringsOf_117 hl (by decide) rfl (fun ls hl => ?_)
        refine lv_iconst (v := 0) hx hb dX12_bringsOf_119 (by decide) ?_
        refine lv_istore (lv' := [(6, .int 0), (5, .int 0), (4, .int 0), (3, .int z27), (2, .int z12), (0, .ref o0), (1, .int fa)]) hx hb dX12_bringsOf_120 hl (by decide) rfl (fun ls hl => ?_)
        have key521 : ∀ (n521 i457 : Nat), i457 + n521 = 96 → 0 ≤ i457 → ∀ (H : Heap) (locs : List Loc), gH (dC, dI) kA (SHm q (wP wZ wN wH wB wC wL wK wU wV) PI im PM PT lS lB lE lN) G H → gF (dC, dI) SKm G ([] : List (Nat × Nat)) s.heap H → va_S A s.heap H locs → el H (q 45) fa.toNatClampNeg = some (.int x4) → ∀ ls : Array Slot, lv_has ls 8 [(6, .int (nI i457)), (5, .int 0), (4, .int 0), (3, .int z27), (2, .int z12), (0, .ref o0), (1, .int fa)] → W p l e (headSpec w_s_bringsOf ({ frames := 2, cells := 0, slots := 0, locals := 64 })).room s m #[.ref o0, .int fa] below meth c H locs 0 0 (MQ below (va_Qi (fun (r : Int32) (u : Unit) => True) (fun (_ : Unit) (t : State) => gH (dC, dI) kA (SHm q (wP wZ wN wH wB wC wL wK wU wV) PI im PM PT lS lB lE lN) G t.heap ∧ gF (dC, dI) SKm G ([] : List (Nat × Nat)) s.heap t.heap) A) #[.ref o0, .int fa] s 0 0 A) (F0 m 122 ls []) := by
          intro n521
          induction n521 with
          | zero =>
            intro i457 hn521 hlo522  H locs hT hF hS m458 ls hl
            obtain rfl : 96 = i457 := by omega
            refine lv_iload hx hb dX12_bringsOf_122 (lv_at hl 0 rfl) ?_
            refine lv_bipush (v := 96) hx hb dX12_bringsOf_124 (by decide) ?_
            refine lv_icmp_ge (tgt := 230) hx hb dX12_bringsOf_126 (by decide) (fun c523 => ?_) (fun c523 => (by exfalso; have q9 : ((96 : Nat) : Int) < 96 := ti_nle c523 (by decide) (nI_toInt (by omega)); omega))
            have t524 : 96 ≤ ((96 : Nat) : Int) := ti_le c523 (by decide) (nI_toInt (by omega))
            refine lv_iload hx hb dX12_bringsOf_230 (lv_at hl 1 rfl) ?_
            exact W.iret (v := 0) hx hb hr (fun t ht hW => ⟨⟨0, (), rfl, (by exact trivial), by (try dsimp only); rw [ht]; exact ⟨hT, hF⟩⟩, hS.F ht⟩) hS.2.2 dX12_bringsOf_232
          | succ n521 ih521 =>
            intro i457 hn521 hlo522  H locs hT hF hS m458 ls hl
            have hlt524 : i457 < 96 := by omega
            refine lv_iload hx hb dX12_bringsOf_122 (lv_at hl 0 rfl) ?_
            refine lv_bipush (v := 96) hx hb dX12_bringsOf_124 (by decide) ?_
            refine lv_icmp_ge (tgt := 230) hx hb dX12_bringsOf_126 (by decide) (fun c525 => (by exfalso; have q9 : 96 ≤ ((i457 : Nat) : Int) := ti_le c525 (by decide) (nI_toInt (by omega)); omega)) (fun c525 => ?_)
            have t526 : ((i457 : Nat) : Int) < 96 := ti_nle c525 (by decide) (nI_toInt (by omega))
            refine lv_iload hx hb dX12_bringsOf_129 (lv_at hl 0 rfl) ?_
            refine lv_aload_n hx hb dX12_bringsOf_131 rfl (lv_at hl 5 rfl) ?_
            refine tw_get hx hb hts bF_X12 hown hK hT hr_o0 shm_0 rfl 43 (by decide) (ht_at hts 1 rfl) (fun _ h9 => h9) dX12_bringsOf_132 (fun v9 m527 h9 => ?_)
            obtain ⟨rfl, hg528⟩ := h9 _ rfl
            refine lv_iload_n hx hb dX12_bringsOf_135 rfl (lv_at hl 6 rfl) ?_
            refine tw_iald (i := fa) hx hb hK hT hg528 shm_44 rfl (vin_t (a := fa.toInt) rfl (by omega) (by omega)) dX12_bringsOf_136 (fun v9 m529 h9 => ?_)
            obtain ⟨x530, rfl, gx530, kx530⟩ := h9
            refine lv_aload_n hx hb dX12_bringsOf_137 rfl (lv_at hl 5 rfl) ?_
            refine tw_get hx hb hts bF_X12 hown hK hT hr_o0 shm_0 rfl 44 (by decide) (ht_at hts 2 rfl) (fun _ h9 => h9) dX12_bringsOf_138 (fun v9 m531 h9 => ?_)
            obtain ⟨rfl, hg532⟩ := h9 _ rfl
            refine lv_iload_n hx hb dX12_bringsOf_141 rfl (lv_at hl 6 rfl) ?_
            refine tw_iald (i := fa) hx hb hK hT hg532 shm_45 rfl (vin_t (a := fa.toInt) rfl (by omega) (by omega)) dX12_bringsOf_142 (fun v9 m533 h9 => ?_)
            obtain ⟨x534, rfl, gx534, kx534⟩ := h9
            have hFc := gA_free hG hA hS
            refine va_calli (va_runS (As := [.int (nI i457), .int x530, .int x534]) (rest := []) ⟨hx, hb, hml, hown, hts⟩ (s_isIn l dC dI kA adK adV G H q wZ wN wH wB wC wL wK wU wV PI im PM PT lS lB lE lN (nI i457) x530 x534 hT hgz hgn hgh hgb hgc hgi hgu) (va_cwS 3 hts (goodIn_app (goodIn_r _ [16, 17, 15] rfl (by decide +kernel)) (goodIn_ca (goodIn_r _ [4, 5, 6, 7, 8, 9, 10, 11, 12, 13, 14, 15] rfl (by decide +kernel)) (bs_in _ _))) rfl rfl rfl (by decide +kernel) ⟨(Nat.le_of_ble_eq_true rfl), (Nat.le_of_ble_eq_true rfl)⟩) ⟨fun a U g mk q => by obtain ⟨q0, q1, qK, qE⟩ := q; exact ⟨q0, q1, va_K.moved (u := U) (U := U.calling g mk a) (Vm.Alike.refl U.vm) qK, EVS.blind g mk a qE⟩, fun U hU hW => ⟨rfl, hU, va_K.moved hW.alike hK, hE.call hS hFc hU hW⟩⟩ rfl rfl hl.1 rfl (lv_room (Nat.le_of_ble_eq_true rfl)) dX12_bringsOf_143 ⟨(Nat.le_of_ble_eq_true rfl), (Nat.le_of_ble_eq_true rfl)⟩) hS (fun q _ h => hFc q h) hFc (fun r535 u t H locs ht hvm hw536 hB _ _ hS => ?_)
            obtain ⟨hT, hF1⟩ := hB
            rw [ht] at hT hF1
            have m537 := (el_kept (hF1.arr hg2 skm_46 (by decide))).trans m458
            have m538 := (el_kept (hF1.arr hg528 skm_44 (by decide))).trans m529
            have m539 := (el_kept (hF1.arr hg532 skm_45 (by decide))).trans m533
            have hF := hF.more hF1 (by decide)
            try dsimp only at hw536
            have h540 := hw536
            refine lv_if_ne (tgt := 152) hx hb dX12_bringsOf_146 (by decide) (fun c541 => ?_) (fun c541 => ?_)
            · have t542 : r535.toInt ≠ 0 := ti_ne c541 rfl (by decide)
              refine lv_aload_n hx hb dX12_bringsOf_152 rfl (lv_at hl 5 rfl) ?_
              refine tw_get hx hb hts bF_X12 hown hK hT hr_o0 shm_0 rfl 1 (by decide) (ht_at hts 17 rfl) (fun _ h9 => h9) dX12_bringsOf_153 (fun v9 m543 h9 => ?_)
              obtain ⟨rfl, hg544⟩ := h9 _ rfl
              refine lv_sipush (v := 672) hx hb dX12_bringsOf_156 (by decide) ?_
              refine lv_iload hx hb dX12_bringsOf_159 (lv_at hl 0 rfl) ?_
              refine lv_iadd hx hb dX12_bringsOf_161 ?_
              refine lv_topi (fun x545 ex545 => ?_)
              obtain rfl : nI (672 + i457) = x545 := (ex545.trans (nI_add 672 i457)).symm
              refine tw_iald (i := (nI (672 + i457))) hx hb hK hT hg544 shm_2 rfl (vp_in_nI (by omega) (by decide)) dX12_bringsOf_162 (fun v9 m546 h9 => ?_)
              obtain ⟨x547, rfl, gx547, kx547⟩ := (gp_at h9 (w_fre (by have q9 := tn_of (show (nI (672 + i457)).toInt = ((672 + i457 : Nat) : Int) from (nI_toInt (by omega))) (show (0 : Int) ≤ ((672 + i457 : Nat) : Int) from by omega); omega)))
              refine lv_iload_n hx hb dX12_bringsOf_163 rfl (lv_at hl 4 rfl) ?_
              have jn554 : ∀ (z548 : Int32), ((0 ≤ z548.toInt ∧ z548.toInt ≤ 1)) → ∀ (H : Heap) (locs : List Loc), gH (dC, dI) kA (SHm q (wP wZ wN wH wB wC wL wK wU wV) PI im PM PT lS lB lE lN) G H → gF (dC, dI) SKm G ([] : List (Nat × Nat)) s.heap H → va_S A s.heap H locs → el H (q 45) fa.toNatClampNeg = some (.int x4) → el H (q 43) fa.toNatClampNeg = some (.int x530) → el H (q 44) fa.toNatClampNeg = some (.int x534) → el H (q 1) (nI (672 + i457)).toNatClampNeg = some (.int x547) → ∀ ls : Array Slot, lv_has ls 8 [(6, .int (nI i457)), (5, .int 0), (4, .int 0), (3, .int z27), (2, .int z12), (0, .ref o0), (1, .int fa)] → W p l e (headSpec w_s_bringsOf ({ frames := 2, cells := 0, slots := 0, locals := 64 })).room s m #[.ref o0, .int fa] below meth c H locs 0 0 (MQ below (va_Qi (fun (r : Int32) (u : Unit) => True) (fun (_ : Unit) (t : State) => gH (dC, dI) kA (SHm q (wP wZ wN wH wB wC wL wK wU wV) PI im PM PT lS lB lE lN) G t.heap ∧ gF (dC, dI) SKm G ([] : List (Nat × Nat)) s.heap t.heap) A) #[.ref o0, .int fa] s 0 0 A) (F0 m 172 ls [.int z548]) := by
                intro z548 h549 H locs hT hF hS m550 m551 m552 m553 ls hl
                refine lv_aload_n hx hb dX12_bringsOf_172 rfl (lv_at hl 5 rfl) ?_
                refine tw_get hx hb hts bF_X12 hown hK hT hr_o0 shm_0 rfl 1 (by decide) (ht_at hts 17 rfl) (fun _ h9 => h9) dX12_bringsOf_173 (fun v9 m555 h9 => ?_)
                obtain ⟨rfl, hg556⟩ := h9 _ rfl
                refine lv_sipush (v := 480) hx hb dX12_bringsOf_176 (by decide) ?_
                refine lv_iload hx hb dX12_bringsOf_179 (lv_at hl 0 rfl) ?_
                refine lv_iadd hx hb dX12_bringsOf_181 ?_
                refine lv_topi (fun x557 ex557 => ?_)
                obtain rfl : nI (480 + i457) = x557 := (ex557.trans (nI_add 480 i457)).symm
                refine tw_iald (i := (nI (480 + i457))) hx hb hK hT hg544 shm_2 rfl (vp_in_nI (by omega) (by decide)) dX12_bringsOf_182 (fun v9 m558 h9 => ?_)
                obtain ⟨x559, rfl, gx559, kx559⟩ := (gp_at h9 (w_fre (by have q9 := tn_of (show (nI (480 + i457)).toInt = ((480 + i457 : Nat) : Int) from (nI_toInt (by omega))) (show (0 : Int) ≤ ((480 + i457 : Nat) : Int) from by omega); omega)))
                refine lv_iload_n hx hb dX12_bringsOf_183 rfl (lv_at hl 3 rfl) ?_
                have jn567 : ∀ (z560 : Int32), ((0 ≤ z560.toInt ∧ z560.toInt ≤ 1)) → ∀ (H : Heap) (locs : List Loc), gH (dC, dI) kA (SHm q (wP wZ wN wH wB wC wL wK wU wV) PI im PM PT lS lB lE lN) G H → gF (dC, dI) SKm G ([] : List (Nat × Nat)) s.heap H → va_S A s.heap H locs → el H (q 45) fa.toNatClampNeg = some (.int x4) → el H (q 43) fa.toNatClampNeg = some (.int x530) → el H (q 44) fa.toNatClampNeg = some (.int x534) → el H (q 1) (nI (672 + i457)).toNatClampNeg = some (.int x547) → el H (q 1) (nI (480 + i457)).toNatClampNeg = some (.int x559) → ∀ ls : Array Slot, lv_has ls 8 [(6, .int (nI i457)), (5, .int 0), (4, .int 0), (3, .int z27), (2, .int z12), (0, .ref o0), (1, .int fa)] → W p l e (headSpec w_s_bringsOf ({ frames := 2, cells := 0, slots := 0, locals := 64 })).room s m #[.ref o0, .int fa] below meth c H locs 0 0 (MQ below (va_Qi (fun (r : Int32) (u : Unit) => True) (fun (_ : Unit) (t : State) => gH (dC, dI) kA (SHm q (wP wZ wN wH wB wC wL wK wU wV) PI im PM PT lS lB lE lN) G t.heap ∧ gF (dC, dI) SKm G ([] : List (Nat × Nat)) s.heap t.heap) A) #[.ref o0, .int fa] s 0 0 A) (F0 m 192 ls [.int z560, .int z548]) := by
                  intro z560 h561 H locs hT hF hS m562 m563 m564 m565 m566 ls hl
                  refine lv_iadd hx hb dX12_bringsOf_192 ?_
                  refine lv_topi (fun x568 ex568 => ?_)
                  have t569 : x568.toInt = z548.toInt + z560.toInt := ti_add ex568 rfl rfl (by omega) (by omega)
                  refine lv_istore (lv' := [(7, .int x568), (6, .int (nI i457)), (5, .int 0), (4, .int 0), (3, .int z27), (2, .int z12), (0, .ref o0), (1, .int fa)]) hx hb dX12_bringsOf_193 hl (by decide) rfl (fun ls hl => ?_)
                  refine lv_iload hx hb dX12_bringsOf_195 (lv_at hl 2 rfl) ?_
                  refine lv_iload hx hb dX12_bringsOf_197 (lv_at hl 0 rfl) ?_
                  refine lv_if_ne (tgt := 207) hx hb dX12_bringsOf_199 (by decide) (fun c570 => ?_) (fun c570 => ?_)
                  · have t571 : x568.toInt ≠ 0 := ti_ne c570 rfl (by decide)
                    refine lv_iload hx hb dX12_bringsOf_207 (lv_at hl 0 rfl) ?_
                    refine lv_iconst (v := 1) hx hb dX12_bringsOf_209 (by decide) ?_
                    refine lv_icmp_ne (tgt := 220) hx hb dX12_bringsOf_210 (by decide) (fun c572 => ?_) (fun c572 => ?_)
                    · have t573 : x568.toInt ≠ 1 := ti_ne c572 rfl (by decide)
                      refine lv_iconst (v := 0) hx hb dX12_bringsOf_220 (by decide) ?_
                      refine lv_iadd hx hb dX12_bringsOf_221 ?_
                      refine lv_topi (fun x574 ex574 => ?_)
                      obtain rfl : x574 = 0 := ex574.trans (by decide)
                      refine lv_istore (lv' := [(5, .int 0), (7, .int x568), (6, .int (nI i457)), (4, .int 0), (3, .int z27), (2, .int z12), (0, .ref o0), (1, .int fa)]) hx hb dX12_bringsOf_222 hl (by decide) rfl (fun ls hl => ?_)
                      refine lv_iinc (v := nI (i457 + 1)) (lv' := [(6, .int (nI (i457 + 1))), (5, .int 0), (7, .int x568), (4, .int 0), (3, .int z27), (2, .int z12), (0, .ref o0), (1, .int fa)]) hx hb dX12_bringsOf_224 hl (k := 2) rfl (nI_add i457 1) (by decide) rfl (fun ls hl => ?_)
                      refine lv_goto (tgt := 122) hx hb dX12_bringsOf_227 (by decide) ?_
                      exact ih521 (i457 + 1) (by omega) (by omega) _ _ hT hF hS m562 ls (lv_sub hl [0, 1, 3, 4, 5, 6, 7] rfl)
                    · have t575 : x568.toInt = 1 := ti_eq c572 rfl (by decide)
                      refine lv_iload hx hb dX12_bringsOf_213 (lv_at hl 3 rfl) ?_
                      refine lv_iconst (v := 2) hx hb dX12_bringsOf_215 (by decide) ?_
                      refine lv_idiv hx hb dX12_bringsOf_216 (by decide) ?_
                      refine lv_topi (fun x576 ex576 => ?_)
                      obtain rfl : x576 = 0 := ex576.trans (by decide)
                      refine lv_goto (tgt := 221) hx hb dX12_bringsOf_217 (by decide) ?_
                      refine lv_iadd hx hb dX12_bringsOf_221 ?_
                      refine lv_topi (fun x577 ex577 => ?_)
                      obtain rfl : x577 = 0 := ex577.trans (by decide)
                      refine lv_istore (lv' := [(5, .int 0), (7, .int x568), (6, .int (nI i457)), (4, .int 0), (3, .int z27), (2, .int z12), (0, .ref o0), (1, .int fa)]) hx hb dX12_bringsOf_222 hl (by decide) rfl (fun ls hl => ?_)
                      refine lv_iinc (v := nI (i457 + 1)) (lv' := [(6, .int (nI (i457 + 1))), (5, .int 0), (7, .int x568), (4, .int 0), (3, .int z27), (2, .int z12), (0, .ref o0), (1, .int fa)]) hx hb dX12_bringsOf_224 hl (k := 2) rfl (nI_add i457 1) (by decide) rfl (fun ls hl => ?_)
                      refine lv_goto (tgt := 122) hx hb dX12_bringsOf_227 (by decide) ?_
                      exact ih521 (i457 + 1) (by omega) (by omega) _ _ hT hF hS m562 ls (lv_sub hl [0, 1, 3, 4, 5, 6, 7] rfl)
                  · have t578 : x568.toInt = 0 := ti_eq c570 rfl (by decide)
                    refine lv_iload hx hb dX12_bringsOf_202 (lv_at hl 3 rfl) ?_
                    refine lv_goto (tgt := 221) hx hb dX12_bringsOf_204 (by decide) ?_
                    refine lv_iadd hx hb dX12_bringsOf_221 ?_
                    refine lv_topi (fun x579 ex579 => ?_)
                    obtain rfl : x579 = 0 := ex579.trans (by decide)
                    refine lv_istore (lv' := [(5, .int 0), (7, .int x568), (6, .int (nI i457)), (4, .int 0), (3, .int z27), (2, .int z12), (0, .ref o0), (1, .int fa)]) hx hb dX12_bringsOf_222 hl (by decide) rfl (fun ls hl => ?_)
                    refine lv_iinc (v := nI (i457 + 1)) (lv' := [(6, .int (nI (i457 + 1))), (5, .int 0), (7, .int x568), (4, .int 0), (3, .int z27), (2, .int z12), (0, .ref o0), (1, .int fa)]) hx hb dX12_bringsOf_224 hl (k := 2) rfl (nI_add i457 1) (by decide) rfl (fun ls hl => ?_)
                    refine lv_goto (tgt := 122) hx hb dX12_bringsOf_227 (by decide) ?_
                    exact ih521 (i457 + 1) (by omega) (by omega) _ _ hT hF hS m562 ls (lv_sub hl [0, 1, 3, 4, 5, 6, 7] rfl)
                refine lv_icmp_le (tgt := 191) hx hb dX12_bringsOf_184 (by decide) (fun c580 => ?_) (fun c580 => ?_)
                · have t581 : x559.toInt ≤ z27.toInt := ti_le c580 rfl rfl
                  refine lv_iconst (v := 0) hx hb dX12_bringsOf_191 (by decide) ?_
                  exact jn567 0 (rg_t (a := 0) (by decide) (by first | decide | omega) (by first | decide | omega)) _ _ hT hF hS m550 m551 m552 m553 m558 ls (lv_sub hl [0, 1, 2, 3, 4, 5, 6] rfl)
                · have t582 : z27.toInt < x559.toInt := ti_nle c580 rfl rfl
                  refine lv_iconst (v := 1) hx hb dX12_bringsOf_187 (by decide) ?_
                  refine lv_goto (tgt := 192) hx hb dX12_bringsOf_188 (by decide) ?_
                  exact jn567 1 (rg_t (a := 1) (by decide) (by first | decide | omega) (by first | decide | omega)) _ _ hT hF hS m550 m551 m552 m553 m558 ls (lv_sub hl [0, 1, 2, 3, 4, 5, 6] rfl)
              refine lv_icmp_le (tgt := 171) hx hb dX12_bringsOf_164 (by decide) (fun c583 => ?_) (fun c583 => ?_)
              · have t584 : x547.toInt ≤ z12.toInt := ti_le c583 rfl rfl
                refine lv_iconst (v := 0) hx hb dX12_bringsOf_171 (by decide) ?_
                exact jn554 0 (rg_t (a := 0) (by decide) (by first | decide | omega) (by first | decide | omega)) _ _ hT hF hS m537 m538 m539 m546 ls (lv_sub hl [0, 1, 2, 3, 4, 5, 6] rfl)
              · have t585 : z12.toInt < x547.toInt := ti_nle c583 rfl rfl
                refine lv_iconst (v := 1) hx hb dX12_bringsOf_167 (by decide) ?_
                refine lv_goto (tgt := 172) hx hb dX12_bringsOf_168 (by decide) ?_
                exact jn554 1 (rg_t (a := 1) (by decide) (by first | decide | omega) (by first | decide | omega)) _ _ hT hF hS m537 m538 m539 m546 ls (lv_sub hl [0, 1, 2, 3, 4, 5, 6] rfl)
            · have t586 : r535.toInt = 0 := ti_eq c541 rfl (by decide)
              refine lv_goto (tgt := 224) hx hb dX12_bringsOf_149 (by decide) ?_
              refine lv_iinc (v := nI (i457 + 1)) (lv' := [(6, .int (nI (i457 + 1))), (5, .int 0), (4, .int 0), (3, .int z27), (2, .int z12), (0, .ref o0), (1, .int fa)]) hx hb dX12_bringsOf_224 hl (k := 0) rfl (nI_add i457 1) (by decide) rfl (fun ls hl => ?_)
              refine lv_goto (tgt := 122) hx hb dX12_bringsOf_227 (by decide) ?_
              exact ih521 (i457 + 1) (by omega) (by omega) _ _ hT hF hS m537 ls (lv_sub hl [0, 1, 2, 3, 4, 5, 6] rfl)
        exact key521 (96 - 0) 0 (by omega) (Nat.le_refl _) _ _ hT hF hS m29 ls (lv_sub hl [0, 1, 2, 3, 4, 5, 6] rfl)
    refine lv_icmp_ne (tgt := 49) hx hb dX12_bringsOf_40 (by decide) (fun c587 => ?_) (fun c587 => ?_)
    · have t588 : x4.toInt ≠ 1 := ti_ne c587 rfl (by decide)
      refine lv_aload_n hx hb dX12_bringsOf_49 rfl (lv_at hl 1 rfl) ?_
      refine tw_get hx hb hts bF_X12 hown hK hT hr_o0 shm_0 rfl 45 (by decide) (ht_at hts 0 rfl) (fun _ h9 => h9) dX12_bringsOf_50 (fun v9 m589 h9 => ?_)
      obtain ⟨rfl, hg590⟩ := h9 _ rfl
      refine lv_iload_n hx hb dX12_bringsOf_53 rfl (lv_at hl 2 rfl) ?_
      refine tw_iald (i := fa) hx hb hK hT hg2 shm_46 rfl (vin_t (a := fa.toInt) rfl (by omega) (by omega)) dX12_bringsOf_54 (fun v9 m591 h9 => ?_)
      obtain ⟨x592, rfl, gx592, kx592⟩ := h9
      obtain rfl : x4 = x592 := (el_same m591 m14 rfl).symm
      refine lv_iconst (v := 2) hx hb dX12_bringsOf_55 (by decide) ?_
      refine lv_icmp_ne (tgt := 65) hx hb dX12_bringsOf_56 (by decide) (fun c593 => ?_) (fun c593 => ?_)
      · have t594 : x4.toInt ≠ 2 := ti_ne c593 rfl (by decide)
        refine lv_sipush (v := 8000) hx hb dX12_bringsOf_65 (by decide) ?_
        exact jn30 8000 (rg_t (a := 8000) (by decide) (by first | decide | omega) (by first | decide | omega)) _ _ hT hF hS m14 ls (lv_sub hl [0, 1, 2] rfl)
      · have t595 : x4.toInt = 2 := ti_eq c593 rfl (by decide)
        refine lv_sipush (v := 2000) hx hb dX12_bringsOf_59 (by decide) ?_
        refine lv_goto (tgt := 68) hx hb dX12_bringsOf_62 (by decide) ?_
        exact jn30 2000 (rg_t (a := 2000) (by decide) (by first | decide | omega) (by first | decide | omega)) _ _ hT hF hS m14 ls (lv_sub hl [0, 1, 2] rfl)
    · have t596 : x4.toInt = 1 := ti_eq c587 rfl (by decide)
      refine lv_sipush (v := 4000) hx hb dX12_bringsOf_43 (by decide) ?_
      refine lv_goto (tgt := 68) hx hb dX12_bringsOf_46 (by decide) ?_
      exact jn30 4000 (rg_t (a := 4000) (by decide) (by first | decide | omega) (by first | decide | omega)) _ _ hT hF hS m14 ls (lv_sub hl [0, 1, 2] rfl)
  refine lv_icmp_ne (tgt := 15) hx hb dX12_bringsOf_7 (by decide) (fun c597 => ?_) (fun c597 => ?_)
  · have t598 : x4.toInt ≠ 1 := ti_ne c597 rfl (by decide)
    refine lv_aload_n hx hb dX12_bringsOf_15 rfl (lv_at hl 0 rfl) ?_
    refine tw_get hx hb hts bF_X12 hown hK hT hr_o0 shm_0 rfl 45 (by decide) (ht_at hts 0 rfl) (fun _ h9 => h9) dX12_bringsOf_16 (fun v9 m599 h9 => ?_)
    obtain ⟨rfl, hg600⟩ := h9 _ rfl
    refine lv_iload_n hx hb dX12_bringsOf_19 rfl (lv_at hl 1 rfl) ?_
    refine tw_iald (i := fa) hx hb hK hT hg2 shm_46 rfl (vin_t (a := fa.toInt) rfl (by omega) (by omega)) dX12_bringsOf_20 (fun v9 m601 h9 => ?_)
    obtain ⟨x602, rfl, gx602, kx602⟩ := h9
    obtain rfl : x4 = x602 := (el_same m601 m3 rfl).symm
    refine lv_iconst (v := 2) hx hb dX12_bringsOf_21 (by decide) ?_
    refine lv_icmp_ne (tgt := 30) hx hb dX12_bringsOf_22 (by decide) (fun c603 => ?_) (fun c603 => ?_)
    · have t604 : x4.toInt ≠ 2 := ti_ne c603 rfl (by decide)
      refine lv_bipush (v := 10) hx hb dX12_bringsOf_30 (by decide) ?_
      exact jn15 10 (rg_t (a := 10) (by decide) (by first | decide | omega) (by first | decide | omega)) _ _ hT hF hS m3 ls (lv_sub hl [0, 1] rfl)
    · have t605 : x4.toInt = 2 := ti_eq c603 rfl (by decide)
      refine lv_bipush (v := 20) hx hb dX12_bringsOf_25 (by decide) ?_
      refine lv_goto (tgt := 32) hx hb dX12_bringsOf_27 (by decide) ?_
      exact jn15 20 (rg_t (a := 20) (by decide) (by first | decide | omega) (by first | decide | omega)) _ _ hT hF hS m3 ls (lv_sub hl [0, 1] rfl)
  · have t606 : x4.toInt = 1 := ti_eq c597 rfl (by decide)
    refine lv_bipush (v := 60) hx hb dX12_bringsOf_10 (by decide) ?_
    refine lv_goto (tgt := 32) hx hb dX12_bringsOf_12 (by decide) ?_
    exact jn15 60 (rg_t (a := 60) (by decide) (by first | decide | omega) (by first | decide | omega)) _ _ hT hF hS m3 ls (lv_sub hl [0, 1] rfl)
def w_s_nextOne : List Cond := .code yX12_nextOne cX12_nextOne 3 (some .int) :: (HAppend.hAppend (α := List Cond) (β := List Cond) (γ := List Cond) [.fieldLink RX12 495 "SeaLandModel" "settlers" "I", .fieldLink RX12 131 "SeaLandModel" "open" "[Z", .fieldLink RX12 128 "SeaLandModel" "marks" "[J", .fieldLink RX12 98 "SeaLandModel" "drawn" "[I"] bs)
set_option maxHeartbeats 4000000 in
set_option maxRecDepth 100000 in
theorem s_nextOne (l : Launch) (dC : Nat → ClassId) (dI : Nat → Nat → Nat) (kA : Nat → ClassId) (adK adV : Nat → Nat) (G : gT) (H0 : Heap) (q : Nat → Nat) (wZ wN : Nat → Int) (wH wB wC : Int) (wL wK : Nat → Prop) (wU wV : Nat → Nat) (PI : Nat → Int → Prop) (im : Int) (PM PT : Nat → Int → Prop) (lS lB lE : Nat → Nat → Int → Prop) (lN : Nat → Int) (o0 : Nat)  (hT : gH (dC, dI) kA (SHm q (wP wZ wN wH wB wC wL wK wU wV) PI im PM PT lS lB lE lN) G H0) (hr_o0 : G o0 = some 0) (hgz : ∀ i, 0 ≤ wZ i) (hgn : ∀ i, 6500000 ≤ wN i ∧ wN i ≤ 20200000) (hgh : 0 ≤ wH ∧ wH ≤ 40000) (hgb : 0 ≤ wB ∧ wB ≤ 3850000) (hgc : 0 ≤ wC ∧ wC ≤ 30) (hgi : 0 ≤ im ∧ im ≤ 1) (hgu : ∀ a t, G a = some (t + 1) → a = q t) : Met l yX12_nextOne w_s_nextOne ({ frames := 0, cells := 0, slots := 0, locals := 0 }) (va_Pc [.ref o0] (fun U => U.heap = H0 ∧ va_K (dC, dI) vwCl (tyl kA) U ∧ EVS adK adV (gA G H0.size) U U.heap)) (va_Qi (fun (r : Int32) (u : Unit) => (-1 ≤ r.toInt ∧ r.toInt ≤ 59)) (fun (_ : Unit) (t : State) => gH (dC, dI) kA (SHm q (wP wZ wN wH wB wC wL wK wU wV) PI im PM PT lS lB lE lN) G t.heap ∧ gF (dC, dI) SKm G ([] : List (Nat × Nat)) H0 t.heap) (gA G H0.size)) 0 0 (gA G H0.size) := by
  refine Met.ofW (cc := cX12_nextOne) (maxL := 3) (ret := (some .int)) (by decide) rfl ?_
  intro p e s m args below meth c s₁ B hml hv
  obtain ⟨rfl, hH0, hK, hE⟩ := hv
  have hx := B.exec
  have hb := B.bytes
  have hr := B.returns
  have hts := atoms_spec (ws := w_s_nextOne) B.pre
  have hown : s.vm.findClass RX12 = some m.cls := findClass_of_methodNamed B.named
  have hlocks := B.notSynchronized
  subst hH0
  generalize hAe : gA G s.heap.size = A at hE ⊢
  have hA : ∀ q : Nat, s.heap.size ≤ q → A q := fun q h => by rw [← hAe]; exact Or.inr h
  have hG := gA_of hAe
  have hS : va_S A s.heap s.heap [] := va_S.rf
  have hF : gF (dC, dI) SKm G ([] : List (Nat × Nat)) s.heap s.heap := gF.rf
  have hl := lv_entry ([.ref o0]) (n := 3) (Nat.le_of_ble_eq_true rfl)
  rw [lg_entry_eq]
  generalize (lg_sl ([.ref o0]) ++ List.replicate (3 - (lg_sl ([.ref o0])).length) Slot.unset).toArray = ls at hl ⊢
  have hl : lv_has ls 3 [(0, .ref o0)] := hl
  refine lv_iconst (v := (-1)) hx hb dX12_nextOne_0 (by decide) ?_
  refine lv_istore_n (lv' := [(1, .int (-1)), (0, .ref o0)]) hx hb dX12_nextOne_1 rfl hl (by decide) rfl (fun ls hl => ?_)
  refine lv_iconst (v := 0) hx hb dX12_nextOne_2 (by decide) ?_
  refine lv_istore_n (lv' := [(2, .int 0), (1, .int (-1)), (0, .ref o0)]) hx hb dX12_nextOne_3 rfl hl (by decide) rfl (fun ls hl => ?_)
  have key54 : ∀ (n54 i1 : Nat), i1 + n54 = 60 → 0 ≤ i1 → ∀ (z2 : Int32), ((-1 ≤ z2.toInt ∧ z2.toInt ≤ 59)) → ∀ (H : Heap) (locs : List Loc), gH (dC, dI) kA (SHm q (wP wZ wN wH wB wC wL wK wU wV) PI im PM PT lS lB lE lN) G H → gF (dC, dI) SKm G ([] : List (Nat × Nat)) s.heap H → va_S A s.heap H locs → ∀ ls : Array Slot, lv_has ls 3 [(2, .int (nI i1)), (1, .int z2), (0, .ref o0)] → W p l e (headSpec w_s_nextOne ({ frames := 0, cells := 0, slots := 0, locals := 0 })).room s m #[.ref o0] below meth c H locs 0 0 (MQ below (va_Qi (fun (r : Int32) (u : Unit) => (-1 ≤ r.toInt ∧ r.toInt ≤ 59)) (fun (_ : Unit) (t : State) => gH (dC, dI) kA (SHm q (wP wZ wN wH wB wC wL wK wU wV) PI im PM PT lS lB lE lN) G t.heap ∧ gF (dC, dI) SKm G ([] : List (Nat × Nat)) s.heap t.heap) A) #[.ref o0] s 0 0 A) (F0 m 4 ls []) := by
    intro n54
    induction n54 with
    | zero =>
      intro i1 hn54 hlo55 z2 h3 H locs hT hF hS  ls hl
      obtain rfl : 60 = i1 := by omega
      refine lv_iload_n hx hb dX12_nextOne_4 rfl (lv_at hl 0 rfl) ?_
      refine lv_aload_n hx hb dX12_nextOne_5 rfl (lv_at hl 2 rfl) ?_
      refine tw_get hx hb hts bF_X12 hown hK hT hr_o0 shm_0 rfl 42 (by decide) (ht_at hts 0 rfl) (fun _ h9 => h9) dX12_nextOne_6 (fun v9 m56 h9 => ?_)
      obtain ⟨x57, rfl, gx57, kx57⟩ := h9 _ rfl
      refine lv_icmp_ge (tgt := 83) hx hb dX12_nextOne_9 (by decide) (fun c58 => ?_) (fun c58 => (by exfalso; have q9 : ((60 : Nat) : Int) < x57.toInt := ti_nle c58 rfl (nI_toInt (by omega)); omega))
      have t59 : x57.toInt ≤ ((60 : Nat) : Int) := ti_le c58 rfl (nI_toInt (by omega))
      refine lv_iload_n hx hb dX12_nextOne_83 rfl (lv_at hl 1 rfl) ?_
      exact W.iret (v := z2) hx hb hr (fun t ht hW => ⟨⟨z2, (), rfl, (by exact (by have q8 := ti_all z2; omega)), by (try dsimp only); rw [ht]; exact ⟨hT, hF⟩⟩, hS.F ht⟩) hS.2.2 dX12_nextOne_84
    | succ n54 ih54 =>
      intro i1 hn54 hlo55 z2 h3 H locs hT hF hS  ls hl
      have hlt59 : i1 < 60 := by omega
      refine lv_iload_n hx hb dX12_nextOne_4 rfl (lv_at hl 0 rfl) ?_
      refine lv_aload_n hx hb dX12_nextOne_5 rfl (lv_at hl 2 rfl) ?_
      refine tw_get hx hb hts bF_X12 hown hK hT hr_o0 shm_0 rfl 42 (by decide) (ht_at hts 0 rfl) (fun _ h9 => h9) dX12_nextOne_6 (fun v9 m60 h9 => ?_)
      obtain ⟨x61, rfl, gx61, kx61⟩ := h9 _ rfl
      refine lv_icmp_ge (tgt := 83) hx hb dX12_nextOne_9 (by decide) (fun c62 => ?_) (fun c62 => ?_)
      · have t63 : x61.toInt ≤ ((i1 : Nat) : Int) := ti_le c62 rfl (nI_toInt (by omega))
        refine lv_iload_n hx hb dX12_nextOne_83 rfl (lv_at hl 1 rfl) ?_
        exact W.iret (v := z2) hx hb hr (fun t ht hW => ⟨⟨z2, (), rfl, (by exact (by have q8 := ti_all z2; omega)), by (try dsimp only); rw [ht]; exact ⟨hT, hF⟩⟩, hS.F ht⟩) hS.2.2 dX12_nextOne_84
      · have t64 : ((i1 : Nat) : Int) < x61.toInt := ti_nle c62 rfl (nI_toInt (by omega))
        refine lv_aload_n hx hb dX12_nextOne_12 rfl (lv_at hl 2 rfl) ?_
        refine tw_get hx hb hts bF_X12 hown hK hT hr_o0 shm_0 rfl 51 (by decide) (ht_at hts 1 rfl) (fun _ h9 => h9) dX12_nextOne_13 (fun v9 m65 h9 => ?_)
        obtain ⟨rfl, hg66⟩ := h9 _ rfl
        refine lv_iload_n hx hb dX12_nextOne_16 rfl (lv_at hl 0 rfl) ?_
        refine tw_zald (i := (nI i1)) hx hb hK hT hg66 shm_52 rfl (vp_in_nI (by omega) (by decide)) dX12_nextOne_17 (fun v9 m67 h9 => ?_)
        obtain ⟨x68, rfl, gx68, kx68⟩ := h9
        refine lv_if_ne (tgt := 24) hx hb dX12_nextOne_18 (by decide) (fun c69 => ?_) (fun c69 => ?_)
        · have t70 : x68.toInt ≠ 0 := ti_ne c69 rfl (by decide)
          refine lv_iload_n hx hb dX12_nextOne_24 rfl (lv_at hl 1 rfl) ?_
          refine lv_if_lt (tgt := 75) hx hb dX12_nextOne_25 (by decide) (fun c71 => ?_) (fun c71 => ?_)
          · have t72 : z2.toInt < 0 := ti_lt c71 rfl (by decide)
            refine lv_iload_n hx hb dX12_nextOne_75 rfl (lv_at hl 0 rfl) ?_
            refine lv_istore_n (lv' := [(1, .int (nI i1)), (2, .int (nI i1)), (0, .ref o0)]) hx hb dX12_nextOne_76 rfl hl (by decide) rfl (fun ls hl => ?_)
            refine lv_iinc (v := nI (i1 + 1)) (lv' := [(2, .int (nI (i1 + 1))), (1, .int (nI i1)), (0, .ref o0)]) hx hb dX12_nextOne_77 hl (k := 1) rfl (nI_add i1 1) (by decide) rfl (fun ls hl => ?_)
            refine lv_goto (tgt := 4) hx hb dX12_nextOne_80 (by decide) ?_
            exact ih54 (i1 + 1) (by omega) (by omega) (nI i1) (rg_t (a := ((i1 : Nat) : Int)) (nI_toInt (by omega)) (by omega) (by omega)) _ _ hT hF hS ls (lv_sub hl [0, 1, 2] rfl)
          · have t73 : 0 ≤ z2.toInt := ti_nlt c71 rfl (by decide)
            refine lv_aload_n hx hb dX12_nextOne_28 rfl (lv_at hl 2 rfl) ?_
            refine tw_get hx hb hts bF_X12 hown hK hT hr_o0 shm_0 rfl 50 (by decide) (ht_at hts 2 rfl) (fun _ h9 => h9) dX12_nextOne_29 (fun v9 m74 h9 => ?_)
            obtain ⟨rfl, hg75⟩ := h9 _ rfl
            refine lv_iload_n hx hb dX12_nextOne_32 rfl (lv_at hl 0 rfl) ?_
            refine tw_lald (i := (nI i1)) hx hb hK hT hg75 shm_51 rfl (vp_in_nI (by omega) (by decide)) dX12_nextOne_33 (fun v9 m76 h9 => ?_)
            obtain ⟨y77, rfl⟩ := h9
            refine lv_aload_n hx hb dX12_nextOne_34 rfl (lv_at hl 2 rfl) ?_
            refine tw_get hx hb hts bF_X12 hown hK hT hr_o0 shm_0 rfl 50 (by decide) (ht_at hts 2 rfl) (fun _ h9 => h9) dX12_nextOne_35 (fun v9 m78 h9 => ?_)
            obtain ⟨rfl, hg79⟩ := h9 _ rfl
            refine lv_iload_n hx hb dX12_nextOne_38 rfl (lv_at hl 1 rfl) ?_
            refine tw_lald (i := z2) hx hb hK hT hg75 shm_51 rfl (vin_t (a := z2.toInt) rfl (by omega) (by omega)) dX12_nextOne_39 (fun v9 m80 h9 => ?_)
            obtain ⟨y81, rfl⟩ := h9
            refine W.lcmp hx hb dX12_nextOne_40 ?_
            refine lv_topi (fun x82 _ => ?_)
            refine lv_if_gt (tgt := 75) hx hb dX12_nextOne_41 (by decide) (fun c83 => ?_) (fun c83 => ?_)
            · have t84 : 0 < x82.toInt := ti_lt c83 (by decide) rfl
              refine lv_iload_n hx hb dX12_nextOne_75 rfl (lv_at hl 0 rfl) ?_
              refine lv_istore_n (lv' := [(1, .int (nI i1)), (2, .int (nI i1)), (0, .ref o0)]) hx hb dX12_nextOne_76 rfl hl (by decide) rfl (fun ls hl => ?_)
              refine lv_iinc (v := nI (i1 + 1)) (lv' := [(2, .int (nI (i1 + 1))), (1, .int (nI i1)), (0, .ref o0)]) hx hb dX12_nextOne_77 hl (k := 1) rfl (nI_add i1 1) (by decide) rfl (fun ls hl => ?_)
              refine lv_goto (tgt := 4) hx hb dX12_nextOne_80 (by decide) ?_
              exact ih54 (i1 + 1) (by omega) (by omega) (nI i1) (rg_t (a := ((i1 : Nat) : Int)) (nI_toInt (by omega)) (by omega) (by omega)) _ _ hT hF hS ls (lv_sub hl [0, 1, 2] rfl)
            · have t85 : x82.toInt ≤ 0 := ti_nlt c83 (by decide) rfl
              refine lv_aload_n hx hb dX12_nextOne_44 rfl (lv_at hl 2 rfl) ?_
              refine tw_get hx hb hts bF_X12 hown hK hT hr_o0 shm_0 rfl 50 (by decide) (ht_at hts 2 rfl) (fun _ h9 => h9) dX12_nextOne_45 (fun v9 m86 h9 => ?_)
              obtain ⟨rfl, hg87⟩ := h9 _ rfl
              refine lv_iload_n hx hb dX12_nextOne_48 rfl (lv_at hl 0 rfl) ?_
              refine tw_lald (i := (nI i1)) hx hb hK hT hg75 shm_51 rfl (vp_in_nI (by omega) (by decide)) dX12_nextOne_49 (fun v9 m88 h9 => ?_)
              obtain ⟨y89, rfl⟩ := h9
              refine lv_aload_n hx hb dX12_nextOne_50 rfl (lv_at hl 2 rfl) ?_
              refine tw_get hx hb hts bF_X12 hown hK hT hr_o0 shm_0 rfl 50 (by decide) (ht_at hts 2 rfl) (fun _ h9 => h9) dX12_nextOne_51 (fun v9 m90 h9 => ?_)
              obtain ⟨rfl, hg91⟩ := h9 _ rfl
              refine lv_iload_n hx hb dX12_nextOne_54 rfl (lv_at hl 1 rfl) ?_
              refine tw_lald (i := z2) hx hb hK hT hg75 shm_51 rfl (vin_t (a := z2.toInt) rfl (by omega) (by omega)) dX12_nextOne_55 (fun v9 m92 h9 => ?_)
              obtain ⟨y93, rfl⟩ := h9
              refine W.lcmp hx hb dX12_nextOne_56 ?_
              refine lv_topi (fun x94 _ => ?_)
              refine lv_if_ne (tgt := 77) hx hb dX12_nextOne_57 (by decide) (fun c95 => ?_) (fun c95 => ?_)
              · have t96 : x94.toInt ≠ 0 := ti_ne c95 rfl (by decide)
                refine lv_iinc (v := nI (i1 + 1)) (lv' := [(2, .int (nI (i1 + 1))), (1, .int z2), (0, .ref o0)]) hx hb dX12_nextOne_77 hl (k := 0) rfl (nI_add i1 1) (by decide) rfl (fun ls hl => ?_)
                refine lv_goto (tgt := 4) hx hb dX12_nextOne_80 (by decide) ?_
                exact ih54 (i1 + 1) (by omega) (by omega) z2 (by have q8 := ti_all z2; omega) _ _ hT hF hS ls (lv_sub hl [0, 1, 2] rfl)
              · have t97 : x94.toInt = 0 := ti_eq c95 rfl (by decide)
                refine lv_aload_n hx hb dX12_nextOne_60 rfl (lv_at hl 2 rfl) ?_
                refine tw_get hx hb hts bF_X12 hown hK hT hr_o0 shm_0 rfl 37 (by decide) (ht_at hts 3 rfl) (fun _ h9 => h9) dX12_nextOne_61 (fun v9 m98 h9 => ?_)
                obtain ⟨rfl, hg99⟩ := h9 _ rfl
                refine lv_iload_n hx hb dX12_nextOne_64 rfl (lv_at hl 0 rfl) ?_
                refine tw_iald (i := (nI i1)) hx hb hK hT hg99 shm_38 rfl (vp_in_nI (by omega) (by decide)) dX12_nextOne_65 (fun v9 m100 h9 => ?_)
                obtain ⟨x101, rfl, gx101, kx101⟩ := h9
                refine lv_aload_n hx hb dX12_nextOne_66 rfl (lv_at hl 2 rfl) ?_
                refine tw_get hx hb hts bF_X12 hown hK hT hr_o0 shm_0 rfl 37 (by decide) (ht_at hts 3 rfl) (fun _ h9 => h9) dX12_nextOne_67 (fun v9 m102 h9 => ?_)
                obtain ⟨rfl, hg103⟩ := h9 _ rfl
                refine lv_iload_n hx hb dX12_nextOne_70 rfl (lv_at hl 1 rfl) ?_
                refine tw_iald (i := z2) hx hb hK hT hg99 shm_38 rfl (vin_t (a := z2.toInt) rfl (by omega) (by omega)) dX12_nextOne_71 (fun v9 m104 h9 => ?_)
                obtain ⟨x105, rfl, gx105, kx105⟩ := h9
                refine lv_icmp_ge (tgt := 77) hx hb dX12_nextOne_72 (by decide) (fun c106 => ?_) (fun c106 => ?_)
                · have t107 : x105.toInt ≤ x101.toInt := ti_le c106 rfl rfl
                  refine lv_iinc (v := nI (i1 + 1)) (lv' := [(2, .int (nI (i1 + 1))), (1, .int z2), (0, .ref o0)]) hx hb dX12_nextOne_77 hl (k := 0) rfl (nI_add i1 1) (by decide) rfl (fun ls hl => ?_)
                  refine lv_goto (tgt := 4) hx hb dX12_nextOne_80 (by decide) ?_
                  exact ih54 (i1 + 1) (by omega) (by omega) z2 (by have q8 := ti_all z2; omega) _ _ hT hF hS ls (lv_sub hl [0, 1, 2] rfl)
                · have t108 : x101.toInt < x105.toInt := ti_nle c106 rfl rfl
                  refine lv_iload_n hx hb dX12_nextOne_75 rfl (lv_at hl 0 rfl) ?_
                  refine lv_istore_n (lv' := [(1, .int (nI i1)), (2, .int (nI i1)), (0, .ref o0)]) hx hb dX12_nextOne_76 rfl hl (by decide) rfl (fun ls hl => ?_)
                  refine lv_iinc (v := nI (i1 + 1)) (lv' := [(2, .int (nI (i1 + 1))), (1, .int (nI i1)), (0, .ref o0)]) hx hb dX12_nextOne_77 hl (k := 1) rfl (nI_add i1 1) (by decide) rfl (fun ls hl => ?_)
                  refine lv_goto (tgt := 4) hx hb dX12_nextOne_80 (by decide) ?_
                  exact ih54 (i1 + 1) (by omega) (by omega) (nI i1) (rg_t (a := ((i1 : Nat) : Int)) (nI_toInt (by omega)) (by omega) (by omega)) _ _ hT hF hS ls (lv_sub hl [0, 1, 2] rfl)
        · have t109 : x68.toInt = 0 := ti_eq c69 rfl (by decide)
          refine lv_goto (tgt := 77) hx hb dX12_nextOne_21 (by decide) ?_
          refine lv_iinc (v := nI (i1 + 1)) (lv' := [(2, .int (nI (i1 + 1))), (1, .int z2), (0, .ref o0)]) hx hb dX12_nextOne_77 hl (k := 0) rfl (nI_add i1 1) (by decide) rfl (fun ls hl => ?_)
          refine lv_goto (tgt := 4) hx hb dX12_nextOne_80 (by decide) ?_
          exact ih54 (i1 + 1) (by omega) (by omega) z2 (by have q8 := ti_all z2; omega) _ _ hT hF hS ls (lv_sub hl [0, 1, 2] rfl)
  exact key54 (60 - 0) 0 (by omega) (Nat.le_refl _) (-1) (rg_t (a := (-1)) (by decide) (by first | decide | omega) (by first | decide | omega)) _ _ hT hF hS ls (lv_sub hl [0, 1, 2] rfl)
def w_s_bestFarm : List Cond := .code yX12_bestFarm cX12_bestFarm 3 (some .int) :: (HAppend.hAppend (α := List Cond) (β := List Cond) (γ := List Cond) [.fieldLink RX12 498 "SeaLandModel" "farms" "I", .fieldLink RX12 122 "SeaLandModel" "holder" "[I", .code yX12_worthOf cX12_worthOf 5 (some .int), .fieldLink RX12 113 "SeaLandModel" "farmFrom" "[I", .fieldLink RX12 116 "SeaLandModel" "farmTo" "[I", .code yX12_isIn cX12_isIn 5 (some .boolean), .methodLink RX12 207 Lib.Math.min.name, .static Lib.Math.min.name, .initialized "java/lang/Math", .code Lib.Math.min.name Lib.Math.min.code 2 (some .int), .methodLink RX12 211 Lib.Math.max.name, .static Lib.Math.max.name, .code Lib.Math.max.name Lib.Math.max.code 2 (some .int), .code yX12_in cX12_in 3 (some .boolean), .methodLink RX12 197 yX12_in, .static yX12_in, .initialized RX12, .methodLink RX12 232 yX12_isIn, .static yX12_isIn, .fieldLink RX12 9 "SeaLandModel" "world" "[I", .methodLink RX12 505 yX12_worthOf, .instanceMethod yX12_worthOf, .selects RX12 yX12_worthOf yX12_worthOf] bs)
set_option maxHeartbeats 4000000 in
set_option maxRecDepth 100000 in
theorem s_bestFarm (l : Launch) (dC : Nat → ClassId) (dI : Nat → Nat → Nat) (kA : Nat → ClassId) (adK adV : Nat → Nat) (G : gT) (H0 : Heap) (q : Nat → Nat) (wZ wN : Nat → Int) (wH wB wC : Int) (wL wK : Nat → Prop) (wU wV : Nat → Nat) (PI : Nat → Int → Prop) (im : Int) (PM PT : Nat → Int → Prop) (lS lB lE : Nat → Nat → Int → Prop) (lN : Nat → Int) (o0 : Nat)  (hT : gH (dC, dI) kA (SHm q (wP wZ wN wH wB wC wL wK wU wV) PI im PM PT lS lB lE lN) G H0) (hr_o0 : G o0 = some 0) (hgz : ∀ i, 0 ≤ wZ i) (hgn : ∀ i, 6500000 ≤ wN i ∧ wN i ≤ 20200000) (hgh : 0 ≤ wH ∧ wH ≤ 40000) (hgb : 0 ≤ wB ∧ wB ≤ 3850000) (hgc : 0 ≤ wC ∧ wC ≤ 30) (hgi : 0 ≤ im ∧ im ≤ 1) (hgu : ∀ a t, G a = some (t + 1) → a = q t) : Met l yX12_bestFarm w_s_bestFarm ({ frames := 3, cells := 0, slots := 0, locals := 88 }) (va_Pc [.ref o0] (fun U => U.heap = H0 ∧ va_K (dC, dI) vwCl (tyl kA) U ∧ EVS adK adV (gA G H0.size) U U.heap)) (va_Qi (fun (r : Int32) (u : Unit) => (-1 ≤ r.toInt ∧ r.toInt ≤ 29)) (fun (_ : Unit) (t : State) => gH (dC, dI) kA (SHm q (wP wZ wN wH wB wC wL wK wU wV) PI im PM PT lS lB lE lN) G t.heap ∧ gF (dC, dI) SKm G ([] : List (Nat × Nat)) H0 t.heap) (gA G H0.size)) 0 0 (gA G H0.size) := by
  refine Met.ofW (cc := cX12_bestFarm) (maxL := 3) (ret := (some .int)) (by decide) rfl ?_
  intro p e s m args below meth c s₁ B hml hv
  obtain ⟨rfl, hH0, hK, hE⟩ := hv
  have hx := B.exec
  have hb := B.bytes
  have hr := B.returns
  have hts := atoms_spec (ws := w_s_bestFarm) B.pre
  have hown : s.vm.findClass RX12 = some m.cls := findClass_of_methodNamed B.named
  have hlocks := B.notSynchronized
  subst hH0
  generalize hAe : gA G s.heap.size = A at hE ⊢
  have hA : ∀ q : Nat, s.heap.size ≤ q → A q := fun q h => by rw [← hAe]; exact Or.inr h
  have hG := gA_of hAe
  have hS : va_S A s.heap s.heap [] := va_S.rf
  have hF : gF (dC, dI) SKm G ([] : List (Nat × Nat)) s.heap s.heap := gF.rf
  have hl := lv_entry ([.ref o0]) (n := 3) (Nat.le_of_ble_eq_true rfl)
  rw [lg_entry_eq]
  generalize (lg_sl ([.ref o0]) ++ List.replicate (3 - (lg_sl ([.ref o0])).length) Slot.unset).toArray = ls at hl ⊢
  have hl : lv_has ls 3 [(0, .ref o0)] := hl
  refine lv_iconst (v := (-1)) hx hb dX12_bestFarm_0 (by decide) ?_
  refine lv_istore_n (lv' := [(1, .int (-1)), (0, .ref o0)]) hx hb dX12_bestFarm_1 rfl hl (by decide) rfl (fun ls hl => ?_)
  refine lv_iconst (v := 0) hx hb dX12_bestFarm_2 (by decide) ?_
  refine lv_istore_n (lv' := [(2, .int 0), (1, .int (-1)), (0, .ref o0)]) hx hb dX12_bestFarm_3 rfl hl (by decide) rfl (fun ls hl => ?_)
  have key30 : ∀ (n30 i1 : Nat), i1 + n30 = 30 → 0 ≤ i1 → ∀ (z2 : Int32), ((-1 ≤ z2.toInt ∧ z2.toInt ≤ 29)) → ∀ (H : Heap) (locs : List Loc), gH (dC, dI) kA (SHm q (wP wZ wN wH wB wC wL wK wU wV) PI im PM PT lS lB lE lN) G H → gF (dC, dI) SKm G ([] : List (Nat × Nat)) s.heap H → va_S A s.heap H locs → ∀ ls : Array Slot, lv_has ls 3 [(2, .int (nI i1)), (1, .int z2), (0, .ref o0)] → W p l e (headSpec w_s_bestFarm ({ frames := 3, cells := 0, slots := 0, locals := 88 })).room s m #[.ref o0] below meth c H locs 0 0 (MQ below (va_Qi (fun (r : Int32) (u : Unit) => (-1 ≤ r.toInt ∧ r.toInt ≤ 29)) (fun (_ : Unit) (t : State) => gH (dC, dI) kA (SHm q (wP wZ wN wH wB wC wL wK wU wV) PI im PM PT lS lB lE lN) G t.heap ∧ gF (dC, dI) SKm G ([] : List (Nat × Nat)) s.heap t.heap) A) #[.ref o0] s 0 0 A) (F0 m 4 ls []) := by
    intro n30
    induction n30 with
    | zero =>
      intro i1 hn30 hlo31 z2 h3 H locs hT hF hS  ls hl
      obtain rfl : 30 = i1 := by omega
      refine lv_iload_n hx hb dX12_bestFarm_4 rfl (lv_at hl 0 rfl) ?_
      refine lv_aload_n hx hb dX12_bestFarm_5 rfl (lv_at hl 2 rfl) ?_
      refine tw_get hx hb hts bF_X12 hown hK hT hr_o0 shm_0 rfl 47 (by decide) (ht_at hts 0 rfl) (fun _ h9 => h9) dX12_bestFarm_6 (fun v9 m32 h9 => ?_)
      obtain ⟨x33, rfl, gx33, kx33⟩ := h9 _ rfl
      refine lv_icmp_ge (tgt := 46) hx hb dX12_bestFarm_9 (by decide) (fun c34 => ?_) (fun c34 => (by exfalso; have q9 : ((30 : Nat) : Int) < x33.toInt := ti_nle c34 rfl (nI_toInt (by omega)); omega))
      have t35 : x33.toInt ≤ ((30 : Nat) : Int) := ti_le c34 rfl (nI_toInt (by omega))
      refine lv_iload_n hx hb dX12_bestFarm_46 rfl (lv_at hl 1 rfl) ?_
      exact W.iret (v := z2) hx hb hr (fun t ht hW => ⟨⟨z2, (), rfl, (by exact (by have q8 := ti_all z2; omega)), by (try dsimp only); rw [ht]; exact ⟨hT, hF⟩⟩, hS.F ht⟩) hS.2.2 dX12_bestFarm_47
    | succ n30 ih30 =>
      intro i1 hn30 hlo31 z2 h3 H locs hT hF hS  ls hl
      have hlt35 : i1 < 30 := by omega
      refine lv_iload_n hx hb dX12_bestFarm_4 rfl (lv_at hl 0 rfl) ?_
      refine lv_aload_n hx hb dX12_bestFarm_5 rfl (lv_at hl 2 rfl) ?_
      refine tw_get hx hb hts bF_X12 hown hK hT hr_o0 shm_0 rfl 47 (by decide) (ht_at hts 0 rfl) (fun _ h9 => h9) dX12_bestFarm_6 (fun v9 m36 h9 => ?_)
      obtain ⟨x37, rfl, gx37, kx37⟩ := h9 _ rfl
      refine lv_icmp_ge (tgt := 46) hx hb dX12_bestFarm_9 (by decide) (fun c38 => ?_) (fun c38 => ?_)
      · have t39 : x37.toInt ≤ ((i1 : Nat) : Int) := ti_le c38 rfl (nI_toInt (by omega))
        refine lv_iload_n hx hb dX12_bestFarm_46 rfl (lv_at hl 1 rfl) ?_
        exact W.iret (v := z2) hx hb hr (fun t ht hW => ⟨⟨z2, (), rfl, (by exact (by have q8 := ti_all z2; omega)), by (try dsimp only); rw [ht]; exact ⟨hT, hF⟩⟩, hS.F ht⟩) hS.2.2 dX12_bestFarm_47
      · have t40 : ((i1 : Nat) : Int) < x37.toInt := ti_nle c38 rfl (nI_toInt (by omega))
        refine lv_aload_n hx hb dX12_bestFarm_12 rfl (lv_at hl 2 rfl) ?_
        refine tw_get hx hb hts bF_X12 hown hK hT hr_o0 shm_0 rfl 46 (by decide) (ht_at hts 1 rfl) (fun _ h9 => h9) dX12_bestFarm_13 (fun v9 m41 h9 => ?_)
        obtain ⟨rfl, hg42⟩ := h9 _ rfl
        refine lv_iload_n hx hb dX12_bestFarm_16 rfl (lv_at hl 0 rfl) ?_
        refine tw_iald (i := (nI i1)) hx hb hK hT hg42 shm_47 rfl (vp_in_nI (by omega) (by decide)) dX12_bestFarm_17 (fun v9 m43 h9 => ?_)
        obtain ⟨x44, rfl, gx44, kx44⟩ := h9
        refine lv_if_ge (tgt := 40) hx hb dX12_bestFarm_18 (by decide) (fun c45 => ?_) (fun c45 => ?_)
        · have t46 : 0 ≤ x44.toInt := ti_le c45 (by decide) rfl
          refine lv_iinc (v := nI (i1 + 1)) (lv' := [(2, .int (nI (i1 + 1))), (1, .int z2), (0, .ref o0)]) hx hb dX12_bestFarm_40 hl (k := 0) rfl (nI_add i1 1) (by decide) rfl (fun ls hl => ?_)
          refine lv_goto (tgt := 4) hx hb dX12_bestFarm_43 (by decide) ?_
          exact ih30 (i1 + 1) (by omega) (by omega) z2 (by have q8 := ti_all z2; omega) _ _ hT hF hS ls (lv_sub hl [0, 1, 2] rfl)
        · have t47 : x44.toInt < 0 := ti_nle c45 (by decide) rfl
          refine lv_iload_n hx hb dX12_bestFarm_21 rfl (lv_at hl 1 rfl) ?_
          refine lv_if_lt (tgt := 38) hx hb dX12_bestFarm_22 (by decide) (fun c48 => ?_) (fun c48 => ?_)
          · have t49 : z2.toInt < 0 := ti_lt c48 rfl (by decide)
            refine lv_iload_n hx hb dX12_bestFarm_38 rfl (lv_at hl 0 rfl) ?_
            refine lv_istore_n (lv' := [(1, .int (nI i1)), (2, .int (nI i1)), (0, .ref o0)]) hx hb dX12_bestFarm_39 rfl hl (by decide) rfl (fun ls hl => ?_)
            refine lv_iinc (v := nI (i1 + 1)) (lv' := [(2, .int (nI (i1 + 1))), (1, .int (nI i1)), (0, .ref o0)]) hx hb dX12_bestFarm_40 hl (k := 1) rfl (nI_add i1 1) (by decide) rfl (fun ls hl => ?_)
            refine lv_goto (tgt := 4) hx hb dX12_bestFarm_43 (by decide) ?_
            exact ih30 (i1 + 1) (by omega) (by omega) (nI i1) (rg_t (a := ((i1 : Nat) : Int)) (nI_toInt (by omega)) (by omega) (by omega)) _ _ hT hF hS ls (lv_sub hl [0, 1, 2] rfl)
          · have t50 : 0 ≤ z2.toInt := ti_nlt c48 rfl (by decide)
            refine lv_aload_n hx hb dX12_bestFarm_25 rfl (lv_at hl 2 rfl) ?_
            refine lv_iload_n hx hb dX12_bestFarm_26 rfl (lv_at hl 0 rfl) ?_
            have hFc := gA_free hG hA hS
            refine va_calli (va_runV (As := [.int (nI i1)]) (rest := []) ⟨hx, hb, hml, hown, hts⟩ (s_worthOf l dC dI kA adK adV G H q wZ wN wH wB wC wL wK wU wV PI im PM PT lS lB lE lN o0 (nI i1) hT hr_o0 (rg_t (a := ((i1 : Nat) : Int)) (nI_toInt (by omega)) (by omega) (by omega)) hgz hgn hgh hgb hgc hgi hgu) (cwV 1 hts (goodIn_app (goodIn_r _ [21, 22, 23, 17] rfl (by decide +kernel)) (goodIn_ca (goodIn_r _ [3, 4, 5, 6, 7, 8, 9, 10, 11, 12, 13, 14, 15, 16, 17, 18, 19, 20] rfl (by decide +kernel)) (bs_in _ _))) rfl rfl rfl (by decide +kernel) ⟨(Nat.le_of_ble_eq_true rfl), (Nat.le_of_ble_eq_true rfl)⟩) ⟨fun a U g mk q => by obtain ⟨q0, q1, qK, qE⟩ := q; exact ⟨q0, q1, va_K.moved (u := U) (U := U.calling g mk a) (Vm.Alike.refl U.vm) qK, EVS.blind g mk a qE⟩, gH_rc hK hT hr_o0 shm_0 rfl, fun U hU hW => ⟨rfl, hU, va_K.moved hW.alike hK, hE.call hS hFc hU hW⟩⟩ rfl rfl hl.1 rfl (lv_room (Nat.le_of_ble_eq_true rfl)) dX12_bestFarm_27 ⟨(Nat.le_of_ble_eq_true rfl), (Nat.le_of_ble_eq_true rfl)⟩) hS (fun q _ h => hFc q h) hFc (fun r51 u t H locs ht hvm hw52 hB _ _ hS => ?_)
            obtain ⟨hT, hF1⟩ := hB
            rw [ht] at hT hF1
            have hF := hF.more hF1 (by decide)
            try dsimp only at hw52
            refine lv_aload_n hx hb dX12_bestFarm_30 rfl (lv_at hl 2 rfl) ?_
            refine lv_iload_n hx hb dX12_bestFarm_31 rfl (lv_at hl 1 rfl) ?_
            have hFc := gA_free hG hA hS
            refine va_calli (va_runV (As := [.int z2]) (rest := [.int r51]) ⟨hx, hb, hml, hown, hts⟩ (s_worthOf l dC dI kA adK adV G H q wZ wN wH wB wC wL wK wU wV PI im PM PT lS lB lE lN o0 z2 hT hr_o0 (by have q8 := ti_all z2; omega) hgz hgn hgh hgb hgc hgi hgu) (cwV 1 hts (goodIn_app (goodIn_r _ [21, 22, 23, 17] rfl (by decide +kernel)) (goodIn_ca (goodIn_r _ [3, 4, 5, 6, 7, 8, 9, 10, 11, 12, 13, 14, 15, 16, 17, 18, 19, 20] rfl (by decide +kernel)) (bs_in _ _))) rfl rfl rfl (by decide +kernel) ⟨(Nat.le_of_ble_eq_true rfl), (Nat.le_of_ble_eq_true rfl)⟩) ⟨fun a U g mk q => by obtain ⟨q0, q1, qK, qE⟩ := q; exact ⟨q0, q1, va_K.moved (u := U) (U := U.calling g mk a) (Vm.Alike.refl U.vm) qK, EVS.blind g mk a qE⟩, gH_rc hK hT hr_o0 shm_0 rfl, fun U hU hW => ⟨rfl, hU, va_K.moved hW.alike hK, hE.call hS hFc hU hW⟩⟩ rfl rfl hl.1 rfl (lv_room (Nat.le_of_ble_eq_true rfl)) dX12_bestFarm_32 ⟨(Nat.le_of_ble_eq_true rfl), (Nat.le_of_ble_eq_true rfl)⟩) hS (fun q _ h => hFc q h) hFc (fun r55 u t H locs ht hvm hw56 hB _ _ hS => ?_)
            obtain ⟨hT, hF1⟩ := hB
            rw [ht] at hT hF1
            have hF := hF.more hF1 (by decide)
            try dsimp only at hw56
            refine lv_icmp_le (tgt := 40) hx hb dX12_bestFarm_35 (by decide) (fun c59 => ?_) (fun c59 => ?_)
            · have t60 : r51.toInt ≤ r55.toInt := ti_le c59 rfl rfl
              refine lv_iinc (v := nI (i1 + 1)) (lv' := [(2, .int (nI (i1 + 1))), (1, .int z2), (0, .ref o0)]) hx hb dX12_bestFarm_40 hl (k := 0) rfl (nI_add i1 1) (by decide) rfl (fun ls hl => ?_)
              refine lv_goto (tgt := 4) hx hb dX12_bestFarm_43 (by decide) ?_
              exact ih30 (i1 + 1) (by omega) (by omega) z2 (by have q8 := ti_all z2; omega) _ _ hT hF hS ls (lv_sub hl [0, 1, 2] rfl)
            · have t61 : r55.toInt < r51.toInt := ti_nle c59 rfl rfl
              refine lv_iload_n hx hb dX12_bestFarm_38 rfl (lv_at hl 0 rfl) ?_
              refine lv_istore_n (lv' := [(1, .int (nI i1)), (2, .int (nI i1)), (0, .ref o0)]) hx hb dX12_bestFarm_39 rfl hl (by decide) rfl (fun ls hl => ?_)
              refine lv_iinc (v := nI (i1 + 1)) (lv' := [(2, .int (nI (i1 + 1))), (1, .int (nI i1)), (0, .ref o0)]) hx hb dX12_bestFarm_40 hl (k := 1) rfl (nI_add i1 1) (by decide) rfl (fun ls hl => ?_)
              refine lv_goto (tgt := 4) hx hb dX12_bestFarm_43 (by decide) ?_
              exact ih30 (i1 + 1) (by omega) (by omega) (nI i1) (rg_t (a := ((i1 : Nat) : Int)) (nI_toInt (by omega)) (by omega) (by omega)) _ _ hT hF hS ls (lv_sub hl [0, 1, 2] rfl)
  exact key30 (30 - 0) 0 (by omega) (Nat.le_refl _) (-1) (rg_t (a := (-1)) (by decide) (by first | decide | omega) (by first | decide | omega)) _ _ hT hF hS ls (lv_sub hl [0, 1, 2] rfl)
