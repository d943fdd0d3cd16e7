def w_s_isAt : List Cond := .code yX12_isAt cX12_isAt 3 (some .boolean) :: (HAppend.hAppend (α := List Cond) (β := List Cond) (γ := List Cond) [.fieldLink RX12 335 "SeaLandModel" "point" "I", .fieldLink RX12 338 "SeaLandModel" "end" "I", .fieldLink RX12 31 "SeaLandModel" "tape" "[B"] bs)
set_option maxHeartbeats 4000000 in
set_option maxRecDepth 100000 in
theorem s_isAt (l : Launch) (dC : Nat → ClassId) (dI : Nat → Nat → Nat) (kA : Nat → ClassId) (adK adV : Nat → Nat) (G : gT) (H0 : Heap) (q : Nat → Nat) (wZ wN : Nat → Int) (wH wB wC : Int) (wL wK : Nat → Prop) (wU wV : Nat → Nat) (PI : Nat → Int → Prop) (im : Int) (PM PT : Nat → Int → Prop) (lS lB lE : Nat → Nat → Int → Prop) (lN : Nat → Int) (o0 : Nat) (lo : Int32) (hi : Int32) (pt : Int32) (en : Int32)  (hT : gH (dC, dI) kA (SHm q (wP wZ wN wH wB wC wL wK wU wV) PI im PM PT lS lB lE lN) G H0) (hr_o0 : G o0 = some 0) (hm_pt : el H0 o0 (dI 15 12) = some (.int pt)) (hm_en : el H0 o0 (dI 15 13) = some (.int en)) (hq0 : 0 ≤ pt.toInt ∧ pt.toInt ≤ 400) (hq1 : 0 ≤ en.toInt ∧ en.toInt ≤ 400) (hgz : ∀ i, 0 ≤ wZ i) (hgn : ∀ i, 6500000 ≤ wN i ∧ wN i ≤ 20200000) (hgh : 0 ≤ wH ∧ wH ≤ 40000) (hgb : 0 ≤ wB ∧ wB ≤ 3850000) (hgc : 0 ≤ wC ∧ wC ≤ 30) (hgi : 0 ≤ im ∧ im ≤ 1) (hgu : ∀ a t, G a = some (t + 1) → a = q t) : Met l yX12_isAt w_s_isAt ({ frames := 0, cells := 0, slots := 0, locals := 0 }) (va_Pc [.ref o0, .int lo, .int hi] (fun U => U.heap = H0 ∧ va_K (dC, dI) vwCl (tyl kA) U ∧ EVS adK adV (gA G H0.size) U U.heap)) (va_Qi (fun (r : Int32) (u : Unit) => (0 ≤ r.toInt ∧ r.toInt ≤ 1) ∧ (r = 1 → pt.toInt < en.toInt)) (fun (_ : Unit) (t : State) => gH (dC, dI) kA (SHm q (wP wZ wN wH wB wC wL wK wU wV) PI im PM PT lS lB lE lN) G t.heap ∧ gF (dC, dI) SKm G ([] : List (Nat × Nat)) H0 t.heap) (gA G H0.size)) 0 0 (gA G H0.size) := by
  refine Met.ofW (cc := cX12_isAt) (maxL := 3) (ret := (some .boolean)) (by decide) rfl ?_
  intro p e s m args below meth c s₁ B hml hv
  obtain ⟨rfl, hH0, hK, hE⟩ := hv
  have hx := B.exec
  have hb := B.bytes
  have hr := B.returns
  have hts := atoms_spec (ws := w_s_isAt) B.pre
  have hown : s.vm.findClass RX12 = some m.cls := findClass_of_methodNamed B.named
  have hlocks := B.notSynchronized
  subst hH0
  generalize hAe : gA G s.heap.size = A at hE ⊢
  have hA : ∀ q : Nat, s.heap.size ≤ q → A q := fun q h => by rw [← hAe]; exact Or.inr h
  have hG := gA_of hAe
  have hS : va_S A s.heap s.heap [] := va_S.rf
  have hF : gF (dC, dI) SKm G ([] : List (Nat × Nat)) s.heap s.heap := gF.rf
  have hl := lv_entry ([.ref o0, .int lo, .int hi]) (n := 3) (Nat.le_of_ble_eq_true rfl)
  rw [lg_entry_eq]
  generalize (lg_sl ([.ref o0, .int lo, .int hi]) ++ List.replicate (3 - (lg_sl ([.ref o0, .int lo, .int hi])).length) Slot.unset).toArray = ls at hl ⊢
  have hl : lv_has ls 3 [(0, .ref o0), (1, .int lo), (2, .int hi)] := hl
  refine lv_aload_n hx hb dX12_isAt_0 rfl (lv_at hl 0 rfl) ?_
  refine tw_getM (v := .int pt) hx hb hts bF_X12 hown hK hT hr_o0 shm_0 rfl 12 (by decide) (ht_at hts 0 rfl) (fun _ h9 => h9) hm_pt dX12_isAt_1 ?_
  refine lv_aload_n hx hb dX12_isAt_4 rfl (lv_at hl 0 rfl) ?_
  refine tw_getM (v := .int en) hx hb hts bF_X12 hown hK hT hr_o0 shm_0 rfl 13 (by decide) (ht_at hts 1 rfl) (fun _ h9 => h9) hm_en dX12_isAt_5 ?_
  refine lv_icmp_ge (tgt := 41) hx hb dX12_isAt_8 (by decide) (fun c1 => ?_) (fun c1 => ?_)
  · have t2 : en.toInt ≤ pt.toInt := ti_le c1 rfl rfl
    refine lv_iconst (v := 0) hx hb dX12_isAt_41 (by decide) ?_
    exact W.zret (v := 0) hx hb hr (by decide) (fun t ht hW => ⟨⟨0, (), rfl, (by exact ⟨(rg_t (a := 0) (by decide) (by first | decide | omega) (by first | decide | omega)), (fun h => absurd h (by decide))⟩), by (try dsimp only); rw [ht]; exact ⟨hT, hF⟩⟩, hS.F ht⟩) hS.2.2 dX12_isAt_42
  · have t3 : pt.toInt < en.toInt := ti_nle c1 rfl rfl
    refine lv_aload_n hx hb dX12_isAt_11 rfl (lv_at hl 0 rfl) ?_
    refine tw_get hx hb hts bF_X12 hown hK hT hr_o0 shm_0 rfl 10 (by decide) (ht_at hts 2 rfl) (fun _ h9 => h9) dX12_isAt_12 (fun v9 m4 h9 => ?_)
    obtain ⟨rfl, hg5⟩ := h9 _ rfl
    refine lv_aload_n hx hb dX12_isAt_15 rfl (lv_at hl 0 rfl) ?_
    refine tw_getM (v := .int pt) hx hb hts bF_X12 hown hK hT hr_o0 shm_0 rfl 12 (by decide) (ht_at hts 0 rfl) (fun _ h9 => h9) hm_pt dX12_isAt_16 ?_
    refine tw_bald (i := pt) hx hb hK hT hg5 shm_11 rfl (vin_t (a := pt.toInt) rfl (by omega) (by omega)) dX12_isAt_19 (fun v9 m6 h9 => ?_)
    obtain ⟨x7, rfl, gx7, kx7⟩ := h9
    refine lv_iload_n hx hb dX12_isAt_20 rfl (lv_at hl 1 rfl) ?_
    refine lv_icmp_lt (tgt := 41) hx hb dX12_isAt_21 (by decide) (fun c8 => ?_) (fun c8 => ?_)
    · have t9 : x7.toInt < lo.toInt := ti_lt c8 rfl rfl
      refine lv_iconst (v := 0) hx hb dX12_isAt_41 (by decide) ?_
      exact W.zret (v := 0) hx hb hr (by decide) (fun t ht hW => ⟨⟨0, (), rfl, (by exact ⟨(rg_t (a := 0) (by decide) (by first | decide | omega) (by first | decide | omega)), (fun h => absurd h (by decide))⟩), by (try dsimp only); rw [ht]; exact ⟨hT, hF⟩⟩, hS.F ht⟩) hS.2.2 dX12_isAt_42
    · have t10 : lo.toInt ≤ x7.toInt := ti_nlt c8 rfl rfl
      refine lv_aload_n hx hb dX12_isAt_24 rfl (lv_at hl 0 rfl) ?_
      refine tw_get hx hb hts bF_X12 hown hK hT hr_o0 shm_0 rfl 10 (by decide) (ht_at hts 2 rfl) (fun _ h9 => h9) dX12_isAt_25 (fun v9 m11 h9 => ?_)
      obtain ⟨rfl, hg12⟩ := h9 _ rfl
      refine lv_aload_n hx hb dX12_isAt_28 rfl (lv_at hl 0 rfl) ?_
      refine tw_getM (v := .int pt) hx hb hts bF_X12 hown hK hT hr_o0 shm_0 rfl 12 (by decide) (ht_at hts 0 rfl) (fun _ h9 => h9) hm_pt dX12_isAt_29 ?_
      refine tw_bald (i := pt) hx hb hK hT hg5 shm_11 rfl (vin_t (a := pt.toInt) rfl (by omega) (by omega)) dX12_isAt_32 (fun v9 m13 h9 => ?_)
      obtain ⟨x14, rfl, gx14, kx14⟩ := h9
      obtain rfl : x7 = x14 := (el_same m13 m6 rfl).symm
      refine lv_iload_n hx hb dX12_isAt_33 rfl (lv_at hl 2 rfl) ?_
      refine lv_icmp_gt (tgt := 41) hx hb dX12_isAt_34 (by decide) (fun c15 => ?_) (fun c15 => ?_)
      · have t16 : hi.toInt < x7.toInt := ti_lt c15 rfl rfl
        refine lv_iconst (v := 0) hx hb dX12_isAt_41 (by decide) ?_
        exact W.zret (v := 0) hx hb hr (by decide) (fun t ht hW => ⟨⟨0, (), rfl, (by exact ⟨(rg_t (a := 0) (by decide) (by first | decide | omega) (by first | decide | omega)), (fun h => absurd h (by decide))⟩), by (try dsimp only); rw [ht]; exact ⟨hT, hF⟩⟩, hS.F ht⟩) hS.2.2 dX12_isAt_42
      · have t17 : x7.toInt ≤ hi.toInt := ti_nlt c15 rfl rfl
        refine lv_iconst (v := 1) hx hb dX12_isAt_37 (by decide) ?_
        refine lv_goto (tgt := 42) hx hb dX12_isAt_38 (by decide) ?_
        exact W.zret (v := 1) hx hb hr (by decide) (fun t ht hW => ⟨⟨1, (), rfl, (by exact ⟨(rg_t (a := 1) (by decide) (by first | decide | omega) (by first | decide | omega)), (fun _ => by omega)⟩), by (try dsimp only); rw [ht]; exact ⟨hT, hF⟩⟩, hS.F ht⟩) hS.2.2 dX12_isAt_42
def w_s_blanks : List Cond := .code yX12_blanks cX12_blanks 1 none :: (HAppend.hAppend (α := List Cond) (β := List Cond) (γ := List Cond) [.code yX12_isAt cX12_isAt 3 (some .boolean), .fieldLink RX12 335 "SeaLandModel" "point" "I", .fieldLink RX12 338 "SeaLandModel" "end" "I", .fieldLink RX12 31 "SeaLandModel" "tape" "[B", .methodLink RX12 341 yX12_isAt, .instanceMethod yX12_isAt, .selects RX12 yX12_isAt yX12_isAt, .initialized RX12, .fieldLink RX12 345 "SeaLandModel" "begin" "I"] bs)
set_option maxHeartbeats 4000000 in
set_option maxRecDepth 100000 in
theorem s_blanks (l : Launch) (dC : Nat → ClassId) (dI : Nat → Nat → Nat) (kA : Nat → ClassId) (adK adV : Nat → Nat) (G : gT) (H0 : Heap) (q : Nat → Nat) (wZ wN : Nat → Int) (wH wB wC : Int) (wL wK : Nat → Prop) (wU wV : Nat → Nat) (PI : Nat → Int → Prop) (im : Int) (PM PT : Nat → Int → Prop) (lS lB lE : Nat → Nat → Int → Prop) (lN : Nat → Int) (o0 : Nat) (pt : Int32) (en : Int32)  (hT : gH (dC, dI) kA (SHm q (wP wZ wN wH wB wC wL wK wU wV) PI im PM PT lS lB lE lN) G H0) (hr_o0 : G o0 = some 0) (hm_pt : el H0 o0 (dI 15 12) = some (.int pt)) (hm_en : el H0 o0 (dI 15 13) = some (.int en)) (hq0 : 0 ≤ pt.toInt ∧ pt.toInt ≤ 400) (hq1 : 0 ≤ en.toInt ∧ en.toInt ≤ 400) (hpe : pt.toInt ≤ en.toInt) (hgz : ∀ i, 0 ≤ wZ i) (hgn : ∀ i, 6500000 ≤ wN i ∧ wN i ≤ 20200000) (hgh : 0 ≤ wH ∧ wH ≤ 40000) (hgb : 0 ≤ wB ∧ wB ≤ 3850000) (hgc : 0 ≤ wC ∧ wC ≤ 30) (hgi : 0 ≤ im ∧ im ≤ 1) (hgu : ∀ a t, G a = some (t + 1) → a = q t) : Met l yX12_blanks w_s_blanks ({ frames := 1, cells := 0, slots := 0, locals := 22 }) (va_Pc [.ref o0] (fun U => U.heap = H0 ∧ va_K (dC, dI) vwCl (tyl kA) U ∧ EVS adK adV (gA G H0.size) U U.heap)) (va_Qv (fun (u : Int32 × Int32) => match u with | (p1, b1) => (0 ≤ p1.toInt ∧ p1.toInt ≤ 400) ∧ (0 ≤ b1.toInt ∧ b1.toInt ≤ 400) ∧ (pt.toInt ≤ p1.toInt ∧ p1.toInt ≤ en.toInt ∧ b1.toInt = p1.toInt)) (fun (u : Int32 × Int32) (t : State) => match u with | (p1, b1) => gH (dC, dI) kA (SHm q (wP wZ wN wH wB wC wL wK wU wV) PI im PM PT lS lB lE lN) G t.heap ∧ gF (dC, dI) SKm G ([(0, 12), (0, 14)] : List (Nat × Nat)) H0 t.heap ∧ el t.heap o0 (dI 15 12) = some (.int p1) ∧ el t.heap o0 (dI 15 14) = some (.int b1)) (gA G H0.size)) 0 0 (gA G H0.size) := by
  refine Met.ofW (cc := cX12_blanks) (maxL := 1) (ret := none) (by decide) rfl ?_
  intro p e s m args below meth c s₁ B hml hv
  obtain ⟨rfl, hH0, hK, hE⟩ := hv
  have hx := B.exec
  have hb := B.bytes
  have hr := B.returns
  have hts := atoms_spec (ws := w_s_blanks) B.pre
  have hown : s.vm.findClass RX12 = some m.cls := findClass_of_methodNamed B.named
  have hlocks := B.notSynchronized
  subst hH0
  generalize hAe : gA G s.heap.size = A at hE ⊢
  have hA : ∀ q : Nat, s.heap.size ≤ q → A q := fun q h => by rw [← hAe]; exact Or.inr h
  have hG := gA_of hAe
  have hS : va_S A s.heap s.heap [] := va_S.rf
  have hF : gF (dC, dI) SKm G ([(0, 12), (0, 14)] : List (Nat × Nat)) s.heap s.heap := gF.rf
  have hl := lv_entry ([.ref o0]) (n := 1) (Nat.le_of_ble_eq_true rfl)
  rw [lg_entry_eq]
  generalize (lg_sl ([.ref o0]) ++ List.replicate (1 - (lg_sl ([.ref o0])).length) Slot.unset).toArray = ls at hl ⊢
  have hl : lv_has ls 1 [(0, .ref o0)] := hl
  have key43 : ∀ (n43 : Nat), ∀ (z21 : Int32), (400 - z21.toInt < ((n43 : Nat) : Int)) → ((0 ≤ z21.toInt ∧ z21.toInt ≤ 400) ∧ (pt.toInt ≤ z21.toInt ∧ z21.toInt ≤ en.toInt)) → ∀ (H : Heap) (locs : List Loc), gH (dC, dI) kA (SHm q (wP wZ wN wH wB wC wL wK wU wV) PI im PM PT lS lB lE lN) G H → gF (dC, dI) SKm G ([(0, 12), (0, 14)] : List (Nat × Nat)) s.heap H → va_S A s.heap H locs → el H o0 (dI 15 12) = some (.int z21) → el H o0 (dI 15 13) = some (.int en) → ∀ ls : Array Slot, lv_has ls 1 [(0, .ref o0)] → W p l e (headSpec w_s_blanks ({ frames := 1, cells := 0, slots := 0, locals := 22 })).room s m #[.ref o0] below meth c H locs 0 0 (MQ below (va_Qv (fun (u : Int32 × Int32) => match u with | (p1, b1) => (0 ≤ p1.toInt ∧ p1.toInt ≤ 400) ∧ (0 ≤ b1.toInt ∧ b1.toInt ≤ 400) ∧ (pt.toInt ≤ p1.toInt ∧ p1.toInt ≤ en.toInt ∧ b1.toInt = p1.toInt)) (fun (u : Int32 × Int32) (t : State) => match u with | (p1, b1) => gH (dC, dI) kA (SHm q (wP wZ wN wH wB wC wL wK wU wV) PI im PM PT lS lB lE lN) G t.heap ∧ gF (dC, dI) SKm G ([(0, 12), (0, 14)] : List (Nat × Nat)) s.heap t.heap ∧ el t.heap o0 (dI 15 12) = some (.int p1) ∧ el t.heap o0 (dI 15 14) = some (.int b1)) A) #[.ref o0] s 0 0 A) (F0 m 0 ls []) := by
    intro n43
    induction n43 with
    | zero =>
      intro z21 hv43 ⟨h22, hj25⟩ H locs hT hF hS m23 m24 ls hl
      exfalso; omega
    | succ n43 ih43 =>
      intro z21 hv43 ⟨h22, hj25⟩ H locs hT hF hS m23 m24 ls hl
      refine lv_aload_n hx hb dX12_blanks_0 rfl (lv_at hl 0 rfl) ?_
      refine lv_bipush (v := 32) hx hb dX12_blanks_1 (by decide) ?_
      refine lv_bipush (v := 32) hx hb dX12_blanks_3 (by decide) ?_
      have hFc := gA_free hG hA hS
      refine va_calli (va_runV (As := [.int 32, .int 32]) (rest := []) ⟨hx, hb, hml, hown, hts⟩ (s_isAt l dC dI kA adK adV G H q wZ wN wH wB wC wL wK wU wV PI im PM PT lS lB lE lN o0 32 32 z21 en hT hr_o0 m23 m24 (by have q8 := ti_all z21; omega) (by have q8 := ti_all en; omega) hgz hgn hgh hgb hgc hgi hgu) (cwV 2 hts (goodIn_app (goodIn_r _ [5, 6, 7, 8] rfl (by decide +kernel)) (goodIn_ca (goodIn_r _ [1, 2, 3, 4] rfl (by decide +kernel)) (bs_in _ _))) rfl rfl rfl (by decide +kernel) ⟨(Nat.le_of_ble_eq_true rfl), (Nat.le_of_ble_eq_true rfl)⟩) ⟨fun a U g mk q => by obtain ⟨q0, q1, qK, qE⟩ := q; exact ⟨q0, q1, va_K.moved (u := U) (U := U.calling g mk a) (Vm.Alike.refl U.vm) qK, EVS.blind g mk a qE⟩, gH_rc hK hT hr_o0 shm_0 rfl, fun U hU hW => ⟨rfl, hU, va_K.moved hW.alike hK, hE.call hS hFc hU hW⟩⟩ rfl rfl hl.1 rfl (lv_room (Nat.le_of_ble_eq_true rfl)) dX12_blanks_5 ⟨(Nat.le_of_ble_eq_true rfl), (Nat.le_of_ble_eq_true rfl)⟩) hS (fun q _ h => hFc q h) hFc (fun r44 u t H locs ht hvm hw45 hB _ _ hS => ?_)
      obtain ⟨hT, hF1⟩ := hB
      rw [ht] at hT hF1
      have m46 := (hF1.fld hr_o0 skm_0 (k := 12) (by decide) (by decide)).trans m23
      have m47 := (hF1.fld hr_o0 skm_0 (k := 13) (by decide) (by decide)).trans m24
      have hF := hF.more hF1 (by decide)
      try dsimp only at hw45
      obtain ⟨h48, hi49⟩ := hw45
      refine lv_if_eq (tgt := 24) hx hb dX12_blanks_8 (by decide) (fun c50 => ?_) (fun c50 => ?_)
      · have t51 : r44.toInt = 0 := ti_eq c50 rfl (by decide)
        refine lv_aload_n hx hb dX12_blanks_24 rfl (lv_at hl 0 rfl) ?_
        refine lv_aload_n hx hb dX12_blanks_25 rfl (lv_at hl 0 rfl) ?_
        refine tw_getM (v := .int z21) hx hb hts bF_X12 hown hK hT hr_o0 shm_0 rfl 12 (by decide) (ht_at hts 1 rfl) (fun _ h9 => h9) m46 dX12_blanks_26 ?_
        refine tw_put (v := .int z21) (ty := .int) hx hb hts bF_X12 tyX12 tyX12_ok nmX12 hown hK hT hG hS hr_o0 shm_0 rfl 14 (by decide) (ht_at hts 8 rfl) (fun _ h9 => h9) rfl (by decide +kernel) rfl rfl (gl_at rfl (gi_of (show z21.toInt = z21.toInt from rfl) (by omega) (by omega))) dX12_blanks_29 (fun H locs hT oq m52 oj hS => ?_)
        have hF := hF.put hr_o0 skm_0 oq oj (by decide)
        have m53 := (oj 12 (by decide) (by decide)).trans m46
        exact W.vret hx hb hr (fun t ht hW => ⟨⟨(z21, z21), rfl, (by exact ⟨(by have q8 := ti_all z21; omega), (by have q8 := ti_all z21; omega), (by omega)⟩), by (try dsimp only); rw [ht]; exact ⟨hT, hF, m53, m52⟩⟩, hS.F ht⟩) hS.2.2 dX12_blanks_32
      · have t55 : r44.toInt ≠ 0 := ti_ne c50 rfl (by decide)
        have t56 : z21.toInt < en.toInt := hi49 ((bit_of ⟨by omega, by omega⟩).resolve_left c50)
        refine lv_aload_n hx hb dX12_blanks_11 rfl (lv_at hl 0 rfl) ?_
        refine lv_dup hx hb dX12_blanks_12 rfl ?_
        refine tw_getM (v := .int z21) hx hb hts bF_X12 hown hK hT hr_o0 shm_0 rfl 12 (by decide) (ht_at hts 1 rfl) (fun _ h9 => h9) m46 dX12_blanks_13 ?_
        refine lv_iconst (v := 1) hx hb dX12_blanks_16 (by decide) ?_
        refine lv_iadd hx hb dX12_blanks_17 ?_
        refine lv_topi (fun x57 ex57 => ?_)
        have t58 : x57.toInt = z21.toInt + 1 := ti_add ex57 rfl (by decide) (by omega) (by omega)
        refine tw_put (v := .int x57) (ty := .int) hx hb hts bF_X12 tyX12 tyX12_ok nmX12 hown hK hT hG hS hr_o0 shm_0 rfl 12 (by decide) (ht_at hts 1 rfl) (fun _ h9 => h9) rfl (by decide +kernel) rfl rfl (gl_at rfl (gi_of (show x57.toInt = x57.toInt from rfl) (by omega) (by omega))) dX12_blanks_18 (fun H locs hT oq m59 oj hS => ?_)
        have hF := hF.put hr_o0 skm_0 oq oj (by decide)
        have m60 := (oj 13 (by decide) (by decide)).trans m47
        refine lv_goto (tgt := 0) hx hb dX12_blanks_21 (by decide) ?_
        exact ih43 x57 (by have q9 := (show x57.toInt = x57.toInt from rfl); omega) ⟨(by have q8 := ti_all x57; omega), (by have := (show x57.toInt = x57.toInt from rfl); omega)⟩ _ _ hT hF hS m59 m60 ls (lv_sub hl [0] rfl)
  exact key43 401 pt (by have q9 := (show pt.toInt = pt.toInt from rfl); omega) ⟨(by have q8 := ti_all pt; omega), (by have := (show pt.toInt = pt.toInt from rfl); omega)⟩ _ _ hT hF hS hm_pt hm_en ls (lv_sub hl [0] rfl)
def w_s_word : List Cond := .code yX12_word cX12_word 1 none :: (HAppend.hAppend (α := List Cond) (β := List Cond) (γ := List Cond) [.code yX12_blanks cX12_blanks 1 none, .code yX12_isAt cX12_isAt 3 (some .boolean), .fieldLink RX12 335 "SeaLandModel" "point" "I", .fieldLink RX12 338 "SeaLandModel" "end" "I", .fieldLink RX12 31 "SeaLandModel" "tape" "[B", .methodLink RX12 341 yX12_isAt, .instanceMethod yX12_isAt, .selects RX12 yX12_isAt yX12_isAt, .initialized RX12, .fieldLink RX12 345 "SeaLandModel" "begin" "I", .methodLink RX12 348 yX12_blanks, .instanceMethod yX12_blanks, .selects RX12 yX12_blanks yX12_blanks] bs)
set_option maxHeartbeats 4000000 in
set_option maxRecDepth 100000 in
theorem s_word (l : Launch) (dC : Nat → ClassId) (dI : Nat → Nat → Nat) (kA : Nat → ClassId) (adK adV : Nat → Nat) (G : gT) (H0 : Heap) (q : Nat → Nat) (wZ wN : Nat → Int) (wH wB wC : Int) (wL wK : Nat → Prop) (wU wV : Nat → Nat) (PI : Nat → Int → Prop) (im : Int) (PM PT : Nat → Int → Prop) (lS lB lE : Nat → Nat → Int → Prop) (lN : Nat → Int) (o0 : Nat) (pt : Int32) (en : Int32)  (hT : gH (dC, dI) kA (SHm q (wP wZ wN wH wB wC wL wK wU wV) PI im PM PT lS lB lE lN) G H0) (hr_o0 : G o0 = some 0) (hm_pt : el H0 o0 (dI 15 12) = some (.int pt)) (hm_en : el H0 o0 (dI 15 13) = some (.int en)) (hq0 : 0 ≤ pt.toInt ∧ pt.toInt ≤ 400) (hq1 : 0 ≤ en.toInt ∧ en.toInt ≤ 400) (hpe : pt.toInt ≤ en.toInt) (hgz : ∀ i, 0 ≤ wZ i) (hgn : ∀ i, 6500000 ≤ wN i ∧ wN i ≤ 20200000) (hgh : 0 ≤ wH ∧ wH ≤ 40000) (hgb : 0 ≤ wB ∧ wB ≤ 3850000) (hgc : 0 ≤ wC ∧ wC ≤ 30) (hgi : 0 ≤ im ∧ im ≤ 1) (hgu : ∀ a t, G a = some (t + 1) → a = q t) : Met l yX12_word w_s_word ({ frames := 2, cells := 0, slots := 0, locals := 42 }) (va_Pc [.ref o0] (fun U => U.heap = H0 ∧ va_K (dC, dI) vwCl (tyl kA) U ∧ EVS adK adV (gA G H0.size) U U.heap)) (va_Qv (fun (u : Int32 × Int32) => match u with | (p1, b1) => (0 ≤ p1.toInt ∧ p1.toInt ≤ 400) ∧ (0 ≤ b1.toInt ∧ b1.toInt ≤ 400) ∧ (pt.toInt ≤ b1.toInt ∧ b1.toInt ≤ p1.toInt ∧ p1.toInt ≤ en.toInt)) (fun (u : Int32 × Int32) (t : State) => match u with | (p1, b1) => gH (dC, dI) kA (SHm q (wP wZ wN wH wB wC wL wK wU wV) PI im PM PT lS lB lE lN) G t.heap ∧ gF (dC, dI) SKm G ([(0, 12), (0, 14)] : List (Nat × Nat)) H0 t.heap ∧ el t.heap o0 (dI 15 12) = some (.int p1) ∧ el t.heap o0 (dI 15 14) = some (.int b1)) (gA G H0.size)) 0 0 (gA G H0.size) := by
  refine Met.ofW (cc := cX12_word) (maxL := 1) (ret := none) (by decide) rfl ?_
  intro p e s m args below meth c s₁ B hml hv
  obtain ⟨rfl, hH0, hK, hE⟩ := hv
  have hx := B.exec
  have hb := B.bytes
  have hr := B.returns
  have hts := atoms_spec (ws := w_s_word) B.pre
  have hown : s.vm.findClass RX12 = some m.cls := findClass_of_methodNamed B.named
  have hlocks := B.notSynchronized
  subst hH0
  generalize hAe : gA G s.heap.size = A at hE ⊢
  have hA : ∀ q : Nat, s.heap.size ≤ q → A q := fun q h => by rw [← hAe]; exact Or.inr h
  have hG := gA_of hAe
  have hS : va_S A s.heap s.heap [] := va_S.rf
  have hF : gF (dC, dI) SKm G ([(0, 12), (0, 14)] : List (Nat × Nat)) s.heap s.heap := gF.rf
  have hl := lv_entry ([.ref o0]) (n := 1) (Nat.le_of_ble_eq_true rfl)
  rw [lg_entry_eq]
  generalize (lg_sl ([.ref o0]) ++ List.replicate (1 - (lg_sl ([.ref o0])).length) Slot.unset).toArray = ls at hl ⊢
  have hl : lv_has ls 1 [(0, .ref o0)] := hl
  refine lv_aload_n hx hb dX12_word_0 rfl (lv_at hl 0 rfl) ?_
  have hFc := gA_free hG hA hS
  refine va_callv (va_runV (As := []) (rest := []) ⟨hx, hb, hml, hown, hts⟩ (s_blanks l dC dI kA adK adV G s.heap q wZ wN wH wB wC wL wK wU wV PI im PM PT lS lB lE lN o0 pt en hT hr_o0 hm_pt hm_en (by have q8 := ti_all pt; omega) (by have q8 := ti_all en; omega) (by have := (show pt.toInt = pt.toInt from rfl); have := (show en.toInt = en.toInt from rfl); omega) hgz hgn hgh hgb hgc hgi hgu) (cwV 0 hts (goodIn_app (goodIn_r _ [11, 12, 13, 9] rfl (by decide +kernel)) (goodIn_ca (goodIn_r _ [1, 2, 3, 4, 5, 6, 7, 8, 9, 10] rfl (by decide +kernel)) (bs_in _ _))) rfl rfl rfl (by decide +kernel) ⟨(Nat.le_of_ble_eq_true rfl), (Nat.le_of_ble_eq_true rfl)⟩) ⟨fun a U g mk q => by obtain ⟨q0, q1, qK, qE⟩ := q; exact ⟨q0, q1, va_K.moved (u := U) (U := U.calling g mk a) (Vm.Alike.refl U.vm) qK, EVS.blind g mk a qE⟩, gH_rc hK hT hr_o0 shm_0 rfl, fun U hU hW => ⟨rfl, hU, va_K.moved hW.alike hK, hE.call hS hFc hU hW⟩⟩ rfl rfl hl.1 rfl (lv_room (Nat.le_of_ble_eq_true rfl)) dX12_word_1 ⟨(Nat.le_of_ble_eq_true rfl), (Nat.le_of_ble_eq_true rfl)⟩) hS (fun q _ h => hFc q h) hFc (fun u t H locs ht hvm hw2 hB _ _ hS => ?_)
  obtain ⟨u3, u4⟩ := u
  obtain ⟨hT, hF1, m5, m6⟩ := hB
  rw [ht] at hT hF1 m5 m6
  have m8 := (hF1.fld hr_o0 skm_0 (k := 13) (by decide) (by decide)).trans hm_en
  have hF := hF.more hF1 (by decide)
  try dsimp only at hw2
  obtain ⟨h9, h10, hf11⟩ := hw2
  have key54 : ∀ (n54 : Nat), ∀ (z33 : Int32), (400 - z33.toInt < ((n54 : Nat) : Int)) → ((0 ≤ z33.toInt ∧ z33.toInt ≤ 400) ∧ (u4.toInt ≤ z33.toInt ∧ z33.toInt ≤ en.toInt)) → ∀ (H : Heap) (locs : List Loc), gH (dC, dI) kA (SHm q (wP wZ wN wH wB wC wL wK wU wV) PI im PM PT lS lB lE lN) G H → gF (dC, dI) SKm G ([(0, 12), (0, 14)] : List (Nat × Nat)) s.heap H → va_S A s.heap H locs → el H o0 (dI 15 13) = some (.int en) → el H o0 (dI 15 12) = some (.int z33) → el H o0 (dI 15 14) = some (.int u4) → ∀ ls : Array Slot, lv_has ls 1 [(0, .ref o0)] → W p l e (headSpec w_s_word ({ frames := 2, cells := 0, slots := 0, locals := 42 })).room s m #[.ref o0] below meth c H locs 0 0 (MQ below (va_Qv (fun (u : Int32 × Int32) => match u with | (p1, b1) => (0 ≤ p1.toInt ∧ p1.toInt ≤ 400) ∧ (0 ≤ b1.toInt ∧ b1.toInt ≤ 400) ∧ (pt.toInt ≤ b1.toInt ∧ b1.toInt ≤ p1.toInt ∧ p1.toInt ≤ en.toInt)) (fun (u : Int32 × Int32) (t : State) => match u with | (p1, b1) => gH (dC, dI) kA (SHm q (wP wZ wN wH wB wC wL wK wU wV) PI im PM PT lS lB lE lN) G t.heap ∧ gF (dC, dI) SKm G ([(0, 12), (0, 14)] : List (Nat × Nat)) s.heap t.heap ∧ el t.heap o0 (dI 15 12) = some (.int p1) ∧ el t.heap o0 (dI 15 14) = some (.int b1)) A) #[.ref o0] s 0 0 A) (F0 m 4 ls []) := by
    intro n54
    induction n54 with
    | zero =>
      intro z33 hv54 ⟨h34, hj37⟩ H locs hT hF hS m32 m35 m36 ls hl
      exfalso; omega
    | succ n54 ih54 =>
      intro z33 hv54 ⟨h34, hj37⟩ H locs hT hF hS m32 m35 m36 ls hl
      refine lv_aload_n hx hb dX12_word_4 rfl (lv_at hl 0 rfl) ?_
      refine lv_bipush (v := 97) hx hb dX12_word_5 (by decide) ?_
      refine lv_bipush (v := 122) hx hb dX12_word_7 (by decide) ?_
      have hFc := gA_free hG hA hS
      refine va_calli (va_runV (As := [.int 97, .int 122]) (rest := []) ⟨hx, hb, hml, hown, hts⟩ (s_isAt l dC dI kA adK adV G H q wZ wN wH wB wC wL wK wU wV PI im PM PT lS lB lE lN o0 97 122 z33 en hT hr_o0 m35 m32 (by have q8 := ti_all z33; omega) (by have q8 := ti_all en; omega) hgz hgn hgh hgb hgc hgi hgu) (cwV 2 hts (goodIn_app (goodIn_r _ [6, 7, 8, 9] rfl (by decide +kernel)) (goodIn_ca (goodIn_r _ [2, 3, 4, 5] rfl (by decide +kernel)) (bs_in _ _))) rfl rfl rfl (by decide +kernel) ⟨(Nat.le_of_ble_eq_true rfl), (Nat.le_of_ble_eq_true rfl)⟩) ⟨fun a U g mk q => by obtain ⟨q0, q1, qK, qE⟩ := q; exact ⟨q0, q1, va_K.moved (u := U) (U := U.calling g mk a) (Vm.Alike.refl U.vm) qK, EVS.blind g mk a qE⟩, gH_rc hK hT hr_o0 shm_0 rfl, fun U hU hW => ⟨rfl, hU, va_K.moved hW.alike hK, hE.call hS hFc hU hW⟩⟩ rfl rfl hl.1 rfl (lv_room (Nat.le_of_ble_eq_true rfl)) dX12_word_9 ⟨(Nat.le_of_ble_eq_true rfl), (Nat.le_of_ble_eq_true rfl)⟩) hS (fun q _ h => hFc q h) hFc (fun r55 u t H locs ht hvm hw56 hB _ _ hS => ?_)
      obtain ⟨hT, hF1⟩ := hB
      rw [ht] at hT hF1
      have m57 := (hF1.fld hr_o0 skm_0 (k := 13) (by decide) (by decide)).trans m32
      have m58 := (hF1.fld hr_o0 skm_0 (k := 12) (by decide) (by decide)).trans m35
      have m59 := (hF1.fld hr_o0 skm_0 (k := 14) (by decide) (by decide)).trans m36
      have hF := hF.more hF1 (by decide)
      try dsimp only at hw56
      obtain ⟨h60, hi61⟩ := hw56
      refine lv_if_eq (tgt := 28) hx hb dX12_word_12 (by decide) (fun c62 => ?_) (fun c62 => ?_)
      · have t63 : r55.toInt = 0 := ti_eq c62 rfl (by decide)
        exact W.vret hx hb hr (fun t ht hW => ⟨⟨(z33, u4), rfl, (by exact ⟨(by have q8 := ti_all z33; omega), (by have q8 := ti_all u4; omega), (by omega)⟩), by (try dsimp only); rw [ht]; exact ⟨hT, hF, m58, m59⟩⟩, hS.F ht⟩) hS.2.2 dX12_word_28
      · have t64 : r55.toInt ≠ 0 := ti_ne c62 rfl (by decide)
        have t65 : z33.toInt < en.toInt := hi61 ((bit_of ⟨by omega, by omega⟩).resolve_left c62)
        refine lv_aload_n hx hb dX12_word_15 rfl (lv_at hl 0 rfl) ?_
        refine lv_dup hx hb dX12_word_16 rfl ?_
        refine tw_getM (v := .int z33) hx hb hts bF_X12 hown hK hT hr_o0 shm_0 rfl 12 (by decide) (ht_at hts 2 rfl) (fun _ h9 => h9) m58 dX12_word_17 ?_
        refine lv_iconst (v := 1) hx hb dX12_word_20 (by decide) ?_
        refine lv_iadd hx hb dX12_word_21 ?_
        refine lv_topi (fun x66 ex66 => ?_)
        have t67 : x66.toInt = z33.toInt + 1 := ti_add ex66 rfl (by decide) (by omega) (by omega)
        refine tw_put (v := .int x66) (ty := .int) hx hb hts bF_X12 tyX12 tyX12_ok nmX12 hown hK hT hG hS hr_o0 shm_0 rfl 12 (by decide) (ht_at hts 2 rfl) (fun _ h9 => h9) rfl (by decide +kernel) rfl rfl (gl_at rfl (gi_of (show x66.toInt = x66.toInt from rfl) (by omega) (by omega))) dX12_word_22 (fun H locs hT oq m68 oj hS => ?_)
        have hF := hF.put hr_o0 skm_0 oq oj (by decide)
        have m69 := (oj 13 (by decide) (by decide)).trans m57
        have m70 := (oj 14 (by decide) (by decide)).trans m59
        refine lv_goto (tgt := 4) hx hb dX12_word_25 (by decide) ?_
        exact ih54 x66 (by have q9 := (show x66.toInt = x66.toInt from rfl); omega) ⟨(by have q8 := ti_all x66; omega), (by have := (show x66.toInt = x66.toInt from rfl); have := (show u4.toInt = u4.toInt from rfl); omega)⟩ _ _ hT hF hS m69 m68 m70 ls (lv_sub hl [0] rfl)
  exact key54 401 u3 (by have q9 := (show u3.toInt = u3.toInt from rfl); omega) ⟨(by have q8 := ti_all u3; omega), (by have := (show u3.toInt = u3.toInt from rfl); have := (show u4.toInt = u4.toInt from rfl); omega)⟩ _ _ hT hF hS m8 m5 m6 ls (lv_sub hl [0] rfl)
def w_s_isWord : List Cond := .code yX12_isWord cX12_isWord 4 (some .boolean) :: (HAppend.hAppend (α := List Cond) (β := List Cond) (γ := List Cond) [.fieldLink RX12 335 "SeaLandModel" "point" "I", .fieldLink RX12 345 "SeaLandModel" "begin" "I", .code yJ0_length_8abf5 cJ0_length_8abf5 1 (some .int), .fieldLink RJ0 9 "java/lang/String" "value" "[B", .code yJ0_coder_7d493 cJ0_coder_7d493 1 (some .byte), .fieldLink RJ0 38 "java/lang/String" "COMPACT_STRINGS" "Z", .fieldLink RJ0 15 "java/lang/String" "coder" "B", .methodLink RJ0 335 yJ0_coder_7d493, .instanceMethod yJ0_coder_7d493, .selects RJ0 yJ0_coder_7d493 yJ0_coder_7d493, .initialized RJ0, .methodLink RX12 351 yJ0_length_8abf5, .instanceMethod yJ0_length_8abf5, .selects RJ0 yJ0_length_8abf5 yJ0_length_8abf5, .fieldLink RX12 31 "SeaLandModel" "tape" "[B", .code yJ0_charAt_5068e cJ0_charAt_5068e 2 (some .char), .code yJ0_isLatin1_aae02 cJ0_isLatin1_aae02 1 (some .boolean), .methodLink RJ0 492 yJ0_isLatin1_aae02, .instanceMethod yJ0_isLatin1_aae02, .selects RJ0 yJ0_isLatin1_aae02 yJ0_isLatin1_aae02, .code yJ1_charAt_3b067 cJ1_charAt_3b067 2 (some .char), .code yJ0_checkIndex_df160 cJ0_checkIndex_df160 2 none, .fieldLink RJ0 1053 "jdk/internal/util/Preconditions" "SIOOBE_FORMATTER" "Ljava/util/function/BiFunction;", .code yJ3_checkIndex_8e157 cJ3_checkIndex_8e157 3 (some .int), .methodLink RJ0 1059 yJ3_checkIndex_8e157, .static yJ3_checkIndex_8e157, .initialized RJ3, .methodLink RJ1 9 yJ0_checkIndex_df160, .static yJ0_checkIndex_df160, .methodLink RJ0 495 yJ1_charAt_3b067, .static yJ1_charAt_3b067, .initialized RJ1, .methodLink RX12 356 yJ0_charAt_5068e, .instanceMethod yJ0_charAt_5068e, .selects RJ0 yJ0_charAt_5068e yJ0_charAt_5068e] bs)
set_option maxHeartbeats 4000000 in
set_option maxRecDepth 100000 in
theorem s_isWord (l : Launch) (dC : Nat → ClassId) (dI : Nat → Nat → Nat) (kA : Nat → ClassId) (adK adV : Nat → Nat) (G : gT) (H0 : Heap) (q : Nat → Nat) (wZ wN : Nat → Int) (wH wB wC : Int) (wL wK : Nat → Prop) (wU wV : Nat → Nat) (PI : Nat → Int → Prop) (im : Int) (PM PT : Nat → Int → Prop) (lS lB lE : Nat → Nat → Int → Prop) (lN : Nat → Int) (o0 : Nat) (pt : Int32) (bg : Int32) (sk : Nat) (hT : gH (dC, dI) kA (SHm q (wP wZ wN wH wB wC wL wK wU wV) PI im PM PT lS lB lE lN) G H0) (hr_o0 : G o0 = some 0) (hm_pt : el H0 o0 (dI 15 12) = some (.int pt)) (hm_bg : el H0 o0 (dI 15 14) = some (.int bg)) (hq0 : 0 ≤ pt.toInt ∧ pt.toInt ≤ 400) (hq1 : 0 ≤ bg.toInt ∧ bg.toInt ≤ 400) (hbp : bg.toInt ≤ pt.toInt) (hsk : sk < 48) (hgz : ∀ i, 0 ≤ wZ i) (hgn : ∀ i, 6500000 ≤ wN i ∧ wN i ≤ 20200000) (hgh : 0 ≤ wH ∧ wH ≤ 40000) (hgb : 0 ≤ wB ∧ wB ≤ 3850000) (hgc : 0 ≤ wC ∧ wC ≤ 30) (hgi : 0 ≤ im ∧ im ≤ 1) (hgu : ∀ a t, G a = some (t + 1) → a = q t) : Met l yX12_isWord w_s_isWord ({ frames := 4, cells := 0, slots := 0, locals := 85 }) (va_Pc [.ref o0, .ref (adK sk)] (fun U => U.heap = H0 ∧ va_K (dC, dI) vwCl (tyl kA) U ∧ EVS adK adV (gA G H0.size) U U.heap)) (va_Qi (fun (r : Int32) (u : Unit) => (0 ≤ r.toInt ∧ r.toInt ≤ 1) ∧ (r = 1 → pt.toInt - bg.toInt = ((sLn sk : Nat) : Int))) (fun (_ : Unit) (t : State) => gH (dC, dI) kA (SHm q (wP wZ wN wH wB wC wL wK wU wV) PI im PM PT lS lB lE lN) G t.heap ∧ gF (dC, dI) SKm G ([] : List (Nat × Nat)) H0 t.heap) (gA G H0.size)) 0 0 (gA G H0.size) := by
  refine Met.ofW (cc := cX12_isWord) (maxL := 4) (ret := (some .boolean)) (by decide) rfl ?_
  intro p e s m args below meth c s₁ B hml hv
  obtain ⟨rfl, hH0, hK, hE⟩ := hv
  have hx := B.exec
  have hb := B.bytes
  have hr := B.returns
  have hts := atoms_spec (ws := w_s_isWord) B.pre
  have hown : s.vm.findClass RX12 = some m.cls := findClass_of_methodNamed B.named
  have hlocks := B.notSynchronized
  subst hH0
  generalize hAe : gA G s.heap.size = A at hE ⊢
  have hA : ∀ q : Nat, s.heap.size ≤ q → A q := fun q h => by rw [← hAe]; exact Or.inr h
  have hG := gA_of hAe
  have hS : va_S A s.heap s.heap [] := va_S.rf
  have hF : gF (dC, dI) SKm G ([] : List (Nat × Nat)) s.heap s.heap := gF.rf
  have hl := lv_entry ([.ref o0, .ref (adK sk)]) (n := 4) (Nat.le_of_ble_eq_true rfl)
  rw [lg_entry_eq]
  generalize (lg_sl ([.ref o0, .ref (adK sk)]) ++ List.replicate (4 - (lg_sl ([.ref o0, .ref (adK sk)])).length) Slot.unset).toArray = ls at hl ⊢
  have hl : lv_has ls 4 [(0, .ref o0), (1, .ref (adK sk))] := hl
  refine lv_aload_n hx hb dX12_isWord_0 rfl (lv_at hl 0 rfl) ?_
  refine tw_getM (v := .int pt) hx hb hts bF_X12 hown hK hT hr_o0 shm_0 rfl 12 (by decide) (ht_at hts 0 rfl) (fun _ h9 => h9) hm_pt dX12_isWord_1 ?_
  refine lv_aload_n hx hb dX12_isWord_4 rfl (lv_at hl 0 rfl) ?_
  refine tw_getM (v := .int bg) hx hb hts bF_X12 hown hK hT hr_o0 shm_0 rfl 14 (by decide) (ht_at hts 1 rfl) (fun _ h9 => h9) hm_bg dX12_isWord_5 ?_
  refine lv_isub hx hb dX12_isWord_8 ?_
  refine lv_topi (fun x1 ex1 => ?_)
  have t2 : x1.toInt = pt.toInt - bg.toInt := ti_sub ex1 rfl rfl (by omega) (by omega)
  refine lv_aload_n hx hb dX12_isWord_9 rfl (lv_at hl 1 rfl) ?_
  have hFc := gA_free hG hA hS
  refine va_calli (va_runV (As := []) (rest := [.int x1]) ⟨hx, hb, hml, hown, hts⟩ (j_length l dC dI kA adK adV G s.heap q wZ wN wH wB wC wL wK wU wV PI im PM PT lS lB lE lN sk hT hsk hgz hgn hgh hgb hgc hgi hgu) (cwV 0 hts (goodIn_app (goodIn_r _ [12, 13, 14, 11] rfl (by decide +kernel)) (goodIn_ca (goodIn_r _ [3, 4, 5, 6, 7, 8, 9, 10, 11] rfl (by decide +kernel)) (bs_in _ _))) rfl rfl rfl (by decide +kernel) ⟨(Nat.le_of_ble_eq_true rfl), (Nat.le_of_ble_eq_true rfl)⟩) ⟨fun a U g mk q => by obtain ⟨q0, q1, qK, qE⟩ := q; exact ⟨q0, q1, va_K.moved (u := U) (U := U.calling g mk a) (Vm.Alike.refl U.vm) qK, EVS.blind g mk a qE⟩, hE.recv (i := sk) hsk hS, fun U hU hW => ⟨rfl, hU, va_K.moved hW.alike hK, hE.call hS hFc hU hW⟩⟩ rfl rfl hl.1 rfl (lv_room (Nat.le_of_ble_eq_true rfl)) dX12_isWord_10 ⟨(Nat.le_of_ble_eq_true rfl), (Nat.le_of_ble_eq_true rfl)⟩) hS (fun q _ h => hFc q h) hFc (fun r3 u t H locs ht hvm hw4 hB _ _ hS => ?_)
  obtain ⟨hT, hF1⟩ := hB
  rw [ht] at hT hF1
  have m5 := (hF1.fld hr_o0 skm_0 (k := 12) (by decide) (by decide)).trans hm_pt
  have m6 := (hF1.fld hr_o0 skm_0 (k := 14) (by decide) (by decide)).trans hm_bg
  have hF := hF.more hF1 (by decide)
  try dsimp only at hw4
  obtain ⟨h7, hf8⟩ := hw4
  refine lv_icmp_ne (tgt := 20) hx hb dX12_isWord_13 (by decide) (fun c9 => ?_) (fun c9 => ?_)
  · have t10 : x1.toInt ≠ r3.toInt := ti_ne c9 rfl rfl
    refine lv_iconst (v := 0) hx hb dX12_isWord_20 (by decide) ?_
    refine lv_istore_n (lv' := [(2, .int 0), (0, .ref o0), (1, .ref (adK sk))]) hx hb dX12_isWord_21 rfl hl (by decide) rfl (fun ls hl => ?_)
    refine lv_iconst (v := 0) hx hb dX12_isWord_22 (by decide) ?_
    refine lv_istore_n (lv' := [(3, .int 0), (2, .int 0), (0, .ref o0), (1, .ref (adK sk))]) hx hb dX12_isWord_23 rfl hl (by decide) rfl (fun ls hl => ?_)
    have key16 : ∀ (n16 i11 : Nat), i11 + n16 = 6 → 0 ≤ i11 → ((((0 : Int32).toInt = 0 ∨ pt.toInt - bg.toInt = ((sLn sk : Nat) : Int)))) → ∀ (H : Heap) (locs : List Loc), gH (dC, dI) kA (SHm q (wP wZ wN wH wB wC wL wK wU wV) PI im PM PT lS lB lE lN) G H → gF (dC, dI) SKm G ([] : List (Nat × Nat)) s.heap H → va_S A s.heap H locs → el H o0 (dI 15 12) = some (.int pt) → el H o0 (dI 15 14) = some (.int bg) → ∀ ls : Array Slot, lv_has ls 4 [(3, .int (nI i11)), (2, .int 0), (0, .ref o0), (1, .ref (adK sk))] → W p l e (headSpec w_s_isWord ({ frames := 4, cells := 0, slots := 0, locals := 85 })).room s m #[.ref o0, .ref (adK sk)] below meth c H locs 0 0 (MQ below (va_Qi (fun (r : Int32) (u : Unit) => (0 ≤ r.toInt ∧ r.toInt ≤ 1) ∧ (r = 1 → pt.toInt - bg.toInt = ((sLn sk : Nat) : Int))) (fun (_ : Unit) (t : State) => gH (dC, dI) kA (SHm q (wP wZ wN wH wB wC wL wK wU wV) PI im PM PT lS lB lE lN) G t.heap ∧ gF (dC, dI) SKm G ([] : List (Nat × Nat)) s.heap t.heap) A) #[.ref o0, .ref (adK sk)] s 0 0 A) (F0 m 24 ls []) := by
      intro n16
      induction n16 with
      | zero =>
        intro i11 hn16 hlo17 hj14 H locs hT hF hS m12 m13 ls hl
        obtain rfl : 6 = i11 := by omega
        refine lv_iload_n hx hb dX12_isWord_24 rfl (lv_at hl 1 rfl) ?_
        refine lv_if_eq (tgt := 67) hx hb dX12_isWord_25 (by decide) (fun c18 => ?_) (fun c18 => absurd c18 (by decide))
        refine lv_iload_n hx hb dX12_isWord_67 rfl (lv_at hl 1 rfl) ?_
        exact W.zret (v := 0) hx hb hr (by decide) (fun t ht hW => ⟨⟨0, (), rfl, (by exact ⟨(rg_t (a := 0) (by decide) (by first | decide | omega) (by first | decide | omega)), (fun h => absurd h (by decide))⟩), by (try dsimp only); rw [ht]; exact ⟨hT, hF⟩⟩, hS.F ht⟩) hS.2.2 dX12_isWord_68
      | succ n16 ih16 =>
        intro i11 hn16 hlo17 hj14 H locs hT hF hS m12 m13 ls hl
        have hlt18 : i11 < 6 := by omega
        refine lv_iload_n hx hb dX12_isWord_24 rfl (lv_at hl 1 rfl) ?_
        refine lv_if_eq (tgt := 67) hx hb dX12_isWord_25 (by decide) (fun c19 => ?_) (fun c19 => absurd c19 (by decide))
        refine lv_iload_n hx hb dX12_isWord_67 rfl (lv_at hl 1 rfl) ?_
        exact W.zret (v := 0) hx hb hr (by decide) (fun t ht hW => ⟨⟨0, (), rfl, (by exact ⟨(rg_t (a := 0) (by decide) (by first | decide | omega) (by first | decide | omega)), (fun h => absurd h (by decide))⟩), by (try dsimp only); rw [ht]; exact ⟨hT, hF⟩⟩, hS.F ht⟩) hS.2.2 dX12_isWord_68
    exact key16 (6 - 0) 0 (by omega) (Nat.le_refl _) (by have := (show (0 : Int32).toInt = 0 from (by decide)); omega) _ _ hT hF hS m5 m6 ls (lv_sub hl [0, 1, 2, 3] rfl)
  · have t20 : x1.toInt = r3.toInt := ti_eq c9 rfl rfl
    refine lv_iconst (v := 1) hx hb dX12_isWord_16 (by decide) ?_
    refine lv_goto (tgt := 21) hx hb dX12_isWord_17 (by decide) ?_
    refine lv_istore_n (lv' := [(2, .int 1), (0, .ref o0), (1, .ref (adK sk))]) hx hb dX12_isWord_21 rfl hl (by decide) rfl (fun ls hl => ?_)
    refine lv_iconst (v := 0) hx hb dX12_isWord_22 (by decide) ?_
    refine lv_istore_n (lv' := [(3, .int 0), (2, .int 1), (0, .ref o0), (1, .ref (adK sk))]) hx hb dX12_isWord_23 rfl hl (by decide) rfl (fun ls hl => ?_)
    have key80 : ∀ (n80 i21 : Nat), i21 + n80 = 6 → 0 ≤ i21 → ∀ (z49 : Int32), ((0 ≤ z49.toInt ∧ z49.toInt ≤ 1) ∧ ((z49.toInt = 0 ∨ pt.toInt - bg.toInt = ((sLn sk : Nat) : Int)))) → ∀ (H : Heap) (locs : List Loc), gH (dC, dI) kA (SHm q (wP wZ wN wH wB wC wL wK wU wV) PI im PM PT lS lB lE lN) G H → gF (dC, dI) SKm G ([] : List (Nat × Nat)) s.heap H → va_S A s.heap H locs → el H o0 (dI 15 12) = some (.int pt) → el H o0 (dI 15 14) = some (.int bg) → ∀ ls : Array Slot, lv_has ls 4 [(3, .int (nI i21)), (2, .int z49), (0, .ref o0), (1, .ref (adK sk))] → W p l e (headSpec w_s_isWord ({ frames := 4, cells := 0, slots := 0, locals := 85 })).room s m #[.ref o0, .ref (adK sk)] below meth c H locs 0 0 (MQ below (va_Qi (fun (r : Int32) (u : Unit) => (0 ≤ r.toInt ∧ r.toInt ≤ 1) ∧ (r = 1 → pt.toInt - bg.toInt = ((sLn sk : Nat) : Int))) (fun (_ : Unit) (t : State) => gH (dC, dI) kA (SHm q (wP wZ wN wH wB wC wL wK wU wV) PI im PM PT lS lB lE lN) G t.heap ∧ gF (dC, dI) SKm G ([] : List (Nat × Nat)) s.heap t.heap) A) #[.ref o0, .ref (adK sk)] s 0 0 A) (F0 m 24 ls []) := by
      intro n80
      induction n80 with
      | zero =>
        intro i21 hn80 hlo81 z49 ⟨h50, hj53⟩ H locs hT hF hS m51 m52 ls hl
        obtain rfl : 6 = i21 := by omega
        refine lv_iload_n hx hb dX12_isWord_24 rfl (lv_at hl 1 rfl) ?_
        refine lv_if_eq (tgt := 67) hx hb dX12_isWord_25 (by decide) (fun c82 => ?_) (fun c82 => ?_)
        · have t83 : z49.toInt = 0 := ti_eq c82 rfl (by decide)
          refine lv_iload_n hx hb dX12_isWord_67 rfl (lv_at hl 1 rfl) ?_
          exact W.zret (v := z49) hx hb hr (nar_b (by have q8 := ti_all z49; omega)) (fun t ht hW => ⟨⟨z49, (), rfl, (by exact ⟨(by have q8 := ti_all z49; omega), (fun h9 => by have q8 := congrArg Int32.toInt h9; have q7 : (1 : Int32).toInt = 1 := (by decide); omega)⟩), by (try dsimp only); rw [ht]; exact ⟨hT, hF⟩⟩, hS.F ht⟩) hS.2.2 dX12_isWord_68
        · have t84 : z49.toInt ≠ 0 := ti_ne c82 rfl (by decide)
          refine lv_iload_n hx hb dX12_isWord_28 rfl (lv_at hl 0 rfl) ?_
          refine lv_aload_n hx hb dX12_isWord_29 rfl (lv_at hl 3 rfl) ?_
          have hFc := gA_free hG hA hS
          refine va_calli (va_runV (As := []) (rest := [.int (nI 6)]) ⟨hx, hb, hml, hown, hts⟩ (j_length l dC dI kA adK adV G H q wZ wN wH wB wC wL wK wU wV PI im PM PT lS lB lE lN sk hT hsk hgz hgn hgh hgb hgc hgi hgu) (cwV 0 hts (goodIn_app (goodIn_r _ [12, 13, 14, 11] rfl (by decide +kernel)) (goodIn_ca (goodIn_r _ [3, 4, 5, 6, 7, 8, 9, 10, 11] rfl (by decide +kernel)) (bs_in _ _))) rfl rfl rfl (by decide +kernel) ⟨(Nat.le_of_ble_eq_true rfl), (Nat.le_of_ble_eq_true rfl)⟩) ⟨fun a U g mk q => by obtain ⟨q0, q1, qK, qE⟩ := q; exact ⟨q0, q1, va_K.moved (u := U) (U := U.calling g mk a) (Vm.Alike.refl U.vm) qK, EVS.blind g mk a qE⟩, hE.recv (i := sk) hsk hS, fun U hU hW => ⟨rfl, hU, va_K.moved hW.alike hK, hE.call hS hFc hU hW⟩⟩ rfl rfl hl.1 rfl (lv_room (Nat.le_of_ble_eq_true rfl)) dX12_isWord_30 ⟨(Nat.le_of_ble_eq_true rfl), (Nat.le_of_ble_eq_true rfl)⟩) hS (fun q _ h => hFc q h) hFc (fun r85 u t H locs ht hvm hw86 hB _ _ hS => ?_)
          obtain ⟨hT, hF1⟩ := hB
          rw [ht] at hT hF1
          have hF := hF.more hF1 (by decide)
          try dsimp only at hw86
          obtain ⟨h89, hf90⟩ := hw86
          refine lv_icmp_ge (tgt := 67) hx hb dX12_isWord_33 (by decide) (fun c91 => ?_) (fun c91 => (by exfalso; have q9 : ((6 : Nat) : Int) < r85.toInt := ti_nle c91 rfl (nI_toInt (by omega)); omega))
          have t92 : r85.toInt ≤ ((6 : Nat) : Int) := ti_le c91 rfl (nI_toInt (by omega))
          refine lv_iload_n hx hb dX12_isWord_67 rfl (lv_at hl 1 rfl) ?_
          exact W.zret (v := z49) hx hb hr (nar_b (by have q8 := ti_all z49; omega)) (fun t ht hW => ⟨⟨z49, (), rfl, (by exact ⟨(by have q8 := ti_all z49; omega), (fun h9 => by have q8 := congrArg Int32.toInt h9; have q7 : (1 : Int32).toInt = 1 := (by decide); omega)⟩), by (try dsimp only); rw [ht]; exact ⟨hT, hF⟩⟩, hS.F ht⟩) hS.2.2 dX12_isWord_68
      | succ n80 ih80 =>
        intro i21 hn80 hlo81 z49 ⟨h50, hj53⟩ H locs hT hF hS m51 m52 ls hl
        have hlt92 : i21 < 6 := by omega
        refine lv_iload_n hx hb dX12_isWord_24 rfl (lv_at hl 1 rfl) ?_
        refine lv_if_eq (tgt := 67) hx hb dX12_isWord_25 (by decide) (fun c93 => ?_) (fun c93 => ?_)
        · have t94 : z49.toInt = 0 := ti_eq c93 rfl (by decide)
          refine lv_iload_n hx hb dX12_isWord_67 rfl (lv_at hl 1 rfl) ?_
          exact W.zret (v := z49) hx hb hr (nar_b (by have q8 := ti_all z49; omega)) (fun t ht hW => ⟨⟨z49, (), rfl, (by exact ⟨(by have q8 := ti_all z49; omega), (fun h9 => by have q8 := congrArg Int32.toInt h9; have q7 : (1 : Int32).toInt = 1 := (by decide); omega)⟩), by (try dsimp only); rw [ht]; exact ⟨hT, hF⟩⟩, hS.F ht⟩) hS.2.2 dX12_isWord_68
        · have t95 : z49.toInt ≠ 0 := ti_ne c93 rfl (by decide)
          refine lv_iload_n hx hb dX12_isWord_28 rfl (lv_at hl 0 rfl) ?_
          refine lv_aload_n hx hb dX12_isWord_29 rfl (lv_at hl 3 rfl) ?_
          have hFc := gA_free hG hA hS
          refine va_calli (va_runV (As := []) (rest := [.int (nI i21)]) ⟨hx, hb, hml, hown, hts⟩ (j_length l dC dI kA adK adV G H q wZ wN wH wB wC wL wK wU wV PI im PM PT lS lB lE lN sk hT hsk hgz hgn hgh hgb hgc hgi hgu) (cwV 0 hts (goodIn_app (goodIn_r _ [12, 13, 14, 11] rfl (by decide +kernel)) (goodIn_ca (goodIn_r _ [3, 4, 5, 6, 7, 8, 9, 10, 11] rfl (by decide +kernel)) (bs_in _ _))) rfl rfl rfl (by decide +kernel) ⟨(Nat.le_of_ble_eq_true rfl), (Nat.le_of_ble_eq_true rfl)⟩) ⟨fun a U g mk q => by obtain ⟨q0, q1, qK, qE⟩ := q; exact ⟨q0, q1, va_K.moved (u := U) (U := U.calling g mk a) (Vm.Alike.refl U.vm) qK, EVS.blind g mk a qE⟩, hE.recv (i := sk) hsk hS, fun U hU hW => ⟨rfl, hU, va_K.moved hW.alike hK, hE.call hS hFc hU hW⟩⟩ rfl rfl hl.1 rfl (lv_room (Nat.le_of_ble_eq_true rfl)) dX12_isWord_30 ⟨(Nat.le_of_ble_eq_true rfl), (Nat.le_of_ble_eq_true rfl)⟩) hS (fun q _ h => hFc q h) hFc (fun r96 u t H locs ht hvm hw97 hB _ _ hS => ?_)
          obtain ⟨hT, hF1⟩ := hB
          rw [ht] at hT hF1
          have m98 := (hF1.fld hr_o0 skm_0 (k := 12) (by decide) (by decide)).trans m51
          have m99 := (hF1.fld hr_o0 skm_0 (k := 14) (by decide) (by decide)).trans m52
          have hF := hF.more hF1 (by decide)
          try dsimp only at hw97
          obtain ⟨h100, hf101⟩ := hw97
          refine lv_icmp_ge (tgt := 67) hx hb dX12_isWord_33 (by decide) (fun c102 => ?_) (fun c102 => ?_)
          · have t103 : r96.toInt ≤ ((i21 : Nat) : Int) := ti_le c102 rfl (nI_toInt (by omega))
            refine lv_iload_n hx hb dX12_isWord_67 rfl (lv_at hl 1 rfl) ?_
            exact W.zret (v := z49) hx hb hr (nar_b (by have q8 := ti_all z49; omega)) (fun t ht hW => ⟨⟨z49, (), rfl, (by exact ⟨(by have q8 := ti_all z49; omega), (fun h9 => by have q8 := congrArg Int32.toInt h9; have q7 : (1 : Int32).toInt = 1 := (by decide); omega)⟩), by (try dsimp only); rw [ht]; exact ⟨hT, hF⟩⟩, hS.F ht⟩) hS.2.2 dX12_isWord_68
          · have t104 : ((i21 : Nat) : Int) < r96.toInt := ti_nle c102 rfl (nI_toInt (by omega))
            refine lv_aload_n hx hb dX12_isWord_36 rfl (lv_at hl 2 rfl) ?_
            refine tw_get hx hb hts bF_X12 hown hK hT hr_o0 shm_0 rfl 10 (by decide) (ht_at hts 14 rfl) (fun _ h9 => h9) dX12_isWord_37 (fun v9 m105 h9 => ?_)
            obtain ⟨rfl, hg106⟩ := h9 _ rfl
            refine lv_aload_n hx hb dX12_isWord_40 rfl (lv_at hl 2 rfl) ?_
            refine tw_getM (v := .int bg) hx hb hts bF_X12 hown hK hT hr_o0 shm_0 rfl 14 (by decide) (ht_at hts 1 rfl) (fun _ h9 => h9) m99 dX12_isWord_41 ?_
            refine lv_iload_n hx hb dX12_isWord_44 rfl (lv_at hl 0 rfl) ?_
            refine lv_iadd hx hb dX12_isWord_45 ?_
            refine lv_topi (fun x107 ex107 => ?_)
            have t108 : x107.toInt = bg.toInt + ((i21 : Nat) : Int) := ti_add ex107 rfl (nI_toInt (by omega)) (by omega) (by omega)
            refine tw_bald (i := x107) hx hb hK hT hg106 shm_11 rfl (vin_t (a := x107.toInt) rfl (by omega) (by omega)) dX12_isWord_46 (fun v9 m109 h9 => ?_)
            obtain ⟨x110, rfl, gx110, kx110⟩ := h9
            refine lv_aload_n hx hb dX12_isWord_47 rfl (lv_at hl 3 rfl) ?_
            refine lv_iload_n hx hb dX12_isWord_48 rfl (lv_at hl 0 rfl) ?_
            have hFc := gA_free hG hA hS
            refine va_calli (va_runV (As := [.int (nI i21)]) (rest := [.int x110]) ⟨hx, hb, hml, hown, hts⟩ (j_charAt l dC dI kA adK adV G H q wZ wN wH wB wC wL wK wU wV PI im PM PT lS lB lE lN (nI i21) sk hT (rg_t (a := ((i21 : Nat) : Int)) (nI_toInt (by omega)) (by omega) (by omega)) (by have := (show (nI i21).toInt = ((i21 : Nat) : Int) from (nI_toInt (by omega))); omega) hsk hgz hgn hgh hgb hgc hgi hgu) (cwV 1 hts (goodIn_app (goodIn_r _ [33, 34, 35, 11] rfl (by decide +kernel)) (goodIn_ca (goodIn_r _ [16, 17, 6, 7, 18, 19, 20, 11, 4, 21, 22, 23, 24, 25, 26, 27, 28, 29, 30, 31, 32] rfl (by decide +kernel)) (bs_in _ _))) rfl rfl rfl (by decide +kernel) ⟨(Nat.le_of_ble_eq_true rfl), (Nat.le_of_ble_eq_true rfl)⟩) ⟨fun a U g mk q => by obtain ⟨q0, q1, qK, qE⟩ := q; exact ⟨q0, q1, va_K.moved (u := U) (U := U.calling g mk a) (Vm.Alike.refl U.vm) qK, EVS.blind g mk a qE⟩, hE.recv (i := sk) hsk hS, fun U hU hW => ⟨rfl, hU, va_K.moved hW.alike hK, hE.call hS hFc hU hW⟩⟩ rfl rfl hl.1 rfl (lv_room (Nat.le_of_ble_eq_true rfl)) dX12_isWord_49 ⟨(Nat.le_of_ble_eq_true rfl), (Nat.le_of_ble_eq_true rfl)⟩) hS (fun q _ h => hFc q h) hFc (fun r111 u t H locs ht hvm hw112 hB _ _ hS => ?_)
            obtain ⟨hT, hF1⟩ := hB
            rw [ht] at hT hF1
            have m113 := (hF1.fld hr_o0 skm_0 (k := 12) (by decide) (by decide)).trans m98
            have m114 := (hF1.fld hr_o0 skm_0 (k := 14) (by decide) (by decide)).trans m99
            have hF := hF.more hF1 (by decide)
            try dsimp only at hw112
            refine lv_icmp_ne (tgt := 59) hx hb dX12_isWord_52 (by decide) (fun c116 => ?_) (fun c116 => ?_)
            · have t117 : x110.toInt ≠ r111.toInt := ti_ne c116 rfl rfl
              refine lv_iconst (v := 0) hx hb dX12_isWord_59 (by decide) ?_
              refine lv_istore_n (lv' := [(2, .int 0), (3, .int (nI i21)), (0, .ref o0), (1, .ref (adK sk))]) hx hb dX12_isWord_60 rfl hl (by decide) rfl (fun ls hl => ?_)
              refine lv_iinc (v := nI (i21 + 1)) (lv' := [(3, .int (nI (i21 + 1))), (2, .int 0), (0, .ref o0), (1, .ref (adK sk))]) hx hb dX12_isWord_61 hl (k := 1) rfl (nI_add i21 1) (by decide) rfl (fun ls hl => ?_)
              refine lv_goto (tgt := 24) hx hb dX12_isWord_64 (by decide) ?_
              exact ih80 (i21 + 1) (by omega) (by omega) 0 ⟨(rg_t (a := 0) (by decide) (by first | decide | omega) (by first | decide | omega)), (by have := (show (0 : Int32).toInt = 0 from (by decide)); omega)⟩ _ _ hT hF hS m113 m114 ls (lv_sub hl [0, 1, 2, 3] rfl)
            · have t118 : x110.toInt = r111.toInt := ti_eq c116 rfl rfl
              refine lv_iconst (v := 1) hx hb dX12_isWord_55 (by decide) ?_
              refine lv_goto (tgt := 60) hx hb dX12_isWord_56 (by decide) ?_
              refine lv_istore_n (lv' := [(2, .int 1), (3, .int (nI i21)), (0, .ref o0), (1, .ref (adK sk))]) hx hb dX12_isWord_60 rfl hl (by decide) rfl (fun ls hl => ?_)
              refine lv_iinc (v := nI (i21 + 1)) (lv' := [(3, .int (nI (i21 + 1))), (2, .int 1), (0, .ref o0), (1, .ref (adK sk))]) hx hb dX12_isWord_61 hl (k := 1) rfl (nI_add i21 1) (by decide) rfl (fun ls hl => ?_)
              refine lv_goto (tgt := 24) hx hb dX12_isWord_64 (by decide) ?_
              exact ih80 (i21 + 1) (by omega) (by omega) 1 ⟨(rg_t (a := 1) (by decide) (by first | decide | omega) (by first | decide | omega)), (by have := (show (1 : Int32).toInt = 1 from (by decide)); omega)⟩ _ _ hT hF hS m113 m114 ls (lv_sub hl [0, 1, 2, 3] rfl)
    exact key80 (6 - 0) 0 (by omega) (Nat.le_refl _) 1 ⟨(rg_t (a := 1) (by decide) (by first | decide | omega) (by first | decide | omega)), (by have := (show (1 : Int32).toInt = 1 from (by decide)); omega)⟩ _ _ hT hF hS m5 m6 ls (lv_sub hl [0, 1, 2, 3] rfl)
def w_s_passes : List Cond := .code yX12_passes cX12_passes 2 (some .boolean) :: (HAppend.hAppend (α := List Cond) (β := List Cond) (γ := List Cond) [.code yX12_word cX12_word 1 none, .code yX12_blanks cX12_blanks 1 none, .code yX12_isAt cX12_isAt 3 (some .boolean), .fieldLink RX12 335 "SeaLandModel" "point" "I", .fieldLink RX12 338 "SeaLandModel" "end" "I", .fieldLink RX12 31 "SeaLandModel" "tape" "[B", .methodLink RX12 341 yX12_isAt, .instanceMethod yX12_isAt, .selects RX12 yX12_isAt yX12_isAt, .initialized RX12, .fieldLink RX12 345 "SeaLandModel" "begin" "I", .methodLink RX12 348 yX12_blanks, .instanceMethod yX12_blanks, .selects RX12 yX12_blanks yX12_blanks, .methodLink RX12 360 yX12_word, .instanceMethod yX12_word, .selects RX12 yX12_word yX12_word, .code yX12_isWord cX12_isWord 4 (some .boolean), .code yJ0_length_8abf5 cJ0_length_8abf5 1 (some .int), .fieldLink RJ0 9 "java/lang/String" "value" "[B", .code yJ0_coder_7d493 cJ0_coder_7d493 1 (some .byte), .fieldLink RJ0 38 "java/lang/String" "COMPACT_STRINGS" "Z", .fieldLink RJ0 15 "java/lang/String" "coder" "B", .methodLink RJ0 335 yJ0_coder_7d493, .instanceMethod yJ0_coder_7d493, .selects RJ0 yJ0_coder_7d493 yJ0_coder_7d493, .initialized RJ0, .methodLink RX12 351 yJ0_length_8abf5, .instanceMethod yJ0_length_8abf5, .selects RJ0 yJ0_length_8abf5 yJ0_length_8abf5, .code yJ0_charAt_5068e cJ0_charAt_5068e 2 (some .char), .code yJ0_isLatin1_aae02 cJ0_isLatin1_aae02 1 (some .boolean), .methodLink RJ0 492 yJ0_isLatin1_aae02, .instanceMethod yJ0_isLatin1_aae02, .selects RJ0 yJ0_isLatin1_aae02 yJ0_isLatin1_aae02, .code yJ1_charAt_3b067 cJ1_charAt_3b067 2 (some .char), .code yJ0_checkIndex_df160 cJ0_checkIndex_df160 2 none, .fieldLink RJ0 1053 "jdk/internal/util/Preconditions" "SIOOBE_FORMATTER" "Ljava/util/function/BiFunction;", .code yJ3_checkIndex_8e157 cJ3_checkIndex_8e157 3 (some .int), .methodLink RJ0 1059 yJ3_checkIndex_8e157, .static yJ3_checkIndex_8e157, .initialized RJ3, .methodLink RJ1 9 yJ0_checkIndex_df160, .static yJ0_checkIndex_df160, .methodLink RJ0 495 yJ1_charAt_3b067, .static yJ1_charAt_3b067, .initialized RJ1, .methodLink RX12 356 yJ0_charAt_5068e, .instanceMethod yJ0_charAt_5068e, .selects RJ0 yJ0_charAt_5068e yJ0_charAt_5068e, .methodLink RX12 363 yX12_isWord, .instanceMethod yX12_isWord, .selects RX12 yX12_isWord yX12_isWord] bs)
set_option maxHeartbeats 4000000 in
set_option maxRecDepth 100000 in
theorem s_passes (l : Launch) (dC : Nat → ClassId) (dI : Nat → Nat → Nat) (kA : Nat → ClassId) (adK adV : Nat → Nat) (G : gT) (H0 : Heap) (q : Nat → Nat) (wZ wN : Nat → Int) (wH wB wC : Int) (wL wK : Nat → Prop) (wU wV : Nat → Nat) (PI : Nat → Int → Prop) (im : Int) (PM PT : Nat → Int → Prop) (lS lB lE : Nat → Nat → Int → Prop) (lN : Nat → Int) (o0 : Nat) (pt : Int32) (en : Int32) (sk : Nat) (hT : gH (dC, dI) kA (SHm q (wP wZ wN wH wB wC wL wK wU wV) PI im PM PT lS lB lE lN) G H0) (hr_o0 : G o0 = some 0) (hm_pt : el H0 o0 (dI 15 12) = some (.int pt)) (hm_en : el H0 o0 (dI 15 13) = some (.int en)) (hq0 : 0 ≤ pt.toInt ∧ pt.toInt ≤ 400) (hq1 : 0 ≤ en.toInt ∧ en.toInt ≤ 400) (hpe : pt.toInt ≤ en.toInt) (hsk : sk < 48) (hgz : ∀ i, 0 ≤ wZ i) (hgn : ∀ i, 6500000 ≤ wN i ∧ wN i ≤ 20200000) (hgh : 0 ≤ wH ∧ wH ≤ 40000) (hgb : 0 ≤ wB ∧ wB ≤ 3850000) (hgc : 0 ≤ wC ∧ wC ≤ 30) (hgi : 0 ≤ im ∧ im ≤ 1) (hgu : ∀ a t, G a = some (t + 1) → a = q t) : Met l yX12_passes w_s_passes ({ frames := 5, cells := 0, slots := 0, locals := 108 }) (va_Pc [.ref o0, .ref (adK sk)] (fun U => U.heap = H0 ∧ va_K (dC, dI) vwCl (tyl kA) U ∧ EVS adK adV (gA G H0.size) U U.heap)) (va_Qi (fun (r : Int32) (u : Int32 × Int32) => match u with | (p1, b1) => (0 ≤ p1.toInt ∧ p1.toInt ≤ 400) ∧ (0 ≤ b1.toInt ∧ b1.toInt ≤ 400) ∧ (0 ≤ r.toInt ∧ r.toInt ≤ 1) ∧ (r = 1 → pt.toInt + 1 ≤ p1.toInt) ∧ (pt.toInt ≤ p1.toInt ∧ p1.toInt ≤ en.toInt)) (fun (u : Int32 × Int32) (t : State) => match u with | (p1, b1) => gH (dC, dI) kA (SHm q (wP wZ wN wH wB wC wL wK wU wV) PI im PM PT lS lB lE lN) G t.heap ∧ gF (dC, dI) SKm G ([(0, 12), (0, 14)] : List (Nat × Nat)) H0 t.heap ∧ el t.heap o0 (dI 15 12) = some (.int p1) ∧ el t.heap o0 (dI 15 14) = some (.int b1)) (gA G H0.size)) 0 0 (gA G H0.size) := by
  refine Met.ofW (cc := cX12_passes) (maxL := 2) (ret := (some .boolean)) (by decide) rfl ?_
  intro p e s m args below meth c s₁ B hml hv
  obtain ⟨rfl, hH0, hK, hE⟩ := hv
  have hx := B.exec
  have hb := B.bytes
  have hr := B.returns
  have hts := atoms_spec (ws := w_s_passes) B.pre
  have hown : s.vm.findClass RX12 = some m.cls := findClass_of_methodNamed B.named
  have hlocks := B.notSynchronized
  subst hH0
  generalize hAe : gA G s.heap.size = A at hE ⊢
  have hA : ∀ q : Nat, s.heap.size ≤ q → A q := fun q h => by rw [← hAe]; exact Or.inr h
  have hG := gA_of hAe
  have hS : va_S A s.heap s.heap [] := va_S.rf
  have hF : gF (dC, dI) SKm G ([(0, 12), (0, 14)] : List (Nat × Nat)) s.heap s.heap := gF.rf
  have hl := lv_entry ([.ref o0, .ref (adK sk)]) (n := 2) (Nat.le_of_ble_eq_true rfl)
  rw [lg_entry_eq]
  generalize (lg_sl ([.ref o0, .ref (adK sk)]) ++ List.replicate (2 - (lg_sl ([.ref o0, .ref (adK sk)])).length) Slot.unset).toArray = ls at hl ⊢
  have hl : lv_has ls 2 [(0, .ref o0), (1, .ref (adK sk))] := hl
  have t1 : 2 ≤ sLn sk ∧ sLn sk ≤ 6 := sLn_b hsk
  refine lv_aload_n hx hb dX12_passes_0 rfl (lv_at hl 0 rfl) ?_
  have hFc := gA_free hG hA hS
  refine va_callv (va_runV (As := []) (rest := []) ⟨hx, hb, hml, hown, hts⟩ (s_word l dC dI kA adK adV G s.heap q wZ wN wH wB wC wL wK wU wV PI im PM PT lS lB lE lN o0 pt en hT hr_o0 hm_pt hm_en (by have q8 := ti_all pt; omega) (by have q8 := ti_all en; omega) (by have := (show pt.toInt = pt.toInt from rfl); have := (show en.toInt = en.toInt from rfl); omega) hgz hgn hgh hgb hgc hgi hgu) (cwV 0 hts (goodIn_app (goodIn_r _ [15, 16, 17, 10] rfl (by decide +kernel)) (goodIn_ca (goodIn_r _ [1, 2, 3, 4, 5, 6, 7, 8, 9, 10, 11, 12, 13, 14] rfl (by decide +kernel)) (bs_in _ _))) rfl rfl rfl (by decide +kernel) ⟨(Nat.le_of_ble_eq_true rfl), (Nat.le_of_ble_eq_true rfl)⟩) ⟨fun a U g mk q => by obtain ⟨q0, q1, qK, qE⟩ := q; exact ⟨q0, q1, va_K.moved (u := U) (U := U.calling g mk a) (Vm.Alike.refl U.vm) qK, EVS.blind g mk a qE⟩, gH_rc hK hT hr_o0 shm_0 rfl, fun U hU hW => ⟨rfl, hU, va_K.moved hW.alike hK, hE.call hS hFc hU hW⟩⟩ rfl rfl hl.1 rfl (lv_room (Nat.le_of_ble_eq_true rfl)) dX12_passes_1 ⟨(Nat.le_of_ble_eq_true rfl), (Nat.le_of_ble_eq_true rfl)⟩) hS (fun q _ h => hFc q h) hFc (fun u t H locs ht hvm hw3 hB _ _ hS => ?_)
  obtain ⟨u4, u5⟩ := u
  obtain ⟨hT, hF1, m6, m7⟩ := hB
  rw [ht] at hT hF1 m6 m7
  have hF := hF.more hF1 (by decide)
  try dsimp only at hw3
  obtain ⟨h10, h11, hf12⟩ := hw3
  refine lv_aload_n hx hb dX12_passes_4 rfl (lv_at hl 0 rfl) ?_
  refine lv_aload_n hx hb dX12_passes_5 rfl (lv_at hl 1 rfl) ?_
  have hFc := gA_free hG hA hS
  refine va_calli (va_runV (As := [.ref (adK sk)]) (rest := []) ⟨hx, hb, hml, hown, hts⟩ (s_isWord l dC dI kA adK adV G H q wZ wN wH wB wC wL wK wU wV PI im PM PT lS lB lE lN o0 u4 u5 sk hT hr_o0 m6 m7 (by have q8 := ti_all u4; omega) (by have q8 := ti_all u5; omega) (by have := (show u4.toInt = u4.toInt from rfl); have := (show u5.toInt = u5.toInt from rfl); omega) hsk hgz hgn hgh hgb hgc hgi hgu) (cwV 1 hts (goodIn_app (goodIn_r _ [51, 52, 53, 10] rfl (by decide +kernel)) (goodIn_ca (goodIn_r _ [18, 4, 11, 19, 20, 21, 22, 23, 24, 25, 26, 27, 28, 29, 30, 6, 31, 32, 33, 34, 35, 36, 37, 38, 39, 40, 41, 42, 43, 44, 45, 46, 47, 48, 49, 50] rfl (by decide +kernel)) (bs_in _ _))) rfl rfl rfl (by decide +kernel) ⟨(Nat.le_of_ble_eq_true rfl), (Nat.le_of_ble_eq_true rfl)⟩) ⟨fun a U g mk q => by obtain ⟨q0, q1, qK, qE⟩ := q; exact ⟨q0, q1, va_K.moved (u := U) (U := U.calling g mk a) (Vm.Alike.refl U.vm) qK, EVS.blind g mk a qE⟩, gH_rc hK hT hr_o0 shm_0 rfl, fun U hU hW => ⟨rfl, hU, va_K.moved hW.alike hK, hE.call hS hFc hU hW⟩⟩ rfl rfl hl.1 rfl (lv_room (Nat.le_of_ble_eq_true rfl)) dX12_passes_6 ⟨(Nat.le_of_ble_eq_true rfl), (Nat.le_of_ble_eq_true rfl)⟩) hS (fun q _ h => hFc q h) hFc (fun r13 u t H locs ht hvm hw14 hB _ _ hS => ?_)
  obtain ⟨hT, hF1⟩ := hB
  rw [ht] at hT hF1
  have m16 := (hF1.fld hr_o0 skm_0 (k := 12) (by decide) (by decide)).trans m6
  have m17 := (hF1.fld hr_o0 skm_0 (k := 14) (by decide) (by decide)).trans m7
  have hF := hF.more hF1 (by decide)
  try dsimp only at hw14
  obtain ⟨h18, hi19⟩ := hw14
  refine lv_if_eq (tgt := 14) hx hb dX12_passes_9 (by decide) (fun c20 => ?_) (fun c20 => ?_)
  · have t21 : r13.toInt = 0 := ti_eq c20 rfl (by decide)
    refine lv_aload_n hx hb dX12_passes_14 rfl (lv_at hl 0 rfl) ?_
    refine lv_aload_n hx hb dX12_passes_15 rfl (lv_at hl 0 rfl) ?_
    refine tw_getM (v := .int u5) hx hb hts bF_X12 hown hK hT hr_o0 shm_0 rfl 14 (by decide) (ht_at hts 10 rfl) (fun _ h9 => h9) m17 dX12_passes_16 ?_
    refine tw_put (v := .int u5) (ty := .int) hx hb hts bF_X12 tyX12 tyX12_ok nmX12 hown hK hT hG hS hr_o0 shm_0 rfl 12 (by decide) (ht_at hts 3 rfl) (fun _ h9 => h9) rfl (by decide +kernel) rfl rfl (gl_at rfl (gi_of (show u5.toInt = u5.toInt from rfl) (by omega) (by omega))) dX12_passes_19 (fun H locs hT oq m22 oj hS => ?_)
    have hF := hF.put hr_o0 skm_0 oq oj (by decide)
    have m24 := (oj 14 (by decide) (by decide)).trans m17
    refine lv_iconst (v := 0) hx hb dX12_passes_22 (by decide) ?_
    exact W.zret (v := 0) hx hb hr (by decide) (fun t ht hW => ⟨⟨0, (u5, u5), rfl, (by exact ⟨(by have q8 := ti_all u5; omega), (by have q8 := ti_all u5; omega), (rg_t (a := 0) (by decide) (by first | decide | omega) (by first | decide | omega)), (fun h => absurd h (by decide)), (by omega)⟩), by (try dsimp only); rw [ht]; exact ⟨hT, hF, m22, m24⟩⟩, hS.F ht⟩) hS.2.2 dX12_passes_23
  · have t25 : r13.toInt ≠ 0 := ti_ne c20 rfl (by decide)
    have t26 : u4.toInt - u5.toInt = ((sLn sk : Nat) : Int) := hi19 ((bit_of ⟨by omega, by omega⟩).resolve_left c20)
    refine lv_iconst (v := 1) hx hb dX12_passes_12 (by decide) ?_
    exact W.zret (v := 1) hx hb hr (by decide) (fun t ht hW => ⟨⟨1, (u4, u5), rfl, (by exact ⟨(by have q8 := ti_all u4; omega), (by have q8 := ti_all u5; omega), (rg_t (a := 1) (by decide) (by first | decide | omega) (by first | decide | omega)), (fun _ => by omega), (by omega)⟩), by (try dsimp only); rw [ht]; exact ⟨hT, hF, m16, m17⟩⟩, hS.F ht⟩) hS.2.2 dX12_passes_13
def w_s_sign : List Cond := .code yX12_sign cX12_sign 2 (some .boolean) :: (HAppend.hAppend (α := List Cond) (β := List Cond) (γ := List Cond) [.code yX12_blanks cX12_blanks 1 none, .code yX12_isAt cX12_isAt 3 (some .boolean), .fieldLink RX12 335 "SeaLandModel" "point" "I", .fieldLink RX12 338 "SeaLandModel" "end" "I", .fieldLink RX12 31 "SeaLandModel" "tape" "[B", .methodLink RX12 341 yX12_isAt, .instanceMethod yX12_isAt, .selects RX12 yX12_isAt yX12_isAt, .initialized RX12, .fieldLink RX12 345 "SeaLandModel" "begin" "I", .methodLink RX12 348 yX12_blanks, .instanceMethod yX12_blanks, .selects RX12 yX12_blanks yX12_blanks] bs)
set_option maxHeartbeats 4000000 in
set_option maxRecDepth 100000 in
theorem s_sign (l : Launch) (dC : Nat → ClassId) (dI : Nat → Nat → Nat) (kA : Nat → ClassId) (adK adV : Nat → Nat) (G : gT) (H0 : Heap) (q : Nat → Nat) (wZ wN : Nat → Int) (wH wB wC : Int) (wL wK : Nat → Prop) (wU wV : Nat → Nat) (PI : Nat → Int → Prop) (im : Int) (PM PT : Nat → Int → Prop) (lS lB lE : Nat → Nat → Int → Prop) (lN : Nat → Int) (o0 : Nat) (ch : Int32) (pt : Int32) (en : Int32)  (hT : gH (dC, dI) kA (SHm q (wP wZ wN wH wB wC wL wK wU wV) PI im PM PT lS lB lE lN) G H0) (hr_o0 : G o0 = some 0) (hm_pt : el H0 o0 (dI 15 12) = some (.int pt)) (hm_en : el H0 o0 (dI 15 13) = some (.int en)) (hq0 : 0 ≤ pt.toInt ∧ pt.toInt ≤ 400) (hq1 : 0 ≤ en.toInt ∧ en.toInt ≤ 400) (hpe : pt.toInt ≤ en.toInt) (hgz : ∀ i, 0 ≤ wZ i) (hgn : ∀ i, 6500000 ≤ wN i ∧ wN i ≤ 20200000) (hgh : 0 ≤ wH ∧ wH ≤ 40000) (hgb : 0 ≤ wB ∧ wB ≤ 3850000) (hgc : 0 ≤ wC ∧ wC ≤ 30) (hgi : 0 ≤ im ∧ im ≤ 1) (hgu : ∀ a t, G a = some (t + 1) → a = q t) : Met l yX12_sign w_s_sign ({ frames := 2, cells := 0, slots := 0, locals := 42 }) (va_Pc [.ref o0, .int ch] (fun U => U.heap = H0 ∧ va_K (dC, dI) vwCl (tyl kA) U ∧ EVS adK adV (gA G H0.size) U U.heap)) (va_Qi (fun (r : Int32) (u : Int32 × Int32) => match u with | (p1, b1) => (0 ≤ p1.toInt ∧ p1.toInt ≤ 400) ∧ (0 ≤ b1.toInt ∧ b1.toInt ≤ 400) ∧ (0 ≤ r.toInt ∧ r.toInt ≤ 1) ∧ (r = 1 → pt.toInt + 1 ≤ p1.toInt) ∧ (pt.toInt ≤ p1.toInt ∧ p1.toInt ≤ en.toInt)) (fun (u : Int32 × Int32) (t : State) => match u with | (p1, b1) => gH (dC, dI) kA (SHm q (wP wZ wN wH wB wC wL wK wU wV) PI im PM PT lS lB lE lN) G t.heap ∧ gF (dC, dI) SKm G ([(0, 12), (0, 14)] : List (Nat × Nat)) H0 t.heap ∧ el t.heap o0 (dI 15 12) = some (.int p1) ∧ el t.heap o0 (dI 15 14) = some (.int b1)) (gA G H0.size)) 0 0 (gA G H0.size) := by
  refine Met.ofW (cc := cX12_sign) (maxL := 2) (ret := (some .boolean)) (by decide) rfl ?_
  intro p e s m args below meth c s₁ B hml hv
  obtain ⟨rfl, hH0, hK, hE⟩ := hv
  have hx := B.exec
  have hb := B.bytes
  have hr := B.returns
  have hts := atoms_spec (ws := w_s_sign) B.pre
  have hown : s.vm.findClass RX12 = some m.cls := findClass_of_methodNamed B.named
  have hlocks := B.notSynchronized
  subst hH0
  generalize hAe : gA G s.heap.size = A at hE ⊢
  have hA : ∀ q : Nat, s.heap.size ≤ q → A q := fun q h => by rw [← hAe]; exact Or.inr h
  have hG := gA_of hAe
  have hS : va_S A s.heap s.heap [] := va_S.rf
  have hF : gF (dC, dI) SKm G ([(0, 12), (0, 14)] : List (Nat × Nat)) s.heap s.heap := gF.rf
  have hl := lv_entry ([.ref o0, .int ch]) (n := 2) (Nat.le_of_ble_eq_true rfl)
  rw [lg_entry_eq]
  generalize (lg_sl ([.ref o0, .int ch]) ++ List.replicate (2 - (lg_sl ([.ref o0, .int ch])).length) Slot.unset).toArray = ls at hl ⊢
  have hl : lv_has ls 2 [(0, .ref o0), (1, .int ch)] := hl
  refine lv_aload_n hx hb dX12_sign_0 rfl (lv_at hl 0 rfl) ?_
  have hFc := gA_free hG hA hS
  refine va_callv (va_runV (As := []) (rest := []) ⟨hx, hb, hml, hown, hts⟩ (s_blanks l dC dI kA adK adV G s.heap q wZ wN wH wB wC wL wK wU wV PI im PM PT lS lB lE lN o0 pt en hT hr_o0 hm_pt hm_en (by have q8 := ti_all pt; omega) (by have q8 := ti_all en; omega) (by have := (show pt.toInt = pt.toInt from rfl); have := (show en.toInt = en.toInt from rfl); omega) hgz hgn hgh hgb hgc hgi hgu) (cwV 0 hts (goodIn_app (goodIn_r _ [11, 12, 13, 9] rfl (by decide +kernel)) (goodIn_ca (goodIn_r _ [1, 2, 3, 4, 5, 6, 7, 8, 9, 10] rfl (by decide +kernel)) (bs_in _ _))) rfl rfl rfl (by decide +kernel) ⟨(Nat.le_of_ble_eq_true rfl), (Nat.le_of_ble_eq_true rfl)⟩) ⟨fun a U g mk q => by obtain ⟨q0, q1, qK, qE⟩ := q; exact ⟨q0, q1, va_K.moved (u := U) (U := U.calling g mk a) (Vm.Alike.refl U.vm) qK, EVS.blind g mk a qE⟩, gH_rc hK hT hr_o0 shm_0 rfl, fun U hU hW => ⟨rfl, hU, va_K.moved hW.alike hK, hE.call hS hFc hU hW⟩⟩ rfl rfl hl.1 rfl (lv_room (Nat.le_of_ble_eq_true rfl)) dX12_sign_1 ⟨(Nat.le_of_ble_eq_true rfl), (Nat.le_of_ble_eq_true rfl)⟩) hS (fun q _ h => hFc q h) hFc (fun u t H locs ht hvm hw2 hB _ _ hS => ?_)
  obtain ⟨u3, u4⟩ := u
  obtain ⟨hT, hF1, m5, m6⟩ := hB
  rw [ht] at hT hF1 m5 m6
  have m8 := (hF1.fld hr_o0 skm_0 (k := 13) (by decide) (by decide)).trans hm_en
  have hF := hF.more hF1 (by decide)
  try dsimp only at hw2
  obtain ⟨h9, h10, hf11⟩ := hw2
  refine lv_aload_n hx hb dX12_sign_4 rfl (lv_at hl 0 rfl) ?_
  refine lv_iload_n hx hb dX12_sign_5 rfl (lv_at hl 1 rfl) ?_
  refine lv_iload_n hx hb dX12_sign_6 rfl (lv_at hl 1 rfl) ?_
  have hFc := gA_free hG hA hS
  refine va_calli (va_runV (As := [.int ch, .int ch]) (rest := []) ⟨hx, hb, hml, hown, hts⟩ (s_isAt l dC dI kA adK adV G H q wZ wN wH wB wC wL wK wU wV PI im PM PT lS lB lE lN o0 ch ch u3 en hT hr_o0 m5 m8 (by have q8 := ti_all u3; omega) (by have q8 := ti_all en; omega) hgz hgn hgh hgb hgc hgi hgu) (cwV 2 hts (goodIn_app (goodIn_r _ [6, 7, 8, 9] rfl (by decide +kernel)) (goodIn_ca (goodIn_r _ [2, 3, 4, 5] rfl (by decide +kernel)) (bs_in _ _))) rfl rfl rfl (by decide +kernel) ⟨(Nat.le_of_ble_eq_true rfl), (Nat.le_of_ble_eq_true rfl)⟩) ⟨fun a U g mk q => by obtain ⟨q0, q1, qK, qE⟩ := q; exact ⟨q0, q1, va_K.moved (u := U) (U := U.calling g mk a) (Vm.Alike.refl U.vm) qK, EVS.blind g mk a qE⟩, gH_rc hK hT hr_o0 shm_0 rfl, fun U hU hW => ⟨rfl, hU, va_K.moved hW.alike hK, hE.call hS hFc hU hW⟩⟩ rfl rfl hl.1 rfl (lv_room (Nat.le_of_ble_eq_true rfl)) dX12_sign_7 ⟨(Nat.le_of_ble_eq_true rfl), (Nat.le_of_ble_eq_true rfl)⟩) hS (fun q _ h => hFc q h) hFc (fun r12 u t H locs ht hvm hw13 hB _ _ hS => ?_)
  obtain ⟨hT, hF1⟩ := hB
  rw [ht] at hT hF1
  have m15 := (hF1.fld hr_o0 skm_0 (k := 12) (by decide) (by decide)).trans m5
  have m16 := (hF1.fld hr_o0 skm_0 (k := 14) (by decide) (by decide)).trans m6
  have hF := hF.more hF1 (by decide)
  try dsimp only at hw13
  obtain ⟨h17, hi18⟩ := hw13
  refine lv_if_ne (tgt := 15) hx hb dX12_sign_10 (by decide) (fun c19 => ?_) (fun c19 => ?_)
  · have t20 : r12.toInt ≠ 0 := ti_ne c19 rfl (by decide)
    have t21 : u3.toInt < en.toInt := hi18 ((bit_of ⟨by omega, by omega⟩).resolve_left c19)
    refine lv_aload_n hx hb dX12_sign_15 rfl (lv_at hl 0 rfl) ?_
    refine lv_dup hx hb dX12_sign_16 rfl ?_
    refine tw_getM (v := .int u3) hx hb hts bF_X12 hown hK hT hr_o0 shm_0 rfl 12 (by decide) (ht_at hts 2 rfl) (fun _ h9 => h9) m15 dX12_sign_17 ?_
    refine lv_iconst (v := 1) hx hb dX12_sign_20 (by decide) ?_
    refine lv_iadd hx hb dX12_sign_21 ?_
    refine lv_topi (fun x22 ex22 => ?_)
    have t23 : x22.toInt = u3.toInt + 1 := ti_add ex22 rfl (by decide) (by omega) (by omega)
    refine tw_put (v := .int x22) (ty := .int) hx hb hts bF_X12 tyX12 tyX12_ok nmX12 hown hK hT hG hS hr_o0 shm_0 rfl 12 (by decide) (ht_at hts 2 rfl) (fun _ h9 => h9) rfl (by decide +kernel) rfl rfl (gl_at rfl (gi_of (show x22.toInt = x22.toInt from rfl) (by omega) (by omega))) dX12_sign_22 (fun H locs hT oq m24 oj hS => ?_)
    have hF := hF.put hr_o0 skm_0 oq oj (by decide)
    have m26 := (oj 14 (by decide) (by decide)).trans m16
    refine lv_iconst (v := 1) hx hb dX12_sign_25 (by decide) ?_
    exact W.zret (v := 1) hx hb hr (by decide) (fun t ht hW => ⟨⟨1, (x22, u4), rfl, (by exact ⟨(by have q8 := ti_all x22; omega), (by have q8 := ti_all u4; omega), (rg_t (a := 1) (by decide) (by first | decide | omega) (by first | decide | omega)), (fun _ => by omega), (by omega)⟩), by (try dsimp only); rw [ht]; exact ⟨hT, hF, m24, m26⟩⟩, hS.F ht⟩) hS.2.2 dX12_sign_26
  · have t27 : r12.toInt = 0 := ti_eq c19 rfl (by decide)
    refine lv_iconst (v := 0) hx hb dX12_sign_13 (by decide) ?_
    exact W.zret (v := 0) hx hb hr (by decide) (fun t ht hW => ⟨⟨0, (u3, u4), rfl, (by exact ⟨(by have q8 := ti_all u3; omega), (by have q8 := ti_all u4; omega), (rg_t (a := 0) (by decide) (by first | decide | omega) (by first | decide | omega)), (fun h => absurd h (by decide)), (by omega)⟩), by (try dsimp only); rw [ht]; exact ⟨hT, hF, m15, m16⟩⟩, hS.F ht⟩) hS.2.2 dX12_sign_14
def w_s_number : List Cond := .code yX12_number cX12_number 3 (some .int) :: (HAppend.hAppend (α := List Cond) (β := List Cond) (γ := List Cond) [.code yX12_blanks cX12_blanks 1 none, .code yX12_isAt cX12_isAt 3 (some .boolean), .fieldLink RX12 335 "SeaLandModel" "point" "I", .fieldLink RX12 338 "SeaLandModel" "end" "I", .fieldLink RX12 31 "SeaLandModel" "tape" "[B", .methodLink RX12 341 yX12_isAt, .instanceMethod yX12_isAt, .selects RX12 yX12_isAt yX12_isAt, .initialized RX12, .fieldLink RX12 345 "SeaLandModel" "begin" "I", .methodLink RX12 348 yX12_blanks, .instanceMethod yX12_blanks, .selects RX12 yX12_blanks yX12_blanks] bs)
set_option maxHeartbeats 4000000 in
set_option maxRecDepth 100000 in
theorem s_number (l : Launch) (dC : Nat → ClassId) (dI : Nat → Nat → Nat) (kA : Nat → ClassId) (adK adV : Nat → Nat) (G : gT) (H0 : Heap) (q : Nat → Nat) (wZ wN : Nat → Int) (wH wB wC : Int) (wL wK : Nat → Prop) (wU wV : Nat → Nat) (PI : Nat → Int → Prop) (im : Int) (PM PT : Nat → Int → Prop) (lS lB lE : Nat → Nat → Int → Prop) (lN : Nat → Int) (o0 : Nat) (hg : Int32) (pt : Int32) (en : Int32)  (hT : gH (dC, dI) kA (SHm q (wP wZ wN wH wB wC wL wK wU wV) PI im PM PT lS lB lE lN) G H0) (hr_o0 : G o0 = some 0) (hm_pt : el H0 o0 (dI 15 12) = some (.int pt)) (hm_en : el H0 o0 (dI 15 13) = some (.int en)) (hq0 : 0 ≤ pt.toInt ∧ pt.toInt ≤ 400) (hq1 : 0 ≤ en.toInt ∧ en.toInt ≤ 400) (hpe : pt.toInt ≤ en.toInt) (hgz : ∀ i, 0 ≤ wZ i) (hgn : ∀ i, 6500000 ≤ wN i ∧ wN i ≤ 20200000) (hgh : 0 ≤ wH ∧ wH ≤ 40000) (hgb : 0 ≤ wB ∧ wB ≤ 3850000) (hgc : 0 ≤ wC ∧ wC ≤ 30) (hgi : 0 ≤ im ∧ im ≤ 1) (hgu : ∀ a t, G a = some (t + 1) → a = q t) : Met l yX12_number w_s_number ({ frames := 2, cells := 0, slots := 0, locals := 42 }) (va_Pc [.ref o0, .int hg] (fun U => U.heap = H0 ∧ va_K (dC, dI) vwCl (tyl kA) U ∧ EVS adK adV (gA G H0.size) U U.heap)) (va_Qi (fun (r : Int32) (u : Int32 × Int32) => match u with | (p1, b1) => (0 ≤ p1.toInt ∧ p1.toInt ≤ 400) ∧ (0 ≤ b1.toInt ∧ b1.toInt ≤ 400) ∧ (pt.toInt ≤ p1.toInt ∧ p1.toInt ≤ en.toInt ∧ (0 ≤ r.toInt → pt.toInt + 1 ≤ p1.toInt))) (fun (u : Int32 × Int32) (t : State) => match u with | (p1, b1) => gH (dC, dI) kA (SHm q (wP wZ wN wH wB wC wL wK wU wV) PI im PM PT lS lB lE lN) G t.heap ∧ gF (dC, dI) SKm G ([(0, 12), (0, 14)] : List (Nat × Nat)) H0 t.heap ∧ el t.heap o0 (dI 15 12) = some (.int p1) ∧ el t.heap o0 (dI 15 14) = some (.int b1)) (gA G H0.size)) 0 0 (gA G H0.size) := by
  refine Met.ofW (cc := cX12_number) (maxL := 3) (ret := (some .int)) (by decide) rfl ?_
  intro p e s m args below meth c s₁ B hml hv
  obtain ⟨rfl, hH0, hK, hE⟩ := hv
  have hx := B.exec
  have hb := B.bytes
  have hr := B.returns
  have hts := atoms_spec (ws := w_s_number) B.pre
  have hown : s.vm.findClass RX12 = some m.cls := findClass_of_methodNamed B.named
  have hlocks := B.notSynchronized
  subst hH0
  generalize hAe : gA G s.heap.size = A at hE ⊢
  have hA : ∀ q : Nat, s.heap.size ≤ q → A q := fun q h => by rw [← hAe]; exact Or.inr h
  have hG := gA_of hAe
  have hS : va_S A s.heap s.heap [] := va_S.rf
  have hF : gF (dC, dI) SKm G ([(0, 12), (0, 14)] : List (Nat × Nat)) s.heap s.heap := gF.rf
  have hl := lv_entry ([.ref o0, .int hg]) (n := 3) (Nat.le_of_ble_eq_true rfl)
  rw [lg_entry_eq]
  generalize (lg_sl ([.ref o0, .int hg]) ++ List.replicate (3 - (lg_sl ([.ref o0, .int hg])).length) Slot.unset).toArray = ls at hl ⊢
  have hl : lv_has ls 3 [(0, .ref o0), (1, .int hg)] := hl
  refine lv_aload_n hx hb dX12_number_0 rfl (lv_at hl 0 rfl) ?_
  have hFc := gA_free hG hA hS
  refine va_callv (va_runV (As := []) (rest := []) ⟨hx, hb, hml, hown, hts⟩ (s_blanks l dC dI kA adK adV G s.heap q wZ wN wH wB wC wL wK wU wV PI im PM PT lS lB lE lN o0 pt en hT hr_o0 hm_pt hm_en (by have q8 := ti_all pt; omega) (by have q8 := ti_all en; omega) (by have := (show pt.toInt = pt.toInt from rfl); have := (show en.toInt = en.toInt from rfl); omega) hgz hgn hgh hgb hgc hgi hgu) (cwV 0 hts (goodIn_app (goodIn_r _ [11, 12, 13, 9] rfl (by decide +kernel)) (goodIn_ca (goodIn_r _ [1, 2, 3, 4, 5, 6, 7, 8, 9, 10] rfl (by decide +kernel)) (bs_in _ _))) rfl rfl rfl (by decide +kernel) ⟨(Nat.le_of_ble_eq_true rfl), (Nat.le_of_ble_eq_true rfl)⟩) ⟨fun a U g mk q => by obtain ⟨q0, q1, qK, qE⟩ := q; exact ⟨q0, q1, va_K.moved (u := U) (U := U.calling g mk a) (Vm.Alike.refl U.vm) qK, EVS.blind g mk a qE⟩, gH_rc hK hT hr_o0 shm_0 rfl, fun U hU hW => ⟨rfl, hU, va_K.moved hW.alike hK, hE.call hS hFc hU hW⟩⟩ rfl rfl hl.1 rfl (lv_room (Nat.le_of_ble_eq_true rfl)) dX12_number_1 ⟨(Nat.le_of_ble_eq_true rfl), (Nat.le_of_ble_eq_true rfl)⟩) hS (fun q _ h => hFc q h) hFc (fun u t H locs ht hvm hw2 hB _ _ hS => ?_)
  obtain ⟨u3, u4⟩ := u
  obtain ⟨hT, hF1, m5, m6⟩ := hB
  rw [ht] at hT hF1 m5 m6
  have m8 := (hF1.fld hr_o0 skm_0 (k := 13) (by decide) (by decide)).trans hm_en
  have hF := hF.more hF1 (by decide)
  try dsimp only at hw2
  obtain ⟨h9, h10, hf11⟩ := hw2
  refine lv_iconst (v := 0) hx hb dX12_number_4 (by decide) ?_
  refine lv_istore_n (lv' := [(2, .int 0), (0, .ref o0), (1, .int hg)]) hx hb dX12_number_5 rfl hl (by decide) rfl (fun ls hl => ?_)
  have key197 : ∀ (n197 : Nat), ∀ (z88 : Int32), ∀ (z90 : Int32), (400 - z90.toInt < ((n197 : Nat) : Int)) → ((0 ≤ z90.toInt ∧ z90.toInt ≤ 400) ∧ (u4.toInt ≤ z90.toInt ∧ z90.toInt ≤ en.toInt)) → ∀ (H : Heap) (locs : List Loc), gH (dC, dI) kA (SHm q (wP wZ wN wH wB wC wL wK wU wV) PI im PM PT lS lB lE lN) G H → gF (dC, dI) SKm G ([(0, 12), (0, 14)] : List (Nat × Nat)) s.heap H → va_S A s.heap H locs → el H o0 (dI 15 13) = some (.int en) → el H o0 (dI 15 12) = some (.int z90) → el H o0 (dI 15 14) = some (.int u4) → ∀ ls : Array Slot, lv_has ls 3 [(2, .int z88), (0, .ref o0), (1, .int hg)] → W p l e (headSpec w_s_number ({ frames := 2, cells := 0, slots := 0, locals := 42 })).room s m #[.ref o0, .int hg] below meth c H locs 0 0 (MQ below (va_Qi (fun (r : Int32) (u : Int32 × Int32) => match u with | (p1, b1) => (0 ≤ p1.toInt ∧ p1.toInt ≤ 400) ∧ (0 ≤ b1.toInt ∧ b1.toInt ≤ 400) ∧ (pt.toInt ≤ p1.toInt ∧ p1.toInt ≤ en.toInt ∧ (0 ≤ r.toInt → pt.toInt + 1 ≤ p1.toInt))) (fun (u : Int32 × Int32) (t : State) => match u with | (p1, b1) => gH (dC, dI) kA (SHm q (wP wZ wN wH wB wC wL wK wU wV) PI im PM PT lS lB lE lN) G t.heap ∧ gF (dC, dI) SKm G ([(0, 12), (0, 14)] : List (Nat × Nat)) s.heap t.heap ∧ el t.heap o0 (dI 15 12) = some (.int p1) ∧ el t.heap o0 (dI 15 14) = some (.int b1)) A) #[.ref o0, .int hg] s 0 0 A) (F0 m 6 ls []) := by
    intro n197
    induction n197 with
    | zero =>
      intro z88 z90 hv197 ⟨h91, hj94⟩ H locs hT hF hS m89 m92 m93 ls hl
      exfalso; omega
    | succ n197 ih197 =>
      intro z88 z90 hv197 ⟨h91, hj94⟩ H locs hT hF hS m89 m92 m93 ls hl
      refine lv_aload_n hx hb dX12_number_6 rfl (lv_at hl 1 rfl) ?_
      refine lv_bipush (v := 48) hx hb dX12_number_7 (by decide) ?_
      refine lv_bipush (v := 57) hx hb dX12_number_9 (by decide) ?_
      have hFc := gA_free hG hA hS
      refine va_calli (va_runV (As := [.int 48, .int 57]) (rest := []) ⟨hx, hb, hml, hown, hts⟩ (s_isAt l dC dI kA adK adV G H q wZ wN wH wB wC wL wK wU wV PI im PM PT lS lB lE lN o0 48 57 z90 en hT hr_o0 m92 m89 (by have q8 := ti_all z90; omega) (by have q8 := ti_all en; omega) hgz hgn hgh hgb hgc hgi hgu) (cwV 2 hts (goodIn_app (goodIn_r _ [6, 7, 8, 9] rfl (by decide +kernel)) (goodIn_ca (goodIn_r _ [2, 3, 4, 5] rfl (by decide +kernel)) (bs_in _ _))) rfl rfl rfl (by decide +kernel) ⟨(Nat.le_of_ble_eq_true rfl), (Nat.le_of_ble_eq_true rfl)⟩) ⟨fun a U g mk q => by obtain ⟨q0, q1, qK, qE⟩ := q; exact ⟨q0, q1, va_K.moved (u := U) (U := U.calling g mk a) (Vm.Alike.refl U.vm) qK, EVS.blind g mk a qE⟩, gH_rc hK hT hr_o0 shm_0 rfl, fun U hU hW => ⟨rfl, hU, va_K.moved hW.alike hK, hE.call hS hFc hU hW⟩⟩ rfl rfl hl.1 rfl (lv_room (Nat.le_of_ble_eq_true rfl)) dX12_number_11 ⟨(Nat.le_of_ble_eq_true rfl), (Nat.le_of_ble_eq_true rfl)⟩) hS (fun q _ h => hFc q h) hFc (fun r198 u t H locs ht hvm hw199 hB _ _ hS => ?_)
      obtain ⟨hT, hF1⟩ := hB
      rw [ht] at hT hF1
      have m200 := (hF1.fld hr_o0 skm_0 (k := 13) (by decide) (by decide)).trans m89
      have m201 := (hF1.fld hr_o0 skm_0 (k := 12) (by decide) (by decide)).trans m92
      have m202 := (hF1.fld hr_o0 skm_0 (k := 14) (by decide) (by decide)).trans m93
      have hF := hF.more hF1 (by decide)
      try dsimp only at hw199
      obtain ⟨h203, hi204⟩ := hw199
      refine lv_if_eq (tgt := 65) hx hb dX12_number_14 (by decide) (fun c228 => ?_) (fun c228 => ?_)
      · have t229 : r198.toInt = 0 := ti_eq c228 rfl (by decide)
        refine lv_aload_n hx hb dX12_number_65 rfl (lv_at hl 1 rfl) ?_
        refine tw_getM (v := .int z90) hx hb hts bF_X12 hown hK hT hr_o0 shm_0 rfl 12 (by decide) (ht_at hts 2 rfl) (fun _ h9 => h9) m201 dX12_number_66 ?_
        refine lv_aload_n hx hb dX12_number_69 rfl (lv_at hl 1 rfl) ?_
        refine tw_getM (v := .int u4) hx hb hts bF_X12 hown hK hT hr_o0 shm_0 rfl 14 (by decide) (ht_at hts 9 rfl) (fun _ h9 => h9) m202 dX12_number_70 ?_
        refine lv_icmp_eq (tgt := 94) hx hb dX12_number_73 (by decide) (fun c230 => ?_) (fun c230 => ?_)
        · have t231 : z90.toInt = u4.toInt := ti_eq c230 rfl rfl
          refine lv_iconst (v := (-1)) hx hb dX12_number_94 (by decide) ?_
          refine lv_goto (tgt := 99) hx hb dX12_number_95 (by decide) ?_
          exact W.iret (v := (-1)) hx hb hr (fun t ht hW => ⟨⟨(-1), (z90, u4), rfl, (by exact ⟨(by have q8 := ti_all z90; omega), (by have q8 := ti_all u4; omega), (by have : (-1 : Int32).toInt = (-1) := (by decide); omega)⟩), by (try dsimp only); rw [ht]; exact ⟨hT, hF, m201, m202⟩⟩, hS.F ht⟩) hS.2.2 dX12_number_99
        · have t232 : z90.toInt ≠ u4.toInt := ti_ne c230 rfl rfl
          refine lv_aload_n hx hb dX12_number_76 rfl (lv_at hl 1 rfl) ?_
          refine tw_getM (v := .int z90) hx hb hts bF_X12 hown hK hT hr_o0 shm_0 rfl 12 (by decide) (ht_at hts 2 rfl) (fun _ h9 => h9) m201 dX12_number_77 ?_
          refine lv_aload_n hx hb dX12_number_80 rfl (lv_at hl 1 rfl) ?_
          refine tw_getM (v := .int u4) hx hb hts bF_X12 hown hK hT hr_o0 shm_0 rfl 14 (by decide) (ht_at hts 9 rfl) (fun _ h9 => h9) m202 dX12_number_81 ?_
          refine lv_isub hx hb dX12_number_84 ?_
          refine lv_topi (fun x233 ex233 => ?_)
          have t234 : x233.toInt = z90.toInt - u4.toInt := ti_sub ex233 rfl rfl (by omega) (by omega)
          refine lv_iconst (v := 5) hx hb dX12_number_85 (by decide) ?_
          refine lv_icmp_gt (tgt := 94) hx hb dX12_number_86 (by decide) (fun c235 => ?_) (fun c235 => ?_)
          · have t236 : 5 < x233.toInt := ti_lt c235 (by decide) rfl
            refine lv_iconst (v := (-1)) hx hb dX12_number_94 (by decide) ?_
            refine lv_goto (tgt := 99) hx hb dX12_number_95 (by decide) ?_
            exact W.iret (v := (-1)) hx hb hr (fun t ht hW => ⟨⟨(-1), (z90, u4), rfl, (by exact ⟨(by have q8 := ti_all z90; omega), (by have q8 := ti_all u4; omega), (by have : (-1 : Int32).toInt = (-1) := (by decide); omega)⟩), by (try dsimp only); rw [ht]; exact ⟨hT, hF, m201, m202⟩⟩, hS.F ht⟩) hS.2.2 dX12_number_99
          · have t237 : x233.toInt ≤ 5 := ti_nlt c235 (by decide) rfl
            refine lv_iload_n hx hb dX12_number_89 rfl (lv_at hl 0 rfl) ?_
            refine lv_iload_n hx hb dX12_number_90 rfl (lv_at hl 2 rfl) ?_
            refine lv_icmp_le (tgt := 98) hx hb dX12_number_91 (by decide) (fun c238 => ?_) (fun c238 => ?_)
            · have t239 : z88.toInt ≤ hg.toInt := ti_le c238 rfl rfl
              refine lv_iload_n hx hb dX12_number_98 rfl (lv_at hl 0 rfl) ?_
              exact W.iret (v := z88) hx hb hr (fun t ht hW => ⟨⟨z88, (z90, u4), rfl, (by exact ⟨(by have q8 := ti_all z90; omega), (by have q8 := ti_all u4; omega), (by omega)⟩), by (try dsimp only); rw [ht]; exact ⟨hT, hF, m201, m202⟩⟩, hS.F ht⟩) hS.2.2 dX12_number_99
            · have t240 : hg.toInt < z88.toInt := ti_nle c238 rfl rfl
              refine lv_iconst (v := (-1)) hx hb dX12_number_94 (by decide) ?_
              refine lv_goto (tgt := 99) hx hb dX12_number_95 (by decide) ?_
              exact W.iret (v := (-1)) hx hb hr (fun t ht hW => ⟨⟨(-1), (z90, u4), rfl, (by exact ⟨(by have q8 := ti_all z90; omega), (by have q8 := ti_all u4; omega), (by have : (-1 : Int32).toInt = (-1) := (by decide); omega)⟩), by (try dsimp only); rw [ht]; exact ⟨hT, hF, m201, m202⟩⟩, hS.F ht⟩) hS.2.2 dX12_number_99
      · have t241 : r198.toInt ≠ 0 := ti_ne c228 rfl (by decide)
        have t242 : z90.toInt < en.toInt := hi204 ((bit_of ⟨by omega, by omega⟩).resolve_left c228)
        refine lv_aload_n hx hb dX12_number_17 rfl (lv_at hl 1 rfl) ?_
        refine tw_getM (v := .int z90) hx hb hts bF_X12 hown hK hT hr_o0 shm_0 rfl 12 (by decide) (ht_at hts 2 rfl) (fun _ h9 => h9) m201 dX12_number_18 ?_
        refine lv_aload_n hx hb dX12_number_21 rfl (lv_at hl 1 rfl) ?_
        refine tw_getM (v := .int u4) hx hb hts bF_X12 hown hK hT hr_o0 shm_0 rfl 14 (by decide) (ht_at hts 9 rfl) (fun _ h9 => h9) m202 dX12_number_22 ?_
        refine lv_isub hx hb dX12_number_25 ?_
        refine lv_topi (fun x243 ex243 => ?_)
        have t244 : x243.toInt = z90.toInt - u4.toInt := ti_sub ex243 rfl rfl (by omega) (by omega)
        refine lv_iconst (v := 5) hx hb dX12_number_26 (by decide) ?_
        refine lv_icmp_ge (tgt := 50) hx hb dX12_number_27 (by decide) (fun c245 => ?_) (fun c245 => ?_)
        · have t246 : 5 ≤ x243.toInt := ti_le c245 (by decide) rfl
          refine lv_iload_n hx hb dX12_number_50 rfl (lv_at hl 0 rfl) ?_
          refine lv_istore_n (lv' := [(2, .int z88), (0, .ref o0), (1, .int hg)]) hx hb dX12_number_51 rfl hl (by decide) rfl (fun ls hl => ?_)
          refine lv_aload_n hx hb dX12_number_52 rfl (lv_at hl 1 rfl) ?_
          refine lv_dup hx hb dX12_number_53 rfl ?_
          refine tw_getM (v := .int z90) hx hb hts bF_X12 hown hK hT hr_o0 shm_0 rfl 12 (by decide) (ht_at hts 2 rfl) (fun _ h9 => h9) m201 dX12_number_54 ?_
          refine lv_iconst (v := 1) hx hb dX12_number_57 (by decide) ?_
          refine lv_iadd hx hb dX12_number_58 ?_
          refine lv_topi (fun x247 ex247 => ?_)
          have t248 : x247.toInt = z90.toInt + 1 := ti_add ex247 rfl (by decide) (by omega) (by omega)
          refine tw_put (v := .int x247) (ty := .int) hx hb hts bF_X12 tyX12 tyX12_ok nmX12 hown hK hT hG hS hr_o0 shm_0 rfl 12 (by decide) (ht_at hts 2 rfl) (fun _ h9 => h9) rfl (by decide +kernel) rfl rfl (gl_at rfl (gi_of (show x247.toInt = x247.toInt from rfl) (by omega) (by omega))) dX12_number_59 (fun H locs hT oq m249 oj hS => ?_)
          have hF := hF.put hr_o0 skm_0 oq oj (by decide)
          have m250 := (oj 13 (by decide) (by decide)).trans m200
          have m251 := (oj 14 (by decide) (by decide)).trans m202
          refine lv_goto (tgt := 6) hx hb dX12_number_62 (by decide) ?_
          exact ih197 z88 x247 (by have q9 := (show x247.toInt = x247.toInt from rfl); omega) ⟨(by have q8 := ti_all x247; omega), (by have := (show x247.toInt = x247.toInt from rfl); have := (show u4.toInt = u4.toInt from rfl); omega)⟩ _ _ hT hF hS m250 m249 m251 ls (lv_sub hl [0, 1, 2] rfl)
        · have t252 : x243.toInt < 5 := ti_nle c245 (by decide) rfl
          refine lv_bipush (v := 10) hx hb dX12_number_30 (by decide) ?_
          refine lv_iload_n hx hb dX12_number_32 rfl (lv_at hl 0 rfl) ?_
          refine lv_imul hx hb dX12_number_33 ?_
          refine lv_topi (fun x253 ex253 => ?_)
          refine lv_aload_n hx hb dX12_number_34 rfl (lv_at hl 1 rfl) ?_
          refine tw_get hx hb hts bF_X12 hown hK hT hr_o0 shm_0 rfl 10 (by decide) (ht_at hts 4 rfl) (fun _ h9 => h9) dX12_number_35 (fun v9 m254 h9 => ?_)
          obtain ⟨rfl, hg255⟩ := h9 _ rfl
          refine lv_aload_n hx hb dX12_number_38 rfl (lv_at hl 1 rfl) ?_
          refine tw_getM (v := .int z90) hx hb hts bF_X12 hown hK hT hr_o0 shm_0 rfl 12 (by decide) (ht_at hts 2 rfl) (fun _ h9 => h9) m201 dX12_number_39 ?_
          refine tw_bald (i := z90) hx hb hK hT hg255 shm_11 rfl (vin_t (a := z90.toInt) rfl (by omega) (by omega)) dX12_number_42 (fun v9 m256 h9 => ?_)
          obtain ⟨x257, rfl, gx257, kx257⟩ := h9
          refine lv_iadd hx hb dX12_number_43 ?_
          refine lv_topi (fun x258 ex258 => ?_)
          refine lv_bipush (v := 48) hx hb dX12_number_44 (by decide) ?_
          refine lv_isub hx hb dX12_number_46 ?_
          refine lv_topi (fun x259 ex259 => ?_)
          refine lv_goto (tgt := 51) hx hb dX12_number_47 (by decide) ?_
          refine lv_istore_n (lv' := [(2, .int x259), (0, .ref o0), (1, .int hg)]) hx hb dX12_number_51 rfl hl (by decide) rfl (fun ls hl => ?_)
          refine lv_aload_n hx hb dX12_number_52 rfl (lv_at hl 1 rfl) ?_
          refine lv_dup hx hb dX12_number_53 rfl ?_
          refine tw_getM (v := .int z90) hx hb hts bF_X12 hown hK hT hr_o0 shm_0 rfl 12 (by decide) (ht_at hts 2 rfl) (fun _ h9 => h9) m201 dX12_number_54 ?_
          refine lv_iconst (v := 1) hx hb dX12_number_57 (by decide) ?_
          refine lv_iadd hx hb dX12_number_58 ?_
          refine lv_topi (fun x260 ex260 => ?_)
          have t261 : x260.toInt = z90.toInt + 1 := ti_add ex260 rfl (by decide) (by omega) (by omega)
          refine tw_put (v := .int x260) (ty := .int) hx hb hts bF_X12 tyX12 tyX12_ok nmX12 hown hK hT hG hS hr_o0 shm_0 rfl 12 (by decide) (ht_at hts 2 rfl) (fun _ h9 => h9) rfl (by decide +kernel) rfl rfl (gl_at rfl (gi_of (show x260.toInt = x260.toInt from rfl) (by omega) (by omega))) dX12_number_59 (fun H locs hT oq m262 oj hS => ?_)
          have hF := hF.put hr_o0 skm_0 oq oj (by decide)
          have m263 := (oj 13 (by decide) (by decide)).trans m200
          have m264 := (oj 14 (by decide) (by decide)).trans m202
          refine lv_goto (tgt := 6) hx hb dX12_number_62 (by decide) ?_
          exact ih197 x259 x260 (by have q9 := (show x260.toInt = x260.toInt from rfl); omega) ⟨(by have q8 := ti_all x260; omega), (by have := (show x260.toInt = x260.toInt from rfl); have := (show u4.toInt = u4.toInt from rfl); omega)⟩ _ _ hT hF hS m263 m262 m264 ls (lv_sub hl [0, 1, 2] rfl)
  exact key197 401 0 u3 (by have q9 := (show u3.toInt = u3.toInt from rfl); omega) ⟨(by have q8 := ti_all u3; omega), (by have := (show u3.toInt = u3.toInt from rfl); have := (show u4.toInt = u4.toInt from rfl); omega)⟩ _ _ hT hF hS m8 m5 m6 ls (lv_sub hl [0, 1, 2] rfl)
def w_s_fact : List Cond := .code yX12_fact cX12_fact 1 (some (.object "java/lang/String")) :: (HAppend.hAppend (α := List Cond) (β := List Cond) (γ := List Cond) [] bs)
set_option maxHeartbeats 4000000 in
set_option maxRecDepth 100000 in
theorem s_fact (l : Launch) (dC : Nat → ClassId) (dI : Nat → Nat → Nat) (kA : Nat → ClassId) (adK adV : Nat → Nat) (G : gT) (H0 : Heap) (q : Nat → Nat) (wZ wN : Nat → Int) (wH wB wC : Int) (wL wK : Nat → Prop) (wU wV : Nat → Nat) (PI : Nat → Int → Prop) (im : Int) (PM PT : Nat → Int → Prop) (lS lB lE : Nat → Nat → Int → Prop) (lN : Nat → Int) (kf : Int32)  (hT : gH (dC, dI) kA (SHm q (wP wZ wN wH wB wC wL wK wU wV) PI im PM PT lS lB lE lN) G H0) (hq0 : 0 ≤ kf.toInt ∧ kf.toInt ≤ 9) (hgz : ∀ i, 0 ≤ wZ i) (hgn : ∀ i, 6500000 ≤ wN i ∧ wN i ≤ 20200000) (hgh : 0 ≤ wH ∧ wH ≤ 40000) (hgb : 0 ≤ wB ∧ wB ≤ 3850000) (hgc : 0 ≤ wC ∧ wC ≤ 30) (hgi : 0 ≤ im ∧ im ≤ 1) (hgu : ∀ a t, G a = some (t + 1) → a = q t) : Met l yX12_fact w_s_fact ({ frames := 0, cells := 0, slots := 0, locals := 0 }) (va_Pc [.int kf] (fun U => U.heap = H0 ∧ va_K (dC, dI) vwCl (tyl kA) U ∧ EVS adK adV (gA G H0.size) U U.heap)) (va_Qr (fun (u : Unit) => True) (fun (_ : Unit) (ra : Nat) (t : State) => ra = adK kf.toNatClampNeg ∧ gH (dC, dI) kA (SHm q (wP wZ wN wH wB wC wL wK wU wV) PI im PM PT lS lB lE lN) G t.heap ∧ gF (dC, dI) SKm G ([] : List (Nat × Nat)) H0 t.heap) (gA G H0.size)) 0 0 (gA G H0.size) := by
  refine Met.ofW (cc := cX12_fact) (maxL := 1) (ret := (some (.object "java/lang/String"))) (by decide +kernel) rfl ?_
  intro p e s m args below meth c s₁ B hml hv
  obtain ⟨rfl, hH0, hK, hE⟩ := hv
  have hx := B.exec
  have hb := B.bytes
  have hr := B.returns
  have hts := atoms_spec (ws := w_s_fact) B.pre
  have hown : s.vm.findClass RX12 = some m.cls := findClass_of_methodNamed B.named
  have hlocks := B.notSynchronized
  subst hH0
  generalize hAe : gA G s.heap.size = A at hE ⊢
  have hA : ∀ q : Nat, s.heap.size ≤ q → A q := fun q h => by rw [← hAe]; exact Or.inr h
  have hG := gA_of hAe
  have hS : va_S A s.heap s.heap [] := va_S.rf
  have hF : gF (dC, dI) SKm G ([] : List (Nat × Nat)) s.heap s.heap := gF.rf
  have hl := lv_entry ([.int kf]) (n := 1) (Nat.le_of_ble_eq_true rfl)
  rw [lg_entry_eq]
  generalize (lg_sl ([.int kf]) ++ List.replicate (1 - (lg_sl ([.int kf])).length) Slot.unset).toArray = ls at hl ⊢
  have hl : lv_has ls 1 [(0, .int kf)] := hl
  refine lv_iload_n hx hb dX12_fact_0 rfl (lv_at hl 0 rfl) ?_
  by_cases hs1 : kf = 0
  · subst hs1
    refine lv_tableIn (x := 0) (off := 51) (tgt := 52) hx hb dX12_fact_1 (by decide) (by decide) (by decide) (by decide) ?_
    refine tw_ldcwS hx hb hown hE.s0 dX12_fact_52 ?_
    exact W.aret (v := .ref (adK 0)) hx hb hr (Or.inl ⟨_, rfl⟩) (Or.inr ⟨_, rfl⟩) (fun t ht hW => ⟨⟨(), (adK 0), rfl, (by exact trivial), by (try dsimp only); rw [ht]; exact ⟨(congrArg adK (show (0 : Nat) = ((0 : Int32)).toNatClampNeg from by decide)), hT, hF⟩⟩, hS.F ht⟩) hS.2.2 dX12_fact_55
  by_cases hs2 : kf = 1
  · subst hs2
    refine lv_tableIn (x := 1) (off := 55) (tgt := 56) hx hb dX12_fact_1 (by decide) (by decide) (by decide) (by decide) ?_
    refine tw_ldcwS hx hb hown hE.s1 dX12_fact_56 ?_
    exact W.aret (v := .ref (adK 1)) hx hb hr (Or.inl ⟨_, rfl⟩) (Or.inr ⟨_, rfl⟩) (fun t ht hW => ⟨⟨(), (adK 1), rfl, (by exact trivial), by (try dsimp only); rw [ht]; exact ⟨(congrArg adK (show (1 : Nat) = ((1 : Int32)).toNatClampNeg from by decide)), hT, hF⟩⟩, hS.F ht⟩) hS.2.2 dX12_fact_59
  by_cases hs3 : kf = 2
  · subst hs3
    refine lv_tableIn (x := 2) (off := 59) (tgt := 60) hx hb dX12_fact_1 (by decide) (by decide) (by decide) (by decide) ?_
    refine tw_ldcwS hx hb hown hE.s2 dX12_fact_60 ?_
    exact W.aret (v := .ref (adK 2)) hx hb hr (Or.inl ⟨_, rfl⟩) (Or.inr ⟨_, rfl⟩) (fun t ht hW => ⟨⟨(), (adK 2), rfl, (by exact trivial), by (try dsimp only); rw [ht]; exact ⟨(congrArg adK (show (2 : Nat) = ((2 : Int32)).toNatClampNeg from by decide)), hT, hF⟩⟩, hS.F ht⟩) hS.2.2 dX12_fact_63
  by_cases hs4 : kf = 3
  · subst hs4
    refine lv_tableIn (x := 3) (off := 63) (tgt := 64) hx hb dX12_fact_1 (by decide) (by decide) (by decide) (by decide) ?_
    refine tw_ldcwS hx hb hown hE.s3 dX12_fact_64 ?_
    exact W.aret (v := .ref (adK 3)) hx hb hr (Or.inl ⟨_, rfl⟩) (Or.inr ⟨_, rfl⟩) (fun t ht hW => ⟨⟨(), (adK 3), rfl, (by exact trivial), by (try dsimp only); rw [ht]; exact ⟨(congrArg adK (show (3 : Nat) = ((3 : Int32)).toNatClampNeg from by decide)), hT, hF⟩⟩, hS.F ht⟩) hS.2.2 dX12_fact_67
  by_cases hs5 : kf = 4
  · subst hs5
    refine lv_tableIn (x := 4) (off := 67) (tgt := 68) hx hb dX12_fact_1 (by decide) (by decide) (by decide) (by decide) ?_
    refine tw_ldcwS hx hb hown hE.s4 dX12_fact_68 ?_
    exact W.aret (v := .ref (adK 4)) hx hb hr (Or.inl ⟨_, rfl⟩) (Or.inr ⟨_, rfl⟩) (fun t ht hW => ⟨⟨(), (adK 4), rfl, (by exact trivial), by (try dsimp only); rw [ht]; exact ⟨(congrArg adK (show (4 : Nat) = ((4 : Int32)).toNatClampNeg from by decide)), hT, hF⟩⟩, hS.F ht⟩) hS.2.2 dX12_fact_71
  by_cases hs6 : kf = 5
  · subst hs6
    refine lv_tableIn (x := 5) (off := 71) (tgt := 72) hx hb dX12_fact_1 (by decide) (by decide) (by decide) (by decide) ?_
    refine tw_ldcwS hx hb hown hE.s5 dX12_fact_72 ?_
    exact W.aret (v := .ref (adK 5)) hx hb hr (Or.inl ⟨_, rfl⟩) (Or.inr ⟨_, rfl⟩) (fun t ht hW => ⟨⟨(), (adK 5), rfl, (by exact trivial), by (try dsimp only); rw [ht]; exact ⟨(congrArg adK (show (5 : Nat) = ((5 : Int32)).toNatClampNeg from by decide)), hT, hF⟩⟩, hS.F ht⟩) hS.2.2 dX12_fact_75
  by_cases hs7 : kf = 6
  · subst hs7
    refine lv_tableIn (x := 6) (off := 75) (tgt := 76) hx hb dX12_fact_1 (by decide) (by decide) (by decide) (by decide) ?_
    refine tw_ldcwS hx hb hown hE.s6 dX12_fact_76 ?_
    exact W.aret (v := .ref (adK 6)) hx hb hr (Or.inl ⟨_, rfl⟩) (Or.inr ⟨_, rfl⟩) (fun t ht hW => ⟨⟨(), (adK 6), rfl, (by exact trivial), by (try dsimp only); rw [ht]; exact ⟨(congrArg adK (show (6 : Nat) = ((6 : Int32)).toNatClampNeg from by decide)), hT, hF⟩⟩, hS.F ht⟩) hS.2.2 dX12_fact_79
  by_cases hs8 : kf = 7
  · subst hs8
    refine lv_tableIn (x := 7) (off := 79) (tgt := 80) hx hb dX12_fact_1 (by decide) (by decide) (by decide) (by decide) ?_
    refine tw_ldcwS hx hb hown hE.s7 dX12_fact_80 ?_
    exact W.aret (v := .ref (adK 7)) hx hb hr (Or.inl ⟨_, rfl⟩) (Or.inr ⟨_, rfl⟩) (fun t ht hW => ⟨⟨(), (adK 7), rfl, (by exact trivial), by (try dsimp only); rw [ht]; exact ⟨(congrArg adK (show (7 : Nat) = ((7 : Int32)).toNatClampNeg from by decide)), hT, hF⟩⟩, hS.F ht⟩) hS.2.2 dX12_fact_83
  by_cases hs9 : kf = 8
  · subst hs9
    refine lv_tableIn (x := 8) (off := 83) (tgt := 84) hx hb dX12_fact_1 (by decide) (by decide) (by decide) (by decide) ?_
    refine tw_ldcwS hx hb hown hE.s8 dX12_fact_84 ?_
    exact W.aret (v := .ref (adK 8)) hx hb hr (Or.inl ⟨_, rfl⟩) (Or.inr ⟨_, rfl⟩) (fun t ht hW => ⟨⟨(), (adK 8), rfl, (by exact trivial), by (try dsimp only); rw [ht]; exact ⟨(congrArg adK (show (8 : Nat) = ((8 : Int32)).toNatClampNeg from by decide)), hT, hF⟩⟩, hS.F ht⟩) hS.2.2 dX12_fact_87
  have ho10 : kf.toInt < 0 ∨ 8 < kf.toInt := by
    by_cases hz9 : kf.toInt < 0
    · exact Or.inl hz9
    have u9 : (0 : Int) ≤ kf.toInt := Int.not_lt.mp hz9
    have u9 := ll_nx (k1 := 1) u9 hs1 (by decide) (by decide)
    have u9 := ll_nx (k1 := 2) u9 hs2 (by decide) (by decide)
    have u9 := ll_nx (k1 := 3) u9 hs3 (by decide) (by decide)
    have u9 := ll_nx (k1 := 4) u9 hs4 (by decide) (by decide)
    have u9 := ll_nx (k1 := 5) u9 hs5 (by decide) (by decide)
    have u9 := ll_nx (k1 := 6) u9 hs6 (by decide) (by decide)
    have u9 := ll_nx (k1 := 7) u9 hs7 (by decide) (by decide)
    have u9 := ll_nx (k1 := 8) u9 hs8 (by decide) (by decide)
    have u9 := ll_nx (k1 := 9) u9 hs9 (by decide) (by decide)
    exact Or.inr (Int.lt_of_lt_of_le (by decide) u9)
  refine lv_tableOut (tgt := 88) hx hb dX12_fact_1 ho10 (by decide) ?_
  refine tw_ldcwS hx hb hown hE.s9 dX12_fact_88 ?_
  exact W.aret (v := .ref (adK 9)) hx hb hr (Or.inl ⟨_, rfl⟩) (Or.inr ⟨_, rfl⟩) (fun t ht hW => ⟨⟨(), (adK 9), rfl, (by exact trivial), by (try dsimp only); rw [ht]; exact ⟨(congrArg adK (show (9 : Nat) = kf.toNatClampNeg from by have q9 := tn_of (i := kf) rfl (by omega); omega)), hT, hF⟩⟩, hS.F ht⟩) hS.2.2 dX12_fact_91
