def w_s_isAt : List Cond := .code yX12_isAt cX12_isAt 3 (some .boolean) :: (HAppend.hAppend (α := List Cond) (β := List Cond) (γ := List Cond) [.fieldLink RX12 335 "SeaLandModel" "point" "I", .fieldLink RX12 338 "SeaLandModel" "end" "I", .fieldLink RX12 31 "SeaLandModel" "tape" "[B"] bs)
set_option maxHeartbeats 4000000 in
set_option maxRecDepth 100000 in
theorem s_isAt (l : Launch) (dC : Nat → ClassId) (dI : Nat → Nat → Nat) (kA : Nat → ClassId) (adK adV : Nat → Nat) (G : gT) (H0 : Heap) (q : Nat → Nat) (wZ wN : Nat → Int) (wH wB wC : Int) (wL wK : Nat → Prop) (wU wV : Nat → Nat) (PI : Nat → Int → Prop) (im : Int) (PM PT : Nat → Int → Prop) (lS lB lE : Nat → Nat → Int → Prop) (lN : Nat → Int) (o0 : Nat) (lo : Int32) (hi : Int32) (pt : Int32) (en : Int32) (vt : Nat → Int32)  (hT : gH (dC, dI) kA (SHm q (wP wZ wN wH wB wC wL wK wU wV) PI im PM PT lS lB lE lN) G H0) (hr_o0 : G o0 = some 0) (hm_pt : el H0 o0 (dI 15 12) = some (.int pt)) (hm_en : el H0 o0 (dI 15 13) = some (.int en)) (hq0 : 0 ≤ pt.toInt ∧ pt.toInt ≤ 400) (hq1 : 0 ≤ en.toInt ∧ en.toInt ≤ 400) (hc_vt : ct H0 (q 10) 400 vt) (hgz : ∀ i, 0 ≤ wZ i) (hgn : ∀ i, 6500000 ≤ wN i ∧ wN i ≤ 20200000) (hgh : 0 ≤ wH ∧ wH ≤ 40000) (hgb : 0 ≤ wB ∧ wB ≤ 3850000) (hgc : 0 ≤ wC ∧ wC ≤ 30) (hgi : 0 ≤ im ∧ im ≤ 1) (hgu : ∀ a t, G a = some (t + 1) → a = q t) : Met l yX12_isAt w_s_isAt ({ frames := 0, cells := 0, slots := 0, locals := 0 }) (va_Pc [.ref o0, .int lo, .int hi] (fun U => U.heap = H0 ∧ va_K (dC, dI) vwCl (tyl kA) U ∧ EVS adK adV (gA G H0.size) U U.heap)) (va_Qi (fun (r : Int32) (u : Unit) => (0 ≤ r.toInt ∧ r.toInt ≤ 1) ∧ (r = 1 → pt.toInt < en.toInt) ∧ ((r.toInt = 1 ∧ (pt.toInt < en.toInt ∧ lo.toInt ≤ (vt pt.toNatClampNeg).toInt ∧ (vt pt.toNatClampNeg).toInt ≤ hi.toInt)) ∨ (r.toInt = 0 ∧ ¬ (pt.toInt < en.toInt ∧ lo.toInt ≤ (vt pt.toNatClampNeg).toInt ∧ (vt pt.toNatClampNeg).toInt ≤ hi.toInt)))) (fun (_ : Unit) (t : State) => gH (dC, dI) kA (SHm q (wP wZ wN wH wB wC wL wK wU wV) PI im PM PT lS lB lE lN) G t.heap ∧ gF (dC, dI) SKm G ([] : List (Nat × Nat)) H0 t.heap) (gA G H0.size)) 0 0 (gA G H0.size) := by
  refine Met.ofW (cc := cX12_isAt) (maxL := 3) (ret := (some .boolean)) (by decide) rfl ?_
  intro p e s m args below meth c s₁ B hml hv
  obtain ⟨rfl, hH0, hK, hE⟩ := hv
  have hx := B.exec
  have hb := B.bytes
  have hr := B.returns
  have hts := atoms_spec (ws := w_s_isAt) B.pre
  have hown : s.vm.findClass RX12 = some m.cls := findClass_of_methodNamed B.named
  have hlocks := B.notSynchronized
  subst hH0
  generalize hAe : gA G s.heap.size = A at hE ⊢
  have hA : ∀ q : Nat, s.heap.size ≤ q → A q := fun q h => by rw [← hAe]; exact Or.inr h
  have hG := gA_of hAe
  have hS : va_S A s.heap s.heap [] := va_S.rf
  have hF : gF (dC, dI) SKm G ([] : List (Nat × Nat)) s.heap s.heap := gF.rf
  have hl := lv_entry ([.ref o0, .int lo, .int hi]) (n := 3) (Nat.le_of_ble_eq_true rfl)
  rw [lg_entry_eq]
  generalize (lg_sl ([.ref o0, .int lo, .int hi]) ++ List.replicate (3 - (lg_sl ([.ref o0, .int lo, .int hi])).length) Slot.unset).toArray = ls at hl ⊢
  have hl : lv_has ls 3 [(0, .ref o0), (1, .int lo), (2, .int hi)] := hl
  have hg1 : G (q 10) = some 11 := gx_of hT hr_o0 shm_0 (k := 10) (by decide) rfl
  refine lv_aload_n hx hb dX12_isAt_0 rfl (lv_at hl 0 rfl) ?_
  refine tw_getM (v := .int pt) hx hb hts bF_X12 hown hK hT hr_o0 shm_0 rfl 12 (by decide) (ht_at hts 0 rfl) (fun _ h9 => h9) hm_pt dX12_isAt_1 ?_
  refine lv_aload_n hx hb dX12_isAt_4 rfl (lv_at hl 0 rfl) ?_
  refine tw_getM (v := .int en) hx hb hts bF_X12 hown hK hT hr_o0 shm_0 rfl 13 (by decide) (ht_at hts 1 rfl) (fun _ h9 => h9) hm_en dX12_isAt_5 ?_
  refine lv_icmp_ge (tgt := 41) hx hb dX12_isAt_8 (by decide) (fun c2 => ?_) (fun c2 => ?_)
  · have t3 : en.toInt ≤ pt.toInt := ti_le c2 rfl rfl
    refine lv_iconst (v := 0) hx hb dX12_isAt_41 (by decide) ?_
    exact W.zret (v := 0) hx hb hr (by decide) (fun t ht hW => ⟨⟨0, (), rfl, (by exact ⟨(rg_t (a := 0) (by decide) (by first | decide | omega) (by first | decide | omega)), (fun h => absurd h (by decide)), (by have : (0 : Int32).toInt = 0 := (by decide); omega)⟩), by (try dsimp only); rw [ht]; exact ⟨hT, hF⟩⟩, hS.F ht⟩) hS.2.2 dX12_isAt_42
  · have t4 : pt.toInt < en.toInt := ti_nle c2 rfl rfl
    refine lv_aload_n hx hb dX12_isAt_11 rfl (lv_at hl 0 rfl) ?_
    refine tw_get hx hb hts bF_X12 hown hK hT hr_o0 shm_0 rfl 10 (by decide) (ht_at hts 2 rfl) (fun _ h9 => h9) dX12_isAt_12 (fun v9 m5 h9 => ?_)
    obtain ⟨rfl, hg6⟩ := h9 _ rfl
    refine lv_aload_n hx hb dX12_isAt_15 rfl (lv_at hl 0 rfl) ?_
    refine tw_getM (v := .int pt) hx hb hts bF_X12 hown hK hT hr_o0 shm_0 rfl 12 (by decide) (ht_at hts 0 rfl) (fun _ h9 => h9) hm_pt dX12_isAt_16 ?_
    refine tw_bald (i := pt) hx hb hK hT hg1 shm_11 rfl (vin_t (a := pt.toInt) rfl (by omega) (by omega)) dX12_isAt_19 (fun v9 m7 h9 => ?_)
    obtain ⟨x8, rfl, gx8, kx8⟩ := h9
    have cx8 := hc_vt.at m7 (by have q9 := tn_of (show pt.toInt = pt.toInt from rfl) (by omega); omega)
    have t9 : x8.toInt = (vt pt.toNatClampNeg).toInt := congrArg Int32.toInt cx8
    refine lv_iload_n hx hb dX12_isAt_20 rfl (lv_at hl 1 rfl) ?_
    refine lv_icmp_lt (tgt := 41) hx hb dX12_isAt_21 (by decide) (fun c10 => ?_) (fun c10 => ?_)
    · have t11 : x8.toInt < lo.toInt := ti_lt c10 rfl rfl
      refine lv_iconst (v := 0) hx hb dX12_isAt_41 (by decide) ?_
      exact W.zret (v := 0) hx hb hr (by decide) (fun t ht hW => ⟨⟨0, (), rfl, (by exact ⟨(rg_t (a := 0) (by decide) (by first | decide | omega) (by first | decide | omega)), (fun h => absurd h (by decide)), (by have : (0 : Int32).toInt = 0 := (by decide); omega)⟩), by (try dsimp only); rw [ht]; exact ⟨hT, hF⟩⟩, hS.F ht⟩) hS.2.2 dX12_isAt_42
    · have t12 : lo.toInt ≤ x8.toInt := ti_nlt c10 rfl rfl
      refine lv_aload_n hx hb dX12_isAt_24 rfl (lv_at hl 0 rfl) ?_
      refine tw_get hx hb hts bF_X12 hown hK hT hr_o0 shm_0 rfl 10 (by decide) (ht_at hts 2 rfl) (fun _ h9 => h9) dX12_isAt_25 (fun v9 m13 h9 => ?_)
      obtain ⟨rfl, hg14⟩ := h9 _ rfl
      refine lv_aload_n hx hb dX12_isAt_28 rfl (lv_at hl 0 rfl) ?_
      refine tw_getM (v := .int pt) hx hb hts bF_X12 hown hK hT hr_o0 shm_0 rfl 12 (by decide) (ht_at hts 0 rfl) (fun _ h9 => h9) hm_pt dX12_isAt_29 ?_
      refine tw_bald (i := pt) hx hb hK hT hg1 shm_11 rfl (vin_t (a := pt.toInt) rfl (by omega) (by omega)) dX12_isAt_32 (fun v9 m15 h9 => ?_)
      obtain ⟨x16, rfl, gx16, kx16⟩ := h9
      have cx16 := hc_vt.at m15 (by have q9 := tn_of (show pt.toInt = pt.toInt from rfl) (by omega); omega)
      obtain rfl : x8 = x16 := (el_same m15 m7 rfl).symm
      refine lv_iload_n hx hb dX12_isAt_33 rfl (lv_at hl 2 rfl) ?_
      refine lv_icmp_gt (tgt := 41) hx hb dX12_isAt_34 (by decide) (fun c17 => ?_) (fun c17 => ?_)
      · have t18 : hi.toInt < x8.toInt := ti_lt c17 rfl rfl
        refine lv_iconst (v := 0) hx hb dX12_isAt_41 (by decide) ?_
        exact W.zret (v := 0) hx hb hr (by decide) (fun t ht hW => ⟨⟨0, (), rfl, (by exact ⟨(rg_t (a := 0) (by decide) (by first | decide | omega) (by first | decide | omega)), (fun h => absurd h (by decide)), (by have : (0 : Int32).toInt = 0 := (by decide); omega)⟩), by (try dsimp only); rw [ht]; exact ⟨hT, hF⟩⟩, hS.F ht⟩) hS.2.2 dX12_isAt_42
      · have t19 : x8.toInt ≤ hi.toInt := ti_nlt c17 rfl rfl
        refine lv_iconst (v := 1) hx hb dX12_isAt_37 (by decide) ?_
        refine lv_goto (tgt := 42) hx hb dX12_isAt_38 (by decide) ?_
        exact W.zret (v := 1) hx hb hr (by decide) (fun t ht hW => ⟨⟨1, (), rfl, (by exact ⟨(rg_t (a := 1) (by decide) (by first | decide | omega) (by first | decide | omega)), (fun _ => by omega), (by have : (1 : Int32).toInt = 1 := (by decide); omega)⟩), by (try dsimp only); rw [ht]; exact ⟨hT, hF⟩⟩, hS.F ht⟩) hS.2.2 dX12_isAt_42
def w_s_blanks : List Cond := .code yX12_blanks cX12_blanks 1 none :: (HAppend.hAppend (α := List Cond) (β := List Cond) (γ := List Cond) [.code yX12_isAt cX12_isAt 3 (some .boolean), .fieldLink RX12 335 "SeaLandModel" "point" "I", .fieldLink RX12 338 "SeaLandModel" "end" "I", .fieldLink RX12 31 "SeaLandModel" "tape" "[B", .methodLink RX12 341 yX12_isAt, .instanceMethod yX12_isAt, .selects RX12 yX12_isAt yX12_isAt, .initialized RX12, .fieldLink RX12 345 "SeaLandModel" "begin" "I"] bs)
set_option maxHeartbeats 4000000 in
set_option maxRecDepth 100000 in
theorem s_blanks (l : Launch) (dC : Nat → ClassId) (dI : Nat → Nat → Nat) (kA : Nat → ClassId) (adK adV : Nat → Nat) (G : gT) (H0 : Heap) (q : Nat → Nat) (wZ wN : Nat → Int) (wH wB wC : Int) (wL wK : Nat → Prop) (wU wV : Nat → Nat) (PI : Nat → Int → Prop) (im : Int) (PM PT : Nat → Int → Prop) (lS lB lE : Nat → Nat → Int → Prop) (lN : Nat → Int) (o0 : Nat) (pt : Int32) (en : Int32) (vt : Nat → Int32) (N : Nat) (hT : gH (dC, dI) kA (SHm q (wP wZ wN wH wB wC wL wK wU wV) PI im PM PT lS lB lE lN) G H0) (hr_o0 : G o0 = some 0) (hm_pt : el H0 o0 (dI 15 12) = some (.int pt)) (hm_en : el H0 o0 (dI 15 13) = some (.int en)) (hq0 : 0 ≤ pt.toInt ∧ pt.toInt ≤ 400) (hq1 : 0 ≤ en.toInt ∧ en.toInt ≤ 400) (hpe : pt.toInt ≤ en.toInt) (hN : en.toInt = ((N : Nat) : Int)) (hc_vt : ct H0 (q 10) 400 vt) (hgz : ∀ i, 0 ≤ wZ i) (hgn : ∀ i, 6500000 ≤ wN i ∧ wN i ≤ 20200000) (hgh : 0 ≤ wH ∧ wH ≤ 40000) (hgb : 0 ≤ wB ∧ wB ≤ 3850000) (hgc : 0 ≤ wC ∧ wC ≤ 30) (hgi : 0 ≤ im ∧ im ≤ 1) (hgu : ∀ a t, G a = some (t + 1) → a = q t) : Met l yX12_blanks w_s_blanks ({ frames := 1, cells := 0, slots := 0, locals := 22 }) (va_Pc [.ref o0] (fun U => U.heap = H0 ∧ va_K (dC, dI) vwCl (tyl kA) U ∧ EVS adK adV (gA G H0.size) U U.heap)) (va_Qv (fun (u : Int32 × Int32) => match u with | (p1, b1) => (0 ≤ p1.toInt ∧ p1.toInt ≤ 400) ∧ (0 ≤ b1.toInt ∧ b1.toInt ≤ 400) ∧ (pt.toInt ≤ p1.toInt ∧ p1.toInt ≤ en.toInt ∧ b1.toInt = p1.toInt) ∧ (skp (tx vt) N pt.toNatClampNeg = p1.toNatClampNeg) ∧ (skp (tx vt) N pt.toNatClampNeg = b1.toNatClampNeg)) (fun (u : Int32 × Int32) (t : State) => match u with | (p1, b1) => gH (dC, dI) kA (SHm q (wP wZ wN wH wB wC wL wK wU wV) PI im PM PT lS lB lE lN) G t.heap ∧ gF (dC, dI) SKm G ([(0, 12), (0, 14)] : List (Nat × Nat)) H0 t.heap ∧ el t.heap o0 (dI 15 12) = some (.int p1) ∧ el t.heap o0 (dI 15 14) = some (.int b1)) (gA G H0.size)) 0 0 (gA G H0.size) := by
  refine Met.ofW (cc := cX12_blanks) (maxL := 1) (ret := none) (by decide) rfl ?_
  intro p e s m args below meth c s₁ B hml hv
  obtain ⟨rfl, hH0, hK, hE⟩ := hv
  have hx := B.exec
  have hb := B.bytes
  have hr := B.returns
  have hts := atoms_spec (ws := w_s_blanks) B.pre
  have hown : s.vm.findClass RX12 = some m.cls := findClass_of_methodNamed B.named
  have hlocks := B.notSynchronized
  subst hH0
  generalize hAe : gA G s.heap.size = A at hE ⊢
  have hA : ∀ q : Nat, s.heap.size ≤ q → A q := fun q h => by rw [← hAe]; exact Or.inr h
  have hG := gA_of hAe
  have hS : va_S A s.heap s.heap [] := va_S.rf
  have hF : gF (dC, dI) SKm G ([(0, 12), (0, 14)] : List (Nat × Nat)) s.heap s.heap := gF.rf
  have hl := lv_entry ([.ref o0]) (n := 1) (Nat.le_of_ble_eq_true rfl)
  rw [lg_entry_eq]
  generalize (lg_sl ([.ref o0]) ++ List.replicate (1 - (lg_sl ([.ref o0])).length) Slot.unset).toArray = ls at hl ⊢
  have hl : lv_has ls 1 [(0, .ref o0)] := hl
  have hg1 : G (q 10) = some 11 := gx_of hT hr_o0 shm_0 (k := 10) (by decide) rfl
  have key60 : ∀ (n60 : Nat), ∀ (z31 : Int32), (400 - z31.toInt < ((n60 : Nat) : Int)) → ((0 ≤ z31.toInt ∧ z31.toInt ≤ 400) ∧ (pt.toInt ≤ z31.toInt ∧ z31.toInt ≤ en.toInt) ∧ (∀ j : Nat, pt.toNatClampNeg ≤ j → j < z31.toNatClampNeg → spB (tx vt j) = true)) → ∀ (H : Heap) (locs : List Loc), gH (dC, dI) kA (SHm q (wP wZ wN wH wB wC wL wK wU wV) PI im PM PT lS lB lE lN) G H → gF (dC, dI) SKm G ([(0, 12), (0, 14)] : List (Nat × Nat)) s.heap H → va_S A s.heap H locs → ct H (q 10) 400 vt → el H o0 (dI 15 12) = some (.int z31) → el H o0 (dI 15 13) = some (.int en) → ∀ ls : Array Slot, lv_has ls 1 [(0, .ref o0)] → W p l e (headSpec w_s_blanks ({ frames := 1, cells := 0, slots := 0, locals := 22 })).room s m #[.ref o0] below meth c H locs 0 0 (MQ below (va_Qv (fun (u : Int32 × Int32) => match u with | (p1, b1) => (0 ≤ p1.toInt ∧ p1.toInt ≤ 400) ∧ (0 ≤ b1.toInt ∧ b1.toInt ≤ 400) ∧ (pt.toInt ≤ p1.toInt ∧ p1.toInt ≤ en.toInt ∧ b1.toInt = p1.toInt) ∧ (skp (tx vt) N pt.toNatClampNeg = p1.toNatClampNeg) ∧ (skp (tx vt) N pt.toNatClampNeg = b1.toNatClampNeg)) (fun (u : Int32 × Int32) (t : State) => match u with | (p1, b1) => gH (dC, dI) kA (SHm q (wP wZ wN wH wB wC wL wK wU wV) PI im PM PT lS lB lE lN) G t.heap ∧ gF (dC, dI) SKm G ([(0, 12), (0, 14)] : List (Nat × Nat)) s.heap t.heap ∧ el t.heap o0 (dI 15 12) = some (.int p1) ∧ el t.heap o0 (dI 15 14) = some (.int b1)) A) #[.ref o0] s 0 0 A) (F0 m 0 ls []) := by
    intro n60
    induction n60 with
    | zero =>
      intro z31 hv60 ⟨h32, hj35, hj36⟩ H locs hT hF hS m30 m33 m34 ls hl
      exfalso; have q9 := (show z31.toInt = z31.toInt from rfl); omega
    | succ n60 ih60 =>
      intro z31 hv60 ⟨h32, hj35, hj36⟩ H locs hT hF hS m30 m33 m34 ls hl
      refine lv_aload_n hx hb dX12_blanks_0 rfl (lv_at hl 0 rfl) ?_
      refine lv_bipush (v := 32) hx hb dX12_blanks_1 (by decide) ?_
      refine lv_bipush (v := 32) hx hb dX12_blanks_3 (by decide) ?_
      have hFc := gA_free hG hA hS
      refine va_calli (va_runV (As := [.int 32, .int 32]) (rest := []) ⟨hx, hb, hml, hown, hts⟩ (s_isAt l dC dI kA adK adV G H q wZ wN wH wB wC wL wK wU wV PI im PM PT lS lB lE lN o0 32 32 z31 en vt hT hr_o0 m33 m34 (by have q8 := ti_all z31; omega) (by have q8 := ti_all en; omega) m30 hgz hgn hgh hgb hgc hgi hgu) (cwV 2 hts (goodIn_app (goodIn_r _ [5, 6, 7, 8] rfl (by decide +kernel)) (goodIn_ca (goodIn_r _ [1, 2, 3, 4] rfl (by decide +kernel)) (bs_in _ _))) rfl rfl rfl (by decide +kernel) ⟨(Nat.le_of_ble_eq_true rfl), (Nat.le_of_ble_eq_true rfl)⟩) ⟨fun a U g mk q => by obtain ⟨q0, q1, qK, qE⟩ := q; exact ⟨q0, q1, va_K.moved (u := U) (U := U.calling g mk a) (Vm.Alike.refl U.vm) qK, EVS.blind g mk a qE⟩, gH_rc hK hT hr_o0 shm_0 rfl, fun U hU hW => ⟨rfl, hU, va_K.moved hW.alike hK, hE.call hS hFc hU hW⟩⟩ rfl rfl hl.1 rfl (lv_room (Nat.le_of_ble_eq_true rfl)) dX12_blanks_5 ⟨(Nat.le_of_ble_eq_true rfl), (Nat.le_of_ble_eq_true rfl)⟩) hS (fun q _ h => hFc q h) hFc (fun r61 u t H locs ht hvm hw62 hB _ _ hS => ?_)
      obtain ⟨hT, hF1⟩ := hB
      rw [ht] at hT hF1
      have m63 := m30.kept (hF1.arr hg1 skm_11 (by decide))
      have m64 := (hF1.fld hr_o0 skm_0 (k := 12) (by decide) (by decide)).trans m33
      have m65 := (hF1.fld hr_o0 skm_0 (k := 13) (by decide) (by decide)).trans m34
      have hF := hF.more hF1 (by decide)
      try dsimp only at hw62
      obtain ⟨h66, hi67, hf68⟩ := hw62
      have t69 : (32 : Int32).toInt = 32 := by decide
      have t70 : (32 : Int32).toInt = 32 := by decide
      refine lv_if_eq (tgt := 24) hx hb dX12_blanks_8 (by decide) (fun c71 => ?_) (fun c71 => ?_)
      · have t72 : r61.toInt = 0 := ti_eq c71 rfl (by decide)
        refine lv_aload_n hx hb dX12_blanks_24 rfl (lv_at hl 0 rfl) ?_
        refine lv_aload_n hx hb dX12_blanks_25 rfl (lv_at hl 0 rfl) ?_
        refine tw_getM (v := .int z31) hx hb hts bF_X12 hown hK hT hr_o0 shm_0 rfl 12 (by decide) (ht_at hts 1 rfl) (fun _ h9 => h9) m64 dX12_blanks_26 ?_
        refine tw_put (v := .int z31) (ty := .int) hx hb hts bF_X12 tyX12 tyX12_ok nmX12 hown hK hT hG hS hr_o0 shm_0 rfl 14 (by decide) (ht_at hts 8 rfl) (fun _ h9 => h9) rfl (by decide +kernel) rfl rfl (gl_at rfl (gi_of (show z31.toInt = z31.toInt from rfl) (by omega) (by omega))) dX12_blanks_29 (fun H locs hT oq m73 oj hS => ?_)
        have hF := hF.put hr_o0 skm_0 oq oj (by decide)
        have m75 := (oj 12 (by decide) (by decide)).trans m64
        exact W.vret hx hb hr (fun t ht hW => ⟨⟨(z31, z31), rfl, (by exact ⟨(by have q8 := ti_all z31; omega), (by have q8 := ti_all z31; omega), (by omega), (by have := tn_of (show z31.toInt = z31.toInt from rfl) (by omega); have := tn_of (show pt.toInt = pt.toInt from rfl) (by omega); exact ru_u (by omega) (by omega) hj36 (fun h9 => spB_0 (by show (vt z31.toNatClampNeg).toInt ≠ 32; omega))), (by have := tn_of (show z31.toInt = z31.toInt from rfl) (by omega); have := tn_of (show pt.toInt = pt.toInt from rfl) (by omega); exact ru_u (by omega) (by omega) hj36 (fun h9 => spB_0 (by show (vt z31.toNatClampNeg).toInt ≠ 32; omega)))⟩), by (try dsimp only); rw [ht]; exact ⟨hT, hF, m75, m73⟩⟩, hS.F ht⟩) hS.2.2 dX12_blanks_32
      · have t77 : r61.toInt ≠ 0 := ti_ne c71 rfl (by decide)
        have t78 : z31.toInt < en.toInt := hi67 ((bit_of ⟨by omega, by omega⟩).resolve_left c71)
        refine lv_aload_n hx hb dX12_blanks_11 rfl (lv_at hl 0 rfl) ?_
        refine lv_dup hx hb dX12_blanks_12 rfl ?_
        refine tw_getM (v := .int z31) hx hb hts bF_X12 hown hK hT hr_o0 shm_0 rfl 12 (by decide) (ht_at hts 1 rfl) (fun _ h9 => h9) m64 dX12_blanks_13 ?_
        refine lv_iconst (v := 1) hx hb dX12_blanks_16 (by decide) ?_
        refine lv_iadd hx hb dX12_blanks_17 ?_
        refine lv_topi (fun x79 ex79 => ?_)
        have t80 : x79.toInt = z31.toInt + 1 := ti_add ex79 rfl (by decide) (by omega) (by omega)
        refine tw_put (v := .int x79) (ty := .int) hx hb hts bF_X12 tyX12 tyX12_ok nmX12 hown hK hT hG hS hr_o0 shm_0 rfl 12 (by decide) (ht_at hts 1 rfl) (fun _ h9 => h9) rfl (by decide +kernel) rfl rfl (gl_at rfl (gi_of (show x79.toInt = x79.toInt from rfl) (by omega) (by omega))) dX12_blanks_18 (fun H locs hT oq m81 oj hS => ?_)
        have hF := hF.put hr_o0 skm_0 oq oj (by decide)
        have m82 := m63.kept (oq _ (gne hg1 hr_o0 (by decide)))
        have m83 := (oj 13 (by decide) (by decide)).trans m65
        refine lv_goto (tgt := 0) hx hb dX12_blanks_21 (by decide) ?_
        exact ih60 x79 (by have q9 := (show x79.toInt = x79.toInt from rfl); omega) ⟨(by have q8 := ti_all x79; omega), (by have := (show x79.toInt = x79.toInt from rfl); omega), (fun j h1 h2 => by have := tn_of (show x79.toInt = x79.toInt from rfl) (by omega); have := tn_of (show z31.toInt = z31.toInt from rfl) (by omega); by_cases e9 : j = z31.toNatClampNeg; (rw [e9]; exact spB_1 (by show (vt z31.toNatClampNeg).toInt = 32; omega)); exact hj36 j h1 (by omega))⟩ _ _ hT hF hS m82 m81 m83 ls (lv_sub hl [0] rfl)
  exact key60 401 pt (by have q9 := (show pt.toInt = pt.toInt from rfl); omega) ⟨(by have q8 := ti_all pt; omega), (by have := (show pt.toInt = pt.toInt from rfl); omega), (fun j h1 h2 => by omega)⟩ _ _ hT hF hS hc_vt hm_pt hm_en ls (lv_sub hl [0] rfl)
def w_s_word : List Cond := .code yX12_word cX12_word 1 none :: (HAppend.hAppend (α := List Cond) (β := List Cond) (γ := List Cond) [.code yX12_blanks cX12_blanks 1 none, .code yX12_isAt cX12_isAt 3 (some .boolean), .fieldLink RX12 335 "SeaLandModel" "point" "I", .fieldLink RX12 338 "SeaLandModel" "end" "I", .fieldLink RX12 31 "SeaLandModel" "tape" "[B", .methodLink RX12 341 yX12_isAt, .instanceMethod yX12_isAt, .selects RX12 yX12_isAt yX12_isAt, .initialized RX12, .fieldLink RX12 345 "SeaLandModel" "begin" "I", .methodLink RX12 348 yX12_blanks, .instanceMethod yX12_blanks, .selects RX12 yX12_blanks yX12_blanks] bs)
set_option maxHeartbeats 4000000 in
set_option maxRecDepth 100000 in
theorem s_word (l : Launch) (dC : Nat → ClassId) (dI : Nat → Nat → Nat) (kA : Nat → ClassId) (adK adV : Nat → Nat) (G : gT) (H0 : Heap) (q : Nat → Nat) (wZ wN : Nat → Int) (wH wB wC : Int) (wL wK : Nat → Prop) (wU wV : Nat → Nat) (PI : Nat → Int → Prop) (im : Int) (PM PT : Nat → Int → Prop) (lS lB lE : Nat → Nat → Int → Prop) (lN : Nat → Int) (o0 : Nat) (pt : Int32) (en : Int32) (vt : Nat → Int32) (N : Nat) (hT : gH (dC, dI) kA (SHm q (wP wZ wN wH wB wC wL wK wU wV) PI im PM PT lS lB lE lN) G H0) (hr_o0 : G o0 = some 0) (hm_pt : el H0 o0 (dI 15 12) = some (.int pt)) (hm_en : el H0 o0 (dI 15 13) = some (.int en)) (hq0 : 0 ≤ pt.toInt ∧ pt.toInt ≤ 400) (hq1 : 0 ≤ en.toInt ∧ en.toInt ≤ 400) (hpe : pt.toInt ≤ en.toInt) (hN : en.toInt = ((N : Nat) : Int)) (hc_vt : ct H0 (q 10) 400 vt) (hgz : ∀ i, 0 ≤ wZ i) (hgn : ∀ i, 6500000 ≤ wN i ∧ wN i ≤ 20200000) (hgh : 0 ≤ wH ∧ wH ≤ 40000) (hgb : 0 ≤ wB ∧ wB ≤ 3850000) (hgc : 0 ≤ wC ∧ wC ≤ 30) (hgi : 0 ≤ im ∧ im ≤ 1) (hgu : ∀ a t, G a = some (t + 1) → a = q t) : Met l yX12_word w_s_word ({ frames := 2, cells := 0, slots := 0, locals := 42 }) (va_Pc [.ref o0] (fun U => U.heap = H0 ∧ va_K (dC, dI) vwCl (tyl kA) U ∧ EVS adK adV (gA G H0.size) U U.heap)) (va_Qv (fun (u : Int32 × Int32) => match u with | (p1, b1) => (0 ≤ p1.toInt ∧ p1.toInt ≤ 400) ∧ (0 ≤ b1.toInt ∧ b1.toInt ≤ 400) ∧ (pt.toInt ≤ b1.toInt ∧ b1.toInt ≤ p1.toInt ∧ p1.toInt ≤ en.toInt) ∧ (skp (tx vt) N pt.toNatClampNeg = b1.toNatClampNeg) ∧ (ru ltB (tx vt) N b1.toNatClampNeg = p1.toNatClampNeg)) (fun (u : Int32 × Int32) (t : State) => match u with | (p1, b1) => gH (dC, dI) kA (SHm q (wP wZ wN wH wB wC wL wK wU wV) PI im PM PT lS lB lE lN) G t.heap ∧ gF (dC, dI) SKm G ([(0, 12), (0, 14)] : List (Nat × Nat)) H0 t.heap ∧ el t.heap o0 (dI 15 12) = some (.int p1) ∧ el t.heap o0 (dI 15 14) = some (.int b1)) (gA G H0.size)) 0 0 (gA G H0.size) := by
  refine Met.ofW (cc := cX12_word) (maxL := 1) (ret := none) (by decide) rfl ?_
  intro p e s m args below meth c s₁ B hml hv
  obtain ⟨rfl, hH0, hK, hE⟩ := hv
  have hx := B.exec
  have hb := B.bytes
  have hr := B.returns
  have hts := atoms_spec (ws := w_s_word) B.pre
  have hown : s.vm.findClass RX12 = some m.cls := findClass_of_methodNamed B.named
  have hlocks := B.notSynchronized
  subst hH0
  generalize hAe : gA G s.heap.size = A at hE ⊢
  have hA : ∀ q : Nat, s.heap.size ≤ q → A q := fun q h => by rw [← hAe]; exact Or.inr h
  have hG := gA_of hAe
  have hS : va_S A s.heap s.heap [] := va_S.rf
  have hF : gF (dC, dI) SKm G ([(0, 12), (0, 14)] : List (Nat × Nat)) s.heap s.heap := gF.rf
  have hl := lv_entry ([.ref o0]) (n := 1) (Nat.le_of_ble_eq_true rfl)
  rw [lg_entry_eq]
  generalize (lg_sl ([.ref o0]) ++ List.replicate (1 - (lg_sl ([.ref o0])).length) Slot.unset).toArray = ls at hl ⊢
  have hl : lv_has ls 1 [(0, .ref o0)] := hl
  have hg1 : G (q 10) = some 11 := gx_of hT hr_o0 shm_0 (k := 10) (by decide) rfl
  refine lv_aload_n hx hb dX12_word_0 rfl (lv_at hl 0 rfl) ?_
  have hFc := gA_free hG hA hS
  refine va_callv (va_runV (As := []) (rest := []) ⟨hx, hb, hml, hown, hts⟩ (s_blanks l dC dI kA adK adV G s.heap q wZ wN wH wB wC wL wK wU wV PI im PM PT lS lB lE lN o0 pt en vt N hT hr_o0 hm_pt hm_en (by have q8 := ti_all pt; omega) (by have q8 := ti_all en; omega) (by have := (show pt.toInt = pt.toInt from rfl); have := (show en.toInt = en.toInt from rfl); omega) hN hc_vt hgz hgn hgh hgb hgc hgi hgu) (cwV 0 hts (goodIn_app (goodIn_r _ [11, 12, 13, 9] rfl (by decide +kernel)) (goodIn_ca (goodIn_r _ [1, 2, 3, 4, 5, 6, 7, 8, 9, 10] rfl (by decide +kernel)) (bs_in _ _))) rfl rfl rfl (by decide +kernel) ⟨(Nat.le_of_ble_eq_true rfl), (Nat.le_of_ble_eq_true rfl)⟩) ⟨fun a U g mk q => by obtain ⟨q0, q1, qK, qE⟩ := q; exact ⟨q0, q1, va_K.moved (u := U) (U := U.calling g mk a) (Vm.Alike.refl U.vm) qK, EVS.blind g mk a qE⟩, gH_rc hK hT hr_o0 shm_0 rfl, fun U hU hW => ⟨rfl, hU, va_K.moved hW.alike hK, hE.call hS hFc hU hW⟩⟩ rfl rfl hl.1 rfl (lv_room (Nat.le_of_ble_eq_true rfl)) dX12_word_1 ⟨(Nat.le_of_ble_eq_true rfl), (Nat.le_of_ble_eq_true rfl)⟩) hS (fun q _ h => hFc q h) hFc (fun u t H locs ht hvm hw3 hB _ _ hS => ?_)
  obtain ⟨u4, u5⟩ := u
  obtain ⟨hT, hF1, m6, m7⟩ := hB
  rw [ht] at hT hF1 m6 m7
  have m9 := (hF1.fld hr_o0 skm_0 (k := 13) (by decide) (by decide)).trans hm_en
  have m10 := hc_vt.kept (hF1.arr hg1 skm_11 (by decide))
  have hF := hF.more hF1 (by decide)
  try dsimp only at hw3
  obtain ⟨h11, h12, hf13, hf14, hf15⟩ := hw3
  have key72 : ∀ (n72 : Nat), ∀ (z45 : Int32), (400 - z45.toInt < ((n72 : Nat) : Int)) → ((0 ≤ z45.toInt ∧ z45.toInt ≤ 400) ∧ (u5.toInt ≤ z45.toInt ∧ z45.toInt ≤ en.toInt) ∧ (∀ j : Nat, u5.toNatClampNeg ≤ j → j < z45.toNatClampNeg → ltB (tx vt j) = true)) → ∀ (H : Heap) (locs : List Loc), gH (dC, dI) kA (SHm q (wP wZ wN wH wB wC wL wK wU wV) PI im PM PT lS lB lE lN) G H → gF (dC, dI) SKm G ([(0, 12), (0, 14)] : List (Nat × Nat)) s.heap H → va_S A s.heap H locs → ct H (q 10) 400 vt → el H o0 (dI 15 13) = some (.int en) → el H o0 (dI 15 12) = some (.int z45) → el H o0 (dI 15 14) = some (.int u5) → ∀ ls : Array Slot, lv_has ls 1 [(0, .ref o0)] → W p l e (headSpec w_s_word ({ frames := 2, cells := 0, slots := 0, locals := 42 })).room s m #[.ref o0] below meth c H locs 0 0 (MQ below (va_Qv (fun (u : Int32 × Int32) => match u with | (p1, b1) => (0 ≤ p1.toInt ∧ p1.toInt ≤ 400) ∧ (0 ≤ b1.toInt ∧ b1.toInt ≤ 400) ∧ (pt.toInt ≤ b1.toInt ∧ b1.toInt ≤ p1.toInt ∧ p1.toInt ≤ en.toInt) ∧ (skp (tx vt) N pt.toNatClampNeg = b1.toNatClampNeg) ∧ (ru ltB (tx vt) N b1.toNatClampNeg = p1.toNatClampNeg)) (fun (u : Int32 × Int32) (t : State) => match u with | (p1, b1) => gH (dC, dI) kA (SHm q (wP wZ wN wH wB wC wL wK wU wV) PI im PM PT lS lB lE lN) G t.heap ∧ gF (dC, dI) SKm G ([(0, 12), (0, 14)] : List (Nat × Nat)) s.heap t.heap ∧ el t.heap o0 (dI 15 12) = some (.int p1) ∧ el t.heap o0 (dI 15 14) = some (.int b1)) A) #[.ref o0] s 0 0 A) (F0 m 4 ls []) := by
    intro n72
    induction n72 with
    | zero =>
      intro z45 hv72 ⟨h46, hj49, hj50⟩ H locs hT hF hS m43 m44 m47 m48 ls hl
      exfalso; have q9 := (show z45.toInt = z45.toInt from rfl); omega
    | succ n72 ih72 =>
      intro z45 hv72 ⟨h46, hj49, hj50⟩ H locs hT hF hS m43 m44 m47 m48 ls hl
      refine lv_aload_n hx hb dX12_word_4 rfl (lv_at hl 0 rfl) ?_
      refine lv_bipush (v := 97) hx hb dX12_word_5 (by decide) ?_
      refine lv_bipush (v := 122) hx hb dX12_word_7 (by decide) ?_
      have hFc := gA_free hG hA hS
      refine va_calli (va_runV (As := [.int 97, .int 122]) (rest := []) ⟨hx, hb, hml, hown, hts⟩ (s_isAt l dC dI kA adK adV G H q wZ wN wH wB wC wL wK wU wV PI im PM PT lS lB lE lN o0 97 122 z45 en vt hT hr_o0 m47 m44 (by have q8 := ti_all z45; omega) (by have q8 := ti_all en; omega) m43 hgz hgn hgh hgb hgc hgi hgu) (cwV 2 hts (goodIn_app (goodIn_r _ [6, 7, 8, 9] rfl (by decide +kernel)) (goodIn_ca (goodIn_r _ [2, 3, 4, 5] rfl (by decide +kernel)) (bs_in _ _))) rfl rfl rfl (by decide +kernel) ⟨(Nat.le_of_ble_eq_true rfl), (Nat.le_of_ble_eq_true rfl)⟩) ⟨fun a U g mk q => by obtain ⟨q0, q1, qK, qE⟩ := q; exact ⟨q0, q1, va_K.moved (u := U) (U := U.calling g mk a) (Vm.Alike.refl U.vm) qK, EVS.blind g mk a qE⟩, gH_rc hK hT hr_o0 shm_0 rfl, fun U hU hW => ⟨rfl, hU, va_K.moved hW.alike hK, hE.call hS hFc hU hW⟩⟩ rfl rfl hl.1 rfl (lv_room (Nat.le_of_ble_eq_true rfl)) dX12_word_9 ⟨(Nat.le_of_ble_eq_true rfl), (Nat.le_of_ble_eq_true rfl)⟩) hS (fun q _ h => hFc q h) hFc (fun r73 u t H locs ht hvm hw74 hB _ _ hS => ?_)
      obtain ⟨hT, hF1⟩ := hB
      rw [ht] at hT hF1
      have m75 := m43.kept (hF1.arr hg1 skm_11 (by decide))
      have m76 := (hF1.fld hr_o0 skm_0 (k := 13) (by decide) (by decide)).trans m44
      have m77 := (hF1.fld hr_o0 skm_0 (k := 12) (by decide) (by decide)).trans m47
      have m78 := (hF1.fld hr_o0 skm_0 (k := 14) (by decide) (by decide)).trans m48
      have hF := hF.more hF1 (by decide)
      try dsimp only at hw74
      obtain ⟨h79, hi80, hf81⟩ := hw74
      have t82 : (122 : Int32).toInt = 122 := by decide
      have t83 : (97 : Int32).toInt = 97 := by decide
      refine lv_if_eq (tgt := 28) hx hb dX12_word_12 (by decide) (fun c84 => ?_) (fun c84 => ?_)
      · have t85 : r73.toInt = 0 := ti_eq c84 rfl (by decide)
        exact W.vret hx hb hr (fun t ht hW => ⟨⟨(z45, u5), rfl, (by exact ⟨(by have q8 := ti_all z45; omega), (by have q8 := ti_all u5; omega), (by omega), hf15, (by have := tn_of (show z45.toInt = z45.toInt from rfl) (by omega); have := tn_of (show u5.toInt = u5.toInt from rfl) (by omega); exact ru_u (by omega) (by omega) hj50 (fun h9 => ltB_0 (by show ¬ (97 ≤ (vt z45.toNatClampNeg).toInt ∧ (vt z45.toNatClampNeg).toInt ≤ 122); omega)))⟩), by (try dsimp only); rw [ht]; exact ⟨hT, hF, m77, m78⟩⟩, hS.F ht⟩) hS.2.2 dX12_word_28
      · have t86 : r73.toInt ≠ 0 := ti_ne c84 rfl (by decide)
        have t87 : z45.toInt < en.toInt := hi80 ((bit_of ⟨by omega, by omega⟩).resolve_left c84)
        refine lv_aload_n hx hb dX12_word_15 rfl (lv_at hl 0 rfl) ?_
        refine lv_dup hx hb dX12_word_16 rfl ?_
        refine tw_getM (v := .int z45) hx hb hts bF_X12 hown hK hT hr_o0 shm_0 rfl 12 (by decide) (ht_at hts 2 rfl) (fun _ h9 => h9) m77 dX12_word_17 ?_
        refine lv_iconst (v := 1) hx hb dX12_word_20 (by decide) ?_
        refine lv_iadd hx hb dX12_word_21 ?_
        refine lv_topi (fun x88 ex88 => ?_)
        have t89 : x88.toInt = z45.toInt + 1 := ti_add ex88 rfl (by decide) (by omega) (by omega)
        refine tw_put (v := .int x88) (ty := .int) hx hb hts bF_X12 tyX12 tyX12_ok nmX12 hown hK hT hG hS hr_o0 shm_0 rfl 12 (by decide) (ht_at hts 2 rfl) (fun _ h9 => h9) rfl (by decide +kernel) rfl rfl (gl_at rfl (gi_of (show x88.toInt = x88.toInt from rfl) (by omega) (by omega))) dX12_word_22 (fun H locs hT oq m90 oj hS => ?_)
        have hF := hF.put hr_o0 skm_0 oq oj (by decide)
        have m91 := m75.kept (oq _ (gne hg1 hr_o0 (by decide)))
        have m92 := (oj 13 (by decide) (by decide)).trans m76
        have m93 := (oj 14 (by decide) (by decide)).trans m78
        refine lv_goto (tgt := 4) hx hb dX12_word_25 (by decide) ?_
        exact ih72 x88 (by have q9 := (show x88.toInt = x88.toInt from rfl); omega) ⟨(by have q8 := ti_all x88; omega), (by have := (show x88.toInt = x88.toInt from rfl); have := (show u5.toInt = u5.toInt from rfl); omega), (fun j h1 h2 => by have := tn_of (show x88.toInt = x88.toInt from rfl) (by omega); have := tn_of (show z45.toInt = z45.toInt from rfl) (by omega); by_cases e9 : j = z45.toNatClampNeg; (rw [e9]; exact ltB_1 (by show 97 ≤ (vt z45.toNatClampNeg).toInt ∧ (vt z45.toNatClampNeg).toInt ≤ 122; omega)); exact hj50 j h1 (by omega))⟩ _ _ hT hF hS m91 m92 m90 m93 ls (lv_sub hl [0] rfl)
  exact key72 401 u4 (by have q9 := (show u4.toInt = u4.toInt from rfl); omega) ⟨(by have q8 := ti_all u4; omega), (by have := (show u4.toInt = u4.toInt from rfl); have := (show u5.toInt = u5.toInt from rfl); omega), (fun j h1 h2 => by omega)⟩ _ _ hT hF hS m10 m9 m6 m7 ls (lv_sub hl [0] rfl)
def w_s_isWord : List Cond := .code yX12_isWord cX12_isWord 4 (some .boolean) :: (HAppend.hAppend (α := List Cond) (β := List Cond) (γ := List Cond) [.fieldLink RX12 335 "SeaLandModel" "point" "I", .fieldLink RX12 345 "SeaLandModel" "begin" "I", .code yJ0_length_8abf5 cJ0_length_8abf5 1 (some .int), .fieldLink RJ0 9 "java/lang/String" "value" "[B", .code yJ0_coder_7d493 cJ0_coder_7d493 1 (some .byte), .fieldLink RJ0 38 "java/lang/String" "COMPACT_STRINGS" "Z", .fieldLink RJ0 15 "java/lang/String" "coder" "B", .methodLink RJ0 335 yJ0_coder_7d493, .instanceMethod yJ0_coder_7d493, .selects RJ0 yJ0_coder_7d493 yJ0_coder_7d493, .initialized RJ0, .methodLink RX12 351 yJ0_length_8abf5, .instanceMethod yJ0_length_8abf5, .selects RJ0 yJ0_length_8abf5 yJ0_length_8abf5, .fieldLink RX12 31 "SeaLandModel" "tape" "[B", .code yJ0_charAt_5068e cJ0_charAt_5068e 2 (some .char), .code yJ0_isLatin1_aae02 cJ0_isLatin1_aae02 1 (some .boolean), .methodLink RJ0 492 yJ0_isLatin1_aae02, .instanceMethod yJ0_isLatin1_aae02, .selects RJ0 yJ0_isLatin1_aae02 yJ0_isLatin1_aae02, .code yJ1_charAt_3b067 cJ1_charAt_3b067 2 (some .char), .code yJ0_checkIndex_df160 cJ0_checkIndex_df160 2 none, .fieldLink RJ0 1053 "jdk/internal/util/Preconditions" "SIOOBE_FORMATTER" "Ljava/util/function/BiFunction;", .code yJ3_checkIndex_8e157 cJ3_checkIndex_8e157 3 (some .int), .methodLink RJ0 1059 yJ3_checkIndex_8e157, .static yJ3_checkIndex_8e157, .initialized RJ3, .methodLink RJ1 9 yJ0_checkIndex_df160, .static yJ0_checkIndex_df160, .methodLink RJ0 495 yJ1_charAt_3b067, .static yJ1_charAt_3b067, .initialized RJ1, .methodLink RX12 356 yJ0_charAt_5068e, .instanceMethod yJ0_charAt_5068e, .selects RJ0 yJ0_charAt_5068e yJ0_charAt_5068e] bs)
set_option maxHeartbeats 4000000 in
set_option maxRecDepth 100000 in
theorem s_isWord (l : Launch) (dC : Nat → ClassId) (dI : Nat → Nat → Nat) (kA : Nat → ClassId) (adK adV : Nat → Nat) (G : gT) (H0 : Heap) (q : Nat → Nat) (wZ wN : Nat → Int) (wH wB wC : Int) (wL wK : Nat → Prop) (wU wV : Nat → Nat) (PI : Nat → Int → Prop) (im : Int) (PM PT : Nat → Int → Prop) (lS lB lE : Nat → Nat → Int → Prop) (lN : Nat → Int) (o0 : Nat) (pt : Int32) (bg : Int32) (vt : Nat → Int32) (sk : Nat) (hT : gH (dC, dI) kA (SHm q (wP wZ wN wH wB wC wL wK wU wV) PI im PM PT lS lB lE lN) G H0) (hr_o0 : G o0 = some 0) (hm_pt : el H0 o0 (dI 15 12) = some (.int pt)) (hm_bg : el H0 o0 (dI 15 14) = some (.int bg)) (hq0 : 0 ≤ pt.toInt ∧ pt.toInt ≤ 400) (hq1 : 0 ≤ bg.toInt ∧ bg.toInt ≤ 400) (hbp : bg.toInt ≤ pt.toInt) (hsk : sk < 48) (hc_vt : ct H0 (q 10) 400 vt) (hgz : ∀ i, 0 ≤ wZ i) (hgn : ∀ i, 6500000 ≤ wN i ∧ wN i ≤ 20200000) (hgh : 0 ≤ wH ∧ wH ≤ 40000) (hgb : 0 ≤ wB ∧ wB ≤ 3850000) (hgc : 0 ≤ wC ∧ wC ≤ 30) (hgi : 0 ≤ im ∧ im ≤ 1) (hgu : ∀ a t, G a = some (t + 1) → a = q t) : Met l yX12_isWord w_s_isWord ({ frames := 4, cells := 0, slots := 0, locals := 85 }) (va_Pc [.ref o0, .ref (adK sk)] (fun U => U.heap = H0 ∧ va_K (dC, dI) vwCl (tyl kA) U ∧ EVS adK adV (gA G H0.size) U U.heap)) (va_Qi (fun (r : Int32) (u : Unit) => (0 ≤ r.toInt ∧ r.toInt ≤ 1) ∧ (r = 1 → pt.toInt - bg.toInt = ((sLn sk : Nat) : Int)) ∧ ((r.toInt = 1 ∧ wd (sW sk) (tx vt) bg.toNatClampNeg pt.toNatClampNeg) ∨ (r.toInt = 0 ∧ ¬ wd (sW sk) (tx vt) bg.toNatClampNeg pt.toNatClampNeg))) (fun (_ : Unit) (t : State) => gH (dC, dI) kA (SHm q (wP wZ wN wH wB wC wL wK wU wV) PI im PM PT lS lB lE lN) G t.heap ∧ gF (dC, dI) SKm G ([] : List (Nat × Nat)) H0 t.heap) (gA G H0.size)) 0 0 (gA G H0.size) := by
  refine Met.ofW (cc := cX12_isWord) (maxL := 4) (ret := (some .boolean)) (by decide) rfl ?_
  intro p e s m args below meth c s₁ B hml hv
  obtain ⟨rfl, hH0, hK, hE⟩ := hv
  have hx := B.exec
  have hb := B.bytes
  have hr := B.returns
  have hts := atoms_spec (ws := w_s_isWord) B.pre
  have hown : s.vm.findClass RX12 = some m.cls := findClass_of_methodNamed B.named
  have hlocks := B.notSynchronized
  subst hH0
  generalize hAe : gA G s.heap.size = A at hE ⊢
  have hA : ∀ q : Nat, s.heap.size ≤ q → A q := fun q h => by rw [← hAe]; exact Or.inr h
  have hG := gA_of hAe
  have hS : va_S A s.heap s.heap [] := va_S.rf
  have hF : gF (dC, dI) SKm G ([] : List (Nat × Nat)) s.heap s.heap := gF.rf
  have hl := lv_entry ([.ref o0, .ref (adK sk)]) (n := 4) (Nat.le_of_ble_eq_true rfl)
  rw [lg_entry_eq]
  generalize (lg_sl ([.ref o0, .ref (adK sk)]) ++ List.replicate (4 - (lg_sl ([.ref o0, .ref (adK sk)])).length) Slot.unset).toArray = ls at hl ⊢
  have hl : lv_has ls 4 [(0, .ref o0), (1, .ref (adK sk))] := hl
  have hg1 : G (q 10) = some 11 := gx_of hT hr_o0 shm_0 (k := 10) (by decide) rfl
  refine lv_aload_n hx hb dX12_isWord_0 rfl (lv_at hl 0 rfl) ?_
  refine tw_getM (v := .int pt) hx hb hts bF_X12 hown hK hT hr_o0 shm_0 rfl 12 (by decide) (ht_at hts 0 rfl) (fun _ h9 => h9) hm_pt dX12_isWord_1 ?_
  refine lv_aload_n hx hb dX12_isWord_4 rfl (lv_at hl 0 rfl) ?_
  refine tw_getM (v := .int bg) hx hb hts bF_X12 hown hK hT hr_o0 shm_0 rfl 14 (by decide) (ht_at hts 1 rfl) (fun _ h9 => h9) hm_bg dX12_isWord_5 ?_
  refine lv_isub hx hb dX12_isWord_8 ?_
  refine lv_topi (fun x2 ex2 => ?_)
  have t3 : x2.toInt = pt.toInt - bg.toInt := ti_sub ex2 rfl rfl (by omega) (by omega)
  refine lv_aload_n hx hb dX12_isWord_9 rfl (lv_at hl 1 rfl) ?_
  have hFc := gA_free hG hA hS
  refine va_calli (va_runV (As := []) (rest := [.int x2]) ⟨hx, hb, hml, hown, hts⟩ (j_length l dC dI kA adK adV G s.heap q wZ wN wH wB wC wL wK wU wV PI im PM PT lS lB lE lN sk hT hsk hgz hgn hgh hgb hgc hgi hgu) (cwV 0 hts (goodIn_app (goodIn_r _ [12, 13, 14, 11] rfl (by decide +kernel)) (goodIn_ca (goodIn_r _ [3, 4, 5, 6, 7, 8, 9, 10, 11] rfl (by decide +kernel)) (bs_in _ _))) rfl rfl rfl (by decide +kernel) ⟨(Nat.le_of_ble_eq_true rfl), (Nat.le_of_ble_eq_true rfl)⟩) ⟨fun a U g mk q => by obtain ⟨q0, q1, qK, qE⟩ := q; exact ⟨q0, q1, va_K.moved (u := U) (U := U.calling g mk a) (Vm.Alike.refl U.vm) qK, EVS.blind g mk a qE⟩, hE.recv (i := sk) hsk hS, fun U hU hW => ⟨rfl, hU, va_K.moved hW.alike hK, hE.call hS hFc hU hW⟩⟩ rfl rfl hl.1 rfl (lv_room (Nat.le_of_ble_eq_true rfl)) dX12_isWord_10 ⟨(Nat.le_of_ble_eq_true rfl), (Nat.le_of_ble_eq_true rfl)⟩) hS (fun q _ h => hFc q h) hFc (fun r4 u t H locs ht hvm hw5 hB _ _ hS => ?_)
  obtain ⟨hT, hF1⟩ := hB
  rw [ht] at hT hF1
  have m6 := (hF1.fld hr_o0 skm_0 (k := 12) (by decide) (by decide)).trans hm_pt
  have m7 := (hF1.fld hr_o0 skm_0 (k := 14) (by decide) (by decide)).trans hm_bg
  have m8 := hc_vt.kept (hF1.arr hg1 skm_11 (by decide))
  have hF := hF.more hF1 (by decide)
  try dsimp only at hw5
  obtain ⟨h9, hf10⟩ := hw5
  refine lv_icmp_ne (tgt := 20) hx hb dX12_isWord_13 (by decide) (fun c11 => ?_) (fun c11 => ?_)
  · have t12 : x2.toInt ≠ r4.toInt := ti_ne c11 rfl rfl
    refine lv_iconst (v := 0) hx hb dX12_isWord_20 (by decide) ?_
    refine lv_istore_n (lv' := [(2, .int 0), (0, .ref o0), (1, .ref (adK sk))]) hx hb dX12_isWord_21 rfl hl (by decide) rfl (fun ls hl => ?_)
    refine lv_iconst (v := 0) hx hb dX12_isWord_22 (by decide) ?_
    refine lv_istore_n (lv' := [(3, .int 0), (2, .int 0), (0, .ref o0), (1, .ref (adK sk))]) hx hb dX12_isWord_23 rfl hl (by decide) rfl (fun ls hl => ?_)
    have key20 : ∀ (n20 i13 : Nat), i13 + n20 = 6 → 0 ≤ i13 → ((((0 : Int32).toInt = 0 ∨ pt.toInt - bg.toInt = ((sLn sk : Nat) : Int))) ∧ (((0 : Int32).toInt = 1 ∧ ∀ j : Nat, j < i13 → tx vt (bg.toNatClampNeg + j) = (sW sk).getD j 0) ∨ ((0 : Int32).toInt = 0 ∧ ¬ wd (sW sk) (tx vt) bg.toNatClampNeg pt.toNatClampNeg))) → ∀ (H : Heap) (locs : List Loc), gH (dC, dI) kA (SHm q (wP wZ wN wH wB wC wL wK wU wV) PI im PM PT lS lB lE lN) G H → gF (dC, dI) SKm G ([] : List (Nat × Nat)) s.heap H → va_S A s.heap H locs → ct H (q 10) 400 vt → el H o0 (dI 15 12) = some (.int pt) → el H o0 (dI 15 14) = some (.int bg) → ∀ ls : Array Slot, lv_has ls 4 [(3, .int (nI i13)), (2, .int 0), (0, .ref o0), (1, .ref (adK sk))] → W p l e (headSpec w_s_isWord ({ frames := 4, cells := 0, slots := 0, locals := 85 })).room s m #[.ref o0, .ref (adK sk)] below meth c H locs 0 0 (MQ below (va_Qi (fun (r : Int32) (u : Unit) => (0 ≤ r.toInt ∧ r.toInt ≤ 1) ∧ (r = 1 → pt.toInt - bg.toInt = ((sLn sk : Nat) : Int)) ∧ ((r.toInt = 1 ∧ wd (sW sk) (tx vt) bg.toNatClampNeg pt.toNatClampNeg) ∨ (r.toInt = 0 ∧ ¬ wd (sW sk) (tx vt) bg.toNatClampNeg pt.toNatClampNeg))) (fun (_ : Unit) (t : State) => gH (dC, dI) kA (SHm q (wP wZ wN wH wB wC wL wK wU wV) PI im PM PT lS lB lE lN) G t.heap ∧ gF (dC, dI) SKm G ([] : List (Nat × Nat)) s.heap t.heap) A) #[.ref o0, .ref (adK sk)] s 0 0 A) (F0 m 24 ls []) := by
      intro n20
      induction n20 with
      | zero =>
        intro i13 hn20 hlo21 ⟨hj17, hj18⟩ H locs hT hF hS m14 m15 m16 ls hl
        obtain rfl : 6 = i13 := by omega
        refine lv_iload_n hx hb dX12_isWord_24 rfl (lv_at hl 1 rfl) ?_
        refine lv_if_eq (tgt := 67) hx hb dX12_isWord_25 (by decide) (fun c22 => ?_) (fun c22 => absurd c22 (by decide))
        refine lv_iload_n hx hb dX12_isWord_67 rfl (lv_at hl 1 rfl) ?_
        exact W.zret (v := 0) hx hb hr (by decide) (fun t ht hW => ⟨⟨0, (), rfl, (by exact ⟨(rg_t (a := 0) (by decide) (by first | decide | omega) (by first | decide | omega)), (fun h => absurd h (by decide)), (by have l1 := sW_l hsk; have := tn_of (show pt.toInt = pt.toInt from rfl) (by omega); have := tn_of (show bg.toInt = bg.toInt from rfl) (by omega); have := (show (0 : Int32).toInt = 0 from (by decide)); rcases hj18 with ⟨h8, h7⟩ | ⟨h8, h7⟩; (exact Or.inl ⟨h8, by show pt.toNatClampNeg = _ + _; omega, fun j hj => h7 j (by omega)⟩); exact Or.inr ⟨h8, h7⟩)⟩), by (try dsimp only); rw [ht]; exact ⟨hT, hF⟩⟩, hS.F ht⟩) hS.2.2 dX12_isWord_68
      | succ n20 ih20 =>
        intro i13 hn20 hlo21 ⟨hj17, hj18⟩ H locs hT hF hS m14 m15 m16 ls hl
        have hlt22 : i13 < 6 := by omega
        refine lv_iload_n hx hb dX12_isWord_24 rfl (lv_at hl 1 rfl) ?_
        refine lv_if_eq (tgt := 67) hx hb dX12_isWord_25 (by decide) (fun c23 => ?_) (fun c23 => absurd c23 (by decide))
        refine lv_iload_n hx hb dX12_isWord_67 rfl (lv_at hl 1 rfl) ?_
        exact W.zret (v := 0) hx hb hr (by decide) (fun t ht hW => ⟨⟨0, (), rfl, (by exact ⟨(rg_t (a := 0) (by decide) (by first | decide | omega) (by first | decide | omega)), (fun h => absurd h (by decide)), (by have l1 := sW_l hsk; have := tn_of (show pt.toInt = pt.toInt from rfl) (by omega); have := tn_of (show bg.toInt = bg.toInt from rfl) (by omega); have := (show (0 : Int32).toInt = 0 from (by decide)); rcases hj18 with ⟨h8, h7⟩ | ⟨h8, h7⟩; (exact Or.inl ⟨h8, by show pt.toNatClampNeg = _ + _; omega, fun j hj => h7 j (by omega)⟩); exact Or.inr ⟨h8, h7⟩)⟩), by (try dsimp only); rw [ht]; exact ⟨hT, hF⟩⟩, hS.F ht⟩) hS.2.2 dX12_isWord_68
    exact key20 (6 - 0) 0 (by omega) (Nat.le_refl _) ⟨(by have := (show (0 : Int32).toInt = 0 from (by decide)); omega), (Or.inr ⟨by decide, fun h9 => by have l1 := sW_l hsk; have := tn_of (show pt.toInt = pt.toInt from rfl) (by omega); have := tn_of (show bg.toInt = bg.toInt from rfl) (by omega); have := h9.1; omega⟩)⟩ _ _ hT hF hS m8 m6 m7 ls (lv_sub hl [0, 1, 2, 3] rfl)
  · have t24 : x2.toInt = r4.toInt := ti_eq c11 rfl rfl
    refine lv_iconst (v := 1) hx hb dX12_isWord_16 (by decide) ?_
    refine lv_goto (tgt := 21) hx hb dX12_isWord_17 (by decide) ?_
    refine lv_istore_n (lv' := [(2, .int 1), (0, .ref o0), (1, .ref (adK sk))]) hx hb dX12_isWord_21 rfl hl (by decide) rfl (fun ls hl => ?_)
    refine lv_iconst (v := 0) hx hb dX12_isWord_22 (by decide) ?_
    refine lv_istore_n (lv' := [(3, .int 0), (2, .int 1), (0, .ref o0), (1, .ref (adK sk))]) hx hb dX12_isWord_23 rfl hl (by decide) rfl (fun ls hl => ?_)
    have key94 : ∀ (n94 i25 : Nat), i25 + n94 = 6 → 0 ≤ i25 → ∀ (z58 : Int32), ((0 ≤ z58.toInt ∧ z58.toInt ≤ 1) ∧ ((z58.toInt = 0 ∨ pt.toInt - bg.toInt = ((sLn sk : Nat) : Int))) ∧ ((z58.toInt = 1 ∧ ∀ j : Nat, j < i25 → tx vt (bg.toNatClampNeg + j) = (sW sk).getD j 0) ∨ (z58.toInt = 0 ∧ ¬ wd (sW sk) (tx vt) bg.toNatClampNeg pt.toNatClampNeg))) → ∀ (H : Heap) (locs : List Loc), gH (dC, dI) kA (SHm q (wP wZ wN wH wB wC wL wK wU wV) PI im PM PT lS lB lE lN) G H → gF (dC, dI) SKm G ([] : List (Nat × Nat)) s.heap H → va_S A s.heap H locs → ct H (q 10) 400 vt → el H o0 (dI 15 12) = some (.int pt) → el H o0 (dI 15 14) = some (.int bg) → ∀ ls : Array Slot, lv_has ls 4 [(3, .int (nI i25)), (2, .int z58), (0, .ref o0), (1, .ref (adK sk))] → W p l e (headSpec w_s_isWord ({ frames := 4, cells := 0, slots := 0, locals := 85 })).room s m #[.ref o0, .ref (adK sk)] below meth c H locs 0 0 (MQ below (va_Qi (fun (r : Int32) (u : Unit) => (0 ≤ r.toInt ∧ r.toInt ≤ 1) ∧ (r = 1 → pt.toInt - bg.toInt = ((sLn sk : Nat) : Int)) ∧ ((r.toInt = 1 ∧ wd (sW sk) (tx vt) bg.toNatClampNeg pt.toNatClampNeg) ∨ (r.toInt = 0 ∧ ¬ wd (sW sk) (tx vt) bg.toNatClampNeg pt.toNatClampNeg))) (fun (_ : Unit) (t : State) => gH (dC, dI) kA (SHm q (wP wZ wN wH wB wC wL wK wU wV) PI im PM PT lS lB lE lN) G t.heap ∧ gF (dC, dI) SKm G ([] : List (Nat × Nat)) s.heap t.heap) A) #[.ref o0, .ref (adK sk)] s 0 0 A) (F0 m 24 ls []) := by
      intro n94
      induction n94 with
      | zero =>
        intro i25 hn94 hlo95 z58 ⟨h59, hj63, hj64⟩ H locs hT hF hS m60 m61 m62 ls hl
        obtain rfl : 6 = i25 := by omega
        refine lv_iload_n hx hb dX12_isWord_24 rfl (lv_at hl 1 rfl) ?_
        refine lv_if_eq (tgt := 67) hx hb dX12_isWord_25 (by decide) (fun c96 => ?_) (fun c96 => ?_)
        · have t97 : z58.toInt = 0 := ti_eq c96 rfl (by decide)
          refine lv_iload_n hx hb dX12_isWord_67 rfl (lv_at hl 1 rfl) ?_
          exact W.zret (v := z58) hx hb hr (nar_b (by have q8 := ti_all z58; omega)) (fun t ht hW => ⟨⟨z58, (), rfl, (by exact ⟨(by have q8 := ti_all z58; omega), (fun h9 => by have q8 := congrArg Int32.toInt h9; have q7 : (1 : Int32).toInt = 1 := (by decide); omega), (by have l1 := sW_l hsk; have := tn_of (show pt.toInt = pt.toInt from rfl) (by omega); have := tn_of (show bg.toInt = bg.toInt from rfl) (by omega); have := (show z58.toInt = z58.toInt from rfl); rcases hj64 with ⟨h8, h7⟩ | ⟨h8, h7⟩; (exact Or.inl ⟨h8, by show pt.toNatClampNeg = _ + _; omega, fun j hj => h7 j (by omega)⟩); exact Or.inr ⟨h8, h7⟩)⟩), by (try dsimp only); rw [ht]; exact ⟨hT, hF⟩⟩, hS.F ht⟩) hS.2.2 dX12_isWord_68
        · have t98 : z58.toInt ≠ 0 := ti_ne c96 rfl (by decide)
          refine lv_iload_n hx hb dX12_isWord_28 rfl (lv_at hl 0 rfl) ?_
          refine lv_aload_n hx hb dX12_isWord_29 rfl (lv_at hl 3 rfl) ?_
          have hFc := gA_free hG hA hS
          refine va_calli (va_runV (As := []) (rest := [.int (nI 6)]) ⟨hx, hb, hml, hown, hts⟩ (j_length l dC dI kA adK adV G H q wZ wN wH wB wC wL wK wU wV PI im PM PT lS lB lE lN sk hT hsk hgz hgn hgh hgb hgc hgi hgu) (cwV 0 hts (goodIn_app (goodIn_r _ [12, 13, 14, 11] rfl (by decide +kernel)) (goodIn_ca (goodIn_r _ [3, 4, 5, 6, 7, 8, 9, 10, 11] rfl (by decide +kernel)) (bs_in _ _))) rfl rfl rfl (by decide +kernel) ⟨(Nat.le_of_ble_eq_true rfl), (Nat.le_of_ble_eq_true rfl)⟩) ⟨fun a U g mk q => by obtain ⟨q0, q1, qK, qE⟩ := q; exact ⟨q0, q1, va_K.moved (u := U) (U := U.calling g mk a) (Vm.Alike.refl U.vm) qK, EVS.blind g mk a qE⟩, hE.recv (i := sk) hsk hS, fun U hU hW => ⟨rfl, hU, va_K.moved hW.alike hK, hE.call hS hFc hU hW⟩⟩ rfl rfl hl.1 rfl (lv_room (Nat.le_of_ble_eq_true rfl)) dX12_isWord_30 ⟨(Nat.le_of_ble_eq_true rfl), (Nat.le_of_ble_eq_true rfl)⟩) hS (fun q _ h => hFc q h) hFc (fun r99 u t H locs ht hvm hw100 hB _ _ hS => ?_)
          obtain ⟨hT, hF1⟩ := hB
          rw [ht] at hT hF1
          have hF := hF.more hF1 (by decide)
          try dsimp only at hw100
          obtain ⟨h104, hf105⟩ := hw100
          refine lv_icmp_ge (tgt := 67) hx hb dX12_isWord_33 (by decide) (fun c106 => ?_) (fun c106 => (by exfalso; have q9 : ((6 : Nat) : Int) < r99.toInt := ti_nle c106 rfl (nI_toInt (by omega)); omega))
          have t107 : r99.toInt ≤ ((6 : Nat) : Int) := ti_le c106 rfl (nI_toInt (by omega))
          refine lv_iload_n hx hb dX12_isWord_67 rfl (lv_at hl 1 rfl) ?_
          exact W.zret (v := z58) hx hb hr (nar_b (by have q8 := ti_all z58; omega)) (fun t ht hW => ⟨⟨z58, (), rfl, (by exact ⟨(by have q8 := ti_all z58; omega), (fun h9 => by have q8 := congrArg Int32.toInt h9; have q7 : (1 : Int32).toInt = 1 := (by decide); omega), (by have l1 := sW_l hsk; have := tn_of (show pt.toInt = pt.toInt from rfl) (by omega); have := tn_of (show bg.toInt = bg.toInt from rfl) (by omega); have := (show z58.toInt = z58.toInt from rfl); rcases hj64 with ⟨h8, h7⟩ | ⟨h8, h7⟩; (exact Or.inl ⟨h8, by show pt.toNatClampNeg = _ + _; omega, fun j hj => h7 j (by omega)⟩); exact Or.inr ⟨h8, h7⟩)⟩), by (try dsimp only); rw [ht]; exact ⟨hT, hF⟩⟩, hS.F ht⟩) hS.2.2 dX12_isWord_68
      | succ n94 ih94 =>
        intro i25 hn94 hlo95 z58 ⟨h59, hj63, hj64⟩ H locs hT hF hS m60 m61 m62 ls hl
        have hlt107 : i25 < 6 := by omega
        refine lv_iload_n hx hb dX12_isWord_24 rfl (lv_at hl 1 rfl) ?_
        refine lv_if_eq (tgt := 67) hx hb dX12_isWord_25 (by decide) (fun c108 => ?_) (fun c108 => ?_)
        · have t109 : z58.toInt = 0 := ti_eq c108 rfl (by decide)
          refine lv_iload_n hx hb dX12_isWord_67 rfl (lv_at hl 1 rfl) ?_
          exact W.zret (v := z58) hx hb hr (nar_b (by have q8 := ti_all z58; omega)) (fun t ht hW => ⟨⟨z58, (), rfl, (by exact ⟨(by have q8 := ti_all z58; omega), (fun h9 => by have q8 := congrArg Int32.toInt h9; have q7 : (1 : Int32).toInt = 1 := (by decide); omega), (by have l1 := sW_l hsk; have := tn_of (show pt.toInt = pt.toInt from rfl) (by omega); have := tn_of (show bg.toInt = bg.toInt from rfl) (by omega); have := (show z58.toInt = z58.toInt from rfl); rcases hj64 with ⟨h8, h7⟩ | ⟨h8, h7⟩; (exact Or.inl ⟨h8, by show pt.toNatClampNeg = _ + _; omega, fun j hj => h7 j (by omega)⟩); exact Or.inr ⟨h8, h7⟩)⟩), by (try dsimp only); rw [ht]; exact ⟨hT, hF⟩⟩, hS.F ht⟩) hS.2.2 dX12_isWord_68
        · have t110 : z58.toInt ≠ 0 := ti_ne c108 rfl (by decide)
          refine lv_iload_n hx hb dX12_isWord_28 rfl (lv_at hl 0 rfl) ?_
          refine lv_aload_n hx hb dX12_isWord_29 rfl (lv_at hl 3 rfl) ?_
          have hFc := gA_free hG hA hS
          refine va_calli (va_runV (As := []) (rest := [.int (nI i25)]) ⟨hx, hb, hml, hown, hts⟩ (j_length l dC dI kA adK adV G H q wZ wN wH wB wC wL wK wU wV PI im PM PT lS lB lE lN sk hT hsk hgz hgn hgh hgb hgc hgi hgu) (cwV 0 hts (goodIn_app (goodIn_r _ [12, 13, 14, 11] rfl (by decide +kernel)) (goodIn_ca (goodIn_r _ [3, 4, 5, 6, 7, 8, 9, 10, 11] rfl (by decide +kernel)) (bs_in _ _))) rfl rfl rfl (by decide +kernel) ⟨(Nat.le_of_ble_eq_true rfl), (Nat.le_of_ble_eq_true rfl)⟩) ⟨fun a U g mk q => by obtain ⟨q0, q1, qK, qE⟩ := q; exact ⟨q0, q1, va_K.moved (u := U) (U := U.calling g mk a) (Vm.Alike.refl U.vm) qK, EVS.blind g mk a qE⟩, hE.recv (i := sk) hsk hS, fun U hU hW => ⟨rfl, hU, va_K.moved hW.alike hK, hE.call hS hFc hU hW⟩⟩ rfl rfl hl.1 rfl (lv_room (Nat.le_of_ble_eq_true rfl)) dX12_isWord_30 ⟨(Nat.le_of_ble_eq_true rfl), (Nat.le_of_ble_eq_true rfl)⟩) hS (fun q _ h => hFc q h) hFc (fun r111 u t H locs ht hvm hw112 hB _ _ hS => ?_)
          obtain ⟨hT, hF1⟩ := hB
          rw [ht] at hT hF1
          have m113 := m60.kept (hF1.arr hg1 skm_11 (by decide))
          have m114 := (hF1.fld hr_o0 skm_0 (k := 12) (by decide) (by decide)).trans m61
          have m115 := (hF1.fld hr_o0 skm_0 (k := 14) (by decide) (by decide)).trans m62
          have hF := hF.more hF1 (by decide)
          try dsimp only at hw112
          obtain ⟨h116, hf117⟩ := hw112
          refine lv_icmp_ge (tgt := 67) hx hb dX12_isWord_33 (by decide) (fun c118 => ?_) (fun c118 => ?_)
          · have t119 : r111.toInt ≤ ((i25 : Nat) : Int) := ti_le c118 rfl (nI_toInt (by omega))
            refine lv_iload_n hx hb dX12_isWord_67 rfl (lv_at hl 1 rfl) ?_
            exact W.zret (v := z58) hx hb hr (nar_b (by have q8 := ti_all z58; omega)) (fun t ht hW => ⟨⟨z58, (), rfl, (by exact ⟨(by have q8 := ti_all z58; omega), (fun h9 => by have q8 := congrArg Int32.toInt h9; have q7 : (1 : Int32).toInt = 1 := (by decide); omega), (by have l1 := sW_l hsk; have := tn_of (show pt.toInt = pt.toInt from rfl) (by omega); have := tn_of (show bg.toInt = bg.toInt from rfl) (by omega); have := (show z58.toInt = z58.toInt from rfl); rcases hj64 with ⟨h8, h7⟩ | ⟨h8, h7⟩; (exact Or.inl ⟨h8, by show pt.toNatClampNeg = _ + _; omega, fun j hj => h7 j (by omega)⟩); exact Or.inr ⟨h8, h7⟩)⟩), by (try dsimp only); rw [ht]; exact ⟨hT, hF⟩⟩, hS.F ht⟩) hS.2.2 dX12_isWord_68
          · have t120 : ((i25 : Nat) : Int) < r111.toInt := ti_nle c118 rfl (nI_toInt (by omega))
            refine lv_aload_n hx hb dX12_isWord_36 rfl (lv_at hl 2 rfl) ?_
            refine tw_get hx hb hts bF_X12 hown hK hT hr_o0 shm_0 rfl 10 (by decide) (ht_at hts 14 rfl) (fun _ h9 => h9) dX12_isWord_37 (fun v9 m121 h9 => ?_)
            obtain ⟨rfl, hg122⟩ := h9 _ rfl
            refine lv_aload_n hx hb dX12_isWord_40 rfl (lv_at hl 2 rfl) ?_
            refine tw_getM (v := .int bg) hx hb hts bF_X12 hown hK hT hr_o0 shm_0 rfl 14 (by decide) (ht_at hts 1 rfl) (fun _ h9 => h9) m115 dX12_isWord_41 ?_
            refine lv_iload_n hx hb dX12_isWord_44 rfl (lv_at hl 0 rfl) ?_
            refine lv_iadd hx hb dX12_isWord_45 ?_
            refine lv_topi (fun x123 ex123 => ?_)
            have t124 : x123.toInt = bg.toInt + ((i25 : Nat) : Int) := ti_add ex123 rfl (nI_toInt (by omega)) (by omega) (by omega)
            refine tw_bald (i := x123) hx hb hK hT hg1 shm_11 rfl (vin_t (a := x123.toInt) rfl (by omega) (by omega)) dX12_isWord_46 (fun v9 m125 h9 => ?_)
            obtain ⟨x126, rfl, gx126, kx126⟩ := h9
            have cx126 := m113.at m125 (by have q9 := tn_of (show x123.toInt = x123.toInt from rfl) (by omega); omega)
            refine lv_aload_n hx hb dX12_isWord_47 rfl (lv_at hl 3 rfl) ?_
            refine lv_iload_n hx hb dX12_isWord_48 rfl (lv_at hl 0 rfl) ?_
            have hFc := gA_free hG hA hS
            refine va_calli (va_runV (As := [.int (nI i25)]) (rest := [.int x126]) ⟨hx, hb, hml, hown, hts⟩ (j_charAt l dC dI kA adK adV G H q wZ wN wH wB wC wL wK wU wV PI im PM PT lS lB lE lN (nI i25) sk hT (rg_t (a := ((i25 : Nat) : Int)) (nI_toInt (by omega)) (by omega) (by omega)) (by have := (show (nI i25).toInt = ((i25 : Nat) : Int) from (nI_toInt (by omega))); omega) hsk hgz hgn hgh hgb hgc hgi hgu) (cwV 1 hts (goodIn_app (goodIn_r _ [33, 34, 35, 11] rfl (by decide +kernel)) (goodIn_ca (goodIn_r _ [16, 17, 6, 7, 18, 19, 20, 11, 4, 21, 22, 23, 24, 25, 26, 27, 28, 29, 30, 31, 32] rfl (by decide +kernel)) (bs_in _ _))) rfl rfl rfl (by decide +kernel) ⟨(Nat.le_of_ble_eq_true rfl), (Nat.le_of_ble_eq_true rfl)⟩) ⟨fun a U g mk q => by obtain ⟨q0, q1, qK, qE⟩ := q; exact ⟨q0, q1, va_K.moved (u := U) (U := U.calling g mk a) (Vm.Alike.refl U.vm) qK, EVS.blind g mk a qE⟩, hE.recv (i := sk) hsk hS, fun U hU hW => ⟨rfl, hU, va_K.moved hW.alike hK, hE.call hS hFc hU hW⟩⟩ rfl rfl hl.1 rfl (lv_room (Nat.le_of_ble_eq_true rfl)) dX12_isWord_49 ⟨(Nat.le_of_ble_eq_true rfl), (Nat.le_of_ble_eq_true rfl)⟩) hS (fun q _ h => hFc q h) hFc (fun r127 u t H locs ht hvm hw128 hB _ _ hS => ?_)
            obtain ⟨hT, hF1⟩ := hB
            rw [ht] at hT hF1
            have m129 := m113.kept (hF1.arr hg1 skm_11 (by decide))
            have m130 := (hF1.fld hr_o0 skm_0 (k := 12) (by decide) (by decide)).trans m114
            have m131 := (hF1.fld hr_o0 skm_0 (k := 14) (by decide) (by decide)).trans m115
            have hF := hF.more hF1 (by decide)
            try dsimp only at hw128
            have hf133 := hw128
            refine lv_icmp_ne (tgt := 59) hx hb dX12_isWord_52 (by decide) (fun c134 => ?_) (fun c134 => ?_)
            · have t135 : x126.toInt ≠ r127.toInt := ti_ne c134 rfl rfl
              refine lv_iconst (v := 0) hx hb dX12_isWord_59 (by decide) ?_
              refine lv_istore_n (lv' := [(2, .int 0), (3, .int (nI i25)), (0, .ref o0), (1, .ref (adK sk))]) hx hb dX12_isWord_60 rfl hl (by decide) rfl (fun ls hl => ?_)
              refine lv_iinc (v := nI (i25 + 1)) (lv' := [(3, .int (nI (i25 + 1))), (2, .int 0), (0, .ref o0), (1, .ref (adK sk))]) hx hb dX12_isWord_61 hl (k := 1) rfl (nI_add i25 1) (by decide) rfl (fun ls hl => ?_)
              refine lv_goto (tgt := 24) hx hb dX12_isWord_64 (by decide) ?_
              exact ih94 (i25 + 1) (by omega) (by omega) 0 ⟨(rg_t (a := 0) (by decide) (by first | decide | omega) (by first | decide | omega)), (by have := (show (0 : Int32).toInt = 0 from (by decide)); omega), (Or.inr ⟨by decide, iw_n (i := i25) (show (vt x123.toNatClampNeg).toInt ≠ _ from fun h8 => by have c9 := congrArg Int32.toInt cx126; have c8 := hf133; omega) (by have := tn_of (show x123.toInt = x123.toInt from rfl) (by omega); have := tn_of (show bg.toInt = bg.toInt from rfl) (by omega); omega) (tn_nI (by omega)) (by have l1 := sW_l hsk; omega)⟩)⟩ _ _ hT hF hS m129 m130 m131 ls (lv_sub hl [0, 1, 2, 3] rfl)
            · have t136 : x126.toInt = r127.toInt := ti_eq c134 rfl rfl
              refine lv_iconst (v := 1) hx hb dX12_isWord_55 (by decide) ?_
              refine lv_goto (tgt := 60) hx hb dX12_isWord_56 (by decide) ?_
              refine lv_istore_n (lv' := [(2, .int 1), (3, .int (nI i25)), (0, .ref o0), (1, .ref (adK sk))]) hx hb dX12_isWord_60 rfl hl (by decide) rfl (fun ls hl => ?_)
              refine lv_iinc (v := nI (i25 + 1)) (lv' := [(3, .int (nI (i25 + 1))), (2, .int 1), (0, .ref o0), (1, .ref (adK sk))]) hx hb dX12_isWord_61 hl (k := 1) rfl (nI_add i25 1) (by decide) rfl (fun ls hl => ?_)
              refine lv_goto (tgt := 24) hx hb dX12_isWord_64 (by decide) ?_
              exact ih94 (i25 + 1) (by omega) (by omega) 1 ⟨(rg_t (a := 1) (by decide) (by first | decide | omega) (by first | decide | omega)), (by have := (show (1 : Int32).toInt = 1 from (by decide)); omega), (Or.inl ⟨by decide, iw_s (hj64.resolve_right (fun h8 => by have := h8.1; omega)).2 (show (vt x123.toNatClampNeg).toInt = _ from (congrArg Int32.toInt cx126).symm.trans ((by omega : x126.toInt = r127.toInt).trans hf133)) (by have := tn_of (show x123.toInt = x123.toInt from rfl) (by omega); have := tn_of (show bg.toInt = bg.toInt from rfl) (by omega); omega) (tn_nI (by omega))⟩)⟩ _ _ hT hF hS m129 m130 m131 ls (lv_sub hl [0, 1, 2, 3] rfl)
    exact key94 (6 - 0) 0 (by omega) (Nat.le_refl _) 1 ⟨(rg_t (a := 1) (by decide) (by first | decide | omega) (by first | decide | omega)), (by have := (show (1 : Int32).toInt = 1 from (by decide)); omega), (Or.inl ⟨by decide, fun j h9 => absurd h9 (Nat.not_lt_zero j)⟩)⟩ _ _ hT hF hS m8 m6 m7 ls (lv_sub hl [0, 1, 2, 3] rfl)
def w_s_passes : List Cond := .code yX12_passes cX12_passes 2 (some .boolean) :: (HAppend.hAppend (α := List Cond) (β := List Cond) (γ := List Cond) [.code yX12_word cX12_word 1 none, .code yX12_blanks cX12_blanks 1 none, .code yX12_isAt cX12_isAt 3 (some .boolean), .fieldLink RX12 335 "SeaLandModel" "point" "I", .fieldLink RX12 338 "SeaLandModel" "end" "I", .fieldLink RX12 31 "SeaLandModel" "tape" "[B", .methodLink RX12 341 yX12_isAt, .instanceMethod yX12_isAt, .selects RX12 yX12_isAt yX12_isAt, .initialized RX12, .fieldLink RX12 345 "SeaLandModel" "begin" "I", .methodLink RX12 348 yX12_blanks, .instanceMethod yX12_blanks, .selects RX12 yX12_blanks yX12_blanks, .methodLink RX12 360 yX12_word, .instanceMethod yX12_word, .selects RX12 yX12_word yX12_word, .code yX12_isWord cX12_isWord 4 (some .boolean), .code yJ0_length_8abf5 cJ0_length_8abf5 1 (some .int), .fieldLink RJ0 9 "java/lang/String" "value" "[B", .code yJ0_coder_7d493 cJ0_coder_7d493 1 (some .byte), .fieldLink RJ0 38 "java/lang/String" "COMPACT_STRINGS" "Z", .fieldLink RJ0 15 "java/lang/String" "coder" "B", .methodLink RJ0 335 yJ0_coder_7d493, .instanceMethod yJ0_coder_7d493, .selects RJ0 yJ0_coder_7d493 yJ0_coder_7d493, .initialized RJ0, .methodLink RX12 351 yJ0_length_8abf5, .instanceMethod yJ0_length_8abf5, .selects RJ0 yJ0_length_8abf5 yJ0_length_8abf5, .code yJ0_charAt_5068e cJ0_charAt_5068e 2 (some .char), .code yJ0_isLatin1_aae02 cJ0_isLatin1_aae02 1 (some .boolean), .methodLink RJ0 492 yJ0_isLatin1_aae02, .instanceMethod yJ0_isLatin1_aae02, .selects RJ0 yJ0_isLatin1_aae02 yJ0_isLatin1_aae02, .code yJ1_charAt_3b067 cJ1_charAt_3b067 2 (some .char), .code yJ0_checkIndex_df160 cJ0_checkIndex_df160 2 none, .fieldLink RJ0 1053 "jdk/internal/util/Preconditions" "SIOOBE_FORMATTER" "Ljava/util/function/BiFunction;", .code yJ3_checkIndex_8e157 cJ3_checkIndex_8e157 3 (some .int), .methodLink RJ0 1059 yJ3_checkIndex_8e157, .static yJ3_checkIndex_8e157, .initialized RJ3, .methodLink RJ1 9 yJ0_checkIndex_df160, .static yJ0_checkIndex_df160, .methodLink RJ0 495 yJ1_charAt_3b067, .static yJ1_charAt_3b067, .initialized RJ1, .methodLink RX12 356 yJ0_charAt_5068e, .instanceMethod yJ0_charAt_5068e, .selects RJ0 yJ0_charAt_5068e yJ0_charAt_5068e, .methodLink RX12 363 yX12_isWord, .instanceMethod yX12_isWord, .selects RX12 yX12_isWord yX12_isWord] bs)
set_option maxHeartbeats 4000000 in
set_option maxRecDepth 100000 in
theorem s_passes (l : Launch) (dC : Nat → ClassId) (dI : Nat → Nat → Nat) (kA : Nat → ClassId) (adK adV : Nat → Nat) (G : gT) (H0 : Heap) (q : Nat → Nat) (wZ wN : Nat → Int) (wH wB wC : Int) (wL wK : Nat → Prop) (wU wV : Nat → Nat) (PI : Nat → Int → Prop) (im : Int) (PM PT : Nat → Int → Prop) (lS lB lE : Nat → Nat → Int → Prop) (lN : Nat → Int) (o0 : Nat) (pt : Int32) (en : Int32) (vt : Nat → Int32) (sk : Nat) (N : Nat) (hT : gH (dC, dI) kA (SHm q (wP wZ wN wH wB wC wL wK wU wV) PI im PM PT lS lB lE lN) G H0) (hr_o0 : G o0 = some 0) (hm_pt : el H0 o0 (dI 15 12) = some (.int pt)) (hm_en : el H0 o0 (dI 15 13) = some (.int en)) (hq0 : 0 ≤ pt.toInt ∧ pt.toInt ≤ 400) (hq1 : 0 ≤ en.toInt ∧ en.toInt ≤ 400) (hpe : pt.toInt ≤ en.toInt) (hN : en.toInt = ((N : Nat) : Int)) (hsk : sk < 48) (hc_vt : ct H0 (q 10) 400 vt) (hgz : ∀ i, 0 ≤ wZ i) (hgn : ∀ i, 6500000 ≤ wN i ∧ wN i ≤ 20200000) (hgh : 0 ≤ wH ∧ wH ≤ 40000) (hgb : 0 ≤ wB ∧ wB ≤ 3850000) (hgc : 0 ≤ wC ∧ wC ≤ 30) (hgi : 0 ≤ im ∧ im ≤ 1) (hgu : ∀ a t, G a = some (t + 1) → a = q t) : Met l yX12_passes w_s_passes ({ frames := 5, cells := 0, slots := 0, locals := 108 }) (va_Pc [.ref o0, .ref (adK sk)] (fun U => U.heap = H0 ∧ va_K (dC, dI) vwCl (tyl kA) U ∧ EVS adK adV (gA G H0.size) U U.heap)) (va_Qi (fun (r : Int32) (u : Int32 × Int32) => match u with | (p1, b1) => (0 ≤ p1.toInt ∧ p1.toInt ≤ 400) ∧ (0 ≤ b1.toInt ∧ b1.toInt ≤ 400) ∧ (0 ≤ r.toInt ∧ r.toInt ≤ 1) ∧ (r = 1 → pt.toInt + 1 ≤ p1.toInt) ∧ (pt.toInt ≤ p1.toInt ∧ p1.toInt ≤ en.toInt) ∧ (skp (tx vt) N pt.toNatClampNeg = b1.toNatClampNeg) ∧ (tR (kd (tx vt) N) (xn (tx vt) N) (sC sk) (skp (tx vt) N pt.toNatClampNeg) r.toInt (skp (tx vt) N p1.toNatClampNeg))) (fun (u : Int32 × Int32) (t : State) => match u with | (p1, b1) => gH (dC, dI) kA (SHm q (wP wZ wN wH wB wC wL wK wU wV) PI im PM PT lS lB lE lN) G t.heap ∧ gF (dC, dI) SKm G ([(0, 12), (0, 14)] : List (Nat × Nat)) H0 t.heap ∧ el t.heap o0 (dI 15 12) = some (.int p1) ∧ el t.heap o0 (dI 15 14) = some (.int b1)) (gA G H0.size)) 0 0 (gA G H0.size) := by
  refine Met.ofW (cc := cX12_passes) (maxL := 2) (ret := (some .boolean)) (by decide) rfl ?_
  intro p e s m args below meth c s₁ B hml hv
  obtain ⟨rfl, hH0, hK, hE⟩ := hv
  have hx := B.exec
  have hb := B.bytes
  have hr := B.returns
  have hts := atoms_spec (ws := w_s_passes) B.pre
  have hown : s.vm.findClass RX12 = some m.cls := findClass_of_methodNamed B.named
  have hlocks := B.notSynchronized
  subst hH0
  generalize hAe : gA G s.heap.size = A at hE ⊢
  have hA : ∀ q : Nat, s.heap.size ≤ q → A q := fun q h => by rw [← hAe]; exact Or.inr h
  have hG := gA_of hAe
  have hS : va_S A s.heap s.heap [] := va_S.rf
  have hF : gF (dC, dI) SKm G ([(0, 12), (0, 14)] : List (Nat × Nat)) s.heap s.heap := gF.rf
  have hl := lv_entry ([.ref o0, .ref (adK sk)]) (n := 2) (Nat.le_of_ble_eq_true rfl)
  rw [lg_entry_eq]
  generalize (lg_sl ([.ref o0, .ref (adK sk)]) ++ List.replicate (2 - (lg_sl ([.ref o0, .ref (adK sk)])).length) Slot.unset).toArray = ls at hl ⊢
  have hl : lv_has ls 2 [(0, .ref o0), (1, .ref (adK sk))] := hl
  have hg1 : G (q 10) = some 11 := gx_of hT hr_o0 shm_0 (k := 10) (by decide) rfl
  have t2 : 2 ≤ sLn sk ∧ sLn sk ≤ 6 := sLn_b hsk
  refine lv_aload_n hx hb dX12_passes_0 rfl (lv_at hl 0 rfl) ?_
  have hFc := gA_free hG hA hS
  refine va_callv (va_runV (As := []) (rest := []) ⟨hx, hb, hml, hown, hts⟩ (s_word l dC dI kA adK adV G s.heap q wZ wN wH wB wC wL wK wU wV PI im PM PT lS lB lE lN o0 pt en vt N hT hr_o0 hm_pt hm_en (by have q8 := ti_all pt; omega) (by have q8 := ti_all en; omega) (by have := (show pt.toInt = pt.toInt from rfl); have := (show en.toInt = en.toInt from rfl); omega) hN hc_vt hgz hgn hgh hgb hgc hgi hgu) (cwV 0 hts (goodIn_app (goodIn_r _ [15, 16, 17, 10] rfl (by decide +kernel)) (goodIn_ca (goodIn_r _ [1, 2, 3, 4, 5, 6, 7, 8, 9, 10, 11, 12, 13, 14] rfl (by decide +kernel)) (bs_in _ _))) rfl rfl rfl (by decide +kernel) ⟨(Nat.le_of_ble_eq_true rfl), (Nat.le_of_ble_eq_true rfl)⟩) ⟨fun a U g mk q => by obtain ⟨q0, q1, qK, qE⟩ := q; exact ⟨q0, q1, va_K.moved (u := U) (U := U.calling g mk a) (Vm.Alike.refl U.vm) qK, EVS.blind g mk a qE⟩, gH_rc hK hT hr_o0 shm_0 rfl, fun U hU hW => ⟨rfl, hU, va_K.moved hW.alike hK, hE.call hS hFc hU hW⟩⟩ rfl rfl hl.1 rfl (lv_room (Nat.le_of_ble_eq_true rfl)) dX12_passes_1 ⟨(Nat.le_of_ble_eq_true rfl), (Nat.le_of_ble_eq_true rfl)⟩) hS (fun q _ h => hFc q h) hFc (fun u t H locs ht hvm hw4 hB _ _ hS => ?_)
  obtain ⟨u5, u6⟩ := u
  obtain ⟨hT, hF1, m7, m8⟩ := hB
  rw [ht] at hT hF1 m7 m8
  have m11 := hc_vt.kept (hF1.arr hg1 skm_11 (by decide))
  have hF := hF.more hF1 (by decide)
  try dsimp only at hw4
  obtain ⟨h12, h13, hf14, hf15, hf16⟩ := hw4
  refine lv_aload_n hx hb dX12_passes_4 rfl (lv_at hl 0 rfl) ?_
  refine lv_aload_n hx hb dX12_passes_5 rfl (lv_at hl 1 rfl) ?_
  have hFc := gA_free hG hA hS
  refine va_calli (va_runV (As := [.ref (adK sk)]) (rest := []) ⟨hx, hb, hml, hown, hts⟩ (s_isWord l dC dI kA adK adV G H q wZ wN wH wB wC wL wK wU wV PI im PM PT lS lB lE lN o0 u5 u6 vt sk hT hr_o0 m7 m8 (by have q8 := ti_all u5; omega) (by have q8 := ti_all u6; omega) (by have := (show u5.toInt = u5.toInt from rfl); have := (show u6.toInt = u6.toInt from rfl); omega) hsk m11 hgz hgn hgh hgb hgc hgi hgu) (cwV 1 hts (goodIn_app (goodIn_r _ [51, 52, 53, 10] rfl (by decide +kernel)) (goodIn_ca (goodIn_r _ [18, 4, 11, 19, 20, 21, 22, 23, 24, 25, 26, 27, 28, 29, 30, 6, 31, 32, 33, 34, 35, 36, 37, 38, 39, 40, 41, 42, 43, 44, 45, 46, 47, 48, 49, 50] rfl (by decide +kernel)) (bs_in _ _))) rfl rfl rfl (by decide +kernel) ⟨(Nat.le_of_ble_eq_true rfl), (Nat.le_of_ble_eq_true rfl)⟩) ⟨fun a U g mk q => by obtain ⟨q0, q1, qK, qE⟩ := q; exact ⟨q0, q1, va_K.moved (u := U) (U := U.calling g mk a) (Vm.Alike.refl U.vm) qK, EVS.blind g mk a qE⟩, gH_rc hK hT hr_o0 shm_0 rfl, fun U hU hW => ⟨rfl, hU, va_K.moved hW.alike hK, hE.call hS hFc hU hW⟩⟩ rfl rfl hl.1 rfl (lv_room (Nat.le_of_ble_eq_true rfl)) dX12_passes_6 ⟨(Nat.le_of_ble_eq_true rfl), (Nat.le_of_ble_eq_true rfl)⟩) hS (fun q _ h => hFc q h) hFc (fun r17 u t H locs ht hvm hw18 hB _ _ hS => ?_)
  obtain ⟨hT, hF1⟩ := hB
  rw [ht] at hT hF1
  have m21 := (hF1.fld hr_o0 skm_0 (k := 12) (by decide) (by decide)).trans m7
  have m22 := (hF1.fld hr_o0 skm_0 (k := 14) (by decide) (by decide)).trans m8
  have hF := hF.more hF1 (by decide)
  try dsimp only at hw18
  obtain ⟨h23, hi24, hf25⟩ := hw18
  refine lv_if_eq (tgt := 14) hx hb dX12_passes_9 (by decide) (fun c26 => ?_) (fun c26 => ?_)
  · have t27 : r17.toInt = 0 := ti_eq c26 rfl (by decide)
    refine lv_aload_n hx hb dX12_passes_14 rfl (lv_at hl 0 rfl) ?_
    refine lv_aload_n hx hb dX12_passes_15 rfl (lv_at hl 0 rfl) ?_
    refine tw_getM (v := .int u6) hx hb hts bF_X12 hown hK hT hr_o0 shm_0 rfl 14 (by decide) (ht_at hts 10 rfl) (fun _ h9 => h9) m22 dX12_passes_16 ?_
    refine tw_put (v := .int u6) (ty := .int) hx hb hts bF_X12 tyX12 tyX12_ok nmX12 hown hK hT hG hS hr_o0 shm_0 rfl 12 (by decide) (ht_at hts 3 rfl) (fun _ h9 => h9) rfl (by decide +kernel) rfl rfl (gl_at rfl (gi_of (show u6.toInt = u6.toInt from rfl) (by omega) (by omega))) dX12_passes_19 (fun H locs hT oq m28 oj hS => ?_)
    have hF := hF.put hr_o0 skm_0 oq oj (by decide)
    have m31 := (oj 14 (by decide) (by decide)).trans m22
    refine lv_iconst (v := 0) hx hb dX12_passes_22 (by decide) ?_
    exact W.zret (v := 0) hx hb hr (by decide) (fun t ht hW => ⟨⟨0, (u6, u6), rfl, (by exact ⟨(by have q8 := ti_all u6; omega), (by have q8 := ti_all u6; omega), (rg_t (a := 0) (by decide) (by first | decide | omega) (by first | decide | omega)), (fun h => absurd h (by decide)), (by omega), hf15, (by have := tn_of (show u6.toInt = u6.toInt from rfl) (by omega); have := tn_of (show en.toInt = en.toInt from rfl) (by omega); have := tn_of (show pt.toInt = pt.toInt from rfl) (by omega); have h9 := (hf25.resolve_left (fun h8 => by have := h8.1; omega)).2; rw [← hf16] at h9; have i9 := ru_i (P := spB) (t := (tx vt)) (n := N) (p := pt.toNatClampNeg) (by omega); rw [hf15]; rw [show ru spB (tx vt) N pt.toNatClampNeg = u6.toNatClampNeg from hf15] at i9; exact Or.inr ⟨pw_0 hsk h9, by decide, i9⟩)⟩), by (try dsimp only); rw [ht]; exact ⟨hT, hF, m28, m31⟩⟩, hS.F ht⟩) hS.2.2 dX12_passes_23
  · have t32 : r17.toInt ≠ 0 := ti_ne c26 rfl (by decide)
    have t33 : u5.toInt - u6.toInt = ((sLn sk : Nat) : Int) := hi24 ((bit_of ⟨by omega, by omega⟩).resolve_left c26)
    refine lv_iconst (v := 1) hx hb dX12_passes_12 (by decide) ?_
    exact W.zret (v := 1) hx hb hr (by decide) (fun t ht hW => ⟨⟨1, (u5, u6), rfl, (by exact ⟨(by have q8 := ti_all u5; omega), (by have q8 := ti_all u6; omega), (rg_t (a := 1) (by decide) (by first | decide | omega) (by first | decide | omega)), (fun _ => by omega), (by omega), hf15, (by have := tn_of (show u5.toInt = u5.toInt from rfl) (by omega); have := tn_of (show u6.toInt = u6.toInt from rfl) (by omega); have := tn_of (show en.toInt = en.toInt from rfl) (by omega); rw [hf15]; have h9 := (hf25.resolve_right (fun h8 => by have := h8.1; omega)).2; rw [← hf16] at h9; obtain ⟨k1, k2⟩ := pw_1 hsk (by omega) h9; exact Or.inl ⟨k1, by decide, by rw [← hf16, ← k2]; rfl⟩)⟩), by (try dsimp only); rw [ht]; exact ⟨hT, hF, m21, m22⟩⟩, hS.F ht⟩) hS.2.2 dX12_passes_13
def w_s_sign : List Cond := .code yX12_sign cX12_sign 2 (some .boolean) :: (HAppend.hAppend (α := List Cond) (β := List Cond) (γ := List Cond) [.code yX12_blanks cX12_blanks 1 none, .code yX12_isAt cX12_isAt 3 (some .boolean), .fieldLink RX12 335 "SeaLandModel" "point" "I", .fieldLink RX12 338 "SeaLandModel" "end" "I", .fieldLink RX12 31 "SeaLandModel" "tape" "[B", .methodLink RX12 341 yX12_isAt, .instanceMethod yX12_isAt, .selects RX12 yX12_isAt yX12_isAt, .initialized RX12, .fieldLink RX12 345 "SeaLandModel" "begin" "I", .methodLink RX12 348 yX12_blanks, .instanceMethod yX12_blanks, .selects RX12 yX12_blanks yX12_blanks] bs)
set_option maxHeartbeats 4000000 in
set_option maxRecDepth 100000 in
theorem s_sign (l : Launch) (dC : Nat → ClassId) (dI : Nat → Nat → Nat) (kA : Nat → ClassId) (adK adV : Nat → Nat) (G : gT) (H0 : Heap) (q : Nat → Nat) (wZ wN : Nat → Int) (wH wB wC : Int) (wL wK : Nat → Prop) (wU wV : Nat → Nat) (PI : Nat → Int → Prop) (im : Int) (PM PT : Nat → Int → Prop) (lS lB lE : Nat → Nat → Int → Prop) (lN : Nat → Int) (o0 : Nat) (ch : Int32) (pt : Int32) (en : Int32) (vt : Nat → Int32) (N : Nat) (hT : gH (dC, dI) kA (SHm q (wP wZ wN wH wB wC wL wK wU wV) PI im PM PT lS lB lE lN) G H0) (hr_o0 : G o0 = some 0) (hm_pt : el H0 o0 (dI 15 12) = some (.int pt)) (hm_en : el H0 o0 (dI 15 13) = some (.int en)) (hq0 : 0 ≤ pt.toInt ∧ pt.toInt ≤ 400) (hq1 : 0 ≤ en.toInt ∧ en.toInt ≤ 400) (hpe : pt.toInt ≤ en.toInt) (hN : en.toInt = ((N : Nat) : Int)) (hsg : sgS ch.toInt) (hc_vt : ct H0 (q 10) 400 vt) (hgz : ∀ i, 0 ≤ wZ i) (hgn : ∀ i, 6500000 ≤ wN i ∧ wN i ≤ 20200000) (hgh : 0 ≤ wH ∧ wH ≤ 40000) (hgb : 0 ≤ wB ∧ wB ≤ 3850000) (hgc : 0 ≤ wC ∧ wC ≤ 30) (hgi : 0 ≤ im ∧ im ≤ 1) (hgu : ∀ a t, G a = some (t + 1) → a = q t) : Met l yX12_sign w_s_sign ({ frames := 2, cells := 0, slots := 0, locals := 42 }) (va_Pc [.ref o0, .int ch] (fun U => U.heap = H0 ∧ va_K (dC, dI) vwCl (tyl kA) U ∧ EVS adK adV (gA G H0.size) U U.heap)) (va_Qi (fun (r : Int32) (u : Int32 × Int32) => match u with | (p1, b1) => (0 ≤ p1.toInt ∧ p1.toInt ≤ 400) ∧ (0 ≤ b1.toInt ∧ b1.toInt ≤ 400) ∧ (0 ≤ r.toInt ∧ r.toInt ≤ 1) ∧ (r = 1 → pt.toInt + 1 ≤ p1.toInt) ∧ (pt.toInt ≤ p1.toInt ∧ p1.toInt ≤ en.toInt) ∧ (skp (tx vt) N pt.toNatClampNeg = b1.toNatClampNeg) ∧ (tR (kd (tx vt) N) (xn (tx vt) N) (sgT ch.toInt) (skp (tx vt) N pt.toNatClampNeg) r.toInt (skp (tx vt) N p1.toNatClampNeg))) (fun (u : Int32 × Int32) (t : State) => match u with | (p1, b1) => gH (dC, dI) kA (SHm q (wP wZ wN wH wB wC wL wK wU wV) PI im PM PT lS lB lE lN) G t.heap ∧ gF (dC, dI) SKm G ([(0, 12), (0, 14)] : List (Nat × Nat)) H0 t.heap ∧ el t.heap o0 (dI 15 12) = some (.int p1) ∧ el t.heap o0 (dI 15 14) = some (.int b1)) (gA G H0.size)) 0 0 (gA G H0.size) := by
  refine Met.ofW (cc := cX12_sign) (maxL := 2) (ret := (some .boolean)) (by decide) rfl ?_
  intro p e s m args below meth c s₁ B hml hv
  obtain ⟨rfl, hH0, hK, hE⟩ := hv
  have hx := B.exec
  have hb := B.bytes
  have hr := B.returns
  have hts := atoms_spec (ws := w_s_sign) B.pre
  have hown : s.vm.findClass RX12 = some m.cls := findClass_of_methodNamed B.named
  have hlocks := B.notSynchronized
  subst hH0
  generalize hAe : gA G s.heap.size = A at hE ⊢
  have hA : ∀ q : Nat, s.heap.size ≤ q → A q := fun q h => by rw [← hAe]; exact Or.inr h
  have hG := gA_of hAe
  have hS : va_S A s.heap s.heap [] := va_S.rf
  have hF : gF (dC, dI) SKm G ([(0, 12), (0, 14)] : List (Nat × Nat)) s.heap s.heap := gF.rf
  have hl := lv_entry ([.ref o0, .int ch]) (n := 2) (Nat.le_of_ble_eq_true rfl)
  rw [lg_entry_eq]
  generalize (lg_sl ([.ref o0, .int ch]) ++ List.replicate (2 - (lg_sl ([.ref o0, .int ch])).length) Slot.unset).toArray = ls at hl ⊢
  have hl : lv_has ls 2 [(0, .ref o0), (1, .int ch)] := hl
  have hg1 : G (q 10) = some 11 := gx_of hT hr_o0 shm_0 (k := 10) (by decide) rfl
  refine lv_aload_n hx hb dX12_sign_0 rfl (lv_at hl 0 rfl) ?_
  have hFc := gA_free hG hA hS
  refine va_callv (va_runV (As := []) (rest := []) ⟨hx, hb, hml, hown, hts⟩ (s_blanks l dC dI kA adK adV G s.heap q wZ wN wH wB wC wL wK wU wV PI im PM PT lS lB lE lN o0 pt en vt N hT hr_o0 hm_pt hm_en (by have q8 := ti_all pt; omega) (by have q8 := ti_all en; omega) (by have := (show pt.toInt = pt.toInt from rfl); have := (show en.toInt = en.toInt from rfl); omega) hN hc_vt hgz hgn hgh hgb hgc hgi hgu) (cwV 0 hts (goodIn_app (goodIn_r _ [11, 12, 13, 9] rfl (by decide +kernel)) (goodIn_ca (goodIn_r _ [1, 2, 3, 4, 5, 6, 7, 8, 9, 10] rfl (by decide +kernel)) (bs_in _ _))) rfl rfl rfl (by decide +kernel) ⟨(Nat.le_of_ble_eq_true rfl), (Nat.le_of_ble_eq_true rfl)⟩) ⟨fun a U g mk q => by obtain ⟨q0, q1, qK, qE⟩ := q; exact ⟨q0, q1, va_K.moved (u := U) (U := U.calling g mk a) (Vm.Alike.refl U.vm) qK, EVS.blind g mk a qE⟩, gH_rc hK hT hr_o0 shm_0 rfl, fun U hU hW => ⟨rfl, hU, va_K.moved hW.alike hK, hE.call hS hFc hU hW⟩⟩ rfl rfl hl.1 rfl (lv_room (Nat.le_of_ble_eq_true rfl)) dX12_sign_1 ⟨(Nat.le_of_ble_eq_true rfl), (Nat.le_of_ble_eq_true rfl)⟩) hS (fun q _ h => hFc q h) hFc (fun u t H locs ht hvm hw3 hB _ _ hS => ?_)
  obtain ⟨u4, u5⟩ := u
  obtain ⟨hT, hF1, m6, m7⟩ := hB
  rw [ht] at hT hF1 m6 m7
  have m9 := (hF1.fld hr_o0 skm_0 (k := 13) (by decide) (by decide)).trans hm_en
  have m10 := hc_vt.kept (hF1.arr hg1 skm_11 (by decide))
  have hF := hF.more hF1 (by decide)
  try dsimp only at hw3
  obtain ⟨h11, h12, hf13, hf14, hf15⟩ := hw3
  refine lv_aload_n hx hb dX12_sign_4 rfl (lv_at hl 0 rfl) ?_
  refine lv_iload_n hx hb dX12_sign_5 rfl (lv_at hl 1 rfl) ?_
  refine lv_iload_n hx hb dX12_sign_6 rfl (lv_at hl 1 rfl) ?_
  have hFc := gA_free hG hA hS
  refine va_calli (va_runV (As := [.int ch, .int ch]) (rest := []) ⟨hx, hb, hml, hown, hts⟩ (s_isAt l dC dI kA adK adV G H q wZ wN wH wB wC wL wK wU wV PI im PM PT lS lB lE lN o0 ch ch u4 en vt hT hr_o0 m6 m9 (by have q8 := ti_all u4; omega) (by have q8 := ti_all en; omega) m10 hgz hgn hgh hgb hgc hgi hgu) (cwV 2 hts (goodIn_app (goodIn_r _ [6, 7, 8, 9] rfl (by decide +kernel)) (goodIn_ca (goodIn_r _ [2, 3, 4, 5] rfl (by decide +kernel)) (bs_in _ _))) rfl rfl rfl (by decide +kernel) ⟨(Nat.le_of_ble_eq_true rfl), (Nat.le_of_ble_eq_true rfl)⟩) ⟨fun a U g mk q => by obtain ⟨q0, q1, qK, qE⟩ := q; exact ⟨q0, q1, va_K.moved (u := U) (U := U.calling g mk a) (Vm.Alike.refl U.vm) qK, EVS.blind g mk a qE⟩, gH_rc hK hT hr_o0 shm_0 rfl, fun U hU hW => ⟨rfl, hU, va_K.moved hW.alike hK, hE.call hS hFc hU hW⟩⟩ rfl rfl hl.1 rfl (lv_room (Nat.le_of_ble_eq_true rfl)) dX12_sign_7 ⟨(Nat.le_of_ble_eq_true rfl), (Nat.le_of_ble_eq_true rfl)⟩) hS (fun q _ h => hFc q h) hFc (fun r16 u t H locs ht hvm hw17 hB _ _ hS => ?_)
  obtain ⟨hT, hF1⟩ := hB
  rw [ht] at hT hF1
  have m20 := (hF1.fld hr_o0 skm_0 (k := 12) (by decide) (by decide)).trans m6
  have m21 := (hF1.fld hr_o0 skm_0 (k := 14) (by decide) (by decide)).trans m7
  have hF := hF.more hF1 (by decide)
  try dsimp only at hw17
  obtain ⟨h22, hi23, hf24⟩ := hw17
  refine lv_if_ne (tgt := 15) hx hb dX12_sign_10 (by decide) (fun c25 => ?_) (fun c25 => ?_)
  · have t26 : r16.toInt ≠ 0 := ti_ne c25 rfl (by decide)
    have t27 : u4.toInt < en.toInt := hi23 ((bit_of ⟨by omega, by omega⟩).resolve_left c25)
    refine lv_aload_n hx hb dX12_sign_15 rfl (lv_at hl 0 rfl) ?_
    refine lv_dup hx hb dX12_sign_16 rfl ?_
    refine tw_getM (v := .int u4) hx hb hts bF_X12 hown hK hT hr_o0 shm_0 rfl 12 (by decide) (ht_at hts 2 rfl) (fun _ h9 => h9) m20 dX12_sign_17 ?_
    refine lv_iconst (v := 1) hx hb dX12_sign_20 (by decide) ?_
    refine lv_iadd hx hb dX12_sign_21 ?_
    refine lv_topi (fun x28 ex28 => ?_)
    have t29 : x28.toInt = u4.toInt + 1 := ti_add ex28 rfl (by decide) (by omega) (by omega)
    refine tw_put (v := .int x28) (ty := .int) hx hb hts bF_X12 tyX12 tyX12_ok nmX12 hown hK hT hG hS hr_o0 shm_0 rfl 12 (by decide) (ht_at hts 2 rfl) (fun _ h9 => h9) rfl (by decide +kernel) rfl rfl (gl_at rfl (gi_of (show x28.toInt = x28.toInt from rfl) (by omega) (by omega))) dX12_sign_22 (fun H locs hT oq m30 oj hS => ?_)
    have hF := hF.put hr_o0 skm_0 oq oj (by decide)
    have m33 := (oj 14 (by decide) (by decide)).trans m21
    refine lv_iconst (v := 1) hx hb dX12_sign_25 (by decide) ?_
    exact W.zret (v := 1) hx hb hr (by decide) (fun t ht hW => ⟨⟨1, (x28, u5), rfl, (by exact ⟨(by have q8 := ti_all x28; omega), (by have q8 := ti_all u5; omega), (rg_t (a := 1) (by decide) (by first | decide | omega) (by first | decide | omega)), (fun _ => by omega), (by omega), hf15, (by have := tn_of (show x28.toInt = x28.toInt from rfl) (by omega); have := tn_of (show u5.toInt = u5.toInt from rfl) (by omega); have := tn_of (show en.toInt = en.toInt from rfl) (by omega); have := tn_of (show u4.toInt = u4.toInt from rfl) (by omega); rw [hf15]; have e6 : u4.toNatClampNeg = u5.toNatClampNeg := (by omega); have t9 : tx vt u5.toNatClampNeg = ch.toInt := (by rw [← e6]; show (vt u4.toNatClampNeg).toInt = _; omega); obtain ⟨k1, k2⟩ := sg_1 (t := (tx vt)) (n := N) hsg (by omega) t9; exact Or.inl ⟨k1, by decide, by rw [show x28.toNatClampNeg = u5.toNatClampNeg + 1 from by omega, ← k2]; rfl⟩)⟩), by (try dsimp only); rw [ht]; exact ⟨hT, hF, m30, m33⟩⟩, hS.F ht⟩) hS.2.2 dX12_sign_26
  · have t34 : r16.toInt = 0 := ti_eq c25 rfl (by decide)
    refine lv_iconst (v := 0) hx hb dX12_sign_13 (by decide) ?_
    exact W.zret (v := 0) hx hb hr (by decide) (fun t ht hW => ⟨⟨0, (u4, u5), rfl, (by exact ⟨(by have q8 := ti_all u4; omega), (by have q8 := ti_all u5; omega), (rg_t (a := 0) (by decide) (by first | decide | omega) (by first | decide | omega)), (fun h => absurd h (by decide)), (by omega), hf15, (by have := tn_of (show u4.toInt = u4.toInt from rfl) (by omega); have := tn_of (show u5.toInt = u5.toInt from rfl) (by omega); have := tn_of (show en.toInt = en.toInt from rfl) (by omega); have := tn_of (show pt.toInt = pt.toInt from rfl) (by omega); have e6 : u4.toNatClampNeg = u5.toNatClampNeg := (by omega); have i9 := ru_i (P := spB) (t := (tx vt)) (n := N) (p := pt.toNatClampNeg) (by omega); rw [show ru spB (tx vt) N pt.toNatClampNeg = u5.toNatClampNeg from hf15] at i9; rw [hf15]; exact Or.inr ⟨sg_0 hsg (fun h8 => by have h7 : (vt u5.toNatClampNeg).toInt = ch.toInt := h8.2; rw [← e6] at h7; omega), by decide, by rw [e6]; exact i9⟩)⟩), by (try dsimp only); rw [ht]; exact ⟨hT, hF, m20, m21⟩⟩, hS.F ht⟩) hS.2.2 dX12_sign_14
def w_s_number : List Cond := .code yX12_number cX12_number 3 (some .int) :: (HAppend.hAppend (α := List Cond) (β := List Cond) (γ := List Cond) [.code yX12_blanks cX12_blanks 1 none, .code yX12_isAt cX12_isAt 3 (some .boolean), .fieldLink RX12 335 "SeaLandModel" "point" "I", .fieldLink RX12 338 "SeaLandModel" "end" "I", .fieldLink RX12 31 "SeaLandModel" "tape" "[B", .methodLink RX12 341 yX12_isAt, .instanceMethod yX12_isAt, .selects RX12 yX12_isAt yX12_isAt, .initialized RX12, .fieldLink RX12 345 "SeaLandModel" "begin" "I", .methodLink RX12 348 yX12_blanks, .instanceMethod yX12_blanks, .selects RX12 yX12_blanks yX12_blanks] bs)
set_option maxHeartbeats 4000000 in
set_option maxRecDepth 100000 in
theorem s_number (l : Launch) (dC : Nat → ClassId) (dI : Nat → Nat → Nat) (kA : Nat → ClassId) (adK adV : Nat → Nat) (G : gT) (H0 : Heap) (q : Nat → Nat) (wZ wN : Nat → Int) (wH wB wC : Int) (wL wK : Nat → Prop) (wU wV : Nat → Nat) (PI : Nat → Int → Prop) (im : Int) (PM PT : Nat → Int → Prop) (lS lB lE : Nat → Nat → Int → Prop) (lN : Nat → Int) (o0 : Nat) (hg : Int32) (pt : Int32) (en : Int32) (vt : Nat → Int32) (N : Nat) (hT : gH (dC, dI) kA (SHm q (wP wZ wN wH wB wC wL wK wU wV) PI im PM PT lS lB lE lN) G H0) (hr_o0 : G o0 = some 0) (hm_pt : el H0 o0 (dI 15 12) = some (.int pt)) (hm_en : el H0 o0 (dI 15 13) = some (.int en)) (hq0 : 0 ≤ pt.toInt ∧ pt.toInt ≤ 400) (hq1 : 0 ≤ en.toInt ∧ en.toInt ≤ 400) (hpe : pt.toInt ≤ en.toInt) (hN : en.toInt = ((N : Nat) : Int)) (hc_vt : ct H0 (q 10) 400 vt) (hgz : ∀ i, 0 ≤ wZ i) (hgn : ∀ i, 6500000 ≤ wN i ∧ wN i ≤ 20200000) (hgh : 0 ≤ wH ∧ wH ≤ 40000) (hgb : 0 ≤ wB ∧ wB ≤ 3850000) (hgc : 0 ≤ wC ∧ wC ≤ 30) (hgi : 0 ≤ im ∧ im ≤ 1) (hgu : ∀ a t, G a = some (t + 1) → a = q t) : Met l yX12_number w_s_number ({ frames := 2, cells := 0, slots := 0, locals := 42 }) (va_Pc [.ref o0, .int hg] (fun U => U.heap = H0 ∧ va_K (dC, dI) vwCl (tyl kA) U ∧ EVS adK adV (gA G H0.size) U U.heap)) (va_Qi (fun (r : Int32) (u : Int32 × Int32) => match u with | (p1, b1) => (0 ≤ p1.toInt ∧ p1.toInt ≤ 400) ∧ (0 ≤ b1.toInt ∧ b1.toInt ≤ 400) ∧ (-1 ≤ r.toInt ∧ r.toInt ≤ 99999) ∧ (pt.toInt ≤ p1.toInt ∧ p1.toInt ≤ en.toInt ∧ (0 ≤ r.toInt → pt.toInt + 1 ≤ p1.toInt)) ∧ (skp (tx vt) N pt.toNatClampNeg = b1.toNatClampNeg) ∧ ((40 ≤ kd (tx vt) N (skp (tx vt) N pt.toNatClampNeg) ∧ kd (tx vt) N (skp (tx vt) N pt.toNatClampNeg) ≤ 40 + hg.toInt ∧ r.toInt = kd (tx vt) N (skp (tx vt) N pt.toNatClampNeg) - 40 ∧ skp (tx vt) N p1.toNatClampNeg = xn (tx vt) N (skp (tx vt) N pt.toNatClampNeg)) ∨ (r.toInt = -1 ∧ ¬ (40 ≤ kd (tx vt) N (skp (tx vt) N pt.toNatClampNeg) ∧ kd (tx vt) N (skp (tx vt) N pt.toNatClampNeg) ≤ 40 + hg.toInt)))) (fun (u : Int32 × Int32) (t : State) => match u with | (p1, b1) => gH (dC, dI) kA (SHm q (wP wZ wN wH wB wC wL wK wU wV) PI im PM PT lS lB lE lN) G t.heap ∧ gF (dC, dI) SKm G ([(0, 12), (0, 14)] : List (Nat × Nat)) H0 t.heap ∧ el t.heap o0 (dI 15 12) = some (.int p1) ∧ el t.heap o0 (dI 15 14) = some (.int b1)) (gA G H0.size)) 0 0 (gA G H0.size) := by
  refine Met.ofW (cc := cX12_number) (maxL := 3) (ret := (some .int)) (by decide) rfl ?_
  intro p e s m args below meth c s₁ B hml hv
  obtain ⟨rfl, hH0, hK, hE⟩ := hv
  have hx := B.exec
  have hb := B.bytes
  have hr := B.returns
  have hts := atoms_spec (ws := w_s_number) B.pre
  have hown : s.vm.findClass RX12 = some m.cls := findClass_of_methodNamed B.named
  have hlocks := B.notSynchronized
  subst hH0
  generalize hAe : gA G s.heap.size = A at hE ⊢
  have hA : ∀ q : Nat, s.heap.size ≤ q → A q := fun q h => by rw [← hAe]; exact Or.inr h
  have hG := gA_of hAe
  have hS : va_S A s.heap s.heap [] := va_S.rf
  have hF : gF (dC, dI) SKm G ([(0, 12), (0, 14)] : List (Nat × Nat)) s.heap s.heap := gF.rf
  have hl := lv_entry ([.ref o0, .int hg]) (n := 3) (Nat.le_of_ble_eq_true rfl)
  rw [lg_entry_eq]
  generalize (lg_sl ([.ref o0, .int hg]) ++ List.replicate (3 - (lg_sl ([.ref o0, .int hg])).length) Slot.unset).toArray = ls at hl ⊢
  have hl : lv_has ls 3 [(0, .ref o0), (1, .int hg)] := hl
  have hg1 : G (q 10) = some 11 := gx_of hT hr_o0 shm_0 (k := 10) (by decide) rfl
  refine lv_aload_n hx hb dX12_number_0 rfl (lv_at hl 0 rfl) ?_
  have hFc := gA_free hG hA hS
  refine va_callv (va_runV (As := []) (rest := []) ⟨hx, hb, hml, hown, hts⟩ (s_blanks l dC dI kA adK adV G s.heap q wZ wN wH wB wC wL wK wU wV PI im PM PT lS lB lE lN o0 pt en vt N hT hr_o0 hm_pt hm_en (by have q8 := ti_all pt; omega) (by have q8 := ti_all en; omega) (by have := (show pt.toInt = pt.toInt from rfl); have := (show en.toInt = en.toInt from rfl); omega) hN hc_vt hgz hgn hgh hgb hgc hgi hgu) (cwV 0 hts (goodIn_app (goodIn_r _ [11, 12, 13, 9] rfl (by decide +kernel)) (goodIn_ca (goodIn_r _ [1, 2, 3, 4, 5, 6, 7, 8, 9, 10] rfl (by decide +kernel)) (bs_in _ _))) rfl rfl rfl (by decide +kernel) ⟨(Nat.le_of_ble_eq_true rfl), (Nat.le_of_ble_eq_true rfl)⟩) ⟨fun a U g mk q => by obtain ⟨q0, q1, qK, qE⟩ := q; exact ⟨q0, q1, va_K.moved (u := U) (U := U.calling g mk a) (Vm.Alike.refl U.vm) qK, EVS.blind g mk a qE⟩, gH_rc hK hT hr_o0 shm_0 rfl, fun U hU hW => ⟨rfl, hU, va_K.moved hW.alike hK, hE.call hS hFc hU hW⟩⟩ rfl rfl hl.1 rfl (lv_room (Nat.le_of_ble_eq_true rfl)) dX12_number_1 ⟨(Nat.le_of_ble_eq_true rfl), (Nat.le_of_ble_eq_true rfl)⟩) hS (fun q _ h => hFc q h) hFc (fun u t H locs ht hvm hw3 hB _ _ hS => ?_)
  obtain ⟨u4, u5⟩ := u
  obtain ⟨hT, hF1, m6, m7⟩ := hB
  rw [ht] at hT hF1 m6 m7
  have m9 := (hF1.fld hr_o0 skm_0 (k := 13) (by decide) (by decide)).trans hm_en
  have m10 := hc_vt.kept (hF1.arr hg1 skm_11 (by decide))
  have hF := hF.more hF1 (by decide)
  try dsimp only at hw3
  obtain ⟨h11, h12, hf13, hf14, hf15⟩ := hw3
  refine lv_iconst (v := 0) hx hb dX12_number_4 (by decide) ?_
  refine lv_istore_n (lv' := [(2, .int 0), (0, .ref o0), (1, .int hg)]) hx hb dX12_number_5 rfl hl (by decide) rfl (fun ls hl => ?_)
  have key191 : ∀ (n191 : Nat), ∀ (z78 : Int32), ∀ (z82 : Int32), (400 - z82.toInt < ((n191 : Nat) : Int)) → ((0 ≤ z78.toInt ∧ z78.toInt ≤ 99999) ∧ (0 ≤ z82.toInt ∧ z82.toInt ≤ 400) ∧ (u5.toInt ≤ z82.toInt ∧ z82.toInt ≤ en.toInt) ∧ (∀ j : Nat, u5.toNatClampNeg ≤ j → j < z82.toNatClampNeg → dgB (tx vt j) = true) ∧ (0 ≤ z78.toInt ∧ z78.toInt ≤ 99999 ∧ (z82.toInt ≤ u5.toInt + 0 → z78.toInt ≤ 0) ∧ (z82.toInt ≤ u5.toInt + 1 → z78.toInt ≤ 9) ∧ (z82.toInt ≤ u5.toInt + 2 → z78.toInt ≤ 99) ∧ (z82.toInt ≤ u5.toInt + 3 → z78.toInt ≤ 999) ∧ (z82.toInt ≤ u5.toInt + 4 → z78.toInt ≤ 9999) ∧ (z82.toInt ≤ u5.toInt + 5 → z78.toInt ≤ 99999)) ∧ (z78.toInt = nv (tx vt) u5.toNatClampNeg (min (z82.toNatClampNeg - u5.toNatClampNeg) 5))) → ∀ (H : Heap) (locs : List Loc), gH (dC, dI) kA (SHm q (wP wZ wN wH wB wC wL wK wU wV) PI im PM PT lS lB lE lN) G H → gF (dC, dI) SKm G ([(0, 12), (0, 14)] : List (Nat × Nat)) s.heap H → va_S A s.heap H locs → ct H (q 10) 400 vt → el H o0 (dI 15 13) = some (.int en) → el H o0 (dI 15 12) = some (.int z82) → el H o0 (dI 15 14) = some (.int u5) → ∀ ls : Array Slot, lv_has ls 3 [(2, .int z78), (0, .ref o0), (1, .int hg)] → W p l e (headSpec w_s_number ({ frames := 2, cells := 0, slots := 0, locals := 42 })).room s m #[.ref o0, .int hg] below meth c H locs 0 0 (MQ below (va_Qi (fun (r : Int32) (u : Int32 × Int32) => match u with | (p1, b1) => (0 ≤ p1.toInt ∧ p1.toInt ≤ 400) ∧ (0 ≤ b1.toInt ∧ b1.toInt ≤ 400) ∧ (-1 ≤ r.toInt ∧ r.toInt ≤ 99999) ∧ (pt.toInt ≤ p1.toInt ∧ p1.toInt ≤ en.toInt ∧ (0 ≤ r.toInt → pt.toInt + 1 ≤ p1.toInt)) ∧ (skp (tx vt) N pt.toNatClampNeg = b1.toNatClampNeg) ∧ ((40 ≤ kd (tx vt) N (skp (tx vt) N pt.toNatClampNeg) ∧ kd (tx vt) N (skp (tx vt) N pt.toNatClampNeg) ≤ 40 + hg.toInt ∧ r.toInt = kd (tx vt) N (skp (tx vt) N pt.toNatClampNeg) - 40 ∧ skp (tx vt) N p1.toNatClampNeg = xn (tx vt) N (skp (tx vt) N pt.toNatClampNeg)) ∨ (r.toInt = -1 ∧ ¬ (40 ≤ kd (tx vt) N (skp (tx vt) N pt.toNatClampNeg) ∧ kd (tx vt) N (skp (tx vt) N pt.toNatClampNeg) ≤ 40 + hg.toInt)))) (fun (u : Int32 × Int32) (t : State) => match u with | (p1, b1) => gH (dC, dI) kA (SHm q (wP wZ wN wH wB wC wL wK wU wV) PI im PM PT lS lB lE lN) G t.heap ∧ gF (dC, dI) SKm G ([(0, 12), (0, 14)] : List (Nat × Nat)) s.heap t.heap ∧ el t.heap o0 (dI 15 12) = some (.int p1) ∧ el t.heap o0 (dI 15 14) = some (.int b1)) A) #[.ref o0, .int hg] s 0 0 A) (F0 m 6 ls []) := by
    intro n191
    induction n191 with
    | zero =>
      intro z78 z82 hv191 ⟨h79, h83, hj86, hj87, hj88, hj89⟩ H locs hT hF hS m80 m81 m84 m85 ls hl
      exfalso; have q9 := (show z82.toInt = z82.toInt from rfl); omega
    | succ n191 ih191 =>
      intro z78 z82 hv191 ⟨h79, h83, hj86, hj87, hj88, hj89⟩ H locs hT hF hS m80 m81 m84 m85 ls hl
      refine lv_aload_n hx hb dX12_number_6 rfl (lv_at hl 1 rfl) ?_
      refine lv_bipush (v := 48) hx hb dX12_number_7 (by decide) ?_
      refine lv_bipush (v := 57) hx hb dX12_number_9 (by decide) ?_
      have hFc := gA_free hG hA hS
      refine va_calli (va_runV (As := [.int 48, .int 57]) (rest := []) ⟨hx, hb, hml, hown, hts⟩ (s_isAt l dC dI kA adK adV G H q wZ wN wH wB wC wL wK wU wV PI im PM PT lS lB lE lN o0 48 57 z82 en vt hT hr_o0 m84 m81 (by have q8 := ti_all z82; omega) (by have q8 := ti_all en; omega) m80 hgz hgn hgh hgb hgc hgi hgu) (cwV 2 hts (goodIn_app (goodIn_r _ [6, 7, 8, 9] rfl (by decide +kernel)) (goodIn_ca (goodIn_r _ [2, 3, 4, 5] rfl (by decide +kernel)) (bs_in _ _))) rfl rfl rfl (by decide +kernel) ⟨(Nat.le_of_ble_eq_true rfl), (Nat.le_of_ble_eq_true rfl)⟩) ⟨fun a U g mk q => by obtain ⟨q0, q1, qK, qE⟩ := q; exact ⟨q0, q1, va_K.moved (u := U) (U := U.calling g mk a) (Vm.Alike.refl U.vm) qK, EVS.blind g mk a qE⟩, gH_rc hK hT hr_o0 shm_0 rfl, fun U hU hW => ⟨rfl, hU, va_K.moved hW.alike hK, hE.call hS hFc hU hW⟩⟩ rfl rfl hl.1 rfl (lv_room (Nat.le_of_ble_eq_true rfl)) dX12_number_11 ⟨(Nat.le_of_ble_eq_true rfl), (Nat.le_of_ble_eq_true rfl)⟩) hS (fun q _ h => hFc q h) hFc (fun r192 u t H locs ht hvm hw193 hB _ _ hS => ?_)
      obtain ⟨hT, hF1⟩ := hB
      rw [ht] at hT hF1
      have m194 := m80.kept (hF1.arr hg1 skm_11 (by decide))
      have m195 := (hF1.fld hr_o0 skm_0 (k := 13) (by decide) (by decide)).trans m81
      have m196 := (hF1.fld hr_o0 skm_0 (k := 12) (by decide) (by decide)).trans m84
      have m197 := (hF1.fld hr_o0 skm_0 (k := 14) (by decide) (by decide)).trans m85
      have hF := hF.more hF1 (by decide)
      try dsimp only at hw193
      obtain ⟨h198, hi199, hf200⟩ := hw193
      have t201 : (57 : Int32).toInt = 57 := by decide
      have t202 : (48 : Int32).toInt = 48 := by decide
      refine lv_if_eq (tgt := 65) hx hb dX12_number_14 (by decide) (fun c203 => ?_) (fun c203 => ?_)
      · have t204 : r192.toInt = 0 := ti_eq c203 rfl (by decide)
        refine lv_aload_n hx hb dX12_number_65 rfl (lv_at hl 1 rfl) ?_
        refine tw_getM (v := .int z82) hx hb hts bF_X12 hown hK hT hr_o0 shm_0 rfl 12 (by decide) (ht_at hts 2 rfl) (fun _ h9 => h9) m196 dX12_number_66 ?_
        refine lv_aload_n hx hb dX12_number_69 rfl (lv_at hl 1 rfl) ?_
        refine tw_getM (v := .int u5) hx hb hts bF_X12 hown hK hT hr_o0 shm_0 rfl 14 (by decide) (ht_at hts 9 rfl) (fun _ h9 => h9) m197 dX12_number_70 ?_
        refine lv_icmp_eq (tgt := 94) hx hb dX12_number_73 (by decide) (fun c205 => ?_) (fun c205 => ?_)
        · have t206 : z82.toInt = u5.toInt := ti_eq c205 rfl rfl
          refine lv_iconst (v := (-1)) hx hb dX12_number_94 (by decide) ?_
          refine lv_goto (tgt := 99) hx hb dX12_number_95 (by decide) ?_
          exact W.iret (v := (-1)) hx hb hr (fun t ht hW => ⟨⟨(-1), (z82, u5), rfl, (by exact ⟨(by have q8 := ti_all z82; omega), (by have q8 := ti_all u5; omega), (rg_t (a := (-1)) (by decide) (by first | decide | omega) (by first | decide | omega)), (by have : (-1 : Int32).toInt = (-1) := (by decide); omega), hf15, (by have qm : (-1 : Int32).toInt = -1 := (by decide); have := tn_of (show z82.toInt = z82.toInt from rfl) (by omega); have := tn_of (show u5.toInt = u5.toInt from rfl) (by omega); have := tn_of (show en.toInt = en.toInt from rfl) (by omega); have hb9 : u5.toNatClampNeg ≤ N := (by omega); have e5 : ru dgB (tx vt) N u5.toNatClampNeg = z82.toNatClampNeg := ru_u (by omega) (by omega) hj87 (fun h9 => dgB_0 (by show ¬ (48 ≤ (vt z82.toNatClampNeg).toInt ∧ (vt z82.toNatClampNeg).toInt ≤ 57); omega)); rw [hf15]; have v9 := hj89; have := (show z78.toInt = z78.toInt from rfl); by_cases q9 : z82.toNatClampNeg = u5.toNatClampNeg; (have k9 := nu_0 hb9 (e5.trans q9); exact Or.inr ⟨by omega, by omega⟩); obtain ⟨k1, k2, k3⟩ := nu_d hb9 (show u5.toNatClampNeg < ru dgB (tx vt) N u5.toNatClampNeg from by omega); rw [e5] at k1 k2 k3; by_cases q8 : 5 < z82.toNatClampNeg - u5.toNatClampNeg; (have k9 := k1 q8; exact Or.inr ⟨by omega, by omega⟩); have k9 := k2 (by omega); rw [show min (z82.toNatClampNeg - u5.toNatClampNeg) 5 = z82.toNatClampNeg - u5.toNatClampNeg from by omega] at v9; first | exact Or.inr ⟨by omega, by omega⟩ | exact Or.inl ⟨by omega, by omega, by omega, by unfold xn; rw [k3]; rfl⟩)⟩), by (try dsimp only); rw [ht]; exact ⟨hT, hF, m196, m197⟩⟩, hS.F ht⟩) hS.2.2 dX12_number_99
        · have t207 : z82.toInt ≠ u5.toInt := ti_ne c205 rfl rfl
          refine lv_aload_n hx hb dX12_number_76 rfl (lv_at hl 1 rfl) ?_
          refine tw_getM (v := .int z82) hx hb hts bF_X12 hown hK hT hr_o0 shm_0 rfl 12 (by decide) (ht_at hts 2 rfl) (fun _ h9 => h9) m196 dX12_number_77 ?_
          refine lv_aload_n hx hb dX12_number_80 rfl (lv_at hl 1 rfl) ?_
          refine tw_getM (v := .int u5) hx hb hts bF_X12 hown hK hT hr_o0 shm_0 rfl 14 (by decide) (ht_at hts 9 rfl) (fun _ h9 => h9) m197 dX12_number_81 ?_
          refine lv_isub hx hb dX12_number_84 ?_
          refine lv_topi (fun x208 ex208 => ?_)
          have t209 : x208.toInt = z82.toInt - u5.toInt := ti_sub ex208 rfl rfl (by omega) (by omega)
          refine lv_iconst (v := 5) hx hb dX12_number_85 (by decide) ?_
          refine lv_icmp_gt (tgt := 94) hx hb dX12_number_86 (by decide) (fun c210 => ?_) (fun c210 => ?_)
          · have t211 : 5 < x208.toInt := ti_lt c210 (by decide) rfl
            refine lv_iconst (v := (-1)) hx hb dX12_number_94 (by decide) ?_
            refine lv_goto (tgt := 99) hx hb dX12_number_95 (by decide) ?_
            exact W.iret (v := (-1)) hx hb hr (fun t ht hW => ⟨⟨(-1), (z82, u5), rfl, (by exact ⟨(by have q8 := ti_all z82; omega), (by have q8 := ti_all u5; omega), (rg_t (a := (-1)) (by decide) (by first | decide | omega) (by first | decide | omega)), (by have : (-1 : Int32).toInt = (-1) := (by decide); omega), hf15, (by have qm : (-1 : Int32).toInt = -1 := (by decide); have := tn_of (show z82.toInt = z82.toInt from rfl) (by omega); have := tn_of (show u5.toInt = u5.toInt from rfl) (by omega); have := tn_of (show en.toInt = en.toInt from rfl) (by omega); have hb9 : u5.toNatClampNeg ≤ N := (by omega); have e5 : ru dgB (tx vt) N u5.toNatClampNeg = z82.toNatClampNeg := ru_u (by omega) (by omega) hj87 (fun h9 => dgB_0 (by show ¬ (48 ≤ (vt z82.toNatClampNeg).toInt ∧ (vt z82.toNatClampNeg).toInt ≤ 57); omega)); rw [hf15]; have v9 := hj89; have := (show z78.toInt = z78.toInt from rfl); by_cases q9 : z82.toNatClampNeg = u5.toNatClampNeg; (have k9 := nu_0 hb9 (e5.trans q9); exact Or.inr ⟨by omega, by omega⟩); obtain ⟨k1, k2, k3⟩ := nu_d hb9 (show u5.toNatClampNeg < ru dgB (tx vt) N u5.toNatClampNeg from by omega); rw [e5] at k1 k2 k3; by_cases q8 : 5 < z82.toNatClampNeg - u5.toNatClampNeg; (have k9 := k1 q8; exact Or.inr ⟨by omega, by omega⟩); have k9 := k2 (by omega); rw [show min (z82.toNatClampNeg - u5.toNatClampNeg) 5 = z82.toNatClampNeg - u5.toNatClampNeg from by omega] at v9; first | exact Or.inr ⟨by omega, by omega⟩ | exact Or.inl ⟨by omega, by omega, by omega, by unfold xn; rw [k3]; rfl⟩)⟩), by (try dsimp only); rw [ht]; exact ⟨hT, hF, m196, m197⟩⟩, hS.F ht⟩) hS.2.2 dX12_number_99
          · have t212 : x208.toInt ≤ 5 := ti_nlt c210 (by decide) rfl
            refine lv_iload_n hx hb dX12_number_89 rfl (lv_at hl 0 rfl) ?_
            refine lv_iload_n hx hb dX12_number_90 rfl (lv_at hl 2 rfl) ?_
            refine lv_icmp_le (tgt := 98) hx hb dX12_number_91 (by decide) (fun c213 => ?_) (fun c213 => ?_)
            · have t214 : z78.toInt ≤ hg.toInt := ti_le c213 rfl rfl
              refine lv_iload_n hx hb dX12_number_98 rfl (lv_at hl 0 rfl) ?_
              exact W.iret (v := z78) hx hb hr (fun t ht hW => ⟨⟨z78, (z82, u5), rfl, (by exact ⟨(by have q8 := ti_all z82; omega), (by have q8 := ti_all u5; omega), (by have q8 := ti_all z78; omega), (by omega), hf15, (by have qm : (-1 : Int32).toInt = -1 := (by decide); have := tn_of (show z82.toInt = z82.toInt from rfl) (by omega); have := tn_of (show u5.toInt = u5.toInt from rfl) (by omega); have := tn_of (show en.toInt = en.toInt from rfl) (by omega); have hb9 : u5.toNatClampNeg ≤ N := (by omega); have e5 : ru dgB (tx vt) N u5.toNatClampNeg = z82.toNatClampNeg := ru_u (by omega) (by omega) hj87 (fun h9 => dgB_0 (by show ¬ (48 ≤ (vt z82.toNatClampNeg).toInt ∧ (vt z82.toNatClampNeg).toInt ≤ 57); omega)); rw [hf15]; have v9 := hj89; have := (show z78.toInt = z78.toInt from rfl); by_cases q9 : z82.toNatClampNeg = u5.toNatClampNeg; (have k9 := nu_0 hb9 (e5.trans q9); exact Or.inr ⟨by omega, by omega⟩); obtain ⟨k1, k2, k3⟩ := nu_d hb9 (show u5.toNatClampNeg < ru dgB (tx vt) N u5.toNatClampNeg from by omega); rw [e5] at k1 k2 k3; by_cases q8 : 5 < z82.toNatClampNeg - u5.toNatClampNeg; (have k9 := k1 q8; exact Or.inr ⟨by omega, by omega⟩); have k9 := k2 (by omega); rw [show min (z82.toNatClampNeg - u5.toNatClampNeg) 5 = z82.toNatClampNeg - u5.toNatClampNeg from by omega] at v9; first | exact Or.inr ⟨by omega, by omega⟩ | exact Or.inl ⟨by omega, by omega, by omega, by unfold xn; rw [k3]; rfl⟩)⟩), by (try dsimp only); rw [ht]; exact ⟨hT, hF, m196, m197⟩⟩, hS.F ht⟩) hS.2.2 dX12_number_99
            · have t215 : hg.toInt < z78.toInt := ti_nle c213 rfl rfl
              refine lv_iconst (v := (-1)) hx hb dX12_number_94 (by decide) ?_
              refine lv_goto (tgt := 99) hx hb dX12_number_95 (by decide) ?_
              exact W.iret (v := (-1)) hx hb hr (fun t ht hW => ⟨⟨(-1), (z82, u5), rfl, (by exact ⟨(by have q8 := ti_all z82; omega), (by have q8 := ti_all u5; omega), (rg_t (a := (-1)) (by decide) (by first | decide | omega) (by first | decide | omega)), (by have : (-1 : Int32).toInt = (-1) := (by decide); omega), hf15, (by have qm : (-1 : Int32).toInt = -1 := (by decide); have := tn_of (show z82.toInt = z82.toInt from rfl) (by omega); have := tn_of (show u5.toInt = u5.toInt from rfl) (by omega); have := tn_of (show en.toInt = en.toInt from rfl) (by omega); have hb9 : u5.toNatClampNeg ≤ N := (by omega); have e5 : ru dgB (tx vt) N u5.toNatClampNeg = z82.toNatClampNeg := ru_u (by omega) (by omega) hj87 (fun h9 => dgB_0 (by show ¬ (48 ≤ (vt z82.toNatClampNeg).toInt ∧ (vt z82.toNatClampNeg).toInt ≤ 57); omega)); rw [hf15]; have v9 := hj89; have := (show z78.toInt = z78.toInt from rfl); by_cases q9 : z82.toNatClampNeg = u5.toNatClampNeg; (have k9 := nu_0 hb9 (e5.trans q9); exact Or.inr ⟨by omega, by omega⟩); obtain ⟨k1, k2, k3⟩ := nu_d hb9 (show u5.toNatClampNeg < ru dgB (tx vt) N u5.toNatClampNeg from by omega); rw [e5] at k1 k2 k3; by_cases q8 : 5 < z82.toNatClampNeg - u5.toNatClampNeg; (have k9 := k1 q8; exact Or.inr ⟨by omega, by omega⟩); have k9 := k2 (by omega); rw [show min (z82.toNatClampNeg - u5.toNatClampNeg) 5 = z82.toNatClampNeg - u5.toNatClampNeg from by omega] at v9; first | exact Or.inr ⟨by omega, by omega⟩ | exact Or.inl ⟨by omega, by omega, by omega, by unfold xn; rw [k3]; rfl⟩)⟩), by (try dsimp only); rw [ht]; exact ⟨hT, hF, m196, m197⟩⟩, hS.F ht⟩) hS.2.2 dX12_number_99
      · have t216 : r192.toInt ≠ 0 := ti_ne c203 rfl (by decide)
        have t217 : z82.toInt < en.toInt := hi199 ((bit_of ⟨by omega, by omega⟩).resolve_left c203)
        refine lv_aload_n hx hb dX12_number_17 rfl (lv_at hl 1 rfl) ?_
        refine tw_getM (v := .int z82) hx hb hts bF_X12 hown hK hT hr_o0 shm_0 rfl 12 (by decide) (ht_at hts 2 rfl) (fun _ h9 => h9) m196 dX12_number_18 ?_
        refine lv_aload_n hx hb dX12_number_21 rfl (lv_at hl 1 rfl) ?_
        refine tw_getM (v := .int u5) hx hb hts bF_X12 hown hK hT hr_o0 shm_0 rfl 14 (by decide) (ht_at hts 9 rfl) (fun _ h9 => h9) m197 dX12_number_22 ?_
        refine lv_isub hx hb dX12_number_25 ?_
        refine lv_topi (fun x218 ex218 => ?_)
        have t219 : x218.toInt = z82.toInt - u5.toInt := ti_sub ex218 rfl rfl (by omega) (by omega)
        refine lv_iconst (v := 5) hx hb dX12_number_26 (by decide) ?_
        refine lv_icmp_ge (tgt := 50) hx hb dX12_number_27 (by decide) (fun c220 => ?_) (fun c220 => ?_)
        · have t221 : 5 ≤ x218.toInt := ti_le c220 (by decide) rfl
          refine lv_iload_n hx hb dX12_number_50 rfl (lv_at hl 0 rfl) ?_
          refine lv_istore_n (lv' := [(2, .int z78), (0, .ref o0), (1, .int hg)]) hx hb dX12_number_51 rfl hl (by decide) rfl (fun ls hl => ?_)
          refine lv_aload_n hx hb dX12_number_52 rfl (lv_at hl 1 rfl) ?_
          refine lv_dup hx hb dX12_number_53 rfl ?_
          refine tw_getM (v := .int z82) hx hb hts bF_X12 hown hK hT hr_o0 shm_0 rfl 12 (by decide) (ht_at hts 2 rfl) (fun _ h9 => h9) m196 dX12_number_54 ?_
          refine lv_iconst (v := 1) hx hb dX12_number_57 (by decide) ?_
          refine lv_iadd hx hb dX12_number_58 ?_
          refine lv_topi (fun x222 ex222 => ?_)
          have t223 : x222.toInt = z82.toInt + 1 := ti_add ex222 rfl (by decide) (by omega) (by omega)
          refine tw_put (v := .int x222) (ty := .int) hx hb hts bF_X12 tyX12 tyX12_ok nmX12 hown hK hT hG hS hr_o0 shm_0 rfl 12 (by decide) (ht_at hts 2 rfl) (fun _ h9 => h9) rfl (by decide +kernel) rfl rfl (gl_at rfl (gi_of (show x222.toInt = x222.toInt from rfl) (by omega) (by omega))) dX12_number_59 (fun H locs hT oq m224 oj hS => ?_)
          have hF := hF.put hr_o0 skm_0 oq oj (by decide)
          have m225 := m194.kept (oq _ (gne hg1 hr_o0 (by decide)))
          have m226 := (oj 13 (by decide) (by decide)).trans m195
          have m227 := (oj 14 (by decide) (by decide)).trans m197
          refine lv_goto (tgt := 6) hx hb dX12_number_62 (by decide) ?_
          exact ih191 z78 x222 (by have q9 := (show x222.toInt = x222.toInt from rfl); omega) ⟨(by have q9 := (show z78.toInt = z78.toInt from rfl); (try have q8 := ti_all z78); omega), (by have q8 := ti_all x222; omega), (by have := (show x222.toInt = x222.toInt from rfl); have := (show u5.toInt = u5.toInt from rfl); omega), (fun j h1 h2 => by have := tn_of (show x222.toInt = x222.toInt from rfl) (by omega); have := tn_of (show z82.toInt = z82.toInt from rfl) (by omega); by_cases e9 : j = z82.toNatClampNeg; (rw [e9]; exact dgB_1 (by show 48 ≤ (vt z82.toNatClampNeg).toInt ∧ (vt z82.toNatClampNeg).toInt ≤ 57; omega)); exact hj87 j h1 (by omega)), (by have := (show z78.toInt = z78.toInt from rfl); have := (show x222.toInt = x222.toInt from rfl); have := (show u5.toInt = u5.toInt from rfl); omega), (by have := tn_of (show x222.toInt = x222.toInt from rfl) (by omega); have := tn_of (show u5.toInt = u5.toInt from rfl) (by omega); have := tn_of (show z82.toInt = z82.toInt from rfl) (by omega); have m9 : x222.toNatClampNeg = z82.toNatClampNeg + 1 := (by omega); rw [m9]; first | exact nv_s1 (by omega) (by omega) hj89 (by show _ = _ + (vt z82.toNatClampNeg).toInt - 48; omega) | exact nv_s2 (by omega) hj89)⟩ _ _ hT hF hS m225 m226 m224 m227 ls (lv_sub hl [0, 1, 2] rfl)
        · have t228 : x218.toInt < 5 := ti_nle c220 (by decide) rfl
          refine lv_bipush (v := 10) hx hb dX12_number_30 (by decide) ?_
          refine lv_iload_n hx hb dX12_number_32 rfl (lv_at hl 0 rfl) ?_
          have t229 : z78.toInt ≤ 9999 := (by omega)
          refine lv_imul hx hb dX12_number_33 ?_
          refine lv_topi (fun x230 ex230 => ?_)
          have t231 : x230.toInt = 10 * z78.toInt := ti_mul ex230 (by decide) rfl (by omega) (by omega)
          refine lv_aload_n hx hb dX12_number_34 rfl (lv_at hl 1 rfl) ?_
          refine tw_get hx hb hts bF_X12 hown hK hT hr_o0 shm_0 rfl 10 (by decide) (ht_at hts 4 rfl) (fun _ h9 => h9) dX12_number_35 (fun v9 m232 h9 => ?_)
          obtain ⟨rfl, hg233⟩ := h9 _ rfl
          refine lv_aload_n hx hb dX12_number_38 rfl (lv_at hl 1 rfl) ?_
          refine tw_getM (v := .int z82) hx hb hts bF_X12 hown hK hT hr_o0 shm_0 rfl 12 (by decide) (ht_at hts 2 rfl) (fun _ h9 => h9) m196 dX12_number_39 ?_
          refine tw_bald (i := z82) hx hb hK hT hg1 shm_11 rfl (vin_t (a := z82.toInt) rfl (by omega) (by omega)) dX12_number_42 (fun v9 m234 h9 => ?_)
          obtain ⟨x235, rfl, gx235, kx235⟩ := h9
          have cx235 := m194.at m234 (by have q9 := tn_of (show z82.toInt = z82.toInt from rfl) (by omega); omega)
          have t236 : x235.toInt = (vt z82.toNatClampNeg).toInt := congrArg Int32.toInt cx235
          refine lv_iadd hx hb dX12_number_43 ?_
          refine lv_topi (fun x237 ex237 => ?_)
          have t238 : x237.toInt = x230.toInt + x235.toInt := ti_add ex237 rfl rfl (by omega) (by omega)
          refine lv_bipush (v := 48) hx hb dX12_number_44 (by decide) ?_
          refine lv_isub hx hb dX12_number_46 ?_
          refine lv_topi (fun x239 ex239 => ?_)
          have t240 : x239.toInt = x237.toInt - 48 := ti_sub ex239 rfl (by decide) (by omega) (by omega)
          refine lv_goto (tgt := 51) hx hb dX12_number_47 (by decide) ?_
          refine lv_istore_n (lv' := [(2, .int x239), (0, .ref o0), (1, .int hg)]) hx hb dX12_number_51 rfl hl (by decide) rfl (fun ls hl => ?_)
          refine lv_aload_n hx hb dX12_number_52 rfl (lv_at hl 1 rfl) ?_
          refine lv_dup hx hb dX12_number_53 rfl ?_
          refine tw_getM (v := .int z82) hx hb hts bF_X12 hown hK hT hr_o0 shm_0 rfl 12 (by decide) (ht_at hts 2 rfl) (fun _ h9 => h9) m196 dX12_number_54 ?_
          refine lv_iconst (v := 1) hx hb dX12_number_57 (by decide) ?_
          refine lv_iadd hx hb dX12_number_58 ?_
          refine lv_topi (fun x241 ex241 => ?_)
          have t242 : x241.toInt = z82.toInt + 1 := ti_add ex241 rfl (by decide) (by omega) (by omega)
          refine tw_put (v := .int x241) (ty := .int) hx hb hts bF_X12 tyX12 tyX12_ok nmX12 hown hK hT hG hS hr_o0 shm_0 rfl 12 (by decide) (ht_at hts 2 rfl) (fun _ h9 => h9) rfl (by decide +kernel) rfl rfl (gl_at rfl (gi_of (show x241.toInt = x241.toInt from rfl) (by omega) (by omega))) dX12_number_59 (fun H locs hT oq m243 oj hS => ?_)
          have hF := hF.put hr_o0 skm_0 oq oj (by decide)
          have m244 := m194.kept (oq _ (gne hg1 hr_o0 (by decide)))
          have m245 := (oj 13 (by decide) (by decide)).trans m195
          have m246 := (oj 14 (by decide) (by decide)).trans m197
          refine lv_goto (tgt := 6) hx hb dX12_number_62 (by decide) ?_
          exact ih191 x239 x241 (by have q9 := (show x241.toInt = x241.toInt from rfl); omega) ⟨(by have q9 := (show x239.toInt = x239.toInt from rfl); (try have q8 := ti_all x239); omega), (by have q8 := ti_all x241; omega), (by have := (show x241.toInt = x241.toInt from rfl); have := (show u5.toInt = u5.toInt from rfl); omega), (fun j h1 h2 => by have := tn_of (show x241.toInt = x241.toInt from rfl) (by omega); have := tn_of (show z82.toInt = z82.toInt from rfl) (by omega); by_cases e9 : j = z82.toNatClampNeg; (rw [e9]; exact dgB_1 (by show 48 ≤ (vt z82.toNatClampNeg).toInt ∧ (vt z82.toNatClampNeg).toInt ≤ 57; omega)); exact hj87 j h1 (by omega)), (by have := (show x239.toInt = x239.toInt from rfl); have := (show x241.toInt = x241.toInt from rfl); have := (show u5.toInt = u5.toInt from rfl); omega), (by have := tn_of (show x241.toInt = x241.toInt from rfl) (by omega); have := tn_of (show u5.toInt = u5.toInt from rfl) (by omega); have := tn_of (show z82.toInt = z82.toInt from rfl) (by omega); have m9 : x241.toNatClampNeg = z82.toNatClampNeg + 1 := (by omega); rw [m9]; first | exact nv_s1 (by omega) (by omega) hj89 (by show _ = _ + (vt z82.toNatClampNeg).toInt - 48; omega) | exact nv_s2 (by omega) hj89)⟩ _ _ hT hF hS m244 m245 m243 m246 ls (lv_sub hl [0, 1, 2] rfl)
  exact key191 401 0 u4 (by have q9 := (show u4.toInt = u4.toInt from rfl); omega) ⟨(by have q9 := (show (0 : Int32).toInt = 0 from (by decide)); (try have q8 := ti_all (0 : Int32)); omega), (by have q8 := ti_all u4; omega), (by have := (show u4.toInt = u4.toInt from rfl); have := (show u5.toInt = u5.toInt from rfl); omega), (fun j h1 h2 => by omega), (by have := (show (0 : Int32).toInt = 0 from (by decide)); have := (show u4.toInt = u4.toInt from rfl); have := (show u5.toInt = u5.toInt from rfl); omega), (by have := tn_of (show u4.toInt = u4.toInt from rfl) (by omega); have := tn_of (show u5.toInt = u5.toInt from rfl) (by omega); rw [show u4.toNatClampNeg - u5.toNatClampNeg = 0 from by omega]; first | rfl | decide)⟩ _ _ hT hF hS m10 m9 m6 m7 ls (lv_sub hl [0, 1, 2] rfl)
def w_s_fact : List Cond := .code yX12_fact cX12_fact 1 (some (.object "java/lang/String")) :: (HAppend.hAppend (α := List Cond) (β := List Cond) (γ := List Cond) [] bs)
set_option maxHeartbeats 4000000 in
set_option maxRecDepth 100000 in
theorem s_fact (l : Launch) (dC : Nat → ClassId) (dI : Nat → Nat → Nat) (kA : Nat → ClassId) (adK adV : Nat → Nat) (G : gT) (H0 : Heap) (q : Nat → Nat) (wZ wN : Nat → Int) (wH wB wC : Int) (wL wK : Nat → Prop) (wU wV : Nat → Nat) (PI : Nat → Int → Prop) (im : Int) (PM PT : Nat → Int → Prop) (lS lB lE : Nat → Nat → Int → Prop) (lN : Nat → Int) (kf : Int32)  (hT : gH (dC, dI) kA (SHm q (wP wZ wN wH wB wC wL wK wU wV) PI im PM PT lS lB lE lN) G H0) (hq0 : 0 ≤ kf.toInt ∧ kf.toInt ≤ 9) (hgz : ∀ i, 0 ≤ wZ i) (hgn : ∀ i, 6500000 ≤ wN i ∧ wN i ≤ 20200000) (hgh : 0 ≤ wH ∧ wH ≤ 40000) (hgb : 0 ≤ wB ∧ wB ≤ 3850000) (hgc : 0 ≤ wC ∧ wC ≤ 30) (hgi : 0 ≤ im ∧ im ≤ 1) (hgu : ∀ a t, G a = some (t + 1) → a = q t) : Met l yX12_fact w_s_fact ({ frames := 0, cells := 0, slots := 0, locals := 0 }) (va_Pc [.int kf] (fun U => U.heap = H0 ∧ va_K (dC, dI) vwCl (tyl kA) U ∧ EVS adK adV (gA G H0.size) U U.heap)) (va_Qr (fun (u : Unit) => True) (fun (_ : Unit) (ra : Nat) (t : State) => ra = adK kf.toNatClampNeg ∧ gH (dC, dI) kA (SHm q (wP wZ wN wH wB wC wL wK wU wV) PI im PM PT lS lB lE lN) G t.heap ∧ gF (dC, dI) SKm G ([] : List (Nat × Nat)) H0 t.heap) (gA G H0.size)) 0 0 (gA G H0.size) := by
  refine Met.ofW (cc := cX12_fact) (maxL := 1) (ret := (some (.object "java/lang/String"))) (by decide +kernel) rfl ?_
  intro p e s m args below meth c s₁ B hml hv
  obtain ⟨rfl, hH0, hK, hE⟩ := hv
  have hx := B.exec
  have hb := B.bytes
  have hr := B.returns
  have hts := atoms_spec (ws := w_s_fact) B.pre
  have hown : s.vm.findClass RX12 = some m.cls := findClass_of_methodNamed B.named
  have hlocks := B.notSynchronized
  subst hH0
  generalize hAe : gA G s.heap.size = A at hE ⊢
  have hA : ∀ q : Nat, s.heap.size ≤ q → A q := fun q h => by rw [← hAe]; exact Or.inr h
  have hG := gA_of hAe
  have hS : va_S A s.heap s.heap [] := va_S.rf
  have hF : gF (dC, dI) SKm G ([] : List (Nat × Nat)) s.heap s.heap := gF.rf
  have hl := lv_entry ([.int kf]) (n := 1) (Nat.le_of_ble_eq_true rfl)
  rw [lg_entry_eq]
  generalize (lg_sl ([.int kf]) ++ List.replicate (1 - (lg_sl ([.int kf])).length) Slot.unset).toArray = ls at hl ⊢
  have hl : lv_has ls 1 [(0, .int kf)] := hl
  refine lv_iload_n hx hb dX12_fact_0 rfl (lv_at hl 0 rfl) ?_
  by_cases hs1 : kf = 0
  · subst hs1
    refine lv_tableIn (x := 0) (off := 51) (tgt := 52) hx hb dX12_fact_1 (by decide) (by decide) (by decide) (by decide) ?_
    refine tw_ldcwS hx hb hown hE.s0 dX12_fact_52 ?_
    exact W.aret (v := .ref (adK 0)) hx hb hr (Or.inl ⟨_, rfl⟩) (Or.inr ⟨_, rfl⟩) (fun t ht hW => ⟨⟨(), (adK 0), rfl, (by exact trivial), by (try dsimp only); rw [ht]; exact ⟨(congrArg adK (show (0 : Nat) = ((0 : Int32)).toNatClampNeg from by decide)), hT, hF⟩⟩, hS.F ht⟩) hS.2.2 dX12_fact_55
  by_cases hs2 : kf = 1
  · subst hs2
    refine lv_tableIn (x := 1) (off := 55) (tgt := 56) hx hb dX12_fact_1 (by decide) (by decide) (by decide) (by decide) ?_
    refine tw_ldcwS hx hb hown hE.s1 dX12_fact_56 ?_
    exact W.aret (v := .ref (adK 1)) hx hb hr (Or.inl ⟨_, rfl⟩) (Or.inr ⟨_, rfl⟩) (fun t ht hW => ⟨⟨(), (adK 1), rfl, (by exact trivial), by (try dsimp only); rw [ht]; exact ⟨(congrArg adK (show (1 : Nat) = ((1 : Int32)).toNatClampNeg from by decide)), hT, hF⟩⟩, hS.F ht⟩) hS.2.2 dX12_fact_59
  by_cases hs3 : kf = 2
  · subst hs3
    refine lv_tableIn (x := 2) (off := 59) (tgt := 60) hx hb dX12_fact_1 (by decide) (by decide) (by decide) (by decide) ?_
    refine tw_ldcwS hx hb hown hE.s2 dX12_fact_60 ?_
    exact W.aret (v := .ref (adK 2)) hx hb hr (Or.inl ⟨_, rfl⟩) (Or.inr ⟨_, rfl⟩) (fun t ht hW => ⟨⟨(), (adK 2), rfl, (by exact trivial), by (try dsimp only); rw [ht]; exact ⟨(congrArg adK (show (2 : Nat) = ((2 : Int32)).toNatClampNeg from by decide)), hT, hF⟩⟩, hS.F ht⟩) hS.2.2 dX12_fact_63
  by_cases hs4 : kf = 3
  · subst hs4
    refine lv_tableIn (x := 3) (off := 63) (tgt := 64) hx hb dX12_fact_1 (by decide) (by decide) (by decide) (by decide) ?_
    refine tw_ldcwS hx hb hown hE.s3 dX12_fact_64 ?_
    exact W.aret (v := .ref (adK 3)) hx hb hr (Or.inl ⟨_, rfl⟩) (Or.inr ⟨_, rfl⟩) (fun t ht hW => ⟨⟨(), (adK 3), rfl, (by exact trivial), by (try dsimp only); rw [ht]; exact ⟨(congrArg adK (show (3 : Nat) = ((3 : Int32)).toNatClampNeg from by decide)), hT, hF⟩⟩, hS.F ht⟩) hS.2.2 dX12_fact_67
  by_cases hs5 : kf = 4
  · subst hs5
    refine lv_tableIn (x := 4) (off := 67) (tgt := 68) hx hb dX12_fact_1 (by decide) (by decide) (by decide) (by decide) ?_
    refine tw_ldcwS hx hb hown hE.s4 dX12_fact_68 ?_
    exact W.aret (v := .ref (adK 4)) hx hb hr (Or.inl ⟨_, rfl⟩) (Or.inr ⟨_, rfl⟩) (fun t ht hW => ⟨⟨(), (adK 4), rfl, (by exact trivial), by (try dsimp only); rw [ht]; exact ⟨(congrArg adK (show (4 : Nat) = ((4 : Int32)).toNatClampNeg from by decide)), hT, hF⟩⟩, hS.F ht⟩) hS.2.2 dX12_fact_71
  by_cases hs6 : kf = 5
  · subst hs6
    refine lv_tableIn (x := 5) (off := 71) (tgt := 72) hx hb dX12_fact_1 (by decide) (by decide) (by decide) (by decide) ?_
    refine tw_ldcwS hx hb hown hE.s5 dX12_fact_72 ?_
    exact W.aret (v := .ref (adK 5)) hx hb hr (Or.inl ⟨_, rfl⟩) (Or.inr ⟨_, rfl⟩) (fun t ht hW => ⟨⟨(), (adK 5), rfl, (by exact trivial), by (try dsimp only); rw [ht]; exact ⟨(congrArg adK (show (5 : Nat) = ((5 : Int32)).toNatClampNeg from by decide)), hT, hF⟩⟩, hS.F ht⟩) hS.2.2 dX12_fact_75
  by_cases hs7 : kf = 6
  · subst hs7
    refine lv_tableIn (x := 6) (off := 75) (tgt := 76) hx hb dX12_fact_1 (by decide) (by decide) (by decide) (by decide) ?_
    refine tw_ldcwS hx hb hown hE.s6 dX12_fact_76 ?_
    exact W.aret (v := .ref (adK 6)) hx hb hr (Or.inl ⟨_, rfl⟩) (Or.inr ⟨_, rfl⟩) (fun t ht hW => ⟨⟨(), (adK 6), rfl, (by exact trivial), by (try dsimp only); rw [ht]; exact ⟨(congrArg adK (show (6 : Nat) = ((6 : Int32)).toNatClampNeg from by decide)), hT, hF⟩⟩, hS.F ht⟩) hS.2.2 dX12_fact_79
  by_cases hs8 : kf = 7
  · subst hs8
    refine lv_tableIn (x := 7) (off := 79) (tgt := 80) hx hb dX12_fact_1 (by decide) (by decide) (by decide) (by decide) ?_
    refine tw_ldcwS hx hb hown hE.s7 dX12_fact_80 ?_
    exact W.aret (v := .ref (adK 7)) hx hb hr (Or.inl ⟨_, rfl⟩) (Or.inr ⟨_, rfl⟩) (fun t ht hW => ⟨⟨(), (adK 7), rfl, (by exact trivial), by (try dsimp only); rw [ht]; exact ⟨(congrArg adK (show (7 : Nat) = ((7 : Int32)).toNatClampNeg from by decide)), hT, hF⟩⟩, hS.F ht⟩) hS.2.2 dX12_fact_83
  by_cases hs9 : kf = 8
  · subst hs9
    refine lv_tableIn (x := 8) (off := 83) (tgt := 84) hx hb dX12_fact_1 (by decide) (by decide) (by decide) (by decide) ?_
    refine tw_ldcwS hx hb hown hE.s8 dX12_fact_84 ?_
    exact W.aret (v := .ref (adK 8)) hx hb hr (Or.inl ⟨_, rfl⟩) (Or.inr ⟨_, rfl⟩) (fun t ht hW => ⟨⟨(), (adK 8), rfl, (by exact trivial), by (try dsimp only); rw [ht]; exact ⟨(congrArg adK (show (8 : Nat) = ((8 : Int32)).toNatClampNeg from by decide)), hT, hF⟩⟩, hS.F ht⟩) hS.2.2 dX12_fact_87
  have ho10 : kf.toInt < 0 ∨ 8 < kf.toInt := by
    by_cases hz9 : kf.toInt < 0
    · exact Or.inl hz9
    have u9 : (0 : Int) ≤ kf.toInt := Int.not_lt.mp hz9
    have u9 := ll_nx (k1 := 1) u9 hs1 (by decide) (by decide)
    have u9 := ll_nx (k1 := 2) u9 hs2 (by decide) (by decide)
    have u9 := ll_nx (k1 := 3) u9 hs3 (by decide) (by decide)
    have u9 := ll_nx (k1 := 4) u9 hs4 (by decide) (by decide)
    have u9 := ll_nx (k1 := 5) u9 hs5 (by decide) (by decide)
    have u9 := ll_nx (k1 := 6) u9 hs6 (by decide) (by decide)
    have u9 := ll_nx (k1 := 7) u9 hs7 (by decide) (by decide)
    have u9 := ll_nx (k1 := 8) u9 hs8 (by decide) (by decide)
    have u9 := ll_nx (k1 := 9) u9 hs9 (by decide) (by decide)
    exact Or.inr (Int.lt_of_lt_of_le (by decide) u9)
  refine lv_tableOut (tgt := 88) hx hb dX12_fact_1 ho10 (by decide) ?_
  refine tw_ldcwS hx hb hown hE.s9 dX12_fact_88 ?_
  exact W.aret (v := .ref (adK 9)) hx hb hr (Or.inl ⟨_, rfl⟩) (Or.inr ⟨_, rfl⟩) (fun t ht hW => ⟨⟨(), (adK 9), rfl, (by exact trivial), by (try dsimp only); rw [ht]; exact ⟨(congrArg adK (show (9 : Nat) = kf.toNatClampNeg from by have q9 := tn_of (i := kf) rfl (by omega); omega)), hT, hF⟩⟩, hS.F ht⟩) hS.2.2 dX12_fact_91
