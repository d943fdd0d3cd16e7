def w_s_feedE : List Cond := .code yX12_feed cX12_feed 7 (some .int) :: (HAppend.hAppend (α := List Cond) (β := List Cond) (γ := List Cond) [.fieldLink RX12 194 "SeaLandModel" "thrown" "I", .fieldLink RX12 332 "SeaLandModel" "taped" "I", .fieldLink RX12 39 "SeaLandModel" "five" "[I", .fieldLink RX12 31 "SeaLandModel" "tape" "[B"] bs)
set_option maxHeartbeats 4000000 in
set_option maxRecDepth 100000 in
theorem s_feedE (l : Launch) (dC : Nat → ClassId) (dI : Nat → Nat → Nat) (kA : Nat → ClassId) (adK adV : Nat → Nat) (G : gT) (H0 : Heap) (q : Nat → Nat) (wZ wN : Nat → Int) (wH wB wC : Int) (wL wK : Nat → Prop) (wU wV : Nat → Nat) (PI : Nat → Int → Prop) (im : Int) (PM PT : Nat → Int → Prop) (lS lB lE : Nat → Nat → Int → Prop) (lN : Nat → Int) (o0 : Nat) (p0 : Int32) (p1 : Int32) (p2 : Int32) (p3 : Int32) (p4 : Int32) (tn : Int32)  (hT : gH (dC, dI) kA (SHm q (wP wZ wN wH wB wC wL wK wU wV) PI im PM PT lS lB lE lN) G H0) (hr_o0 : G o0 = some 0) (hm_tn : el H0 o0 (dI 15 11) = some (.int tn)) (hq0 : 0 ≤ tn.toInt ∧ tn.toInt ≤ 400) (hgz : ∀ i, 0 ≤ wZ i) (hgn : ∀ i, 6500000 ≤ wN i ∧ wN i ≤ 20200000) (hgh : 0 ≤ wH ∧ wH ≤ 40000) (hgb : 0 ≤ wB ∧ wB ≤ 3850000) (hgc : 0 ≤ wC ∧ wC ≤ 30) (hgi : 0 ≤ im ∧ im ≤ 1) (hgu : ∀ a t, G a = some (t + 1) → a = q t) : Met l yX12_feed w_s_feedE ({ frames := 0, cells := 0, slots := 0, locals := 0 }) (va_Pc [.ref o0, .int p0, .int p1, .int p2, .int p3, .int p4] (fun U => U.heap = H0 ∧ va_K (dC, dI) vwCl (tyl kA) U ∧ EVS adK adV (gA G H0.size) U U.heap)) (va_Qi (fun (r : Int32) (u : Int32) => (-1 ≤ r.toInt ∧ r.toInt ≤ 400) ∧ ((tn.toInt ≤ 380 ∧ r.toInt = tn.toInt + 20 ∧ u.toInt = tn.toInt + 20) ∨ (380 < tn.toInt ∧ r.toInt = -1 ∧ u.toInt = tn.toInt))) (fun (t1 : Int32) (t : State) => gH (dC, dI) kA (SHm q (wP wZ wN wH wB wC wL wK wU wV) PI im PM PT lS lB lE lN) G t.heap ∧ gF (dC, dI) SKm G ([(0, 0), (0, 11), (11, 0), (18, 0)] : List (Nat × Nat)) H0 t.heap ∧ el t.heap o0 (dI 15 11) = some (.int t1)) (gA G H0.size)) 0 0 (gA G H0.size) := by
  refine Met.ofW (cc := cX12_feed) (maxL := 7) (ret := (some .int)) (by decide) rfl ?_
  intro p e s m args below meth c s₁ B hml hv
  obtain ⟨rfl, hH0, hK, hE⟩ := hv
  have hx := B.exec
  have hb := B.bytes
  have hr := B.returns
  have hts := atoms_spec (ws := w_s_feedE) B.pre
  have hown : s.vm.findClass RX12 = some m.cls := findClass_of_methodNamed B.named
  have hlocks := B.notSynchronized
  subst hH0
  generalize hAe : gA G s.heap.size = A at hE ⊢
  have hA : ∀ q : Nat, s.heap.size ≤ q → A q := fun q h => by rw [← hAe]; exact Or.inr h
  have hG := gA_of hAe
  have hS : va_S A s.heap s.heap [] := va_S.rf
  have hF : gF (dC, dI) SKm G ([(0, 0), (0, 11), (11, 0), (18, 0)] : List (Nat × Nat)) s.heap s.heap := gF.rf
  have hl := lv_entry ([.ref o0, .int p0, .int p1, .int p2, .int p3, .int p4]) (n := 7) (Nat.le_of_ble_eq_true rfl)
  rw [lg_entry_eq]
  generalize (lg_sl ([.ref o0, .int p0, .int p1, .int p2, .int p3, .int p4]) ++ List.replicate (7 - (lg_sl ([.ref o0, .int p0, .int p1, .int p2, .int p3, .int p4])).length) Slot.unset).toArray = ls at hl ⊢
  have hl : lv_has ls 7 [(0, .ref o0), (1, .int p0), (2, .int p1), (3, .int p2), (4, .int p3), (5, .int p4)] := hl
  refine lv_aload_n hx hb dX12_feed_0 rfl (lv_at hl 0 rfl) ?_
  refine lv_iconst (v := 0) hx hb dX12_feed_1 (by decide) ?_
  refine tw_put (v := .int 0) (ty := .int) hx hb hts bF_X12 tyX12 tyX12_ok nmX12 hown hK hT hG hS hr_o0 shm_0 rfl 0 (by decide) (ht_at hts 0 rfl) (fun _ h9 => h9) rfl (by decide +kernel) rfl rfl (gl_at rfl (gi_all _)) dX12_feed_2 (fun H locs hT oq m1 oj hS => ?_)
  have hF := hF.put hr_o0 skm_0 oq oj (by decide)
  have m2 := (oj 11 (by decide) (by decide)).trans hm_tn
  refine lv_aload_n hx hb dX12_feed_5 rfl (lv_at hl 0 rfl) ?_
  refine tw_getM (v := .int tn) hx hb hts bF_X12 hown hK hT hr_o0 shm_0 rfl 11 (by decide) (ht_at hts 1 rfl) (fun _ h9 => h9) m2 dX12_feed_6 ?_
  refine lv_bipush (v := 20) hx hb dX12_feed_9 (by decide) ?_
  refine lv_iadd hx hb dX12_feed_11 ?_
  refine lv_topi (fun x3 ex3 => ?_)
  have t4 : x3.toInt = tn.toInt + 20 := ti_add ex3 rfl (by decide) (by omega) (by omega)
  refine lv_sipush (v := 400) hx hb dX12_feed_12 (by decide) ?_
  refine lv_icmp_le (tgt := 20) hx hb dX12_feed_15 (by decide) (fun c5 => ?_) (fun c5 => ?_)
  · have t6 : x3.toInt ≤ 400 := ti_le c5 rfl (by decide)
    refine lv_aload_n hx hb dX12_feed_20 rfl (lv_at hl 0 rfl) ?_
    refine tw_get hx hb hts bF_X12 hown hK hT hr_o0 shm_0 rfl 17 (by decide) (ht_at hts 2 rfl) (fun _ h9 => h9) dX12_feed_21 (fun v9 m7 h9 => ?_)
    obtain ⟨rfl, hg8⟩ := h9 _ rfl
    refine lv_iconst (v := 0) hx hb dX12_feed_24 (by decide) ?_
    refine lv_iload_n hx hb dX12_feed_25 rfl (lv_at hl 1 rfl) ?_
    refine tw_iast (i := 0) (x := p0) hx hb hK hT hG hS hg8 shm_18 rfl (by unfold vp_in; decide) (gi_all _) dX12_feed_26 (fun H locs hT oq m9 oi hS => ?_)
    have hF := hF.ast hg8 skm_18 oq (by decide)
    have m10 := (el_kept (oq _ (gne hr_o0 hg8 (by decide)))).trans m2
    have m11 := (el_kept (oq _ (gne hr_o0 hg8 (by decide)))).trans m1
    refine lv_aload_n hx hb dX12_feed_27 rfl (lv_at hl 0 rfl) ?_
    refine tw_get hx hb hts bF_X12 hown hK hT hr_o0 shm_0 rfl 17 (by decide) (ht_at hts 2 rfl) (fun _ h9 => h9) dX12_feed_28 (fun v9 m12 h9 => ?_)
    obtain ⟨rfl, hg13⟩ := h9 _ rfl
    refine lv_iconst (v := 1) hx hb dX12_feed_31 (by decide) ?_
    refine lv_iload_n hx hb dX12_feed_32 rfl (lv_at hl 2 rfl) ?_
    refine tw_iast (i := 1) (x := p1) hx hb hK hT hG hS hg8 shm_18 rfl (by unfold vp_in; decide) (gi_all _) dX12_feed_33 (fun H locs hT oq m14 oi hS => ?_)
    have hF := hF.ast hg8 skm_18 oq (by decide)
    have m15 := (el_kept (oq _ (gne hr_o0 hg8 (by decide)))).trans m10
    have m16 := (el_kept (oq _ (gne hr_o0 hg8 (by decide)))).trans m11
    have m17 := (oi _ (tn_ne (show (0 : Int32).toInt = 0 from (by decide)) (show (1 : Int32).toInt = 1 from (by decide)) (by omega) (by omega) (by omega))).trans m9
    refine lv_aload_n hx hb dX12_feed_34 rfl (lv_at hl 0 rfl) ?_
    refine tw_get hx hb hts bF_X12 hown hK hT hr_o0 shm_0 rfl 17 (by decide) (ht_at hts 2 rfl) (fun _ h9 => h9) dX12_feed_35 (fun v9 m18 h9 => ?_)
    obtain ⟨rfl, hg19⟩ := h9 _ rfl
    refine lv_iconst (v := 2) hx hb dX12_feed_38 (by decide) ?_
    refine lv_iload_n hx hb dX12_feed_39 rfl (lv_at hl 3 rfl) ?_
    refine tw_iast (i := 2) (x := p2) hx hb hK hT hG hS hg8 shm_18 rfl (by unfold vp_in; decide) (gi_all _) dX12_feed_40 (fun H locs hT oq m20 oi hS => ?_)
    have hF := hF.ast hg8 skm_18 oq (by decide)
    have m21 := (el_kept (oq _ (gne hr_o0 hg8 (by decide)))).trans m15
    have m22 := (el_kept (oq _ (gne hr_o0 hg8 (by decide)))).trans m16
    have m23 := (oi _ (tn_ne (show (0 : Int32).toInt = 0 from (by decide)) (show (2 : Int32).toInt = 2 from (by decide)) (by omega) (by omega) (by omega))).trans m17
    have m24 := (oi _ (tn_ne (show (1 : Int32).toInt = 1 from (by decide)) (show (2 : Int32).toInt = 2 from (by decide)) (by omega) (by omega) (by omega))).trans m14
    refine lv_aload_n hx hb dX12_feed_41 rfl (lv_at hl 0 rfl) ?_
    refine tw_get hx hb hts bF_X12 hown hK hT hr_o0 shm_0 rfl 17 (by decide) (ht_at hts 2 rfl) (fun _ h9 => h9) dX12_feed_42 (fun v9 m25 h9 => ?_)
    obtain ⟨rfl, hg26⟩ := h9 _ rfl
    refine lv_iconst (v := 3) hx hb dX12_feed_45 (by decide) ?_
    refine lv_iload hx hb dX12_feed_46 (lv_at hl 4 rfl) ?_
    refine tw_iast (i := 3) (x := p3) hx hb hK hT hG hS hg8 shm_18 rfl (by unfold vp_in; decide) (gi_all _) dX12_feed_48 (fun H locs hT oq m27 oi hS => ?_)
    have hF := hF.ast hg8 skm_18 oq (by decide)
    have m28 := (el_kept (oq _ (gne hr_o0 hg8 (by decide)))).trans m21
    have m29 := (el_kept (oq _ (gne hr_o0 hg8 (by decide)))).trans m22
    have m30 := (oi _ (tn_ne (show (0 : Int32).toInt = 0 from (by decide)) (show (3 : Int32).toInt = 3 from (by decide)) (by omega) (by omega) (by omega))).trans m23
    have m31 := (oi _ (tn_ne (show (1 : Int32).toInt = 1 from (by decide)) (show (3 : Int32).toInt = 3 from (by decide)) (by omega) (by omega) (by omega))).trans m24
    have m32 := (oi _ (tn_ne (show (2 : Int32).toInt = 2 from (by decide)) (show (3 : Int32).toInt = 3 from (by decide)) (by omega) (by omega) (by omega))).trans m20
    refine lv_aload_n hx hb dX12_feed_49 rfl (lv_at hl 0 rfl) ?_
    refine tw_get hx hb hts bF_X12 hown hK hT hr_o0 shm_0 rfl 17 (by decide) (ht_at hts 2 rfl) (fun _ h9 => h9) dX12_feed_50 (fun v9 m33 h9 => ?_)
    obtain ⟨rfl, hg34⟩ := h9 _ rfl
    refine lv_iconst (v := 4) hx hb dX12_feed_53 (by decide) ?_
    refine lv_iload hx hb dX12_feed_54 (lv_at hl 5 rfl) ?_
    refine tw_iast (i := 4) (x := p4) hx hb hK hT hG hS hg8 shm_18 rfl (by unfold vp_in; decide) (gi_all _) dX12_feed_56 (fun H locs hT oq m35 oi hS => ?_)
    have hF := hF.ast hg8 skm_18 oq (by decide)
    have m36 := (el_kept (oq _ (gne hr_o0 hg8 (by decide)))).trans m28
    have m37 := (el_kept (oq _ (gne hr_o0 hg8 (by decide)))).trans m29
    have m38 := (oi _ (tn_ne (show (0 : Int32).toInt = 0 from (by decide)) (show (4 : Int32).toInt = 4 from (by decide)) (by omega) (by omega) (by omega))).trans m30
    have m39 := (oi _ (tn_ne (show (1 : Int32).toInt = 1 from (by decide)) (show (4 : Int32).toInt = 4 from (by decide)) (by omega) (by omega) (by omega))).trans m31
    have m40 := (oi _ (tn_ne (show (2 : Int32).toInt = 2 from (by decide)) (show (4 : Int32).toInt = 4 from (by decide)) (by omega) (by omega) (by omega))).trans m32
    have m41 := (oi _ (tn_ne (show (3 : Int32).toInt = 3 from (by decide)) (show (4 : Int32).toInt = 4 from (by decide)) (by omega) (by omega) (by omega))).trans m27
    refine lv_iconst (v := 0) hx hb dX12_feed_57 (by decide) ?_
    refine lv_istore (lv' := [(6, .int 0), (0, .ref o0), (1, .int p0), (2, .int p1), (3, .int p2), (4, .int p3), (5, .int p4)]) hx hb dX12_feed_58 hl (by decide) rfl (fun ls hl => ?_)
    have jn111 : ∀ (H : Heap) (locs : List Loc), gH (dC, dI) kA (SHm q (wP wZ wN wH wB wC wL wK wU wV) PI im PM PT lS lB lE lN) G H → gF (dC, dI) SKm G ([(0, 0), (0, 11), (11, 0), (18, 0)] : List (Nat × Nat)) s.heap H → va_S A s.heap H locs → el H o0 (dI 15 11) = some (.int tn) → el H o0 (dI 15 0) = some (.int 0) → el H (q 17) (0 : Int32).toNatClampNeg = some (.int p0) → el H (q 17) (1 : Int32).toNatClampNeg = some (.int p1) → el H (q 17) (2 : Int32).toNatClampNeg = some (.int p2) → el H (q 17) (3 : Int32).toNatClampNeg = some (.int p3) → el H (q 17) (4 : Int32).toNatClampNeg = some (.int p4) → ∀ ls : Array Slot, lv_has ls 7 [(6, .int (nI 20)), (0, .ref o0), (1, .int p0), (2, .int p1), (3, .int p2), (4, .int p3), (5, .int p4)] → W p l e (headSpec w_s_feedE ({ frames := 0, cells := 0, slots := 0, locals := 0 })).room s m #[.ref o0, .int p0, .int p1, .int p2, .int p3, .int p4] below meth c H locs 0 0 (MQ below (va_Qi (fun (r : Int32) (u : Int32) => (-1 ≤ r.toInt ∧ r.toInt ≤ 400) ∧ ((tn.toInt ≤ 380 ∧ r.toInt = tn.toInt + 20 ∧ u.toInt = tn.toInt + 20) ∨ (380 < tn.toInt ∧ r.toInt = -1 ∧ u.toInt = tn.toInt))) (fun (t1 : Int32) (t : State) => gH (dC, dI) kA (SHm q (wP wZ wN wH wB wC wL wK wU wV) PI im PM PT lS lB lE lN) G t.heap ∧ gF (dC, dI) SKm G ([(0, 0), (0, 11), (11, 0), (18, 0)] : List (Nat × Nat)) s.heap t.heap ∧ el t.heap o0 (dI 15 11) = some (.int t1)) A) #[.ref o0, .int p0, .int p1, .int p2, .int p3, .int p4] s 0 0 A) (F0 m 106 ls []) := by
      intro  H locs hT hF hS m104 m105 m106 m107 m108 m109 m110 ls hl
      refine lv_aload_n hx hb dX12_feed_106 rfl (lv_at hl 1 rfl) ?_
      refine lv_dup hx hb dX12_feed_107 rfl ?_
      refine tw_getM (v := .int tn) hx hb hts bF_X12 hown hK hT hr_o0 shm_0 rfl 11 (by decide) (ht_at hts 1 rfl) (fun _ h9 => h9) m104 dX12_feed_108 ?_
      refine lv_bipush (v := 20) hx hb dX12_feed_111 (by decide) ?_
      refine lv_iadd hx hb dX12_feed_113 ?_
      refine lv_topi (fun x112 ex112 => ?_)
      have t113 : x112.toInt = tn.toInt + 20 := ti_add ex112 rfl (by decide) (by omega) (by omega)
      refine tw_put (v := .int x112) (ty := .int) hx hb hts bF_X12 tyX12 tyX12_ok nmX12 hown hK hT hG hS hr_o0 shm_0 rfl 11 (by decide) (ht_at hts 1 rfl) (fun _ h9 => h9) rfl (by decide +kernel) rfl rfl (gl_at rfl (gi_of (show x112.toInt = x112.toInt from rfl) (by omega) (by omega))) dX12_feed_114 (fun H locs hT oq m114 oj hS => ?_)
      have hF := hF.put hr_o0 skm_0 oq oj (by decide)
      have m115 := (oj 0 (by decide) (by decide)).trans m105
      have m116 := (el_kept (oq _ (gne hg8 hr_o0 (by decide)))).trans m106
      have m117 := (el_kept (oq _ (gne hg8 hr_o0 (by decide)))).trans m107
      have m118 := (el_kept (oq _ (gne hg8 hr_o0 (by decide)))).trans m108
      have m119 := (el_kept (oq _ (gne hg8 hr_o0 (by decide)))).trans m109
      have m120 := (el_kept (oq _ (gne hg8 hr_o0 (by decide)))).trans m110
      refine lv_aload_n hx hb dX12_feed_117 rfl (lv_at hl 1 rfl) ?_
      refine tw_getM (v := .int x112) hx hb hts bF_X12 hown hK hT hr_o0 shm_0 rfl 11 (by decide) (ht_at hts 1 rfl) (fun _ h9 => h9) m114 dX12_feed_118 ?_
      exact W.iret (v := x112) hx hb hr (fun t ht hW => ⟨⟨x112, x112, rfl, (by exact ⟨(rg_t (a := x112.toInt) rfl (by have q8 := ti_all x112; omega) (by have q8 := ti_all x112; omega)), (by omega)⟩), by (try dsimp only); rw [ht]; exact ⟨hT, hF, m114⟩⟩, hS.F ht⟩) hS.2.2 dX12_feed_121
    have key121 : ∀ (n121 i42 : Nat), i42 + n121 = 20 → 0 ≤ i42 → ∀ (H : Heap) (locs : List Loc), gH (dC, dI) kA (SHm q (wP wZ wN wH wB wC wL wK wU wV) PI im PM PT lS lB lE lN) G H → gF (dC, dI) SKm G ([(0, 0), (0, 11), (11, 0), (18, 0)] : List (Nat × Nat)) s.heap H → va_S A s.heap H locs → el H o0 (dI 15 11) = some (.int tn) → el H o0 (dI 15 0) = some (.int 0) → el H (q 17) (0 : Int32).toNatClampNeg = some (.int p0) → el H (q 17) (1 : Int32).toNatClampNeg = some (.int p1) → el H (q 17) (2 : Int32).toNatClampNeg = some (.int p2) → el H (q 17) (3 : Int32).toNatClampNeg = some (.int p3) → el H (q 17) (4 : Int32).toNatClampNeg = some (.int p4) → ∀ ls : Array Slot, lv_has ls 7 [(6, .int (nI i42)), (0, .ref o0), (1, .int p0), (2, .int p1), (3, .int p2), (4, .int p3), (5, .int p4)] → W p l e (headSpec w_s_feedE ({ frames := 0, cells := 0, slots := 0, locals := 0 })).room s m #[.ref o0, .int p0, .int p1, .int p2, .int p3, .int p4] below meth c H locs 0 0 (MQ below (va_Qi (fun (r : Int32) (u : Int32) => (-1 ≤ r.toInt ∧ r.toInt ≤ 400) ∧ ((tn.toInt ≤ 380 ∧ r.toInt = tn.toInt + 20 ∧ u.toInt = tn.toInt + 20) ∨ (380 < tn.toInt ∧ r.toInt = -1 ∧ u.toInt = tn.toInt))) (fun (t1 : Int32) (t : State) => gH (dC, dI) kA (SHm q (wP wZ wN wH wB wC wL wK wU wV) PI im PM PT lS lB lE lN) G t.heap ∧ gF (dC, dI) SKm G ([(0, 0), (0, 11), (11, 0), (18, 0)] : List (Nat × Nat)) s.heap t.heap ∧ el t.heap o0 (dI 15 11) = some (.int t1)) A) #[.ref o0, .int p0, .int p1, .int p2, .int p3, .int p4] s 0 0 A) (F0 m 60 ls []) := by
      intro n121
      induction n121 with
      | zero =>
        intro i42 hn121 hlo122  H locs hT hF hS m43 m44 m45 m46 m47 m48 m49 ls hl
        obtain rfl : 20 = i42 := by omega
        refine lv_iload hx hb dX12_feed_60 (lv_at hl 0 rfl) ?_
        refine lv_bipush (v := 20) hx hb dX12_feed_62 (by decide) ?_
        refine lv_icmp_ge (tgt := 106) hx hb dX12_feed_64 (by decide) (fun c123 => ?_) (fun c123 => (by exfalso; have q9 : ((20 : Nat) : Int) < 20 := ti_nle c123 (by decide) (nI_toInt (by omega)); omega))
        have t124 : 20 ≤ ((20 : Nat) : Int) := ti_le c123 (by decide) (nI_toInt (by omega))
        exact jn111 _ _ hT hF hS m43 m44 m45 m46 m47 m48 m49 ls (lv_sub hl [0, 1, 2, 3, 4, 5, 6] rfl)
      | succ n121 ih121 =>
        intro i42 hn121 hlo122  H locs hT hF hS m43 m44 m45 m46 m47 m48 m49 ls hl
        have hlt124 : i42 < 20 := by omega
        refine lv_iload hx hb dX12_feed_60 (lv_at hl 0 rfl) ?_
        refine lv_bipush (v := 20) hx hb dX12_feed_62 (by decide) ?_
        refine lv_icmp_ge (tgt := 106) hx hb dX12_feed_64 (by decide) (fun c125 => (by exfalso; have q9 : 20 ≤ ((i42 : Nat) : Int) := ti_le c125 (by decide) (nI_toInt (by omega)); omega)) (fun c125 => ?_)
        have t126 : ((i42 : Nat) : Int) < 20 := ti_nle c125 (by decide) (nI_toInt (by omega))
        refine lv_aload_n hx hb dX12_feed_67 rfl (lv_at hl 1 rfl) ?_
        refine tw_get hx hb hts bF_X12 hown hK hT hr_o0 shm_0 rfl 10 (by decide) (ht_at hts 3 rfl) (fun _ h9 => h9) dX12_feed_68 (fun v9 m127 h9 => ?_)
        obtain ⟨rfl, hg128⟩ := h9 _ rfl
        refine lv_aload_n hx hb dX12_feed_71 rfl (lv_at hl 1 rfl) ?_
        refine tw_getM (v := .int tn) hx hb hts bF_X12 hown hK hT hr_o0 shm_0 rfl 11 (by decide) (ht_at hts 1 rfl) (fun _ h9 => h9) m43 dX12_feed_72 ?_
        refine lv_iload hx hb dX12_feed_75 (lv_at hl 0 rfl) ?_
        refine lv_iadd hx hb dX12_feed_77 ?_
        refine lv_topi (fun x129 ex129 => ?_)
        have t130 : x129.toInt = tn.toInt + ((i42 : Nat) : Int) := ti_add ex129 rfl (nI_toInt (by omega)) (by omega) (by omega)
        refine lv_aload_n hx hb dX12_feed_78 rfl (lv_at hl 1 rfl) ?_
        refine tw_get hx hb hts bF_X12 hown hK hT hr_o0 shm_0 rfl 17 (by decide) (ht_at hts 2 rfl) (fun _ h9 => h9) dX12_feed_79 (fun v9 m131 h9 => ?_)
        obtain ⟨rfl, hg132⟩ := h9 _ rfl
        refine lv_iload hx hb dX12_feed_82 (lv_at hl 0 rfl) ?_
        refine lv_iconst (v := 4) hx hb dX12_feed_84 (by decide) ?_
        refine lv_idiv hx hb dX12_feed_85 (by decide) ?_
        refine lv_topi (fun x133 ex133 => ?_)
        obtain rfl : nI (i42 / 4) = x133 := (ex133.trans (pk_div (a := i42) (d := 4) (by omega) (by decide) (by decide))).symm
        refine tw_iald (i := (nI (i42 / 4))) hx hb hK hT hg8 shm_18 rfl (vp_in_nI (by omega) (by decide)) dX12_feed_86 (fun v9 m134 h9 => ?_)
        obtain ⟨x135, rfl, gx135, kx135⟩ := h9
        refine lv_bipush (v := 24) hx hb dX12_feed_87 (by decide) ?_
        refine lv_bipush (v := 8) hx hb dX12_feed_89 (by decide) ?_
        refine lv_iload hx hb dX12_feed_91 (lv_at hl 0 rfl) ?_
        refine lv_iconst (v := 4) hx hb dX12_feed_93 (by decide) ?_
        refine lv_irem hx hb dX12_feed_94 (by decide) ?_
        refine lv_topi (fun x136 ex136 => ?_)
        obtain rfl : nI (i42 % 4) = x136 := (ex136.trans (pk_rem (a := i42) (d := 4) (by omega) (by decide) (by decide))).symm
        refine lv_imul hx hb dX12_feed_95 ?_
        refine lv_topi (fun x137 ex137 => ?_)
        obtain rfl : nI (8 * (i42 % 4)) = x137 := (ex137.trans (pk_mul 8 (i42 % 4))).symm
        refine lv_isub hx hb dX12_feed_96 ?_
        refine lv_topi (fun x138 ex138 => ?_)
        have t139 : x138.toInt = 24 - ((8 * (i42 % 4) : Nat) : Int) := ti_sub ex138 (by decide) (nI_toInt (by omega)) (by omega) (by omega)
        refine lv_ishr hx hb dX12_feed_97 ?_
        refine lv_topi (fun x140 ex140 => ?_)
        refine lv_i2b (v := x140.toInt8.toInt32) hx hb dX12_feed_98 rfl ?_
        refine lv_topi (fun x141 ex141 => ?_)
        refine tw_bast (i := x129) (x := x141) hx hb hK hT hG hS hg128 shm_11 rfl (vin_t (a := x129.toInt) rfl (by omega) (by omega)) (gi_b _ (by decide) (by decide)) dX12_feed_99 (fun H locs hT oq m142 oi hS => ?_)
        have hF := hF.ast hg128 skm_11 oq (by decide)
        have m143 := (el_kept (oq _ (gne hr_o0 hg128 (by decide)))).trans m43
        have m144 := (el_kept (oq _ (gne hr_o0 hg128 (by decide)))).trans m44
        have m145 := (el_kept (oq _ (gne hg8 hg128 (by decide)))).trans m45
        have m146 := (el_kept (oq _ (gne hg8 hg128 (by decide)))).trans m46
        have m147 := (el_kept (oq _ (gne hg8 hg128 (by decide)))).trans m47
        have m148 := (el_kept (oq _ (gne hg8 hg128 (by decide)))).trans m48
        have m149 := (el_kept (oq _ (gne hg8 hg128 (by decide)))).trans m49
        have m150 := (el_kept (oq _ (gne hg8 hg128 (by decide)))).trans m134
        refine lv_iinc (v := nI (i42 + 1)) (lv' := [(6, .int (nI (i42 + 1))), (0, .ref o0), (1, .int p0), (2, .int p1), (3, .int p2), (4, .int p3), (5, .int p4)]) hx hb dX12_feed_100 hl (k := 0) rfl (nI_add i42 1) (by decide) rfl (fun ls hl => ?_)
        refine lv_goto (tgt := 60) hx hb dX12_feed_103 (by decide) ?_
        exact ih121 (i42 + 1) (by omega) (by omega) _ _ hT hF hS m143 m144 m145 m146 m147 m148 m149 ls (lv_sub hl [0, 1, 2, 3, 4, 5, 6] rfl)
    exact key121 (20 - 0) 0 (by omega) (Nat.le_refl _) _ _ hT hF hS m36 m37 m38 m39 m40 m41 m35 ls (lv_sub hl [0, 1, 2, 3, 4, 5, 6] rfl)
  · have t151 : 400 < x3.toInt := ti_nle c5 rfl (by decide)
    refine lv_iconst (v := (-1)) hx hb dX12_feed_18 (by decide) ?_
    exact W.iret (v := (-1)) hx hb hr (fun t ht hW => ⟨⟨(-1), tn, rfl, (by exact ⟨(rg_t (a := (-1)) (by decide) (by omega) (by omega)), (by have : (-1 : Int32).toInt = (-1) := (by decide); omega)⟩), by (try dsimp only); rw [ht]; exact ⟨hT, hF, m2⟩⟩, hS.F ht⟩) hS.2.2 dX12_feed_19
def w_s_endE : List Cond := .code yX12_end cX12_end 2 (some .boolean) :: (HAppend.hAppend (α := List Cond) (β := List Cond) (γ := List Cond) [.fieldLink RX12 194 "SeaLandModel" "thrown" "I", .fieldLink RX12 332 "SeaLandModel" "taped" "I"] bs)
set_option maxHeartbeats 4000000 in
set_option maxRecDepth 100000 in
theorem s_endE (l : Launch) (dC : Nat → ClassId) (dI : Nat → Nat → Nat) (kA : Nat → ClassId) (adK adV : Nat → Nat) (G : gT) (H0 : Heap) (q : Nat → Nat) (wZ wN : Nat → Int) (wH wB wC : Int) (wL wK : Nat → Prop) (wU wV : Nat → Nat) (PI : Nat → Int → Prop) (im : Int) (PM PT : Nat → Int → Prop) (lS lB lE : Nat → Nat → Int → Prop) (lN : Nat → Int) (o0 : Nat) (p0 : Int32) (tn : Int32)  (hT : gH (dC, dI) kA (SHm q (wP wZ wN wH wB wC wL wK wU wV) PI im PM PT lS lB lE lN) G H0) (hr_o0 : G o0 = some 0) (hm_tn : el H0 o0 (dI 15 11) = some (.int tn)) (hq0 : 0 ≤ tn.toInt ∧ tn.toInt ≤ 400) (hgz : ∀ i, 0 ≤ wZ i) (hgn : ∀ i, 6500000 ≤ wN i ∧ wN i ≤ 20200000) (hgh : 0 ≤ wH ∧ wH ≤ 40000) (hgb : 0 ≤ wB ∧ wB ≤ 3850000) (hgc : 0 ≤ wC ∧ wC ≤ 30) (hgi : 0 ≤ im ∧ im ≤ 1) (hgu : ∀ a t, G a = some (t + 1) → a = q t) : Met l yX12_end w_s_endE ({ frames := 0, cells := 0, slots := 0, locals := 0 }) (va_Pc [.ref o0, .int p0] (fun U => U.heap = H0 ∧ va_K (dC, dI) vwCl (tyl kA) U ∧ EVS adK adV (gA G H0.size) U U.heap)) (va_Qi (fun (r : Int32) (u : Int32) => (0 ≤ r.toInt ∧ r.toInt ≤ 1) ∧ ((0 ≤ p0.toInt ∧ p0.toInt ≤ tn.toInt ∧ r.toInt = 1 ∧ u.toInt = p0.toInt) ∨ (¬ (0 ≤ p0.toInt ∧ p0.toInt ≤ tn.toInt) ∧ r.toInt = 0 ∧ u.toInt = tn.toInt))) (fun (t1 : Int32) (t : State) => gH (dC, dI) kA (SHm q (wP wZ wN wH wB wC wL wK wU wV) PI im PM PT lS lB lE lN) G t.heap ∧ gF (dC, dI) SKm G ([(0, 0), (0, 11)] : List (Nat × Nat)) H0 t.heap ∧ el t.heap o0 (dI 15 11) = some (.int t1)) (gA G H0.size)) 0 0 (gA G H0.size) := by
  refine Met.ofW (cc := cX12_end) (maxL := 2) (ret := (some .boolean)) (by decide) rfl ?_
  intro p e s m args below meth c s₁ B hml hv
  obtain ⟨rfl, hH0, hK, hE⟩ := hv
  have hx := B.exec
  have hb := B.bytes
  have hr := B.returns
  have hts := atoms_spec (ws := w_s_endE) B.pre
  have hown : s.vm.findClass RX12 = some m.cls := findClass_of_methodNamed B.named
  have hlocks := B.notSynchronized
  subst hH0
  generalize hAe : gA G s.heap.size = A at hE ⊢
  have hA : ∀ q : Nat, s.heap.size ≤ q → A q := fun q h => by rw [← hAe]; exact Or.inr h
  have hG := gA_of hAe
  have hS : va_S A s.heap s.heap [] := va_S.rf
  have hF : gF (dC, dI) SKm G ([(0, 0), (0, 11)] : List (Nat × Nat)) s.heap s.heap := gF.rf
  have hl := lv_entry ([.ref o0, .int p0]) (n := 2) (Nat.le_of_ble_eq_true rfl)
  rw [lg_entry_eq]
  generalize (lg_sl ([.ref o0, .int p0]) ++ List.replicate (2 - (lg_sl ([.ref o0, .int p0])).length) Slot.unset).toArray = ls at hl ⊢
  have hl : lv_has ls 2 [(0, .ref o0), (1, .int p0)] := hl
  refine lv_aload_n hx hb dX12_end_0 rfl (lv_at hl 0 rfl) ?_
  refine lv_iconst (v := 0) hx hb dX12_end_1 (by decide) ?_
  refine tw_put (v := .int 0) (ty := .int) hx hb hts bF_X12 tyX12 tyX12_ok nmX12 hown hK hT hG hS hr_o0 shm_0 rfl 0 (by decide) (ht_at hts 0 rfl) (fun _ h9 => h9) rfl (by decide +kernel) rfl rfl (gl_at rfl (gi_all _)) dX12_end_2 (fun H locs hT oq m1 oj hS => ?_)
  have hF := hF.put hr_o0 skm_0 oq oj (by decide)
  have m2 := (oj 11 (by decide) (by decide)).trans hm_tn
  refine lv_iload_n hx hb dX12_end_5 rfl (lv_at hl 1 rfl) ?_
  refine lv_if_lt (tgt := 17) hx hb dX12_end_6 (by decide) (fun c3 => ?_) (fun c3 => ?_)
  · have t4 : p0.toInt < 0 := ti_lt c3 rfl (by decide)
    refine lv_iconst (v := 0) hx hb dX12_end_17 (by decide) ?_
    exact W.zret (v := 0) hx hb hr (by decide) (fun t ht hW => ⟨⟨0, tn, rfl, (by exact ⟨(rg_t (a := 0) (by decide) (by omega) (by omega)), (by have : (0 : Int32).toInt = 0 := (by decide); omega)⟩), by (try dsimp only); rw [ht]; exact ⟨hT, hF, m2⟩⟩, hS.F ht⟩) hS.2.2 dX12_end_18
  · have t5 : 0 ≤ p0.toInt := ti_nlt c3 rfl (by decide)
    refine lv_iload_n hx hb dX12_end_9 rfl (lv_at hl 1 rfl) ?_
    refine lv_aload_n hx hb dX12_end_10 rfl (lv_at hl 0 rfl) ?_
    refine tw_getM (v := .int tn) hx hb hts bF_X12 hown hK hT hr_o0 shm_0 rfl 11 (by decide) (ht_at hts 1 rfl) (fun _ h9 => h9) m2 dX12_end_11 ?_
    refine lv_icmp_le (tgt := 19) hx hb dX12_end_14 (by decide) (fun c6 => ?_) (fun c6 => ?_)
    · have t7 : p0.toInt ≤ tn.toInt := ti_le c6 rfl rfl
      refine lv_aload_n hx hb dX12_end_19 rfl (lv_at hl 0 rfl) ?_
      refine lv_iload_n hx hb dX12_end_20 rfl (lv_at hl 1 rfl) ?_
      refine tw_put (v := .int p0) (ty := .int) hx hb hts bF_X12 tyX12 tyX12_ok nmX12 hown hK hT hG hS hr_o0 shm_0 rfl 11 (by decide) (ht_at hts 1 rfl) (fun _ h9 => h9) rfl (by decide +kernel) rfl rfl (gl_at rfl (gi_of (show p0.toInt = p0.toInt from rfl) (by omega) (by omega))) dX12_end_21 (fun H locs hT oq m8 oj hS => ?_)
      have hF := hF.put hr_o0 skm_0 oq oj (by decide)
      have m9 := (oj 0 (by decide) (by decide)).trans m1
      refine lv_iconst (v := 1) hx hb dX12_end_24 (by decide) ?_
      exact W.zret (v := 1) hx hb hr (by decide) (fun t ht hW => ⟨⟨1, p0, rfl, (by exact ⟨(rg_t (a := 1) (by decide) (by omega) (by omega)), (by have : (1 : Int32).toInt = 1 := (by decide); omega)⟩), by (try dsimp only); rw [ht]; exact ⟨hT, hF, m8⟩⟩, hS.F ht⟩) hS.2.2 dX12_end_25
    · have t10 : tn.toInt < p0.toInt := ti_nle c6 rfl rfl
      refine lv_iconst (v := 0) hx hb dX12_end_17 (by decide) ?_
      exact W.zret (v := 0) hx hb hr (by decide) (fun t ht hW => ⟨⟨0, tn, rfl, (by exact ⟨(rg_t (a := 0) (by decide) (by omega) (by omega)), (by have : (0 : Int32).toInt = 0 := (by decide); omega)⟩), by (try dsimp only); rw [ht]; exact ⟨hT, hF, m2⟩⟩, hS.F ht⟩) hS.2.2 dX12_end_18
