theorem lv_tope {p : Program} {l : Launch} {e : Env} {R : Room} {s : State} {m : MethodId} {args : Array Value} {below : List Frame} {meth : Method} {c : Code} {H : Heap} {locs : List Loc} {cells slots : Nat} {Q : State → Prop} {pc : Nat} {ls : Array Slot} {rest : List Value} {x v : Int32} (h : x = v) (k : W p l e R s m args below meth c H locs cells slots Q (F0 m pc ls (.int v :: rest))) : W p l e R s m args below meth c H locs cells slots Q (F0 m pc ls (.int x :: rest)) := by
  subst h
  exact k
theorem tw_ialdM {p : Program} {l : Launch} {e : Env} {R : Room} {s : State} {m : MethodId} {args : Array Value} {below : List Frame} {meth : Method} {c : Code} {H : Heap} {locs : List Loc} {cells slots : Nat} {Q : State → Prop} {cc : ByteArray} {pc : Nat} {ls : Array Slot} {rest : List Value} {D : va_G} {cl : List vw_C} {tys : List (ClassId × FieldType)} {kA : Nat → ClassId} {Sg : Nat → gS} {G : gT} {a t : Nat} {E : gE} (hexec : p.tables.exec = Jvm.exec) (hb : c.code = cc) {j n : Nat} (hK : va_K D cl tys s) (hT : gH D kA Sg G H) (ha : G a = some t) (hs : Sg t = .inr (j, n, E)) (ht : tys[j]? = some (kA j, .int)) {i : Int32} (hin : vp_in i n) {v : Value} (hm : el H a i.toNatClampNeg = some v) (hdg : decode cc pc = .ok (.iaload, 1)) (kk : W p l e R s m args below meth c H locs cells slots Q (F0 m (pc + 1) ls (v :: rest))) : W p l e R s m args below meth c H locs cells slots Q (F0 m pc ls (.int i :: .ref a :: rest)) := by
  refine tw_iald hexec hb hK hT ha hs ht hin hdg (fun v' h _ => ?_)
  rw [hm] at h
  cases h
  exact kk
theorem gx_el {D : va_G} {kA : Nat → ClassId} {Sg : Nat → gS} {G : gT} {H : Heap} {a t ci N k b : Nat} {E : gE} (hT : gH D kA Sg G H) (ha : G a = some t) (hs : Sg t = .inl (ci, N, E)) (hk : k < N) (hE : ∀ v, E G k v → v = .ref b) : el H a (D.2 ci k) = some (.ref b) := by
  obtain ⟨v, e, h⟩ := gH_fld hT ha hs hk
  rw [hE v h] at e
  exact e
theorem tn_pl {x y : Int32} {k : Nat} (h : x.toInt = y.toInt + ((k : Nat) : Int)) (h0 : 0 ≤ y.toInt) : x.toNatClampNeg = y.toNatClampNeg + k := by
  have a := tn_of (i := x) rfl (by omega)
  have b := tn_of (i := y) rfl h0
  omega
def w_s_feedC : List Cond := .code yX12_feed cX12_feed 7 (some .int) :: (HAppend.hAppend (α := List Cond) (β := List Cond) (γ := List Cond) [.fieldLink RX12 194 "SeaLandModel" "thrown" "I", .fieldLink RX12 332 "SeaLandModel" "taped" "I", .fieldLink RX12 39 "SeaLandModel" "five" "[I", .fieldLink RX12 31 "SeaLandModel" "tape" "[B"] bs)
set_option maxHeartbeats 4000000 in
set_option maxRecDepth 100000 in
theorem s_feedC (l : Launch) (dC : Nat → ClassId) (dI : Nat → Nat → Nat) (kA : Nat → ClassId) (adK adV : Nat → Nat) (G : gT) (H0 : Heap) (q : Nat → Nat) (wZ wN : Nat → Int) (wH wB wC : Int) (wL wK : Nat → Prop) (wU wV : Nat → Nat) (PI : Nat → Int → Prop) (im : Int) (PM PT : Nat → Int → Prop) (lS lB lE : Nat → Nat → Int → Prop) (lN : Nat → Int) (o0 : Nat) (p0 : Int32) (p1 : Int32) (p2 : Int32) (p3 : Int32) (p4 : Int32) (tn : Int32) (vt : Nat → Int32)  (hT : gH (dC, dI) kA (SHm q (wP wZ wN wH wB wC wL wK wU wV) PI im PM PT lS lB lE lN) G H0) (hr_o0 : G o0 = some 0) (hm_tn : el H0 o0 (dI 15 11) = some (.int tn)) (hq0 : 0 ≤ tn.toInt ∧ tn.toInt ≤ 400) (hc_vt : ct H0 (q 10) 400 vt) (hgz : ∀ i, 0 ≤ wZ i) (hgn : ∀ i, 6500000 ≤ wN i ∧ wN i ≤ 20200000) (hgh : 0 ≤ wH ∧ wH ≤ 40000) (hgb : 0 ≤ wB ∧ wB ≤ 3850000) (hgc : 0 ≤ wC ∧ wC ≤ 30) (hgi : 0 ≤ im ∧ im ≤ 1) (hgu : ∀ a t, G a = some (t + 1) → a = q t) : Met l yX12_feed w_s_feedC ({ frames := 0, cells := 0, slots := 0, locals := 0 }) (va_Pc [.ref o0, .int p0, .int p1, .int p2, .int p3, .int p4] (fun U => U.heap = H0 ∧ va_K (dC, dI) vwCl (tyl kA) U ∧ EVS adK adV (gA G H0.size) U U.heap)) (va_Qi (fun (r : Int32) (u : Int32 × (Nat → Int32)) => match u with | (t1, vt1) => (-1 ≤ r.toInt ∧ r.toInt ≤ 400) ∧ ((tn.toInt ≤ 380 ∧ r.toInt = tn.toInt + 20 ∧ t1.toInt = tn.toInt + 20 ∧ vt1 = fdS vt tn.toNatClampNeg p0 p1 p2 p3 p4) ∨ (380 < tn.toInt ∧ r.toInt = -1 ∧ t1.toInt = tn.toInt ∧ vt1 = vt))) (fun (u : Int32 × (Nat → Int32)) (t : State) => match u with | (t1, vt1) => gH (dC, dI) kA (SHm q (wP wZ wN wH wB wC wL wK wU wV) PI im PM PT lS lB lE lN) G t.heap ∧ gF (dC, dI) SKm G ([(0, 0), (0, 11), (11, 0), (18, 0)] : List (Nat × Nat)) H0 t.heap ∧ el t.heap o0 (dI 15 11) = some (.int t1) ∧ ct t.heap (q 10) 400 vt1) (gA G H0.size)) 0 0 (gA G H0.size) := by
  refine Met.ofW (cc := cX12_feed) (maxL := 7) (ret := (some .int)) (by decide) rfl ?_
  intro p e s m args below meth c s₁ B hml hv
  obtain ⟨rfl, hH0, hK, hE⟩ := hv
  have hx := B.exec
  have hb := B.bytes
  have hr := B.returns
  have hts := atoms_spec (ws := w_s_feedC) B.pre
  have hown : s.vm.findClass RX12 = some m.cls := findClass_of_methodNamed B.named
  have hlocks := B.notSynchronized
  subst hH0
  generalize hAe : gA G s.heap.size = A at hE ⊢
  have hA : ∀ q : Nat, s.heap.size ≤ q → A q := fun q h => by rw [← hAe]; exact Or.inr h
  have hG := gA_of hAe
  have hS : va_S A s.heap s.heap [] := va_S.rf
  have hF : gF (dC, dI) SKm G ([(0, 0), (0, 11), (11, 0), (18, 0)] : List (Nat × Nat)) s.heap s.heap := gF.rf
  have hl := lv_entry ([.ref o0, .int p0, .int p1, .int p2, .int p3, .int p4]) (n := 7) (Nat.le_of_ble_eq_true rfl)
  rw [lg_entry_eq]
  generalize (lg_sl ([.ref o0, .int p0, .int p1, .int p2, .int p3, .int p4]) ++ List.replicate (7 - (lg_sl ([.ref o0, .int p0, .int p1, .int p2, .int p3, .int p4])).length) Slot.unset).toArray = ls at hl ⊢
  have hl : lv_has ls 7 [(0, .ref o0), (1, .int p0), (2, .int p1), (3, .int p2), (4, .int p3), (5, .int p4)] := hl
  have hg1 : G (q 10) = some 11 := gx_of hT hr_o0 shm_0 (k := 10) (by decide) rfl
  refine lv_aload_n hx hb dX12_feed_0 rfl (lv_at hl 0 rfl) ?_
  refine lv_iconst (v := 0) hx hb dX12_feed_1 (by decide) ?_
  refine tw_put (v := .int 0) (ty := .int) hx hb hts bF_X12 tyX12 tyX12_ok nmX12 hown hK hT hG hS hr_o0 shm_0 rfl 0 (by decide) (ht_at hts 0 rfl) (fun _ h9 => h9) rfl (by decide +kernel) rfl rfl (gl_at rfl (gi_all _)) dX12_feed_2 (fun H locs hT oq m2 oj hS => ?_)
  have hF := hF.put hr_o0 skm_0 oq oj (by decide)
  have m3 := (oj 11 (by decide) (by decide)).trans hm_tn
  have m4 := hc_vt.kept (oq _ (gne hg1 hr_o0 (by decide)))
  refine lv_aload_n hx hb dX12_feed_5 rfl (lv_at hl 0 rfl) ?_
  refine tw_getM (v := .int tn) hx hb hts bF_X12 hown hK hT hr_o0 shm_0 rfl 11 (by decide) (ht_at hts 1 rfl) (fun _ h9 => h9) m3 dX12_feed_6 ?_
  refine lv_bipush (v := 20) hx hb dX12_feed_9 (by decide) ?_
  refine lv_iadd hx hb dX12_feed_11 ?_
  refine lv_topi (fun x5 ex5 => ?_)
  have t6 : x5.toInt = tn.toInt + 20 := ti_add ex5 rfl (by decide) (by omega) (by omega)
  refine lv_sipush (v := 400) hx hb dX12_feed_12 (by decide) ?_
  refine lv_icmp_le (tgt := 20) hx hb dX12_feed_15 (by decide) (fun c7 => ?_) (fun c7 => ?_)
  · have t8 : x5.toInt ≤ 400 := ti_le c7 rfl (by decide)
    refine lv_aload_n hx hb dX12_feed_20 rfl (lv_at hl 0 rfl) ?_
    refine tw_get hx hb hts bF_X12 hown hK hT hr_o0 shm_0 rfl 17 (by decide) (ht_at hts 2 rfl) (fun _ h9 => h9) dX12_feed_21 (fun v9 m9 h9 => ?_)
    obtain ⟨rfl, hg10⟩ := h9 _ rfl
    refine lv_iconst (v := 0) hx hb dX12_feed_24 (by decide) ?_
    refine lv_iload_n hx hb dX12_feed_25 rfl (lv_at hl 1 rfl) ?_
    refine tw_iast (i := 0) (x := p0) hx hb hK hT hG hS hg10 shm_18 rfl (by unfold vp_in; decide) (gi_all _) dX12_feed_26 (fun H locs hT oq m11 oi hS => ?_)
    have hF := hF.ast hg10 skm_18 oq (by decide)
    have m12 := (el_kept (oq _ (gne hr_o0 hg10 (by decide)))).trans m3
    have m13 := m4.kept (oq _ (gne hg1 hg10 (by decide)))
    have m14 := (el_kept (oq _ (gne hr_o0 hg10 (by decide)))).trans m2
    refine lv_aload_n hx hb dX12_feed_27 rfl (lv_at hl 0 rfl) ?_
    refine tw_getM (v := .ref (q 17)) hx hb hts bF_X12 hown hK hT hr_o0 shm_0 rfl 17 (by decide) (ht_at hts 2 rfl) (fun _ h9 => h9) (gx_el hT hr_o0 shm_0 (k := 17) (by decide) (fun v h => (h _ rfl).1)) dX12_feed_28 ?_
    refine lv_iconst (v := 1) hx hb dX12_feed_31 (by decide) ?_
    refine lv_iload_n hx hb dX12_feed_32 rfl (lv_at hl 2 rfl) ?_
    refine tw_iast (i := 1) (x := p1) hx hb hK hT hG hS hg10 shm_18 rfl (by unfold vp_in; decide) (gi_all _) dX12_feed_33 (fun H locs hT oq m17 oi hS => ?_)
    have hF := hF.ast hg10 skm_18 oq (by decide)
    have m18 := (el_kept (oq _ (gne hr_o0 hg10 (by decide)))).trans m12
    have m19 := m13.kept (oq _ (gne hg1 hg10 (by decide)))
    have m20 := (el_kept (oq _ (gne hr_o0 hg10 (by decide)))).trans m14
    have m21 := (oi _ (tn_ne (show (0 : Int32).toInt = 0 from (by decide)) (show (1 : Int32).toInt = 1 from (by decide)) (by omega) (by omega) (by omega))).trans m11
    refine lv_aload_n hx hb dX12_feed_34 rfl (lv_at hl 0 rfl) ?_
    refine tw_getM (v := .ref (q 17)) hx hb hts bF_X12 hown hK hT hr_o0 shm_0 rfl 17 (by decide) (ht_at hts 2 rfl) (fun _ h9 => h9) (gx_el hT hr_o0 shm_0 (k := 17) (by decide) (fun v h => (h _ rfl).1)) dX12_feed_35 ?_
    refine lv_iconst (v := 2) hx hb dX12_feed_38 (by decide) ?_
    refine lv_iload_n hx hb dX12_feed_39 rfl (lv_at hl 3 rfl) ?_
    refine tw_iast (i := 2) (x := p2) hx hb hK hT hG hS hg10 shm_18 rfl (by unfold vp_in; decide) (gi_all _) dX12_feed_40 (fun H locs hT oq m24 oi hS => ?_)
    have hF := hF.ast hg10 skm_18 oq (by decide)
    have m25 := (el_kept (oq _ (gne hr_o0 hg10 (by decide)))).trans m18
    have m26 := m19.kept (oq _ (gne hg1 hg10 (by decide)))
    have m27 := (el_kept (oq _ (gne hr_o0 hg10 (by decide)))).trans m20
    have m28 := (oi _ (tn_ne (show (0 : Int32).toInt = 0 from (by decide)) (show (2 : Int32).toInt = 2 from (by decide)) (by omega) (by omega) (by omega))).trans m21
    have m29 := (oi _ (tn_ne (show (1 : Int32).toInt = 1 from (by decide)) (show (2 : Int32).toInt = 2 from (by decide)) (by omega) (by omega) (by omega))).trans m17
    refine lv_aload_n hx hb dX12_feed_41 rfl (lv_at hl 0 rfl) ?_
    refine tw_getM (v := .ref (q 17)) hx hb hts bF_X12 hown hK hT hr_o0 shm_0 rfl 17 (by decide) (ht_at hts 2 rfl) (fun _ h9 => h9) (gx_el hT hr_o0 shm_0 (k := 17) (by decide) (fun v h => (h _ rfl).1)) dX12_feed_42 ?_
    refine lv_iconst (v := 3) hx hb dX12_feed_45 (by decide) ?_
    refine lv_iload hx hb dX12_feed_46 (lv_at hl 4 rfl) ?_
    refine tw_iast (i := 3) (x := p3) hx hb hK hT hG hS hg10 shm_18 rfl (by unfold vp_in; decide) (gi_all _) dX12_feed_48 (fun H locs hT oq m32 oi hS => ?_)
    have hF := hF.ast hg10 skm_18 oq (by decide)
    have m33 := (el_kept (oq _ (gne hr_o0 hg10 (by decide)))).trans m25
    have m34 := m26.kept (oq _ (gne hg1 hg10 (by decide)))
    have m35 := (el_kept (oq _ (gne hr_o0 hg10 (by decide)))).trans m27
    have m36 := (oi _ (tn_ne (show (0 : Int32).toInt = 0 from (by decide)) (show (3 : Int32).toInt = 3 from (by decide)) (by omega) (by omega) (by omega))).trans m28
    have m37 := (oi _ (tn_ne (show (1 : Int32).toInt = 1 from (by decide)) (show (3 : Int32).toInt = 3 from (by decide)) (by omega) (by omega) (by omega))).trans m29
    have m38 := (oi _ (tn_ne (show (2 : Int32).toInt = 2 from (by decide)) (show (3 : Int32).toInt = 3 from (by decide)) (by omega) (by omega) (by omega))).trans m24
    refine lv_aload_n hx hb dX12_feed_49 rfl (lv_at hl 0 rfl) ?_
    refine tw_getM (v := .ref (q 17)) hx hb hts bF_X12 hown hK hT hr_o0 shm_0 rfl 17 (by decide) (ht_at hts 2 rfl) (fun _ h9 => h9) (gx_el hT hr_o0 shm_0 (k := 17) (by decide) (fun v h => (h _ rfl).1)) dX12_feed_50 ?_
    refine lv_iconst (v := 4) hx hb dX12_feed_53 (by decide) ?_
    refine lv_iload hx hb dX12_feed_54 (lv_at hl 5 rfl) ?_
    refine tw_iast (i := 4) (x := p4) hx hb hK hT hG hS hg10 shm_18 rfl (by unfold vp_in; decide) (gi_all _) dX12_feed_56 (fun H locs hT oq m41 oi hS => ?_)
    have hF := hF.ast hg10 skm_18 oq (by decide)
    have m42 := (el_kept (oq _ (gne hr_o0 hg10 (by decide)))).trans m33
    have m43 := m34.kept (oq _ (gne hg1 hg10 (by decide)))
    have m44 := (el_kept (oq _ (gne hr_o0 hg10 (by decide)))).trans m35
    have m45 := (oi _ (tn_ne (show (0 : Int32).toInt = 0 from (by decide)) (show (4 : Int32).toInt = 4 from (by decide)) (by omega) (by omega) (by omega))).trans m36
    have m46 := (oi _ (tn_ne (show (1 : Int32).toInt = 1 from (by decide)) (show (4 : Int32).toInt = 4 from (by decide)) (by omega) (by omega) (by omega))).trans m37
    have m47 := (oi _ (tn_ne (show (2 : Int32).toInt = 2 from (by decide)) (show (4 : Int32).toInt = 4 from (by decide)) (by omega) (by omega) (by omega))).trans m38
    have m48 := (oi _ (tn_ne (show (3 : Int32).toInt = 3 from (by decide)) (show (4 : Int32).toInt = 4 from (by decide)) (by omega) (by omega) (by omega))).trans m32
    refine lv_iconst (v := 0) hx hb dX12_feed_57 (by decide) ?_
    refine lv_istore (lv' := [(6, .int 0), (0, .ref o0), (1, .int p0), (2, .int p1), (3, .int p2), (4, .int p3), (5, .int p4)]) hx hb dX12_feed_58 hl (by decide) rfl (fun ls hl => ?_)
    refine lv_iload hx hb dX12_feed_60 (lv_at hl 0 rfl) ?_
    refine lv_bipush (v := 20) hx hb dX12_feed_62 (by decide) ?_
    refine lv_icmp_ge (tgt := 106) hx hb dX12_feed_64 (by decide) (fun c49 => absurd c49 (by decide)) (fun c49 => ?_)
    refine lv_aload_n hx hb dX12_feed_67 rfl (lv_at hl 1 rfl) ?_
    refine tw_getM (v := .ref (q 10)) hx hb hts bF_X12 hown hK hT hr_o0 shm_0 rfl 10 (by decide) (ht_at hts 3 rfl) (fun _ h9 => h9) (gx_el hT hr_o0 shm_0 (k := 10) (by decide) (fun v h => (h _ rfl).1)) dX12_feed_68 ?_
    refine lv_aload_n hx hb dX12_feed_71 rfl (lv_at hl 1 rfl) ?_
    refine tw_getM (v := .int tn) hx hb hts bF_X12 hown hK hT hr_o0 shm_0 rfl 11 (by decide) (ht_at hts 1 rfl) (fun _ h9 => h9) m42 dX12_feed_72 ?_
    refine lv_iload hx hb dX12_feed_75 (lv_at hl 0 rfl) ?_
    refine lv_iadd hx hb dX12_feed_77 ?_
    refine lv_topi (fun x52 ex52 => ?_)
    have t53 : x52.toInt = tn.toInt + 0 := ti_add ex52 rfl (by decide) (by omega) (by omega)
    refine lv_aload_n hx hb dX12_feed_78 rfl (lv_at hl 1 rfl) ?_
    refine tw_getM (v := .ref (q 17)) hx hb hts bF_X12 hown hK hT hr_o0 shm_0 rfl 17 (by decide) (ht_at hts 2 rfl) (fun _ h9 => h9) (gx_el hT hr_o0 shm_0 (k := 17) (by decide) (fun v h => (h _ rfl).1)) dX12_feed_79 ?_
    refine lv_iload hx hb dX12_feed_82 (lv_at hl 0 rfl) ?_
    refine lv_iconst (v := 4) hx hb dX12_feed_84 (by decide) ?_
    refine lv_idiv hx hb dX12_feed_85 (by decide) ?_
    refine lv_tope (v := 0) (by decide) ?_
    refine tw_ialdM (v := .int p0) (i := 0) hx hb hK hT hg10 shm_18 rfl (by unfold vp_in; decide) m45 dX12_feed_86 ?_
    refine lv_bipush (v := 24) hx hb dX12_feed_87 (by decide) ?_
    refine lv_bipush (v := 8) hx hb dX12_feed_89 (by decide) ?_
    refine lv_iload hx hb dX12_feed_91 (lv_at hl 0 rfl) ?_
    refine lv_iconst (v := 4) hx hb dX12_feed_93 (by decide) ?_
    refine lv_irem hx hb dX12_feed_94 (by decide) ?_
    refine lv_tope (v := 0) (by decide) ?_
    refine lv_imul hx hb dX12_feed_95 ?_
    refine lv_tope (v := 0) (by decide) ?_
    refine lv_isub hx hb dX12_feed_96 ?_
    refine lv_tope (v := 24) (by decide) ?_
    refine lv_ishr hx hb dX12_feed_97 ?_
    refine lv_topi (fun x62 ex62 => ?_)
    refine lv_i2b (v := x62.toInt8.toInt32) hx hb dX12_feed_98 rfl ?_
    refine lv_topi (fun x63 ex63 => ?_)
    have i0_ : x52.toNatClampNeg = tn.toNatClampNeg := tn_pl (k := 0) t53 hq0.1
    have j0_ : x63 = sb p0 24 := (by rw [ex63, ex62]; rfl)
    refine tw_bast (i := x52) (x := x63) hx hb hK hT hG hS hg1 shm_11 rfl (vin_t (a := x52.toInt) rfl (by omega) (by omega)) (gi_b _ (by decide) (by decide)) dX12_feed_99 (fun H locs hT oq m64 oi hS => ?_)
    have hF := hF.ast hg1 skm_11 oq (by decide)
    have m65 := (el_kept (oq _ (gne hr_o0 hg1 (by decide)))).trans m42
    have m66 := m43.put (by rw [nar_y ex63] at m64; exact m64) oi
    have m67 := (el_kept (oq _ (gne hr_o0 hg1 (by decide)))).trans m44
    have m68 := (el_kept (oq _ (gne hg10 hg1 (by decide)))).trans m45
    have m69 := (el_kept (oq _ (gne hg10 hg1 (by decide)))).trans m46
    have m70 := (el_kept (oq _ (gne hg10 hg1 (by decide)))).trans m47
    have m71 := (el_kept (oq _ (gne hg10 hg1 (by decide)))).trans m48
    have m72 := (el_kept (oq _ (gne hg10 hg1 (by decide)))).trans m41
    obtain ⟨Vb0, eVb0⟩ : ∃ Z : Nat → Int32, Z = cu vt x52.toNatClampNeg x63 := ⟨_, rfl⟩
    rw [← eVb0] at m66
    refine lv_iinc (v := 1) (lv' := [(6, .int 1), (0, .ref o0), (1, .int p0), (2, .int p1), (3, .int p2), (4, .int p3), (5, .int p4)]) hx hb dX12_feed_100 hl (k := 0) rfl (by decide) (by decide) rfl (fun ls hl => ?_)
    refine lv_goto (tgt := 60) hx hb dX12_feed_103 (by decide) ?_
    refine lv_iload hx hb dX12_feed_60 (lv_at hl 0 rfl) ?_
    refine lv_bipush (v := 20) hx hb dX12_feed_62 (by decide) ?_
    refine lv_icmp_ge (tgt := 106) hx hb dX12_feed_64 (by decide) (fun c73 => absurd c73 (by decide)) (fun c73 => ?_)
    refine lv_aload_n hx hb dX12_feed_67 rfl (lv_at hl 1 rfl) ?_
    refine tw_getM (v := .ref (q 10)) hx hb hts bF_X12 hown hK hT hr_o0 shm_0 rfl 10 (by decide) (ht_at hts 3 rfl) (fun _ h9 => h9) (gx_el hT hr_o0 shm_0 (k := 10) (by decide) (fun v h => (h _ rfl).1)) dX12_feed_68 ?_
    refine lv_aload_n hx hb dX12_feed_71 rfl (lv_at hl 1 rfl) ?_
    refine tw_getM (v := .int tn) hx hb hts bF_X12 hown hK hT hr_o0 shm_0 rfl 11 (by decide) (ht_at hts 1 rfl) (fun _ h9 => h9) m65 dX12_feed_72 ?_
    refine lv_iload hx hb dX12_feed_75 (lv_at hl 0 rfl) ?_
    refine lv_iadd hx hb dX12_feed_77 ?_
    refine lv_topi (fun x76 ex76 => ?_)
    have t77 : x76.toInt = tn.toInt + 1 := ti_add ex76 rfl (by decide) (by omega) (by omega)
    refine lv_aload_n hx hb dX12_feed_78 rfl (lv_at hl 1 rfl) ?_
    refine tw_getM (v := .ref (q 17)) hx hb hts bF_X12 hown hK hT hr_o0 shm_0 rfl 17 (by decide) (ht_at hts 2 rfl) (fun _ h9 => h9) (gx_el hT hr_o0 shm_0 (k := 17) (by decide) (fun v h => (h _ rfl).1)) dX12_feed_79 ?_
    refine lv_iload hx hb dX12_feed_82 (lv_at hl 0 rfl) ?_
    refine lv_iconst (v := 4) hx hb dX12_feed_84 (by decide) ?_
    refine lv_idiv hx hb dX12_feed_85 (by decide) ?_
    refine lv_tope (v := 0) (by decide) ?_
    refine tw_ialdM (v := .int p0) (i := 0) hx hb hK hT hg10 shm_18 rfl (by unfold vp_in; decide) m68 dX12_feed_86 ?_
    refine lv_bipush (v := 24) hx hb dX12_feed_87 (by decide) ?_
    refine lv_bipush (v := 8) hx hb dX12_feed_89 (by decide) ?_
    refine lv_iload hx hb dX12_feed_91 (lv_at hl 0 rfl) ?_
    refine lv_iconst (v := 4) hx hb dX12_feed_93 (by decide) ?_
    refine lv_irem hx hb dX12_feed_94 (by decide) ?_
    refine lv_tope (v := 1) (by decide) ?_
    refine lv_imul hx hb dX12_feed_95 ?_
    refine lv_tope (v := 8) (by decide) ?_
    refine lv_isub hx hb dX12_feed_96 ?_
    refine lv_tope (v := 16) (by decide) ?_
    refine lv_ishr hx hb dX12_feed_97 ?_
    refine lv_topi (fun x86 ex86 => ?_)
    refine lv_i2b (v := x86.toInt8.toInt32) hx hb dX12_feed_98 rfl ?_
    refine lv_topi (fun x87 ex87 => ?_)
    have i1_ : x76.toNatClampNeg = tn.toNatClampNeg + 1 := tn_pl (k := 1) t77 hq0.1
    have j1_ : x87 = sb p0 16 := (by rw [ex87, ex86]; rfl)
    refine tw_bast (i := x76) (x := x87) hx hb hK hT hG hS hg1 shm_11 rfl (vin_t (a := x76.toInt) rfl (by omega) (by omega)) (gi_b _ (by decide) (by decide)) dX12_feed_99 (fun H locs hT oq m88 oi hS => ?_)
    have hF := hF.ast hg1 skm_11 oq (by decide)
    have m89 := (el_kept (oq _ (gne hr_o0 hg1 (by decide)))).trans m65
    have m90 := m66.put (by rw [nar_y ex87] at m88; exact m88) oi
    have m91 := (el_kept (oq _ (gne hr_o0 hg1 (by decide)))).trans m67
    have m92 := (el_kept (oq _ (gne hg10 hg1 (by decide)))).trans m68
    have m93 := (el_kept (oq _ (gne hg10 hg1 (by decide)))).trans m69
    have m94 := (el_kept (oq _ (gne hg10 hg1 (by decide)))).trans m70
    have m95 := (el_kept (oq _ (gne hg10 hg1 (by decide)))).trans m71
    have m96 := (el_kept (oq _ (gne hg10 hg1 (by decide)))).trans m72
    obtain ⟨Vb1, eVb1⟩ : ∃ Z : Nat → Int32, Z = cu Vb0 x76.toNatClampNeg x87 := ⟨_, rfl⟩
    rw [← eVb1] at m90
    refine lv_iinc (v := 2) (lv' := [(6, .int 2), (0, .ref o0), (1, .int p0), (2, .int p1), (3, .int p2), (4, .int p3), (5, .int p4)]) hx hb dX12_feed_100 hl (k := 0) rfl (by decide) (by decide) rfl (fun ls hl => ?_)
    refine lv_goto (tgt := 60) hx hb dX12_feed_103 (by decide) ?_
    refine lv_iload hx hb dX12_feed_60 (lv_at hl 0 rfl) ?_
    refine lv_bipush (v := 20) hx hb dX12_feed_62 (by decide) ?_
    refine lv_icmp_ge (tgt := 106) hx hb dX12_feed_64 (by decide) (fun c97 => absurd c97 (by decide)) (fun c97 => ?_)
    refine lv_aload_n hx hb dX12_feed_67 rfl (lv_at hl 1 rfl) ?_
    refine tw_getM (v := .ref (q 10)) hx hb hts bF_X12 hown hK hT hr_o0 shm_0 rfl 10 (by decide) (ht_at hts 3 rfl) (fun _ h9 => h9) (gx_el hT hr_o0 shm_0 (k := 10) (by decide) (fun v h => (h _ rfl).1)) dX12_feed_68 ?_
    refine lv_aload_n hx hb dX12_feed_71 rfl (lv_at hl 1 rfl) ?_
    refine tw_getM (v := .int tn) hx hb hts bF_X12 hown hK hT hr_o0 shm_0 rfl 11 (by decide) (ht_at hts 1 rfl) (fun _ h9 => h9) m89 dX12_feed_72 ?_
    refine lv_iload hx hb dX12_feed_75 (lv_at hl 0 rfl) ?_
    refine lv_iadd hx hb dX12_feed_77 ?_
    refine lv_topi (fun x100 ex100 => ?_)
    have t101 : x100.toInt = tn.toInt + 2 := ti_add ex100 rfl (by decide) (by omega) (by omega)
    refine lv_aload_n hx hb dX12_feed_78 rfl (lv_at hl 1 rfl) ?_
    refine tw_getM (v := .ref (q 17)) hx hb hts bF_X12 hown hK hT hr_o0 shm_0 rfl 17 (by decide) (ht_at hts 2 rfl) (fun _ h9 => h9) (gx_el hT hr_o0 shm_0 (k := 17) (by decide) (fun v h => (h _ rfl).1)) dX12_feed_79 ?_
    refine lv_iload hx hb dX12_feed_82 (lv_at hl 0 rfl) ?_
    refine lv_iconst (v := 4) hx hb dX12_feed_84 (by decide) ?_
    refine lv_idiv hx hb dX12_feed_85 (by decide) ?_
    refine lv_tope (v := 0) (by decide) ?_
    refine tw_ialdM (v := .int p0) (i := 0) hx hb hK hT hg10 shm_18 rfl (by unfold vp_in; decide) m92 dX12_feed_86 ?_
    refine lv_bipush (v := 24) hx hb dX12_feed_87 (by decide) ?_
    refine lv_bipush (v := 8) hx hb dX12_feed_89 (by decide) ?_
    refine lv_iload hx hb dX12_feed_91 (lv_at hl 0 rfl) ?_
    refine lv_iconst (v := 4) hx hb dX12_feed_93 (by decide) ?_
    refine lv_irem hx hb dX12_feed_94 (by decide) ?_
    refine lv_tope (v := 2) (by decide) ?_
    refine lv_imul hx hb dX12_feed_95 ?_
    refine lv_tope (v := 16) (by decide) ?_
    refine lv_isub hx hb dX12_feed_96 ?_
    refine lv_tope (v := 8) (by decide) ?_
    refine lv_ishr hx hb dX12_feed_97 ?_
    refine lv_topi (fun x110 ex110 => ?_)
    refine lv_i2b (v := x110.toInt8.toInt32) hx hb dX12_feed_98 rfl ?_
    refine lv_topi (fun x111 ex111 => ?_)
    have i2_ : x100.toNatClampNeg = tn.toNatClampNeg + 2 := tn_pl (k := 2) t101 hq0.1
    have j2_ : x111 = sb p0 8 := (by rw [ex111, ex110]; rfl)
    refine tw_bast (i := x100) (x := x111) hx hb hK hT hG hS hg1 shm_11 rfl (vin_t (a := x100.toInt) rfl (by omega) (by omega)) (gi_b _ (by decide) (by decide)) dX12_feed_99 (fun H locs hT oq m112 oi hS => ?_)
    have hF := hF.ast hg1 skm_11 oq (by decide)
    have m113 := (el_kept (oq _ (gne hr_o0 hg1 (by decide)))).trans m89
    have m114 := m90.put (by rw [nar_y ex111] at m112; exact m112) oi
    have m115 := (el_kept (oq _ (gne hr_o0 hg1 (by decide)))).trans m91
    have m116 := (el_kept (oq _ (gne hg10 hg1 (by decide)))).trans m92
    have m117 := (el_kept (oq _ (gne hg10 hg1 (by decide)))).trans m93
    have m118 := (el_kept (oq _ (gne hg10 hg1 (by decide)))).trans m94
    have m119 := (el_kept (oq _ (gne hg10 hg1 (by decide)))).trans m95
    have m120 := (el_kept (oq _ (gne hg10 hg1 (by decide)))).trans m96
    obtain ⟨Vb2, eVb2⟩ : ∃ Z : Nat → Int32, Z = cu Vb1 x100.toNatClampNeg x111 := ⟨_, rfl⟩
    rw [← eVb2] at m114
    refine lv_iinc (v := 3) (lv' := [(6, .int 3), (0, .ref o0), (1, .int p0), (2, .int p1), (3, .int p2), (4, .int p3), (5, .int p4)]) hx hb dX12_feed_100 hl (k := 0) rfl (by decide) (by decide) rfl (fun ls hl => ?_)
    refine lv_goto (tgt := 60) hx hb dX12_feed_103 (by decide) ?_
    refine lv_iload hx hb dX12_feed_60 (lv_at hl 0 rfl) ?_
    refine lv_bipush (v := 20) hx hb dX12_feed_62 (by decide) ?_
    refine lv_icmp_ge (tgt := 106) hx hb dX12_feed_64 (by decide) (fun c121 => absurd c121 (by decide)) (fun c121 => ?_)
    refine lv_aload_n hx hb dX12_feed_67 rfl (lv_at hl 1 rfl) ?_
    refine tw_getM (v := .ref (q 10)) hx hb hts bF_X12 hown hK hT hr_o0 shm_0 rfl 10 (by decide) (ht_at hts 3 rfl) (fun _ h9 => h9) (gx_el hT hr_o0 shm_0 (k := 10) (by decide) (fun v h => (h _ rfl).1)) dX12_feed_68 ?_
    refine lv_aload_n hx hb dX12_feed_71 rfl (lv_at hl 1 rfl) ?_
    refine tw_getM (v := .int tn) hx hb hts bF_X12 hown hK hT hr_o0 shm_0 rfl 11 (by decide) (ht_at hts 1 rfl) (fun _ h9 => h9) m113 dX12_feed_72 ?_
    refine lv_iload hx hb dX12_feed_75 (lv_at hl 0 rfl) ?_
    refine lv_iadd hx hb dX12_feed_77 ?_
    refine lv_topi (fun x124 ex124 => ?_)
    have t125 : x124.toInt = tn.toInt + 3 := ti_add ex124 rfl (by decide) (by omega) (by omega)
    refine lv_aload_n hx hb dX12_feed_78 rfl (lv_at hl 1 rfl) ?_
    refine tw_getM (v := .ref (q 17)) hx hb hts bF_X12 hown hK hT hr_o0 shm_0 rfl 17 (by decide) (ht_at hts 2 rfl) (fun _ h9 => h9) (gx_el hT hr_o0 shm_0 (k := 17) (by decide) (fun v h => (h _ rfl).1)) dX12_feed_79 ?_
    refine lv_iload hx hb dX12_feed_82 (lv_at hl 0 rfl) ?_
    refine lv_iconst (v := 4) hx hb dX12_feed_84 (by decide) ?_
    refine lv_idiv hx hb dX12_feed_85 (by decide) ?_
    refine lv_tope (v := 0) (by decide) ?_
    refine tw_ialdM (v := .int p0) (i := 0) hx hb hK hT hg10 shm_18 rfl (by unfold vp_in; decide) m116 dX12_feed_86 ?_
    refine lv_bipush (v := 24) hx hb dX12_feed_87 (by decide) ?_
    refine lv_bipush (v := 8) hx hb dX12_feed_89 (by decide) ?_
    refine lv_iload hx hb dX12_feed_91 (lv_at hl 0 rfl) ?_
    refine lv_iconst (v := 4) hx hb dX12_feed_93 (by decide) ?_
    refine lv_irem hx hb dX12_feed_94 (by decide) ?_
    refine lv_tope (v := 3) (by decide) ?_
    refine lv_imul hx hb dX12_feed_95 ?_
    refine lv_tope (v := 24) (by decide) ?_
    refine lv_isub hx hb dX12_feed_96 ?_
    refine lv_tope (v := 0) (by decide) ?_
    refine lv_ishr hx hb dX12_feed_97 ?_
    refine lv_tope (v := p0) (shr_0 _) ?_
    refine lv_i2b (v := p0.toInt8.toInt32) hx hb dX12_feed_98 rfl ?_
    refine lv_topi (fun x135 ex135 => ?_)
    have i3_ : x124.toNatClampNeg = tn.toNatClampNeg + 3 := tn_pl (k := 3) t125 hq0.1
    have j3_ : x135 = sb p0 0 := (by rw [ex135]; unfold sb; rw [shr_0])
    refine tw_bast (i := x124) (x := x135) hx hb hK hT hG hS hg1 shm_11 rfl (vin_t (a := x124.toInt) rfl (by omega) (by omega)) (gi_b _ (by decide) (by decide)) dX12_feed_99 (fun H locs hT oq m136 oi hS => ?_)
    have hF := hF.ast hg1 skm_11 oq (by decide)
    have m137 := (el_kept (oq _ (gne hr_o0 hg1 (by decide)))).trans m113
    have m138 := m114.put (by rw [nar_y ex135] at m136; exact m136) oi
    have m139 := (el_kept (oq _ (gne hr_o0 hg1 (by decide)))).trans m115
    have m140 := (el_kept (oq _ (gne hg10 hg1 (by decide)))).trans m116
    have m141 := (el_kept (oq _ (gne hg10 hg1 (by decide)))).trans m117
    have m142 := (el_kept (oq _ (gne hg10 hg1 (by decide)))).trans m118
    have m143 := (el_kept (oq _ (gne hg10 hg1 (by decide)))).trans m119
    have m144 := (el_kept (oq _ (gne hg10 hg1 (by decide)))).trans m120
    obtain ⟨Vb3, eVb3⟩ : ∃ Z : Nat → Int32, Z = cu Vb2 x124.toNatClampNeg x135 := ⟨_, rfl⟩
    rw [← eVb3] at m138
    have f0_ : Vb3 = f4S vt (tn.toNatClampNeg) p0 := by rw [eVb3, eVb2, eVb1, eVb0, i0_, j0_, i1_, j1_, i2_, j2_, i3_, j3_]; rfl
    refine lv_iinc (v := 4) (lv' := [(6, .int 4), (0, .ref o0), (1, .int p0), (2, .int p1), (3, .int p2), (4, .int p3), (5, .int p4)]) hx hb dX12_feed_100 hl (k := 0) rfl (by decide) (by decide) rfl (fun ls hl => ?_)
    refine lv_goto (tgt := 60) hx hb dX12_feed_103 (by decide) ?_
    refine lv_iload hx hb dX12_feed_60 (lv_at hl 0 rfl) ?_
    refine lv_bipush (v := 20) hx hb dX12_feed_62 (by decide) ?_
    refine lv_icmp_ge (tgt := 106) hx hb dX12_feed_64 (by decide) (fun c145 => absurd c145 (by decide)) (fun c145 => ?_)
    refine lv_aload_n hx hb dX12_feed_67 rfl (lv_at hl 1 rfl) ?_
    refine tw_getM (v := .ref (q 10)) hx hb hts bF_X12 hown hK hT hr_o0 shm_0 rfl 10 (by decide) (ht_at hts 3 rfl) (fun _ h9 => h9) (gx_el hT hr_o0 shm_0 (k := 10) (by decide) (fun v h => (h _ rfl).1)) dX12_feed_68 ?_
    refine lv_aload_n hx hb dX12_feed_71 rfl (lv_at hl 1 rfl) ?_
    refine tw_getM (v := .int tn) hx hb hts bF_X12 hown hK hT hr_o0 shm_0 rfl 11 (by decide) (ht_at hts 1 rfl) (fun _ h9 => h9) m137 dX12_feed_72 ?_
    refine lv_iload hx hb dX12_feed_75 (lv_at hl 0 rfl) ?_
    refine lv_iadd hx hb dX12_feed_77 ?_
    refine lv_topi (fun x148 ex148 => ?_)
    have t149 : x148.toInt = tn.toInt + 4 := ti_add ex148 rfl (by decide) (by omega) (by omega)
    refine lv_aload_n hx hb dX12_feed_78 rfl (lv_at hl 1 rfl) ?_
    refine tw_getM (v := .ref (q 17)) hx hb hts bF_X12 hown hK hT hr_o0 shm_0 rfl 17 (by decide) (ht_at hts 2 rfl) (fun _ h9 => h9) (gx_el hT hr_o0 shm_0 (k := 17) (by decide) (fun v h => (h _ rfl).1)) dX12_feed_79 ?_
    refine lv_iload hx hb dX12_feed_82 (lv_at hl 0 rfl) ?_
    refine lv_iconst (v := 4) hx hb dX12_feed_84 (by decide) ?_
    refine lv_idiv hx hb dX12_feed_85 (by decide) ?_
    refine lv_tope (v := 1) (by decide) ?_
    refine tw_ialdM (v := .int p1) (i := 1) hx hb hK hT hg10 shm_18 rfl (by unfold vp_in; decide) m141 dX12_feed_86 ?_
    refine lv_bipush (v := 24) hx hb dX12_feed_87 (by decide) ?_
    refine lv_bipush (v := 8) hx hb dX12_feed_89 (by decide) ?_
    refine lv_iload hx hb dX12_feed_91 (lv_at hl 0 rfl) ?_
    refine lv_iconst (v := 4) hx hb dX12_feed_93 (by decide) ?_
    refine lv_irem hx hb dX12_feed_94 (by decide) ?_
    refine lv_tope (v := 0) (by decide) ?_
    refine lv_imul hx hb dX12_feed_95 ?_
    refine lv_tope (v := 0) (by decide) ?_
    refine lv_isub hx hb dX12_feed_96 ?_
    refine lv_tope (v := 24) (by decide) ?_
    refine lv_ishr hx hb dX12_feed_97 ?_
    refine lv_topi (fun x158 ex158 => ?_)
    refine lv_i2b (v := x158.toInt8.toInt32) hx hb dX12_feed_98 rfl ?_
    refine lv_topi (fun x159 ex159 => ?_)
    have i4_ : x148.toNatClampNeg = tn.toNatClampNeg + 4 := tn_pl (k := 4) t149 hq0.1
    have j4_ : x159 = sb p1 24 := (by rw [ex159, ex158]; rfl)
    refine tw_bast (i := x148) (x := x159) hx hb hK hT hG hS hg1 shm_11 rfl (vin_t (a := x148.toInt) rfl (by omega) (by omega)) (gi_b _ (by decide) (by decide)) dX12_feed_99 (fun H locs hT oq m160 oi hS => ?_)
    have hF := hF.ast hg1 skm_11 oq (by decide)
    have m161 := (el_kept (oq _ (gne hr_o0 hg1 (by decide)))).trans m137
    have m162 := m138.put (by rw [nar_y ex159] at m160; exact m160) oi
    have m163 := (el_kept (oq _ (gne hr_o0 hg1 (by decide)))).trans m139
    have m164 := (el_kept (oq _ (gne hg10 hg1 (by decide)))).trans m140
    have m165 := (el_kept (oq _ (gne hg10 hg1 (by decide)))).trans m141
    have m166 := (el_kept (oq _ (gne hg10 hg1 (by decide)))).trans m142
    have m167 := (el_kept (oq _ (gne hg10 hg1 (by decide)))).trans m143
    have m168 := (el_kept (oq _ (gne hg10 hg1 (by decide)))).trans m144
    obtain ⟨Vb4, eVb4⟩ : ∃ Z : Nat → Int32, Z = cu Vb3 x148.toNatClampNeg x159 := ⟨_, rfl⟩
    rw [← eVb4] at m162
    refine lv_iinc (v := 5) (lv' := [(6, .int 5), (0, .ref o0), (1, .int p0), (2, .int p1), (3, .int p2), (4, .int p3), (5, .int p4)]) hx hb dX12_feed_100 hl (k := 0) rfl (by decide) (by decide) rfl (fun ls hl => ?_)
    refine lv_goto (tgt := 60) hx hb dX12_feed_103 (by decide) ?_
    refine lv_iload hx hb dX12_feed_60 (lv_at hl 0 rfl) ?_
    refine lv_bipush (v := 20) hx hb dX12_feed_62 (by decide) ?_
    refine lv_icmp_ge (tgt := 106) hx hb dX12_feed_64 (by decide) (fun c169 => absurd c169 (by decide)) (fun c169 => ?_)
    refine lv_aload_n hx hb dX12_feed_67 rfl (lv_at hl 1 rfl) ?_
    refine tw_getM (v := .ref (q 10)) hx hb hts bF_X12 hown hK hT hr_o0 shm_0 rfl 10 (by decide) (ht_at hts 3 rfl) (fun _ h9 => h9) (gx_el hT hr_o0 shm_0 (k := 10) (by decide) (fun v h => (h _ rfl).1)) dX12_feed_68 ?_
    refine lv_aload_n hx hb dX12_feed_71 rfl (lv_at hl 1 rfl) ?_
    refine tw_getM (v := .int tn) hx hb hts bF_X12 hown hK hT hr_o0 shm_0 rfl 11 (by decide) (ht_at hts 1 rfl) (fun _ h9 => h9) m161 dX12_feed_72 ?_
    refine lv_iload hx hb dX12_feed_75 (lv_at hl 0 rfl) ?_
    refine lv_iadd hx hb dX12_feed_77 ?_
    refine lv_topi (fun x172 ex172 => ?_)
    have t173 : x172.toInt = tn.toInt + 5 := ti_add ex172 rfl (by decide) (by omega) (by omega)
    refine lv_aload_n hx hb dX12_feed_78 rfl (lv_at hl 1 rfl) ?_
    refine tw_getM (v := .ref (q 17)) hx hb hts bF_X12 hown hK hT hr_o0 shm_0 rfl 17 (by decide) (ht_at hts 2 rfl) (fun _ h9 => h9) (gx_el hT hr_o0 shm_0 (k := 17) (by decide) (fun v h => (h _ rfl).1)) dX12_feed_79 ?_
    refine lv_iload hx hb dX12_feed_82 (lv_at hl 0 rfl) ?_
    refine lv_iconst (v := 4) hx hb dX12_feed_84 (by decide) ?_
    refine lv_idiv hx hb dX12_feed_85 (by decide) ?_
    refine lv_tope (v := 1) (by decide) ?_
    refine tw_ialdM (v := .int p1) (i := 1) hx hb hK hT hg10 shm_18 rfl (by unfold vp_in; decide) m165 dX12_feed_86 ?_
    refine lv_bipush (v := 24) hx hb dX12_feed_87 (by decide) ?_
    refine lv_bipush (v := 8) hx hb dX12_feed_89 (by decide) ?_
    refine lv_iload hx hb dX12_feed_91 (lv_at hl 0 rfl) ?_
    refine lv_iconst (v := 4) hx hb dX12_feed_93 (by decide) ?_
    refine lv_irem hx hb dX12_feed_94 (by decide) ?_
    refine lv_tope (v := 1) (by decide) ?_
    refine lv_imul hx hb dX12_feed_95 ?_
    refine lv_tope (v := 8) (by decide) ?_
    refine lv_isub hx hb dX12_feed_96 ?_
    refine lv_tope (v := 16) (by decide) ?_
    refine lv_ishr hx hb dX12_feed_97 ?_
    refine lv_topi (fun x182 ex182 => ?_)
    refine lv_i2b (v := x182.toInt8.toInt32) hx hb dX12_feed_98 rfl ?_
    refine lv_topi (fun x183 ex183 => ?_)
    have i5_ : x172.toNatClampNeg = tn.toNatClampNeg + 4 + 1 := tn_pl (k := 5) t173 hq0.1
    have j5_ : x183 = sb p1 16 := (by rw [ex183, ex182]; rfl)
    refine tw_bast (i := x172) (x := x183) hx hb hK hT hG hS hg1 shm_11 rfl (vin_t (a := x172.toInt) rfl (by omega) (by omega)) (gi_b _ (by decide) (by decide)) dX12_feed_99 (fun H locs hT oq m184 oi hS => ?_)
    have hF := hF.ast hg1 skm_11 oq (by decide)
    have m185 := (el_kept (oq _ (gne hr_o0 hg1 (by decide)))).trans m161
    have m186 := m162.put (by rw [nar_y ex183] at m184; exact m184) oi
    have m187 := (el_kept (oq _ (gne hr_o0 hg1 (by decide)))).trans m163
    have m188 := (el_kept (oq _ (gne hg10 hg1 (by decide)))).trans m164
    have m189 := (el_kept (oq _ (gne hg10 hg1 (by decide)))).trans m165
    have m190 := (el_kept (oq _ (gne hg10 hg1 (by decide)))).trans m166
    have m191 := (el_kept (oq _ (gne hg10 hg1 (by decide)))).trans m167
    have m192 := (el_kept (oq _ (gne hg10 hg1 (by decide)))).trans m168
    obtain ⟨Vb5, eVb5⟩ : ∃ Z : Nat → Int32, Z = cu Vb4 x172.toNatClampNeg x183 := ⟨_, rfl⟩
    rw [← eVb5] at m186
    refine lv_iinc (v := 6) (lv' := [(6, .int 6), (0, .ref o0), (1, .int p0), (2, .int p1), (3, .int p2), (4, .int p3), (5, .int p4)]) hx hb dX12_feed_100 hl (k := 0) rfl (by decide) (by decide) rfl (fun ls hl => ?_)
    refine lv_goto (tgt := 60) hx hb dX12_feed_103 (by decide) ?_
    refine lv_iload hx hb dX12_feed_60 (lv_at hl 0 rfl) ?_
    refine lv_bipush (v := 20) hx hb dX12_feed_62 (by decide) ?_
    refine lv_icmp_ge (tgt := 106) hx hb dX12_feed_64 (by decide) (fun c193 => absurd c193 (by decide)) (fun c193 => ?_)
    refine lv_aload_n hx hb dX12_feed_67 rfl (lv_at hl 1 rfl) ?_
    refine tw_getM (v := .ref (q 10)) hx hb hts bF_X12 hown hK hT hr_o0 shm_0 rfl 10 (by decide) (ht_at hts 3 rfl) (fun _ h9 => h9) (gx_el hT hr_o0 shm_0 (k := 10) (by decide) (fun v h => (h _ rfl).1)) dX12_feed_68 ?_
    refine lv_aload_n hx hb dX12_feed_71 rfl (lv_at hl 1 rfl) ?_
    refine tw_getM (v := .int tn) hx hb hts bF_X12 hown hK hT hr_o0 shm_0 rfl 11 (by decide) (ht_at hts 1 rfl) (fun _ h9 => h9) m185 dX12_feed_72 ?_
    refine lv_iload hx hb dX12_feed_75 (lv_at hl 0 rfl) ?_
    refine lv_iadd hx hb dX12_feed_77 ?_
    refine lv_topi (fun x196 ex196 => ?_)
    have t197 : x196.toInt = tn.toInt + 6 := ti_add ex196 rfl (by decide) (by omega) (by omega)
    refine lv_aload_n hx hb dX12_feed_78 rfl (lv_at hl 1 rfl) ?_
    refine tw_getM (v := .ref (q 17)) hx hb hts bF_X12 hown hK hT hr_o0 shm_0 rfl 17 (by decide) (ht_at hts 2 rfl) (fun _ h9 => h9) (gx_el hT hr_o0 shm_0 (k := 17) (by decide) (fun v h => (h _ rfl).1)) dX12_feed_79 ?_
    refine lv_iload hx hb dX12_feed_82 (lv_at hl 0 rfl) ?_
    refine lv_iconst (v := 4) hx hb dX12_feed_84 (by decide) ?_
    refine lv_idiv hx hb dX12_feed_85 (by decide) ?_
    refine lv_tope (v := 1) (by decide) ?_
    refine tw_ialdM (v := .int p1) (i := 1) hx hb hK hT hg10 shm_18 rfl (by unfold vp_in; decide) m189 dX12_feed_86 ?_
    refine lv_bipush (v := 24) hx hb dX12_feed_87 (by decide) ?_
    refine lv_bipush (v := 8) hx hb dX12_feed_89 (by decide) ?_
    refine lv_iload hx hb dX12_feed_91 (lv_at hl 0 rfl) ?_
    refine lv_iconst (v := 4) hx hb dX12_feed_93 (by decide) ?_
    refine lv_irem hx hb dX12_feed_94 (by decide) ?_
    refine lv_tope (v := 2) (by decide) ?_
    refine lv_imul hx hb dX12_feed_95 ?_
    refine lv_tope (v := 16) (by decide) ?_
    refine lv_isub hx hb dX12_feed_96 ?_
    refine lv_tope (v := 8) (by decide) ?_
    refine lv_ishr hx hb dX12_feed_97 ?_
    refine lv_topi (fun x206 ex206 => ?_)
    refine lv_i2b (v := x206.toInt8.toInt32) hx hb dX12_feed_98 rfl ?_
    refine lv_topi (fun x207 ex207 => ?_)
    have i6_ : x196.toNatClampNeg = tn.toNatClampNeg + 4 + 2 := tn_pl (k := 6) t197 hq0.1
    have j6_ : x207 = sb p1 8 := (by rw [ex207, ex206]; rfl)
    refine tw_bast (i := x196) (x := x207) hx hb hK hT hG hS hg1 shm_11 rfl (vin_t (a := x196.toInt) rfl (by omega) (by omega)) (gi_b _ (by decide) (by decide)) dX12_feed_99 (fun H locs hT oq m208 oi hS => ?_)
    have hF := hF.ast hg1 skm_11 oq (by decide)
    have m209 := (el_kept (oq _ (gne hr_o0 hg1 (by decide)))).trans m185
    have m210 := m186.put (by rw [nar_y ex207] at m208; exact m208) oi
    have m211 := (el_kept (oq _ (gne hr_o0 hg1 (by decide)))).trans m187
    have m212 := (el_kept (oq _ (gne hg10 hg1 (by decide)))).trans m188
    have m213 := (el_kept (oq _ (gne hg10 hg1 (by decide)))).trans m189
    have m214 := (el_kept (oq _ (gne hg10 hg1 (by decide)))).trans m190
    have m215 := (el_kept (oq _ (gne hg10 hg1 (by decide)))).trans m191
    have m216 := (el_kept (oq _ (gne hg10 hg1 (by decide)))).trans m192
    obtain ⟨Vb6, eVb6⟩ : ∃ Z : Nat → Int32, Z = cu Vb5 x196.toNatClampNeg x207 := ⟨_, rfl⟩
    rw [← eVb6] at m210
    refine lv_iinc (v := 7) (lv' := [(6, .int 7), (0, .ref o0), (1, .int p0), (2, .int p1), (3, .int p2), (4, .int p3), (5, .int p4)]) hx hb dX12_feed_100 hl (k := 0) rfl (by decide) (by decide) rfl (fun ls hl => ?_)
    refine lv_goto (tgt := 60) hx hb dX12_feed_103 (by decide) ?_
    refine lv_iload hx hb dX12_feed_60 (lv_at hl 0 rfl) ?_
    refine lv_bipush (v := 20) hx hb dX12_feed_62 (by decide) ?_
    refine lv_icmp_ge (tgt := 106) hx hb dX12_feed_64 (by decide) (fun c217 => absurd c217 (by decide)) (fun c217 => ?_)
    refine lv_aload_n hx hb dX12_feed_67 rfl (lv_at hl 1 rfl) ?_
    refine tw_getM (v := .ref (q 10)) hx hb hts bF_X12 hown hK hT hr_o0 shm_0 rfl 10 (by decide) (ht_at hts 3 rfl) (fun _ h9 => h9) (gx_el hT hr_o0 shm_0 (k := 10) (by decide) (fun v h => (h _ rfl).1)) dX12_feed_68 ?_
    refine lv_aload_n hx hb dX12_feed_71 rfl (lv_at hl 1 rfl) ?_
    refine tw_getM (v := .int tn) hx hb hts bF_X12 hown hK hT hr_o0 shm_0 rfl 11 (by decide) (ht_at hts 1 rfl) (fun _ h9 => h9) m209 dX12_feed_72 ?_
    refine lv_iload hx hb dX12_feed_75 (lv_at hl 0 rfl) ?_
    refine lv_iadd hx hb dX12_feed_77 ?_
    refine lv_topi (fun x220 ex220 => ?_)
    have t221 : x220.toInt = tn.toInt + 7 := ti_add ex220 rfl (by decide) (by omega) (by omega)
    refine lv_aload_n hx hb dX12_feed_78 rfl (lv_at hl 1 rfl) ?_
    refine tw_getM (v := .ref (q 17)) hx hb hts bF_X12 hown hK hT hr_o0 shm_0 rfl 17 (by decide) (ht_at hts 2 rfl) (fun _ h9 => h9) (gx_el hT hr_o0 shm_0 (k := 17) (by decide) (fun v h => (h _ rfl).1)) dX12_feed_79 ?_
    refine lv_iload hx hb dX12_feed_82 (lv_at hl 0 rfl) ?_
    refine lv_iconst (v := 4) hx hb dX12_feed_84 (by decide) ?_
    refine lv_idiv hx hb dX12_feed_85 (by decide) ?_
    refine lv_tope (v := 1) (by decide) ?_
    refine tw_ialdM (v := .int p1) (i := 1) hx hb hK hT hg10 shm_18 rfl (by unfold vp_in; decide) m213 dX12_feed_86 ?_
    refine lv_bipush (v := 24) hx hb dX12_feed_87 (by decide) ?_
    refine lv_bipush (v := 8) hx hb dX12_feed_89 (by decide) ?_
    refine lv_iload hx hb dX12_feed_91 (lv_at hl 0 rfl) ?_
    refine lv_iconst (v := 4) hx hb dX12_feed_93 (by decide) ?_
    refine lv_irem hx hb dX12_feed_94 (by decide) ?_
    refine lv_tope (v := 3) (by decide) ?_
    refine lv_imul hx hb dX12_feed_95 ?_
    refine lv_tope (v := 24) (by decide) ?_
    refine lv_isub hx hb dX12_feed_96 ?_
    refine lv_tope (v := 0) (by decide) ?_
    refine lv_ishr hx hb dX12_feed_97 ?_
    refine lv_tope (v := p1) (shr_0 _) ?_
    refine lv_i2b (v := p1.toInt8.toInt32) hx hb dX12_feed_98 rfl ?_
    refine lv_topi (fun x231 ex231 => ?_)
    have i7_ : x220.toNatClampNeg = tn.toNatClampNeg + 4 + 3 := tn_pl (k := 7) t221 hq0.1
    have j7_ : x231 = sb p1 0 := (by rw [ex231]; unfold sb; rw [shr_0])
    refine tw_bast (i := x220) (x := x231) hx hb hK hT hG hS hg1 shm_11 rfl (vin_t (a := x220.toInt) rfl (by omega) (by omega)) (gi_b _ (by decide) (by decide)) dX12_feed_99 (fun H locs hT oq m232 oi hS => ?_)
    have hF := hF.ast hg1 skm_11 oq (by decide)
    have m233 := (el_kept (oq _ (gne hr_o0 hg1 (by decide)))).trans m209
    have m234 := m210.put (by rw [nar_y ex231] at m232; exact m232) oi
    have m235 := (el_kept (oq _ (gne hr_o0 hg1 (by decide)))).trans m211
    have m236 := (el_kept (oq _ (gne hg10 hg1 (by decide)))).trans m212
    have m237 := (el_kept (oq _ (gne hg10 hg1 (by decide)))).trans m213
    have m238 := (el_kept (oq _ (gne hg10 hg1 (by decide)))).trans m214
    have m239 := (el_kept (oq _ (gne hg10 hg1 (by decide)))).trans m215
    have m240 := (el_kept (oq _ (gne hg10 hg1 (by decide)))).trans m216
    obtain ⟨Vb7, eVb7⟩ : ∃ Z : Nat → Int32, Z = cu Vb6 x220.toNatClampNeg x231 := ⟨_, rfl⟩
    rw [← eVb7] at m234
    have f1_ : Vb7 = f4S Vb3 (tn.toNatClampNeg + 4) p1 := by rw [eVb7, eVb6, eVb5, eVb4, i4_, j4_, i5_, j5_, i6_, j6_, i7_, j7_]; rfl
    refine lv_iinc (v := 8) (lv' := [(6, .int 8), (0, .ref o0), (1, .int p0), (2, .int p1), (3, .int p2), (4, .int p3), (5, .int p4)]) hx hb dX12_feed_100 hl (k := 0) rfl (by decide) (by decide) rfl (fun ls hl => ?_)
    refine lv_goto (tgt := 60) hx hb dX12_feed_103 (by decide) ?_
    refine lv_iload hx hb dX12_feed_60 (lv_at hl 0 rfl) ?_
    refine lv_bipush (v := 20) hx hb dX12_feed_62 (by decide) ?_
    refine lv_icmp_ge (tgt := 106) hx hb dX12_feed_64 (by decide) (fun c241 => absurd c241 (by decide)) (fun c241 => ?_)
    refine lv_aload_n hx hb dX12_feed_67 rfl (lv_at hl 1 rfl) ?_
    refine tw_getM (v := .ref (q 10)) hx hb hts bF_X12 hown hK hT hr_o0 shm_0 rfl 10 (by decide) (ht_at hts 3 rfl) (fun _ h9 => h9) (gx_el hT hr_o0 shm_0 (k := 10) (by decide) (fun v h => (h _ rfl).1)) dX12_feed_68 ?_
    refine lv_aload_n hx hb dX12_feed_71 rfl (lv_at hl 1 rfl) ?_
    refine tw_getM (v := .int tn) hx hb hts bF_X12 hown hK hT hr_o0 shm_0 rfl 11 (by decide) (ht_at hts 1 rfl) (fun _ h9 => h9) m233 dX12_feed_72 ?_
    refine lv_iload hx hb dX12_feed_75 (lv_at hl 0 rfl) ?_
    refine lv_iadd hx hb dX12_feed_77 ?_
    refine lv_topi (fun x244 ex244 => ?_)
    have t245 : x244.toInt = tn.toInt + 8 := ti_add ex244 rfl (by decide) (by omega) (by omega)
    refine lv_aload_n hx hb dX12_feed_78 rfl (lv_at hl 1 rfl) ?_
    refine tw_getM (v := .ref (q 17)) hx hb hts bF_X12 hown hK hT hr_o0 shm_0 rfl 17 (by decide) (ht_at hts 2 rfl) (fun _ h9 => h9) (gx_el hT hr_o0 shm_0 (k := 17) (by decide) (fun v h => (h _ rfl).1)) dX12_feed_79 ?_
    refine lv_iload hx hb dX12_feed_82 (lv_at hl 0 rfl) ?_
    refine lv_iconst (v := 4) hx hb dX12_feed_84 (by decide) ?_
    refine lv_idiv hx hb dX12_feed_85 (by decide) ?_
    refine lv_tope (v := 2) (by decide) ?_
    refine tw_ialdM (v := .int p2) (i := 2) hx hb hK hT hg10 shm_18 rfl (by unfold vp_in; decide) m238 dX12_feed_86 ?_
    refine lv_bipush (v := 24) hx hb dX12_feed_87 (by decide) ?_
    refine lv_bipush (v := 8) hx hb dX12_feed_89 (by decide) ?_
    refine lv_iload hx hb dX12_feed_91 (lv_at hl 0 rfl) ?_
    refine lv_iconst (v := 4) hx hb dX12_feed_93 (by decide) ?_
    refine lv_irem hx hb dX12_feed_94 (by decide) ?_
    refine lv_tope (v := 0) (by decide) ?_
    refine lv_imul hx hb dX12_feed_95 ?_
    refine lv_tope (v := 0) (by decide) ?_
    refine lv_isub hx hb dX12_feed_96 ?_
    refine lv_tope (v := 24) (by decide) ?_
    refine lv_ishr hx hb dX12_feed_97 ?_
    refine lv_topi (fun x254 ex254 => ?_)
    refine lv_i2b (v := x254.toInt8.toInt32) hx hb dX12_feed_98 rfl ?_
    refine lv_topi (fun x255 ex255 => ?_)
    have i8_ : x244.toNatClampNeg = tn.toNatClampNeg + 8 := tn_pl (k := 8) t245 hq0.1
    have j8_ : x255 = sb p2 24 := (by rw [ex255, ex254]; rfl)
    refine tw_bast (i := x244) (x := x255) hx hb hK hT hG hS hg1 shm_11 rfl (vin_t (a := x244.toInt) rfl (by omega) (by omega)) (gi_b _ (by decide) (by decide)) dX12_feed_99 (fun H locs hT oq m256 oi hS => ?_)
    have hF := hF.ast hg1 skm_11 oq (by decide)
    have m257 := (el_kept (oq _ (gne hr_o0 hg1 (by decide)))).trans m233
    have m258 := m234.put (by rw [nar_y ex255] at m256; exact m256) oi
    have m259 := (el_kept (oq _ (gne hr_o0 hg1 (by decide)))).trans m235
    have m260 := (el_kept (oq _ (gne hg10 hg1 (by decide)))).trans m236
    have m261 := (el_kept (oq _ (gne hg10 hg1 (by decide)))).trans m237
    have m262 := (el_kept (oq _ (gne hg10 hg1 (by decide)))).trans m238
    have m263 := (el_kept (oq _ (gne hg10 hg1 (by decide)))).trans m239
    have m264 := (el_kept (oq _ (gne hg10 hg1 (by decide)))).trans m240
    obtain ⟨Vb8, eVb8⟩ : ∃ Z : Nat → Int32, Z = cu Vb7 x244.toNatClampNeg x255 := ⟨_, rfl⟩
    rw [← eVb8] at m258
    refine lv_iinc (v := 9) (lv' := [(6, .int 9), (0, .ref o0), (1, .int p0), (2, .int p1), (3, .int p2), (4, .int p3), (5, .int p4)]) hx hb dX12_feed_100 hl (k := 0) rfl (by decide) (by decide) rfl (fun ls hl => ?_)
    refine lv_goto (tgt := 60) hx hb dX12_feed_103 (by decide) ?_
    refine lv_iload hx hb dX12_feed_60 (lv_at hl 0 rfl) ?_
    refine lv_bipush (v := 20) hx hb dX12_feed_62 (by decide) ?_
    refine lv_icmp_ge (tgt := 106) hx hb dX12_feed_64 (by decide) (fun c265 => absurd c265 (by decide)) (fun c265 => ?_)
    refine lv_aload_n hx hb dX12_feed_67 rfl (lv_at hl 1 rfl) ?_
    refine tw_getM (v := .ref (q 10)) hx hb hts bF_X12 hown hK hT hr_o0 shm_0 rfl 10 (by decide) (ht_at hts 3 rfl) (fun _ h9 => h9) (gx_el hT hr_o0 shm_0 (k := 10) (by decide) (fun v h => (h _ rfl).1)) dX12_feed_68 ?_
    refine lv_aload_n hx hb dX12_feed_71 rfl (lv_at hl 1 rfl) ?_
    refine tw_getM (v := .int tn) hx hb hts bF_X12 hown hK hT hr_o0 shm_0 rfl 11 (by decide) (ht_at hts 1 rfl) (fun _ h9 => h9) m257 dX12_feed_72 ?_
    refine lv_iload hx hb dX12_feed_75 (lv_at hl 0 rfl) ?_
    refine lv_iadd hx hb dX12_feed_77 ?_
    refine lv_topi (fun x268 ex268 => ?_)
    have t269 : x268.toInt = tn.toInt + 9 := ti_add ex268 rfl (by decide) (by omega) (by omega)
    refine lv_aload_n hx hb dX12_feed_78 rfl (lv_at hl 1 rfl) ?_
    refine tw_getM (v := .ref (q 17)) hx hb hts bF_X12 hown hK hT hr_o0 shm_0 rfl 17 (by decide) (ht_at hts 2 rfl) (fun _ h9 => h9) (gx_el hT hr_o0 shm_0 (k := 17) (by decide) (fun v h => (h _ rfl).1)) dX12_feed_79 ?_
    refine lv_iload hx hb dX12_feed_82 (lv_at hl 0 rfl) ?_
    refine lv_iconst (v := 4) hx hb dX12_feed_84 (by decide) ?_
    refine lv_idiv hx hb dX12_feed_85 (by decide) ?_
    refine lv_tope (v := 2) (by decide) ?_
    refine tw_ialdM (v := .int p2) (i := 2) hx hb hK hT hg10 shm_18 rfl (by unfold vp_in; decide) m262 dX12_feed_86 ?_
    refine lv_bipush (v := 24) hx hb dX12_feed_87 (by decide) ?_
    refine lv_bipush (v := 8) hx hb dX12_feed_89 (by decide) ?_
    refine lv_iload hx hb dX12_feed_91 (lv_at hl 0 rfl) ?_
    refine lv_iconst (v := 4) hx hb dX12_feed_93 (by decide) ?_
    refine lv_irem hx hb dX12_feed_94 (by decide) ?_
    refine lv_tope (v := 1) (by decide) ?_
    refine lv_imul hx hb dX12_feed_95 ?_
    refine lv_tope (v := 8) (by decide) ?_
    refine lv_isub hx hb dX12_feed_96 ?_
    refine lv_tope (v := 16) (by decide) ?_
    refine lv_ishr hx hb dX12_feed_97 ?_
    refine lv_topi (fun x278 ex278 => ?_)
    refine lv_i2b (v := x278.toInt8.toInt32) hx hb dX12_feed_98 rfl ?_
    refine lv_topi (fun x279 ex279 => ?_)
    have i9_ : x268.toNatClampNeg = tn.toNatClampNeg + 8 + 1 := tn_pl (k := 9) t269 hq0.1
    have j9_ : x279 = sb p2 16 := (by rw [ex279, ex278]; rfl)
    refine tw_bast (i := x268) (x := x279) hx hb hK hT hG hS hg1 shm_11 rfl (vin_t (a := x268.toInt) rfl (by omega) (by omega)) (gi_b _ (by decide) (by decide)) dX12_feed_99 (fun H locs hT oq m280 oi hS => ?_)
    have hF := hF.ast hg1 skm_11 oq (by decide)
    have m281 := (el_kept (oq _ (gne hr_o0 hg1 (by decide)))).trans m257
    have m282 := m258.put (by rw [nar_y ex279] at m280; exact m280) oi
    have m283 := (el_kept (oq _ (gne hr_o0 hg1 (by decide)))).trans m259
    have m284 := (el_kept (oq _ (gne hg10 hg1 (by decide)))).trans m260
    have m285 := (el_kept (oq _ (gne hg10 hg1 (by decide)))).trans m261
    have m286 := (el_kept (oq _ (gne hg10 hg1 (by decide)))).trans m262
    have m287 := (el_kept (oq _ (gne hg10 hg1 (by decide)))).trans m263
    have m288 := (el_kept (oq _ (gne hg10 hg1 (by decide)))).trans m264
    obtain ⟨Vb9, eVb9⟩ : ∃ Z : Nat → Int32, Z = cu Vb8 x268.toNatClampNeg x279 := ⟨_, rfl⟩
    rw [← eVb9] at m282
    refine lv_iinc (v := 10) (lv' := [(6, .int 10), (0, .ref o0), (1, .int p0), (2, .int p1), (3, .int p2), (4, .int p3), (5, .int p4)]) hx hb dX12_feed_100 hl (k := 0) rfl (by decide) (by decide) rfl (fun ls hl => ?_)
    refine lv_goto (tgt := 60) hx hb dX12_feed_103 (by decide) ?_
    refine lv_iload hx hb dX12_feed_60 (lv_at hl 0 rfl) ?_
    refine lv_bipush (v := 20) hx hb dX12_feed_62 (by decide) ?_
    refine lv_icmp_ge (tgt := 106) hx hb dX12_feed_64 (by decide) (fun c289 => absurd c289 (by decide)) (fun c289 => ?_)
    refine lv_aload_n hx hb dX12_feed_67 rfl (lv_at hl 1 rfl) ?_
    refine tw_getM (v := .ref (q 10)) hx hb hts bF_X12 hown hK hT hr_o0 shm_0 rfl 10 (by decide) (ht_at hts 3 rfl) (fun _ h9 => h9) (gx_el hT hr_o0 shm_0 (k := 10) (by decide) (fun v h => (h _ rfl).1)) dX12_feed_68 ?_
    refine lv_aload_n hx hb dX12_feed_71 rfl (lv_at hl 1 rfl) ?_
    refine tw_getM (v := .int tn) hx hb hts bF_X12 hown hK hT hr_o0 shm_0 rfl 11 (by decide) (ht_at hts 1 rfl) (fun _ h9 => h9) m281 dX12_feed_72 ?_
    refine lv_iload hx hb dX12_feed_75 (lv_at hl 0 rfl) ?_
    refine lv_iadd hx hb dX12_feed_77 ?_
    refine lv_topi (fun x292 ex292 => ?_)
    have t293 : x292.toInt = tn.toInt + 10 := ti_add ex292 rfl (by decide) (by omega) (by omega)
    refine lv_aload_n hx hb dX12_feed_78 rfl (lv_at hl 1 rfl) ?_
    refine tw_getM (v := .ref (q 17)) hx hb hts bF_X12 hown hK hT hr_o0 shm_0 rfl 17 (by decide) (ht_at hts 2 rfl) (fun _ h9 => h9) (gx_el hT hr_o0 shm_0 (k := 17) (by decide) (fun v h => (h _ rfl).1)) dX12_feed_79 ?_
    refine lv_iload hx hb dX12_feed_82 (lv_at hl 0 rfl) ?_
    refine lv_iconst (v := 4) hx hb dX12_feed_84 (by decide) ?_
    refine lv_idiv hx hb dX12_feed_85 (by decide) ?_
    refine lv_tope (v := 2) (by decide) ?_
    refine tw_ialdM (v := .int p2) (i := 2) hx hb hK hT hg10 shm_18 rfl (by unfold vp_in; decide) m286 dX12_feed_86 ?_
    refine lv_bipush (v := 24) hx hb dX12_feed_87 (by decide) ?_
    refine lv_bipush (v := 8) hx hb dX12_feed_89 (by decide) ?_
    refine lv_iload hx hb dX12_feed_91 (lv_at hl 0 rfl) ?_
    refine lv_iconst (v := 4) hx hb dX12_feed_93 (by decide) ?_
    refine lv_irem hx hb dX12_feed_94 (by decide) ?_
    refine lv_tope (v := 2) (by decide) ?_
    refine lv_imul hx hb dX12_feed_95 ?_
    refine lv_tope (v := 16) (by decide) ?_
    refine lv_isub hx hb dX12_feed_96 ?_
    refine lv_tope (v := 8) (by decide) ?_
    refine lv_ishr hx hb dX12_feed_97 ?_
    refine lv_topi (fun x302 ex302 => ?_)
    refine lv_i2b (v := x302.toInt8.toInt32) hx hb dX12_feed_98 rfl ?_
    refine lv_topi (fun x303 ex303 => ?_)
    have i10_ : x292.toNatClampNeg = tn.toNatClampNeg + 8 + 2 := tn_pl (k := 10) t293 hq0.1
    have j10_ : x303 = sb p2 8 := (by rw [ex303, ex302]; rfl)
    refine tw_bast (i := x292) (x := x303) hx hb hK hT hG hS hg1 shm_11 rfl (vin_t (a := x292.toInt) rfl (by omega) (by omega)) (gi_b _ (by decide) (by decide)) dX12_feed_99 (fun H locs hT oq m304 oi hS => ?_)
    have hF := hF.ast hg1 skm_11 oq (by decide)
    have m305 := (el_kept (oq _ (gne hr_o0 hg1 (by decide)))).trans m281
    have m306 := m282.put (by rw [nar_y ex303] at m304; exact m304) oi
    have m307 := (el_kept (oq _ (gne hr_o0 hg1 (by decide)))).trans m283
    have m308 := (el_kept (oq _ (gne hg10 hg1 (by decide)))).trans m284
    have m309 := (el_kept (oq _ (gne hg10 hg1 (by decide)))).trans m285
    have m310 := (el_kept (oq _ (gne hg10 hg1 (by decide)))).trans m286
    have m311 := (el_kept (oq _ (gne hg10 hg1 (by decide)))).trans m287
    have m312 := (el_kept (oq _ (gne hg10 hg1 (by decide)))).trans m288
    obtain ⟨Vb10, eVb10⟩ : ∃ Z : Nat → Int32, Z = cu Vb9 x292.toNatClampNeg x303 := ⟨_, rfl⟩
    rw [← eVb10] at m306
    refine lv_iinc (v := 11) (lv' := [(6, .int 11), (0, .ref o0), (1, .int p0), (2, .int p1), (3, .int p2), (4, .int p3), (5, .int p4)]) hx hb dX12_feed_100 hl (k := 0) rfl (by decide) (by decide) rfl (fun ls hl => ?_)
    refine lv_goto (tgt := 60) hx hb dX12_feed_103 (by decide) ?_
    refine lv_iload hx hb dX12_feed_60 (lv_at hl 0 rfl) ?_
    refine lv_bipush (v := 20) hx hb dX12_feed_62 (by decide) ?_
    refine lv_icmp_ge (tgt := 106) hx hb dX12_feed_64 (by decide) (fun c313 => absurd c313 (by decide)) (fun c313 => ?_)
    refine lv_aload_n hx hb dX12_feed_67 rfl (lv_at hl 1 rfl) ?_
    refine tw_getM (v := .ref (q 10)) hx hb hts bF_X12 hown hK hT hr_o0 shm_0 rfl 10 (by decide) (ht_at hts 3 rfl) (fun _ h9 => h9) (gx_el hT hr_o0 shm_0 (k := 10) (by decide) (fun v h => (h _ rfl).1)) dX12_feed_68 ?_
    refine lv_aload_n hx hb dX12_feed_71 rfl (lv_at hl 1 rfl) ?_
    refine tw_getM (v := .int tn) hx hb hts bF_X12 hown hK hT hr_o0 shm_0 rfl 11 (by decide) (ht_at hts 1 rfl) (fun _ h9 => h9) m305 dX12_feed_72 ?_
    refine lv_iload hx hb dX12_feed_75 (lv_at hl 0 rfl) ?_
    refine lv_iadd hx hb dX12_feed_77 ?_
    refine lv_topi (fun x316 ex316 => ?_)
    have t317 : x316.toInt = tn.toInt + 11 := ti_add ex316 rfl (by decide) (by omega) (by omega)
    refine lv_aload_n hx hb dX12_feed_78 rfl (lv_at hl 1 rfl) ?_
    refine tw_getM (v := .ref (q 17)) hx hb hts bF_X12 hown hK hT hr_o0 shm_0 rfl 17 (by decide) (ht_at hts 2 rfl) (fun _ h9 => h9) (gx_el hT hr_o0 shm_0 (k := 17) (by decide) (fun v h => (h _ rfl).1)) dX12_feed_79 ?_
    refine lv_iload hx hb dX12_feed_82 (lv_at hl 0 rfl) ?_
    refine lv_iconst (v := 4) hx hb dX12_feed_84 (by decide) ?_
    refine lv_idiv hx hb dX12_feed_85 (by decide) ?_
    refine lv_tope (v := 2) (by decide) ?_
    refine tw_ialdM (v := .int p2) (i := 2) hx hb hK hT hg10 shm_18 rfl (by unfold vp_in; decide) m310 dX12_feed_86 ?_
    refine lv_bipush (v := 24) hx hb dX12_feed_87 (by decide) ?_
    refine lv_bipush (v := 8) hx hb dX12_feed_89 (by decide) ?_
    refine lv_iload hx hb dX12_feed_91 (lv_at hl 0 rfl) ?_
    refine lv_iconst (v := 4) hx hb dX12_feed_93 (by decide) ?_
    refine lv_irem hx hb dX12_feed_94 (by decide) ?_
    refine lv_tope (v := 3) (by decide) ?_
    refine lv_imul hx hb dX12_feed_95 ?_
    refine lv_tope (v := 24) (by decide) ?_
    refine lv_isub hx hb dX12_feed_96 ?_
    refine lv_tope (v := 0) (by decide) ?_
    refine lv_ishr hx hb dX12_feed_97 ?_
    refine lv_tope (v := p2) (shr_0 _) ?_
    refine lv_i2b (v := p2.toInt8.toInt32) hx hb dX12_feed_98 rfl ?_
    refine lv_topi (fun x327 ex327 => ?_)
    have i11_ : x316.toNatClampNeg = tn.toNatClampNeg + 8 + 3 := tn_pl (k := 11) t317 hq0.1
    have j11_ : x327 = sb p2 0 := (by rw [ex327]; unfold sb; rw [shr_0])
    refine tw_bast (i := x316) (x := x327) hx hb hK hT hG hS hg1 shm_11 rfl (vin_t (a := x316.toInt) rfl (by omega) (by omega)) (gi_b _ (by decide) (by decide)) dX12_feed_99 (fun H locs hT oq m328 oi hS => ?_)
    have hF := hF.ast hg1 skm_11 oq (by decide)
    have m329 := (el_kept (oq _ (gne hr_o0 hg1 (by decide)))).trans m305
    have m330 := m306.put (by rw [nar_y ex327] at m328; exact m328) oi
    have m331 := (el_kept (oq _ (gne hr_o0 hg1 (by decide)))).trans m307
    have m332 := (el_kept (oq _ (gne hg10 hg1 (by decide)))).trans m308
    have m333 := (el_kept (oq _ (gne hg10 hg1 (by decide)))).trans m309
    have m334 := (el_kept (oq _ (gne hg10 hg1 (by decide)))).trans m310
    have m335 := (el_kept (oq _ (gne hg10 hg1 (by decide)))).trans m311
    have m336 := (el_kept (oq _ (gne hg10 hg1 (by decide)))).trans m312
    obtain ⟨Vb11, eVb11⟩ : ∃ Z : Nat → Int32, Z = cu Vb10 x316.toNatClampNeg x327 := ⟨_, rfl⟩
    rw [← eVb11] at m330
    have f2_ : Vb11 = f4S Vb7 (tn.toNatClampNeg + 8) p2 := by rw [eVb11, eVb10, eVb9, eVb8, i8_, j8_, i9_, j9_, i10_, j10_, i11_, j11_]; rfl
    refine lv_iinc (v := 12) (lv' := [(6, .int 12), (0, .ref o0), (1, .int p0), (2, .int p1), (3, .int p2), (4, .int p3), (5, .int p4)]) hx hb dX12_feed_100 hl (k := 0) rfl (by decide) (by decide) rfl (fun ls hl => ?_)
    refine lv_goto (tgt := 60) hx hb dX12_feed_103 (by decide) ?_
    refine lv_iload hx hb dX12_feed_60 (lv_at hl 0 rfl) ?_
    refine lv_bipush (v := 20) hx hb dX12_feed_62 (by decide) ?_
    refine lv_icmp_ge (tgt := 106) hx hb dX12_feed_64 (by decide) (fun c337 => absurd c337 (by decide)) (fun c337 => ?_)
    refine lv_aload_n hx hb dX12_feed_67 rfl (lv_at hl 1 rfl) ?_
    refine tw_getM (v := .ref (q 10)) hx hb hts bF_X12 hown hK hT hr_o0 shm_0 rfl 10 (by decide) (ht_at hts 3 rfl) (fun _ h9 => h9) (gx_el hT hr_o0 shm_0 (k := 10) (by decide) (fun v h => (h _ rfl).1)) dX12_feed_68 ?_
    refine lv_aload_n hx hb dX12_feed_71 rfl (lv_at hl 1 rfl) ?_
    refine tw_getM (v := .int tn) hx hb hts bF_X12 hown hK hT hr_o0 shm_0 rfl 11 (by decide) (ht_at hts 1 rfl) (fun _ h9 => h9) m329 dX12_feed_72 ?_
    refine lv_iload hx hb dX12_feed_75 (lv_at hl 0 rfl) ?_
    refine lv_iadd hx hb dX12_feed_77 ?_
    refine lv_topi (fun x340 ex340 => ?_)
    have t341 : x340.toInt = tn.toInt + 12 := ti_add ex340 rfl (by decide) (by omega) (by omega)
    refine lv_aload_n hx hb dX12_feed_78 rfl (lv_at hl 1 rfl) ?_
    refine tw_getM (v := .ref (q 17)) hx hb hts bF_X12 hown hK hT hr_o0 shm_0 rfl 17 (by decide) (ht_at hts 2 rfl) (fun _ h9 => h9) (gx_el hT hr_o0 shm_0 (k := 17) (by decide) (fun v h => (h _ rfl).1)) dX12_feed_79 ?_
    refine lv_iload hx hb dX12_feed_82 (lv_at hl 0 rfl) ?_
    refine lv_iconst (v := 4) hx hb dX12_feed_84 (by decide) ?_
    refine lv_idiv hx hb dX12_feed_85 (by decide) ?_
    refine lv_tope (v := 3) (by decide) ?_
    refine tw_ialdM (v := .int p3) (i := 3) hx hb hK hT hg10 shm_18 rfl (by unfold vp_in; decide) m335 dX12_feed_86 ?_
    refine lv_bipush (v := 24) hx hb dX12_feed_87 (by decide) ?_
    refine lv_bipush (v := 8) hx hb dX12_feed_89 (by decide) ?_
    refine lv_iload hx hb dX12_feed_91 (lv_at hl 0 rfl) ?_
    refine lv_iconst (v := 4) hx hb dX12_feed_93 (by decide) ?_
    refine lv_irem hx hb dX12_feed_94 (by decide) ?_
    refine lv_tope (v := 0) (by decide) ?_
    refine lv_imul hx hb dX12_feed_95 ?_
    refine lv_tope (v := 0) (by decide) ?_
    refine lv_isub hx hb dX12_feed_96 ?_
    refine lv_tope (v := 24) (by decide) ?_
    refine lv_ishr hx hb dX12_feed_97 ?_
    refine lv_topi (fun x350 ex350 => ?_)
    refine lv_i2b (v := x350.toInt8.toInt32) hx hb dX12_feed_98 rfl ?_
    refine lv_topi (fun x351 ex351 => ?_)
    have i12_ : x340.toNatClampNeg = tn.toNatClampNeg + 12 := tn_pl (k := 12) t341 hq0.1
    have j12_ : x351 = sb p3 24 := (by rw [ex351, ex350]; rfl)
    refine tw_bast (i := x340) (x := x351) hx hb hK hT hG hS hg1 shm_11 rfl (vin_t (a := x340.toInt) rfl (by omega) (by omega)) (gi_b _ (by decide) (by decide)) dX12_feed_99 (fun H locs hT oq m352 oi hS => ?_)
    have hF := hF.ast hg1 skm_11 oq (by decide)
    have m353 := (el_kept (oq _ (gne hr_o0 hg1 (by decide)))).trans m329
    have m354 := m330.put (by rw [nar_y ex351] at m352; exact m352) oi
    have m355 := (el_kept (oq _ (gne hr_o0 hg1 (by decide)))).trans m331
    have m356 := (el_kept (oq _ (gne hg10 hg1 (by decide)))).trans m332
    have m357 := (el_kept (oq _ (gne hg10 hg1 (by decide)))).trans m333
    have m358 := (el_kept (oq _ (gne hg10 hg1 (by decide)))).trans m334
    have m359 := (el_kept (oq _ (gne hg10 hg1 (by decide)))).trans m335
    have m360 := (el_kept (oq _ (gne hg10 hg1 (by decide)))).trans m336
    obtain ⟨Vb12, eVb12⟩ : ∃ Z : Nat → Int32, Z = cu Vb11 x340.toNatClampNeg x351 := ⟨_, rfl⟩
    rw [← eVb12] at m354
    refine lv_iinc (v := 13) (lv' := [(6, .int 13), (0, .ref o0), (1, .int p0), (2, .int p1), (3, .int p2), (4, .int p3), (5, .int p4)]) hx hb dX12_feed_100 hl (k := 0) rfl (by decide) (by decide) rfl (fun ls hl => ?_)
    refine lv_goto (tgt := 60) hx hb dX12_feed_103 (by decide) ?_
    refine lv_iload hx hb dX12_feed_60 (lv_at hl 0 rfl) ?_
    refine lv_bipush (v := 20) hx hb dX12_feed_62 (by decide) ?_
    refine lv_icmp_ge (tgt := 106) hx hb dX12_feed_64 (by decide) (fun c361 => absurd c361 (by decide)) (fun c361 => ?_)
    refine lv_aload_n hx hb dX12_feed_67 rfl (lv_at hl 1 rfl) ?_
    refine tw_getM (v := .ref (q 10)) hx hb hts bF_X12 hown hK hT hr_o0 shm_0 rfl 10 (by decide) (ht_at hts 3 rfl) (fun _ h9 => h9) (gx_el hT hr_o0 shm_0 (k := 10) (by decide) (fun v h => (h _ rfl).1)) dX12_feed_68 ?_
    refine lv_aload_n hx hb dX12_feed_71 rfl (lv_at hl 1 rfl) ?_
    refine tw_getM (v := .int tn) hx hb hts bF_X12 hown hK hT hr_o0 shm_0 rfl 11 (by decide) (ht_at hts 1 rfl) (fun _ h9 => h9) m353 dX12_feed_72 ?_
    refine lv_iload hx hb dX12_feed_75 (lv_at hl 0 rfl) ?_
    refine lv_iadd hx hb dX12_feed_77 ?_
    refine lv_topi (fun x364 ex364 => ?_)
    have t365 : x364.toInt = tn.toInt + 13 := ti_add ex364 rfl (by decide) (by omega) (by omega)
    refine lv_aload_n hx hb dX12_feed_78 rfl (lv_at hl 1 rfl) ?_
    refine tw_getM (v := .ref (q 17)) hx hb hts bF_X12 hown hK hT hr_o0 shm_0 rfl 17 (by decide) (ht_at hts 2 rfl) (fun _ h9 => h9) (gx_el hT hr_o0 shm_0 (k := 17) (by decide) (fun v h => (h _ rfl).1)) dX12_feed_79 ?_
    refine lv_iload hx hb dX12_feed_82 (lv_at hl 0 rfl) ?_
    refine lv_iconst (v := 4) hx hb dX12_feed_84 (by decide) ?_
    refine lv_idiv hx hb dX12_feed_85 (by decide) ?_
    refine lv_tope (v := 3) (by decide) ?_
    refine tw_ialdM (v := .int p3) (i := 3) hx hb hK hT hg10 shm_18 rfl (by unfold vp_in; decide) m359 dX12_feed_86 ?_
    refine lv_bipush (v := 24) hx hb dX12_feed_87 (by decide) ?_
    refine lv_bipush (v := 8) hx hb dX12_feed_89 (by decide) ?_
    refine lv_iload hx hb dX12_feed_91 (lv_at hl 0 rfl) ?_
    refine lv_iconst (v := 4) hx hb dX12_feed_93 (by decide) ?_
    refine lv_irem hx hb dX12_feed_94 (by decide) ?_
    refine lv_tope (v := 1) (by decide) ?_
    refine lv_imul hx hb dX12_feed_95 ?_
    refine lv_tope (v := 8) (by decide) ?_
    refine lv_isub hx hb dX12_feed_96 ?_
    refine lv_tope (v := 16) (by decide) ?_
    refine lv_ishr hx hb dX12_feed_97 ?_
    refine lv_topi (fun x374 ex374 => ?_)
    refine lv_i2b (v := x374.toInt8.toInt32) hx hb dX12_feed_98 rfl ?_
    refine lv_topi (fun x375 ex375 => ?_)
    have i13_ : x364.toNatClampNeg = tn.toNatClampNeg + 12 + 1 := tn_pl (k := 13) t365 hq0.1
    have j13_ : x375 = sb p3 16 := (by rw [ex375, ex374]; rfl)
    refine tw_bast (i := x364) (x := x375) hx hb hK hT hG hS hg1 shm_11 rfl (vin_t (a := x364.toInt) rfl (by omega) (by omega)) (gi_b _ (by decide) (by decide)) dX12_feed_99 (fun H locs hT oq m376 oi hS => ?_)
    have hF := hF.ast hg1 skm_11 oq (by decide)
    have m377 := (el_kept (oq _ (gne hr_o0 hg1 (by decide)))).trans m353
    have m378 := m354.put (by rw [nar_y ex375] at m376; exact m376) oi
    have m379 := (el_kept (oq _ (gne hr_o0 hg1 (by decide)))).trans m355
    have m380 := (el_kept (oq _ (gne hg10 hg1 (by decide)))).trans m356
    have m381 := (el_kept (oq _ (gne hg10 hg1 (by decide)))).trans m357
    have m382 := (el_kept (oq _ (gne hg10 hg1 (by decide)))).trans m358
    have m383 := (el_kept (oq _ (gne hg10 hg1 (by decide)))).trans m359
    have m384 := (el_kept (oq _ (gne hg10 hg1 (by decide)))).trans m360
    obtain ⟨Vb13, eVb13⟩ : ∃ Z : Nat → Int32, Z = cu Vb12 x364.toNatClampNeg x375 := ⟨_, rfl⟩
    rw [← eVb13] at m378
    refine lv_iinc (v := 14) (lv' := [(6, .int 14), (0, .ref o0), (1, .int p0), (2, .int p1), (3, .int p2), (4, .int p3), (5, .int p4)]) hx hb dX12_feed_100 hl (k := 0) rfl (by decide) (by decide) rfl (fun ls hl => ?_)
    refine lv_goto (tgt := 60) hx hb dX12_feed_103 (by decide) ?_
    refine lv_iload hx hb dX12_feed_60 (lv_at hl 0 rfl) ?_
    refine lv_bipush (v := 20) hx hb dX12_feed_62 (by decide) ?_
    refine lv_icmp_ge (tgt := 106) hx hb dX12_feed_64 (by decide) (fun c385 => absurd c385 (by decide)) (fun c385 => ?_)
    refine lv_aload_n hx hb dX12_feed_67 rfl (lv_at hl 1 rfl) ?_
    refine tw_getM (v := .ref (q 10)) hx hb hts bF_X12 hown hK hT hr_o0 shm_0 rfl 10 (by decide) (ht_at hts 3 rfl) (fun _ h9 => h9) (gx_el hT hr_o0 shm_0 (k := 10) (by decide) (fun v h => (h _ rfl).1)) dX12_feed_68 ?_
    refine lv_aload_n hx hb dX12_feed_71 rfl (lv_at hl 1 rfl) ?_
    refine tw_getM (v := .int tn) hx hb hts bF_X12 hown hK hT hr_o0 shm_0 rfl 11 (by decide) (ht_at hts 1 rfl) (fun _ h9 => h9) m377 dX12_feed_72 ?_
    refine lv_iload hx hb dX12_feed_75 (lv_at hl 0 rfl) ?_
    refine lv_iadd hx hb dX12_feed_77 ?_
    refine lv_topi (fun x388 ex388 => ?_)
    have t389 : x388.toInt = tn.toInt + 14 := ti_add ex388 rfl (by decide) (by omega) (by omega)
    refine lv_aload_n hx hb dX12_feed_78 rfl (lv_at hl 1 rfl) ?_
    refine tw_getM (v := .ref (q 17)) hx hb hts bF_X12 hown hK hT hr_o0 shm_0 rfl 17 (by decide) (ht_at hts 2 rfl) (fun _ h9 => h9) (gx_el hT hr_o0 shm_0 (k := 17) (by decide) (fun v h => (h _ rfl).1)) dX12_feed_79 ?_
    refine lv_iload hx hb dX12_feed_82 (lv_at hl 0 rfl) ?_
    refine lv_iconst (v := 4) hx hb dX12_feed_84 (by decide) ?_
    refine lv_idiv hx hb dX12_feed_85 (by decide) ?_
    refine lv_tope (v := 3) (by decide) ?_
    refine tw_ialdM (v := .int p3) (i := 3) hx hb hK hT hg10 shm_18 rfl (by unfold vp_in; decide) m383 dX12_feed_86 ?_
    refine lv_bipush (v := 24) hx hb dX12_feed_87 (by decide) ?_
    refine lv_bipush (v := 8) hx hb dX12_feed_89 (by decide) ?_
    refine lv_iload hx hb dX12_feed_91 (lv_at hl 0 rfl) ?_
    refine lv_iconst (v := 4) hx hb dX12_feed_93 (by decide) ?_
    refine lv_irem hx hb dX12_feed_94 (by decide) ?_
    refine lv_tope (v := 2) (by decide) ?_
    refine lv_imul hx hb dX12_feed_95 ?_
    refine lv_tope (v := 16) (by decide) ?_
    refine lv_isub hx hb dX12_feed_96 ?_
    refine lv_tope (v := 8) (by decide) ?_
    refine lv_ishr hx hb dX12_feed_97 ?_
    refine lv_topi (fun x398 ex398 => ?_)
    refine lv_i2b (v := x398.toInt8.toInt32) hx hb dX12_feed_98 rfl ?_
    refine lv_topi (fun x399 ex399 => ?_)
    have i14_ : x388.toNatClampNeg = tn.toNatClampNeg + 12 + 2 := tn_pl (k := 14) t389 hq0.1
    have j14_ : x399 = sb p3 8 := (by rw [ex399, ex398]; rfl)
    refine tw_bast (i := x388) (x := x399) hx hb hK hT hG hS hg1 shm_11 rfl (vin_t (a := x388.toInt) rfl (by omega) (by omega)) (gi_b _ (by decide) (by decide)) dX12_feed_99 (fun H locs hT oq m400 oi hS => ?_)
    have hF := hF.ast hg1 skm_11 oq (by decide)
    have m401 := (el_kept (oq _ (gne hr_o0 hg1 (by decide)))).trans m377
    have m402 := m378.put (by rw [nar_y ex399] at m400; exact m400) oi
    have m403 := (el_kept (oq _ (gne hr_o0 hg1 (by decide)))).trans m379
    have m404 := (el_kept (oq _ (gne hg10 hg1 (by decide)))).trans m380
    have m405 := (el_kept (oq _ (gne hg10 hg1 (by decide)))).trans m381
    have m406 := (el_kept (oq _ (gne hg10 hg1 (by decide)))).trans m382
    have m407 := (el_kept (oq _ (gne hg10 hg1 (by decide)))).trans m383
    have m408 := (el_kept (oq _ (gne hg10 hg1 (by decide)))).trans m384
    obtain ⟨Vb14, eVb14⟩ : ∃ Z : Nat → Int32, Z = cu Vb13 x388.toNatClampNeg x399 := ⟨_, rfl⟩
    rw [← eVb14] at m402
    refine lv_iinc (v := 15) (lv' := [(6, .int 15), (0, .ref o0), (1, .int p0), (2, .int p1), (3, .int p2), (4, .int p3), (5, .int p4)]) hx hb dX12_feed_100 hl (k := 0) rfl (by decide) (by decide) rfl (fun ls hl => ?_)
    refine lv_goto (tgt := 60) hx hb dX12_feed_103 (by decide) ?_
    refine lv_iload hx hb dX12_feed_60 (lv_at hl 0 rfl) ?_
    refine lv_bipush (v := 20) hx hb dX12_feed_62 (by decide) ?_
    refine lv_icmp_ge (tgt := 106) hx hb dX12_feed_64 (by decide) (fun c409 => absurd c409 (by decide)) (fun c409 => ?_)
    refine lv_aload_n hx hb dX12_feed_67 rfl (lv_at hl 1 rfl) ?_
    refine tw_getM (v := .ref (q 10)) hx hb hts bF_X12 hown hK hT hr_o0 shm_0 rfl 10 (by decide) (ht_at hts 3 rfl) (fun _ h9 => h9) (gx_el hT hr_o0 shm_0 (k := 10) (by decide) (fun v h => (h _ rfl).1)) dX12_feed_68 ?_
    refine lv_aload_n hx hb dX12_feed_71 rfl (lv_at hl 1 rfl) ?_
    refine tw_getM (v := .int tn) hx hb hts bF_X12 hown hK hT hr_o0 shm_0 rfl 11 (by decide) (ht_at hts 1 rfl) (fun _ h9 => h9) m401 dX12_feed_72 ?_
    refine lv_iload hx hb dX12_feed_75 (lv_at hl 0 rfl) ?_
    refine lv_iadd hx hb dX12_feed_77 ?_
    refine lv_topi (fun x412 ex412 => ?_)
    have t413 : x412.toInt = tn.toInt + 15 := ti_add ex412 rfl (by decide) (by omega) (by omega)
    refine lv_aload_n hx hb dX12_feed_78 rfl (lv_at hl 1 rfl) ?_
    refine tw_getM (v := .ref (q 17)) hx hb hts bF_X12 hown hK hT hr_o0 shm_0 rfl 17 (by decide) (ht_at hts 2 rfl) (fun _ h9 => h9) (gx_el hT hr_o0 shm_0 (k := 17) (by decide) (fun v h => (h _ rfl).1)) dX12_feed_79 ?_
    refine lv_iload hx hb dX12_feed_82 (lv_at hl 0 rfl) ?_
    refine lv_iconst (v := 4) hx hb dX12_feed_84 (by decide) ?_
    refine lv_idiv hx hb dX12_feed_85 (by decide) ?_
    refine lv_tope (v := 3) (by decide) ?_
    refine tw_ialdM (v := .int p3) (i := 3) hx hb hK hT hg10 shm_18 rfl (by unfold vp_in; decide) m407 dX12_feed_86 ?_
    refine lv_bipush (v := 24) hx hb dX12_feed_87 (by decide) ?_
    refine lv_bipush (v := 8) hx hb dX12_feed_89 (by decide) ?_
    refine lv_iload hx hb dX12_feed_91 (lv_at hl 0 rfl) ?_
    refine lv_iconst (v := 4) hx hb dX12_feed_93 (by decide) ?_
    refine lv_irem hx hb dX12_feed_94 (by decide) ?_
    refine lv_tope (v := 3) (by decide) ?_
    refine lv_imul hx hb dX12_feed_95 ?_
    refine lv_tope (v := 24) (by decide) ?_
    refine lv_isub hx hb dX12_feed_96 ?_
    refine lv_tope (v := 0) (by decide) ?_
    refine lv_ishr hx hb dX12_feed_97 ?_
    refine lv_tope (v := p3) (shr_0 _) ?_
    refine lv_i2b (v := p3.toInt8.toInt32) hx hb dX12_feed_98 rfl ?_
    refine lv_topi (fun x423 ex423 => ?_)
    have i15_ : x412.toNatClampNeg = tn.toNatClampNeg + 12 + 3 := tn_pl (k := 15) t413 hq0.1
    have j15_ : x423 = sb p3 0 := (by rw [ex423]; unfold sb; rw [shr_0])
    refine tw_bast (i := x412) (x := x423) hx hb hK hT hG hS hg1 shm_11 rfl (vin_t (a := x412.toInt) rfl (by omega) (by omega)) (gi_b _ (by decide) (by decide)) dX12_feed_99 (fun H locs hT oq m424 oi hS => ?_)
    have hF := hF.ast hg1 skm_11 oq (by decide)
    have m425 := (el_kept (oq _ (gne hr_o0 hg1 (by decide)))).trans m401
    have m426 := m402.put (by rw [nar_y ex423] at m424; exact m424) oi
    have m427 := (el_kept (oq _ (gne hr_o0 hg1 (by decide)))).trans m403
    have m428 := (el_kept (oq _ (gne hg10 hg1 (by decide)))).trans m404
    have m429 := (el_kept (oq _ (gne hg10 hg1 (by decide)))).trans m405
    have m430 := (el_kept (oq _ (gne hg10 hg1 (by decide)))).trans m406
    have m431 := (el_kept (oq _ (gne hg10 hg1 (by decide)))).trans m407
    have m432 := (el_kept (oq _ (gne hg10 hg1 (by decide)))).trans m408
    obtain ⟨Vb15, eVb15⟩ : ∃ Z : Nat → Int32, Z = cu Vb14 x412.toNatClampNeg x423 := ⟨_, rfl⟩
    rw [← eVb15] at m426
    have f3_ : Vb15 = f4S Vb11 (tn.toNatClampNeg + 12) p3 := by rw [eVb15, eVb14, eVb13, eVb12, i12_, j12_, i13_, j13_, i14_, j14_, i15_, j15_]; rfl
    refine lv_iinc (v := 16) (lv' := [(6, .int 16), (0, .ref o0), (1, .int p0), (2, .int p1), (3, .int p2), (4, .int p3), (5, .int p4)]) hx hb dX12_feed_100 hl (k := 0) rfl (by decide) (by decide) rfl (fun ls hl => ?_)
    refine lv_goto (tgt := 60) hx hb dX12_feed_103 (by decide) ?_
    refine lv_iload hx hb dX12_feed_60 (lv_at hl 0 rfl) ?_
    refine lv_bipush (v := 20) hx hb dX12_feed_62 (by decide) ?_
    refine lv_icmp_ge (tgt := 106) hx hb dX12_feed_64 (by decide) (fun c433 => absurd c433 (by decide)) (fun c433 => ?_)
    refine lv_aload_n hx hb dX12_feed_67 rfl (lv_at hl 1 rfl) ?_
    refine tw_getM (v := .ref (q 10)) hx hb hts bF_X12 hown hK hT hr_o0 shm_0 rfl 10 (by decide) (ht_at hts 3 rfl) (fun _ h9 => h9) (gx_el hT hr_o0 shm_0 (k := 10) (by decide) (fun v h => (h _ rfl).1)) dX12_feed_68 ?_
    refine lv_aload_n hx hb dX12_feed_71 rfl (lv_at hl 1 rfl) ?_
    refine tw_getM (v := .int tn) hx hb hts bF_X12 hown hK hT hr_o0 shm_0 rfl 11 (by decide) (ht_at hts 1 rfl) (fun _ h9 => h9) m425 dX12_feed_72 ?_
    refine lv_iload hx hb dX12_feed_75 (lv_at hl 0 rfl) ?_
    refine lv_iadd hx hb dX12_feed_77 ?_
    refine lv_topi (fun x436 ex436 => ?_)
    have t437 : x436.toInt = tn.toInt + 16 := ti_add ex436 rfl (by decide) (by omega) (by omega)
    refine lv_aload_n hx hb dX12_feed_78 rfl (lv_at hl 1 rfl) ?_
    refine tw_getM (v := .ref (q 17)) hx hb hts bF_X12 hown hK hT hr_o0 shm_0 rfl 17 (by decide) (ht_at hts 2 rfl) (fun _ h9 => h9) (gx_el hT hr_o0 shm_0 (k := 17) (by decide) (fun v h => (h _ rfl).1)) dX12_feed_79 ?_
    refine lv_iload hx hb dX12_feed_82 (lv_at hl 0 rfl) ?_
    refine lv_iconst (v := 4) hx hb dX12_feed_84 (by decide) ?_
    refine lv_idiv hx hb dX12_feed_85 (by decide) ?_
    refine lv_tope (v := 4) (by decide) ?_
    refine tw_ialdM (v := .int p4) (i := 4) hx hb hK hT hg10 shm_18 rfl (by unfold vp_in; decide) m432 dX12_feed_86 ?_
    refine lv_bipush (v := 24) hx hb dX12_feed_87 (by decide) ?_
    refine lv_bipush (v := 8) hx hb dX12_feed_89 (by decide) ?_
    refine lv_iload hx hb dX12_feed_91 (lv_at hl 0 rfl) ?_
    refine lv_iconst (v := 4) hx hb dX12_feed_93 (by decide) ?_
    refine lv_irem hx hb dX12_feed_94 (by decide) ?_
    refine lv_tope (v := 0) (by decide) ?_
    refine lv_imul hx hb dX12_feed_95 ?_
    refine lv_tope (v := 0) (by decide) ?_
    refine lv_isub hx hb dX12_feed_96 ?_
    refine lv_tope (v := 24) (by decide) ?_
    refine lv_ishr hx hb dX12_feed_97 ?_
    refine lv_topi (fun x446 ex446 => ?_)
    refine lv_i2b (v := x446.toInt8.toInt32) hx hb dX12_feed_98 rfl ?_
    refine lv_topi (fun x447 ex447 => ?_)
    have i16_ : x436.toNatClampNeg = tn.toNatClampNeg + 16 := tn_pl (k := 16) t437 hq0.1
    have j16_ : x447 = sb p4 24 := (by rw [ex447, ex446]; rfl)
    refine tw_bast (i := x436) (x := x447) hx hb hK hT hG hS hg1 shm_11 rfl (vin_t (a := x436.toInt) rfl (by omega) (by omega)) (gi_b _ (by decide) (by decide)) dX12_feed_99 (fun H locs hT oq m448 oi hS => ?_)
    have hF := hF.ast hg1 skm_11 oq (by decide)
    have m449 := (el_kept (oq _ (gne hr_o0 hg1 (by decide)))).trans m425
    have m450 := m426.put (by rw [nar_y ex447] at m448; exact m448) oi
    have m451 := (el_kept (oq _ (gne hr_o0 hg1 (by decide)))).trans m427
    have m452 := (el_kept (oq _ (gne hg10 hg1 (by decide)))).trans m428
    have m453 := (el_kept (oq _ (gne hg10 hg1 (by decide)))).trans m429
    have m454 := (el_kept (oq _ (gne hg10 hg1 (by decide)))).trans m430
    have m455 := (el_kept (oq _ (gne hg10 hg1 (by decide)))).trans m431
    have m456 := (el_kept (oq _ (gne hg10 hg1 (by decide)))).trans m432
    obtain ⟨Vb16, eVb16⟩ : ∃ Z : Nat → Int32, Z = cu Vb15 x436.toNatClampNeg x447 := ⟨_, rfl⟩
    rw [← eVb16] at m450
    refine lv_iinc (v := 17) (lv' := [(6, .int 17), (0, .ref o0), (1, .int p0), (2, .int p1), (3, .int p2), (4, .int p3), (5, .int p4)]) hx hb dX12_feed_100 hl (k := 0) rfl (by decide) (by decide) rfl (fun ls hl => ?_)
    refine lv_goto (tgt := 60) hx hb dX12_feed_103 (by decide) ?_
    refine lv_iload hx hb dX12_feed_60 (lv_at hl 0 rfl) ?_
    refine lv_bipush (v := 20) hx hb dX12_feed_62 (by decide) ?_
    refine lv_icmp_ge (tgt := 106) hx hb dX12_feed_64 (by decide) (fun c457 => absurd c457 (by decide)) (fun c457 => ?_)
    refine lv_aload_n hx hb dX12_feed_67 rfl (lv_at hl 1 rfl) ?_
    refine tw_getM (v := .ref (q 10)) hx hb hts bF_X12 hown hK hT hr_o0 shm_0 rfl 10 (by decide) (ht_at hts 3 rfl) (fun _ h9 => h9) (gx_el hT hr_o0 shm_0 (k := 10) (by decide) (fun v h => (h _ rfl).1)) dX12_feed_68 ?_
    refine lv_aload_n hx hb dX12_feed_71 rfl (lv_at hl 1 rfl) ?_
    refine tw_getM (v := .int tn) hx hb hts bF_X12 hown hK hT hr_o0 shm_0 rfl 11 (by decide) (ht_at hts 1 rfl) (fun _ h9 => h9) m449 dX12_feed_72 ?_
    refine lv_iload hx hb dX12_feed_75 (lv_at hl 0 rfl) ?_
    refine lv_iadd hx hb dX12_feed_77 ?_
    refine lv_topi (fun x460 ex460 => ?_)
    have t461 : x460.toInt = tn.toInt + 17 := ti_add ex460 rfl (by decide) (by omega) (by omega)
    refine lv_aload_n hx hb dX12_feed_78 rfl (lv_at hl 1 rfl) ?_
    refine tw_getM (v := .ref (q 17)) hx hb hts bF_X12 hown hK hT hr_o0 shm_0 rfl 17 (by decide) (ht_at hts 2 rfl) (fun _ h9 => h9) (gx_el hT hr_o0 shm_0 (k := 17) (by decide) (fun v h => (h _ rfl).1)) dX12_feed_79 ?_
    refine lv_iload hx hb dX12_feed_82 (lv_at hl 0 rfl) ?_
    refine lv_iconst (v := 4) hx hb dX12_feed_84 (by decide) ?_
    refine lv_idiv hx hb dX12_feed_85 (by decide) ?_
    refine lv_tope (v := 4) (by decide) ?_
    refine tw_ialdM (v := .int p4) (i := 4) hx hb hK hT hg10 shm_18 rfl (by unfold vp_in; decide) m456 dX12_feed_86 ?_
    refine lv_bipush (v := 24) hx hb dX12_feed_87 (by decide) ?_
    refine lv_bipush (v := 8) hx hb dX12_feed_89 (by decide) ?_
    refine lv_iload hx hb dX12_feed_91 (lv_at hl 0 rfl) ?_
    refine lv_iconst (v := 4) hx hb dX12_feed_93 (by decide) ?_
    refine lv_irem hx hb dX12_feed_94 (by decide) ?_
    refine lv_tope (v := 1) (by decide) ?_
    refine lv_imul hx hb dX12_feed_95 ?_
    refine lv_tope (v := 8) (by decide) ?_
    refine lv_isub hx hb dX12_feed_96 ?_
    refine lv_tope (v := 16) (by decide) ?_
    refine lv_ishr hx hb dX12_feed_97 ?_
    refine lv_topi (fun x470 ex470 => ?_)
    refine lv_i2b (v := x470.toInt8.toInt32) hx hb dX12_feed_98 rfl ?_
    refine lv_topi (fun x471 ex471 => ?_)
    have i17_ : x460.toNatClampNeg = tn.toNatClampNeg + 16 + 1 := tn_pl (k := 17) t461 hq0.1
    have j17_ : x471 = sb p4 16 := (by rw [ex471, ex470]; rfl)
    refine tw_bast (i := x460) (x := x471) hx hb hK hT hG hS hg1 shm_11 rfl (vin_t (a := x460.toInt) rfl (by omega) (by omega)) (gi_b _ (by decide) (by decide)) dX12_feed_99 (fun H locs hT oq m472 oi hS => ?_)
    have hF := hF.ast hg1 skm_11 oq (by decide)
    have m473 := (el_kept (oq _ (gne hr_o0 hg1 (by decide)))).trans m449
    have m474 := m450.put (by rw [nar_y ex471] at m472; exact m472) oi
    have m475 := (el_kept (oq _ (gne hr_o0 hg1 (by decide)))).trans m451
    have m476 := (el_kept (oq _ (gne hg10 hg1 (by decide)))).trans m452
    have m477 := (el_kept (oq _ (gne hg10 hg1 (by decide)))).trans m453
    have m478 := (el_kept (oq _ (gne hg10 hg1 (by decide)))).trans m454
    have m479 := (el_kept (oq _ (gne hg10 hg1 (by decide)))).trans m455
    have m480 := (el_kept (oq _ (gne hg10 hg1 (by decide)))).trans m456
    obtain ⟨Vb17, eVb17⟩ : ∃ Z : Nat → Int32, Z = cu Vb16 x460.toNatClampNeg x471 := ⟨_, rfl⟩
    rw [← eVb17] at m474
    refine lv_iinc (v := 18) (lv' := [(6, .int 18), (0, .ref o0), (1, .int p0), (2, .int p1), (3, .int p2), (4, .int p3), (5, .int p4)]) hx hb dX12_feed_100 hl (k := 0) rfl (by decide) (by decide) rfl (fun ls hl => ?_)
    refine lv_goto (tgt := 60) hx hb dX12_feed_103 (by decide) ?_
    refine lv_iload hx hb dX12_feed_60 (lv_at hl 0 rfl) ?_
    refine lv_bipush (v := 20) hx hb dX12_feed_62 (by decide) ?_
    refine lv_icmp_ge (tgt := 106) hx hb dX12_feed_64 (by decide) (fun c481 => absurd c481 (by decide)) (fun c481 => ?_)
    refine lv_aload_n hx hb dX12_feed_67 rfl (lv_at hl 1 rfl) ?_
    refine tw_getM (v := .ref (q 10)) hx hb hts bF_X12 hown hK hT hr_o0 shm_0 rfl 10 (by decide) (ht_at hts 3 rfl) (fun _ h9 => h9) (gx_el hT hr_o0 shm_0 (k := 10) (by decide) (fun v h => (h _ rfl).1)) dX12_feed_68 ?_
    refine lv_aload_n hx hb dX12_feed_71 rfl (lv_at hl 1 rfl) ?_
    refine tw_getM (v := .int tn) hx hb hts bF_X12 hown hK hT hr_o0 shm_0 rfl 11 (by decide) (ht_at hts 1 rfl) (fun _ h9 => h9) m473 dX12_feed_72 ?_
    refine lv_iload hx hb dX12_feed_75 (lv_at hl 0 rfl) ?_
    refine lv_iadd hx hb dX12_feed_77 ?_
    refine lv_topi (fun x484 ex484 => ?_)
    have t485 : x484.toInt = tn.toInt + 18 := ti_add ex484 rfl (by decide) (by omega) (by omega)
    refine lv_aload_n hx hb dX12_feed_78 rfl (lv_at hl 1 rfl) ?_
    refine tw_getM (v := .ref (q 17)) hx hb hts bF_X12 hown hK hT hr_o0 shm_0 rfl 17 (by decide) (ht_at hts 2 rfl) (fun _ h9 => h9) (gx_el hT hr_o0 shm_0 (k := 17) (by decide) (fun v h => (h _ rfl).1)) dX12_feed_79 ?_
    refine lv_iload hx hb dX12_feed_82 (lv_at hl 0 rfl) ?_
    refine lv_iconst (v := 4) hx hb dX12_feed_84 (by decide) ?_
    refine lv_idiv hx hb dX12_feed_85 (by decide) ?_
    refine lv_tope (v := 4) (by decide) ?_
    refine tw_ialdM (v := .int p4) (i := 4) hx hb hK hT hg10 shm_18 rfl (by unfold vp_in; decide) m480 dX12_feed_86 ?_
    refine lv_bipush (v := 24) hx hb dX12_feed_87 (by decide) ?_
    refine lv_bipush (v := 8) hx hb dX12_feed_89 (by decide) ?_
    refine lv_iload hx hb dX12_feed_91 (lv_at hl 0 rfl) ?_
    refine lv_iconst (v := 4) hx hb dX12_feed_93 (by decide) ?_
    refine lv_irem hx hb dX12_feed_94 (by decide) ?_
    refine lv_tope (v := 2) (by decide) ?_
    refine lv_imul hx hb dX12_feed_95 ?_
    refine lv_tope (v := 16) (by decide) ?_
    refine lv_isub hx hb dX12_feed_96 ?_
    refine lv_tope (v := 8) (by decide) ?_
    refine lv_ishr hx hb dX12_feed_97 ?_
    refine lv_topi (fun x494 ex494 => ?_)
    refine lv_i2b (v := x494.toInt8.toInt32) hx hb dX12_feed_98 rfl ?_
    refine lv_topi (fun x495 ex495 => ?_)
    have i18_ : x484.toNatClampNeg = tn.toNatClampNeg + 16 + 2 := tn_pl (k := 18) t485 hq0.1
    have j18_ : x495 = sb p4 8 := (by rw [ex495, ex494]; rfl)
    refine tw_bast (i := x484) (x := x495) hx hb hK hT hG hS hg1 shm_11 rfl (vin_t (a := x484.toInt) rfl (by omega) (by omega)) (gi_b _ (by decide) (by decide)) dX12_feed_99 (fun H locs hT oq m496 oi hS => ?_)
    have hF := hF.ast hg1 skm_11 oq (by decide)
    have m497 := (el_kept (oq _ (gne hr_o0 hg1 (by decide)))).trans m473
    have m498 := m474.put (by rw [nar_y ex495] at m496; exact m496) oi
    have m499 := (el_kept (oq _ (gne hr_o0 hg1 (by decide)))).trans m475
    have m500 := (el_kept (oq _ (gne hg10 hg1 (by decide)))).trans m476
    have m501 := (el_kept (oq _ (gne hg10 hg1 (by decide)))).trans m477
    have m502 := (el_kept (oq _ (gne hg10 hg1 (by decide)))).trans m478
    have m503 := (el_kept (oq _ (gne hg10 hg1 (by decide)))).trans m479
    have m504 := (el_kept (oq _ (gne hg10 hg1 (by decide)))).trans m480
    obtain ⟨Vb18, eVb18⟩ : ∃ Z : Nat → Int32, Z = cu Vb17 x484.toNatClampNeg x495 := ⟨_, rfl⟩
    rw [← eVb18] at m498
    refine lv_iinc (v := 19) (lv' := [(6, .int 19), (0, .ref o0), (1, .int p0), (2, .int p1), (3, .int p2), (4, .int p3), (5, .int p4)]) hx hb dX12_feed_100 hl (k := 0) rfl (by decide) (by decide) rfl (fun ls hl => ?_)
    refine lv_goto (tgt := 60) hx hb dX12_feed_103 (by decide) ?_
    refine lv_iload hx hb dX12_feed_60 (lv_at hl 0 rfl) ?_
    refine lv_bipush (v := 20) hx hb dX12_feed_62 (by decide) ?_
    refine lv_icmp_ge (tgt := 106) hx hb dX12_feed_64 (by decide) (fun c505 => absurd c505 (by decide)) (fun c505 => ?_)
    refine lv_aload_n hx hb dX12_feed_67 rfl (lv_at hl 1 rfl) ?_
    refine tw_getM (v := .ref (q 10)) hx hb hts bF_X12 hown hK hT hr_o0 shm_0 rfl 10 (by decide) (ht_at hts 3 rfl) (fun _ h9 => h9) (gx_el hT hr_o0 shm_0 (k := 10) (by decide) (fun v h => (h _ rfl).1)) dX12_feed_68 ?_
    refine lv_aload_n hx hb dX12_feed_71 rfl (lv_at hl 1 rfl) ?_
    refine tw_getM (v := .int tn) hx hb hts bF_X12 hown hK hT hr_o0 shm_0 rfl 11 (by decide) (ht_at hts 1 rfl) (fun _ h9 => h9) m497 dX12_feed_72 ?_
    refine lv_iload hx hb dX12_feed_75 (lv_at hl 0 rfl) ?_
    refine lv_iadd hx hb dX12_feed_77 ?_
    refine lv_topi (fun x508 ex508 => ?_)
    have t509 : x508.toInt = tn.toInt + 19 := ti_add ex508 rfl (by decide) (by omega) (by omega)
    refine lv_aload_n hx hb dX12_feed_78 rfl (lv_at hl 1 rfl) ?_
    refine tw_getM (v := .ref (q 17)) hx hb hts bF_X12 hown hK hT hr_o0 shm_0 rfl 17 (by decide) (ht_at hts 2 rfl) (fun _ h9 => h9) (gx_el hT hr_o0 shm_0 (k := 17) (by decide) (fun v h => (h _ rfl).1)) dX12_feed_79 ?_
    refine lv_iload hx hb dX12_feed_82 (lv_at hl 0 rfl) ?_
    refine lv_iconst (v := 4) hx hb dX12_feed_84 (by decide) ?_
    refine lv_idiv hx hb dX12_feed_85 (by decide) ?_
    refine lv_tope (v := 4) (by decide) ?_
    refine tw_ialdM (v := .int p4) (i := 4) hx hb hK hT hg10 shm_18 rfl (by unfold vp_in; decide) m504 dX12_feed_86 ?_
    refine lv_bipush (v := 24) hx hb dX12_feed_87 (by decide) ?_
    refine lv_bipush (v := 8) hx hb dX12_feed_89 (by decide) ?_
    refine lv_iload hx hb dX12_feed_91 (lv_at hl 0 rfl) ?_
    refine lv_iconst (v := 4) hx hb dX12_feed_93 (by decide) ?_
    refine lv_irem hx hb dX12_feed_94 (by decide) ?_
    refine lv_tope (v := 3) (by decide) ?_
    refine lv_imul hx hb dX12_feed_95 ?_
    refine lv_tope (v := 24) (by decide) ?_
    refine lv_isub hx hb dX12_feed_96 ?_
    refine lv_tope (v := 0) (by decide) ?_
    refine lv_ishr hx hb dX12_feed_97 ?_
    refine lv_tope (v := p4) (shr_0 _) ?_
    refine lv_i2b (v := p4.toInt8.toInt32) hx hb dX12_feed_98 rfl ?_
    refine lv_topi (fun x519 ex519 => ?_)
    have i19_ : x508.toNatClampNeg = tn.toNatClampNeg + 16 + 3 := tn_pl (k := 19) t509 hq0.1
    have j19_ : x519 = sb p4 0 := (by rw [ex519]; unfold sb; rw [shr_0])
    refine tw_bast (i := x508) (x := x519) hx hb hK hT hG hS hg1 shm_11 rfl (vin_t (a := x508.toInt) rfl (by omega) (by omega)) (gi_b _ (by decide) (by decide)) dX12_feed_99 (fun H locs hT oq m520 oi hS => ?_)
    have hF := hF.ast hg1 skm_11 oq (by decide)
    have m521 := (el_kept (oq _ (gne hr_o0 hg1 (by decide)))).trans m497
    have m522 := m498.put (by rw [nar_y ex519] at m520; exact m520) oi
    have m523 := (el_kept (oq _ (gne hr_o0 hg1 (by decide)))).trans m499
    have m524 := (el_kept (oq _ (gne hg10 hg1 (by decide)))).trans m500
    have m525 := (el_kept (oq _ (gne hg10 hg1 (by decide)))).trans m501
    have m526 := (el_kept (oq _ (gne hg10 hg1 (by decide)))).trans m502
    have m527 := (el_kept (oq _ (gne hg10 hg1 (by decide)))).trans m503
    have m528 := (el_kept (oq _ (gne hg10 hg1 (by decide)))).trans m504
    obtain ⟨Vb19, eVb19⟩ : ∃ Z : Nat → Int32, Z = cu Vb18 x508.toNatClampNeg x519 := ⟨_, rfl⟩
    rw [← eVb19] at m522
    have f4_ : Vb19 = f4S Vb15 (tn.toNatClampNeg + 16) p4 := by rw [eVb19, eVb18, eVb17, eVb16, i16_, j16_, i17_, j17_, i18_, j18_, i19_, j19_]; rfl
    refine lv_iinc (v := 20) (lv' := [(6, .int 20), (0, .ref o0), (1, .int p0), (2, .int p1), (3, .int p2), (4, .int p3), (5, .int p4)]) hx hb dX12_feed_100 hl (k := 0) rfl (by decide) (by decide) rfl (fun ls hl => ?_)
    refine lv_goto (tgt := 60) hx hb dX12_feed_103 (by decide) ?_
    refine lv_iload hx hb dX12_feed_60 (lv_at hl 0 rfl) ?_
    refine lv_bipush (v := 20) hx hb dX12_feed_62 (by decide) ?_
    refine lv_icmp_ge (tgt := 106) hx hb dX12_feed_64 (by decide) (fun c529 => ?_) (fun c529 => absurd c529 (by decide))
    refine lv_aload_n hx hb dX12_feed_106 rfl (lv_at hl 1 rfl) ?_
    refine lv_dup hx hb dX12_feed_107 rfl ?_
    refine tw_getM (v := .int tn) hx hb hts bF_X12 hown hK hT hr_o0 shm_0 rfl 11 (by decide) (ht_at hts 1 rfl) (fun _ h9 => h9) m521 dX12_feed_108 ?_
    refine lv_bipush (v := 20) hx hb dX12_feed_111 (by decide) ?_
    refine lv_iadd hx hb dX12_feed_113 ?_
    refine lv_topi (fun x530 ex530 => ?_)
    have t531 : x530.toInt = tn.toInt + 20 := ti_add ex530 rfl (by decide) (by omega) (by omega)
    refine tw_put (v := .int x530) (ty := .int) hx hb hts bF_X12 tyX12 tyX12_ok nmX12 hown hK hT hG hS hr_o0 shm_0 rfl 11 (by decide) (ht_at hts 1 rfl) (fun _ h9 => h9) rfl (by decide +kernel) rfl rfl (gl_at rfl (gi_of (show x530.toInt = x530.toInt from rfl) (by omega) (by omega))) dX12_feed_114 (fun H locs hT oq m532 oj hS => ?_)
    have hF := hF.put hr_o0 skm_0 oq oj (by decide)
    have m533 := m522.kept (oq _ (gne hg1 hr_o0 (by decide)))
    have m534 := (oj 0 (by decide) (by decide)).trans m523
    have m535 := (el_kept (oq _ (gne hg10 hr_o0 (by decide)))).trans m524
    have m536 := (el_kept (oq _ (gne hg10 hr_o0 (by decide)))).trans m525
    have m537 := (el_kept (oq _ (gne hg10 hr_o0 (by decide)))).trans m526
    have m538 := (el_kept (oq _ (gne hg10 hr_o0 (by decide)))).trans m527
    have m539 := (el_kept (oq _ (gne hg10 hr_o0 (by decide)))).trans m528
    refine lv_aload_n hx hb dX12_feed_117 rfl (lv_at hl 1 rfl) ?_
    refine tw_getM (v := .int x530) hx hb hts bF_X12 hown hK hT hr_o0 shm_0 rfl 11 (by decide) (ht_at hts 1 rfl) (fun _ h9 => h9) m532 dX12_feed_118 ?_
    exact W.iret (v := x530) hx hb hr (fun t ht hW => ⟨⟨x530, (x530, Vb19), rfl, (by exact ⟨(by have q8 := ti_all x530; omega), (Or.inl ⟨by omega, by omega, by omega, (by (try dsimp only); rw [f4_, f3_, f2_, f1_, f0_]; rfl)⟩)⟩), by (try dsimp only); rw [ht]; exact ⟨hT, hF, m532, m533⟩⟩, hS.F ht⟩) hS.2.2 dX12_feed_121
  · have t540 : 400 < x5.toInt := ti_nle c7 rfl (by decide)
    refine lv_iconst (v := (-1)) hx hb dX12_feed_18 (by decide) ?_
    exact W.iret (v := (-1)) hx hb hr (fun t ht hW => ⟨⟨(-1), (tn, vt), rfl, (by exact ⟨(rg_t (a := (-1)) (by decide) (by omega) (by omega)), (Or.inr ⟨by omega, by have q0 : (0 : Int32).toInt = 0 := (by decide); have q1 : (1 : Int32).toInt = 1 := (by decide); have qm : (-1 : Int32).toInt = -1 := (by decide); omega, by omega, rfl⟩)⟩), by (try dsimp only); rw [ht]; exact ⟨hT, hF, m3, m4⟩⟩, hS.F ht⟩) hS.2.2 dX12_feed_19
def w_s_endC : List Cond := .code yX12_end cX12_end 2 (some .boolean) :: (HAppend.hAppend (α := List Cond) (β := List Cond) (γ := List Cond) [.fieldLink RX12 194 "SeaLandModel" "thrown" "I", .fieldLink RX12 332 "SeaLandModel" "taped" "I"] bs)
set_option maxHeartbeats 4000000 in
set_option maxRecDepth 100000 in
theorem s_endC (l : Launch) (dC : Nat → ClassId) (dI : Nat → Nat → Nat) (kA : Nat → ClassId) (adK adV : Nat → Nat) (G : gT) (H0 : Heap) (q : Nat → Nat) (wZ wN : Nat → Int) (wH wB wC : Int) (wL wK : Nat → Prop) (wU wV : Nat → Nat) (PI : Nat → Int → Prop) (im : Int) (PM PT : Nat → Int → Prop) (lS lB lE : Nat → Nat → Int → Prop) (lN : Nat → Int) (o0 : Nat) (p0 : Int32) (tn : Int32)  (hT : gH (dC, dI) kA (SHm q (wP wZ wN wH wB wC wL wK wU wV) PI im PM PT lS lB lE lN) G H0) (hr_o0 : G o0 = some 0) (hm_tn : el H0 o0 (dI 15 11) = some (.int tn)) (hq0 : 0 ≤ tn.toInt ∧ tn.toInt ≤ 400) (hgz : ∀ i, 0 ≤ wZ i) (hgn : ∀ i, 6500000 ≤ wN i ∧ wN i ≤ 20200000) (hgh : 0 ≤ wH ∧ wH ≤ 40000) (hgb : 0 ≤ wB ∧ wB ≤ 3850000) (hgc : 0 ≤ wC ∧ wC ≤ 30) (hgi : 0 ≤ im ∧ im ≤ 1) (hgu : ∀ a t, G a = some (t + 1) → a = q t) : Met l yX12_end w_s_endC ({ frames := 0, cells := 0, slots := 0, locals := 0 }) (va_Pc [.ref o0, .int p0] (fun U => U.heap = H0 ∧ va_K (dC, dI) vwCl (tyl kA) U ∧ EVS adK adV (gA G H0.size) U U.heap)) (va_Qi (fun (r : Int32) (u : Int32) => (0 ≤ r.toInt ∧ r.toInt ≤ 1) ∧ ((0 ≤ p0.toInt ∧ p0.toInt ≤ tn.toInt ∧ r.toInt = 1 ∧ u.toInt = p0.toInt) ∨ (¬ (0 ≤ p0.toInt ∧ p0.toInt ≤ tn.toInt) ∧ r.toInt = 0 ∧ u.toInt = tn.toInt))) (fun (t1 : Int32) (t : State) => gH (dC, dI) kA (SHm q (wP wZ wN wH wB wC wL wK wU wV) PI im PM PT lS lB lE lN) G t.heap ∧ gF (dC, dI) SKm G ([(0, 0), (0, 11)] : List (Nat × Nat)) H0 t.heap ∧ el t.heap o0 (dI 15 11) = some (.int t1)) (gA G H0.size)) 0 0 (gA G H0.size) := by
  refine Met.ofW (cc := cX12_end) (maxL := 2) (ret := (some .boolean)) (by decide) rfl ?_
  intro p e s m args below meth c s₁ B hml hv
  obtain ⟨rfl, hH0, hK, hE⟩ := hv
  have hx := B.exec
  have hb := B.bytes
  have hr := B.returns
  have hts := atoms_spec (ws := w_s_endC) B.pre
  have hown : s.vm.findClass RX12 = some m.cls := findClass_of_methodNamed B.named
  have hlocks := B.notSynchronized
  subst hH0
  generalize hAe : gA G s.heap.size = A at hE ⊢
  have hA : ∀ q : Nat, s.heap.size ≤ q → A q := fun q h => by rw [← hAe]; exact Or.inr h
  have hG := gA_of hAe
  have hS : va_S A s.heap s.heap [] := va_S.rf
  have hF : gF (dC, dI) SKm G ([(0, 0), (0, 11)] : List (Nat × Nat)) s.heap s.heap := gF.rf
  have hl := lv_entry ([.ref o0, .int p0]) (n := 2) (Nat.le_of_ble_eq_true rfl)
  rw [lg_entry_eq]
  generalize (lg_sl ([.ref o0, .int p0]) ++ List.replicate (2 - (lg_sl ([.ref o0, .int p0])).length) Slot.unset).toArray = ls at hl ⊢
  have hl : lv_has ls 2 [(0, .ref o0), (1, .int p0)] := hl
  refine lv_aload_n hx hb dX12_end_0 rfl (lv_at hl 0 rfl) ?_
  refine lv_iconst (v := 0) hx hb dX12_end_1 (by decide) ?_
  refine tw_put (v := .int 0) (ty := .int) hx hb hts bF_X12 tyX12 tyX12_ok nmX12 hown hK hT hG hS hr_o0 shm_0 rfl 0 (by decide) (ht_at hts 0 rfl) (fun _ h9 => h9) rfl (by decide +kernel) rfl rfl (gl_at rfl (gi_all _)) dX12_end_2 (fun H locs hT oq m1 oj hS => ?_)
  have hF := hF.put hr_o0 skm_0 oq oj (by decide)
  have m2 := (oj 11 (by decide) (by decide)).trans hm_tn
  refine lv_iload_n hx hb dX12_end_5 rfl (lv_at hl 1 rfl) ?_
  refine lv_if_lt (tgt := 17) hx hb dX12_end_6 (by decide) (fun c3 => ?_) (fun c3 => ?_)
  · have t4 : p0.toInt < 0 := ti_lt c3 rfl (by decide)
    refine lv_iconst (v := 0) hx hb dX12_end_17 (by decide) ?_
    exact W.zret (v := 0) hx hb hr (by decide) (fun t ht hW => ⟨⟨0, tn, rfl, (by exact ⟨(rg_t (a := 0) (by decide) (by omega) (by omega)), (by have : (0 : Int32).toInt = 0 := (by decide); omega)⟩), by (try dsimp only); rw [ht]; exact ⟨hT, hF, m2⟩⟩, hS.F ht⟩) hS.2.2 dX12_end_18
  · have t5 : 0 ≤ p0.toInt := ti_nlt c3 rfl (by decide)
    refine lv_iload_n hx hb dX12_end_9 rfl (lv_at hl 1 rfl) ?_
    refine lv_aload_n hx hb dX12_end_10 rfl (lv_at hl 0 rfl) ?_
    refine tw_getM (v := .int tn) hx hb hts bF_X12 hown hK hT hr_o0 shm_0 rfl 11 (by decide) (ht_at hts 1 rfl) (fun _ h9 => h9) m2 dX12_end_11 ?_
    refine lv_icmp_le (tgt := 19) hx hb dX12_end_14 (by decide) (fun c6 => ?_) (fun c6 => ?_)
    · have t7 : p0.toInt ≤ tn.toInt := ti_le c6 rfl rfl
      refine lv_aload_n hx hb dX12_end_19 rfl (lv_at hl 0 rfl) ?_
      refine lv_iload_n hx hb dX12_end_20 rfl (lv_at hl 1 rfl) ?_
      refine tw_put (v := .int p0) (ty := .int) hx hb hts bF_X12 tyX12 tyX12_ok nmX12 hown hK hT hG hS hr_o0 shm_0 rfl 11 (by decide) (ht_at hts 1 rfl) (fun _ h9 => h9) rfl (by decide +kernel) rfl rfl (gl_at rfl (gi_of (show p0.toInt = p0.toInt from rfl) (by omega) (by omega))) dX12_end_21 (fun H locs hT oq m8 oj hS => ?_)
      have hF := hF.put hr_o0 skm_0 oq oj (by decide)
      have m9 := (oj 0 (by decide) (by decide)).trans m1
      refine lv_iconst (v := 1) hx hb dX12_end_24 (by decide) ?_
      exact W.zret (v := 1) hx hb hr (by decide) (fun t ht hW => ⟨⟨1, p0, rfl, (by exact ⟨(rg_t (a := 1) (by decide) (by omega) (by omega)), (by have : (1 : Int32).toInt = 1 := (by decide); omega)⟩), by (try dsimp only); rw [ht]; exact ⟨hT, hF, m8⟩⟩, hS.F ht⟩) hS.2.2 dX12_end_25
    · have t10 : tn.toInt < p0.toInt := ti_nle c6 rfl rfl
      refine lv_iconst (v := 0) hx hb dX12_end_17 (by decide) ?_
      exact W.zret (v := 0) hx hb hr (by decide) (fun t ht hW => ⟨⟨0, tn, rfl, (by exact ⟨(rg_t (a := 0) (by decide) (by omega) (by omega)), (by have : (0 : Int32).toInt = 0 := (by decide); omega)⟩), by (try dsimp only); rw [ht]; exact ⟨hT, hF, m2⟩⟩, hS.F ht⟩) hS.2.2 dX12_end_18
def w_s_faultC : List Cond := .code yX12_fault cX12_fault 1 (some .int) :: (HAppend.hAppend (α := List Cond) (β := List Cond) (γ := List Cond) [.fieldLink RX12 194 "SeaLandModel" "thrown" "I", .fieldLink RX12 35 "SeaLandModel" "faultAt" "I"] bs)
set_option maxHeartbeats 4000000 in
set_option maxRecDepth 100000 in
theorem s_faultC (l : Launch) (dC : Nat → ClassId) (dI : Nat → Nat → Nat) (kA : Nat → ClassId) (adK adV : Nat → Nat) (G : gT) (H0 : Heap) (q : Nat → Nat) (wZ wN : Nat → Int) (wH wB wC : Int) (wL wK : Nat → Prop) (wU wV : Nat → Nat) (PI : Nat → Int → Prop) (im : Int) (PM PT : Nat → Int → Prop) (lS lB lE : Nat → Nat → Int → Prop) (lN : Nat → Int) (o0 : Nat) (fa : Int32)  (hT : gH (dC, dI) kA (SHm q (wP wZ wN wH wB wC wL wK wU wV) PI im PM PT lS lB lE lN) G H0) (hr_o0 : G o0 = some 0) (hm_fa : el H0 o0 (dI 15 16) = some (.int fa)) (hgz : ∀ i, 0 ≤ wZ i) (hgn : ∀ i, 6500000 ≤ wN i ∧ wN i ≤ 20200000) (hgh : 0 ≤ wH ∧ wH ≤ 40000) (hgb : 0 ≤ wB ∧ wB ≤ 3850000) (hgc : 0 ≤ wC ∧ wC ≤ 30) (hgi : 0 ≤ im ∧ im ≤ 1) (hgu : ∀ a t, G a = some (t + 1) → a = q t) : Met l yX12_fault w_s_faultC ({ frames := 0, cells := 0, slots := 0, locals := 0 }) (va_Pc [.ref o0] (fun U => U.heap = H0 ∧ va_K (dC, dI) vwCl (tyl kA) U ∧ EVS adK adV (gA G H0.size) U U.heap)) (va_Qi (fun (r : Int32) (u : Unit) => (r = fa)) (fun (_ : Unit) (t : State) => gH (dC, dI) kA (SHm q (wP wZ wN wH wB wC wL wK wU wV) PI im PM PT lS lB lE lN) G t.heap ∧ gF (dC, dI) SKm G ([(0, 0)] : List (Nat × Nat)) H0 t.heap) (gA G H0.size)) 0 0 (gA G H0.size) := by
  refine Met.ofW (cc := cX12_fault) (maxL := 1) (ret := (some .int)) (by decide) rfl ?_
  intro p e s m args below meth c s₁ B hml hv
  obtain ⟨rfl, hH0, hK, hE⟩ := hv
  have hx := B.exec
  have hb := B.bytes
  have hr := B.returns
  have hts := atoms_spec (ws := w_s_faultC) B.pre
  have hown : s.vm.findClass RX12 = some m.cls := findClass_of_methodNamed B.named
  have hlocks := B.notSynchronized
  subst hH0
  generalize hAe : gA G s.heap.size = A at hE ⊢
  have hA : ∀ q : Nat, s.heap.size ≤ q → A q := fun q h => by rw [← hAe]; exact Or.inr h
  have hG := gA_of hAe
  have hS : va_S A s.heap s.heap [] := va_S.rf
  have hF : gF (dC, dI) SKm G ([(0, 0)] : List (Nat × Nat)) s.heap s.heap := gF.rf
  have hl := lv_entry ([.ref o0]) (n := 1) (Nat.le_of_ble_eq_true rfl)
  rw [lg_entry_eq]
  generalize (lg_sl ([.ref o0]) ++ List.replicate (1 - (lg_sl ([.ref o0])).length) Slot.unset).toArray = ls at hl ⊢
  have hl : lv_has ls 1 [(0, .ref o0)] := hl
  refine lv_aload_n hx hb dX12_fault_0 rfl (lv_at hl 0 rfl) ?_
  refine lv_iconst (v := 0) hx hb dX12_fault_1 (by decide) ?_
  refine tw_put (v := .int 0) (ty := .int) hx hb hts bF_X12 tyX12 tyX12_ok nmX12 hown hK hT hG hS hr_o0 shm_0 rfl 0 (by decide) (ht_at hts 0 rfl) (fun _ h9 => h9) rfl (by decide +kernel) rfl rfl (gl_at rfl (gi_all _)) dX12_fault_2 (fun H locs hT oq m1 oj hS => ?_)
  have hF := hF.put hr_o0 skm_0 oq oj (by decide)
  have m2 := (oj 16 (by decide) (by decide)).trans hm_fa
  refine lv_aload_n hx hb dX12_fault_5 rfl (lv_at hl 0 rfl) ?_
  refine tw_getM (v := .int fa) hx hb hts bF_X12 hown hK hT hr_o0 shm_0 rfl 16 (by decide) (ht_at hts 1 rfl) (fun _ h9 => h9) m2 dX12_fault_6 ?_
  exact W.iret (v := fa) hx hb hr (fun t ht hW => ⟨⟨fa, (), rfl, (by exact rfl), by (try dsimp only); rw [ht]; exact ⟨hT, hF⟩⟩, hS.F ht⟩) hS.2.2 dX12_fault_9
