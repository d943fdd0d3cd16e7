def w_s_adds : List Cond := .code yX12_adds cX12_adds 3 none :: (HAppend.hAppend (α := List Cond) (β := List Cond) (γ := List Cond) [.fieldLink RX12 66 "SeaLandModel" "step" "[I", .fieldLink RX12 367 "SeaLandModel" "steps" "I", .fieldLink RX12 69 "SeaLandModel" "than" "[I"] bs)
set_option maxHeartbeats 4000000 in
set_option maxRecDepth 100000 in
theorem s_adds (l : Launch) (dC : Nat → ClassId) (dI : Nat → Nat → Nat) (kA : Nat → ClassId) (adK adV : Nat → Nat) (G : gT) (H0 : Heap) (q : Nat → Nat) (wZ wN : Nat → Int) (wH wB wC : Int) (wL wK : Nat → Prop) (wU wV : Nat → Nat) (PI : Nat → Int → Prop) (im : Int) (PM PT : Nat → Int → Prop) (lS lB lE : Nat → Nat → Int → Prop) (lN : Nat → Int) (o0 : Nat) (ks : Int32) (nv : Int32) (sv : Int32) (vS : Nat → Int32) (vN : Nat → Int32) (S0 : Nat → Int → Prop) (lb : Int) (ld : Nat → Int) (dc : Int) (hT : gH (dC, dI) kA (SHm q (wP wZ wN wH wB wC wL wK wU wV) PI im PM PT (lD (dS S0 lb sv.toInt ld) lS) lB lE lN) G H0) (hr_o0 : G o0 = some 0) (hm_sv : el H0 o0 (dI 15 28) = some (.int sv)) (hq0 : 0 ≤ sv.toInt ∧ sv.toInt ≤ 399) (hst : stp ks.toInt (ld sv.toNatClampNeg) dc) (hS0 : ∀ (i : Nat) x, lb ≤ (i : Int) → S0 i x) (hlb : 0 ≤ lb ∧ lb ≤ sv.toInt) (hlg : lG lb ld) (hc_vS : ct H0 (q 26) 1200 vS) (hc_vN : ct H0 (q 27) 1200 vN) (hgz : ∀ i, 0 ≤ wZ i) (hgn : ∀ i, 6500000 ≤ wN i ∧ wN i ≤ 20200000) (hgh : 0 ≤ wH ∧ wH ≤ 40000) (hgb : 0 ≤ wB ∧ wB ≤ 3850000) (hgc : 0 ≤ wC ∧ wC ≤ 30) (hgi : 0 ≤ im ∧ im ≤ 1) (hgu : ∀ a t, G a = some (t + 1) → a = q t) : Met l yX12_adds w_s_adds ({ frames := 0, cells := 0, slots := 0, locals := 0 }) (va_Pc [.ref o0, .int ks, .int nv] (fun U => U.heap = H0 ∧ va_K (dC, dI) vwCl (tyl kA) U ∧ EVS adK adV (gA G H0.size) U U.heap)) (va_Qv (fun (u : Int32 × (Nat → Int)) => match u with | (s1, ld1) => (0 ≤ s1.toInt ∧ s1.toInt ≤ 400) ∧ (s1.toInt = sv.toInt + 1) ∧ (ld1 s1.toNatClampNeg = dc) ∧ (lG lb ld1)) (fun (u : Int32 × (Nat → Int)) (t : State) => match u with | (s1, ld1) => gH (dC, dI) kA (SHm q (wP wZ wN wH wB wC wL wK wU wV) PI im PM PT (lD (dS S0 lb s1.toInt ld1) lS) lB lE lN) G t.heap ∧ gF (dC, dI) SKm G ([(0, 28), (27, 0), (28, 0)] : List (Nat × Nat)) H0 t.heap ∧ el t.heap o0 (dI 15 28) = some (.int s1) ∧ ct t.heap (q 26) 1200 (cu vS (800 + sv.toNatClampNeg) ks) ∧ ct t.heap (q 27) 1200 (cu vN (800 + sv.toNatClampNeg) nv)) (gA G H0.size)) 0 0 (gA G H0.size) := by
  refine Met.ofW (cc := cX12_adds) (maxL := 3) (ret := none) (by decide) rfl ?_
  intro p e s m args below meth c s₁ B hml hv
  obtain ⟨rfl, hH0, hK, hE⟩ := hv
  have hx := B.exec
  have hb := B.bytes
  have hr := B.returns
  have hts := atoms_spec (ws := w_s_adds) B.pre
  have hown : s.vm.findClass RX12 = some m.cls := findClass_of_methodNamed B.named
  have hlocks := B.notSynchronized
  subst hH0
  generalize hAe : gA G s.heap.size = A at hE ⊢
  have hA : ∀ q : Nat, s.heap.size ≤ q → A q := fun q h => by rw [← hAe]; exact Or.inr h
  have hG := gA_of hAe
  have hS : va_S A s.heap s.heap [] := va_S.rf
  have hF : gF (dC, dI) SKm G ([(0, 28), (27, 0), (28, 0)] : List (Nat × Nat)) s.heap s.heap := gF.rf
  have hl := lv_entry ([.ref o0, .int ks, .int nv]) (n := 3) (Nat.le_of_ble_eq_true rfl)
  rw [lg_entry_eq]
  generalize (lg_sl ([.ref o0, .int ks, .int nv]) ++ List.replicate (3 - (lg_sl ([.ref o0, .int ks, .int nv])).length) Slot.unset).toArray = ls at hl ⊢
  have hl : lv_has ls 3 [(0, .ref o0), (1, .int ks), (2, .int nv)] := hl
  have hg1 : G (q 26) = some 27 := gx_of hT hr_o0 shm_0 (k := 26) (by decide) rfl
  have hg2 : G (q 27) = some 28 := gx_of hT hr_o0 shm_0 (k := 27) (by decide) rfl
  refine lv_aload_n hx hb dX12_adds_0 rfl (lv_at hl 0 rfl) ?_
  refine tw_get hx hb hts bF_X12 hown hK hT hr_o0 shm_0 rfl 26 (by decide) (ht_at hts 0 rfl) (fun _ h9 => h9) dX12_adds_1 (fun v9 m3 h9 => ?_)
  obtain ⟨rfl, hg4⟩ := h9 _ rfl
  refine lv_sipush (v := 800) hx hb dX12_adds_4 (by decide) ?_
  refine lv_aload_n hx hb dX12_adds_7 rfl (lv_at hl 0 rfl) ?_
  refine tw_getM (v := .int sv) hx hb hts bF_X12 hown hK hT hr_o0 shm_0 rfl 28 (by decide) (ht_at hts 1 rfl) (fun _ h9 => h9) hm_sv dX12_adds_8 ?_
  refine lv_iadd hx hb dX12_adds_11 ?_
  refine lv_topi (fun x5 ex5 => ?_)
  have t6 : x5.toInt = 800 + sv.toInt := ti_add ex5 (by decide) rfl (by omega) (by omega)
  refine lv_iload_n hx hb dX12_adds_12 rfl (lv_at hl 1 rfl) ?_
  have t7 : ((x5.toNatClampNeg : Nat) : Int) = x5.toInt := tn_of (show x5.toInt = x5.toInt from rfl) (by omega)
  have t8 : ((sv.toNatClampNeg : Nat) : Int) = sv.toInt := tn_of rfl (by omega)
  refine tw_iast2 (Sg1 := (SHm q (wP wZ wN wH wB wC wL wK wU wV) PI im PM PT (lD (dS S0 lb (sv.toInt + 1) (mvu ld (sv.toNatClampNeg + 1) dc)) lS) lB lE lN)) (i := x5) (x := ks) hx hb hK hT hG hS hg1 shm_27 rfl shm_27 shm_o27 (fun b9 h9 => hgu b9 26 h9) (vin_t (a := x5.toInt) rfl (by omega) (by omega)) (⟨_, rfl, ad_hv (v := sv.toNatClampNeg) (by omega) (by omega) (by omega) (hS0 _ _ (by omega)) hst⟩) (fun k9 hk9 hne9 v9 hv9 he9 => by obtain ⟨x9, rfl, p9⟩ := he9; exact ⟨x9, rfl, ad_hm (v := sv.toNatClampNeg) (by omega) hk9 (by omega) p9⟩) dX12_adds_13 (fun H locs hT oq m9 oi hS => ?_)
  have hF := hF.ast hg1 skm_27 oq (by decide)
  have m10 := (el_kept (oq _ (gne hr_o0 hg1 (by decide)))).trans hm_sv
  have m11 := hc_vS.put m9 oi
  have m12 := hc_vN.kept (oq _ (gne hg2 hg1 (by decide)))
  refine lv_aload_n hx hb dX12_adds_14 rfl (lv_at hl 0 rfl) ?_
  refine tw_get hx hb hts bF_X12 hown hK hT hr_o0 shm_0 rfl 27 (by decide) (ht_at hts 2 rfl) (fun _ h9 => h9) dX12_adds_15 (fun v9 m13 h9 => ?_)
  obtain ⟨rfl, hg14⟩ := h9 _ rfl
  refine lv_sipush (v := 800) hx hb dX12_adds_18 (by decide) ?_
  refine lv_aload_n hx hb dX12_adds_21 rfl (lv_at hl 0 rfl) ?_
  refine tw_getM (v := .int sv) hx hb hts bF_X12 hown hK hT hr_o0 shm_0 rfl 28 (by decide) (ht_at hts 1 rfl) (fun _ h9 => h9) m10 dX12_adds_22 ?_
  refine lv_iadd hx hb dX12_adds_25 ?_
  refine lv_topi (fun x15 ex15 => ?_)
  have t16 : x15.toInt = 800 + sv.toInt := ti_add ex15 (by decide) rfl (by omega) (by omega)
  refine lv_iload_n hx hb dX12_adds_26 rfl (lv_at hl 2 rfl) ?_
  refine tw_iast (i := x15) (x := nv) hx hb hK hT hG hS hg2 shm_28 rfl (vin_t (a := x15.toInt) rfl (by omega) (by omega)) (gi_all _) dX12_adds_27 (fun H locs hT oq m17 oi hS => ?_)
  have hF := hF.ast hg2 skm_28 oq (by decide)
  have m18 := (el_kept (oq _ (gne hr_o0 hg2 (by decide)))).trans m10
  have m19 := m11.kept (oq _ (gne hg1 hg2 (by decide)))
  have m20 := m12.put m17 oi
  refine lv_aload_n hx hb dX12_adds_28 rfl (lv_at hl 0 rfl) ?_
  refine lv_dup hx hb dX12_adds_29 rfl ?_
  refine tw_getM (v := .int sv) hx hb hts bF_X12 hown hK hT hr_o0 shm_0 rfl 28 (by decide) (ht_at hts 1 rfl) (fun _ h9 => h9) m18 dX12_adds_30 ?_
  refine lv_iconst (v := 1) hx hb dX12_adds_33 (by decide) ?_
  refine lv_iadd hx hb dX12_adds_34 ?_
  refine lv_topi (fun x22 ex22 => ?_)
  have t23 : x22.toInt = sv.toInt + 1 := ti_add ex22 rfl (by decide) (by omega) (by omega)
  refine tw_put (v := .int x22) (ty := .int) hx hb hts bF_X12 tyX12 tyX12_ok nmX12 hown hK hT hG hS hr_o0 shm_0 rfl 28 (by decide) (ht_at hts 1 rfl) (fun _ h9 => h9) rfl (by decide +kernel) rfl rfl (gl_at rfl (gi_of (show x22.toInt = x22.toInt from rfl) (by omega) (by omega))) dX12_adds_35 (fun H locs hT oq m24 oj hS => ?_)
  have hF := hF.put hr_o0 skm_0 oq oj (by decide)
  have m25 := m19.kept (oq _ (gne hg1 hr_o0 (by decide)))
  have m26 := m20.kept (oq _ (gne hg2 hr_o0 (by decide)))
  have hT : gH (dC, dI) kA (SHm q (wP wZ wN wH wB wC wL wK wU wV) PI im PM PT (lD (dS S0 lb x22.toInt (mvu ld (sv.toNatClampNeg + 1) dc)) lS) lB lE lN) G H := by rw [show x22.toInt = sv.toInt + 1 from by have q9 := (show x22.toInt = x22.toInt from rfl); omega]; exact hT
  exact W.vret hx hb hr (fun t ht hW => ⟨⟨(x22, (mvu ld (sv.toNatClampNeg + 1) dc)), rfl, (by exact ⟨(by have q8 := ti_all x22; omega), (by omega), (by rw [show x22.toNatClampNeg = sv.toNatClampNeg + 1 from by have q9 := tn_of (show x22.toInt = x22.toInt from rfl) (by omega); omega]; exact mvu_s _ _ _), (lG_u hlg (by omega) hst)⟩), by (try dsimp only); rw [ht]; exact ⟨hT, hF, m24, (m25.ext (fun i9 _ => by rw [show x5.toNatClampNeg = 800 + sv.toNatClampNeg from by have := tn_of (show x5.toInt = x5.toInt from rfl) (by omega); have := tn_of (show sv.toInt = sv.toInt from rfl) (by omega); omega])), (m26.ext (fun i9 _ => by rw [show x15.toNatClampNeg = 800 + sv.toNatClampNeg from by have := tn_of (show x15.toInt = x15.toInt from rfl) (by omega); have := tn_of (show sv.toInt = sv.toInt from rfl) (by omega); omega]))⟩⟩, hS.F ht⟩) hS.2.2 dX12_adds_38
def w_s_readPart : List Cond := .code yX12_readPart cX12_readPart 2 (some .boolean) :: (HAppend.hAppend (α := List Cond) (β := List Cond) (γ := List Cond) [.code yX12_word cX12_word 1 none, .code yX12_blanks cX12_blanks 1 none, .code yX12_isAt cX12_isAt 3 (some .boolean), .fieldLink RX12 335 "SeaLandModel" "point" "I", .fieldLink RX12 338 "SeaLandModel" "end" "I", .fieldLink RX12 31 "SeaLandModel" "tape" "[B", .methodLink RX12 341 yX12_isAt, .instanceMethod yX12_isAt, .selects RX12 yX12_isAt yX12_isAt, .initialized RX12, .fieldLink RX12 345 "SeaLandModel" "begin" "I", .methodLink RX12 348 yX12_blanks, .instanceMethod yX12_blanks, .selects RX12 yX12_blanks yX12_blanks, .methodLink RX12 360 yX12_word, .instanceMethod yX12_word, .selects RX12 yX12_word yX12_word, .constant RX12 390 99999, .code yX12_number cX12_number 3 (some .int), .methodLink RX12 391 yX12_number, .instanceMethod yX12_number, .selects RX12 yX12_number yX12_number, .code yX12_adds cX12_adds 3 none, .fieldLink RX12 66 "SeaLandModel" "step" "[I", .fieldLink RX12 367 "SeaLandModel" "steps" "I", .fieldLink RX12 69 "SeaLandModel" "than" "[I", .methodLink RX12 387 yX12_adds, .instanceMethod yX12_adds, .selects RX12 yX12_adds yX12_adds, .code yX12_fact cX12_fact 1 (some (.object "java/lang/String")), .methodLink RX12 383 yX12_fact, .static yX12_fact, .code yX12_isWord cX12_isWord 4 (some .boolean), .code yJ0_length_8abf5 cJ0_length_8abf5 1 (some .int), .fieldLink RJ0 9 "java/lang/String" "value" "[B", .code yJ0_coder_7d493 cJ0_coder_7d493 1 (some .byte), .fieldLink RJ0 38 "java/lang/String" "COMPACT_STRINGS" "Z", .fieldLink RJ0 15 "java/lang/String" "coder" "B", .methodLink RJ0 335 yJ0_coder_7d493, .instanceMethod yJ0_coder_7d493, .selects RJ0 yJ0_coder_7d493 yJ0_coder_7d493, .initialized RJ0, .methodLink RX12 351 yJ0_length_8abf5, .instanceMethod yJ0_length_8abf5, .selects RJ0 yJ0_length_8abf5 yJ0_length_8abf5, .code yJ0_charAt_5068e cJ0_charAt_5068e 2 (some .char), .code yJ0_isLatin1_aae02 cJ0_isLatin1_aae02 1 (some .boolean), .methodLink RJ0 492 yJ0_isLatin1_aae02, .instanceMethod yJ0_isLatin1_aae02, .selects RJ0 yJ0_isLatin1_aae02 yJ0_isLatin1_aae02, .code yJ1_charAt_3b067 cJ1_charAt_3b067 2 (some .char), .code yJ0_checkIndex_df160 cJ0_checkIndex_df160 2 none, .fieldLink RJ0 1053 "jdk/internal/util/Preconditions" "SIOOBE_FORMATTER" "Ljava/util/function/BiFunction;", .code yJ3_checkIndex_8e157 cJ3_checkIndex_8e157 3 (some .int), .methodLink RJ0 1059 yJ3_checkIndex_8e157, .static yJ3_checkIndex_8e157, .initialized RJ3, .methodLink RJ1 9 yJ0_checkIndex_df160, .static yJ0_checkIndex_df160, .methodLink RJ0 495 yJ1_charAt_3b067, .static yJ1_charAt_3b067, .initialized RJ1, .methodLink RX12 356 yJ0_charAt_5068e, .instanceMethod yJ0_charAt_5068e, .selects RJ0 yJ0_charAt_5068e yJ0_charAt_5068e, .methodLink RX12 363 yX12_isWord, .instanceMethod yX12_isWord, .selects RX12 yX12_isWord yX12_isWord] bs)
set_option maxHeartbeats 4000000 in
set_option maxRecDepth 100000 in
theorem s_readPart (l : Launch) (dC : Nat → ClassId) (dI : Nat → Nat → Nat) (kA : Nat → ClassId) (adK adV : Nat → Nat) (G : gT) (H0 : Heap) (q : Nat → Nat) (wZ wN : Nat → Int) (wH wB wC : Int) (wL wK : Nat → Prop) (wU wV : Nat → Nat) (PI : Nat → Int → Prop) (im : Int) (PM PT : Nat → Int → Prop) (lS lB lE : Nat → Nat → Int → Prop) (lN : Nat → Int) (o0 : Nat) (pt : Int32) (en : Int32) (sv : Int32) (vt : Nat → Int32) (vS : Nat → Int32) (vN : Nat → Int32) (S0 : Nat → Int → Prop) (lb : Int) (ld : Nat → Int) (N : Nat) (hT : gH (dC, dI) kA (SHm q (wP wZ wN wH wB wC wL wK wU wV) PI im PM PT (lD (dS S0 lb sv.toInt ld) lS) lB lE lN) G H0) (hr_o0 : G o0 = some 0) (hm_pt : el H0 o0 (dI 15 12) = some (.int pt)) (hm_en : el H0 o0 (dI 15 13) = some (.int en)) (hm_sv : el H0 o0 (dI 15 28) = some (.int sv)) (hq0 : 0 ≤ pt.toInt ∧ pt.toInt ≤ 400) (hq1 : 0 ≤ en.toInt ∧ en.toInt ≤ 400) (hq2 : 0 ≤ sv.toInt ∧ sv.toInt ≤ 400) (hpe : pt.toInt ≤ en.toInt) (hsp : sv.toInt ≤ pt.toInt) (hS0 : ∀ (i : Nat) x, lb ≤ (i : Int) → S0 i x) (hlb : 0 ≤ lb ∧ lb ≤ sv.toInt) (hlg : lG lb ld) (hd0 : 0 ≤ ld sv.toNatClampNeg) (hN : en.toInt = ((N : Nat) : Int)) (hc_vt : ct H0 (q 10) 400 vt) (hc_vS : ct H0 (q 26) 1200 vS) (hc_vN : ct H0 (q 27) 1200 vN) (hgz : ∀ i, 0 ≤ wZ i) (hgn : ∀ i, 6500000 ≤ wN i ∧ wN i ≤ 20200000) (hgh : 0 ≤ wH ∧ wH ≤ 40000) (hgb : 0 ≤ wB ∧ wB ≤ 3850000) (hgc : 0 ≤ wC ∧ wC ≤ 30) (hgi : 0 ≤ im ∧ im ≤ 1) (hgu : ∀ a t, G a = some (t + 1) → a = q t) : Met l yX12_readPart w_s_readPart ({ frames := 5, cells := 0, slots := 0, locals := 108 }) (va_Pc [.ref o0] (fun U => U.heap = H0 ∧ va_K (dC, dI) vwCl (tyl kA) U ∧ EVS adK adV (gA G H0.size) U U.heap)) (va_Qi (fun (r : Int32) (u : Int32 × Int32 × Int32 × (Nat → Int) × (Nat → Int32) × (Nat → Int32)) => match u with | (p1, b1, s1, ld1, vS1, vN1) => (0 ≤ p1.toInt ∧ p1.toInt ≤ 400) ∧ (0 ≤ b1.toInt ∧ b1.toInt ≤ 400) ∧ (0 ≤ s1.toInt ∧ s1.toInt ≤ 400) ∧ (0 ≤ r.toInt ∧ r.toInt ≤ 1) ∧ (r = 1 → ld1 s1.toNatClampNeg = ld sv.toNatClampNeg + 1) ∧ (pt.toInt ≤ p1.toInt ∧ p1.toInt ≤ en.toInt ∧ sv.toInt ≤ s1.toInt ∧ s1.toInt - sv.toInt ≤ p1.toInt - pt.toInt) ∧ (lG lb ld1) ∧ ((r.toInt = 1 ∧ (pR (kd (tx vt) N) (xn (tx vt) N)) (skp (tx vt) N pt.toNatClampNeg) 1 (skp (tx vt) N p1.toNatClampNeg)) ∨ (r.toInt = 0 ∧ (pR (kd (tx vt) N) (xn (tx vt) N)) (skp (tx vt) N pt.toNatClampNeg) 0 b1.toNatClampNeg)) ∧ (zKp vS vS1 (800 + sv.toNatClampNeg)) ∧ (zKp vN vN1 (800 + sv.toNatClampNeg)) ∧ (r.toInt = 1 → zpZ (kd (tx vt) N) (xn (tx vt) N) (skp (tx vt) N pt.toNatClampNeg) (zC (zwo 800 vS1 vN1) sv.toNatClampNeg s1.toNatClampNeg) (skp (tx vt) N p1.toNatClampNeg))) (fun (u : Int32 × Int32 × Int32 × (Nat → Int) × (Nat → Int32) × (Nat → Int32)) (t : State) => match u with | (p1, b1, s1, ld1, vS1, vN1) => gH (dC, dI) kA (SHm q (wP wZ wN wH wB wC wL wK wU wV) PI im PM PT (lD (dS S0 lb s1.toInt ld1) lS) lB lE lN) G t.heap ∧ gF (dC, dI) SKm G ([(0, 12), (0, 14), (0, 28), (27, 0), (28, 0)] : List (Nat × Nat)) H0 t.heap ∧ el t.heap o0 (dI 15 12) = some (.int p1) ∧ el t.heap o0 (dI 15 14) = some (.int b1) ∧ el t.heap o0 (dI 15 28) = some (.int s1) ∧ ct t.heap (q 26) 1200 vS1 ∧ ct t.heap (q 27) 1200 vN1) (gA G H0.size)) 0 0 (gA G H0.size) := by
  refine Met.ofW (cc := cX12_readPart) (maxL := 2) (ret := (some .boolean)) (by decide) rfl ?_
  intro p e s m args below meth c s₁ B hml hv
  obtain ⟨rfl, hH0, hK, hE⟩ := hv
  have hx := B.exec
  have hb := B.bytes
  have hr := B.returns
  have hts := atoms_spec (ws := w_s_readPart) B.pre
  have hown : s.vm.findClass RX12 = some m.cls := findClass_of_methodNamed B.named
  have hlocks := B.notSynchronized
  subst hH0
  generalize hAe : gA G s.heap.size = A at hE ⊢
  have hA : ∀ q : Nat, s.heap.size ≤ q → A q := fun q h => by rw [← hAe]; exact Or.inr h
  have hG := gA_of hAe
  have hS : va_S A s.heap s.heap [] := va_S.rf
  have hF : gF (dC, dI) SKm G ([(0, 12), (0, 14), (0, 28), (27, 0), (28, 0)] : List (Nat × Nat)) s.heap s.heap := gF.rf
  have hl := lv_entry ([.ref o0]) (n := 2) (Nat.le_of_ble_eq_true rfl)
  rw [lg_entry_eq]
  generalize (lg_sl ([.ref o0]) ++ List.replicate (2 - (lg_sl ([.ref o0])).length) Slot.unset).toArray = ls at hl ⊢
  have hl : lv_has ls 2 [(0, .ref o0)] := hl
  have hg1 : G (q 10) = some 11 := gx_of hT hr_o0 shm_0 (k := 10) (by decide) rfl
  have hg2 : G (q 26) = some 27 := gx_of hT hr_o0 shm_0 (k := 26) (by decide) rfl
  have hg3 : G (q 27) = some 28 := gx_of hT hr_o0 shm_0 (k := 27) (by decide) rfl
  refine lv_aload_n hx hb dX12_readPart_0 rfl (lv_at hl 0 rfl) ?_
  have hFc := gA_free hG hA hS
  refine va_callv (va_runV (As := []) (rest := []) ⟨hx, hb, hml, hown, hts⟩ (s_word l dC dI kA adK adV G s.heap q wZ wN wH wB wC wL wK wU wV PI im PM PT (lD (dS S0 lb sv.toInt ld) lS) lB lE lN o0 pt en vt N hT hr_o0 hm_pt hm_en (by have q8 := ti_all pt; omega) (by have q8 := ti_all en; omega) (by have := (show pt.toInt = pt.toInt from rfl); have := (show en.toInt = en.toInt from rfl); omega) hN hc_vt hgz hgn hgh hgb hgc hgi hgu) (cwV 0 hts (goodIn_app (goodIn_r _ [15, 16, 17, 10] rfl (by decide +kernel)) (goodIn_ca (goodIn_r _ [1, 2, 3, 4, 5, 6, 7, 8, 9, 10, 11, 12, 13, 14] rfl (by decide +kernel)) (bs_in _ _))) rfl rfl rfl (by decide +kernel) ⟨(Nat.le_of_ble_eq_true rfl), (Nat.le_of_ble_eq_true rfl)⟩) ⟨fun a U g mk q => by obtain ⟨q0, q1, qK, qE⟩ := q; exact ⟨q0, q1, va_K.moved (u := U) (U := U.calling g mk a) (Vm.Alike.refl U.vm) qK, EVS.blind g mk a qE⟩, gH_rc hK hT hr_o0 shm_0 rfl, fun U hU hW => ⟨rfl, hU, va_K.moved hW.alike hK, hE.call hS hFc hU hW⟩⟩ rfl rfl hl.1 rfl (lv_room (Nat.le_of_ble_eq_true rfl)) dX12_readPart_1 ⟨(Nat.le_of_ble_eq_true rfl), (Nat.le_of_ble_eq_true rfl)⟩) hS (fun q _ h => hFc q h) hFc (fun u t H locs ht hvm hw5 hB _ _ hS => ?_)
  obtain ⟨u6, u7⟩ := u
  obtain ⟨hT, hF1, m8, m9⟩ := hB
  rw [ht] at hT hF1 m8 m9
  have m11 := (hF1.fld hr_o0 skm_0 (k := 13) (by decide) (by decide)).trans hm_en
  have m12 := (hF1.fld hr_o0 skm_0 (k := 28) (by decide) (by decide)).trans hm_sv
  have m13 := hc_vt.kept (hF1.arr hg1 skm_11 (by decide))
  have m14 := hc_vS.kept (hF1.arr hg2 skm_27 (by decide))
  have m15 := hc_vN.kept (hF1.arr hg3 skm_28 (by decide))
  have hF := hF.more hF1 (by decide)
  try dsimp only at hw5
  obtain ⟨h16, h17, hf18, hf19, hf20⟩ := hw5
  refine lv_aload_n hx hb dX12_readPart_4 rfl (lv_at hl 0 rfl) ?_
  refine tw_getM (v := .int u6) hx hb hts bF_X12 hown hK hT hr_o0 shm_0 rfl 12 (by decide) (ht_at hts 3 rfl) (fun _ h9 => h9) m8 dX12_readPart_5 ?_
  refine lv_aload_n hx hb dX12_readPart_8 rfl (lv_at hl 0 rfl) ?_
  refine tw_getM (v := .int u7) hx hb hts bF_X12 hown hK hT hr_o0 shm_0 rfl 14 (by decide) (ht_at hts 10 rfl) (fun _ h9 => h9) m9 dX12_readPart_9 ?_
  refine lv_icmp_le (tgt := 56) hx hb dX12_readPart_12 (by decide) (fun c21 => ?_) (fun c21 => ?_)
  · have t22 : u6.toInt ≤ u7.toInt := ti_le c21 rfl rfl
    refine lv_aload_n hx hb dX12_readPart_56 rfl (lv_at hl 0 rfl) ?_
    refine lv_ldcw (v := 99999) hx hb hown (ht_at hts 17 rfl) dX12_readPart_57 ?_
    have hFc := gA_free hG hA hS
    refine va_calli (va_runV (As := [.int 99999]) (rest := []) ⟨hx, hb, hml, hown, hts⟩ (s_number l dC dI kA adK adV G H q wZ wN wH wB wC wL wK wU wV PI im PM PT (lD (dS S0 lb sv.toInt ld) lS) lB lE lN o0 99999 u6 en vt N hT hr_o0 m8 m11 (by have q8 := ti_all u6; omega) (by have q8 := ti_all en; omega) (by have := (show u6.toInt = u6.toInt from rfl); have := (show en.toInt = en.toInt from rfl); omega) hN m13 hgz hgn hgh hgb hgc hgi hgu) (cwV 1 hts (goodIn_app (goodIn_r _ [20, 21, 22, 10] rfl (by decide +kernel)) (goodIn_ca (goodIn_r _ [19, 2, 3, 4, 5, 6, 7, 8, 9, 10, 11, 12, 13, 14] rfl (by decide +kernel)) (bs_in _ _))) rfl rfl rfl (by decide +kernel) ⟨(Nat.le_of_ble_eq_true rfl), (Nat.le_of_ble_eq_true rfl)⟩) ⟨fun a U g mk q => by obtain ⟨q0, q1, qK, qE⟩ := q; exact ⟨q0, q1, va_K.moved (u := U) (U := U.calling g mk a) (Vm.Alike.refl U.vm) qK, EVS.blind g mk a qE⟩, gH_rc hK hT hr_o0 shm_0 rfl, fun U hU hW => ⟨rfl, hU, va_K.moved hW.alike hK, hE.call hS hFc hU hW⟩⟩ rfl rfl hl.1 rfl (lv_room (Nat.le_of_ble_eq_true rfl)) dX12_readPart_60 ⟨(Nat.le_of_ble_eq_true rfl), (Nat.le_of_ble_eq_true rfl)⟩) hS (fun q _ h => hFc q h) hFc (fun r23 u t H locs ht hvm hw24 hB _ _ hS => ?_)
    obtain ⟨u25, u26⟩ := u
    obtain ⟨hT, hF1, m27, m28⟩ := hB
    rw [ht] at hT hF1 m27 m28
    have m30 := (hF1.fld hr_o0 skm_0 (k := 28) (by decide) (by decide)).trans m12
    have m32 := m14.kept (hF1.arr hg2 skm_27 (by decide))
    have m33 := m15.kept (hF1.arr hg3 skm_28 (by decide))
    have hF := hF.more hF1 (by decide)
    try dsimp only at hw24
    obtain ⟨h36, h37, h38, hf39, hf40, hf41⟩ := hw24
    refine lv_istore_n (lv' := [(1, .int r23), (0, .ref o0)]) hx hb dX12_readPart_63 rfl hl (by decide) rfl (fun ls hl => ?_)
    refine lv_iload_n hx hb dX12_readPart_64 rfl (lv_at hl 0 rfl) ?_
    refine lv_if_ge (tgt := 70) hx hb dX12_readPart_65 (by decide) (fun c42 => ?_) (fun c42 => ?_)
    · have t43 : 0 ≤ r23.toInt := ti_le c42 (by decide) rfl
      refine lv_aload_n hx hb dX12_readPart_70 rfl (lv_at hl 1 rfl) ?_
      refine lv_bipush (v := 100) hx hb dX12_readPart_71 (by decide) ?_
      refine lv_iload_n hx hb dX12_readPart_73 rfl (lv_at hl 0 rfl) ?_
      have hFc := gA_free hG hA hS
      refine va_callv (va_runV (As := [.int 100, .int r23]) (rest := []) ⟨hx, hb, hml, hown, hts⟩ (s_adds l dC dI kA adK adV G H q wZ wN wH wB wC wL wK wU wV PI im PM PT lS lB lE lN o0 100 r23 sv vS vN S0 lb ld (ld sv.toNatClampNeg + 1) hT hr_o0 m30 (by have q8 := ti_all sv; omega) (by have q9 := (show (100 : Int32).toInt = 100 from (by decide)); unfold stp; omega) hS0 (by have := (show sv.toInt = sv.toInt from rfl); omega) hlg m32 m33 hgz hgn hgh hgb hgc hgi hgu) (cwV 2 hts (goodIn_app (goodIn_r _ [27, 28, 29, 10] rfl (by decide +kernel)) (goodIn_ca (goodIn_r _ [23, 24, 25, 26] rfl (by decide +kernel)) (bs_in _ _))) rfl rfl rfl (by decide +kernel) ⟨(Nat.le_of_ble_eq_true rfl), (Nat.le_of_ble_eq_true rfl)⟩) ⟨fun a U g mk q => by obtain ⟨q0, q1, qK, qE⟩ := q; exact ⟨q0, q1, va_K.moved (u := U) (U := U.calling g mk a) (Vm.Alike.refl U.vm) qK, EVS.blind g mk a qE⟩, gH_rc hK hT hr_o0 shm_0 rfl, fun U hU hW => ⟨rfl, hU, va_K.moved hW.alike hK, hE.call hS hFc hU hW⟩⟩ rfl rfl hl.1 rfl (lv_room (Nat.le_of_ble_eq_true rfl)) dX12_readPart_74 ⟨(Nat.le_of_ble_eq_true rfl), (Nat.le_of_ble_eq_true rfl)⟩) hS (fun q _ h => hFc q h) hFc (fun u t H locs ht hvm hw45 hB _ _ hS => ?_)
      obtain ⟨u46, u47⟩ := u
      obtain ⟨hT, hF1, m48, m49, m50⟩ := hB
      rw [ht] at hT hF1 m48 m49 m50
      have m56 := (hF1.fld hr_o0 skm_0 (k := 12) (by decide) (by decide)).trans m27
      have m57 := (hF1.fld hr_o0 skm_0 (k := 14) (by decide) (by decide)).trans m28
      have hF := hF.more hF1 (by decide)
      try dsimp only at hw45
      obtain ⟨h58, hf59, hf60, hf61⟩ := hw45
      refine lv_iconst (v := 1) hx hb dX12_readPart_77 (by decide) ?_
      exact W.zret (v := 1) hx hb hr (by decide) (fun t ht hW => ⟨⟨1, (u25, u26, u46, u47, (cu vS (800 + sv.toNatClampNeg) 100), (cu vN (800 + sv.toNatClampNeg) r23)), rfl, (by exact ⟨(by have q8 := ti_all u25; omega), (by have q8 := ti_all u26; omega), (by have q8 := ti_all u46; omega), (rg_t (a := 1) (by decide) (by first | decide | omega) (by first | decide | omega)), (fun _ => (by omega)), (by omega), hf61, (by have := tn_of (show u7.toInt = u7.toInt from rfl) (by omega); have := tn_of (show u6.toInt = u6.toInt from rfl) (by omega); have := tn_of (show en.toInt = en.toInt from rfl) (by omega); have := tn_of (show pt.toInt = pt.toInt from rfl) (by omega); have h99 : (99999 : Int32).toInt = 99999 := (by decide); have e0 : skp (tx vt) N u6.toNatClampNeg = u7.toNatClampNeg := (by rw [show u6.toNatClampNeg = u7.toNatClampNeg from by omega]; have i9 := ru_i (P := spB) (t := (tx vt)) (n := N) (p := pt.toNatClampNeg) (by omega); rw [show ru spB (tx vt) N pt.toNatClampNeg = u7.toNatClampNeg from hf19] at i9; exact i9); have n9 := hf41; have s9 := hf40; rw [e0] at n9 s9; rw [hf19]; have m9 := n9.resolve_right (fun h8 => by have := h8.1; omega); exact Or.inl ⟨by decide, Or.inl ⟨Or.inr m9.1, rfl, m9.2.2.2⟩⟩), (zKp.rf.st (by have := tn_of (show sv.toInt = sv.toInt from rfl) (by omega); omega)), (zKp.rf.st (by have := tn_of (show sv.toInt = sv.toInt from rfl) (by omega); omega)), (fun _ => by have := tn_of (show u7.toInt = u7.toInt from rfl) (by omega); have := tn_of (show u6.toInt = u6.toInt from rfl) (by omega); have := tn_of (show en.toInt = en.toInt from rfl) (by omega); have := tn_of (show pt.toInt = pt.toInt from rfl) (by omega); have := tn_of (show sv.toInt = sv.toInt from rfl) (by omega); have := tn_of (show u46.toInt = u46.toInt from rfl) (by omega); have h99 : (99999 : Int32).toInt = 99999 := (by decide); have e0 : skp (tx vt) N u6.toNatClampNeg = u7.toNatClampNeg := (by rw [show u6.toNatClampNeg = u7.toNatClampNeg from by omega]; have i9 := ru_i (P := spB) (t := (tx vt)) (n := N) (p := pt.toNatClampNeg) (by omega); rw [show ru spB (tx vt) N pt.toNatClampNeg = u7.toNatClampNeg from hf19] at i9; exact i9); have n9 := hf41; rw [e0] at n9; rw [hf19]; have m9 := n9.resolve_right (fun h8 => by have := h8.1; omega); exact ⟨Or.inr m9.1, zD_1 (by omega) rfl rfl ((zcd_n (by decide) (by omega)).trans (by have := m9.2.2.1; omega)), m9.2.2.2⟩)⟩), by (try dsimp only); rw [ht]; exact ⟨hT, hF, m56, m57, m48, m49, m50⟩⟩, hS.F ht⟩) hS.2.2 dX12_readPart_78
    · have t62 : r23.toInt < 0 := ti_nle c42 (by decide) rfl
      refine lv_iconst (v := 0) hx hb dX12_readPart_68 (by decide) ?_
      exact W.zret (v := 0) hx hb hr (by decide) (fun t ht hW => ⟨⟨0, (u25, u26, sv, ld, vS, vN), rfl, (by exact ⟨(by have q8 := ti_all u25; omega), (by have q8 := ti_all u26; omega), (by have q8 := ti_all sv; omega), (rg_t (a := 0) (by decide) (by first | decide | omega) (by first | decide | omega)), (fun h => absurd h (by decide)), (by omega), hlg, (by have := tn_of (show u7.toInt = u7.toInt from rfl) (by omega); have := tn_of (show u6.toInt = u6.toInt from rfl) (by omega); have := tn_of (show en.toInt = en.toInt from rfl) (by omega); have := tn_of (show pt.toInt = pt.toInt from rfl) (by omega); have h99 : (99999 : Int32).toInt = 99999 := (by decide); have e0 : skp (tx vt) N u6.toNatClampNeg = u7.toNatClampNeg := (by rw [show u6.toNatClampNeg = u7.toNatClampNeg from by omega]; have i9 := ru_i (P := spB) (t := (tx vt)) (n := N) (p := pt.toNatClampNeg) (by omega); rw [show ru spB (tx vt) N pt.toNatClampNeg = u7.toNatClampNeg from hf19] at i9; exact i9); have n9 := hf41; have s9 := hf40; rw [e0] at n9 s9; rw [hf19]; have m9 := n9.resolve_left (fun h8 => by have := h8.1; have := h8.2.2.1; omega); exact Or.inr ⟨by decide, Or.inr ⟨pr_d0 (by omega) (by rw [hf20]; omega) (fun h8 => m9.2 ⟨h8.1, by omega⟩), rfl, s9.symm⟩⟩), zKp.rf, zKp.rf, (fun h8 => absurd h8 (by decide))⟩), by (try dsimp only); rw [ht]; exact ⟨hT, hF, m27, m28, m30, m32, m33⟩⟩, hS.F ht⟩) hS.2.2 dX12_readPart_69
  · have t63 : u7.toInt < u6.toInt := ti_nle c21 rfl rfl
    refine lv_iconst (v := 0) hx hb dX12_readPart_15 (by decide) ?_
    refine lv_istore_n (lv' := [(1, .int 0), (0, .ref o0)]) hx hb dX12_readPart_16 rfl hl (by decide) rfl (fun ls hl => ?_)
    have key120 : ∀ (n120 i64 : Nat), i64 + n120 = 10 → 0 ≤ i64 → ((∀ j : Nat, j < i64 → ¬ wd (sW j) (tx vt) u7.toNatClampNeg u6.toNatClampNeg)) → ∀ (H : Heap) (locs : List Loc), gH (dC, dI) kA (SHm q (wP wZ wN wH wB wC wL wK wU wV) PI im PM PT (lD (dS S0 lb sv.toInt ld) lS) lB lE lN) G H → gF (dC, dI) SKm G ([(0, 12), (0, 14), (0, 28), (27, 0), (28, 0)] : List (Nat × Nat)) s.heap H → va_S A s.heap H locs → ct H (q 10) 400 vt → ct H (q 26) 1200 vS → ct H (q 27) 1200 vN → el H o0 (dI 15 13) = some (.int en) → el H o0 (dI 15 28) = some (.int sv) → el H o0 (dI 15 12) = some (.int u6) → el H o0 (dI 15 14) = some (.int u7) → ∀ ls : Array Slot, lv_has ls 2 [(1, .int (nI i64)), (0, .ref o0)] → W p l e (headSpec w_s_readPart ({ frames := 5, cells := 0, slots := 0, locals := 108 })).room s m #[.ref o0] below meth c H locs 0 0 (MQ below (va_Qi (fun (r : Int32) (u : Int32 × Int32 × Int32 × (Nat → Int) × (Nat → Int32) × (Nat → Int32)) => match u with | (p1, b1, s1, ld1, vS1, vN1) => (0 ≤ p1.toInt ∧ p1.toInt ≤ 400) ∧ (0 ≤ b1.toInt ∧ b1.toInt ≤ 400) ∧ (0 ≤ s1.toInt ∧ s1.toInt ≤ 400) ∧ (0 ≤ r.toInt ∧ r.toInt ≤ 1) ∧ (r = 1 → ld1 s1.toNatClampNeg = ld sv.toNatClampNeg + 1) ∧ (pt.toInt ≤ p1.toInt ∧ p1.toInt ≤ en.toInt ∧ sv.toInt ≤ s1.toInt ∧ s1.toInt - sv.toInt ≤ p1.toInt - pt.toInt) ∧ (lG lb ld1) ∧ ((r.toInt = 1 ∧ (pR (kd (tx vt) N) (xn (tx vt) N)) (skp (tx vt) N pt.toNatClampNeg) 1 (skp (tx vt) N p1.toNatClampNeg)) ∨ (r.toInt = 0 ∧ (pR (kd (tx vt) N) (xn (tx vt) N)) (skp (tx vt) N pt.toNatClampNeg) 0 b1.toNatClampNeg)) ∧ (zKp vS vS1 (800 + sv.toNatClampNeg)) ∧ (zKp vN vN1 (800 + sv.toNatClampNeg)) ∧ (r.toInt = 1 → zpZ (kd (tx vt) N) (xn (tx vt) N) (skp (tx vt) N pt.toNatClampNeg) (zC (zwo 800 vS1 vN1) sv.toNatClampNeg s1.toNatClampNeg) (skp (tx vt) N p1.toNatClampNeg))) (fun (u : Int32 × Int32 × Int32 × (Nat → Int) × (Nat → Int32) × (Nat → Int32)) (t : State) => match u with | (p1, b1, s1, ld1, vS1, vN1) => gH (dC, dI) kA (SHm q (wP wZ wN wH wB wC wL wK wU wV) PI im PM PT (lD (dS S0 lb s1.toInt ld1) lS) lB lE lN) G t.heap ∧ gF (dC, dI) SKm G ([(0, 12), (0, 14), (0, 28), (27, 0), (28, 0)] : List (Nat × Nat)) s.heap t.heap ∧ el t.heap o0 (dI 15 12) = some (.int p1) ∧ el t.heap o0 (dI 15 14) = some (.int b1) ∧ el t.heap o0 (dI 15 28) = some (.int s1) ∧ ct t.heap (q 26) 1200 vS1 ∧ ct t.heap (q 27) 1200 vN1) A) #[.ref o0] s 0 0 A) (F0 m 17 ls []) := by
      intro n120
      induction n120 with
      | zero =>
        intro i64 hn120 hlo121 hj72 H locs hT hF hS m65 m66 m67 m68 m69 m70 m71 ls hl
        obtain rfl : 10 = i64 := by omega
        refine lv_iload_n hx hb dX12_readPart_17 rfl (lv_at hl 0 rfl) ?_
        refine lv_bipush (v := 10) hx hb dX12_readPart_18 (by decide) ?_
        refine lv_icmp_ge (tgt := 40) hx hb dX12_readPart_20 (by decide) (fun c122 => ?_) (fun c122 => (by exfalso; have q9 : ((10 : Nat) : Int) < 10 := ti_nle c122 (by decide) (nI_toInt (by omega)); omega))
        have t123 : 10 ≤ ((10 : Nat) : Int) := ti_le c122 (by decide) (nI_toInt (by omega))
        refine lv_iload_n hx hb dX12_readPart_40 rfl (lv_at hl 0 rfl) ?_
        refine lv_bipush (v := 10) hx hb dX12_readPart_41 (by decide) ?_
        refine lv_icmp_ne (tgt := 48) hx hb dX12_readPart_43 (by decide) (fun c124 => (by exfalso; have q9 : ((10 : Nat) : Int) ≠ 10 := ti_ne c124 (nI_toInt (by omega)) (by decide); omega)) (fun c124 => ?_)
        have t125 : ((10 : Nat) : Int) = 10 := ti_eq c124 (nI_toInt (by omega)) (by decide)
        refine lv_iconst (v := 0) hx hb dX12_readPart_46 (by decide) ?_
        exact W.zret (v := 0) hx hb hr (by decide) (fun t ht hW => ⟨⟨0, (u6, u7, sv, ld, vS, vN), rfl, (by exact ⟨(by have q8 := ti_all u6; omega), (by have q8 := ti_all u7; omega), (by have q8 := ti_all sv; omega), (rg_t (a := 0) (by decide) (by first | decide | omega) (by first | decide | omega)), (fun h => absurd h (by decide)), (by omega), hlg, (by have := tn_of (show u7.toInt = u7.toInt from rfl) (by omega); have := tn_of (show u6.toInt = u6.toInt from rfl) (by omega); have := tn_of (show en.toInt = en.toInt from rfl) (by omega); have := tn_of (show pt.toInt = pt.toInt from rfl) (by omega); rw [hf19]; exact Or.inr ⟨by decide, Or.inr ⟨pr_w0 (by omega) (by rw [hf20]; omega) (fun j hj => by rw [hf20]; exact hj72 j (by omega)), rfl, rfl⟩⟩), zKp.rf, zKp.rf, (fun h8 => absurd h8 (by decide))⟩), by (try dsimp only); rw [ht]; exact ⟨hT, hF, m70, m71, m69, m66, m67⟩⟩, hS.F ht⟩) hS.2.2 dX12_readPart_47
      | succ n120 ih120 =>
        intro i64 hn120 hlo121 hj72 H locs hT hF hS m65 m66 m67 m68 m69 m70 m71 ls hl
        have hlt125 : i64 < 10 := by omega
        refine lv_iload_n hx hb dX12_readPart_17 rfl (lv_at hl 0 rfl) ?_
        refine lv_bipush (v := 10) hx hb dX12_readPart_18 (by decide) ?_
        refine lv_icmp_ge (tgt := 40) hx hb dX12_readPart_20 (by decide) (fun c126 => (by exfalso; have q9 : 10 ≤ ((i64 : Nat) : Int) := ti_le c126 (by decide) (nI_toInt (by omega)); omega)) (fun c126 => ?_)
        have t127 : ((i64 : Nat) : Int) < 10 := ti_nle c126 (by decide) (nI_toInt (by omega))
        refine lv_aload_n hx hb dX12_readPart_23 rfl (lv_at hl 1 rfl) ?_
        refine lv_iload_n hx hb dX12_readPart_24 rfl (lv_at hl 0 rfl) ?_
        have hFc := gA_free hG hA hS
        refine va_callr (va_runS (As := [.int (nI i64)]) (rest := [.ref o0]) ⟨hx, hb, hml, hown, hts⟩ (s_fact l dC dI kA adK adV G H q wZ wN wH wB wC wL wK wU wV PI im PM PT (lD (dS S0 lb sv.toInt ld) lS) lB lE lN (nI i64) hT (rg_t (a := ((i64 : Nat) : Int)) (nI_toInt (by omega)) (by omega) (by omega)) hgz hgn hgh hgb hgc hgi hgu) (va_cwS 1 hts (goodIn_app (goodIn_r _ [31, 32, 10] rfl (by decide +kernel)) (goodIn_ca (goodIn_r _ [30] rfl (by decide +kernel)) (bs_in _ _))) rfl rfl rfl (by decide +kernel) ⟨(Nat.le_of_ble_eq_true rfl), (Nat.le_of_ble_eq_true rfl)⟩) ⟨fun a U g mk q => by obtain ⟨q0, q1, qK, qE⟩ := q; exact ⟨q0, q1, va_K.moved (u := U) (U := U.calling g mk a) (Vm.Alike.refl U.vm) qK, EVS.blind g mk a qE⟩, fun U hU hW => ⟨rfl, hU, va_K.moved hW.alike hK, hE.call hS hFc hU hW⟩⟩ rfl rfl hl.1 rfl (lv_room (Nat.le_of_ble_eq_true rfl)) dX12_readPart_25 ⟨(Nat.le_of_ble_eq_true rfl), (Nat.le_of_ble_eq_true rfl)⟩) hS (fun q _ h => hFc q h) hFc (fun u r128 t H locs ht hvm hw129 hB _ _ hS => ?_)
        obtain ⟨hr9, hT, hF1⟩ := hB
        rw [ht] at hT hF1
        have m130 := m65.kept (hF1.arr hg1 skm_11 (by decide))
        have m131 := m66.kept (hF1.arr hg2 skm_27 (by decide))
        have m132 := m67.kept (hF1.arr hg3 skm_28 (by decide))
        have m133 := (hF1.fld hr_o0 skm_0 (k := 13) (by decide) (by decide)).trans m68
        have m134 := (hF1.fld hr_o0 skm_0 (k := 28) (by decide) (by decide)).trans m69
        have m135 := (hF1.fld hr_o0 skm_0 (k := 12) (by decide) (by decide)).trans m70
        have m136 := (hF1.fld hr_o0 skm_0 (k := 14) (by decide) (by decide)).trans m71
        have hF := hF.more hF1 (by decide)
        rw [show (nI i64).toNatClampNeg = i64 from tn_nI (by omega)] at hr9
        subst hr9
        try dsimp only at hw129
        have hFc := gA_free hG hA hS
        refine va_calli (va_runV (As := [.ref (adK i64)]) (rest := []) ⟨hx, hb, hml, hown, hts⟩ (s_isWord l dC dI kA adK adV G H q wZ wN wH wB wC wL wK wU wV PI im PM PT (lD (dS S0 lb sv.toInt ld) lS) lB lE lN o0 u6 u7 vt i64 hT hr_o0 m135 m136 (by have q8 := ti_all u6; omega) (by have q8 := ti_all u7; omega) (by have := (show u6.toInt = u6.toInt from rfl); have := (show u7.toInt = u7.toInt from rfl); omega) (by first | omega | decide) m130 hgz hgn hgh hgb hgc hgi hgu) (cwV 1 hts (goodIn_app (goodIn_r _ [66, 67, 68, 10] rfl (by decide +kernel)) (goodIn_ca (goodIn_r _ [33, 4, 11, 34, 35, 36, 37, 38, 39, 40, 41, 42, 43, 44, 45, 6, 46, 47, 48, 49, 50, 51, 52, 53, 54, 55, 56, 57, 58, 59, 60, 61, 62, 63, 64, 65] rfl (by decide +kernel)) (bs_in _ _))) rfl rfl rfl (by decide +kernel) ⟨(Nat.le_of_ble_eq_true rfl), (Nat.le_of_ble_eq_true rfl)⟩) ⟨fun a U g mk q => by obtain ⟨q0, q1, qK, qE⟩ := q; exact ⟨q0, q1, va_K.moved (u := U) (U := U.calling g mk a) (Vm.Alike.refl U.vm) qK, EVS.blind g mk a qE⟩, gH_rc hK hT hr_o0 shm_0 rfl, fun U hU hW => ⟨rfl, hU, va_K.moved hW.alike hK, hE.call hS hFc hU hW⟩⟩ rfl rfl hl.1 rfl (lv_room (Nat.le_of_ble_eq_true rfl)) dX12_readPart_28 ⟨(Nat.le_of_ble_eq_true rfl), (Nat.le_of_ble_eq_true rfl)⟩) hS (fun q _ h => hFc q h) hFc (fun r137 u t H locs ht hvm hw138 hB _ _ hS => ?_)
        obtain ⟨hT, hF1⟩ := hB
        rw [ht] at hT hF1
        have m139 := m130.kept (hF1.arr hg1 skm_11 (by decide))
        have m140 := m131.kept (hF1.arr hg2 skm_27 (by decide))
        have m141 := m132.kept (hF1.arr hg3 skm_28 (by decide))
        have m142 := (hF1.fld hr_o0 skm_0 (k := 13) (by decide) (by decide)).trans m133
        have m143 := (hF1.fld hr_o0 skm_0 (k := 28) (by decide) (by decide)).trans m134
        have m144 := (hF1.fld hr_o0 skm_0 (k := 12) (by decide) (by decide)).trans m135
        have m145 := (hF1.fld hr_o0 skm_0 (k := 14) (by decide) (by decide)).trans m136
        have hF := hF.more hF1 (by decide)
        try dsimp only at hw138
        obtain ⟨h146, hi147, hf148⟩ := hw138
        refine lv_if_ne (tgt := 40) hx hb dX12_readPart_31 (by decide) (fun c149 => ?_) (fun c149 => ?_)
        · have t150 : r137.toInt ≠ 0 := ti_ne c149 rfl (by decide)
          have t151 : u6.toInt - u7.toInt = ((sLn i64 : Nat) : Int) := hi147 ((bit_of ⟨by omega, by omega⟩).resolve_left c149)
          refine lv_iload_n hx hb dX12_readPart_40 rfl (lv_at hl 0 rfl) ?_
          refine lv_bipush (v := 10) hx hb dX12_readPart_41 (by decide) ?_
          refine lv_icmp_ne (tgt := 48) hx hb dX12_readPart_43 (by decide) (fun c152 => ?_) (fun c152 => (by exfalso; have q9 : ((i64 : Nat) : Int) = 10 := ti_eq c152 (nI_toInt (by omega)) (by decide); omega))
          have t153 : ((i64 : Nat) : Int) ≠ 10 := ti_ne c152 (nI_toInt (by omega)) (by decide)
          refine lv_aload_n hx hb dX12_readPart_48 rfl (lv_at hl 1 rfl) ?_
          refine lv_iload_n hx hb dX12_readPart_49 rfl (lv_at hl 0 rfl) ?_
          refine lv_iconst (v := 0) hx hb dX12_readPart_50 (by decide) ?_
          have hFc := gA_free hG hA hS
          refine va_callv (va_runV (As := [.int (nI i64), .int 0]) (rest := []) ⟨hx, hb, hml, hown, hts⟩ (s_adds l dC dI kA adK adV G H q wZ wN wH wB wC wL wK wU wV PI im PM PT lS lB lE lN o0 (nI i64) 0 sv vS vN S0 lb ld (ld sv.toNatClampNeg + 1) hT hr_o0 m143 (by have q8 := ti_all sv; omega) (by have q9 := (show (nI i64).toInt = ((i64 : Nat) : Int) from (nI_toInt (by omega))); unfold stp; omega) hS0 (by have := (show sv.toInt = sv.toInt from rfl); omega) hlg m140 m141 hgz hgn hgh hgb hgc hgi hgu) (cwV 2 hts (goodIn_app (goodIn_r _ [27, 28, 29, 10] rfl (by decide +kernel)) (goodIn_ca (goodIn_r _ [23, 24, 25, 26] rfl (by decide +kernel)) (bs_in _ _))) rfl rfl rfl (by decide +kernel) ⟨(Nat.le_of_ble_eq_true rfl), (Nat.le_of_ble_eq_true rfl)⟩) ⟨fun a U g mk q => by obtain ⟨q0, q1, qK, qE⟩ := q; exact ⟨q0, q1, va_K.moved (u := U) (U := U.calling g mk a) (Vm.Alike.refl U.vm) qK, EVS.blind g mk a qE⟩, gH_rc hK hT hr_o0 shm_0 rfl, fun U hU hW => ⟨rfl, hU, va_K.moved hW.alike hK, hE.call hS hFc hU hW⟩⟩ rfl rfl hl.1 rfl (lv_room (Nat.le_of_ble_eq_true rfl)) dX12_readPart_51 ⟨(Nat.le_of_ble_eq_true rfl), (Nat.le_of_ble_eq_true rfl)⟩) hS (fun q _ h => hFc q h) hFc (fun u t H locs ht hvm hw155 hB _ _ hS => ?_)
          obtain ⟨u156, u157⟩ := u
          obtain ⟨hT, hF1, m158, m159, m160⟩ := hB
          rw [ht] at hT hF1 m158 m159 m160
          have m166 := (hF1.fld hr_o0 skm_0 (k := 12) (by decide) (by decide)).trans m144
          have m167 := (hF1.fld hr_o0 skm_0 (k := 14) (by decide) (by decide)).trans m145
          have hF := hF.more hF1 (by decide)
          try dsimp only at hw155
          obtain ⟨h168, hf169, hf170, hf171⟩ := hw155
          refine lv_iconst (v := 1) hx hb dX12_readPart_54 (by decide) ?_
          exact W.zret (v := 1) hx hb hr (by decide) (fun t ht hW => ⟨⟨1, (u6, u7, u156, u157, (cu vS (800 + sv.toNatClampNeg) (nI i64)), (cu vN (800 + sv.toNatClampNeg) 0)), rfl, (by exact ⟨(by have q8 := ti_all u6; omega), (by have q8 := ti_all u7; omega), (by have q8 := ti_all u156; omega), (rg_t (a := 1) (by decide) (by first | decide | omega) (by first | decide | omega)), (fun _ => (by omega)), (by omega), hf171, (by have := tn_of (show u7.toInt = u7.toInt from rfl) (by omega); have := tn_of (show u6.toInt = u6.toInt from rfl) (by omega); have := tn_of (show en.toInt = en.toInt from rfl) (by omega); have := tn_of (show pt.toInt = pt.toInt from rfl) (by omega); rw [hf19]; have h9 := (hf148.resolve_right (fun h8 => by have := h8.1; omega)).2; rw [← hf20] at h9; obtain ⟨k1, k2⟩ := pw_1 (i := i64) (by omega) (by omega) h9; exact Or.inl ⟨by decide, Or.inl ⟨Or.inl (by rw [k1]; exact sC_f (by omega)), rfl, by unfold xn; rw [k2, hf20]; rfl⟩⟩), (zKp.rf.st (by have := tn_of (show sv.toInt = sv.toInt from rfl) (by omega); omega)), (zKp.rf.st (by have := tn_of (show sv.toInt = sv.toInt from rfl) (by omega); omega)), (fun _ => by have := tn_of (show u7.toInt = u7.toInt from rfl) (by omega); have := tn_of (show u6.toInt = u6.toInt from rfl) (by omega); have := tn_of (show en.toInt = en.toInt from rfl) (by omega); have := tn_of (show pt.toInt = pt.toInt from rfl) (by omega); have := tn_of (show sv.toInt = sv.toInt from rfl) (by omega); have := tn_of (show u156.toInt = u156.toInt from rfl) (by omega); rw [hf19]; have h9 := (hf148.resolve_right (fun h8 => by have := h8.1; omega)).2; rw [← hf20] at h9; obtain ⟨k1, k2⟩ := pw_1 (i := i64) (by omega) (by omega) h9; exact ⟨Or.inl (by rw [k1]; exact sC_f (by omega)), zD_1 (by omega) rfl rfl ((zcd_f (by have := (show (nI i64).toInt = ((i64 : Nat) : Int) from (nI_toInt (by omega))); omega) (by have := (show (nI i64).toInt = ((i64 : Nat) : Int) from (nI_toInt (by omega))); omega)).trans (by rw [k1, sC_e (by omega)]; exact (show (nI i64).toInt = ((i64 : Nat) : Int) from (nI_toInt (by omega))))), by unfold xn; rw [k2, hf20]; rfl⟩)⟩), by (try dsimp only); rw [ht]; exact ⟨hT, hF, m166, m167, m158, m159, m160⟩⟩, hS.F ht⟩) hS.2.2 dX12_readPart_55
        · have t172 : r137.toInt = 0 := ti_eq c149 rfl (by decide)
          refine lv_iinc (v := nI (i64 + 1)) (lv' := [(1, .int (nI (i64 + 1))), (0, .ref o0)]) hx hb dX12_readPart_34 hl (k := 0) rfl (nI_add i64 1) (by decide) rfl (fun ls hl => ?_)
          refine lv_goto (tgt := 17) hx hb dX12_readPart_37 (by decide) ?_
          exact ih120 (i64 + 1) (by omega) (by omega) (fun j h9 => by by_cases e9 : j = i64; (rw [e9]; exact (hf148.resolve_left (fun h8 => by have := h8.1; omega)).2); exact hj72 j (by omega)) _ _ hT hF hS m139 m140 m141 m142 m143 m144 m145 ls (lv_sub hl [0, 1] rfl)
    exact key120 (10 - 0) 0 (by omega) (Nat.le_refl _) (fun j h9 => absurd h9 (Nat.not_lt_zero j)) _ _ hT hF hS m13 m14 m15 m11 m12 m8 m9 ls (lv_sub hl [0, 1] rfl)
def w_s_readSum : List Cond := .code yX12_readSum cX12_readSum 1 (some .boolean) :: (HAppend.hAppend (α := List Cond) (β := List Cond) (γ := List Cond) [.code yX12_readPart cX12_readPart 2 (some .boolean), .code yX12_word cX12_word 1 none, .code yX12_blanks cX12_blanks 1 none, .code yX12_isAt cX12_isAt 3 (some .boolean), .fieldLink RX12 335 "SeaLandModel" "point" "I", .fieldLink RX12 338 "SeaLandModel" "end" "I", .fieldLink RX12 31 "SeaLandModel" "tape" "[B", .methodLink RX12 341 yX12_isAt, .instanceMethod yX12_isAt, .selects RX12 yX12_isAt yX12_isAt, .initialized RX12, .fieldLink RX12 345 "SeaLandModel" "begin" "I", .methodLink RX12 348 yX12_blanks, .instanceMethod yX12_blanks, .selects RX12 yX12_blanks yX12_blanks, .methodLink RX12 360 yX12_word, .instanceMethod yX12_word, .selects RX12 yX12_word yX12_word, .constant RX12 390 99999, .code yX12_number cX12_number 3 (some .int), .methodLink RX12 391 yX12_number, .instanceMethod yX12_number, .selects RX12 yX12_number yX12_number, .code yX12_adds cX12_adds 3 none, .fieldLink RX12 66 "SeaLandModel" "step" "[I", .fieldLink RX12 367 "SeaLandModel" "steps" "I", .fieldLink RX12 69 "SeaLandModel" "than" "[I", .methodLink RX12 387 yX12_adds, .instanceMethod yX12_adds, .selects RX12 yX12_adds yX12_adds, .code yX12_fact cX12_fact 1 (some (.object "java/lang/String")), .methodLink RX12 383 yX12_fact, .static yX12_fact, .code yX12_isWord cX12_isWord 4 (some .boolean), .code yJ0_length_8abf5 cJ0_length_8abf5 1 (some .int), .fieldLink RJ0 9 "java/lang/String" "value" "[B", .code yJ0_coder_7d493 cJ0_coder_7d493 1 (some .byte), .fieldLink RJ0 38 "java/lang/String" "COMPACT_STRINGS" "Z", .fieldLink RJ0 15 "java/lang/String" "coder" "B", .methodLink RJ0 335 yJ0_coder_7d493, .instanceMethod yJ0_coder_7d493, .selects RJ0 yJ0_coder_7d493 yJ0_coder_7d493, .initialized RJ0, .methodLink RX12 351 yJ0_length_8abf5, .instanceMethod yJ0_length_8abf5, .selects RJ0 yJ0_length_8abf5 yJ0_length_8abf5, .code yJ0_charAt_5068e cJ0_charAt_5068e 2 (some .char), .code yJ0_isLatin1_aae02 cJ0_isLatin1_aae02 1 (some .boolean), .methodLink RJ0 492 yJ0_isLatin1_aae02, .instanceMethod yJ0_isLatin1_aae02, .selects RJ0 yJ0_isLatin1_aae02 yJ0_isLatin1_aae02, .code yJ1_charAt_3b067 cJ1_charAt_3b067 2 (some .char), .code yJ0_checkIndex_df160 cJ0_checkIndex_df160 2 none, .fieldLink RJ0 1053 "jdk/internal/util/Preconditions" "SIOOBE_FORMATTER" "Ljava/util/function/BiFunction;", .code yJ3_checkIndex_8e157 cJ3_checkIndex_8e157 3 (some .int), .methodLink RJ0 1059 yJ3_checkIndex_8e157, .static yJ3_checkIndex_8e157, .initialized RJ3, .methodLink RJ1 9 yJ0_checkIndex_df160, .static yJ0_checkIndex_df160, .methodLink RJ0 495 yJ1_charAt_3b067, .static yJ1_charAt_3b067, .initialized RJ1, .methodLink RX12 356 yJ0_charAt_5068e, .instanceMethod yJ0_charAt_5068e, .selects RJ0 yJ0_charAt_5068e yJ0_charAt_5068e, .methodLink RX12 363 yX12_isWord, .instanceMethod yX12_isWord, .selects RX12 yX12_isWord yX12_isWord, .methodLink RX12 394 yX12_readPart, .instanceMethod yX12_readPart, .selects RX12 yX12_readPart yX12_readPart, .code yX12_sign cX12_sign 2 (some .boolean), .methodLink RX12 398 yX12_sign, .instanceMethod yX12_sign, .selects RX12 yX12_sign yX12_sign] bs)
set_option maxHeartbeats 4000000 in
set_option maxRecDepth 100000 in
theorem s_readSum (l : Launch) (dC : Nat → ClassId) (dI : Nat → Nat → Nat) (kA : Nat → ClassId) (adK adV : Nat → Nat) (G : gT) (H0 : Heap) (q : Nat → Nat) (wZ wN : Nat → Int) (wH wB wC : Int) (wL wK : Nat → Prop) (wU wV : Nat → Nat) (PI : Nat → Int → Prop) (im : Int) (PM PT : Nat → Int → Prop) (lS lB lE : Nat → Nat → Int → Prop) (lN : Nat → Int) (o0 : Nat) (pt : Int32) (en : Int32) (sv : Int32) (vt : Nat → Int32) (vS : Nat → Int32) (vN : Nat → Int32) (S0 : Nat → Int → Prop) (lb : Int) (ld : Nat → Int) (N : Nat) (hT : gH (dC, dI) kA (SHm q (wP wZ wN wH wB wC wL wK wU wV) PI im PM PT (lD (dS S0 lb sv.toInt ld) lS) lB lE lN) G H0) (hr_o0 : G o0 = some 0) (hm_pt : el H0 o0 (dI 15 12) = some (.int pt)) (hm_en : el H0 o0 (dI 15 13) = some (.int en)) (hm_sv : el H0 o0 (dI 15 28) = some (.int sv)) (hq0 : 0 ≤ pt.toInt ∧ pt.toInt ≤ 400) (hq1 : 0 ≤ en.toInt ∧ en.toInt ≤ 400) (hq2 : 0 ≤ sv.toInt ∧ sv.toInt ≤ 400) (hpe : pt.toInt ≤ en.toInt) (hsp : sv.toInt ≤ pt.toInt) (hS0 : ∀ (i : Nat) x, lb ≤ (i : Int) → S0 i x) (hlb : 0 ≤ lb ∧ lb ≤ sv.toInt) (hlg : lG lb ld) (hd0 : 0 ≤ ld sv.toNatClampNeg) (hN : en.toInt = ((N : Nat) : Int)) (hc_vt : ct H0 (q 10) 400 vt) (hc_vS : ct H0 (q 26) 1200 vS) (hc_vN : ct H0 (q 27) 1200 vN) (hgz : ∀ i, 0 ≤ wZ i) (hgn : ∀ i, 6500000 ≤ wN i ∧ wN i ≤ 20200000) (hgh : 0 ≤ wH ∧ wH ≤ 40000) (hgb : 0 ≤ wB ∧ wB ≤ 3850000) (hgc : 0 ≤ wC ∧ wC ≤ 30) (hgi : 0 ≤ im ∧ im ≤ 1) (hgu : ∀ a t, G a = some (t + 1) → a = q t) : Met l yX12_readSum w_s_readSum ({ frames := 6, cells := 0, slots := 0, locals := 129 }) (va_Pc [.ref o0] (fun U => U.heap = H0 ∧ va_K (dC, dI) vwCl (tyl kA) U ∧ EVS adK adV (gA G H0.size) U U.heap)) (va_Qi (fun (r : Int32) (u : Int32 × Int32 × Int32 × (Nat → Int) × (Nat → Int32) × (Nat → Int32)) => match u with | (p1, b1, s1, ld1, vS1, vN1) => (0 ≤ p1.toInt ∧ p1.toInt ≤ 400) ∧ (0 ≤ b1.toInt ∧ b1.toInt ≤ 400) ∧ (0 ≤ s1.toInt ∧ s1.toInt ≤ 400) ∧ (0 ≤ r.toInt ∧ r.toInt ≤ 1) ∧ (r = 1 → ld1 s1.toNatClampNeg = ld sv.toNatClampNeg + 1) ∧ (pt.toInt ≤ p1.toInt ∧ p1.toInt ≤ en.toInt ∧ sv.toInt ≤ s1.toInt ∧ s1.toInt - sv.toInt ≤ p1.toInt - pt.toInt) ∧ (lG lb ld1) ∧ ((r.toInt = 1 ∧ smR (kd (tx vt) N) (xn (tx vt) N) (skp (tx vt) N pt.toNatClampNeg) 1 (skp (tx vt) N p1.toNatClampNeg)) ∨ (r.toInt = 0 ∧ smR (kd (tx vt) N) (xn (tx vt) N) (skp (tx vt) N pt.toNatClampNeg) 0 b1.toNatClampNeg)) ∧ (zKp vS vS1 (800 + sv.toNatClampNeg)) ∧ (zKp vN vN1 (800 + sv.toNatClampNeg)) ∧ (r.toInt = 1 → zlZ (kd (tx vt) N) (xn (tx vt) N) (zpZ (kd (tx vt) N) (xn (tx vt) N)) 10 (skp (tx vt) N pt.toNatClampNeg) (zC (zwo 800 vS1 vN1) sv.toNatClampNeg s1.toNatClampNeg) (skp (tx vt) N p1.toNatClampNeg))) (fun (u : Int32 × Int32 × Int32 × (Nat → Int) × (Nat → Int32) × (Nat → Int32)) (t : State) => match u with | (p1, b1, s1, ld1, vS1, vN1) => gH (dC, dI) kA (SHm q (wP wZ wN wH wB wC wL wK wU wV) PI im PM PT (lD (dS S0 lb s1.toInt ld1) lS) lB lE lN) G t.heap ∧ gF (dC, dI) SKm G ([(0, 12), (0, 14), (0, 28), (27, 0), (28, 0)] : List (Nat × Nat)) H0 t.heap ∧ el t.heap o0 (dI 15 12) = some (.int p1) ∧ el t.heap o0 (dI 15 14) = some (.int b1) ∧ el t.heap o0 (dI 15 28) = some (.int s1) ∧ ct t.heap (q 26) 1200 vS1 ∧ ct t.heap (q 27) 1200 vN1) (gA G H0.size)) 0 0 (gA G H0.size) := by
  refine Met.ofW (cc := cX12_readSum) (maxL := 1) (ret := (some .boolean)) (by decide) rfl ?_
  intro p e s m args below meth c s₁ B hml hv
  obtain ⟨rfl, hH0, hK, hE⟩ := hv
  have hx := B.exec
  have hb := B.bytes
  have hr := B.returns
  have hts := atoms_spec (ws := w_s_readSum) B.pre
  have hown : s.vm.findClass RX12 = some m.cls := findClass_of_methodNamed B.named
  have hlocks := B.notSynchronized
  subst hH0
  generalize hAe : gA G s.heap.size = A at hE ⊢
  have hA : ∀ q : Nat, s.heap.size ≤ q → A q := fun q h => by rw [← hAe]; exact Or.inr h
  have hG := gA_of hAe
  have hS : va_S A s.heap s.heap [] := va_S.rf
  have hF : gF (dC, dI) SKm G ([(0, 12), (0, 14), (0, 28), (27, 0), (28, 0)] : List (Nat × Nat)) s.heap s.heap := gF.rf
  have hl := lv_entry ([.ref o0]) (n := 1) (Nat.le_of_ble_eq_true rfl)
  rw [lg_entry_eq]
  generalize (lg_sl ([.ref o0]) ++ List.replicate (1 - (lg_sl ([.ref o0])).length) Slot.unset).toArray = ls at hl ⊢
  have hl : lv_has ls 1 [(0, .ref o0)] := hl
  have hg1 : G (q 10) = some 11 := gx_of hT hr_o0 shm_0 (k := 10) (by decide) rfl
  have hg2 : G (q 26) = some 27 := gx_of hT hr_o0 shm_0 (k := 26) (by decide) rfl
  have hg3 : G (q 27) = some 28 := gx_of hT hr_o0 shm_0 (k := 27) (by decide) rfl
  refine lv_aload_n hx hb dX12_readSum_0 rfl (lv_at hl 0 rfl) ?_
  have hFc := gA_free hG hA hS
  refine va_calli (va_runV (As := []) (rest := []) ⟨hx, hb, hml, hown, hts⟩ (s_readPart l dC dI kA adK adV G s.heap q wZ wN wH wB wC wL wK wU wV PI im PM PT lS lB lE lN o0 pt en sv vt vS vN S0 lb ld N hT hr_o0 hm_pt hm_en hm_sv (by have q8 := ti_all pt; omega) (by have q8 := ti_all en; omega) (by have q8 := ti_all sv; omega) (by have := (show pt.toInt = pt.toInt from rfl); have := (show en.toInt = en.toInt from rfl); omega) (by have := (show sv.toInt = sv.toInt from rfl); have := (show pt.toInt = pt.toInt from rfl); omega) hS0 (by have := (show sv.toInt = sv.toInt from rfl); omega) hlg (by omega) hN hc_vt hc_vS hc_vN hgz hgn hgh hgb hgc hgi hgu) (cwV 0 hts (goodIn_app (goodIn_r _ [70, 71, 72, 11] rfl (by decide +kernel)) (goodIn_ca (goodIn_r _ [1, 2, 3, 4, 5, 6, 7, 8, 9, 10, 11, 12, 13, 14, 15, 16, 17, 18, 19, 20, 21, 22, 23, 24, 25, 26, 27, 28, 29, 30, 31, 32, 33, 34, 35, 36, 37, 38, 39, 40, 41, 42, 43, 44, 45, 46, 47, 48, 49, 50, 51, 52, 53, 54, 55, 56, 57, 58, 59, 60, 61, 62, 63, 64, 65, 66, 67, 68, 69] rfl (by decide +kernel)) (bs_in _ _))) rfl rfl rfl (by decide +kernel) ⟨(Nat.le_of_ble_eq_true rfl), (Nat.le_of_ble_eq_true rfl)⟩) ⟨fun a U g mk q => by obtain ⟨q0, q1, qK, qE⟩ := q; exact ⟨q0, q1, va_K.moved (u := U) (U := U.calling g mk a) (Vm.Alike.refl U.vm) qK, EVS.blind g mk a qE⟩, gH_rc hK hT hr_o0 shm_0 rfl, fun U hU hW => ⟨rfl, hU, va_K.moved hW.alike hK, hE.call hS hFc hU hW⟩⟩ rfl rfl hl.1 rfl (lv_room (Nat.le_of_ble_eq_true rfl)) dX12_readSum_1 ⟨(Nat.le_of_ble_eq_true rfl), (Nat.le_of_ble_eq_true rfl)⟩) hS (fun q _ h => hFc q h) hFc (fun r4 u t H locs ht hvm hw5 hB _ _ hS => ?_)
  obtain ⟨u6, u7, u8, u9, u10, u11⟩ := u
  obtain ⟨hT, hF1, m12, m13, m14, m15, m16⟩ := hB
  rw [ht] at hT hF1 m12 m13 m14 m15 m16
  have m18 := (hF1.fld hr_o0 skm_0 (k := 13) (by decide) (by decide)).trans hm_en
  have m20 := hc_vt.kept (hF1.arr hg1 skm_11 (by decide))
  have hF := hF.more hF1 (by decide)
  try dsimp only at hw5
  obtain ⟨h23, h24, h25, h26, hi27, hf28, hf29, hf30, hf31, hf32, hf33⟩ := hw5
  refine lv_if_ne (tgt := 9) hx hb dX12_readSum_4 (by decide) (fun c34 => ?_) (fun c34 => ?_)
  · have t35 : r4.toInt ≠ 0 := ti_ne c34 rfl (by decide)
    have t36 : u9 u8.toNatClampNeg = ld sv.toNatClampNeg + 1 := hi27 ((bit_of ⟨by omega, by omega⟩).resolve_left c34)
    have key231 : ∀ (n231 : Nat), ∀ (gld131 : Nat → Int), ∀ (V133 : Nat → Int32), ∀ (V135 : Nat → Int32), ∀ (z138 : Int32), ∀ (z141 : Int32), ∀ (z144 : Int32), (400 - z138.toInt < ((n231 : Nat) : Int)) → ((0 ≤ z138.toInt ∧ z138.toInt ≤ 400) ∧ (0 ≤ z141.toInt ∧ z141.toInt ≤ 400) ∧ (0 ≤ z144.toInt ∧ z144.toInt ≤ 400) ∧ (lG lb gld131) ∧ (gld131 z144.toNatClampNeg = ld sv.toNatClampNeg + 1) ∧ (pt.toInt ≤ z138.toInt ∧ z138.toInt ≤ en.toInt ∧ sv.toInt ≤ z144.toInt ∧ z144.toInt - sv.toInt ≤ z138.toInt - pt.toInt) ∧ (∀ (r : Int) (f : Nat), lpQ (kd (tx vt) N) (xn (tx vt) N) (pR (kd (tx vt) N) (xn (tx vt) N)) 10 (skp (tx vt) N z138.toNatClampNeg) r f → smR (kd (tx vt) N) (xn (tx vt) N) (skp (tx vt) N pt.toNatClampNeg) r f) ∧ (zlI (kd (tx vt) N) (xn (tx vt) N) (zpZ (kd (tx vt) N) (xn (tx vt) N)) 10 (skp (tx vt) N pt.toNatClampNeg) (zC (zwo 800 V133 V135) sv.toNatClampNeg z144.toNatClampNeg) (skp (tx vt) N z138.toNatClampNeg)) ∧ (zKp vS V133 (800 + sv.toNatClampNeg)) ∧ (zKp vN V135 (800 + sv.toNatClampNeg))) → ∀ (H : Heap) (locs : List Loc), gH (dC, dI) kA (SHm q (wP wZ wN wH wB wC wL wK wU wV) PI im PM PT (lD (dS S0 lb z144.toInt gld131) lS) lB lE lN) G H → gF (dC, dI) SKm G ([(0, 12), (0, 14), (0, 28), (27, 0), (28, 0)] : List (Nat × Nat)) s.heap H → va_S A s.heap H locs → ct H (q 10) 400 vt → ct H (q 26) 1200 V133 → ct H (q 27) 1200 V135 → el H o0 (dI 15 13) = some (.int en) → el H o0 (dI 15 12) = some (.int z138) → el H o0 (dI 15 14) = some (.int z141) → el H o0 (dI 15 28) = some (.int z144) → ∀ ls : Array Slot, lv_has ls 1 [(0, .ref o0)] → W p l e (headSpec w_s_readSum ({ frames := 6, cells := 0, slots := 0, locals := 129 })).room s m #[.ref o0] below meth c H locs 0 0 (MQ below (va_Qi (fun (r : Int32) (u : Int32 × Int32 × Int32 × (Nat → Int) × (Nat → Int32) × (Nat → Int32)) => match u with | (p1, b1, s1, ld1, vS1, vN1) => (0 ≤ p1.toInt ∧ p1.toInt ≤ 400) ∧ (0 ≤ b1.toInt ∧ b1.toInt ≤ 400) ∧ (0 ≤ s1.toInt ∧ s1.toInt ≤ 400) ∧ (0 ≤ r.toInt ∧ r.toInt ≤ 1) ∧ (r = 1 → ld1 s1.toNatClampNeg = ld sv.toNatClampNeg + 1) ∧ (pt.toInt ≤ p1.toInt ∧ p1.toInt ≤ en.toInt ∧ sv.toInt ≤ s1.toInt ∧ s1.toInt - sv.toInt ≤ p1.toInt - pt.toInt) ∧ (lG lb ld1) ∧ ((r.toInt = 1 ∧ smR (kd (tx vt) N) (xn (tx vt) N) (skp (tx vt) N pt.toNatClampNeg) 1 (skp (tx vt) N p1.toNatClampNeg)) ∨ (r.toInt = 0 ∧ smR (kd (tx vt) N) (xn (tx vt) N) (skp (tx vt) N pt.toNatClampNeg) 0 b1.toNatClampNeg)) ∧ (zKp vS vS1 (800 + sv.toNatClampNeg)) ∧ (zKp vN vN1 (800 + sv.toNatClampNeg)) ∧ (r.toInt = 1 → zlZ (kd (tx vt) N) (xn (tx vt) N) (zpZ (kd (tx vt) N) (xn (tx vt) N)) 10 (skp (tx vt) N pt.toNatClampNeg) (zC (zwo 800 vS1 vN1) sv.toNatClampNeg s1.toNatClampNeg) (skp (tx vt) N p1.toNatClampNeg))) (fun (u : Int32 × Int32 × Int32 × (Nat → Int) × (Nat → Int32) × (Nat → Int32)) (t : State) => match u with | (p1, b1, s1, ld1, vS1, vN1) => gH (dC, dI) kA (SHm q (wP wZ wN wH wB wC wL wK wU wV) PI im PM PT (lD (dS S0 lb s1.toInt ld1) lS) lB lE lN) G t.heap ∧ gF (dC, dI) SKm G ([(0, 12), (0, 14), (0, 28), (27, 0), (28, 0)] : List (Nat × Nat)) s.heap t.heap ∧ el t.heap o0 (dI 15 12) = some (.int p1) ∧ el t.heap o0 (dI 15 14) = some (.int b1) ∧ el t.heap o0 (dI 15 28) = some (.int s1) ∧ ct t.heap (q 26) 1200 vS1 ∧ ct t.heap (q 27) 1200 vN1) A) #[.ref o0] s 0 0 A) (F0 m 9 ls []) := by
      intro n231
      induction n231 with
      | zero =>
        intro gld131 V133 V135 z138 z141 z144 hv231 ⟨h139, h142, h145, hg147, hg148, hj149, hj150, hj151, hj152, hj153⟩ H locs hT hF hS m132 m134 m136 m137 m140 m143 m146 ls hl
        exfalso; have q9 := (show z138.toInt = z138.toInt from rfl); omega
      | succ n231 ih231 =>
        intro gld131 V133 V135 z138 z141 z144 hv231 ⟨h139, h142, h145, hg147, hg148, hj149, hj150, hj151, hj152, hj153⟩ H locs hT hF hS m132 m134 m136 m137 m140 m143 m146 ls hl
        refine lv_aload_n hx hb dX12_readSum_9 rfl (lv_at hl 0 rfl) ?_
        refine lv_bipush (v := 43) hx hb dX12_readSum_10 (by decide) ?_
        have hFc := gA_free hG hA hS
        refine va_calli (va_runV (As := [.int 43]) (rest := []) ⟨hx, hb, hml, hown, hts⟩ (s_sign l dC dI kA adK adV G H q wZ wN wH wB wC wL wK wU wV PI im PM PT (lD (dS S0 lb z144.toInt gld131) lS) lB lE lN o0 43 z138 en vt N hT hr_o0 m140 m137 (by have q8 := ti_all z138; omega) (by have q8 := ti_all en; omega) (by have := (show z138.toInt = z138.toInt from rfl); have := (show en.toInt = en.toInt from rfl); omega) hN (by unfold sgS; decide) m132 hgz hgn hgh hgb hgc hgi hgu) (cwV 1 hts (goodIn_app (goodIn_r _ [74, 75, 76, 11] rfl (by decide +kernel)) (goodIn_ca (goodIn_r _ [73, 3, 4, 5, 6, 7, 8, 9, 10, 11, 12, 13, 14, 15] rfl (by decide +kernel)) (bs_in _ _))) rfl rfl rfl (by decide +kernel) ⟨(Nat.le_of_ble_eq_true rfl), (Nat.le_of_ble_eq_true rfl)⟩) ⟨fun a U g mk q => by obtain ⟨q0, q1, qK, qE⟩ := q; exact ⟨q0, q1, va_K.moved (u := U) (U := U.calling g mk a) (Vm.Alike.refl U.vm) qK, EVS.blind g mk a qE⟩, gH_rc hK hT hr_o0 shm_0 rfl, fun U hU hW => ⟨rfl, hU, va_K.moved hW.alike hK, hE.call hS hFc hU hW⟩⟩ rfl rfl hl.1 rfl (lv_room (Nat.le_of_ble_eq_true rfl)) dX12_readSum_12 ⟨(Nat.le_of_ble_eq_true rfl), (Nat.le_of_ble_eq_true rfl)⟩) hS (fun q _ h => hFc q h) hFc (fun r232 u t H locs ht hvm hw233 hB _ _ hS => ?_)
        obtain ⟨u234, u235⟩ := u
        obtain ⟨hT, hF1, m236, m237⟩ := hB
        rw [ht] at hT hF1 m236 m237
        have m238 := m132.kept (hF1.arr hg1 skm_11 (by decide))
        have m239 := m134.kept (hF1.arr hg2 skm_27 (by decide))
        have m240 := m136.kept (hF1.arr hg3 skm_28 (by decide))
        have m241 := (hF1.fld hr_o0 skm_0 (k := 13) (by decide) (by decide)).trans m137
        have m244 := (hF1.fld hr_o0 skm_0 (k := 28) (by decide) (by decide)).trans m146
        have hF := hF.more hF1 (by decide)
        try dsimp only at hw233
        obtain ⟨h245, h246, h247, hi248, hf249, hf250, hf251⟩ := hw233
        refine lv_if_eq (tgt := 37) hx hb dX12_readSum_15 (by decide) (fun c252 => ?_) (fun c252 => ?_)
        · have t253 : r232.toInt = 0 := ti_eq c252 rfl (by decide)
          refine lv_iconst (v := 1) hx hb dX12_readSum_37 (by decide) ?_
          exact W.zret (v := 1) hx hb hr (by decide) (fun t ht hW => ⟨⟨1, (u234, u235, z144, gld131, V133, V135), rfl, (by exact ⟨(by have q8 := ti_all u234; omega), (by have q8 := ti_all u235; omega), (by have q8 := ti_all z144; omega), (rg_t (a := 1) (by decide) (by first | decide | omega) (by first | decide | omega)), (fun _ => (by omega)), (by omega), hg147, (by have a9 := (hf251.resolve_left (fun h8 => by have := h8.2.1; omega)); rw [a9.2.2]; exact Or.inl ⟨by decide, lp_e hj150 (fun h7 => a9.1 (h7.trans (by decide)))⟩), hj152, hj153, (fun _ => by have a9 := (hf251.resolve_left (fun h8 => by have := h8.2.1; omega)); rw [a9.2.2]; exact ⟨hj151, fun h7 => a9.1 (h7.trans (by decide))⟩)⟩), by (try dsimp only); rw [ht]; exact ⟨hT, hF, m236, m237, m244, m239, m240⟩⟩, hS.F ht⟩) hS.2.2 dX12_readSum_38
        · have t254 : r232.toInt ≠ 0 := ti_ne c252 rfl (by decide)
          have t255 : z138.toInt + 1 ≤ u234.toInt := hi248 ((bit_of ⟨by omega, by omega⟩).resolve_left c252)
          refine lv_aload_n hx hb dX12_readSum_18 rfl (lv_at hl 0 rfl) ?_
          have hFc := gA_free hG hA hS
          refine va_calli (va_runV (As := []) (rest := []) ⟨hx, hb, hml, hown, hts⟩ (s_readPart l dC dI kA adK adV G H q wZ wN wH wB wC wL wK wU wV PI im PM PT lS lB lE lN o0 u234 en z144 vt V133 V135 S0 lb gld131 N hT hr_o0 m236 m241 m244 (by have q8 := ti_all u234; omega) (by have q8 := ti_all en; omega) (by have q8 := ti_all z144; omega) (by have := (show u234.toInt = u234.toInt from rfl); have := (show en.toInt = en.toInt from rfl); omega) (by have := (show z144.toInt = z144.toInt from rfl); have := (show u234.toInt = u234.toInt from rfl); omega) hS0 (by have := (show z144.toInt = z144.toInt from rfl); omega) hg147 (by omega) hN m238 m239 m240 hgz hgn hgh hgb hgc hgi hgu) (cwV 0 hts (goodIn_app (goodIn_r _ [70, 71, 72, 11] rfl (by decide +kernel)) (goodIn_ca (goodIn_r _ [1, 2, 3, 4, 5, 6, 7, 8, 9, 10, 11, 12, 13, 14, 15, 16, 17, 18, 19, 20, 21, 22, 23, 24, 25, 26, 27, 28, 29, 30, 31, 32, 33, 34, 35, 36, 37, 38, 39, 40, 41, 42, 43, 44, 45, 46, 47, 48, 49, 50, 51, 52, 53, 54, 55, 56, 57, 58, 59, 60, 61, 62, 63, 64, 65, 66, 67, 68, 69] rfl (by decide +kernel)) (bs_in _ _))) rfl rfl rfl (by decide +kernel) ⟨(Nat.le_of_ble_eq_true rfl), (Nat.le_of_ble_eq_true rfl)⟩) ⟨fun a U g mk q => by obtain ⟨q0, q1, qK, qE⟩ := q; exact ⟨q0, q1, va_K.moved (u := U) (U := U.calling g mk a) (Vm.Alike.refl U.vm) qK, EVS.blind g mk a qE⟩, gH_rc hK hT hr_o0 shm_0 rfl, fun U hU hW => ⟨rfl, hU, va_K.moved hW.alike hK, hE.call hS hFc hU hW⟩⟩ rfl rfl hl.1 rfl (lv_room (Nat.le_of_ble_eq_true rfl)) dX12_readSum_19 ⟨(Nat.le_of_ble_eq_true rfl), (Nat.le_of_ble_eq_true rfl)⟩) hS (fun q _ h => hFc q h) hFc (fun r256 u t H locs ht hvm hw257 hB _ _ hS => ?_)
          obtain ⟨u258, u259, u260, u261, u262, u263⟩ := u
          obtain ⟨hT, hF1, m264, m265, m266, m267, m268⟩ := hB
          rw [ht] at hT hF1 m264 m265 m266 m267 m268
          have m269 := m238.kept (hF1.arr hg1 skm_11 (by decide))
          have m272 := (hF1.fld hr_o0 skm_0 (k := 13) (by decide) (by decide)).trans m241
          have hF := hF.more hF1 (by decide)
          try dsimp only at hw257
          obtain ⟨h276, h277, h278, h279, hi280, hf281, hf282, hf283, hf284, hf285, hf286⟩ := hw257
          refine lv_if_ne (tgt := 27) hx hb dX12_readSum_22 (by decide) (fun c287 => ?_) (fun c287 => ?_)
          · have t288 : r256.toInt ≠ 0 := ti_ne c287 rfl (by decide)
            have t289 : u261 u260.toNatClampNeg = gld131 z144.toNatClampNeg + 1 := hi280 ((bit_of ⟨by omega, by omega⟩).resolve_left c287)
            refine lv_aload_n hx hb dX12_readSum_27 rfl (lv_at hl 0 rfl) ?_
            refine lv_bipush (v := 101) hx hb dX12_readSum_28 (by decide) ?_
            refine lv_iconst (v := 0) hx hb dX12_readSum_30 (by decide) ?_
            have hFc := gA_free hG hA hS
            refine va_callv (va_runV (As := [.int 101, .int 0]) (rest := []) ⟨hx, hb, hml, hown, hts⟩ (s_adds l dC dI kA adK adV G H q wZ wN wH wB wC wL wK wU wV PI im PM PT lS lB lE lN o0 101 0 u260 u262 u263 S0 lb u261 (u261 u260.toNatClampNeg - 1) hT hr_o0 m266 (by have q8 := ti_all u260; omega) (by have q9 := (show (101 : Int32).toInt = 101 from (by decide)); unfold stp; omega) hS0 (by have := (show u260.toInt = u260.toInt from rfl); omega) hf282 m267 m268 hgz hgn hgh hgb hgc hgi hgu) (cwV 2 hts (goodIn_app (goodIn_r _ [28, 29, 30, 11] rfl (by decide +kernel)) (goodIn_ca (goodIn_r _ [24, 25, 26, 27] rfl (by decide +kernel)) (bs_in _ _))) rfl rfl rfl (by decide +kernel) ⟨(Nat.le_of_ble_eq_true rfl), (Nat.le_of_ble_eq_true rfl)⟩) ⟨fun a U g mk q => by obtain ⟨q0, q1, qK, qE⟩ := q; exact ⟨q0, q1, va_K.moved (u := U) (U := U.calling g mk a) (Vm.Alike.refl U.vm) qK, EVS.blind g mk a qE⟩, gH_rc hK hT hr_o0 shm_0 rfl, fun U hU hW => ⟨rfl, hU, va_K.moved hW.alike hK, hE.call hS hFc hU hW⟩⟩ rfl rfl hl.1 rfl (lv_room (Nat.le_of_ble_eq_true rfl)) dX12_readSum_31 ⟨(Nat.le_of_ble_eq_true rfl), (Nat.le_of_ble_eq_true rfl)⟩) hS (fun q _ h => hFc q h) hFc (fun u t H locs ht hvm hw291 hB _ _ hS => ?_)
            obtain ⟨u292, u293⟩ := u
            obtain ⟨hT, hF1, m294, m295, m296⟩ := hB
            rw [ht] at hT hF1 m294 m295 m296
            have m297 := m269.kept (hF1.arr hg1 skm_11 (by decide))
            have m298 := (hF1.fld hr_o0 skm_0 (k := 13) (by decide) (by decide)).trans m272
            have m299 := (hF1.fld hr_o0 skm_0 (k := 12) (by decide) (by decide)).trans m264
            have m300 := (hF1.fld hr_o0 skm_0 (k := 14) (by decide) (by decide)).trans m265
            have hF := hF.more hF1 (by decide)
            try dsimp only at hw291
            obtain ⟨h304, hf305, hf306, hf307⟩ := hw291
            refine lv_goto (tgt := 9) hx hb dX12_readSum_34 (by decide) ?_
            exact ih231 u293 (cu u262 (800 + u260.toNatClampNeg) 101) (cu u263 (800 + u260.toNatClampNeg) 0) u258 u259 u292 (by have q9 := (show u258.toInt = u258.toInt from rfl); omega) ⟨(by have q8 := ti_all u258; omega), (by have q8 := ti_all u259; omega), (by have q8 := ti_all u292; omega), hf307, (by omega), (by have := (show u258.toInt = u258.toInt from rfl); have := (show u292.toInt = u292.toInt from rfl); omega), (by have a9 := (hf251.resolve_right (fun h8 => by have := h8.2.1; omega)); have b9 := (hf283.resolve_right (fun h8 => by have := h8.1; omega)).2; rw [a9.2.2] at b9; exact lp_s hj150 (a9.1.trans (by decide)) b9), (by have := tn_of (show sv.toInt = sv.toInt from rfl) (by omega); have := tn_of (show z144.toInt = z144.toInt from rfl) (by omega); have := tn_of (show u260.toInt = u260.toInt from rfl) (by omega); have := tn_of (show u292.toInt = u292.toInt from rfl) (by omega); have a9 := (hf251.resolve_right (fun h8 => by have := h8.2.1; omega)); have b9 := hf286 (by omega); rw [a9.2.2] at b9; rw [zD_3 (sx := z144.toNatClampNeg) (s2 := u260.toNatClampNeg) (c := 10) (by omega) (by omega) hf284 hf285 (by omega) rfl rfl (by decide)]; exact zlI_s hj151 (a9.1.trans (by decide)) b9), ((hj152.tr hf284 (by have := tn_of (show sv.toInt = sv.toInt from rfl) (by omega); have := tn_of (show z144.toInt = z144.toInt from rfl) (by omega); omega)).st (by have := tn_of (show sv.toInt = sv.toInt from rfl) (by omega); have := tn_of (show u260.toInt = u260.toInt from rfl) (by omega); omega)), ((hj153.tr hf285 (by have := tn_of (show sv.toInt = sv.toInt from rfl) (by omega); have := tn_of (show z144.toInt = z144.toInt from rfl) (by omega); omega)).st (by have := tn_of (show sv.toInt = sv.toInt from rfl) (by omega); have := tn_of (show u260.toInt = u260.toInt from rfl) (by omega); omega))⟩ _ _ hT hF hS m297 m295 m296 m298 m299 m300 m294 ls (lv_sub hl [0] rfl)
          · have t308 : r256.toInt = 0 := ti_eq c287 rfl (by decide)
            refine lv_iconst (v := 0) hx hb dX12_readSum_25 (by decide) ?_
            exact W.zret (v := 0) hx hb hr (by decide) (fun t ht hW => ⟨⟨0, (u258, u259, u260, u261, u262, u263), rfl, (by exact ⟨(by have q8 := ti_all u258; omega), (by have q8 := ti_all u259; omega), (by have q8 := ti_all u260; omega), (rg_t (a := 0) (by decide) (by first | decide | omega) (by first | decide | omega)), (fun h => absurd h (by decide)), (by omega), hf282, (by have a9 := (hf251.resolve_right (fun h8 => by have := h8.2.1; omega)); have b9 := (hf283.resolve_left (fun h8 => by have := h8.1; omega)).2; rw [a9.2.2] at b9; exact Or.inr ⟨by decide, lp_f hj150 (a9.1.trans (by decide)) b9⟩), (hj152.tr hf284 (by have := tn_of (show sv.toInt = sv.toInt from rfl) (by omega); have := tn_of (show z144.toInt = z144.toInt from rfl) (by omega); omega)), (hj153.tr hf285 (by have := tn_of (show sv.toInt = sv.toInt from rfl) (by omega); have := tn_of (show z144.toInt = z144.toInt from rfl) (by omega); omega)), (fun h8 => absurd h8 (by decide))⟩), by (try dsimp only); rw [ht]; exact ⟨hT, hF, m264, m265, m266, m267, m268⟩⟩, hS.F ht⟩) hS.2.2 dX12_readSum_26
    exact key231 401 u9 u10 u11 u6 u7 u8 (by have q9 := (show u6.toInt = u6.toInt from rfl); omega) ⟨(by have q8 := ti_all u6; omega), (by have q8 := ti_all u7; omega), (by have q8 := ti_all u8; omega), hf29, (by omega), (by have := (show u6.toInt = u6.toInt from rfl); have := (show u8.toInt = u8.toInt from rfl); omega), (lp_1 (hf30.resolve_right (fun h8 => by have := h8.1; omega)).2), (zlI_0 (hf33 (by omega))), (zKp.rf.tr hf31 (by have := tn_of (show sv.toInt = sv.toInt from rfl) (by omega); omega)), (zKp.rf.tr hf32 (by have := tn_of (show sv.toInt = sv.toInt from rfl) (by omega); omega))⟩ _ _ hT hF hS m20 m15 m16 m18 m12 m13 m14 ls (lv_sub hl [0] rfl)
  · have t309 : r4.toInt = 0 := ti_eq c34 rfl (by decide)
    refine lv_iconst (v := 0) hx hb dX12_readSum_7 (by decide) ?_
    exact W.zret (v := 0) hx hb hr (by decide) (fun t ht hW => ⟨⟨0, (u6, u7, u8, u9, u10, u11), rfl, (by exact ⟨(by have q8 := ti_all u6; omega), (by have q8 := ti_all u7; omega), (by have q8 := ti_all u8; omega), (rg_t (a := 0) (by decide) (by first | decide | omega) (by first | decide | omega)), (fun h => absurd h (by decide)), (by omega), hf29, (Or.inr ⟨by decide, lp_0 (hf30.resolve_left (fun h8 => by have := h8.1; omega)).2⟩), (zKp.rf.tr hf31 (by have := tn_of (show sv.toInt = sv.toInt from rfl) (by omega); omega)), (zKp.rf.tr hf32 (by have := tn_of (show sv.toInt = sv.toInt from rfl) (by omega); omega)), (fun h8 => absurd h8 (by decide))⟩), by (try dsimp only); rw [ht]; exact ⟨hT, hF, m12, m13, m14, m15, m16⟩⟩, hS.F ht⟩) hS.2.2 dX12_readSum_8
