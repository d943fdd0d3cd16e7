def w_s_adds : List Cond := .code yX12_adds cX12_adds 3 none :: (HAppend.hAppend (α := List Cond) (β := List Cond) (γ := List Cond) [.fieldLink RX12 66 "SeaLandModel" "step" "[I", .fieldLink RX12 367 "SeaLandModel" "steps" "I", .fieldLink RX12 69 "SeaLandModel" "than" "[I"] bs)
set_option maxHeartbeats 4000000 in
set_option maxRecDepth 100000 in
theorem s_adds (l : Launch) (dC : Nat → ClassId) (dI : Nat → Nat → Nat) (kA : Nat → ClassId) (adK adV : Nat → Nat) (G : gT) (H0 : Heap) (q : Nat → Nat) (wZ wN : Nat → Int) (wH wB wC : Int) (wL wK : Nat → Prop) (wU wV : Nat → Nat) (PI : Nat → Int → Prop) (im : Int) (PM PT : Nat → Int → Prop) (lS lB lE : Nat → Nat → Int → Prop) (lN : Nat → Int) (o0 : Nat) (ks : Int32) (nv : Int32) (sv : Int32) (S0 : Nat → Int → Prop) (lb : Int) (ld : Nat → Int) (dc : Int) (hT : gH (dC, dI) kA (SHm q (wP wZ wN wH wB wC wL wK wU wV) PI im PM PT (lD (dS S0 lb sv.toInt ld) lS) lB lE lN) G H0) (hr_o0 : G o0 = some 0) (hm_sv : el H0 o0 (dI 15 28) = some (.int sv)) (hq0 : 0 ≤ sv.toInt ∧ sv.toInt ≤ 399) (hst : stp ks.toInt (ld sv.toNatClampNeg) dc) (hS0 : ∀ (i : Nat) x, lb ≤ (i : Int) → S0 i x) (hlb : 0 ≤ lb ∧ lb ≤ sv.toInt) (hlg : lG lb ld) (hgz : ∀ i, 0 ≤ wZ i) (hgn : ∀ i, 6500000 ≤ wN i ∧ wN i ≤ 20200000) (hgh : 0 ≤ wH ∧ wH ≤ 40000) (hgb : 0 ≤ wB ∧ wB ≤ 3850000) (hgc : 0 ≤ wC ∧ wC ≤ 30) (hgi : 0 ≤ im ∧ im ≤ 1) (hgu : ∀ a t, G a = some (t + 1) → a = q t) : Met l yX12_adds w_s_adds ({ frames := 0, cells := 0, slots := 0, locals := 0 }) (va_Pc [.ref o0, .int ks, .int nv] (fun U => U.heap = H0 ∧ va_K (dC, dI) vwCl (tyl kA) U ∧ EVS adK adV (gA G H0.size) U U.heap)) (va_Qv (fun (u : Int32 × (Nat → Int)) => match u with | (s1, ld1) => (0 ≤ s1.toInt ∧ s1.toInt ≤ 400) ∧ (s1.toInt = sv.toInt + 1) ∧ (ld1 s1.toNatClampNeg = dc) ∧ (lG lb ld1)) (fun (u : Int32 × (Nat → Int)) (t : State) => match u with | (s1, ld1) => gH (dC, dI) kA (SHm q (wP wZ wN wH wB wC wL wK wU wV) PI im PM PT (lD (dS S0 lb s1.toInt ld1) lS) lB lE lN) G t.heap ∧ gF (dC, dI) SKm G ([(0, 28), (27, 0), (28, 0)] : List (Nat × Nat)) H0 t.heap ∧ el t.heap o0 (dI 15 28) = some (.int s1)) (gA G H0.size)) 0 0 (gA G H0.size) := by
  refine Met.ofW (cc := cX12_adds) (maxL := 3) (ret := none) (by decide) rfl ?_
  intro p e s m args below meth c s₁ B hml hv
  obtain ⟨rfl, hH0, hK, hE⟩ := hv
  have hx := B.exec
  have hb := B.bytes
  have hr := B.returns
  have hts := atoms_spec (ws := w_s_adds) B.pre
  have hown : s.vm.findClass RX12 = some m.cls := findClass_of_methodNamed B.named
  have hlocks := B.notSynchronized
  subst hH0
  generalize hAe : gA G s.heap.size = A at hE ⊢
  have hA : ∀ q : Nat, s.heap.size ≤ q → A q := fun q h => by rw [← hAe]; exact Or.inr h
  have hG := gA_of hAe
  have hS : va_S A s.heap s.heap [] := va_S.rf
  have hF : gF (dC, dI) SKm G ([(0, 28), (27, 0), (28, 0)] : List (Nat × Nat)) s.heap s.heap := gF.rf
  have hl := lv_entry ([.ref o0, .int ks, .int nv]) (n := 3) (Nat.le_of_ble_eq_true rfl)
  rw [lg_entry_eq]
  generalize (lg_sl ([.ref o0, .int ks, .int nv]) ++ List.replicate (3 - (lg_sl ([.ref o0, .int ks, .int nv])).length) Slot.unset).toArray = ls at hl ⊢
  have hl : lv_has ls 3 [(0, .ref o0), (1, .int ks), (2, .int nv)] := hl
  refine lv_aload_n hx hb dX12_adds_0 rfl (lv_at hl 0 rfl) ?_
  refine tw_get hx hb hts bF_X12 hown hK hT hr_o0 shm_0 rfl 26 (by decide) (ht_at hts 0 rfl) (fun _ h9 => h9) dX12_adds_1 (fun v9 m1 h9 => ?_)
  obtain ⟨rfl, hg2⟩ := h9 _ rfl
  refine lv_sipush (v := 800) hx hb dX12_adds_4 (by decide) ?_
  refine lv_aload_n hx hb dX12_adds_7 rfl (lv_at hl 0 rfl) ?_
  refine tw_getM (v := .int sv) hx hb hts bF_X12 hown hK hT hr_o0 shm_0 rfl 28 (by decide) (ht_at hts 1 rfl) (fun _ h9 => h9) hm_sv dX12_adds_8 ?_
  refine lv_iadd hx hb dX12_adds_11 ?_
  refine lv_topi (fun x3 ex3 => ?_)
  have t4 : x3.toInt = 800 + sv.toInt := ti_add ex3 (by decide) rfl (by omega) (by omega)
  refine lv_iload_n hx hb dX12_adds_12 rfl (lv_at hl 1 rfl) ?_
  have t5 : ((x3.toNatClampNeg : Nat) : Int) = x3.toInt := tn_of (show x3.toInt = x3.toInt from rfl) (by omega)
  have t6 : ((sv.toNatClampNeg : Nat) : Int) = sv.toInt := tn_of rfl (by omega)
  refine tw_iast2 (Sg1 := (SHm q (wP wZ wN wH wB wC wL wK wU wV) PI im PM PT (lD (dS S0 lb (sv.toInt + 1) (mvu ld (sv.toNatClampNeg + 1) dc)) lS) lB lE lN)) (i := x3) (x := ks) hx hb hK hT hG hS hg2 shm_27 rfl shm_27 shm_o27 (fun b9 h9 => hgu b9 26 h9) (vin_t (a := x3.toInt) rfl (by omega) (by omega)) (⟨_, rfl, ad_hv (v := sv.toNatClampNeg) (by omega) (by omega) (by omega) (hS0 _ _ (by omega)) hst⟩) (fun k9 hk9 hne9 v9 hv9 he9 => by obtain ⟨x9, rfl, p9⟩ := he9; exact ⟨x9, rfl, ad_hm (v := sv.toNatClampNeg) (by omega) hk9 (by omega) p9⟩) dX12_adds_13 (fun H locs hT oq m7 oi hS => ?_)
  have hF := hF.ast hg2 skm_27 oq (by decide)
  have m8 := (el_kept (oq _ (gne hr_o0 hg2 (by decide)))).trans hm_sv
  refine lv_aload_n hx hb dX12_adds_14 rfl (lv_at hl 0 rfl) ?_
  refine tw_get hx hb hts bF_X12 hown hK hT hr_o0 shm_0 rfl 27 (by decide) (ht_at hts 2 rfl) (fun _ h9 => h9) dX12_adds_15 (fun v9 m9 h9 => ?_)
  obtain ⟨rfl, hg10⟩ := h9 _ rfl
  refine lv_sipush (v := 800) hx hb dX12_adds_18 (by decide) ?_
  refine lv_aload_n hx hb dX12_adds_21 rfl (lv_at hl 0 rfl) ?_
  refine tw_getM (v := .int sv) hx hb hts bF_X12 hown hK hT hr_o0 shm_0 rfl 28 (by decide) (ht_at hts 1 rfl) (fun _ h9 => h9) m8 dX12_adds_22 ?_
  refine lv_iadd hx hb dX12_adds_25 ?_
  refine lv_topi (fun x11 ex11 => ?_)
  have t12 : x11.toInt = 800 + sv.toInt := ti_add ex11 (by decide) rfl (by omega) (by omega)
  refine lv_iload_n hx hb dX12_adds_26 rfl (lv_at hl 2 rfl) ?_
  refine tw_iast (i := x11) (x := nv) hx hb hK hT hG hS hg10 shm_28 rfl (vin_t (a := x11.toInt) rfl (by omega) (by omega)) (gi_all _) dX12_adds_27 (fun H locs hT oq m13 oi hS => ?_)
  have hF := hF.ast hg10 skm_28 oq (by decide)
  have m14 := (el_kept (oq _ (gne hr_o0 hg10 (by decide)))).trans m8
  have m15 := (el_kept (oq _ (gne hg2 hg10 (by decide)))).trans m7
  refine lv_aload_n hx hb dX12_adds_28 rfl (lv_at hl 0 rfl) ?_
  refine lv_dup hx hb dX12_adds_29 rfl ?_
  refine tw_getM (v := .int sv) hx hb hts bF_X12 hown hK hT hr_o0 shm_0 rfl 28 (by decide) (ht_at hts 1 rfl) (fun _ h9 => h9) m14 dX12_adds_30 ?_
  refine lv_iconst (v := 1) hx hb dX12_adds_33 (by decide) ?_
  refine lv_iadd hx hb dX12_adds_34 ?_
  refine lv_topi (fun x16 ex16 => ?_)
  have t17 : x16.toInt = sv.toInt + 1 := ti_add ex16 rfl (by decide) (by omega) (by omega)
  refine tw_put (v := .int x16) (ty := .int) hx hb hts bF_X12 tyX12 tyX12_ok nmX12 hown hK hT hG hS hr_o0 shm_0 rfl 28 (by decide) (ht_at hts 1 rfl) (fun _ h9 => h9) rfl (by decide +kernel) rfl rfl (gl_at rfl (gi_of (show x16.toInt = x16.toInt from rfl) (by omega) (by omega))) dX12_adds_35 (fun H locs hT oq m18 oj hS => ?_)
  have hF := hF.put hr_o0 skm_0 oq oj (by decide)
  have m19 := (el_kept (oq _ (gne hg2 hr_o0 (by decide)))).trans m15
  have hT : gH (dC, dI) kA (SHm q (wP wZ wN wH wB wC wL wK wU wV) PI im PM PT (lD (dS S0 lb x16.toInt (mvu ld (sv.toNatClampNeg + 1) dc)) lS) lB lE lN) G H := by rw [show x16.toInt = sv.toInt + 1 from by have q9 := (show x16.toInt = x16.toInt from rfl); omega]; exact hT
  exact W.vret hx hb hr (fun t ht hW => ⟨⟨(x16, (mvu ld (sv.toNatClampNeg + 1) dc)), rfl, (by exact ⟨(by have q8 := ti_all x16; omega), (by omega), (by rw [show x16.toNatClampNeg = sv.toNatClampNeg + 1 from by have q9 := tn_of (show x16.toInt = x16.toInt from rfl) (by omega); omega]; exact mvu_s _ _ _), (lG_u hlg (by omega) hst)⟩), by (try dsimp only); rw [ht]; exact ⟨hT, hF, m18⟩⟩, hS.F ht⟩) hS.2.2 dX12_adds_38
def w_s_readPart : List Cond := .code yX12_readPart cX12_readPart 2 (some .boolean) :: (HAppend.hAppend (α := List Cond) (β := List Cond) (γ := List Cond) [.code yX12_word cX12_word 1 none, .code yX12_blanks cX12_blanks 1 none, .code yX12_isAt cX12_isAt 3 (some .boolean), .fieldLink RX12 335 "SeaLandModel" "point" "I", .fieldLink RX12 338 "SeaLandModel" "end" "I", .fieldLink RX12 31 "SeaLandModel" "tape" "[B", .methodLink RX12 341 yX12_isAt, .instanceMethod yX12_isAt, .selects RX12 yX12_isAt yX12_isAt, .initialized RX12, .fieldLink RX12 345 "SeaLandModel" "begin" "I", .methodLink RX12 348 yX12_blanks, .instanceMethod yX12_blanks, .selects RX12 yX12_blanks yX12_blanks, .methodLink RX12 360 yX12_word, .instanceMethod yX12_word, .selects RX12 yX12_word yX12_word, .constant RX12 390 99999, .code yX12_number cX12_number 3 (some .int), .methodLink RX12 391 yX12_number, .instanceMethod yX12_number, .selects RX12 yX12_number yX12_number, .code yX12_adds cX12_adds 3 none, .fieldLink RX12 66 "SeaLandModel" "step" "[I", .fieldLink RX12 367 "SeaLandModel" "steps" "I", .fieldLink RX12 69 "SeaLandModel" "than" "[I", .methodLink RX12 387 yX12_adds, .instanceMethod yX12_adds, .selects RX12 yX12_adds yX12_adds, .code yX12_fact cX12_fact 1 (some (.object "java/lang/String")), .methodLink RX12 383 yX12_fact, .static yX12_fact, .code yX12_isWord cX12_isWord 4 (some .boolean), .code yJ0_length_8abf5 cJ0_length_8abf5 1 (some .int), .fieldLink RJ0 9 "java/lang/String" "value" "[B", .code yJ0_coder_7d493 cJ0_coder_7d493 1 (some .byte), .fieldLink RJ0 38 "java/lang/String" "COMPACT_STRINGS" "Z", .fieldLink RJ0 15 "java/lang/String" "coder" "B", .methodLink RJ0 335 yJ0_coder_7d493, .instanceMethod yJ0_coder_7d493, .selects RJ0 yJ0_coder_7d493 yJ0_coder_7d493, .initialized RJ0, .methodLink RX12 351 yJ0_length_8abf5, .instanceMethod yJ0_length_8abf5, .selects RJ0 yJ0_length_8abf5 yJ0_length_8abf5, .code yJ0_charAt_5068e cJ0_charAt_5068e 2 (some .char), .code yJ0_isLatin1_aae02 cJ0_isLatin1_aae02 1 (some .boolean), .methodLink RJ0 492 yJ0_isLatin1_aae02, .instanceMethod yJ0_isLatin1_aae02, .selects RJ0 yJ0_isLatin1_aae02 yJ0_isLatin1_aae02, .code yJ1_charAt_3b067 cJ1_charAt_3b067 2 (some .char), .code yJ0_checkIndex_df160 cJ0_checkIndex_df160 2 none, .fieldLink RJ0 1053 "jdk/internal/util/Preconditions" "SIOOBE_FORMATTER" "Ljava/util/function/BiFunction;", .code yJ3_checkIndex_8e157 cJ3_checkIndex_8e157 3 (some .int), .methodLink RJ0 1059 yJ3_checkIndex_8e157, .static yJ3_checkIndex_8e157, .initialized RJ3, .methodLink RJ1 9 yJ0_checkIndex_df160, .static yJ0_checkIndex_df160, .methodLink RJ0 495 yJ1_charAt_3b067, .static yJ1_charAt_3b067, .initialized RJ1, .methodLink RX12 356 yJ0_charAt_5068e, .instanceMethod yJ0_charAt_5068e, .selects RJ0 yJ0_charAt_5068e yJ0_charAt_5068e, .methodLink RX12 363 yX12_isWord, .instanceMethod yX12_isWord, .selects RX12 yX12_isWord yX12_isWord] bs)
set_option maxHeartbeats 4000000 in
set_option maxRecDepth 100000 in
theorem s_readPart (l : Launch) (dC : Nat → ClassId) (dI : Nat → Nat → Nat) (kA : Nat → ClassId) (adK adV : Nat → Nat) (G : gT) (H0 : Heap) (q : Nat → Nat) (wZ wN : Nat → Int) (wH wB wC : Int) (wL wK : Nat → Prop) (wU wV : Nat → Nat) (PI : Nat → Int → Prop) (im : Int) (PM PT : Nat → Int → Prop) (lS lB lE : Nat → Nat → Int → Prop) (lN : Nat → Int) (o0 : Nat) (pt : Int32) (en : Int32) (sv : Int32) (vt : Nat → Int32) (S0 : Nat → Int → Prop) (lb : Int) (ld : Nat → Int) (N : Nat) (hT : gH (dC, dI) kA (SHm q (wP wZ wN wH wB wC wL wK wU wV) PI im PM PT (lD (dS S0 lb sv.toInt ld) lS) lB lE lN) G H0) (hr_o0 : G o0 = some 0) (hm_pt : el H0 o0 (dI 15 12) = some (.int pt)) (hm_en : el H0 o0 (dI 15 13) = some (.int en)) (hm_sv : el H0 o0 (dI 15 28) = some (.int sv)) (hq0 : 0 ≤ pt.toInt ∧ pt.toInt ≤ 400) (hq1 : 0 ≤ en.toInt ∧ en.toInt ≤ 400) (hq2 : 0 ≤ sv.toInt ∧ sv.toInt ≤ 400) (hpe : pt.toInt ≤ en.toInt) (hsp : sv.toInt ≤ pt.toInt) (hS0 : ∀ (i : Nat) x, lb ≤ (i : Int) → S0 i x) (hlb : 0 ≤ lb ∧ lb ≤ sv.toInt) (hlg : lG lb ld) (hd0 : 0 ≤ ld sv.toNatClampNeg) (hN : en.toInt = ((N : Nat) : Int)) (hc_vt : ct H0 (q 10) 400 vt) (hgz : ∀ i, 0 ≤ wZ i) (hgn : ∀ i, 6500000 ≤ wN i ∧ wN i ≤ 20200000) (hgh : 0 ≤ wH ∧ wH ≤ 40000) (hgb : 0 ≤ wB ∧ wB ≤ 3850000) (hgc : 0 ≤ wC ∧ wC ≤ 30) (hgi : 0 ≤ im ∧ im ≤ 1) (hgu : ∀ a t, G a = some (t + 1) → a = q t) : Met l yX12_readPart w_s_readPart ({ frames := 5, cells := 0, slots := 0, locals := 108 }) (va_Pc [.ref o0] (fun U => U.heap = H0 ∧ va_K (dC, dI) vwCl (tyl kA) U ∧ EVS adK adV (gA G H0.size) U U.heap)) (va_Qi (fun (r : Int32) (u : Int32 × Int32 × Int32 × (Nat → Int)) => match u with | (p1, b1, s1, ld1) => (0 ≤ p1.toInt ∧ p1.toInt ≤ 400) ∧ (0 ≤ b1.toInt ∧ b1.toInt ≤ 400) ∧ (0 ≤ s1.toInt ∧ s1.toInt ≤ 400) ∧ (0 ≤ r.toInt ∧ r.toInt ≤ 1) ∧ (r = 1 → ld1 s1.toNatClampNeg = ld sv.toNatClampNeg + 1) ∧ (pt.toInt ≤ p1.toInt ∧ p1.toInt ≤ en.toInt ∧ sv.toInt ≤ s1.toInt ∧ s1.toInt - sv.toInt ≤ p1.toInt - pt.toInt) ∧ (lG lb ld1) ∧ ((r.toInt = 1 ∧ (pR (kd (tx vt) N) (xn (tx vt) N)) (skp (tx vt) N pt.toNatClampNeg) 1 (skp (tx vt) N p1.toNatClampNeg)) ∨ (r.toInt = 0 ∧ (pR (kd (tx vt) N) (xn (tx vt) N)) (skp (tx vt) N pt.toNatClampNeg) 0 b1.toNatClampNeg))) (fun (u : Int32 × Int32 × Int32 × (Nat → Int)) (t : State) => match u with | (p1, b1, s1, ld1) => gH (dC, dI) kA (SHm q (wP wZ wN wH wB wC wL wK wU wV) PI im PM PT (lD (dS S0 lb s1.toInt ld1) lS) lB lE lN) G t.heap ∧ gF (dC, dI) SKm G ([(0, 12), (0, 14), (0, 28), (27, 0), (28, 0)] : List (Nat × Nat)) H0 t.heap ∧ el t.heap o0 (dI 15 12) = some (.int p1) ∧ el t.heap o0 (dI 15 14) = some (.int b1) ∧ el t.heap o0 (dI 15 28) = some (.int s1)) (gA G H0.size)) 0 0 (gA G H0.size) := by
  refine Met.ofW (cc := cX12_readPart) (maxL := 2) (ret := (some .boolean)) (by decide) rfl ?_
  intro p e s m args below meth c s₁ B hml hv
  obtain ⟨rfl, hH0, hK, hE⟩ := hv
  have hx := B.exec
  have hb := B.bytes
  have hr := B.returns
  have hts := atoms_spec (ws := w_s_readPart) B.pre
  have hown : s.vm.findClass RX12 = some m.cls := findClass_of_methodNamed B.named
  have hlocks := B.notSynchronized
  subst hH0
  generalize hAe : gA G s.heap.size = A at hE ⊢
  have hA : ∀ q : Nat, s.heap.size ≤ q → A q := fun q h => by rw [← hAe]; exact Or.inr h
  have hG := gA_of hAe
  have hS : va_S A s.heap s.heap [] := va_S.rf
  have hF : gF (dC, dI) SKm G ([(0, 12), (0, 14), (0, 28), (27, 0), (28, 0)] : List (Nat × Nat)) s.heap s.heap := gF.rf
  have hl := lv_entry ([.ref o0]) (n := 2) (Nat.le_of_ble_eq_true rfl)
  rw [lg_entry_eq]
  generalize (lg_sl ([.ref o0]) ++ List.replicate (2 - (lg_sl ([.ref o0])).length) Slot.unset).toArray = ls at hl ⊢
  have hl : lv_has ls 2 [(0, .ref o0)] := hl
  have hg1 : G (q 10) = some 11 := gx_of hT hr_o0 shm_0 (k := 10) (by decide) rfl
  refine lv_aload_n hx hb dX12_readPart_0 rfl (lv_at hl 0 rfl) ?_
  have hFc := gA_free hG hA hS
  refine va_callv (va_runV (As := []) (rest := []) ⟨hx, hb, hml, hown, hts⟩ (s_word l dC dI kA adK adV G s.heap q wZ wN wH wB wC wL wK wU wV PI im PM PT (lD (dS S0 lb sv.toInt ld) lS) lB lE lN o0 pt en vt N hT hr_o0 hm_pt hm_en (by have q8 := ti_all pt; omega) (by have q8 := ti_all en; omega) (by have := (show pt.toInt = pt.toInt from rfl); have := (show en.toInt = en.toInt from rfl); omega) hN hc_vt hgz hgn hgh hgb hgc hgi hgu) (cwV 0 hts (goodIn_app (goodIn_r _ [15, 16, 17, 10] rfl (by decide +kernel)) (goodIn_ca (goodIn_r _ [1, 2, 3, 4, 5, 6, 7, 8, 9, 10, 11, 12, 13, 14] rfl (by decide +kernel)) (bs_in _ _))) rfl rfl rfl (by decide +kernel) ⟨(Nat.le_of_ble_eq_true rfl), (Nat.le_of_ble_eq_true rfl)⟩) ⟨fun a U g mk q => by obtain ⟨q0, q1, qK, qE⟩ := q; exact ⟨q0, q1, va_K.moved (u := U) (U := U.calling g mk a) (Vm.Alike.refl U.vm) qK, EVS.blind g mk a qE⟩, gH_recv hK hT hr_o0 shm_0 rfl, fun U hU hW => ⟨rfl, hU, va_K.moved hW.alike hK, hE.call hS hFc hU hW⟩⟩ rfl rfl hl.1 rfl (lv_room (Nat.le_of_ble_eq_true rfl)) dX12_readPart_1 ⟨(Nat.le_of_ble_eq_true rfl), (Nat.le_of_ble_eq_true rfl)⟩) hS (fun q _ h => hFc q h) hFc (fun u t H locs ht hvm hw3 hB _ _ hS => ?_)
  obtain ⟨u4, u5⟩ := u
  obtain ⟨hT, hF1, m6, m7⟩ := hB
  rw [ht] at hT hF1 m6 m7
  have m9 := (hF1.fld hr_o0 skm_0 (k := 13) (by decide) (by decide)).trans hm_en
  have m10 := (hF1.fld hr_o0 skm_0 (k := 28) (by decide) (by decide)).trans hm_sv
  have m11 := hc_vt.kept (hF1.arr hg1 skm_11 (by decide))
  have hF := hF.more hF1 (by decide)
  try dsimp only at hw3
  obtain ⟨h12, h13, hf14, hf15, hf16⟩ := hw3
  refine lv_aload_n hx hb dX12_readPart_4 rfl (lv_at hl 0 rfl) ?_
  refine tw_getM (v := .int u4) hx hb hts bF_X12 hown hK hT hr_o0 shm_0 rfl 12 (by decide) (ht_at hts 3 rfl) (fun _ h9 => h9) m6 dX12_readPart_5 ?_
  refine lv_aload_n hx hb dX12_readPart_8 rfl (lv_at hl 0 rfl) ?_
  refine tw_getM (v := .int u5) hx hb hts bF_X12 hown hK hT hr_o0 shm_0 rfl 14 (by decide) (ht_at hts 10 rfl) (fun _ h9 => h9) m7 dX12_readPart_9 ?_
  refine lv_icmp_le (tgt := 56) hx hb dX12_readPart_12 (by decide) (fun c17 => ?_) (fun c17 => ?_)
  · have t18 : u4.toInt ≤ u5.toInt := ti_le c17 rfl rfl
    refine lv_aload_n hx hb dX12_readPart_56 rfl (lv_at hl 0 rfl) ?_
    refine lv_ldcw (v := 99999) hx hb hown (ht_at hts 17 rfl) dX12_readPart_57 ?_
    have hFc := gA_free hG hA hS
    refine va_calli (va_runV (As := [.int 99999]) (rest := []) ⟨hx, hb, hml, hown, hts⟩ (s_number l dC dI kA adK adV G H q wZ wN wH wB wC wL wK wU wV PI im PM PT (lD (dS S0 lb sv.toInt ld) lS) lB lE lN o0 99999 u4 en vt N hT hr_o0 m6 m9 (by have q8 := ti_all u4; omega) (by have q8 := ti_all en; omega) (by have := (show u4.toInt = u4.toInt from rfl); have := (show en.toInt = en.toInt from rfl); omega) hN m11 hgz hgn hgh hgb hgc hgi hgu) (cwV 1 hts (goodIn_app (goodIn_r _ [20, 21, 22, 10] rfl (by decide +kernel)) (goodIn_ca (goodIn_r _ [19, 2, 3, 4, 5, 6, 7, 8, 9, 10, 11, 12, 13, 14] rfl (by decide +kernel)) (bs_in _ _))) rfl rfl rfl (by decide +kernel) ⟨(Nat.le_of_ble_eq_true rfl), (Nat.le_of_ble_eq_true rfl)⟩) ⟨fun a U g mk q => by obtain ⟨q0, q1, qK, qE⟩ := q; exact ⟨q0, q1, va_K.moved (u := U) (U := U.calling g mk a) (Vm.Alike.refl U.vm) qK, EVS.blind g mk a qE⟩, gH_recv hK hT hr_o0 shm_0 rfl, fun U hU hW => ⟨rfl, hU, va_K.moved hW.alike hK, hE.call hS hFc hU hW⟩⟩ rfl rfl hl.1 rfl (lv_room (Nat.le_of_ble_eq_true rfl)) dX12_readPart_60 ⟨(Nat.le_of_ble_eq_true rfl), (Nat.le_of_ble_eq_true rfl)⟩) hS (fun q _ h => hFc q h) hFc (fun r19 u t H locs ht hvm hw20 hB _ _ hS => ?_)
    obtain ⟨u21, u22⟩ := u
    obtain ⟨hT, hF1, m23, m24⟩ := hB
    rw [ht] at hT hF1 m23 m24
    have m25 := (hF1.fld hr_o0 skm_0 (k := 13) (by decide) (by decide)).trans m9
    have m26 := (hF1.fld hr_o0 skm_0 (k := 28) (by decide) (by decide)).trans m10
    have m27 := m11.kept (hF1.arr hg1 skm_11 (by decide))
    have hF := hF.more hF1 (by decide)
    try dsimp only at hw20
    obtain ⟨h30, h31, h32, hf33, hf34, hf35⟩ := hw20
    refine lv_istore_n (lv' := [(1, .int r19), (0, .ref o0)]) hx hb dX12_readPart_63 rfl hl (by decide) rfl (fun ls hl => ?_)
    refine lv_iload_n hx hb dX12_readPart_64 rfl (lv_at hl 0 rfl) ?_
    refine lv_if_ge (tgt := 70) hx hb dX12_readPart_65 (by decide) (fun c36 => ?_) (fun c36 => ?_)
    · have t37 : 0 ≤ r19.toInt := ti_le c36 (by decide) rfl
      refine lv_aload_n hx hb dX12_readPart_70 rfl (lv_at hl 1 rfl) ?_
      refine lv_bipush (v := 100) hx hb dX12_readPart_71 (by decide) ?_
      refine lv_iload_n hx hb dX12_readPart_73 rfl (lv_at hl 0 rfl) ?_
      have hFc := gA_free hG hA hS
      refine va_callv (va_runV (As := [.int 100, .int r19]) (rest := []) ⟨hx, hb, hml, hown, hts⟩ (s_adds l dC dI kA adK adV G H q wZ wN wH wB wC wL wK wU wV PI im PM PT lS lB lE lN o0 100 r19 sv S0 lb ld (ld sv.toNatClampNeg + 1) hT hr_o0 m26 (by have q8 := ti_all sv; omega) (by have q9 := (show (100 : Int32).toInt = 100 from (by decide)); unfold stp; omega) hS0 (by have := (show sv.toInt = sv.toInt from rfl); omega) hlg hgz hgn hgh hgb hgc hgi hgu) (cwV 2 hts (goodIn_app (goodIn_r _ [27, 28, 29, 10] rfl (by decide +kernel)) (goodIn_ca (goodIn_r _ [23, 24, 25, 26] rfl (by decide +kernel)) (bs_in _ _))) rfl rfl rfl (by decide +kernel) ⟨(Nat.le_of_ble_eq_true rfl), (Nat.le_of_ble_eq_true rfl)⟩) ⟨fun a U g mk q => by obtain ⟨q0, q1, qK, qE⟩ := q; exact ⟨q0, q1, va_K.moved (u := U) (U := U.calling g mk a) (Vm.Alike.refl U.vm) qK, EVS.blind g mk a qE⟩, gH_recv hK hT hr_o0 shm_0 rfl, fun U hU hW => ⟨rfl, hU, va_K.moved hW.alike hK, hE.call hS hFc hU hW⟩⟩ rfl rfl hl.1 rfl (lv_room (Nat.le_of_ble_eq_true rfl)) dX12_readPart_74 ⟨(Nat.le_of_ble_eq_true rfl), (Nat.le_of_ble_eq_true rfl)⟩) hS (fun q _ h => hFc q h) hFc (fun u t H locs ht hvm hw39 hB _ _ hS => ?_)
      obtain ⟨u40, u41⟩ := u
      obtain ⟨hT, hF1, m42⟩ := hB
      rw [ht] at hT hF1 m42
      have m43 := (hF1.fld hr_o0 skm_0 (k := 13) (by decide) (by decide)).trans m25
      have m45 := m27.kept (hF1.arr hg1 skm_11 (by decide))
      have m46 := (hF1.fld hr_o0 skm_0 (k := 12) (by decide) (by decide)).trans m23
      have m47 := (hF1.fld hr_o0 skm_0 (k := 14) (by decide) (by decide)).trans m24
      have hF := hF.more hF1 (by decide)
      try dsimp only at hw39
      obtain ⟨h48, hf49, hf50, hf51⟩ := hw39
      refine lv_iconst (v := 1) hx hb dX12_readPart_77 (by decide) ?_
      exact W.zret (v := 1) hx hb hr (by decide) (fun t ht hW => ⟨⟨1, (u21, u22, u40, u41), rfl, (by exact ⟨(by have q8 := ti_all u21; omega), (by have q8 := ti_all u22; omega), (by have q8 := ti_all u40; omega), (rg_t (a := 1) (by decide) (by omega) (by omega)), (fun _ => (by omega)), (by omega), hf51, (by have := tn_of (show u5.toInt = u5.toInt from rfl) (by omega); have := tn_of (show u4.toInt = u4.toInt from rfl) (by omega); have := tn_of (show en.toInt = en.toInt from rfl) (by omega); have := tn_of (show pt.toInt = pt.toInt from rfl) (by omega); have h99 : (99999 : Int32).toInt = 99999 := (by decide); have e0 : skp (tx vt) N u4.toNatClampNeg = u5.toNatClampNeg := (by rw [show u4.toNatClampNeg = u5.toNatClampNeg from by omega]; have i9 := ru_i (P := spB) (t := (tx vt)) (n := N) (p := pt.toNatClampNeg) (by omega); rw [show ru spB (tx vt) N pt.toNatClampNeg = u5.toNatClampNeg from hf15] at i9; exact i9); have n9 := hf35; have s9 := hf34; rw [e0] at n9 s9; rw [hf15]; have m9 := n9.resolve_right (fun h8 => by have := h8.1; omega); exact Or.inl ⟨by decide, Or.inl ⟨Or.inr m9.1, rfl, m9.2.2.2⟩⟩)⟩), by (try dsimp only); rw [ht]; exact ⟨hT, hF, m46, m47, m42⟩⟩, hS.F ht⟩) hS.2.2 dX12_readPart_78
    · have t52 : r19.toInt < 0 := ti_nle c36 (by decide) rfl
      refine lv_iconst (v := 0) hx hb dX12_readPart_68 (by decide) ?_
      exact W.zret (v := 0) hx hb hr (by decide) (fun t ht hW => ⟨⟨0, (u21, u22, sv, ld), rfl, (by exact ⟨(by have q8 := ti_all u21; omega), (by have q8 := ti_all u22; omega), (by have q8 := ti_all sv; omega), (rg_t (a := 0) (by decide) (by omega) (by omega)), (fun h => absurd h (by decide)), (by omega), hlg, (by have := tn_of (show u5.toInt = u5.toInt from rfl) (by omega); have := tn_of (show u4.toInt = u4.toInt from rfl) (by omega); have := tn_of (show en.toInt = en.toInt from rfl) (by omega); have := tn_of (show pt.toInt = pt.toInt from rfl) (by omega); have h99 : (99999 : Int32).toInt = 99999 := (by decide); have e0 : skp (tx vt) N u4.toNatClampNeg = u5.toNatClampNeg := (by rw [show u4.toNatClampNeg = u5.toNatClampNeg from by omega]; have i9 := ru_i (P := spB) (t := (tx vt)) (n := N) (p := pt.toNatClampNeg) (by omega); rw [show ru spB (tx vt) N pt.toNatClampNeg = u5.toNatClampNeg from hf15] at i9; exact i9); have n9 := hf35; have s9 := hf34; rw [e0] at n9 s9; rw [hf15]; have m9 := n9.resolve_left (fun h8 => by have := h8.1; have := h8.2.2.1; omega); exact Or.inr ⟨by decide, Or.inr ⟨pr_d0 (by omega) (by rw [hf16]; omega) (fun h8 => m9.2 ⟨h8.1, by omega⟩), rfl, s9.symm⟩⟩)⟩), by (try dsimp only); rw [ht]; exact ⟨hT, hF, m23, m24, m26⟩⟩, hS.F ht⟩) hS.2.2 dX12_readPart_69
  · have t53 : u5.toInt < u4.toInt := ti_nle c17 rfl rfl
    refine lv_iconst (v := 0) hx hb dX12_readPart_15 (by decide) ?_
    refine lv_istore_n (lv' := [(1, .int 0), (0, .ref o0)]) hx hb dX12_readPart_16 rfl hl (by decide) rfl (fun ls hl => ?_)
    have key100 : ∀ (n100 i54 : Nat), i54 + n100 = 10 → 0 ≤ i54 → ((∀ j : Nat, j < i54 → ¬ wd (sW j) (tx vt) u5.toNatClampNeg u4.toNatClampNeg)) → ∀ (H : Heap) (locs : List Loc), gH (dC, dI) kA (SHm q (wP wZ wN wH wB wC wL wK wU wV) PI im PM PT (lD (dS S0 lb sv.toInt ld) lS) lB lE lN) G H → gF (dC, dI) SKm G ([(0, 12), (0, 14), (0, 28), (27, 0), (28, 0)] : List (Nat × Nat)) s.heap H → va_S A s.heap H locs → ct H (q 10) 400 vt → el H o0 (dI 15 13) = some (.int en) → el H o0 (dI 15 28) = some (.int sv) → el H o0 (dI 15 12) = some (.int u4) → el H o0 (dI 15 14) = some (.int u5) → ∀ ls : Array Slot, lv_has ls 2 [(1, .int (nI i54)), (0, .ref o0)] → W p l e (headSpec w_s_readPart ({ frames := 5, cells := 0, slots := 0, locals := 108 })).room s m #[.ref o0] below meth c H locs 0 0 (MQ below (va_Qi (fun (r : Int32) (u : Int32 × Int32 × Int32 × (Nat → Int)) => match u with | (p1, b1, s1, ld1) => (0 ≤ p1.toInt ∧ p1.toInt ≤ 400) ∧ (0 ≤ b1.toInt ∧ b1.toInt ≤ 400) ∧ (0 ≤ s1.toInt ∧ s1.toInt ≤ 400) ∧ (0 ≤ r.toInt ∧ r.toInt ≤ 1) ∧ (r = 1 → ld1 s1.toNatClampNeg = ld sv.toNatClampNeg + 1) ∧ (pt.toInt ≤ p1.toInt ∧ p1.toInt ≤ en.toInt ∧ sv.toInt ≤ s1.toInt ∧ s1.toInt - sv.toInt ≤ p1.toInt - pt.toInt) ∧ (lG lb ld1) ∧ ((r.toInt = 1 ∧ (pR (kd (tx vt) N) (xn (tx vt) N)) (skp (tx vt) N pt.toNatClampNeg) 1 (skp (tx vt) N p1.toNatClampNeg)) ∨ (r.toInt = 0 ∧ (pR (kd (tx vt) N) (xn (tx vt) N)) (skp (tx vt) N pt.toNatClampNeg) 0 b1.toNatClampNeg))) (fun (u : Int32 × Int32 × Int32 × (Nat → Int)) (t : State) => match u with | (p1, b1, s1, ld1) => gH (dC, dI) kA (SHm q (wP wZ wN wH wB wC wL wK wU wV) PI im PM PT (lD (dS S0 lb s1.toInt ld1) lS) lB lE lN) G t.heap ∧ gF (dC, dI) SKm G ([(0, 12), (0, 14), (0, 28), (27, 0), (28, 0)] : List (Nat × Nat)) s.heap t.heap ∧ el t.heap o0 (dI 15 12) = some (.int p1) ∧ el t.heap o0 (dI 15 14) = some (.int b1) ∧ el t.heap o0 (dI 15 28) = some (.int s1)) A) #[.ref o0] s 0 0 A) (F0 m 17 ls []) := by
      intro n100
      induction n100 with
      | zero =>
        intro i54 hn100 hlo101 hj60 H locs hT hF hS m55 m56 m57 m58 m59 ls hl
        obtain rfl : 10 = i54 := by omega
        refine lv_iload_n hx hb dX12_readPart_17 rfl (lv_at hl 0 rfl) ?_
        refine lv_bipush (v := 10) hx hb dX12_readPart_18 (by decide) ?_
        refine lv_icmp_ge (tgt := 40) hx hb dX12_readPart_20 (by decide) (fun c102 => ?_) (fun c102 => (by exfalso; have q9 : ((10 : Nat) : Int) < 10 := ti_nle c102 (by decide) (nI_toInt (by omega)); omega))
        have t103 : 10 ≤ ((10 : Nat) : Int) := ti_le c102 (by decide) (nI_toInt (by omega))
        refine lv_iload_n hx hb dX12_readPart_40 rfl (lv_at hl 0 rfl) ?_
        refine lv_bipush (v := 10) hx hb dX12_readPart_41 (by decide) ?_
        refine lv_icmp_ne (tgt := 48) hx hb dX12_readPart_43 (by decide) (fun c104 => (by exfalso; have q9 : ((10 : Nat) : Int) ≠ 10 := ti_ne c104 (nI_toInt (by omega)) (by decide); omega)) (fun c104 => ?_)
        have t105 : ((10 : Nat) : Int) = 10 := ti_eq c104 (nI_toInt (by omega)) (by decide)
        refine lv_iconst (v := 0) hx hb dX12_readPart_46 (by decide) ?_
        exact W.zret (v := 0) hx hb hr (by decide) (fun t ht hW => ⟨⟨0, (u4, u5, sv, ld), rfl, (by exact ⟨(by have q8 := ti_all u4; omega), (by have q8 := ti_all u5; omega), (by have q8 := ti_all sv; omega), (rg_t (a := 0) (by decide) (by omega) (by omega)), (fun h => absurd h (by decide)), (by omega), hlg, (by have := tn_of (show u5.toInt = u5.toInt from rfl) (by omega); have := tn_of (show u4.toInt = u4.toInt from rfl) (by omega); have := tn_of (show en.toInt = en.toInt from rfl) (by omega); have := tn_of (show pt.toInt = pt.toInt from rfl) (by omega); rw [hf15]; exact Or.inr ⟨by decide, Or.inr ⟨pr_w0 (by omega) (by rw [hf16]; omega) (fun j hj => by rw [hf16]; exact hj60 j (by omega)), rfl, rfl⟩⟩)⟩), by (try dsimp only); rw [ht]; exact ⟨hT, hF, m58, m59, m57⟩⟩, hS.F ht⟩) hS.2.2 dX12_readPart_47
      | succ n100 ih100 =>
        intro i54 hn100 hlo101 hj60 H locs hT hF hS m55 m56 m57 m58 m59 ls hl
        have hlt105 : i54 < 10 := by omega
        refine lv_iload_n hx hb dX12_readPart_17 rfl (lv_at hl 0 rfl) ?_
        refine lv_bipush (v := 10) hx hb dX12_readPart_18 (by decide) ?_
        refine lv_icmp_ge (tgt := 40) hx hb dX12_readPart_20 (by decide) (fun c106 => (by exfalso; have q9 : 10 ≤ ((i54 : Nat) : Int) := ti_le c106 (by decide) (nI_toInt (by omega)); omega)) (fun c106 => ?_)
        have t107 : ((i54 : Nat) : Int) < 10 := ti_nle c106 (by decide) (nI_toInt (by omega))
        refine lv_aload_n hx hb dX12_readPart_23 rfl (lv_at hl 1 rfl) ?_
        refine lv_iload_n hx hb dX12_readPart_24 rfl (lv_at hl 0 rfl) ?_
        have hFc := gA_free hG hA hS
        refine va_callr (va_runS (As := [.int (nI i54)]) (rest := [.ref o0]) ⟨hx, hb, hml, hown, hts⟩ (s_fact l dC dI kA adK adV G H q wZ wN wH wB wC wL wK wU wV PI im PM PT (lD (dS S0 lb sv.toInt ld) lS) lB lE lN (nI i54) hT (rg_t (a := ((i54 : Nat) : Int)) (nI_toInt (by omega)) (by omega) (by omega)) hgz hgn hgh hgb hgc hgi hgu) (va_cwS 1 hts (goodIn_app (goodIn_r _ [31, 32, 10] rfl (by decide +kernel)) (goodIn_ca (goodIn_r _ [30] rfl (by decide +kernel)) (bs_in _ _))) rfl rfl rfl (by decide +kernel) ⟨(Nat.le_of_ble_eq_true rfl), (Nat.le_of_ble_eq_true rfl)⟩) ⟨fun a U g mk q => by obtain ⟨q0, q1, qK, qE⟩ := q; exact ⟨q0, q1, va_K.moved (u := U) (U := U.calling g mk a) (Vm.Alike.refl U.vm) qK, EVS.blind g mk a qE⟩, fun U hU hW => ⟨rfl, hU, va_K.moved hW.alike hK, hE.call hS hFc hU hW⟩⟩ rfl rfl hl.1 rfl (lv_room (Nat.le_of_ble_eq_true rfl)) dX12_readPart_25 ⟨(Nat.le_of_ble_eq_true rfl), (Nat.le_of_ble_eq_true rfl)⟩) hS (fun q _ h => hFc q h) hFc (fun u r108 t H locs ht hvm hw109 hB _ _ hS => ?_)
        obtain ⟨hr9, hT, hF1⟩ := hB
        rw [ht] at hT hF1
        have m110 := m55.kept (hF1.arr hg1 skm_11 (by decide))
        have m111 := (hF1.fld hr_o0 skm_0 (k := 13) (by decide) (by decide)).trans m56
        have m112 := (hF1.fld hr_o0 skm_0 (k := 28) (by decide) (by decide)).trans m57
        have m113 := (hF1.fld hr_o0 skm_0 (k := 12) (by decide) (by decide)).trans m58
        have m114 := (hF1.fld hr_o0 skm_0 (k := 14) (by decide) (by decide)).trans m59
        have hF := hF.more hF1 (by decide)
        rw [show (nI i54).toNatClampNeg = i54 from tn_nI (by omega)] at hr9
        subst hr9
        try dsimp only at hw109
        have hFc := gA_free hG hA hS
        refine va_calli (va_runV (As := [.ref (adK i54)]) (rest := []) ⟨hx, hb, hml, hown, hts⟩ (s_isWord l dC dI kA adK adV G H q wZ wN wH wB wC wL wK wU wV PI im PM PT (lD (dS S0 lb sv.toInt ld) lS) lB lE lN o0 u4 u5 vt i54 hT hr_o0 m113 m114 (by have q8 := ti_all u4; omega) (by have q8 := ti_all u5; omega) (by have := (show u4.toInt = u4.toInt from rfl); have := (show u5.toInt = u5.toInt from rfl); omega) (by first | omega | decide) m110 hgz hgn hgh hgb hgc hgi hgu) (cwV 1 hts (goodIn_app (goodIn_r _ [66, 67, 68, 10] rfl (by decide +kernel)) (goodIn_ca (goodIn_r _ [33, 4, 11, 34, 35, 36, 37, 38, 39, 40, 41, 42, 43, 44, 45, 6, 46, 47, 48, 49, 50, 51, 52, 53, 54, 55, 56, 57, 58, 59, 60, 61, 62, 63, 64, 65] rfl (by decide +kernel)) (bs_in _ _))) rfl rfl rfl (by decide +kernel) ⟨(Nat.le_of_ble_eq_true rfl), (Nat.le_of_ble_eq_true rfl)⟩) ⟨fun a U g mk q => by obtain ⟨q0, q1, qK, qE⟩ := q; exact ⟨q0, q1, va_K.moved (u := U) (U := U.calling g mk a) (Vm.Alike.refl U.vm) qK, EVS.blind g mk a qE⟩, gH_recv hK hT hr_o0 shm_0 rfl, fun U hU hW => ⟨rfl, hU, va_K.moved hW.alike hK, hE.call hS hFc hU hW⟩⟩ rfl rfl hl.1 rfl (lv_room (Nat.le_of_ble_eq_true rfl)) dX12_readPart_28 ⟨(Nat.le_of_ble_eq_true rfl), (Nat.le_of_ble_eq_true rfl)⟩) hS (fun q _ h => hFc q h) hFc (fun r115 u t H locs ht hvm hw116 hB _ _ hS => ?_)
        obtain ⟨hT, hF1⟩ := hB
        rw [ht] at hT hF1
        have m117 := m110.kept (hF1.arr hg1 skm_11 (by decide))
        have m118 := (hF1.fld hr_o0 skm_0 (k := 13) (by decide) (by decide)).trans m111
        have m119 := (hF1.fld hr_o0 skm_0 (k := 28) (by decide) (by decide)).trans m112
        have m120 := (hF1.fld hr_o0 skm_0 (k := 12) (by decide) (by decide)).trans m113
        have m121 := (hF1.fld hr_o0 skm_0 (k := 14) (by decide) (by decide)).trans m114
        have hF := hF.more hF1 (by decide)
        try dsimp only at hw116
        obtain ⟨h122, hi123, hf124⟩ := hw116
        refine lv_if_ne (tgt := 40) hx hb dX12_readPart_31 (by decide) (fun c125 => ?_) (fun c125 => ?_)
        · have t126 : r115.toInt ≠ 0 := ti_ne c125 rfl (by decide)
          have t127 : u4.toInt - u5.toInt = ((sLn i54 : Nat) : Int) := hi123 ((bit_of ⟨by omega, by omega⟩).resolve_left c125)
          refine lv_iload_n hx hb dX12_readPart_40 rfl (lv_at hl 0 rfl) ?_
          refine lv_bipush (v := 10) hx hb dX12_readPart_41 (by decide) ?_
          refine lv_icmp_ne (tgt := 48) hx hb dX12_readPart_43 (by decide) (fun c128 => ?_) (fun c128 => (by exfalso; have q9 : ((i54 : Nat) : Int) = 10 := ti_eq c128 (nI_toInt (by omega)) (by decide); omega))
          have t129 : ((i54 : Nat) : Int) ≠ 10 := ti_ne c128 (nI_toInt (by omega)) (by decide)
          refine lv_aload_n hx hb dX12_readPart_48 rfl (lv_at hl 1 rfl) ?_
          refine lv_iload_n hx hb dX12_readPart_49 rfl (lv_at hl 0 rfl) ?_
          refine lv_iconst (v := 0) hx hb dX12_readPart_50 (by decide) ?_
          have hFc := gA_free hG hA hS
          refine va_callv (va_runV (As := [.int (nI i54), .int 0]) (rest := []) ⟨hx, hb, hml, hown, hts⟩ (s_adds l dC dI kA adK adV G H q wZ wN wH wB wC wL wK wU wV PI im PM PT lS lB lE lN o0 (nI i54) 0 sv S0 lb ld (ld sv.toNatClampNeg + 1) hT hr_o0 m119 (by have q8 := ti_all sv; omega) (by have q9 := (show (nI i54).toInt = ((i54 : Nat) : Int) from (nI_toInt (by omega))); unfold stp; omega) hS0 (by have := (show sv.toInt = sv.toInt from rfl); omega) hlg hgz hgn hgh hgb hgc hgi hgu) (cwV 2 hts (goodIn_app (goodIn_r _ [27, 28, 29, 10] rfl (by decide +kernel)) (goodIn_ca (goodIn_r _ [23, 24, 25, 26] rfl (by decide +kernel)) (bs_in _ _))) rfl rfl rfl (by decide +kernel) ⟨(Nat.le_of_ble_eq_true rfl), (Nat.le_of_ble_eq_true rfl)⟩) ⟨fun a U g mk q => by obtain ⟨q0, q1, qK, qE⟩ := q; exact ⟨q0, q1, va_K.moved (u := U) (U := U.calling g mk a) (Vm.Alike.refl U.vm) qK, EVS.blind g mk a qE⟩, gH_recv hK hT hr_o0 shm_0 rfl, fun U hU hW => ⟨rfl, hU, va_K.moved hW.alike hK, hE.call hS hFc hU hW⟩⟩ rfl rfl hl.1 rfl (lv_room (Nat.le_of_ble_eq_true rfl)) dX12_readPart_51 ⟨(Nat.le_of_ble_eq_true rfl), (Nat.le_of_ble_eq_true rfl)⟩) hS (fun q _ h => hFc q h) hFc (fun u t H locs ht hvm hw131 hB _ _ hS => ?_)
          obtain ⟨u132, u133⟩ := u
          obtain ⟨hT, hF1, m134⟩ := hB
          rw [ht] at hT hF1 m134
          have m135 := m117.kept (hF1.arr hg1 skm_11 (by decide))
          have m136 := (hF1.fld hr_o0 skm_0 (k := 13) (by decide) (by decide)).trans m118
          have m138 := (hF1.fld hr_o0 skm_0 (k := 12) (by decide) (by decide)).trans m120
          have m139 := (hF1.fld hr_o0 skm_0 (k := 14) (by decide) (by decide)).trans m121
          have hF := hF.more hF1 (by decide)
          try dsimp only at hw131
          obtain ⟨h140, hf141, hf142, hf143⟩ := hw131
          refine lv_iconst (v := 1) hx hb dX12_readPart_54 (by decide) ?_
          exact W.zret (v := 1) hx hb hr (by decide) (fun t ht hW => ⟨⟨1, (u4, u5, u132, u133), rfl, (by exact ⟨(by have q8 := ti_all u4; omega), (by have q8 := ti_all u5; omega), (by have q8 := ti_all u132; omega), (rg_t (a := 1) (by decide) (by omega) (by omega)), (fun _ => (by omega)), (by omega), hf143, (by have := tn_of (show u5.toInt = u5.toInt from rfl) (by omega); have := tn_of (show u4.toInt = u4.toInt from rfl) (by omega); have := tn_of (show en.toInt = en.toInt from rfl) (by omega); have := tn_of (show pt.toInt = pt.toInt from rfl) (by omega); rw [hf15]; have h9 := (hf124.resolve_right (fun h8 => by have := h8.1; omega)).2; rw [← hf16] at h9; obtain ⟨k1, k2⟩ := pw_1 (i := i54) (by omega) (by omega) h9; exact Or.inl ⟨by decide, Or.inl ⟨Or.inl (by rw [k1]; exact sC_f (by omega)), rfl, by unfold xn; rw [k2, hf16]; rfl⟩⟩)⟩), by (try dsimp only); rw [ht]; exact ⟨hT, hF, m138, m139, m134⟩⟩, hS.F ht⟩) hS.2.2 dX12_readPart_55
        · have t144 : r115.toInt = 0 := ti_eq c125 rfl (by decide)
          refine lv_iinc (v := nI (i54 + 1)) (lv' := [(1, .int (nI (i54 + 1))), (0, .ref o0)]) hx hb dX12_readPart_34 hl (k := 0) rfl (nI_add i54 1) (by decide) rfl (fun ls hl => ?_)
          refine lv_goto (tgt := 17) hx hb dX12_readPart_37 (by decide) ?_
          exact ih100 (i54 + 1) (by omega) (by omega) (fun j h9 => by by_cases e9 : j = i54; (rw [e9]; exact (hf124.resolve_left (fun h8 => by have := h8.1; omega)).2); exact hj60 j (by omega)) _ _ hT hF hS m117 m118 m119 m120 m121 ls (lv_sub hl [0, 1] rfl)
    exact key100 (10 - 0) 0 (by omega) (Nat.le_refl _) (fun j h9 => absurd h9 (Nat.not_lt_zero j)) _ _ hT hF hS m11 m9 m10 m6 m7 ls (lv_sub hl [0, 1] rfl)
def w_s_readSum : List Cond := .code yX12_readSum cX12_readSum 1 (some .boolean) :: (HAppend.hAppend (α := List Cond) (β := List Cond) (γ := List Cond) [.code yX12_readPart cX12_readPart 2 (some .boolean), .code yX12_word cX12_word 1 none, .code yX12_blanks cX12_blanks 1 none, .code yX12_isAt cX12_isAt 3 (some .boolean), .fieldLink RX12 335 "SeaLandModel" "point" "I", .fieldLink RX12 338 "SeaLandModel" "end" "I", .fieldLink RX12 31 "SeaLandModel" "tape" "[B", .methodLink RX12 341 yX12_isAt, .instanceMethod yX12_isAt, .selects RX12 yX12_isAt yX12_isAt, .initialized RX12, .fieldLink RX12 345 "SeaLandModel" "begin" "I", .methodLink RX12 348 yX12_blanks, .instanceMethod yX12_blanks, .selects RX12 yX12_blanks yX12_blanks, .methodLink RX12 360 yX12_word, .instanceMethod yX12_word, .selects RX12 yX12_word yX12_word, .constant RX12 390 99999, .code yX12_number cX12_number 3 (some .int), .methodLink RX12 391 yX12_number, .instanceMethod yX12_number, .selects RX12 yX12_number yX12_number, .code yX12_adds cX12_adds 3 none, .fieldLink RX12 66 "SeaLandModel" "step" "[I", .fieldLink RX12 367 "SeaLandModel" "steps" "I", .fieldLink RX12 69 "SeaLandModel" "than" "[I", .methodLink RX12 387 yX12_adds, .instanceMethod yX12_adds, .selects RX12 yX12_adds yX12_adds, .code yX12_fact cX12_fact 1 (some (.object "java/lang/String")), .methodLink RX12 383 yX12_fact, .static yX12_fact, .code yX12_isWord cX12_isWord 4 (some .boolean), .code yJ0_length_8abf5 cJ0_length_8abf5 1 (some .int), .fieldLink RJ0 9 "java/lang/String" "value" "[B", .code yJ0_coder_7d493 cJ0_coder_7d493 1 (some .byte), .fieldLink RJ0 38 "java/lang/String" "COMPACT_STRINGS" "Z", .fieldLink RJ0 15 "java/lang/String" "coder" "B", .methodLink RJ0 335 yJ0_coder_7d493, .instanceMethod yJ0_coder_7d493, .selects RJ0 yJ0_coder_7d493 yJ0_coder_7d493, .initialized RJ0, .methodLink RX12 351 yJ0_length_8abf5, .instanceMethod yJ0_length_8abf5, .selects RJ0 yJ0_length_8abf5 yJ0_length_8abf5, .code yJ0_charAt_5068e cJ0_charAt_5068e 2 (some .char), .code yJ0_isLatin1_aae02 cJ0_isLatin1_aae02 1 (some .boolean), .methodLink RJ0 492 yJ0_isLatin1_aae02, .instanceMethod yJ0_isLatin1_aae02, .selects RJ0 yJ0_isLatin1_aae02 yJ0_isLatin1_aae02, .code yJ1_charAt_3b067 cJ1_charAt_3b067 2 (some .char), .code yJ0_checkIndex_df160 cJ0_checkIndex_df160 2 none, .fieldLink RJ0 1053 "jdk/internal/util/Preconditions" "SIOOBE_FORMATTER" "Ljava/util/function/BiFunction;", .code yJ3_checkIndex_8e157 cJ3_checkIndex_8e157 3 (some .int), .methodLink RJ0 1059 yJ3_checkIndex_8e157, .static yJ3_checkIndex_8e157, .initialized RJ3, .methodLink RJ1 9 yJ0_checkIndex_df160, .static yJ0_checkIndex_df160, .methodLink RJ0 495 yJ1_charAt_3b067, .static yJ1_charAt_3b067, .initialized RJ1, .methodLink RX12 356 yJ0_charAt_5068e, .instanceMethod yJ0_charAt_5068e, .selects RJ0 yJ0_charAt_5068e yJ0_charAt_5068e, .methodLink RX12 363 yX12_isWord, .instanceMethod yX12_isWord, .selects RX12 yX12_isWord yX12_isWord, .methodLink RX12 394 yX12_readPart, .instanceMethod yX12_readPart, .selects RX12 yX12_readPart yX12_readPart, .code yX12_sign cX12_sign 2 (some .boolean), .methodLink RX12 398 yX12_sign, .instanceMethod yX12_sign, .selects RX12 yX12_sign yX12_sign] bs)
set_option maxHeartbeats 4000000 in
set_option maxRecDepth 100000 in
theorem s_readSum (l : Launch) (dC : Nat → ClassId) (dI : Nat → Nat → Nat) (kA : Nat → ClassId) (adK adV : Nat → Nat) (G : gT) (H0 : Heap) (q : Nat → Nat) (wZ wN : Nat → Int) (wH wB wC : Int) (wL wK : Nat → Prop) (wU wV : Nat → Nat) (PI : Nat → Int → Prop) (im : Int) (PM PT : Nat → Int → Prop) (lS lB lE : Nat → Nat → Int → Prop) (lN : Nat → Int) (o0 : Nat) (pt : Int32) (en : Int32) (sv : Int32) (vt : Nat → Int32) (S0 : Nat → Int → Prop) (lb : Int) (ld : Nat → Int) (N : Nat) (hT : gH (dC, dI) kA (SHm q (wP wZ wN wH wB wC wL wK wU wV) PI im PM PT (lD (dS S0 lb sv.toInt ld) lS) lB lE lN) G H0) (hr_o0 : G o0 = some 0) (hm_pt : el H0 o0 (dI 15 12) = some (.int pt)) (hm_en : el H0 o0 (dI 15 13) = some (.int en)) (hm_sv : el H0 o0 (dI 15 28) = some (.int sv)) (hq0 : 0 ≤ pt.toInt ∧ pt.toInt ≤ 400) (hq1 : 0 ≤ en.toInt ∧ en.toInt ≤ 400) (hq2 : 0 ≤ sv.toInt ∧ sv.toInt ≤ 400) (hpe : pt.toInt ≤ en.toInt) (hsp : sv.toInt ≤ pt.toInt) (hS0 : ∀ (i : Nat) x, lb ≤ (i : Int) → S0 i x) (hlb : 0 ≤ lb ∧ lb ≤ sv.toInt) (hlg : lG lb ld) (hd0 : 0 ≤ ld sv.toNatClampNeg) (hN : en.toInt = ((N : Nat) : Int)) (hc_vt : ct H0 (q 10) 400 vt) (hgz : ∀ i, 0 ≤ wZ i) (hgn : ∀ i, 6500000 ≤ wN i ∧ wN i ≤ 20200000) (hgh : 0 ≤ wH ∧ wH ≤ 40000) (hgb : 0 ≤ wB ∧ wB ≤ 3850000) (hgc : 0 ≤ wC ∧ wC ≤ 30) (hgi : 0 ≤ im ∧ im ≤ 1) (hgu : ∀ a t, G a = some (t + 1) → a = q t) : Met l yX12_readSum w_s_readSum ({ frames := 6, cells := 0, slots := 0, locals := 129 }) (va_Pc [.ref o0] (fun U => U.heap = H0 ∧ va_K (dC, dI) vwCl (tyl kA) U ∧ EVS adK adV (gA G H0.size) U U.heap)) (va_Qi (fun (r : Int32) (u : Int32 × Int32 × Int32 × (Nat → Int)) => match u with | (p1, b1, s1, ld1) => (0 ≤ p1.toInt ∧ p1.toInt ≤ 400) ∧ (0 ≤ b1.toInt ∧ b1.toInt ≤ 400) ∧ (0 ≤ s1.toInt ∧ s1.toInt ≤ 400) ∧ (0 ≤ r.toInt ∧ r.toInt ≤ 1) ∧ (r = 1 → ld1 s1.toNatClampNeg = ld sv.toNatClampNeg + 1) ∧ (pt.toInt ≤ p1.toInt ∧ p1.toInt ≤ en.toInt ∧ sv.toInt ≤ s1.toInt ∧ s1.toInt - sv.toInt ≤ p1.toInt - pt.toInt) ∧ (lG lb ld1) ∧ ((r.toInt = 1 ∧ smR (kd (tx vt) N) (xn (tx vt) N) (skp (tx vt) N pt.toNatClampNeg) 1 (skp (tx vt) N p1.toNatClampNeg)) ∨ (r.toInt = 0 ∧ smR (kd (tx vt) N) (xn (tx vt) N) (skp (tx vt) N pt.toNatClampNeg) 0 b1.toNatClampNeg))) (fun (u : Int32 × Int32 × Int32 × (Nat → Int)) (t : State) => match u with | (p1, b1, s1, ld1) => gH (dC, dI) kA (SHm q (wP wZ wN wH wB wC wL wK wU wV) PI im PM PT (lD (dS S0 lb s1.toInt ld1) lS) lB lE lN) G t.heap ∧ gF (dC, dI) SKm G ([(0, 12), (0, 14), (0, 28), (27, 0), (28, 0)] : List (Nat × Nat)) H0 t.heap ∧ el t.heap o0 (dI 15 12) = some (.int p1) ∧ el t.heap o0 (dI 15 14) = some (.int b1) ∧ el t.heap o0 (dI 15 28) = some (.int s1)) (gA G H0.size)) 0 0 (gA G H0.size) := by
  refine Met.ofW (cc := cX12_readSum) (maxL := 1) (ret := (some .boolean)) (by decide) rfl ?_
  intro p e s m args below meth c s₁ B hml hv
  obtain ⟨rfl, hH0, hK, hE⟩ := hv
  have hx := B.exec
  have hb := B.bytes
  have hr := B.returns
  have hts := atoms_spec (ws := w_s_readSum) B.pre
  have hown : s.vm.findClass RX12 = some m.cls := findClass_of_methodNamed B.named
  have hlocks := B.notSynchronized
  subst hH0
  generalize hAe : gA G s.heap.size = A at hE ⊢
  have hA : ∀ q : Nat, s.heap.size ≤ q → A q := fun q h => by rw [← hAe]; exact Or.inr h
  have hG := gA_of hAe
  have hS : va_S A s.heap s.heap [] := va_S.rf
  have hF : gF (dC, dI) SKm G ([(0, 12), (0, 14), (0, 28), (27, 0), (28, 0)] : List (Nat × Nat)) s.heap s.heap := gF.rf
  have hl := lv_entry ([.ref o0]) (n := 1) (Nat.le_of_ble_eq_true rfl)
  rw [lg_entry_eq]
  generalize (lg_sl ([.ref o0]) ++ List.replicate (1 - (lg_sl ([.ref o0])).length) Slot.unset).toArray = ls at hl ⊢
  have hl : lv_has ls 1 [(0, .ref o0)] := hl
  have hg1 : G (q 10) = some 11 := gx_of hT hr_o0 shm_0 (k := 10) (by decide) rfl
  refine lv_aload_n hx hb dX12_readSum_0 rfl (lv_at hl 0 rfl) ?_
  have hFc := gA_free hG hA hS
  refine va_calli (va_runV (As := []) (rest := []) ⟨hx, hb, hml, hown, hts⟩ (s_readPart l dC dI kA adK adV G s.heap q wZ wN wH wB wC wL wK wU wV PI im PM PT lS lB lE lN o0 pt en sv vt S0 lb ld N hT hr_o0 hm_pt hm_en hm_sv (by have q8 := ti_all pt; omega) (by have q8 := ti_all en; omega) (by have q8 := ti_all sv; omega) (by have := (show pt.toInt = pt.toInt from rfl); have := (show en.toInt = en.toInt from rfl); omega) (by have := (show sv.toInt = sv.toInt from rfl); have := (show pt.toInt = pt.toInt from rfl); omega) hS0 (by have := (show sv.toInt = sv.toInt from rfl); omega) hlg (by omega) hN hc_vt hgz hgn hgh hgb hgc hgi hgu) (cwV 0 hts (goodIn_app (goodIn_r _ [70, 71, 72, 11] rfl (by decide +kernel)) (goodIn_ca (goodIn_r _ [1, 2, 3, 4, 5, 6, 7, 8, 9, 10, 11, 12, 13, 14, 15, 16, 17, 18, 19, 20, 21, 22, 23, 24, 25, 26, 27, 28, 29, 30, 31, 32, 33, 34, 35, 36, 37, 38, 39, 40, 41, 42, 43, 44, 45, 46, 47, 48, 49, 50, 51, 52, 53, 54, 55, 56, 57, 58, 59, 60, 61, 62, 63, 64, 65, 66, 67, 68, 69] rfl (by decide +kernel)) (bs_in _ _))) rfl rfl rfl (by decide +kernel) ⟨(Nat.le_of_ble_eq_true rfl), (Nat.le_of_ble_eq_true rfl)⟩) ⟨fun a U g mk q => by obtain ⟨q0, q1, qK, qE⟩ := q; exact ⟨q0, q1, va_K.moved (u := U) (U := U.calling g mk a) (Vm.Alike.refl U.vm) qK, EVS.blind g mk a qE⟩, gH_recv hK hT hr_o0 shm_0 rfl, fun U hU hW => ⟨rfl, hU, va_K.moved hW.alike hK, hE.call hS hFc hU hW⟩⟩ rfl rfl hl.1 rfl (lv_room (Nat.le_of_ble_eq_true rfl)) dX12_readSum_1 ⟨(Nat.le_of_ble_eq_true rfl), (Nat.le_of_ble_eq_true rfl)⟩) hS (fun q _ h => hFc q h) hFc (fun r2 u t H locs ht hvm hw3 hB _ _ hS => ?_)
  obtain ⟨u4, u5, u6, u7⟩ := u
  obtain ⟨hT, hF1, m8, m9, m10⟩ := hB
  rw [ht] at hT hF1 m8 m9 m10
  have m12 := (hF1.fld hr_o0 skm_0 (k := 13) (by decide) (by decide)).trans hm_en
  have m14 := hc_vt.kept (hF1.arr hg1 skm_11 (by decide))
  have hF := hF.more hF1 (by decide)
  try dsimp only at hw3
  obtain ⟨h15, h16, h17, h18, hi19, hf20, hf21, hf22⟩ := hw3
  refine lv_if_ne (tgt := 9) hx hb dX12_readSum_4 (by decide) (fun c23 => ?_) (fun c23 => ?_)
  · have t24 : r2.toInt ≠ 0 := ti_ne c23 rfl (by decide)
    have t25 : u7 u6.toNatClampNeg = ld sv.toNatClampNeg + 1 := hi19 ((bit_of ⟨by omega, by omega⟩).resolve_left c23)
    have key176 : ∀ (n176 : Nat), ∀ (gld98 : Nat → Int), ∀ (z101 : Int32), ∀ (z104 : Int32), ∀ (z107 : Int32), (400 - z101.toInt < ((n176 : Nat) : Int)) → ((0 ≤ z101.toInt ∧ z101.toInt ≤ 400) ∧ (0 ≤ z104.toInt ∧ z104.toInt ≤ 400) ∧ (0 ≤ z107.toInt ∧ z107.toInt ≤ 400) ∧ (lG lb gld98) ∧ (gld98 z107.toNatClampNeg = ld sv.toNatClampNeg + 1) ∧ (pt.toInt ≤ z101.toInt ∧ z101.toInt ≤ en.toInt ∧ sv.toInt ≤ z107.toInt ∧ z107.toInt - sv.toInt ≤ z101.toInt - pt.toInt) ∧ (∀ (r : Int) (f : Nat), lpQ (kd (tx vt) N) (xn (tx vt) N) (pR (kd (tx vt) N) (xn (tx vt) N)) 10 (skp (tx vt) N z101.toNatClampNeg) r f → smR (kd (tx vt) N) (xn (tx vt) N) (skp (tx vt) N pt.toNatClampNeg) r f)) → ∀ (H : Heap) (locs : List Loc), gH (dC, dI) kA (SHm q (wP wZ wN wH wB wC wL wK wU wV) PI im PM PT (lD (dS S0 lb z107.toInt gld98) lS) lB lE lN) G H → gF (dC, dI) SKm G ([(0, 12), (0, 14), (0, 28), (27, 0), (28, 0)] : List (Nat × Nat)) s.heap H → va_S A s.heap H locs → ct H (q 10) 400 vt → el H o0 (dI 15 13) = some (.int en) → el H o0 (dI 15 12) = some (.int z101) → el H o0 (dI 15 14) = some (.int z104) → el H o0 (dI 15 28) = some (.int z107) → ∀ ls : Array Slot, lv_has ls 1 [(0, .ref o0)] → W p l e (headSpec w_s_readSum ({ frames := 6, cells := 0, slots := 0, locals := 129 })).room s m #[.ref o0] below meth c H locs 0 0 (MQ below (va_Qi (fun (r : Int32) (u : Int32 × Int32 × Int32 × (Nat → Int)) => match u with | (p1, b1, s1, ld1) => (0 ≤ p1.toInt ∧ p1.toInt ≤ 400) ∧ (0 ≤ b1.toInt ∧ b1.toInt ≤ 400) ∧ (0 ≤ s1.toInt ∧ s1.toInt ≤ 400) ∧ (0 ≤ r.toInt ∧ r.toInt ≤ 1) ∧ (r = 1 → ld1 s1.toNatClampNeg = ld sv.toNatClampNeg + 1) ∧ (pt.toInt ≤ p1.toInt ∧ p1.toInt ≤ en.toInt ∧ sv.toInt ≤ s1.toInt ∧ s1.toInt - sv.toInt ≤ p1.toInt - pt.toInt) ∧ (lG lb ld1) ∧ ((r.toInt = 1 ∧ smR (kd (tx vt) N) (xn (tx vt) N) (skp (tx vt) N pt.toNatClampNeg) 1 (skp (tx vt) N p1.toNatClampNeg)) ∨ (r.toInt = 0 ∧ smR (kd (tx vt) N) (xn (tx vt) N) (skp (tx vt) N pt.toNatClampNeg) 0 b1.toNatClampNeg))) (fun (u : Int32 × Int32 × Int32 × (Nat → Int)) (t : State) => match u with | (p1, b1, s1, ld1) => gH (dC, dI) kA (SHm q (wP wZ wN wH wB wC wL wK wU wV) PI im PM PT (lD (dS S0 lb s1.toInt ld1) lS) lB lE lN) G t.heap ∧ gF (dC, dI) SKm G ([(0, 12), (0, 14), (0, 28), (27, 0), (28, 0)] : List (Nat × Nat)) s.heap t.heap ∧ el t.heap o0 (dI 15 12) = some (.int p1) ∧ el t.heap o0 (dI 15 14) = some (.int b1) ∧ el t.heap o0 (dI 15 28) = some (.int s1)) A) #[.ref o0] s 0 0 A) (F0 m 9 ls []) := by
      intro n176
      induction n176 with
      | zero =>
        intro gld98 z101 z104 z107 hv176 ⟨h102, h105, h108, hg110, hg111, hj112, hj113⟩ H locs hT hF hS m99 m100 m103 m106 m109 ls hl
        exfalso; have q9 := (show z101.toInt = z101.toInt from rfl); omega
      | succ n176 ih176 =>
        intro gld98 z101 z104 z107 hv176 ⟨h102, h105, h108, hg110, hg111, hj112, hj113⟩ H locs hT hF hS m99 m100 m103 m106 m109 ls hl
        refine lv_aload_n hx hb dX12_readSum_9 rfl (lv_at hl 0 rfl) ?_
        refine lv_bipush (v := 43) hx hb dX12_readSum_10 (by decide) ?_
        have hFc := gA_free hG hA hS
        refine va_calli (va_runV (As := [.int 43]) (rest := []) ⟨hx, hb, hml, hown, hts⟩ (s_sign l dC dI kA adK adV G H q wZ wN wH wB wC wL wK wU wV PI im PM PT (lD (dS S0 lb z107.toInt gld98) lS) lB lE lN o0 43 z101 en vt N hT hr_o0 m103 m100 (by have q8 := ti_all z101; omega) (by have q8 := ti_all en; omega) (by have := (show z101.toInt = z101.toInt from rfl); have := (show en.toInt = en.toInt from rfl); omega) hN (by unfold sgS; decide) m99 hgz hgn hgh hgb hgc hgi hgu) (cwV 1 hts (goodIn_app (goodIn_r _ [74, 75, 76, 11] rfl (by decide +kernel)) (goodIn_ca (goodIn_r _ [73, 3, 4, 5, 6, 7, 8, 9, 10, 11, 12, 13, 14, 15] rfl (by decide +kernel)) (bs_in _ _))) rfl rfl rfl (by decide +kernel) ⟨(Nat.le_of_ble_eq_true rfl), (Nat.le_of_ble_eq_true rfl)⟩) ⟨fun a U g mk q => by obtain ⟨q0, q1, qK, qE⟩ := q; exact ⟨q0, q1, va_K.moved (u := U) (U := U.calling g mk a) (Vm.Alike.refl U.vm) qK, EVS.blind g mk a qE⟩, gH_recv hK hT hr_o0 shm_0 rfl, fun U hU hW => ⟨rfl, hU, va_K.moved hW.alike hK, hE.call hS hFc hU hW⟩⟩ rfl rfl hl.1 rfl (lv_room (Nat.le_of_ble_eq_true rfl)) dX12_readSum_12 ⟨(Nat.le_of_ble_eq_true rfl), (Nat.le_of_ble_eq_true rfl)⟩) hS (fun q _ h => hFc q h) hFc (fun r177 u t H locs ht hvm hw178 hB _ _ hS => ?_)
        obtain ⟨u179, u180⟩ := u
        obtain ⟨hT, hF1, m181, m182⟩ := hB
        rw [ht] at hT hF1 m181 m182
        have m183 := m99.kept (hF1.arr hg1 skm_11 (by decide))
        have m184 := (hF1.fld hr_o0 skm_0 (k := 13) (by decide) (by decide)).trans m100
        have m187 := (hF1.fld hr_o0 skm_0 (k := 28) (by decide) (by decide)).trans m109
        have hF := hF.more hF1 (by decide)
        try dsimp only at hw178
        obtain ⟨h188, h189, h190, hi191, hf192, hf193, hf194⟩ := hw178
        refine lv_if_eq (tgt := 37) hx hb dX12_readSum_15 (by decide) (fun c195 => ?_) (fun c195 => ?_)
        · have t196 : r177.toInt = 0 := ti_eq c195 rfl (by decide)
          refine lv_iconst (v := 1) hx hb dX12_readSum_37 (by decide) ?_
          exact W.zret (v := 1) hx hb hr (by decide) (fun t ht hW => ⟨⟨1, (u179, u180, z107, gld98), rfl, (by exact ⟨(by have q8 := ti_all u179; omega), (by have q8 := ti_all u180; omega), (by have q8 := ti_all z107; omega), (rg_t (a := 1) (by decide) (by omega) (by omega)), (fun _ => (by omega)), (by omega), hg110, (by have a9 := (hf194.resolve_left (fun h8 => by have := h8.2.1; omega)); rw [a9.2.2]; exact Or.inl ⟨by decide, lp_e hj113 (fun h7 => a9.1 (h7.trans (by decide)))⟩)⟩), by (try dsimp only); rw [ht]; exact ⟨hT, hF, m181, m182, m187⟩⟩, hS.F ht⟩) hS.2.2 dX12_readSum_38
        · have t197 : r177.toInt ≠ 0 := ti_ne c195 rfl (by decide)
          have t198 : z101.toInt + 1 ≤ u179.toInt := hi191 ((bit_of ⟨by omega, by omega⟩).resolve_left c195)
          refine lv_aload_n hx hb dX12_readSum_18 rfl (lv_at hl 0 rfl) ?_
          have hFc := gA_free hG hA hS
          refine va_calli (va_runV (As := []) (rest := []) ⟨hx, hb, hml, hown, hts⟩ (s_readPart l dC dI kA adK adV G H q wZ wN wH wB wC wL wK wU wV PI im PM PT lS lB lE lN o0 u179 en z107 vt S0 lb gld98 N hT hr_o0 m181 m184 m187 (by have q8 := ti_all u179; omega) (by have q8 := ti_all en; omega) (by have q8 := ti_all z107; omega) (by have := (show u179.toInt = u179.toInt from rfl); have := (show en.toInt = en.toInt from rfl); omega) (by have := (show z107.toInt = z107.toInt from rfl); have := (show u179.toInt = u179.toInt from rfl); omega) hS0 (by have := (show z107.toInt = z107.toInt from rfl); omega) hg110 (by omega) hN m183 hgz hgn hgh hgb hgc hgi hgu) (cwV 0 hts (goodIn_app (goodIn_r _ [70, 71, 72, 11] rfl (by decide +kernel)) (goodIn_ca (goodIn_r _ [1, 2, 3, 4, 5, 6, 7, 8, 9, 10, 11, 12, 13, 14, 15, 16, 17, 18, 19, 20, 21, 22, 23, 24, 25, 26, 27, 28, 29, 30, 31, 32, 33, 34, 35, 36, 37, 38, 39, 40, 41, 42, 43, 44, 45, 46, 47, 48, 49, 50, 51, 52, 53, 54, 55, 56, 57, 58, 59, 60, 61, 62, 63, 64, 65, 66, 67, 68, 69] rfl (by decide +kernel)) (bs_in _ _))) rfl rfl rfl (by decide +kernel) ⟨(Nat.le_of_ble_eq_true rfl), (Nat.le_of_ble_eq_true rfl)⟩) ⟨fun a U g mk q => by obtain ⟨q0, q1, qK, qE⟩ := q; exact ⟨q0, q1, va_K.moved (u := U) (U := U.calling g mk a) (Vm.Alike.refl U.vm) qK, EVS.blind g mk a qE⟩, gH_recv hK hT hr_o0 shm_0 rfl, fun U hU hW => ⟨rfl, hU, va_K.moved hW.alike hK, hE.call hS hFc hU hW⟩⟩ rfl rfl hl.1 rfl (lv_room (Nat.le_of_ble_eq_true rfl)) dX12_readSum_19 ⟨(Nat.le_of_ble_eq_true rfl), (Nat.le_of_ble_eq_true rfl)⟩) hS (fun q _ h => hFc q h) hFc (fun r199 u t H locs ht hvm hw200 hB _ _ hS => ?_)
          obtain ⟨u201, u202, u203, u204⟩ := u
          obtain ⟨hT, hF1, m205, m206, m207⟩ := hB
          rw [ht] at hT hF1 m205 m206 m207
          have m208 := m183.kept (hF1.arr hg1 skm_11 (by decide))
          have m209 := (hF1.fld hr_o0 skm_0 (k := 13) (by decide) (by decide)).trans m184
          have hF := hF.more hF1 (by decide)
          try dsimp only at hw200
          obtain ⟨h213, h214, h215, h216, hi217, hf218, hf219, hf220⟩ := hw200
          refine lv_if_ne (tgt := 27) hx hb dX12_readSum_22 (by decide) (fun c221 => ?_) (fun c221 => ?_)
          · have t222 : r199.toInt ≠ 0 := ti_ne c221 rfl (by decide)
            have t223 : u204 u203.toNatClampNeg = gld98 z107.toNatClampNeg + 1 := hi217 ((bit_of ⟨by omega, by omega⟩).resolve_left c221)
            refine lv_aload_n hx hb dX12_readSum_27 rfl (lv_at hl 0 rfl) ?_
            refine lv_bipush (v := 101) hx hb dX12_readSum_28 (by decide) ?_
            refine lv_iconst (v := 0) hx hb dX12_readSum_30 (by decide) ?_
            have hFc := gA_free hG hA hS
            refine va_callv (va_runV (As := [.int 101, .int 0]) (rest := []) ⟨hx, hb, hml, hown, hts⟩ (s_adds l dC dI kA adK adV G H q wZ wN wH wB wC wL wK wU wV PI im PM PT lS lB lE lN o0 101 0 u203 S0 lb u204 (u204 u203.toNatClampNeg - 1) hT hr_o0 m207 (by have q8 := ti_all u203; omega) (by have q9 := (show (101 : Int32).toInt = 101 from (by decide)); unfold stp; omega) hS0 (by have := (show u203.toInt = u203.toInt from rfl); omega) hf219 hgz hgn hgh hgb hgc hgi hgu) (cwV 2 hts (goodIn_app (goodIn_r _ [28, 29, 30, 11] rfl (by decide +kernel)) (goodIn_ca (goodIn_r _ [24, 25, 26, 27] rfl (by decide +kernel)) (bs_in _ _))) rfl rfl rfl (by decide +kernel) ⟨(Nat.le_of_ble_eq_true rfl), (Nat.le_of_ble_eq_true rfl)⟩) ⟨fun a U g mk q => by obtain ⟨q0, q1, qK, qE⟩ := q; exact ⟨q0, q1, va_K.moved (u := U) (U := U.calling g mk a) (Vm.Alike.refl U.vm) qK, EVS.blind g mk a qE⟩, gH_recv hK hT hr_o0 shm_0 rfl, fun U hU hW => ⟨rfl, hU, va_K.moved hW.alike hK, hE.call hS hFc hU hW⟩⟩ rfl rfl hl.1 rfl (lv_room (Nat.le_of_ble_eq_true rfl)) dX12_readSum_31 ⟨(Nat.le_of_ble_eq_true rfl), (Nat.le_of_ble_eq_true rfl)⟩) hS (fun q _ h => hFc q h) hFc (fun u t H locs ht hvm hw225 hB _ _ hS => ?_)
            obtain ⟨u226, u227⟩ := u
            obtain ⟨hT, hF1, m228⟩ := hB
            rw [ht] at hT hF1 m228
            have m229 := m208.kept (hF1.arr hg1 skm_11 (by decide))
            have m230 := (hF1.fld hr_o0 skm_0 (k := 13) (by decide) (by decide)).trans m209
            have m231 := (hF1.fld hr_o0 skm_0 (k := 12) (by decide) (by decide)).trans m205
            have m232 := (hF1.fld hr_o0 skm_0 (k := 14) (by decide) (by decide)).trans m206
            have hF := hF.more hF1 (by decide)
            try dsimp only at hw225
            obtain ⟨h234, hf235, hf236, hf237⟩ := hw225
            refine lv_goto (tgt := 9) hx hb dX12_readSum_34 (by decide) ?_
            exact ih176 u227 u201 u202 u226 (by have q9 := (show u201.toInt = u201.toInt from rfl); omega) ⟨(by have q8 := ti_all u201; omega), (by have q8 := ti_all u202; omega), (by have q8 := ti_all u226; omega), hf237, (by omega), (by have := (show u201.toInt = u201.toInt from rfl); have := (show u226.toInt = u226.toInt from rfl); omega), (by have a9 := (hf194.resolve_right (fun h8 => by have := h8.2.1; omega)); have b9 := (hf220.resolve_right (fun h8 => by have := h8.1; omega)).2; rw [a9.2.2] at b9; exact lp_s hj113 (a9.1.trans (by decide)) b9)⟩ _ _ hT hF hS m229 m230 m231 m232 m228 ls (lv_sub hl [0] rfl)
          · have t238 : r199.toInt = 0 := ti_eq c221 rfl (by decide)
            refine lv_iconst (v := 0) hx hb dX12_readSum_25 (by decide) ?_
            exact W.zret (v := 0) hx hb hr (by decide) (fun t ht hW => ⟨⟨0, (u201, u202, u203, u204), rfl, (by exact ⟨(by have q8 := ti_all u201; omega), (by have q8 := ti_all u202; omega), (by have q8 := ti_all u203; omega), (rg_t (a := 0) (by decide) (by omega) (by omega)), (fun h => absurd h (by decide)), (by omega), hf219, (by have a9 := (hf194.resolve_right (fun h8 => by have := h8.2.1; omega)); have b9 := (hf220.resolve_left (fun h8 => by have := h8.1; omega)).2; rw [a9.2.2] at b9; exact Or.inr ⟨by decide, lp_f hj113 (a9.1.trans (by decide)) b9⟩)⟩), by (try dsimp only); rw [ht]; exact ⟨hT, hF, m205, m206, m207⟩⟩, hS.F ht⟩) hS.2.2 dX12_readSum_26
    exact key176 401 u7 u4 u5 u6 (by have q9 := (show u4.toInt = u4.toInt from rfl); omega) ⟨(by have q8 := ti_all u4; omega), (by have q8 := ti_all u5; omega), (by have q8 := ti_all u6; omega), hf21, (by omega), (by have := (show u4.toInt = u4.toInt from rfl); have := (show u6.toInt = u6.toInt from rfl); omega), (lp_1 (hf22.resolve_right (fun h8 => by have := h8.1; omega)).2)⟩ _ _ hT hF hS m14 m12 m8 m9 m10 ls (lv_sub hl [0] rfl)
  · have t239 : r2.toInt = 0 := ti_eq c23 rfl (by decide)
    refine lv_iconst (v := 0) hx hb dX12_readSum_7 (by decide) ?_
    exact W.zret (v := 0) hx hb hr (by decide) (fun t ht hW => ⟨⟨0, (u4, u5, u6, u7), rfl, (by exact ⟨(by have q8 := ti_all u4; omega), (by have q8 := ti_all u5; omega), (by have q8 := ti_all u6; omega), (rg_t (a := 0) (by decide) (by omega) (by omega)), (fun h => absurd h (by decide)), (by omega), hf21, (Or.inr ⟨by decide, lp_0 (hf22.resolve_left (fun h8 => by have := h8.1; omega)).2⟩)⟩), by (try dsimp only); rw [ht]; exact ⟨hT, hF, m8, m9, m10⟩⟩, hS.F ht⟩) hS.2.2 dX12_readSum_8
