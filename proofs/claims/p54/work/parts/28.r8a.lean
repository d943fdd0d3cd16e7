def w_s_adds : List Cond := .code yX12_adds cX12_adds 3 none :: (HAppend.hAppend (α := List Cond) (β := List Cond) (γ := List Cond) [.fieldLink RX12 66 "SeaLandModel" "step" "[I", .fieldLink RX12 367 "SeaLandModel" "steps" "I", .fieldLink RX12 69 "SeaLandModel" "than" "[I"] bs)
set_option maxHeartbeats 4000000 in
set_option maxRecDepth 100000 in
theorem s_adds (l : Launch) (dC : Nat → ClassId) (dI : Nat → Nat → Nat) (kA : Nat → ClassId) (adK adV : Nat → Nat) (G : gT) (H0 : Heap) (q : Nat → Nat) (wZ wN : Nat → Int) (wH wB wC : Int) (wL wK : Nat → Prop) (wU wV : Nat → Nat) (PI : Nat → Int → Prop) (im : Int) (PM PT : Nat → Int → Prop) (lS lB lE : Nat → Nat → Int → Prop) (lN : Nat → Int) (o0 : Nat) (ks : Int32) (nv : Int32) (sv : Int32) (S0 : Nat → Int → Prop) (lb : Int) (ld : Nat → Int) (dc : Int) (hT : gH (dC, dI) kA (SHm q (wP wZ wN wH wB wC wL wK wU wV) PI im PM PT (lD (dS S0 lb sv.toInt ld) lS) lB lE lN) G H0) (hr_o0 : G o0 = some 0) (hm_sv : el H0 o0 (dI 15 28) = some (.int sv)) (hq0 : 0 ≤ sv.toInt ∧ sv.toInt ≤ 399) (hst : stp ks.toInt (ld sv.toNatClampNeg) dc) (hS0 : ∀ (i : Nat) x, lb ≤ (i : Int) → S0 i x) (hlb : 0 ≤ lb ∧ lb ≤ sv.toInt) (hlg : lG lb ld) (hgz : ∀ i, 0 ≤ wZ i) (hgn : ∀ i, 6500000 ≤ wN i ∧ wN i ≤ 20200000) (hgh : 0 ≤ wH ∧ wH ≤ 40000) (hgb : 0 ≤ wB ∧ wB ≤ 3850000) (hgc : 0 ≤ wC ∧ wC ≤ 30) (hgi : 0 ≤ im ∧ im ≤ 1) (hgu : ∀ a t, G a = some (t + 1) → a = q t) : Met l yX12_adds w_s_adds ({ frames := 0, cells := 0, slots := 0, locals := 0 }) (va_Pc [.ref o0, .int ks, .int nv] (fun U => U.heap = H0 ∧ va_K (dC, dI) vwCl (tyl kA) U ∧ EVS adK adV (gA G H0.size) U U.heap)) (va_Qv (fun (u : Int32 × (Nat → Int)) => match u with | (s1, ld1) => (0 ≤ s1.toInt ∧ s1.toInt ≤ 400) ∧ (s1.toInt = sv.toInt + 1) ∧ (ld1 s1.toNatClampNeg = dc) ∧ (lG lb ld1)) (fun (u : Int32 × (Nat → Int)) (t : State) => match u with | (s1, ld1) => gH (dC, dI) kA (SHm q (wP wZ wN wH wB wC wL wK wU wV) PI im PM PT (lD (dS S0 lb s1.toInt ld1) lS) lB lE lN) G t.heap ∧ gF (dC, dI) SKm G ([(0, 28), (27, 0), (28, 0)] : List (Nat × Nat)) H0 t.heap ∧ el t.heap o0 (dI 15 28) = some (.int s1)) (gA G H0.size)) 0 0 (gA G H0.size) := by
  refine Met.ofW (cc := cX12_adds) (maxL := 3) (ret := none) (by decide) rfl ?_
  intro p e s m args below meth c s₁ B hml hv
  obtain ⟨rfl, hH0, hK, hE⟩ := hv
  have hx := B.exec
  have hb := B.bytes
  have hr := B.returns
  have hts := atoms_spec (ws := w_s_adds) B.pre
  have hown : s.vm.findClass RX12 = some m.cls := findClass_of_methodNamed B.named
  have hlocks := B.notSynchronized
  subst hH0
  generalize hAe : gA G s.heap.size = A at hE ⊢
  have hA : ∀ q : Nat, s.heap.size ≤ q → A q := fun q h => by rw [← hAe]; exact Or.inr h
  have hG := gA_of hAe
  have hS : va_S A s.heap s.heap [] := va_S.rf
  have hF : gF (dC, dI) SKm G ([(0, 28), (27, 0), (28, 0)] : List (Nat × Nat)) s.heap s.heap := gF.rf
  have hl := lv_entry ([.ref o0, .int ks, .int nv]) (n := 3) (Nat.le_of_ble_eq_true rfl)
  rw [lg_entry_eq]
  generalize (lg_sl ([.ref o0, .int ks, .int nv]) ++ List.replicate (3 - (lg_sl ([.ref o0, .int ks, .int nv])).length) Slot.unset).toArray = ls at hl ⊢
  have hl : lv_has ls 3 [(0, .ref o0), (1, .int ks), (2, .int nv)] := hl
  refine lv_aload_n hx hb dX12_adds_0 rfl (lv_at hl 0 rfl) ?_
  refine tw_get hx hb hts bF_X12 hown hK hT hr_o0 shm_0 rfl 26 (by decide) (ht_at hts 0 rfl) (fun _ h9 => h9) dX12_adds_1 (fun v9 m1 h9 => ?_)
  obtain ⟨rfl, hg2⟩ := h9 _ rfl
  refine lv_sipush (v := 800) hx hb dX12_adds_4 (by decide) ?_
  refine lv_aload_n hx hb dX12_adds_7 rfl (lv_at hl 0 rfl) ?_
  refine tw_getM (v := .int sv) hx hb hts bF_X12 hown hK hT hr_o0 shm_0 rfl 28 (by decide) (ht_at hts 1 rfl) (fun _ h9 => h9) hm_sv dX12_adds_8 ?_
  refine lv_iadd hx hb dX12_adds_11 ?_
  refine lv_topi (fun x3 ex3 => ?_)
  have t4 : x3.toInt = 800 + sv.toInt := ti_add ex3 (by decide) rfl (by omega) (by omega)
  refine lv_iload_n hx hb dX12_adds_12 rfl (lv_at hl 1 rfl) ?_
  have t5 : ((x3.toNatClampNeg : Nat) : Int) = x3.toInt := tn_of (show x3.toInt = x3.toInt from rfl) (by omega)
  have t6 : ((sv.toNatClampNeg : Nat) : Int) = sv.toInt := tn_of rfl (by omega)
  refine tw_iast2 (Sg1 := (SHm q (wP wZ wN wH wB wC wL wK wU wV) PI im PM PT (lD (dS S0 lb (sv.toInt + 1) (mvu ld (sv.toNatClampNeg + 1) dc)) lS) lB lE lN)) (i := x3) (x := ks) hx hb hK hT hG hS hg2 shm_27 rfl shm_27 shm_o27 (fun b9 h9 => hgu b9 26 h9) (vin_t (a := x3.toInt) rfl (by omega) (by omega)) (⟨_, rfl, ad_hv (v := sv.toNatClampNeg) (by omega) (by omega) (by omega) (hS0 _ _ (by omega)) hst⟩) (fun k9 hk9 hne9 v9 hv9 he9 => by obtain ⟨x9, rfl, p9⟩ := he9; exact ⟨x9, rfl, ad_hm (v := sv.toNatClampNeg) (by omega) hk9 (by omega) p9⟩) dX12_adds_13 (fun H locs hT oq m7 oi hS => ?_)
  have hF := hF.ast hg2 skm_27 oq (by decide)
  have m8 := (el_kept (oq _ (gne hr_o0 hg2 (by decide)))).trans hm_sv
  refine lv_aload_n hx hb dX12_adds_14 rfl (lv_at hl 0 rfl) ?_
  refine tw_get hx hb hts bF_X12 hown hK hT hr_o0 shm_0 rfl 27 (by decide) (ht_at hts 2 rfl) (fun _ h9 => h9) dX12_adds_15 (fun v9 m9 h9 => ?_)
  obtain ⟨rfl, hg10⟩ := h9 _ rfl
  refine lv_sipush (v := 800) hx hb dX12_adds_18 (by decide) ?_
  refine lv_aload_n hx hb dX12_adds_21 rfl (lv_at hl 0 rfl) ?_
  refine tw_getM (v := .int sv) hx hb hts bF_X12 hown hK hT hr_o0 shm_0 rfl 28 (by decide) (ht_at hts 1 rfl) (fun _ h9 => h9) m8 dX12_adds_22 ?_
  refine lv_iadd hx hb dX12_adds_25 ?_
  refine lv_topi (fun x11 ex11 => ?_)
  have t12 : x11.toInt = 800 + sv.toInt := ti_add ex11 (by decide) rfl (by omega) (by omega)
  refine lv_iload_n hx hb dX12_adds_26 rfl (lv_at hl 2 rfl) ?_
  refine tw_iast (i := x11) (x := nv) hx hb hK hT hG hS hg10 shm_28 rfl (vin_t (a := x11.toInt) rfl (by omega) (by omega)) (gi_all _) dX12_adds_27 (fun H locs hT oq m13 oi hS => ?_)
  have hF := hF.ast hg10 skm_28 oq (by decide)
  have m14 := (el_kept (oq _ (gne hr_o0 hg10 (by decide)))).trans m8
  refine lv_aload_n hx hb dX12_adds_28 rfl (lv_at hl 0 rfl) ?_
  refine lv_dup hx hb dX12_adds_29 rfl ?_
  refine tw_getM (v := .int sv) hx hb hts bF_X12 hown hK hT hr_o0 shm_0 rfl 28 (by decide) (ht_at hts 1 rfl) (fun _ h9 => h9) m14 dX12_adds_30 ?_
  refine lv_iconst (v := 1) hx hb dX12_adds_33 (by decide) ?_
  refine lv_iadd hx hb dX12_adds_34 ?_
  refine lv_topi (fun x16 ex16 => ?_)
  have t17 : x16.toInt = sv.toInt + 1 := ti_add ex16 rfl (by decide) (by omega) (by omega)
  refine tw_put (v := .int x16) (ty := .int) hx hb hts bF_X12 tyX12 tyX12_ok nmX12 hown hK hT hG hS hr_o0 shm_0 rfl 28 (by decide) (ht_at hts 1 rfl) (fun _ h9 => h9) rfl (by decide +kernel) rfl rfl (gl_at rfl (gi_of (show x16.toInt = x16.toInt from rfl) (by omega) (by omega))) dX12_adds_35 (fun H locs hT oq m18 oj hS => ?_)
  have hF := hF.put hr_o0 skm_0 oq oj (by decide)
  have hT : gH (dC, dI) kA (SHm q (wP wZ wN wH wB wC wL wK wU wV) PI im PM PT (lD (dS S0 lb x16.toInt (mvu ld (sv.toNatClampNeg + 1) dc)) lS) lB lE lN) G H := by rw [show x16.toInt = sv.toInt + 1 from by have q9 := (show x16.toInt = x16.toInt from rfl); omega]; exact hT
  exact W.vret hx hb hr (fun t ht hW => ⟨⟨(x16, (mvu ld (sv.toNatClampNeg + 1) dc)), rfl, (by exact ⟨(by have q8 := ti_all x16; omega), (by omega), (by rw [show x16.toNatClampNeg = sv.toNatClampNeg + 1 from by have q9 := tn_of (show x16.toInt = x16.toInt from rfl) (by omega); omega]; exact mvu_s _ _ _), (lG_u hlg (by omega) hst)⟩), by (try dsimp only); rw [ht]; exact ⟨hT, hF, m18⟩⟩, hS.F ht⟩) hS.2.2 dX12_adds_38
def w_s_readPart : List Cond := .code yX12_readPart cX12_readPart 2 (some .boolean) :: (HAppend.hAppend (α := List Cond) (β := List Cond) (γ := List Cond) [.code yX12_word cX12_word 1 none, .code yX12_blanks cX12_blanks 1 none, .code yX12_isAt cX12_isAt 3 (some .boolean), .fieldLink RX12 335 "SeaLandModel" "point" "I", .fieldLink RX12 338 "SeaLandModel" "end" "I", .fieldLink RX12 31 "SeaLandModel" "tape" "[B", .methodLink RX12 341 yX12_isAt, .instanceMethod yX12_isAt, .selects RX12 yX12_isAt yX12_isAt, .initialized RX12, .fieldLink RX12 345 "SeaLandModel" "begin" "I", .methodLink RX12 348 yX12_blanks, .instanceMethod yX12_blanks, .selects RX12 yX12_blanks yX12_blanks, .methodLink RX12 360 yX12_word, .instanceMethod yX12_word, .selects RX12 yX12_word yX12_word, .constant RX12 390 99999, .code yX12_number cX12_number 3 (some .int), .methodLink RX12 391 yX12_number, .instanceMethod yX12_number, .selects RX12 yX12_number yX12_number, .code yX12_adds cX12_adds 3 none, .fieldLink RX12 66 "SeaLandModel" "step" "[I", .fieldLink RX12 367 "SeaLandModel" "steps" "I", .fieldLink RX12 69 "SeaLandModel" "than" "[I", .methodLink RX12 387 yX12_adds, .instanceMethod yX12_adds, .selects RX12 yX12_adds yX12_adds, .code yX12_fact cX12_fact 1 (some (.object "java/lang/String")), .methodLink RX12 383 yX12_fact, .static yX12_fact, .code yX12_isWord cX12_isWord 4 (some .boolean), .code yJ0_length_8abf5 cJ0_length_8abf5 1 (some .int), .fieldLink RJ0 9 "java/lang/String" "value" "[B", .code yJ0_coder_7d493 cJ0_coder_7d493 1 (some .byte), .fieldLink RJ0 38 "java/lang/String" "COMPACT_STRINGS" "Z", .fieldLink RJ0 15 "java/lang/String" "coder" "B", .methodLink RJ0 335 yJ0_coder_7d493, .instanceMethod yJ0_coder_7d493, .selects RJ0 yJ0_coder_7d493 yJ0_coder_7d493, .initialized RJ0, .methodLink RX12 351 yJ0_length_8abf5, .instanceMethod yJ0_length_8abf5, .selects RJ0 yJ0_length_8abf5 yJ0_length_8abf5, .code yJ0_charAt_5068e cJ0_charAt_5068e 2 (some .char), .code yJ0_isLatin1_aae02 cJ0_isLatin1_aae02 1 (some .boolean), .methodLink RJ0 492 yJ0_isLatin1_aae02, .instanceMethod yJ0_isLatin1_aae02, .selects RJ0 yJ0_isLatin1_aae02 yJ0_isLatin1_aae02, .code yJ1_charAt_3b067 cJ1_charAt_3b067 2 (some .char), .code yJ0_checkIndex_df160 cJ0_checkIndex_df160 2 none, .fieldLink RJ0 1053 "jdk/internal/util/Preconditions" "SIOOBE_FORMATTER" "Ljava/util/function/BiFunction;", .code yJ3_checkIndex_8e157 cJ3_checkIndex_8e157 3 (some .int), .methodLink RJ0 1059 yJ3_checkIndex_8e157, .static yJ3_checkIndex_8e157, .initialized RJ3, .methodLink RJ1 9 yJ0_checkIndex_df160, .static yJ0_checkIndex_df160, .methodLink RJ0 495 yJ1_charAt_3b067, .static yJ1_charAt_3b067, .initialized RJ1, .methodLink RX12 356 yJ0_charAt_5068e, .instanceMethod yJ0_charAt_5068e, .selects RJ0 yJ0_charAt_5068e yJ0_charAt_5068e, .methodLink RX12 363 yX12_isWord, .instanceMethod yX12_isWord, .selects RX12 yX12_isWord yX12_isWord] bs)
set_option maxHeartbeats 4000000 in
set_option maxRecDepth 100000 in
theorem s_readPart (l : Launch) (dC : Nat → ClassId) (dI : Nat → Nat → Nat) (kA : Nat → ClassId) (adK adV : Nat → Nat) (G : gT) (H0 : Heap) (q : Nat → Nat) (wZ wN : Nat → Int) (wH wB wC : Int) (wL wK : Nat → Prop) (wU wV : Nat → Nat) (PI : Nat → Int → Prop) (im : Int) (PM PT : Nat → Int → Prop) (lS lB lE : Nat → Nat → Int → Prop) (lN : Nat → Int) (o0 : Nat) (pt : Int32) (en : Int32) (sv : Int32) (S0 : Nat → Int → Prop) (lb : Int) (ld : Nat → Int) (hT : gH (dC, dI) kA (SHm q (wP wZ wN wH wB wC wL wK wU wV) PI im PM PT (lD (dS S0 lb sv.toInt ld) lS) lB lE lN) G H0) (hr_o0 : G o0 = some 0) (hm_pt : el H0 o0 (dI 15 12) = some (.int pt)) (hm_en : el H0 o0 (dI 15 13) = some (.int en)) (hm_sv : el H0 o0 (dI 15 28) = some (.int sv)) (hq0 : 0 ≤ pt.toInt ∧ pt.toInt ≤ 400) (hq1 : 0 ≤ en.toInt ∧ en.toInt ≤ 400) (hq2 : 0 ≤ sv.toInt ∧ sv.toInt ≤ 400) (hpe : pt.toInt ≤ en.toInt) (hsp : sv.toInt ≤ pt.toInt) (hS0 : ∀ (i : Nat) x, lb ≤ (i : Int) → S0 i x) (hlb : 0 ≤ lb ∧ lb ≤ sv.toInt) (hlg : lG lb ld) (hd0 : 0 ≤ ld sv.toNatClampNeg) (hgz : ∀ i, 0 ≤ wZ i) (hgn : ∀ i, 6500000 ≤ wN i ∧ wN i ≤ 20200000) (hgh : 0 ≤ wH ∧ wH ≤ 40000) (hgb : 0 ≤ wB ∧ wB ≤ 3850000) (hgc : 0 ≤ wC ∧ wC ≤ 30) (hgi : 0 ≤ im ∧ im ≤ 1) (hgu : ∀ a t, G a = some (t + 1) → a = q t) : Met l yX12_readPart w_s_readPart ({ frames := 5, cells := 0, slots := 0, locals := 108 }) (va_Pc [.ref o0] (fun U => U.heap = H0 ∧ va_K (dC, dI) vwCl (tyl kA) U ∧ EVS adK adV (gA G H0.size) U U.heap)) (va_Qi (fun (r : Int32) (u : Int32 × Int32 × Int32 × (Nat → Int)) => match u with | (p1, b1, s1, ld1) => (0 ≤ p1.toInt ∧ p1.toInt ≤ 400) ∧ (0 ≤ b1.toInt ∧ b1.toInt ≤ 400) ∧ (0 ≤ s1.toInt ∧ s1.toInt ≤ 400) ∧ (0 ≤ r.toInt ∧ r.toInt ≤ 1) ∧ (r = 1 → ld1 s1.toNatClampNeg = ld sv.toNatClampNeg + 1) ∧ (pt.toInt ≤ p1.toInt ∧ p1.toInt ≤ en.toInt ∧ sv.toInt ≤ s1.toInt ∧ s1.toInt - sv.toInt ≤ p1.toInt - pt.toInt) ∧ (lG lb ld1)) (fun (u : Int32 × Int32 × Int32 × (Nat → Int)) (t : State) => match u with | (p1, b1, s1, ld1) => gH (dC, dI) kA (SHm q (wP wZ wN wH wB wC wL wK wU wV) PI im PM PT (lD (dS S0 lb s1.toInt ld1) lS) lB lE lN) G t.heap ∧ gF (dC, dI) SKm G ([(0, 12), (0, 14), (0, 28), (27, 0), (28, 0)] : List (Nat × Nat)) H0 t.heap ∧ el t.heap o0 (dI 15 12) = some (.int p1) ∧ el t.heap o0 (dI 15 14) = some (.int b1) ∧ el t.heap o0 (dI 15 28) = some (.int s1)) (gA G H0.size)) 0 0 (gA G H0.size) := by
  refine Met.ofW (cc := cX12_readPart) (maxL := 2) (ret := (some .boolean)) (by decide) rfl ?_
  intro p e s m args below meth c s₁ B hml hv
  obtain ⟨rfl, hH0, hK, hE⟩ := hv
  have hx := B.exec
  have hb := B.bytes
  have hr := B.returns
  have hts := atoms_spec (ws := w_s_readPart) B.pre
  have hown : s.vm.findClass RX12 = some m.cls := findClass_of_methodNamed B.named
  have hlocks := B.notSynchronized
  subst hH0
  generalize hAe : gA G s.heap.size = A at hE ⊢
  have hA : ∀ q : Nat, s.heap.size ≤ q → A q := fun q h => by rw [← hAe]; exact Or.inr h
  have hG := gA_of hAe
  have hS : va_S A s.heap s.heap [] := va_S.rf
  have hF : gF (dC, dI) SKm G ([(0, 12), (0, 14), (0, 28), (27, 0), (28, 0)] : List (Nat × Nat)) s.heap s.heap := gF.rf
  have hl := lv_entry ([.ref o0]) (n := 2) (Nat.le_of_ble_eq_true rfl)
  rw [lg_entry_eq]
  generalize (lg_sl ([.ref o0]) ++ List.replicate (2 - (lg_sl ([.ref o0])).length) Slot.unset).toArray = ls at hl ⊢
  have hl : lv_has ls 2 [(0, .ref o0)] := hl
  refine lv_aload_n hx hb dX12_readPart_0 rfl (lv_at hl 0 rfl) ?_
  have hFc := gA_free hG hA hS
  refine va_callv (va_runV (As := []) (rest := []) ⟨hx, hb, hml, hown, hts⟩ (s_word l dC dI kA adK adV G s.heap q wZ wN wH wB wC wL wK wU wV PI im PM PT (lD (dS S0 lb sv.toInt ld) lS) lB lE lN o0 pt en hT hr_o0 hm_pt hm_en (by have q8 := ti_all pt; omega) (by have q8 := ti_all en; omega) (by have := (show pt.toInt = pt.toInt from rfl); have := (show en.toInt = en.toInt from rfl); omega) hgz hgn hgh hgb hgc hgi hgu) (cwV 0 hts (goodIn_app (goodIn_r _ [15, 16, 17, 10] rfl (by decide +kernel)) (goodIn_ca (goodIn_r _ [1, 2, 3, 4, 5, 6, 7, 8, 9, 10, 11, 12, 13, 14] rfl (by decide +kernel)) (bs_in _ _))) rfl rfl rfl (by decide +kernel) ⟨(Nat.le_of_ble_eq_true rfl), (Nat.le_of_ble_eq_true rfl)⟩) ⟨fun a U g mk q => by obtain ⟨q0, q1, qK, qE⟩ := q; exact ⟨q0, q1, va_K.moved (u := U) (U := U.calling g mk a) (Vm.Alike.refl U.vm) qK, EVS.blind g mk a qE⟩, gH_rc hK hT hr_o0 shm_0 rfl, fun U hU hW => ⟨rfl, hU, va_K.moved hW.alike hK, hE.call hS hFc hU hW⟩⟩ rfl rfl hl.1 rfl (lv_room (Nat.le_of_ble_eq_true rfl)) dX12_readPart_1 ⟨(Nat.le_of_ble_eq_true rfl), (Nat.le_of_ble_eq_true rfl)⟩) hS (fun q _ h => hFc q h) hFc (fun u t H locs ht hvm hw2 hB _ _ hS => ?_)
  obtain ⟨u3, u4⟩ := u
  obtain ⟨hT, hF1, m5, m6⟩ := hB
  rw [ht] at hT hF1 m5 m6
  have m8 := (hF1.fld hr_o0 skm_0 (k := 13) (by decide) (by decide)).trans hm_en
  have m9 := (hF1.fld hr_o0 skm_0 (k := 28) (by decide) (by decide)).trans hm_sv
  have hF := hF.more hF1 (by decide)
  try dsimp only at hw2
  obtain ⟨h10, h11, hf12⟩ := hw2
  refine lv_aload_n hx hb dX12_readPart_4 rfl (lv_at hl 0 rfl) ?_
  refine tw_getM (v := .int u3) hx hb hts bF_X12 hown hK hT hr_o0 shm_0 rfl 12 (by decide) (ht_at hts 3 rfl) (fun _ h9 => h9) m5 dX12_readPart_5 ?_
  refine lv_aload_n hx hb dX12_readPart_8 rfl (lv_at hl 0 rfl) ?_
  refine tw_getM (v := .int u4) hx hb hts bF_X12 hown hK hT hr_o0 shm_0 rfl 14 (by decide) (ht_at hts 10 rfl) (fun _ h9 => h9) m6 dX12_readPart_9 ?_
  refine lv_icmp_le (tgt := 56) hx hb dX12_readPart_12 (by decide) (fun c13 => ?_) (fun c13 => ?_)
  · have t14 : u3.toInt ≤ u4.toInt := ti_le c13 rfl rfl
    refine lv_aload_n hx hb dX12_readPart_56 rfl (lv_at hl 0 rfl) ?_
    refine lv_ldcw (v := 99999) hx hb hown (ht_at hts 17 rfl) dX12_readPart_57 ?_
    have hFc := gA_free hG hA hS
    refine va_calli (va_runV (As := [.int 99999]) (rest := []) ⟨hx, hb, hml, hown, hts⟩ (s_number l dC dI kA adK adV G H q wZ wN wH wB wC wL wK wU wV PI im PM PT (lD (dS S0 lb sv.toInt ld) lS) lB lE lN o0 99999 u3 en hT hr_o0 m5 m8 (by have q8 := ti_all u3; omega) (by have q8 := ti_all en; omega) (by have := (show u3.toInt = u3.toInt from rfl); have := (show en.toInt = en.toInt from rfl); omega) hgz hgn hgh hgb hgc hgi hgu) (cwV 1 hts (goodIn_app (goodIn_r _ [20, 21, 22, 10] rfl (by decide +kernel)) (goodIn_ca (goodIn_r _ [19, 2, 3, 4, 5, 6, 7, 8, 9, 10, 11, 12, 13, 14] rfl (by decide +kernel)) (bs_in _ _))) rfl rfl rfl (by decide +kernel) ⟨(Nat.le_of_ble_eq_true rfl), (Nat.le_of_ble_eq_true rfl)⟩) ⟨fun a U g mk q => by obtain ⟨q0, q1, qK, qE⟩ := q; exact ⟨q0, q1, va_K.moved (u := U) (U := U.calling g mk a) (Vm.Alike.refl U.vm) qK, EVS.blind g mk a qE⟩, gH_rc hK hT hr_o0 shm_0 rfl, fun U hU hW => ⟨rfl, hU, va_K.moved hW.alike hK, hE.call hS hFc hU hW⟩⟩ rfl rfl hl.1 rfl (lv_room (Nat.le_of_ble_eq_true rfl)) dX12_readPart_60 ⟨(Nat.le_of_ble_eq_true rfl), (Nat.le_of_ble_eq_true rfl)⟩) hS (fun q _ h => hFc q h) hFc (fun r15 u t H locs ht hvm hw16 hB _ _ hS => ?_)
    obtain ⟨u17, u18⟩ := u
    obtain ⟨hT, hF1, m19, m20⟩ := hB
    rw [ht] at hT hF1 m19 m20
    have m22 := (hF1.fld hr_o0 skm_0 (k := 28) (by decide) (by decide)).trans m9
    have hF := hF.more hF1 (by decide)
    try dsimp only at hw16
    obtain ⟨h25, h26, hf27⟩ := hw16
    refine lv_istore_n (lv' := [(1, .int r15), (0, .ref o0)]) hx hb dX12_readPart_63 rfl hl (by decide) rfl (fun ls hl => ?_)
    refine lv_iload_n hx hb dX12_readPart_64 rfl (lv_at hl 0 rfl) ?_
    refine lv_if_ge (tgt := 70) hx hb dX12_readPart_65 (by decide) (fun c28 => ?_) (fun c28 => ?_)
    · have t29 : 0 ≤ r15.toInt := ti_le c28 (by decide) rfl
      refine lv_aload_n hx hb dX12_readPart_70 rfl (lv_at hl 1 rfl) ?_
      refine lv_bipush (v := 100) hx hb dX12_readPart_71 (by decide) ?_
      refine lv_iload_n hx hb dX12_readPart_73 rfl (lv_at hl 0 rfl) ?_
      have hFc := gA_free hG hA hS
      refine va_callv (va_runV (As := [.int 100, .int r15]) (rest := []) ⟨hx, hb, hml, hown, hts⟩ (s_adds l dC dI kA adK adV G H q wZ wN wH wB wC wL wK wU wV PI im PM PT lS lB lE lN o0 100 r15 sv S0 lb ld (ld sv.toNatClampNeg + 1) hT hr_o0 m22 (by have q8 := ti_all sv; omega) (by have q9 := (show (100 : Int32).toInt = 100 from (by decide)); unfold stp; omega) hS0 (by have := (show sv.toInt = sv.toInt from rfl); omega) hlg hgz hgn hgh hgb hgc hgi hgu) (cwV 2 hts (goodIn_app (goodIn_r _ [27, 28, 29, 10] rfl (by decide +kernel)) (goodIn_ca (goodIn_r _ [23, 24, 25, 26] rfl (by decide +kernel)) (bs_in _ _))) rfl rfl rfl (by decide +kernel) ⟨(Nat.le_of_ble_eq_true rfl), (Nat.le_of_ble_eq_true rfl)⟩) ⟨fun a U g mk q => by obtain ⟨q0, q1, qK, qE⟩ := q; exact ⟨q0, q1, va_K.moved (u := U) (U := U.calling g mk a) (Vm.Alike.refl U.vm) qK, EVS.blind g mk a qE⟩, gH_rc hK hT hr_o0 shm_0 rfl, fun U hU hW => ⟨rfl, hU, va_K.moved hW.alike hK, hE.call hS hFc hU hW⟩⟩ rfl rfl hl.1 rfl (lv_room (Nat.le_of_ble_eq_true rfl)) dX12_readPart_74 ⟨(Nat.le_of_ble_eq_true rfl), (Nat.le_of_ble_eq_true rfl)⟩) hS (fun q _ h => hFc q h) hFc (fun u t H locs ht hvm hw31 hB _ _ hS => ?_)
      obtain ⟨u32, u33⟩ := u
      obtain ⟨hT, hF1, m34⟩ := hB
      rw [ht] at hT hF1 m34
      have m37 := (hF1.fld hr_o0 skm_0 (k := 12) (by decide) (by decide)).trans m19
      have m38 := (hF1.fld hr_o0 skm_0 (k := 14) (by decide) (by decide)).trans m20
      have hF := hF.more hF1 (by decide)
      try dsimp only at hw31
      obtain ⟨h39, hf40, hf41, hf42⟩ := hw31
      refine lv_iconst (v := 1) hx hb dX12_readPart_77 (by decide) ?_
      exact W.zret (v := 1) hx hb hr (by decide) (fun t ht hW => ⟨⟨1, (u17, u18, u32, u33), rfl, (by exact ⟨(by have q8 := ti_all u17; omega), (by have q8 := ti_all u18; omega), (by have q8 := ti_all u32; omega), (rg_t (a := 1) (by decide) (by first | decide | omega) (by first | decide | omega)), (fun _ => (by omega)), (by omega), hf42⟩), by (try dsimp only); rw [ht]; exact ⟨hT, hF, m37, m38, m34⟩⟩, hS.F ht⟩) hS.2.2 dX12_readPart_78
    · have t43 : r15.toInt < 0 := ti_nle c28 (by decide) rfl
      refine lv_iconst (v := 0) hx hb dX12_readPart_68 (by decide) ?_
      exact W.zret (v := 0) hx hb hr (by decide) (fun t ht hW => ⟨⟨0, (u17, u18, sv, ld), rfl, (by exact ⟨(by have q8 := ti_all u17; omega), (by have q8 := ti_all u18; omega), (by have q8 := ti_all sv; omega), (rg_t (a := 0) (by decide) (by first | decide | omega) (by first | decide | omega)), (fun h => absurd h (by decide)), (by omega), hlg⟩), by (try dsimp only); rw [ht]; exact ⟨hT, hF, m19, m20, m22⟩⟩, hS.F ht⟩) hS.2.2 dX12_readPart_69
  · have t44 : u4.toInt < u3.toInt := ti_nle c13 rfl rfl
    refine lv_iconst (v := 0) hx hb dX12_readPart_15 (by decide) ?_
    refine lv_istore_n (lv' := [(1, .int 0), (0, .ref o0)]) hx hb dX12_readPart_16 rfl hl (by decide) rfl (fun ls hl => ?_)
    have jn113 : ∀ (z107 : Int32), ((0 ≤ z107.toInt ∧ z107.toInt ≤ 10)) → ∀ (H : Heap) (locs : List Loc), gH (dC, dI) kA (SHm q (wP wZ wN wH wB wC wL wK wU wV) PI im PM PT (lD (dS S0 lb sv.toInt ld) lS) lB lE lN) G H → gF (dC, dI) SKm G ([(0, 12), (0, 14), (0, 28), (27, 0), (28, 0)] : List (Nat × Nat)) s.heap H → va_S A s.heap H locs → el H o0 (dI 15 13) = some (.int en) → el H o0 (dI 15 28) = some (.int sv) → el H o0 (dI 15 12) = some (.int u3) → el H o0 (dI 15 14) = some (.int u4) → ∀ ls : Array Slot, lv_has ls 2 [(1, .int z107), (0, .ref o0)] → W p l e (headSpec w_s_readPart ({ frames := 5, cells := 0, slots := 0, locals := 108 })).room s m #[.ref o0] below meth c H locs 0 0 (MQ below (va_Qi (fun (r : Int32) (u : Int32 × Int32 × Int32 × (Nat → Int)) => match u with | (p1, b1, s1, ld1) => (0 ≤ p1.toInt ∧ p1.toInt ≤ 400) ∧ (0 ≤ b1.toInt ∧ b1.toInt ≤ 400) ∧ (0 ≤ s1.toInt ∧ s1.toInt ≤ 400) ∧ (0 ≤ r.toInt ∧ r.toInt ≤ 1) ∧ (r = 1 → ld1 s1.toNatClampNeg = ld sv.toNatClampNeg + 1) ∧ (pt.toInt ≤ p1.toInt ∧ p1.toInt ≤ en.toInt ∧ sv.toInt ≤ s1.toInt ∧ s1.toInt - sv.toInt ≤ p1.toInt - pt.toInt) ∧ (lG lb ld1)) (fun (u : Int32 × Int32 × Int32 × (Nat → Int)) (t : State) => match u with | (p1, b1, s1, ld1) => gH (dC, dI) kA (SHm q (wP wZ wN wH wB wC wL wK wU wV) PI im PM PT (lD (dS S0 lb s1.toInt ld1) lS) lB lE lN) G t.heap ∧ gF (dC, dI) SKm G ([(0, 12), (0, 14), (0, 28), (27, 0), (28, 0)] : List (Nat × Nat)) s.heap t.heap ∧ el t.heap o0 (dI 15 12) = some (.int p1) ∧ el t.heap o0 (dI 15 14) = some (.int b1) ∧ el t.heap o0 (dI 15 28) = some (.int s1)) A) #[.ref o0] s 0 0 A) (F0 m 40 ls []) := by
      intro z107 h108 H locs hT hF hS m109 m110 m111 m112 ls hl
      refine lv_iload_n hx hb dX12_readPart_40 rfl (lv_at hl 0 rfl) ?_
      refine lv_bipush (v := 10) hx hb dX12_readPart_41 (by decide) ?_
      refine lv_icmp_ne (tgt := 48) hx hb dX12_readPart_43 (by decide) (fun c114 => ?_) (fun c114 => ?_)
      · have t115 : z107.toInt ≠ 10 := ti_ne c114 rfl (by decide)
        refine lv_aload_n hx hb dX12_readPart_48 rfl (lv_at hl 1 rfl) ?_
        refine lv_iload_n hx hb dX12_readPart_49 rfl (lv_at hl 0 rfl) ?_
        refine lv_iconst (v := 0) hx hb dX12_readPart_50 (by decide) ?_
        have hFc := gA_free hG hA hS
        refine va_callv (va_runV (As := [.int z107, .int 0]) (rest := []) ⟨hx, hb, hml, hown, hts⟩ (s_adds l dC dI kA adK adV G H q wZ wN wH wB wC wL wK wU wV PI im PM PT lS lB lE lN o0 z107 0 sv S0 lb ld (ld sv.toNatClampNeg + 1) hT hr_o0 m110 (by have q8 := ti_all sv; omega) (by have q9 := (show z107.toInt = z107.toInt from rfl); unfold stp; omega) hS0 (by have := (show sv.toInt = sv.toInt from rfl); omega) hlg hgz hgn hgh hgb hgc hgi hgu) (cwV 2 hts (goodIn_app (goodIn_r _ [27, 28, 29, 10] rfl (by decide +kernel)) (goodIn_ca (goodIn_r _ [23, 24, 25, 26] rfl (by decide +kernel)) (bs_in _ _))) rfl rfl rfl (by decide +kernel) ⟨(Nat.le_of_ble_eq_true rfl), (Nat.le_of_ble_eq_true rfl)⟩) ⟨fun a U g mk q => by obtain ⟨q0, q1, qK, qE⟩ := q; exact ⟨q0, q1, va_K.moved (u := U) (U := U.calling g mk a) (Vm.Alike.refl U.vm) qK, EVS.blind g mk a qE⟩, gH_rc hK hT hr_o0 shm_0 rfl, fun U hU hW => ⟨rfl, hU, va_K.moved hW.alike hK, hE.call hS hFc hU hW⟩⟩ rfl rfl hl.1 rfl (lv_room (Nat.le_of_ble_eq_true rfl)) dX12_readPart_51 ⟨(Nat.le_of_ble_eq_true rfl), (Nat.le_of_ble_eq_true rfl)⟩) hS (fun q _ h => hFc q h) hFc (fun u t H locs ht hvm hw117 hB _ _ hS => ?_)
        obtain ⟨u118, u119⟩ := u
        obtain ⟨hT, hF1, m120⟩ := hB
        rw [ht] at hT hF1 m120
        have m123 := (hF1.fld hr_o0 skm_0 (k := 12) (by decide) (by decide)).trans m111
        have m124 := (hF1.fld hr_o0 skm_0 (k := 14) (by decide) (by decide)).trans m112
        have hF := hF.more hF1 (by decide)
        try dsimp only at hw117
        obtain ⟨h125, hf126, hf127, hf128⟩ := hw117
        refine lv_iconst (v := 1) hx hb dX12_readPart_54 (by decide) ?_
        exact W.zret (v := 1) hx hb hr (by decide) (fun t ht hW => ⟨⟨1, (u3, u4, u118, u119), rfl, (by exact ⟨(by have q8 := ti_all u3; omega), (by have q8 := ti_all u4; omega), (by have q8 := ti_all u118; omega), (rg_t (a := 1) (by decide) (by first | decide | omega) (by first | decide | omega)), (fun _ => (by omega)), (by omega), hf128⟩), by (try dsimp only); rw [ht]; exact ⟨hT, hF, m123, m124, m120⟩⟩, hS.F ht⟩) hS.2.2 dX12_readPart_55
      · have t129 : z107.toInt = 10 := ti_eq c114 rfl (by decide)
        refine lv_iconst (v := 0) hx hb dX12_readPart_46 (by decide) ?_
        exact W.zret (v := 0) hx hb hr (by decide) (fun t ht hW => ⟨⟨0, (u3, u4, sv, ld), rfl, (by exact ⟨(by have q8 := ti_all u3; omega), (by have q8 := ti_all u4; omega), (by have q8 := ti_all sv; omega), (rg_t (a := 0) (by decide) (by first | decide | omega) (by first | decide | omega)), (fun h => absurd h (by decide)), (by omega), hlg⟩), by (try dsimp only); rw [ht]; exact ⟨hT, hF, m111, m112, m110⟩⟩, hS.F ht⟩) hS.2.2 dX12_readPart_47
    have key130 : ∀ (n130 i45 : Nat), i45 + n130 = 10 → 0 ≤ i45 → ∀ (H : Heap) (locs : List Loc), gH (dC, dI) kA (SHm q (wP wZ wN wH wB wC wL wK wU wV) PI im PM PT (lD (dS S0 lb sv.toInt ld) lS) lB lE lN) G H → gF (dC, dI) SKm G ([(0, 12), (0, 14), (0, 28), (27, 0), (28, 0)] : List (Nat × Nat)) s.heap H → va_S A s.heap H locs → el H o0 (dI 15 13) = some (.int en) → el H o0 (dI 15 28) = some (.int sv) → el H o0 (dI 15 12) = some (.int u3) → el H o0 (dI 15 14) = some (.int u4) → ∀ ls : Array Slot, lv_has ls 2 [(1, .int (nI i45)), (0, .ref o0)] → W p l e (headSpec w_s_readPart ({ frames := 5, cells := 0, slots := 0, locals := 108 })).room s m #[.ref o0] below meth c H locs 0 0 (MQ below (va_Qi (fun (r : Int32) (u : Int32 × Int32 × Int32 × (Nat → Int)) => match u with | (p1, b1, s1, ld1) => (0 ≤ p1.toInt ∧ p1.toInt ≤ 400) ∧ (0 ≤ b1.toInt ∧ b1.toInt ≤ 400) ∧ (0 ≤ s1.toInt ∧ s1.toInt ≤ 400) ∧ (0 ≤ r.toInt ∧ r.toInt ≤ 1) ∧ (r = 1 → ld1 s1.toNatClampNeg = ld sv.toNatClampNeg + 1) ∧ (pt.toInt ≤ p1.toInt ∧ p1.toInt ≤ en.toInt ∧ sv.toInt ≤ s1.toInt ∧ s1.toInt - sv.toInt ≤ p1.toInt - pt.toInt) ∧ (lG lb ld1)) (fun (u : Int32 × Int32 × Int32 × (Nat → Int)) (t : State) => match u with | (p1, b1, s1, ld1) => gH (dC, dI) kA (SHm q (wP wZ wN wH wB wC wL wK wU wV) PI im PM PT (lD (dS S0 lb s1.toInt ld1) lS) lB lE lN) G t.heap ∧ gF (dC, dI) SKm G ([(0, 12), (0, 14), (0, 28), (27, 0), (28, 0)] : List (Nat × Nat)) s.heap t.heap ∧ el t.heap o0 (dI 15 12) = some (.int p1) ∧ el t.heap o0 (dI 15 14) = some (.int b1) ∧ el t.heap o0 (dI 15 28) = some (.int s1)) A) #[.ref o0] s 0 0 A) (F0 m 17 ls []) := by
      intro n130
      induction n130 with
      | zero =>
        intro i45 hn130 hlo131  H locs hT hF hS m46 m47 m48 m49 ls hl
        obtain rfl : 10 = i45 := by omega
        refine lv_iload_n hx hb dX12_readPart_17 rfl (lv_at hl 0 rfl) ?_
        refine lv_bipush (v := 10) hx hb dX12_readPart_18 (by decide) ?_
        refine lv_icmp_ge (tgt := 40) hx hb dX12_readPart_20 (by decide) (fun c132 => ?_) (fun c132 => (by exfalso; have q9 : ((10 : Nat) : Int) < 10 := ti_nle c132 (by decide) (nI_toInt (by omega)); omega))
        have t133 : 10 ≤ ((10 : Nat) : Int) := ti_le c132 (by decide) (nI_toInt (by omega))
        exact jn113 (nI 10) (rg_t (a := ((10 : Nat) : Int)) (nI_toInt (by omega)) (by omega) (by omega)) _ _ hT hF hS m46 m47 m48 m49 ls (lv_sub hl [0, 1] rfl)
      | succ n130 ih130 =>
        intro i45 hn130 hlo131  H locs hT hF hS m46 m47 m48 m49 ls hl
        have hlt133 : i45 < 10 := by omega
        refine lv_iload_n hx hb dX12_readPart_17 rfl (lv_at hl 0 rfl) ?_
        refine lv_bipush (v := 10) hx hb dX12_readPart_18 (by decide) ?_
        refine lv_icmp_ge (tgt := 40) hx hb dX12_readPart_20 (by decide) (fun c134 => (by exfalso; have q9 : 10 ≤ ((i45 : Nat) : Int) := ti_le c134 (by decide) (nI_toInt (by omega)); omega)) (fun c134 => ?_)
        have t135 : ((i45 : Nat) : Int) < 10 := ti_nle c134 (by decide) (nI_toInt (by omega))
        refine lv_aload_n hx hb dX12_readPart_23 rfl (lv_at hl 1 rfl) ?_
        refine lv_iload_n hx hb dX12_readPart_24 rfl (lv_at hl 0 rfl) ?_
        have hFc := gA_free hG hA hS
        refine va_callr (va_runS (As := [.int (nI i45)]) (rest := [.ref o0]) ⟨hx, hb, hml, hown, hts⟩ (s_fact l dC dI kA adK adV G H q wZ wN wH wB wC wL wK wU wV PI im PM PT (lD (dS S0 lb sv.toInt ld) lS) lB lE lN (nI i45) hT (rg_t (a := ((i45 : Nat) : Int)) (nI_toInt (by omega)) (by omega) (by omega)) hgz hgn hgh hgb hgc hgi hgu) (va_cwS 1 hts (goodIn_app (goodIn_r _ [31, 32, 10] rfl (by decide +kernel)) (goodIn_ca (goodIn_r _ [30] rfl (by decide +kernel)) (bs_in _ _))) rfl rfl rfl (by decide +kernel) ⟨(Nat.le_of_ble_eq_true rfl), (Nat.le_of_ble_eq_true rfl)⟩) ⟨fun a U g mk q => by obtain ⟨q0, q1, qK, qE⟩ := q; exact ⟨q0, q1, va_K.moved (u := U) (U := U.calling g mk a) (Vm.Alike.refl U.vm) qK, EVS.blind g mk a qE⟩, fun U hU hW => ⟨rfl, hU, va_K.moved hW.alike hK, hE.call hS hFc hU hW⟩⟩ rfl rfl hl.1 rfl (lv_room (Nat.le_of_ble_eq_true rfl)) dX12_readPart_25 ⟨(Nat.le_of_ble_eq_true rfl), (Nat.le_of_ble_eq_true rfl)⟩) hS (fun q _ h => hFc q h) hFc (fun u r136 t H locs ht hvm hw137 hB _ _ hS => ?_)
        obtain ⟨hr9, hT, hF1⟩ := hB
        rw [ht] at hT hF1
        have m138 := (hF1.fld hr_o0 skm_0 (k := 13) (by decide) (by decide)).trans m46
        have m139 := (hF1.fld hr_o0 skm_0 (k := 28) (by decide) (by decide)).trans m47
        have m140 := (hF1.fld hr_o0 skm_0 (k := 12) (by decide) (by decide)).trans m48
        have m141 := (hF1.fld hr_o0 skm_0 (k := 14) (by decide) (by decide)).trans m49
        have hF := hF.more hF1 (by decide)
        rw [show (nI i45).toNatClampNeg = i45 from tn_nI (by omega)] at hr9
        subst hr9
        try dsimp only at hw137
        have hFc := gA_free hG hA hS
        refine va_calli (va_runV (As := [.ref (adK i45)]) (rest := []) ⟨hx, hb, hml, hown, hts⟩ (s_isWord l dC dI kA adK adV G H q wZ wN wH wB wC wL wK wU wV PI im PM PT (lD (dS S0 lb sv.toInt ld) lS) lB lE lN o0 u3 u4 i45 hT hr_o0 m140 m141 (by have q8 := ti_all u3; omega) (by have q8 := ti_all u4; omega) (by have := (show u3.toInt = u3.toInt from rfl); have := (show u4.toInt = u4.toInt from rfl); omega) (by first | omega | decide) hgz hgn hgh hgb hgc hgi hgu) (cwV 1 hts (goodIn_app (goodIn_r _ [66, 67, 68, 10] rfl (by decide +kernel)) (goodIn_ca (goodIn_r _ [33, 4, 11, 34, 35, 36, 37, 38, 39, 40, 41, 42, 43, 44, 45, 6, 46, 47, 48, 49, 50, 51, 52, 53, 54, 55, 56, 57, 58, 59, 60, 61, 62, 63, 64, 65] rfl (by decide +kernel)) (bs_in _ _))) rfl rfl rfl (by decide +kernel) ⟨(Nat.le_of_ble_eq_true rfl), (Nat.le_of_ble_eq_true rfl)⟩) ⟨fun a U g mk q => by obtain ⟨q0, q1, qK, qE⟩ := q; exact ⟨q0, q1, va_K.moved (u := U) (U := U.calling g mk a) (Vm.Alike.refl U.vm) qK, EVS.blind g mk a qE⟩, gH_rc hK hT hr_o0 shm_0 rfl, fun U hU hW => ⟨rfl, hU, va_K.moved hW.alike hK, hE.call hS hFc hU hW⟩⟩ rfl rfl hl.1 rfl (lv_room (Nat.le_of_ble_eq_true rfl)) dX12_readPart_28 ⟨(Nat.le_of_ble_eq_true rfl), (Nat.le_of_ble_eq_true rfl)⟩) hS (fun q _ h => hFc q h) hFc (fun r142 u t H locs ht hvm hw143 hB _ _ hS => ?_)
        obtain ⟨hT, hF1⟩ := hB
        rw [ht] at hT hF1
        have m144 := (hF1.fld hr_o0 skm_0 (k := 13) (by decide) (by decide)).trans m138
        have m145 := (hF1.fld hr_o0 skm_0 (k := 28) (by decide) (by decide)).trans m139
        have m146 := (hF1.fld hr_o0 skm_0 (k := 12) (by decide) (by decide)).trans m140
        have m147 := (hF1.fld hr_o0 skm_0 (k := 14) (by decide) (by decide)).trans m141
        have hF := hF.more hF1 (by decide)
        try dsimp only at hw143
        obtain ⟨h148, hi149⟩ := hw143
        refine lv_if_ne (tgt := 40) hx hb dX12_readPart_31 (by decide) (fun c150 => ?_) (fun c150 => ?_)
        · have t151 : r142.toInt ≠ 0 := ti_ne c150 rfl (by decide)
          have t152 : u3.toInt - u4.toInt = ((sLn i45 : Nat) : Int) := hi149 ((bit_of ⟨by omega, by omega⟩).resolve_left c150)
          exact jn113 (nI i45) (rg_t (a := ((i45 : Nat) : Int)) (nI_toInt (by omega)) (by omega) (by omega)) _ _ hT hF hS m144 m145 m146 m147 ls (lv_sub hl [0, 1] rfl)
        · have t153 : r142.toInt = 0 := ti_eq c150 rfl (by decide)
          refine lv_iinc (v := nI (i45 + 1)) (lv' := [(1, .int (nI (i45 + 1))), (0, .ref o0)]) hx hb dX12_readPart_34 hl (k := 0) rfl (nI_add i45 1) (by decide) rfl (fun ls hl => ?_)
          refine lv_goto (tgt := 17) hx hb dX12_readPart_37 (by decide) ?_
          exact ih130 (i45 + 1) (by omega) (by omega) _ _ hT hF hS m144 m145 m146 m147 ls (lv_sub hl [0, 1] rfl)
    exact key130 (10 - 0) 0 (by omega) (Nat.le_refl _) _ _ hT hF hS m8 m9 m5 m6 ls (lv_sub hl [0, 1] rfl)
def w_s_readSum : List Cond := .code yX12_readSum cX12_readSum 1 (some .boolean) :: (HAppend.hAppend (α := List Cond) (β := List Cond) (γ := List Cond) [.code yX12_readPart cX12_readPart 2 (some .boolean), .code yX12_word cX12_word 1 none, .code yX12_blanks cX12_blanks 1 none, .code yX12_isAt cX12_isAt 3 (some .boolean), .fieldLink RX12 335 "SeaLandModel" "point" "I", .fieldLink RX12 338 "SeaLandModel" "end" "I", .fieldLink RX12 31 "SeaLandModel" "tape" "[B", .methodLink RX12 341 yX12_isAt, .instanceMethod yX12_isAt, .selects RX12 yX12_isAt yX12_isAt, .initialized RX12, .fieldLink RX12 345 "SeaLandModel" "begin" "I", .methodLink RX12 348 yX12_blanks, .instanceMethod yX12_blanks, .selects RX12 yX12_blanks yX12_blanks, .methodLink RX12 360 yX12_word, .instanceMethod yX12_word, .selects RX12 yX12_word yX12_word, .constant RX12 390 99999, .code yX12_number cX12_number 3 (some .int), .methodLink RX12 391 yX12_number, .instanceMethod yX12_number, .selects RX12 yX12_number yX12_number, .code yX12_adds cX12_adds 3 none, .fieldLink RX12 66 "SeaLandModel" "step" "[I", .fieldLink RX12 367 "SeaLandModel" "steps" "I", .fieldLink RX12 69 "SeaLandModel" "than" "[I", .methodLink RX12 387 yX12_adds, .instanceMethod yX12_adds, .selects RX12 yX12_adds yX12_adds, .code yX12_fact cX12_fact 1 (some (.object "java/lang/String")), .methodLink RX12 383 yX12_fact, .static yX12_fact, .code yX12_isWord cX12_isWord 4 (some .boolean), .code yJ0_length_8abf5 cJ0_length_8abf5 1 (some .int), .fieldLink RJ0 9 "java/lang/String" "value" "[B", .code yJ0_coder_7d493 cJ0_coder_7d493 1 (some .byte), .fieldLink RJ0 38 "java/lang/String" "COMPACT_STRINGS" "Z", .fieldLink RJ0 15 "java/lang/String" "coder" "B", .methodLink RJ0 335 yJ0_coder_7d493, .instanceMethod yJ0_coder_7d493, .selects RJ0 yJ0_coder_7d493 yJ0_coder_7d493, .initialized RJ0, .methodLink RX12 351 yJ0_length_8abf5, .instanceMethod yJ0_length_8abf5, .selects RJ0 yJ0_length_8abf5 yJ0_length_8abf5, .code yJ0_charAt_5068e cJ0_charAt_5068e 2 (some .char), .code yJ0_isLatin1_aae02 cJ0_isLatin1_aae02 1 (some .boolean), .methodLink RJ0 492 yJ0_isLatin1_aae02, .instanceMethod yJ0_isLatin1_aae02, .selects RJ0 yJ0_isLatin1_aae02 yJ0_isLatin1_aae02, .code yJ1_charAt_3b067 cJ1_charAt_3b067 2 (some .char), .code yJ0_checkIndex_df160 cJ0_checkIndex_df160 2 none, .fieldLink RJ0 1053 "jdk/internal/util/Preconditions" "SIOOBE_FORMATTER" "Ljava/util/function/BiFunction;", .code yJ3_checkIndex_8e157 cJ3_checkIndex_8e157 3 (some .int), .methodLink RJ0 1059 yJ3_checkIndex_8e157, .static yJ3_checkIndex_8e157, .initialized RJ3, .methodLink RJ1 9 yJ0_checkIndex_df160, .static yJ0_checkIndex_df160, .methodLink RJ0 495 yJ1_charAt_3b067, .static yJ1_charAt_3b067, .initialized RJ1, .methodLink RX12 356 yJ0_charAt_5068e, .instanceMethod yJ0_charAt_5068e, .selects RJ0 yJ0_charAt_5068e yJ0_charAt_5068e, .methodLink RX12 363 yX12_isWord, .instanceMethod yX12_isWord, .selects RX12 yX12_isWord yX12_isWord, .methodLink RX12 394 yX12_readPart, .instanceMethod yX12_readPart, .selects RX12 yX12_readPart yX12_readPart, .code yX12_sign cX12_sign 2 (some .boolean), .methodLink RX12 398 yX12_sign, .instanceMethod yX12_sign, .selects RX12 yX12_sign yX12_sign] bs)
set_option maxHeartbeats 4000000 in
set_option maxRecDepth 100000 in
theorem s_readSum (l : Launch) (dC : Nat → ClassId) (dI : Nat → Nat → Nat) (kA : Nat → ClassId) (adK adV : Nat → Nat) (G : gT) (H0 : Heap) (q : Nat → Nat) (wZ wN : Nat → Int) (wH wB wC : Int) (wL wK : Nat → Prop) (wU wV : Nat → Nat) (PI : Nat → Int → Prop) (im : Int) (PM PT : Nat → Int → Prop) (lS lB lE : Nat → Nat → Int → Prop) (lN : Nat → Int) (o0 : Nat) (pt : Int32) (en : Int32) (sv : Int32) (S0 : Nat → Int → Prop) (lb : Int) (ld : Nat → Int) (hT : gH (dC, dI) kA (SHm q (wP wZ wN wH wB wC wL wK wU wV) PI im PM PT (lD (dS S0 lb sv.toInt ld) lS) lB lE lN) G H0) (hr_o0 : G o0 = some 0) (hm_pt : el H0 o0 (dI 15 12) = some (.int pt)) (hm_en : el H0 o0 (dI 15 13) = some (.int en)) (hm_sv : el H0 o0 (dI 15 28) = some (.int sv)) (hq0 : 0 ≤ pt.toInt ∧ pt.toInt ≤ 400) (hq1 : 0 ≤ en.toInt ∧ en.toInt ≤ 400) (hq2 : 0 ≤ sv.toInt ∧ sv.toInt ≤ 400) (hpe : pt.toInt ≤ en.toInt) (hsp : sv.toInt ≤ pt.toInt) (hS0 : ∀ (i : Nat) x, lb ≤ (i : Int) → S0 i x) (hlb : 0 ≤ lb ∧ lb ≤ sv.toInt) (hlg : lG lb ld) (hd0 : 0 ≤ ld sv.toNatClampNeg) (hgz : ∀ i, 0 ≤ wZ i) (hgn : ∀ i, 6500000 ≤ wN i ∧ wN i ≤ 20200000) (hgh : 0 ≤ wH ∧ wH ≤ 40000) (hgb : 0 ≤ wB ∧ wB ≤ 3850000) (hgc : 0 ≤ wC ∧ wC ≤ 30) (hgi : 0 ≤ im ∧ im ≤ 1) (hgu : ∀ a t, G a = some (t + 1) → a = q t) : Met l yX12_readSum w_s_readSum ({ frames := 6, cells := 0, slots := 0, locals := 129 }) (va_Pc [.ref o0] (fun U => U.heap = H0 ∧ va_K (dC, dI) vwCl (tyl kA) U ∧ EVS adK adV (gA G H0.size) U U.heap)) (va_Qi (fun (r : Int32) (u : Int32 × Int32 × Int32 × (Nat → Int)) => match u with | (p1, b1, s1, ld1) => (0 ≤ p1.toInt ∧ p1.toInt ≤ 400) ∧ (0 ≤ b1.toInt ∧ b1.toInt ≤ 400) ∧ (0 ≤ s1.toInt ∧ s1.toInt ≤ 400) ∧ (0 ≤ r.toInt ∧ r.toInt ≤ 1) ∧ (r = 1 → ld1 s1.toNatClampNeg = ld sv.toNatClampNeg + 1) ∧ (pt.toInt ≤ p1.toInt ∧ p1.toInt ≤ en.toInt ∧ sv.toInt ≤ s1.toInt ∧ s1.toInt - sv.toInt ≤ p1.toInt - pt.toInt) ∧ (lG lb ld1)) (fun (u : Int32 × Int32 × Int32 × (Nat → Int)) (t : State) => match u with | (p1, b1, s1, ld1) => gH (dC, dI) kA (SHm q (wP wZ wN wH wB wC wL wK wU wV) PI im PM PT (lD (dS S0 lb s1.toInt ld1) lS) lB lE lN) G t.heap ∧ gF (dC, dI) SKm G ([(0, 12), (0, 14), (0, 28), (27, 0), (28, 0)] : List (Nat × Nat)) H0 t.heap ∧ el t.heap o0 (dI 15 12) = some (.int p1) ∧ el t.heap o0 (dI 15 14) = some (.int b1) ∧ el t.heap o0 (dI 15 28) = some (.int s1)) (gA G H0.size)) 0 0 (gA G H0.size) := by
  refine Met.ofW (cc := cX12_readSum) (maxL := 1) (ret := (some .boolean)) (by decide) rfl ?_
  intro p e s m args below meth c s₁ B hml hv
  obtain ⟨rfl, hH0, hK, hE⟩ := hv
  have hx := B.exec
  have hb := B.bytes
  have hr := B.returns
  have hts := atoms_spec (ws := w_s_readSum) B.pre
  have hown : s.vm.findClass RX12 = some m.cls := findClass_of_methodNamed B.named
  have hlocks := B.notSynchronized
  subst hH0
  generalize hAe : gA G s.heap.size = A at hE ⊢
  have hA : ∀ q : Nat, s.heap.size ≤ q → A q := fun q h => by rw [← hAe]; exact Or.inr h
  have hG := gA_of hAe
  have hS : va_S A s.heap s.heap [] := va_S.rf
  have hF : gF (dC, dI) SKm G ([(0, 12), (0, 14), (0, 28), (27, 0), (28, 0)] : List (Nat × Nat)) s.heap s.heap := gF.rf
  have hl := lv_entry ([.ref o0]) (n := 1) (Nat.le_of_ble_eq_true rfl)
  rw [lg_entry_eq]
  generalize (lg_sl ([.ref o0]) ++ List.replicate (1 - (lg_sl ([.ref o0])).length) Slot.unset).toArray = ls at hl ⊢
  have hl : lv_has ls 1 [(0, .ref o0)] := hl
  refine lv_aload_n hx hb dX12_readSum_0 rfl (lv_at hl 0 rfl) ?_
  have hFc := gA_free hG hA hS
  refine va_calli (va_runV (As := []) (rest := []) ⟨hx, hb, hml, hown, hts⟩ (s_readPart l dC dI kA adK adV G s.heap q wZ wN wH wB wC wL wK wU wV PI im PM PT lS lB lE lN o0 pt en sv S0 lb ld hT hr_o0 hm_pt hm_en hm_sv (by have q8 := ti_all pt; omega) (by have q8 := ti_all en; omega) (by have q8 := ti_all sv; omega) (by have := (show pt.toInt = pt.toInt from rfl); have := (show en.toInt = en.toInt from rfl); omega) (by have := (show sv.toInt = sv.toInt from rfl); have := (show pt.toInt = pt.toInt from rfl); omega) hS0 (by have := (show sv.toInt = sv.toInt from rfl); omega) hlg (by omega) hgz hgn hgh hgb hgc hgi hgu) (cwV 0 hts (goodIn_app (goodIn_r _ [70, 71, 72, 11] rfl (by decide +kernel)) (goodIn_ca (goodIn_r _ [1, 2, 3, 4, 5, 6, 7, 8, 9, 10, 11, 12, 13, 14, 15, 16, 17, 18, 19, 20, 21, 22, 23, 24, 25, 26, 27, 28, 29, 30, 31, 32, 33, 34, 35, 36, 37, 38, 39, 40, 41, 42, 43, 44, 45, 46, 47, 48, 49, 50, 51, 52, 53, 54, 55, 56, 57, 58, 59, 60, 61, 62, 63, 64, 65, 66, 67, 68, 69] rfl (by decide +kernel)) (bs_in _ _))) rfl rfl rfl (by decide +kernel) ⟨(Nat.le_of_ble_eq_true rfl), (Nat.le_of_ble_eq_true rfl)⟩) ⟨fun a U g mk q => by obtain ⟨q0, q1, qK, qE⟩ := q; exact ⟨q0, q1, va_K.moved (u := U) (U := U.calling g mk a) (Vm.Alike.refl U.vm) qK, EVS.blind g mk a qE⟩, gH_rc hK hT hr_o0 shm_0 rfl, fun U hU hW => ⟨rfl, hU, va_K.moved hW.alike hK, hE.call hS hFc hU hW⟩⟩ rfl rfl hl.1 rfl (lv_room (Nat.le_of_ble_eq_true rfl)) dX12_readSum_1 ⟨(Nat.le_of_ble_eq_true rfl), (Nat.le_of_ble_eq_true rfl)⟩) hS (fun q _ h => hFc q h) hFc (fun r1 u t H locs ht hvm hw2 hB _ _ hS => ?_)
  obtain ⟨u3, u4, u5, u6⟩ := u
  obtain ⟨hT, hF1, m7, m8, m9⟩ := hB
  rw [ht] at hT hF1 m7 m8 m9
  have m11 := (hF1.fld hr_o0 skm_0 (k := 13) (by decide) (by decide)).trans hm_en
  have hF := hF.more hF1 (by decide)
  try dsimp only at hw2
  obtain ⟨h13, h14, h15, h16, hi17, hf18, hf19⟩ := hw2
  refine lv_if_ne (tgt := 9) hx hb dX12_readSum_4 (by decide) (fun c20 => ?_) (fun c20 => ?_)
  · have t21 : r1.toInt ≠ 0 := ti_ne c20 rfl (by decide)
    have t22 : u6 u5.toNatClampNeg = ld sv.toNatClampNeg + 1 := hi17 ((bit_of ⟨by omega, by omega⟩).resolve_left c20)
    have key157 : ∀ (n157 : Nat), ∀ (gld87 : Nat → Int), ∀ (z89 : Int32), ∀ (z92 : Int32), ∀ (z95 : Int32), (400 - z89.toInt < ((n157 : Nat) : Int)) → ((0 ≤ z89.toInt ∧ z89.toInt ≤ 400) ∧ (0 ≤ z92.toInt ∧ z92.toInt ≤ 400) ∧ (0 ≤ z95.toInt ∧ z95.toInt ≤ 400) ∧ (lG lb gld87) ∧ (gld87 z95.toNatClampNeg = ld sv.toNatClampNeg + 1) ∧ (pt.toInt ≤ z89.toInt ∧ z89.toInt ≤ en.toInt ∧ sv.toInt ≤ z95.toInt ∧ z95.toInt - sv.toInt ≤ z89.toInt - pt.toInt)) → ∀ (H : Heap) (locs : List Loc), gH (dC, dI) kA (SHm q (wP wZ wN wH wB wC wL wK wU wV) PI im PM PT (lD (dS S0 lb z95.toInt gld87) lS) lB lE lN) G H → gF (dC, dI) SKm G ([(0, 12), (0, 14), (0, 28), (27, 0), (28, 0)] : List (Nat × Nat)) s.heap H → va_S A s.heap H locs → el H o0 (dI 15 13) = some (.int en) → el H o0 (dI 15 12) = some (.int z89) → el H o0 (dI 15 14) = some (.int z92) → el H o0 (dI 15 28) = some (.int z95) → ∀ ls : Array Slot, lv_has ls 1 [(0, .ref o0)] → W p l e (headSpec w_s_readSum ({ frames := 6, cells := 0, slots := 0, locals := 129 })).room s m #[.ref o0] below meth c H locs 0 0 (MQ below (va_Qi (fun (r : Int32) (u : Int32 × Int32 × Int32 × (Nat → Int)) => match u with | (p1, b1, s1, ld1) => (0 ≤ p1.toInt ∧ p1.toInt ≤ 400) ∧ (0 ≤ b1.toInt ∧ b1.toInt ≤ 400) ∧ (0 ≤ s1.toInt ∧ s1.toInt ≤ 400) ∧ (0 ≤ r.toInt ∧ r.toInt ≤ 1) ∧ (r = 1 → ld1 s1.toNatClampNeg = ld sv.toNatClampNeg + 1) ∧ (pt.toInt ≤ p1.toInt ∧ p1.toInt ≤ en.toInt ∧ sv.toInt ≤ s1.toInt ∧ s1.toInt - sv.toInt ≤ p1.toInt - pt.toInt) ∧ (lG lb ld1)) (fun (u : Int32 × Int32 × Int32 × (Nat → Int)) (t : State) => match u with | (p1, b1, s1, ld1) => gH (dC, dI) kA (SHm q (wP wZ wN wH wB wC wL wK wU wV) PI im PM PT (lD (dS S0 lb s1.toInt ld1) lS) lB lE lN) G t.heap ∧ gF (dC, dI) SKm G ([(0, 12), (0, 14), (0, 28), (27, 0), (28, 0)] : List (Nat × Nat)) s.heap t.heap ∧ el t.heap o0 (dI 15 12) = some (.int p1) ∧ el t.heap o0 (dI 15 14) = some (.int b1) ∧ el t.heap o0 (dI 15 28) = some (.int s1)) A) #[.ref o0] s 0 0 A) (F0 m 9 ls []) := by
      intro n157
      induction n157 with
      | zero =>
        intro gld87 z89 z92 z95 hv157 ⟨h90, h93, h96, hg98, hg99, hj100⟩ H locs hT hF hS m88 m91 m94 m97 ls hl
        exfalso; omega
      | succ n157 ih157 =>
        intro gld87 z89 z92 z95 hv157 ⟨h90, h93, h96, hg98, hg99, hj100⟩ H locs hT hF hS m88 m91 m94 m97 ls hl
        refine lv_aload_n hx hb dX12_readSum_9 rfl (lv_at hl 0 rfl) ?_
        refine lv_bipush (v := 43) hx hb dX12_readSum_10 (by decide) ?_
        have hFc := gA_free hG hA hS
        refine va_calli (va_runV (As := [.int 43]) (rest := []) ⟨hx, hb, hml, hown, hts⟩ (s_sign l dC dI kA adK adV G H q wZ wN wH wB wC wL wK wU wV PI im PM PT (lD (dS S0 lb z95.toInt gld87) lS) lB lE lN o0 43 z89 en hT hr_o0 m91 m88 (by have q8 := ti_all z89; omega) (by have q8 := ti_all en; omega) (by have := (show z89.toInt = z89.toInt from rfl); have := (show en.toInt = en.toInt from rfl); omega) hgz hgn hgh hgb hgc hgi hgu) (cwV 1 hts (goodIn_app (goodIn_r _ [74, 75, 76, 11] rfl (by decide +kernel)) (goodIn_ca (goodIn_r _ [73, 3, 4, 5, 6, 7, 8, 9, 10, 11, 12, 13, 14, 15] rfl (by decide +kernel)) (bs_in _ _))) rfl rfl rfl (by decide +kernel) ⟨(Nat.le_of_ble_eq_true rfl), (Nat.le_of_ble_eq_true rfl)⟩) ⟨fun a U g mk q => by obtain ⟨q0, q1, qK, qE⟩ := q; exact ⟨q0, q1, va_K.moved (u := U) (U := U.calling g mk a) (Vm.Alike.refl U.vm) qK, EVS.blind g mk a qE⟩, gH_rc hK hT hr_o0 shm_0 rfl, fun U hU hW => ⟨rfl, hU, va_K.moved hW.alike hK, hE.call hS hFc hU hW⟩⟩ rfl rfl hl.1 rfl (lv_room (Nat.le_of_ble_eq_true rfl)) dX12_readSum_12 ⟨(Nat.le_of_ble_eq_true rfl), (Nat.le_of_ble_eq_true rfl)⟩) hS (fun q _ h => hFc q h) hFc (fun r158 u t H locs ht hvm hw159 hB _ _ hS => ?_)
        obtain ⟨u160, u161⟩ := u
        obtain ⟨hT, hF1, m162, m163⟩ := hB
        rw [ht] at hT hF1 m162 m163
        have m164 := (hF1.fld hr_o0 skm_0 (k := 13) (by decide) (by decide)).trans m88
        have m167 := (hF1.fld hr_o0 skm_0 (k := 28) (by decide) (by decide)).trans m97
        have hF := hF.more hF1 (by decide)
        try dsimp only at hw159
        obtain ⟨h168, h169, h170, hi171, hf172⟩ := hw159
        refine lv_if_eq (tgt := 37) hx hb dX12_readSum_15 (by decide) (fun c173 => ?_) (fun c173 => ?_)
        · have t174 : r158.toInt = 0 := ti_eq c173 rfl (by decide)
          refine lv_iconst (v := 1) hx hb dX12_readSum_37 (by decide) ?_
          exact W.zret (v := 1) hx hb hr (by decide) (fun t ht hW => ⟨⟨1, (u160, u161, z95, gld87), rfl, (by exact ⟨(by have q8 := ti_all u160; omega), (by have q8 := ti_all u161; omega), (by have q8 := ti_all z95; omega), (rg_t (a := 1) (by decide) (by first | decide | omega) (by first | decide | omega)), (fun _ => (by omega)), (by omega), hg98⟩), by (try dsimp only); rw [ht]; exact ⟨hT, hF, m162, m163, m167⟩⟩, hS.F ht⟩) hS.2.2 dX12_readSum_38
        · have t175 : r158.toInt ≠ 0 := ti_ne c173 rfl (by decide)
          have t176 : z89.toInt + 1 ≤ u160.toInt := hi171 ((bit_of ⟨by omega, by omega⟩).resolve_left c173)
          refine lv_aload_n hx hb dX12_readSum_18 rfl (lv_at hl 0 rfl) ?_
          have hFc := gA_free hG hA hS
          refine va_calli (va_runV (As := []) (rest := []) ⟨hx, hb, hml, hown, hts⟩ (s_readPart l dC dI kA adK adV G H q wZ wN wH wB wC wL wK wU wV PI im PM PT lS lB lE lN o0 u160 en z95 S0 lb gld87 hT hr_o0 m162 m164 m167 (by have q8 := ti_all u160; omega) (by have q8 := ti_all en; omega) (by have q8 := ti_all z95; omega) (by have := (show u160.toInt = u160.toInt from rfl); have := (show en.toInt = en.toInt from rfl); omega) (by have := (show z95.toInt = z95.toInt from rfl); have := (show u160.toInt = u160.toInt from rfl); omega) hS0 (by have := (show z95.toInt = z95.toInt from rfl); omega) hg98 (by omega) hgz hgn hgh hgb hgc hgi hgu) (cwV 0 hts (goodIn_app (goodIn_r _ [70, 71, 72, 11] rfl (by decide +kernel)) (goodIn_ca (goodIn_r _ [1, 2, 3, 4, 5, 6, 7, 8, 9, 10, 11, 12, 13, 14, 15, 16, 17, 18, 19, 20, 21, 22, 23, 24, 25, 26, 27, 28, 29, 30, 31, 32, 33, 34, 35, 36, 37, 38, 39, 40, 41, 42, 43, 44, 45, 46, 47, 48, 49, 50, 51, 52, 53, 54, 55, 56, 57, 58, 59, 60, 61, 62, 63, 64, 65, 66, 67, 68, 69] rfl (by decide +kernel)) (bs_in _ _))) rfl rfl rfl (by decide +kernel) ⟨(Nat.le_of_ble_eq_true rfl), (Nat.le_of_ble_eq_true rfl)⟩) ⟨fun a U g mk q => by obtain ⟨q0, q1, qK, qE⟩ := q; exact ⟨q0, q1, va_K.moved (u := U) (U := U.calling g mk a) (Vm.Alike.refl U.vm) qK, EVS.blind g mk a qE⟩, gH_rc hK hT hr_o0 shm_0 rfl, fun U hU hW => ⟨rfl, hU, va_K.moved hW.alike hK, hE.call hS hFc hU hW⟩⟩ rfl rfl hl.1 rfl (lv_room (Nat.le_of_ble_eq_true rfl)) dX12_readSum_19 ⟨(Nat.le_of_ble_eq_true rfl), (Nat.le_of_ble_eq_true rfl)⟩) hS (fun q _ h => hFc q h) hFc (fun r177 u t H locs ht hvm hw178 hB _ _ hS => ?_)
          obtain ⟨u179, u180, u181, u182⟩ := u
          obtain ⟨hT, hF1, m183, m184, m185⟩ := hB
          rw [ht] at hT hF1 m183 m184 m185
          have m186 := (hF1.fld hr_o0 skm_0 (k := 13) (by decide) (by decide)).trans m164
          have hF := hF.more hF1 (by decide)
          try dsimp only at hw178
          obtain ⟨h190, h191, h192, h193, hi194, hf195, hf196⟩ := hw178
          refine lv_if_ne (tgt := 27) hx hb dX12_readSum_22 (by decide) (fun c197 => ?_) (fun c197 => ?_)
          · have t198 : r177.toInt ≠ 0 := ti_ne c197 rfl (by decide)
            have t199 : u182 u181.toNatClampNeg = gld87 z95.toNatClampNeg + 1 := hi194 ((bit_of ⟨by omega, by omega⟩).resolve_left c197)
            refine lv_aload_n hx hb dX12_readSum_27 rfl (lv_at hl 0 rfl) ?_
            refine lv_bipush (v := 101) hx hb dX12_readSum_28 (by decide) ?_
            refine lv_iconst (v := 0) hx hb dX12_readSum_30 (by decide) ?_
            have hFc := gA_free hG hA hS
            refine va_callv (va_runV (As := [.int 101, .int 0]) (rest := []) ⟨hx, hb, hml, hown, hts⟩ (s_adds l dC dI kA adK adV G H q wZ wN wH wB wC wL wK wU wV PI im PM PT lS lB lE lN o0 101 0 u181 S0 lb u182 (u182 u181.toNatClampNeg - 1) hT hr_o0 m185 (by have q8 := ti_all u181; omega) (by have q9 := (show (101 : Int32).toInt = 101 from (by decide)); unfold stp; omega) hS0 (by have := (show u181.toInt = u181.toInt from rfl); omega) hf196 hgz hgn hgh hgb hgc hgi hgu) (cwV 2 hts (goodIn_app (goodIn_r _ [28, 29, 30, 11] rfl (by decide +kernel)) (goodIn_ca (goodIn_r _ [24, 25, 26, 27] rfl (by decide +kernel)) (bs_in _ _))) rfl rfl rfl (by decide +kernel) ⟨(Nat.le_of_ble_eq_true rfl), (Nat.le_of_ble_eq_true rfl)⟩) ⟨fun a U g mk q => by obtain ⟨q0, q1, qK, qE⟩ := q; exact ⟨q0, q1, va_K.moved (u := U) (U := U.calling g mk a) (Vm.Alike.refl U.vm) qK, EVS.blind g mk a qE⟩, gH_rc hK hT hr_o0 shm_0 rfl, fun U hU hW => ⟨rfl, hU, va_K.moved hW.alike hK, hE.call hS hFc hU hW⟩⟩ rfl rfl hl.1 rfl (lv_room (Nat.le_of_ble_eq_true rfl)) dX12_readSum_31 ⟨(Nat.le_of_ble_eq_true rfl), (Nat.le_of_ble_eq_true rfl)⟩) hS (fun q _ h => hFc q h) hFc (fun u t H locs ht hvm hw201 hB _ _ hS => ?_)
            obtain ⟨u202, u203⟩ := u
            obtain ⟨hT, hF1, m204⟩ := hB
            rw [ht] at hT hF1 m204
            have m205 := (hF1.fld hr_o0 skm_0 (k := 13) (by decide) (by decide)).trans m186
            have m206 := (hF1.fld hr_o0 skm_0 (k := 12) (by decide) (by decide)).trans m183
            have m207 := (hF1.fld hr_o0 skm_0 (k := 14) (by decide) (by decide)).trans m184
            have hF := hF.more hF1 (by decide)
            try dsimp only at hw201
            obtain ⟨h209, hf210, hf211, hf212⟩ := hw201
            refine lv_goto (tgt := 9) hx hb dX12_readSum_34 (by decide) ?_
            exact ih157 u203 u179 u180 u202 (by have q9 := (show u179.toInt = u179.toInt from rfl); omega) ⟨(by have q8 := ti_all u179; omega), (by have q8 := ti_all u180; omega), (by have q8 := ti_all u202; omega), hf212, (by omega), (by have := (show u179.toInt = u179.toInt from rfl); have := (show u202.toInt = u202.toInt from rfl); omega)⟩ _ _ hT hF hS m205 m206 m207 m204 ls (lv_sub hl [0] rfl)
          · have t213 : r177.toInt = 0 := ti_eq c197 rfl (by decide)
            refine lv_iconst (v := 0) hx hb dX12_readSum_25 (by decide) ?_
            exact W.zret (v := 0) hx hb hr (by decide) (fun t ht hW => ⟨⟨0, (u179, u180, u181, u182), rfl, (by exact ⟨(by have q8 := ti_all u179; omega), (by have q8 := ti_all u180; omega), (by have q8 := ti_all u181; omega), (rg_t (a := 0) (by decide) (by first | decide | omega) (by first | decide | omega)), (fun h => absurd h (by decide)), (by omega), hf196⟩), by (try dsimp only); rw [ht]; exact ⟨hT, hF, m183, m184, m185⟩⟩, hS.F ht⟩) hS.2.2 dX12_readSum_26
    exact key157 401 u6 u3 u4 u5 (by have q9 := (show u3.toInt = u3.toInt from rfl); omega) ⟨(by have q8 := ti_all u3; omega), (by have q8 := ti_all u4; omega), (by have q8 := ti_all u5; omega), hf19, (by omega), (by have := (show u3.toInt = u3.toInt from rfl); have := (show u5.toInt = u5.toInt from rfl); omega)⟩ _ _ hT hF hS m11 m7 m8 m9 ls (lv_sub hl [0] rfl)
  · have t214 : r1.toInt = 0 := ti_eq c20 rfl (by decide)
    refine lv_iconst (v := 0) hx hb dX12_readSum_7 (by decide) ?_
    exact W.zret (v := 0) hx hb hr (by decide) (fun t ht hW => ⟨⟨0, (u3, u4, u5, u6), rfl, (by exact ⟨(by have q8 := ti_all u3; omega), (by have q8 := ti_all u4; omega), (by have q8 := ti_all u5; omega), (rg_t (a := 0) (by decide) (by first | decide | omega) (by first | decide | omega)), (fun h => absurd h (by decide)), (by omega), hf19⟩), by (try dsimp only); rw [ht]; exact ⟨hT, hF, m7, m8, m9⟩⟩, hS.F ht⟩) hS.2.2 dX12_readSum_8
