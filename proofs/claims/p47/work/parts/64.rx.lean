def w_s_jobsE : List Cond := .code yX12_jobs cX12_jobs 2 (some .int) :: (HAppend.hAppend (α := List Cond) (β := List Cond) (γ := List Cond) [.fieldLink RX12 194 "SeaLandModel" "thrown" "I", .fieldLink RX12 553 "SeaLandModel" "jobs" "I"] bs)
set_option maxHeartbeats 4000000 in
set_option maxRecDepth 100000 in
theorem s_jobsE (l : Launch) (dC : Nat → ClassId) (dI : Nat → Nat → Nat) (kA : Nat → ClassId) (adK adV : Nat → Nat) (G : gT) (H0 : Heap) (q : Nat → Nat) (wZ wN : Nat → Int) (wH wB wC : Int) (wL wK : Nat → Prop) (wU wV : Nat → Nat) (PI : Nat → Int → Prop) (im : Int) (PM PT : Nat → Int → Prop) (lS lB lE : Nat → Nat → Int → Prop) (lN : Nat → Int) (o0 : Nat) (jn : Int32)  (hT : gH (dC, dI) kA (SHm q (wP wZ wN wH wB wC wL wK wU wV) PI im PM PT lS lB lE lN) G H0) (hr_o0 : G o0 = some 0) (hm_jn : el H0 o0 (dI 15 74) = some (.int jn)) (hq0 : 0 ≤ jn.toInt ∧ jn.toInt ≤ 7) (hgz : ∀ i, 0 ≤ wZ i) (hgn : ∀ i, 6500000 ≤ wN i ∧ wN i ≤ 20200000) (hgh : 0 ≤ wH ∧ wH ≤ 40000) (hgb : 0 ≤ wB ∧ wB ≤ 3850000) (hgc : 0 ≤ wC ∧ wC ≤ 30) (hgi : 0 ≤ im ∧ im ≤ 1) (hgu : ∀ a t, G a = some (t + 1) → a = q t) : Met l yX12_jobs w_s_jobsE ({ frames := 0, cells := 0, slots := 0, locals := 0 }) (va_Pc [.ref o0] (fun U => U.heap = H0 ∧ va_K (dC, dI) vwCl (tyl kA) U ∧ EVS adK adV (gA G H0.size) U U.heap)) (va_Qi (fun (r : Int32) (u : Int32) => (0 ≤ r.toInt ∧ r.toInt ≤ 7) ∧ (u.toInt = 0) ∧ (r = jn)) (fun (j1 : Int32) (t : State) => gH (dC, dI) kA (SHm q (wP wZ wN wH wB wC wL wK wU wV) PI im PM PT lS lB lE lN) G t.heap ∧ gF (dC, dI) SKm G ([(0, 0), (0, 74)] : List (Nat × Nat)) H0 t.heap ∧ el t.heap o0 (dI 15 74) = some (.int j1)) (gA G H0.size)) 0 0 (gA G H0.size) := by
  refine Met.ofW (cc := cX12_jobs) (maxL := 2) (ret := (some .int)) (by decide) rfl ?_
  intro p e s m args below meth c s₁ B hml hv
  obtain ⟨rfl, hH0, hK, hE⟩ := hv
  have hx := B.exec
  have hb := B.bytes
  have hr := B.returns
  have hts := atoms_spec (ws := w_s_jobsE) B.pre
  have hown : s.vm.findClass RX12 = some m.cls := findClass_of_methodNamed B.named
  have hlocks := B.notSynchronized
  subst hH0
  generalize hAe : gA G s.heap.size = A at hE ⊢
  have hA : ∀ q : Nat, s.heap.size ≤ q → A q := fun q h => by rw [← hAe]; exact Or.inr h
  have hG := gA_of hAe
  have hS : va_S A s.heap s.heap [] := va_S.rf
  have hF : gF (dC, dI) SKm G ([(0, 0), (0, 74)] : List (Nat × Nat)) s.heap s.heap := gF.rf
  have hl := lv_entry ([.ref o0]) (n := 2) (Nat.le_of_ble_eq_true rfl)
  rw [lg_entry_eq]
  generalize (lg_sl ([.ref o0]) ++ List.replicate (2 - (lg_sl ([.ref o0])).length) Slot.unset).toArray = ls at hl ⊢
  have hl : lv_has ls 2 [(0, .ref o0)] := hl
  refine lv_aload_n hx hb dX12_jobs_0 rfl (lv_at hl 0 rfl) ?_
  refine lv_iconst (v := 0) hx hb dX12_jobs_1 (by decide) ?_
  refine tw_put (v := .int 0) (ty := .int) hx hb hts bF_X12 tyX12 tyX12_ok nmX12 hown hK hT hG hS hr_o0 shm_0 rfl 0 (by decide) (ht_at hts 0 rfl) (fun _ h9 => h9) rfl (by decide +kernel) rfl rfl (gl_at rfl (gi_all _)) dX12_jobs_2 (fun H locs hT oq m1 oj hS => ?_)
  have hF := hF.put hr_o0 skm_0 oq oj (by decide)
  have m2 := (oj 74 (by decide) (by decide)).trans hm_jn
  refine lv_aload_n hx hb dX12_jobs_5 rfl (lv_at hl 0 rfl) ?_
  refine tw_getM (v := .int jn) hx hb hts bF_X12 hown hK hT hr_o0 shm_0 rfl 74 (by decide) (ht_at hts 1 rfl) (fun _ h9 => h9) m2 dX12_jobs_6 ?_
  refine lv_istore_n (lv' := [(1, .int jn), (0, .ref o0)]) hx hb dX12_jobs_9 rfl hl (by decide) rfl (fun ls hl => ?_)
  refine lv_aload_n hx hb dX12_jobs_10 rfl (lv_at hl 1 rfl) ?_
  refine lv_iconst (v := 0) hx hb dX12_jobs_11 (by decide) ?_
  refine tw_put (v := .int 0) (ty := .int) hx hb hts bF_X12 tyX12 tyX12_ok nmX12 hown hK hT hG hS hr_o0 shm_0 rfl 74 (by decide) (ht_at hts 1 rfl) (fun _ h9 => h9) rfl (by decide +kernel) rfl rfl (gl_at rfl (gi_of (show (0 : Int32).toInt = 0 from (by decide)) (by omega) (by omega))) dX12_jobs_12 (fun H locs hT oq m3 oj hS => ?_)
  have hF := hF.put hr_o0 skm_0 oq oj (by decide)
  have m4 := (oj 0 (by decide) (by decide)).trans m1
  refine lv_iload_n hx hb dX12_jobs_15 rfl (lv_at hl 0 rfl) ?_
  exact W.iret (v := jn) hx hb hr (fun t ht hW => ⟨⟨jn, (0 : Int32), rfl, (by exact ⟨(rg_t (a := jn.toInt) rfl (by have q8 := ti_all jn; omega) (by have q8 := ti_all jn; omega)), (by have : (0 : Int32).toInt = 0 := (by decide); omega), rfl⟩), by (try dsimp only); rw [ht]; exact ⟨hT, hF, m3⟩⟩, hS.F ht⟩) hS.2.2 dX12_jobs_16
def w_s_jobE : List Cond := .code yX12_job cX12_job 5 (some .int) :: (HAppend.hAppend (α := List Cond) (β := List Cond) (γ := List Cond) [.fieldLink RX12 194 "SeaLandModel" "thrown" "I", .constant RX12 536 1000000, .code yX12_in cX12_in 3 (some .boolean), .methodLink RX12 197 yX12_in, .static yX12_in, .initialized RX12, .code yX12_throwsIf cX12_throwsIf 3 (some .boolean), .methodLink RX12 224 yX12_throwsIf, .instanceMethod yX12_throwsIf, .selects RX12 yX12_throwsIf yX12_throwsIf, .constant RX12 241 100000, .fieldLink RX12 553 "SeaLandModel" "jobs" "I", .fieldLink RX12 176 "SeaLandModel" "jCost" "[I", .fieldLink RX12 179 "SeaLandModel" "jYears" "[I", .fieldLink RX12 182 "SeaLandModel" "jBrings" "[I", .fieldLink RX12 185 "SeaLandModel" "jAcres" "[I"] bs)
set_option maxHeartbeats 4000000 in
set_option maxRecDepth 100000 in
theorem s_jobE (l : Launch) (dC : Nat → ClassId) (dI : Nat → Nat → Nat) (kA : Nat → ClassId) (adK adV : Nat → Nat) (G : gT) (H0 : Heap) (q : Nat → Nat) (wZ wN : Nat → Int) (wH wB wC : Int) (wL wK : Nat → Prop) (wU wV : Nat → Nat) (PI : Nat → Int → Prop) (im : Int) (PM PT : Nat → Int → Prop) (lS lB lE : Nat → Nat → Int → Prop) (lN : Nat → Int) (o0 : Nat) (p0 : Int32) (p1 : Int32) (p2 : Int32) (p3 : Int32) (jn : Int32)  (hT : gH (dC, dI) kA (SHm q (wP wZ wN wH wB wC wL wK wU wV) PI im PM PT lS lB lE lN) G H0) (hr_o0 : G o0 = some 0) (hm_jn : el H0 o0 (dI 15 74) = some (.int jn)) (hq0 : 0 ≤ jn.toInt ∧ jn.toInt ≤ 7) (hgz : ∀ i, 0 ≤ wZ i) (hgn : ∀ i, 6500000 ≤ wN i ∧ wN i ≤ 20200000) (hgh : 0 ≤ wH ∧ wH ≤ 40000) (hgb : 0 ≤ wB ∧ wB ≤ 3850000) (hgc : 0 ≤ wC ∧ wC ≤ 30) (hgi : 0 ≤ im ∧ im ≤ 1) (hgu : ∀ a t, G a = some (t + 1) → a = q t) : Met l yX12_job w_s_jobE ({ frames := 1, cells := 0, slots := 0, locals := 22 }) (va_Pc [.ref o0, .int p0, .int p1, .int p2, .int p3] (fun U => U.heap = H0 ∧ va_K (dC, dI) vwCl (tyl kA) U ∧ EVS adK adV (gA G H0.size) U U.heap)) (va_Qi (fun (r : Int32) (u : Int32 × Int32) => match u with | (t1, j1) => (-1 ≤ r.toInt ∧ r.toInt ≤ 7) ∧ (((0 ≤ p0.toInt ∧ p0.toInt ≤ 1000000 ∧ 1 ≤ p1.toInt ∧ p1.toInt ≤ 20 ∧ 0 ≤ p2.toInt ∧ p2.toInt ≤ 100000 ∧ 0 ≤ p3.toInt ∧ p3.toInt ≤ 1000) ∧ t1.toInt = 0 ∧ ((jn.toInt = 7 ∧ r.toInt = -1 ∧ j1.toInt = 7) ∨ (jn.toInt < 7 ∧ r.toInt = jn.toInt + 1 ∧ j1.toInt = jn.toInt + 1))) ∨ (¬ (0 ≤ p0.toInt ∧ p0.toInt ≤ 1000000 ∧ 1 ≤ p1.toInt ∧ p1.toInt ≤ 20 ∧ 0 ≤ p2.toInt ∧ p2.toInt ≤ 100000 ∧ 0 ≤ p3.toInt ∧ p3.toInt ≤ 1000) ∧ t1.toInt = 1 ∧ j1.toInt = jn.toInt))) (fun (u : Int32 × Int32) (t : State) => match u with | (t1, j1) => gH (dC, dI) kA (SHm q (wP wZ wN wH wB wC wL wK wU wV) PI im PM PT lS lB lE lN) G t.heap ∧ gF (dC, dI) SKm G ([(0, 0), (0, 74), (71, 0), (72, 0), (73, 0), (74, 0)] : List (Nat × Nat)) H0 t.heap ∧ el t.heap o0 (dI 15 0) = some (.int t1) ∧ el t.heap o0 (dI 15 74) = some (.int j1)) (gA G H0.size)) 0 0 (gA G H0.size) := by
  refine Met.ofW (cc := cX12_job) (maxL := 5) (ret := (some .int)) (by decide) rfl ?_
  intro p e s m args below meth c s₁ B hml hv
  obtain ⟨rfl, hH0, hK, hE⟩ := hv
  have hx := B.exec
  have hb := B.bytes
  have hr := B.returns
  have hts := atoms_spec (ws := w_s_jobE) B.pre
  have hown : s.vm.findClass RX12 = some m.cls := findClass_of_methodNamed B.named
  have hlocks := B.notSynchronized
  subst hH0
  generalize hAe : gA G s.heap.size = A at hE ⊢
  have hA : ∀ q : Nat, s.heap.size ≤ q → A q := fun q h => by rw [← hAe]; exact Or.inr h
  have hG := gA_of hAe
  have hS : va_S A s.heap s.heap [] := va_S.rf
  have hF : gF (dC, dI) SKm G ([(0, 0), (0, 74), (71, 0), (72, 0), (73, 0), (74, 0)] : List (Nat × Nat)) s.heap s.heap := gF.rf
  have hl := lv_entry ([.ref o0, .int p0, .int p1, .int p2, .int p3]) (n := 5) (Nat.le_of_ble_eq_true rfl)
  rw [lg_entry_eq]
  generalize (lg_sl ([.ref o0, .int p0, .int p1, .int p2, .int p3]) ++ List.replicate (5 - (lg_sl ([.ref o0, .int p0, .int p1, .int p2, .int p3])).length) Slot.unset).toArray = ls at hl ⊢
  have hl : lv_has ls 5 [(0, .ref o0), (1, .int p0), (2, .int p1), (3, .int p2), (4, .int p3)] := hl
  refine lv_aload_n hx hb dX12_job_0 rfl (lv_at hl 0 rfl) ?_
  refine lv_iconst (v := 0) hx hb dX12_job_1 (by decide) ?_
  refine tw_put (v := .int 0) (ty := .int) hx hb hts bF_X12 tyX12 tyX12_ok nmX12 hown hK hT hG hS hr_o0 shm_0 rfl 0 (by decide) (ht_at hts 0 rfl) (fun _ h9 => h9) rfl (by decide +kernel) rfl rfl (gl_at rfl (gi_all _)) dX12_job_2 (fun H locs hT oq m1 oj hS => ?_)
  have hF := hF.put hr_o0 skm_0 oq oj (by decide)
  have m2 := (oj 74 (by decide) (by decide)).trans hm_jn
  refine lv_aload_n hx hb dX12_job_5 rfl (lv_at hl 0 rfl) ?_
  refine lv_iload_n hx hb dX12_job_6 rfl (lv_at hl 1 rfl) ?_
  refine lv_iconst (v := 0) hx hb dX12_job_7 (by decide) ?_
  refine lv_ldcw (v := 1000000) hx hb hown (ht_at hts 1 rfl) dX12_job_8 ?_
  have hFc := gA_free hG hA hS
  refine va_calli (va_runS (As := [.int p0, .int 0, .int 1000000]) (rest := [.ref o0]) ⟨hx, hb, hml, hown, hts⟩ (s_in l dC dI kA adK adV G H q wZ wN wH wB wC wL wK wU wV PI im PM PT lS lB lE lN p0 0 1000000 hT hgz hgn (by omega) (by omega) (by omega) (by omega) hgu) (va_cwS 3 hts (goodIn_app (goodIn_r _ [4, 5, 6] rfl (by decide +kernel)) (goodIn_ca (goodIn_r _ [3] rfl (by decide +kernel)) (bs_in _ _))) rfl rfl rfl (by decide +kernel) ⟨(Nat.le_of_ble_eq_true rfl), (Nat.le_of_ble_eq_true rfl)⟩) ⟨fun a U g mk q => by obtain ⟨q0, q1, qK, qE⟩ := q; exact ⟨q0, q1, va_K.moved (u := U) (U := U.calling g mk a) (Vm.Alike.refl U.vm) qK, EVS.blind g mk a qE⟩, fun U hU hW => ⟨rfl, hU, va_K.moved hW.alike hK, hE.call hS hFc hU hW⟩⟩ rfl rfl hl.1 rfl (lv_room (Nat.le_of_ble_eq_true rfl)) dX12_job_11 ⟨(Nat.le_of_ble_eq_true rfl), (Nat.le_of_ble_eq_true rfl)⟩) hS (fun q _ h => hFc q h) hFc (fun r3 u t H locs ht hvm hw4 hB _ _ hS => ?_)
  obtain ⟨hT, hF1⟩ := hB
  rw [ht] at hT hF1
  have m5 := (hF1.fld hr_o0 skm_0 (k := 74) (by decide) (by decide)).trans m2
  have m6 := (hF1.fld hr_o0 skm_0 (k := 0) (by decide) (by decide)).trans m1
  have hF := hF.more hF1 (by decide)
  try dsimp only at hw4
  obtain ⟨h7, hi8, hi9⟩ := hw4
  refine lv_if_eq (tgt := 49) hx hb dX12_job_14 (by decide) (fun c10 => ?_) (fun c10 => ?_)
  · have t11 : r3.toInt = 0 := ti_eq c10 rfl (by decide)
    have t12 : (0 : Int32).toInt = 0 := by decide
    have t13 : (1000000 : Int32).toInt = 1000000 := by decide
    have t14 : p0.toInt < (0 : Int32).toInt ∨ (1000000 : Int32).toInt < p0.toInt := hi9 c10
    refine lv_iconst (v := 1) hx hb dX12_job_49 (by decide) ?_
    refine lv_goto (tgt := 54) hx hb dX12_job_50 (by decide) ?_
    refine lv_iconst (v := 1) hx hb dX12_job_54 (by decide) ?_
    have hFc := gA_free hG hA hS
    refine va_calli (va_runV (As := [.int 1, .int 1]) (rest := []) ⟨hx, hb, hml, hown, hts⟩ (s_throwsIfP l dC dI kA adK adV G H q wZ wN wH wB wC wL wK wU wV PI im PM PT lS lB lE lN o0 1 1 0 hT hr_o0 m6 (rg_t (a := 1) (by decide) (by omega) (by omega)) hgz hgn (by omega) (by omega) (by omega) (by omega) hgu) (cwV 2 hts (goodIn_app (goodIn_r _ [8, 9, 10, 6] rfl (by decide +kernel)) (goodIn_ca (goodIn_r _ [7, 1] rfl (by decide +kernel)) (bs_in _ _))) rfl rfl rfl (by decide +kernel) ⟨(Nat.le_of_ble_eq_true rfl), (Nat.le_of_ble_eq_true rfl)⟩) ⟨fun a U g mk q => by obtain ⟨q0, q1, qK, qE⟩ := q; exact ⟨q0, q1, va_K.moved (u := U) (U := U.calling g mk a) (Vm.Alike.refl U.vm) qK, EVS.blind g mk a qE⟩, gH_recv hK hT hr_o0 shm_0 rfl, fun U hU hW => ⟨rfl, hU, va_K.moved hW.alike hK, hE.call hS hFc hU hW⟩⟩ rfl rfl hl.1 rfl (lv_room (Nat.le_of_ble_eq_true rfl)) dX12_job_55 ⟨(Nat.le_of_ble_eq_true rfl), (Nat.le_of_ble_eq_true rfl)⟩) hS (fun q _ h => hFc q h) hFc (fun r15 u t H locs ht hvm hw16 hB _ _ hS => ?_)
    obtain ⟨u17, rfl⟩ : ∃ z, z = u := ⟨_, rfl⟩
    obtain ⟨hT, hF1, m18⟩ := hB
    rw [ht] at hT hF1 m18
    have m19 := (hF1.fld hr_o0 skm_0 (k := 74) (by decide) (by decide)).trans m5
    have hF := hF.more hF1 (by decide)
    try dsimp only at hw16
    obtain ⟨h21, hf22, hd23⟩ := hw16
    have t24 : (1 : Int32).toInt = 1 := by decide
    have t25 : (1 : Int32).toInt = 1 := by decide
    have t26 : (0 : Int32).toInt = 0 := by decide
    obtain rfl : (1 : Int32) = r15 := hd23.symm
    refine lv_if_eq (tgt := 63) hx hb dX12_job_58 (by decide) (fun c27 => absurd c27 (by decide)) (fun c27 => ?_)
    refine lv_iconst (v := 0) hx hb dX12_job_61 (by decide) ?_
    exact W.iret (v := 0) hx hb hr (fun t ht hW => ⟨⟨0, (u17, jn), rfl, (by exact ⟨(rg_t (a := 0) (by decide) (by omega) (by omega)), (by have : (0 : Int32).toInt = 0 := (by decide); omega)⟩), by (try dsimp only); rw [ht]; exact ⟨hT, hF, m18, m19⟩⟩, hS.F ht⟩) hS.2.2 dX12_job_62
  · have t28 : r3.toInt ≠ 0 := ti_ne c10 rfl (by decide)
    have t29 : (0 : Int32).toInt = 0 := by decide
    have t30 : (1000000 : Int32).toInt = 1000000 := by decide
    have t31 : (0 : Int32).toInt ≤ p0.toInt ∧ p0.toInt ≤ (1000000 : Int32).toInt := hi8 ((bit_of ⟨by omega, by omega⟩).resolve_left c10)
    refine lv_iload_n hx hb dX12_job_17 rfl (lv_at hl 2 rfl) ?_
    refine lv_iconst (v := 1) hx hb dX12_job_18 (by decide) ?_
    refine lv_bipush (v := 20) hx hb dX12_job_19 (by decide) ?_
    have hFc := gA_free hG hA hS
    refine va_calli (va_runS (As := [.int p1, .int 1, .int 20]) (rest := [.ref o0]) ⟨hx, hb, hml, hown, hts⟩ (s_in l dC dI kA adK adV G H q wZ wN wH wB wC wL wK wU wV PI im PM PT lS lB lE lN p1 1 20 hT hgz hgn (by omega) (by omega) (by omega) (by omega) hgu) (va_cwS 3 hts (goodIn_app (goodIn_r _ [4, 5, 6] rfl (by decide +kernel)) (goodIn_ca (goodIn_r _ [3] rfl (by decide +kernel)) (bs_in _ _))) rfl rfl rfl (by decide +kernel) ⟨(Nat.le_of_ble_eq_true rfl), (Nat.le_of_ble_eq_true rfl)⟩) ⟨fun a U g mk q => by obtain ⟨q0, q1, qK, qE⟩ := q; exact ⟨q0, q1, va_K.moved (u := U) (U := U.calling g mk a) (Vm.Alike.refl U.vm) qK, EVS.blind g mk a qE⟩, fun U hU hW => ⟨rfl, hU, va_K.moved hW.alike hK, hE.call hS hFc hU hW⟩⟩ rfl rfl hl.1 rfl (lv_room (Nat.le_of_ble_eq_true rfl)) dX12_job_21 ⟨(Nat.le_of_ble_eq_true rfl), (Nat.le_of_ble_eq_true rfl)⟩) hS (fun q _ h => hFc q h) hFc (fun r32 u t H locs ht hvm hw33 hB _ _ hS => ?_)
    obtain ⟨hT, hF1⟩ := hB
    rw [ht] at hT hF1
    have m34 := (hF1.fld hr_o0 skm_0 (k := 74) (by decide) (by decide)).trans m5
    have m35 := (hF1.fld hr_o0 skm_0 (k := 0) (by decide) (by decide)).trans m6
    have hF := hF.more hF1 (by decide)
    try dsimp only at hw33
    obtain ⟨h36, hi37, hi38⟩ := hw33
    refine lv_if_eq (tgt := 49) hx hb dX12_job_24 (by decide) (fun c39 => ?_) (fun c39 => ?_)
    · have t40 : r32.toInt = 0 := ti_eq c39 rfl (by decide)
      have t41 : (1 : Int32).toInt = 1 := by decide
      have t42 : (20 : Int32).toInt = 20 := by decide
      have t43 : p1.toInt < (1 : Int32).toInt ∨ (20 : Int32).toInt < p1.toInt := hi38 c39
      refine lv_iconst (v := 1) hx hb dX12_job_49 (by decide) ?_
      refine lv_goto (tgt := 54) hx hb dX12_job_50 (by decide) ?_
      refine lv_iconst (v := 1) hx hb dX12_job_54 (by decide) ?_
      have hFc := gA_free hG hA hS
      refine va_calli (va_runV (As := [.int 1, .int 1]) (rest := []) ⟨hx, hb, hml, hown, hts⟩ (s_throwsIfP l dC dI kA adK adV G H q wZ wN wH wB wC wL wK wU wV PI im PM PT lS lB lE lN o0 1 1 0 hT hr_o0 m35 (rg_t (a := 1) (by decide) (by omega) (by omega)) hgz hgn (by omega) (by omega) (by omega) (by omega) hgu) (cwV 2 hts (goodIn_app (goodIn_r _ [8, 9, 10, 6] rfl (by decide +kernel)) (goodIn_ca (goodIn_r _ [7, 1] rfl (by decide +kernel)) (bs_in _ _))) rfl rfl rfl (by decide +kernel) ⟨(Nat.le_of_ble_eq_true rfl), (Nat.le_of_ble_eq_true rfl)⟩) ⟨fun a U g mk q => by obtain ⟨q0, q1, qK, qE⟩ := q; exact ⟨q0, q1, va_K.moved (u := U) (U := U.calling g mk a) (Vm.Alike.refl U.vm) qK, EVS.blind g mk a qE⟩, gH_recv hK hT hr_o0 shm_0 rfl, fun U hU hW => ⟨rfl, hU, va_K.moved hW.alike hK, hE.call hS hFc hU hW⟩⟩ rfl rfl hl.1 rfl (lv_room (Nat.le_of_ble_eq_true rfl)) dX12_job_55 ⟨(Nat.le_of_ble_eq_true rfl), (Nat.le_of_ble_eq_true rfl)⟩) hS (fun q _ h => hFc q h) hFc (fun r44 u t H locs ht hvm hw45 hB _ _ hS => ?_)
      obtain ⟨u46, rfl⟩ : ∃ z, z = u := ⟨_, rfl⟩
      obtain ⟨hT, hF1, m47⟩ := hB
      rw [ht] at hT hF1 m47
      have m48 := (hF1.fld hr_o0 skm_0 (k := 74) (by decide) (by decide)).trans m34
      have hF := hF.more hF1 (by decide)
      try dsimp only at hw45
      obtain ⟨h50, hf51, hd52⟩ := hw45
      have t53 : (1 : Int32).toInt = 1 := by decide
      have t54 : (1 : Int32).toInt = 1 := by decide
      have t55 : (0 : Int32).toInt = 0 := by decide
      obtain rfl : (1 : Int32) = r44 := hd52.symm
      refine lv_if_eq (tgt := 63) hx hb dX12_job_58 (by decide) (fun c56 => absurd c56 (by decide)) (fun c56 => ?_)
      refine lv_iconst (v := 0) hx hb dX12_job_61 (by decide) ?_
      exact W.iret (v := 0) hx hb hr (fun t ht hW => ⟨⟨0, (u46, jn), rfl, (by exact ⟨(rg_t (a := 0) (by decide) (by omega) (by omega)), (by have : (0 : Int32).toInt = 0 := (by decide); omega)⟩), by (try dsimp only); rw [ht]; exact ⟨hT, hF, m47, m48⟩⟩, hS.F ht⟩) hS.2.2 dX12_job_62
    · have t57 : r32.toInt ≠ 0 := ti_ne c39 rfl (by decide)
      have t58 : (1 : Int32).toInt = 1 := by decide
      have t59 : (20 : Int32).toInt = 20 := by decide
      have t60 : (1 : Int32).toInt ≤ p1.toInt ∧ p1.toInt ≤ (20 : Int32).toInt := hi37 ((bit_of ⟨by omega, by omega⟩).resolve_left c39)
      refine lv_iload_n hx hb dX12_job_27 rfl (lv_at hl 3 rfl) ?_
      refine lv_iconst (v := 0) hx hb dX12_job_28 (by decide) ?_
      refine lv_ldc (v := 100000) hx hb hown (ht_at hts 10 rfl) dX12_job_29 ?_
      have hFc := gA_free hG hA hS
      refine va_calli (va_runS (As := [.int p2, .int 0, .int 100000]) (rest := [.ref o0]) ⟨hx, hb, hml, hown, hts⟩ (s_in l dC dI kA adK adV G H q wZ wN wH wB wC wL wK wU wV PI im PM PT lS lB lE lN p2 0 100000 hT hgz hgn (by omega) (by omega) (by omega) (by omega) hgu) (va_cwS 3 hts (goodIn_app (goodIn_r _ [4, 5, 6] rfl (by decide +kernel)) (goodIn_ca (goodIn_r _ [3] rfl (by decide +kernel)) (bs_in _ _))) rfl rfl rfl (by decide +kernel) ⟨(Nat.le_of_ble_eq_true rfl), (Nat.le_of_ble_eq_true rfl)⟩) ⟨fun a U g mk q => by obtain ⟨q0, q1, qK, qE⟩ := q; exact ⟨q0, q1, va_K.moved (u := U) (U := U.calling g mk a) (Vm.Alike.refl U.vm) qK, EVS.blind g mk a qE⟩, fun U hU hW => ⟨rfl, hU, va_K.moved hW.alike hK, hE.call hS hFc hU hW⟩⟩ rfl rfl hl.1 rfl (lv_room (Nat.le_of_ble_eq_true rfl)) dX12_job_31 ⟨(Nat.le_of_ble_eq_true rfl), (Nat.le_of_ble_eq_true rfl)⟩) hS (fun q _ h => hFc q h) hFc (fun r61 u t H locs ht hvm hw62 hB _ _ hS => ?_)
      obtain ⟨hT, hF1⟩ := hB
      rw [ht] at hT hF1
      have m63 := (hF1.fld hr_o0 skm_0 (k := 74) (by decide) (by decide)).trans m34
      have m64 := (hF1.fld hr_o0 skm_0 (k := 0) (by decide) (by decide)).trans m35
      have hF := hF.more hF1 (by decide)
      try dsimp only at hw62
      obtain ⟨h65, hi66, hi67⟩ := hw62
      refine lv_if_eq (tgt := 49) hx hb dX12_job_34 (by decide) (fun c68 => ?_) (fun c68 => ?_)
      · have t69 : r61.toInt = 0 := ti_eq c68 rfl (by decide)
        have t70 : (0 : Int32).toInt = 0 := by decide
        have t71 : (100000 : Int32).toInt = 100000 := by decide
        have t72 : p2.toInt < (0 : Int32).toInt ∨ (100000 : Int32).toInt < p2.toInt := hi67 c68
        refine lv_iconst (v := 1) hx hb dX12_job_49 (by decide) ?_
        refine lv_goto (tgt := 54) hx hb dX12_job_50 (by decide) ?_
        refine lv_iconst (v := 1) hx hb dX12_job_54 (by decide) ?_
        have hFc := gA_free hG hA hS
        refine va_calli (va_runV (As := [.int 1, .int 1]) (rest := []) ⟨hx, hb, hml, hown, hts⟩ (s_throwsIfP l dC dI kA adK adV G H q wZ wN wH wB wC wL wK wU wV PI im PM PT lS lB lE lN o0 1 1 0 hT hr_o0 m64 (rg_t (a := 1) (by decide) (by omega) (by omega)) hgz hgn (by omega) (by omega) (by omega) (by omega) hgu) (cwV 2 hts (goodIn_app (goodIn_r _ [8, 9, 10, 6] rfl (by decide +kernel)) (goodIn_ca (goodIn_r _ [7, 1] rfl (by decide +kernel)) (bs_in _ _))) rfl rfl rfl (by decide +kernel) ⟨(Nat.le_of_ble_eq_true rfl), (Nat.le_of_ble_eq_true rfl)⟩) ⟨fun a U g mk q => by obtain ⟨q0, q1, qK, qE⟩ := q; exact ⟨q0, q1, va_K.moved (u := U) (U := U.calling g mk a) (Vm.Alike.refl U.vm) qK, EVS.blind g mk a qE⟩, gH_recv hK hT hr_o0 shm_0 rfl, fun U hU hW => ⟨rfl, hU, va_K.moved hW.alike hK, hE.call hS hFc hU hW⟩⟩ rfl rfl hl.1 rfl (lv_room (Nat.le_of_ble_eq_true rfl)) dX12_job_55 ⟨(Nat.le_of_ble_eq_true rfl), (Nat.le_of_ble_eq_true rfl)⟩) hS (fun q _ h => hFc q h) hFc (fun r73 u t H locs ht hvm hw74 hB _ _ hS => ?_)
        obtain ⟨u75, rfl⟩ : ∃ z, z = u := ⟨_, rfl⟩
        obtain ⟨hT, hF1, m76⟩ := hB
        rw [ht] at hT hF1 m76
        have m77 := (hF1.fld hr_o0 skm_0 (k := 74) (by decide) (by decide)).trans m63
        have hF := hF.more hF1 (by decide)
        try dsimp only at hw74
        obtain ⟨h79, hf80, hd81⟩ := hw74
        have t82 : (1 : Int32).toInt = 1 := by decide
        have t83 : (1 : Int32).toInt = 1 := by decide
        have t84 : (0 : Int32).toInt = 0 := by decide
        obtain rfl : (1 : Int32) = r73 := hd81.symm
        refine lv_if_eq (tgt := 63) hx hb dX12_job_58 (by decide) (fun c85 => absurd c85 (by decide)) (fun c85 => ?_)
        refine lv_iconst (v := 0) hx hb dX12_job_61 (by decide) ?_
        exact W.iret (v := 0) hx hb hr (fun t ht hW => ⟨⟨0, (u75, jn), rfl, (by exact ⟨(rg_t (a := 0) (by decide) (by omega) (by omega)), (by have : (0 : Int32).toInt = 0 := (by decide); omega)⟩), by (try dsimp only); rw [ht]; exact ⟨hT, hF, m76, m77⟩⟩, hS.F ht⟩) hS.2.2 dX12_job_62
      · have t86 : r61.toInt ≠ 0 := ti_ne c68 rfl (by decide)
        have t87 : (0 : Int32).toInt = 0 := by decide
        have t88 : (100000 : Int32).toInt = 100000 := by decide
        have t89 : (0 : Int32).toInt ≤ p2.toInt ∧ p2.toInt ≤ (100000 : Int32).toInt := hi66 ((bit_of ⟨by omega, by omega⟩).resolve_left c68)
        refine lv_iload hx hb dX12_job_37 (lv_at hl 4 rfl) ?_
        refine lv_iconst (v := 0) hx hb dX12_job_39 (by decide) ?_
        refine lv_sipush (v := 1000) hx hb dX12_job_40 (by decide) ?_
        have hFc := gA_free hG hA hS
        refine va_calli (va_runS (As := [.int p3, .int 0, .int 1000]) (rest := [.ref o0]) ⟨hx, hb, hml, hown, hts⟩ (s_in l dC dI kA adK adV G H q wZ wN wH wB wC wL wK wU wV PI im PM PT lS lB lE lN p3 0 1000 hT hgz hgn (by omega) (by omega) (by omega) (by omega) hgu) (va_cwS 3 hts (goodIn_app (goodIn_r _ [4, 5, 6] rfl (by decide +kernel)) (goodIn_ca (goodIn_r _ [3] rfl (by decide +kernel)) (bs_in _ _))) rfl rfl rfl (by decide +kernel) ⟨(Nat.le_of_ble_eq_true rfl), (Nat.le_of_ble_eq_true rfl)⟩) ⟨fun a U g mk q => by obtain ⟨q0, q1, qK, qE⟩ := q; exact ⟨q0, q1, va_K.moved (u := U) (U := U.calling g mk a) (Vm.Alike.refl U.vm) qK, EVS.blind g mk a qE⟩, fun U hU hW => ⟨rfl, hU, va_K.moved hW.alike hK, hE.call hS hFc hU hW⟩⟩ rfl rfl hl.1 rfl (lv_room (Nat.le_of_ble_eq_true rfl)) dX12_job_43 ⟨(Nat.le_of_ble_eq_true rfl), (Nat.le_of_ble_eq_true rfl)⟩) hS (fun q _ h => hFc q h) hFc (fun r90 u t H locs ht hvm hw91 hB _ _ hS => ?_)
        obtain ⟨hT, hF1⟩ := hB
        rw [ht] at hT hF1
        have m92 := (hF1.fld hr_o0 skm_0 (k := 74) (by decide) (by decide)).trans m63
        have m93 := (hF1.fld hr_o0 skm_0 (k := 0) (by decide) (by decide)).trans m64
        have hF := hF.more hF1 (by decide)
        try dsimp only at hw91
        obtain ⟨h94, hi95, hi96⟩ := hw91
        refine lv_if_ne (tgt := 53) hx hb dX12_job_46 (by decide) (fun c97 => ?_) (fun c97 => ?_)
        · have t98 : r90.toInt ≠ 0 := ti_ne c97 rfl (by decide)
          have t99 : (0 : Int32).toInt = 0 := by decide
          have t100 : (1000 : Int32).toInt = 1000 := by decide
          have t101 : (0 : Int32).toInt ≤ p3.toInt ∧ p3.toInt ≤ (1000 : Int32).toInt := hi95 ((bit_of ⟨by omega, by omega⟩).resolve_left c97)
          refine lv_iconst (v := 0) hx hb dX12_job_53 (by decide) ?_
          refine lv_iconst (v := 1) hx hb dX12_job_54 (by decide) ?_
          have hFc := gA_free hG hA hS
          refine va_calli (va_runV (As := [.int 0, .int 1]) (rest := []) ⟨hx, hb, hml, hown, hts⟩ (s_throwsIfP l dC dI kA adK adV G H q wZ wN wH wB wC wL wK wU wV PI im PM PT lS lB lE lN o0 0 1 0 hT hr_o0 m93 (rg_t (a := 0) (by decide) (by omega) (by omega)) hgz hgn (by omega) (by omega) (by omega) (by omega) hgu) (cwV 2 hts (goodIn_app (goodIn_r _ [8, 9, 10, 6] rfl (by decide +kernel)) (goodIn_ca (goodIn_r _ [7, 1] rfl (by decide +kernel)) (bs_in _ _))) rfl rfl rfl (by decide +kernel) ⟨(Nat.le_of_ble_eq_true rfl), (Nat.le_of_ble_eq_true rfl)⟩) ⟨fun a U g mk q => by obtain ⟨q0, q1, qK, qE⟩ := q; exact ⟨q0, q1, va_K.moved (u := U) (U := U.calling g mk a) (Vm.Alike.refl U.vm) qK, EVS.blind g mk a qE⟩, gH_recv hK hT hr_o0 shm_0 rfl, fun U hU hW => ⟨rfl, hU, va_K.moved hW.alike hK, hE.call hS hFc hU hW⟩⟩ rfl rfl hl.1 rfl (lv_room (Nat.le_of_ble_eq_true rfl)) dX12_job_55 ⟨(Nat.le_of_ble_eq_true rfl), (Nat.le_of_ble_eq_true rfl)⟩) hS (fun q _ h => hFc q h) hFc (fun r102 u t H locs ht hvm hw103 hB _ _ hS => ?_)
          obtain ⟨u104, rfl⟩ : ∃ z, z = u := ⟨_, rfl⟩
          obtain ⟨hT, hF1, m105⟩ := hB
          rw [ht] at hT hF1 m105
          have m106 := (hF1.fld hr_o0 skm_0 (k := 74) (by decide) (by decide)).trans m92
          have hF := hF.more hF1 (by decide)
          try dsimp only at hw103
          obtain ⟨h108, hf109, hd110⟩ := hw103
          have t111 : (0 : Int32).toInt = 0 := by decide
          have t112 : (1 : Int32).toInt = 1 := by decide
          have t113 : (0 : Int32).toInt = 0 := by decide
          obtain rfl : (0 : Int32) = r102 := hd110.symm
          refine lv_if_eq (tgt := 63) hx hb dX12_job_58 (by decide) (fun c114 => ?_) (fun c114 => absurd c114 (by decide))
          refine lv_aload_n hx hb dX12_job_63 rfl (lv_at hl 0 rfl) ?_
          refine tw_getM (v := .int jn) hx hb hts bF_X12 hown hK hT hr_o0 shm_0 rfl 74 (by decide) (ht_at hts 11 rfl) (fun _ h9 => h9) m106 dX12_job_64 ?_
          refine lv_bipush (v := 7) hx hb dX12_job_67 (by decide) ?_
          refine lv_icmp_ne (tgt := 74) hx hb dX12_job_69 (by decide) (fun c115 => ?_) (fun c115 => ?_)
          · have t116 : jn.toInt ≠ 7 := ti_ne c115 rfl (by decide)
            refine lv_aload_n hx hb dX12_job_74 rfl (lv_at hl 0 rfl) ?_
            refine tw_get hx hb hts bF_X12 hown hK hT hr_o0 shm_0 rfl 70 (by decide) (ht_at hts 12 rfl) (fun _ h9 => h9) dX12_job_75 (fun v9 m117 h9 => ?_)
            obtain ⟨rfl, hg118⟩ := h9 _ rfl
            refine lv_aload_n hx hb dX12_job_78 rfl (lv_at hl 0 rfl) ?_
            refine tw_getM (v := .int jn) hx hb hts bF_X12 hown hK hT hr_o0 shm_0 rfl 74 (by decide) (ht_at hts 11 rfl) (fun _ h9 => h9) m106 dX12_job_79 ?_
            refine lv_iload_n hx hb dX12_job_82 rfl (lv_at hl 1 rfl) ?_
            refine tw_iast (i := jn) (x := p0) hx hb hK hT hG hS hg118 shm_71 rfl (vin_t (a := jn.toInt) rfl (by omega) (by omega)) (gi_all _) dX12_job_83 (fun H locs hT oq m119 oi hS => ?_)
            have hF := hF.ast hg118 skm_71 oq (by decide)
            have m120 := (el_kept (oq _ (gne hr_o0 hg118 (by decide)))).trans m106
            have m121 := (el_kept (oq _ (gne hr_o0 hg118 (by decide)))).trans m105
            refine lv_aload_n hx hb dX12_job_84 rfl (lv_at hl 0 rfl) ?_
            refine tw_get hx hb hts bF_X12 hown hK hT hr_o0 shm_0 rfl 71 (by decide) (ht_at hts 13 rfl) (fun _ h9 => h9) dX12_job_85 (fun v9 m122 h9 => ?_)
            obtain ⟨rfl, hg123⟩ := h9 _ rfl
            refine lv_aload_n hx hb dX12_job_88 rfl (lv_at hl 0 rfl) ?_
            refine tw_getM (v := .int jn) hx hb hts bF_X12 hown hK hT hr_o0 shm_0 rfl 74 (by decide) (ht_at hts 11 rfl) (fun _ h9 => h9) m120 dX12_job_89 ?_
            refine lv_iload_n hx hb dX12_job_92 rfl (lv_at hl 2 rfl) ?_
            refine tw_iast (i := jn) (x := p1) hx hb hK hT hG hS hg123 shm_72 rfl (vin_t (a := jn.toInt) rfl (by omega) (by omega)) (gi_of (show p1.toInt = p1.toInt from rfl) (by omega) (by omega)) dX12_job_93 (fun H locs hT oq m124 oi hS => ?_)
            have hF := hF.ast hg123 skm_72 oq (by decide)
            have m125 := (el_kept (oq _ (gne hr_o0 hg123 (by decide)))).trans m120
            have m126 := (el_kept (oq _ (gne hr_o0 hg123 (by decide)))).trans m121
            have m127 := (el_kept (oq _ (gne hg118 hg123 (by decide)))).trans m119
            refine lv_aload_n hx hb dX12_job_94 rfl (lv_at hl 0 rfl) ?_
            refine tw_get hx hb hts bF_X12 hown hK hT hr_o0 shm_0 rfl 72 (by decide) (ht_at hts 14 rfl) (fun _ h9 => h9) dX12_job_95 (fun v9 m128 h9 => ?_)
            obtain ⟨rfl, hg129⟩ := h9 _ rfl
            refine lv_aload_n hx hb dX12_job_98 rfl (lv_at hl 0 rfl) ?_
            refine tw_getM (v := .int jn) hx hb hts bF_X12 hown hK hT hr_o0 shm_0 rfl 74 (by decide) (ht_at hts 11 rfl) (fun _ h9 => h9) m125 dX12_job_99 ?_
            refine lv_iload_n hx hb dX12_job_102 rfl (lv_at hl 3 rfl) ?_
            refine tw_iast (i := jn) (x := p2) hx hb hK hT hG hS hg129 shm_73 rfl (vin_t (a := jn.toInt) rfl (by omega) (by omega)) (gi_all _) dX12_job_103 (fun H locs hT oq m130 oi hS => ?_)
            have hF := hF.ast hg129 skm_73 oq (by decide)
            have m131 := (el_kept (oq _ (gne hr_o0 hg129 (by decide)))).trans m125
            have m132 := (el_kept (oq _ (gne hr_o0 hg129 (by decide)))).trans m126
            have m133 := (el_kept (oq _ (gne hg118 hg129 (by decide)))).trans m127
            have m134 := (el_kept (oq _ (gne hg123 hg129 (by decide)))).trans m124
            refine lv_aload_n hx hb dX12_job_104 rfl (lv_at hl 0 rfl) ?_
            refine tw_get hx hb hts bF_X12 hown hK hT hr_o0 shm_0 rfl 73 (by decide) (ht_at hts 15 rfl) (fun _ h9 => h9) dX12_job_105 (fun v9 m135 h9 => ?_)
            obtain ⟨rfl, hg136⟩ := h9 _ rfl
            refine lv_aload_n hx hb dX12_job_108 rfl (lv_at hl 0 rfl) ?_
            refine tw_getM (v := .int jn) hx hb hts bF_X12 hown hK hT hr_o0 shm_0 rfl 74 (by decide) (ht_at hts 11 rfl) (fun _ h9 => h9) m131 dX12_job_109 ?_
            refine lv_iload hx hb dX12_job_112 (lv_at hl 4 rfl) ?_
            refine tw_iast (i := jn) (x := p3) hx hb hK hT hG hS hg136 shm_74 rfl (vin_t (a := jn.toInt) rfl (by omega) (by omega)) (gi_all _) dX12_job_114 (fun H locs hT oq m137 oi hS => ?_)
            have hF := hF.ast hg136 skm_74 oq (by decide)
            have m138 := (el_kept (oq _ (gne hr_o0 hg136 (by decide)))).trans m131
            have m139 := (el_kept (oq _ (gne hr_o0 hg136 (by decide)))).trans m132
            have m140 := (el_kept (oq _ (gne hg118 hg136 (by decide)))).trans m133
            have m141 := (el_kept (oq _ (gne hg123 hg136 (by decide)))).trans m134
            have m142 := (el_kept (oq _ (gne hg129 hg136 (by decide)))).trans m130
            refine lv_aload_n hx hb dX12_job_115 rfl (lv_at hl 0 rfl) ?_
            refine lv_dup hx hb dX12_job_116 rfl ?_
            refine tw_getM (v := .int jn) hx hb hts bF_X12 hown hK hT hr_o0 shm_0 rfl 74 (by decide) (ht_at hts 11 rfl) (fun _ h9 => h9) m138 dX12_job_117 ?_
            refine lv_iconst (v := 1) hx hb dX12_job_120 (by decide) ?_
            refine lv_iadd hx hb dX12_job_121 ?_
            refine lv_topi (fun x143 ex143 => ?_)
            have t144 : x143.toInt = jn.toInt + 1 := ti_add ex143 rfl (by decide) (by omega) (by omega)
            refine tw_put (v := .int x143) (ty := .int) hx hb hts bF_X12 tyX12 tyX12_ok nmX12 hown hK hT hG hS hr_o0 shm_0 rfl 74 (by decide) (ht_at hts 11 rfl) (fun _ h9 => h9) rfl (by decide +kernel) rfl rfl (gl_at rfl (gi_of (show x143.toInt = x143.toInt from rfl) (by omega) (by omega))) dX12_job_122 (fun H locs hT oq m145 oj hS => ?_)
            have hF := hF.put hr_o0 skm_0 oq oj (by decide)
            have m146 := (oj 0 (by decide) (by decide)).trans m139
            have m147 := (el_kept (oq _ (gne hg118 hr_o0 (by decide)))).trans m140
            have m148 := (el_kept (oq _ (gne hg123 hr_o0 (by decide)))).trans m141
            have m149 := (el_kept (oq _ (gne hg129 hr_o0 (by decide)))).trans m142
            have m150 := (el_kept (oq _ (gne hg136 hr_o0 (by decide)))).trans m137
            refine lv_aload_n hx hb dX12_job_125 rfl (lv_at hl 0 rfl) ?_
            refine tw_getM (v := .int x143) hx hb hts bF_X12 hown hK hT hr_o0 shm_0 rfl 74 (by decide) (ht_at hts 11 rfl) (fun _ h9 => h9) m145 dX12_job_126 ?_
            exact W.iret (v := x143) hx hb hr (fun t ht hW => ⟨⟨x143, (u104, x143), rfl, (by exact ⟨(rg_t (a := x143.toInt) rfl (by have q8 := ti_all x143; omega) (by have q8 := ti_all x143; omega)), (by omega)⟩), by (try dsimp only); rw [ht]; exact ⟨hT, hF, m146, m145⟩⟩, hS.F ht⟩) hS.2.2 dX12_job_129
          · have t151 : jn.toInt = 7 := ti_eq c115 rfl (by decide)
            refine lv_iconst (v := (-1)) hx hb dX12_job_72 (by decide) ?_
            exact W.iret (v := (-1)) hx hb hr (fun t ht hW => ⟨⟨(-1), (u104, jn), rfl, (by exact ⟨(rg_t (a := (-1)) (by decide) (by omega) (by omega)), (by have : (-1 : Int32).toInt = (-1) := (by decide); omega)⟩), by (try dsimp only); rw [ht]; exact ⟨hT, hF, m105, m106⟩⟩, hS.F ht⟩) hS.2.2 dX12_job_73
        · have t152 : r90.toInt = 0 := ti_eq c97 rfl (by decide)
          have t153 : (0 : Int32).toInt = 0 := by decide
          have t154 : (1000 : Int32).toInt = 1000 := by decide
          have t155 : p3.toInt < (0 : Int32).toInt ∨ (1000 : Int32).toInt < p3.toInt := hi96 c97
          refine lv_iconst (v := 1) hx hb dX12_job_49 (by decide) ?_
          refine lv_goto (tgt := 54) hx hb dX12_job_50 (by decide) ?_
          refine lv_iconst (v := 1) hx hb dX12_job_54 (by decide) ?_
          have hFc := gA_free hG hA hS
          refine va_calli (va_runV (As := [.int 1, .int 1]) (rest := []) ⟨hx, hb, hml, hown, hts⟩ (s_throwsIfP l dC dI kA adK adV G H q wZ wN wH wB wC wL wK wU wV PI im PM PT lS lB lE lN o0 1 1 0 hT hr_o0 m93 (rg_t (a := 1) (by decide) (by omega) (by omega)) hgz hgn (by omega) (by omega) (by omega) (by omega) hgu) (cwV 2 hts (goodIn_app (goodIn_r _ [8, 9, 10, 6] rfl (by decide +kernel)) (goodIn_ca (goodIn_r _ [7, 1] rfl (by decide +kernel)) (bs_in _ _))) rfl rfl rfl (by decide +kernel) ⟨(Nat.le_of_ble_eq_true rfl), (Nat.le_of_ble_eq_true rfl)⟩) ⟨fun a U g mk q => by obtain ⟨q0, q1, qK, qE⟩ := q; exact ⟨q0, q1, va_K.moved (u := U) (U := U.calling g mk a) (Vm.Alike.refl U.vm) qK, EVS.blind g mk a qE⟩, gH_recv hK hT hr_o0 shm_0 rfl, fun U hU hW => ⟨rfl, hU, va_K.moved hW.alike hK, hE.call hS hFc hU hW⟩⟩ rfl rfl hl.1 rfl (lv_room (Nat.le_of_ble_eq_true rfl)) dX12_job_55 ⟨(Nat.le_of_ble_eq_true rfl), (Nat.le_of_ble_eq_true rfl)⟩) hS (fun q _ h => hFc q h) hFc (fun r156 u t H locs ht hvm hw157 hB _ _ hS => ?_)
          obtain ⟨u158, rfl⟩ : ∃ z, z = u := ⟨_, rfl⟩
          obtain ⟨hT, hF1, m159⟩ := hB
          rw [ht] at hT hF1 m159
          have m160 := (hF1.fld hr_o0 skm_0 (k := 74) (by decide) (by decide)).trans m92
          have hF := hF.more hF1 (by decide)
          try dsimp only at hw157
          obtain ⟨h162, hf163, hd164⟩ := hw157
          have t165 : (1 : Int32).toInt = 1 := by decide
          have t166 : (1 : Int32).toInt = 1 := by decide
          have t167 : (0 : Int32).toInt = 0 := by decide
          obtain rfl : (1 : Int32) = r156 := hd164.symm
          refine lv_if_eq (tgt := 63) hx hb dX12_job_58 (by decide) (fun c168 => absurd c168 (by decide)) (fun c168 => ?_)
          refine lv_iconst (v := 0) hx hb dX12_job_61 (by decide) ?_
          exact W.iret (v := 0) hx hb hr (fun t ht hW => ⟨⟨0, (u158, jn), rfl, (by exact ⟨(rg_t (a := 0) (by decide) (by omega) (by omega)), (by have : (0 : Int32).toInt = 0 := (by decide); omega)⟩), by (try dsimp only); rw [ht]; exact ⟨hT, hF, m159, m160⟩⟩, hS.F ht⟩) hS.2.2 dX12_job_62
