def w_s_jobsC : List Cond := .code yX12_jobs cX12_jobs 2 (some .int) :: (HAppend.hAppend (α := List Cond) (β := List Cond) (γ := List Cond) [.fieldLink RX12 194 "SeaLandModel" "thrown" "I", .fieldLink RX12 553 "SeaLandModel" "jobs" "I"] bs)
set_option maxHeartbeats 4000000 in
set_option maxRecDepth 100000 in
theorem s_jobsC (l : Launch) (dC : Nat → ClassId) (dI : Nat → Nat → Nat) (kA : Nat → ClassId) (adK adV : Nat → Nat) (G : gT) (H0 : Heap) (q : Nat → Nat) (wZ wN : Nat → Int) (wH wB wC : Int) (wL wK : Nat → Prop) (wU wV : Nat → Nat) (PI : Nat → Int → Prop) (im : Int) (PM PT : Nat → Int → Prop) (lS lB lE : Nat → Nat → Int → Prop) (lN : Nat → Int) (o0 : Nat) (jb : Int32)  (hT : gH (dC, dI) kA (SHm q (wP wZ wN wH wB wC wL wK wU wV) PI im PM PT lS lB lE lN) G H0) (hr_o0 : G o0 = some 0) (hm_jb : el H0 o0 (dI 15 74) = some (.int jb)) (hq0 : 0 ≤ jb.toInt ∧ jb.toInt ≤ 7) (hgz : ∀ i, 0 ≤ wZ i) (hgn : ∀ i, 6500000 ≤ wN i ∧ wN i ≤ 20200000) (hgh : 0 ≤ wH ∧ wH ≤ 40000) (hgb : 0 ≤ wB ∧ wB ≤ 3850000) (hgc : 0 ≤ wC ∧ wC ≤ 30) (hgi : 0 ≤ im ∧ im ≤ 1) (hgu : ∀ a t, G a = some (t + 1) → a = q t) : Met l yX12_jobs w_s_jobsC ({ frames := 0, cells := 0, slots := 0, locals := 0 }) (va_Pc [.ref o0] (fun U => U.heap = H0 ∧ va_K (dC, dI) vwCl (tyl kA) U ∧ EVS adK adV (gA G H0.size) U U.heap)) (va_Qi (fun (r : Int32) (u : Int32) => (0 ≤ r.toInt ∧ r.toInt ≤ 7) ∧ (u.toInt = 0) ∧ (r = jb)) (fun (j1 : Int32) (t : State) => gH (dC, dI) kA (SHm q (wP wZ wN wH wB wC wL wK wU wV) PI im PM PT lS lB lE lN) G t.heap ∧ gF (dC, dI) SKm G ([(0, 0), (0, 74)] : List (Nat × Nat)) H0 t.heap ∧ el t.heap o0 (dI 15 74) = some (.int j1)) (gA G H0.size)) 0 0 (gA G H0.size) := by
  refine Met.ofW (cc := cX12_jobs) (maxL := 2) (ret := (some .int)) (by decide) rfl ?_
  intro p e s m args below meth c s₁ B hml hv
  obtain ⟨rfl, hH0, hK, hE⟩ := hv
  have hx := B.exec
  have hb := B.bytes
  have hr := B.returns
  have hts := atoms_spec (ws := w_s_jobsC) B.pre
  have hown : s.vm.findClass RX12 = some m.cls := findClass_of_methodNamed B.named
  have hlocks := B.notSynchronized
  subst hH0
  generalize hAe : gA G s.heap.size = A at hE ⊢
  have hA : ∀ q : Nat, s.heap.size ≤ q → A q := fun q h => by rw [← hAe]; exact Or.inr h
  have hG := gA_of hAe
  have hS : va_S A s.heap s.heap [] := va_S.rf
  have hF : gF (dC, dI) SKm G ([(0, 0), (0, 74)] : List (Nat × Nat)) s.heap s.heap := gF.rf
  have hl := lv_entry ([.ref o0]) (n := 2) (Nat.le_of_ble_eq_true rfl)
  rw [lg_entry_eq]
  generalize (lg_sl ([.ref o0]) ++ List.replicate (2 - (lg_sl ([.ref o0])).length) Slot.unset).toArray = ls at hl ⊢
  have hl : lv_has ls 2 [(0, .ref o0)] := hl
  refine lv_aload_n hx hb dX12_jobs_0 rfl (lv_at hl 0 rfl) ?_
  refine lv_iconst (v := 0) hx hb dX12_jobs_1 (by decide) ?_
  refine tw_put (v := .int 0) (ty := .int) hx hb hts bF_X12 tyX12 tyX12_ok nmX12 hown hK hT hG hS hr_o0 shm_0 rfl 0 (by decide) (ht_at hts 0 rfl) (fun _ h9 => h9) rfl (by decide +kernel) rfl rfl (gl_at rfl (gi_all _)) dX12_jobs_2 (fun H locs hT oq m1 oj hS => ?_)
  have hF := hF.put hr_o0 skm_0 oq oj (by decide)
  have m2 := (oj 74 (by decide) (by decide)).trans hm_jb
  refine lv_aload_n hx hb dX12_jobs_5 rfl (lv_at hl 0 rfl) ?_
  refine tw_getM (v := .int jb) hx hb hts bF_X12 hown hK hT hr_o0 shm_0 rfl 74 (by decide) (ht_at hts 1 rfl) (fun _ h9 => h9) m2 dX12_jobs_6 ?_
  refine lv_istore_n (lv' := [(1, .int jb), (0, .ref o0)]) hx hb dX12_jobs_9 rfl hl (by decide) rfl (fun ls hl => ?_)
  refine lv_aload_n hx hb dX12_jobs_10 rfl (lv_at hl 1 rfl) ?_
  refine lv_iconst (v := 0) hx hb dX12_jobs_11 (by decide) ?_
  refine tw_put (v := .int 0) (ty := .int) hx hb hts bF_X12 tyX12 tyX12_ok nmX12 hown hK hT hG hS hr_o0 shm_0 rfl 74 (by decide) (ht_at hts 1 rfl) (fun _ h9 => h9) rfl (by decide +kernel) rfl rfl (gl_at rfl (gi_of (show (0 : Int32).toInt = 0 from (by decide)) (by omega) (by omega))) dX12_jobs_12 (fun H locs hT oq m3 oj hS => ?_)
  have hF := hF.put hr_o0 skm_0 oq oj (by decide)
  have m4 := (oj 0 (by decide) (by decide)).trans m1
  refine lv_iload_n hx hb dX12_jobs_15 rfl (lv_at hl 0 rfl) ?_
  exact W.iret (v := jb) hx hb hr (fun t ht hW => ⟨⟨jb, (0 : Int32), rfl, (by exact ⟨(by have q8 := ti_all jb; omega), (by have : (0 : Int32).toInt = 0 := (by decide); omega), rfl⟩), by (try dsimp only); rw [ht]; exact ⟨hT, hF, m3⟩⟩, hS.F ht⟩) hS.2.2 dX12_jobs_16
def w_s_jobC : List Cond := .code yX12_job cX12_job 5 (some .int) :: (HAppend.hAppend (α := List Cond) (β := List Cond) (γ := List Cond) [.fieldLink RX12 194 "SeaLandModel" "thrown" "I", .constant RX12 536 1000000, .code yX12_in cX12_in 3 (some .boolean), .methodLink RX12 197 yX12_in, .static yX12_in, .initialized RX12, .code yX12_throwsIf cX12_throwsIf 3 (some .boolean), .methodLink RX12 224 yX12_throwsIf, .instanceMethod yX12_throwsIf, .selects RX12 yX12_throwsIf yX12_throwsIf, .constant RX12 241 100000, .fieldLink RX12 553 "SeaLandModel" "jobs" "I", .fieldLink RX12 176 "SeaLandModel" "jCost" "[I", .fieldLink RX12 179 "SeaLandModel" "jYears" "[I", .fieldLink RX12 182 "SeaLandModel" "jBrings" "[I", .fieldLink RX12 185 "SeaLandModel" "jAcres" "[I"] bs)
set_option maxHeartbeats 4000000 in
set_option maxRecDepth 100000 in
theorem s_jobC (l : Launch) (dC : Nat → ClassId) (dI : Nat → Nat → Nat) (kA : Nat → ClassId) (adK adV : Nat → Nat) (G : gT) (H0 : Heap) (q : Nat → Nat) (wZ wN : Nat → Int) (wH wB wC : Int) (wL wK : Nat → Prop) (wU wV : Nat → Nat) (PI : Nat → Int → Prop) (im : Int) (PM PT : Nat → Int → Prop) (lS lB lE : Nat → Nat → Int → Prop) (lN : Nat → Int) (o0 : Nat) (p0 : Int32) (p1 : Int32) (p2 : Int32) (p3 : Int32) (jb : Int32) (aC : Nat → Int32) (aY : Nat → Int32) (aB : Nat → Int32) (aA : Nat → Int32)  (hT : gH (dC, dI) kA (SHm q (wP wZ wN wH wB wC wL wK wU wV) PI im PM PT lS lB lE lN) G H0) (hr_o0 : G o0 = some 0) (hm_jb : el H0 o0 (dI 15 74) = some (.int jb)) (hq0 : 0 ≤ jb.toInt ∧ jb.toInt ≤ 7) (hc_aC : ct H0 (q 70) 7 aC) (hc_aY : ct H0 (q 71) 7 aY) (hc_aB : ct H0 (q 72) 7 aB) (hc_aA : ct H0 (q 73) 7 aA) (hgz : ∀ i, 0 ≤ wZ i) (hgn : ∀ i, 6500000 ≤ wN i ∧ wN i ≤ 20200000) (hgh : 0 ≤ wH ∧ wH ≤ 40000) (hgb : 0 ≤ wB ∧ wB ≤ 3850000) (hgc : 0 ≤ wC ∧ wC ≤ 30) (hgi : 0 ≤ im ∧ im ≤ 1) (hgu : ∀ a t, G a = some (t + 1) → a = q t) : Met l yX12_job w_s_jobC ({ frames := 1, cells := 0, slots := 0, locals := 22 }) (va_Pc [.ref o0, .int p0, .int p1, .int p2, .int p3] (fun U => U.heap = H0 ∧ va_K (dC, dI) vwCl (tyl kA) U ∧ EVS adK adV (gA G H0.size) U U.heap)) (va_Qi (fun (r : Int32) (u : Int32 × Int32 × (Nat → Int32) × (Nat → Int32) × (Nat → Int32) × (Nat → Int32)) => match u with | (t1, j1, aC1, aY1, aB1, aA1) => (-1 ≤ r.toInt ∧ r.toInt ≤ 7) ∧ ((joC p0.toInt p1.toInt p2.toInt p3.toInt = 1 ∧ t1.toInt = 1 ∧ j1.toInt = jb.toInt ∧ aC1 = aC ∧ aY1 = aY ∧ aB1 = aB ∧ aA1 = aA) ∨ (joC p0.toInt p1.toInt p2.toInt p3.toInt = 0 ∧ t1.toInt = 0 ∧ jb.toInt < 7 ∧ r.toInt = jb.toInt + 1 ∧ j1.toInt = jb.toInt + 1 ∧ aC1 = cu aC jb.toNatClampNeg p0 ∧ aY1 = cu aY jb.toNatClampNeg p1 ∧ aB1 = cu aB jb.toNatClampNeg p2 ∧ aA1 = cu aA jb.toNatClampNeg p3) ∨ (joC p0.toInt p1.toInt p2.toInt p3.toInt = 0 ∧ t1.toInt = 0 ∧ jb.toInt = 7 ∧ r.toInt = -1 ∧ j1.toInt = jb.toInt ∧ aC1 = aC ∧ aY1 = aY ∧ aB1 = aB ∧ aA1 = aA))) (fun (u : Int32 × Int32 × (Nat → Int32) × (Nat → Int32) × (Nat → Int32) × (Nat → Int32)) (t : State) => match u with | (t1, j1, aC1, aY1, aB1, aA1) => gH (dC, dI) kA (SHm q (wP wZ wN wH wB wC wL wK wU wV) PI im PM PT lS lB lE lN) G t.heap ∧ gF (dC, dI) SKm G ([(0, 0), (0, 74), (71, 0), (72, 0), (73, 0), (74, 0)] : List (Nat × Nat)) H0 t.heap ∧ el t.heap o0 (dI 15 0) = some (.int t1) ∧ el t.heap o0 (dI 15 74) = some (.int j1) ∧ ct t.heap (q 70) 7 aC1 ∧ ct t.heap (q 71) 7 aY1 ∧ ct t.heap (q 72) 7 aB1 ∧ ct t.heap (q 73) 7 aA1) (gA G H0.size)) 0 0 (gA G H0.size) := by
  refine Met.ofW (cc := cX12_job) (maxL := 5) (ret := (some .int)) (by decide) rfl ?_
  intro p e s m args below meth c s₁ B hml hv
  obtain ⟨rfl, hH0, hK, hE⟩ := hv
  have hx := B.exec
  have hb := B.bytes
  have hr := B.returns
  have hts := atoms_spec (ws := w_s_jobC) B.pre
  have hown : s.vm.findClass RX12 = some m.cls := findClass_of_methodNamed B.named
  have hlocks := B.notSynchronized
  subst hH0
  generalize hAe : gA G s.heap.size = A at hE ⊢
  have hA : ∀ q : Nat, s.heap.size ≤ q → A q := fun q h => by rw [← hAe]; exact Or.inr h
  have hG := gA_of hAe
  have hS : va_S A s.heap s.heap [] := va_S.rf
  have hF : gF (dC, dI) SKm G ([(0, 0), (0, 74), (71, 0), (72, 0), (73, 0), (74, 0)] : List (Nat × Nat)) s.heap s.heap := gF.rf
  have hl := lv_entry ([.ref o0, .int p0, .int p1, .int p2, .int p3]) (n := 5) (Nat.le_of_ble_eq_true rfl)
  rw [lg_entry_eq]
  generalize (lg_sl ([.ref o0, .int p0, .int p1, .int p2, .int p3]) ++ List.replicate (5 - (lg_sl ([.ref o0, .int p0, .int p1, .int p2, .int p3])).length) Slot.unset).toArray = ls at hl ⊢
  have hl : lv_has ls 5 [(0, .ref o0), (1, .int p0), (2, .int p1), (3, .int p2), (4, .int p3)] := hl
  have hg1 : G (q 70) = some 71 := gx_of hT hr_o0 shm_0 (k := 70) (by decide) rfl
  have hg2 : G (q 71) = some 72 := gx_of hT hr_o0 shm_0 (k := 71) (by decide) rfl
  have hg3 : G (q 72) = some 73 := gx_of hT hr_o0 shm_0 (k := 72) (by decide) rfl
  have hg4 : G (q 73) = some 74 := gx_of hT hr_o0 shm_0 (k := 73) (by decide) rfl
  refine lv_aload_n hx hb dX12_job_0 rfl (lv_at hl 0 rfl) ?_
  refine lv_iconst (v := 0) hx hb dX12_job_1 (by decide) ?_
  refine tw_put (v := .int 0) (ty := .int) hx hb hts bF_X12 tyX12 tyX12_ok nmX12 hown hK hT hG hS hr_o0 shm_0 rfl 0 (by decide) (ht_at hts 0 rfl) (fun _ h9 => h9) rfl (by decide +kernel) rfl rfl (gl_at rfl (gi_all _)) dX12_job_2 (fun H locs hT oq m5 oj hS => ?_)
  have hF := hF.put hr_o0 skm_0 oq oj (by decide)
  have m6 := (oj 74 (by decide) (by decide)).trans hm_jb
  have m7 := hc_aC.kept (oq _ (gne hg1 hr_o0 (by decide)))
  have m8 := hc_aY.kept (oq _ (gne hg2 hr_o0 (by decide)))
  have m9 := hc_aB.kept (oq _ (gne hg3 hr_o0 (by decide)))
  have m10 := hc_aA.kept (oq _ (gne hg4 hr_o0 (by decide)))
  refine lv_aload_n hx hb dX12_job_5 rfl (lv_at hl 0 rfl) ?_
  refine lv_iload_n hx hb dX12_job_6 rfl (lv_at hl 1 rfl) ?_
  refine lv_iconst (v := 0) hx hb dX12_job_7 (by decide) ?_
  refine lv_ldcw (v := 1000000) hx hb hown (ht_at hts 1 rfl) dX12_job_8 ?_
  have hFc := gA_free hG hA hS
  refine va_calli (va_runS (As := [.int p0, .int 0, .int 1000000]) (rest := [.ref o0]) ⟨hx, hb, hml, hown, hts⟩ (s_in l dC dI kA adK adV G H q wZ wN wH wB wC wL wK wU wV PI im PM PT lS lB lE lN p0 0 1000000 hT hgz hgn hgh hgb hgc hgi hgu) (va_cwS 3 hts (goodIn_app (goodIn_r _ [4, 5, 6] rfl (by decide +kernel)) (goodIn_ca (goodIn_r _ [3] rfl (by decide +kernel)) (bs_in _ _))) rfl rfl rfl (by decide +kernel) ⟨(Nat.le_of_ble_eq_true rfl), (Nat.le_of_ble_eq_true rfl)⟩) ⟨fun a U g mk q => by obtain ⟨q0, q1, qK, qE⟩ := q; exact ⟨q0, q1, va_K.moved (u := U) (U := U.calling g mk a) (Vm.Alike.refl U.vm) qK, EVS.blind g mk a qE⟩, fun U hU hW => ⟨rfl, hU, va_K.moved hW.alike hK, hE.call hS hFc hU hW⟩⟩ rfl rfl hl.1 rfl (lv_room (Nat.le_of_ble_eq_true rfl)) dX12_job_11 ⟨(Nat.le_of_ble_eq_true rfl), (Nat.le_of_ble_eq_true rfl)⟩) hS (fun q _ h => hFc q h) hFc (fun r11 u t H locs ht hvm hw12 hB _ _ hS => ?_)
  obtain ⟨hT, hF1⟩ := hB
  rw [ht] at hT hF1
  have m13 := (hF1.fld hr_o0 skm_0 (k := 74) (by decide) (by decide)).trans m6
  have m14 := m7.kept (hF1.arr hg1 skm_71 (by decide))
  have m15 := m8.kept (hF1.arr hg2 skm_72 (by decide))
  have m16 := m9.kept (hF1.arr hg3 skm_73 (by decide))
  have m17 := m10.kept (hF1.arr hg4 skm_74 (by decide))
  have m18 := (hF1.fld hr_o0 skm_0 (k := 0) (by decide) (by decide)).trans m5
  have hF := hF.more hF1 (by decide)
  try dsimp only at hw12
  obtain ⟨h19, hi20, hi21⟩ := hw12
  refine lv_if_eq (tgt := 49) hx hb dX12_job_14 (by decide) (fun c22 => ?_) (fun c22 => ?_)
  · have t23 : r11.toInt = 0 := ti_eq c22 rfl (by decide)
    have t24 : (0 : Int32).toInt = 0 := by decide
    have t25 : (1000000 : Int32).toInt = 1000000 := by decide
    have t26 : p0.toInt < (0 : Int32).toInt ∨ (1000000 : Int32).toInt < p0.toInt := hi21 c22
    refine lv_iconst (v := 1) hx hb dX12_job_49 (by decide) ?_
    refine lv_goto (tgt := 54) hx hb dX12_job_50 (by decide) ?_
    refine lv_iconst (v := 1) hx hb dX12_job_54 (by decide) ?_
    have hFc := gA_free hG hA hS
    refine va_calli (va_runV (As := [.int 1, .int 1]) (rest := []) ⟨hx, hb, hml, hown, hts⟩ (s_throwsIfP l dC dI kA adK adV G H q wZ wN wH wB wC wL wK wU wV PI im PM PT lS lB lE lN o0 1 1 0 hT hr_o0 m18 (rg_t (a := 1) (by decide) (by omega) (by omega)) hgz hgn hgh hgb hgc hgi hgu) (cwV 2 hts (goodIn_app (goodIn_r _ [8, 9, 10, 6] rfl (by decide +kernel)) (goodIn_ca (goodIn_r _ [7, 1] rfl (by decide +kernel)) (bs_in _ _))) rfl rfl rfl (by decide +kernel) ⟨(Nat.le_of_ble_eq_true rfl), (Nat.le_of_ble_eq_true rfl)⟩) ⟨fun a U g mk q => by obtain ⟨q0, q1, qK, qE⟩ := q; exact ⟨q0, q1, va_K.moved (u := U) (U := U.calling g mk a) (Vm.Alike.refl U.vm) qK, EVS.blind g mk a qE⟩, gH_recv hK hT hr_o0 shm_0 rfl, fun U hU hW => ⟨rfl, hU, va_K.moved hW.alike hK, hE.call hS hFc hU hW⟩⟩ rfl rfl hl.1 rfl (lv_room (Nat.le_of_ble_eq_true rfl)) dX12_job_55 ⟨(Nat.le_of_ble_eq_true rfl), (Nat.le_of_ble_eq_true rfl)⟩) hS (fun q _ h => hFc q h) hFc (fun r27 u t H locs ht hvm hw28 hB _ _ hS => ?_)
    obtain ⟨u29, rfl⟩ : ∃ z, z = u := ⟨_, rfl⟩
    obtain ⟨hT, hF1, m30⟩ := hB
    rw [ht] at hT hF1 m30
    have m31 := (hF1.fld hr_o0 skm_0 (k := 74) (by decide) (by decide)).trans m13
    have m32 := m14.kept (hF1.arr hg1 skm_71 (by decide))
    have m33 := m15.kept (hF1.arr hg2 skm_72 (by decide))
    have m34 := m16.kept (hF1.arr hg3 skm_73 (by decide))
    have m35 := m17.kept (hF1.arr hg4 skm_74 (by decide))
    have hF := hF.more hF1 (by decide)
    try dsimp only at hw28
    obtain ⟨h37, hf38, hd39⟩ := hw28
    have t40 : (1 : Int32).toInt = 1 := by decide
    have t41 : (1 : Int32).toInt = 1 := by decide
    have t42 : (0 : Int32).toInt = 0 := by decide
    obtain rfl : (1 : Int32) = r27 := hd39.symm
    refine lv_if_eq (tgt := 63) hx hb dX12_job_58 (by decide) (fun c43 => absurd c43 (by decide)) (fun c43 => ?_)
    refine lv_iconst (v := 0) hx hb dX12_job_61 (by decide) ?_
    exact W.iret (v := 0) hx hb hr (fun t ht hW => ⟨⟨0, (u29, jb, aC, aY, aB, aA), rfl, (by exact ⟨(rg_t (a := 0) (by decide) (by omega) (by omega)), (by have q0 : (0 : Int32).toInt = 0 := (by decide); have q1 : (1 : Int32).toInt = 1 := (by decide); have qm : (-1 : Int32).toInt = -1 := (by decide); first | exact Or.inl ⟨by have := joC_s p0.toInt p1.toInt p2.toInt p3.toInt; omega, by omega, by omega, rfl, rfl, rfl, rfl⟩ | exact Or.inr (Or.inr ⟨by have := joC_s p0.toInt p1.toInt p2.toInt p3.toInt; omega, by omega, by omega, by omega, by omega, rfl, rfl, rfl, rfl⟩))⟩), by (try dsimp only); rw [ht]; exact ⟨hT, hF, m30, m31, m32, m33, m34, m35⟩⟩, hS.F ht⟩) hS.2.2 dX12_job_62
  · have t44 : r11.toInt ≠ 0 := ti_ne c22 rfl (by decide)
    have t45 : (0 : Int32).toInt = 0 := by decide
    have t46 : (1000000 : Int32).toInt = 1000000 := by decide
    have t47 : (0 : Int32).toInt ≤ p0.toInt ∧ p0.toInt ≤ (1000000 : Int32).toInt := hi20 ((bit_of ⟨by omega, by omega⟩).resolve_left c22)
    refine lv_iload_n hx hb dX12_job_17 rfl (lv_at hl 2 rfl) ?_
    refine lv_iconst (v := 1) hx hb dX12_job_18 (by decide) ?_
    refine lv_bipush (v := 20) hx hb dX12_job_19 (by decide) ?_
    have hFc := gA_free hG hA hS
    refine va_calli (va_runS (As := [.int p1, .int 1, .int 20]) (rest := [.ref o0]) ⟨hx, hb, hml, hown, hts⟩ (s_in l dC dI kA adK adV G H q wZ wN wH wB wC wL wK wU wV PI im PM PT lS lB lE lN p1 1 20 hT hgz hgn hgh hgb hgc hgi hgu) (va_cwS 3 hts (goodIn_app (goodIn_r _ [4, 5, 6] rfl (by decide +kernel)) (goodIn_ca (goodIn_r _ [3] rfl (by decide +kernel)) (bs_in _ _))) rfl rfl rfl (by decide +kernel) ⟨(Nat.le_of_ble_eq_true rfl), (Nat.le_of_ble_eq_true rfl)⟩) ⟨fun a U g mk q => by obtain ⟨q0, q1, qK, qE⟩ := q; exact ⟨q0, q1, va_K.moved (u := U) (U := U.calling g mk a) (Vm.Alike.refl U.vm) qK, EVS.blind g mk a qE⟩, fun U hU hW => ⟨rfl, hU, va_K.moved hW.alike hK, hE.call hS hFc hU hW⟩⟩ rfl rfl hl.1 rfl (lv_room (Nat.le_of_ble_eq_true rfl)) dX12_job_21 ⟨(Nat.le_of_ble_eq_true rfl), (Nat.le_of_ble_eq_true rfl)⟩) hS (fun q _ h => hFc q h) hFc (fun r48 u t H locs ht hvm hw49 hB _ _ hS => ?_)
    obtain ⟨hT, hF1⟩ := hB
    rw [ht] at hT hF1
    have m50 := (hF1.fld hr_o0 skm_0 (k := 74) (by decide) (by decide)).trans m13
    have m51 := m14.kept (hF1.arr hg1 skm_71 (by decide))
    have m52 := m15.kept (hF1.arr hg2 skm_72 (by decide))
    have m53 := m16.kept (hF1.arr hg3 skm_73 (by decide))
    have m54 := m17.kept (hF1.arr hg4 skm_74 (by decide))
    have m55 := (hF1.fld hr_o0 skm_0 (k := 0) (by decide) (by decide)).trans m18
    have hF := hF.more hF1 (by decide)
    try dsimp only at hw49
    obtain ⟨h56, hi57, hi58⟩ := hw49
    refine lv_if_eq (tgt := 49) hx hb dX12_job_24 (by decide) (fun c59 => ?_) (fun c59 => ?_)
    · have t60 : r48.toInt = 0 := ti_eq c59 rfl (by decide)
      have t61 : (1 : Int32).toInt = 1 := by decide
      have t62 : (20 : Int32).toInt = 20 := by decide
      have t63 : p1.toInt < (1 : Int32).toInt ∨ (20 : Int32).toInt < p1.toInt := hi58 c59
      refine lv_iconst (v := 1) hx hb dX12_job_49 (by decide) ?_
      refine lv_goto (tgt := 54) hx hb dX12_job_50 (by decide) ?_
      refine lv_iconst (v := 1) hx hb dX12_job_54 (by decide) ?_
      have hFc := gA_free hG hA hS
      refine va_calli (va_runV (As := [.int 1, .int 1]) (rest := []) ⟨hx, hb, hml, hown, hts⟩ (s_throwsIfP l dC dI kA adK adV G H q wZ wN wH wB wC wL wK wU wV PI im PM PT lS lB lE lN o0 1 1 0 hT hr_o0 m55 (rg_t (a := 1) (by decide) (by omega) (by omega)) hgz hgn hgh hgb hgc hgi hgu) (cwV 2 hts (goodIn_app (goodIn_r _ [8, 9, 10, 6] rfl (by decide +kernel)) (goodIn_ca (goodIn_r _ [7, 1] rfl (by decide +kernel)) (bs_in _ _))) rfl rfl rfl (by decide +kernel) ⟨(Nat.le_of_ble_eq_true rfl), (Nat.le_of_ble_eq_true rfl)⟩) ⟨fun a U g mk q => by obtain ⟨q0, q1, qK, qE⟩ := q; exact ⟨q0, q1, va_K.moved (u := U) (U := U.calling g mk a) (Vm.Alike.refl U.vm) qK, EVS.blind g mk a qE⟩, gH_recv hK hT hr_o0 shm_0 rfl, fun U hU hW => ⟨rfl, hU, va_K.moved hW.alike hK, hE.call hS hFc hU hW⟩⟩ rfl rfl hl.1 rfl (lv_room (Nat.le_of_ble_eq_true rfl)) dX12_job_55 ⟨(Nat.le_of_ble_eq_true rfl), (Nat.le_of_ble_eq_true rfl)⟩) hS (fun q _ h => hFc q h) hFc (fun r64 u t H locs ht hvm hw65 hB _ _ hS => ?_)
      obtain ⟨u66, rfl⟩ : ∃ z, z = u := ⟨_, rfl⟩
      obtain ⟨hT, hF1, m67⟩ := hB
      rw [ht] at hT hF1 m67
      have m68 := (hF1.fld hr_o0 skm_0 (k := 74) (by decide) (by decide)).trans m50
      have m69 := m51.kept (hF1.arr hg1 skm_71 (by decide))
      have m70 := m52.kept (hF1.arr hg2 skm_72 (by decide))
      have m71 := m53.kept (hF1.arr hg3 skm_73 (by decide))
      have m72 := m54.kept (hF1.arr hg4 skm_74 (by decide))
      have hF := hF.more hF1 (by decide)
      try dsimp only at hw65
      obtain ⟨h74, hf75, hd76⟩ := hw65
      have t77 : (1 : Int32).toInt = 1 := by decide
      have t78 : (1 : Int32).toInt = 1 := by decide
      have t79 : (0 : Int32).toInt = 0 := by decide
      obtain rfl : (1 : Int32) = r64 := hd76.symm
      refine lv_if_eq (tgt := 63) hx hb dX12_job_58 (by decide) (fun c80 => absurd c80 (by decide)) (fun c80 => ?_)
      refine lv_iconst (v := 0) hx hb dX12_job_61 (by decide) ?_
      exact W.iret (v := 0) hx hb hr (fun t ht hW => ⟨⟨0, (u66, jb, aC, aY, aB, aA), rfl, (by exact ⟨(rg_t (a := 0) (by decide) (by omega) (by omega)), (by have q0 : (0 : Int32).toInt = 0 := (by decide); have q1 : (1 : Int32).toInt = 1 := (by decide); have qm : (-1 : Int32).toInt = -1 := (by decide); first | exact Or.inl ⟨by have := joC_s p0.toInt p1.toInt p2.toInt p3.toInt; omega, by omega, by omega, rfl, rfl, rfl, rfl⟩ | exact Or.inr (Or.inr ⟨by have := joC_s p0.toInt p1.toInt p2.toInt p3.toInt; omega, by omega, by omega, by omega, by omega, rfl, rfl, rfl, rfl⟩))⟩), by (try dsimp only); rw [ht]; exact ⟨hT, hF, m67, m68, m69, m70, m71, m72⟩⟩, hS.F ht⟩) hS.2.2 dX12_job_62
    · have t81 : r48.toInt ≠ 0 := ti_ne c59 rfl (by decide)
      have t82 : (1 : Int32).toInt = 1 := by decide
      have t83 : (20 : Int32).toInt = 20 := by decide
      have t84 : (1 : Int32).toInt ≤ p1.toInt ∧ p1.toInt ≤ (20 : Int32).toInt := hi57 ((bit_of ⟨by omega, by omega⟩).resolve_left c59)
      refine lv_iload_n hx hb dX12_job_27 rfl (lv_at hl 3 rfl) ?_
      refine lv_iconst (v := 0) hx hb dX12_job_28 (by decide) ?_
      refine lv_ldc (v := 100000) hx hb hown (ht_at hts 10 rfl) dX12_job_29 ?_
      have hFc := gA_free hG hA hS
      refine va_calli (va_runS (As := [.int p2, .int 0, .int 100000]) (rest := [.ref o0]) ⟨hx, hb, hml, hown, hts⟩ (s_in l dC dI kA adK adV G H q wZ wN wH wB wC wL wK wU wV PI im PM PT lS lB lE lN p2 0 100000 hT hgz hgn hgh hgb hgc hgi hgu) (va_cwS 3 hts (goodIn_app (goodIn_r _ [4, 5, 6] rfl (by decide +kernel)) (goodIn_ca (goodIn_r _ [3] rfl (by decide +kernel)) (bs_in _ _))) rfl rfl rfl (by decide +kernel) ⟨(Nat.le_of_ble_eq_true rfl), (Nat.le_of_ble_eq_true rfl)⟩) ⟨fun a U g mk q => by obtain ⟨q0, q1, qK, qE⟩ := q; exact ⟨q0, q1, va_K.moved (u := U) (U := U.calling g mk a) (Vm.Alike.refl U.vm) qK, EVS.blind g mk a qE⟩, fun U hU hW => ⟨rfl, hU, va_K.moved hW.alike hK, hE.call hS hFc hU hW⟩⟩ rfl rfl hl.1 rfl (lv_room (Nat.le_of_ble_eq_true rfl)) dX12_job_31 ⟨(Nat.le_of_ble_eq_true rfl), (Nat.le_of_ble_eq_true rfl)⟩) hS (fun q _ h => hFc q h) hFc (fun r85 u t H locs ht hvm hw86 hB _ _ hS => ?_)
      obtain ⟨hT, hF1⟩ := hB
      rw [ht] at hT hF1
      have m87 := (hF1.fld hr_o0 skm_0 (k := 74) (by decide) (by decide)).trans m50
      have m88 := m51.kept (hF1.arr hg1 skm_71 (by decide))
      have m89 := m52.kept (hF1.arr hg2 skm_72 (by decide))
      have m90 := m53.kept (hF1.arr hg3 skm_73 (by decide))
      have m91 := m54.kept (hF1.arr hg4 skm_74 (by decide))
      have m92 := (hF1.fld hr_o0 skm_0 (k := 0) (by decide) (by decide)).trans m55
      have hF := hF.more hF1 (by decide)
      try dsimp only at hw86
      obtain ⟨h93, hi94, hi95⟩ := hw86
      refine lv_if_eq (tgt := 49) hx hb dX12_job_34 (by decide) (fun c96 => ?_) (fun c96 => ?_)
      · have t97 : r85.toInt = 0 := ti_eq c96 rfl (by decide)
        have t98 : (0 : Int32).toInt = 0 := by decide
        have t99 : (100000 : Int32).toInt = 100000 := by decide
        have t100 : p2.toInt < (0 : Int32).toInt ∨ (100000 : Int32).toInt < p2.toInt := hi95 c96
        refine lv_iconst (v := 1) hx hb dX12_job_49 (by decide) ?_
        refine lv_goto (tgt := 54) hx hb dX12_job_50 (by decide) ?_
        refine lv_iconst (v := 1) hx hb dX12_job_54 (by decide) ?_
        have hFc := gA_free hG hA hS
        refine va_calli (va_runV (As := [.int 1, .int 1]) (rest := []) ⟨hx, hb, hml, hown, hts⟩ (s_throwsIfP l dC dI kA adK adV G H q wZ wN wH wB wC wL wK wU wV PI im PM PT lS lB lE lN o0 1 1 0 hT hr_o0 m92 (rg_t (a := 1) (by decide) (by omega) (by omega)) hgz hgn hgh hgb hgc hgi hgu) (cwV 2 hts (goodIn_app (goodIn_r _ [8, 9, 10, 6] rfl (by decide +kernel)) (goodIn_ca (goodIn_r _ [7, 1] rfl (by decide +kernel)) (bs_in _ _))) rfl rfl rfl (by decide +kernel) ⟨(Nat.le_of_ble_eq_true rfl), (Nat.le_of_ble_eq_true rfl)⟩) ⟨fun a U g mk q => by obtain ⟨q0, q1, qK, qE⟩ := q; exact ⟨q0, q1, va_K.moved (u := U) (U := U.calling g mk a) (Vm.Alike.refl U.vm) qK, EVS.blind g mk a qE⟩, gH_recv hK hT hr_o0 shm_0 rfl, fun U hU hW => ⟨rfl, hU, va_K.moved hW.alike hK, hE.call hS hFc hU hW⟩⟩ rfl rfl hl.1 rfl (lv_room (Nat.le_of_ble_eq_true rfl)) dX12_job_55 ⟨(Nat.le_of_ble_eq_true rfl), (Nat.le_of_ble_eq_true rfl)⟩) hS (fun q _ h => hFc q h) hFc (fun r101 u t H locs ht hvm hw102 hB _ _ hS => ?_)
        obtain ⟨u103, rfl⟩ : ∃ z, z = u := ⟨_, rfl⟩
        obtain ⟨hT, hF1, m104⟩ := hB
        rw [ht] at hT hF1 m104
        have m105 := (hF1.fld hr_o0 skm_0 (k := 74) (by decide) (by decide)).trans m87
        have m106 := m88.kept (hF1.arr hg1 skm_71 (by decide))
        have m107 := m89.kept (hF1.arr hg2 skm_72 (by decide))
        have m108 := m90.kept (hF1.arr hg3 skm_73 (by decide))
        have m109 := m91.kept (hF1.arr hg4 skm_74 (by decide))
        have hF := hF.more hF1 (by decide)
        try dsimp only at hw102
        obtain ⟨h111, hf112, hd113⟩ := hw102
        have t114 : (1 : Int32).toInt = 1 := by decide
        have t115 : (1 : Int32).toInt = 1 := by decide
        have t116 : (0 : Int32).toInt = 0 := by decide
        obtain rfl : (1 : Int32) = r101 := hd113.symm
        refine lv_if_eq (tgt := 63) hx hb dX12_job_58 (by decide) (fun c117 => absurd c117 (by decide)) (fun c117 => ?_)
        refine lv_iconst (v := 0) hx hb dX12_job_61 (by decide) ?_
        exact W.iret (v := 0) hx hb hr (fun t ht hW => ⟨⟨0, (u103, jb, aC, aY, aB, aA), rfl, (by exact ⟨(rg_t (a := 0) (by decide) (by omega) (by omega)), (by have q0 : (0 : Int32).toInt = 0 := (by decide); have q1 : (1 : Int32).toInt = 1 := (by decide); have qm : (-1 : Int32).toInt = -1 := (by decide); first | exact Or.inl ⟨by have := joC_s p0.toInt p1.toInt p2.toInt p3.toInt; omega, by omega, by omega, rfl, rfl, rfl, rfl⟩ | exact Or.inr (Or.inr ⟨by have := joC_s p0.toInt p1.toInt p2.toInt p3.toInt; omega, by omega, by omega, by omega, by omega, rfl, rfl, rfl, rfl⟩))⟩), by (try dsimp only); rw [ht]; exact ⟨hT, hF, m104, m105, m106, m107, m108, m109⟩⟩, hS.F ht⟩) hS.2.2 dX12_job_62
      · have t118 : r85.toInt ≠ 0 := ti_ne c96 rfl (by decide)
        have t119 : (0 : Int32).toInt = 0 := by decide
        have t120 : (100000 : Int32).toInt = 100000 := by decide
        have t121 : (0 : Int32).toInt ≤ p2.toInt ∧ p2.toInt ≤ (100000 : Int32).toInt := hi94 ((bit_of ⟨by omega, by omega⟩).resolve_left c96)
        refine lv_iload hx hb dX12_job_37 (lv_at hl 4 rfl) ?_
        refine lv_iconst (v := 0) hx hb dX12_job_39 (by decide) ?_
        refine lv_sipush (v := 1000) hx hb dX12_job_40 (by decide) ?_
        have hFc := gA_free hG hA hS
        refine va_calli (va_runS (As := [.int p3, .int 0, .int 1000]) (rest := [.ref o0]) ⟨hx, hb, hml, hown, hts⟩ (s_in l dC dI kA adK adV G H q wZ wN wH wB wC wL wK wU wV PI im PM PT lS lB lE lN p3 0 1000 hT hgz hgn hgh hgb hgc hgi hgu) (va_cwS 3 hts (goodIn_app (goodIn_r _ [4, 5, 6] rfl (by decide +kernel)) (goodIn_ca (goodIn_r _ [3] rfl (by decide +kernel)) (bs_in _ _))) rfl rfl rfl (by decide +kernel) ⟨(Nat.le_of_ble_eq_true rfl), (Nat.le_of_ble_eq_true rfl)⟩) ⟨fun a U g mk q => by obtain ⟨q0, q1, qK, qE⟩ := q; exact ⟨q0, q1, va_K.moved (u := U) (U := U.calling g mk a) (Vm.Alike.refl U.vm) qK, EVS.blind g mk a qE⟩, fun U hU hW => ⟨rfl, hU, va_K.moved hW.alike hK, hE.call hS hFc hU hW⟩⟩ rfl rfl hl.1 rfl (lv_room (Nat.le_of_ble_eq_true rfl)) dX12_job_43 ⟨(Nat.le_of_ble_eq_true rfl), (Nat.le_of_ble_eq_true rfl)⟩) hS (fun q _ h => hFc q h) hFc (fun r122 u t H locs ht hvm hw123 hB _ _ hS => ?_)
        obtain ⟨hT, hF1⟩ := hB
        rw [ht] at hT hF1
        have m124 := (hF1.fld hr_o0 skm_0 (k := 74) (by decide) (by decide)).trans m87
        have m125 := m88.kept (hF1.arr hg1 skm_71 (by decide))
        have m126 := m89.kept (hF1.arr hg2 skm_72 (by decide))
        have m127 := m90.kept (hF1.arr hg3 skm_73 (by decide))
        have m128 := m91.kept (hF1.arr hg4 skm_74 (by decide))
        have m129 := (hF1.fld hr_o0 skm_0 (k := 0) (by decide) (by decide)).trans m92
        have hF := hF.more hF1 (by decide)
        try dsimp only at hw123
        obtain ⟨h130, hi131, hi132⟩ := hw123
        refine lv_if_ne (tgt := 53) hx hb dX12_job_46 (by decide) (fun c133 => ?_) (fun c133 => ?_)
        · have t134 : r122.toInt ≠ 0 := ti_ne c133 rfl (by decide)
          have t135 : (0 : Int32).toInt = 0 := by decide
          have t136 : (1000 : Int32).toInt = 1000 := by decide
          have t137 : (0 : Int32).toInt ≤ p3.toInt ∧ p3.toInt ≤ (1000 : Int32).toInt := hi131 ((bit_of ⟨by omega, by omega⟩).resolve_left c133)
          refine lv_iconst (v := 0) hx hb dX12_job_53 (by decide) ?_
          refine lv_iconst (v := 1) hx hb dX12_job_54 (by decide) ?_
          have hFc := gA_free hG hA hS
          refine va_calli (va_runV (As := [.int 0, .int 1]) (rest := []) ⟨hx, hb, hml, hown, hts⟩ (s_throwsIfP l dC dI kA adK adV G H q wZ wN wH wB wC wL wK wU wV PI im PM PT lS lB lE lN o0 0 1 0 hT hr_o0 m129 (rg_t (a := 0) (by decide) (by omega) (by omega)) hgz hgn hgh hgb hgc hgi hgu) (cwV 2 hts (goodIn_app (goodIn_r _ [8, 9, 10, 6] rfl (by decide +kernel)) (goodIn_ca (goodIn_r _ [7, 1] rfl (by decide +kernel)) (bs_in _ _))) rfl rfl rfl (by decide +kernel) ⟨(Nat.le_of_ble_eq_true rfl), (Nat.le_of_ble_eq_true rfl)⟩) ⟨fun a U g mk q => by obtain ⟨q0, q1, qK, qE⟩ := q; exact ⟨q0, q1, va_K.moved (u := U) (U := U.calling g mk a) (Vm.Alike.refl U.vm) qK, EVS.blind g mk a qE⟩, gH_recv hK hT hr_o0 shm_0 rfl, fun U hU hW => ⟨rfl, hU, va_K.moved hW.alike hK, hE.call hS hFc hU hW⟩⟩ rfl rfl hl.1 rfl (lv_room (Nat.le_of_ble_eq_true rfl)) dX12_job_55 ⟨(Nat.le_of_ble_eq_true rfl), (Nat.le_of_ble_eq_true rfl)⟩) hS (fun q _ h => hFc q h) hFc (fun r138 u t H locs ht hvm hw139 hB _ _ hS => ?_)
          obtain ⟨u140, rfl⟩ : ∃ z, z = u := ⟨_, rfl⟩
          obtain ⟨hT, hF1, m141⟩ := hB
          rw [ht] at hT hF1 m141
          have m142 := (hF1.fld hr_o0 skm_0 (k := 74) (by decide) (by decide)).trans m124
          have m143 := m125.kept (hF1.arr hg1 skm_71 (by decide))
          have m144 := m126.kept (hF1.arr hg2 skm_72 (by decide))
          have m145 := m127.kept (hF1.arr hg3 skm_73 (by decide))
          have m146 := m128.kept (hF1.arr hg4 skm_74 (by decide))
          have hF := hF.more hF1 (by decide)
          try dsimp only at hw139
          obtain ⟨h148, hf149, hd150⟩ := hw139
          have t151 : (0 : Int32).toInt = 0 := by decide
          have t152 : (1 : Int32).toInt = 1 := by decide
          have t153 : (0 : Int32).toInt = 0 := by decide
          obtain rfl : (0 : Int32) = r138 := hd150.symm
          refine lv_if_eq (tgt := 63) hx hb dX12_job_58 (by decide) (fun c154 => ?_) (fun c154 => absurd c154 (by decide))
          refine lv_aload_n hx hb dX12_job_63 rfl (lv_at hl 0 rfl) ?_
          refine tw_getM (v := .int jb) hx hb hts bF_X12 hown hK hT hr_o0 shm_0 rfl 74 (by decide) (ht_at hts 11 rfl) (fun _ h9 => h9) m142 dX12_job_64 ?_
          refine lv_bipush (v := 7) hx hb dX12_job_67 (by decide) ?_
          refine lv_icmp_ne (tgt := 74) hx hb dX12_job_69 (by decide) (fun c155 => ?_) (fun c155 => ?_)
          · have t156 : jb.toInt ≠ 7 := ti_ne c155 rfl (by decide)
            refine lv_aload_n hx hb dX12_job_74 rfl (lv_at hl 0 rfl) ?_
            refine tw_get hx hb hts bF_X12 hown hK hT hr_o0 shm_0 rfl 70 (by decide) (ht_at hts 12 rfl) (fun _ h9 => h9) dX12_job_75 (fun v9 m157 h9 => ?_)
            obtain ⟨rfl, hg158⟩ := h9 _ rfl
            refine lv_aload_n hx hb dX12_job_78 rfl (lv_at hl 0 rfl) ?_
            refine tw_getM (v := .int jb) hx hb hts bF_X12 hown hK hT hr_o0 shm_0 rfl 74 (by decide) (ht_at hts 11 rfl) (fun _ h9 => h9) m142 dX12_job_79 ?_
            refine lv_iload_n hx hb dX12_job_82 rfl (lv_at hl 1 rfl) ?_
            refine tw_iast (i := jb) (x := p0) hx hb hK hT hG hS hg1 shm_71 rfl (vin_t (a := jb.toInt) rfl (by omega) (by omega)) (gi_all _) dX12_job_83 (fun H locs hT oq m159 oi hS => ?_)
            have hF := hF.ast hg1 skm_71 oq (by decide)
            have m160 := (el_kept (oq _ (gne hr_o0 hg1 (by decide)))).trans m142
            have m161 := m143.put m159 oi
            have m162 := m144.kept (oq _ (gne hg2 hg1 (by decide)))
            have m163 := m145.kept (oq _ (gne hg3 hg1 (by decide)))
            have m164 := m146.kept (oq _ (gne hg4 hg1 (by decide)))
            have m165 := (el_kept (oq _ (gne hr_o0 hg1 (by decide)))).trans m141
            refine lv_aload_n hx hb dX12_job_84 rfl (lv_at hl 0 rfl) ?_
            refine tw_get hx hb hts bF_X12 hown hK hT hr_o0 shm_0 rfl 71 (by decide) (ht_at hts 13 rfl) (fun _ h9 => h9) dX12_job_85 (fun v9 m166 h9 => ?_)
            obtain ⟨rfl, hg167⟩ := h9 _ rfl
            refine lv_aload_n hx hb dX12_job_88 rfl (lv_at hl 0 rfl) ?_
            refine tw_getM (v := .int jb) hx hb hts bF_X12 hown hK hT hr_o0 shm_0 rfl 74 (by decide) (ht_at hts 11 rfl) (fun _ h9 => h9) m160 dX12_job_89 ?_
            refine lv_iload_n hx hb dX12_job_92 rfl (lv_at hl 2 rfl) ?_
            refine tw_iast (i := jb) (x := p1) hx hb hK hT hG hS hg2 shm_72 rfl (vin_t (a := jb.toInt) rfl (by omega) (by omega)) (gi_of (show p1.toInt = p1.toInt from rfl) (by omega) (by omega)) dX12_job_93 (fun H locs hT oq m168 oi hS => ?_)
            have hF := hF.ast hg2 skm_72 oq (by decide)
            have m169 := (el_kept (oq _ (gne hr_o0 hg2 (by decide)))).trans m160
            have m170 := m161.kept (oq _ (gne hg1 hg2 (by decide)))
            have m171 := m162.put m168 oi
            have m172 := m163.kept (oq _ (gne hg3 hg2 (by decide)))
            have m173 := m164.kept (oq _ (gne hg4 hg2 (by decide)))
            have m174 := (el_kept (oq _ (gne hr_o0 hg2 (by decide)))).trans m165
            have m175 := (el_kept (oq _ (gne hg1 hg2 (by decide)))).trans m159
            refine lv_aload_n hx hb dX12_job_94 rfl (lv_at hl 0 rfl) ?_
            refine tw_get hx hb hts bF_X12 hown hK hT hr_o0 shm_0 rfl 72 (by decide) (ht_at hts 14 rfl) (fun _ h9 => h9) dX12_job_95 (fun v9 m176 h9 => ?_)
            obtain ⟨rfl, hg177⟩ := h9 _ rfl
            refine lv_aload_n hx hb dX12_job_98 rfl (lv_at hl 0 rfl) ?_
            refine tw_getM (v := .int jb) hx hb hts bF_X12 hown hK hT hr_o0 shm_0 rfl 74 (by decide) (ht_at hts 11 rfl) (fun _ h9 => h9) m169 dX12_job_99 ?_
            refine lv_iload_n hx hb dX12_job_102 rfl (lv_at hl 3 rfl) ?_
            refine tw_iast (i := jb) (x := p2) hx hb hK hT hG hS hg3 shm_73 rfl (vin_t (a := jb.toInt) rfl (by omega) (by omega)) (gi_all _) dX12_job_103 (fun H locs hT oq m178 oi hS => ?_)
            have hF := hF.ast hg3 skm_73 oq (by decide)
            have m179 := (el_kept (oq _ (gne hr_o0 hg3 (by decide)))).trans m169
            have m180 := m170.kept (oq _ (gne hg1 hg3 (by decide)))
            have m181 := m171.kept (oq _ (gne hg2 hg3 (by decide)))
            have m182 := m172.put m178 oi
            have m183 := m173.kept (oq _ (gne hg4 hg3 (by decide)))
            have m184 := (el_kept (oq _ (gne hr_o0 hg3 (by decide)))).trans m174
            have m185 := (el_kept (oq _ (gne hg1 hg3 (by decide)))).trans m175
            have m186 := (el_kept (oq _ (gne hg2 hg3 (by decide)))).trans m168
            refine lv_aload_n hx hb dX12_job_104 rfl (lv_at hl 0 rfl) ?_
            refine tw_get hx hb hts bF_X12 hown hK hT hr_o0 shm_0 rfl 73 (by decide) (ht_at hts 15 rfl) (fun _ h9 => h9) dX12_job_105 (fun v9 m187 h9 => ?_)
            obtain ⟨rfl, hg188⟩ := h9 _ rfl
            refine lv_aload_n hx hb dX12_job_108 rfl (lv_at hl 0 rfl) ?_
            refine tw_getM (v := .int jb) hx hb hts bF_X12 hown hK hT hr_o0 shm_0 rfl 74 (by decide) (ht_at hts 11 rfl) (fun _ h9 => h9) m179 dX12_job_109 ?_
            refine lv_iload hx hb dX12_job_112 (lv_at hl 4 rfl) ?_
            refine tw_iast (i := jb) (x := p3) hx hb hK hT hG hS hg4 shm_74 rfl (vin_t (a := jb.toInt) rfl (by omega) (by omega)) (gi_all _) dX12_job_114 (fun H locs hT oq m189 oi hS => ?_)
            have hF := hF.ast hg4 skm_74 oq (by decide)
            have m190 := (el_kept (oq _ (gne hr_o0 hg4 (by decide)))).trans m179
            have m191 := m180.kept (oq _ (gne hg1 hg4 (by decide)))
            have m192 := m181.kept (oq _ (gne hg2 hg4 (by decide)))
            have m193 := m182.kept (oq _ (gne hg3 hg4 (by decide)))
            have m194 := m183.put m189 oi
            have m195 := (el_kept (oq _ (gne hr_o0 hg4 (by decide)))).trans m184
            have m196 := (el_kept (oq _ (gne hg1 hg4 (by decide)))).trans m185
            have m197 := (el_kept (oq _ (gne hg2 hg4 (by decide)))).trans m186
            have m198 := (el_kept (oq _ (gne hg3 hg4 (by decide)))).trans m178
            refine lv_aload_n hx hb dX12_job_115 rfl (lv_at hl 0 rfl) ?_
            refine lv_dup hx hb dX12_job_116 rfl ?_
            refine tw_getM (v := .int jb) hx hb hts bF_X12 hown hK hT hr_o0 shm_0 rfl 74 (by decide) (ht_at hts 11 rfl) (fun _ h9 => h9) m190 dX12_job_117 ?_
            refine lv_iconst (v := 1) hx hb dX12_job_120 (by decide) ?_
            refine lv_iadd hx hb dX12_job_121 ?_
            refine lv_topi (fun x199 ex199 => ?_)
            have t200 : x199.toInt = jb.toInt + 1 := ti_add ex199 rfl (by decide) (by omega) (by omega)
            refine tw_put (v := .int x199) (ty := .int) hx hb hts bF_X12 tyX12 tyX12_ok nmX12 hown hK hT hG hS hr_o0 shm_0 rfl 74 (by decide) (ht_at hts 11 rfl) (fun _ h9 => h9) rfl (by decide +kernel) rfl rfl (gl_at rfl (gi_of (show x199.toInt = x199.toInt from rfl) (by omega) (by omega))) dX12_job_122 (fun H locs hT oq m201 oj hS => ?_)
            have hF := hF.put hr_o0 skm_0 oq oj (by decide)
            have m202 := m191.kept (oq _ (gne hg1 hr_o0 (by decide)))
            have m203 := m192.kept (oq _ (gne hg2 hr_o0 (by decide)))
            have m204 := m193.kept (oq _ (gne hg3 hr_o0 (by decide)))
            have m205 := m194.kept (oq _ (gne hg4 hr_o0 (by decide)))
            have m206 := (oj 0 (by decide) (by decide)).trans m195
            have m207 := (el_kept (oq _ (gne hg1 hr_o0 (by decide)))).trans m196
            have m208 := (el_kept (oq _ (gne hg2 hr_o0 (by decide)))).trans m197
            have m209 := (el_kept (oq _ (gne hg3 hr_o0 (by decide)))).trans m198
            have m210 := (el_kept (oq _ (gne hg4 hr_o0 (by decide)))).trans m189
            refine lv_aload_n hx hb dX12_job_125 rfl (lv_at hl 0 rfl) ?_
            refine tw_getM (v := .int x199) hx hb hts bF_X12 hown hK hT hr_o0 shm_0 rfl 74 (by decide) (ht_at hts 11 rfl) (fun _ h9 => h9) m201 dX12_job_126 ?_
            exact W.iret (v := x199) hx hb hr (fun t ht hW => ⟨⟨x199, (u140, x199, (cu aC jb.toNatClampNeg p0), (cu aY jb.toNatClampNeg p1), (cu aB jb.toNatClampNeg p2), (cu aA jb.toNatClampNeg p3)), rfl, (by exact ⟨(by have q8 := ti_all x199; omega), (Or.inr (Or.inl ⟨by have := joC_s p0.toInt p1.toInt p2.toInt p3.toInt; omega, by have q0 : (0 : Int32).toInt = 0 := (by decide); have q1 : (1 : Int32).toInt = 1 := (by decide); have qm : (-1 : Int32).toInt = -1 := (by decide); omega, by omega, by omega, by omega, rfl, rfl, rfl, rfl⟩))⟩), by (try dsimp only); rw [ht]; exact ⟨hT, hF, m206, m201, m202, m203, m204, m205⟩⟩, hS.F ht⟩) hS.2.2 dX12_job_129
          · have t211 : jb.toInt = 7 := ti_eq c155 rfl (by decide)
            refine lv_iconst (v := (-1)) hx hb dX12_job_72 (by decide) ?_
            exact W.iret (v := (-1)) hx hb hr (fun t ht hW => ⟨⟨(-1), (u140, jb, aC, aY, aB, aA), rfl, (by exact ⟨(rg_t (a := (-1)) (by decide) (by omega) (by omega)), (by have q0 : (0 : Int32).toInt = 0 := (by decide); have q1 : (1 : Int32).toInt = 1 := (by decide); have qm : (-1 : Int32).toInt = -1 := (by decide); first | exact Or.inl ⟨by have := joC_s p0.toInt p1.toInt p2.toInt p3.toInt; omega, by omega, by omega, rfl, rfl, rfl, rfl⟩ | exact Or.inr (Or.inr ⟨by have := joC_s p0.toInt p1.toInt p2.toInt p3.toInt; omega, by omega, by omega, by omega, by omega, rfl, rfl, rfl, rfl⟩))⟩), by (try dsimp only); rw [ht]; exact ⟨hT, hF, m141, m142, m143, m144, m145, m146⟩⟩, hS.F ht⟩) hS.2.2 dX12_job_73
        · have t212 : r122.toInt = 0 := ti_eq c133 rfl (by decide)
          have t213 : (0 : Int32).toInt = 0 := by decide
          have t214 : (1000 : Int32).toInt = 1000 := by decide
          have t215 : p3.toInt < (0 : Int32).toInt ∨ (1000 : Int32).toInt < p3.toInt := hi132 c133
          refine lv_iconst (v := 1) hx hb dX12_job_49 (by decide) ?_
          refine lv_goto (tgt := 54) hx hb dX12_job_50 (by decide) ?_
          refine lv_iconst (v := 1) hx hb dX12_job_54 (by decide) ?_
          have hFc := gA_free hG hA hS
          refine va_calli (va_runV (As := [.int 1, .int 1]) (rest := []) ⟨hx, hb, hml, hown, hts⟩ (s_throwsIfP l dC dI kA adK adV G H q wZ wN wH wB wC wL wK wU wV PI im PM PT lS lB lE lN o0 1 1 0 hT hr_o0 m129 (rg_t (a := 1) (by decide) (by omega) (by omega)) hgz hgn hgh hgb hgc hgi hgu) (cwV 2 hts (goodIn_app (goodIn_r _ [8, 9, 10, 6] rfl (by decide +kernel)) (goodIn_ca (goodIn_r _ [7, 1] rfl (by decide +kernel)) (bs_in _ _))) rfl rfl rfl (by decide +kernel) ⟨(Nat.le_of_ble_eq_true rfl), (Nat.le_of_ble_eq_true rfl)⟩) ⟨fun a U g mk q => by obtain ⟨q0, q1, qK, qE⟩ := q; exact ⟨q0, q1, va_K.moved (u := U) (U := U.calling g mk a) (Vm.Alike.refl U.vm) qK, EVS.blind g mk a qE⟩, gH_recv hK hT hr_o0 shm_0 rfl, fun U hU hW => ⟨rfl, hU, va_K.moved hW.alike hK, hE.call hS hFc hU hW⟩⟩ rfl rfl hl.1 rfl (lv_room (Nat.le_of_ble_eq_true rfl)) dX12_job_55 ⟨(Nat.le_of_ble_eq_true rfl), (Nat.le_of_ble_eq_true rfl)⟩) hS (fun q _ h => hFc q h) hFc (fun r216 u t H locs ht hvm hw217 hB _ _ hS => ?_)
          obtain ⟨u218, rfl⟩ : ∃ z, z = u := ⟨_, rfl⟩
          obtain ⟨hT, hF1, m219⟩ := hB
          rw [ht] at hT hF1 m219
          have m220 := (hF1.fld hr_o0 skm_0 (k := 74) (by decide) (by decide)).trans m124
          have m221 := m125.kept (hF1.arr hg1 skm_71 (by decide))
          have m222 := m126.kept (hF1.arr hg2 skm_72 (by decide))
          have m223 := m127.kept (hF1.arr hg3 skm_73 (by decide))
          have m224 := m128.kept (hF1.arr hg4 skm_74 (by decide))
          have hF := hF.more hF1 (by decide)
          try dsimp only at hw217
          obtain ⟨h226, hf227, hd228⟩ := hw217
          have t229 : (1 : Int32).toInt = 1 := by decide
          have t230 : (1 : Int32).toInt = 1 := by decide
          have t231 : (0 : Int32).toInt = 0 := by decide
          obtain rfl : (1 : Int32) = r216 := hd228.symm
          refine lv_if_eq (tgt := 63) hx hb dX12_job_58 (by decide) (fun c232 => absurd c232 (by decide)) (fun c232 => ?_)
          refine lv_iconst (v := 0) hx hb dX12_job_61 (by decide) ?_
          exact W.iret (v := 0) hx hb hr (fun t ht hW => ⟨⟨0, (u218, jb, aC, aY, aB, aA), rfl, (by exact ⟨(rg_t (a := 0) (by decide) (by omega) (by omega)), (by have q0 : (0 : Int32).toInt = 0 := (by decide); have q1 : (1 : Int32).toInt = 1 := (by decide); have qm : (-1 : Int32).toInt = -1 := (by decide); first | exact Or.inl ⟨by have := joC_s p0.toInt p1.toInt p2.toInt p3.toInt; omega, by omega, by omega, rfl, rfl, rfl, rfl⟩ | exact Or.inr (Or.inr ⟨by have := joC_s p0.toInt p1.toInt p2.toInt p3.toInt; omega, by omega, by omega, by omega, by omega, rfl, rfl, rfl, rfl⟩))⟩), by (try dsimp only); rw [ht]; exact ⟨hT, hF, m219, m220, m221, m222, m223, m224⟩⟩, hS.F ht⟩) hS.2.2 dX12_job_62
def w_s_ordersC7 : List Cond := .code yX12_orders cX12_orders 10 none :: (HAppend.hAppend (α := List Cond) (β := List Cond) (γ := List Cond) [.fieldLink RX12 553 "SeaLandModel" "jobs" "I", .fieldLink RX12 556 "SeaLandModel" "lateness" "I", .fieldLink RX12 191 "SeaLandModel" "bestRow" "[I", .fieldLink RX12 188 "SeaLandModel" "row" "[I"] bs)
set_option maxHeartbeats 4000000 in
set_option maxRecDepth 100000 in
theorem s_ordersC7 (l : Launch) (dC : Nat → ClassId) (dI : Nat → Nat → Nat) (kA : Nat → ClassId) (adK adV : Nat → Nat) (G : gT) (H0 : Heap) (q : Nat → Nat) (wZ wN : Nat → Int) (wH wB wC : Int) (wL wK : Nat → Prop) (wU wV : Nat → Nat) (PI : Nat → Int → Prop) (im : Int) (PM PT : Nat → Int → Prop) (lS lB lE : Nat → Nat → Int → Prop) (lN : Nat → Int) (o0 : Nat) (us : Int32) (yr : Int32) (ca : Int32) (ic : Int32) (su : Int32) (jb : Int32) (la : Int32) (aC : Nat → Int32) (aY : Nat → Int32) (aB : Nat → Int32) (aA : Nat → Int32) (vR : Nat → Int32) (vZ : Nat → Int32) (N : Nat) (R : Nat → Int) (a0 : oA) (hT : gH (dC, dI) kA (SHm q (wP wZ wN wH wB wC wL wK wU wV) PI im PM PT lS lB lE lN) G H0) (hr_o0 : G o0 = some 0) (hm_jb : el H0 o0 (dI 15 74) = some (.int jb)) (hm_la : el H0 o0 (dI 15 77) = some (.int la)) (hq0 : 0 ≤ yr.toInt ∧ yr.toInt ≤ 200) (hq1 : 0 ≤ ca.toInt ∧ ca.toInt ≤ 43099999) (hq2 : 0 ≤ ic.toInt ∧ ic.toInt ≤ 700000) (hq3 : 0 ≤ su.toInt ∧ su.toInt ≤ 1400000) (hq4 : 7 ≤ jb.toInt ∧ jb.toInt ≤ 7) (hN : jb.toInt = ((N : Nat) : Int)) (hrg : joR jb.toInt aC aY aB aA) (hla : la.toInt = a0.1) (hZ0 : 0 ≤ a0.1 → ∀ k : Nat, k < N → (vZ k).toInt = a0.2 k) (hR : ∀ k : Nat, k < 7 → (vR k).toInt = R k) (hc_aC : ct H0 (q 70) 7 aC) (hc_aY : ct H0 (q 71) 7 aY) (hc_aB : ct H0 (q 72) 7 aB) (hc_aA : ct H0 (q 73) 7 aA) (hc_vR : ct H0 (q 75) 7 vR) (hc_vZ : ct H0 (q 76) 7 vZ) (hgz : ∀ i, 0 ≤ wZ i) (hgn : ∀ i, 6500000 ≤ wN i ∧ wN i ≤ 20200000) (hgh : 0 ≤ wH ∧ wH ≤ 40000) (hgb : 0 ≤ wB ∧ wB ≤ 3850000) (hgc : 0 ≤ wC ∧ wC ≤ 30) (hgi : 0 ≤ im ∧ im ≤ 1) (hgu : ∀ a t, G a = some (t + 1) → a = q t) : Met l yX12_orders w_s_ordersC7 ({ frames := 0, cells := 0, slots := 0, locals := 0 }) (va_Pc [.ref o0, .int 7, .int us, .int yr, .int ca, .int ic, .int su] (fun U => U.heap = H0 ∧ va_K (dC, dI) vwCl (tyl kA) U ∧ EVS adK adV (gA G H0.size) U U.heap)) (va_Qv (fun (u : Int32 × (Nat → Int32) × (Nat → Int32)) => match u with | (la1, vR1, vZ1) => (la1.toInt = (sx N 7 aC aY aB aA (bt us) yr.toInt ca.toInt ic.toInt su.toInt R a0).1 ∧ (0 ≤ (sx N 7 aC aY aB aA (bt us) yr.toInt ca.toInt ic.toInt su.toInt R a0).1 → ∀ k : Nat, k < N → (vZ1 k).toInt = (sx N 7 aC aY aB aA (bt us) yr.toInt ca.toInt ic.toInt su.toInt R a0).2 k) ∧ ∀ k : Nat, k < 7 → (vR1 k).toInt = R k)) (fun (u : Int32 × (Nat → Int32) × (Nat → Int32)) (t : State) => match u with | (la1, vR1, vZ1) => gH (dC, dI) kA (SHm q (wP wZ wN wH wB wC wL wK wU wV) PI im PM PT lS lB lE lN) G t.heap ∧ gF (dC, dI) SKm G ([(0, 77), (77, 0)] : List (Nat × Nat)) H0 t.heap ∧ el t.heap o0 (dI 15 77) = some (.int la1) ∧ ct t.heap (q 75) 7 vR1 ∧ ct t.heap (q 76) 7 vZ1) (gA G H0.size)) 0 0 (gA G H0.size) := by
  refine Met.ofW (cc := cX12_orders) (maxL := 10) (ret := none) (by decide) rfl ?_
  intro p e s m args below meth c s₁ B hml hv
  obtain ⟨rfl, hH0, hK, hE⟩ := hv
  have hx := B.exec
  have hb := B.bytes
  have hr := B.returns
  have hts := atoms_spec (ws := w_s_ordersC7) B.pre
  have hown : s.vm.findClass RX12 = some m.cls := findClass_of_methodNamed B.named
  have hlocks := B.notSynchronized
  subst hH0
  generalize hAe : gA G s.heap.size = A at hE ⊢
  have hA : ∀ q : Nat, s.heap.size ≤ q → A q := fun q h => by rw [← hAe]; exact Or.inr h
  have hG := gA_of hAe
  have hS : va_S A s.heap s.heap [] := va_S.rf
  have hF : gF (dC, dI) SKm G ([(0, 77), (77, 0)] : List (Nat × Nat)) s.heap s.heap := gF.rf
  have hl := lv_entry ([.ref o0, .int 7, .int us, .int yr, .int ca, .int ic, .int su]) (n := 10) (Nat.le_of_ble_eq_true rfl)
  rw [lg_entry_eq]
  generalize (lg_sl ([.ref o0, .int 7, .int us, .int yr, .int ca, .int ic, .int su]) ++ List.replicate (10 - (lg_sl ([.ref o0, .int 7, .int us, .int yr, .int ca, .int ic, .int su])).length) Slot.unset).toArray = ls at hl ⊢
  have hl : lv_has ls 10 [(0, .ref o0), (1, .int 7), (2, .int us), (3, .int yr), (4, .int ca), (5, .int ic), (6, .int su)] := hl
  have hg1 : G (q 70) = some 71 := gx_of hT hr_o0 shm_0 (k := 70) (by decide) rfl
  have hg2 : G (q 71) = some 72 := gx_of hT hr_o0 shm_0 (k := 71) (by decide) rfl
  have hg3 : G (q 72) = some 73 := gx_of hT hr_o0 shm_0 (k := 72) (by decide) rfl
  have hg4 : G (q 73) = some 74 := gx_of hT hr_o0 shm_0 (k := 73) (by decide) rfl
  have hg5 : G (q 75) = some 76 := gx_of hT hr_o0 shm_0 (k := 75) (by decide) rfl
  have hg6 : G (q 76) = some 77 := gx_of hT hr_o0 shm_0 (k := 76) (by decide) rfl
  refine lv_iload_n hx hb dX12_orders_0 rfl (lv_at hl 1 rfl) ?_
  refine lv_aload_n hx hb dX12_orders_1 rfl (lv_at hl 0 rfl) ?_
  refine tw_getM (v := .int jb) hx hb hts bF_X12 hown hK hT hr_o0 shm_0 rfl 74 (by decide) (ht_at hts 0 rfl) (fun _ h9 => h9) hm_jb dX12_orders_2 ?_
  refine lv_icmp_ne (tgt := 61) hx hb dX12_orders_5 (by decide) (fun c7 => (by exfalso; have q9 : 7 ≠ jb.toInt := ti_ne c7 (by decide) rfl; omega)) (fun c7 => ?_)
  have t8 : 7 = jb.toInt := ti_eq c7 (by decide) rfl
  refine lv_aload_n hx hb dX12_orders_8 rfl (lv_at hl 0 rfl) ?_
  refine tw_getM (v := .int la) hx hb hts bF_X12 hown hK hT hr_o0 shm_0 rfl 77 (by decide) (ht_at hts 1 rfl) (fun _ h9 => h9) hm_la dX12_orders_9 ?_
  refine lv_if_lt (tgt := 25) hx hb dX12_orders_12 (by decide) (fun c9 => ?_) (fun c9 => ?_)
  · have t10 : la.toInt < 0 := ti_lt c9 rfl (by decide)
    refine lv_aload_n hx hb dX12_orders_25 rfl (lv_at hl 0 rfl) ?_
    refine lv_iload hx hb dX12_orders_26 (lv_at hl 6 rfl) ?_
    refine tw_put (v := .int su) (ty := .int) hx hb hts bF_X12 tyX12 tyX12_ok nmX12 hown hK hT hG hS hr_o0 shm_0 rfl 77 (by decide) (ht_at hts 1 rfl) (fun _ h9 => h9) rfl (by decide +kernel) rfl rfl (gl_at rfl (gi_all _)) dX12_orders_28 (fun H locs hT oq m11 oj hS => ?_)
    have hF := hF.put hr_o0 skm_0 oq oj (by decide)
    have m12 := (oj 74 (by decide) (by decide)).trans hm_jb
    have m13 := hc_aC.kept (oq _ (gne hg1 hr_o0 (by decide)))
    have m14 := hc_aY.kept (oq _ (gne hg2 hr_o0 (by decide)))
    have m15 := hc_aB.kept (oq _ (gne hg3 hr_o0 (by decide)))
    have m16 := hc_aA.kept (oq _ (gne hg4 hr_o0 (by decide)))
    have m17 := hc_vR.kept (oq _ (gne hg5 hr_o0 (by decide)))
    have m18 := hc_vZ.kept (oq _ (gne hg6 hr_o0 (by decide)))
    refine lv_iconst (v := 0) hx hb dX12_orders_31 (by decide) ?_
    refine lv_istore (lv' := [(7, .int 0), (0, .ref o0), (1, .int 7), (2, .int us), (3, .int yr), (4, .int ca), (5, .int ic), (6, .int su)]) hx hb dX12_orders_32 hl (by decide) rfl (fun ls hl => ?_)
    have key48 : ∀ (n48 i19 : Nat), i19 + n48 = 7 → 0 ≤ i19 → ∀ (V25 : Nat → Int32), ((∀ k : Nat, k < i19 → (V25 k).toInt = R k)) → ∀ (H : Heap) (locs : List Loc), gH (dC, dI) kA (SHm q (wP wZ wN wH wB wC wL wK wU wV) PI im PM PT lS lB lE lN) G H → gF (dC, dI) SKm G ([(0, 77), (77, 0)] : List (Nat × Nat)) s.heap H → va_S A s.heap H locs → ct H (q 70) 7 aC → ct H (q 71) 7 aY → ct H (q 72) 7 aB → ct H (q 73) 7 aA → ct H (q 75) 7 vR → ct H (q 76) 7 V25 → el H o0 (dI 15 74) = some (.int jb) → el H o0 (dI 15 77) = some (.int su) → ∀ ls : Array Slot, lv_has ls 10 [(7, .int (nI i19)), (0, .ref o0), (1, .int 7), (2, .int us), (3, .int yr), (4, .int ca), (5, .int ic), (6, .int su)] → W p l e (headSpec w_s_ordersC7 ({ frames := 0, cells := 0, slots := 0, locals := 0 })).room s m #[.ref o0, .int 7, .int us, .int yr, .int ca, .int ic, .int su] below meth c H locs 0 0 (MQ below (va_Qv (fun (u : Int32 × (Nat → Int32) × (Nat → Int32)) => match u with | (la1, vR1, vZ1) => (la1.toInt = (sx N 7 aC aY aB aA (bt us) yr.toInt ca.toInt ic.toInt su.toInt R a0).1 ∧ (0 ≤ (sx N 7 aC aY aB aA (bt us) yr.toInt ca.toInt ic.toInt su.toInt R a0).1 → ∀ k : Nat, k < N → (vZ1 k).toInt = (sx N 7 aC aY aB aA (bt us) yr.toInt ca.toInt ic.toInt su.toInt R a0).2 k) ∧ ∀ k : Nat, k < 7 → (vR1 k).toInt = R k)) (fun (u : Int32 × (Nat → Int32) × (Nat → Int32)) (t : State) => match u with | (la1, vR1, vZ1) => gH (dC, dI) kA (SHm q (wP wZ wN wH wB wC wL wK wU wV) PI im PM PT lS lB lE lN) G t.heap ∧ gF (dC, dI) SKm G ([(0, 77), (77, 0)] : List (Nat × Nat)) s.heap t.heap ∧ el t.heap o0 (dI 15 77) = some (.int la1) ∧ ct t.heap (q 75) 7 vR1 ∧ ct t.heap (q 76) 7 vZ1) A) #[.ref o0, .int 7, .int us, .int yr, .int ca, .int ic, .int su] s 0 0 A) (F0 m 34 ls []) := by
      intro n48
      induction n48 with
      | zero =>
        intro i19 hn48 hlo49 V25 hj29 H locs hT hF hS m20 m21 m22 m23 m24 m26 m27 m28 ls hl
        obtain rfl : 7 = i19 := by omega
        refine lv_iload hx hb dX12_orders_34 (lv_at hl 0 rfl) ?_
        refine lv_iload_n hx hb dX12_orders_36 rfl (lv_at hl 2 rfl) ?_
        refine lv_icmp_ge (tgt := 60) hx hb dX12_orders_37 (by decide) (fun c50 => ?_) (fun c50 => (by exfalso; have q9 : ((7 : Nat) : Int) < 7 := ti_nle c50 (by decide) (nI_toInt (by omega)); omega))
        have t51 : 7 ≤ ((7 : Nat) : Int) := ti_le c50 (by decide) (nI_toInt (by omega))
        exact W.vret hx hb hr (fun t ht hW => ⟨⟨(su, vR, V25), rfl, (by exact (by (try dsimp only); have e9 : N = 7 := (by omega); rw [sx_0 e9, if_neg (by omega)]; exact ⟨rfl, fun _ k hk => hj29 k (by omega), hR⟩)), by (try dsimp only); rw [ht]; exact ⟨hT, hF, m28, m24, m26⟩⟩, hS.F ht⟩) hS.2.2 dX12_orders_60
      | succ n48 ih48 =>
        intro i19 hn48 hlo49 V25 hj29 H locs hT hF hS m20 m21 m22 m23 m24 m26 m27 m28 ls hl
        have hlt51 : i19 < 7 := by omega
        refine lv_iload hx hb dX12_orders_34 (lv_at hl 0 rfl) ?_
        refine lv_iload_n hx hb dX12_orders_36 rfl (lv_at hl 2 rfl) ?_
        refine lv_icmp_ge (tgt := 60) hx hb dX12_orders_37 (by decide) (fun c52 => (by exfalso; have q9 : 7 ≤ ((i19 : Nat) : Int) := ti_le c52 (by decide) (nI_toInt (by omega)); omega)) (fun c52 => ?_)
        have t53 : ((i19 : Nat) : Int) < 7 := ti_nle c52 (by decide) (nI_toInt (by omega))
        refine lv_aload_n hx hb dX12_orders_40 rfl (lv_at hl 1 rfl) ?_
        refine tw_get hx hb hts bF_X12 hown hK hT hr_o0 shm_0 rfl 76 (by decide) (ht_at hts 2 rfl) (fun _ h9 => h9) dX12_orders_41 (fun v9 m54 h9 => ?_)
        obtain ⟨rfl, hg55⟩ := h9 _ rfl
        refine lv_iload hx hb dX12_orders_44 (lv_at hl 0 rfl) ?_
        refine lv_aload_n hx hb dX12_orders_46 rfl (lv_at hl 1 rfl) ?_
        refine tw_get hx hb hts bF_X12 hown hK hT hr_o0 shm_0 rfl 75 (by decide) (ht_at hts 3 rfl) (fun _ h9 => h9) dX12_orders_47 (fun v9 m56 h9 => ?_)
        obtain ⟨rfl, hg57⟩ := h9 _ rfl
        refine lv_iload hx hb dX12_orders_50 (lv_at hl 0 rfl) ?_
        refine tw_iald (i := (nI i19)) hx hb hK hT hg5 shm_76 rfl (vp_in_nI (by omega) (by decide)) dX12_orders_52 (fun v9 m58 h9 => ?_)
        obtain ⟨x59, rfl, gx59, kx59⟩ := h9
        have cx59 := m24.at m58 (by have q9 := tn_of (show (nI i19).toInt = ((i19 : Nat) : Int) from (nI_toInt (by omega))) (by omega); omega)
        refine tw_iast (i := (nI i19)) (x := x59) hx hb hK hT hG hS hg6 shm_77 rfl (vp_in_nI (by omega) (by decide)) (gi_all _) dX12_orders_53 (fun H locs hT oq m60 oi hS => ?_)
        have hF := hF.ast hg6 skm_77 oq (by decide)
        have m61 := m20.kept (oq _ (gne hg1 hg6 (by decide)))
        have m62 := m21.kept (oq _ (gne hg2 hg6 (by decide)))
        have m63 := m22.kept (oq _ (gne hg3 hg6 (by decide)))
        have m64 := m23.kept (oq _ (gne hg4 hg6 (by decide)))
        have m65 := m24.kept (oq _ (gne hg5 hg6 (by decide)))
        have m66 := m26.put m60 oi
        have m67 := (el_kept (oq _ (gne hr_o0 hg6 (by decide)))).trans m27
        have m68 := (el_kept (oq _ (gne hr_o0 hg6 (by decide)))).trans m28
        have m69 := (el_kept (oq _ (gne hg5 hg6 (by decide)))).trans m58
        refine lv_iinc (v := nI (i19 + 1)) (lv' := [(7, .int (nI (i19 + 1))), (0, .ref o0), (1, .int 7), (2, .int us), (3, .int yr), (4, .int ca), (5, .int ic), (6, .int su)]) hx hb dX12_orders_54 hl (k := 0) rfl (nI_add i19 1) (by decide) rfl (fun ls hl => ?_)
        refine lv_goto (tgt := 34) hx hb dX12_orders_57 (by decide) ?_
        exact ih48 (i19 + 1) (by omega) (by omega) (cu V25 (nI i19).toNatClampNeg x59) (cp_s (V := vR) (K := 7) (i := i19) (tn_nI (by omega)) cx59 hR (by omega) hj29) _ _ hT hF hS m61 m62 m63 m64 m65 m66 m67 m68 ls (lv_sub hl [0, 1, 2, 3, 4, 5, 6, 7] rfl)
    exact key48 (7 - 0) 0 (by omega) (Nat.le_refl _) vZ (fun k h => absurd h (Nat.not_lt_zero k)) _ _ hT hF hS m13 m14 m15 m16 m17 m18 m12 m11 ls (lv_sub hl [0, 1, 2, 3, 4, 5, 6, 7] rfl)
  · have t70 : 0 ≤ la.toInt := ti_nlt c9 rfl (by decide)
    refine lv_iload hx hb dX12_orders_15 (lv_at hl 6 rfl) ?_
    refine lv_aload_n hx hb dX12_orders_17 rfl (lv_at hl 0 rfl) ?_
    refine tw_getM (v := .int la) hx hb hts bF_X12 hown hK hT hr_o0 shm_0 rfl 77 (by decide) (ht_at hts 1 rfl) (fun _ h9 => h9) hm_la dX12_orders_18 ?_
    refine lv_icmp_lt (tgt := 25) hx hb dX12_orders_21 (by decide) (fun c71 => ?_) (fun c71 => ?_)
    · have t72 : su.toInt < la.toInt := ti_lt c71 rfl rfl
      refine lv_aload_n hx hb dX12_orders_25 rfl (lv_at hl 0 rfl) ?_
      refine lv_iload hx hb dX12_orders_26 (lv_at hl 6 rfl) ?_
      refine tw_put (v := .int su) (ty := .int) hx hb hts bF_X12 tyX12 tyX12_ok nmX12 hown hK hT hG hS hr_o0 shm_0 rfl 77 (by decide) (ht_at hts 1 rfl) (fun _ h9 => h9) rfl (by decide +kernel) rfl rfl (gl_at rfl (gi_all _)) dX12_orders_28 (fun H locs hT oq m73 oj hS => ?_)
      have hF := hF.put hr_o0 skm_0 oq oj (by decide)
      have m74 := (oj 74 (by decide) (by decide)).trans hm_jb
      have m75 := hc_aC.kept (oq _ (gne hg1 hr_o0 (by decide)))
      have m76 := hc_aY.kept (oq _ (gne hg2 hr_o0 (by decide)))
      have m77 := hc_aB.kept (oq _ (gne hg3 hr_o0 (by decide)))
      have m78 := hc_aA.kept (oq _ (gne hg4 hr_o0 (by decide)))
      have m79 := hc_vR.kept (oq _ (gne hg5 hr_o0 (by decide)))
      have m80 := hc_vZ.kept (oq _ (gne hg6 hr_o0 (by decide)))
      refine lv_iconst (v := 0) hx hb dX12_orders_31 (by decide) ?_
      refine lv_istore (lv' := [(7, .int 0), (0, .ref o0), (1, .int 7), (2, .int us), (3, .int yr), (4, .int ca), (5, .int ic), (6, .int su)]) hx hb dX12_orders_32 hl (by decide) rfl (fun ls hl => ?_)
      have key110 : ∀ (n110 i81 : Nat), i81 + n110 = 7 → 0 ≤ i81 → ∀ (V87 : Nat → Int32), ((∀ k : Nat, k < i81 → (V87 k).toInt = R k)) → ∀ (H : Heap) (locs : List Loc), gH (dC, dI) kA (SHm q (wP wZ wN wH wB wC wL wK wU wV) PI im PM PT lS lB lE lN) G H → gF (dC, dI) SKm G ([(0, 77), (77, 0)] : List (Nat × Nat)) s.heap H → va_S A s.heap H locs → ct H (q 70) 7 aC → ct H (q 71) 7 aY → ct H (q 72) 7 aB → ct H (q 73) 7 aA → ct H (q 75) 7 vR → ct H (q 76) 7 V87 → el H o0 (dI 15 74) = some (.int jb) → el H o0 (dI 15 77) = some (.int su) → ∀ ls : Array Slot, lv_has ls 10 [(7, .int (nI i81)), (0, .ref o0), (1, .int 7), (2, .int us), (3, .int yr), (4, .int ca), (5, .int ic), (6, .int su)] → W p l e (headSpec w_s_ordersC7 ({ frames := 0, cells := 0, slots := 0, locals := 0 })).room s m #[.ref o0, .int 7, .int us, .int yr, .int ca, .int ic, .int su] below meth c H locs 0 0 (MQ below (va_Qv (fun (u : Int32 × (Nat → Int32) × (Nat → Int32)) => match u with | (la1, vR1, vZ1) => (la1.toInt = (sx N 7 aC aY aB aA (bt us) yr.toInt ca.toInt ic.toInt su.toInt R a0).1 ∧ (0 ≤ (sx N 7 aC aY aB aA (bt us) yr.toInt ca.toInt ic.toInt su.toInt R a0).1 → ∀ k : Nat, k < N → (vZ1 k).toInt = (sx N 7 aC aY aB aA (bt us) yr.toInt ca.toInt ic.toInt su.toInt R a0).2 k) ∧ ∀ k : Nat, k < 7 → (vR1 k).toInt = R k)) (fun (u : Int32 × (Nat → Int32) × (Nat → Int32)) (t : State) => match u with | (la1, vR1, vZ1) => gH (dC, dI) kA (SHm q (wP wZ wN wH wB wC wL wK wU wV) PI im PM PT lS lB lE lN) G t.heap ∧ gF (dC, dI) SKm G ([(0, 77), (77, 0)] : List (Nat × Nat)) s.heap t.heap ∧ el t.heap o0 (dI 15 77) = some (.int la1) ∧ ct t.heap (q 75) 7 vR1 ∧ ct t.heap (q 76) 7 vZ1) A) #[.ref o0, .int 7, .int us, .int yr, .int ca, .int ic, .int su] s 0 0 A) (F0 m 34 ls []) := by
        intro n110
        induction n110 with
        | zero =>
          intro i81 hn110 hlo111 V87 hj91 H locs hT hF hS m82 m83 m84 m85 m86 m88 m89 m90 ls hl
          obtain rfl : 7 = i81 := by omega
          refine lv_iload hx hb dX12_orders_34 (lv_at hl 0 rfl) ?_
          refine lv_iload_n hx hb dX12_orders_36 rfl (lv_at hl 2 rfl) ?_
          refine lv_icmp_ge (tgt := 60) hx hb dX12_orders_37 (by decide) (fun c112 => ?_) (fun c112 => (by exfalso; have q9 : ((7 : Nat) : Int) < 7 := ti_nle c112 (by decide) (nI_toInt (by omega)); omega))
          have t113 : 7 ≤ ((7 : Nat) : Int) := ti_le c112 (by decide) (nI_toInt (by omega))
          exact W.vret hx hb hr (fun t ht hW => ⟨⟨(su, vR, V87), rfl, (by exact (by (try dsimp only); have e9 : N = 7 := (by omega); rw [sx_0 e9, if_neg (by omega)]; exact ⟨rfl, fun _ k hk => hj91 k (by omega), hR⟩)), by (try dsimp only); rw [ht]; exact ⟨hT, hF, m90, m86, m88⟩⟩, hS.F ht⟩) hS.2.2 dX12_orders_60
        | succ n110 ih110 =>
          intro i81 hn110 hlo111 V87 hj91 H locs hT hF hS m82 m83 m84 m85 m86 m88 m89 m90 ls hl
          have hlt113 : i81 < 7 := by omega
          refine lv_iload hx hb dX12_orders_34 (lv_at hl 0 rfl) ?_
          refine lv_iload_n hx hb dX12_orders_36 rfl (lv_at hl 2 rfl) ?_
          refine lv_icmp_ge (tgt := 60) hx hb dX12_orders_37 (by decide) (fun c114 => (by exfalso; have q9 : 7 ≤ ((i81 : Nat) : Int) := ti_le c114 (by decide) (nI_toInt (by omega)); omega)) (fun c114 => ?_)
          have t115 : ((i81 : Nat) : Int) < 7 := ti_nle c114 (by decide) (nI_toInt (by omega))
          refine lv_aload_n hx hb dX12_orders_40 rfl (lv_at hl 1 rfl) ?_
          refine tw_get hx hb hts bF_X12 hown hK hT hr_o0 shm_0 rfl 76 (by decide) (ht_at hts 2 rfl) (fun _ h9 => h9) dX12_orders_41 (fun v9 m116 h9 => ?_)
          obtain ⟨rfl, hg117⟩ := h9 _ rfl
          refine lv_iload hx hb dX12_orders_44 (lv_at hl 0 rfl) ?_
          refine lv_aload_n hx hb dX12_orders_46 rfl (lv_at hl 1 rfl) ?_
          refine tw_get hx hb hts bF_X12 hown hK hT hr_o0 shm_0 rfl 75 (by decide) (ht_at hts 3 rfl) (fun _ h9 => h9) dX12_orders_47 (fun v9 m118 h9 => ?_)
          obtain ⟨rfl, hg119⟩ := h9 _ rfl
          refine lv_iload hx hb dX12_orders_50 (lv_at hl 0 rfl) ?_
          refine tw_iald (i := (nI i81)) hx hb hK hT hg5 shm_76 rfl (vp_in_nI (by omega) (by decide)) dX12_orders_52 (fun v9 m120 h9 => ?_)
          obtain ⟨x121, rfl, gx121, kx121⟩ := h9
          have cx121 := m86.at m120 (by have q9 := tn_of (show (nI i81).toInt = ((i81 : Nat) : Int) from (nI_toInt (by omega))) (by omega); omega)
          refine tw_iast (i := (nI i81)) (x := x121) hx hb hK hT hG hS hg6 shm_77 rfl (vp_in_nI (by omega) (by decide)) (gi_all _) dX12_orders_53 (fun H locs hT oq m122 oi hS => ?_)
          have hF := hF.ast hg6 skm_77 oq (by decide)
          have m123 := m82.kept (oq _ (gne hg1 hg6 (by decide)))
          have m124 := m83.kept (oq _ (gne hg2 hg6 (by decide)))
          have m125 := m84.kept (oq _ (gne hg3 hg6 (by decide)))
          have m126 := m85.kept (oq _ (gne hg4 hg6 (by decide)))
          have m127 := m86.kept (oq _ (gne hg5 hg6 (by decide)))
          have m128 := m88.put m122 oi
          have m129 := (el_kept (oq _ (gne hr_o0 hg6 (by decide)))).trans m89
          have m130 := (el_kept (oq _ (gne hr_o0 hg6 (by decide)))).trans m90
          have m131 := (el_kept (oq _ (gne hg5 hg6 (by decide)))).trans m120
          refine lv_iinc (v := nI (i81 + 1)) (lv' := [(7, .int (nI (i81 + 1))), (0, .ref o0), (1, .int 7), (2, .int us), (3, .int yr), (4, .int ca), (5, .int ic), (6, .int su)]) hx hb dX12_orders_54 hl (k := 0) rfl (nI_add i81 1) (by decide) rfl (fun ls hl => ?_)
          refine lv_goto (tgt := 34) hx hb dX12_orders_57 (by decide) ?_
          exact ih110 (i81 + 1) (by omega) (by omega) (cu V87 (nI i81).toNatClampNeg x121) (cp_s (V := vR) (K := 7) (i := i81) (tn_nI (by omega)) cx121 hR (by omega) hj91) _ _ hT hF hS m123 m124 m125 m126 m127 m128 m129 m130 ls (lv_sub hl [0, 1, 2, 3, 4, 5, 6, 7] rfl)
      exact key110 (7 - 0) 0 (by omega) (Nat.le_refl _) vZ (fun k h => absurd h (Nat.not_lt_zero k)) _ _ hT hF hS m75 m76 m77 m78 m79 m80 m74 m73 ls (lv_sub hl [0, 1, 2, 3, 4, 5, 6, 7] rfl)
    · have t132 : la.toInt ≤ su.toInt := ti_nlt c71 rfl rfl
      exact W.vret hx hb hr (fun t ht hW => ⟨⟨(la, vR, vZ), rfl, (by exact (by (try dsimp only); have e9 : N = 7 := (by omega); rw [sx_0 e9, if_pos ⟨by omega, by omega⟩]; exact ⟨by omega, hZ0, hR⟩)), by (try dsimp only); rw [ht]; exact ⟨hT, hF, hm_la, hc_vR, hc_vZ⟩⟩, hS.F ht⟩) hS.2.2 dX12_orders_24
def w_s_ordersC6 : List Cond := .code yX12_orders cX12_orders 10 none :: (HAppend.hAppend (α := List Cond) (β := List Cond) (γ := List Cond) [.fieldLink RX12 553 "SeaLandModel" "jobs" "I", .fieldLink RX12 176 "SeaLandModel" "jCost" "[I", .fieldLink RX12 179 "SeaLandModel" "jYears" "[I", .fieldLink RX12 188 "SeaLandModel" "row" "[I", .fieldLink RX12 182 "SeaLandModel" "jBrings" "[I", .fieldLink RX12 185 "SeaLandModel" "jAcres" "[I", .code yX12_orders cX12_orders 10 none, .fieldLink RX12 556 "SeaLandModel" "lateness" "I", .fieldLink RX12 191 "SeaLandModel" "bestRow" "[I", .methodLink RX12 559 yX12_orders, .instanceMethod yX12_orders, .selects RX12 yX12_orders yX12_orders, .initialized RX12] bs)
set_option maxHeartbeats 4000000 in
set_option maxRecDepth 100000 in
theorem s_ordersC6 (l : Launch) (dC : Nat → ClassId) (dI : Nat → Nat → Nat) (kA : Nat → ClassId) (adK adV : Nat → Nat) (G : gT) (H0 : Heap) (q : Nat → Nat) (wZ wN : Nat → Int) (wH wB wC : Int) (wL wK : Nat → Prop) (wU wV : Nat → Nat) (PI : Nat → Int → Prop) (im : Int) (PM PT : Nat → Int → Prop) (lS lB lE : Nat → Nat → Int → Prop) (lN : Nat → Int) (o0 : Nat) (us : Int32) (yr : Int32) (ca : Int32) (ic : Int32) (su : Int32) (jb : Int32) (la : Int32) (aC : Nat → Int32) (aY : Nat → Int32) (aB : Nat → Int32) (aA : Nat → Int32) (vR : Nat → Int32) (vZ : Nat → Int32) (N : Nat) (R : Nat → Int) (a0 : oA) (hT : gH (dC, dI) kA (SHm q (wP wZ wN wH wB wC wL wK wU wV) PI im PM PT lS lB lE lN) G H0) (hr_o0 : G o0 = some 0) (hm_jb : el H0 o0 (dI 15 74) = some (.int jb)) (hm_la : el H0 o0 (dI 15 77) = some (.int la)) (hq0 : 0 ≤ yr.toInt ∧ yr.toInt ≤ 200) (hq1 : 0 ≤ ca.toInt ∧ ca.toInt ≤ 31099999) (hq2 : 0 ≤ ic.toInt ∧ ic.toInt ≤ 600000) (hq3 : 0 ≤ su.toInt ∧ su.toInt ≤ 1200000) (hq4 : 6 ≤ jb.toInt ∧ jb.toInt ≤ 7) (hN : jb.toInt = ((N : Nat) : Int)) (hrg : joR jb.toInt aC aY aB aA) (hla : la.toInt = a0.1) (hZ0 : 0 ≤ a0.1 → ∀ k : Nat, k < N → (vZ k).toInt = a0.2 k) (hR : ∀ k : Nat, k < 6 → (vR k).toInt = R k) (hc_aC : ct H0 (q 70) 7 aC) (hc_aY : ct H0 (q 71) 7 aY) (hc_aB : ct H0 (q 72) 7 aB) (hc_aA : ct H0 (q 73) 7 aA) (hc_vR : ct H0 (q 75) 7 vR) (hc_vZ : ct H0 (q 76) 7 vZ) (hgz : ∀ i, 0 ≤ wZ i) (hgn : ∀ i, 6500000 ≤ wN i ∧ wN i ≤ 20200000) (hgh : 0 ≤ wH ∧ wH ≤ 40000) (hgb : 0 ≤ wB ∧ wB ≤ 3850000) (hgc : 0 ≤ wC ∧ wC ≤ 30) (hgi : 0 ≤ im ∧ im ≤ 1) (hgu : ∀ a t, G a = some (t + 1) → a = q t) : Met l yX12_orders w_s_ordersC6 ({ frames := 1, cells := 0, slots := 0, locals := 29 }) (va_Pc [.ref o0, .int 6, .int us, .int yr, .int ca, .int ic, .int su] (fun U => U.heap = H0 ∧ va_K (dC, dI) vwCl (tyl kA) U ∧ EVS adK adV (gA G H0.size) U U.heap)) (va_Qv (fun (u : Int32 × (Nat → Int32) × (Nat → Int32)) => match u with | (la1, vR1, vZ1) => (la1.toInt = (sx N 6 aC aY aB aA (bt us) yr.toInt ca.toInt ic.toInt su.toInt R a0).1 ∧ (0 ≤ (sx N 6 aC aY aB aA (bt us) yr.toInt ca.toInt ic.toInt su.toInt R a0).1 → ∀ k : Nat, k < N → (vZ1 k).toInt = (sx N 6 aC aY aB aA (bt us) yr.toInt ca.toInt ic.toInt su.toInt R a0).2 k) ∧ ∀ k : Nat, k < 6 → (vR1 k).toInt = R k)) (fun (u : Int32 × (Nat → Int32) × (Nat → Int32)) (t : State) => match u with | (la1, vR1, vZ1) => gH (dC, dI) kA (SHm q (wP wZ wN wH wB wC wL wK wU wV) PI im PM PT lS lB lE lN) G t.heap ∧ gF (dC, dI) SKm G ([(0, 77), (76, 0), (77, 0)] : List (Nat × Nat)) H0 t.heap ∧ el t.heap o0 (dI 15 77) = some (.int la1) ∧ ct t.heap (q 75) 7 vR1 ∧ ct t.heap (q 76) 7 vZ1) (gA G H0.size)) 0 0 (gA G H0.size) := by
  refine Met.ofW (cc := cX12_orders) (maxL := 10) (ret := none) (by decide) rfl ?_
  intro p e s m args below meth c s₁ B hml hv
  obtain ⟨rfl, hH0, hK, hE⟩ := hv
  have hx := B.exec
  have hb := B.bytes
  have hr := B.returns
  have hts := atoms_spec (ws := w_s_ordersC6) B.pre
  have hown : s.vm.findClass RX12 = some m.cls := findClass_of_methodNamed B.named
  have hlocks := B.notSynchronized
  subst hH0
  generalize hAe : gA G s.heap.size = A at hE ⊢
  have hA : ∀ q : Nat, s.heap.size ≤ q → A q := fun q h => by rw [← hAe]; exact Or.inr h
  have hG := gA_of hAe
  have hS : va_S A s.heap s.heap [] := va_S.rf
  have hF : gF (dC, dI) SKm G ([(0, 77), (76, 0), (77, 0)] : List (Nat × Nat)) s.heap s.heap := gF.rf
  have hl := lv_entry ([.ref o0, .int 6, .int us, .int yr, .int ca, .int ic, .int su]) (n := 10) (Nat.le_of_ble_eq_true rfl)
  rw [lg_entry_eq]
  generalize (lg_sl ([.ref o0, .int 6, .int us, .int yr, .int ca, .int ic, .int su]) ++ List.replicate (10 - (lg_sl ([.ref o0, .int 6, .int us, .int yr, .int ca, .int ic, .int su])).length) Slot.unset).toArray = ls at hl ⊢
  have hl : lv_has ls 10 [(0, .ref o0), (1, .int 6), (2, .int us), (3, .int yr), (4, .int ca), (5, .int ic), (6, .int su)] := hl
  have hg1 : G (q 70) = some 71 := gx_of hT hr_o0 shm_0 (k := 70) (by decide) rfl
  have hg2 : G (q 71) = some 72 := gx_of hT hr_o0 shm_0 (k := 71) (by decide) rfl
  have hg3 : G (q 72) = some 73 := gx_of hT hr_o0 shm_0 (k := 72) (by decide) rfl
  have hg4 : G (q 73) = some 74 := gx_of hT hr_o0 shm_0 (k := 73) (by decide) rfl
  have hg5 : G (q 75) = some 76 := gx_of hT hr_o0 shm_0 (k := 75) (by decide) rfl
  have hg6 : G (q 76) = some 77 := gx_of hT hr_o0 shm_0 (k := 76) (by decide) rfl
  refine lv_iload_n hx hb dX12_orders_0 rfl (lv_at hl 1 rfl) ?_
  refine lv_aload_n hx hb dX12_orders_1 rfl (lv_at hl 0 rfl) ?_
  refine tw_getM (v := .int jb) hx hb hts bF_X12 hown hK hT hr_o0 shm_0 rfl 74 (by decide) (ht_at hts 0 rfl) (fun _ h9 => h9) hm_jb dX12_orders_2 ?_
  refine lv_icmp_ne (tgt := 61) hx hb dX12_orders_5 (by decide) (fun c7 => ?_) (fun c7 => ?_)
  · have t8 : 6 ≠ jb.toInt := ti_ne c7 (by decide) rfl
    refine lv_iconst (v := 0) hx hb dX12_orders_61 (by decide) ?_
    refine lv_istore (lv' := [(7, .int 0), (0, .ref o0), (1, .int 6), (2, .int us), (3, .int yr), (4, .int ca), (5, .int ic), (6, .int su)]) hx hb dX12_orders_62 hl (by decide) rfl (fun ls hl => ?_)
    have key398 : ∀ (n398 i9 : Nat), i9 + n398 = 7 → 0 ≤ i9 → ∀ (V14 : Nat → Int32), ∀ (V16 : Nat → Int32), ∀ (z19 : Int32), ((z19.toInt = (slO N 6 aC aY aB aA (bt us) yr.toInt ca.toInt ic.toInt su.toInt R a0 i9).1) ∧ (0 ≤ (slO N 6 aC aY aB aA (bt us) yr.toInt ca.toInt ic.toInt su.toInt R a0 i9).1 → ∀ k : Nat, k < N → (V16 k).toInt = (slO N 6 aC aY aB aA (bt us) yr.toInt ca.toInt ic.toInt su.toInt R a0 i9).2 k) ∧ (∀ k : Nat, k < 6 → (V14 k).toInt = R k) ∧ (((i9 : Nat) : Int) ≤ jb.toInt)) → ∀ (H : Heap) (locs : List Loc), gH (dC, dI) kA (SHm q (wP wZ wN wH wB wC wL wK wU wV) PI im PM PT lS lB lE lN) G H → gF (dC, dI) SKm G ([(0, 77), (76, 0), (77, 0)] : List (Nat × Nat)) s.heap H → va_S A s.heap H locs → ct H (q 70) 7 aC → ct H (q 71) 7 aY → ct H (q 72) 7 aB → ct H (q 73) 7 aA → ct H (q 75) 7 V14 → ct H (q 76) 7 V16 → el H o0 (dI 15 74) = some (.int jb) → el H o0 (dI 15 77) = some (.int z19) → ∀ ls : Array Slot, lv_has ls 10 [(7, .int (nI i9)), (0, .ref o0), (1, .int 6), (2, .int us), (3, .int yr), (4, .int ca), (5, .int ic), (6, .int su)] → W p l e (headSpec w_s_ordersC6 ({ frames := 1, cells := 0, slots := 0, locals := 29 })).room s m #[.ref o0, .int 6, .int us, .int yr, .int ca, .int ic, .int su] below meth c H locs 0 0 (MQ below (va_Qv (fun (u : Int32 × (Nat → Int32) × (Nat → Int32)) => match u with | (la1, vR1, vZ1) => (la1.toInt = (sx N 6 aC aY aB aA (bt us) yr.toInt ca.toInt ic.toInt su.toInt R a0).1 ∧ (0 ≤ (sx N 6 aC aY aB aA (bt us) yr.toInt ca.toInt ic.toInt su.toInt R a0).1 → ∀ k : Nat, k < N → (vZ1 k).toInt = (sx N 6 aC aY aB aA (bt us) yr.toInt ca.toInt ic.toInt su.toInt R a0).2 k) ∧ ∀ k : Nat, k < 6 → (vR1 k).toInt = R k)) (fun (u : Int32 × (Nat → Int32) × (Nat → Int32)) (t : State) => match u with | (la1, vR1, vZ1) => gH (dC, dI) kA (SHm q (wP wZ wN wH wB wC wL wK wU wV) PI im PM PT lS lB lE lN) G t.heap ∧ gF (dC, dI) SKm G ([(0, 77), (76, 0), (77, 0)] : List (Nat × Nat)) s.heap t.heap ∧ el t.heap o0 (dI 15 77) = some (.int la1) ∧ ct t.heap (q 75) 7 vR1 ∧ ct t.heap (q 76) 7 vZ1) A) #[.ref o0, .int 6, .int us, .int yr, .int ca, .int ic, .int su] s 0 0 A) (F0 m 64 ls []) := by
      intro n398
      induction n398 with
      | zero =>
        intro i9 hn398 hlo399 V14 V16 z19 ⟨hj21, hj22, hj23, hj24⟩ H locs hT hF hS m10 m11 m12 m13 m15 m17 m18 m20 ls hl
        obtain rfl : 7 = i9 := by omega
        refine lv_iload hx hb dX12_orders_64 (lv_at hl 0 rfl) ?_
        refine lv_aload_n hx hb dX12_orders_66 rfl (lv_at hl 1 rfl) ?_
        refine tw_getM (v := .int jb) hx hb hts bF_X12 hown hK hT hr_o0 shm_0 rfl 74 (by decide) (ht_at hts 0 rfl) (fun _ h9 => h9) m18 dX12_orders_67 ?_
        refine lv_icmp_ge (tgt := 231) hx hb dX12_orders_70 (by decide) (fun c400 => ?_) (fun c400 => (by exfalso; have q9 : ((7 : Nat) : Int) < jb.toInt := ti_nle c400 rfl (nI_toInt (by omega)); omega))
        have t401 : jb.toInt ≤ ((7 : Nat) : Int) := ti_le c400 rfl (nI_toInt (by omega))
        exact W.vret hx hb hr (fun t ht hW => ⟨⟨(z19, V14, V16), rfl, (by exact (by (try dsimp only); have e9 : N = 7 := (by omega); rw [sx_s (by omega)]; subst e9; exact ⟨hj21, hj22, hj23⟩)), by (try dsimp only); rw [ht]; exact ⟨hT, hF, m20, m15, m17⟩⟩, hS.F ht⟩) hS.2.2 dX12_orders_231
      | succ n398 ih398 =>
        intro i9 hn398 hlo399 V14 V16 z19 ⟨hj21, hj22, hj23, hj24⟩ H locs hT hF hS m10 m11 m12 m13 m15 m17 m18 m20 ls hl
        have hlt401 : i9 < 7 := by omega
        refine lv_iload hx hb dX12_orders_64 (lv_at hl 0 rfl) ?_
        refine lv_aload_n hx hb dX12_orders_66 rfl (lv_at hl 1 rfl) ?_
        refine tw_getM (v := .int jb) hx hb hts bF_X12 hown hK hT hr_o0 shm_0 rfl 74 (by decide) (ht_at hts 0 rfl) (fun _ h9 => h9) m18 dX12_orders_67 ?_
        refine lv_icmp_ge (tgt := 231) hx hb dX12_orders_70 (by decide) (fun c402 => (by exfalso; have q9 : jb.toInt ≤ ((i9 : Nat) : Int) := ti_le c402 rfl (nI_toInt (by omega)); omega)) (fun c402 => ?_)
        have t403 : ((i9 : Nat) : Int) < jb.toInt := ti_nle c402 rfl (nI_toInt (by omega))
        refine lv_iload_n hx hb dX12_orders_73 rfl (lv_at hl 3 rfl) ?_
        refine lv_iload hx hb dX12_orders_74 (lv_at hl 0 rfl) ?_
        refine lv_ishr hx hb dX12_orders_76 ?_
        refine lv_topi (fun x404 ex404 => ?_)
        refine lv_iconst (v := 1) hx hb dX12_orders_77 (by decide) ?_
        refine lv_iand hx hb dX12_orders_78 ?_
        refine lv_topi (fun x405 ex405 => ?_)
        refine lv_iconst (v := 1) hx hb dX12_orders_79 (by decide) ?_
        have hbt := bt_t (us := us) (j := i9) (by omega) ex404 ex405
        refine lv_icmp_ne (tgt := 86) hx hb dX12_orders_80 (by decide) (fun c406 => ?_) (fun c406 => ?_)
        · have t407 : x405.toInt ≠ 1 := ti_ne c406 rfl (by decide)
          refine lv_iload_n hx hb dX12_orders_86 rfl (lv_at hl 4 rfl) ?_
          refine lv_istore (lv' := [(8, .int yr), (7, .int (nI i9)), (0, .ref o0), (1, .int 6), (2, .int us), (3, .int yr), (4, .int ca), (5, .int ic), (6, .int su)]) hx hb dX12_orders_87 hl (by decide) rfl (fun ls hl => ?_)
          refine lv_iload hx hb dX12_orders_89 (lv_at hl 6 rfl) ?_
          refine lv_istore (lv' := [(9, .int ca), (8, .int yr), (7, .int (nI i9)), (0, .ref o0), (1, .int 6), (2, .int us), (3, .int yr), (4, .int ca), (5, .int ic), (6, .int su)]) hx hb dX12_orders_91 hl (by decide) rfl (fun ls hl => ?_)
          have key652 : ∀ (n652 : Nat), ∀ (z518 : Int32), ∀ (z520 : Int32), (400 - z520.toInt < ((n652 : Nat) : Int)) → ((0 ≤ z518.toInt ∧ z518.toInt ≤ 31099999) ∧ (0 ≤ z520.toInt ∧ z520.toInt ≤ 201) ∧ (wtO yr.toInt ca.toInt ic.toInt (aC i9).toInt z520.toInt z518.toInt)) → ∀ (H : Heap) (locs : List Loc), gH (dC, dI) kA (SHm q (wP wZ wN wH wB wC wL wK wU wV) PI im PM PT lS lB lE lN) G H → gF (dC, dI) SKm G ([(0, 77), (76, 0), (77, 0)] : List (Nat × Nat)) s.heap H → va_S A s.heap H locs → ct H (q 70) 7 aC → ct H (q 71) 7 aY → ct H (q 72) 7 aB → ct H (q 73) 7 aA → ct H (q 75) 7 V14 → ct H (q 76) 7 V16 → el H o0 (dI 15 74) = some (.int jb) → el H o0 (dI 15 77) = some (.int z19) → ∀ ls : Array Slot, lv_has ls 10 [(9, .int z518), (8, .int z520), (7, .int (nI i9)), (0, .ref o0), (1, .int 6), (2, .int us), (3, .int yr), (4, .int ca), (5, .int ic), (6, .int su)] → W p l e (headSpec w_s_ordersC6 ({ frames := 1, cells := 0, slots := 0, locals := 29 })).room s m #[.ref o0, .int 6, .int us, .int yr, .int ca, .int ic, .int su] below meth c H locs 0 0 (MQ below (va_Qv (fun (u : Int32 × (Nat → Int32) × (Nat → Int32)) => match u with | (la1, vR1, vZ1) => (la1.toInt = (sx N 6 aC aY aB aA (bt us) yr.toInt ca.toInt ic.toInt su.toInt R a0).1 ∧ (0 ≤ (sx N 6 aC aY aB aA (bt us) yr.toInt ca.toInt ic.toInt su.toInt R a0).1 → ∀ k : Nat, k < N → (vZ1 k).toInt = (sx N 6 aC aY aB aA (bt us) yr.toInt ca.toInt ic.toInt su.toInt R a0).2 k) ∧ ∀ k : Nat, k < 6 → (vR1 k).toInt = R k)) (fun (u : Int32 × (Nat → Int32) × (Nat → Int32)) (t : State) => match u with | (la1, vR1, vZ1) => gH (dC, dI) kA (SHm q (wP wZ wN wH wB wC wL wK wU wV) PI im PM PT lS lB lE lN) G t.heap ∧ gF (dC, dI) SKm G ([(0, 77), (76, 0), (77, 0)] : List (Nat × Nat)) s.heap t.heap ∧ el t.heap o0 (dI 15 77) = some (.int la1) ∧ ct t.heap (q 75) 7 vR1 ∧ ct t.heap (q 76) 7 vZ1) A) #[.ref o0, .int 6, .int us, .int yr, .int ca, .int ic, .int su] s 0 0 A) (F0 m 93 ls []) := by
            intro n652
            induction n652 with
            | zero =>
              intro z518 z520 hv652 ⟨h519, h521, hj530⟩ H locs hT hF hS m522 m523 m524 m525 m526 m527 m528 m529 ls hl
              exfalso; have q9 := (show z520.toInt = z520.toInt from rfl); omega
            | succ n652 ih652 =>
              intro z518 z520 hv652 ⟨h519, h521, hj530⟩ H locs hT hF hS m522 m523 m524 m525 m526 m527 m528 m529 ls hl
              refine lv_iload hx hb dX12_orders_93 (lv_at hl 0 rfl) ?_
              refine lv_aload_n hx hb dX12_orders_95 rfl (lv_at hl 3 rfl) ?_
              refine tw_get hx hb hts bF_X12 hown hK hT hr_o0 shm_0 rfl 70 (by decide) (ht_at hts 1 rfl) (fun _ h9 => h9) dX12_orders_96 (fun v9 m653 h9 => ?_)
              obtain ⟨rfl, hg654⟩ := h9 _ rfl
              refine lv_iload hx hb dX12_orders_99 (lv_at hl 2 rfl) ?_
              refine tw_iald (i := (nI i9)) hx hb hK hT hg1 shm_71 rfl (vp_in_nI (by omega) (by decide)) dX12_orders_101 (fun v9 m655 h9 => ?_)
              obtain ⟨x656, rfl, gx656, kx656⟩ := h9
              have cx656 := m522.at m655 (by have q9 := tn_of (show (nI i9).toInt = ((i9 : Nat) : Int) from (nI_toInt (by omega))) (by omega); omega)
              have t657 : x656.toInt = (aC i9).toInt := congrArg Int32.toInt (cx656.trans (by rw [tn_nI (by omega)]))
              have t658 : 0 ≤ (aC i9).toInt ∧ (aC i9).toInt ≤ 1000000 := (hrg i9 (by omega)).1
              refine lv_icmp_ge (tgt := 126) hx hb dX12_orders_102 (by decide) (fun c659 => ?_) (fun c659 => ?_)
              · have t660 : x656.toInt ≤ z518.toInt := ti_le c659 rfl rfl
                refine lv_iload hx hb dX12_orders_126 (lv_at hl 0 rfl) ?_
                refine lv_aload_n hx hb dX12_orders_128 rfl (lv_at hl 3 rfl) ?_
                refine tw_get hx hb hts bF_X12 hown hK hT hr_o0 shm_0 rfl 70 (by decide) (ht_at hts 1 rfl) (fun _ h9 => h9) dX12_orders_129 (fun v9 m661 h9 => ?_)
                obtain ⟨rfl, hg662⟩ := h9 _ rfl
                refine lv_iload hx hb dX12_orders_132 (lv_at hl 2 rfl) ?_
                refine tw_iald (i := (nI i9)) hx hb hK hT hg1 shm_71 rfl (vp_in_nI (by omega) (by decide)) dX12_orders_134 (fun v9 m663 h9 => ?_)
                obtain ⟨x664, rfl, gx664, kx664⟩ := h9
                have cx664 := m522.at m663 (by have q9 := tn_of (show (nI i9).toInt = ((i9 : Nat) : Int) from (nI_toInt (by omega))) (by omega); omega)
                obtain rfl : x656 = x664 := (el_same m663 m655 rfl).symm
                refine lv_isub hx hb dX12_orders_135 ?_
                refine lv_topi (fun x665 ex665 => ?_)
                have t666 : x665.toInt = z518.toInt - x656.toInt := ti_sub ex665 rfl rfl (by omega) (by omega)
                refine lv_istore (lv' := [(9, .int x665), (8, .int z520), (7, .int (nI i9)), (0, .ref o0), (1, .int 6), (2, .int us), (3, .int yr), (4, .int ca), (5, .int ic), (6, .int su)]) hx hb dX12_orders_136 hl (by decide) rfl (fun ls hl => ?_)
                refine lv_iload hx hb dX12_orders_138 (lv_at hl 1 rfl) ?_
                refine lv_aload_n hx hb dX12_orders_140 rfl (lv_at hl 3 rfl) ?_
                refine tw_get hx hb hts bF_X12 hown hK hT hr_o0 shm_0 rfl 71 (by decide) (ht_at hts 2 rfl) (fun _ h9 => h9) dX12_orders_141 (fun v9 m667 h9 => ?_)
                obtain ⟨rfl, hg668⟩ := h9 _ rfl
                refine lv_iload hx hb dX12_orders_144 (lv_at hl 2 rfl) ?_
                refine tw_iald (i := (nI i9)) hx hb hK hT hg2 shm_72 rfl (vp_in_nI (by omega) (by decide)) dX12_orders_146 (fun v9 m669 h9 => ?_)
                obtain ⟨x670, rfl, gx670, kx670⟩ := h9
                have cx670 := m523.at m669 (by have q9 := tn_of (show (nI i9).toInt = ((i9 : Nat) : Int) from (nI_toInt (by omega))) (by omega); omega)
                have t671 : x670.toInt = (aY i9).toInt := congrArg Int32.toInt (cx670.trans (by rw [tn_nI (by omega)]))
                have t672 : 1 ≤ (aY i9).toInt ∧ (aY i9).toInt ≤ 20 := (hrg i9 (by omega)).2.1
                refine lv_iadd hx hb dX12_orders_147 ?_
                refine lv_topi (fun x673 ex673 => ?_)
                have t674 : x673.toInt = z520.toInt + x670.toInt := ti_add ex673 rfl rfl (by omega) (by omega)
                refine lv_istore (lv' := [(8, .int x673), (9, .int x665), (7, .int (nI i9)), (0, .ref o0), (1, .int 6), (2, .int us), (3, .int yr), (4, .int ca), (5, .int ic), (6, .int su)]) hx hb dX12_orders_148 hl (by decide) rfl (fun ls hl => ?_)
                refine lv_iload hx hb dX12_orders_150 (lv_at hl 1 rfl) ?_
                refine lv_if_lt (tgt := 225) hx hb dX12_orders_152 (by decide) (fun c675 => ?_) (fun c675 => ?_)
                · have t676 : x665.toInt < 0 := ti_lt c675 rfl (by decide)
                  refine lv_iinc (v := nI (i9 + 1)) (lv' := [(7, .int (nI (i9 + 1))), (8, .int x673), (9, .int x665), (0, .ref o0), (1, .int 6), (2, .int us), (3, .int yr), (4, .int ca), (5, .int ic), (6, .int su)]) hx hb dX12_orders_225 hl (k := 2) rfl (nI_add i9 1) (by decide) rfl (fun ls hl => ?_)
                  refine lv_goto (tgt := 64) hx hb dX12_orders_228 (by decide) ?_
                  have bk9 : z19.toInt = (slO N 6 aC aY aB aA (bt us) yr.toInt ca.toInt ic.toInt su.toInt R a0 (i9 + 1)).1 ∧ (0 ≤ (slO N 6 aC aY aB aA (bt us) yr.toInt ca.toInt ic.toInt su.toInt R a0 (i9 + 1)).1 → ∀ k : Nat, k < N → (V16 k).toInt = (slO N 6 aC aY aB aA (bt us) yr.toInt ca.toInt ic.toInt su.toInt R a0 (i9 + 1)).2 k) ∧ ∀ k : Nat, k < 6 → (V14 k).toInt = R k := by rw [sl_n (wt_none hj530 (by omega) (by omega))]; exact ⟨hj21, hj22, hj23⟩
                  exact ih398 (i9 + 1) (by omega) (by omega) V14 V16 z19 ⟨bk9.1, bk9.2.1, bk9.2.2, (by omega)⟩ _ _ hT hF hS m522 m523 m524 m525 m526 m527 m528 m529 ls (lv_sub hl [0, 3, 4, 5, 6, 7, 8, 9] rfl)
                · have t677 : 0 ≤ x665.toInt := ti_nlt c675 rfl (by decide)
                  refine lv_iload hx hb dX12_orders_155 (lv_at hl 0 rfl) ?_
                  refine lv_sipush (v := 200) hx hb dX12_orders_157 (by decide) ?_
                  refine lv_icmp_le (tgt := 166) hx hb dX12_orders_160 (by decide) (fun c678 => ?_) (fun c678 => ?_)
                  · have t679 : x673.toInt ≤ 200 := ti_le c678 rfl (by decide)
                    refine lv_aload_n hx hb dX12_orders_166 rfl (lv_at hl 3 rfl) ?_
                    refine tw_get hx hb hts bF_X12 hown hK hT hr_o0 shm_0 rfl 75 (by decide) (ht_at hts 3 rfl) (fun _ h9 => h9) dX12_orders_167 (fun v9 m680 h9 => ?_)
                    obtain ⟨rfl, hg681⟩ := h9 _ rfl
                    refine lv_iload_n hx hb dX12_orders_170 rfl (lv_at hl 4 rfl) ?_
                    refine lv_iload hx hb dX12_orders_171 (lv_at hl 2 rfl) ?_
                    refine tw_iast (i := 6) (x := (nI i9)) hx hb hK hT hG hS hg5 shm_76 rfl (by unfold vp_in; decide) (gi_all _) dX12_orders_173 (fun H locs hT oq m682 oi hS => ?_)
                    have hF := hF.ast hg5 skm_76 oq (by decide)
                    have m683 := m522.kept (oq _ (gne hg1 hg5 (by decide)))
                    have m684 := m523.kept (oq _ (gne hg2 hg5 (by decide)))
                    have m685 := m524.kept (oq _ (gne hg3 hg5 (by decide)))
                    have m686 := m525.kept (oq _ (gne hg4 hg5 (by decide)))
                    have m687 := m526.put m682 oi
                    have m688 := m527.kept (oq _ (gne hg6 hg5 (by decide)))
                    have m689 := (el_kept (oq _ (gne hr_o0 hg5 (by decide)))).trans m528
                    have m690 := (el_kept (oq _ (gne hr_o0 hg5 (by decide)))).trans m529
                    have m691 := (el_kept (oq _ (gne hg1 hg5 (by decide)))).trans m655
                    have m692 := (el_kept (oq _ (gne hg2 hg5 (by decide)))).trans m669
                    refine lv_aload_n hx hb dX12_orders_174 rfl (lv_at hl 3 rfl) ?_
                    refine lv_iload_n hx hb dX12_orders_175 rfl (lv_at hl 4 rfl) ?_
                    refine lv_iconst (v := 1) hx hb dX12_orders_176 (by decide) ?_
                    refine lv_iadd hx hb dX12_orders_177 ?_
                    refine lv_topi (fun x693 ex693 => ?_)
                    obtain rfl : x693 = 7 := ex693.trans (by decide)
                    refine lv_iload_n hx hb dX12_orders_178 rfl (lv_at hl 5 rfl) ?_
                    refine lv_iconst (v := 1) hx hb dX12_orders_179 (by decide) ?_
                    refine lv_iload hx hb dX12_orders_180 (lv_at hl 2 rfl) ?_
                    refine lv_ishl hx hb dX12_orders_182 ?_
                    refine lv_topi (fun x694 ex694 => ?_)
                    refine lv_ior hx hb dX12_orders_183 ?_
                    refine lv_topi (fun x695 ex695 => ?_)
                    refine lv_iload hx hb dX12_orders_184 (lv_at hl 0 rfl) ?_
                    refine lv_iload hx hb dX12_orders_186 (lv_at hl 1 rfl) ?_
                    refine lv_iload hx hb dX12_orders_188 (lv_at hl 8 rfl) ?_
                    refine lv_aload_n hx hb dX12_orders_190 rfl (lv_at hl 3 rfl) ?_
                    refine tw_get hx hb hts bF_X12 hown hK hT hr_o0 shm_0 rfl 71 (by decide) (ht_at hts 2 rfl) (fun _ h9 => h9) dX12_orders_191 (fun v9 m696 h9 => ?_)
                    obtain ⟨rfl, hg697⟩ := h9 _ rfl
                    refine lv_iload hx hb dX12_orders_194 (lv_at hl 2 rfl) ?_
                    refine tw_iald (i := (nI i9)) hx hb hK hT hg2 shm_72 rfl (vp_in_nI (by omega) (by decide)) dX12_orders_196 (fun v9 m698 h9 => ?_)
                    obtain ⟨x699, rfl, gx699, kx699⟩ := h9
                    have cx699 := m684.at m698 (by have q9 := tn_of (show (nI i9).toInt = ((i9 : Nat) : Int) from (nI_toInt (by omega))) (by omega); omega)
                    obtain rfl : x670 = x699 := (el_same m698 m692 rfl).symm
                    refine lv_imul hx hb dX12_orders_197 ?_
                    refine lv_topi (fun x700 ex700 => ?_)
                    have t701 : x700.toInt = ic.toInt * x670.toInt := ti_mulx ex700 rfl rfl (A := 600000) (B := 20) (by omega) (by omega) (by omega) (by omega) (by decide)
                    have t702 : 0 ≤ x700.toInt ∧ x700.toInt ≤ 600000 * 20 ∧ (ic.toInt = 0 → x700.toInt = 0) ∧ (x670.toInt = 0 → x700.toInt = 0) ∧ x700.toInt ≤ ic.toInt * 20 ∧ x700.toInt ≤ 600000 * x670.toInt := ti_mulnn ex700 rfl rfl (by omega) (by omega) (by omega) (by omega) (by decide)
                    refine lv_iadd hx hb dX12_orders_198 ?_
                    refine lv_topi (fun x703 ex703 => ?_)
                    have t704 : x703.toInt = x665.toInt + x700.toInt := ti_add ex703 rfl rfl (by omega) (by omega)
                    refine lv_iload hx hb dX12_orders_199 (lv_at hl 8 rfl) ?_
                    refine lv_aload_n hx hb dX12_orders_201 rfl (lv_at hl 3 rfl) ?_
                    refine tw_get hx hb hts bF_X12 hown hK hT hr_o0 shm_0 rfl 72 (by decide) (ht_at hts 4 rfl) (fun _ h9 => h9) dX12_orders_202 (fun v9 m705 h9 => ?_)
                    obtain ⟨rfl, hg706⟩ := h9 _ rfl
                    refine lv_iload hx hb dX12_orders_205 (lv_at hl 2 rfl) ?_
                    refine tw_iald (i := (nI i9)) hx hb hK hT hg3 shm_73 rfl (vp_in_nI (by omega) (by decide)) dX12_orders_207 (fun v9 m707 h9 => ?_)
                    obtain ⟨x708, rfl, gx708, kx708⟩ := h9
                    have cx708 := m685.at m707 (by have q9 := tn_of (show (nI i9).toInt = ((i9 : Nat) : Int) from (nI_toInt (by omega))) (by omega); omega)
                    have t709 : x708.toInt = (aB i9).toInt := congrArg Int32.toInt (cx708.trans (by rw [tn_nI (by omega)]))
                    have t710 : 0 ≤ (aB i9).toInt ∧ (aB i9).toInt ≤ 100000 := (hrg i9 (by omega)).2.2.1
                    refine lv_iadd hx hb dX12_orders_208 ?_
                    refine lv_topi (fun x711 ex711 => ?_)
                    have t712 : x711.toInt = ic.toInt + x708.toInt := ti_add ex711 rfl rfl (by omega) (by omega)
                    refine lv_iload hx hb dX12_orders_209 (lv_at hl 9 rfl) ?_
                    refine lv_aload_n hx hb dX12_orders_211 rfl (lv_at hl 3 rfl) ?_
                    refine tw_get hx hb hts bF_X12 hown hK hT hr_o0 shm_0 rfl 73 (by decide) (ht_at hts 5 rfl) (fun _ h9 => h9) dX12_orders_212 (fun v9 m713 h9 => ?_)
                    obtain ⟨rfl, hg714⟩ := h9 _ rfl
                    refine lv_iload hx hb dX12_orders_215 (lv_at hl 2 rfl) ?_
                    refine tw_iald (i := (nI i9)) hx hb hK hT hg4 shm_74 rfl (vp_in_nI (by omega) (by decide)) dX12_orders_217 (fun v9 m715 h9 => ?_)
                    obtain ⟨x716, rfl, gx716, kx716⟩ := h9
                    have cx716 := m686.at m715 (by have q9 := tn_of (show (nI i9).toInt = ((i9 : Nat) : Int) from (nI_toInt (by omega))) (by omega); omega)
                    have t717 : x716.toInt = (aA i9).toInt := congrArg Int32.toInt (cx716.trans (by rw [tn_nI (by omega)]))
                    have t718 : 0 ≤ (aA i9).toInt ∧ (aA i9).toInt ≤ 1000 := (hrg i9 (by omega)).2.2.2
                    refine lv_iload hx hb dX12_orders_218 (lv_at hl 0 rfl) ?_
                    refine lv_imul hx hb dX12_orders_220 ?_
                    refine lv_topi (fun x719 ex719 => ?_)
                    have t720 : x719.toInt = x716.toInt * x673.toInt := ti_mulx ex719 rfl rfl (A := 1000) (B := 200) (by omega) (by omega) (by omega) (by omega) (by decide)
                    have t721 : 0 ≤ x719.toInt ∧ x719.toInt ≤ 1000 * 200 ∧ (x716.toInt = 0 → x719.toInt = 0) ∧ (x673.toInt = 0 → x719.toInt = 0) ∧ x719.toInt ≤ x716.toInt * 200 ∧ x719.toInt ≤ 1000 * x673.toInt := ti_mulnn ex719 rfl rfl (by omega) (by omega) (by omega) (by omega) (by decide)
                    refine lv_iadd hx hb dX12_orders_221 ?_
                    refine lv_topi (fun x722 ex722 => ?_)
                    have t723 : x722.toInt = su.toInt + x719.toInt := ti_add ex722 rfl rfl (by omega) (by omega)
                    have hFc := gA_free hG hA hS
                    refine va_callv (va_runV (As := [.int 7, .int x695, .int x673, .int x703, .int x711, .int x722]) (rest := []) ⟨hx, hb, hml, hown, hts⟩ (s_ordersC7 l dC dI kA adK adV G H q wZ wN wH wB wC wL wK wU wV PI im PM PT lS lB lE lN o0 x695 x673 x703 x711 x722 jb z19 aC aY aB aA (cu V14 (6 : Int32).toNatClampNeg (nI i9)) V16 N (fun k => if k = 6 then ((i9 : Nat) : Int) else R k) (slO N 6 aC aY aB aA (bt us) yr.toInt ca.toInt ic.toInt su.toInt R a0 i9) hT hr_o0 m689 m690 (by have q8 := ti_all x673; omega) (by have q8 := ti_all x703; omega) (by have q8 := ti_all x711; omega) (by have q8 := ti_all x722; omega) (by have q8 := ti_all jb; omega) hN hrg hj21 hj22 (rr_s (K := 6) rfl (by decide) (nI_toInt (by omega)) hj23) m683 m684 m685 m686 m687 m688 hgz hgn hgh hgb hgc hgi hgu) (cwV 6 hts (goodIn_app (goodIn_r _ [10, 11, 12, 13] rfl (by decide +kernel)) (goodIn_ca (goodIn_r _ [7, 1, 8, 9, 4] rfl (by decide +kernel)) (bs_in _ _))) rfl rfl rfl (by decide +kernel) ⟨(Nat.le_of_ble_eq_true rfl), (Nat.le_of_ble_eq_true rfl)⟩) ⟨fun a U g mk q => by obtain ⟨q0, q1, qK, qE⟩ := q; exact ⟨q0, q1, va_K.moved (u := U) (U := U.calling g mk a) (Vm.Alike.refl U.vm) qK, EVS.blind g mk a qE⟩, gH_recv hK hT hr_o0 shm_0 rfl, fun U hU hW => ⟨rfl, hU, va_K.moved hW.alike hK, hE.call hS hFc hU hW⟩⟩ rfl rfl hl.1 rfl (lv_room (Nat.le_of_ble_eq_true rfl)) dX12_orders_222 ⟨(Nat.le_of_ble_eq_true rfl), (Nat.le_of_ble_eq_true rfl)⟩) hS (fun q _ h => hFc q h) hFc (fun u t H locs ht hvm hw725 hB _ _ hS => ?_)
                    obtain ⟨u726, u727, u728⟩ := u
                    obtain ⟨hT, hF1, m729, m730, m731⟩ := hB
                    rw [ht] at hT hF1 m729 m730 m731
                    have m732 := m683.kept (hF1.arr hg1 skm_71 (by decide))
                    have m733 := m684.kept (hF1.arr hg2 skm_72 (by decide))
                    have m734 := m685.kept (hF1.arr hg3 skm_73 (by decide))
                    have m735 := m686.kept (hF1.arr hg4 skm_74 (by decide))
                    have m736 := m687.kept (hF1.arr hg5 skm_76 (by decide))
                    have m738 := (hF1.fld hr_o0 skm_0 (k := 74) (by decide) (by decide)).trans m689
                    have m740 := (el_kept (hF1.arr hg1 skm_71 (by decide))).trans m691
                    have m741 := (el_kept (hF1.arr hg2 skm_72 (by decide))).trans m692
                    have m742 := (el_kept (hF1.arr hg5 skm_76 (by decide))).trans m682
                    have m743 := (el_kept (hF1.arr hg3 skm_73 (by decide))).trans m707
                    have m744 := (el_kept (hF1.arr hg4 skm_74 (by decide))).trans m715
                    have hF := hF.more hF1 (by decide)
                    try dsimp only at hw725
                    have hf745 := hw725
                    refine lv_iinc (v := nI (i9 + 1)) (lv' := [(7, .int (nI (i9 + 1))), (8, .int x673), (9, .int x665), (0, .ref o0), (1, .int 6), (2, .int us), (3, .int yr), (4, .int ca), (5, .int ic), (6, .int su)]) hx hb dX12_orders_225 hl (k := 2) rfl (nI_add i9 1) (by decide) rfl (fun ls hl => ?_)
                    refine lv_goto (tgt := 64) hx hb dX12_orders_228 (by decide) ?_
                    have bk9 : u726.toInt = (slO N 6 aC aY aB aA (bt us) yr.toInt ca.toInt ic.toInt su.toInt R a0 (i9 + 1)).1 ∧ (0 ≤ (slO N 6 aC aY aB aA (bt us) yr.toInt ca.toInt ic.toInt su.toInt R a0 (i9 + 1)).1 → ∀ k : Nat, k < N → (u728 k).toInt = (slO N 6 aC aY aB aA (bt us) yr.toInt ca.toInt ic.toInt su.toInt R a0 (i9 + 1)).2 k) ∧ ∀ k : Nat, k < 6 → (u727 k).toInt = R k := by have q9 := hf745; rw [sl_call (N := N) (K := 6) (K1 := 7) (aC := aC) (aY := aY) (aB := aB) (aA := aA) (U := bt us) (yr := yr.toInt) (ca := ca.toInt) (ic := ic.toInt) (su := su.toInt) (R := R) (a := a0) (i := i9) (d := x673.toInt) (c1 := x703.toInt) (i1 := x711.toInt) (s1 := x722.toInt) (U1 := bt x695) rfl (hbt.2 (by omega)) (wt_some hj530 (by omega) (by omega) (by omega)) (bt_or (by omega) ex694 ex695) (by have q8 := wt_cash (d := x673.toInt) (z := x700.toInt) (last := x670.toInt) hj530 (by omega) (by omega); omega) (by omega) (by rw [show (aA i9).toInt = x716.toInt from by omega]; omega)] at q9; exact ⟨q9.1, q9.2.1, fun k hk => (q9.2.2 k (by omega)).trans (if_neg (by omega))⟩
                    exact ih398 (i9 + 1) (by omega) (by omega) u727 u728 u726 ⟨bk9.1, bk9.2.1, bk9.2.2, (by omega)⟩ _ _ hT hF hS m732 m733 m734 m735 m730 m731 m738 m729 ls (lv_sub hl [0, 3, 4, 5, 6, 7, 8, 9] rfl)
                  · have t746 : 200 < x673.toInt := ti_nle c678 rfl (by decide)
                    refine lv_goto (tgt := 225) hx hb dX12_orders_163 (by decide) ?_
                    refine lv_iinc (v := nI (i9 + 1)) (lv' := [(7, .int (nI (i9 + 1))), (8, .int x673), (9, .int x665), (0, .ref o0), (1, .int 6), (2, .int us), (3, .int yr), (4, .int ca), (5, .int ic), (6, .int su)]) hx hb dX12_orders_225 hl (k := 2) rfl (nI_add i9 1) (by decide) rfl (fun ls hl => ?_)
                    refine lv_goto (tgt := 64) hx hb dX12_orders_228 (by decide) ?_
                    have bk9 : z19.toInt = (slO N 6 aC aY aB aA (bt us) yr.toInt ca.toInt ic.toInt su.toInt R a0 (i9 + 1)).1 ∧ (0 ≤ (slO N 6 aC aY aB aA (bt us) yr.toInt ca.toInt ic.toInt su.toInt R a0 (i9 + 1)).1 → ∀ k : Nat, k < N → (V16 k).toInt = (slO N 6 aC aY aB aA (bt us) yr.toInt ca.toInt ic.toInt su.toInt R a0 (i9 + 1)).2 k) ∧ ∀ k : Nat, k < 6 → (V14 k).toInt = R k := by rw [sl_n (wt_none hj530 (by omega) (by omega))]; exact ⟨hj21, hj22, hj23⟩
                    exact ih398 (i9 + 1) (by omega) (by omega) V14 V16 z19 ⟨bk9.1, bk9.2.1, bk9.2.2, (by omega)⟩ _ _ hT hF hS m522 m523 m524 m525 m526 m527 m528 m529 ls (lv_sub hl [0, 3, 4, 5, 6, 7, 8, 9] rfl)
              · have t747 : z518.toInt < x656.toInt := ti_nle c659 rfl rfl
                refine lv_iload hx hb dX12_orders_105 (lv_at hl 1 rfl) ?_
                refine lv_sipush (v := 200) hx hb dX12_orders_107 (by decide) ?_
                refine lv_icmp_gt (tgt := 126) hx hb dX12_orders_110 (by decide) (fun c748 => ?_) (fun c748 => ?_)
                · have t749 : 200 < z520.toInt := ti_lt c748 (by decide) rfl
                  refine lv_iload hx hb dX12_orders_126 (lv_at hl 0 rfl) ?_
                  refine lv_aload_n hx hb dX12_orders_128 rfl (lv_at hl 3 rfl) ?_
                  refine tw_get hx hb hts bF_X12 hown hK hT hr_o0 shm_0 rfl 70 (by decide) (ht_at hts 1 rfl) (fun _ h9 => h9) dX12_orders_129 (fun v9 m750 h9 => ?_)
                  obtain ⟨rfl, hg751⟩ := h9 _ rfl
                  refine lv_iload hx hb dX12_orders_132 (lv_at hl 2 rfl) ?_
                  refine tw_iald (i := (nI i9)) hx hb hK hT hg1 shm_71 rfl (vp_in_nI (by omega) (by decide)) dX12_orders_134 (fun v9 m752 h9 => ?_)
                  obtain ⟨x753, rfl, gx753, kx753⟩ := h9
                  have cx753 := m522.at m752 (by have q9 := tn_of (show (nI i9).toInt = ((i9 : Nat) : Int) from (nI_toInt (by omega))) (by omega); omega)
                  obtain rfl : x656 = x753 := (el_same m752 m655 rfl).symm
                  refine lv_isub hx hb dX12_orders_135 ?_
                  refine lv_topi (fun x754 ex754 => ?_)
                  have t755 : x754.toInt = z518.toInt - x656.toInt := ti_sub ex754 rfl rfl (by omega) (by omega)
                  refine lv_istore (lv' := [(9, .int x754), (8, .int z520), (7, .int (nI i9)), (0, .ref o0), (1, .int 6), (2, .int us), (3, .int yr), (4, .int ca), (5, .int ic), (6, .int su)]) hx hb dX12_orders_136 hl (by decide) rfl (fun ls hl => ?_)
                  refine lv_iload hx hb dX12_orders_138 (lv_at hl 1 rfl) ?_
                  refine lv_aload_n hx hb dX12_orders_140 rfl (lv_at hl 3 rfl) ?_
                  refine tw_get hx hb hts bF_X12 hown hK hT hr_o0 shm_0 rfl 71 (by decide) (ht_at hts 2 rfl) (fun _ h9 => h9) dX12_orders_141 (fun v9 m756 h9 => ?_)
                  obtain ⟨rfl, hg757⟩ := h9 _ rfl
                  refine lv_iload hx hb dX12_orders_144 (lv_at hl 2 rfl) ?_
                  refine tw_iald (i := (nI i9)) hx hb hK hT hg2 shm_72 rfl (vp_in_nI (by omega) (by decide)) dX12_orders_146 (fun v9 m758 h9 => ?_)
                  obtain ⟨x759, rfl, gx759, kx759⟩ := h9
                  have cx759 := m523.at m758 (by have q9 := tn_of (show (nI i9).toInt = ((i9 : Nat) : Int) from (nI_toInt (by omega))) (by omega); omega)
                  have t760 : x759.toInt = (aY i9).toInt := congrArg Int32.toInt (cx759.trans (by rw [tn_nI (by omega)]))
                  have t761 : 1 ≤ (aY i9).toInt ∧ (aY i9).toInt ≤ 20 := (hrg i9 (by omega)).2.1
                  refine lv_iadd hx hb dX12_orders_147 ?_
                  refine lv_topi (fun x762 ex762 => ?_)
                  have t763 : x762.toInt = z520.toInt + x759.toInt := ti_add ex762 rfl rfl (by omega) (by omega)
                  refine lv_istore (lv' := [(8, .int x762), (9, .int x754), (7, .int (nI i9)), (0, .ref o0), (1, .int 6), (2, .int us), (3, .int yr), (4, .int ca), (5, .int ic), (6, .int su)]) hx hb dX12_orders_148 hl (by decide) rfl (fun ls hl => ?_)
                  refine lv_iload hx hb dX12_orders_150 (lv_at hl 1 rfl) ?_
                  refine lv_if_lt (tgt := 225) hx hb dX12_orders_152 (by decide) (fun c764 => ?_) (fun c764 => ?_)
                  · have t765 : x754.toInt < 0 := ti_lt c764 rfl (by decide)
                    refine lv_iinc (v := nI (i9 + 1)) (lv' := [(7, .int (nI (i9 + 1))), (8, .int x762), (9, .int x754), (0, .ref o0), (1, .int 6), (2, .int us), (3, .int yr), (4, .int ca), (5, .int ic), (6, .int su)]) hx hb dX12_orders_225 hl (k := 2) rfl (nI_add i9 1) (by decide) rfl (fun ls hl => ?_)
                    refine lv_goto (tgt := 64) hx hb dX12_orders_228 (by decide) ?_
                    have bk9 : z19.toInt = (slO N 6 aC aY aB aA (bt us) yr.toInt ca.toInt ic.toInt su.toInt R a0 (i9 + 1)).1 ∧ (0 ≤ (slO N 6 aC aY aB aA (bt us) yr.toInt ca.toInt ic.toInt su.toInt R a0 (i9 + 1)).1 → ∀ k : Nat, k < N → (V16 k).toInt = (slO N 6 aC aY aB aA (bt us) yr.toInt ca.toInt ic.toInt su.toInt R a0 (i9 + 1)).2 k) ∧ ∀ k : Nat, k < 6 → (V14 k).toInt = R k := by rw [sl_n (wt_none hj530 (by omega) (by omega))]; exact ⟨hj21, hj22, hj23⟩
                    exact ih398 (i9 + 1) (by omega) (by omega) V14 V16 z19 ⟨bk9.1, bk9.2.1, bk9.2.2, (by omega)⟩ _ _ hT hF hS m522 m523 m524 m525 m526 m527 m528 m529 ls (lv_sub hl [0, 3, 4, 5, 6, 7, 8, 9] rfl)
                  · have t766 : 0 ≤ x754.toInt := ti_nlt c764 rfl (by decide)
                    refine lv_iload hx hb dX12_orders_155 (lv_at hl 0 rfl) ?_
                    refine lv_sipush (v := 200) hx hb dX12_orders_157 (by decide) ?_
                    refine lv_icmp_le (tgt := 166) hx hb dX12_orders_160 (by decide) (fun c767 => (by exfalso; have q9 : x762.toInt ≤ 200 := ti_le c767 rfl (by decide); omega)) (fun c767 => ?_)
                    have t768 : 200 < x762.toInt := ti_nle c767 rfl (by decide)
                    refine lv_goto (tgt := 225) hx hb dX12_orders_163 (by decide) ?_
                    refine lv_iinc (v := nI (i9 + 1)) (lv' := [(7, .int (nI (i9 + 1))), (8, .int x762), (9, .int x754), (0, .ref o0), (1, .int 6), (2, .int us), (3, .int yr), (4, .int ca), (5, .int ic), (6, .int su)]) hx hb dX12_orders_225 hl (k := 2) rfl (nI_add i9 1) (by decide) rfl (fun ls hl => ?_)
                    refine lv_goto (tgt := 64) hx hb dX12_orders_228 (by decide) ?_
                    have bk9 : z19.toInt = (slO N 6 aC aY aB aA (bt us) yr.toInt ca.toInt ic.toInt su.toInt R a0 (i9 + 1)).1 ∧ (0 ≤ (slO N 6 aC aY aB aA (bt us) yr.toInt ca.toInt ic.toInt su.toInt R a0 (i9 + 1)).1 → ∀ k : Nat, k < N → (V16 k).toInt = (slO N 6 aC aY aB aA (bt us) yr.toInt ca.toInt ic.toInt su.toInt R a0 (i9 + 1)).2 k) ∧ ∀ k : Nat, k < 6 → (V14 k).toInt = R k := by rw [sl_n (wt_none hj530 (by omega) (by omega))]; exact ⟨hj21, hj22, hj23⟩
                    exact ih398 (i9 + 1) (by omega) (by omega) V14 V16 z19 ⟨bk9.1, bk9.2.1, bk9.2.2, (by omega)⟩ _ _ hT hF hS m522 m523 m524 m525 m526 m527 m528 m529 ls (lv_sub hl [0, 3, 4, 5, 6, 7, 8, 9] rfl)
                · have t769 : z520.toInt ≤ 200 := ti_nlt c748 (by decide) rfl
                  obtain ⟨x770, ex770⟩ : ∃ y : Int32, y = z520 + 1 := ⟨_, rfl⟩
                  have t771 : x770.toInt = z520.toInt + 1 := ti_add ex770 rfl (by decide) (by omega) (by omega)
                  refine lv_iinc (v := x770) (lv' := [(8, .int x770), (9, .int z518), (7, .int (nI i9)), (0, .ref o0), (1, .int 6), (2, .int us), (3, .int yr), (4, .int ca), (5, .int ic), (6, .int su)]) hx hb dX12_orders_113 hl (k := 1) rfl (by first | (rw [ex770]; done) | (rw [ex770]; rfl)) (by decide) rfl (fun ls hl => ?_)
                  refine lv_iload hx hb dX12_orders_116 (lv_at hl 1 rfl) ?_
                  refine lv_iload hx hb dX12_orders_118 (lv_at hl 8 rfl) ?_
                  refine lv_iadd hx hb dX12_orders_120 ?_
                  refine lv_topi (fun x772 ex772 => ?_)
                  have t773 : x772.toInt = z518.toInt + ic.toInt := ti_add ex772 rfl rfl (by omega) (by omega)
                  refine lv_istore (lv' := [(9, .int x772), (8, .int x770), (7, .int (nI i9)), (0, .ref o0), (1, .int 6), (2, .int us), (3, .int yr), (4, .int ca), (5, .int ic), (6, .int su)]) hx hb dX12_orders_121 hl (by decide) rfl (fun ls hl => ?_)
                  refine lv_goto (tgt := 93) hx hb dX12_orders_123 (by decide) ?_
                  exact ih652 x772 x770 (by have q9 := (show x770.toInt = x770.toInt from rfl); omega) ⟨(by have q8 := ti_all x772; omega), (by have q8 := ti_all x770; omega), (wt_s hj530 (by omega) (by omega) (by omega))⟩ _ _ hT hF hS m522 m523 m524 m525 m526 m527 m528 m529 ls (lv_sub hl [0, 1, 2, 3, 4, 5, 6, 7, 8, 9] rfl)
          exact key652 401 ca yr (by have q9 := (show yr.toInt = yr.toInt from rfl); omega) ⟨(by have q8 := ti_all ca; omega), (by have q8 := ti_all yr; omega), (wt_0 (by omega) (by omega))⟩ _ _ hT hF hS m10 m11 m12 m13 m15 m17 m18 m20 ls (lv_sub hl [0, 1, 2, 3, 4, 5, 6, 7, 8, 9] rfl)
        · have t774 : x405.toInt = 1 := ti_eq c406 rfl (by decide)
          refine lv_goto (tgt := 225) hx hb dX12_orders_83 (by decide) ?_
          refine lv_iinc (v := nI (i9 + 1)) (lv' := [(7, .int (nI (i9 + 1))), (0, .ref o0), (1, .int 6), (2, .int us), (3, .int yr), (4, .int ca), (5, .int ic), (6, .int su)]) hx hb dX12_orders_225 hl (k := 0) rfl (nI_add i9 1) (by decide) rfl (fun ls hl => ?_)
          refine lv_goto (tgt := 64) hx hb dX12_orders_228 (by decide) ?_
          have bk9 : z19.toInt = (slO N 6 aC aY aB aA (bt us) yr.toInt ca.toInt ic.toInt su.toInt R a0 (i9 + 1)).1 ∧ (0 ≤ (slO N 6 aC aY aB aA (bt us) yr.toInt ca.toInt ic.toInt su.toInt R a0 (i9 + 1)).1 → ∀ k : Nat, k < N → (V16 k).toInt = (slO N 6 aC aY aB aA (bt us) yr.toInt ca.toInt ic.toInt su.toInt R a0 (i9 + 1)).2 k) ∧ ∀ k : Nat, k < 6 → (V14 k).toInt = R k := by rw [sl_u (hbt.1 (by omega))]; exact ⟨hj21, hj22, hj23⟩
          exact ih398 (i9 + 1) (by omega) (by omega) V14 V16 z19 ⟨bk9.1, bk9.2.1, bk9.2.2, (by omega)⟩ _ _ hT hF hS m10 m11 m12 m13 m15 m17 m18 m20 ls (lv_sub hl [0, 1, 2, 3, 4, 5, 6, 7] rfl)
    exact key398 (7 - 0) 0 (by omega) (Nat.le_refl _) vR vZ la ⟨hla, hZ0, hR, (by omega)⟩ _ _ hT hF hS hc_aC hc_aY hc_aB hc_aA hc_vR hc_vZ hm_jb hm_la ls (lv_sub hl [0, 1, 2, 3, 4, 5, 6, 7] rfl)
  · have t775 : 6 = jb.toInt := ti_eq c7 (by decide) rfl
    refine lv_aload_n hx hb dX12_orders_8 rfl (lv_at hl 0 rfl) ?_
    refine tw_getM (v := .int la) hx hb hts bF_X12 hown hK hT hr_o0 shm_0 rfl 77 (by decide) (ht_at hts 7 rfl) (fun _ h9 => h9) hm_la dX12_orders_9 ?_
    refine lv_if_lt (tgt := 25) hx hb dX12_orders_12 (by decide) (fun c776 => ?_) (fun c776 => ?_)
    · have t777 : la.toInt < 0 := ti_lt c776 rfl (by decide)
      refine lv_aload_n hx hb dX12_orders_25 rfl (lv_at hl 0 rfl) ?_
      refine lv_iload hx hb dX12_orders_26 (lv_at hl 6 rfl) ?_
      refine tw_put (v := .int su) (ty := .int) hx hb hts bF_X12 tyX12 tyX12_ok nmX12 hown hK hT hG hS hr_o0 shm_0 rfl 77 (by decide) (ht_at hts 7 rfl) (fun _ h9 => h9) rfl (by decide +kernel) rfl rfl (gl_at rfl (gi_all _)) dX12_orders_28 (fun H locs hT oq m778 oj hS => ?_)
      have hF := hF.put hr_o0 skm_0 oq oj (by decide)
      have m779 := (oj 74 (by decide) (by decide)).trans hm_jb
      have m780 := hc_aC.kept (oq _ (gne hg1 hr_o0 (by decide)))
      have m781 := hc_aY.kept (oq _ (gne hg2 hr_o0 (by decide)))
      have m782 := hc_aB.kept (oq _ (gne hg3 hr_o0 (by decide)))
      have m783 := hc_aA.kept (oq _ (gne hg4 hr_o0 (by decide)))
      have m784 := hc_vR.kept (oq _ (gne hg5 hr_o0 (by decide)))
      have m785 := hc_vZ.kept (oq _ (gne hg6 hr_o0 (by decide)))
      refine lv_iconst (v := 0) hx hb dX12_orders_31 (by decide) ?_
      refine lv_istore (lv' := [(7, .int 0), (0, .ref o0), (1, .int 6), (2, .int us), (3, .int yr), (4, .int ca), (5, .int ic), (6, .int su)]) hx hb dX12_orders_32 hl (by decide) rfl (fun ls hl => ?_)
      have key815 : ∀ (n815 i786 : Nat), i786 + n815 = 6 → 0 ≤ i786 → ∀ (V792 : Nat → Int32), ((∀ k : Nat, k < i786 → (V792 k).toInt = R k)) → ∀ (H : Heap) (locs : List Loc), gH (dC, dI) kA (SHm q (wP wZ wN wH wB wC wL wK wU wV) PI im PM PT lS lB lE lN) G H → gF (dC, dI) SKm G ([(0, 77), (76, 0), (77, 0)] : List (Nat × Nat)) s.heap H → va_S A s.heap H locs → ct H (q 70) 7 aC → ct H (q 71) 7 aY → ct H (q 72) 7 aB → ct H (q 73) 7 aA → ct H (q 75) 7 vR → ct H (q 76) 7 V792 → el H o0 (dI 15 74) = some (.int jb) → el H o0 (dI 15 77) = some (.int su) → ∀ ls : Array Slot, lv_has ls 10 [(7, .int (nI i786)), (0, .ref o0), (1, .int 6), (2, .int us), (3, .int yr), (4, .int ca), (5, .int ic), (6, .int su)] → W p l e (headSpec w_s_ordersC6 ({ frames := 1, cells := 0, slots := 0, locals := 29 })).room s m #[.ref o0, .int 6, .int us, .int yr, .int ca, .int ic, .int su] below meth c H locs 0 0 (MQ below (va_Qv (fun (u : Int32 × (Nat → Int32) × (Nat → Int32)) => match u with | (la1, vR1, vZ1) => (la1.toInt = (sx N 6 aC aY aB aA (bt us) yr.toInt ca.toInt ic.toInt su.toInt R a0).1 ∧ (0 ≤ (sx N 6 aC aY aB aA (bt us) yr.toInt ca.toInt ic.toInt su.toInt R a0).1 → ∀ k : Nat, k < N → (vZ1 k).toInt = (sx N 6 aC aY aB aA (bt us) yr.toInt ca.toInt ic.toInt su.toInt R a0).2 k) ∧ ∀ k : Nat, k < 6 → (vR1 k).toInt = R k)) (fun (u : Int32 × (Nat → Int32) × (Nat → Int32)) (t : State) => match u with | (la1, vR1, vZ1) => gH (dC, dI) kA (SHm q (wP wZ wN wH wB wC wL wK wU wV) PI im PM PT lS lB lE lN) G t.heap ∧ gF (dC, dI) SKm G ([(0, 77), (76, 0), (77, 0)] : List (Nat × Nat)) s.heap t.heap ∧ el t.heap o0 (dI 15 77) = some (.int la1) ∧ ct t.heap (q 75) 7 vR1 ∧ ct t.heap (q 76) 7 vZ1) A) #[.ref o0, .int 6, .int us, .int yr, .int ca, .int ic, .int su] s 0 0 A) (F0 m 34 ls []) := by
        intro n815
        induction n815 with
        | zero =>
          intro i786 hn815 hlo816 V792 hj796 H locs hT hF hS m787 m788 m789 m790 m791 m793 m794 m795 ls hl
          obtain rfl : 6 = i786 := by omega
          refine lv_iload hx hb dX12_orders_34 (lv_at hl 0 rfl) ?_
          refine lv_iload_n hx hb dX12_orders_36 rfl (lv_at hl 2 rfl) ?_
          refine lv_icmp_ge (tgt := 60) hx hb dX12_orders_37 (by decide) (fun c817 => ?_) (fun c817 => (by exfalso; have q9 : ((6 : Nat) : Int) < 6 := ti_nle c817 (by decide) (nI_toInt (by omega)); omega))
          have t818 : 6 ≤ ((6 : Nat) : Int) := ti_le c817 (by decide) (nI_toInt (by omega))
          exact W.vret hx hb hr (fun t ht hW => ⟨⟨(su, vR, V792), rfl, (by exact (by (try dsimp only); have e9 : N = 6 := (by omega); rw [sx_0 e9, if_neg (by omega)]; exact ⟨rfl, fun _ k hk => hj796 k (by omega), hR⟩)), by (try dsimp only); rw [ht]; exact ⟨hT, hF, m795, m791, m793⟩⟩, hS.F ht⟩) hS.2.2 dX12_orders_60
        | succ n815 ih815 =>
          intro i786 hn815 hlo816 V792 hj796 H locs hT hF hS m787 m788 m789 m790 m791 m793 m794 m795 ls hl
          have hlt818 : i786 < 6 := by omega
          refine lv_iload hx hb dX12_orders_34 (lv_at hl 0 rfl) ?_
          refine lv_iload_n hx hb dX12_orders_36 rfl (lv_at hl 2 rfl) ?_
          refine lv_icmp_ge (tgt := 60) hx hb dX12_orders_37 (by decide) (fun c819 => (by exfalso; have q9 : 6 ≤ ((i786 : Nat) : Int) := ti_le c819 (by decide) (nI_toInt (by omega)); omega)) (fun c819 => ?_)
          have t820 : ((i786 : Nat) : Int) < 6 := ti_nle c819 (by decide) (nI_toInt (by omega))
          refine lv_aload_n hx hb dX12_orders_40 rfl (lv_at hl 1 rfl) ?_
          refine tw_get hx hb hts bF_X12 hown hK hT hr_o0 shm_0 rfl 76 (by decide) (ht_at hts 8 rfl) (fun _ h9 => h9) dX12_orders_41 (fun v9 m821 h9 => ?_)
          obtain ⟨rfl, hg822⟩ := h9 _ rfl
          refine lv_iload hx hb dX12_orders_44 (lv_at hl 0 rfl) ?_
          refine lv_aload_n hx hb dX12_orders_46 rfl (lv_at hl 1 rfl) ?_
          refine tw_get hx hb hts bF_X12 hown hK hT hr_o0 shm_0 rfl 75 (by decide) (ht_at hts 3 rfl) (fun _ h9 => h9) dX12_orders_47 (fun v9 m823 h9 => ?_)
          obtain ⟨rfl, hg824⟩ := h9 _ rfl
          refine lv_iload hx hb dX12_orders_50 (lv_at hl 0 rfl) ?_
          refine tw_iald (i := (nI i786)) hx hb hK hT hg5 shm_76 rfl (vp_in_nI (by omega) (by decide)) dX12_orders_52 (fun v9 m825 h9 => ?_)
          obtain ⟨x826, rfl, gx826, kx826⟩ := h9
          have cx826 := m791.at m825 (by have q9 := tn_of (show (nI i786).toInt = ((i786 : Nat) : Int) from (nI_toInt (by omega))) (by omega); omega)
          refine tw_iast (i := (nI i786)) (x := x826) hx hb hK hT hG hS hg6 shm_77 rfl (vp_in_nI (by omega) (by decide)) (gi_all _) dX12_orders_53 (fun H locs hT oq m827 oi hS => ?_)
          have hF := hF.ast hg6 skm_77 oq (by decide)
          have m828 := m787.kept (oq _ (gne hg1 hg6 (by decide)))
          have m829 := m788.kept (oq _ (gne hg2 hg6 (by decide)))
          have m830 := m789.kept (oq _ (gne hg3 hg6 (by decide)))
          have m831 := m790.kept (oq _ (gne hg4 hg6 (by decide)))
          have m832 := m791.kept (oq _ (gne hg5 hg6 (by decide)))
          have m833 := m793.put m827 oi
          have m834 := (el_kept (oq _ (gne hr_o0 hg6 (by decide)))).trans m794
          have m835 := (el_kept (oq _ (gne hr_o0 hg6 (by decide)))).trans m795
          have m836 := (el_kept (oq _ (gne hg5 hg6 (by decide)))).trans m825
          refine lv_iinc (v := nI (i786 + 1)) (lv' := [(7, .int (nI (i786 + 1))), (0, .ref o0), (1, .int 6), (2, .int us), (3, .int yr), (4, .int ca), (5, .int ic), (6, .int su)]) hx hb dX12_orders_54 hl (k := 0) rfl (nI_add i786 1) (by decide) rfl (fun ls hl => ?_)
          refine lv_goto (tgt := 34) hx hb dX12_orders_57 (by decide) ?_
          exact ih815 (i786 + 1) (by omega) (by omega) (cu V792 (nI i786).toNatClampNeg x826) (cp_s (V := vR) (K := 6) (i := i786) (tn_nI (by omega)) cx826 hR (by omega) hj796) _ _ hT hF hS m828 m829 m830 m831 m832 m833 m834 m835 ls (lv_sub hl [0, 1, 2, 3, 4, 5, 6, 7] rfl)
      exact key815 (6 - 0) 0 (by omega) (Nat.le_refl _) vZ (fun k h => absurd h (Nat.not_lt_zero k)) _ _ hT hF hS m780 m781 m782 m783 m784 m785 m779 m778 ls (lv_sub hl [0, 1, 2, 3, 4, 5, 6, 7] rfl)
    · have t837 : 0 ≤ la.toInt := ti_nlt c776 rfl (by decide)
      refine lv_iload hx hb dX12_orders_15 (lv_at hl 6 rfl) ?_
      refine lv_aload_n hx hb dX12_orders_17 rfl (lv_at hl 0 rfl) ?_
      refine tw_getM (v := .int la) hx hb hts bF_X12 hown hK hT hr_o0 shm_0 rfl 77 (by decide) (ht_at hts 7 rfl) (fun _ h9 => h9) hm_la dX12_orders_18 ?_
      refine lv_icmp_lt (tgt := 25) hx hb dX12_orders_21 (by decide) (fun c838 => ?_) (fun c838 => ?_)
      · have t839 : su.toInt < la.toInt := ti_lt c838 rfl rfl
        refine lv_aload_n hx hb dX12_orders_25 rfl (lv_at hl 0 rfl) ?_
        refine lv_iload hx hb dX12_orders_26 (lv_at hl 6 rfl) ?_
        refine tw_put (v := .int su) (ty := .int) hx hb hts bF_X12 tyX12 tyX12_ok nmX12 hown hK hT hG hS hr_o0 shm_0 rfl 77 (by decide) (ht_at hts 7 rfl) (fun _ h9 => h9) rfl (by decide +kernel) rfl rfl (gl_at rfl (gi_all _)) dX12_orders_28 (fun H locs hT oq m840 oj hS => ?_)
        have hF := hF.put hr_o0 skm_0 oq oj (by decide)
        have m841 := (oj 74 (by decide) (by decide)).trans hm_jb
        have m842 := hc_aC.kept (oq _ (gne hg1 hr_o0 (by decide)))
        have m843 := hc_aY.kept (oq _ (gne hg2 hr_o0 (by decide)))
        have m844 := hc_aB.kept (oq _ (gne hg3 hr_o0 (by decide)))
        have m845 := hc_aA.kept (oq _ (gne hg4 hr_o0 (by decide)))
        have m846 := hc_vR.kept (oq _ (gne hg5 hr_o0 (by decide)))
        have m847 := hc_vZ.kept (oq _ (gne hg6 hr_o0 (by decide)))
        refine lv_iconst (v := 0) hx hb dX12_orders_31 (by decide) ?_
        refine lv_istore (lv' := [(7, .int 0), (0, .ref o0), (1, .int 6), (2, .int us), (3, .int yr), (4, .int ca), (5, .int ic), (6, .int su)]) hx hb dX12_orders_32 hl (by decide) rfl (fun ls hl => ?_)
        have key877 : ∀ (n877 i848 : Nat), i848 + n877 = 6 → 0 ≤ i848 → ∀ (V854 : Nat → Int32), ((∀ k : Nat, k < i848 → (V854 k).toInt = R k)) → ∀ (H : Heap) (locs : List Loc), gH (dC, dI) kA (SHm q (wP wZ wN wH wB wC wL wK wU wV) PI im PM PT lS lB lE lN) G H → gF (dC, dI) SKm G ([(0, 77), (76, 0), (77, 0)] : List (Nat × Nat)) s.heap H → va_S A s.heap H locs → ct H (q 70) 7 aC → ct H (q 71) 7 aY → ct H (q 72) 7 aB → ct H (q 73) 7 aA → ct H (q 75) 7 vR → ct H (q 76) 7 V854 → el H o0 (dI 15 74) = some (.int jb) → el H o0 (dI 15 77) = some (.int su) → ∀ ls : Array Slot, lv_has ls 10 [(7, .int (nI i848)), (0, .ref o0), (1, .int 6), (2, .int us), (3, .int yr), (4, .int ca), (5, .int ic), (6, .int su)] → W p l e (headSpec w_s_ordersC6 ({ frames := 1, cells := 0, slots := 0, locals := 29 })).room s m #[.ref o0, .int 6, .int us, .int yr, .int ca, .int ic, .int su] below meth c H locs 0 0 (MQ below (va_Qv (fun (u : Int32 × (Nat → Int32) × (Nat → Int32)) => match u with | (la1, vR1, vZ1) => (la1.toInt = (sx N 6 aC aY aB aA (bt us) yr.toInt ca.toInt ic.toInt su.toInt R a0).1 ∧ (0 ≤ (sx N 6 aC aY aB aA (bt us) yr.toInt ca.toInt ic.toInt su.toInt R a0).1 → ∀ k : Nat, k < N → (vZ1 k).toInt = (sx N 6 aC aY aB aA (bt us) yr.toInt ca.toInt ic.toInt su.toInt R a0).2 k) ∧ ∀ k : Nat, k < 6 → (vR1 k).toInt = R k)) (fun (u : Int32 × (Nat → Int32) × (Nat → Int32)) (t : State) => match u with | (la1, vR1, vZ1) => gH (dC, dI) kA (SHm q (wP wZ wN wH wB wC wL wK wU wV) PI im PM PT lS lB lE lN) G t.heap ∧ gF (dC, dI) SKm G ([(0, 77), (76, 0), (77, 0)] : List (Nat × Nat)) s.heap t.heap ∧ el t.heap o0 (dI 15 77) = some (.int la1) ∧ ct t.heap (q 75) 7 vR1 ∧ ct t.heap (q 76) 7 vZ1) A) #[.ref o0, .int 6, .int us, .int yr, .int ca, .int ic, .int su] s 0 0 A) (F0 m 34 ls []) := by
          intro n877
          induction n877 with
          | zero =>
            intro i848 hn877 hlo878 V854 hj858 H locs hT hF hS m849 m850 m851 m852 m853 m855 m856 m857 ls hl
            obtain rfl : 6 = i848 := by omega
            refine lv_iload hx hb dX12_orders_34 (lv_at hl 0 rfl) ?_
            refine lv_iload_n hx hb dX12_orders_36 rfl (lv_at hl 2 rfl) ?_
            refine lv_icmp_ge (tgt := 60) hx hb dX12_orders_37 (by decide) (fun c879 => ?_) (fun c879 => (by exfalso; have q9 : ((6 : Nat) : Int) < 6 := ti_nle c879 (by decide) (nI_toInt (by omega)); omega))
            have t880 : 6 ≤ ((6 : Nat) : Int) := ti_le c879 (by decide) (nI_toInt (by omega))
            exact W.vret hx hb hr (fun t ht hW => ⟨⟨(su, vR, V854), rfl, (by exact (by (try dsimp only); have e9 : N = 6 := (by omega); rw [sx_0 e9, if_neg (by omega)]; exact ⟨rfl, fun _ k hk => hj858 k (by omega), hR⟩)), by (try dsimp only); rw [ht]; exact ⟨hT, hF, m857, m853, m855⟩⟩, hS.F ht⟩) hS.2.2 dX12_orders_60
          | succ n877 ih877 =>
            intro i848 hn877 hlo878 V854 hj858 H locs hT hF hS m849 m850 m851 m852 m853 m855 m856 m857 ls hl
            have hlt880 : i848 < 6 := by omega
            refine lv_iload hx hb dX12_orders_34 (lv_at hl 0 rfl) ?_
            refine lv_iload_n hx hb dX12_orders_36 rfl (lv_at hl 2 rfl) ?_
            refine lv_icmp_ge (tgt := 60) hx hb dX12_orders_37 (by decide) (fun c881 => (by exfalso; have q9 : 6 ≤ ((i848 : Nat) : Int) := ti_le c881 (by decide) (nI_toInt (by omega)); omega)) (fun c881 => ?_)
            have t882 : ((i848 : Nat) : Int) < 6 := ti_nle c881 (by decide) (nI_toInt (by omega))
            refine lv_aload_n hx hb dX12_orders_40 rfl (lv_at hl 1 rfl) ?_
            refine tw_get hx hb hts bF_X12 hown hK hT hr_o0 shm_0 rfl 76 (by decide) (ht_at hts 8 rfl) (fun _ h9 => h9) dX12_orders_41 (fun v9 m883 h9 => ?_)
            obtain ⟨rfl, hg884⟩ := h9 _ rfl
            refine lv_iload hx hb dX12_orders_44 (lv_at hl 0 rfl) ?_
            refine lv_aload_n hx hb dX12_orders_46 rfl (lv_at hl 1 rfl) ?_
            refine tw_get hx hb hts bF_X12 hown hK hT hr_o0 shm_0 rfl 75 (by decide) (ht_at hts 3 rfl) (fun _ h9 => h9) dX12_orders_47 (fun v9 m885 h9 => ?_)
            obtain ⟨rfl, hg886⟩ := h9 _ rfl
            refine lv_iload hx hb dX12_orders_50 (lv_at hl 0 rfl) ?_
            refine tw_iald (i := (nI i848)) hx hb hK hT hg5 shm_76 rfl (vp_in_nI (by omega) (by decide)) dX12_orders_52 (fun v9 m887 h9 => ?_)
            obtain ⟨x888, rfl, gx888, kx888⟩ := h9
            have cx888 := m853.at m887 (by have q9 := tn_of (show (nI i848).toInt = ((i848 : Nat) : Int) from (nI_toInt (by omega))) (by omega); omega)
            refine tw_iast (i := (nI i848)) (x := x888) hx hb hK hT hG hS hg6 shm_77 rfl (vp_in_nI (by omega) (by decide)) (gi_all _) dX12_orders_53 (fun H locs hT oq m889 oi hS => ?_)
            have hF := hF.ast hg6 skm_77 oq (by decide)
            have m890 := m849.kept (oq _ (gne hg1 hg6 (by decide)))
            have m891 := m850.kept (oq _ (gne hg2 hg6 (by decide)))
            have m892 := m851.kept (oq _ (gne hg3 hg6 (by decide)))
            have m893 := m852.kept (oq _ (gne hg4 hg6 (by decide)))
            have m894 := m853.kept (oq _ (gne hg5 hg6 (by decide)))
            have m895 := m855.put m889 oi
            have m896 := (el_kept (oq _ (gne hr_o0 hg6 (by decide)))).trans m856
            have m897 := (el_kept (oq _ (gne hr_o0 hg6 (by decide)))).trans m857
            have m898 := (el_kept (oq _ (gne hg5 hg6 (by decide)))).trans m887
            refine lv_iinc (v := nI (i848 + 1)) (lv' := [(7, .int (nI (i848 + 1))), (0, .ref o0), (1, .int 6), (2, .int us), (3, .int yr), (4, .int ca), (5, .int ic), (6, .int su)]) hx hb dX12_orders_54 hl (k := 0) rfl (nI_add i848 1) (by decide) rfl (fun ls hl => ?_)
            refine lv_goto (tgt := 34) hx hb dX12_orders_57 (by decide) ?_
            exact ih877 (i848 + 1) (by omega) (by omega) (cu V854 (nI i848).toNatClampNeg x888) (cp_s (V := vR) (K := 6) (i := i848) (tn_nI (by omega)) cx888 hR (by omega) hj858) _ _ hT hF hS m890 m891 m892 m893 m894 m895 m896 m897 ls (lv_sub hl [0, 1, 2, 3, 4, 5, 6, 7] rfl)
        exact key877 (6 - 0) 0 (by omega) (Nat.le_refl _) vZ (fun k h => absurd h (Nat.not_lt_zero k)) _ _ hT hF hS m842 m843 m844 m845 m846 m847 m841 m840 ls (lv_sub hl [0, 1, 2, 3, 4, 5, 6, 7] rfl)
      · have t899 : la.toInt ≤ su.toInt := ti_nlt c838 rfl rfl
        exact W.vret hx hb hr (fun t ht hW => ⟨⟨(la, vR, vZ), rfl, (by exact (by (try dsimp only); have e9 : N = 6 := (by omega); rw [sx_0 e9, if_pos ⟨by omega, by omega⟩]; exact ⟨by omega, hZ0, hR⟩)), by (try dsimp only); rw [ht]; exact ⟨hT, hF, hm_la, hc_vR, hc_vZ⟩⟩, hS.F ht⟩) hS.2.2 dX12_orders_24
def w_s_ordersC5 : List Cond := .code yX12_orders cX12_orders 10 none :: (HAppend.hAppend (α := List Cond) (β := List Cond) (γ := List Cond) [.fieldLink RX12 553 "SeaLandModel" "jobs" "I", .fieldLink RX12 176 "SeaLandModel" "jCost" "[I", .fieldLink RX12 179 "SeaLandModel" "jYears" "[I", .fieldLink RX12 188 "SeaLandModel" "row" "[I", .fieldLink RX12 182 "SeaLandModel" "jBrings" "[I", .fieldLink RX12 185 "SeaLandModel" "jAcres" "[I", .code yX12_orders cX12_orders 10 none, .fieldLink RX12 556 "SeaLandModel" "lateness" "I", .fieldLink RX12 191 "SeaLandModel" "bestRow" "[I", .methodLink RX12 559 yX12_orders, .instanceMethod yX12_orders, .selects RX12 yX12_orders yX12_orders, .initialized RX12] bs)
set_option maxHeartbeats 4000000 in
set_option maxRecDepth 100000 in
theorem s_ordersC5 (l : Launch) (dC : Nat → ClassId) (dI : Nat → Nat → Nat) (kA : Nat → ClassId) (adK adV : Nat → Nat) (G : gT) (H0 : Heap) (q : Nat → Nat) (wZ wN : Nat → Int) (wH wB wC : Int) (wL wK : Nat → Prop) (wU wV : Nat → Nat) (PI : Nat → Int → Prop) (im : Int) (PM PT : Nat → Int → Prop) (lS lB lE : Nat → Nat → Int → Prop) (lN : Nat → Int) (o0 : Nat) (us : Int32) (yr : Int32) (ca : Int32) (ic : Int32) (su : Int32) (jb : Int32) (la : Int32) (aC : Nat → Int32) (aY : Nat → Int32) (aB : Nat → Int32) (aA : Nat → Int32) (vR : Nat → Int32) (vZ : Nat → Int32) (N : Nat) (R : Nat → Int) (a0 : oA) (hT : gH (dC, dI) kA (SHm q (wP wZ wN wH wB wC wL wK wU wV) PI im PM PT lS lB lE lN) G H0) (hr_o0 : G o0 = some 0) (hm_jb : el H0 o0 (dI 15 74) = some (.int jb)) (hm_la : el H0 o0 (dI 15 77) = some (.int la)) (hq0 : 0 ≤ yr.toInt ∧ yr.toInt ≤ 200) (hq1 : 0 ≤ ca.toInt ∧ ca.toInt ≤ 21099999) (hq2 : 0 ≤ ic.toInt ∧ ic.toInt ≤ 500000) (hq3 : 0 ≤ su.toInt ∧ su.toInt ≤ 1000000) (hq4 : 5 ≤ jb.toInt ∧ jb.toInt ≤ 7) (hN : jb.toInt = ((N : Nat) : Int)) (hrg : joR jb.toInt aC aY aB aA) (hla : la.toInt = a0.1) (hZ0 : 0 ≤ a0.1 → ∀ k : Nat, k < N → (vZ k).toInt = a0.2 k) (hR : ∀ k : Nat, k < 5 → (vR k).toInt = R k) (hc_aC : ct H0 (q 70) 7 aC) (hc_aY : ct H0 (q 71) 7 aY) (hc_aB : ct H0 (q 72) 7 aB) (hc_aA : ct H0 (q 73) 7 aA) (hc_vR : ct H0 (q 75) 7 vR) (hc_vZ : ct H0 (q 76) 7 vZ) (hgz : ∀ i, 0 ≤ wZ i) (hgn : ∀ i, 6500000 ≤ wN i ∧ wN i ≤ 20200000) (hgh : 0 ≤ wH ∧ wH ≤ 40000) (hgb : 0 ≤ wB ∧ wB ≤ 3850000) (hgc : 0 ≤ wC ∧ wC ≤ 30) (hgi : 0 ≤ im ∧ im ≤ 1) (hgu : ∀ a t, G a = some (t + 1) → a = q t) : Met l yX12_orders w_s_ordersC5 ({ frames := 2, cells := 0, slots := 0, locals := 58 }) (va_Pc [.ref o0, .int 5, .int us, .int yr, .int ca, .int ic, .int su] (fun U => U.heap = H0 ∧ va_K (dC, dI) vwCl (tyl kA) U ∧ EVS adK adV (gA G H0.size) U U.heap)) (va_Qv (fun (u : Int32 × (Nat → Int32) × (Nat → Int32)) => match u with | (la1, vR1, vZ1) => (la1.toInt = (sx N 5 aC aY aB aA (bt us) yr.toInt ca.toInt ic.toInt su.toInt R a0).1 ∧ (0 ≤ (sx N 5 aC aY aB aA (bt us) yr.toInt ca.toInt ic.toInt su.toInt R a0).1 → ∀ k : Nat, k < N → (vZ1 k).toInt = (sx N 5 aC aY aB aA (bt us) yr.toInt ca.toInt ic.toInt su.toInt R a0).2 k) ∧ ∀ k : Nat, k < 5 → (vR1 k).toInt = R k)) (fun (u : Int32 × (Nat → Int32) × (Nat → Int32)) (t : State) => match u with | (la1, vR1, vZ1) => gH (dC, dI) kA (SHm q (wP wZ wN wH wB wC wL wK wU wV) PI im PM PT lS lB lE lN) G t.heap ∧ gF (dC, dI) SKm G ([(0, 77), (76, 0), (77, 0)] : List (Nat × Nat)) H0 t.heap ∧ el t.heap o0 (dI 15 77) = some (.int la1) ∧ ct t.heap (q 75) 7 vR1 ∧ ct t.heap (q 76) 7 vZ1) (gA G H0.size)) 0 0 (gA G H0.size) := by
  refine Met.ofW (cc := cX12_orders) (maxL := 10) (ret := none) (by decide) rfl ?_
  intro p e s m args below meth c s₁ B hml hv
  obtain ⟨rfl, hH0, hK, hE⟩ := hv
  have hx := B.exec
  have hb := B.bytes
  have hr := B.returns
  have hts := atoms_spec (ws := w_s_ordersC5) B.pre
  have hown : s.vm.findClass RX12 = some m.cls := findClass_of_methodNamed B.named
  have hlocks := B.notSynchronized
  subst hH0
  generalize hAe : gA G s.heap.size = A at hE ⊢
  have hA : ∀ q : Nat, s.heap.size ≤ q → A q := fun q h => by rw [← hAe]; exact Or.inr h
  have hG := gA_of hAe
  have hS : va_S A s.heap s.heap [] := va_S.rf
  have hF : gF (dC, dI) SKm G ([(0, 77), (76, 0), (77, 0)] : List (Nat × Nat)) s.heap s.heap := gF.rf
  have hl := lv_entry ([.ref o0, .int 5, .int us, .int yr, .int ca, .int ic, .int su]) (n := 10) (Nat.le_of_ble_eq_true rfl)
  rw [lg_entry_eq]
  generalize (lg_sl ([.ref o0, .int 5, .int us, .int yr, .int ca, .int ic, .int su]) ++ List.replicate (10 - (lg_sl ([.ref o0, .int 5, .int us, .int yr, .int ca, .int ic, .int su])).length) Slot.unset).toArray = ls at hl ⊢
  have hl : lv_has ls 10 [(0, .ref o0), (1, .int 5), (2, .int us), (3, .int yr), (4, .int ca), (5, .int ic), (6, .int su)] := hl
  have hg1 : G (q 70) = some 71 := gx_of hT hr_o0 shm_0 (k := 70) (by decide) rfl
  have hg2 : G (q 71) = some 72 := gx_of hT hr_o0 shm_0 (k := 71) (by decide) rfl
  have hg3 : G (q 72) = some 73 := gx_of hT hr_o0 shm_0 (k := 72) (by decide) rfl
  have hg4 : G (q 73) = some 74 := gx_of hT hr_o0 shm_0 (k := 73) (by decide) rfl
  have hg5 : G (q 75) = some 76 := gx_of hT hr_o0 shm_0 (k := 75) (by decide) rfl
  have hg6 : G (q 76) = some 77 := gx_of hT hr_o0 shm_0 (k := 76) (by decide) rfl
  refine lv_iload_n hx hb dX12_orders_0 rfl (lv_at hl 1 rfl) ?_
  refine lv_aload_n hx hb dX12_orders_1 rfl (lv_at hl 0 rfl) ?_
  refine tw_getM (v := .int jb) hx hb hts bF_X12 hown hK hT hr_o0 shm_0 rfl 74 (by decide) (ht_at hts 0 rfl) (fun _ h9 => h9) hm_jb dX12_orders_2 ?_
  refine lv_icmp_ne (tgt := 61) hx hb dX12_orders_5 (by decide) (fun c7 => ?_) (fun c7 => ?_)
  · have t8 : 5 ≠ jb.toInt := ti_ne c7 (by decide) rfl
    refine lv_iconst (v := 0) hx hb dX12_orders_61 (by decide) ?_
    refine lv_istore (lv' := [(7, .int 0), (0, .ref o0), (1, .int 5), (2, .int us), (3, .int yr), (4, .int ca), (5, .int ic), (6, .int su)]) hx hb dX12_orders_62 hl (by decide) rfl (fun ls hl => ?_)
    have key399 : ∀ (n399 i9 : Nat), i9 + n399 = 7 → 0 ≤ i9 → ∀ (V14 : Nat → Int32), ∀ (V16 : Nat → Int32), ∀ (z19 : Int32), ((z19.toInt = (slO N 5 aC aY aB aA (bt us) yr.toInt ca.toInt ic.toInt su.toInt R a0 i9).1) ∧ (0 ≤ (slO N 5 aC aY aB aA (bt us) yr.toInt ca.toInt ic.toInt su.toInt R a0 i9).1 → ∀ k : Nat, k < N → (V16 k).toInt = (slO N 5 aC aY aB aA (bt us) yr.toInt ca.toInt ic.toInt su.toInt R a0 i9).2 k) ∧ (∀ k : Nat, k < 5 → (V14 k).toInt = R k) ∧ (((i9 : Nat) : Int) ≤ jb.toInt)) → ∀ (H : Heap) (locs : List Loc), gH (dC, dI) kA (SHm q (wP wZ wN wH wB wC wL wK wU wV) PI im PM PT lS lB lE lN) G H → gF (dC, dI) SKm G ([(0, 77), (76, 0), (77, 0)] : List (Nat × Nat)) s.heap H → va_S A s.heap H locs → ct H (q 70) 7 aC → ct H (q 71) 7 aY → ct H (q 72) 7 aB → ct H (q 73) 7 aA → ct H (q 75) 7 V14 → ct H (q 76) 7 V16 → el H o0 (dI 15 74) = some (.int jb) → el H o0 (dI 15 77) = some (.int z19) → ∀ ls : Array Slot, lv_has ls 10 [(7, .int (nI i9)), (0, .ref o0), (1, .int 5), (2, .int us), (3, .int yr), (4, .int ca), (5, .int ic), (6, .int su)] → W p l e (headSpec w_s_ordersC5 ({ frames := 2, cells := 0, slots := 0, locals := 58 })).room s m #[.ref o0, .int 5, .int us, .int yr, .int ca, .int ic, .int su] below meth c H locs 0 0 (MQ below (va_Qv (fun (u : Int32 × (Nat → Int32) × (Nat → Int32)) => match u with | (la1, vR1, vZ1) => (la1.toInt = (sx N 5 aC aY aB aA (bt us) yr.toInt ca.toInt ic.toInt su.toInt R a0).1 ∧ (0 ≤ (sx N 5 aC aY aB aA (bt us) yr.toInt ca.toInt ic.toInt su.toInt R a0).1 → ∀ k : Nat, k < N → (vZ1 k).toInt = (sx N 5 aC aY aB aA (bt us) yr.toInt ca.toInt ic.toInt su.toInt R a0).2 k) ∧ ∀ k : Nat, k < 5 → (vR1 k).toInt = R k)) (fun (u : Int32 × (Nat → Int32) × (Nat → Int32)) (t : State) => match u with | (la1, vR1, vZ1) => gH (dC, dI) kA (SHm q (wP wZ wN wH wB wC wL wK wU wV) PI im PM PT lS lB lE lN) G t.heap ∧ gF (dC, dI) SKm G ([(0, 77), (76, 0), (77, 0)] : List (Nat × Nat)) s.heap t.heap ∧ el t.heap o0 (dI 15 77) = some (.int la1) ∧ ct t.heap (q 75) 7 vR1 ∧ ct t.heap (q 76) 7 vZ1) A) #[.ref o0, .int 5, .int us, .int yr, .int ca, .int ic, .int su] s 0 0 A) (F0 m 64 ls []) := by
      intro n399
      induction n399 with
      | zero =>
        intro i9 hn399 hlo400 V14 V16 z19 ⟨hj21, hj22, hj23, hj24⟩ H locs hT hF hS m10 m11 m12 m13 m15 m17 m18 m20 ls hl
        obtain rfl : 7 = i9 := by omega
        refine lv_iload hx hb dX12_orders_64 (lv_at hl 0 rfl) ?_
        refine lv_aload_n hx hb dX12_orders_66 rfl (lv_at hl 1 rfl) ?_
        refine tw_getM (v := .int jb) hx hb hts bF_X12 hown hK hT hr_o0 shm_0 rfl 74 (by decide) (ht_at hts 0 rfl) (fun _ h9 => h9) m18 dX12_orders_67 ?_
        refine lv_icmp_ge (tgt := 231) hx hb dX12_orders_70 (by decide) (fun c401 => ?_) (fun c401 => (by exfalso; have q9 : ((7 : Nat) : Int) < jb.toInt := ti_nle c401 rfl (nI_toInt (by omega)); omega))
        have t402 : jb.toInt ≤ ((7 : Nat) : Int) := ti_le c401 rfl (nI_toInt (by omega))
        exact W.vret hx hb hr (fun t ht hW => ⟨⟨(z19, V14, V16), rfl, (by exact (by (try dsimp only); have e9 : N = 7 := (by omega); rw [sx_s (by omega)]; subst e9; exact ⟨hj21, hj22, hj23⟩)), by (try dsimp only); rw [ht]; exact ⟨hT, hF, m20, m15, m17⟩⟩, hS.F ht⟩) hS.2.2 dX12_orders_231
      | succ n399 ih399 =>
        intro i9 hn399 hlo400 V14 V16 z19 ⟨hj21, hj22, hj23, hj24⟩ H locs hT hF hS m10 m11 m12 m13 m15 m17 m18 m20 ls hl
        have hlt402 : i9 < 7 := by omega
        refine lv_iload hx hb dX12_orders_64 (lv_at hl 0 rfl) ?_
        refine lv_aload_n hx hb dX12_orders_66 rfl (lv_at hl 1 rfl) ?_
        refine tw_getM (v := .int jb) hx hb hts bF_X12 hown hK hT hr_o0 shm_0 rfl 74 (by decide) (ht_at hts 0 rfl) (fun _ h9 => h9) m18 dX12_orders_67 ?_
        refine lv_icmp_ge (tgt := 231) hx hb dX12_orders_70 (by decide) (fun c403 => ?_) (fun c403 => ?_)
        · have t404 : jb.toInt ≤ ((i9 : Nat) : Int) := ti_le c403 rfl (nI_toInt (by omega))
          exact W.vret hx hb hr (fun t ht hW => ⟨⟨(z19, V14, V16), rfl, (by exact (by (try dsimp only); have e9 : N = i9 := (by omega); rw [sx_s (by omega)]; subst e9; exact ⟨hj21, hj22, hj23⟩)), by (try dsimp only); rw [ht]; exact ⟨hT, hF, m20, m15, m17⟩⟩, hS.F ht⟩) hS.2.2 dX12_orders_231
        · have t405 : ((i9 : Nat) : Int) < jb.toInt := ti_nle c403 rfl (nI_toInt (by omega))
          refine lv_iload_n hx hb dX12_orders_73 rfl (lv_at hl 3 rfl) ?_
          refine lv_iload hx hb dX12_orders_74 (lv_at hl 0 rfl) ?_
          refine lv_ishr hx hb dX12_orders_76 ?_
          refine lv_topi (fun x406 ex406 => ?_)
          refine lv_iconst (v := 1) hx hb dX12_orders_77 (by decide) ?_
          refine lv_iand hx hb dX12_orders_78 ?_
          refine lv_topi (fun x407 ex407 => ?_)
          refine lv_iconst (v := 1) hx hb dX12_orders_79 (by decide) ?_
          have hbt := bt_t (us := us) (j := i9) (by omega) ex406 ex407
          refine lv_icmp_ne (tgt := 86) hx hb dX12_orders_80 (by decide) (fun c408 => ?_) (fun c408 => ?_)
          · have t409 : x407.toInt ≠ 1 := ti_ne c408 rfl (by decide)
            refine lv_iload_n hx hb dX12_orders_86 rfl (lv_at hl 4 rfl) ?_
            refine lv_istore (lv' := [(8, .int yr), (7, .int (nI i9)), (0, .ref o0), (1, .int 5), (2, .int us), (3, .int yr), (4, .int ca), (5, .int ic), (6, .int su)]) hx hb dX12_orders_87 hl (by decide) rfl (fun ls hl => ?_)
            refine lv_iload hx hb dX12_orders_89 (lv_at hl 6 rfl) ?_
            refine lv_istore (lv' := [(9, .int ca), (8, .int yr), (7, .int (nI i9)), (0, .ref o0), (1, .int 5), (2, .int us), (3, .int yr), (4, .int ca), (5, .int ic), (6, .int su)]) hx hb dX12_orders_91 hl (by decide) rfl (fun ls hl => ?_)
            have key654 : ∀ (n654 : Nat), ∀ (z520 : Int32), ∀ (z522 : Int32), (400 - z522.toInt < ((n654 : Nat) : Int)) → ((0 ≤ z520.toInt ∧ z520.toInt ≤ 21099999) ∧ (0 ≤ z522.toInt ∧ z522.toInt ≤ 201) ∧ (wtO yr.toInt ca.toInt ic.toInt (aC i9).toInt z522.toInt z520.toInt)) → ∀ (H : Heap) (locs : List Loc), gH (dC, dI) kA (SHm q (wP wZ wN wH wB wC wL wK wU wV) PI im PM PT lS lB lE lN) G H → gF (dC, dI) SKm G ([(0, 77), (76, 0), (77, 0)] : List (Nat × Nat)) s.heap H → va_S A s.heap H locs → ct H (q 70) 7 aC → ct H (q 71) 7 aY → ct H (q 72) 7 aB → ct H (q 73) 7 aA → ct H (q 75) 7 V14 → ct H (q 76) 7 V16 → el H o0 (dI 15 74) = some (.int jb) → el H o0 (dI 15 77) = some (.int z19) → ∀ ls : Array Slot, lv_has ls 10 [(9, .int z520), (8, .int z522), (7, .int (nI i9)), (0, .ref o0), (1, .int 5), (2, .int us), (3, .int yr), (4, .int ca), (5, .int ic), (6, .int su)] → W p l e (headSpec w_s_ordersC5 ({ frames := 2, cells := 0, slots := 0, locals := 58 })).room s m #[.ref o0, .int 5, .int us, .int yr, .int ca, .int ic, .int su] below meth c H locs 0 0 (MQ below (va_Qv (fun (u : Int32 × (Nat → Int32) × (Nat → Int32)) => match u with | (la1, vR1, vZ1) => (la1.toInt = (sx N 5 aC aY aB aA (bt us) yr.toInt ca.toInt ic.toInt su.toInt R a0).1 ∧ (0 ≤ (sx N 5 aC aY aB aA (bt us) yr.toInt ca.toInt ic.toInt su.toInt R a0).1 → ∀ k : Nat, k < N → (vZ1 k).toInt = (sx N 5 aC aY aB aA (bt us) yr.toInt ca.toInt ic.toInt su.toInt R a0).2 k) ∧ ∀ k : Nat, k < 5 → (vR1 k).toInt = R k)) (fun (u : Int32 × (Nat → Int32) × (Nat → Int32)) (t : State) => match u with | (la1, vR1, vZ1) => gH (dC, dI) kA (SHm q (wP wZ wN wH wB wC wL wK wU wV) PI im PM PT lS lB lE lN) G t.heap ∧ gF (dC, dI) SKm G ([(0, 77), (76, 0), (77, 0)] : List (Nat × Nat)) s.heap t.heap ∧ el t.heap o0 (dI 15 77) = some (.int la1) ∧ ct t.heap (q 75) 7 vR1 ∧ ct t.heap (q 76) 7 vZ1) A) #[.ref o0, .int 5, .int us, .int yr, .int ca, .int ic, .int su] s 0 0 A) (F0 m 93 ls []) := by
              intro n654
              induction n654 with
              | zero =>
                intro z520 z522 hv654 ⟨h521, h523, hj532⟩ H locs hT hF hS m524 m525 m526 m527 m528 m529 m530 m531 ls hl
                exfalso; have q9 := (show z522.toInt = z522.toInt from rfl); omega
              | succ n654 ih654 =>
                intro z520 z522 hv654 ⟨h521, h523, hj532⟩ H locs hT hF hS m524 m525 m526 m527 m528 m529 m530 m531 ls hl
                refine lv_iload hx hb dX12_orders_93 (lv_at hl 0 rfl) ?_
                refine lv_aload_n hx hb dX12_orders_95 rfl (lv_at hl 3 rfl) ?_
                refine tw_get hx hb hts bF_X12 hown hK hT hr_o0 shm_0 rfl 70 (by decide) (ht_at hts 1 rfl) (fun _ h9 => h9) dX12_orders_96 (fun v9 m655 h9 => ?_)
                obtain ⟨rfl, hg656⟩ := h9 _ rfl
                refine lv_iload hx hb dX12_orders_99 (lv_at hl 2 rfl) ?_
                refine tw_iald (i := (nI i9)) hx hb hK hT hg1 shm_71 rfl (vp_in_nI (by omega) (by decide)) dX12_orders_101 (fun v9 m657 h9 => ?_)
                obtain ⟨x658, rfl, gx658, kx658⟩ := h9
                have cx658 := m524.at m657 (by have q9 := tn_of (show (nI i9).toInt = ((i9 : Nat) : Int) from (nI_toInt (by omega))) (by omega); omega)
                have t659 : x658.toInt = (aC i9).toInt := congrArg Int32.toInt (cx658.trans (by rw [tn_nI (by omega)]))
                have t660 : 0 ≤ (aC i9).toInt ∧ (aC i9).toInt ≤ 1000000 := (hrg i9 (by omega)).1
                refine lv_icmp_ge (tgt := 126) hx hb dX12_orders_102 (by decide) (fun c661 => ?_) (fun c661 => ?_)
                · have t662 : x658.toInt ≤ z520.toInt := ti_le c661 rfl rfl
                  refine lv_iload hx hb dX12_orders_126 (lv_at hl 0 rfl) ?_
                  refine lv_aload_n hx hb dX12_orders_128 rfl (lv_at hl 3 rfl) ?_
                  refine tw_get hx hb hts bF_X12 hown hK hT hr_o0 shm_0 rfl 70 (by decide) (ht_at hts 1 rfl) (fun _ h9 => h9) dX12_orders_129 (fun v9 m663 h9 => ?_)
                  obtain ⟨rfl, hg664⟩ := h9 _ rfl
                  refine lv_iload hx hb dX12_orders_132 (lv_at hl 2 rfl) ?_
                  refine tw_iald (i := (nI i9)) hx hb hK hT hg1 shm_71 rfl (vp_in_nI (by omega) (by decide)) dX12_orders_134 (fun v9 m665 h9 => ?_)
                  obtain ⟨x666, rfl, gx666, kx666⟩ := h9
                  have cx666 := m524.at m665 (by have q9 := tn_of (show (nI i9).toInt = ((i9 : Nat) : Int) from (nI_toInt (by omega))) (by omega); omega)
                  obtain rfl : x658 = x666 := (el_same m665 m657 rfl).symm
                  refine lv_isub hx hb dX12_orders_135 ?_
                  refine lv_topi (fun x667 ex667 => ?_)
                  have t668 : x667.toInt = z520.toInt - x658.toInt := ti_sub ex667 rfl rfl (by omega) (by omega)
                  refine lv_istore (lv' := [(9, .int x667), (8, .int z522), (7, .int (nI i9)), (0, .ref o0), (1, .int 5), (2, .int us), (3, .int yr), (4, .int ca), (5, .int ic), (6, .int su)]) hx hb dX12_orders_136 hl (by decide) rfl (fun ls hl => ?_)
                  refine lv_iload hx hb dX12_orders_138 (lv_at hl 1 rfl) ?_
                  refine lv_aload_n hx hb dX12_orders_140 rfl (lv_at hl 3 rfl) ?_
                  refine tw_get hx hb hts bF_X12 hown hK hT hr_o0 shm_0 rfl 71 (by decide) (ht_at hts 2 rfl) (fun _ h9 => h9) dX12_orders_141 (fun v9 m669 h9 => ?_)
                  obtain ⟨rfl, hg670⟩ := h9 _ rfl
                  refine lv_iload hx hb dX12_orders_144 (lv_at hl 2 rfl) ?_
                  refine tw_iald (i := (nI i9)) hx hb hK hT hg2 shm_72 rfl (vp_in_nI (by omega) (by decide)) dX12_orders_146 (fun v9 m671 h9 => ?_)
                  obtain ⟨x672, rfl, gx672, kx672⟩ := h9
                  have cx672 := m525.at m671 (by have q9 := tn_of (show (nI i9).toInt = ((i9 : Nat) : Int) from (nI_toInt (by omega))) (by omega); omega)
                  have t673 : x672.toInt = (aY i9).toInt := congrArg Int32.toInt (cx672.trans (by rw [tn_nI (by omega)]))
                  have t674 : 1 ≤ (aY i9).toInt ∧ (aY i9).toInt ≤ 20 := (hrg i9 (by omega)).2.1
                  refine lv_iadd hx hb dX12_orders_147 ?_
                  refine lv_topi (fun x675 ex675 => ?_)
                  have t676 : x675.toInt = z522.toInt + x672.toInt := ti_add ex675 rfl rfl (by omega) (by omega)
                  refine lv_istore (lv' := [(8, .int x675), (9, .int x667), (7, .int (nI i9)), (0, .ref o0), (1, .int 5), (2, .int us), (3, .int yr), (4, .int ca), (5, .int ic), (6, .int su)]) hx hb dX12_orders_148 hl (by decide) rfl (fun ls hl => ?_)
                  refine lv_iload hx hb dX12_orders_150 (lv_at hl 1 rfl) ?_
                  refine lv_if_lt (tgt := 225) hx hb dX12_orders_152 (by decide) (fun c677 => ?_) (fun c677 => ?_)
                  · have t678 : x667.toInt < 0 := ti_lt c677 rfl (by decide)
                    refine lv_iinc (v := nI (i9 + 1)) (lv' := [(7, .int (nI (i9 + 1))), (8, .int x675), (9, .int x667), (0, .ref o0), (1, .int 5), (2, .int us), (3, .int yr), (4, .int ca), (5, .int ic), (6, .int su)]) hx hb dX12_orders_225 hl (k := 2) rfl (nI_add i9 1) (by decide) rfl (fun ls hl => ?_)
                    refine lv_goto (tgt := 64) hx hb dX12_orders_228 (by decide) ?_
                    have bk9 : z19.toInt = (slO N 5 aC aY aB aA (bt us) yr.toInt ca.toInt ic.toInt su.toInt R a0 (i9 + 1)).1 ∧ (0 ≤ (slO N 5 aC aY aB aA (bt us) yr.toInt ca.toInt ic.toInt su.toInt R a0 (i9 + 1)).1 → ∀ k : Nat, k < N → (V16 k).toInt = (slO N 5 aC aY aB aA (bt us) yr.toInt ca.toInt ic.toInt su.toInt R a0 (i9 + 1)).2 k) ∧ ∀ k : Nat, k < 5 → (V14 k).toInt = R k := by rw [sl_n (wt_none hj532 (by omega) (by omega))]; exact ⟨hj21, hj22, hj23⟩
                    exact ih399 (i9 + 1) (by omega) (by omega) V14 V16 z19 ⟨bk9.1, bk9.2.1, bk9.2.2, (by omega)⟩ _ _ hT hF hS m524 m525 m526 m527 m528 m529 m530 m531 ls (lv_sub hl [0, 3, 4, 5, 6, 7, 8, 9] rfl)
                  · have t679 : 0 ≤ x667.toInt := ti_nlt c677 rfl (by decide)
                    refine lv_iload hx hb dX12_orders_155 (lv_at hl 0 rfl) ?_
                    refine lv_sipush (v := 200) hx hb dX12_orders_157 (by decide) ?_
                    refine lv_icmp_le (tgt := 166) hx hb dX12_orders_160 (by decide) (fun c680 => ?_) (fun c680 => ?_)
                    · have t681 : x675.toInt ≤ 200 := ti_le c680 rfl (by decide)
                      refine lv_aload_n hx hb dX12_orders_166 rfl (lv_at hl 3 rfl) ?_
                      refine tw_get hx hb hts bF_X12 hown hK hT hr_o0 shm_0 rfl 75 (by decide) (ht_at hts 3 rfl) (fun _ h9 => h9) dX12_orders_167 (fun v9 m682 h9 => ?_)
                      obtain ⟨rfl, hg683⟩ := h9 _ rfl
                      refine lv_iload_n hx hb dX12_orders_170 rfl (lv_at hl 4 rfl) ?_
                      refine lv_iload hx hb dX12_orders_171 (lv_at hl 2 rfl) ?_
                      refine tw_iast (i := 5) (x := (nI i9)) hx hb hK hT hG hS hg5 shm_76 rfl (by unfold vp_in; decide) (gi_all _) dX12_orders_173 (fun H locs hT oq m684 oi hS => ?_)
                      have hF := hF.ast hg5 skm_76 oq (by decide)
                      have m685 := m524.kept (oq _ (gne hg1 hg5 (by decide)))
                      have m686 := m525.kept (oq _ (gne hg2 hg5 (by decide)))
                      have m687 := m526.kept (oq _ (gne hg3 hg5 (by decide)))
                      have m688 := m527.kept (oq _ (gne hg4 hg5 (by decide)))
                      have m689 := m528.put m684 oi
                      have m690 := m529.kept (oq _ (gne hg6 hg5 (by decide)))
                      have m691 := (el_kept (oq _ (gne hr_o0 hg5 (by decide)))).trans m530
                      have m692 := (el_kept (oq _ (gne hr_o0 hg5 (by decide)))).trans m531
                      have m693 := (el_kept (oq _ (gne hg1 hg5 (by decide)))).trans m657
                      have m694 := (el_kept (oq _ (gne hg2 hg5 (by decide)))).trans m671
                      refine lv_aload_n hx hb dX12_orders_174 rfl (lv_at hl 3 rfl) ?_
                      refine lv_iload_n hx hb dX12_orders_175 rfl (lv_at hl 4 rfl) ?_
                      refine lv_iconst (v := 1) hx hb dX12_orders_176 (by decide) ?_
                      refine lv_iadd hx hb dX12_orders_177 ?_
                      refine lv_topi (fun x695 ex695 => ?_)
                      obtain rfl : x695 = 6 := ex695.trans (by decide)
                      refine lv_iload_n hx hb dX12_orders_178 rfl (lv_at hl 5 rfl) ?_
                      refine lv_iconst (v := 1) hx hb dX12_orders_179 (by decide) ?_
                      refine lv_iload hx hb dX12_orders_180 (lv_at hl 2 rfl) ?_
                      refine lv_ishl hx hb dX12_orders_182 ?_
                      refine lv_topi (fun x696 ex696 => ?_)
                      refine lv_ior hx hb dX12_orders_183 ?_
                      refine lv_topi (fun x697 ex697 => ?_)
                      refine lv_iload hx hb dX12_orders_184 (lv_at hl 0 rfl) ?_
                      refine lv_iload hx hb dX12_orders_186 (lv_at hl 1 rfl) ?_
                      refine lv_iload hx hb dX12_orders_188 (lv_at hl 8 rfl) ?_
                      refine lv_aload_n hx hb dX12_orders_190 rfl (lv_at hl 3 rfl) ?_
                      refine tw_get hx hb hts bF_X12 hown hK hT hr_o0 shm_0 rfl 71 (by decide) (ht_at hts 2 rfl) (fun _ h9 => h9) dX12_orders_191 (fun v9 m698 h9 => ?_)
                      obtain ⟨rfl, hg699⟩ := h9 _ rfl
                      refine lv_iload hx hb dX12_orders_194 (lv_at hl 2 rfl) ?_
                      refine tw_iald (i := (nI i9)) hx hb hK hT hg2 shm_72 rfl (vp_in_nI (by omega) (by decide)) dX12_orders_196 (fun v9 m700 h9 => ?_)
                      obtain ⟨x701, rfl, gx701, kx701⟩ := h9
                      have cx701 := m686.at m700 (by have q9 := tn_of (show (nI i9).toInt = ((i9 : Nat) : Int) from (nI_toInt (by omega))) (by omega); omega)
                      obtain rfl : x672 = x701 := (el_same m700 m694 rfl).symm
                      refine lv_imul hx hb dX12_orders_197 ?_
                      refine lv_topi (fun x702 ex702 => ?_)
                      have t703 : x702.toInt = ic.toInt * x672.toInt := ti_mulx ex702 rfl rfl (A := 500000) (B := 20) (by omega) (by omega) (by omega) (by omega) (by decide)
                      have t704 : 0 ≤ x702.toInt ∧ x702.toInt ≤ 500000 * 20 ∧ (ic.toInt = 0 → x702.toInt = 0) ∧ (x672.toInt = 0 → x702.toInt = 0) ∧ x702.toInt ≤ ic.toInt * 20 ∧ x702.toInt ≤ 500000 * x672.toInt := ti_mulnn ex702 rfl rfl (by omega) (by omega) (by omega) (by omega) (by decide)
                      refine lv_iadd hx hb dX12_orders_198 ?_
                      refine lv_topi (fun x705 ex705 => ?_)
                      have t706 : x705.toInt = x667.toInt + x702.toInt := ti_add ex705 rfl rfl (by omega) (by omega)
                      refine lv_iload hx hb dX12_orders_199 (lv_at hl 8 rfl) ?_
                      refine lv_aload_n hx hb dX12_orders_201 rfl (lv_at hl 3 rfl) ?_
                      refine tw_get hx hb hts bF_X12 hown hK hT hr_o0 shm_0 rfl 72 (by decide) (ht_at hts 4 rfl) (fun _ h9 => h9) dX12_orders_202 (fun v9 m707 h9 => ?_)
                      obtain ⟨rfl, hg708⟩ := h9 _ rfl
                      refine lv_iload hx hb dX12_orders_205 (lv_at hl 2 rfl) ?_
                      refine tw_iald (i := (nI i9)) hx hb hK hT hg3 shm_73 rfl (vp_in_nI (by omega) (by decide)) dX12_orders_207 (fun v9 m709 h9 => ?_)
                      obtain ⟨x710, rfl, gx710, kx710⟩ := h9
                      have cx710 := m687.at m709 (by have q9 := tn_of (show (nI i9).toInt = ((i9 : Nat) : Int) from (nI_toInt (by omega))) (by omega); omega)
                      have t711 : x710.toInt = (aB i9).toInt := congrArg Int32.toInt (cx710.trans (by rw [tn_nI (by omega)]))
                      have t712 : 0 ≤ (aB i9).toInt ∧ (aB i9).toInt ≤ 100000 := (hrg i9 (by omega)).2.2.1
                      refine lv_iadd hx hb dX12_orders_208 ?_
                      refine lv_topi (fun x713 ex713 => ?_)
                      have t714 : x713.toInt = ic.toInt + x710.toInt := ti_add ex713 rfl rfl (by omega) (by omega)
                      refine lv_iload hx hb dX12_orders_209 (lv_at hl 9 rfl) ?_
                      refine lv_aload_n hx hb dX12_orders_211 rfl (lv_at hl 3 rfl) ?_
                      refine tw_get hx hb hts bF_X12 hown hK hT hr_o0 shm_0 rfl 73 (by decide) (ht_at hts 5 rfl) (fun _ h9 => h9) dX12_orders_212 (fun v9 m715 h9 => ?_)
                      obtain ⟨rfl, hg716⟩ := h9 _ rfl
                      refine lv_iload hx hb dX12_orders_215 (lv_at hl 2 rfl) ?_
                      refine tw_iald (i := (nI i9)) hx hb hK hT hg4 shm_74 rfl (vp_in_nI (by omega) (by decide)) dX12_orders_217 (fun v9 m717 h9 => ?_)
                      obtain ⟨x718, rfl, gx718, kx718⟩ := h9
                      have cx718 := m688.at m717 (by have q9 := tn_of (show (nI i9).toInt = ((i9 : Nat) : Int) from (nI_toInt (by omega))) (by omega); omega)
                      have t719 : x718.toInt = (aA i9).toInt := congrArg Int32.toInt (cx718.trans (by rw [tn_nI (by omega)]))
                      have t720 : 0 ≤ (aA i9).toInt ∧ (aA i9).toInt ≤ 1000 := (hrg i9 (by omega)).2.2.2
                      refine lv_iload hx hb dX12_orders_218 (lv_at hl 0 rfl) ?_
                      refine lv_imul hx hb dX12_orders_220 ?_
                      refine lv_topi (fun x721 ex721 => ?_)
                      have t722 : x721.toInt = x718.toInt * x675.toInt := ti_mulx ex721 rfl rfl (A := 1000) (B := 200) (by omega) (by omega) (by omega) (by omega) (by decide)
                      have t723 : 0 ≤ x721.toInt ∧ x721.toInt ≤ 1000 * 200 ∧ (x718.toInt = 0 → x721.toInt = 0) ∧ (x675.toInt = 0 → x721.toInt = 0) ∧ x721.toInt ≤ x718.toInt * 200 ∧ x721.toInt ≤ 1000 * x675.toInt := ti_mulnn ex721 rfl rfl (by omega) (by omega) (by omega) (by omega) (by decide)
                      refine lv_iadd hx hb dX12_orders_221 ?_
                      refine lv_topi (fun x724 ex724 => ?_)
                      have t725 : x724.toInt = su.toInt + x721.toInt := ti_add ex724 rfl rfl (by omega) (by omega)
                      have hFc := gA_free hG hA hS
                      refine va_callv (va_runV (As := [.int 6, .int x697, .int x675, .int x705, .int x713, .int x724]) (rest := []) ⟨hx, hb, hml, hown, hts⟩ (s_ordersC6 l dC dI kA adK adV G H q wZ wN wH wB wC wL wK wU wV PI im PM PT lS lB lE lN o0 x697 x675 x705 x713 x724 jb z19 aC aY aB aA (cu V14 (5 : Int32).toNatClampNeg (nI i9)) V16 N (fun k => if k = 5 then ((i9 : Nat) : Int) else R k) (slO N 5 aC aY aB aA (bt us) yr.toInt ca.toInt ic.toInt su.toInt R a0 i9) hT hr_o0 m691 m692 (by have q8 := ti_all x675; omega) (by have q8 := ti_all x705; omega) (by have q8 := ti_all x713; omega) (by have q8 := ti_all x724; omega) (by have q8 := ti_all jb; omega) hN hrg hj21 hj22 (rr_s (K := 5) rfl (by decide) (nI_toInt (by omega)) hj23) m685 m686 m687 m688 m689 m690 hgz hgn hgh hgb hgc hgi hgu) (cwV 6 hts (goodIn_app (goodIn_r _ [10, 11, 12, 13] rfl (by decide +kernel)) (goodIn_ca (goodIn_r _ [7, 1, 2, 3, 4, 5, 6, 7, 8, 9, 10, 11, 12, 13] rfl (by decide +kernel)) (bs_in _ _))) rfl rfl rfl (by decide +kernel) ⟨(Nat.le_of_ble_eq_true rfl), (Nat.le_of_ble_eq_true rfl)⟩) ⟨fun a U g mk q => by obtain ⟨q0, q1, qK, qE⟩ := q; exact ⟨q0, q1, va_K.moved (u := U) (U := U.calling g mk a) (Vm.Alike.refl U.vm) qK, EVS.blind g mk a qE⟩, gH_recv hK hT hr_o0 shm_0 rfl, fun U hU hW => ⟨rfl, hU, va_K.moved hW.alike hK, hE.call hS hFc hU hW⟩⟩ rfl rfl hl.1 rfl (lv_room (Nat.le_of_ble_eq_true rfl)) dX12_orders_222 ⟨(Nat.le_of_ble_eq_true rfl), (Nat.le_of_ble_eq_true rfl)⟩) hS (fun q _ h => hFc q h) hFc (fun u t H locs ht hvm hw727 hB _ _ hS => ?_)
                      obtain ⟨u728, u729, u730⟩ := u
                      obtain ⟨hT, hF1, m731, m732, m733⟩ := hB
                      rw [ht] at hT hF1 m731 m732 m733
                      have m734 := m685.kept (hF1.arr hg1 skm_71 (by decide))
                      have m735 := m686.kept (hF1.arr hg2 skm_72 (by decide))
                      have m736 := m687.kept (hF1.arr hg3 skm_73 (by decide))
                      have m737 := m688.kept (hF1.arr hg4 skm_74 (by decide))
                      have m740 := (hF1.fld hr_o0 skm_0 (k := 74) (by decide) (by decide)).trans m691
                      have m742 := (el_kept (hF1.arr hg1 skm_71 (by decide))).trans m693
                      have m743 := (el_kept (hF1.arr hg2 skm_72 (by decide))).trans m694
                      have m745 := (el_kept (hF1.arr hg3 skm_73 (by decide))).trans m709
                      have m746 := (el_kept (hF1.arr hg4 skm_74 (by decide))).trans m717
                      have hF := hF.more hF1 (by decide)
                      try dsimp only at hw727
                      have hf747 := hw727
                      refine lv_iinc (v := nI (i9 + 1)) (lv' := [(7, .int (nI (i9 + 1))), (8, .int x675), (9, .int x667), (0, .ref o0), (1, .int 5), (2, .int us), (3, .int yr), (4, .int ca), (5, .int ic), (6, .int su)]) hx hb dX12_orders_225 hl (k := 2) rfl (nI_add i9 1) (by decide) rfl (fun ls hl => ?_)
                      refine lv_goto (tgt := 64) hx hb dX12_orders_228 (by decide) ?_
                      have bk9 : u728.toInt = (slO N 5 aC aY aB aA (bt us) yr.toInt ca.toInt ic.toInt su.toInt R a0 (i9 + 1)).1 ∧ (0 ≤ (slO N 5 aC aY aB aA (bt us) yr.toInt ca.toInt ic.toInt su.toInt R a0 (i9 + 1)).1 → ∀ k : Nat, k < N → (u730 k).toInt = (slO N 5 aC aY aB aA (bt us) yr.toInt ca.toInt ic.toInt su.toInt R a0 (i9 + 1)).2 k) ∧ ∀ k : Nat, k < 5 → (u729 k).toInt = R k := by have q9 := hf747; rw [sl_call (N := N) (K := 5) (K1 := 6) (aC := aC) (aY := aY) (aB := aB) (aA := aA) (U := bt us) (yr := yr.toInt) (ca := ca.toInt) (ic := ic.toInt) (su := su.toInt) (R := R) (a := a0) (i := i9) (d := x675.toInt) (c1 := x705.toInt) (i1 := x713.toInt) (s1 := x724.toInt) (U1 := bt x697) rfl (hbt.2 (by omega)) (wt_some hj532 (by omega) (by omega) (by omega)) (bt_or (by omega) ex696 ex697) (by have q8 := wt_cash (d := x675.toInt) (z := x702.toInt) (last := x672.toInt) hj532 (by omega) (by omega); omega) (by omega) (by rw [show (aA i9).toInt = x718.toInt from by omega]; omega)] at q9; exact ⟨q9.1, q9.2.1, fun k hk => (q9.2.2 k (by omega)).trans (if_neg (by omega))⟩
                      exact ih399 (i9 + 1) (by omega) (by omega) u729 u730 u728 ⟨bk9.1, bk9.2.1, bk9.2.2, (by omega)⟩ _ _ hT hF hS m734 m735 m736 m737 m732 m733 m740 m731 ls (lv_sub hl [0, 3, 4, 5, 6, 7, 8, 9] rfl)
                    · have t748 : 200 < x675.toInt := ti_nle c680 rfl (by decide)
                      refine lv_goto (tgt := 225) hx hb dX12_orders_163 (by decide) ?_
                      refine lv_iinc (v := nI (i9 + 1)) (lv' := [(7, .int (nI (i9 + 1))), (8, .int x675), (9, .int x667), (0, .ref o0), (1, .int 5), (2, .int us), (3, .int yr), (4, .int ca), (5, .int ic), (6, .int su)]) hx hb dX12_orders_225 hl (k := 2) rfl (nI_add i9 1) (by decide) rfl (fun ls hl => ?_)
                      refine lv_goto (tgt := 64) hx hb dX12_orders_228 (by decide) ?_
                      have bk9 : z19.toInt = (slO N 5 aC aY aB aA (bt us) yr.toInt ca.toInt ic.toInt su.toInt R a0 (i9 + 1)).1 ∧ (0 ≤ (slO N 5 aC aY aB aA (bt us) yr.toInt ca.toInt ic.toInt su.toInt R a0 (i9 + 1)).1 → ∀ k : Nat, k < N → (V16 k).toInt = (slO N 5 aC aY aB aA (bt us) yr.toInt ca.toInt ic.toInt su.toInt R a0 (i9 + 1)).2 k) ∧ ∀ k : Nat, k < 5 → (V14 k).toInt = R k := by rw [sl_n (wt_none hj532 (by omega) (by omega))]; exact ⟨hj21, hj22, hj23⟩
                      exact ih399 (i9 + 1) (by omega) (by omega) V14 V16 z19 ⟨bk9.1, bk9.2.1, bk9.2.2, (by omega)⟩ _ _ hT hF hS m524 m525 m526 m527 m528 m529 m530 m531 ls (lv_sub hl [0, 3, 4, 5, 6, 7, 8, 9] rfl)
                · have t749 : z520.toInt < x658.toInt := ti_nle c661 rfl rfl
                  refine lv_iload hx hb dX12_orders_105 (lv_at hl 1 rfl) ?_
                  refine lv_sipush (v := 200) hx hb dX12_orders_107 (by decide) ?_
                  refine lv_icmp_gt (tgt := 126) hx hb dX12_orders_110 (by decide) (fun c750 => ?_) (fun c750 => ?_)
                  · have t751 : 200 < z522.toInt := ti_lt c750 (by decide) rfl
                    refine lv_iload hx hb dX12_orders_126 (lv_at hl 0 rfl) ?_
                    refine lv_aload_n hx hb dX12_orders_128 rfl (lv_at hl 3 rfl) ?_
                    refine tw_get hx hb hts bF_X12 hown hK hT hr_o0 shm_0 rfl 70 (by decide) (ht_at hts 1 rfl) (fun _ h9 => h9) dX12_orders_129 (fun v9 m752 h9 => ?_)
                    obtain ⟨rfl, hg753⟩ := h9 _ rfl
                    refine lv_iload hx hb dX12_orders_132 (lv_at hl 2 rfl) ?_
                    refine tw_iald (i := (nI i9)) hx hb hK hT hg1 shm_71 rfl (vp_in_nI (by omega) (by decide)) dX12_orders_134 (fun v9 m754 h9 => ?_)
                    obtain ⟨x755, rfl, gx755, kx755⟩ := h9
                    have cx755 := m524.at m754 (by have q9 := tn_of (show (nI i9).toInt = ((i9 : Nat) : Int) from (nI_toInt (by omega))) (by omega); omega)
                    obtain rfl : x658 = x755 := (el_same m754 m657 rfl).symm
                    refine lv_isub hx hb dX12_orders_135 ?_
                    refine lv_topi (fun x756 ex756 => ?_)
                    have t757 : x756.toInt = z520.toInt - x658.toInt := ti_sub ex756 rfl rfl (by omega) (by omega)
                    refine lv_istore (lv' := [(9, .int x756), (8, .int z522), (7, .int (nI i9)), (0, .ref o0), (1, .int 5), (2, .int us), (3, .int yr), (4, .int ca), (5, .int ic), (6, .int su)]) hx hb dX12_orders_136 hl (by decide) rfl (fun ls hl => ?_)
                    refine lv_iload hx hb dX12_orders_138 (lv_at hl 1 rfl) ?_
                    refine lv_aload_n hx hb dX12_orders_140 rfl (lv_at hl 3 rfl) ?_
                    refine tw_get hx hb hts bF_X12 hown hK hT hr_o0 shm_0 rfl 71 (by decide) (ht_at hts 2 rfl) (fun _ h9 => h9) dX12_orders_141 (fun v9 m758 h9 => ?_)
                    obtain ⟨rfl, hg759⟩ := h9 _ rfl
                    refine lv_iload hx hb dX12_orders_144 (lv_at hl 2 rfl) ?_
                    refine tw_iald (i := (nI i9)) hx hb hK hT hg2 shm_72 rfl (vp_in_nI (by omega) (by decide)) dX12_orders_146 (fun v9 m760 h9 => ?_)
                    obtain ⟨x761, rfl, gx761, kx761⟩ := h9
                    have cx761 := m525.at m760 (by have q9 := tn_of (show (nI i9).toInt = ((i9 : Nat) : Int) from (nI_toInt (by omega))) (by omega); omega)
                    have t762 : x761.toInt = (aY i9).toInt := congrArg Int32.toInt (cx761.trans (by rw [tn_nI (by omega)]))
                    have t763 : 1 ≤ (aY i9).toInt ∧ (aY i9).toInt ≤ 20 := (hrg i9 (by omega)).2.1
                    refine lv_iadd hx hb dX12_orders_147 ?_
                    refine lv_topi (fun x764 ex764 => ?_)
                    have t765 : x764.toInt = z522.toInt + x761.toInt := ti_add ex764 rfl rfl (by omega) (by omega)
                    refine lv_istore (lv' := [(8, .int x764), (9, .int x756), (7, .int (nI i9)), (0, .ref o0), (1, .int 5), (2, .int us), (3, .int yr), (4, .int ca), (5, .int ic), (6, .int su)]) hx hb dX12_orders_148 hl (by decide) rfl (fun ls hl => ?_)
                    refine lv_iload hx hb dX12_orders_150 (lv_at hl 1 rfl) ?_
                    refine lv_if_lt (tgt := 225) hx hb dX12_orders_152 (by decide) (fun c766 => ?_) (fun c766 => ?_)
                    · have t767 : x756.toInt < 0 := ti_lt c766 rfl (by decide)
                      refine lv_iinc (v := nI (i9 + 1)) (lv' := [(7, .int (nI (i9 + 1))), (8, .int x764), (9, .int x756), (0, .ref o0), (1, .int 5), (2, .int us), (3, .int yr), (4, .int ca), (5, .int ic), (6, .int su)]) hx hb dX12_orders_225 hl (k := 2) rfl (nI_add i9 1) (by decide) rfl (fun ls hl => ?_)
                      refine lv_goto (tgt := 64) hx hb dX12_orders_228 (by decide) ?_
                      have bk9 : z19.toInt = (slO N 5 aC aY aB aA (bt us) yr.toInt ca.toInt ic.toInt su.toInt R a0 (i9 + 1)).1 ∧ (0 ≤ (slO N 5 aC aY aB aA (bt us) yr.toInt ca.toInt ic.toInt su.toInt R a0 (i9 + 1)).1 → ∀ k : Nat, k < N → (V16 k).toInt = (slO N 5 aC aY aB aA (bt us) yr.toInt ca.toInt ic.toInt su.toInt R a0 (i9 + 1)).2 k) ∧ ∀ k : Nat, k < 5 → (V14 k).toInt = R k := by rw [sl_n (wt_none hj532 (by omega) (by omega))]; exact ⟨hj21, hj22, hj23⟩
                      exact ih399 (i9 + 1) (by omega) (by omega) V14 V16 z19 ⟨bk9.1, bk9.2.1, bk9.2.2, (by omega)⟩ _ _ hT hF hS m524 m525 m526 m527 m528 m529 m530 m531 ls (lv_sub hl [0, 3, 4, 5, 6, 7, 8, 9] rfl)
                    · have t768 : 0 ≤ x756.toInt := ti_nlt c766 rfl (by decide)
                      refine lv_iload hx hb dX12_orders_155 (lv_at hl 0 rfl) ?_
                      refine lv_sipush (v := 200) hx hb dX12_orders_157 (by decide) ?_
                      refine lv_icmp_le (tgt := 166) hx hb dX12_orders_160 (by decide) (fun c769 => (by exfalso; have q9 : x764.toInt ≤ 200 := ti_le c769 rfl (by decide); omega)) (fun c769 => ?_)
                      have t770 : 200 < x764.toInt := ti_nle c769 rfl (by decide)
                      refine lv_goto (tgt := 225) hx hb dX12_orders_163 (by decide) ?_
                      refine lv_iinc (v := nI (i9 + 1)) (lv' := [(7, .int (nI (i9 + 1))), (8, .int x764), (9, .int x756), (0, .ref o0), (1, .int 5), (2, .int us), (3, .int yr), (4, .int ca), (5, .int ic), (6, .int su)]) hx hb dX12_orders_225 hl (k := 2) rfl (nI_add i9 1) (by decide) rfl (fun ls hl => ?_)
                      refine lv_goto (tgt := 64) hx hb dX12_orders_228 (by decide) ?_
                      have bk9 : z19.toInt = (slO N 5 aC aY aB aA (bt us) yr.toInt ca.toInt ic.toInt su.toInt R a0 (i9 + 1)).1 ∧ (0 ≤ (slO N 5 aC aY aB aA (bt us) yr.toInt ca.toInt ic.toInt su.toInt R a0 (i9 + 1)).1 → ∀ k : Nat, k < N → (V16 k).toInt = (slO N 5 aC aY aB aA (bt us) yr.toInt ca.toInt ic.toInt su.toInt R a0 (i9 + 1)).2 k) ∧ ∀ k : Nat, k < 5 → (V14 k).toInt = R k := by rw [sl_n (wt_none hj532 (by omega) (by omega))]; exact ⟨hj21, hj22, hj23⟩
                      exact ih399 (i9 + 1) (by omega) (by omega) V14 V16 z19 ⟨bk9.1, bk9.2.1, bk9.2.2, (by omega)⟩ _ _ hT hF hS m524 m525 m526 m527 m528 m529 m530 m531 ls (lv_sub hl [0, 3, 4, 5, 6, 7, 8, 9] rfl)
                  · have t771 : z522.toInt ≤ 200 := ti_nlt c750 (by decide) rfl
                    obtain ⟨x772, ex772⟩ : ∃ y : Int32, y = z522 + 1 := ⟨_, rfl⟩
                    have t773 : x772.toInt = z522.toInt + 1 := ti_add ex772 rfl (by decide) (by omega) (by omega)
                    refine lv_iinc (v := x772) (lv' := [(8, .int x772), (9, .int z520), (7, .int (nI i9)), (0, .ref o0), (1, .int 5), (2, .int us), (3, .int yr), (4, .int ca), (5, .int ic), (6, .int su)]) hx hb dX12_orders_113 hl (k := 1) rfl (by first | (rw [ex772]; done) | (rw [ex772]; rfl)) (by decide) rfl (fun ls hl => ?_)
                    refine lv_iload hx hb dX12_orders_116 (lv_at hl 1 rfl) ?_
                    refine lv_iload hx hb dX12_orders_118 (lv_at hl 8 rfl) ?_
                    refine lv_iadd hx hb dX12_orders_120 ?_
                    refine lv_topi (fun x774 ex774 => ?_)
                    have t775 : x774.toInt = z520.toInt + ic.toInt := ti_add ex774 rfl rfl (by omega) (by omega)
                    refine lv_istore (lv' := [(9, .int x774), (8, .int x772), (7, .int (nI i9)), (0, .ref o0), (1, .int 5), (2, .int us), (3, .int yr), (4, .int ca), (5, .int ic), (6, .int su)]) hx hb dX12_orders_121 hl (by decide) rfl (fun ls hl => ?_)
                    refine lv_goto (tgt := 93) hx hb dX12_orders_123 (by decide) ?_
                    exact ih654 x774 x772 (by have q9 := (show x772.toInt = x772.toInt from rfl); omega) ⟨(by have q8 := ti_all x774; omega), (by have q8 := ti_all x772; omega), (wt_s hj532 (by omega) (by omega) (by omega))⟩ _ _ hT hF hS m524 m525 m526 m527 m528 m529 m530 m531 ls (lv_sub hl [0, 1, 2, 3, 4, 5, 6, 7, 8, 9] rfl)
            exact key654 401 ca yr (by have q9 := (show yr.toInt = yr.toInt from rfl); omega) ⟨(by have q8 := ti_all ca; omega), (by have q8 := ti_all yr; omega), (wt_0 (by omega) (by omega))⟩ _ _ hT hF hS m10 m11 m12 m13 m15 m17 m18 m20 ls (lv_sub hl [0, 1, 2, 3, 4, 5, 6, 7, 8, 9] rfl)
          · have t776 : x407.toInt = 1 := ti_eq c408 rfl (by decide)
            refine lv_goto (tgt := 225) hx hb dX12_orders_83 (by decide) ?_
            refine lv_iinc (v := nI (i9 + 1)) (lv' := [(7, .int (nI (i9 + 1))), (0, .ref o0), (1, .int 5), (2, .int us), (3, .int yr), (4, .int ca), (5, .int ic), (6, .int su)]) hx hb dX12_orders_225 hl (k := 0) rfl (nI_add i9 1) (by decide) rfl (fun ls hl => ?_)
            refine lv_goto (tgt := 64) hx hb dX12_orders_228 (by decide) ?_
            have bk9 : z19.toInt = (slO N 5 aC aY aB aA (bt us) yr.toInt ca.toInt ic.toInt su.toInt R a0 (i9 + 1)).1 ∧ (0 ≤ (slO N 5 aC aY aB aA (bt us) yr.toInt ca.toInt ic.toInt su.toInt R a0 (i9 + 1)).1 → ∀ k : Nat, k < N → (V16 k).toInt = (slO N 5 aC aY aB aA (bt us) yr.toInt ca.toInt ic.toInt su.toInt R a0 (i9 + 1)).2 k) ∧ ∀ k : Nat, k < 5 → (V14 k).toInt = R k := by rw [sl_u (hbt.1 (by omega))]; exact ⟨hj21, hj22, hj23⟩
            exact ih399 (i9 + 1) (by omega) (by omega) V14 V16 z19 ⟨bk9.1, bk9.2.1, bk9.2.2, (by omega)⟩ _ _ hT hF hS m10 m11 m12 m13 m15 m17 m18 m20 ls (lv_sub hl [0, 1, 2, 3, 4, 5, 6, 7] rfl)
    exact key399 (7 - 0) 0 (by omega) (Nat.le_refl _) vR vZ la ⟨hla, hZ0, hR, (by omega)⟩ _ _ hT hF hS hc_aC hc_aY hc_aB hc_aA hc_vR hc_vZ hm_jb hm_la ls (lv_sub hl [0, 1, 2, 3, 4, 5, 6, 7] rfl)
  · have t777 : 5 = jb.toInt := ti_eq c7 (by decide) rfl
    refine lv_aload_n hx hb dX12_orders_8 rfl (lv_at hl 0 rfl) ?_
    refine tw_getM (v := .int la) hx hb hts bF_X12 hown hK hT hr_o0 shm_0 rfl 77 (by decide) (ht_at hts 7 rfl) (fun _ h9 => h9) hm_la dX12_orders_9 ?_
    refine lv_if_lt (tgt := 25) hx hb dX12_orders_12 (by decide) (fun c778 => ?_) (fun c778 => ?_)
    · have t779 : la.toInt < 0 := ti_lt c778 rfl (by decide)
      refine lv_aload_n hx hb dX12_orders_25 rfl (lv_at hl 0 rfl) ?_
      refine lv_iload hx hb dX12_orders_26 (lv_at hl 6 rfl) ?_
      refine tw_put (v := .int su) (ty := .int) hx hb hts bF_X12 tyX12 tyX12_ok nmX12 hown hK hT hG hS hr_o0 shm_0 rfl 77 (by decide) (ht_at hts 7 rfl) (fun _ h9 => h9) rfl (by decide +kernel) rfl rfl (gl_at rfl (gi_all _)) dX12_orders_28 (fun H locs hT oq m780 oj hS => ?_)
      have hF := hF.put hr_o0 skm_0 oq oj (by decide)
      have m781 := (oj 74 (by decide) (by decide)).trans hm_jb
      have m782 := hc_aC.kept (oq _ (gne hg1 hr_o0 (by decide)))
      have m783 := hc_aY.kept (oq _ (gne hg2 hr_o0 (by decide)))
      have m784 := hc_aB.kept (oq _ (gne hg3 hr_o0 (by decide)))
      have m785 := hc_aA.kept (oq _ (gne hg4 hr_o0 (by decide)))
      have m786 := hc_vR.kept (oq _ (gne hg5 hr_o0 (by decide)))
      have m787 := hc_vZ.kept (oq _ (gne hg6 hr_o0 (by decide)))
      refine lv_iconst (v := 0) hx hb dX12_orders_31 (by decide) ?_
      refine lv_istore (lv' := [(7, .int 0), (0, .ref o0), (1, .int 5), (2, .int us), (3, .int yr), (4, .int ca), (5, .int ic), (6, .int su)]) hx hb dX12_orders_32 hl (by decide) rfl (fun ls hl => ?_)
      have key817 : ∀ (n817 i788 : Nat), i788 + n817 = 5 → 0 ≤ i788 → ∀ (V794 : Nat → Int32), ((∀ k : Nat, k < i788 → (V794 k).toInt = R k)) → ∀ (H : Heap) (locs : List Loc), gH (dC, dI) kA (SHm q (wP wZ wN wH wB wC wL wK wU wV) PI im PM PT lS lB lE lN) G H → gF (dC, dI) SKm G ([(0, 77), (76, 0), (77, 0)] : List (Nat × Nat)) s.heap H → va_S A s.heap H locs → ct H (q 70) 7 aC → ct H (q 71) 7 aY → ct H (q 72) 7 aB → ct H (q 73) 7 aA → ct H (q 75) 7 vR → ct H (q 76) 7 V794 → el H o0 (dI 15 74) = some (.int jb) → el H o0 (dI 15 77) = some (.int su) → ∀ ls : Array Slot, lv_has ls 10 [(7, .int (nI i788)), (0, .ref o0), (1, .int 5), (2, .int us), (3, .int yr), (4, .int ca), (5, .int ic), (6, .int su)] → W p l e (headSpec w_s_ordersC5 ({ frames := 2, cells := 0, slots := 0, locals := 58 })).room s m #[.ref o0, .int 5, .int us, .int yr, .int ca, .int ic, .int su] below meth c H locs 0 0 (MQ below (va_Qv (fun (u : Int32 × (Nat → Int32) × (Nat → Int32)) => match u with | (la1, vR1, vZ1) => (la1.toInt = (sx N 5 aC aY aB aA (bt us) yr.toInt ca.toInt ic.toInt su.toInt R a0).1 ∧ (0 ≤ (sx N 5 aC aY aB aA (bt us) yr.toInt ca.toInt ic.toInt su.toInt R a0).1 → ∀ k : Nat, k < N → (vZ1 k).toInt = (sx N 5 aC aY aB aA (bt us) yr.toInt ca.toInt ic.toInt su.toInt R a0).2 k) ∧ ∀ k : Nat, k < 5 → (vR1 k).toInt = R k)) (fun (u : Int32 × (Nat → Int32) × (Nat → Int32)) (t : State) => match u with | (la1, vR1, vZ1) => gH (dC, dI) kA (SHm q (wP wZ wN wH wB wC wL wK wU wV) PI im PM PT lS lB lE lN) G t.heap ∧ gF (dC, dI) SKm G ([(0, 77), (76, 0), (77, 0)] : List (Nat × Nat)) s.heap t.heap ∧ el t.heap o0 (dI 15 77) = some (.int la1) ∧ ct t.heap (q 75) 7 vR1 ∧ ct t.heap (q 76) 7 vZ1) A) #[.ref o0, .int 5, .int us, .int yr, .int ca, .int ic, .int su] s 0 0 A) (F0 m 34 ls []) := by
        intro n817
        induction n817 with
        | zero =>
          intro i788 hn817 hlo818 V794 hj798 H locs hT hF hS m789 m790 m791 m792 m793 m795 m796 m797 ls hl
          obtain rfl : 5 = i788 := by omega
          refine lv_iload hx hb dX12_orders_34 (lv_at hl 0 rfl) ?_
          refine lv_iload_n hx hb dX12_orders_36 rfl (lv_at hl 2 rfl) ?_
          refine lv_icmp_ge (tgt := 60) hx hb dX12_orders_37 (by decide) (fun c819 => ?_) (fun c819 => (by exfalso; have q9 : ((5 : Nat) : Int) < 5 := ti_nle c819 (by decide) (nI_toInt (by omega)); omega))
          have t820 : 5 ≤ ((5 : Nat) : Int) := ti_le c819 (by decide) (nI_toInt (by omega))
          exact W.vret hx hb hr (fun t ht hW => ⟨⟨(su, vR, V794), rfl, (by exact (by (try dsimp only); have e9 : N = 5 := (by omega); rw [sx_0 e9, if_neg (by omega)]; exact ⟨rfl, fun _ k hk => hj798 k (by omega), hR⟩)), by (try dsimp only); rw [ht]; exact ⟨hT, hF, m797, m793, m795⟩⟩, hS.F ht⟩) hS.2.2 dX12_orders_60
        | succ n817 ih817 =>
          intro i788 hn817 hlo818 V794 hj798 H locs hT hF hS m789 m790 m791 m792 m793 m795 m796 m797 ls hl
          have hlt820 : i788 < 5 := by omega
          refine lv_iload hx hb dX12_orders_34 (lv_at hl 0 rfl) ?_
          refine lv_iload_n hx hb dX12_orders_36 rfl (lv_at hl 2 rfl) ?_
          refine lv_icmp_ge (tgt := 60) hx hb dX12_orders_37 (by decide) (fun c821 => (by exfalso; have q9 : 5 ≤ ((i788 : Nat) : Int) := ti_le c821 (by decide) (nI_toInt (by omega)); omega)) (fun c821 => ?_)
          have t822 : ((i788 : Nat) : Int) < 5 := ti_nle c821 (by decide) (nI_toInt (by omega))
          refine lv_aload_n hx hb dX12_orders_40 rfl (lv_at hl 1 rfl) ?_
          refine tw_get hx hb hts bF_X12 hown hK hT hr_o0 shm_0 rfl 76 (by decide) (ht_at hts 8 rfl) (fun _ h9 => h9) dX12_orders_41 (fun v9 m823 h9 => ?_)
          obtain ⟨rfl, hg824⟩ := h9 _ rfl
          refine lv_iload hx hb dX12_orders_44 (lv_at hl 0 rfl) ?_
          refine lv_aload_n hx hb dX12_orders_46 rfl (lv_at hl 1 rfl) ?_
          refine tw_get hx hb hts bF_X12 hown hK hT hr_o0 shm_0 rfl 75 (by decide) (ht_at hts 3 rfl) (fun _ h9 => h9) dX12_orders_47 (fun v9 m825 h9 => ?_)
          obtain ⟨rfl, hg826⟩ := h9 _ rfl
          refine lv_iload hx hb dX12_orders_50 (lv_at hl 0 rfl) ?_
          refine tw_iald (i := (nI i788)) hx hb hK hT hg5 shm_76 rfl (vp_in_nI (by omega) (by decide)) dX12_orders_52 (fun v9 m827 h9 => ?_)
          obtain ⟨x828, rfl, gx828, kx828⟩ := h9
          have cx828 := m793.at m827 (by have q9 := tn_of (show (nI i788).toInt = ((i788 : Nat) : Int) from (nI_toInt (by omega))) (by omega); omega)
          refine tw_iast (i := (nI i788)) (x := x828) hx hb hK hT hG hS hg6 shm_77 rfl (vp_in_nI (by omega) (by decide)) (gi_all _) dX12_orders_53 (fun H locs hT oq m829 oi hS => ?_)
          have hF := hF.ast hg6 skm_77 oq (by decide)
          have m830 := m789.kept (oq _ (gne hg1 hg6 (by decide)))
          have m831 := m790.kept (oq _ (gne hg2 hg6 (by decide)))
          have m832 := m791.kept (oq _ (gne hg3 hg6 (by decide)))
          have m833 := m792.kept (oq _ (gne hg4 hg6 (by decide)))
          have m834 := m793.kept (oq _ (gne hg5 hg6 (by decide)))
          have m835 := m795.put m829 oi
          have m836 := (el_kept (oq _ (gne hr_o0 hg6 (by decide)))).trans m796
          have m837 := (el_kept (oq _ (gne hr_o0 hg6 (by decide)))).trans m797
          have m838 := (el_kept (oq _ (gne hg5 hg6 (by decide)))).trans m827
          refine lv_iinc (v := nI (i788 + 1)) (lv' := [(7, .int (nI (i788 + 1))), (0, .ref o0), (1, .int 5), (2, .int us), (3, .int yr), (4, .int ca), (5, .int ic), (6, .int su)]) hx hb dX12_orders_54 hl (k := 0) rfl (nI_add i788 1) (by decide) rfl (fun ls hl => ?_)
          refine lv_goto (tgt := 34) hx hb dX12_orders_57 (by decide) ?_
          exact ih817 (i788 + 1) (by omega) (by omega) (cu V794 (nI i788).toNatClampNeg x828) (cp_s (V := vR) (K := 5) (i := i788) (tn_nI (by omega)) cx828 hR (by omega) hj798) _ _ hT hF hS m830 m831 m832 m833 m834 m835 m836 m837 ls (lv_sub hl [0, 1, 2, 3, 4, 5, 6, 7] rfl)
      exact key817 (5 - 0) 0 (by omega) (Nat.le_refl _) vZ (fun k h => absurd h (Nat.not_lt_zero k)) _ _ hT hF hS m782 m783 m784 m785 m786 m787 m781 m780 ls (lv_sub hl [0, 1, 2, 3, 4, 5, 6, 7] rfl)
    · have t839 : 0 ≤ la.toInt := ti_nlt c778 rfl (by decide)
      refine lv_iload hx hb dX12_orders_15 (lv_at hl 6 rfl) ?_
      refine lv_aload_n hx hb dX12_orders_17 rfl (lv_at hl 0 rfl) ?_
      refine tw_getM (v := .int la) hx hb hts bF_X12 hown hK hT hr_o0 shm_0 rfl 77 (by decide) (ht_at hts 7 rfl) (fun _ h9 => h9) hm_la dX12_orders_18 ?_
      refine lv_icmp_lt (tgt := 25) hx hb dX12_orders_21 (by decide) (fun c840 => ?_) (fun c840 => ?_)
      · have t841 : su.toInt < la.toInt := ti_lt c840 rfl rfl
        refine lv_aload_n hx hb dX12_orders_25 rfl (lv_at hl 0 rfl) ?_
        refine lv_iload hx hb dX12_orders_26 (lv_at hl 6 rfl) ?_
        refine tw_put (v := .int su) (ty := .int) hx hb hts bF_X12 tyX12 tyX12_ok nmX12 hown hK hT hG hS hr_o0 shm_0 rfl 77 (by decide) (ht_at hts 7 rfl) (fun _ h9 => h9) rfl (by decide +kernel) rfl rfl (gl_at rfl (gi_all _)) dX12_orders_28 (fun H locs hT oq m842 oj hS => ?_)
        have hF := hF.put hr_o0 skm_0 oq oj (by decide)
        have m843 := (oj 74 (by decide) (by decide)).trans hm_jb
        have m844 := hc_aC.kept (oq _ (gne hg1 hr_o0 (by decide)))
        have m845 := hc_aY.kept (oq _ (gne hg2 hr_o0 (by decide)))
        have m846 := hc_aB.kept (oq _ (gne hg3 hr_o0 (by decide)))
        have m847 := hc_aA.kept (oq _ (gne hg4 hr_o0 (by decide)))
        have m848 := hc_vR.kept (oq _ (gne hg5 hr_o0 (by decide)))
        have m849 := hc_vZ.kept (oq _ (gne hg6 hr_o0 (by decide)))
        refine lv_iconst (v := 0) hx hb dX12_orders_31 (by decide) ?_
        refine lv_istore (lv' := [(7, .int 0), (0, .ref o0), (1, .int 5), (2, .int us), (3, .int yr), (4, .int ca), (5, .int ic), (6, .int su)]) hx hb dX12_orders_32 hl (by decide) rfl (fun ls hl => ?_)
        have key879 : ∀ (n879 i850 : Nat), i850 + n879 = 5 → 0 ≤ i850 → ∀ (V856 : Nat → Int32), ((∀ k : Nat, k < i850 → (V856 k).toInt = R k)) → ∀ (H : Heap) (locs : List Loc), gH (dC, dI) kA (SHm q (wP wZ wN wH wB wC wL wK wU wV) PI im PM PT lS lB lE lN) G H → gF (dC, dI) SKm G ([(0, 77), (76, 0), (77, 0)] : List (Nat × Nat)) s.heap H → va_S A s.heap H locs → ct H (q 70) 7 aC → ct H (q 71) 7 aY → ct H (q 72) 7 aB → ct H (q 73) 7 aA → ct H (q 75) 7 vR → ct H (q 76) 7 V856 → el H o0 (dI 15 74) = some (.int jb) → el H o0 (dI 15 77) = some (.int su) → ∀ ls : Array Slot, lv_has ls 10 [(7, .int (nI i850)), (0, .ref o0), (1, .int 5), (2, .int us), (3, .int yr), (4, .int ca), (5, .int ic), (6, .int su)] → W p l e (headSpec w_s_ordersC5 ({ frames := 2, cells := 0, slots := 0, locals := 58 })).room s m #[.ref o0, .int 5, .int us, .int yr, .int ca, .int ic, .int su] below meth c H locs 0 0 (MQ below (va_Qv (fun (u : Int32 × (Nat → Int32) × (Nat → Int32)) => match u with | (la1, vR1, vZ1) => (la1.toInt = (sx N 5 aC aY aB aA (bt us) yr.toInt ca.toInt ic.toInt su.toInt R a0).1 ∧ (0 ≤ (sx N 5 aC aY aB aA (bt us) yr.toInt ca.toInt ic.toInt su.toInt R a0).1 → ∀ k : Nat, k < N → (vZ1 k).toInt = (sx N 5 aC aY aB aA (bt us) yr.toInt ca.toInt ic.toInt su.toInt R a0).2 k) ∧ ∀ k : Nat, k < 5 → (vR1 k).toInt = R k)) (fun (u : Int32 × (Nat → Int32) × (Nat → Int32)) (t : State) => match u with | (la1, vR1, vZ1) => gH (dC, dI) kA (SHm q (wP wZ wN wH wB wC wL wK wU wV) PI im PM PT lS lB lE lN) G t.heap ∧ gF (dC, dI) SKm G ([(0, 77), (76, 0), (77, 0)] : List (Nat × Nat)) s.heap t.heap ∧ el t.heap o0 (dI 15 77) = some (.int la1) ∧ ct t.heap (q 75) 7 vR1 ∧ ct t.heap (q 76) 7 vZ1) A) #[.ref o0, .int 5, .int us, .int yr, .int ca, .int ic, .int su] s 0 0 A) (F0 m 34 ls []) := by
          intro n879
          induction n879 with
          | zero =>
            intro i850 hn879 hlo880 V856 hj860 H locs hT hF hS m851 m852 m853 m854 m855 m857 m858 m859 ls hl
            obtain rfl : 5 = i850 := by omega
            refine lv_iload hx hb dX12_orders_34 (lv_at hl 0 rfl) ?_
            refine lv_iload_n hx hb dX12_orders_36 rfl (lv_at hl 2 rfl) ?_
            refine lv_icmp_ge (tgt := 60) hx hb dX12_orders_37 (by decide) (fun c881 => ?_) (fun c881 => (by exfalso; have q9 : ((5 : Nat) : Int) < 5 := ti_nle c881 (by decide) (nI_toInt (by omega)); omega))
            have t882 : 5 ≤ ((5 : Nat) : Int) := ti_le c881 (by decide) (nI_toInt (by omega))
            exact W.vret hx hb hr (fun t ht hW => ⟨⟨(su, vR, V856), rfl, (by exact (by (try dsimp only); have e9 : N = 5 := (by omega); rw [sx_0 e9, if_neg (by omega)]; exact ⟨rfl, fun _ k hk => hj860 k (by omega), hR⟩)), by (try dsimp only); rw [ht]; exact ⟨hT, hF, m859, m855, m857⟩⟩, hS.F ht⟩) hS.2.2 dX12_orders_60
          | succ n879 ih879 =>
            intro i850 hn879 hlo880 V856 hj860 H locs hT hF hS m851 m852 m853 m854 m855 m857 m858 m859 ls hl
            have hlt882 : i850 < 5 := by omega
            refine lv_iload hx hb dX12_orders_34 (lv_at hl 0 rfl) ?_
            refine lv_iload_n hx hb dX12_orders_36 rfl (lv_at hl 2 rfl) ?_
            refine lv_icmp_ge (tgt := 60) hx hb dX12_orders_37 (by decide) (fun c883 => (by exfalso; have q9 : 5 ≤ ((i850 : Nat) : Int) := ti_le c883 (by decide) (nI_toInt (by omega)); omega)) (fun c883 => ?_)
            have t884 : ((i850 : Nat) : Int) < 5 := ti_nle c883 (by decide) (nI_toInt (by omega))
            refine lv_aload_n hx hb dX12_orders_40 rfl (lv_at hl 1 rfl) ?_
            refine tw_get hx hb hts bF_X12 hown hK hT hr_o0 shm_0 rfl 76 (by decide) (ht_at hts 8 rfl) (fun _ h9 => h9) dX12_orders_41 (fun v9 m885 h9 => ?_)
            obtain ⟨rfl, hg886⟩ := h9 _ rfl
            refine lv_iload hx hb dX12_orders_44 (lv_at hl 0 rfl) ?_
            refine lv_aload_n hx hb dX12_orders_46 rfl (lv_at hl 1 rfl) ?_
            refine tw_get hx hb hts bF_X12 hown hK hT hr_o0 shm_0 rfl 75 (by decide) (ht_at hts 3 rfl) (fun _ h9 => h9) dX12_orders_47 (fun v9 m887 h9 => ?_)
            obtain ⟨rfl, hg888⟩ := h9 _ rfl
            refine lv_iload hx hb dX12_orders_50 (lv_at hl 0 rfl) ?_
            refine tw_iald (i := (nI i850)) hx hb hK hT hg5 shm_76 rfl (vp_in_nI (by omega) (by decide)) dX12_orders_52 (fun v9 m889 h9 => ?_)
            obtain ⟨x890, rfl, gx890, kx890⟩ := h9
            have cx890 := m855.at m889 (by have q9 := tn_of (show (nI i850).toInt = ((i850 : Nat) : Int) from (nI_toInt (by omega))) (by omega); omega)
            refine tw_iast (i := (nI i850)) (x := x890) hx hb hK hT hG hS hg6 shm_77 rfl (vp_in_nI (by omega) (by decide)) (gi_all _) dX12_orders_53 (fun H locs hT oq m891 oi hS => ?_)
            have hF := hF.ast hg6 skm_77 oq (by decide)
            have m892 := m851.kept (oq _ (gne hg1 hg6 (by decide)))
            have m893 := m852.kept (oq _ (gne hg2 hg6 (by decide)))
            have m894 := m853.kept (oq _ (gne hg3 hg6 (by decide)))
            have m895 := m854.kept (oq _ (gne hg4 hg6 (by decide)))
            have m896 := m855.kept (oq _ (gne hg5 hg6 (by decide)))
            have m897 := m857.put m891 oi
            have m898 := (el_kept (oq _ (gne hr_o0 hg6 (by decide)))).trans m858
            have m899 := (el_kept (oq _ (gne hr_o0 hg6 (by decide)))).trans m859
            have m900 := (el_kept (oq _ (gne hg5 hg6 (by decide)))).trans m889
            refine lv_iinc (v := nI (i850 + 1)) (lv' := [(7, .int (nI (i850 + 1))), (0, .ref o0), (1, .int 5), (2, .int us), (3, .int yr), (4, .int ca), (5, .int ic), (6, .int su)]) hx hb dX12_orders_54 hl (k := 0) rfl (nI_add i850 1) (by decide) rfl (fun ls hl => ?_)
            refine lv_goto (tgt := 34) hx hb dX12_orders_57 (by decide) ?_
            exact ih879 (i850 + 1) (by omega) (by omega) (cu V856 (nI i850).toNatClampNeg x890) (cp_s (V := vR) (K := 5) (i := i850) (tn_nI (by omega)) cx890 hR (by omega) hj860) _ _ hT hF hS m892 m893 m894 m895 m896 m897 m898 m899 ls (lv_sub hl [0, 1, 2, 3, 4, 5, 6, 7] rfl)
        exact key879 (5 - 0) 0 (by omega) (Nat.le_refl _) vZ (fun k h => absurd h (Nat.not_lt_zero k)) _ _ hT hF hS m844 m845 m846 m847 m848 m849 m843 m842 ls (lv_sub hl [0, 1, 2, 3, 4, 5, 6, 7] rfl)
      · have t901 : la.toInt ≤ su.toInt := ti_nlt c840 rfl rfl
        exact W.vret hx hb hr (fun t ht hW => ⟨⟨(la, vR, vZ), rfl, (by exact (by (try dsimp only); have e9 : N = 5 := (by omega); rw [sx_0 e9, if_pos ⟨by omega, by omega⟩]; exact ⟨by omega, hZ0, hR⟩)), by (try dsimp only); rw [ht]; exact ⟨hT, hF, hm_la, hc_vR, hc_vZ⟩⟩, hS.F ht⟩) hS.2.2 dX12_orders_24
def w_s_ordersC4 : List Cond := .code yX12_orders cX12_orders 10 none :: (HAppend.hAppend (α := List Cond) (β := List Cond) (γ := List Cond) [.fieldLink RX12 553 "SeaLandModel" "jobs" "I", .fieldLink RX12 176 "SeaLandModel" "jCost" "[I", .fieldLink RX12 179 "SeaLandModel" "jYears" "[I", .fieldLink RX12 188 "SeaLandModel" "row" "[I", .fieldLink RX12 182 "SeaLandModel" "jBrings" "[I", .fieldLink RX12 185 "SeaLandModel" "jAcres" "[I", .code yX12_orders cX12_orders 10 none, .fieldLink RX12 556 "SeaLandModel" "lateness" "I", .fieldLink RX12 191 "SeaLandModel" "bestRow" "[I", .methodLink RX12 559 yX12_orders, .instanceMethod yX12_orders, .selects RX12 yX12_orders yX12_orders, .initialized RX12] bs)
set_option maxHeartbeats 4000000 in
set_option maxRecDepth 100000 in
theorem s_ordersC4 (l : Launch) (dC : Nat → ClassId) (dI : Nat → Nat → Nat) (kA : Nat → ClassId) (adK adV : Nat → Nat) (G : gT) (H0 : Heap) (q : Nat → Nat) (wZ wN : Nat → Int) (wH wB wC : Int) (wL wK : Nat → Prop) (wU wV : Nat → Nat) (PI : Nat → Int → Prop) (im : Int) (PM PT : Nat → Int → Prop) (lS lB lE : Nat → Nat → Int → Prop) (lN : Nat → Int) (o0 : Nat) (us : Int32) (yr : Int32) (ca : Int32) (ic : Int32) (su : Int32) (jb : Int32) (la : Int32) (aC : Nat → Int32) (aY : Nat → Int32) (aB : Nat → Int32) (aA : Nat → Int32) (vR : Nat → Int32) (vZ : Nat → Int32) (N : Nat) (R : Nat → Int) (a0 : oA) (hT : gH (dC, dI) kA (SHm q (wP wZ wN wH wB wC wL wK wU wV) PI im PM PT lS lB lE lN) G H0) (hr_o0 : G o0 = some 0) (hm_jb : el H0 o0 (dI 15 74) = some (.int jb)) (hm_la : el H0 o0 (dI 15 77) = some (.int la)) (hq0 : 0 ≤ yr.toInt ∧ yr.toInt ≤ 200) (hq1 : 0 ≤ ca.toInt ∧ ca.toInt ≤ 13099999) (hq2 : 0 ≤ ic.toInt ∧ ic.toInt ≤ 400000) (hq3 : 0 ≤ su.toInt ∧ su.toInt ≤ 800000) (hq4 : 4 ≤ jb.toInt ∧ jb.toInt ≤ 7) (hN : jb.toInt = ((N : Nat) : Int)) (hrg : joR jb.toInt aC aY aB aA) (hla : la.toInt = a0.1) (hZ0 : 0 ≤ a0.1 → ∀ k : Nat, k < N → (vZ k).toInt = a0.2 k) (hR : ∀ k : Nat, k < 4 → (vR k).toInt = R k) (hc_aC : ct H0 (q 70) 7 aC) (hc_aY : ct H0 (q 71) 7 aY) (hc_aB : ct H0 (q 72) 7 aB) (hc_aA : ct H0 (q 73) 7 aA) (hc_vR : ct H0 (q 75) 7 vR) (hc_vZ : ct H0 (q 76) 7 vZ) (hgz : ∀ i, 0 ≤ wZ i) (hgn : ∀ i, 6500000 ≤ wN i ∧ wN i ≤ 20200000) (hgh : 0 ≤ wH ∧ wH ≤ 40000) (hgb : 0 ≤ wB ∧ wB ≤ 3850000) (hgc : 0 ≤ wC ∧ wC ≤ 30) (hgi : 0 ≤ im ∧ im ≤ 1) (hgu : ∀ a t, G a = some (t + 1) → a = q t) : Met l yX12_orders w_s_ordersC4 ({ frames := 3, cells := 0, slots := 0, locals := 87 }) (va_Pc [.ref o0, .int 4, .int us, .int yr, .int ca, .int ic, .int su] (fun U => U.heap = H0 ∧ va_K (dC, dI) vwCl (tyl kA) U ∧ EVS adK adV (gA G H0.size) U U.heap)) (va_Qv (fun (u : Int32 × (Nat → Int32) × (Nat → Int32)) => match u with | (la1, vR1, vZ1) => (la1.toInt = (sx N 4 aC aY aB aA (bt us) yr.toInt ca.toInt ic.toInt su.toInt R a0).1 ∧ (0 ≤ (sx N 4 aC aY aB aA (bt us) yr.toInt ca.toInt ic.toInt su.toInt R a0).1 → ∀ k : Nat, k < N → (vZ1 k).toInt = (sx N 4 aC aY aB aA (bt us) yr.toInt ca.toInt ic.toInt su.toInt R a0).2 k) ∧ ∀ k : Nat, k < 4 → (vR1 k).toInt = R k)) (fun (u : Int32 × (Nat → Int32) × (Nat → Int32)) (t : State) => match u with | (la1, vR1, vZ1) => gH (dC, dI) kA (SHm q (wP wZ wN wH wB wC wL wK wU wV) PI im PM PT lS lB lE lN) G t.heap ∧ gF (dC, dI) SKm G ([(0, 77), (76, 0), (77, 0)] : List (Nat × Nat)) H0 t.heap ∧ el t.heap o0 (dI 15 77) = some (.int la1) ∧ ct t.heap (q 75) 7 vR1 ∧ ct t.heap (q 76) 7 vZ1) (gA G H0.size)) 0 0 (gA G H0.size) := by
  refine Met.ofW (cc := cX12_orders) (maxL := 10) (ret := none) (by decide) rfl ?_
  intro p e s m args below meth c s₁ B hml hv
  obtain ⟨rfl, hH0, hK, hE⟩ := hv
  have hx := B.exec
  have hb := B.bytes
  have hr := B.returns
  have hts := atoms_spec (ws := w_s_ordersC4) B.pre
  have hown : s.vm.findClass RX12 = some m.cls := findClass_of_methodNamed B.named
  have hlocks := B.notSynchronized
  subst hH0
  generalize hAe : gA G s.heap.size = A at hE ⊢
  have hA : ∀ q : Nat, s.heap.size ≤ q → A q := fun q h => by rw [← hAe]; exact Or.inr h
  have hG := gA_of hAe
  have hS : va_S A s.heap s.heap [] := va_S.rf
  have hF : gF (dC, dI) SKm G ([(0, 77), (76, 0), (77, 0)] : List (Nat × Nat)) s.heap s.heap := gF.rf
  have hl := lv_entry ([.ref o0, .int 4, .int us, .int yr, .int ca, .int ic, .int su]) (n := 10) (Nat.le_of_ble_eq_true rfl)
  rw [lg_entry_eq]
  generalize (lg_sl ([.ref o0, .int 4, .int us, .int yr, .int ca, .int ic, .int su]) ++ List.replicate (10 - (lg_sl ([.ref o0, .int 4, .int us, .int yr, .int ca, .int ic, .int su])).length) Slot.unset).toArray = ls at hl ⊢
  have hl : lv_has ls 10 [(0, .ref o0), (1, .int 4), (2, .int us), (3, .int yr), (4, .int ca), (5, .int ic), (6, .int su)] := hl
  have hg1 : G (q 70) = some 71 := gx_of hT hr_o0 shm_0 (k := 70) (by decide) rfl
  have hg2 : G (q 71) = some 72 := gx_of hT hr_o0 shm_0 (k := 71) (by decide) rfl
  have hg3 : G (q 72) = some 73 := gx_of hT hr_o0 shm_0 (k := 72) (by decide) rfl
  have hg4 : G (q 73) = some 74 := gx_of hT hr_o0 shm_0 (k := 73) (by decide) rfl
  have hg5 : G (q 75) = some 76 := gx_of hT hr_o0 shm_0 (k := 75) (by decide) rfl
  have hg6 : G (q 76) = some 77 := gx_of hT hr_o0 shm_0 (k := 76) (by decide) rfl
  refine lv_iload_n hx hb dX12_orders_0 rfl (lv_at hl 1 rfl) ?_
  refine lv_aload_n hx hb dX12_orders_1 rfl (lv_at hl 0 rfl) ?_
  refine tw_getM (v := .int jb) hx hb hts bF_X12 hown hK hT hr_o0 shm_0 rfl 74 (by decide) (ht_at hts 0 rfl) (fun _ h9 => h9) hm_jb dX12_orders_2 ?_
  refine lv_icmp_ne (tgt := 61) hx hb dX12_orders_5 (by decide) (fun c7 => ?_) (fun c7 => ?_)
  · have t8 : 4 ≠ jb.toInt := ti_ne c7 (by decide) rfl
    refine lv_iconst (v := 0) hx hb dX12_orders_61 (by decide) ?_
    refine lv_istore (lv' := [(7, .int 0), (0, .ref o0), (1, .int 4), (2, .int us), (3, .int yr), (4, .int ca), (5, .int ic), (6, .int su)]) hx hb dX12_orders_62 hl (by decide) rfl (fun ls hl => ?_)
    have key399 : ∀ (n399 i9 : Nat), i9 + n399 = 7 → 0 ≤ i9 → ∀ (V14 : Nat → Int32), ∀ (V16 : Nat → Int32), ∀ (z19 : Int32), ((z19.toInt = (slO N 4 aC aY aB aA (bt us) yr.toInt ca.toInt ic.toInt su.toInt R a0 i9).1) ∧ (0 ≤ (slO N 4 aC aY aB aA (bt us) yr.toInt ca.toInt ic.toInt su.toInt R a0 i9).1 → ∀ k : Nat, k < N → (V16 k).toInt = (slO N 4 aC aY aB aA (bt us) yr.toInt ca.toInt ic.toInt su.toInt R a0 i9).2 k) ∧ (∀ k : Nat, k < 4 → (V14 k).toInt = R k) ∧ (((i9 : Nat) : Int) ≤ jb.toInt)) → ∀ (H : Heap) (locs : List Loc), gH (dC, dI) kA (SHm q (wP wZ wN wH wB wC wL wK wU wV) PI im PM PT lS lB lE lN) G H → gF (dC, dI) SKm G ([(0, 77), (76, 0), (77, 0)] : List (Nat × Nat)) s.heap H → va_S A s.heap H locs → ct H (q 70) 7 aC → ct H (q 71) 7 aY → ct H (q 72) 7 aB → ct H (q 73) 7 aA → ct H (q 75) 7 V14 → ct H (q 76) 7 V16 → el H o0 (dI 15 74) = some (.int jb) → el H o0 (dI 15 77) = some (.int z19) → ∀ ls : Array Slot, lv_has ls 10 [(7, .int (nI i9)), (0, .ref o0), (1, .int 4), (2, .int us), (3, .int yr), (4, .int ca), (5, .int ic), (6, .int su)] → W p l e (headSpec w_s_ordersC4 ({ frames := 3, cells := 0, slots := 0, locals := 87 })).room s m #[.ref o0, .int 4, .int us, .int yr, .int ca, .int ic, .int su] below meth c H locs 0 0 (MQ below (va_Qv (fun (u : Int32 × (Nat → Int32) × (Nat → Int32)) => match u with | (la1, vR1, vZ1) => (la1.toInt = (sx N 4 aC aY aB aA (bt us) yr.toInt ca.toInt ic.toInt su.toInt R a0).1 ∧ (0 ≤ (sx N 4 aC aY aB aA (bt us) yr.toInt ca.toInt ic.toInt su.toInt R a0).1 → ∀ k : Nat, k < N → (vZ1 k).toInt = (sx N 4 aC aY aB aA (bt us) yr.toInt ca.toInt ic.toInt su.toInt R a0).2 k) ∧ ∀ k : Nat, k < 4 → (vR1 k).toInt = R k)) (fun (u : Int32 × (Nat → Int32) × (Nat → Int32)) (t : State) => match u with | (la1, vR1, vZ1) => gH (dC, dI) kA (SHm q (wP wZ wN wH wB wC wL wK wU wV) PI im PM PT lS lB lE lN) G t.heap ∧ gF (dC, dI) SKm G ([(0, 77), (76, 0), (77, 0)] : List (Nat × Nat)) s.heap t.heap ∧ el t.heap o0 (dI 15 77) = some (.int la1) ∧ ct t.heap (q 75) 7 vR1 ∧ ct t.heap (q 76) 7 vZ1) A) #[.ref o0, .int 4, .int us, .int yr, .int ca, .int ic, .int su] s 0 0 A) (F0 m 64 ls []) := by
      intro n399
      induction n399 with
      | zero =>
        intro i9 hn399 hlo400 V14 V16 z19 ⟨hj21, hj22, hj23, hj24⟩ H locs hT hF hS m10 m11 m12 m13 m15 m17 m18 m20 ls hl
        obtain rfl : 7 = i9 := by omega
        refine lv_iload hx hb dX12_orders_64 (lv_at hl 0 rfl) ?_
        refine lv_aload_n hx hb dX12_orders_66 rfl (lv_at hl 1 rfl) ?_
        refine tw_getM (v := .int jb) hx hb hts bF_X12 hown hK hT hr_o0 shm_0 rfl 74 (by decide) (ht_at hts 0 rfl) (fun _ h9 => h9) m18 dX12_orders_67 ?_
        refine lv_icmp_ge (tgt := 231) hx hb dX12_orders_70 (by decide) (fun c401 => ?_) (fun c401 => (by exfalso; have q9 : ((7 : Nat) : Int) < jb.toInt := ti_nle c401 rfl (nI_toInt (by omega)); omega))
        have t402 : jb.toInt ≤ ((7 : Nat) : Int) := ti_le c401 rfl (nI_toInt (by omega))
        exact W.vret hx hb hr (fun t ht hW => ⟨⟨(z19, V14, V16), rfl, (by exact (by (try dsimp only); have e9 : N = 7 := (by omega); rw [sx_s (by omega)]; subst e9; exact ⟨hj21, hj22, hj23⟩)), by (try dsimp only); rw [ht]; exact ⟨hT, hF, m20, m15, m17⟩⟩, hS.F ht⟩) hS.2.2 dX12_orders_231
      | succ n399 ih399 =>
        intro i9 hn399 hlo400 V14 V16 z19 ⟨hj21, hj22, hj23, hj24⟩ H locs hT hF hS m10 m11 m12 m13 m15 m17 m18 m20 ls hl
        have hlt402 : i9 < 7 := by omega
        refine lv_iload hx hb dX12_orders_64 (lv_at hl 0 rfl) ?_
        refine lv_aload_n hx hb dX12_orders_66 rfl (lv_at hl 1 rfl) ?_
        refine tw_getM (v := .int jb) hx hb hts bF_X12 hown hK hT hr_o0 shm_0 rfl 74 (by decide) (ht_at hts 0 rfl) (fun _ h9 => h9) m18 dX12_orders_67 ?_
        refine lv_icmp_ge (tgt := 231) hx hb dX12_orders_70 (by decide) (fun c403 => ?_) (fun c403 => ?_)
        · have t404 : jb.toInt ≤ ((i9 : Nat) : Int) := ti_le c403 rfl (nI_toInt (by omega))
          exact W.vret hx hb hr (fun t ht hW => ⟨⟨(z19, V14, V16), rfl, (by exact (by (try dsimp only); have e9 : N = i9 := (by omega); rw [sx_s (by omega)]; subst e9; exact ⟨hj21, hj22, hj23⟩)), by (try dsimp only); rw [ht]; exact ⟨hT, hF, m20, m15, m17⟩⟩, hS.F ht⟩) hS.2.2 dX12_orders_231
        · have t405 : ((i9 : Nat) : Int) < jb.toInt := ti_nle c403 rfl (nI_toInt (by omega))
          refine lv_iload_n hx hb dX12_orders_73 rfl (lv_at hl 3 rfl) ?_
          refine lv_iload hx hb dX12_orders_74 (lv_at hl 0 rfl) ?_
          refine lv_ishr hx hb dX12_orders_76 ?_
          refine lv_topi (fun x406 ex406 => ?_)
          refine lv_iconst (v := 1) hx hb dX12_orders_77 (by decide) ?_
          refine lv_iand hx hb dX12_orders_78 ?_
          refine lv_topi (fun x407 ex407 => ?_)
          refine lv_iconst (v := 1) hx hb dX12_orders_79 (by decide) ?_
          have hbt := bt_t (us := us) (j := i9) (by omega) ex406 ex407
          refine lv_icmp_ne (tgt := 86) hx hb dX12_orders_80 (by decide) (fun c408 => ?_) (fun c408 => ?_)
          · have t409 : x407.toInt ≠ 1 := ti_ne c408 rfl (by decide)
            refine lv_iload_n hx hb dX12_orders_86 rfl (lv_at hl 4 rfl) ?_
            refine lv_istore (lv' := [(8, .int yr), (7, .int (nI i9)), (0, .ref o0), (1, .int 4), (2, .int us), (3, .int yr), (4, .int ca), (5, .int ic), (6, .int su)]) hx hb dX12_orders_87 hl (by decide) rfl (fun ls hl => ?_)
            refine lv_iload hx hb dX12_orders_89 (lv_at hl 6 rfl) ?_
            refine lv_istore (lv' := [(9, .int ca), (8, .int yr), (7, .int (nI i9)), (0, .ref o0), (1, .int 4), (2, .int us), (3, .int yr), (4, .int ca), (5, .int ic), (6, .int su)]) hx hb dX12_orders_91 hl (by decide) rfl (fun ls hl => ?_)
            have key654 : ∀ (n654 : Nat), ∀ (z520 : Int32), ∀ (z522 : Int32), (400 - z522.toInt < ((n654 : Nat) : Int)) → ((0 ≤ z520.toInt ∧ z520.toInt ≤ 13099999) ∧ (0 ≤ z522.toInt ∧ z522.toInt ≤ 201) ∧ (wtO yr.toInt ca.toInt ic.toInt (aC i9).toInt z522.toInt z520.toInt)) → ∀ (H : Heap) (locs : List Loc), gH (dC, dI) kA (SHm q (wP wZ wN wH wB wC wL wK wU wV) PI im PM PT lS lB lE lN) G H → gF (dC, dI) SKm G ([(0, 77), (76, 0), (77, 0)] : List (Nat × Nat)) s.heap H → va_S A s.heap H locs → ct H (q 70) 7 aC → ct H (q 71) 7 aY → ct H (q 72) 7 aB → ct H (q 73) 7 aA → ct H (q 75) 7 V14 → ct H (q 76) 7 V16 → el H o0 (dI 15 74) = some (.int jb) → el H o0 (dI 15 77) = some (.int z19) → ∀ ls : Array Slot, lv_has ls 10 [(9, .int z520), (8, .int z522), (7, .int (nI i9)), (0, .ref o0), (1, .int 4), (2, .int us), (3, .int yr), (4, .int ca), (5, .int ic), (6, .int su)] → W p l e (headSpec w_s_ordersC4 ({ frames := 3, cells := 0, slots := 0, locals := 87 })).room s m #[.ref o0, .int 4, .int us, .int yr, .int ca, .int ic, .int su] below meth c H locs 0 0 (MQ below (va_Qv (fun (u : Int32 × (Nat → Int32) × (Nat → Int32)) => match u with | (la1, vR1, vZ1) => (la1.toInt = (sx N 4 aC aY aB aA (bt us) yr.toInt ca.toInt ic.toInt su.toInt R a0).1 ∧ (0 ≤ (sx N 4 aC aY aB aA (bt us) yr.toInt ca.toInt ic.toInt su.toInt R a0).1 → ∀ k : Nat, k < N → (vZ1 k).toInt = (sx N 4 aC aY aB aA (bt us) yr.toInt ca.toInt ic.toInt su.toInt R a0).2 k) ∧ ∀ k : Nat, k < 4 → (vR1 k).toInt = R k)) (fun (u : Int32 × (Nat → Int32) × (Nat → Int32)) (t : State) => match u with | (la1, vR1, vZ1) => gH (dC, dI) kA (SHm q (wP wZ wN wH wB wC wL wK wU wV) PI im PM PT lS lB lE lN) G t.heap ∧ gF (dC, dI) SKm G ([(0, 77), (76, 0), (77, 0)] : List (Nat × Nat)) s.heap t.heap ∧ el t.heap o0 (dI 15 77) = some (.int la1) ∧ ct t.heap (q 75) 7 vR1 ∧ ct t.heap (q 76) 7 vZ1) A) #[.ref o0, .int 4, .int us, .int yr, .int ca, .int ic, .int su] s 0 0 A) (F0 m 93 ls []) := by
              intro n654
              induction n654 with
              | zero =>
                intro z520 z522 hv654 ⟨h521, h523, hj532⟩ H locs hT hF hS m524 m525 m526 m527 m528 m529 m530 m531 ls hl
                exfalso; have q9 := (show z522.toInt = z522.toInt from rfl); omega
              | succ n654 ih654 =>
                intro z520 z522 hv654 ⟨h521, h523, hj532⟩ H locs hT hF hS m524 m525 m526 m527 m528 m529 m530 m531 ls hl
                refine lv_iload hx hb dX12_orders_93 (lv_at hl 0 rfl) ?_
                refine lv_aload_n hx hb dX12_orders_95 rfl (lv_at hl 3 rfl) ?_
                refine tw_get hx hb hts bF_X12 hown hK hT hr_o0 shm_0 rfl 70 (by decide) (ht_at hts 1 rfl) (fun _ h9 => h9) dX12_orders_96 (fun v9 m655 h9 => ?_)
                obtain ⟨rfl, hg656⟩ := h9 _ rfl
                refine lv_iload hx hb dX12_orders_99 (lv_at hl 2 rfl) ?_
                refine tw_iald (i := (nI i9)) hx hb hK hT hg1 shm_71 rfl (vp_in_nI (by omega) (by decide)) dX12_orders_101 (fun v9 m657 h9 => ?_)
                obtain ⟨x658, rfl, gx658, kx658⟩ := h9
                have cx658 := m524.at m657 (by have q9 := tn_of (show (nI i9).toInt = ((i9 : Nat) : Int) from (nI_toInt (by omega))) (by omega); omega)
                have t659 : x658.toInt = (aC i9).toInt := congrArg Int32.toInt (cx658.trans (by rw [tn_nI (by omega)]))
                have t660 : 0 ≤ (aC i9).toInt ∧ (aC i9).toInt ≤ 1000000 := (hrg i9 (by omega)).1
                refine lv_icmp_ge (tgt := 126) hx hb dX12_orders_102 (by decide) (fun c661 => ?_) (fun c661 => ?_)
                · have t662 : x658.toInt ≤ z520.toInt := ti_le c661 rfl rfl
                  refine lv_iload hx hb dX12_orders_126 (lv_at hl 0 rfl) ?_
                  refine lv_aload_n hx hb dX12_orders_128 rfl (lv_at hl 3 rfl) ?_
                  refine tw_get hx hb hts bF_X12 hown hK hT hr_o0 shm_0 rfl 70 (by decide) (ht_at hts 1 rfl) (fun _ h9 => h9) dX12_orders_129 (fun v9 m663 h9 => ?_)
                  obtain ⟨rfl, hg664⟩ := h9 _ rfl
                  refine lv_iload hx hb dX12_orders_132 (lv_at hl 2 rfl) ?_
                  refine tw_iald (i := (nI i9)) hx hb hK hT hg1 shm_71 rfl (vp_in_nI (by omega) (by decide)) dX12_orders_134 (fun v9 m665 h9 => ?_)
                  obtain ⟨x666, rfl, gx666, kx666⟩ := h9
                  have cx666 := m524.at m665 (by have q9 := tn_of (show (nI i9).toInt = ((i9 : Nat) : Int) from (nI_toInt (by omega))) (by omega); omega)
                  obtain rfl : x658 = x666 := (el_same m665 m657 rfl).symm
                  refine lv_isub hx hb dX12_orders_135 ?_
                  refine lv_topi (fun x667 ex667 => ?_)
                  have t668 : x667.toInt = z520.toInt - x658.toInt := ti_sub ex667 rfl rfl (by omega) (by omega)
                  refine lv_istore (lv' := [(9, .int x667), (8, .int z522), (7, .int (nI i9)), (0, .ref o0), (1, .int 4), (2, .int us), (3, .int yr), (4, .int ca), (5, .int ic), (6, .int su)]) hx hb dX12_orders_136 hl (by decide) rfl (fun ls hl => ?_)
                  refine lv_iload hx hb dX12_orders_138 (lv_at hl 1 rfl) ?_
                  refine lv_aload_n hx hb dX12_orders_140 rfl (lv_at hl 3 rfl) ?_
                  refine tw_get hx hb hts bF_X12 hown hK hT hr_o0 shm_0 rfl 71 (by decide) (ht_at hts 2 rfl) (fun _ h9 => h9) dX12_orders_141 (fun v9 m669 h9 => ?_)
                  obtain ⟨rfl, hg670⟩ := h9 _ rfl
                  refine lv_iload hx hb dX12_orders_144 (lv_at hl 2 rfl) ?_
                  refine tw_iald (i := (nI i9)) hx hb hK hT hg2 shm_72 rfl (vp_in_nI (by omega) (by decide)) dX12_orders_146 (fun v9 m671 h9 => ?_)
                  obtain ⟨x672, rfl, gx672, kx672⟩ := h9
                  have cx672 := m525.at m671 (by have q9 := tn_of (show (nI i9).toInt = ((i9 : Nat) : Int) from (nI_toInt (by omega))) (by omega); omega)
                  have t673 : x672.toInt = (aY i9).toInt := congrArg Int32.toInt (cx672.trans (by rw [tn_nI (by omega)]))
                  have t674 : 1 ≤ (aY i9).toInt ∧ (aY i9).toInt ≤ 20 := (hrg i9 (by omega)).2.1
                  refine lv_iadd hx hb dX12_orders_147 ?_
                  refine lv_topi (fun x675 ex675 => ?_)
                  have t676 : x675.toInt = z522.toInt + x672.toInt := ti_add ex675 rfl rfl (by omega) (by omega)
                  refine lv_istore (lv' := [(8, .int x675), (9, .int x667), (7, .int (nI i9)), (0, .ref o0), (1, .int 4), (2, .int us), (3, .int yr), (4, .int ca), (5, .int ic), (6, .int su)]) hx hb dX12_orders_148 hl (by decide) rfl (fun ls hl => ?_)
                  refine lv_iload hx hb dX12_orders_150 (lv_at hl 1 rfl) ?_
                  refine lv_if_lt (tgt := 225) hx hb dX12_orders_152 (by decide) (fun c677 => ?_) (fun c677 => ?_)
                  · have t678 : x667.toInt < 0 := ti_lt c677 rfl (by decide)
                    refine lv_iinc (v := nI (i9 + 1)) (lv' := [(7, .int (nI (i9 + 1))), (8, .int x675), (9, .int x667), (0, .ref o0), (1, .int 4), (2, .int us), (3, .int yr), (4, .int ca), (5, .int ic), (6, .int su)]) hx hb dX12_orders_225 hl (k := 2) rfl (nI_add i9 1) (by decide) rfl (fun ls hl => ?_)
                    refine lv_goto (tgt := 64) hx hb dX12_orders_228 (by decide) ?_
                    have bk9 : z19.toInt = (slO N 4 aC aY aB aA (bt us) yr.toInt ca.toInt ic.toInt su.toInt R a0 (i9 + 1)).1 ∧ (0 ≤ (slO N 4 aC aY aB aA (bt us) yr.toInt ca.toInt ic.toInt su.toInt R a0 (i9 + 1)).1 → ∀ k : Nat, k < N → (V16 k).toInt = (slO N 4 aC aY aB aA (bt us) yr.toInt ca.toInt ic.toInt su.toInt R a0 (i9 + 1)).2 k) ∧ ∀ k : Nat, k < 4 → (V14 k).toInt = R k := by rw [sl_n (wt_none hj532 (by omega) (by omega))]; exact ⟨hj21, hj22, hj23⟩
                    exact ih399 (i9 + 1) (by omega) (by omega) V14 V16 z19 ⟨bk9.1, bk9.2.1, bk9.2.2, (by omega)⟩ _ _ hT hF hS m524 m525 m526 m527 m528 m529 m530 m531 ls (lv_sub hl [0, 3, 4, 5, 6, 7, 8, 9] rfl)
                  · have t679 : 0 ≤ x667.toInt := ti_nlt c677 rfl (by decide)
                    refine lv_iload hx hb dX12_orders_155 (lv_at hl 0 rfl) ?_
                    refine lv_sipush (v := 200) hx hb dX12_orders_157 (by decide) ?_
                    refine lv_icmp_le (tgt := 166) hx hb dX12_orders_160 (by decide) (fun c680 => ?_) (fun c680 => ?_)
                    · have t681 : x675.toInt ≤ 200 := ti_le c680 rfl (by decide)
                      refine lv_aload_n hx hb dX12_orders_166 rfl (lv_at hl 3 rfl) ?_
                      refine tw_get hx hb hts bF_X12 hown hK hT hr_o0 shm_0 rfl 75 (by decide) (ht_at hts 3 rfl) (fun _ h9 => h9) dX12_orders_167 (fun v9 m682 h9 => ?_)
                      obtain ⟨rfl, hg683⟩ := h9 _ rfl
                      refine lv_iload_n hx hb dX12_orders_170 rfl (lv_at hl 4 rfl) ?_
                      refine lv_iload hx hb dX12_orders_171 (lv_at hl 2 rfl) ?_
                      refine tw_iast (i := 4) (x := (nI i9)) hx hb hK hT hG hS hg5 shm_76 rfl (by unfold vp_in; decide) (gi_all _) dX12_orders_173 (fun H locs hT oq m684 oi hS => ?_)
                      have hF := hF.ast hg5 skm_76 oq (by decide)
                      have m685 := m524.kept (oq _ (gne hg1 hg5 (by decide)))
                      have m686 := m525.kept (oq _ (gne hg2 hg5 (by decide)))
                      have m687 := m526.kept (oq _ (gne hg3 hg5 (by decide)))
                      have m688 := m527.kept (oq _ (gne hg4 hg5 (by decide)))
                      have m689 := m528.put m684 oi
                      have m690 := m529.kept (oq _ (gne hg6 hg5 (by decide)))
                      have m691 := (el_kept (oq _ (gne hr_o0 hg5 (by decide)))).trans m530
                      have m692 := (el_kept (oq _ (gne hr_o0 hg5 (by decide)))).trans m531
                      have m693 := (el_kept (oq _ (gne hg1 hg5 (by decide)))).trans m657
                      have m694 := (el_kept (oq _ (gne hg2 hg5 (by decide)))).trans m671
                      refine lv_aload_n hx hb dX12_orders_174 rfl (lv_at hl 3 rfl) ?_
                      refine lv_iload_n hx hb dX12_orders_175 rfl (lv_at hl 4 rfl) ?_
                      refine lv_iconst (v := 1) hx hb dX12_orders_176 (by decide) ?_
                      refine lv_iadd hx hb dX12_orders_177 ?_
                      refine lv_topi (fun x695 ex695 => ?_)
                      obtain rfl : x695 = 5 := ex695.trans (by decide)
                      refine lv_iload_n hx hb dX12_orders_178 rfl (lv_at hl 5 rfl) ?_
                      refine lv_iconst (v := 1) hx hb dX12_orders_179 (by decide) ?_
                      refine lv_iload hx hb dX12_orders_180 (lv_at hl 2 rfl) ?_
                      refine lv_ishl hx hb dX12_orders_182 ?_
                      refine lv_topi (fun x696 ex696 => ?_)
                      refine lv_ior hx hb dX12_orders_183 ?_
                      refine lv_topi (fun x697 ex697 => ?_)
                      refine lv_iload hx hb dX12_orders_184 (lv_at hl 0 rfl) ?_
                      refine lv_iload hx hb dX12_orders_186 (lv_at hl 1 rfl) ?_
                      refine lv_iload hx hb dX12_orders_188 (lv_at hl 8 rfl) ?_
                      refine lv_aload_n hx hb dX12_orders_190 rfl (lv_at hl 3 rfl) ?_
                      refine tw_get hx hb hts bF_X12 hown hK hT hr_o0 shm_0 rfl 71 (by decide) (ht_at hts 2 rfl) (fun _ h9 => h9) dX12_orders_191 (fun v9 m698 h9 => ?_)
                      obtain ⟨rfl, hg699⟩ := h9 _ rfl
                      refine lv_iload hx hb dX12_orders_194 (lv_at hl 2 rfl) ?_
                      refine tw_iald (i := (nI i9)) hx hb hK hT hg2 shm_72 rfl (vp_in_nI (by omega) (by decide)) dX12_orders_196 (fun v9 m700 h9 => ?_)
                      obtain ⟨x701, rfl, gx701, kx701⟩ := h9
                      have cx701 := m686.at m700 (by have q9 := tn_of (show (nI i9).toInt = ((i9 : Nat) : Int) from (nI_toInt (by omega))) (by omega); omega)
                      obtain rfl : x672 = x701 := (el_same m700 m694 rfl).symm
                      refine lv_imul hx hb dX12_orders_197 ?_
                      refine lv_topi (fun x702 ex702 => ?_)
                      have t703 : x702.toInt = ic.toInt * x672.toInt := ti_mulx ex702 rfl rfl (A := 400000) (B := 20) (by omega) (by omega) (by omega) (by omega) (by decide)
                      have t704 : 0 ≤ x702.toInt ∧ x702.toInt ≤ 400000 * 20 ∧ (ic.toInt = 0 → x702.toInt = 0) ∧ (x672.toInt = 0 → x702.toInt = 0) ∧ x702.toInt ≤ ic.toInt * 20 ∧ x702.toInt ≤ 400000 * x672.toInt := ti_mulnn ex702 rfl rfl (by omega) (by omega) (by omega) (by omega) (by decide)
                      refine lv_iadd hx hb dX12_orders_198 ?_
                      refine lv_topi (fun x705 ex705 => ?_)
                      have t706 : x705.toInt = x667.toInt + x702.toInt := ti_add ex705 rfl rfl (by omega) (by omega)
                      refine lv_iload hx hb dX12_orders_199 (lv_at hl 8 rfl) ?_
                      refine lv_aload_n hx hb dX12_orders_201 rfl (lv_at hl 3 rfl) ?_
                      refine tw_get hx hb hts bF_X12 hown hK hT hr_o0 shm_0 rfl 72 (by decide) (ht_at hts 4 rfl) (fun _ h9 => h9) dX12_orders_202 (fun v9 m707 h9 => ?_)
                      obtain ⟨rfl, hg708⟩ := h9 _ rfl
                      refine lv_iload hx hb dX12_orders_205 (lv_at hl 2 rfl) ?_
                      refine tw_iald (i := (nI i9)) hx hb hK hT hg3 shm_73 rfl (vp_in_nI (by omega) (by decide)) dX12_orders_207 (fun v9 m709 h9 => ?_)
                      obtain ⟨x710, rfl, gx710, kx710⟩ := h9
                      have cx710 := m687.at m709 (by have q9 := tn_of (show (nI i9).toInt = ((i9 : Nat) : Int) from (nI_toInt (by omega))) (by omega); omega)
                      have t711 : x710.toInt = (aB i9).toInt := congrArg Int32.toInt (cx710.trans (by rw [tn_nI (by omega)]))
                      have t712 : 0 ≤ (aB i9).toInt ∧ (aB i9).toInt ≤ 100000 := (hrg i9 (by omega)).2.2.1
                      refine lv_iadd hx hb dX12_orders_208 ?_
                      refine lv_topi (fun x713 ex713 => ?_)
                      have t714 : x713.toInt = ic.toInt + x710.toInt := ti_add ex713 rfl rfl (by omega) (by omega)
                      refine lv_iload hx hb dX12_orders_209 (lv_at hl 9 rfl) ?_
                      refine lv_aload_n hx hb dX12_orders_211 rfl (lv_at hl 3 rfl) ?_
                      refine tw_get hx hb hts bF_X12 hown hK hT hr_o0 shm_0 rfl 73 (by decide) (ht_at hts 5 rfl) (fun _ h9 => h9) dX12_orders_212 (fun v9 m715 h9 => ?_)
                      obtain ⟨rfl, hg716⟩ := h9 _ rfl
                      refine lv_iload hx hb dX12_orders_215 (lv_at hl 2 rfl) ?_
                      refine tw_iald (i := (nI i9)) hx hb hK hT hg4 shm_74 rfl (vp_in_nI (by omega) (by decide)) dX12_orders_217 (fun v9 m717 h9 => ?_)
                      obtain ⟨x718, rfl, gx718, kx718⟩ := h9
                      have cx718 := m688.at m717 (by have q9 := tn_of (show (nI i9).toInt = ((i9 : Nat) : Int) from (nI_toInt (by omega))) (by omega); omega)
                      have t719 : x718.toInt = (aA i9).toInt := congrArg Int32.toInt (cx718.trans (by rw [tn_nI (by omega)]))
                      have t720 : 0 ≤ (aA i9).toInt ∧ (aA i9).toInt ≤ 1000 := (hrg i9 (by omega)).2.2.2
                      refine lv_iload hx hb dX12_orders_218 (lv_at hl 0 rfl) ?_
                      refine lv_imul hx hb dX12_orders_220 ?_
                      refine lv_topi (fun x721 ex721 => ?_)
                      have t722 : x721.toInt = x718.toInt * x675.toInt := ti_mulx ex721 rfl rfl (A := 1000) (B := 200) (by omega) (by omega) (by omega) (by omega) (by decide)
                      have t723 : 0 ≤ x721.toInt ∧ x721.toInt ≤ 1000 * 200 ∧ (x718.toInt = 0 → x721.toInt = 0) ∧ (x675.toInt = 0 → x721.toInt = 0) ∧ x721.toInt ≤ x718.toInt * 200 ∧ x721.toInt ≤ 1000 * x675.toInt := ti_mulnn ex721 rfl rfl (by omega) (by omega) (by omega) (by omega) (by decide)
                      refine lv_iadd hx hb dX12_orders_221 ?_
                      refine lv_topi (fun x724 ex724 => ?_)
                      have t725 : x724.toInt = su.toInt + x721.toInt := ti_add ex724 rfl rfl (by omega) (by omega)
                      have hFc := gA_free hG hA hS
                      refine va_callv (va_runV (As := [.int 5, .int x697, .int x675, .int x705, .int x713, .int x724]) (rest := []) ⟨hx, hb, hml, hown, hts⟩ (s_ordersC5 l dC dI kA adK adV G H q wZ wN wH wB wC wL wK wU wV PI im PM PT lS lB lE lN o0 x697 x675 x705 x713 x724 jb z19 aC aY aB aA (cu V14 (4 : Int32).toNatClampNeg (nI i9)) V16 N (fun k => if k = 4 then ((i9 : Nat) : Int) else R k) (slO N 4 aC aY aB aA (bt us) yr.toInt ca.toInt ic.toInt su.toInt R a0 i9) hT hr_o0 m691 m692 (by have q8 := ti_all x675; omega) (by have q8 := ti_all x705; omega) (by have q8 := ti_all x713; omega) (by have q8 := ti_all x724; omega) (by have q8 := ti_all jb; omega) hN hrg hj21 hj22 (rr_s (K := 4) rfl (by decide) (nI_toInt (by omega)) hj23) m685 m686 m687 m688 m689 m690 hgz hgn hgh hgb hgc hgi hgu) (cwV 6 hts (goodIn_app (goodIn_r _ [10, 11, 12, 13] rfl (by decide +kernel)) (goodIn_ca (goodIn_r _ [7, 1, 2, 3, 4, 5, 6, 7, 8, 9, 10, 11, 12, 13] rfl (by decide +kernel)) (bs_in _ _))) rfl rfl rfl (by decide +kernel) ⟨(Nat.le_of_ble_eq_true rfl), (Nat.le_of_ble_eq_true rfl)⟩) ⟨fun a U g mk q => by obtain ⟨q0, q1, qK, qE⟩ := q; exact ⟨q0, q1, va_K.moved (u := U) (U := U.calling g mk a) (Vm.Alike.refl U.vm) qK, EVS.blind g mk a qE⟩, gH_recv hK hT hr_o0 shm_0 rfl, fun U hU hW => ⟨rfl, hU, va_K.moved hW.alike hK, hE.call hS hFc hU hW⟩⟩ rfl rfl hl.1 rfl (lv_room (Nat.le_of_ble_eq_true rfl)) dX12_orders_222 ⟨(Nat.le_of_ble_eq_true rfl), (Nat.le_of_ble_eq_true rfl)⟩) hS (fun q _ h => hFc q h) hFc (fun u t H locs ht hvm hw727 hB _ _ hS => ?_)
                      obtain ⟨u728, u729, u730⟩ := u
                      obtain ⟨hT, hF1, m731, m732, m733⟩ := hB
                      rw [ht] at hT hF1 m731 m732 m733
                      have m734 := m685.kept (hF1.arr hg1 skm_71 (by decide))
                      have m735 := m686.kept (hF1.arr hg2 skm_72 (by decide))
                      have m736 := m687.kept (hF1.arr hg3 skm_73 (by decide))
                      have m737 := m688.kept (hF1.arr hg4 skm_74 (by decide))
                      have m740 := (hF1.fld hr_o0 skm_0 (k := 74) (by decide) (by decide)).trans m691
                      have m742 := (el_kept (hF1.arr hg1 skm_71 (by decide))).trans m693
                      have m743 := (el_kept (hF1.arr hg2 skm_72 (by decide))).trans m694
                      have m745 := (el_kept (hF1.arr hg3 skm_73 (by decide))).trans m709
                      have m746 := (el_kept (hF1.arr hg4 skm_74 (by decide))).trans m717
                      have hF := hF.more hF1 (by decide)
                      try dsimp only at hw727
                      have hf747 := hw727
                      refine lv_iinc (v := nI (i9 + 1)) (lv' := [(7, .int (nI (i9 + 1))), (8, .int x675), (9, .int x667), (0, .ref o0), (1, .int 4), (2, .int us), (3, .int yr), (4, .int ca), (5, .int ic), (6, .int su)]) hx hb dX12_orders_225 hl (k := 2) rfl (nI_add i9 1) (by decide) rfl (fun ls hl => ?_)
                      refine lv_goto (tgt := 64) hx hb dX12_orders_228 (by decide) ?_
                      have bk9 : u728.toInt = (slO N 4 aC aY aB aA (bt us) yr.toInt ca.toInt ic.toInt su.toInt R a0 (i9 + 1)).1 ∧ (0 ≤ (slO N 4 aC aY aB aA (bt us) yr.toInt ca.toInt ic.toInt su.toInt R a0 (i9 + 1)).1 → ∀ k : Nat, k < N → (u730 k).toInt = (slO N 4 aC aY aB aA (bt us) yr.toInt ca.toInt ic.toInt su.toInt R a0 (i9 + 1)).2 k) ∧ ∀ k : Nat, k < 4 → (u729 k).toInt = R k := by have q9 := hf747; rw [sl_call (N := N) (K := 4) (K1 := 5) (aC := aC) (aY := aY) (aB := aB) (aA := aA) (U := bt us) (yr := yr.toInt) (ca := ca.toInt) (ic := ic.toInt) (su := su.toInt) (R := R) (a := a0) (i := i9) (d := x675.toInt) (c1 := x705.toInt) (i1 := x713.toInt) (s1 := x724.toInt) (U1 := bt x697) rfl (hbt.2 (by omega)) (wt_some hj532 (by omega) (by omega) (by omega)) (bt_or (by omega) ex696 ex697) (by have q8 := wt_cash (d := x675.toInt) (z := x702.toInt) (last := x672.toInt) hj532 (by omega) (by omega); omega) (by omega) (by rw [show (aA i9).toInt = x718.toInt from by omega]; omega)] at q9; exact ⟨q9.1, q9.2.1, fun k hk => (q9.2.2 k (by omega)).trans (if_neg (by omega))⟩
                      exact ih399 (i9 + 1) (by omega) (by omega) u729 u730 u728 ⟨bk9.1, bk9.2.1, bk9.2.2, (by omega)⟩ _ _ hT hF hS m734 m735 m736 m737 m732 m733 m740 m731 ls (lv_sub hl [0, 3, 4, 5, 6, 7, 8, 9] rfl)
                    · have t748 : 200 < x675.toInt := ti_nle c680 rfl (by decide)
                      refine lv_goto (tgt := 225) hx hb dX12_orders_163 (by decide) ?_
                      refine lv_iinc (v := nI (i9 + 1)) (lv' := [(7, .int (nI (i9 + 1))), (8, .int x675), (9, .int x667), (0, .ref o0), (1, .int 4), (2, .int us), (3, .int yr), (4, .int ca), (5, .int ic), (6, .int su)]) hx hb dX12_orders_225 hl (k := 2) rfl (nI_add i9 1) (by decide) rfl (fun ls hl => ?_)
                      refine lv_goto (tgt := 64) hx hb dX12_orders_228 (by decide) ?_
                      have bk9 : z19.toInt = (slO N 4 aC aY aB aA (bt us) yr.toInt ca.toInt ic.toInt su.toInt R a0 (i9 + 1)).1 ∧ (0 ≤ (slO N 4 aC aY aB aA (bt us) yr.toInt ca.toInt ic.toInt su.toInt R a0 (i9 + 1)).1 → ∀ k : Nat, k < N → (V16 k).toInt = (slO N 4 aC aY aB aA (bt us) yr.toInt ca.toInt ic.toInt su.toInt R a0 (i9 + 1)).2 k) ∧ ∀ k : Nat, k < 4 → (V14 k).toInt = R k := by rw [sl_n (wt_none hj532 (by omega) (by omega))]; exact ⟨hj21, hj22, hj23⟩
                      exact ih399 (i9 + 1) (by omega) (by omega) V14 V16 z19 ⟨bk9.1, bk9.2.1, bk9.2.2, (by omega)⟩ _ _ hT hF hS m524 m525 m526 m527 m528 m529 m530 m531 ls (lv_sub hl [0, 3, 4, 5, 6, 7, 8, 9] rfl)
                · have t749 : z520.toInt < x658.toInt := ti_nle c661 rfl rfl
                  refine lv_iload hx hb dX12_orders_105 (lv_at hl 1 rfl) ?_
                  refine lv_sipush (v := 200) hx hb dX12_orders_107 (by decide) ?_
                  refine lv_icmp_gt (tgt := 126) hx hb dX12_orders_110 (by decide) (fun c750 => ?_) (fun c750 => ?_)
                  · have t751 : 200 < z522.toInt := ti_lt c750 (by decide) rfl
                    refine lv_iload hx hb dX12_orders_126 (lv_at hl 0 rfl) ?_
                    refine lv_aload_n hx hb dX12_orders_128 rfl (lv_at hl 3 rfl) ?_
                    refine tw_get hx hb hts bF_X12 hown hK hT hr_o0 shm_0 rfl 70 (by decide) (ht_at hts 1 rfl) (fun _ h9 => h9) dX12_orders_129 (fun v9 m752 h9 => ?_)
                    obtain ⟨rfl, hg753⟩ := h9 _ rfl
                    refine lv_iload hx hb dX12_orders_132 (lv_at hl 2 rfl) ?_
                    refine tw_iald (i := (nI i9)) hx hb hK hT hg1 shm_71 rfl (vp_in_nI (by omega) (by decide)) dX12_orders_134 (fun v9 m754 h9 => ?_)
                    obtain ⟨x755, rfl, gx755, kx755⟩ := h9
                    have cx755 := m524.at m754 (by have q9 := tn_of (show (nI i9).toInt = ((i9 : Nat) : Int) from (nI_toInt (by omega))) (by omega); omega)
                    obtain rfl : x658 = x755 := (el_same m754 m657 rfl).symm
                    refine lv_isub hx hb dX12_orders_135 ?_
                    refine lv_topi (fun x756 ex756 => ?_)
                    have t757 : x756.toInt = z520.toInt - x658.toInt := ti_sub ex756 rfl rfl (by omega) (by omega)
                    refine lv_istore (lv' := [(9, .int x756), (8, .int z522), (7, .int (nI i9)), (0, .ref o0), (1, .int 4), (2, .int us), (3, .int yr), (4, .int ca), (5, .int ic), (6, .int su)]) hx hb dX12_orders_136 hl (by decide) rfl (fun ls hl => ?_)
                    refine lv_iload hx hb dX12_orders_138 (lv_at hl 1 rfl) ?_
                    refine lv_aload_n hx hb dX12_orders_140 rfl (lv_at hl 3 rfl) ?_
                    refine tw_get hx hb hts bF_X12 hown hK hT hr_o0 shm_0 rfl 71 (by decide) (ht_at hts 2 rfl) (fun _ h9 => h9) dX12_orders_141 (fun v9 m758 h9 => ?_)
                    obtain ⟨rfl, hg759⟩ := h9 _ rfl
                    refine lv_iload hx hb dX12_orders_144 (lv_at hl 2 rfl) ?_
                    refine tw_iald (i := (nI i9)) hx hb hK hT hg2 shm_72 rfl (vp_in_nI (by omega) (by decide)) dX12_orders_146 (fun v9 m760 h9 => ?_)
                    obtain ⟨x761, rfl, gx761, kx761⟩ := h9
                    have cx761 := m525.at m760 (by have q9 := tn_of (show (nI i9).toInt = ((i9 : Nat) : Int) from (nI_toInt (by omega))) (by omega); omega)
                    have t762 : x761.toInt = (aY i9).toInt := congrArg Int32.toInt (cx761.trans (by rw [tn_nI (by omega)]))
                    have t763 : 1 ≤ (aY i9).toInt ∧ (aY i9).toInt ≤ 20 := (hrg i9 (by omega)).2.1
                    refine lv_iadd hx hb dX12_orders_147 ?_
                    refine lv_topi (fun x764 ex764 => ?_)
                    have t765 : x764.toInt = z522.toInt + x761.toInt := ti_add ex764 rfl rfl (by omega) (by omega)
                    refine lv_istore (lv' := [(8, .int x764), (9, .int x756), (7, .int (nI i9)), (0, .ref o0), (1, .int 4), (2, .int us), (3, .int yr), (4, .int ca), (5, .int ic), (6, .int su)]) hx hb dX12_orders_148 hl (by decide) rfl (fun ls hl => ?_)
                    refine lv_iload hx hb dX12_orders_150 (lv_at hl 1 rfl) ?_
                    refine lv_if_lt (tgt := 225) hx hb dX12_orders_152 (by decide) (fun c766 => ?_) (fun c766 => ?_)
                    · have t767 : x756.toInt < 0 := ti_lt c766 rfl (by decide)
                      refine lv_iinc (v := nI (i9 + 1)) (lv' := [(7, .int (nI (i9 + 1))), (8, .int x764), (9, .int x756), (0, .ref o0), (1, .int 4), (2, .int us), (3, .int yr), (4, .int ca), (5, .int ic), (6, .int su)]) hx hb dX12_orders_225 hl (k := 2) rfl (nI_add i9 1) (by decide) rfl (fun ls hl => ?_)
                      refine lv_goto (tgt := 64) hx hb dX12_orders_228 (by decide) ?_
                      have bk9 : z19.toInt = (slO N 4 aC aY aB aA (bt us) yr.toInt ca.toInt ic.toInt su.toInt R a0 (i9 + 1)).1 ∧ (0 ≤ (slO N 4 aC aY aB aA (bt us) yr.toInt ca.toInt ic.toInt su.toInt R a0 (i9 + 1)).1 → ∀ k : Nat, k < N → (V16 k).toInt = (slO N 4 aC aY aB aA (bt us) yr.toInt ca.toInt ic.toInt su.toInt R a0 (i9 + 1)).2 k) ∧ ∀ k : Nat, k < 4 → (V14 k).toInt = R k := by rw [sl_n (wt_none hj532 (by omega) (by omega))]; exact ⟨hj21, hj22, hj23⟩
                      exact ih399 (i9 + 1) (by omega) (by omega) V14 V16 z19 ⟨bk9.1, bk9.2.1, bk9.2.2, (by omega)⟩ _ _ hT hF hS m524 m525 m526 m527 m528 m529 m530 m531 ls (lv_sub hl [0, 3, 4, 5, 6, 7, 8, 9] rfl)
                    · have t768 : 0 ≤ x756.toInt := ti_nlt c766 rfl (by decide)
                      refine lv_iload hx hb dX12_orders_155 (lv_at hl 0 rfl) ?_
                      refine lv_sipush (v := 200) hx hb dX12_orders_157 (by decide) ?_
                      refine lv_icmp_le (tgt := 166) hx hb dX12_orders_160 (by decide) (fun c769 => (by exfalso; have q9 : x764.toInt ≤ 200 := ti_le c769 rfl (by decide); omega)) (fun c769 => ?_)
                      have t770 : 200 < x764.toInt := ti_nle c769 rfl (by decide)
                      refine lv_goto (tgt := 225) hx hb dX12_orders_163 (by decide) ?_
                      refine lv_iinc (v := nI (i9 + 1)) (lv' := [(7, .int (nI (i9 + 1))), (8, .int x764), (9, .int x756), (0, .ref o0), (1, .int 4), (2, .int us), (3, .int yr), (4, .int ca), (5, .int ic), (6, .int su)]) hx hb dX12_orders_225 hl (k := 2) rfl (nI_add i9 1) (by decide) rfl (fun ls hl => ?_)
                      refine lv_goto (tgt := 64) hx hb dX12_orders_228 (by decide) ?_
                      have bk9 : z19.toInt = (slO N 4 aC aY aB aA (bt us) yr.toInt ca.toInt ic.toInt su.toInt R a0 (i9 + 1)).1 ∧ (0 ≤ (slO N 4 aC aY aB aA (bt us) yr.toInt ca.toInt ic.toInt su.toInt R a0 (i9 + 1)).1 → ∀ k : Nat, k < N → (V16 k).toInt = (slO N 4 aC aY aB aA (bt us) yr.toInt ca.toInt ic.toInt su.toInt R a0 (i9 + 1)).2 k) ∧ ∀ k : Nat, k < 4 → (V14 k).toInt = R k := by rw [sl_n (wt_none hj532 (by omega) (by omega))]; exact ⟨hj21, hj22, hj23⟩
                      exact ih399 (i9 + 1) (by omega) (by omega) V14 V16 z19 ⟨bk9.1, bk9.2.1, bk9.2.2, (by omega)⟩ _ _ hT hF hS m524 m525 m526 m527 m528 m529 m530 m531 ls (lv_sub hl [0, 3, 4, 5, 6, 7, 8, 9] rfl)
                  · have t771 : z522.toInt ≤ 200 := ti_nlt c750 (by decide) rfl
                    obtain ⟨x772, ex772⟩ : ∃ y : Int32, y = z522 + 1 := ⟨_, rfl⟩
                    have t773 : x772.toInt = z522.toInt + 1 := ti_add ex772 rfl (by decide) (by omega) (by omega)
                    refine lv_iinc (v := x772) (lv' := [(8, .int x772), (9, .int z520), (7, .int (nI i9)), (0, .ref o0), (1, .int 4), (2, .int us), (3, .int yr), (4, .int ca), (5, .int ic), (6, .int su)]) hx hb dX12_orders_113 hl (k := 1) rfl (by first | (rw [ex772]; done) | (rw [ex772]; rfl)) (by decide) rfl (fun ls hl => ?_)
                    refine lv_iload hx hb dX12_orders_116 (lv_at hl 1 rfl) ?_
                    refine lv_iload hx hb dX12_orders_118 (lv_at hl 8 rfl) ?_
                    refine lv_iadd hx hb dX12_orders_120 ?_
                    refine lv_topi (fun x774 ex774 => ?_)
                    have t775 : x774.toInt = z520.toInt + ic.toInt := ti_add ex774 rfl rfl (by omega) (by omega)
                    refine lv_istore (lv' := [(9, .int x774), (8, .int x772), (7, .int (nI i9)), (0, .ref o0), (1, .int 4), (2, .int us), (3, .int yr), (4, .int ca), (5, .int ic), (6, .int su)]) hx hb dX12_orders_121 hl (by decide) rfl (fun ls hl => ?_)
                    refine lv_goto (tgt := 93) hx hb dX12_orders_123 (by decide) ?_
                    exact ih654 x774 x772 (by have q9 := (show x772.toInt = x772.toInt from rfl); omega) ⟨(by have q8 := ti_all x774; omega), (by have q8 := ti_all x772; omega), (wt_s hj532 (by omega) (by omega) (by omega))⟩ _ _ hT hF hS m524 m525 m526 m527 m528 m529 m530 m531 ls (lv_sub hl [0, 1, 2, 3, 4, 5, 6, 7, 8, 9] rfl)
            exact key654 401 ca yr (by have q9 := (show yr.toInt = yr.toInt from rfl); omega) ⟨(by have q8 := ti_all ca; omega), (by have q8 := ti_all yr; omega), (wt_0 (by omega) (by omega))⟩ _ _ hT hF hS m10 m11 m12 m13 m15 m17 m18 m20 ls (lv_sub hl [0, 1, 2, 3, 4, 5, 6, 7, 8, 9] rfl)
          · have t776 : x407.toInt = 1 := ti_eq c408 rfl (by decide)
            refine lv_goto (tgt := 225) hx hb dX12_orders_83 (by decide) ?_
            refine lv_iinc (v := nI (i9 + 1)) (lv' := [(7, .int (nI (i9 + 1))), (0, .ref o0), (1, .int 4), (2, .int us), (3, .int yr), (4, .int ca), (5, .int ic), (6, .int su)]) hx hb dX12_orders_225 hl (k := 0) rfl (nI_add i9 1) (by decide) rfl (fun ls hl => ?_)
            refine lv_goto (tgt := 64) hx hb dX12_orders_228 (by decide) ?_
            have bk9 : z19.toInt = (slO N 4 aC aY aB aA (bt us) yr.toInt ca.toInt ic.toInt su.toInt R a0 (i9 + 1)).1 ∧ (0 ≤ (slO N 4 aC aY aB aA (bt us) yr.toInt ca.toInt ic.toInt su.toInt R a0 (i9 + 1)).1 → ∀ k : Nat, k < N → (V16 k).toInt = (slO N 4 aC aY aB aA (bt us) yr.toInt ca.toInt ic.toInt su.toInt R a0 (i9 + 1)).2 k) ∧ ∀ k : Nat, k < 4 → (V14 k).toInt = R k := by rw [sl_u (hbt.1 (by omega))]; exact ⟨hj21, hj22, hj23⟩
            exact ih399 (i9 + 1) (by omega) (by omega) V14 V16 z19 ⟨bk9.1, bk9.2.1, bk9.2.2, (by omega)⟩ _ _ hT hF hS m10 m11 m12 m13 m15 m17 m18 m20 ls (lv_sub hl [0, 1, 2, 3, 4, 5, 6, 7] rfl)
    exact key399 (7 - 0) 0 (by omega) (Nat.le_refl _) vR vZ la ⟨hla, hZ0, hR, (by omega)⟩ _ _ hT hF hS hc_aC hc_aY hc_aB hc_aA hc_vR hc_vZ hm_jb hm_la ls (lv_sub hl [0, 1, 2, 3, 4, 5, 6, 7] rfl)
  · have t777 : 4 = jb.toInt := ti_eq c7 (by decide) rfl
    refine lv_aload_n hx hb dX12_orders_8 rfl (lv_at hl 0 rfl) ?_
    refine tw_getM (v := .int la) hx hb hts bF_X12 hown hK hT hr_o0 shm_0 rfl 77 (by decide) (ht_at hts 7 rfl) (fun _ h9 => h9) hm_la dX12_orders_9 ?_
    refine lv_if_lt (tgt := 25) hx hb dX12_orders_12 (by decide) (fun c778 => ?_) (fun c778 => ?_)
    · have t779 : la.toInt < 0 := ti_lt c778 rfl (by decide)
      refine lv_aload_n hx hb dX12_orders_25 rfl (lv_at hl 0 rfl) ?_
      refine lv_iload hx hb dX12_orders_26 (lv_at hl 6 rfl) ?_
      refine tw_put (v := .int su) (ty := .int) hx hb hts bF_X12 tyX12 tyX12_ok nmX12 hown hK hT hG hS hr_o0 shm_0 rfl 77 (by decide) (ht_at hts 7 rfl) (fun _ h9 => h9) rfl (by decide +kernel) rfl rfl (gl_at rfl (gi_all _)) dX12_orders_28 (fun H locs hT oq m780 oj hS => ?_)
      have hF := hF.put hr_o0 skm_0 oq oj (by decide)
      have m781 := (oj 74 (by decide) (by decide)).trans hm_jb
      have m782 := hc_aC.kept (oq _ (gne hg1 hr_o0 (by decide)))
      have m783 := hc_aY.kept (oq _ (gne hg2 hr_o0 (by decide)))
      have m784 := hc_aB.kept (oq _ (gne hg3 hr_o0 (by decide)))
      have m785 := hc_aA.kept (oq _ (gne hg4 hr_o0 (by decide)))
      have m786 := hc_vR.kept (oq _ (gne hg5 hr_o0 (by decide)))
      have m787 := hc_vZ.kept (oq _ (gne hg6 hr_o0 (by decide)))
      refine lv_iconst (v := 0) hx hb dX12_orders_31 (by decide) ?_
      refine lv_istore (lv' := [(7, .int 0), (0, .ref o0), (1, .int 4), (2, .int us), (3, .int yr), (4, .int ca), (5, .int ic), (6, .int su)]) hx hb dX12_orders_32 hl (by decide) rfl (fun ls hl => ?_)
      have key817 : ∀ (n817 i788 : Nat), i788 + n817 = 4 → 0 ≤ i788 → ∀ (V794 : Nat → Int32), ((∀ k : Nat, k < i788 → (V794 k).toInt = R k)) → ∀ (H : Heap) (locs : List Loc), gH (dC, dI) kA (SHm q (wP wZ wN wH wB wC wL wK wU wV) PI im PM PT lS lB lE lN) G H → gF (dC, dI) SKm G ([(0, 77), (76, 0), (77, 0)] : List (Nat × Nat)) s.heap H → va_S A s.heap H locs → ct H (q 70) 7 aC → ct H (q 71) 7 aY → ct H (q 72) 7 aB → ct H (q 73) 7 aA → ct H (q 75) 7 vR → ct H (q 76) 7 V794 → el H o0 (dI 15 74) = some (.int jb) → el H o0 (dI 15 77) = some (.int su) → ∀ ls : Array Slot, lv_has ls 10 [(7, .int (nI i788)), (0, .ref o0), (1, .int 4), (2, .int us), (3, .int yr), (4, .int ca), (5, .int ic), (6, .int su)] → W p l e (headSpec w_s_ordersC4 ({ frames := 3, cells := 0, slots := 0, locals := 87 })).room s m #[.ref o0, .int 4, .int us, .int yr, .int ca, .int ic, .int su] below meth c H locs 0 0 (MQ below (va_Qv (fun (u : Int32 × (Nat → Int32) × (Nat → Int32)) => match u with | (la1, vR1, vZ1) => (la1.toInt = (sx N 4 aC aY aB aA (bt us) yr.toInt ca.toInt ic.toInt su.toInt R a0).1 ∧ (0 ≤ (sx N 4 aC aY aB aA (bt us) yr.toInt ca.toInt ic.toInt su.toInt R a0).1 → ∀ k : Nat, k < N → (vZ1 k).toInt = (sx N 4 aC aY aB aA (bt us) yr.toInt ca.toInt ic.toInt su.toInt R a0).2 k) ∧ ∀ k : Nat, k < 4 → (vR1 k).toInt = R k)) (fun (u : Int32 × (Nat → Int32) × (Nat → Int32)) (t : State) => match u with | (la1, vR1, vZ1) => gH (dC, dI) kA (SHm q (wP wZ wN wH wB wC wL wK wU wV) PI im PM PT lS lB lE lN) G t.heap ∧ gF (dC, dI) SKm G ([(0, 77), (76, 0), (77, 0)] : List (Nat × Nat)) s.heap t.heap ∧ el t.heap o0 (dI 15 77) = some (.int la1) ∧ ct t.heap (q 75) 7 vR1 ∧ ct t.heap (q 76) 7 vZ1) A) #[.ref o0, .int 4, .int us, .int yr, .int ca, .int ic, .int su] s 0 0 A) (F0 m 34 ls []) := by
        intro n817
        induction n817 with
        | zero =>
          intro i788 hn817 hlo818 V794 hj798 H locs hT hF hS m789 m790 m791 m792 m793 m795 m796 m797 ls hl
          obtain rfl : 4 = i788 := by omega
          refine lv_iload hx hb dX12_orders_34 (lv_at hl 0 rfl) ?_
          refine lv_iload_n hx hb dX12_orders_36 rfl (lv_at hl 2 rfl) ?_
          refine lv_icmp_ge (tgt := 60) hx hb dX12_orders_37 (by decide) (fun c819 => ?_) (fun c819 => (by exfalso; have q9 : ((4 : Nat) : Int) < 4 := ti_nle c819 (by decide) (nI_toInt (by omega)); omega))
          have t820 : 4 ≤ ((4 : Nat) : Int) := ti_le c819 (by decide) (nI_toInt (by omega))
          exact W.vret hx hb hr (fun t ht hW => ⟨⟨(su, vR, V794), rfl, (by exact (by (try dsimp only); have e9 : N = 4 := (by omega); rw [sx_0 e9, if_neg (by omega)]; exact ⟨rfl, fun _ k hk => hj798 k (by omega), hR⟩)), by (try dsimp only); rw [ht]; exact ⟨hT, hF, m797, m793, m795⟩⟩, hS.F ht⟩) hS.2.2 dX12_orders_60
        | succ n817 ih817 =>
          intro i788 hn817 hlo818 V794 hj798 H locs hT hF hS m789 m790 m791 m792 m793 m795 m796 m797 ls hl
          have hlt820 : i788 < 4 := by omega
          refine lv_iload hx hb dX12_orders_34 (lv_at hl 0 rfl) ?_
          refine lv_iload_n hx hb dX12_orders_36 rfl (lv_at hl 2 rfl) ?_
          refine lv_icmp_ge (tgt := 60) hx hb dX12_orders_37 (by decide) (fun c821 => (by exfalso; have q9 : 4 ≤ ((i788 : Nat) : Int) := ti_le c821 (by decide) (nI_toInt (by omega)); omega)) (fun c821 => ?_)
          have t822 : ((i788 : Nat) : Int) < 4 := ti_nle c821 (by decide) (nI_toInt (by omega))
          refine lv_aload_n hx hb dX12_orders_40 rfl (lv_at hl 1 rfl) ?_
          refine tw_get hx hb hts bF_X12 hown hK hT hr_o0 shm_0 rfl 76 (by decide) (ht_at hts 8 rfl) (fun _ h9 => h9) dX12_orders_41 (fun v9 m823 h9 => ?_)
          obtain ⟨rfl, hg824⟩ := h9 _ rfl
          refine lv_iload hx hb dX12_orders_44 (lv_at hl 0 rfl) ?_
          refine lv_aload_n hx hb dX12_orders_46 rfl (lv_at hl 1 rfl) ?_
          refine tw_get hx hb hts bF_X12 hown hK hT hr_o0 shm_0 rfl 75 (by decide) (ht_at hts 3 rfl) (fun _ h9 => h9) dX12_orders_47 (fun v9 m825 h9 => ?_)
          obtain ⟨rfl, hg826⟩ := h9 _ rfl
          refine lv_iload hx hb dX12_orders_50 (lv_at hl 0 rfl) ?_
          refine tw_iald (i := (nI i788)) hx hb hK hT hg5 shm_76 rfl (vp_in_nI (by omega) (by decide)) dX12_orders_52 (fun v9 m827 h9 => ?_)
          obtain ⟨x828, rfl, gx828, kx828⟩ := h9
          have cx828 := m793.at m827 (by have q9 := tn_of (show (nI i788).toInt = ((i788 : Nat) : Int) from (nI_toInt (by omega))) (by omega); omega)
          refine tw_iast (i := (nI i788)) (x := x828) hx hb hK hT hG hS hg6 shm_77 rfl (vp_in_nI (by omega) (by decide)) (gi_all _) dX12_orders_53 (fun H locs hT oq m829 oi hS => ?_)
          have hF := hF.ast hg6 skm_77 oq (by decide)
          have m830 := m789.kept (oq _ (gne hg1 hg6 (by decide)))
          have m831 := m790.kept (oq _ (gne hg2 hg6 (by decide)))
          have m832 := m791.kept (oq _ (gne hg3 hg6 (by decide)))
          have m833 := m792.kept (oq _ (gne hg4 hg6 (by decide)))
          have m834 := m793.kept (oq _ (gne hg5 hg6 (by decide)))
          have m835 := m795.put m829 oi
          have m836 := (el_kept (oq _ (gne hr_o0 hg6 (by decide)))).trans m796
          have m837 := (el_kept (oq _ (gne hr_o0 hg6 (by decide)))).trans m797
          have m838 := (el_kept (oq _ (gne hg5 hg6 (by decide)))).trans m827
          refine lv_iinc (v := nI (i788 + 1)) (lv' := [(7, .int (nI (i788 + 1))), (0, .ref o0), (1, .int 4), (2, .int us), (3, .int yr), (4, .int ca), (5, .int ic), (6, .int su)]) hx hb dX12_orders_54 hl (k := 0) rfl (nI_add i788 1) (by decide) rfl (fun ls hl => ?_)
          refine lv_goto (tgt := 34) hx hb dX12_orders_57 (by decide) ?_
          exact ih817 (i788 + 1) (by omega) (by omega) (cu V794 (nI i788).toNatClampNeg x828) (cp_s (V := vR) (K := 4) (i := i788) (tn_nI (by omega)) cx828 hR (by omega) hj798) _ _ hT hF hS m830 m831 m832 m833 m834 m835 m836 m837 ls (lv_sub hl [0, 1, 2, 3, 4, 5, 6, 7] rfl)
      exact key817 (4 - 0) 0 (by omega) (Nat.le_refl _) vZ (fun k h => absurd h (Nat.not_lt_zero k)) _ _ hT hF hS m782 m783 m784 m785 m786 m787 m781 m780 ls (lv_sub hl [0, 1, 2, 3, 4, 5, 6, 7] rfl)
    · have t839 : 0 ≤ la.toInt := ti_nlt c778 rfl (by decide)
      refine lv_iload hx hb dX12_orders_15 (lv_at hl 6 rfl) ?_
      refine lv_aload_n hx hb dX12_orders_17 rfl (lv_at hl 0 rfl) ?_
      refine tw_getM (v := .int la) hx hb hts bF_X12 hown hK hT hr_o0 shm_0 rfl 77 (by decide) (ht_at hts 7 rfl) (fun _ h9 => h9) hm_la dX12_orders_18 ?_
      refine lv_icmp_lt (tgt := 25) hx hb dX12_orders_21 (by decide) (fun c840 => ?_) (fun c840 => ?_)
      · have t841 : su.toInt < la.toInt := ti_lt c840 rfl rfl
        refine lv_aload_n hx hb dX12_orders_25 rfl (lv_at hl 0 rfl) ?_
        refine lv_iload hx hb dX12_orders_26 (lv_at hl 6 rfl) ?_
        refine tw_put (v := .int su) (ty := .int) hx hb hts bF_X12 tyX12 tyX12_ok nmX12 hown hK hT hG hS hr_o0 shm_0 rfl 77 (by decide) (ht_at hts 7 rfl) (fun _ h9 => h9) rfl (by decide +kernel) rfl rfl (gl_at rfl (gi_all _)) dX12_orders_28 (fun H locs hT oq m842 oj hS => ?_)
        have hF := hF.put hr_o0 skm_0 oq oj (by decide)
        have m843 := (oj 74 (by decide) (by decide)).trans hm_jb
        have m844 := hc_aC.kept (oq _ (gne hg1 hr_o0 (by decide)))
        have m845 := hc_aY.kept (oq _ (gne hg2 hr_o0 (by decide)))
        have m846 := hc_aB.kept (oq _ (gne hg3 hr_o0 (by decide)))
        have m847 := hc_aA.kept (oq _ (gne hg4 hr_o0 (by decide)))
        have m848 := hc_vR.kept (oq _ (gne hg5 hr_o0 (by decide)))
        have m849 := hc_vZ.kept (oq _ (gne hg6 hr_o0 (by decide)))
        refine lv_iconst (v := 0) hx hb dX12_orders_31 (by decide) ?_
        refine lv_istore (lv' := [(7, .int 0), (0, .ref o0), (1, .int 4), (2, .int us), (3, .int yr), (4, .int ca), (5, .int ic), (6, .int su)]) hx hb dX12_orders_32 hl (by decide) rfl (fun ls hl => ?_)
        have key879 : ∀ (n879 i850 : Nat), i850 + n879 = 4 → 0 ≤ i850 → ∀ (V856 : Nat → Int32), ((∀ k : Nat, k < i850 → (V856 k).toInt = R k)) → ∀ (H : Heap) (locs : List Loc), gH (dC, dI) kA (SHm q (wP wZ wN wH wB wC wL wK wU wV) PI im PM PT lS lB lE lN) G H → gF (dC, dI) SKm G ([(0, 77), (76, 0), (77, 0)] : List (Nat × Nat)) s.heap H → va_S A s.heap H locs → ct H (q 70) 7 aC → ct H (q 71) 7 aY → ct H (q 72) 7 aB → ct H (q 73) 7 aA → ct H (q 75) 7 vR → ct H (q 76) 7 V856 → el H o0 (dI 15 74) = some (.int jb) → el H o0 (dI 15 77) = some (.int su) → ∀ ls : Array Slot, lv_has ls 10 [(7, .int (nI i850)), (0, .ref o0), (1, .int 4), (2, .int us), (3, .int yr), (4, .int ca), (5, .int ic), (6, .int su)] → W p l e (headSpec w_s_ordersC4 ({ frames := 3, cells := 0, slots := 0, locals := 87 })).room s m #[.ref o0, .int 4, .int us, .int yr, .int ca, .int ic, .int su] below meth c H locs 0 0 (MQ below (va_Qv (fun (u : Int32 × (Nat → Int32) × (Nat → Int32)) => match u with | (la1, vR1, vZ1) => (la1.toInt = (sx N 4 aC aY aB aA (bt us) yr.toInt ca.toInt ic.toInt su.toInt R a0).1 ∧ (0 ≤ (sx N 4 aC aY aB aA (bt us) yr.toInt ca.toInt ic.toInt su.toInt R a0).1 → ∀ k : Nat, k < N → (vZ1 k).toInt = (sx N 4 aC aY aB aA (bt us) yr.toInt ca.toInt ic.toInt su.toInt R a0).2 k) ∧ ∀ k : Nat, k < 4 → (vR1 k).toInt = R k)) (fun (u : Int32 × (Nat → Int32) × (Nat → Int32)) (t : State) => match u with | (la1, vR1, vZ1) => gH (dC, dI) kA (SHm q (wP wZ wN wH wB wC wL wK wU wV) PI im PM PT lS lB lE lN) G t.heap ∧ gF (dC, dI) SKm G ([(0, 77), (76, 0), (77, 0)] : List (Nat × Nat)) s.heap t.heap ∧ el t.heap o0 (dI 15 77) = some (.int la1) ∧ ct t.heap (q 75) 7 vR1 ∧ ct t.heap (q 76) 7 vZ1) A) #[.ref o0, .int 4, .int us, .int yr, .int ca, .int ic, .int su] s 0 0 A) (F0 m 34 ls []) := by
          intro n879
          induction n879 with
          | zero =>
            intro i850 hn879 hlo880 V856 hj860 H locs hT hF hS m851 m852 m853 m854 m855 m857 m858 m859 ls hl
            obtain rfl : 4 = i850 := by omega
            refine lv_iload hx hb dX12_orders_34 (lv_at hl 0 rfl) ?_
            refine lv_iload_n hx hb dX12_orders_36 rfl (lv_at hl 2 rfl) ?_
            refine lv_icmp_ge (tgt := 60) hx hb dX12_orders_37 (by decide) (fun c881 => ?_) (fun c881 => (by exfalso; have q9 : ((4 : Nat) : Int) < 4 := ti_nle c881 (by decide) (nI_toInt (by omega)); omega))
            have t882 : 4 ≤ ((4 : Nat) : Int) := ti_le c881 (by decide) (nI_toInt (by omega))
            exact W.vret hx hb hr (fun t ht hW => ⟨⟨(su, vR, V856), rfl, (by exact (by (try dsimp only); have e9 : N = 4 := (by omega); rw [sx_0 e9, if_neg (by omega)]; exact ⟨rfl, fun _ k hk => hj860 k (by omega), hR⟩)), by (try dsimp only); rw [ht]; exact ⟨hT, hF, m859, m855, m857⟩⟩, hS.F ht⟩) hS.2.2 dX12_orders_60
          | succ n879 ih879 =>
            intro i850 hn879 hlo880 V856 hj860 H locs hT hF hS m851 m852 m853 m854 m855 m857 m858 m859 ls hl
            have hlt882 : i850 < 4 := by omega
            refine lv_iload hx hb dX12_orders_34 (lv_at hl 0 rfl) ?_
            refine lv_iload_n hx hb dX12_orders_36 rfl (lv_at hl 2 rfl) ?_
            refine lv_icmp_ge (tgt := 60) hx hb dX12_orders_37 (by decide) (fun c883 => (by exfalso; have q9 : 4 ≤ ((i850 : Nat) : Int) := ti_le c883 (by decide) (nI_toInt (by omega)); omega)) (fun c883 => ?_)
            have t884 : ((i850 : Nat) : Int) < 4 := ti_nle c883 (by decide) (nI_toInt (by omega))
            refine lv_aload_n hx hb dX12_orders_40 rfl (lv_at hl 1 rfl) ?_
            refine tw_get hx hb hts bF_X12 hown hK hT hr_o0 shm_0 rfl 76 (by decide) (ht_at hts 8 rfl) (fun _ h9 => h9) dX12_orders_41 (fun v9 m885 h9 => ?_)
            obtain ⟨rfl, hg886⟩ := h9 _ rfl
            refine lv_iload hx hb dX12_orders_44 (lv_at hl 0 rfl) ?_
            refine lv_aload_n hx hb dX12_orders_46 rfl (lv_at hl 1 rfl) ?_
            refine tw_get hx hb hts bF_X12 hown hK hT hr_o0 shm_0 rfl 75 (by decide) (ht_at hts 3 rfl) (fun _ h9 => h9) dX12_orders_47 (fun v9 m887 h9 => ?_)
            obtain ⟨rfl, hg888⟩ := h9 _ rfl
            refine lv_iload hx hb dX12_orders_50 (lv_at hl 0 rfl) ?_
            refine tw_iald (i := (nI i850)) hx hb hK hT hg5 shm_76 rfl (vp_in_nI (by omega) (by decide)) dX12_orders_52 (fun v9 m889 h9 => ?_)
            obtain ⟨x890, rfl, gx890, kx890⟩ := h9
            have cx890 := m855.at m889 (by have q9 := tn_of (show (nI i850).toInt = ((i850 : Nat) : Int) from (nI_toInt (by omega))) (by omega); omega)
            refine tw_iast (i := (nI i850)) (x := x890) hx hb hK hT hG hS hg6 shm_77 rfl (vp_in_nI (by omega) (by decide)) (gi_all _) dX12_orders_53 (fun H locs hT oq m891 oi hS => ?_)
            have hF := hF.ast hg6 skm_77 oq (by decide)
            have m892 := m851.kept (oq _ (gne hg1 hg6 (by decide)))
            have m893 := m852.kept (oq _ (gne hg2 hg6 (by decide)))
            have m894 := m853.kept (oq _ (gne hg3 hg6 (by decide)))
            have m895 := m854.kept (oq _ (gne hg4 hg6 (by decide)))
            have m896 := m855.kept (oq _ (gne hg5 hg6 (by decide)))
            have m897 := m857.put m891 oi
            have m898 := (el_kept (oq _ (gne hr_o0 hg6 (by decide)))).trans m858
            have m899 := (el_kept (oq _ (gne hr_o0 hg6 (by decide)))).trans m859
            have m900 := (el_kept (oq _ (gne hg5 hg6 (by decide)))).trans m889
            refine lv_iinc (v := nI (i850 + 1)) (lv' := [(7, .int (nI (i850 + 1))), (0, .ref o0), (1, .int 4), (2, .int us), (3, .int yr), (4, .int ca), (5, .int ic), (6, .int su)]) hx hb dX12_orders_54 hl (k := 0) rfl (nI_add i850 1) (by decide) rfl (fun ls hl => ?_)
            refine lv_goto (tgt := 34) hx hb dX12_orders_57 (by decide) ?_
            exact ih879 (i850 + 1) (by omega) (by omega) (cu V856 (nI i850).toNatClampNeg x890) (cp_s (V := vR) (K := 4) (i := i850) (tn_nI (by omega)) cx890 hR (by omega) hj860) _ _ hT hF hS m892 m893 m894 m895 m896 m897 m898 m899 ls (lv_sub hl [0, 1, 2, 3, 4, 5, 6, 7] rfl)
        exact key879 (4 - 0) 0 (by omega) (Nat.le_refl _) vZ (fun k h => absurd h (Nat.not_lt_zero k)) _ _ hT hF hS m844 m845 m846 m847 m848 m849 m843 m842 ls (lv_sub hl [0, 1, 2, 3, 4, 5, 6, 7] rfl)
      · have t901 : la.toInt ≤ su.toInt := ti_nlt c840 rfl rfl
        exact W.vret hx hb hr (fun t ht hW => ⟨⟨(la, vR, vZ), rfl, (by exact (by (try dsimp only); have e9 : N = 4 := (by omega); rw [sx_0 e9, if_pos ⟨by omega, by omega⟩]; exact ⟨by omega, hZ0, hR⟩)), by (try dsimp only); rw [ht]; exact ⟨hT, hF, hm_la, hc_vR, hc_vZ⟩⟩, hS.F ht⟩) hS.2.2 dX12_orders_24
def w_s_ordersC3 : List Cond := .code yX12_orders cX12_orders 10 none :: (HAppend.hAppend (α := List Cond) (β := List Cond) (γ := List Cond) [.fieldLink RX12 553 "SeaLandModel" "jobs" "I", .fieldLink RX12 176 "SeaLandModel" "jCost" "[I", .fieldLink RX12 179 "SeaLandModel" "jYears" "[I", .fieldLink RX12 188 "SeaLandModel" "row" "[I", .fieldLink RX12 182 "SeaLandModel" "jBrings" "[I", .fieldLink RX12 185 "SeaLandModel" "jAcres" "[I", .code yX12_orders cX12_orders 10 none, .fieldLink RX12 556 "SeaLandModel" "lateness" "I", .fieldLink RX12 191 "SeaLandModel" "bestRow" "[I", .methodLink RX12 559 yX12_orders, .instanceMethod yX12_orders, .selects RX12 yX12_orders yX12_orders, .initialized RX12] bs)
set_option maxHeartbeats 4000000 in
set_option maxRecDepth 100000 in
theorem s_ordersC3 (l : Launch) (dC : Nat → ClassId) (dI : Nat → Nat → Nat) (kA : Nat → ClassId) (adK adV : Nat → Nat) (G : gT) (H0 : Heap) (q : Nat → Nat) (wZ wN : Nat → Int) (wH wB wC : Int) (wL wK : Nat → Prop) (wU wV : Nat → Nat) (PI : Nat → Int → Prop) (im : Int) (PM PT : Nat → Int → Prop) (lS lB lE : Nat → Nat → Int → Prop) (lN : Nat → Int) (o0 : Nat) (us : Int32) (yr : Int32) (ca : Int32) (ic : Int32) (su : Int32) (jb : Int32) (la : Int32) (aC : Nat → Int32) (aY : Nat → Int32) (aB : Nat → Int32) (aA : Nat → Int32) (vR : Nat → Int32) (vZ : Nat → Int32) (N : Nat) (R : Nat → Int) (a0 : oA) (hT : gH (dC, dI) kA (SHm q (wP wZ wN wH wB wC wL wK wU wV) PI im PM PT lS lB lE lN) G H0) (hr_o0 : G o0 = some 0) (hm_jb : el H0 o0 (dI 15 74) = some (.int jb)) (hm_la : el H0 o0 (dI 15 77) = some (.int la)) (hq0 : 0 ≤ yr.toInt ∧ yr.toInt ≤ 200) (hq1 : 0 ≤ ca.toInt ∧ ca.toInt ≤ 7099999) (hq2 : 0 ≤ ic.toInt ∧ ic.toInt ≤ 300000) (hq3 : 0 ≤ su.toInt ∧ su.toInt ≤ 600000) (hq4 : 3 ≤ jb.toInt ∧ jb.toInt ≤ 7) (hN : jb.toInt = ((N : Nat) : Int)) (hrg : joR jb.toInt aC aY aB aA) (hla : la.toInt = a0.1) (hZ0 : 0 ≤ a0.1 → ∀ k : Nat, k < N → (vZ k).toInt = a0.2 k) (hR : ∀ k : Nat, k < 3 → (vR k).toInt = R k) (hc_aC : ct H0 (q 70) 7 aC) (hc_aY : ct H0 (q 71) 7 aY) (hc_aB : ct H0 (q 72) 7 aB) (hc_aA : ct H0 (q 73) 7 aA) (hc_vR : ct H0 (q 75) 7 vR) (hc_vZ : ct H0 (q 76) 7 vZ) (hgz : ∀ i, 0 ≤ wZ i) (hgn : ∀ i, 6500000 ≤ wN i ∧ wN i ≤ 20200000) (hgh : 0 ≤ wH ∧ wH ≤ 40000) (hgb : 0 ≤ wB ∧ wB ≤ 3850000) (hgc : 0 ≤ wC ∧ wC ≤ 30) (hgi : 0 ≤ im ∧ im ≤ 1) (hgu : ∀ a t, G a = some (t + 1) → a = q t) : Met l yX12_orders w_s_ordersC3 ({ frames := 4, cells := 0, slots := 0, locals := 116 }) (va_Pc [.ref o0, .int 3, .int us, .int yr, .int ca, .int ic, .int su] (fun U => U.heap = H0 ∧ va_K (dC, dI) vwCl (tyl kA) U ∧ EVS adK adV (gA G H0.size) U U.heap)) (va_Qv (fun (u : Int32 × (Nat → Int32) × (Nat → Int32)) => match u with | (la1, vR1, vZ1) => (la1.toInt = (sx N 3 aC aY aB aA (bt us) yr.toInt ca.toInt ic.toInt su.toInt R a0).1 ∧ (0 ≤ (sx N 3 aC aY aB aA (bt us) yr.toInt ca.toInt ic.toInt su.toInt R a0).1 → ∀ k : Nat, k < N → (vZ1 k).toInt = (sx N 3 aC aY aB aA (bt us) yr.toInt ca.toInt ic.toInt su.toInt R a0).2 k) ∧ ∀ k : Nat, k < 3 → (vR1 k).toInt = R k)) (fun (u : Int32 × (Nat → Int32) × (Nat → Int32)) (t : State) => match u with | (la1, vR1, vZ1) => gH (dC, dI) kA (SHm q (wP wZ wN wH wB wC wL wK wU wV) PI im PM PT lS lB lE lN) G t.heap ∧ gF (dC, dI) SKm G ([(0, 77), (76, 0), (77, 0)] : List (Nat × Nat)) H0 t.heap ∧ el t.heap o0 (dI 15 77) = some (.int la1) ∧ ct t.heap (q 75) 7 vR1 ∧ ct t.heap (q 76) 7 vZ1) (gA G H0.size)) 0 0 (gA G H0.size) := by
  refine Met.ofW (cc := cX12_orders) (maxL := 10) (ret := none) (by decide) rfl ?_
  intro p e s m args below meth c s₁ B hml hv
  obtain ⟨rfl, hH0, hK, hE⟩ := hv
  have hx := B.exec
  have hb := B.bytes
  have hr := B.returns
  have hts := atoms_spec (ws := w_s_ordersC3) B.pre
  have hown : s.vm.findClass RX12 = some m.cls := findClass_of_methodNamed B.named
  have hlocks := B.notSynchronized
  subst hH0
  generalize hAe : gA G s.heap.size = A at hE ⊢
  have hA : ∀ q : Nat, s.heap.size ≤ q → A q := fun q h => by rw [← hAe]; exact Or.inr h
  have hG := gA_of hAe
  have hS : va_S A s.heap s.heap [] := va_S.rf
  have hF : gF (dC, dI) SKm G ([(0, 77), (76, 0), (77, 0)] : List (Nat × Nat)) s.heap s.heap := gF.rf
  have hl := lv_entry ([.ref o0, .int 3, .int us, .int yr, .int ca, .int ic, .int su]) (n := 10) (Nat.le_of_ble_eq_true rfl)
  rw [lg_entry_eq]
  generalize (lg_sl ([.ref o0, .int 3, .int us, .int yr, .int ca, .int ic, .int su]) ++ List.replicate (10 - (lg_sl ([.ref o0, .int 3, .int us, .int yr, .int ca, .int ic, .int su])).length) Slot.unset).toArray = ls at hl ⊢
  have hl : lv_has ls 10 [(0, .ref o0), (1, .int 3), (2, .int us), (3, .int yr), (4, .int ca), (5, .int ic), (6, .int su)] := hl
  have hg1 : G (q 70) = some 71 := gx_of hT hr_o0 shm_0 (k := 70) (by decide) rfl
  have hg2 : G (q 71) = some 72 := gx_of hT hr_o0 shm_0 (k := 71) (by decide) rfl
  have hg3 : G (q 72) = some 73 := gx_of hT hr_o0 shm_0 (k := 72) (by decide) rfl
  have hg4 : G (q 73) = some 74 := gx_of hT hr_o0 shm_0 (k := 73) (by decide) rfl
  have hg5 : G (q 75) = some 76 := gx_of hT hr_o0 shm_0 (k := 75) (by decide) rfl
  have hg6 : G (q 76) = some 77 := gx_of hT hr_o0 shm_0 (k := 76) (by decide) rfl
  refine lv_iload_n hx hb dX12_orders_0 rfl (lv_at hl 1 rfl) ?_
  refine lv_aload_n hx hb dX12_orders_1 rfl (lv_at hl 0 rfl) ?_
  refine tw_getM (v := .int jb) hx hb hts bF_X12 hown hK hT hr_o0 shm_0 rfl 74 (by decide) (ht_at hts 0 rfl) (fun _ h9 => h9) hm_jb dX12_orders_2 ?_
  refine lv_icmp_ne (tgt := 61) hx hb dX12_orders_5 (by decide) (fun c7 => ?_) (fun c7 => ?_)
  · have t8 : 3 ≠ jb.toInt := ti_ne c7 (by decide) rfl
    refine lv_iconst (v := 0) hx hb dX12_orders_61 (by decide) ?_
    refine lv_istore (lv' := [(7, .int 0), (0, .ref o0), (1, .int 3), (2, .int us), (3, .int yr), (4, .int ca), (5, .int ic), (6, .int su)]) hx hb dX12_orders_62 hl (by decide) rfl (fun ls hl => ?_)
    have key399 : ∀ (n399 i9 : Nat), i9 + n399 = 7 → 0 ≤ i9 → ∀ (V14 : Nat → Int32), ∀ (V16 : Nat → Int32), ∀ (z19 : Int32), ((z19.toInt = (slO N 3 aC aY aB aA (bt us) yr.toInt ca.toInt ic.toInt su.toInt R a0 i9).1) ∧ (0 ≤ (slO N 3 aC aY aB aA (bt us) yr.toInt ca.toInt ic.toInt su.toInt R a0 i9).1 → ∀ k : Nat, k < N → (V16 k).toInt = (slO N 3 aC aY aB aA (bt us) yr.toInt ca.toInt ic.toInt su.toInt R a0 i9).2 k) ∧ (∀ k : Nat, k < 3 → (V14 k).toInt = R k) ∧ (((i9 : Nat) : Int) ≤ jb.toInt)) → ∀ (H : Heap) (locs : List Loc), gH (dC, dI) kA (SHm q (wP wZ wN wH wB wC wL wK wU wV) PI im PM PT lS lB lE lN) G H → gF (dC, dI) SKm G ([(0, 77), (76, 0), (77, 0)] : List (Nat × Nat)) s.heap H → va_S A s.heap H locs → ct H (q 70) 7 aC → ct H (q 71) 7 aY → ct H (q 72) 7 aB → ct H (q 73) 7 aA → ct H (q 75) 7 V14 → ct H (q 76) 7 V16 → el H o0 (dI 15 74) = some (.int jb) → el H o0 (dI 15 77) = some (.int z19) → ∀ ls : Array Slot, lv_has ls 10 [(7, .int (nI i9)), (0, .ref o0), (1, .int 3), (2, .int us), (3, .int yr), (4, .int ca), (5, .int ic), (6, .int su)] → W p l e (headSpec w_s_ordersC3 ({ frames := 4, cells := 0, slots := 0, locals := 116 })).room s m #[.ref o0, .int 3, .int us, .int yr, .int ca, .int ic, .int su] below meth c H locs 0 0 (MQ below (va_Qv (fun (u : Int32 × (Nat → Int32) × (Nat → Int32)) => match u with | (la1, vR1, vZ1) => (la1.toInt = (sx N 3 aC aY aB aA (bt us) yr.toInt ca.toInt ic.toInt su.toInt R a0).1 ∧ (0 ≤ (sx N 3 aC aY aB aA (bt us) yr.toInt ca.toInt ic.toInt su.toInt R a0).1 → ∀ k : Nat, k < N → (vZ1 k).toInt = (sx N 3 aC aY aB aA (bt us) yr.toInt ca.toInt ic.toInt su.toInt R a0).2 k) ∧ ∀ k : Nat, k < 3 → (vR1 k).toInt = R k)) (fun (u : Int32 × (Nat → Int32) × (Nat → Int32)) (t : State) => match u with | (la1, vR1, vZ1) => gH (dC, dI) kA (SHm q (wP wZ wN wH wB wC wL wK wU wV) PI im PM PT lS lB lE lN) G t.heap ∧ gF (dC, dI) SKm G ([(0, 77), (76, 0), (77, 0)] : List (Nat × Nat)) s.heap t.heap ∧ el t.heap o0 (dI 15 77) = some (.int la1) ∧ ct t.heap (q 75) 7 vR1 ∧ ct t.heap (q 76) 7 vZ1) A) #[.ref o0, .int 3, .int us, .int yr, .int ca, .int ic, .int su] s 0 0 A) (F0 m 64 ls []) := by
      intro n399
      induction n399 with
      | zero =>
        intro i9 hn399 hlo400 V14 V16 z19 ⟨hj21, hj22, hj23, hj24⟩ H locs hT hF hS m10 m11 m12 m13 m15 m17 m18 m20 ls hl
        obtain rfl : 7 = i9 := by omega
        refine lv_iload hx hb dX12_orders_64 (lv_at hl 0 rfl) ?_
        refine lv_aload_n hx hb dX12_orders_66 rfl (lv_at hl 1 rfl) ?_
        refine tw_getM (v := .int jb) hx hb hts bF_X12 hown hK hT hr_o0 shm_0 rfl 74 (by decide) (ht_at hts 0 rfl) (fun _ h9 => h9) m18 dX12_orders_67 ?_
        refine lv_icmp_ge (tgt := 231) hx hb dX12_orders_70 (by decide) (fun c401 => ?_) (fun c401 => (by exfalso; have q9 : ((7 : Nat) : Int) < jb.toInt := ti_nle c401 rfl (nI_toInt (by omega)); omega))
        have t402 : jb.toInt ≤ ((7 : Nat) : Int) := ti_le c401 rfl (nI_toInt (by omega))
        exact W.vret hx hb hr (fun t ht hW => ⟨⟨(z19, V14, V16), rfl, (by exact (by (try dsimp only); have e9 : N = 7 := (by omega); rw [sx_s (by omega)]; subst e9; exact ⟨hj21, hj22, hj23⟩)), by (try dsimp only); rw [ht]; exact ⟨hT, hF, m20, m15, m17⟩⟩, hS.F ht⟩) hS.2.2 dX12_orders_231
      | succ n399 ih399 =>
        intro i9 hn399 hlo400 V14 V16 z19 ⟨hj21, hj22, hj23, hj24⟩ H locs hT hF hS m10 m11 m12 m13 m15 m17 m18 m20 ls hl
        have hlt402 : i9 < 7 := by omega
        refine lv_iload hx hb dX12_orders_64 (lv_at hl 0 rfl) ?_
        refine lv_aload_n hx hb dX12_orders_66 rfl (lv_at hl 1 rfl) ?_
        refine tw_getM (v := .int jb) hx hb hts bF_X12 hown hK hT hr_o0 shm_0 rfl 74 (by decide) (ht_at hts 0 rfl) (fun _ h9 => h9) m18 dX12_orders_67 ?_
        refine lv_icmp_ge (tgt := 231) hx hb dX12_orders_70 (by decide) (fun c403 => ?_) (fun c403 => ?_)
        · have t404 : jb.toInt ≤ ((i9 : Nat) : Int) := ti_le c403 rfl (nI_toInt (by omega))
          exact W.vret hx hb hr (fun t ht hW => ⟨⟨(z19, V14, V16), rfl, (by exact (by (try dsimp only); have e9 : N = i9 := (by omega); rw [sx_s (by omega)]; subst e9; exact ⟨hj21, hj22, hj23⟩)), by (try dsimp only); rw [ht]; exact ⟨hT, hF, m20, m15, m17⟩⟩, hS.F ht⟩) hS.2.2 dX12_orders_231
        · have t405 : ((i9 : Nat) : Int) < jb.toInt := ti_nle c403 rfl (nI_toInt (by omega))
          refine lv_iload_n hx hb dX12_orders_73 rfl (lv_at hl 3 rfl) ?_
          refine lv_iload hx hb dX12_orders_74 (lv_at hl 0 rfl) ?_
          refine lv_ishr hx hb dX12_orders_76 ?_
          refine lv_topi (fun x406 ex406 => ?_)
          refine lv_iconst (v := 1) hx hb dX12_orders_77 (by decide) ?_
          refine lv_iand hx hb dX12_orders_78 ?_
          refine lv_topi (fun x407 ex407 => ?_)
          refine lv_iconst (v := 1) hx hb dX12_orders_79 (by decide) ?_
          have hbt := bt_t (us := us) (j := i9) (by omega) ex406 ex407
          refine lv_icmp_ne (tgt := 86) hx hb dX12_orders_80 (by decide) (fun c408 => ?_) (fun c408 => ?_)
          · have t409 : x407.toInt ≠ 1 := ti_ne c408 rfl (by decide)
            refine lv_iload_n hx hb dX12_orders_86 rfl (lv_at hl 4 rfl) ?_
            refine lv_istore (lv' := [(8, .int yr), (7, .int (nI i9)), (0, .ref o0), (1, .int 3), (2, .int us), (3, .int yr), (4, .int ca), (5, .int ic), (6, .int su)]) hx hb dX12_orders_87 hl (by decide) rfl (fun ls hl => ?_)
            refine lv_iload hx hb dX12_orders_89 (lv_at hl 6 rfl) ?_
            refine lv_istore (lv' := [(9, .int ca), (8, .int yr), (7, .int (nI i9)), (0, .ref o0), (1, .int 3), (2, .int us), (3, .int yr), (4, .int ca), (5, .int ic), (6, .int su)]) hx hb dX12_orders_91 hl (by decide) rfl (fun ls hl => ?_)
            have key654 : ∀ (n654 : Nat), ∀ (z520 : Int32), ∀ (z522 : Int32), (400 - z522.toInt < ((n654 : Nat) : Int)) → ((0 ≤ z520.toInt ∧ z520.toInt ≤ 7099999) ∧ (0 ≤ z522.toInt ∧ z522.toInt ≤ 201) ∧ (wtO yr.toInt ca.toInt ic.toInt (aC i9).toInt z522.toInt z520.toInt)) → ∀ (H : Heap) (locs : List Loc), gH (dC, dI) kA (SHm q (wP wZ wN wH wB wC wL wK wU wV) PI im PM PT lS lB lE lN) G H → gF (dC, dI) SKm G ([(0, 77), (76, 0), (77, 0)] : List (Nat × Nat)) s.heap H → va_S A s.heap H locs → ct H (q 70) 7 aC → ct H (q 71) 7 aY → ct H (q 72) 7 aB → ct H (q 73) 7 aA → ct H (q 75) 7 V14 → ct H (q 76) 7 V16 → el H o0 (dI 15 74) = some (.int jb) → el H o0 (dI 15 77) = some (.int z19) → ∀ ls : Array Slot, lv_has ls 10 [(9, .int z520), (8, .int z522), (7, .int (nI i9)), (0, .ref o0), (1, .int 3), (2, .int us), (3, .int yr), (4, .int ca), (5, .int ic), (6, .int su)] → W p l e (headSpec w_s_ordersC3 ({ frames := 4, cells := 0, slots := 0, locals := 116 })).room s m #[.ref o0, .int 3, .int us, .int yr, .int ca, .int ic, .int su] below meth c H locs 0 0 (MQ below (va_Qv (fun (u : Int32 × (Nat → Int32) × (Nat → Int32)) => match u with | (la1, vR1, vZ1) => (la1.toInt = (sx N 3 aC aY aB aA (bt us) yr.toInt ca.toInt ic.toInt su.toInt R a0).1 ∧ (0 ≤ (sx N 3 aC aY aB aA (bt us) yr.toInt ca.toInt ic.toInt su.toInt R a0).1 → ∀ k : Nat, k < N → (vZ1 k).toInt = (sx N 3 aC aY aB aA (bt us) yr.toInt ca.toInt ic.toInt su.toInt R a0).2 k) ∧ ∀ k : Nat, k < 3 → (vR1 k).toInt = R k)) (fun (u : Int32 × (Nat → Int32) × (Nat → Int32)) (t : State) => match u with | (la1, vR1, vZ1) => gH (dC, dI) kA (SHm q (wP wZ wN wH wB wC wL wK wU wV) PI im PM PT lS lB lE lN) G t.heap ∧ gF (dC, dI) SKm G ([(0, 77), (76, 0), (77, 0)] : List (Nat × Nat)) s.heap t.heap ∧ el t.heap o0 (dI 15 77) = some (.int la1) ∧ ct t.heap (q 75) 7 vR1 ∧ ct t.heap (q 76) 7 vZ1) A) #[.ref o0, .int 3, .int us, .int yr, .int ca, .int ic, .int su] s 0 0 A) (F0 m 93 ls []) := by
              intro n654
              induction n654 with
              | zero =>
                intro z520 z522 hv654 ⟨h521, h523, hj532⟩ H locs hT hF hS m524 m525 m526 m527 m528 m529 m530 m531 ls hl
                exfalso; have q9 := (show z522.toInt = z522.toInt from rfl); omega
              | succ n654 ih654 =>
                intro z520 z522 hv654 ⟨h521, h523, hj532⟩ H locs hT hF hS m524 m525 m526 m527 m528 m529 m530 m531 ls hl
                refine lv_iload hx hb dX12_orders_93 (lv_at hl 0 rfl) ?_
                refine lv_aload_n hx hb dX12_orders_95 rfl (lv_at hl 3 rfl) ?_
                refine tw_get hx hb hts bF_X12 hown hK hT hr_o0 shm_0 rfl 70 (by decide) (ht_at hts 1 rfl) (fun _ h9 => h9) dX12_orders_96 (fun v9 m655 h9 => ?_)
                obtain ⟨rfl, hg656⟩ := h9 _ rfl
                refine lv_iload hx hb dX12_orders_99 (lv_at hl 2 rfl) ?_
                refine tw_iald (i := (nI i9)) hx hb hK hT hg1 shm_71 rfl (vp_in_nI (by omega) (by decide)) dX12_orders_101 (fun v9 m657 h9 => ?_)
                obtain ⟨x658, rfl, gx658, kx658⟩ := h9
                have cx658 := m524.at m657 (by have q9 := tn_of (show (nI i9).toInt = ((i9 : Nat) : Int) from (nI_toInt (by omega))) (by omega); omega)
                have t659 : x658.toInt = (aC i9).toInt := congrArg Int32.toInt (cx658.trans (by rw [tn_nI (by omega)]))
                have t660 : 0 ≤ (aC i9).toInt ∧ (aC i9).toInt ≤ 1000000 := (hrg i9 (by omega)).1
                refine lv_icmp_ge (tgt := 126) hx hb dX12_orders_102 (by decide) (fun c661 => ?_) (fun c661 => ?_)
                · have t662 : x658.toInt ≤ z520.toInt := ti_le c661 rfl rfl
                  refine lv_iload hx hb dX12_orders_126 (lv_at hl 0 rfl) ?_
                  refine lv_aload_n hx hb dX12_orders_128 rfl (lv_at hl 3 rfl) ?_
                  refine tw_get hx hb hts bF_X12 hown hK hT hr_o0 shm_0 rfl 70 (by decide) (ht_at hts 1 rfl) (fun _ h9 => h9) dX12_orders_129 (fun v9 m663 h9 => ?_)
                  obtain ⟨rfl, hg664⟩ := h9 _ rfl
                  refine lv_iload hx hb dX12_orders_132 (lv_at hl 2 rfl) ?_
                  refine tw_iald (i := (nI i9)) hx hb hK hT hg1 shm_71 rfl (vp_in_nI (by omega) (by decide)) dX12_orders_134 (fun v9 m665 h9 => ?_)
                  obtain ⟨x666, rfl, gx666, kx666⟩ := h9
                  have cx666 := m524.at m665 (by have q9 := tn_of (show (nI i9).toInt = ((i9 : Nat) : Int) from (nI_toInt (by omega))) (by omega); omega)
                  obtain rfl : x658 = x666 := (el_same m665 m657 rfl).symm
                  refine lv_isub hx hb dX12_orders_135 ?_
                  refine lv_topi (fun x667 ex667 => ?_)
                  have t668 : x667.toInt = z520.toInt - x658.toInt := ti_sub ex667 rfl rfl (by omega) (by omega)
                  refine lv_istore (lv' := [(9, .int x667), (8, .int z522), (7, .int (nI i9)), (0, .ref o0), (1, .int 3), (2, .int us), (3, .int yr), (4, .int ca), (5, .int ic), (6, .int su)]) hx hb dX12_orders_136 hl (by decide) rfl (fun ls hl => ?_)
                  refine lv_iload hx hb dX12_orders_138 (lv_at hl 1 rfl) ?_
                  refine lv_aload_n hx hb dX12_orders_140 rfl (lv_at hl 3 rfl) ?_
                  refine tw_get hx hb hts bF_X12 hown hK hT hr_o0 shm_0 rfl 71 (by decide) (ht_at hts 2 rfl) (fun _ h9 => h9) dX12_orders_141 (fun v9 m669 h9 => ?_)
                  obtain ⟨rfl, hg670⟩ := h9 _ rfl
                  refine lv_iload hx hb dX12_orders_144 (lv_at hl 2 rfl) ?_
                  refine tw_iald (i := (nI i9)) hx hb hK hT hg2 shm_72 rfl (vp_in_nI (by omega) (by decide)) dX12_orders_146 (fun v9 m671 h9 => ?_)
                  obtain ⟨x672, rfl, gx672, kx672⟩ := h9
                  have cx672 := m525.at m671 (by have q9 := tn_of (show (nI i9).toInt = ((i9 : Nat) : Int) from (nI_toInt (by omega))) (by omega); omega)
                  have t673 : x672.toInt = (aY i9).toInt := congrArg Int32.toInt (cx672.trans (by rw [tn_nI (by omega)]))
                  have t674 : 1 ≤ (aY i9).toInt ∧ (aY i9).toInt ≤ 20 := (hrg i9 (by omega)).2.1
                  refine lv_iadd hx hb dX12_orders_147 ?_
                  refine lv_topi (fun x675 ex675 => ?_)
                  have t676 : x675.toInt = z522.toInt + x672.toInt := ti_add ex675 rfl rfl (by omega) (by omega)
                  refine lv_istore (lv' := [(8, .int x675), (9, .int x667), (7, .int (nI i9)), (0, .ref o0), (1, .int 3), (2, .int us), (3, .int yr), (4, .int ca), (5, .int ic), (6, .int su)]) hx hb dX12_orders_148 hl (by decide) rfl (fun ls hl => ?_)
                  refine lv_iload hx hb dX12_orders_150 (lv_at hl 1 rfl) ?_
                  refine lv_if_lt (tgt := 225) hx hb dX12_orders_152 (by decide) (fun c677 => ?_) (fun c677 => ?_)
                  · have t678 : x667.toInt < 0 := ti_lt c677 rfl (by decide)
                    refine lv_iinc (v := nI (i9 + 1)) (lv' := [(7, .int (nI (i9 + 1))), (8, .int x675), (9, .int x667), (0, .ref o0), (1, .int 3), (2, .int us), (3, .int yr), (4, .int ca), (5, .int ic), (6, .int su)]) hx hb dX12_orders_225 hl (k := 2) rfl (nI_add i9 1) (by decide) rfl (fun ls hl => ?_)
                    refine lv_goto (tgt := 64) hx hb dX12_orders_228 (by decide) ?_
                    have bk9 : z19.toInt = (slO N 3 aC aY aB aA (bt us) yr.toInt ca.toInt ic.toInt su.toInt R a0 (i9 + 1)).1 ∧ (0 ≤ (slO N 3 aC aY aB aA (bt us) yr.toInt ca.toInt ic.toInt su.toInt R a0 (i9 + 1)).1 → ∀ k : Nat, k < N → (V16 k).toInt = (slO N 3 aC aY aB aA (bt us) yr.toInt ca.toInt ic.toInt su.toInt R a0 (i9 + 1)).2 k) ∧ ∀ k : Nat, k < 3 → (V14 k).toInt = R k := by rw [sl_n (wt_none hj532 (by omega) (by omega))]; exact ⟨hj21, hj22, hj23⟩
                    exact ih399 (i9 + 1) (by omega) (by omega) V14 V16 z19 ⟨bk9.1, bk9.2.1, bk9.2.2, (by omega)⟩ _ _ hT hF hS m524 m525 m526 m527 m528 m529 m530 m531 ls (lv_sub hl [0, 3, 4, 5, 6, 7, 8, 9] rfl)
                  · have t679 : 0 ≤ x667.toInt := ti_nlt c677 rfl (by decide)
                    refine lv_iload hx hb dX12_orders_155 (lv_at hl 0 rfl) ?_
                    refine lv_sipush (v := 200) hx hb dX12_orders_157 (by decide) ?_
                    refine lv_icmp_le (tgt := 166) hx hb dX12_orders_160 (by decide) (fun c680 => ?_) (fun c680 => ?_)
                    · have t681 : x675.toInt ≤ 200 := ti_le c680 rfl (by decide)
                      refine lv_aload_n hx hb dX12_orders_166 rfl (lv_at hl 3 rfl) ?_
                      refine tw_get hx hb hts bF_X12 hown hK hT hr_o0 shm_0 rfl 75 (by decide) (ht_at hts 3 rfl) (fun _ h9 => h9) dX12_orders_167 (fun v9 m682 h9 => ?_)
                      obtain ⟨rfl, hg683⟩ := h9 _ rfl
                      refine lv_iload_n hx hb dX12_orders_170 rfl (lv_at hl 4 rfl) ?_
                      refine lv_iload hx hb dX12_orders_171 (lv_at hl 2 rfl) ?_
                      refine tw_iast (i := 3) (x := (nI i9)) hx hb hK hT hG hS hg5 shm_76 rfl (by unfold vp_in; decide) (gi_all _) dX12_orders_173 (fun H locs hT oq m684 oi hS => ?_)
                      have hF := hF.ast hg5 skm_76 oq (by decide)
                      have m685 := m524.kept (oq _ (gne hg1 hg5 (by decide)))
                      have m686 := m525.kept (oq _ (gne hg2 hg5 (by decide)))
                      have m687 := m526.kept (oq _ (gne hg3 hg5 (by decide)))
                      have m688 := m527.kept (oq _ (gne hg4 hg5 (by decide)))
                      have m689 := m528.put m684 oi
                      have m690 := m529.kept (oq _ (gne hg6 hg5 (by decide)))
                      have m691 := (el_kept (oq _ (gne hr_o0 hg5 (by decide)))).trans m530
                      have m692 := (el_kept (oq _ (gne hr_o0 hg5 (by decide)))).trans m531
                      have m693 := (el_kept (oq _ (gne hg1 hg5 (by decide)))).trans m657
                      have m694 := (el_kept (oq _ (gne hg2 hg5 (by decide)))).trans m671
                      refine lv_aload_n hx hb dX12_orders_174 rfl (lv_at hl 3 rfl) ?_
                      refine lv_iload_n hx hb dX12_orders_175 rfl (lv_at hl 4 rfl) ?_
                      refine lv_iconst (v := 1) hx hb dX12_orders_176 (by decide) ?_
                      refine lv_iadd hx hb dX12_orders_177 ?_
                      refine lv_topi (fun x695 ex695 => ?_)
                      obtain rfl : x695 = 4 := ex695.trans (by decide)
                      refine lv_iload_n hx hb dX12_orders_178 rfl (lv_at hl 5 rfl) ?_
                      refine lv_iconst (v := 1) hx hb dX12_orders_179 (by decide) ?_
                      refine lv_iload hx hb dX12_orders_180 (lv_at hl 2 rfl) ?_
                      refine lv_ishl hx hb dX12_orders_182 ?_
                      refine lv_topi (fun x696 ex696 => ?_)
                      refine lv_ior hx hb dX12_orders_183 ?_
                      refine lv_topi (fun x697 ex697 => ?_)
                      refine lv_iload hx hb dX12_orders_184 (lv_at hl 0 rfl) ?_
                      refine lv_iload hx hb dX12_orders_186 (lv_at hl 1 rfl) ?_
                      refine lv_iload hx hb dX12_orders_188 (lv_at hl 8 rfl) ?_
                      refine lv_aload_n hx hb dX12_orders_190 rfl (lv_at hl 3 rfl) ?_
                      refine tw_get hx hb hts bF_X12 hown hK hT hr_o0 shm_0 rfl 71 (by decide) (ht_at hts 2 rfl) (fun _ h9 => h9) dX12_orders_191 (fun v9 m698 h9 => ?_)
                      obtain ⟨rfl, hg699⟩ := h9 _ rfl
                      refine lv_iload hx hb dX12_orders_194 (lv_at hl 2 rfl) ?_
                      refine tw_iald (i := (nI i9)) hx hb hK hT hg2 shm_72 rfl (vp_in_nI (by omega) (by decide)) dX12_orders_196 (fun v9 m700 h9 => ?_)
                      obtain ⟨x701, rfl, gx701, kx701⟩ := h9
                      have cx701 := m686.at m700 (by have q9 := tn_of (show (nI i9).toInt = ((i9 : Nat) : Int) from (nI_toInt (by omega))) (by omega); omega)
                      obtain rfl : x672 = x701 := (el_same m700 m694 rfl).symm
                      refine lv_imul hx hb dX12_orders_197 ?_
                      refine lv_topi (fun x702 ex702 => ?_)
                      have t703 : x702.toInt = ic.toInt * x672.toInt := ti_mulx ex702 rfl rfl (A := 300000) (B := 20) (by omega) (by omega) (by omega) (by omega) (by decide)
                      have t704 : 0 ≤ x702.toInt ∧ x702.toInt ≤ 300000 * 20 ∧ (ic.toInt = 0 → x702.toInt = 0) ∧ (x672.toInt = 0 → x702.toInt = 0) ∧ x702.toInt ≤ ic.toInt * 20 ∧ x702.toInt ≤ 300000 * x672.toInt := ti_mulnn ex702 rfl rfl (by omega) (by omega) (by omega) (by omega) (by decide)
                      refine lv_iadd hx hb dX12_orders_198 ?_
                      refine lv_topi (fun x705 ex705 => ?_)
                      have t706 : x705.toInt = x667.toInt + x702.toInt := ti_add ex705 rfl rfl (by omega) (by omega)
                      refine lv_iload hx hb dX12_orders_199 (lv_at hl 8 rfl) ?_
                      refine lv_aload_n hx hb dX12_orders_201 rfl (lv_at hl 3 rfl) ?_
                      refine tw_get hx hb hts bF_X12 hown hK hT hr_o0 shm_0 rfl 72 (by decide) (ht_at hts 4 rfl) (fun _ h9 => h9) dX12_orders_202 (fun v9 m707 h9 => ?_)
                      obtain ⟨rfl, hg708⟩ := h9 _ rfl
                      refine lv_iload hx hb dX12_orders_205 (lv_at hl 2 rfl) ?_
                      refine tw_iald (i := (nI i9)) hx hb hK hT hg3 shm_73 rfl (vp_in_nI (by omega) (by decide)) dX12_orders_207 (fun v9 m709 h9 => ?_)
                      obtain ⟨x710, rfl, gx710, kx710⟩ := h9
                      have cx710 := m687.at m709 (by have q9 := tn_of (show (nI i9).toInt = ((i9 : Nat) : Int) from (nI_toInt (by omega))) (by omega); omega)
                      have t711 : x710.toInt = (aB i9).toInt := congrArg Int32.toInt (cx710.trans (by rw [tn_nI (by omega)]))
                      have t712 : 0 ≤ (aB i9).toInt ∧ (aB i9).toInt ≤ 100000 := (hrg i9 (by omega)).2.2.1
                      refine lv_iadd hx hb dX12_orders_208 ?_
                      refine lv_topi (fun x713 ex713 => ?_)
                      have t714 : x713.toInt = ic.toInt + x710.toInt := ti_add ex713 rfl rfl (by omega) (by omega)
                      refine lv_iload hx hb dX12_orders_209 (lv_at hl 9 rfl) ?_
                      refine lv_aload_n hx hb dX12_orders_211 rfl (lv_at hl 3 rfl) ?_
                      refine tw_get hx hb hts bF_X12 hown hK hT hr_o0 shm_0 rfl 73 (by decide) (ht_at hts 5 rfl) (fun _ h9 => h9) dX12_orders_212 (fun v9 m715 h9 => ?_)
                      obtain ⟨rfl, hg716⟩ := h9 _ rfl
                      refine lv_iload hx hb dX12_orders_215 (lv_at hl 2 rfl) ?_
                      refine tw_iald (i := (nI i9)) hx hb hK hT hg4 shm_74 rfl (vp_in_nI (by omega) (by decide)) dX12_orders_217 (fun v9 m717 h9 => ?_)
                      obtain ⟨x718, rfl, gx718, kx718⟩ := h9
                      have cx718 := m688.at m717 (by have q9 := tn_of (show (nI i9).toInt = ((i9 : Nat) : Int) from (nI_toInt (by omega))) (by omega); omega)
                      have t719 : x718.toInt = (aA i9).toInt := congrArg Int32.toInt (cx718.trans (by rw [tn_nI (by omega)]))
                      have t720 : 0 ≤ (aA i9).toInt ∧ (aA i9).toInt ≤ 1000 := (hrg i9 (by omega)).2.2.2
                      refine lv_iload hx hb dX12_orders_218 (lv_at hl 0 rfl) ?_
                      refine lv_imul hx hb dX12_orders_220 ?_
                      refine lv_topi (fun x721 ex721 => ?_)
                      have t722 : x721.toInt = x718.toInt * x675.toInt := ti_mulx ex721 rfl rfl (A := 1000) (B := 200) (by omega) (by omega) (by omega) (by omega) (by decide)
                      have t723 : 0 ≤ x721.toInt ∧ x721.toInt ≤ 1000 * 200 ∧ (x718.toInt = 0 → x721.toInt = 0) ∧ (x675.toInt = 0 → x721.toInt = 0) ∧ x721.toInt ≤ x718.toInt * 200 ∧ x721.toInt ≤ 1000 * x675.toInt := ti_mulnn ex721 rfl rfl (by omega) (by omega) (by omega) (by omega) (by decide)
                      refine lv_iadd hx hb dX12_orders_221 ?_
                      refine lv_topi (fun x724 ex724 => ?_)
                      have t725 : x724.toInt = su.toInt + x721.toInt := ti_add ex724 rfl rfl (by omega) (by omega)
                      have hFc := gA_free hG hA hS
                      refine va_callv (va_runV (As := [.int 4, .int x697, .int x675, .int x705, .int x713, .int x724]) (rest := []) ⟨hx, hb, hml, hown, hts⟩ (s_ordersC4 l dC dI kA adK adV G H q wZ wN wH wB wC wL wK wU wV PI im PM PT lS lB lE lN o0 x697 x675 x705 x713 x724 jb z19 aC aY aB aA (cu V14 (3 : Int32).toNatClampNeg (nI i9)) V16 N (fun k => if k = 3 then ((i9 : Nat) : Int) else R k) (slO N 3 aC aY aB aA (bt us) yr.toInt ca.toInt ic.toInt su.toInt R a0 i9) hT hr_o0 m691 m692 (by have q8 := ti_all x675; omega) (by have q8 := ti_all x705; omega) (by have q8 := ti_all x713; omega) (by have q8 := ti_all x724; omega) (by have q8 := ti_all jb; omega) hN hrg hj21 hj22 (rr_s (K := 3) rfl (by decide) (nI_toInt (by omega)) hj23) m685 m686 m687 m688 m689 m690 hgz hgn hgh hgb hgc hgi hgu) (cwV 6 hts (goodIn_app (goodIn_r _ [10, 11, 12, 13] rfl (by decide +kernel)) (goodIn_ca (goodIn_r _ [7, 1, 2, 3, 4, 5, 6, 7, 8, 9, 10, 11, 12, 13] rfl (by decide +kernel)) (bs_in _ _))) rfl rfl rfl (by decide +kernel) ⟨(Nat.le_of_ble_eq_true rfl), (Nat.le_of_ble_eq_true rfl)⟩) ⟨fun a U g mk q => by obtain ⟨q0, q1, qK, qE⟩ := q; exact ⟨q0, q1, va_K.moved (u := U) (U := U.calling g mk a) (Vm.Alike.refl U.vm) qK, EVS.blind g mk a qE⟩, gH_recv hK hT hr_o0 shm_0 rfl, fun U hU hW => ⟨rfl, hU, va_K.moved hW.alike hK, hE.call hS hFc hU hW⟩⟩ rfl rfl hl.1 rfl (lv_room (Nat.le_of_ble_eq_true rfl)) dX12_orders_222 ⟨(Nat.le_of_ble_eq_true rfl), (Nat.le_of_ble_eq_true rfl)⟩) hS (fun q _ h => hFc q h) hFc (fun u t H locs ht hvm hw727 hB _ _ hS => ?_)
                      obtain ⟨u728, u729, u730⟩ := u
                      obtain ⟨hT, hF1, m731, m732, m733⟩ := hB
                      rw [ht] at hT hF1 m731 m732 m733
                      have m734 := m685.kept (hF1.arr hg1 skm_71 (by decide))
                      have m735 := m686.kept (hF1.arr hg2 skm_72 (by decide))
                      have m736 := m687.kept (hF1.arr hg3 skm_73 (by decide))
                      have m737 := m688.kept (hF1.arr hg4 skm_74 (by decide))
                      have m740 := (hF1.fld hr_o0 skm_0 (k := 74) (by decide) (by decide)).trans m691
                      have m742 := (el_kept (hF1.arr hg1 skm_71 (by decide))).trans m693
                      have m743 := (el_kept (hF1.arr hg2 skm_72 (by decide))).trans m694
                      have m745 := (el_kept (hF1.arr hg3 skm_73 (by decide))).trans m709
                      have m746 := (el_kept (hF1.arr hg4 skm_74 (by decide))).trans m717
                      have hF := hF.more hF1 (by decide)
                      try dsimp only at hw727
                      have hf747 := hw727
                      refine lv_iinc (v := nI (i9 + 1)) (lv' := [(7, .int (nI (i9 + 1))), (8, .int x675), (9, .int x667), (0, .ref o0), (1, .int 3), (2, .int us), (3, .int yr), (4, .int ca), (5, .int ic), (6, .int su)]) hx hb dX12_orders_225 hl (k := 2) rfl (nI_add i9 1) (by decide) rfl (fun ls hl => ?_)
                      refine lv_goto (tgt := 64) hx hb dX12_orders_228 (by decide) ?_
                      have bk9 : u728.toInt = (slO N 3 aC aY aB aA (bt us) yr.toInt ca.toInt ic.toInt su.toInt R a0 (i9 + 1)).1 ∧ (0 ≤ (slO N 3 aC aY aB aA (bt us) yr.toInt ca.toInt ic.toInt su.toInt R a0 (i9 + 1)).1 → ∀ k : Nat, k < N → (u730 k).toInt = (slO N 3 aC aY aB aA (bt us) yr.toInt ca.toInt ic.toInt su.toInt R a0 (i9 + 1)).2 k) ∧ ∀ k : Nat, k < 3 → (u729 k).toInt = R k := by have q9 := hf747; rw [sl_call (N := N) (K := 3) (K1 := 4) (aC := aC) (aY := aY) (aB := aB) (aA := aA) (U := bt us) (yr := yr.toInt) (ca := ca.toInt) (ic := ic.toInt) (su := su.toInt) (R := R) (a := a0) (i := i9) (d := x675.toInt) (c1 := x705.toInt) (i1 := x713.toInt) (s1 := x724.toInt) (U1 := bt x697) rfl (hbt.2 (by omega)) (wt_some hj532 (by omega) (by omega) (by omega)) (bt_or (by omega) ex696 ex697) (by have q8 := wt_cash (d := x675.toInt) (z := x702.toInt) (last := x672.toInt) hj532 (by omega) (by omega); omega) (by omega) (by rw [show (aA i9).toInt = x718.toInt from by omega]; omega)] at q9; exact ⟨q9.1, q9.2.1, fun k hk => (q9.2.2 k (by omega)).trans (if_neg (by omega))⟩
                      exact ih399 (i9 + 1) (by omega) (by omega) u729 u730 u728 ⟨bk9.1, bk9.2.1, bk9.2.2, (by omega)⟩ _ _ hT hF hS m734 m735 m736 m737 m732 m733 m740 m731 ls (lv_sub hl [0, 3, 4, 5, 6, 7, 8, 9] rfl)
                    · have t748 : 200 < x675.toInt := ti_nle c680 rfl (by decide)
                      refine lv_goto (tgt := 225) hx hb dX12_orders_163 (by decide) ?_
                      refine lv_iinc (v := nI (i9 + 1)) (lv' := [(7, .int (nI (i9 + 1))), (8, .int x675), (9, .int x667), (0, .ref o0), (1, .int 3), (2, .int us), (3, .int yr), (4, .int ca), (5, .int ic), (6, .int su)]) hx hb dX12_orders_225 hl (k := 2) rfl (nI_add i9 1) (by decide) rfl (fun ls hl => ?_)
                      refine lv_goto (tgt := 64) hx hb dX12_orders_228 (by decide) ?_
                      have bk9 : z19.toInt = (slO N 3 aC aY aB aA (bt us) yr.toInt ca.toInt ic.toInt su.toInt R a0 (i9 + 1)).1 ∧ (0 ≤ (slO N 3 aC aY aB aA (bt us) yr.toInt ca.toInt ic.toInt su.toInt R a0 (i9 + 1)).1 → ∀ k : Nat, k < N → (V16 k).toInt = (slO N 3 aC aY aB aA (bt us) yr.toInt ca.toInt ic.toInt su.toInt R a0 (i9 + 1)).2 k) ∧ ∀ k : Nat, k < 3 → (V14 k).toInt = R k := by rw [sl_n (wt_none hj532 (by omega) (by omega))]; exact ⟨hj21, hj22, hj23⟩
                      exact ih399 (i9 + 1) (by omega) (by omega) V14 V16 z19 ⟨bk9.1, bk9.2.1, bk9.2.2, (by omega)⟩ _ _ hT hF hS m524 m525 m526 m527 m528 m529 m530 m531 ls (lv_sub hl [0, 3, 4, 5, 6, 7, 8, 9] rfl)
                · have t749 : z520.toInt < x658.toInt := ti_nle c661 rfl rfl
                  refine lv_iload hx hb dX12_orders_105 (lv_at hl 1 rfl) ?_
                  refine lv_sipush (v := 200) hx hb dX12_orders_107 (by decide) ?_
                  refine lv_icmp_gt (tgt := 126) hx hb dX12_orders_110 (by decide) (fun c750 => ?_) (fun c750 => ?_)
                  · have t751 : 200 < z522.toInt := ti_lt c750 (by decide) rfl
                    refine lv_iload hx hb dX12_orders_126 (lv_at hl 0 rfl) ?_
                    refine lv_aload_n hx hb dX12_orders_128 rfl (lv_at hl 3 rfl) ?_
                    refine tw_get hx hb hts bF_X12 hown hK hT hr_o0 shm_0 rfl 70 (by decide) (ht_at hts 1 rfl) (fun _ h9 => h9) dX12_orders_129 (fun v9 m752 h9 => ?_)
                    obtain ⟨rfl, hg753⟩ := h9 _ rfl
                    refine lv_iload hx hb dX12_orders_132 (lv_at hl 2 rfl) ?_
                    refine tw_iald (i := (nI i9)) hx hb hK hT hg1 shm_71 rfl (vp_in_nI (by omega) (by decide)) dX12_orders_134 (fun v9 m754 h9 => ?_)
                    obtain ⟨x755, rfl, gx755, kx755⟩ := h9
                    have cx755 := m524.at m754 (by have q9 := tn_of (show (nI i9).toInt = ((i9 : Nat) : Int) from (nI_toInt (by omega))) (by omega); omega)
                    obtain rfl : x658 = x755 := (el_same m754 m657 rfl).symm
                    refine lv_isub hx hb dX12_orders_135 ?_
                    refine lv_topi (fun x756 ex756 => ?_)
                    have t757 : x756.toInt = z520.toInt - x658.toInt := ti_sub ex756 rfl rfl (by omega) (by omega)
                    refine lv_istore (lv' := [(9, .int x756), (8, .int z522), (7, .int (nI i9)), (0, .ref o0), (1, .int 3), (2, .int us), (3, .int yr), (4, .int ca), (5, .int ic), (6, .int su)]) hx hb dX12_orders_136 hl (by decide) rfl (fun ls hl => ?_)
                    refine lv_iload hx hb dX12_orders_138 (lv_at hl 1 rfl) ?_
                    refine lv_aload_n hx hb dX12_orders_140 rfl (lv_at hl 3 rfl) ?_
                    refine tw_get hx hb hts bF_X12 hown hK hT hr_o0 shm_0 rfl 71 (by decide) (ht_at hts 2 rfl) (fun _ h9 => h9) dX12_orders_141 (fun v9 m758 h9 => ?_)
                    obtain ⟨rfl, hg759⟩ := h9 _ rfl
                    refine lv_iload hx hb dX12_orders_144 (lv_at hl 2 rfl) ?_
                    refine tw_iald (i := (nI i9)) hx hb hK hT hg2 shm_72 rfl (vp_in_nI (by omega) (by decide)) dX12_orders_146 (fun v9 m760 h9 => ?_)
                    obtain ⟨x761, rfl, gx761, kx761⟩ := h9
                    have cx761 := m525.at m760 (by have q9 := tn_of (show (nI i9).toInt = ((i9 : Nat) : Int) from (nI_toInt (by omega))) (by omega); omega)
                    have t762 : x761.toInt = (aY i9).toInt := congrArg Int32.toInt (cx761.trans (by rw [tn_nI (by omega)]))
                    have t763 : 1 ≤ (aY i9).toInt ∧ (aY i9).toInt ≤ 20 := (hrg i9 (by omega)).2.1
                    refine lv_iadd hx hb dX12_orders_147 ?_
                    refine lv_topi (fun x764 ex764 => ?_)
                    have t765 : x764.toInt = z522.toInt + x761.toInt := ti_add ex764 rfl rfl (by omega) (by omega)
                    refine lv_istore (lv' := [(8, .int x764), (9, .int x756), (7, .int (nI i9)), (0, .ref o0), (1, .int 3), (2, .int us), (3, .int yr), (4, .int ca), (5, .int ic), (6, .int su)]) hx hb dX12_orders_148 hl (by decide) rfl (fun ls hl => ?_)
                    refine lv_iload hx hb dX12_orders_150 (lv_at hl 1 rfl) ?_
                    refine lv_if_lt (tgt := 225) hx hb dX12_orders_152 (by decide) (fun c766 => ?_) (fun c766 => ?_)
                    · have t767 : x756.toInt < 0 := ti_lt c766 rfl (by decide)
                      refine lv_iinc (v := nI (i9 + 1)) (lv' := [(7, .int (nI (i9 + 1))), (8, .int x764), (9, .int x756), (0, .ref o0), (1, .int 3), (2, .int us), (3, .int yr), (4, .int ca), (5, .int ic), (6, .int su)]) hx hb dX12_orders_225 hl (k := 2) rfl (nI_add i9 1) (by decide) rfl (fun ls hl => ?_)
                      refine lv_goto (tgt := 64) hx hb dX12_orders_228 (by decide) ?_
                      have bk9 : z19.toInt = (slO N 3 aC aY aB aA (bt us) yr.toInt ca.toInt ic.toInt su.toInt R a0 (i9 + 1)).1 ∧ (0 ≤ (slO N 3 aC aY aB aA (bt us) yr.toInt ca.toInt ic.toInt su.toInt R a0 (i9 + 1)).1 → ∀ k : Nat, k < N → (V16 k).toInt = (slO N 3 aC aY aB aA (bt us) yr.toInt ca.toInt ic.toInt su.toInt R a0 (i9 + 1)).2 k) ∧ ∀ k : Nat, k < 3 → (V14 k).toInt = R k := by rw [sl_n (wt_none hj532 (by omega) (by omega))]; exact ⟨hj21, hj22, hj23⟩
                      exact ih399 (i9 + 1) (by omega) (by omega) V14 V16 z19 ⟨bk9.1, bk9.2.1, bk9.2.2, (by omega)⟩ _ _ hT hF hS m524 m525 m526 m527 m528 m529 m530 m531 ls (lv_sub hl [0, 3, 4, 5, 6, 7, 8, 9] rfl)
                    · have t768 : 0 ≤ x756.toInt := ti_nlt c766 rfl (by decide)
                      refine lv_iload hx hb dX12_orders_155 (lv_at hl 0 rfl) ?_
                      refine lv_sipush (v := 200) hx hb dX12_orders_157 (by decide) ?_
                      refine lv_icmp_le (tgt := 166) hx hb dX12_orders_160 (by decide) (fun c769 => (by exfalso; have q9 : x764.toInt ≤ 200 := ti_le c769 rfl (by decide); omega)) (fun c769 => ?_)
                      have t770 : 200 < x764.toInt := ti_nle c769 rfl (by decide)
                      refine lv_goto (tgt := 225) hx hb dX12_orders_163 (by decide) ?_
                      refine lv_iinc (v := nI (i9 + 1)) (lv' := [(7, .int (nI (i9 + 1))), (8, .int x764), (9, .int x756), (0, .ref o0), (1, .int 3), (2, .int us), (3, .int yr), (4, .int ca), (5, .int ic), (6, .int su)]) hx hb dX12_orders_225 hl (k := 2) rfl (nI_add i9 1) (by decide) rfl (fun ls hl => ?_)
                      refine lv_goto (tgt := 64) hx hb dX12_orders_228 (by decide) ?_
                      have bk9 : z19.toInt = (slO N 3 aC aY aB aA (bt us) yr.toInt ca.toInt ic.toInt su.toInt R a0 (i9 + 1)).1 ∧ (0 ≤ (slO N 3 aC aY aB aA (bt us) yr.toInt ca.toInt ic.toInt su.toInt R a0 (i9 + 1)).1 → ∀ k : Nat, k < N → (V16 k).toInt = (slO N 3 aC aY aB aA (bt us) yr.toInt ca.toInt ic.toInt su.toInt R a0 (i9 + 1)).2 k) ∧ ∀ k : Nat, k < 3 → (V14 k).toInt = R k := by rw [sl_n (wt_none hj532 (by omega) (by omega))]; exact ⟨hj21, hj22, hj23⟩
                      exact ih399 (i9 + 1) (by omega) (by omega) V14 V16 z19 ⟨bk9.1, bk9.2.1, bk9.2.2, (by omega)⟩ _ _ hT hF hS m524 m525 m526 m527 m528 m529 m530 m531 ls (lv_sub hl [0, 3, 4, 5, 6, 7, 8, 9] rfl)
                  · have t771 : z522.toInt ≤ 200 := ti_nlt c750 (by decide) rfl
                    obtain ⟨x772, ex772⟩ : ∃ y : Int32, y = z522 + 1 := ⟨_, rfl⟩
                    have t773 : x772.toInt = z522.toInt + 1 := ti_add ex772 rfl (by decide) (by omega) (by omega)
                    refine lv_iinc (v := x772) (lv' := [(8, .int x772), (9, .int z520), (7, .int (nI i9)), (0, .ref o0), (1, .int 3), (2, .int us), (3, .int yr), (4, .int ca), (5, .int ic), (6, .int su)]) hx hb dX12_orders_113 hl (k := 1) rfl (by first | (rw [ex772]; done) | (rw [ex772]; rfl)) (by decide) rfl (fun ls hl => ?_)
                    refine lv_iload hx hb dX12_orders_116 (lv_at hl 1 rfl) ?_
                    refine lv_iload hx hb dX12_orders_118 (lv_at hl 8 rfl) ?_
                    refine lv_iadd hx hb dX12_orders_120 ?_
                    refine lv_topi (fun x774 ex774 => ?_)
                    have t775 : x774.toInt = z520.toInt + ic.toInt := ti_add ex774 rfl rfl (by omega) (by omega)
                    refine lv_istore (lv' := [(9, .int x774), (8, .int x772), (7, .int (nI i9)), (0, .ref o0), (1, .int 3), (2, .int us), (3, .int yr), (4, .int ca), (5, .int ic), (6, .int su)]) hx hb dX12_orders_121 hl (by decide) rfl (fun ls hl => ?_)
                    refine lv_goto (tgt := 93) hx hb dX12_orders_123 (by decide) ?_
                    exact ih654 x774 x772 (by have q9 := (show x772.toInt = x772.toInt from rfl); omega) ⟨(by have q8 := ti_all x774; omega), (by have q8 := ti_all x772; omega), (wt_s hj532 (by omega) (by omega) (by omega))⟩ _ _ hT hF hS m524 m525 m526 m527 m528 m529 m530 m531 ls (lv_sub hl [0, 1, 2, 3, 4, 5, 6, 7, 8, 9] rfl)
            exact key654 401 ca yr (by have q9 := (show yr.toInt = yr.toInt from rfl); omega) ⟨(by have q8 := ti_all ca; omega), (by have q8 := ti_all yr; omega), (wt_0 (by omega) (by omega))⟩ _ _ hT hF hS m10 m11 m12 m13 m15 m17 m18 m20 ls (lv_sub hl [0, 1, 2, 3, 4, 5, 6, 7, 8, 9] rfl)
          · have t776 : x407.toInt = 1 := ti_eq c408 rfl (by decide)
            refine lv_goto (tgt := 225) hx hb dX12_orders_83 (by decide) ?_
            refine lv_iinc (v := nI (i9 + 1)) (lv' := [(7, .int (nI (i9 + 1))), (0, .ref o0), (1, .int 3), (2, .int us), (3, .int yr), (4, .int ca), (5, .int ic), (6, .int su)]) hx hb dX12_orders_225 hl (k := 0) rfl (nI_add i9 1) (by decide) rfl (fun ls hl => ?_)
            refine lv_goto (tgt := 64) hx hb dX12_orders_228 (by decide) ?_
            have bk9 : z19.toInt = (slO N 3 aC aY aB aA (bt us) yr.toInt ca.toInt ic.toInt su.toInt R a0 (i9 + 1)).1 ∧ (0 ≤ (slO N 3 aC aY aB aA (bt us) yr.toInt ca.toInt ic.toInt su.toInt R a0 (i9 + 1)).1 → ∀ k : Nat, k < N → (V16 k).toInt = (slO N 3 aC aY aB aA (bt us) yr.toInt ca.toInt ic.toInt su.toInt R a0 (i9 + 1)).2 k) ∧ ∀ k : Nat, k < 3 → (V14 k).toInt = R k := by rw [sl_u (hbt.1 (by omega))]; exact ⟨hj21, hj22, hj23⟩
            exact ih399 (i9 + 1) (by omega) (by omega) V14 V16 z19 ⟨bk9.1, bk9.2.1, bk9.2.2, (by omega)⟩ _ _ hT hF hS m10 m11 m12 m13 m15 m17 m18 m20 ls (lv_sub hl [0, 1, 2, 3, 4, 5, 6, 7] rfl)
    exact key399 (7 - 0) 0 (by omega) (Nat.le_refl _) vR vZ la ⟨hla, hZ0, hR, (by omega)⟩ _ _ hT hF hS hc_aC hc_aY hc_aB hc_aA hc_vR hc_vZ hm_jb hm_la ls (lv_sub hl [0, 1, 2, 3, 4, 5, 6, 7] rfl)
  · have t777 : 3 = jb.toInt := ti_eq c7 (by decide) rfl
    refine lv_aload_n hx hb dX12_orders_8 rfl (lv_at hl 0 rfl) ?_
    refine tw_getM (v := .int la) hx hb hts bF_X12 hown hK hT hr_o0 shm_0 rfl 77 (by decide) (ht_at hts 7 rfl) (fun _ h9 => h9) hm_la dX12_orders_9 ?_
    refine lv_if_lt (tgt := 25) hx hb dX12_orders_12 (by decide) (fun c778 => ?_) (fun c778 => ?_)
    · have t779 : la.toInt < 0 := ti_lt c778 rfl (by decide)
      refine lv_aload_n hx hb dX12_orders_25 rfl (lv_at hl 0 rfl) ?_
      refine lv_iload hx hb dX12_orders_26 (lv_at hl 6 rfl) ?_
      refine tw_put (v := .int su) (ty := .int) hx hb hts bF_X12 tyX12 tyX12_ok nmX12 hown hK hT hG hS hr_o0 shm_0 rfl 77 (by decide) (ht_at hts 7 rfl) (fun _ h9 => h9) rfl (by decide +kernel) rfl rfl (gl_at rfl (gi_all _)) dX12_orders_28 (fun H locs hT oq m780 oj hS => ?_)
      have hF := hF.put hr_o0 skm_0 oq oj (by decide)
      have m781 := (oj 74 (by decide) (by decide)).trans hm_jb
      have m782 := hc_aC.kept (oq _ (gne hg1 hr_o0 (by decide)))
      have m783 := hc_aY.kept (oq _ (gne hg2 hr_o0 (by decide)))
      have m784 := hc_aB.kept (oq _ (gne hg3 hr_o0 (by decide)))
      have m785 := hc_aA.kept (oq _ (gne hg4 hr_o0 (by decide)))
      have m786 := hc_vR.kept (oq _ (gne hg5 hr_o0 (by decide)))
      have m787 := hc_vZ.kept (oq _ (gne hg6 hr_o0 (by decide)))
      refine lv_iconst (v := 0) hx hb dX12_orders_31 (by decide) ?_
      refine lv_istore (lv' := [(7, .int 0), (0, .ref o0), (1, .int 3), (2, .int us), (3, .int yr), (4, .int ca), (5, .int ic), (6, .int su)]) hx hb dX12_orders_32 hl (by decide) rfl (fun ls hl => ?_)
      have key817 : ∀ (n817 i788 : Nat), i788 + n817 = 3 → 0 ≤ i788 → ∀ (V794 : Nat → Int32), ((∀ k : Nat, k < i788 → (V794 k).toInt = R k)) → ∀ (H : Heap) (locs : List Loc), gH (dC, dI) kA (SHm q (wP wZ wN wH wB wC wL wK wU wV) PI im PM PT lS lB lE lN) G H → gF (dC, dI) SKm G ([(0, 77), (76, 0), (77, 0)] : List (Nat × Nat)) s.heap H → va_S A s.heap H locs → ct H (q 70) 7 aC → ct H (q 71) 7 aY → ct H (q 72) 7 aB → ct H (q 73) 7 aA → ct H (q 75) 7 vR → ct H (q 76) 7 V794 → el H o0 (dI 15 74) = some (.int jb) → el H o0 (dI 15 77) = some (.int su) → ∀ ls : Array Slot, lv_has ls 10 [(7, .int (nI i788)), (0, .ref o0), (1, .int 3), (2, .int us), (3, .int yr), (4, .int ca), (5, .int ic), (6, .int su)] → W p l e (headSpec w_s_ordersC3 ({ frames := 4, cells := 0, slots := 0, locals := 116 })).room s m #[.ref o0, .int 3, .int us, .int yr, .int ca, .int ic, .int su] below meth c H locs 0 0 (MQ below (va_Qv (fun (u : Int32 × (Nat → Int32) × (Nat → Int32)) => match u with | (la1, vR1, vZ1) => (la1.toInt = (sx N 3 aC aY aB aA (bt us) yr.toInt ca.toInt ic.toInt su.toInt R a0).1 ∧ (0 ≤ (sx N 3 aC aY aB aA (bt us) yr.toInt ca.toInt ic.toInt su.toInt R a0).1 → ∀ k : Nat, k < N → (vZ1 k).toInt = (sx N 3 aC aY aB aA (bt us) yr.toInt ca.toInt ic.toInt su.toInt R a0).2 k) ∧ ∀ k : Nat, k < 3 → (vR1 k).toInt = R k)) (fun (u : Int32 × (Nat → Int32) × (Nat → Int32)) (t : State) => match u with | (la1, vR1, vZ1) => gH (dC, dI) kA (SHm q (wP wZ wN wH wB wC wL wK wU wV) PI im PM PT lS lB lE lN) G t.heap ∧ gF (dC, dI) SKm G ([(0, 77), (76, 0), (77, 0)] : List (Nat × Nat)) s.heap t.heap ∧ el t.heap o0 (dI 15 77) = some (.int la1) ∧ ct t.heap (q 75) 7 vR1 ∧ ct t.heap (q 76) 7 vZ1) A) #[.ref o0, .int 3, .int us, .int yr, .int ca, .int ic, .int su] s 0 0 A) (F0 m 34 ls []) := by
        intro n817
        induction n817 with
        | zero =>
          intro i788 hn817 hlo818 V794 hj798 H locs hT hF hS m789 m790 m791 m792 m793 m795 m796 m797 ls hl
          obtain rfl : 3 = i788 := by omega
          refine lv_iload hx hb dX12_orders_34 (lv_at hl 0 rfl) ?_
          refine lv_iload_n hx hb dX12_orders_36 rfl (lv_at hl 2 rfl) ?_
          refine lv_icmp_ge (tgt := 60) hx hb dX12_orders_37 (by decide) (fun c819 => ?_) (fun c819 => (by exfalso; have q9 : ((3 : Nat) : Int) < 3 := ti_nle c819 (by decide) (nI_toInt (by omega)); omega))
          have t820 : 3 ≤ ((3 : Nat) : Int) := ti_le c819 (by decide) (nI_toInt (by omega))
          exact W.vret hx hb hr (fun t ht hW => ⟨⟨(su, vR, V794), rfl, (by exact (by (try dsimp only); have e9 : N = 3 := (by omega); rw [sx_0 e9, if_neg (by omega)]; exact ⟨rfl, fun _ k hk => hj798 k (by omega), hR⟩)), by (try dsimp only); rw [ht]; exact ⟨hT, hF, m797, m793, m795⟩⟩, hS.F ht⟩) hS.2.2 dX12_orders_60
        | succ n817 ih817 =>
          intro i788 hn817 hlo818 V794 hj798 H locs hT hF hS m789 m790 m791 m792 m793 m795 m796 m797 ls hl
          have hlt820 : i788 < 3 := by omega
          refine lv_iload hx hb dX12_orders_34 (lv_at hl 0 rfl) ?_
          refine lv_iload_n hx hb dX12_orders_36 rfl (lv_at hl 2 rfl) ?_
          refine lv_icmp_ge (tgt := 60) hx hb dX12_orders_37 (by decide) (fun c821 => (by exfalso; have q9 : 3 ≤ ((i788 : Nat) : Int) := ti_le c821 (by decide) (nI_toInt (by omega)); omega)) (fun c821 => ?_)
          have t822 : ((i788 : Nat) : Int) < 3 := ti_nle c821 (by decide) (nI_toInt (by omega))
          refine lv_aload_n hx hb dX12_orders_40 rfl (lv_at hl 1 rfl) ?_
          refine tw_get hx hb hts bF_X12 hown hK hT hr_o0 shm_0 rfl 76 (by decide) (ht_at hts 8 rfl) (fun _ h9 => h9) dX12_orders_41 (fun v9 m823 h9 => ?_)
          obtain ⟨rfl, hg824⟩ := h9 _ rfl
          refine lv_iload hx hb dX12_orders_44 (lv_at hl 0 rfl) ?_
          refine lv_aload_n hx hb dX12_orders_46 rfl (lv_at hl 1 rfl) ?_
          refine tw_get hx hb hts bF_X12 hown hK hT hr_o0 shm_0 rfl 75 (by decide) (ht_at hts 3 rfl) (fun _ h9 => h9) dX12_orders_47 (fun v9 m825 h9 => ?_)
          obtain ⟨rfl, hg826⟩ := h9 _ rfl
          refine lv_iload hx hb dX12_orders_50 (lv_at hl 0 rfl) ?_
          refine tw_iald (i := (nI i788)) hx hb hK hT hg5 shm_76 rfl (vp_in_nI (by omega) (by decide)) dX12_orders_52 (fun v9 m827 h9 => ?_)
          obtain ⟨x828, rfl, gx828, kx828⟩ := h9
          have cx828 := m793.at m827 (by have q9 := tn_of (show (nI i788).toInt = ((i788 : Nat) : Int) from (nI_toInt (by omega))) (by omega); omega)
          refine tw_iast (i := (nI i788)) (x := x828) hx hb hK hT hG hS hg6 shm_77 rfl (vp_in_nI (by omega) (by decide)) (gi_all _) dX12_orders_53 (fun H locs hT oq m829 oi hS => ?_)
          have hF := hF.ast hg6 skm_77 oq (by decide)
          have m830 := m789.kept (oq _ (gne hg1 hg6 (by decide)))
          have m831 := m790.kept (oq _ (gne hg2 hg6 (by decide)))
          have m832 := m791.kept (oq _ (gne hg3 hg6 (by decide)))
          have m833 := m792.kept (oq _ (gne hg4 hg6 (by decide)))
          have m834 := m793.kept (oq _ (gne hg5 hg6 (by decide)))
          have m835 := m795.put m829 oi
          have m836 := (el_kept (oq _ (gne hr_o0 hg6 (by decide)))).trans m796
          have m837 := (el_kept (oq _ (gne hr_o0 hg6 (by decide)))).trans m797
          have m838 := (el_kept (oq _ (gne hg5 hg6 (by decide)))).trans m827
          refine lv_iinc (v := nI (i788 + 1)) (lv' := [(7, .int (nI (i788 + 1))), (0, .ref o0), (1, .int 3), (2, .int us), (3, .int yr), (4, .int ca), (5, .int ic), (6, .int su)]) hx hb dX12_orders_54 hl (k := 0) rfl (nI_add i788 1) (by decide) rfl (fun ls hl => ?_)
          refine lv_goto (tgt := 34) hx hb dX12_orders_57 (by decide) ?_
          exact ih817 (i788 + 1) (by omega) (by omega) (cu V794 (nI i788).toNatClampNeg x828) (cp_s (V := vR) (K := 3) (i := i788) (tn_nI (by omega)) cx828 hR (by omega) hj798) _ _ hT hF hS m830 m831 m832 m833 m834 m835 m836 m837 ls (lv_sub hl [0, 1, 2, 3, 4, 5, 6, 7] rfl)
      exact key817 (3 - 0) 0 (by omega) (Nat.le_refl _) vZ (fun k h => absurd h (Nat.not_lt_zero k)) _ _ hT hF hS m782 m783 m784 m785 m786 m787 m781 m780 ls (lv_sub hl [0, 1, 2, 3, 4, 5, 6, 7] rfl)
    · have t839 : 0 ≤ la.toInt := ti_nlt c778 rfl (by decide)
      refine lv_iload hx hb dX12_orders_15 (lv_at hl 6 rfl) ?_
      refine lv_aload_n hx hb dX12_orders_17 rfl (lv_at hl 0 rfl) ?_
      refine tw_getM (v := .int la) hx hb hts bF_X12 hown hK hT hr_o0 shm_0 rfl 77 (by decide) (ht_at hts 7 rfl) (fun _ h9 => h9) hm_la dX12_orders_18 ?_
      refine lv_icmp_lt (tgt := 25) hx hb dX12_orders_21 (by decide) (fun c840 => ?_) (fun c840 => ?_)
      · have t841 : su.toInt < la.toInt := ti_lt c840 rfl rfl
        refine lv_aload_n hx hb dX12_orders_25 rfl (lv_at hl 0 rfl) ?_
        refine lv_iload hx hb dX12_orders_26 (lv_at hl 6 rfl) ?_
        refine tw_put (v := .int su) (ty := .int) hx hb hts bF_X12 tyX12 tyX12_ok nmX12 hown hK hT hG hS hr_o0 shm_0 rfl 77 (by decide) (ht_at hts 7 rfl) (fun _ h9 => h9) rfl (by decide +kernel) rfl rfl (gl_at rfl (gi_all _)) dX12_orders_28 (fun H locs hT oq m842 oj hS => ?_)
        have hF := hF.put hr_o0 skm_0 oq oj (by decide)
        have m843 := (oj 74 (by decide) (by decide)).trans hm_jb
        have m844 := hc_aC.kept (oq _ (gne hg1 hr_o0 (by decide)))
        have m845 := hc_aY.kept (oq _ (gne hg2 hr_o0 (by decide)))
        have m846 := hc_aB.kept (oq _ (gne hg3 hr_o0 (by decide)))
        have m847 := hc_aA.kept (oq _ (gne hg4 hr_o0 (by decide)))
        have m848 := hc_vR.kept (oq _ (gne hg5 hr_o0 (by decide)))
        have m849 := hc_vZ.kept (oq _ (gne hg6 hr_o0 (by decide)))
        refine lv_iconst (v := 0) hx hb dX12_orders_31 (by decide) ?_
        refine lv_istore (lv' := [(7, .int 0), (0, .ref o0), (1, .int 3), (2, .int us), (3, .int yr), (4, .int ca), (5, .int ic), (6, .int su)]) hx hb dX12_orders_32 hl (by decide) rfl (fun ls hl => ?_)
        have key879 : ∀ (n879 i850 : Nat), i850 + n879 = 3 → 0 ≤ i850 → ∀ (V856 : Nat → Int32), ((∀ k : Nat, k < i850 → (V856 k).toInt = R k)) → ∀ (H : Heap) (locs : List Loc), gH (dC, dI) kA (SHm q (wP wZ wN wH wB wC wL wK wU wV) PI im PM PT lS lB lE lN) G H → gF (dC, dI) SKm G ([(0, 77), (76, 0), (77, 0)] : List (Nat × Nat)) s.heap H → va_S A s.heap H locs → ct H (q 70) 7 aC → ct H (q 71) 7 aY → ct H (q 72) 7 aB → ct H (q 73) 7 aA → ct H (q 75) 7 vR → ct H (q 76) 7 V856 → el H o0 (dI 15 74) = some (.int jb) → el H o0 (dI 15 77) = some (.int su) → ∀ ls : Array Slot, lv_has ls 10 [(7, .int (nI i850)), (0, .ref o0), (1, .int 3), (2, .int us), (3, .int yr), (4, .int ca), (5, .int ic), (6, .int su)] → W p l e (headSpec w_s_ordersC3 ({ frames := 4, cells := 0, slots := 0, locals := 116 })).room s m #[.ref o0, .int 3, .int us, .int yr, .int ca, .int ic, .int su] below meth c H locs 0 0 (MQ below (va_Qv (fun (u : Int32 × (Nat → Int32) × (Nat → Int32)) => match u with | (la1, vR1, vZ1) => (la1.toInt = (sx N 3 aC aY aB aA (bt us) yr.toInt ca.toInt ic.toInt su.toInt R a0).1 ∧ (0 ≤ (sx N 3 aC aY aB aA (bt us) yr.toInt ca.toInt ic.toInt su.toInt R a0).1 → ∀ k : Nat, k < N → (vZ1 k).toInt = (sx N 3 aC aY aB aA (bt us) yr.toInt ca.toInt ic.toInt su.toInt R a0).2 k) ∧ ∀ k : Nat, k < 3 → (vR1 k).toInt = R k)) (fun (u : Int32 × (Nat → Int32) × (Nat → Int32)) (t : State) => match u with | (la1, vR1, vZ1) => gH (dC, dI) kA (SHm q (wP wZ wN wH wB wC wL wK wU wV) PI im PM PT lS lB lE lN) G t.heap ∧ gF (dC, dI) SKm G ([(0, 77), (76, 0), (77, 0)] : List (Nat × Nat)) s.heap t.heap ∧ el t.heap o0 (dI 15 77) = some (.int la1) ∧ ct t.heap (q 75) 7 vR1 ∧ ct t.heap (q 76) 7 vZ1) A) #[.ref o0, .int 3, .int us, .int yr, .int ca, .int ic, .int su] s 0 0 A) (F0 m 34 ls []) := by
          intro n879
          induction n879 with
          | zero =>
            intro i850 hn879 hlo880 V856 hj860 H locs hT hF hS m851 m852 m853 m854 m855 m857 m858 m859 ls hl
            obtain rfl : 3 = i850 := by omega
            refine lv_iload hx hb dX12_orders_34 (lv_at hl 0 rfl) ?_
            refine lv_iload_n hx hb dX12_orders_36 rfl (lv_at hl 2 rfl) ?_
            refine lv_icmp_ge (tgt := 60) hx hb dX12_orders_37 (by decide) (fun c881 => ?_) (fun c881 => (by exfalso; have q9 : ((3 : Nat) : Int) < 3 := ti_nle c881 (by decide) (nI_toInt (by omega)); omega))
            have t882 : 3 ≤ ((3 : Nat) : Int) := ti_le c881 (by decide) (nI_toInt (by omega))
            exact W.vret hx hb hr (fun t ht hW => ⟨⟨(su, vR, V856), rfl, (by exact (by (try dsimp only); have e9 : N = 3 := (by omega); rw [sx_0 e9, if_neg (by omega)]; exact ⟨rfl, fun _ k hk => hj860 k (by omega), hR⟩)), by (try dsimp only); rw [ht]; exact ⟨hT, hF, m859, m855, m857⟩⟩, hS.F ht⟩) hS.2.2 dX12_orders_60
          | succ n879 ih879 =>
            intro i850 hn879 hlo880 V856 hj860 H locs hT hF hS m851 m852 m853 m854 m855 m857 m858 m859 ls hl
            have hlt882 : i850 < 3 := by omega
            refine lv_iload hx hb dX12_orders_34 (lv_at hl 0 rfl) ?_
            refine lv_iload_n hx hb dX12_orders_36 rfl (lv_at hl 2 rfl) ?_
            refine lv_icmp_ge (tgt := 60) hx hb dX12_orders_37 (by decide) (fun c883 => (by exfalso; have q9 : 3 ≤ ((i850 : Nat) : Int) := ti_le c883 (by decide) (nI_toInt (by omega)); omega)) (fun c883 => ?_)
            have t884 : ((i850 : Nat) : Int) < 3 := ti_nle c883 (by decide) (nI_toInt (by omega))
            refine lv_aload_n hx hb dX12_orders_40 rfl (lv_at hl 1 rfl) ?_
            refine tw_get hx hb hts bF_X12 hown hK hT hr_o0 shm_0 rfl 76 (by decide) (ht_at hts 8 rfl) (fun _ h9 => h9) dX12_orders_41 (fun v9 m885 h9 => ?_)
            obtain ⟨rfl, hg886⟩ := h9 _ rfl
            refine lv_iload hx hb dX12_orders_44 (lv_at hl 0 rfl) ?_
            refine lv_aload_n hx hb dX12_orders_46 rfl (lv_at hl 1 rfl) ?_
            refine tw_get hx hb hts bF_X12 hown hK hT hr_o0 shm_0 rfl 75 (by decide) (ht_at hts 3 rfl) (fun _ h9 => h9) dX12_orders_47 (fun v9 m887 h9 => ?_)
            obtain ⟨rfl, hg888⟩ := h9 _ rfl
            refine lv_iload hx hb dX12_orders_50 (lv_at hl 0 rfl) ?_
            refine tw_iald (i := (nI i850)) hx hb hK hT hg5 shm_76 rfl (vp_in_nI (by omega) (by decide)) dX12_orders_52 (fun v9 m889 h9 => ?_)
            obtain ⟨x890, rfl, gx890, kx890⟩ := h9
            have cx890 := m855.at m889 (by have q9 := tn_of (show (nI i850).toInt = ((i850 : Nat) : Int) from (nI_toInt (by omega))) (by omega); omega)
            refine tw_iast (i := (nI i850)) (x := x890) hx hb hK hT hG hS hg6 shm_77 rfl (vp_in_nI (by omega) (by decide)) (gi_all _) dX12_orders_53 (fun H locs hT oq m891 oi hS => ?_)
            have hF := hF.ast hg6 skm_77 oq (by decide)
            have m892 := m851.kept (oq _ (gne hg1 hg6 (by decide)))
            have m893 := m852.kept (oq _ (gne hg2 hg6 (by decide)))
            have m894 := m853.kept (oq _ (gne hg3 hg6 (by decide)))
            have m895 := m854.kept (oq _ (gne hg4 hg6 (by decide)))
            have m896 := m855.kept (oq _ (gne hg5 hg6 (by decide)))
            have m897 := m857.put m891 oi
            have m898 := (el_kept (oq _ (gne hr_o0 hg6 (by decide)))).trans m858
            have m899 := (el_kept (oq _ (gne hr_o0 hg6 (by decide)))).trans m859
            have m900 := (el_kept (oq _ (gne hg5 hg6 (by decide)))).trans m889
            refine lv_iinc (v := nI (i850 + 1)) (lv' := [(7, .int (nI (i850 + 1))), (0, .ref o0), (1, .int 3), (2, .int us), (3, .int yr), (4, .int ca), (5, .int ic), (6, .int su)]) hx hb dX12_orders_54 hl (k := 0) rfl (nI_add i850 1) (by decide) rfl (fun ls hl => ?_)
            refine lv_goto (tgt := 34) hx hb dX12_orders_57 (by decide) ?_
            exact ih879 (i850 + 1) (by omega) (by omega) (cu V856 (nI i850).toNatClampNeg x890) (cp_s (V := vR) (K := 3) (i := i850) (tn_nI (by omega)) cx890 hR (by omega) hj860) _ _ hT hF hS m892 m893 m894 m895 m896 m897 m898 m899 ls (lv_sub hl [0, 1, 2, 3, 4, 5, 6, 7] rfl)
        exact key879 (3 - 0) 0 (by omega) (Nat.le_refl _) vZ (fun k h => absurd h (Nat.not_lt_zero k)) _ _ hT hF hS m844 m845 m846 m847 m848 m849 m843 m842 ls (lv_sub hl [0, 1, 2, 3, 4, 5, 6, 7] rfl)
      · have t901 : la.toInt ≤ su.toInt := ti_nlt c840 rfl rfl
        exact W.vret hx hb hr (fun t ht hW => ⟨⟨(la, vR, vZ), rfl, (by exact (by (try dsimp only); have e9 : N = 3 := (by omega); rw [sx_0 e9, if_pos ⟨by omega, by omega⟩]; exact ⟨by omega, hZ0, hR⟩)), by (try dsimp only); rw [ht]; exact ⟨hT, hF, hm_la, hc_vR, hc_vZ⟩⟩, hS.F ht⟩) hS.2.2 dX12_orders_24
def w_s_ordersC2 : List Cond := .code yX12_orders cX12_orders 10 none :: (HAppend.hAppend (α := List Cond) (β := List Cond) (γ := List Cond) [.fieldLink RX12 553 "SeaLandModel" "jobs" "I", .fieldLink RX12 176 "SeaLandModel" "jCost" "[I", .fieldLink RX12 179 "SeaLandModel" "jYears" "[I", .fieldLink RX12 188 "SeaLandModel" "row" "[I", .fieldLink RX12 182 "SeaLandModel" "jBrings" "[I", .fieldLink RX12 185 "SeaLandModel" "jAcres" "[I", .code yX12_orders cX12_orders 10 none, .fieldLink RX12 556 "SeaLandModel" "lateness" "I", .fieldLink RX12 191 "SeaLandModel" "bestRow" "[I", .methodLink RX12 559 yX12_orders, .instanceMethod yX12_orders, .selects RX12 yX12_orders yX12_orders, .initialized RX12] bs)
set_option maxHeartbeats 4000000 in
set_option maxRecDepth 100000 in
theorem s_ordersC2 (l : Launch) (dC : Nat → ClassId) (dI : Nat → Nat → Nat) (kA : Nat → ClassId) (adK adV : Nat → Nat) (G : gT) (H0 : Heap) (q : Nat → Nat) (wZ wN : Nat → Int) (wH wB wC : Int) (wL wK : Nat → Prop) (wU wV : Nat → Nat) (PI : Nat → Int → Prop) (im : Int) (PM PT : Nat → Int → Prop) (lS lB lE : Nat → Nat → Int → Prop) (lN : Nat → Int) (o0 : Nat) (us : Int32) (yr : Int32) (ca : Int32) (ic : Int32) (su : Int32) (jb : Int32) (la : Int32) (aC : Nat → Int32) (aY : Nat → Int32) (aB : Nat → Int32) (aA : Nat → Int32) (vR : Nat → Int32) (vZ : Nat → Int32) (N : Nat) (R : Nat → Int) (a0 : oA) (hT : gH (dC, dI) kA (SHm q (wP wZ wN wH wB wC wL wK wU wV) PI im PM PT lS lB lE lN) G H0) (hr_o0 : G o0 = some 0) (hm_jb : el H0 o0 (dI 15 74) = some (.int jb)) (hm_la : el H0 o0 (dI 15 77) = some (.int la)) (hq0 : 0 ≤ yr.toInt ∧ yr.toInt ≤ 200) (hq1 : 0 ≤ ca.toInt ∧ ca.toInt ≤ 3099999) (hq2 : 0 ≤ ic.toInt ∧ ic.toInt ≤ 200000) (hq3 : 0 ≤ su.toInt ∧ su.toInt ≤ 400000) (hq4 : 2 ≤ jb.toInt ∧ jb.toInt ≤ 7) (hN : jb.toInt = ((N : Nat) : Int)) (hrg : joR jb.toInt aC aY aB aA) (hla : la.toInt = a0.1) (hZ0 : 0 ≤ a0.1 → ∀ k : Nat, k < N → (vZ k).toInt = a0.2 k) (hR : ∀ k : Nat, k < 2 → (vR k).toInt = R k) (hc_aC : ct H0 (q 70) 7 aC) (hc_aY : ct H0 (q 71) 7 aY) (hc_aB : ct H0 (q 72) 7 aB) (hc_aA : ct H0 (q 73) 7 aA) (hc_vR : ct H0 (q 75) 7 vR) (hc_vZ : ct H0 (q 76) 7 vZ) (hgz : ∀ i, 0 ≤ wZ i) (hgn : ∀ i, 6500000 ≤ wN i ∧ wN i ≤ 20200000) (hgh : 0 ≤ wH ∧ wH ≤ 40000) (hgb : 0 ≤ wB ∧ wB ≤ 3850000) (hgc : 0 ≤ wC ∧ wC ≤ 30) (hgi : 0 ≤ im ∧ im ≤ 1) (hgu : ∀ a t, G a = some (t + 1) → a = q t) : Met l yX12_orders w_s_ordersC2 ({ frames := 5, cells := 0, slots := 0, locals := 145 }) (va_Pc [.ref o0, .int 2, .int us, .int yr, .int ca, .int ic, .int su] (fun U => U.heap = H0 ∧ va_K (dC, dI) vwCl (tyl kA) U ∧ EVS adK adV (gA G H0.size) U U.heap)) (va_Qv (fun (u : Int32 × (Nat → Int32) × (Nat → Int32)) => match u with | (la1, vR1, vZ1) => (la1.toInt = (sx N 2 aC aY aB aA (bt us) yr.toInt ca.toInt ic.toInt su.toInt R a0).1 ∧ (0 ≤ (sx N 2 aC aY aB aA (bt us) yr.toInt ca.toInt ic.toInt su.toInt R a0).1 → ∀ k : Nat, k < N → (vZ1 k).toInt = (sx N 2 aC aY aB aA (bt us) yr.toInt ca.toInt ic.toInt su.toInt R a0).2 k) ∧ ∀ k : Nat, k < 2 → (vR1 k).toInt = R k)) (fun (u : Int32 × (Nat → Int32) × (Nat → Int32)) (t : State) => match u with | (la1, vR1, vZ1) => gH (dC, dI) kA (SHm q (wP wZ wN wH wB wC wL wK wU wV) PI im PM PT lS lB lE lN) G t.heap ∧ gF (dC, dI) SKm G ([(0, 77), (76, 0), (77, 0)] : List (Nat × Nat)) H0 t.heap ∧ el t.heap o0 (dI 15 77) = some (.int la1) ∧ ct t.heap (q 75) 7 vR1 ∧ ct t.heap (q 76) 7 vZ1) (gA G H0.size)) 0 0 (gA G H0.size) := by
  refine Met.ofW (cc := cX12_orders) (maxL := 10) (ret := none) (by decide) rfl ?_
  intro p e s m args below meth c s₁ B hml hv
  obtain ⟨rfl, hH0, hK, hE⟩ := hv
  have hx := B.exec
  have hb := B.bytes
  have hr := B.returns
  have hts := atoms_spec (ws := w_s_ordersC2) B.pre
  have hown : s.vm.findClass RX12 = some m.cls := findClass_of_methodNamed B.named
  have hlocks := B.notSynchronized
  subst hH0
  generalize hAe : gA G s.heap.size = A at hE ⊢
  have hA : ∀ q : Nat, s.heap.size ≤ q → A q := fun q h => by rw [← hAe]; exact Or.inr h
  have hG := gA_of hAe
  have hS : va_S A s.heap s.heap [] := va_S.rf
  have hF : gF (dC, dI) SKm G ([(0, 77), (76, 0), (77, 0)] : List (Nat × Nat)) s.heap s.heap := gF.rf
  have hl := lv_entry ([.ref o0, .int 2, .int us, .int yr, .int ca, .int ic, .int su]) (n := 10) (Nat.le_of_ble_eq_true rfl)
  rw [lg_entry_eq]
  generalize (lg_sl ([.ref o0, .int 2, .int us, .int yr, .int ca, .int ic, .int su]) ++ List.replicate (10 - (lg_sl ([.ref o0, .int 2, .int us, .int yr, .int ca, .int ic, .int su])).length) Slot.unset).toArray = ls at hl ⊢
  have hl : lv_has ls 10 [(0, .ref o0), (1, .int 2), (2, .int us), (3, .int yr), (4, .int ca), (5, .int ic), (6, .int su)] := hl
  have hg1 : G (q 70) = some 71 := gx_of hT hr_o0 shm_0 (k := 70) (by decide) rfl
  have hg2 : G (q 71) = some 72 := gx_of hT hr_o0 shm_0 (k := 71) (by decide) rfl
  have hg3 : G (q 72) = some 73 := gx_of hT hr_o0 shm_0 (k := 72) (by decide) rfl
  have hg4 : G (q 73) = some 74 := gx_of hT hr_o0 shm_0 (k := 73) (by decide) rfl
  have hg5 : G (q 75) = some 76 := gx_of hT hr_o0 shm_0 (k := 75) (by decide) rfl
  have hg6 : G (q 76) = some 77 := gx_of hT hr_o0 shm_0 (k := 76) (by decide) rfl
  refine lv_iload_n hx hb dX12_orders_0 rfl (lv_at hl 1 rfl) ?_
  refine lv_aload_n hx hb dX12_orders_1 rfl (lv_at hl 0 rfl) ?_
  refine tw_getM (v := .int jb) hx hb hts bF_X12 hown hK hT hr_o0 shm_0 rfl 74 (by decide) (ht_at hts 0 rfl) (fun _ h9 => h9) hm_jb dX12_orders_2 ?_
  refine lv_icmp_ne (tgt := 61) hx hb dX12_orders_5 (by decide) (fun c7 => ?_) (fun c7 => ?_)
  · have t8 : 2 ≠ jb.toInt := ti_ne c7 (by decide) rfl
    refine lv_iconst (v := 0) hx hb dX12_orders_61 (by decide) ?_
    refine lv_istore (lv' := [(7, .int 0), (0, .ref o0), (1, .int 2), (2, .int us), (3, .int yr), (4, .int ca), (5, .int ic), (6, .int su)]) hx hb dX12_orders_62 hl (by decide) rfl (fun ls hl => ?_)
    have key399 : ∀ (n399 i9 : Nat), i9 + n399 = 7 → 0 ≤ i9 → ∀ (V14 : Nat → Int32), ∀ (V16 : Nat → Int32), ∀ (z19 : Int32), ((z19.toInt = (slO N 2 aC aY aB aA (bt us) yr.toInt ca.toInt ic.toInt su.toInt R a0 i9).1) ∧ (0 ≤ (slO N 2 aC aY aB aA (bt us) yr.toInt ca.toInt ic.toInt su.toInt R a0 i9).1 → ∀ k : Nat, k < N → (V16 k).toInt = (slO N 2 aC aY aB aA (bt us) yr.toInt ca.toInt ic.toInt su.toInt R a0 i9).2 k) ∧ (∀ k : Nat, k < 2 → (V14 k).toInt = R k) ∧ (((i9 : Nat) : Int) ≤ jb.toInt)) → ∀ (H : Heap) (locs : List Loc), gH (dC, dI) kA (SHm q (wP wZ wN wH wB wC wL wK wU wV) PI im PM PT lS lB lE lN) G H → gF (dC, dI) SKm G ([(0, 77), (76, 0), (77, 0)] : List (Nat × Nat)) s.heap H → va_S A s.heap H locs → ct H (q 70) 7 aC → ct H (q 71) 7 aY → ct H (q 72) 7 aB → ct H (q 73) 7 aA → ct H (q 75) 7 V14 → ct H (q 76) 7 V16 → el H o0 (dI 15 74) = some (.int jb) → el H o0 (dI 15 77) = some (.int z19) → ∀ ls : Array Slot, lv_has ls 10 [(7, .int (nI i9)), (0, .ref o0), (1, .int 2), (2, .int us), (3, .int yr), (4, .int ca), (5, .int ic), (6, .int su)] → W p l e (headSpec w_s_ordersC2 ({ frames := 5, cells := 0, slots := 0, locals := 145 })).room s m #[.ref o0, .int 2, .int us, .int yr, .int ca, .int ic, .int su] below meth c H locs 0 0 (MQ below (va_Qv (fun (u : Int32 × (Nat → Int32) × (Nat → Int32)) => match u with | (la1, vR1, vZ1) => (la1.toInt = (sx N 2 aC aY aB aA (bt us) yr.toInt ca.toInt ic.toInt su.toInt R a0).1 ∧ (0 ≤ (sx N 2 aC aY aB aA (bt us) yr.toInt ca.toInt ic.toInt su.toInt R a0).1 → ∀ k : Nat, k < N → (vZ1 k).toInt = (sx N 2 aC aY aB aA (bt us) yr.toInt ca.toInt ic.toInt su.toInt R a0).2 k) ∧ ∀ k : Nat, k < 2 → (vR1 k).toInt = R k)) (fun (u : Int32 × (Nat → Int32) × (Nat → Int32)) (t : State) => match u with | (la1, vR1, vZ1) => gH (dC, dI) kA (SHm q (wP wZ wN wH wB wC wL wK wU wV) PI im PM PT lS lB lE lN) G t.heap ∧ gF (dC, dI) SKm G ([(0, 77), (76, 0), (77, 0)] : List (Nat × Nat)) s.heap t.heap ∧ el t.heap o0 (dI 15 77) = some (.int la1) ∧ ct t.heap (q 75) 7 vR1 ∧ ct t.heap (q 76) 7 vZ1) A) #[.ref o0, .int 2, .int us, .int yr, .int ca, .int ic, .int su] s 0 0 A) (F0 m 64 ls []) := by
      intro n399
      induction n399 with
      | zero =>
        intro i9 hn399 hlo400 V14 V16 z19 ⟨hj21, hj22, hj23, hj24⟩ H locs hT hF hS m10 m11 m12 m13 m15 m17 m18 m20 ls hl
        obtain rfl : 7 = i9 := by omega
        refine lv_iload hx hb dX12_orders_64 (lv_at hl 0 rfl) ?_
        refine lv_aload_n hx hb dX12_orders_66 rfl (lv_at hl 1 rfl) ?_
        refine tw_getM (v := .int jb) hx hb hts bF_X12 hown hK hT hr_o0 shm_0 rfl 74 (by decide) (ht_at hts 0 rfl) (fun _ h9 => h9) m18 dX12_orders_67 ?_
        refine lv_icmp_ge (tgt := 231) hx hb dX12_orders_70 (by decide) (fun c401 => ?_) (fun c401 => (by exfalso; have q9 : ((7 : Nat) : Int) < jb.toInt := ti_nle c401 rfl (nI_toInt (by omega)); omega))
        have t402 : jb.toInt ≤ ((7 : Nat) : Int) := ti_le c401 rfl (nI_toInt (by omega))
        exact W.vret hx hb hr (fun t ht hW => ⟨⟨(z19, V14, V16), rfl, (by exact (by (try dsimp only); have e9 : N = 7 := (by omega); rw [sx_s (by omega)]; subst e9; exact ⟨hj21, hj22, hj23⟩)), by (try dsimp only); rw [ht]; exact ⟨hT, hF, m20, m15, m17⟩⟩, hS.F ht⟩) hS.2.2 dX12_orders_231
      | succ n399 ih399 =>
        intro i9 hn399 hlo400 V14 V16 z19 ⟨hj21, hj22, hj23, hj24⟩ H locs hT hF hS m10 m11 m12 m13 m15 m17 m18 m20 ls hl
        have hlt402 : i9 < 7 := by omega
        refine lv_iload hx hb dX12_orders_64 (lv_at hl 0 rfl) ?_
        refine lv_aload_n hx hb dX12_orders_66 rfl (lv_at hl 1 rfl) ?_
        refine tw_getM (v := .int jb) hx hb hts bF_X12 hown hK hT hr_o0 shm_0 rfl 74 (by decide) (ht_at hts 0 rfl) (fun _ h9 => h9) m18 dX12_orders_67 ?_
        refine lv_icmp_ge (tgt := 231) hx hb dX12_orders_70 (by decide) (fun c403 => ?_) (fun c403 => ?_)
        · have t404 : jb.toInt ≤ ((i9 : Nat) : Int) := ti_le c403 rfl (nI_toInt (by omega))
          exact W.vret hx hb hr (fun t ht hW => ⟨⟨(z19, V14, V16), rfl, (by exact (by (try dsimp only); have e9 : N = i9 := (by omega); rw [sx_s (by omega)]; subst e9; exact ⟨hj21, hj22, hj23⟩)), by (try dsimp only); rw [ht]; exact ⟨hT, hF, m20, m15, m17⟩⟩, hS.F ht⟩) hS.2.2 dX12_orders_231
        · have t405 : ((i9 : Nat) : Int) < jb.toInt := ti_nle c403 rfl (nI_toInt (by omega))
          refine lv_iload_n hx hb dX12_orders_73 rfl (lv_at hl 3 rfl) ?_
          refine lv_iload hx hb dX12_orders_74 (lv_at hl 0 rfl) ?_
          refine lv_ishr hx hb dX12_orders_76 ?_
          refine lv_topi (fun x406 ex406 => ?_)
          refine lv_iconst (v := 1) hx hb dX12_orders_77 (by decide) ?_
          refine lv_iand hx hb dX12_orders_78 ?_
          refine lv_topi (fun x407 ex407 => ?_)
          refine lv_iconst (v := 1) hx hb dX12_orders_79 (by decide) ?_
          have hbt := bt_t (us := us) (j := i9) (by omega) ex406 ex407
          refine lv_icmp_ne (tgt := 86) hx hb dX12_orders_80 (by decide) (fun c408 => ?_) (fun c408 => ?_)
          · have t409 : x407.toInt ≠ 1 := ti_ne c408 rfl (by decide)
            refine lv_iload_n hx hb dX12_orders_86 rfl (lv_at hl 4 rfl) ?_
            refine lv_istore (lv' := [(8, .int yr), (7, .int (nI i9)), (0, .ref o0), (1, .int 2), (2, .int us), (3, .int yr), (4, .int ca), (5, .int ic), (6, .int su)]) hx hb dX12_orders_87 hl (by decide) rfl (fun ls hl => ?_)
            refine lv_iload hx hb dX12_orders_89 (lv_at hl 6 rfl) ?_
            refine lv_istore (lv' := [(9, .int ca), (8, .int yr), (7, .int (nI i9)), (0, .ref o0), (1, .int 2), (2, .int us), (3, .int yr), (4, .int ca), (5, .int ic), (6, .int su)]) hx hb dX12_orders_91 hl (by decide) rfl (fun ls hl => ?_)
            have key654 : ∀ (n654 : Nat), ∀ (z520 : Int32), ∀ (z522 : Int32), (400 - z522.toInt < ((n654 : Nat) : Int)) → ((0 ≤ z520.toInt ∧ z520.toInt ≤ 3099999) ∧ (0 ≤ z522.toInt ∧ z522.toInt ≤ 201) ∧ (wtO yr.toInt ca.toInt ic.toInt (aC i9).toInt z522.toInt z520.toInt)) → ∀ (H : Heap) (locs : List Loc), gH (dC, dI) kA (SHm q (wP wZ wN wH wB wC wL wK wU wV) PI im PM PT lS lB lE lN) G H → gF (dC, dI) SKm G ([(0, 77), (76, 0), (77, 0)] : List (Nat × Nat)) s.heap H → va_S A s.heap H locs → ct H (q 70) 7 aC → ct H (q 71) 7 aY → ct H (q 72) 7 aB → ct H (q 73) 7 aA → ct H (q 75) 7 V14 → ct H (q 76) 7 V16 → el H o0 (dI 15 74) = some (.int jb) → el H o0 (dI 15 77) = some (.int z19) → ∀ ls : Array Slot, lv_has ls 10 [(9, .int z520), (8, .int z522), (7, .int (nI i9)), (0, .ref o0), (1, .int 2), (2, .int us), (3, .int yr), (4, .int ca), (5, .int ic), (6, .int su)] → W p l e (headSpec w_s_ordersC2 ({ frames := 5, cells := 0, slots := 0, locals := 145 })).room s m #[.ref o0, .int 2, .int us, .int yr, .int ca, .int ic, .int su] below meth c H locs 0 0 (MQ below (va_Qv (fun (u : Int32 × (Nat → Int32) × (Nat → Int32)) => match u with | (la1, vR1, vZ1) => (la1.toInt = (sx N 2 aC aY aB aA (bt us) yr.toInt ca.toInt ic.toInt su.toInt R a0).1 ∧ (0 ≤ (sx N 2 aC aY aB aA (bt us) yr.toInt ca.toInt ic.toInt su.toInt R a0).1 → ∀ k : Nat, k < N → (vZ1 k).toInt = (sx N 2 aC aY aB aA (bt us) yr.toInt ca.toInt ic.toInt su.toInt R a0).2 k) ∧ ∀ k : Nat, k < 2 → (vR1 k).toInt = R k)) (fun (u : Int32 × (Nat → Int32) × (Nat → Int32)) (t : State) => match u with | (la1, vR1, vZ1) => gH (dC, dI) kA (SHm q (wP wZ wN wH wB wC wL wK wU wV) PI im PM PT lS lB lE lN) G t.heap ∧ gF (dC, dI) SKm G ([(0, 77), (76, 0), (77, 0)] : List (Nat × Nat)) s.heap t.heap ∧ el t.heap o0 (dI 15 77) = some (.int la1) ∧ ct t.heap (q 75) 7 vR1 ∧ ct t.heap (q 76) 7 vZ1) A) #[.ref o0, .int 2, .int us, .int yr, .int ca, .int ic, .int su] s 0 0 A) (F0 m 93 ls []) := by
              intro n654
              induction n654 with
              | zero =>
                intro z520 z522 hv654 ⟨h521, h523, hj532⟩ H locs hT hF hS m524 m525 m526 m527 m528 m529 m530 m531 ls hl
                exfalso; have q9 := (show z522.toInt = z522.toInt from rfl); omega
              | succ n654 ih654 =>
                intro z520 z522 hv654 ⟨h521, h523, hj532⟩ H locs hT hF hS m524 m525 m526 m527 m528 m529 m530 m531 ls hl
                refine lv_iload hx hb dX12_orders_93 (lv_at hl 0 rfl) ?_
                refine lv_aload_n hx hb dX12_orders_95 rfl (lv_at hl 3 rfl) ?_
                refine tw_get hx hb hts bF_X12 hown hK hT hr_o0 shm_0 rfl 70 (by decide) (ht_at hts 1 rfl) (fun _ h9 => h9) dX12_orders_96 (fun v9 m655 h9 => ?_)
                obtain ⟨rfl, hg656⟩ := h9 _ rfl
                refine lv_iload hx hb dX12_orders_99 (lv_at hl 2 rfl) ?_
                refine tw_iald (i := (nI i9)) hx hb hK hT hg1 shm_71 rfl (vp_in_nI (by omega) (by decide)) dX12_orders_101 (fun v9 m657 h9 => ?_)
                obtain ⟨x658, rfl, gx658, kx658⟩ := h9
                have cx658 := m524.at m657 (by have q9 := tn_of (show (nI i9).toInt = ((i9 : Nat) : Int) from (nI_toInt (by omega))) (by omega); omega)
                have t659 : x658.toInt = (aC i9).toInt := congrArg Int32.toInt (cx658.trans (by rw [tn_nI (by omega)]))
                have t660 : 0 ≤ (aC i9).toInt ∧ (aC i9).toInt ≤ 1000000 := (hrg i9 (by omega)).1
                refine lv_icmp_ge (tgt := 126) hx hb dX12_orders_102 (by decide) (fun c661 => ?_) (fun c661 => ?_)
                · have t662 : x658.toInt ≤ z520.toInt := ti_le c661 rfl rfl
                  refine lv_iload hx hb dX12_orders_126 (lv_at hl 0 rfl) ?_
                  refine lv_aload_n hx hb dX12_orders_128 rfl (lv_at hl 3 rfl) ?_
                  refine tw_get hx hb hts bF_X12 hown hK hT hr_o0 shm_0 rfl 70 (by decide) (ht_at hts 1 rfl) (fun _ h9 => h9) dX12_orders_129 (fun v9 m663 h9 => ?_)
                  obtain ⟨rfl, hg664⟩ := h9 _ rfl
                  refine lv_iload hx hb dX12_orders_132 (lv_at hl 2 rfl) ?_
                  refine tw_iald (i := (nI i9)) hx hb hK hT hg1 shm_71 rfl (vp_in_nI (by omega) (by decide)) dX12_orders_134 (fun v9 m665 h9 => ?_)
                  obtain ⟨x666, rfl, gx666, kx666⟩ := h9
                  have cx666 := m524.at m665 (by have q9 := tn_of (show (nI i9).toInt = ((i9 : Nat) : Int) from (nI_toInt (by omega))) (by omega); omega)
                  obtain rfl : x658 = x666 := (el_same m665 m657 rfl).symm
                  refine lv_isub hx hb dX12_orders_135 ?_
                  refine lv_topi (fun x667 ex667 => ?_)
                  have t668 : x667.toInt = z520.toInt - x658.toInt := ti_sub ex667 rfl rfl (by omega) (by omega)
                  refine lv_istore (lv' := [(9, .int x667), (8, .int z522), (7, .int (nI i9)), (0, .ref o0), (1, .int 2), (2, .int us), (3, .int yr), (4, .int ca), (5, .int ic), (6, .int su)]) hx hb dX12_orders_136 hl (by decide) rfl (fun ls hl => ?_)
                  refine lv_iload hx hb dX12_orders_138 (lv_at hl 1 rfl) ?_
                  refine lv_aload_n hx hb dX12_orders_140 rfl (lv_at hl 3 rfl) ?_
                  refine tw_get hx hb hts bF_X12 hown hK hT hr_o0 shm_0 rfl 71 (by decide) (ht_at hts 2 rfl) (fun _ h9 => h9) dX12_orders_141 (fun v9 m669 h9 => ?_)
                  obtain ⟨rfl, hg670⟩ := h9 _ rfl
                  refine lv_iload hx hb dX12_orders_144 (lv_at hl 2 rfl) ?_
                  refine tw_iald (i := (nI i9)) hx hb hK hT hg2 shm_72 rfl (vp_in_nI (by omega) (by decide)) dX12_orders_146 (fun v9 m671 h9 => ?_)
                  obtain ⟨x672, rfl, gx672, kx672⟩ := h9
                  have cx672 := m525.at m671 (by have q9 := tn_of (show (nI i9).toInt = ((i9 : Nat) : Int) from (nI_toInt (by omega))) (by omega); omega)
                  have t673 : x672.toInt = (aY i9).toInt := congrArg Int32.toInt (cx672.trans (by rw [tn_nI (by omega)]))
                  have t674 : 1 ≤ (aY i9).toInt ∧ (aY i9).toInt ≤ 20 := (hrg i9 (by omega)).2.1
                  refine lv_iadd hx hb dX12_orders_147 ?_
                  refine lv_topi (fun x675 ex675 => ?_)
                  have t676 : x675.toInt = z522.toInt + x672.toInt := ti_add ex675 rfl rfl (by omega) (by omega)
                  refine lv_istore (lv' := [(8, .int x675), (9, .int x667), (7, .int (nI i9)), (0, .ref o0), (1, .int 2), (2, .int us), (3, .int yr), (4, .int ca), (5, .int ic), (6, .int su)]) hx hb dX12_orders_148 hl (by decide) rfl (fun ls hl => ?_)
                  refine lv_iload hx hb dX12_orders_150 (lv_at hl 1 rfl) ?_
                  refine lv_if_lt (tgt := 225) hx hb dX12_orders_152 (by decide) (fun c677 => ?_) (fun c677 => ?_)
                  · have t678 : x667.toInt < 0 := ti_lt c677 rfl (by decide)
                    refine lv_iinc (v := nI (i9 + 1)) (lv' := [(7, .int (nI (i9 + 1))), (8, .int x675), (9, .int x667), (0, .ref o0), (1, .int 2), (2, .int us), (3, .int yr), (4, .int ca), (5, .int ic), (6, .int su)]) hx hb dX12_orders_225 hl (k := 2) rfl (nI_add i9 1) (by decide) rfl (fun ls hl => ?_)
                    refine lv_goto (tgt := 64) hx hb dX12_orders_228 (by decide) ?_
                    have bk9 : z19.toInt = (slO N 2 aC aY aB aA (bt us) yr.toInt ca.toInt ic.toInt su.toInt R a0 (i9 + 1)).1 ∧ (0 ≤ (slO N 2 aC aY aB aA (bt us) yr.toInt ca.toInt ic.toInt su.toInt R a0 (i9 + 1)).1 → ∀ k : Nat, k < N → (V16 k).toInt = (slO N 2 aC aY aB aA (bt us) yr.toInt ca.toInt ic.toInt su.toInt R a0 (i9 + 1)).2 k) ∧ ∀ k : Nat, k < 2 → (V14 k).toInt = R k := by rw [sl_n (wt_none hj532 (by omega) (by omega))]; exact ⟨hj21, hj22, hj23⟩
                    exact ih399 (i9 + 1) (by omega) (by omega) V14 V16 z19 ⟨bk9.1, bk9.2.1, bk9.2.2, (by omega)⟩ _ _ hT hF hS m524 m525 m526 m527 m528 m529 m530 m531 ls (lv_sub hl [0, 3, 4, 5, 6, 7, 8, 9] rfl)
                  · have t679 : 0 ≤ x667.toInt := ti_nlt c677 rfl (by decide)
                    refine lv_iload hx hb dX12_orders_155 (lv_at hl 0 rfl) ?_
                    refine lv_sipush (v := 200) hx hb dX12_orders_157 (by decide) ?_
                    refine lv_icmp_le (tgt := 166) hx hb dX12_orders_160 (by decide) (fun c680 => ?_) (fun c680 => ?_)
                    · have t681 : x675.toInt ≤ 200 := ti_le c680 rfl (by decide)
                      refine lv_aload_n hx hb dX12_orders_166 rfl (lv_at hl 3 rfl) ?_
                      refine tw_get hx hb hts bF_X12 hown hK hT hr_o0 shm_0 rfl 75 (by decide) (ht_at hts 3 rfl) (fun _ h9 => h9) dX12_orders_167 (fun v9 m682 h9 => ?_)
                      obtain ⟨rfl, hg683⟩ := h9 _ rfl
                      refine lv_iload_n hx hb dX12_orders_170 rfl (lv_at hl 4 rfl) ?_
                      refine lv_iload hx hb dX12_orders_171 (lv_at hl 2 rfl) ?_
                      refine tw_iast (i := 2) (x := (nI i9)) hx hb hK hT hG hS hg5 shm_76 rfl (by unfold vp_in; decide) (gi_all _) dX12_orders_173 (fun H locs hT oq m684 oi hS => ?_)
                      have hF := hF.ast hg5 skm_76 oq (by decide)
                      have m685 := m524.kept (oq _ (gne hg1 hg5 (by decide)))
                      have m686 := m525.kept (oq _ (gne hg2 hg5 (by decide)))
                      have m687 := m526.kept (oq _ (gne hg3 hg5 (by decide)))
                      have m688 := m527.kept (oq _ (gne hg4 hg5 (by decide)))
                      have m689 := m528.put m684 oi
                      have m690 := m529.kept (oq _ (gne hg6 hg5 (by decide)))
                      have m691 := (el_kept (oq _ (gne hr_o0 hg5 (by decide)))).trans m530
                      have m692 := (el_kept (oq _ (gne hr_o0 hg5 (by decide)))).trans m531
                      have m693 := (el_kept (oq _ (gne hg1 hg5 (by decide)))).trans m657
                      have m694 := (el_kept (oq _ (gne hg2 hg5 (by decide)))).trans m671
                      refine lv_aload_n hx hb dX12_orders_174 rfl (lv_at hl 3 rfl) ?_
                      refine lv_iload_n hx hb dX12_orders_175 rfl (lv_at hl 4 rfl) ?_
                      refine lv_iconst (v := 1) hx hb dX12_orders_176 (by decide) ?_
                      refine lv_iadd hx hb dX12_orders_177 ?_
                      refine lv_topi (fun x695 ex695 => ?_)
                      obtain rfl : x695 = 3 := ex695.trans (by decide)
                      refine lv_iload_n hx hb dX12_orders_178 rfl (lv_at hl 5 rfl) ?_
                      refine lv_iconst (v := 1) hx hb dX12_orders_179 (by decide) ?_
                      refine lv_iload hx hb dX12_orders_180 (lv_at hl 2 rfl) ?_
                      refine lv_ishl hx hb dX12_orders_182 ?_
                      refine lv_topi (fun x696 ex696 => ?_)
                      refine lv_ior hx hb dX12_orders_183 ?_
                      refine lv_topi (fun x697 ex697 => ?_)
                      refine lv_iload hx hb dX12_orders_184 (lv_at hl 0 rfl) ?_
                      refine lv_iload hx hb dX12_orders_186 (lv_at hl 1 rfl) ?_
                      refine lv_iload hx hb dX12_orders_188 (lv_at hl 8 rfl) ?_
                      refine lv_aload_n hx hb dX12_orders_190 rfl (lv_at hl 3 rfl) ?_
                      refine tw_get hx hb hts bF_X12 hown hK hT hr_o0 shm_0 rfl 71 (by decide) (ht_at hts 2 rfl) (fun _ h9 => h9) dX12_orders_191 (fun v9 m698 h9 => ?_)
                      obtain ⟨rfl, hg699⟩ := h9 _ rfl
                      refine lv_iload hx hb dX12_orders_194 (lv_at hl 2 rfl) ?_
                      refine tw_iald (i := (nI i9)) hx hb hK hT hg2 shm_72 rfl (vp_in_nI (by omega) (by decide)) dX12_orders_196 (fun v9 m700 h9 => ?_)
                      obtain ⟨x701, rfl, gx701, kx701⟩ := h9
                      have cx701 := m686.at m700 (by have q9 := tn_of (show (nI i9).toInt = ((i9 : Nat) : Int) from (nI_toInt (by omega))) (by omega); omega)
                      obtain rfl : x672 = x701 := (el_same m700 m694 rfl).symm
                      refine lv_imul hx hb dX12_orders_197 ?_
                      refine lv_topi (fun x702 ex702 => ?_)
                      have t703 : x702.toInt = ic.toInt * x672.toInt := ti_mulx ex702 rfl rfl (A := 200000) (B := 20) (by omega) (by omega) (by omega) (by omega) (by decide)
                      have t704 : 0 ≤ x702.toInt ∧ x702.toInt ≤ 200000 * 20 ∧ (ic.toInt = 0 → x702.toInt = 0) ∧ (x672.toInt = 0 → x702.toInt = 0) ∧ x702.toInt ≤ ic.toInt * 20 ∧ x702.toInt ≤ 200000 * x672.toInt := ti_mulnn ex702 rfl rfl (by omega) (by omega) (by omega) (by omega) (by decide)
                      refine lv_iadd hx hb dX12_orders_198 ?_
                      refine lv_topi (fun x705 ex705 => ?_)
                      have t706 : x705.toInt = x667.toInt + x702.toInt := ti_add ex705 rfl rfl (by omega) (by omega)
                      refine lv_iload hx hb dX12_orders_199 (lv_at hl 8 rfl) ?_
                      refine lv_aload_n hx hb dX12_orders_201 rfl (lv_at hl 3 rfl) ?_
                      refine tw_get hx hb hts bF_X12 hown hK hT hr_o0 shm_0 rfl 72 (by decide) (ht_at hts 4 rfl) (fun _ h9 => h9) dX12_orders_202 (fun v9 m707 h9 => ?_)
                      obtain ⟨rfl, hg708⟩ := h9 _ rfl
                      refine lv_iload hx hb dX12_orders_205 (lv_at hl 2 rfl) ?_
                      refine tw_iald (i := (nI i9)) hx hb hK hT hg3 shm_73 rfl (vp_in_nI (by omega) (by decide)) dX12_orders_207 (fun v9 m709 h9 => ?_)
                      obtain ⟨x710, rfl, gx710, kx710⟩ := h9
                      have cx710 := m687.at m709 (by have q9 := tn_of (show (nI i9).toInt = ((i9 : Nat) : Int) from (nI_toInt (by omega))) (by omega); omega)
                      have t711 : x710.toInt = (aB i9).toInt := congrArg Int32.toInt (cx710.trans (by rw [tn_nI (by omega)]))
                      have t712 : 0 ≤ (aB i9).toInt ∧ (aB i9).toInt ≤ 100000 := (hrg i9 (by omega)).2.2.1
                      refine lv_iadd hx hb dX12_orders_208 ?_
                      refine lv_topi (fun x713 ex713 => ?_)
                      have t714 : x713.toInt = ic.toInt + x710.toInt := ti_add ex713 rfl rfl (by omega) (by omega)
                      refine lv_iload hx hb dX12_orders_209 (lv_at hl 9 rfl) ?_
                      refine lv_aload_n hx hb dX12_orders_211 rfl (lv_at hl 3 rfl) ?_
                      refine tw_get hx hb hts bF_X12 hown hK hT hr_o0 shm_0 rfl 73 (by decide) (ht_at hts 5 rfl) (fun _ h9 => h9) dX12_orders_212 (fun v9 m715 h9 => ?_)
                      obtain ⟨rfl, hg716⟩ := h9 _ rfl
                      refine lv_iload hx hb dX12_orders_215 (lv_at hl 2 rfl) ?_
                      refine tw_iald (i := (nI i9)) hx hb hK hT hg4 shm_74 rfl (vp_in_nI (by omega) (by decide)) dX12_orders_217 (fun v9 m717 h9 => ?_)
                      obtain ⟨x718, rfl, gx718, kx718⟩ := h9
                      have cx718 := m688.at m717 (by have q9 := tn_of (show (nI i9).toInt = ((i9 : Nat) : Int) from (nI_toInt (by omega))) (by omega); omega)
                      have t719 : x718.toInt = (aA i9).toInt := congrArg Int32.toInt (cx718.trans (by rw [tn_nI (by omega)]))
                      have t720 : 0 ≤ (aA i9).toInt ∧ (aA i9).toInt ≤ 1000 := (hrg i9 (by omega)).2.2.2
                      refine lv_iload hx hb dX12_orders_218 (lv_at hl 0 rfl) ?_
                      refine lv_imul hx hb dX12_orders_220 ?_
                      refine lv_topi (fun x721 ex721 => ?_)
                      have t722 : x721.toInt = x718.toInt * x675.toInt := ti_mulx ex721 rfl rfl (A := 1000) (B := 200) (by omega) (by omega) (by omega) (by omega) (by decide)
                      have t723 : 0 ≤ x721.toInt ∧ x721.toInt ≤ 1000 * 200 ∧ (x718.toInt = 0 → x721.toInt = 0) ∧ (x675.toInt = 0 → x721.toInt = 0) ∧ x721.toInt ≤ x718.toInt * 200 ∧ x721.toInt ≤ 1000 * x675.toInt := ti_mulnn ex721 rfl rfl (by omega) (by omega) (by omega) (by omega) (by decide)
                      refine lv_iadd hx hb dX12_orders_221 ?_
                      refine lv_topi (fun x724 ex724 => ?_)
                      have t725 : x724.toInt = su.toInt + x721.toInt := ti_add ex724 rfl rfl (by omega) (by omega)
                      have hFc := gA_free hG hA hS
                      refine va_callv (va_runV (As := [.int 3, .int x697, .int x675, .int x705, .int x713, .int x724]) (rest := []) ⟨hx, hb, hml, hown, hts⟩ (s_ordersC3 l dC dI kA adK adV G H q wZ wN wH wB wC wL wK wU wV PI im PM PT lS lB lE lN o0 x697 x675 x705 x713 x724 jb z19 aC aY aB aA (cu V14 (2 : Int32).toNatClampNeg (nI i9)) V16 N (fun k => if k = 2 then ((i9 : Nat) : Int) else R k) (slO N 2 aC aY aB aA (bt us) yr.toInt ca.toInt ic.toInt su.toInt R a0 i9) hT hr_o0 m691 m692 (by have q8 := ti_all x675; omega) (by have q8 := ti_all x705; omega) (by have q8 := ti_all x713; omega) (by have q8 := ti_all x724; omega) (by have q8 := ti_all jb; omega) hN hrg hj21 hj22 (rr_s (K := 2) rfl (by decide) (nI_toInt (by omega)) hj23) m685 m686 m687 m688 m689 m690 hgz hgn hgh hgb hgc hgi hgu) (cwV 6 hts (goodIn_app (goodIn_r _ [10, 11, 12, 13] rfl (by decide +kernel)) (goodIn_ca (goodIn_r _ [7, 1, 2, 3, 4, 5, 6, 7, 8, 9, 10, 11, 12, 13] rfl (by decide +kernel)) (bs_in _ _))) rfl rfl rfl (by decide +kernel) ⟨(Nat.le_of_ble_eq_true rfl), (Nat.le_of_ble_eq_true rfl)⟩) ⟨fun a U g mk q => by obtain ⟨q0, q1, qK, qE⟩ := q; exact ⟨q0, q1, va_K.moved (u := U) (U := U.calling g mk a) (Vm.Alike.refl U.vm) qK, EVS.blind g mk a qE⟩, gH_recv hK hT hr_o0 shm_0 rfl, fun U hU hW => ⟨rfl, hU, va_K.moved hW.alike hK, hE.call hS hFc hU hW⟩⟩ rfl rfl hl.1 rfl (lv_room (Nat.le_of_ble_eq_true rfl)) dX12_orders_222 ⟨(Nat.le_of_ble_eq_true rfl), (Nat.le_of_ble_eq_true rfl)⟩) hS (fun q _ h => hFc q h) hFc (fun u t H locs ht hvm hw727 hB _ _ hS => ?_)
                      obtain ⟨u728, u729, u730⟩ := u
                      obtain ⟨hT, hF1, m731, m732, m733⟩ := hB
                      rw [ht] at hT hF1 m731 m732 m733
                      have m734 := m685.kept (hF1.arr hg1 skm_71 (by decide))
                      have m735 := m686.kept (hF1.arr hg2 skm_72 (by decide))
                      have m736 := m687.kept (hF1.arr hg3 skm_73 (by decide))
                      have m737 := m688.kept (hF1.arr hg4 skm_74 (by decide))
                      have m740 := (hF1.fld hr_o0 skm_0 (k := 74) (by decide) (by decide)).trans m691
                      have m742 := (el_kept (hF1.arr hg1 skm_71 (by decide))).trans m693
                      have m743 := (el_kept (hF1.arr hg2 skm_72 (by decide))).trans m694
                      have m745 := (el_kept (hF1.arr hg3 skm_73 (by decide))).trans m709
                      have m746 := (el_kept (hF1.arr hg4 skm_74 (by decide))).trans m717
                      have hF := hF.more hF1 (by decide)
                      try dsimp only at hw727
                      have hf747 := hw727
                      refine lv_iinc (v := nI (i9 + 1)) (lv' := [(7, .int (nI (i9 + 1))), (8, .int x675), (9, .int x667), (0, .ref o0), (1, .int 2), (2, .int us), (3, .int yr), (4, .int ca), (5, .int ic), (6, .int su)]) hx hb dX12_orders_225 hl (k := 2) rfl (nI_add i9 1) (by decide) rfl (fun ls hl => ?_)
                      refine lv_goto (tgt := 64) hx hb dX12_orders_228 (by decide) ?_
                      have bk9 : u728.toInt = (slO N 2 aC aY aB aA (bt us) yr.toInt ca.toInt ic.toInt su.toInt R a0 (i9 + 1)).1 ∧ (0 ≤ (slO N 2 aC aY aB aA (bt us) yr.toInt ca.toInt ic.toInt su.toInt R a0 (i9 + 1)).1 → ∀ k : Nat, k < N → (u730 k).toInt = (slO N 2 aC aY aB aA (bt us) yr.toInt ca.toInt ic.toInt su.toInt R a0 (i9 + 1)).2 k) ∧ ∀ k : Nat, k < 2 → (u729 k).toInt = R k := by have q9 := hf747; rw [sl_call (N := N) (K := 2) (K1 := 3) (aC := aC) (aY := aY) (aB := aB) (aA := aA) (U := bt us) (yr := yr.toInt) (ca := ca.toInt) (ic := ic.toInt) (su := su.toInt) (R := R) (a := a0) (i := i9) (d := x675.toInt) (c1 := x705.toInt) (i1 := x713.toInt) (s1 := x724.toInt) (U1 := bt x697) rfl (hbt.2 (by omega)) (wt_some hj532 (by omega) (by omega) (by omega)) (bt_or (by omega) ex696 ex697) (by have q8 := wt_cash (d := x675.toInt) (z := x702.toInt) (last := x672.toInt) hj532 (by omega) (by omega); omega) (by omega) (by rw [show (aA i9).toInt = x718.toInt from by omega]; omega)] at q9; exact ⟨q9.1, q9.2.1, fun k hk => (q9.2.2 k (by omega)).trans (if_neg (by omega))⟩
                      exact ih399 (i9 + 1) (by omega) (by omega) u729 u730 u728 ⟨bk9.1, bk9.2.1, bk9.2.2, (by omega)⟩ _ _ hT hF hS m734 m735 m736 m737 m732 m733 m740 m731 ls (lv_sub hl [0, 3, 4, 5, 6, 7, 8, 9] rfl)
                    · have t748 : 200 < x675.toInt := ti_nle c680 rfl (by decide)
                      refine lv_goto (tgt := 225) hx hb dX12_orders_163 (by decide) ?_
                      refine lv_iinc (v := nI (i9 + 1)) (lv' := [(7, .int (nI (i9 + 1))), (8, .int x675), (9, .int x667), (0, .ref o0), (1, .int 2), (2, .int us), (3, .int yr), (4, .int ca), (5, .int ic), (6, .int su)]) hx hb dX12_orders_225 hl (k := 2) rfl (nI_add i9 1) (by decide) rfl (fun ls hl => ?_)
                      refine lv_goto (tgt := 64) hx hb dX12_orders_228 (by decide) ?_
                      have bk9 : z19.toInt = (slO N 2 aC aY aB aA (bt us) yr.toInt ca.toInt ic.toInt su.toInt R a0 (i9 + 1)).1 ∧ (0 ≤ (slO N 2 aC aY aB aA (bt us) yr.toInt ca.toInt ic.toInt su.toInt R a0 (i9 + 1)).1 → ∀ k : Nat, k < N → (V16 k).toInt = (slO N 2 aC aY aB aA (bt us) yr.toInt ca.toInt ic.toInt su.toInt R a0 (i9 + 1)).2 k) ∧ ∀ k : Nat, k < 2 → (V14 k).toInt = R k := by rw [sl_n (wt_none hj532 (by omega) (by omega))]; exact ⟨hj21, hj22, hj23⟩
                      exact ih399 (i9 + 1) (by omega) (by omega) V14 V16 z19 ⟨bk9.1, bk9.2.1, bk9.2.2, (by omega)⟩ _ _ hT hF hS m524 m525 m526 m527 m528 m529 m530 m531 ls (lv_sub hl [0, 3, 4, 5, 6, 7, 8, 9] rfl)
                · have t749 : z520.toInt < x658.toInt := ti_nle c661 rfl rfl
                  refine lv_iload hx hb dX12_orders_105 (lv_at hl 1 rfl) ?_
                  refine lv_sipush (v := 200) hx hb dX12_orders_107 (by decide) ?_
                  refine lv_icmp_gt (tgt := 126) hx hb dX12_orders_110 (by decide) (fun c750 => ?_) (fun c750 => ?_)
                  · have t751 : 200 < z522.toInt := ti_lt c750 (by decide) rfl
                    refine lv_iload hx hb dX12_orders_126 (lv_at hl 0 rfl) ?_
                    refine lv_aload_n hx hb dX12_orders_128 rfl (lv_at hl 3 rfl) ?_
                    refine tw_get hx hb hts bF_X12 hown hK hT hr_o0 shm_0 rfl 70 (by decide) (ht_at hts 1 rfl) (fun _ h9 => h9) dX12_orders_129 (fun v9 m752 h9 => ?_)
                    obtain ⟨rfl, hg753⟩ := h9 _ rfl
                    refine lv_iload hx hb dX12_orders_132 (lv_at hl 2 rfl) ?_
                    refine tw_iald (i := (nI i9)) hx hb hK hT hg1 shm_71 rfl (vp_in_nI (by omega) (by decide)) dX12_orders_134 (fun v9 m754 h9 => ?_)
                    obtain ⟨x755, rfl, gx755, kx755⟩ := h9
                    have cx755 := m524.at m754 (by have q9 := tn_of (show (nI i9).toInt = ((i9 : Nat) : Int) from (nI_toInt (by omega))) (by omega); omega)
                    obtain rfl : x658 = x755 := (el_same m754 m657 rfl).symm
                    refine lv_isub hx hb dX12_orders_135 ?_
                    refine lv_topi (fun x756 ex756 => ?_)
                    have t757 : x756.toInt = z520.toInt - x658.toInt := ti_sub ex756 rfl rfl (by omega) (by omega)
                    refine lv_istore (lv' := [(9, .int x756), (8, .int z522), (7, .int (nI i9)), (0, .ref o0), (1, .int 2), (2, .int us), (3, .int yr), (4, .int ca), (5, .int ic), (6, .int su)]) hx hb dX12_orders_136 hl (by decide) rfl (fun ls hl => ?_)
                    refine lv_iload hx hb dX12_orders_138 (lv_at hl 1 rfl) ?_
                    refine lv_aload_n hx hb dX12_orders_140 rfl (lv_at hl 3 rfl) ?_
                    refine tw_get hx hb hts bF_X12 hown hK hT hr_o0 shm_0 rfl 71 (by decide) (ht_at hts 2 rfl) (fun _ h9 => h9) dX12_orders_141 (fun v9 m758 h9 => ?_)
                    obtain ⟨rfl, hg759⟩ := h9 _ rfl
                    refine lv_iload hx hb dX12_orders_144 (lv_at hl 2 rfl) ?_
                    refine tw_iald (i := (nI i9)) hx hb hK hT hg2 shm_72 rfl (vp_in_nI (by omega) (by decide)) dX12_orders_146 (fun v9 m760 h9 => ?_)
                    obtain ⟨x761, rfl, gx761, kx761⟩ := h9
                    have cx761 := m525.at m760 (by have q9 := tn_of (show (nI i9).toInt = ((i9 : Nat) : Int) from (nI_toInt (by omega))) (by omega); omega)
                    have t762 : x761.toInt = (aY i9).toInt := congrArg Int32.toInt (cx761.trans (by rw [tn_nI (by omega)]))
                    have t763 : 1 ≤ (aY i9).toInt ∧ (aY i9).toInt ≤ 20 := (hrg i9 (by omega)).2.1
                    refine lv_iadd hx hb dX12_orders_147 ?_
                    refine lv_topi (fun x764 ex764 => ?_)
                    have t765 : x764.toInt = z522.toInt + x761.toInt := ti_add ex764 rfl rfl (by omega) (by omega)
                    refine lv_istore (lv' := [(8, .int x764), (9, .int x756), (7, .int (nI i9)), (0, .ref o0), (1, .int 2), (2, .int us), (3, .int yr), (4, .int ca), (5, .int ic), (6, .int su)]) hx hb dX12_orders_148 hl (by decide) rfl (fun ls hl => ?_)
                    refine lv_iload hx hb dX12_orders_150 (lv_at hl 1 rfl) ?_
                    refine lv_if_lt (tgt := 225) hx hb dX12_orders_152 (by decide) (fun c766 => ?_) (fun c766 => ?_)
                    · have t767 : x756.toInt < 0 := ti_lt c766 rfl (by decide)
                      refine lv_iinc (v := nI (i9 + 1)) (lv' := [(7, .int (nI (i9 + 1))), (8, .int x764), (9, .int x756), (0, .ref o0), (1, .int 2), (2, .int us), (3, .int yr), (4, .int ca), (5, .int ic), (6, .int su)]) hx hb dX12_orders_225 hl (k := 2) rfl (nI_add i9 1) (by decide) rfl (fun ls hl => ?_)
                      refine lv_goto (tgt := 64) hx hb dX12_orders_228 (by decide) ?_
                      have bk9 : z19.toInt = (slO N 2 aC aY aB aA (bt us) yr.toInt ca.toInt ic.toInt su.toInt R a0 (i9 + 1)).1 ∧ (0 ≤ (slO N 2 aC aY aB aA (bt us) yr.toInt ca.toInt ic.toInt su.toInt R a0 (i9 + 1)).1 → ∀ k : Nat, k < N → (V16 k).toInt = (slO N 2 aC aY aB aA (bt us) yr.toInt ca.toInt ic.toInt su.toInt R a0 (i9 + 1)).2 k) ∧ ∀ k : Nat, k < 2 → (V14 k).toInt = R k := by rw [sl_n (wt_none hj532 (by omega) (by omega))]; exact ⟨hj21, hj22, hj23⟩
                      exact ih399 (i9 + 1) (by omega) (by omega) V14 V16 z19 ⟨bk9.1, bk9.2.1, bk9.2.2, (by omega)⟩ _ _ hT hF hS m524 m525 m526 m527 m528 m529 m530 m531 ls (lv_sub hl [0, 3, 4, 5, 6, 7, 8, 9] rfl)
                    · have t768 : 0 ≤ x756.toInt := ti_nlt c766 rfl (by decide)
                      refine lv_iload hx hb dX12_orders_155 (lv_at hl 0 rfl) ?_
                      refine lv_sipush (v := 200) hx hb dX12_orders_157 (by decide) ?_
                      refine lv_icmp_le (tgt := 166) hx hb dX12_orders_160 (by decide) (fun c769 => (by exfalso; have q9 : x764.toInt ≤ 200 := ti_le c769 rfl (by decide); omega)) (fun c769 => ?_)
                      have t770 : 200 < x764.toInt := ti_nle c769 rfl (by decide)
                      refine lv_goto (tgt := 225) hx hb dX12_orders_163 (by decide) ?_
                      refine lv_iinc (v := nI (i9 + 1)) (lv' := [(7, .int (nI (i9 + 1))), (8, .int x764), (9, .int x756), (0, .ref o0), (1, .int 2), (2, .int us), (3, .int yr), (4, .int ca), (5, .int ic), (6, .int su)]) hx hb dX12_orders_225 hl (k := 2) rfl (nI_add i9 1) (by decide) rfl (fun ls hl => ?_)
                      refine lv_goto (tgt := 64) hx hb dX12_orders_228 (by decide) ?_
                      have bk9 : z19.toInt = (slO N 2 aC aY aB aA (bt us) yr.toInt ca.toInt ic.toInt su.toInt R a0 (i9 + 1)).1 ∧ (0 ≤ (slO N 2 aC aY aB aA (bt us) yr.toInt ca.toInt ic.toInt su.toInt R a0 (i9 + 1)).1 → ∀ k : Nat, k < N → (V16 k).toInt = (slO N 2 aC aY aB aA (bt us) yr.toInt ca.toInt ic.toInt su.toInt R a0 (i9 + 1)).2 k) ∧ ∀ k : Nat, k < 2 → (V14 k).toInt = R k := by rw [sl_n (wt_none hj532 (by omega) (by omega))]; exact ⟨hj21, hj22, hj23⟩
                      exact ih399 (i9 + 1) (by omega) (by omega) V14 V16 z19 ⟨bk9.1, bk9.2.1, bk9.2.2, (by omega)⟩ _ _ hT hF hS m524 m525 m526 m527 m528 m529 m530 m531 ls (lv_sub hl [0, 3, 4, 5, 6, 7, 8, 9] rfl)
                  · have t771 : z522.toInt ≤ 200 := ti_nlt c750 (by decide) rfl
                    obtain ⟨x772, ex772⟩ : ∃ y : Int32, y = z522 + 1 := ⟨_, rfl⟩
                    have t773 : x772.toInt = z522.toInt + 1 := ti_add ex772 rfl (by decide) (by omega) (by omega)
                    refine lv_iinc (v := x772) (lv' := [(8, .int x772), (9, .int z520), (7, .int (nI i9)), (0, .ref o0), (1, .int 2), (2, .int us), (3, .int yr), (4, .int ca), (5, .int ic), (6, .int su)]) hx hb dX12_orders_113 hl (k := 1) rfl (by first | (rw [ex772]; done) | (rw [ex772]; rfl)) (by decide) rfl (fun ls hl => ?_)
                    refine lv_iload hx hb dX12_orders_116 (lv_at hl 1 rfl) ?_
                    refine lv_iload hx hb dX12_orders_118 (lv_at hl 8 rfl) ?_
                    refine lv_iadd hx hb dX12_orders_120 ?_
                    refine lv_topi (fun x774 ex774 => ?_)
                    have t775 : x774.toInt = z520.toInt + ic.toInt := ti_add ex774 rfl rfl (by omega) (by omega)
                    refine lv_istore (lv' := [(9, .int x774), (8, .int x772), (7, .int (nI i9)), (0, .ref o0), (1, .int 2), (2, .int us), (3, .int yr), (4, .int ca), (5, .int ic), (6, .int su)]) hx hb dX12_orders_121 hl (by decide) rfl (fun ls hl => ?_)
                    refine lv_goto (tgt := 93) hx hb dX12_orders_123 (by decide) ?_
                    exact ih654 x774 x772 (by have q9 := (show x772.toInt = x772.toInt from rfl); omega) ⟨(by have q8 := ti_all x774; omega), (by have q8 := ti_all x772; omega), (wt_s hj532 (by omega) (by omega) (by omega))⟩ _ _ hT hF hS m524 m525 m526 m527 m528 m529 m530 m531 ls (lv_sub hl [0, 1, 2, 3, 4, 5, 6, 7, 8, 9] rfl)
            exact key654 401 ca yr (by have q9 := (show yr.toInt = yr.toInt from rfl); omega) ⟨(by have q8 := ti_all ca; omega), (by have q8 := ti_all yr; omega), (wt_0 (by omega) (by omega))⟩ _ _ hT hF hS m10 m11 m12 m13 m15 m17 m18 m20 ls (lv_sub hl [0, 1, 2, 3, 4, 5, 6, 7, 8, 9] rfl)
          · have t776 : x407.toInt = 1 := ti_eq c408 rfl (by decide)
            refine lv_goto (tgt := 225) hx hb dX12_orders_83 (by decide) ?_
            refine lv_iinc (v := nI (i9 + 1)) (lv' := [(7, .int (nI (i9 + 1))), (0, .ref o0), (1, .int 2), (2, .int us), (3, .int yr), (4, .int ca), (5, .int ic), (6, .int su)]) hx hb dX12_orders_225 hl (k := 0) rfl (nI_add i9 1) (by decide) rfl (fun ls hl => ?_)
            refine lv_goto (tgt := 64) hx hb dX12_orders_228 (by decide) ?_
            have bk9 : z19.toInt = (slO N 2 aC aY aB aA (bt us) yr.toInt ca.toInt ic.toInt su.toInt R a0 (i9 + 1)).1 ∧ (0 ≤ (slO N 2 aC aY aB aA (bt us) yr.toInt ca.toInt ic.toInt su.toInt R a0 (i9 + 1)).1 → ∀ k : Nat, k < N → (V16 k).toInt = (slO N 2 aC aY aB aA (bt us) yr.toInt ca.toInt ic.toInt su.toInt R a0 (i9 + 1)).2 k) ∧ ∀ k : Nat, k < 2 → (V14 k).toInt = R k := by rw [sl_u (hbt.1 (by omega))]; exact ⟨hj21, hj22, hj23⟩
            exact ih399 (i9 + 1) (by omega) (by omega) V14 V16 z19 ⟨bk9.1, bk9.2.1, bk9.2.2, (by omega)⟩ _ _ hT hF hS m10 m11 m12 m13 m15 m17 m18 m20 ls (lv_sub hl [0, 1, 2, 3, 4, 5, 6, 7] rfl)
    exact key399 (7 - 0) 0 (by omega) (Nat.le_refl _) vR vZ la ⟨hla, hZ0, hR, (by omega)⟩ _ _ hT hF hS hc_aC hc_aY hc_aB hc_aA hc_vR hc_vZ hm_jb hm_la ls (lv_sub hl [0, 1, 2, 3, 4, 5, 6, 7] rfl)
  · have t777 : 2 = jb.toInt := ti_eq c7 (by decide) rfl
    refine lv_aload_n hx hb dX12_orders_8 rfl (lv_at hl 0 rfl) ?_
    refine tw_getM (v := .int la) hx hb hts bF_X12 hown hK hT hr_o0 shm_0 rfl 77 (by decide) (ht_at hts 7 rfl) (fun _ h9 => h9) hm_la dX12_orders_9 ?_
    refine lv_if_lt (tgt := 25) hx hb dX12_orders_12 (by decide) (fun c778 => ?_) (fun c778 => ?_)
    · have t779 : la.toInt < 0 := ti_lt c778 rfl (by decide)
      refine lv_aload_n hx hb dX12_orders_25 rfl (lv_at hl 0 rfl) ?_
      refine lv_iload hx hb dX12_orders_26 (lv_at hl 6 rfl) ?_
      refine tw_put (v := .int su) (ty := .int) hx hb hts bF_X12 tyX12 tyX12_ok nmX12 hown hK hT hG hS hr_o0 shm_0 rfl 77 (by decide) (ht_at hts 7 rfl) (fun _ h9 => h9) rfl (by decide +kernel) rfl rfl (gl_at rfl (gi_all _)) dX12_orders_28 (fun H locs hT oq m780 oj hS => ?_)
      have hF := hF.put hr_o0 skm_0 oq oj (by decide)
      have m781 := (oj 74 (by decide) (by decide)).trans hm_jb
      have m782 := hc_aC.kept (oq _ (gne hg1 hr_o0 (by decide)))
      have m783 := hc_aY.kept (oq _ (gne hg2 hr_o0 (by decide)))
      have m784 := hc_aB.kept (oq _ (gne hg3 hr_o0 (by decide)))
      have m785 := hc_aA.kept (oq _ (gne hg4 hr_o0 (by decide)))
      have m786 := hc_vR.kept (oq _ (gne hg5 hr_o0 (by decide)))
      have m787 := hc_vZ.kept (oq _ (gne hg6 hr_o0 (by decide)))
      refine lv_iconst (v := 0) hx hb dX12_orders_31 (by decide) ?_
      refine lv_istore (lv' := [(7, .int 0), (0, .ref o0), (1, .int 2), (2, .int us), (3, .int yr), (4, .int ca), (5, .int ic), (6, .int su)]) hx hb dX12_orders_32 hl (by decide) rfl (fun ls hl => ?_)
      have key817 : ∀ (n817 i788 : Nat), i788 + n817 = 2 → 0 ≤ i788 → ∀ (V794 : Nat → Int32), ((∀ k : Nat, k < i788 → (V794 k).toInt = R k)) → ∀ (H : Heap) (locs : List Loc), gH (dC, dI) kA (SHm q (wP wZ wN wH wB wC wL wK wU wV) PI im PM PT lS lB lE lN) G H → gF (dC, dI) SKm G ([(0, 77), (76, 0), (77, 0)] : List (Nat × Nat)) s.heap H → va_S A s.heap H locs → ct H (q 70) 7 aC → ct H (q 71) 7 aY → ct H (q 72) 7 aB → ct H (q 73) 7 aA → ct H (q 75) 7 vR → ct H (q 76) 7 V794 → el H o0 (dI 15 74) = some (.int jb) → el H o0 (dI 15 77) = some (.int su) → ∀ ls : Array Slot, lv_has ls 10 [(7, .int (nI i788)), (0, .ref o0), (1, .int 2), (2, .int us), (3, .int yr), (4, .int ca), (5, .int ic), (6, .int su)] → W p l e (headSpec w_s_ordersC2 ({ frames := 5, cells := 0, slots := 0, locals := 145 })).room s m #[.ref o0, .int 2, .int us, .int yr, .int ca, .int ic, .int su] below meth c H locs 0 0 (MQ below (va_Qv (fun (u : Int32 × (Nat → Int32) × (Nat → Int32)) => match u with | (la1, vR1, vZ1) => (la1.toInt = (sx N 2 aC aY aB aA (bt us) yr.toInt ca.toInt ic.toInt su.toInt R a0).1 ∧ (0 ≤ (sx N 2 aC aY aB aA (bt us) yr.toInt ca.toInt ic.toInt su.toInt R a0).1 → ∀ k : Nat, k < N → (vZ1 k).toInt = (sx N 2 aC aY aB aA (bt us) yr.toInt ca.toInt ic.toInt su.toInt R a0).2 k) ∧ ∀ k : Nat, k < 2 → (vR1 k).toInt = R k)) (fun (u : Int32 × (Nat → Int32) × (Nat → Int32)) (t : State) => match u with | (la1, vR1, vZ1) => gH (dC, dI) kA (SHm q (wP wZ wN wH wB wC wL wK wU wV) PI im PM PT lS lB lE lN) G t.heap ∧ gF (dC, dI) SKm G ([(0, 77), (76, 0), (77, 0)] : List (Nat × Nat)) s.heap t.heap ∧ el t.heap o0 (dI 15 77) = some (.int la1) ∧ ct t.heap (q 75) 7 vR1 ∧ ct t.heap (q 76) 7 vZ1) A) #[.ref o0, .int 2, .int us, .int yr, .int ca, .int ic, .int su] s 0 0 A) (F0 m 34 ls []) := by
        intro n817
        induction n817 with
        | zero =>
          intro i788 hn817 hlo818 V794 hj798 H locs hT hF hS m789 m790 m791 m792 m793 m795 m796 m797 ls hl
          obtain rfl : 2 = i788 := by omega
          refine lv_iload hx hb dX12_orders_34 (lv_at hl 0 rfl) ?_
          refine lv_iload_n hx hb dX12_orders_36 rfl (lv_at hl 2 rfl) ?_
          refine lv_icmp_ge (tgt := 60) hx hb dX12_orders_37 (by decide) (fun c819 => ?_) (fun c819 => (by exfalso; have q9 : ((2 : Nat) : Int) < 2 := ti_nle c819 (by decide) (nI_toInt (by omega)); omega))
          have t820 : 2 ≤ ((2 : Nat) : Int) := ti_le c819 (by decide) (nI_toInt (by omega))
          exact W.vret hx hb hr (fun t ht hW => ⟨⟨(su, vR, V794), rfl, (by exact (by (try dsimp only); have e9 : N = 2 := (by omega); rw [sx_0 e9, if_neg (by omega)]; exact ⟨rfl, fun _ k hk => hj798 k (by omega), hR⟩)), by (try dsimp only); rw [ht]; exact ⟨hT, hF, m797, m793, m795⟩⟩, hS.F ht⟩) hS.2.2 dX12_orders_60
        | succ n817 ih817 =>
          intro i788 hn817 hlo818 V794 hj798 H locs hT hF hS m789 m790 m791 m792 m793 m795 m796 m797 ls hl
          have hlt820 : i788 < 2 := by omega
          refine lv_iload hx hb dX12_orders_34 (lv_at hl 0 rfl) ?_
          refine lv_iload_n hx hb dX12_orders_36 rfl (lv_at hl 2 rfl) ?_
          refine lv_icmp_ge (tgt := 60) hx hb dX12_orders_37 (by decide) (fun c821 => (by exfalso; have q9 : 2 ≤ ((i788 : Nat) : Int) := ti_le c821 (by decide) (nI_toInt (by omega)); omega)) (fun c821 => ?_)
          have t822 : ((i788 : Nat) : Int) < 2 := ti_nle c821 (by decide) (nI_toInt (by omega))
          refine lv_aload_n hx hb dX12_orders_40 rfl (lv_at hl 1 rfl) ?_
          refine tw_get hx hb hts bF_X12 hown hK hT hr_o0 shm_0 rfl 76 (by decide) (ht_at hts 8 rfl) (fun _ h9 => h9) dX12_orders_41 (fun v9 m823 h9 => ?_)
          obtain ⟨rfl, hg824⟩ := h9 _ rfl
          refine lv_iload hx hb dX12_orders_44 (lv_at hl 0 rfl) ?_
          refine lv_aload_n hx hb dX12_orders_46 rfl (lv_at hl 1 rfl) ?_
          refine tw_get hx hb hts bF_X12 hown hK hT hr_o0 shm_0 rfl 75 (by decide) (ht_at hts 3 rfl) (fun _ h9 => h9) dX12_orders_47 (fun v9 m825 h9 => ?_)
          obtain ⟨rfl, hg826⟩ := h9 _ rfl
          refine lv_iload hx hb dX12_orders_50 (lv_at hl 0 rfl) ?_
          refine tw_iald (i := (nI i788)) hx hb hK hT hg5 shm_76 rfl (vp_in_nI (by omega) (by decide)) dX12_orders_52 (fun v9 m827 h9 => ?_)
          obtain ⟨x828, rfl, gx828, kx828⟩ := h9
          have cx828 := m793.at m827 (by have q9 := tn_of (show (nI i788).toInt = ((i788 : Nat) : Int) from (nI_toInt (by omega))) (by omega); omega)
          refine tw_iast (i := (nI i788)) (x := x828) hx hb hK hT hG hS hg6 shm_77 rfl (vp_in_nI (by omega) (by decide)) (gi_all _) dX12_orders_53 (fun H locs hT oq m829 oi hS => ?_)
          have hF := hF.ast hg6 skm_77 oq (by decide)
          have m830 := m789.kept (oq _ (gne hg1 hg6 (by decide)))
          have m831 := m790.kept (oq _ (gne hg2 hg6 (by decide)))
          have m832 := m791.kept (oq _ (gne hg3 hg6 (by decide)))
          have m833 := m792.kept (oq _ (gne hg4 hg6 (by decide)))
          have m834 := m793.kept (oq _ (gne hg5 hg6 (by decide)))
          have m835 := m795.put m829 oi
          have m836 := (el_kept (oq _ (gne hr_o0 hg6 (by decide)))).trans m796
          have m837 := (el_kept (oq _ (gne hr_o0 hg6 (by decide)))).trans m797
          have m838 := (el_kept (oq _ (gne hg5 hg6 (by decide)))).trans m827
          refine lv_iinc (v := nI (i788 + 1)) (lv' := [(7, .int (nI (i788 + 1))), (0, .ref o0), (1, .int 2), (2, .int us), (3, .int yr), (4, .int ca), (5, .int ic), (6, .int su)]) hx hb dX12_orders_54 hl (k := 0) rfl (nI_add i788 1) (by decide) rfl (fun ls hl => ?_)
          refine lv_goto (tgt := 34) hx hb dX12_orders_57 (by decide) ?_
          exact ih817 (i788 + 1) (by omega) (by omega) (cu V794 (nI i788).toNatClampNeg x828) (cp_s (V := vR) (K := 2) (i := i788) (tn_nI (by omega)) cx828 hR (by omega) hj798) _ _ hT hF hS m830 m831 m832 m833 m834 m835 m836 m837 ls (lv_sub hl [0, 1, 2, 3, 4, 5, 6, 7] rfl)
      exact key817 (2 - 0) 0 (by omega) (Nat.le_refl _) vZ (fun k h => absurd h (Nat.not_lt_zero k)) _ _ hT hF hS m782 m783 m784 m785 m786 m787 m781 m780 ls (lv_sub hl [0, 1, 2, 3, 4, 5, 6, 7] rfl)
    · have t839 : 0 ≤ la.toInt := ti_nlt c778 rfl (by decide)
      refine lv_iload hx hb dX12_orders_15 (lv_at hl 6 rfl) ?_
      refine lv_aload_n hx hb dX12_orders_17 rfl (lv_at hl 0 rfl) ?_
      refine tw_getM (v := .int la) hx hb hts bF_X12 hown hK hT hr_o0 shm_0 rfl 77 (by decide) (ht_at hts 7 rfl) (fun _ h9 => h9) hm_la dX12_orders_18 ?_
      refine lv_icmp_lt (tgt := 25) hx hb dX12_orders_21 (by decide) (fun c840 => ?_) (fun c840 => ?_)
      · have t841 : su.toInt < la.toInt := ti_lt c840 rfl rfl
        refine lv_aload_n hx hb dX12_orders_25 rfl (lv_at hl 0 rfl) ?_
        refine lv_iload hx hb dX12_orders_26 (lv_at hl 6 rfl) ?_
        refine tw_put (v := .int su) (ty := .int) hx hb hts bF_X12 tyX12 tyX12_ok nmX12 hown hK hT hG hS hr_o0 shm_0 rfl 77 (by decide) (ht_at hts 7 rfl) (fun _ h9 => h9) rfl (by decide +kernel) rfl rfl (gl_at rfl (gi_all _)) dX12_orders_28 (fun H locs hT oq m842 oj hS => ?_)
        have hF := hF.put hr_o0 skm_0 oq oj (by decide)
        have m843 := (oj 74 (by decide) (by decide)).trans hm_jb
        have m844 := hc_aC.kept (oq _ (gne hg1 hr_o0 (by decide)))
        have m845 := hc_aY.kept (oq _ (gne hg2 hr_o0 (by decide)))
        have m846 := hc_aB.kept (oq _ (gne hg3 hr_o0 (by decide)))
        have m847 := hc_aA.kept (oq _ (gne hg4 hr_o0 (by decide)))
        have m848 := hc_vR.kept (oq _ (gne hg5 hr_o0 (by decide)))
        have m849 := hc_vZ.kept (oq _ (gne hg6 hr_o0 (by decide)))
        refine lv_iconst (v := 0) hx hb dX12_orders_31 (by decide) ?_
        refine lv_istore (lv' := [(7, .int 0), (0, .ref o0), (1, .int 2), (2, .int us), (3, .int yr), (4, .int ca), (5, .int ic), (6, .int su)]) hx hb dX12_orders_32 hl (by decide) rfl (fun ls hl => ?_)
        have key879 : ∀ (n879 i850 : Nat), i850 + n879 = 2 → 0 ≤ i850 → ∀ (V856 : Nat → Int32), ((∀ k : Nat, k < i850 → (V856 k).toInt = R k)) → ∀ (H : Heap) (locs : List Loc), gH (dC, dI) kA (SHm q (wP wZ wN wH wB wC wL wK wU wV) PI im PM PT lS lB lE lN) G H → gF (dC, dI) SKm G ([(0, 77), (76, 0), (77, 0)] : List (Nat × Nat)) s.heap H → va_S A s.heap H locs → ct H (q 70) 7 aC → ct H (q 71) 7 aY → ct H (q 72) 7 aB → ct H (q 73) 7 aA → ct H (q 75) 7 vR → ct H (q 76) 7 V856 → el H o0 (dI 15 74) = some (.int jb) → el H o0 (dI 15 77) = some (.int su) → ∀ ls : Array Slot, lv_has ls 10 [(7, .int (nI i850)), (0, .ref o0), (1, .int 2), (2, .int us), (3, .int yr), (4, .int ca), (5, .int ic), (6, .int su)] → W p l e (headSpec w_s_ordersC2 ({ frames := 5, cells := 0, slots := 0, locals := 145 })).room s m #[.ref o0, .int 2, .int us, .int yr, .int ca, .int ic, .int su] below meth c H locs 0 0 (MQ below (va_Qv (fun (u : Int32 × (Nat → Int32) × (Nat → Int32)) => match u with | (la1, vR1, vZ1) => (la1.toInt = (sx N 2 aC aY aB aA (bt us) yr.toInt ca.toInt ic.toInt su.toInt R a0).1 ∧ (0 ≤ (sx N 2 aC aY aB aA (bt us) yr.toInt ca.toInt ic.toInt su.toInt R a0).1 → ∀ k : Nat, k < N → (vZ1 k).toInt = (sx N 2 aC aY aB aA (bt us) yr.toInt ca.toInt ic.toInt su.toInt R a0).2 k) ∧ ∀ k : Nat, k < 2 → (vR1 k).toInt = R k)) (fun (u : Int32 × (Nat → Int32) × (Nat → Int32)) (t : State) => match u with | (la1, vR1, vZ1) => gH (dC, dI) kA (SHm q (wP wZ wN wH wB wC wL wK wU wV) PI im PM PT lS lB lE lN) G t.heap ∧ gF (dC, dI) SKm G ([(0, 77), (76, 0), (77, 0)] : List (Nat × Nat)) s.heap t.heap ∧ el t.heap o0 (dI 15 77) = some (.int la1) ∧ ct t.heap (q 75) 7 vR1 ∧ ct t.heap (q 76) 7 vZ1) A) #[.ref o0, .int 2, .int us, .int yr, .int ca, .int ic, .int su] s 0 0 A) (F0 m 34 ls []) := by
          intro n879
          induction n879 with
          | zero =>
            intro i850 hn879 hlo880 V856 hj860 H locs hT hF hS m851 m852 m853 m854 m855 m857 m858 m859 ls hl
            obtain rfl : 2 = i850 := by omega
            refine lv_iload hx hb dX12_orders_34 (lv_at hl 0 rfl) ?_
            refine lv_iload_n hx hb dX12_orders_36 rfl (lv_at hl 2 rfl) ?_
            refine lv_icmp_ge (tgt := 60) hx hb dX12_orders_37 (by decide) (fun c881 => ?_) (fun c881 => (by exfalso; have q9 : ((2 : Nat) : Int) < 2 := ti_nle c881 (by decide) (nI_toInt (by omega)); omega))
            have t882 : 2 ≤ ((2 : Nat) : Int) := ti_le c881 (by decide) (nI_toInt (by omega))
            exact W.vret hx hb hr (fun t ht hW => ⟨⟨(su, vR, V856), rfl, (by exact (by (try dsimp only); have e9 : N = 2 := (by omega); rw [sx_0 e9, if_neg (by omega)]; exact ⟨rfl, fun _ k hk => hj860 k (by omega), hR⟩)), by (try dsimp only); rw [ht]; exact ⟨hT, hF, m859, m855, m857⟩⟩, hS.F ht⟩) hS.2.2 dX12_orders_60
          | succ n879 ih879 =>
            intro i850 hn879 hlo880 V856 hj860 H locs hT hF hS m851 m852 m853 m854 m855 m857 m858 m859 ls hl
            have hlt882 : i850 < 2 := by omega
            refine lv_iload hx hb dX12_orders_34 (lv_at hl 0 rfl) ?_
            refine lv_iload_n hx hb dX12_orders_36 rfl (lv_at hl 2 rfl) ?_
            refine lv_icmp_ge (tgt := 60) hx hb dX12_orders_37 (by decide) (fun c883 => (by exfalso; have q9 : 2 ≤ ((i850 : Nat) : Int) := ti_le c883 (by decide) (nI_toInt (by omega)); omega)) (fun c883 => ?_)
            have t884 : ((i850 : Nat) : Int) < 2 := ti_nle c883 (by decide) (nI_toInt (by omega))
            refine lv_aload_n hx hb dX12_orders_40 rfl (lv_at hl 1 rfl) ?_
            refine tw_get hx hb hts bF_X12 hown hK hT hr_o0 shm_0 rfl 76 (by decide) (ht_at hts 8 rfl) (fun _ h9 => h9) dX12_orders_41 (fun v9 m885 h9 => ?_)
            obtain ⟨rfl, hg886⟩ := h9 _ rfl
            refine lv_iload hx hb dX12_orders_44 (lv_at hl 0 rfl) ?_
            refine lv_aload_n hx hb dX12_orders_46 rfl (lv_at hl 1 rfl) ?_
            refine tw_get hx hb hts bF_X12 hown hK hT hr_o0 shm_0 rfl 75 (by decide) (ht_at hts 3 rfl) (fun _ h9 => h9) dX12_orders_47 (fun v9 m887 h9 => ?_)
            obtain ⟨rfl, hg888⟩ := h9 _ rfl
            refine lv_iload hx hb dX12_orders_50 (lv_at hl 0 rfl) ?_
            refine tw_iald (i := (nI i850)) hx hb hK hT hg5 shm_76 rfl (vp_in_nI (by omega) (by decide)) dX12_orders_52 (fun v9 m889 h9 => ?_)
            obtain ⟨x890, rfl, gx890, kx890⟩ := h9
            have cx890 := m855.at m889 (by have q9 := tn_of (show (nI i850).toInt = ((i850 : Nat) : Int) from (nI_toInt (by omega))) (by omega); omega)
            refine tw_iast (i := (nI i850)) (x := x890) hx hb hK hT hG hS hg6 shm_77 rfl (vp_in_nI (by omega) (by decide)) (gi_all _) dX12_orders_53 (fun H locs hT oq m891 oi hS => ?_)
            have hF := hF.ast hg6 skm_77 oq (by decide)
            have m892 := m851.kept (oq _ (gne hg1 hg6 (by decide)))
            have m893 := m852.kept (oq _ (gne hg2 hg6 (by decide)))
            have m894 := m853.kept (oq _ (gne hg3 hg6 (by decide)))
            have m895 := m854.kept (oq _ (gne hg4 hg6 (by decide)))
            have m896 := m855.kept (oq _ (gne hg5 hg6 (by decide)))
            have m897 := m857.put m891 oi
            have m898 := (el_kept (oq _ (gne hr_o0 hg6 (by decide)))).trans m858
            have m899 := (el_kept (oq _ (gne hr_o0 hg6 (by decide)))).trans m859
            have m900 := (el_kept (oq _ (gne hg5 hg6 (by decide)))).trans m889
            refine lv_iinc (v := nI (i850 + 1)) (lv' := [(7, .int (nI (i850 + 1))), (0, .ref o0), (1, .int 2), (2, .int us), (3, .int yr), (4, .int ca), (5, .int ic), (6, .int su)]) hx hb dX12_orders_54 hl (k := 0) rfl (nI_add i850 1) (by decide) rfl (fun ls hl => ?_)
            refine lv_goto (tgt := 34) hx hb dX12_orders_57 (by decide) ?_
            exact ih879 (i850 + 1) (by omega) (by omega) (cu V856 (nI i850).toNatClampNeg x890) (cp_s (V := vR) (K := 2) (i := i850) (tn_nI (by omega)) cx890 hR (by omega) hj860) _ _ hT hF hS m892 m893 m894 m895 m896 m897 m898 m899 ls (lv_sub hl [0, 1, 2, 3, 4, 5, 6, 7] rfl)
        exact key879 (2 - 0) 0 (by omega) (Nat.le_refl _) vZ (fun k h => absurd h (Nat.not_lt_zero k)) _ _ hT hF hS m844 m845 m846 m847 m848 m849 m843 m842 ls (lv_sub hl [0, 1, 2, 3, 4, 5, 6, 7] rfl)
      · have t901 : la.toInt ≤ su.toInt := ti_nlt c840 rfl rfl
        exact W.vret hx hb hr (fun t ht hW => ⟨⟨(la, vR, vZ), rfl, (by exact (by (try dsimp only); have e9 : N = 2 := (by omega); rw [sx_0 e9, if_pos ⟨by omega, by omega⟩]; exact ⟨by omega, hZ0, hR⟩)), by (try dsimp only); rw [ht]; exact ⟨hT, hF, hm_la, hc_vR, hc_vZ⟩⟩, hS.F ht⟩) hS.2.2 dX12_orders_24
def w_s_ordersC1 : List Cond := .code yX12_orders cX12_orders 10 none :: (HAppend.hAppend (α := List Cond) (β := List Cond) (γ := List Cond) [.fieldLink RX12 553 "SeaLandModel" "jobs" "I", .fieldLink RX12 176 "SeaLandModel" "jCost" "[I", .fieldLink RX12 179 "SeaLandModel" "jYears" "[I", .fieldLink RX12 188 "SeaLandModel" "row" "[I", .fieldLink RX12 182 "SeaLandModel" "jBrings" "[I", .fieldLink RX12 185 "SeaLandModel" "jAcres" "[I", .code yX12_orders cX12_orders 10 none, .fieldLink RX12 556 "SeaLandModel" "lateness" "I", .fieldLink RX12 191 "SeaLandModel" "bestRow" "[I", .methodLink RX12 559 yX12_orders, .instanceMethod yX12_orders, .selects RX12 yX12_orders yX12_orders, .initialized RX12] bs)
set_option maxHeartbeats 4000000 in
set_option maxRecDepth 100000 in
theorem s_ordersC1 (l : Launch) (dC : Nat → ClassId) (dI : Nat → Nat → Nat) (kA : Nat → ClassId) (adK adV : Nat → Nat) (G : gT) (H0 : Heap) (q : Nat → Nat) (wZ wN : Nat → Int) (wH wB wC : Int) (wL wK : Nat → Prop) (wU wV : Nat → Nat) (PI : Nat → Int → Prop) (im : Int) (PM PT : Nat → Int → Prop) (lS lB lE : Nat → Nat → Int → Prop) (lN : Nat → Int) (o0 : Nat) (us : Int32) (yr : Int32) (ca : Int32) (ic : Int32) (su : Int32) (jb : Int32) (la : Int32) (aC : Nat → Int32) (aY : Nat → Int32) (aB : Nat → Int32) (aA : Nat → Int32) (vR : Nat → Int32) (vZ : Nat → Int32) (N : Nat) (R : Nat → Int) (a0 : oA) (hT : gH (dC, dI) kA (SHm q (wP wZ wN wH wB wC wL wK wU wV) PI im PM PT lS lB lE lN) G H0) (hr_o0 : G o0 = some 0) (hm_jb : el H0 o0 (dI 15 74) = some (.int jb)) (hm_la : el H0 o0 (dI 15 77) = some (.int la)) (hq0 : 0 ≤ yr.toInt ∧ yr.toInt ≤ 200) (hq1 : 0 ≤ ca.toInt ∧ ca.toInt ≤ 1000000) (hq2 : 0 ≤ ic.toInt ∧ ic.toInt ≤ 100000) (hq3 : 0 ≤ su.toInt ∧ su.toInt ≤ 200000) (hq4 : 1 ≤ jb.toInt ∧ jb.toInt ≤ 7) (hN : jb.toInt = ((N : Nat) : Int)) (hrg : joR jb.toInt aC aY aB aA) (hla : la.toInt = a0.1) (hZ0 : 0 ≤ a0.1 → ∀ k : Nat, k < N → (vZ k).toInt = a0.2 k) (hR : ∀ k : Nat, k < 1 → (vR k).toInt = R k) (hc_aC : ct H0 (q 70) 7 aC) (hc_aY : ct H0 (q 71) 7 aY) (hc_aB : ct H0 (q 72) 7 aB) (hc_aA : ct H0 (q 73) 7 aA) (hc_vR : ct H0 (q 75) 7 vR) (hc_vZ : ct H0 (q 76) 7 vZ) (hgz : ∀ i, 0 ≤ wZ i) (hgn : ∀ i, 6500000 ≤ wN i ∧ wN i ≤ 20200000) (hgh : 0 ≤ wH ∧ wH ≤ 40000) (hgb : 0 ≤ wB ∧ wB ≤ 3850000) (hgc : 0 ≤ wC ∧ wC ≤ 30) (hgi : 0 ≤ im ∧ im ≤ 1) (hgu : ∀ a t, G a = some (t + 1) → a = q t) : Met l yX12_orders w_s_ordersC1 ({ frames := 6, cells := 0, slots := 0, locals := 174 }) (va_Pc [.ref o0, .int 1, .int us, .int yr, .int ca, .int ic, .int su] (fun U => U.heap = H0 ∧ va_K (dC, dI) vwCl (tyl kA) U ∧ EVS adK adV (gA G H0.size) U U.heap)) (va_Qv (fun (u : Int32 × (Nat → Int32) × (Nat → Int32)) => match u with | (la1, vR1, vZ1) => (la1.toInt = (sx N 1 aC aY aB aA (bt us) yr.toInt ca.toInt ic.toInt su.toInt R a0).1 ∧ (0 ≤ (sx N 1 aC aY aB aA (bt us) yr.toInt ca.toInt ic.toInt su.toInt R a0).1 → ∀ k : Nat, k < N → (vZ1 k).toInt = (sx N 1 aC aY aB aA (bt us) yr.toInt ca.toInt ic.toInt su.toInt R a0).2 k) ∧ ∀ k : Nat, k < 1 → (vR1 k).toInt = R k)) (fun (u : Int32 × (Nat → Int32) × (Nat → Int32)) (t : State) => match u with | (la1, vR1, vZ1) => gH (dC, dI) kA (SHm q (wP wZ wN wH wB wC wL wK wU wV) PI im PM PT lS lB lE lN) G t.heap ∧ gF (dC, dI) SKm G ([(0, 77), (76, 0), (77, 0)] : List (Nat × Nat)) H0 t.heap ∧ el t.heap o0 (dI 15 77) = some (.int la1) ∧ ct t.heap (q 75) 7 vR1 ∧ ct t.heap (q 76) 7 vZ1) (gA G H0.size)) 0 0 (gA G H0.size) := by
  refine Met.ofW (cc := cX12_orders) (maxL := 10) (ret := none) (by decide) rfl ?_
  intro p e s m args below meth c s₁ B hml hv
  obtain ⟨rfl, hH0, hK, hE⟩ := hv
  have hx := B.exec
  have hb := B.bytes
  have hr := B.returns
  have hts := atoms_spec (ws := w_s_ordersC1) B.pre
  have hown : s.vm.findClass RX12 = some m.cls := findClass_of_methodNamed B.named
  have hlocks := B.notSynchronized
  subst hH0
  generalize hAe : gA G s.heap.size = A at hE ⊢
  have hA : ∀ q : Nat, s.heap.size ≤ q → A q := fun q h => by rw [← hAe]; exact Or.inr h
  have hG := gA_of hAe
  have hS : va_S A s.heap s.heap [] := va_S.rf
  have hF : gF (dC, dI) SKm G ([(0, 77), (76, 0), (77, 0)] : List (Nat × Nat)) s.heap s.heap := gF.rf
  have hl := lv_entry ([.ref o0, .int 1, .int us, .int yr, .int ca, .int ic, .int su]) (n := 10) (Nat.le_of_ble_eq_true rfl)
  rw [lg_entry_eq]
  generalize (lg_sl ([.ref o0, .int 1, .int us, .int yr, .int ca, .int ic, .int su]) ++ List.replicate (10 - (lg_sl ([.ref o0, .int 1, .int us, .int yr, .int ca, .int ic, .int su])).length) Slot.unset).toArray = ls at hl ⊢
  have hl : lv_has ls 10 [(0, .ref o0), (1, .int 1), (2, .int us), (3, .int yr), (4, .int ca), (5, .int ic), (6, .int su)] := hl
  have hg1 : G (q 70) = some 71 := gx_of hT hr_o0 shm_0 (k := 70) (by decide) rfl
  have hg2 : G (q 71) = some 72 := gx_of hT hr_o0 shm_0 (k := 71) (by decide) rfl
  have hg3 : G (q 72) = some 73 := gx_of hT hr_o0 shm_0 (k := 72) (by decide) rfl
  have hg4 : G (q 73) = some 74 := gx_of hT hr_o0 shm_0 (k := 73) (by decide) rfl
  have hg5 : G (q 75) = some 76 := gx_of hT hr_o0 shm_0 (k := 75) (by decide) rfl
  have hg6 : G (q 76) = some 77 := gx_of hT hr_o0 shm_0 (k := 76) (by decide) rfl
  refine lv_iload_n hx hb dX12_orders_0 rfl (lv_at hl 1 rfl) ?_
  refine lv_aload_n hx hb dX12_orders_1 rfl (lv_at hl 0 rfl) ?_
  refine tw_getM (v := .int jb) hx hb hts bF_X12 hown hK hT hr_o0 shm_0 rfl 74 (by decide) (ht_at hts 0 rfl) (fun _ h9 => h9) hm_jb dX12_orders_2 ?_
  refine lv_icmp_ne (tgt := 61) hx hb dX12_orders_5 (by decide) (fun c7 => ?_) (fun c7 => ?_)
  · have t8 : 1 ≠ jb.toInt := ti_ne c7 (by decide) rfl
    refine lv_iconst (v := 0) hx hb dX12_orders_61 (by decide) ?_
    refine lv_istore (lv' := [(7, .int 0), (0, .ref o0), (1, .int 1), (2, .int us), (3, .int yr), (4, .int ca), (5, .int ic), (6, .int su)]) hx hb dX12_orders_62 hl (by decide) rfl (fun ls hl => ?_)
    have key399 : ∀ (n399 i9 : Nat), i9 + n399 = 7 → 0 ≤ i9 → ∀ (V14 : Nat → Int32), ∀ (V16 : Nat → Int32), ∀ (z19 : Int32), ((z19.toInt = (slO N 1 aC aY aB aA (bt us) yr.toInt ca.toInt ic.toInt su.toInt R a0 i9).1) ∧ (0 ≤ (slO N 1 aC aY aB aA (bt us) yr.toInt ca.toInt ic.toInt su.toInt R a0 i9).1 → ∀ k : Nat, k < N → (V16 k).toInt = (slO N 1 aC aY aB aA (bt us) yr.toInt ca.toInt ic.toInt su.toInt R a0 i9).2 k) ∧ (∀ k : Nat, k < 1 → (V14 k).toInt = R k) ∧ (((i9 : Nat) : Int) ≤ jb.toInt)) → ∀ (H : Heap) (locs : List Loc), gH (dC, dI) kA (SHm q (wP wZ wN wH wB wC wL wK wU wV) PI im PM PT lS lB lE lN) G H → gF (dC, dI) SKm G ([(0, 77), (76, 0), (77, 0)] : List (Nat × Nat)) s.heap H → va_S A s.heap H locs → ct H (q 70) 7 aC → ct H (q 71) 7 aY → ct H (q 72) 7 aB → ct H (q 73) 7 aA → ct H (q 75) 7 V14 → ct H (q 76) 7 V16 → el H o0 (dI 15 74) = some (.int jb) → el H o0 (dI 15 77) = some (.int z19) → ∀ ls : Array Slot, lv_has ls 10 [(7, .int (nI i9)), (0, .ref o0), (1, .int 1), (2, .int us), (3, .int yr), (4, .int ca), (5, .int ic), (6, .int su)] → W p l e (headSpec w_s_ordersC1 ({ frames := 6, cells := 0, slots := 0, locals := 174 })).room s m #[.ref o0, .int 1, .int us, .int yr, .int ca, .int ic, .int su] below meth c H locs 0 0 (MQ below (va_Qv (fun (u : Int32 × (Nat → Int32) × (Nat → Int32)) => match u with | (la1, vR1, vZ1) => (la1.toInt = (sx N 1 aC aY aB aA (bt us) yr.toInt ca.toInt ic.toInt su.toInt R a0).1 ∧ (0 ≤ (sx N 1 aC aY aB aA (bt us) yr.toInt ca.toInt ic.toInt su.toInt R a0).1 → ∀ k : Nat, k < N → (vZ1 k).toInt = (sx N 1 aC aY aB aA (bt us) yr.toInt ca.toInt ic.toInt su.toInt R a0).2 k) ∧ ∀ k : Nat, k < 1 → (vR1 k).toInt = R k)) (fun (u : Int32 × (Nat → Int32) × (Nat → Int32)) (t : State) => match u with | (la1, vR1, vZ1) => gH (dC, dI) kA (SHm q (wP wZ wN wH wB wC wL wK wU wV) PI im PM PT lS lB lE lN) G t.heap ∧ gF (dC, dI) SKm G ([(0, 77), (76, 0), (77, 0)] : List (Nat × Nat)) s.heap t.heap ∧ el t.heap o0 (dI 15 77) = some (.int la1) ∧ ct t.heap (q 75) 7 vR1 ∧ ct t.heap (q 76) 7 vZ1) A) #[.ref o0, .int 1, .int us, .int yr, .int ca, .int ic, .int su] s 0 0 A) (F0 m 64 ls []) := by
      intro n399
      induction n399 with
      | zero =>
        intro i9 hn399 hlo400 V14 V16 z19 ⟨hj21, hj22, hj23, hj24⟩ H locs hT hF hS m10 m11 m12 m13 m15 m17 m18 m20 ls hl
        obtain rfl : 7 = i9 := by omega
        refine lv_iload hx hb dX12_orders_64 (lv_at hl 0 rfl) ?_
        refine lv_aload_n hx hb dX12_orders_66 rfl (lv_at hl 1 rfl) ?_
        refine tw_getM (v := .int jb) hx hb hts bF_X12 hown hK hT hr_o0 shm_0 rfl 74 (by decide) (ht_at hts 0 rfl) (fun _ h9 => h9) m18 dX12_orders_67 ?_
        refine lv_icmp_ge (tgt := 231) hx hb dX12_orders_70 (by decide) (fun c401 => ?_) (fun c401 => (by exfalso; have q9 : ((7 : Nat) : Int) < jb.toInt := ti_nle c401 rfl (nI_toInt (by omega)); omega))
        have t402 : jb.toInt ≤ ((7 : Nat) : Int) := ti_le c401 rfl (nI_toInt (by omega))
        exact W.vret hx hb hr (fun t ht hW => ⟨⟨(z19, V14, V16), rfl, (by exact (by (try dsimp only); have e9 : N = 7 := (by omega); rw [sx_s (by omega)]; subst e9; exact ⟨hj21, hj22, hj23⟩)), by (try dsimp only); rw [ht]; exact ⟨hT, hF, m20, m15, m17⟩⟩, hS.F ht⟩) hS.2.2 dX12_orders_231
      | succ n399 ih399 =>
        intro i9 hn399 hlo400 V14 V16 z19 ⟨hj21, hj22, hj23, hj24⟩ H locs hT hF hS m10 m11 m12 m13 m15 m17 m18 m20 ls hl
        have hlt402 : i9 < 7 := by omega
        refine lv_iload hx hb dX12_orders_64 (lv_at hl 0 rfl) ?_
        refine lv_aload_n hx hb dX12_orders_66 rfl (lv_at hl 1 rfl) ?_
        refine tw_getM (v := .int jb) hx hb hts bF_X12 hown hK hT hr_o0 shm_0 rfl 74 (by decide) (ht_at hts 0 rfl) (fun _ h9 => h9) m18 dX12_orders_67 ?_
        refine lv_icmp_ge (tgt := 231) hx hb dX12_orders_70 (by decide) (fun c403 => ?_) (fun c403 => ?_)
        · have t404 : jb.toInt ≤ ((i9 : Nat) : Int) := ti_le c403 rfl (nI_toInt (by omega))
          exact W.vret hx hb hr (fun t ht hW => ⟨⟨(z19, V14, V16), rfl, (by exact (by (try dsimp only); have e9 : N = i9 := (by omega); rw [sx_s (by omega)]; subst e9; exact ⟨hj21, hj22, hj23⟩)), by (try dsimp only); rw [ht]; exact ⟨hT, hF, m20, m15, m17⟩⟩, hS.F ht⟩) hS.2.2 dX12_orders_231
        · have t405 : ((i9 : Nat) : Int) < jb.toInt := ti_nle c403 rfl (nI_toInt (by omega))
          refine lv_iload_n hx hb dX12_orders_73 rfl (lv_at hl 3 rfl) ?_
          refine lv_iload hx hb dX12_orders_74 (lv_at hl 0 rfl) ?_
          refine lv_ishr hx hb dX12_orders_76 ?_
          refine lv_topi (fun x406 ex406 => ?_)
          refine lv_iconst (v := 1) hx hb dX12_orders_77 (by decide) ?_
          refine lv_iand hx hb dX12_orders_78 ?_
          refine lv_topi (fun x407 ex407 => ?_)
          refine lv_iconst (v := 1) hx hb dX12_orders_79 (by decide) ?_
          have hbt := bt_t (us := us) (j := i9) (by omega) ex406 ex407
          refine lv_icmp_ne (tgt := 86) hx hb dX12_orders_80 (by decide) (fun c408 => ?_) (fun c408 => ?_)
          · have t409 : x407.toInt ≠ 1 := ti_ne c408 rfl (by decide)
            refine lv_iload_n hx hb dX12_orders_86 rfl (lv_at hl 4 rfl) ?_
            refine lv_istore (lv' := [(8, .int yr), (7, .int (nI i9)), (0, .ref o0), (1, .int 1), (2, .int us), (3, .int yr), (4, .int ca), (5, .int ic), (6, .int su)]) hx hb dX12_orders_87 hl (by decide) rfl (fun ls hl => ?_)
            refine lv_iload hx hb dX12_orders_89 (lv_at hl 6 rfl) ?_
            refine lv_istore (lv' := [(9, .int ca), (8, .int yr), (7, .int (nI i9)), (0, .ref o0), (1, .int 1), (2, .int us), (3, .int yr), (4, .int ca), (5, .int ic), (6, .int su)]) hx hb dX12_orders_91 hl (by decide) rfl (fun ls hl => ?_)
            have key654 : ∀ (n654 : Nat), ∀ (z520 : Int32), ∀ (z522 : Int32), (400 - z522.toInt < ((n654 : Nat) : Int)) → ((0 ≤ z520.toInt ∧ z520.toInt ≤ 1099999) ∧ (0 ≤ z522.toInt ∧ z522.toInt ≤ 201) ∧ (wtO yr.toInt ca.toInt ic.toInt (aC i9).toInt z522.toInt z520.toInt)) → ∀ (H : Heap) (locs : List Loc), gH (dC, dI) kA (SHm q (wP wZ wN wH wB wC wL wK wU wV) PI im PM PT lS lB lE lN) G H → gF (dC, dI) SKm G ([(0, 77), (76, 0), (77, 0)] : List (Nat × Nat)) s.heap H → va_S A s.heap H locs → ct H (q 70) 7 aC → ct H (q 71) 7 aY → ct H (q 72) 7 aB → ct H (q 73) 7 aA → ct H (q 75) 7 V14 → ct H (q 76) 7 V16 → el H o0 (dI 15 74) = some (.int jb) → el H o0 (dI 15 77) = some (.int z19) → ∀ ls : Array Slot, lv_has ls 10 [(9, .int z520), (8, .int z522), (7, .int (nI i9)), (0, .ref o0), (1, .int 1), (2, .int us), (3, .int yr), (4, .int ca), (5, .int ic), (6, .int su)] → W p l e (headSpec w_s_ordersC1 ({ frames := 6, cells := 0, slots := 0, locals := 174 })).room s m #[.ref o0, .int 1, .int us, .int yr, .int ca, .int ic, .int su] below meth c H locs 0 0 (MQ below (va_Qv (fun (u : Int32 × (Nat → Int32) × (Nat → Int32)) => match u with | (la1, vR1, vZ1) => (la1.toInt = (sx N 1 aC aY aB aA (bt us) yr.toInt ca.toInt ic.toInt su.toInt R a0).1 ∧ (0 ≤ (sx N 1 aC aY aB aA (bt us) yr.toInt ca.toInt ic.toInt su.toInt R a0).1 → ∀ k : Nat, k < N → (vZ1 k).toInt = (sx N 1 aC aY aB aA (bt us) yr.toInt ca.toInt ic.toInt su.toInt R a0).2 k) ∧ ∀ k : Nat, k < 1 → (vR1 k).toInt = R k)) (fun (u : Int32 × (Nat → Int32) × (Nat → Int32)) (t : State) => match u with | (la1, vR1, vZ1) => gH (dC, dI) kA (SHm q (wP wZ wN wH wB wC wL wK wU wV) PI im PM PT lS lB lE lN) G t.heap ∧ gF (dC, dI) SKm G ([(0, 77), (76, 0), (77, 0)] : List (Nat × Nat)) s.heap t.heap ∧ el t.heap o0 (dI 15 77) = some (.int la1) ∧ ct t.heap (q 75) 7 vR1 ∧ ct t.heap (q 76) 7 vZ1) A) #[.ref o0, .int 1, .int us, .int yr, .int ca, .int ic, .int su] s 0 0 A) (F0 m 93 ls []) := by
              intro n654
              induction n654 with
              | zero =>
                intro z520 z522 hv654 ⟨h521, h523, hj532⟩ H locs hT hF hS m524 m525 m526 m527 m528 m529 m530 m531 ls hl
                exfalso; have q9 := (show z522.toInt = z522.toInt from rfl); omega
              | succ n654 ih654 =>
                intro z520 z522 hv654 ⟨h521, h523, hj532⟩ H locs hT hF hS m524 m525 m526 m527 m528 m529 m530 m531 ls hl
                refine lv_iload hx hb dX12_orders_93 (lv_at hl 0 rfl) ?_
                refine lv_aload_n hx hb dX12_orders_95 rfl (lv_at hl 3 rfl) ?_
                refine tw_get hx hb hts bF_X12 hown hK hT hr_o0 shm_0 rfl 70 (by decide) (ht_at hts 1 rfl) (fun _ h9 => h9) dX12_orders_96 (fun v9 m655 h9 => ?_)
                obtain ⟨rfl, hg656⟩ := h9 _ rfl
                refine lv_iload hx hb dX12_orders_99 (lv_at hl 2 rfl) ?_
                refine tw_iald (i := (nI i9)) hx hb hK hT hg1 shm_71 rfl (vp_in_nI (by omega) (by decide)) dX12_orders_101 (fun v9 m657 h9 => ?_)
                obtain ⟨x658, rfl, gx658, kx658⟩ := h9
                have cx658 := m524.at m657 (by have q9 := tn_of (show (nI i9).toInt = ((i9 : Nat) : Int) from (nI_toInt (by omega))) (by omega); omega)
                have t659 : x658.toInt = (aC i9).toInt := congrArg Int32.toInt (cx658.trans (by rw [tn_nI (by omega)]))
                have t660 : 0 ≤ (aC i9).toInt ∧ (aC i9).toInt ≤ 1000000 := (hrg i9 (by omega)).1
                refine lv_icmp_ge (tgt := 126) hx hb dX12_orders_102 (by decide) (fun c661 => ?_) (fun c661 => ?_)
                · have t662 : x658.toInt ≤ z520.toInt := ti_le c661 rfl rfl
                  refine lv_iload hx hb dX12_orders_126 (lv_at hl 0 rfl) ?_
                  refine lv_aload_n hx hb dX12_orders_128 rfl (lv_at hl 3 rfl) ?_
                  refine tw_get hx hb hts bF_X12 hown hK hT hr_o0 shm_0 rfl 70 (by decide) (ht_at hts 1 rfl) (fun _ h9 => h9) dX12_orders_129 (fun v9 m663 h9 => ?_)
                  obtain ⟨rfl, hg664⟩ := h9 _ rfl
                  refine lv_iload hx hb dX12_orders_132 (lv_at hl 2 rfl) ?_
                  refine tw_iald (i := (nI i9)) hx hb hK hT hg1 shm_71 rfl (vp_in_nI (by omega) (by decide)) dX12_orders_134 (fun v9 m665 h9 => ?_)
                  obtain ⟨x666, rfl, gx666, kx666⟩ := h9
                  have cx666 := m524.at m665 (by have q9 := tn_of (show (nI i9).toInt = ((i9 : Nat) : Int) from (nI_toInt (by omega))) (by omega); omega)
                  obtain rfl : x658 = x666 := (el_same m665 m657 rfl).symm
                  refine lv_isub hx hb dX12_orders_135 ?_
                  refine lv_topi (fun x667 ex667 => ?_)
                  have t668 : x667.toInt = z520.toInt - x658.toInt := ti_sub ex667 rfl rfl (by omega) (by omega)
                  refine lv_istore (lv' := [(9, .int x667), (8, .int z522), (7, .int (nI i9)), (0, .ref o0), (1, .int 1), (2, .int us), (3, .int yr), (4, .int ca), (5, .int ic), (6, .int su)]) hx hb dX12_orders_136 hl (by decide) rfl (fun ls hl => ?_)
                  refine lv_iload hx hb dX12_orders_138 (lv_at hl 1 rfl) ?_
                  refine lv_aload_n hx hb dX12_orders_140 rfl (lv_at hl 3 rfl) ?_
                  refine tw_get hx hb hts bF_X12 hown hK hT hr_o0 shm_0 rfl 71 (by decide) (ht_at hts 2 rfl) (fun _ h9 => h9) dX12_orders_141 (fun v9 m669 h9 => ?_)
                  obtain ⟨rfl, hg670⟩ := h9 _ rfl
                  refine lv_iload hx hb dX12_orders_144 (lv_at hl 2 rfl) ?_
                  refine tw_iald (i := (nI i9)) hx hb hK hT hg2 shm_72 rfl (vp_in_nI (by omega) (by decide)) dX12_orders_146 (fun v9 m671 h9 => ?_)
                  obtain ⟨x672, rfl, gx672, kx672⟩ := h9
                  have cx672 := m525.at m671 (by have q9 := tn_of (show (nI i9).toInt = ((i9 : Nat) : Int) from (nI_toInt (by omega))) (by omega); omega)
                  have t673 : x672.toInt = (aY i9).toInt := congrArg Int32.toInt (cx672.trans (by rw [tn_nI (by omega)]))
                  have t674 : 1 ≤ (aY i9).toInt ∧ (aY i9).toInt ≤ 20 := (hrg i9 (by omega)).2.1
                  refine lv_iadd hx hb dX12_orders_147 ?_
                  refine lv_topi (fun x675 ex675 => ?_)
                  have t676 : x675.toInt = z522.toInt + x672.toInt := ti_add ex675 rfl rfl (by omega) (by omega)
                  refine lv_istore (lv' := [(8, .int x675), (9, .int x667), (7, .int (nI i9)), (0, .ref o0), (1, .int 1), (2, .int us), (3, .int yr), (4, .int ca), (5, .int ic), (6, .int su)]) hx hb dX12_orders_148 hl (by decide) rfl (fun ls hl => ?_)
                  refine lv_iload hx hb dX12_orders_150 (lv_at hl 1 rfl) ?_
                  refine lv_if_lt (tgt := 225) hx hb dX12_orders_152 (by decide) (fun c677 => ?_) (fun c677 => ?_)
                  · have t678 : x667.toInt < 0 := ti_lt c677 rfl (by decide)
                    refine lv_iinc (v := nI (i9 + 1)) (lv' := [(7, .int (nI (i9 + 1))), (8, .int x675), (9, .int x667), (0, .ref o0), (1, .int 1), (2, .int us), (3, .int yr), (4, .int ca), (5, .int ic), (6, .int su)]) hx hb dX12_orders_225 hl (k := 2) rfl (nI_add i9 1) (by decide) rfl (fun ls hl => ?_)
                    refine lv_goto (tgt := 64) hx hb dX12_orders_228 (by decide) ?_
                    have bk9 : z19.toInt = (slO N 1 aC aY aB aA (bt us) yr.toInt ca.toInt ic.toInt su.toInt R a0 (i9 + 1)).1 ∧ (0 ≤ (slO N 1 aC aY aB aA (bt us) yr.toInt ca.toInt ic.toInt su.toInt R a0 (i9 + 1)).1 → ∀ k : Nat, k < N → (V16 k).toInt = (slO N 1 aC aY aB aA (bt us) yr.toInt ca.toInt ic.toInt su.toInt R a0 (i9 + 1)).2 k) ∧ ∀ k : Nat, k < 1 → (V14 k).toInt = R k := by rw [sl_n (wt_none hj532 (by omega) (by omega))]; exact ⟨hj21, hj22, hj23⟩
                    exact ih399 (i9 + 1) (by omega) (by omega) V14 V16 z19 ⟨bk9.1, bk9.2.1, bk9.2.2, (by omega)⟩ _ _ hT hF hS m524 m525 m526 m527 m528 m529 m530 m531 ls (lv_sub hl [0, 3, 4, 5, 6, 7, 8, 9] rfl)
                  · have t679 : 0 ≤ x667.toInt := ti_nlt c677 rfl (by decide)
                    refine lv_iload hx hb dX12_orders_155 (lv_at hl 0 rfl) ?_
                    refine lv_sipush (v := 200) hx hb dX12_orders_157 (by decide) ?_
                    refine lv_icmp_le (tgt := 166) hx hb dX12_orders_160 (by decide) (fun c680 => ?_) (fun c680 => ?_)
                    · have t681 : x675.toInt ≤ 200 := ti_le c680 rfl (by decide)
                      refine lv_aload_n hx hb dX12_orders_166 rfl (lv_at hl 3 rfl) ?_
                      refine tw_get hx hb hts bF_X12 hown hK hT hr_o0 shm_0 rfl 75 (by decide) (ht_at hts 3 rfl) (fun _ h9 => h9) dX12_orders_167 (fun v9 m682 h9 => ?_)
                      obtain ⟨rfl, hg683⟩ := h9 _ rfl
                      refine lv_iload_n hx hb dX12_orders_170 rfl (lv_at hl 4 rfl) ?_
                      refine lv_iload hx hb dX12_orders_171 (lv_at hl 2 rfl) ?_
                      refine tw_iast (i := 1) (x := (nI i9)) hx hb hK hT hG hS hg5 shm_76 rfl (by unfold vp_in; decide) (gi_all _) dX12_orders_173 (fun H locs hT oq m684 oi hS => ?_)
                      have hF := hF.ast hg5 skm_76 oq (by decide)
                      have m685 := m524.kept (oq _ (gne hg1 hg5 (by decide)))
                      have m686 := m525.kept (oq _ (gne hg2 hg5 (by decide)))
                      have m687 := m526.kept (oq _ (gne hg3 hg5 (by decide)))
                      have m688 := m527.kept (oq _ (gne hg4 hg5 (by decide)))
                      have m689 := m528.put m684 oi
                      have m690 := m529.kept (oq _ (gne hg6 hg5 (by decide)))
                      have m691 := (el_kept (oq _ (gne hr_o0 hg5 (by decide)))).trans m530
                      have m692 := (el_kept (oq _ (gne hr_o0 hg5 (by decide)))).trans m531
                      have m693 := (el_kept (oq _ (gne hg1 hg5 (by decide)))).trans m657
                      have m694 := (el_kept (oq _ (gne hg2 hg5 (by decide)))).trans m671
                      refine lv_aload_n hx hb dX12_orders_174 rfl (lv_at hl 3 rfl) ?_
                      refine lv_iload_n hx hb dX12_orders_175 rfl (lv_at hl 4 rfl) ?_
                      refine lv_iconst (v := 1) hx hb dX12_orders_176 (by decide) ?_
                      refine lv_iadd hx hb dX12_orders_177 ?_
                      refine lv_topi (fun x695 ex695 => ?_)
                      obtain rfl : x695 = 2 := ex695.trans (by decide)
                      refine lv_iload_n hx hb dX12_orders_178 rfl (lv_at hl 5 rfl) ?_
                      refine lv_iconst (v := 1) hx hb dX12_orders_179 (by decide) ?_
                      refine lv_iload hx hb dX12_orders_180 (lv_at hl 2 rfl) ?_
                      refine lv_ishl hx hb dX12_orders_182 ?_
                      refine lv_topi (fun x696 ex696 => ?_)
                      refine lv_ior hx hb dX12_orders_183 ?_
                      refine lv_topi (fun x697 ex697 => ?_)
                      refine lv_iload hx hb dX12_orders_184 (lv_at hl 0 rfl) ?_
                      refine lv_iload hx hb dX12_orders_186 (lv_at hl 1 rfl) ?_
                      refine lv_iload hx hb dX12_orders_188 (lv_at hl 8 rfl) ?_
                      refine lv_aload_n hx hb dX12_orders_190 rfl (lv_at hl 3 rfl) ?_
                      refine tw_get hx hb hts bF_X12 hown hK hT hr_o0 shm_0 rfl 71 (by decide) (ht_at hts 2 rfl) (fun _ h9 => h9) dX12_orders_191 (fun v9 m698 h9 => ?_)
                      obtain ⟨rfl, hg699⟩ := h9 _ rfl
                      refine lv_iload hx hb dX12_orders_194 (lv_at hl 2 rfl) ?_
                      refine tw_iald (i := (nI i9)) hx hb hK hT hg2 shm_72 rfl (vp_in_nI (by omega) (by decide)) dX12_orders_196 (fun v9 m700 h9 => ?_)
                      obtain ⟨x701, rfl, gx701, kx701⟩ := h9
                      have cx701 := m686.at m700 (by have q9 := tn_of (show (nI i9).toInt = ((i9 : Nat) : Int) from (nI_toInt (by omega))) (by omega); omega)
                      obtain rfl : x672 = x701 := (el_same m700 m694 rfl).symm
                      refine lv_imul hx hb dX12_orders_197 ?_
                      refine lv_topi (fun x702 ex702 => ?_)
                      have t703 : x702.toInt = ic.toInt * x672.toInt := ti_mulx ex702 rfl rfl (A := 100000) (B := 20) (by omega) (by omega) (by omega) (by omega) (by decide)
                      have t704 : 0 ≤ x702.toInt ∧ x702.toInt ≤ 100000 * 20 ∧ (ic.toInt = 0 → x702.toInt = 0) ∧ (x672.toInt = 0 → x702.toInt = 0) ∧ x702.toInt ≤ ic.toInt * 20 ∧ x702.toInt ≤ 100000 * x672.toInt := ti_mulnn ex702 rfl rfl (by omega) (by omega) (by omega) (by omega) (by decide)
                      refine lv_iadd hx hb dX12_orders_198 ?_
                      refine lv_topi (fun x705 ex705 => ?_)
                      have t706 : x705.toInt = x667.toInt + x702.toInt := ti_add ex705 rfl rfl (by omega) (by omega)
                      refine lv_iload hx hb dX12_orders_199 (lv_at hl 8 rfl) ?_
                      refine lv_aload_n hx hb dX12_orders_201 rfl (lv_at hl 3 rfl) ?_
                      refine tw_get hx hb hts bF_X12 hown hK hT hr_o0 shm_0 rfl 72 (by decide) (ht_at hts 4 rfl) (fun _ h9 => h9) dX12_orders_202 (fun v9 m707 h9 => ?_)
                      obtain ⟨rfl, hg708⟩ := h9 _ rfl
                      refine lv_iload hx hb dX12_orders_205 (lv_at hl 2 rfl) ?_
                      refine tw_iald (i := (nI i9)) hx hb hK hT hg3 shm_73 rfl (vp_in_nI (by omega) (by decide)) dX12_orders_207 (fun v9 m709 h9 => ?_)
                      obtain ⟨x710, rfl, gx710, kx710⟩ := h9
                      have cx710 := m687.at m709 (by have q9 := tn_of (show (nI i9).toInt = ((i9 : Nat) : Int) from (nI_toInt (by omega))) (by omega); omega)
                      have t711 : x710.toInt = (aB i9).toInt := congrArg Int32.toInt (cx710.trans (by rw [tn_nI (by omega)]))
                      have t712 : 0 ≤ (aB i9).toInt ∧ (aB i9).toInt ≤ 100000 := (hrg i9 (by omega)).2.2.1
                      refine lv_iadd hx hb dX12_orders_208 ?_
                      refine lv_topi (fun x713 ex713 => ?_)
                      have t714 : x713.toInt = ic.toInt + x710.toInt := ti_add ex713 rfl rfl (by omega) (by omega)
                      refine lv_iload hx hb dX12_orders_209 (lv_at hl 9 rfl) ?_
                      refine lv_aload_n hx hb dX12_orders_211 rfl (lv_at hl 3 rfl) ?_
                      refine tw_get hx hb hts bF_X12 hown hK hT hr_o0 shm_0 rfl 73 (by decide) (ht_at hts 5 rfl) (fun _ h9 => h9) dX12_orders_212 (fun v9 m715 h9 => ?_)
                      obtain ⟨rfl, hg716⟩ := h9 _ rfl
                      refine lv_iload hx hb dX12_orders_215 (lv_at hl 2 rfl) ?_
                      refine tw_iald (i := (nI i9)) hx hb hK hT hg4 shm_74 rfl (vp_in_nI (by omega) (by decide)) dX12_orders_217 (fun v9 m717 h9 => ?_)
                      obtain ⟨x718, rfl, gx718, kx718⟩ := h9
                      have cx718 := m688.at m717 (by have q9 := tn_of (show (nI i9).toInt = ((i9 : Nat) : Int) from (nI_toInt (by omega))) (by omega); omega)
                      have t719 : x718.toInt = (aA i9).toInt := congrArg Int32.toInt (cx718.trans (by rw [tn_nI (by omega)]))
                      have t720 : 0 ≤ (aA i9).toInt ∧ (aA i9).toInt ≤ 1000 := (hrg i9 (by omega)).2.2.2
                      refine lv_iload hx hb dX12_orders_218 (lv_at hl 0 rfl) ?_
                      refine lv_imul hx hb dX12_orders_220 ?_
                      refine lv_topi (fun x721 ex721 => ?_)
                      have t722 : x721.toInt = x718.toInt * x675.toInt := ti_mulx ex721 rfl rfl (A := 1000) (B := 200) (by omega) (by omega) (by omega) (by omega) (by decide)
                      have t723 : 0 ≤ x721.toInt ∧ x721.toInt ≤ 1000 * 200 ∧ (x718.toInt = 0 → x721.toInt = 0) ∧ (x675.toInt = 0 → x721.toInt = 0) ∧ x721.toInt ≤ x718.toInt * 200 ∧ x721.toInt ≤ 1000 * x675.toInt := ti_mulnn ex721 rfl rfl (by omega) (by omega) (by omega) (by omega) (by decide)
                      refine lv_iadd hx hb dX12_orders_221 ?_
                      refine lv_topi (fun x724 ex724 => ?_)
                      have t725 : x724.toInt = su.toInt + x721.toInt := ti_add ex724 rfl rfl (by omega) (by omega)
                      have hFc := gA_free hG hA hS
                      refine va_callv (va_runV (As := [.int 2, .int x697, .int x675, .int x705, .int x713, .int x724]) (rest := []) ⟨hx, hb, hml, hown, hts⟩ (s_ordersC2 l dC dI kA adK adV G H q wZ wN wH wB wC wL wK wU wV PI im PM PT lS lB lE lN o0 x697 x675 x705 x713 x724 jb z19 aC aY aB aA (cu V14 (1 : Int32).toNatClampNeg (nI i9)) V16 N (fun k => if k = 1 then ((i9 : Nat) : Int) else R k) (slO N 1 aC aY aB aA (bt us) yr.toInt ca.toInt ic.toInt su.toInt R a0 i9) hT hr_o0 m691 m692 (by have q8 := ti_all x675; omega) (by have q8 := ti_all x705; omega) (by have q8 := ti_all x713; omega) (by have q8 := ti_all x724; omega) (by have q8 := ti_all jb; omega) hN hrg hj21 hj22 (rr_s (K := 1) rfl (by decide) (nI_toInt (by omega)) hj23) m685 m686 m687 m688 m689 m690 hgz hgn hgh hgb hgc hgi hgu) (cwV 6 hts (goodIn_app (goodIn_r _ [10, 11, 12, 13] rfl (by decide +kernel)) (goodIn_ca (goodIn_r _ [7, 1, 2, 3, 4, 5, 6, 7, 8, 9, 10, 11, 12, 13] rfl (by decide +kernel)) (bs_in _ _))) rfl rfl rfl (by decide +kernel) ⟨(Nat.le_of_ble_eq_true rfl), (Nat.le_of_ble_eq_true rfl)⟩) ⟨fun a U g mk q => by obtain ⟨q0, q1, qK, qE⟩ := q; exact ⟨q0, q1, va_K.moved (u := U) (U := U.calling g mk a) (Vm.Alike.refl U.vm) qK, EVS.blind g mk a qE⟩, gH_recv hK hT hr_o0 shm_0 rfl, fun U hU hW => ⟨rfl, hU, va_K.moved hW.alike hK, hE.call hS hFc hU hW⟩⟩ rfl rfl hl.1 rfl (lv_room (Nat.le_of_ble_eq_true rfl)) dX12_orders_222 ⟨(Nat.le_of_ble_eq_true rfl), (Nat.le_of_ble_eq_true rfl)⟩) hS (fun q _ h => hFc q h) hFc (fun u t H locs ht hvm hw727 hB _ _ hS => ?_)
                      obtain ⟨u728, u729, u730⟩ := u
                      obtain ⟨hT, hF1, m731, m732, m733⟩ := hB
                      rw [ht] at hT hF1 m731 m732 m733
                      have m734 := m685.kept (hF1.arr hg1 skm_71 (by decide))
                      have m735 := m686.kept (hF1.arr hg2 skm_72 (by decide))
                      have m736 := m687.kept (hF1.arr hg3 skm_73 (by decide))
                      have m737 := m688.kept (hF1.arr hg4 skm_74 (by decide))
                      have m740 := (hF1.fld hr_o0 skm_0 (k := 74) (by decide) (by decide)).trans m691
                      have m742 := (el_kept (hF1.arr hg1 skm_71 (by decide))).trans m693
                      have m743 := (el_kept (hF1.arr hg2 skm_72 (by decide))).trans m694
                      have m745 := (el_kept (hF1.arr hg3 skm_73 (by decide))).trans m709
                      have m746 := (el_kept (hF1.arr hg4 skm_74 (by decide))).trans m717
                      have hF := hF.more hF1 (by decide)
                      try dsimp only at hw727
                      have hf747 := hw727
                      refine lv_iinc (v := nI (i9 + 1)) (lv' := [(7, .int (nI (i9 + 1))), (8, .int x675), (9, .int x667), (0, .ref o0), (1, .int 1), (2, .int us), (3, .int yr), (4, .int ca), (5, .int ic), (6, .int su)]) hx hb dX12_orders_225 hl (k := 2) rfl (nI_add i9 1) (by decide) rfl (fun ls hl => ?_)
                      refine lv_goto (tgt := 64) hx hb dX12_orders_228 (by decide) ?_
                      have bk9 : u728.toInt = (slO N 1 aC aY aB aA (bt us) yr.toInt ca.toInt ic.toInt su.toInt R a0 (i9 + 1)).1 ∧ (0 ≤ (slO N 1 aC aY aB aA (bt us) yr.toInt ca.toInt ic.toInt su.toInt R a0 (i9 + 1)).1 → ∀ k : Nat, k < N → (u730 k).toInt = (slO N 1 aC aY aB aA (bt us) yr.toInt ca.toInt ic.toInt su.toInt R a0 (i9 + 1)).2 k) ∧ ∀ k : Nat, k < 1 → (u729 k).toInt = R k := by have q9 := hf747; rw [sl_call (N := N) (K := 1) (K1 := 2) (aC := aC) (aY := aY) (aB := aB) (aA := aA) (U := bt us) (yr := yr.toInt) (ca := ca.toInt) (ic := ic.toInt) (su := su.toInt) (R := R) (a := a0) (i := i9) (d := x675.toInt) (c1 := x705.toInt) (i1 := x713.toInt) (s1 := x724.toInt) (U1 := bt x697) rfl (hbt.2 (by omega)) (wt_some hj532 (by omega) (by omega) (by omega)) (bt_or (by omega) ex696 ex697) (by have q8 := wt_cash (d := x675.toInt) (z := x702.toInt) (last := x672.toInt) hj532 (by omega) (by omega); omega) (by omega) (by rw [show (aA i9).toInt = x718.toInt from by omega]; omega)] at q9; exact ⟨q9.1, q9.2.1, fun k hk => (q9.2.2 k (by omega)).trans (if_neg (by omega))⟩
                      exact ih399 (i9 + 1) (by omega) (by omega) u729 u730 u728 ⟨bk9.1, bk9.2.1, bk9.2.2, (by omega)⟩ _ _ hT hF hS m734 m735 m736 m737 m732 m733 m740 m731 ls (lv_sub hl [0, 3, 4, 5, 6, 7, 8, 9] rfl)
                    · have t748 : 200 < x675.toInt := ti_nle c680 rfl (by decide)
                      refine lv_goto (tgt := 225) hx hb dX12_orders_163 (by decide) ?_
                      refine lv_iinc (v := nI (i9 + 1)) (lv' := [(7, .int (nI (i9 + 1))), (8, .int x675), (9, .int x667), (0, .ref o0), (1, .int 1), (2, .int us), (3, .int yr), (4, .int ca), (5, .int ic), (6, .int su)]) hx hb dX12_orders_225 hl (k := 2) rfl (nI_add i9 1) (by decide) rfl (fun ls hl => ?_)
                      refine lv_goto (tgt := 64) hx hb dX12_orders_228 (by decide) ?_
                      have bk9 : z19.toInt = (slO N 1 aC aY aB aA (bt us) yr.toInt ca.toInt ic.toInt su.toInt R a0 (i9 + 1)).1 ∧ (0 ≤ (slO N 1 aC aY aB aA (bt us) yr.toInt ca.toInt ic.toInt su.toInt R a0 (i9 + 1)).1 → ∀ k : Nat, k < N → (V16 k).toInt = (slO N 1 aC aY aB aA (bt us) yr.toInt ca.toInt ic.toInt su.toInt R a0 (i9 + 1)).2 k) ∧ ∀ k : Nat, k < 1 → (V14 k).toInt = R k := by rw [sl_n (wt_none hj532 (by omega) (by omega))]; exact ⟨hj21, hj22, hj23⟩
                      exact ih399 (i9 + 1) (by omega) (by omega) V14 V16 z19 ⟨bk9.1, bk9.2.1, bk9.2.2, (by omega)⟩ _ _ hT hF hS m524 m525 m526 m527 m528 m529 m530 m531 ls (lv_sub hl [0, 3, 4, 5, 6, 7, 8, 9] rfl)
                · have t749 : z520.toInt < x658.toInt := ti_nle c661 rfl rfl
                  refine lv_iload hx hb dX12_orders_105 (lv_at hl 1 rfl) ?_
                  refine lv_sipush (v := 200) hx hb dX12_orders_107 (by decide) ?_
                  refine lv_icmp_gt (tgt := 126) hx hb dX12_orders_110 (by decide) (fun c750 => ?_) (fun c750 => ?_)
                  · have t751 : 200 < z522.toInt := ti_lt c750 (by decide) rfl
                    refine lv_iload hx hb dX12_orders_126 (lv_at hl 0 rfl) ?_
                    refine lv_aload_n hx hb dX12_orders_128 rfl (lv_at hl 3 rfl) ?_
                    refine tw_get hx hb hts bF_X12 hown hK hT hr_o0 shm_0 rfl 70 (by decide) (ht_at hts 1 rfl) (fun _ h9 => h9) dX12_orders_129 (fun v9 m752 h9 => ?_)
                    obtain ⟨rfl, hg753⟩ := h9 _ rfl
                    refine lv_iload hx hb dX12_orders_132 (lv_at hl 2 rfl) ?_
                    refine tw_iald (i := (nI i9)) hx hb hK hT hg1 shm_71 rfl (vp_in_nI (by omega) (by decide)) dX12_orders_134 (fun v9 m754 h9 => ?_)
                    obtain ⟨x755, rfl, gx755, kx755⟩ := h9
                    have cx755 := m524.at m754 (by have q9 := tn_of (show (nI i9).toInt = ((i9 : Nat) : Int) from (nI_toInt (by omega))) (by omega); omega)
                    obtain rfl : x658 = x755 := (el_same m754 m657 rfl).symm
                    refine lv_isub hx hb dX12_orders_135 ?_
                    refine lv_topi (fun x756 ex756 => ?_)
                    have t757 : x756.toInt = z520.toInt - x658.toInt := ti_sub ex756 rfl rfl (by omega) (by omega)
                    refine lv_istore (lv' := [(9, .int x756), (8, .int z522), (7, .int (nI i9)), (0, .ref o0), (1, .int 1), (2, .int us), (3, .int yr), (4, .int ca), (5, .int ic), (6, .int su)]) hx hb dX12_orders_136 hl (by decide) rfl (fun ls hl => ?_)
                    refine lv_iload hx hb dX12_orders_138 (lv_at hl 1 rfl) ?_
                    refine lv_aload_n hx hb dX12_orders_140 rfl (lv_at hl 3 rfl) ?_
                    refine tw_get hx hb hts bF_X12 hown hK hT hr_o0 shm_0 rfl 71 (by decide) (ht_at hts 2 rfl) (fun _ h9 => h9) dX12_orders_141 (fun v9 m758 h9 => ?_)
                    obtain ⟨rfl, hg759⟩ := h9 _ rfl
                    refine lv_iload hx hb dX12_orders_144 (lv_at hl 2 rfl) ?_
                    refine tw_iald (i := (nI i9)) hx hb hK hT hg2 shm_72 rfl (vp_in_nI (by omega) (by decide)) dX12_orders_146 (fun v9 m760 h9 => ?_)
                    obtain ⟨x761, rfl, gx761, kx761⟩ := h9
                    have cx761 := m525.at m760 (by have q9 := tn_of (show (nI i9).toInt = ((i9 : Nat) : Int) from (nI_toInt (by omega))) (by omega); omega)
                    have t762 : x761.toInt = (aY i9).toInt := congrArg Int32.toInt (cx761.trans (by rw [tn_nI (by omega)]))
                    have t763 : 1 ≤ (aY i9).toInt ∧ (aY i9).toInt ≤ 20 := (hrg i9 (by omega)).2.1
                    refine lv_iadd hx hb dX12_orders_147 ?_
                    refine lv_topi (fun x764 ex764 => ?_)
                    have t765 : x764.toInt = z522.toInt + x761.toInt := ti_add ex764 rfl rfl (by omega) (by omega)
                    refine lv_istore (lv' := [(8, .int x764), (9, .int x756), (7, .int (nI i9)), (0, .ref o0), (1, .int 1), (2, .int us), (3, .int yr), (4, .int ca), (5, .int ic), (6, .int su)]) hx hb dX12_orders_148 hl (by decide) rfl (fun ls hl => ?_)
                    refine lv_iload hx hb dX12_orders_150 (lv_at hl 1 rfl) ?_
                    refine lv_if_lt (tgt := 225) hx hb dX12_orders_152 (by decide) (fun c766 => ?_) (fun c766 => ?_)
                    · have t767 : x756.toInt < 0 := ti_lt c766 rfl (by decide)
                      refine lv_iinc (v := nI (i9 + 1)) (lv' := [(7, .int (nI (i9 + 1))), (8, .int x764), (9, .int x756), (0, .ref o0), (1, .int 1), (2, .int us), (3, .int yr), (4, .int ca), (5, .int ic), (6, .int su)]) hx hb dX12_orders_225 hl (k := 2) rfl (nI_add i9 1) (by decide) rfl (fun ls hl => ?_)
                      refine lv_goto (tgt := 64) hx hb dX12_orders_228 (by decide) ?_
                      have bk9 : z19.toInt = (slO N 1 aC aY aB aA (bt us) yr.toInt ca.toInt ic.toInt su.toInt R a0 (i9 + 1)).1 ∧ (0 ≤ (slO N 1 aC aY aB aA (bt us) yr.toInt ca.toInt ic.toInt su.toInt R a0 (i9 + 1)).1 → ∀ k : Nat, k < N → (V16 k).toInt = (slO N 1 aC aY aB aA (bt us) yr.toInt ca.toInt ic.toInt su.toInt R a0 (i9 + 1)).2 k) ∧ ∀ k : Nat, k < 1 → (V14 k).toInt = R k := by rw [sl_n (wt_none hj532 (by omega) (by omega))]; exact ⟨hj21, hj22, hj23⟩
                      exact ih399 (i9 + 1) (by omega) (by omega) V14 V16 z19 ⟨bk9.1, bk9.2.1, bk9.2.2, (by omega)⟩ _ _ hT hF hS m524 m525 m526 m527 m528 m529 m530 m531 ls (lv_sub hl [0, 3, 4, 5, 6, 7, 8, 9] rfl)
                    · have t768 : 0 ≤ x756.toInt := ti_nlt c766 rfl (by decide)
                      refine lv_iload hx hb dX12_orders_155 (lv_at hl 0 rfl) ?_
                      refine lv_sipush (v := 200) hx hb dX12_orders_157 (by decide) ?_
                      refine lv_icmp_le (tgt := 166) hx hb dX12_orders_160 (by decide) (fun c769 => (by exfalso; have q9 : x764.toInt ≤ 200 := ti_le c769 rfl (by decide); omega)) (fun c769 => ?_)
                      have t770 : 200 < x764.toInt := ti_nle c769 rfl (by decide)
                      refine lv_goto (tgt := 225) hx hb dX12_orders_163 (by decide) ?_
                      refine lv_iinc (v := nI (i9 + 1)) (lv' := [(7, .int (nI (i9 + 1))), (8, .int x764), (9, .int x756), (0, .ref o0), (1, .int 1), (2, .int us), (3, .int yr), (4, .int ca), (5, .int ic), (6, .int su)]) hx hb dX12_orders_225 hl (k := 2) rfl (nI_add i9 1) (by decide) rfl (fun ls hl => ?_)
                      refine lv_goto (tgt := 64) hx hb dX12_orders_228 (by decide) ?_
                      have bk9 : z19.toInt = (slO N 1 aC aY aB aA (bt us) yr.toInt ca.toInt ic.toInt su.toInt R a0 (i9 + 1)).1 ∧ (0 ≤ (slO N 1 aC aY aB aA (bt us) yr.toInt ca.toInt ic.toInt su.toInt R a0 (i9 + 1)).1 → ∀ k : Nat, k < N → (V16 k).toInt = (slO N 1 aC aY aB aA (bt us) yr.toInt ca.toInt ic.toInt su.toInt R a0 (i9 + 1)).2 k) ∧ ∀ k : Nat, k < 1 → (V14 k).toInt = R k := by rw [sl_n (wt_none hj532 (by omega) (by omega))]; exact ⟨hj21, hj22, hj23⟩
                      exact ih399 (i9 + 1) (by omega) (by omega) V14 V16 z19 ⟨bk9.1, bk9.2.1, bk9.2.2, (by omega)⟩ _ _ hT hF hS m524 m525 m526 m527 m528 m529 m530 m531 ls (lv_sub hl [0, 3, 4, 5, 6, 7, 8, 9] rfl)
                  · have t771 : z522.toInt ≤ 200 := ti_nlt c750 (by decide) rfl
                    obtain ⟨x772, ex772⟩ : ∃ y : Int32, y = z522 + 1 := ⟨_, rfl⟩
                    have t773 : x772.toInt = z522.toInt + 1 := ti_add ex772 rfl (by decide) (by omega) (by omega)
                    refine lv_iinc (v := x772) (lv' := [(8, .int x772), (9, .int z520), (7, .int (nI i9)), (0, .ref o0), (1, .int 1), (2, .int us), (3, .int yr), (4, .int ca), (5, .int ic), (6, .int su)]) hx hb dX12_orders_113 hl (k := 1) rfl (by first | (rw [ex772]; done) | (rw [ex772]; rfl)) (by decide) rfl (fun ls hl => ?_)
                    refine lv_iload hx hb dX12_orders_116 (lv_at hl 1 rfl) ?_
                    refine lv_iload hx hb dX12_orders_118 (lv_at hl 8 rfl) ?_
                    refine lv_iadd hx hb dX12_orders_120 ?_
                    refine lv_topi (fun x774 ex774 => ?_)
                    have t775 : x774.toInt = z520.toInt + ic.toInt := ti_add ex774 rfl rfl (by omega) (by omega)
                    refine lv_istore (lv' := [(9, .int x774), (8, .int x772), (7, .int (nI i9)), (0, .ref o0), (1, .int 1), (2, .int us), (3, .int yr), (4, .int ca), (5, .int ic), (6, .int su)]) hx hb dX12_orders_121 hl (by decide) rfl (fun ls hl => ?_)
                    refine lv_goto (tgt := 93) hx hb dX12_orders_123 (by decide) ?_
                    exact ih654 x774 x772 (by have q9 := (show x772.toInt = x772.toInt from rfl); omega) ⟨(by have q8 := ti_all x774; omega), (by have q8 := ti_all x772; omega), (wt_s hj532 (by omega) (by omega) (by omega))⟩ _ _ hT hF hS m524 m525 m526 m527 m528 m529 m530 m531 ls (lv_sub hl [0, 1, 2, 3, 4, 5, 6, 7, 8, 9] rfl)
            exact key654 401 ca yr (by have q9 := (show yr.toInt = yr.toInt from rfl); omega) ⟨(by have q8 := ti_all ca; omega), (by have q8 := ti_all yr; omega), (wt_0 (by omega) (by omega))⟩ _ _ hT hF hS m10 m11 m12 m13 m15 m17 m18 m20 ls (lv_sub hl [0, 1, 2, 3, 4, 5, 6, 7, 8, 9] rfl)
          · have t776 : x407.toInt = 1 := ti_eq c408 rfl (by decide)
            refine lv_goto (tgt := 225) hx hb dX12_orders_83 (by decide) ?_
            refine lv_iinc (v := nI (i9 + 1)) (lv' := [(7, .int (nI (i9 + 1))), (0, .ref o0), (1, .int 1), (2, .int us), (3, .int yr), (4, .int ca), (5, .int ic), (6, .int su)]) hx hb dX12_orders_225 hl (k := 0) rfl (nI_add i9 1) (by decide) rfl (fun ls hl => ?_)
            refine lv_goto (tgt := 64) hx hb dX12_orders_228 (by decide) ?_
            have bk9 : z19.toInt = (slO N 1 aC aY aB aA (bt us) yr.toInt ca.toInt ic.toInt su.toInt R a0 (i9 + 1)).1 ∧ (0 ≤ (slO N 1 aC aY aB aA (bt us) yr.toInt ca.toInt ic.toInt su.toInt R a0 (i9 + 1)).1 → ∀ k : Nat, k < N → (V16 k).toInt = (slO N 1 aC aY aB aA (bt us) yr.toInt ca.toInt ic.toInt su.toInt R a0 (i9 + 1)).2 k) ∧ ∀ k : Nat, k < 1 → (V14 k).toInt = R k := by rw [sl_u (hbt.1 (by omega))]; exact ⟨hj21, hj22, hj23⟩
            exact ih399 (i9 + 1) (by omega) (by omega) V14 V16 z19 ⟨bk9.1, bk9.2.1, bk9.2.2, (by omega)⟩ _ _ hT hF hS m10 m11 m12 m13 m15 m17 m18 m20 ls (lv_sub hl [0, 1, 2, 3, 4, 5, 6, 7] rfl)
    exact key399 (7 - 0) 0 (by omega) (Nat.le_refl _) vR vZ la ⟨hla, hZ0, hR, (by omega)⟩ _ _ hT hF hS hc_aC hc_aY hc_aB hc_aA hc_vR hc_vZ hm_jb hm_la ls (lv_sub hl [0, 1, 2, 3, 4, 5, 6, 7] rfl)
  · have t777 : 1 = jb.toInt := ti_eq c7 (by decide) rfl
    refine lv_aload_n hx hb dX12_orders_8 rfl (lv_at hl 0 rfl) ?_
    refine tw_getM (v := .int la) hx hb hts bF_X12 hown hK hT hr_o0 shm_0 rfl 77 (by decide) (ht_at hts 7 rfl) (fun _ h9 => h9) hm_la dX12_orders_9 ?_
    refine lv_if_lt (tgt := 25) hx hb dX12_orders_12 (by decide) (fun c778 => ?_) (fun c778 => ?_)
    · have t779 : la.toInt < 0 := ti_lt c778 rfl (by decide)
      refine lv_aload_n hx hb dX12_orders_25 rfl (lv_at hl 0 rfl) ?_
      refine lv_iload hx hb dX12_orders_26 (lv_at hl 6 rfl) ?_
      refine tw_put (v := .int su) (ty := .int) hx hb hts bF_X12 tyX12 tyX12_ok nmX12 hown hK hT hG hS hr_o0 shm_0 rfl 77 (by decide) (ht_at hts 7 rfl) (fun _ h9 => h9) rfl (by decide +kernel) rfl rfl (gl_at rfl (gi_all _)) dX12_orders_28 (fun H locs hT oq m780 oj hS => ?_)
      have hF := hF.put hr_o0 skm_0 oq oj (by decide)
      have m781 := (oj 74 (by decide) (by decide)).trans hm_jb
      have m782 := hc_aC.kept (oq _ (gne hg1 hr_o0 (by decide)))
      have m783 := hc_aY.kept (oq _ (gne hg2 hr_o0 (by decide)))
      have m784 := hc_aB.kept (oq _ (gne hg3 hr_o0 (by decide)))
      have m785 := hc_aA.kept (oq _ (gne hg4 hr_o0 (by decide)))
      have m786 := hc_vR.kept (oq _ (gne hg5 hr_o0 (by decide)))
      have m787 := hc_vZ.kept (oq _ (gne hg6 hr_o0 (by decide)))
      refine lv_iconst (v := 0) hx hb dX12_orders_31 (by decide) ?_
      refine lv_istore (lv' := [(7, .int 0), (0, .ref o0), (1, .int 1), (2, .int us), (3, .int yr), (4, .int ca), (5, .int ic), (6, .int su)]) hx hb dX12_orders_32 hl (by decide) rfl (fun ls hl => ?_)
      have key817 : ∀ (n817 i788 : Nat), i788 + n817 = 1 → 0 ≤ i788 → ∀ (V794 : Nat → Int32), ((∀ k : Nat, k < i788 → (V794 k).toInt = R k)) → ∀ (H : Heap) (locs : List Loc), gH (dC, dI) kA (SHm q (wP wZ wN wH wB wC wL wK wU wV) PI im PM PT lS lB lE lN) G H → gF (dC, dI) SKm G ([(0, 77), (76, 0), (77, 0)] : List (Nat × Nat)) s.heap H → va_S A s.heap H locs → ct H (q 70) 7 aC → ct H (q 71) 7 aY → ct H (q 72) 7 aB → ct H (q 73) 7 aA → ct H (q 75) 7 vR → ct H (q 76) 7 V794 → el H o0 (dI 15 74) = some (.int jb) → el H o0 (dI 15 77) = some (.int su) → ∀ ls : Array Slot, lv_has ls 10 [(7, .int (nI i788)), (0, .ref o0), (1, .int 1), (2, .int us), (3, .int yr), (4, .int ca), (5, .int ic), (6, .int su)] → W p l e (headSpec w_s_ordersC1 ({ frames := 6, cells := 0, slots := 0, locals := 174 })).room s m #[.ref o0, .int 1, .int us, .int yr, .int ca, .int ic, .int su] below meth c H locs 0 0 (MQ below (va_Qv (fun (u : Int32 × (Nat → Int32) × (Nat → Int32)) => match u with | (la1, vR1, vZ1) => (la1.toInt = (sx N 1 aC aY aB aA (bt us) yr.toInt ca.toInt ic.toInt su.toInt R a0).1 ∧ (0 ≤ (sx N 1 aC aY aB aA (bt us) yr.toInt ca.toInt ic.toInt su.toInt R a0).1 → ∀ k : Nat, k < N → (vZ1 k).toInt = (sx N 1 aC aY aB aA (bt us) yr.toInt ca.toInt ic.toInt su.toInt R a0).2 k) ∧ ∀ k : Nat, k < 1 → (vR1 k).toInt = R k)) (fun (u : Int32 × (Nat → Int32) × (Nat → Int32)) (t : State) => match u with | (la1, vR1, vZ1) => gH (dC, dI) kA (SHm q (wP wZ wN wH wB wC wL wK wU wV) PI im PM PT lS lB lE lN) G t.heap ∧ gF (dC, dI) SKm G ([(0, 77), (76, 0), (77, 0)] : List (Nat × Nat)) s.heap t.heap ∧ el t.heap o0 (dI 15 77) = some (.int la1) ∧ ct t.heap (q 75) 7 vR1 ∧ ct t.heap (q 76) 7 vZ1) A) #[.ref o0, .int 1, .int us, .int yr, .int ca, .int ic, .int su] s 0 0 A) (F0 m 34 ls []) := by
        intro n817
        induction n817 with
        | zero =>
          intro i788 hn817 hlo818 V794 hj798 H locs hT hF hS m789 m790 m791 m792 m793 m795 m796 m797 ls hl
          obtain rfl : 1 = i788 := by omega
          refine lv_iload hx hb dX12_orders_34 (lv_at hl 0 rfl) ?_
          refine lv_iload_n hx hb dX12_orders_36 rfl (lv_at hl 2 rfl) ?_
          refine lv_icmp_ge (tgt := 60) hx hb dX12_orders_37 (by decide) (fun c819 => ?_) (fun c819 => (by exfalso; have q9 : ((1 : Nat) : Int) < 1 := ti_nle c819 (by decide) (nI_toInt (by omega)); omega))
          have t820 : 1 ≤ ((1 : Nat) : Int) := ti_le c819 (by decide) (nI_toInt (by omega))
          exact W.vret hx hb hr (fun t ht hW => ⟨⟨(su, vR, V794), rfl, (by exact (by (try dsimp only); have e9 : N = 1 := (by omega); rw [sx_0 e9, if_neg (by omega)]; exact ⟨rfl, fun _ k hk => hj798 k (by omega), hR⟩)), by (try dsimp only); rw [ht]; exact ⟨hT, hF, m797, m793, m795⟩⟩, hS.F ht⟩) hS.2.2 dX12_orders_60
        | succ n817 ih817 =>
          intro i788 hn817 hlo818 V794 hj798 H locs hT hF hS m789 m790 m791 m792 m793 m795 m796 m797 ls hl
          have hlt820 : i788 < 1 := by omega
          refine lv_iload hx hb dX12_orders_34 (lv_at hl 0 rfl) ?_
          refine lv_iload_n hx hb dX12_orders_36 rfl (lv_at hl 2 rfl) ?_
          refine lv_icmp_ge (tgt := 60) hx hb dX12_orders_37 (by decide) (fun c821 => (by exfalso; have q9 : 1 ≤ ((i788 : Nat) : Int) := ti_le c821 (by decide) (nI_toInt (by omega)); omega)) (fun c821 => ?_)
          have t822 : ((i788 : Nat) : Int) < 1 := ti_nle c821 (by decide) (nI_toInt (by omega))
          refine lv_aload_n hx hb dX12_orders_40 rfl (lv_at hl 1 rfl) ?_
          refine tw_get hx hb hts bF_X12 hown hK hT hr_o0 shm_0 rfl 76 (by decide) (ht_at hts 8 rfl) (fun _ h9 => h9) dX12_orders_41 (fun v9 m823 h9 => ?_)
          obtain ⟨rfl, hg824⟩ := h9 _ rfl
          refine lv_iload hx hb dX12_orders_44 (lv_at hl 0 rfl) ?_
          refine lv_aload_n hx hb dX12_orders_46 rfl (lv_at hl 1 rfl) ?_
          refine tw_get hx hb hts bF_X12 hown hK hT hr_o0 shm_0 rfl 75 (by decide) (ht_at hts 3 rfl) (fun _ h9 => h9) dX12_orders_47 (fun v9 m825 h9 => ?_)
          obtain ⟨rfl, hg826⟩ := h9 _ rfl
          refine lv_iload hx hb dX12_orders_50 (lv_at hl 0 rfl) ?_
          refine tw_iald (i := (nI i788)) hx hb hK hT hg5 shm_76 rfl (vp_in_nI (by omega) (by decide)) dX12_orders_52 (fun v9 m827 h9 => ?_)
          obtain ⟨x828, rfl, gx828, kx828⟩ := h9
          have cx828 := m793.at m827 (by have q9 := tn_of (show (nI i788).toInt = ((i788 : Nat) : Int) from (nI_toInt (by omega))) (by omega); omega)
          refine tw_iast (i := (nI i788)) (x := x828) hx hb hK hT hG hS hg6 shm_77 rfl (vp_in_nI (by omega) (by decide)) (gi_all _) dX12_orders_53 (fun H locs hT oq m829 oi hS => ?_)
          have hF := hF.ast hg6 skm_77 oq (by decide)
          have m830 := m789.kept (oq _ (gne hg1 hg6 (by decide)))
          have m831 := m790.kept (oq _ (gne hg2 hg6 (by decide)))
          have m832 := m791.kept (oq _ (gne hg3 hg6 (by decide)))
          have m833 := m792.kept (oq _ (gne hg4 hg6 (by decide)))
          have m834 := m793.kept (oq _ (gne hg5 hg6 (by decide)))
          have m835 := m795.put m829 oi
          have m836 := (el_kept (oq _ (gne hr_o0 hg6 (by decide)))).trans m796
          have m837 := (el_kept (oq _ (gne hr_o0 hg6 (by decide)))).trans m797
          have m838 := (el_kept (oq _ (gne hg5 hg6 (by decide)))).trans m827
          refine lv_iinc (v := nI (i788 + 1)) (lv' := [(7, .int (nI (i788 + 1))), (0, .ref o0), (1, .int 1), (2, .int us), (3, .int yr), (4, .int ca), (5, .int ic), (6, .int su)]) hx hb dX12_orders_54 hl (k := 0) rfl (nI_add i788 1) (by decide) rfl (fun ls hl => ?_)
          refine lv_goto (tgt := 34) hx hb dX12_orders_57 (by decide) ?_
          exact ih817 (i788 + 1) (by omega) (by omega) (cu V794 (nI i788).toNatClampNeg x828) (cp_s (V := vR) (K := 1) (i := i788) (tn_nI (by omega)) cx828 hR (by omega) hj798) _ _ hT hF hS m830 m831 m832 m833 m834 m835 m836 m837 ls (lv_sub hl [0, 1, 2, 3, 4, 5, 6, 7] rfl)
      exact key817 (1 - 0) 0 (by omega) (Nat.le_refl _) vZ (fun k h => absurd h (Nat.not_lt_zero k)) _ _ hT hF hS m782 m783 m784 m785 m786 m787 m781 m780 ls (lv_sub hl [0, 1, 2, 3, 4, 5, 6, 7] rfl)
    · have t839 : 0 ≤ la.toInt := ti_nlt c778 rfl (by decide)
      refine lv_iload hx hb dX12_orders_15 (lv_at hl 6 rfl) ?_
      refine lv_aload_n hx hb dX12_orders_17 rfl (lv_at hl 0 rfl) ?_
      refine tw_getM (v := .int la) hx hb hts bF_X12 hown hK hT hr_o0 shm_0 rfl 77 (by decide) (ht_at hts 7 rfl) (fun _ h9 => h9) hm_la dX12_orders_18 ?_
      refine lv_icmp_lt (tgt := 25) hx hb dX12_orders_21 (by decide) (fun c840 => ?_) (fun c840 => ?_)
      · have t841 : su.toInt < la.toInt := ti_lt c840 rfl rfl
        refine lv_aload_n hx hb dX12_orders_25 rfl (lv_at hl 0 rfl) ?_
        refine lv_iload hx hb dX12_orders_26 (lv_at hl 6 rfl) ?_
        refine tw_put (v := .int su) (ty := .int) hx hb hts bF_X12 tyX12 tyX12_ok nmX12 hown hK hT hG hS hr_o0 shm_0 rfl 77 (by decide) (ht_at hts 7 rfl) (fun _ h9 => h9) rfl (by decide +kernel) rfl rfl (gl_at rfl (gi_all _)) dX12_orders_28 (fun H locs hT oq m842 oj hS => ?_)
        have hF := hF.put hr_o0 skm_0 oq oj (by decide)
        have m843 := (oj 74 (by decide) (by decide)).trans hm_jb
        have m844 := hc_aC.kept (oq _ (gne hg1 hr_o0 (by decide)))
        have m845 := hc_aY.kept (oq _ (gne hg2 hr_o0 (by decide)))
        have m846 := hc_aB.kept (oq _ (gne hg3 hr_o0 (by decide)))
        have m847 := hc_aA.kept (oq _ (gne hg4 hr_o0 (by decide)))
        have m848 := hc_vR.kept (oq _ (gne hg5 hr_o0 (by decide)))
        have m849 := hc_vZ.kept (oq _ (gne hg6 hr_o0 (by decide)))
        refine lv_iconst (v := 0) hx hb dX12_orders_31 (by decide) ?_
        refine lv_istore (lv' := [(7, .int 0), (0, .ref o0), (1, .int 1), (2, .int us), (3, .int yr), (4, .int ca), (5, .int ic), (6, .int su)]) hx hb dX12_orders_32 hl (by decide) rfl (fun ls hl => ?_)
        have key879 : ∀ (n879 i850 : Nat), i850 + n879 = 1 → 0 ≤ i850 → ∀ (V856 : Nat → Int32), ((∀ k : Nat, k < i850 → (V856 k).toInt = R k)) → ∀ (H : Heap) (locs : List Loc), gH (dC, dI) kA (SHm q (wP wZ wN wH wB wC wL wK wU wV) PI im PM PT lS lB lE lN) G H → gF (dC, dI) SKm G ([(0, 77), (76, 0), (77, 0)] : List (Nat × Nat)) s.heap H → va_S A s.heap H locs → ct H (q 70) 7 aC → ct H (q 71) 7 aY → ct H (q 72) 7 aB → ct H (q 73) 7 aA → ct H (q 75) 7 vR → ct H (q 76) 7 V856 → el H o0 (dI 15 74) = some (.int jb) → el H o0 (dI 15 77) = some (.int su) → ∀ ls : Array Slot, lv_has ls 10 [(7, .int (nI i850)), (0, .ref o0), (1, .int 1), (2, .int us), (3, .int yr), (4, .int ca), (5, .int ic), (6, .int su)] → W p l e (headSpec w_s_ordersC1 ({ frames := 6, cells := 0, slots := 0, locals := 174 })).room s m #[.ref o0, .int 1, .int us, .int yr, .int ca, .int ic, .int su] below meth c H locs 0 0 (MQ below (va_Qv (fun (u : Int32 × (Nat → Int32) × (Nat → Int32)) => match u with | (la1, vR1, vZ1) => (la1.toInt = (sx N 1 aC aY aB aA (bt us) yr.toInt ca.toInt ic.toInt su.toInt R a0).1 ∧ (0 ≤ (sx N 1 aC aY aB aA (bt us) yr.toInt ca.toInt ic.toInt su.toInt R a0).1 → ∀ k : Nat, k < N → (vZ1 k).toInt = (sx N 1 aC aY aB aA (bt us) yr.toInt ca.toInt ic.toInt su.toInt R a0).2 k) ∧ ∀ k : Nat, k < 1 → (vR1 k).toInt = R k)) (fun (u : Int32 × (Nat → Int32) × (Nat → Int32)) (t : State) => match u with | (la1, vR1, vZ1) => gH (dC, dI) kA (SHm q (wP wZ wN wH wB wC wL wK wU wV) PI im PM PT lS lB lE lN) G t.heap ∧ gF (dC, dI) SKm G ([(0, 77), (76, 0), (77, 0)] : List (Nat × Nat)) s.heap t.heap ∧ el t.heap o0 (dI 15 77) = some (.int la1) ∧ ct t.heap (q 75) 7 vR1 ∧ ct t.heap (q 76) 7 vZ1) A) #[.ref o0, .int 1, .int us, .int yr, .int ca, .int ic, .int su] s 0 0 A) (F0 m 34 ls []) := by
          intro n879
          induction n879 with
          | zero =>
            intro i850 hn879 hlo880 V856 hj860 H locs hT hF hS m851 m852 m853 m854 m855 m857 m858 m859 ls hl
            obtain rfl : 1 = i850 := by omega
            refine lv_iload hx hb dX12_orders_34 (lv_at hl 0 rfl) ?_
            refine lv_iload_n hx hb dX12_orders_36 rfl (lv_at hl 2 rfl) ?_
            refine lv_icmp_ge (tgt := 60) hx hb dX12_orders_37 (by decide) (fun c881 => ?_) (fun c881 => (by exfalso; have q9 : ((1 : Nat) : Int) < 1 := ti_nle c881 (by decide) (nI_toInt (by omega)); omega))
            have t882 : 1 ≤ ((1 : Nat) : Int) := ti_le c881 (by decide) (nI_toInt (by omega))
            exact W.vret hx hb hr (fun t ht hW => ⟨⟨(su, vR, V856), rfl, (by exact (by (try dsimp only); have e9 : N = 1 := (by omega); rw [sx_0 e9, if_neg (by omega)]; exact ⟨rfl, fun _ k hk => hj860 k (by omega), hR⟩)), by (try dsimp only); rw [ht]; exact ⟨hT, hF, m859, m855, m857⟩⟩, hS.F ht⟩) hS.2.2 dX12_orders_60
          | succ n879 ih879 =>
            intro i850 hn879 hlo880 V856 hj860 H locs hT hF hS m851 m852 m853 m854 m855 m857 m858 m859 ls hl
            have hlt882 : i850 < 1 := by omega
            refine lv_iload hx hb dX12_orders_34 (lv_at hl 0 rfl) ?_
            refine lv_iload_n hx hb dX12_orders_36 rfl (lv_at hl 2 rfl) ?_
            refine lv_icmp_ge (tgt := 60) hx hb dX12_orders_37 (by decide) (fun c883 => (by exfalso; have q9 : 1 ≤ ((i850 : Nat) : Int) := ti_le c883 (by decide) (nI_toInt (by omega)); omega)) (fun c883 => ?_)
            have t884 : ((i850 : Nat) : Int) < 1 := ti_nle c883 (by decide) (nI_toInt (by omega))
            refine lv_aload_n hx hb dX12_orders_40 rfl (lv_at hl 1 rfl) ?_
            refine tw_get hx hb hts bF_X12 hown hK hT hr_o0 shm_0 rfl 76 (by decide) (ht_at hts 8 rfl) (fun _ h9 => h9) dX12_orders_41 (fun v9 m885 h9 => ?_)
            obtain ⟨rfl, hg886⟩ := h9 _ rfl
            refine lv_iload hx hb dX12_orders_44 (lv_at hl 0 rfl) ?_
            refine lv_aload_n hx hb dX12_orders_46 rfl (lv_at hl 1 rfl) ?_
            refine tw_get hx hb hts bF_X12 hown hK hT hr_o0 shm_0 rfl 75 (by decide) (ht_at hts 3 rfl) (fun _ h9 => h9) dX12_orders_47 (fun v9 m887 h9 => ?_)
            obtain ⟨rfl, hg888⟩ := h9 _ rfl
            refine lv_iload hx hb dX12_orders_50 (lv_at hl 0 rfl) ?_
            refine tw_iald (i := (nI i850)) hx hb hK hT hg5 shm_76 rfl (vp_in_nI (by omega) (by decide)) dX12_orders_52 (fun v9 m889 h9 => ?_)
            obtain ⟨x890, rfl, gx890, kx890⟩ := h9
            have cx890 := m855.at m889 (by have q9 := tn_of (show (nI i850).toInt = ((i850 : Nat) : Int) from (nI_toInt (by omega))) (by omega); omega)
            refine tw_iast (i := (nI i850)) (x := x890) hx hb hK hT hG hS hg6 shm_77 rfl (vp_in_nI (by omega) (by decide)) (gi_all _) dX12_orders_53 (fun H locs hT oq m891 oi hS => ?_)
            have hF := hF.ast hg6 skm_77 oq (by decide)
            have m892 := m851.kept (oq _ (gne hg1 hg6 (by decide)))
            have m893 := m852.kept (oq _ (gne hg2 hg6 (by decide)))
            have m894 := m853.kept (oq _ (gne hg3 hg6 (by decide)))
            have m895 := m854.kept (oq _ (gne hg4 hg6 (by decide)))
            have m896 := m855.kept (oq _ (gne hg5 hg6 (by decide)))
            have m897 := m857.put m891 oi
            have m898 := (el_kept (oq _ (gne hr_o0 hg6 (by decide)))).trans m858
            have m899 := (el_kept (oq _ (gne hr_o0 hg6 (by decide)))).trans m859
            have m900 := (el_kept (oq _ (gne hg5 hg6 (by decide)))).trans m889
            refine lv_iinc (v := nI (i850 + 1)) (lv' := [(7, .int (nI (i850 + 1))), (0, .ref o0), (1, .int 1), (2, .int us), (3, .int yr), (4, .int ca), (5, .int ic), (6, .int su)]) hx hb dX12_orders_54 hl (k := 0) rfl (nI_add i850 1) (by decide) rfl (fun ls hl => ?_)
            refine lv_goto (tgt := 34) hx hb dX12_orders_57 (by decide) ?_
            exact ih879 (i850 + 1) (by omega) (by omega) (cu V856 (nI i850).toNatClampNeg x890) (cp_s (V := vR) (K := 1) (i := i850) (tn_nI (by omega)) cx890 hR (by omega) hj860) _ _ hT hF hS m892 m893 m894 m895 m896 m897 m898 m899 ls (lv_sub hl [0, 1, 2, 3, 4, 5, 6, 7] rfl)
        exact key879 (1 - 0) 0 (by omega) (Nat.le_refl _) vZ (fun k h => absurd h (Nat.not_lt_zero k)) _ _ hT hF hS m844 m845 m846 m847 m848 m849 m843 m842 ls (lv_sub hl [0, 1, 2, 3, 4, 5, 6, 7] rfl)
      · have t901 : la.toInt ≤ su.toInt := ti_nlt c840 rfl rfl
        exact W.vret hx hb hr (fun t ht hW => ⟨⟨(la, vR, vZ), rfl, (by exact (by (try dsimp only); have e9 : N = 1 := (by omega); rw [sx_0 e9, if_pos ⟨by omega, by omega⟩]; exact ⟨by omega, hZ0, hR⟩)), by (try dsimp only); rw [ht]; exact ⟨hT, hF, hm_la, hc_vR, hc_vZ⟩⟩, hS.F ht⟩) hS.2.2 dX12_orders_24
def w_s_ordersC0 : List Cond := .code yX12_orders cX12_orders 10 none :: (HAppend.hAppend (α := List Cond) (β := List Cond) (γ := List Cond) [.fieldLink RX12 553 "SeaLandModel" "jobs" "I", .fieldLink RX12 176 "SeaLandModel" "jCost" "[I", .fieldLink RX12 179 "SeaLandModel" "jYears" "[I", .fieldLink RX12 188 "SeaLandModel" "row" "[I", .fieldLink RX12 182 "SeaLandModel" "jBrings" "[I", .fieldLink RX12 185 "SeaLandModel" "jAcres" "[I", .code yX12_orders cX12_orders 10 none, .fieldLink RX12 556 "SeaLandModel" "lateness" "I", .fieldLink RX12 191 "SeaLandModel" "bestRow" "[I", .methodLink RX12 559 yX12_orders, .instanceMethod yX12_orders, .selects RX12 yX12_orders yX12_orders, .initialized RX12] bs)
set_option maxHeartbeats 4000000 in
set_option maxRecDepth 100000 in
theorem s_ordersC0 (l : Launch) (dC : Nat → ClassId) (dI : Nat → Nat → Nat) (kA : Nat → ClassId) (adK adV : Nat → Nat) (G : gT) (H0 : Heap) (q : Nat → Nat) (wZ wN : Nat → Int) (wH wB wC : Int) (wL wK : Nat → Prop) (wU wV : Nat → Nat) (PI : Nat → Int → Prop) (im : Int) (PM PT : Nat → Int → Prop) (lS lB lE : Nat → Nat → Int → Prop) (lN : Nat → Int) (o0 : Nat) (us : Int32) (yr : Int32) (ca : Int32) (ic : Int32) (su : Int32) (jb : Int32) (la : Int32) (aC : Nat → Int32) (aY : Nat → Int32) (aB : Nat → Int32) (aA : Nat → Int32) (vR : Nat → Int32) (vZ : Nat → Int32) (N : Nat) (R : Nat → Int) (a0 : oA) (hT : gH (dC, dI) kA (SHm q (wP wZ wN wH wB wC wL wK wU wV) PI im PM PT lS lB lE lN) G H0) (hr_o0 : G o0 = some 0) (hm_jb : el H0 o0 (dI 15 74) = some (.int jb)) (hm_la : el H0 o0 (dI 15 77) = some (.int la)) (hq0 : 0 ≤ yr.toInt ∧ yr.toInt ≤ 200) (hq1 : 0 ≤ ca.toInt ∧ ca.toInt ≤ 1000000) (hq2 : 0 ≤ ic.toInt ∧ ic.toInt ≤ 0) (hq3 : 0 ≤ su.toInt ∧ su.toInt ≤ 0) (hq4 : 0 ≤ jb.toInt ∧ jb.toInt ≤ 7) (hN : jb.toInt = ((N : Nat) : Int)) (hrg : joR jb.toInt aC aY aB aA) (hla : la.toInt = a0.1) (hZ0 : 0 ≤ a0.1 → ∀ k : Nat, k < N → (vZ k).toInt = a0.2 k) (hR : ∀ k : Nat, k < 0 → (vR k).toInt = R k) (hc_aC : ct H0 (q 70) 7 aC) (hc_aY : ct H0 (q 71) 7 aY) (hc_aB : ct H0 (q 72) 7 aB) (hc_aA : ct H0 (q 73) 7 aA) (hc_vR : ct H0 (q 75) 7 vR) (hc_vZ : ct H0 (q 76) 7 vZ) (hgz : ∀ i, 0 ≤ wZ i) (hgn : ∀ i, 6500000 ≤ wN i ∧ wN i ≤ 20200000) (hgh : 0 ≤ wH ∧ wH ≤ 40000) (hgb : 0 ≤ wB ∧ wB ≤ 3850000) (hgc : 0 ≤ wC ∧ wC ≤ 30) (hgi : 0 ≤ im ∧ im ≤ 1) (hgu : ∀ a t, G a = some (t + 1) → a = q t) : Met l yX12_orders w_s_ordersC0 ({ frames := 7, cells := 0, slots := 0, locals := 203 }) (va_Pc [.ref o0, .int 0, .int us, .int yr, .int ca, .int ic, .int su] (fun U => U.heap = H0 ∧ va_K (dC, dI) vwCl (tyl kA) U ∧ EVS adK adV (gA G H0.size) U U.heap)) (va_Qv (fun (u : Int32 × (Nat → Int32) × (Nat → Int32)) => match u with | (la1, vR1, vZ1) => (la1.toInt = (sx N 0 aC aY aB aA (bt us) yr.toInt ca.toInt ic.toInt su.toInt R a0).1 ∧ (0 ≤ (sx N 0 aC aY aB aA (bt us) yr.toInt ca.toInt ic.toInt su.toInt R a0).1 → ∀ k : Nat, k < N → (vZ1 k).toInt = (sx N 0 aC aY aB aA (bt us) yr.toInt ca.toInt ic.toInt su.toInt R a0).2 k) ∧ ∀ k : Nat, k < 0 → (vR1 k).toInt = R k)) (fun (u : Int32 × (Nat → Int32) × (Nat → Int32)) (t : State) => match u with | (la1, vR1, vZ1) => gH (dC, dI) kA (SHm q (wP wZ wN wH wB wC wL wK wU wV) PI im PM PT lS lB lE lN) G t.heap ∧ gF (dC, dI) SKm G ([(0, 77), (76, 0), (77, 0)] : List (Nat × Nat)) H0 t.heap ∧ el t.heap o0 (dI 15 77) = some (.int la1) ∧ ct t.heap (q 75) 7 vR1 ∧ ct t.heap (q 76) 7 vZ1) (gA G H0.size)) 0 0 (gA G H0.size) := by
  refine Met.ofW (cc := cX12_orders) (maxL := 10) (ret := none) (by decide) rfl ?_
  intro p e s m args below meth c s₁ B hml hv
  obtain ⟨rfl, hH0, hK, hE⟩ := hv
  have hx := B.exec
  have hb := B.bytes
  have hr := B.returns
  have hts := atoms_spec (ws := w_s_ordersC0) B.pre
  have hown : s.vm.findClass RX12 = some m.cls := findClass_of_methodNamed B.named
  have hlocks := B.notSynchronized
  subst hH0
  generalize hAe : gA G s.heap.size = A at hE ⊢
  have hA : ∀ q : Nat, s.heap.size ≤ q → A q := fun q h => by rw [← hAe]; exact Or.inr h
  have hG := gA_of hAe
  have hS : va_S A s.heap s.heap [] := va_S.rf
  have hF : gF (dC, dI) SKm G ([(0, 77), (76, 0), (77, 0)] : List (Nat × Nat)) s.heap s.heap := gF.rf
  have hl := lv_entry ([.ref o0, .int 0, .int us, .int yr, .int ca, .int ic, .int su]) (n := 10) (Nat.le_of_ble_eq_true rfl)
  rw [lg_entry_eq]
  generalize (lg_sl ([.ref o0, .int 0, .int us, .int yr, .int ca, .int ic, .int su]) ++ List.replicate (10 - (lg_sl ([.ref o0, .int 0, .int us, .int yr, .int ca, .int ic, .int su])).length) Slot.unset).toArray = ls at hl ⊢
  have hl : lv_has ls 10 [(0, .ref o0), (1, .int 0), (2, .int us), (3, .int yr), (4, .int ca), (5, .int ic), (6, .int su)] := hl
  have hg1 : G (q 70) = some 71 := gx_of hT hr_o0 shm_0 (k := 70) (by decide) rfl
  have hg2 : G (q 71) = some 72 := gx_of hT hr_o0 shm_0 (k := 71) (by decide) rfl
  have hg3 : G (q 72) = some 73 := gx_of hT hr_o0 shm_0 (k := 72) (by decide) rfl
  have hg4 : G (q 73) = some 74 := gx_of hT hr_o0 shm_0 (k := 73) (by decide) rfl
  have hg5 : G (q 75) = some 76 := gx_of hT hr_o0 shm_0 (k := 75) (by decide) rfl
  have hg6 : G (q 76) = some 77 := gx_of hT hr_o0 shm_0 (k := 76) (by decide) rfl
  refine lv_iload_n hx hb dX12_orders_0 rfl (lv_at hl 1 rfl) ?_
  refine lv_aload_n hx hb dX12_orders_1 rfl (lv_at hl 0 rfl) ?_
  refine tw_getM (v := .int jb) hx hb hts bF_X12 hown hK hT hr_o0 shm_0 rfl 74 (by decide) (ht_at hts 0 rfl) (fun _ h9 => h9) hm_jb dX12_orders_2 ?_
  refine lv_icmp_ne (tgt := 61) hx hb dX12_orders_5 (by decide) (fun c7 => ?_) (fun c7 => ?_)
  · have t8 : 0 ≠ jb.toInt := ti_ne c7 (by decide) rfl
    refine lv_iconst (v := 0) hx hb dX12_orders_61 (by decide) ?_
    refine lv_istore (lv' := [(7, .int 0), (0, .ref o0), (1, .int 0), (2, .int us), (3, .int yr), (4, .int ca), (5, .int ic), (6, .int su)]) hx hb dX12_orders_62 hl (by decide) rfl (fun ls hl => ?_)
    have key399 : ∀ (n399 i9 : Nat), i9 + n399 = 7 → 0 ≤ i9 → ∀ (V14 : Nat → Int32), ∀ (V16 : Nat → Int32), ∀ (z19 : Int32), ((z19.toInt = (slO N 0 aC aY aB aA (bt us) yr.toInt ca.toInt ic.toInt su.toInt R a0 i9).1) ∧ (0 ≤ (slO N 0 aC aY aB aA (bt us) yr.toInt ca.toInt ic.toInt su.toInt R a0 i9).1 → ∀ k : Nat, k < N → (V16 k).toInt = (slO N 0 aC aY aB aA (bt us) yr.toInt ca.toInt ic.toInt su.toInt R a0 i9).2 k) ∧ (∀ k : Nat, k < 0 → (V14 k).toInt = R k) ∧ (((i9 : Nat) : Int) ≤ jb.toInt)) → ∀ (H : Heap) (locs : List Loc), gH (dC, dI) kA (SHm q (wP wZ wN wH wB wC wL wK wU wV) PI im PM PT lS lB lE lN) G H → gF (dC, dI) SKm G ([(0, 77), (76, 0), (77, 0)] : List (Nat × Nat)) s.heap H → va_S A s.heap H locs → ct H (q 70) 7 aC → ct H (q 71) 7 aY → ct H (q 72) 7 aB → ct H (q 73) 7 aA → ct H (q 75) 7 V14 → ct H (q 76) 7 V16 → el H o0 (dI 15 74) = some (.int jb) → el H o0 (dI 15 77) = some (.int z19) → ∀ ls : Array Slot, lv_has ls 10 [(7, .int (nI i9)), (0, .ref o0), (1, .int 0), (2, .int us), (3, .int yr), (4, .int ca), (5, .int ic), (6, .int su)] → W p l e (headSpec w_s_ordersC0 ({ frames := 7, cells := 0, slots := 0, locals := 203 })).room s m #[.ref o0, .int 0, .int us, .int yr, .int ca, .int ic, .int su] below meth c H locs 0 0 (MQ below (va_Qv (fun (u : Int32 × (Nat → Int32) × (Nat → Int32)) => match u with | (la1, vR1, vZ1) => (la1.toInt = (sx N 0 aC aY aB aA (bt us) yr.toInt ca.toInt ic.toInt su.toInt R a0).1 ∧ (0 ≤ (sx N 0 aC aY aB aA (bt us) yr.toInt ca.toInt ic.toInt su.toInt R a0).1 → ∀ k : Nat, k < N → (vZ1 k).toInt = (sx N 0 aC aY aB aA (bt us) yr.toInt ca.toInt ic.toInt su.toInt R a0).2 k) ∧ ∀ k : Nat, k < 0 → (vR1 k).toInt = R k)) (fun (u : Int32 × (Nat → Int32) × (Nat → Int32)) (t : State) => match u with | (la1, vR1, vZ1) => gH (dC, dI) kA (SHm q (wP wZ wN wH wB wC wL wK wU wV) PI im PM PT lS lB lE lN) G t.heap ∧ gF (dC, dI) SKm G ([(0, 77), (76, 0), (77, 0)] : List (Nat × Nat)) s.heap t.heap ∧ el t.heap o0 (dI 15 77) = some (.int la1) ∧ ct t.heap (q 75) 7 vR1 ∧ ct t.heap (q 76) 7 vZ1) A) #[.ref o0, .int 0, .int us, .int yr, .int ca, .int ic, .int su] s 0 0 A) (F0 m 64 ls []) := by
      intro n399
      induction n399 with
      | zero =>
        intro i9 hn399 hlo400 V14 V16 z19 ⟨hj21, hj22, hj23, hj24⟩ H locs hT hF hS m10 m11 m12 m13 m15 m17 m18 m20 ls hl
        obtain rfl : 7 = i9 := by omega
        refine lv_iload hx hb dX12_orders_64 (lv_at hl 0 rfl) ?_
        refine lv_aload_n hx hb dX12_orders_66 rfl (lv_at hl 1 rfl) ?_
        refine tw_getM (v := .int jb) hx hb hts bF_X12 hown hK hT hr_o0 shm_0 rfl 74 (by decide) (ht_at hts 0 rfl) (fun _ h9 => h9) m18 dX12_orders_67 ?_
        refine lv_icmp_ge (tgt := 231) hx hb dX12_orders_70 (by decide) (fun c401 => ?_) (fun c401 => (by exfalso; have q9 : ((7 : Nat) : Int) < jb.toInt := ti_nle c401 rfl (nI_toInt (by omega)); omega))
        have t402 : jb.toInt ≤ ((7 : Nat) : Int) := ti_le c401 rfl (nI_toInt (by omega))
        exact W.vret hx hb hr (fun t ht hW => ⟨⟨(z19, V14, V16), rfl, (by exact (by (try dsimp only); have e9 : N = 7 := (by omega); rw [sx_s (by omega)]; subst e9; exact ⟨hj21, hj22, hj23⟩)), by (try dsimp only); rw [ht]; exact ⟨hT, hF, m20, m15, m17⟩⟩, hS.F ht⟩) hS.2.2 dX12_orders_231
      | succ n399 ih399 =>
        intro i9 hn399 hlo400 V14 V16 z19 ⟨hj21, hj22, hj23, hj24⟩ H locs hT hF hS m10 m11 m12 m13 m15 m17 m18 m20 ls hl
        have hlt402 : i9 < 7 := by omega
        refine lv_iload hx hb dX12_orders_64 (lv_at hl 0 rfl) ?_
        refine lv_aload_n hx hb dX12_orders_66 rfl (lv_at hl 1 rfl) ?_
        refine tw_getM (v := .int jb) hx hb hts bF_X12 hown hK hT hr_o0 shm_0 rfl 74 (by decide) (ht_at hts 0 rfl) (fun _ h9 => h9) m18 dX12_orders_67 ?_
        refine lv_icmp_ge (tgt := 231) hx hb dX12_orders_70 (by decide) (fun c403 => ?_) (fun c403 => ?_)
        · have t404 : jb.toInt ≤ ((i9 : Nat) : Int) := ti_le c403 rfl (nI_toInt (by omega))
          exact W.vret hx hb hr (fun t ht hW => ⟨⟨(z19, V14, V16), rfl, (by exact (by (try dsimp only); have e9 : N = i9 := (by omega); rw [sx_s (by omega)]; subst e9; exact ⟨hj21, hj22, hj23⟩)), by (try dsimp only); rw [ht]; exact ⟨hT, hF, m20, m15, m17⟩⟩, hS.F ht⟩) hS.2.2 dX12_orders_231
        · have t405 : ((i9 : Nat) : Int) < jb.toInt := ti_nle c403 rfl (nI_toInt (by omega))
          refine lv_iload_n hx hb dX12_orders_73 rfl (lv_at hl 3 rfl) ?_
          refine lv_iload hx hb dX12_orders_74 (lv_at hl 0 rfl) ?_
          refine lv_ishr hx hb dX12_orders_76 ?_
          refine lv_topi (fun x406 ex406 => ?_)
          refine lv_iconst (v := 1) hx hb dX12_orders_77 (by decide) ?_
          refine lv_iand hx hb dX12_orders_78 ?_
          refine lv_topi (fun x407 ex407 => ?_)
          refine lv_iconst (v := 1) hx hb dX12_orders_79 (by decide) ?_
          have hbt := bt_t (us := us) (j := i9) (by omega) ex406 ex407
          refine lv_icmp_ne (tgt := 86) hx hb dX12_orders_80 (by decide) (fun c408 => ?_) (fun c408 => ?_)
          · have t409 : x407.toInt ≠ 1 := ti_ne c408 rfl (by decide)
            refine lv_iload_n hx hb dX12_orders_86 rfl (lv_at hl 4 rfl) ?_
            refine lv_istore (lv' := [(8, .int yr), (7, .int (nI i9)), (0, .ref o0), (1, .int 0), (2, .int us), (3, .int yr), (4, .int ca), (5, .int ic), (6, .int su)]) hx hb dX12_orders_87 hl (by decide) rfl (fun ls hl => ?_)
            refine lv_iload hx hb dX12_orders_89 (lv_at hl 6 rfl) ?_
            refine lv_istore (lv' := [(9, .int ca), (8, .int yr), (7, .int (nI i9)), (0, .ref o0), (1, .int 0), (2, .int us), (3, .int yr), (4, .int ca), (5, .int ic), (6, .int su)]) hx hb dX12_orders_91 hl (by decide) rfl (fun ls hl => ?_)
            have key654 : ∀ (n654 : Nat), ∀ (z520 : Int32), ∀ (z522 : Int32), (400 - z522.toInt < ((n654 : Nat) : Int)) → ((0 ≤ z520.toInt ∧ z520.toInt ≤ 1000000) ∧ (0 ≤ z522.toInt ∧ z522.toInt ≤ 201) ∧ (wtO yr.toInt ca.toInt ic.toInt (aC i9).toInt z522.toInt z520.toInt)) → ∀ (H : Heap) (locs : List Loc), gH (dC, dI) kA (SHm q (wP wZ wN wH wB wC wL wK wU wV) PI im PM PT lS lB lE lN) G H → gF (dC, dI) SKm G ([(0, 77), (76, 0), (77, 0)] : List (Nat × Nat)) s.heap H → va_S A s.heap H locs → ct H (q 70) 7 aC → ct H (q 71) 7 aY → ct H (q 72) 7 aB → ct H (q 73) 7 aA → ct H (q 75) 7 V14 → ct H (q 76) 7 V16 → el H o0 (dI 15 74) = some (.int jb) → el H o0 (dI 15 77) = some (.int z19) → ∀ ls : Array Slot, lv_has ls 10 [(9, .int z520), (8, .int z522), (7, .int (nI i9)), (0, .ref o0), (1, .int 0), (2, .int us), (3, .int yr), (4, .int ca), (5, .int ic), (6, .int su)] → W p l e (headSpec w_s_ordersC0 ({ frames := 7, cells := 0, slots := 0, locals := 203 })).room s m #[.ref o0, .int 0, .int us, .int yr, .int ca, .int ic, .int su] below meth c H locs 0 0 (MQ below (va_Qv (fun (u : Int32 × (Nat → Int32) × (Nat → Int32)) => match u with | (la1, vR1, vZ1) => (la1.toInt = (sx N 0 aC aY aB aA (bt us) yr.toInt ca.toInt ic.toInt su.toInt R a0).1 ∧ (0 ≤ (sx N 0 aC aY aB aA (bt us) yr.toInt ca.toInt ic.toInt su.toInt R a0).1 → ∀ k : Nat, k < N → (vZ1 k).toInt = (sx N 0 aC aY aB aA (bt us) yr.toInt ca.toInt ic.toInt su.toInt R a0).2 k) ∧ ∀ k : Nat, k < 0 → (vR1 k).toInt = R k)) (fun (u : Int32 × (Nat → Int32) × (Nat → Int32)) (t : State) => match u with | (la1, vR1, vZ1) => gH (dC, dI) kA (SHm q (wP wZ wN wH wB wC wL wK wU wV) PI im PM PT lS lB lE lN) G t.heap ∧ gF (dC, dI) SKm G ([(0, 77), (76, 0), (77, 0)] : List (Nat × Nat)) s.heap t.heap ∧ el t.heap o0 (dI 15 77) = some (.int la1) ∧ ct t.heap (q 75) 7 vR1 ∧ ct t.heap (q 76) 7 vZ1) A) #[.ref o0, .int 0, .int us, .int yr, .int ca, .int ic, .int su] s 0 0 A) (F0 m 93 ls []) := by
              intro n654
              induction n654 with
              | zero =>
                intro z520 z522 hv654 ⟨h521, h523, hj532⟩ H locs hT hF hS m524 m525 m526 m527 m528 m529 m530 m531 ls hl
                exfalso; have q9 := (show z522.toInt = z522.toInt from rfl); omega
              | succ n654 ih654 =>
                intro z520 z522 hv654 ⟨h521, h523, hj532⟩ H locs hT hF hS m524 m525 m526 m527 m528 m529 m530 m531 ls hl
                refine lv_iload hx hb dX12_orders_93 (lv_at hl 0 rfl) ?_
                refine lv_aload_n hx hb dX12_orders_95 rfl (lv_at hl 3 rfl) ?_
                refine tw_get hx hb hts bF_X12 hown hK hT hr_o0 shm_0 rfl 70 (by decide) (ht_at hts 1 rfl) (fun _ h9 => h9) dX12_orders_96 (fun v9 m655 h9 => ?_)
                obtain ⟨rfl, hg656⟩ := h9 _ rfl
                refine lv_iload hx hb dX12_orders_99 (lv_at hl 2 rfl) ?_
                refine tw_iald (i := (nI i9)) hx hb hK hT hg1 shm_71 rfl (vp_in_nI (by omega) (by decide)) dX12_orders_101 (fun v9 m657 h9 => ?_)
                obtain ⟨x658, rfl, gx658, kx658⟩ := h9
                have cx658 := m524.at m657 (by have q9 := tn_of (show (nI i9).toInt = ((i9 : Nat) : Int) from (nI_toInt (by omega))) (by omega); omega)
                have t659 : x658.toInt = (aC i9).toInt := congrArg Int32.toInt (cx658.trans (by rw [tn_nI (by omega)]))
                have t660 : 0 ≤ (aC i9).toInt ∧ (aC i9).toInt ≤ 1000000 := (hrg i9 (by omega)).1
                refine lv_icmp_ge (tgt := 126) hx hb dX12_orders_102 (by decide) (fun c661 => ?_) (fun c661 => ?_)
                · have t662 : x658.toInt ≤ z520.toInt := ti_le c661 rfl rfl
                  refine lv_iload hx hb dX12_orders_126 (lv_at hl 0 rfl) ?_
                  refine lv_aload_n hx hb dX12_orders_128 rfl (lv_at hl 3 rfl) ?_
                  refine tw_get hx hb hts bF_X12 hown hK hT hr_o0 shm_0 rfl 70 (by decide) (ht_at hts 1 rfl) (fun _ h9 => h9) dX12_orders_129 (fun v9 m663 h9 => ?_)
                  obtain ⟨rfl, hg664⟩ := h9 _ rfl
                  refine lv_iload hx hb dX12_orders_132 (lv_at hl 2 rfl) ?_
                  refine tw_iald (i := (nI i9)) hx hb hK hT hg1 shm_71 rfl (vp_in_nI (by omega) (by decide)) dX12_orders_134 (fun v9 m665 h9 => ?_)
                  obtain ⟨x666, rfl, gx666, kx666⟩ := h9
                  have cx666 := m524.at m665 (by have q9 := tn_of (show (nI i9).toInt = ((i9 : Nat) : Int) from (nI_toInt (by omega))) (by omega); omega)
                  obtain rfl : x658 = x666 := (el_same m665 m657 rfl).symm
                  refine lv_isub hx hb dX12_orders_135 ?_
                  refine lv_topi (fun x667 ex667 => ?_)
                  have t668 : x667.toInt = z520.toInt - x658.toInt := ti_sub ex667 rfl rfl (by omega) (by omega)
                  refine lv_istore (lv' := [(9, .int x667), (8, .int z522), (7, .int (nI i9)), (0, .ref o0), (1, .int 0), (2, .int us), (3, .int yr), (4, .int ca), (5, .int ic), (6, .int su)]) hx hb dX12_orders_136 hl (by decide) rfl (fun ls hl => ?_)
                  refine lv_iload hx hb dX12_orders_138 (lv_at hl 1 rfl) ?_
                  refine lv_aload_n hx hb dX12_orders_140 rfl (lv_at hl 3 rfl) ?_
                  refine tw_get hx hb hts bF_X12 hown hK hT hr_o0 shm_0 rfl 71 (by decide) (ht_at hts 2 rfl) (fun _ h9 => h9) dX12_orders_141 (fun v9 m669 h9 => ?_)
                  obtain ⟨rfl, hg670⟩ := h9 _ rfl
                  refine lv_iload hx hb dX12_orders_144 (lv_at hl 2 rfl) ?_
                  refine tw_iald (i := (nI i9)) hx hb hK hT hg2 shm_72 rfl (vp_in_nI (by omega) (by decide)) dX12_orders_146 (fun v9 m671 h9 => ?_)
                  obtain ⟨x672, rfl, gx672, kx672⟩ := h9
                  have cx672 := m525.at m671 (by have q9 := tn_of (show (nI i9).toInt = ((i9 : Nat) : Int) from (nI_toInt (by omega))) (by omega); omega)
                  have t673 : x672.toInt = (aY i9).toInt := congrArg Int32.toInt (cx672.trans (by rw [tn_nI (by omega)]))
                  have t674 : 1 ≤ (aY i9).toInt ∧ (aY i9).toInt ≤ 20 := (hrg i9 (by omega)).2.1
                  refine lv_iadd hx hb dX12_orders_147 ?_
                  refine lv_topi (fun x675 ex675 => ?_)
                  have t676 : x675.toInt = z522.toInt + x672.toInt := ti_add ex675 rfl rfl (by omega) (by omega)
                  refine lv_istore (lv' := [(8, .int x675), (9, .int x667), (7, .int (nI i9)), (0, .ref o0), (1, .int 0), (2, .int us), (3, .int yr), (4, .int ca), (5, .int ic), (6, .int su)]) hx hb dX12_orders_148 hl (by decide) rfl (fun ls hl => ?_)
                  refine lv_iload hx hb dX12_orders_150 (lv_at hl 1 rfl) ?_
                  refine lv_if_lt (tgt := 225) hx hb dX12_orders_152 (by decide) (fun c677 => ?_) (fun c677 => ?_)
                  · have t678 : x667.toInt < 0 := ti_lt c677 rfl (by decide)
                    refine lv_iinc (v := nI (i9 + 1)) (lv' := [(7, .int (nI (i9 + 1))), (8, .int x675), (9, .int x667), (0, .ref o0), (1, .int 0), (2, .int us), (3, .int yr), (4, .int ca), (5, .int ic), (6, .int su)]) hx hb dX12_orders_225 hl (k := 2) rfl (nI_add i9 1) (by decide) rfl (fun ls hl => ?_)
                    refine lv_goto (tgt := 64) hx hb dX12_orders_228 (by decide) ?_
                    have bk9 : z19.toInt = (slO N 0 aC aY aB aA (bt us) yr.toInt ca.toInt ic.toInt su.toInt R a0 (i9 + 1)).1 ∧ (0 ≤ (slO N 0 aC aY aB aA (bt us) yr.toInt ca.toInt ic.toInt su.toInt R a0 (i9 + 1)).1 → ∀ k : Nat, k < N → (V16 k).toInt = (slO N 0 aC aY aB aA (bt us) yr.toInt ca.toInt ic.toInt su.toInt R a0 (i9 + 1)).2 k) ∧ ∀ k : Nat, k < 0 → (V14 k).toInt = R k := by rw [sl_n (wt_none hj532 (by omega) (by omega))]; exact ⟨hj21, hj22, hj23⟩
                    exact ih399 (i9 + 1) (by omega) (by omega) V14 V16 z19 ⟨bk9.1, bk9.2.1, bk9.2.2, (by omega)⟩ _ _ hT hF hS m524 m525 m526 m527 m528 m529 m530 m531 ls (lv_sub hl [0, 3, 4, 5, 6, 7, 8, 9] rfl)
                  · have t679 : 0 ≤ x667.toInt := ti_nlt c677 rfl (by decide)
                    refine lv_iload hx hb dX12_orders_155 (lv_at hl 0 rfl) ?_
                    refine lv_sipush (v := 200) hx hb dX12_orders_157 (by decide) ?_
                    refine lv_icmp_le (tgt := 166) hx hb dX12_orders_160 (by decide) (fun c680 => ?_) (fun c680 => ?_)
                    · have t681 : x675.toInt ≤ 200 := ti_le c680 rfl (by decide)
                      refine lv_aload_n hx hb dX12_orders_166 rfl (lv_at hl 3 rfl) ?_
                      refine tw_get hx hb hts bF_X12 hown hK hT hr_o0 shm_0 rfl 75 (by decide) (ht_at hts 3 rfl) (fun _ h9 => h9) dX12_orders_167 (fun v9 m682 h9 => ?_)
                      obtain ⟨rfl, hg683⟩ := h9 _ rfl
                      refine lv_iload_n hx hb dX12_orders_170 rfl (lv_at hl 4 rfl) ?_
                      refine lv_iload hx hb dX12_orders_171 (lv_at hl 2 rfl) ?_
                      refine tw_iast (i := 0) (x := (nI i9)) hx hb hK hT hG hS hg5 shm_76 rfl (by unfold vp_in; decide) (gi_all _) dX12_orders_173 (fun H locs hT oq m684 oi hS => ?_)
                      have hF := hF.ast hg5 skm_76 oq (by decide)
                      have m685 := m524.kept (oq _ (gne hg1 hg5 (by decide)))
                      have m686 := m525.kept (oq _ (gne hg2 hg5 (by decide)))
                      have m687 := m526.kept (oq _ (gne hg3 hg5 (by decide)))
                      have m688 := m527.kept (oq _ (gne hg4 hg5 (by decide)))
                      have m689 := m528.put m684 oi
                      have m690 := m529.kept (oq _ (gne hg6 hg5 (by decide)))
                      have m691 := (el_kept (oq _ (gne hr_o0 hg5 (by decide)))).trans m530
                      have m692 := (el_kept (oq _ (gne hr_o0 hg5 (by decide)))).trans m531
                      have m693 := (el_kept (oq _ (gne hg1 hg5 (by decide)))).trans m657
                      have m694 := (el_kept (oq _ (gne hg2 hg5 (by decide)))).trans m671
                      refine lv_aload_n hx hb dX12_orders_174 rfl (lv_at hl 3 rfl) ?_
                      refine lv_iload_n hx hb dX12_orders_175 rfl (lv_at hl 4 rfl) ?_
                      refine lv_iconst (v := 1) hx hb dX12_orders_176 (by decide) ?_
                      refine lv_iadd hx hb dX12_orders_177 ?_
                      refine lv_topi (fun x695 ex695 => ?_)
                      obtain rfl : x695 = 1 := ex695.trans (by decide)
                      refine lv_iload_n hx hb dX12_orders_178 rfl (lv_at hl 5 rfl) ?_
                      refine lv_iconst (v := 1) hx hb dX12_orders_179 (by decide) ?_
                      refine lv_iload hx hb dX12_orders_180 (lv_at hl 2 rfl) ?_
                      refine lv_ishl hx hb dX12_orders_182 ?_
                      refine lv_topi (fun x696 ex696 => ?_)
                      refine lv_ior hx hb dX12_orders_183 ?_
                      refine lv_topi (fun x697 ex697 => ?_)
                      refine lv_iload hx hb dX12_orders_184 (lv_at hl 0 rfl) ?_
                      refine lv_iload hx hb dX12_orders_186 (lv_at hl 1 rfl) ?_
                      refine lv_iload hx hb dX12_orders_188 (lv_at hl 8 rfl) ?_
                      refine lv_aload_n hx hb dX12_orders_190 rfl (lv_at hl 3 rfl) ?_
                      refine tw_get hx hb hts bF_X12 hown hK hT hr_o0 shm_0 rfl 71 (by decide) (ht_at hts 2 rfl) (fun _ h9 => h9) dX12_orders_191 (fun v9 m698 h9 => ?_)
                      obtain ⟨rfl, hg699⟩ := h9 _ rfl
                      refine lv_iload hx hb dX12_orders_194 (lv_at hl 2 rfl) ?_
                      refine tw_iald (i := (nI i9)) hx hb hK hT hg2 shm_72 rfl (vp_in_nI (by omega) (by decide)) dX12_orders_196 (fun v9 m700 h9 => ?_)
                      obtain ⟨x701, rfl, gx701, kx701⟩ := h9
                      have cx701 := m686.at m700 (by have q9 := tn_of (show (nI i9).toInt = ((i9 : Nat) : Int) from (nI_toInt (by omega))) (by omega); omega)
                      obtain rfl : x672 = x701 := (el_same m700 m694 rfl).symm
                      refine lv_imul hx hb dX12_orders_197 ?_
                      refine lv_topi (fun x702 ex702 => ?_)
                      have t703 : x702.toInt = ic.toInt * x672.toInt := ti_mulx ex702 rfl rfl (A := 0) (B := 20) (by omega) (by omega) (by omega) (by omega) (by decide)
                      have t704 : 0 ≤ x702.toInt ∧ x702.toInt ≤ 0 * 20 ∧ (ic.toInt = 0 → x702.toInt = 0) ∧ (x672.toInt = 0 → x702.toInt = 0) ∧ x702.toInt ≤ ic.toInt * 20 ∧ x702.toInt ≤ 0 * x672.toInt := ti_mulnn ex702 rfl rfl (by omega) (by omega) (by omega) (by omega) (by decide)
                      refine lv_iadd hx hb dX12_orders_198 ?_
                      refine lv_topi (fun x705 ex705 => ?_)
                      have t706 : x705.toInt = x667.toInt + x702.toInt := ti_add ex705 rfl rfl (by omega) (by omega)
                      refine lv_iload hx hb dX12_orders_199 (lv_at hl 8 rfl) ?_
                      refine lv_aload_n hx hb dX12_orders_201 rfl (lv_at hl 3 rfl) ?_
                      refine tw_get hx hb hts bF_X12 hown hK hT hr_o0 shm_0 rfl 72 (by decide) (ht_at hts 4 rfl) (fun _ h9 => h9) dX12_orders_202 (fun v9 m707 h9 => ?_)
                      obtain ⟨rfl, hg708⟩ := h9 _ rfl
                      refine lv_iload hx hb dX12_orders_205 (lv_at hl 2 rfl) ?_
                      refine tw_iald (i := (nI i9)) hx hb hK hT hg3 shm_73 rfl (vp_in_nI (by omega) (by decide)) dX12_orders_207 (fun v9 m709 h9 => ?_)
                      obtain ⟨x710, rfl, gx710, kx710⟩ := h9
                      have cx710 := m687.at m709 (by have q9 := tn_of (show (nI i9).toInt = ((i9 : Nat) : Int) from (nI_toInt (by omega))) (by omega); omega)
                      have t711 : x710.toInt = (aB i9).toInt := congrArg Int32.toInt (cx710.trans (by rw [tn_nI (by omega)]))
                      have t712 : 0 ≤ (aB i9).toInt ∧ (aB i9).toInt ≤ 100000 := (hrg i9 (by omega)).2.2.1
                      refine lv_iadd hx hb dX12_orders_208 ?_
                      refine lv_topi (fun x713 ex713 => ?_)
                      have t714 : x713.toInt = ic.toInt + x710.toInt := ti_add ex713 rfl rfl (by omega) (by omega)
                      refine lv_iload hx hb dX12_orders_209 (lv_at hl 9 rfl) ?_
                      refine lv_aload_n hx hb dX12_orders_211 rfl (lv_at hl 3 rfl) ?_
                      refine tw_get hx hb hts bF_X12 hown hK hT hr_o0 shm_0 rfl 73 (by decide) (ht_at hts 5 rfl) (fun _ h9 => h9) dX12_orders_212 (fun v9 m715 h9 => ?_)
                      obtain ⟨rfl, hg716⟩ := h9 _ rfl
                      refine lv_iload hx hb dX12_orders_215 (lv_at hl 2 rfl) ?_
                      refine tw_iald (i := (nI i9)) hx hb hK hT hg4 shm_74 rfl (vp_in_nI (by omega) (by decide)) dX12_orders_217 (fun v9 m717 h9 => ?_)
                      obtain ⟨x718, rfl, gx718, kx718⟩ := h9
                      have cx718 := m688.at m717 (by have q9 := tn_of (show (nI i9).toInt = ((i9 : Nat) : Int) from (nI_toInt (by omega))) (by omega); omega)
                      have t719 : x718.toInt = (aA i9).toInt := congrArg Int32.toInt (cx718.trans (by rw [tn_nI (by omega)]))
                      have t720 : 0 ≤ (aA i9).toInt ∧ (aA i9).toInt ≤ 1000 := (hrg i9 (by omega)).2.2.2
                      refine lv_iload hx hb dX12_orders_218 (lv_at hl 0 rfl) ?_
                      refine lv_imul hx hb dX12_orders_220 ?_
                      refine lv_topi (fun x721 ex721 => ?_)
                      have t722 : x721.toInt = x718.toInt * x675.toInt := ti_mulx ex721 rfl rfl (A := 1000) (B := 200) (by omega) (by omega) (by omega) (by omega) (by decide)
                      have t723 : 0 ≤ x721.toInt ∧ x721.toInt ≤ 1000 * 200 ∧ (x718.toInt = 0 → x721.toInt = 0) ∧ (x675.toInt = 0 → x721.toInt = 0) ∧ x721.toInt ≤ x718.toInt * 200 ∧ x721.toInt ≤ 1000 * x675.toInt := ti_mulnn ex721 rfl rfl (by omega) (by omega) (by omega) (by omega) (by decide)
                      refine lv_iadd hx hb dX12_orders_221 ?_
                      refine lv_topi (fun x724 ex724 => ?_)
                      have t725 : x724.toInt = su.toInt + x721.toInt := ti_add ex724 rfl rfl (by omega) (by omega)
                      have hFc := gA_free hG hA hS
                      refine va_callv (va_runV (As := [.int 1, .int x697, .int x675, .int x705, .int x713, .int x724]) (rest := []) ⟨hx, hb, hml, hown, hts⟩ (s_ordersC1 l dC dI kA adK adV G H q wZ wN wH wB wC wL wK wU wV PI im PM PT lS lB lE lN o0 x697 x675 x705 x713 x724 jb z19 aC aY aB aA (cu V14 (0 : Int32).toNatClampNeg (nI i9)) V16 N (fun k => if k = 0 then ((i9 : Nat) : Int) else R k) (slO N 0 aC aY aB aA (bt us) yr.toInt ca.toInt ic.toInt su.toInt R a0 i9) hT hr_o0 m691 m692 (by have q8 := ti_all x675; omega) (by have q8 := ti_all x705; omega) (by have q8 := ti_all x713; omega) (by have q8 := ti_all x724; omega) (by have q8 := ti_all jb; omega) hN hrg hj21 hj22 (rr_s (K := 0) rfl (by decide) (nI_toInt (by omega)) hj23) m685 m686 m687 m688 m689 m690 hgz hgn hgh hgb hgc hgi hgu) (cwV 6 hts (goodIn_app (goodIn_r _ [10, 11, 12, 13] rfl (by decide +kernel)) (goodIn_ca (goodIn_r _ [7, 1, 2, 3, 4, 5, 6, 7, 8, 9, 10, 11, 12, 13] rfl (by decide +kernel)) (bs_in _ _))) rfl rfl rfl (by decide +kernel) ⟨(Nat.le_of_ble_eq_true rfl), (Nat.le_of_ble_eq_true rfl)⟩) ⟨fun a U g mk q => by obtain ⟨q0, q1, qK, qE⟩ := q; exact ⟨q0, q1, va_K.moved (u := U) (U := U.calling g mk a) (Vm.Alike.refl U.vm) qK, EVS.blind g mk a qE⟩, gH_recv hK hT hr_o0 shm_0 rfl, fun U hU hW => ⟨rfl, hU, va_K.moved hW.alike hK, hE.call hS hFc hU hW⟩⟩ rfl rfl hl.1 rfl (lv_room (Nat.le_of_ble_eq_true rfl)) dX12_orders_222 ⟨(Nat.le_of_ble_eq_true rfl), (Nat.le_of_ble_eq_true rfl)⟩) hS (fun q _ h => hFc q h) hFc (fun u t H locs ht hvm hw727 hB _ _ hS => ?_)
                      obtain ⟨u728, u729, u730⟩ := u
                      obtain ⟨hT, hF1, m731, m732, m733⟩ := hB
                      rw [ht] at hT hF1 m731 m732 m733
                      have m734 := m685.kept (hF1.arr hg1 skm_71 (by decide))
                      have m735 := m686.kept (hF1.arr hg2 skm_72 (by decide))
                      have m736 := m687.kept (hF1.arr hg3 skm_73 (by decide))
                      have m737 := m688.kept (hF1.arr hg4 skm_74 (by decide))
                      have m740 := (hF1.fld hr_o0 skm_0 (k := 74) (by decide) (by decide)).trans m691
                      have m742 := (el_kept (hF1.arr hg1 skm_71 (by decide))).trans m693
                      have m743 := (el_kept (hF1.arr hg2 skm_72 (by decide))).trans m694
                      have m745 := (el_kept (hF1.arr hg3 skm_73 (by decide))).trans m709
                      have m746 := (el_kept (hF1.arr hg4 skm_74 (by decide))).trans m717
                      have hF := hF.more hF1 (by decide)
                      try dsimp only at hw727
                      have hf747 := hw727
                      refine lv_iinc (v := nI (i9 + 1)) (lv' := [(7, .int (nI (i9 + 1))), (8, .int x675), (9, .int x667), (0, .ref o0), (1, .int 0), (2, .int us), (3, .int yr), (4, .int ca), (5, .int ic), (6, .int su)]) hx hb dX12_orders_225 hl (k := 2) rfl (nI_add i9 1) (by decide) rfl (fun ls hl => ?_)
                      refine lv_goto (tgt := 64) hx hb dX12_orders_228 (by decide) ?_
                      have bk9 : u728.toInt = (slO N 0 aC aY aB aA (bt us) yr.toInt ca.toInt ic.toInt su.toInt R a0 (i9 + 1)).1 ∧ (0 ≤ (slO N 0 aC aY aB aA (bt us) yr.toInt ca.toInt ic.toInt su.toInt R a0 (i9 + 1)).1 → ∀ k : Nat, k < N → (u730 k).toInt = (slO N 0 aC aY aB aA (bt us) yr.toInt ca.toInt ic.toInt su.toInt R a0 (i9 + 1)).2 k) ∧ ∀ k : Nat, k < 0 → (u729 k).toInt = R k := by have q9 := hf747; rw [sl_call (N := N) (K := 0) (K1 := 1) (aC := aC) (aY := aY) (aB := aB) (aA := aA) (U := bt us) (yr := yr.toInt) (ca := ca.toInt) (ic := ic.toInt) (su := su.toInt) (R := R) (a := a0) (i := i9) (d := x675.toInt) (c1 := x705.toInt) (i1 := x713.toInt) (s1 := x724.toInt) (U1 := bt x697) rfl (hbt.2 (by omega)) (wt_some hj532 (by omega) (by omega) (by omega)) (bt_or (by omega) ex696 ex697) (by have q8 := wt_cash (d := x675.toInt) (z := x702.toInt) (last := x672.toInt) hj532 (by omega) (by omega); omega) (by omega) (by rw [show (aA i9).toInt = x718.toInt from by omega]; omega)] at q9; exact ⟨q9.1, q9.2.1, fun k hk => (q9.2.2 k (by omega)).trans (if_neg (by omega))⟩
                      exact ih399 (i9 + 1) (by omega) (by omega) u729 u730 u728 ⟨bk9.1, bk9.2.1, bk9.2.2, (by omega)⟩ _ _ hT hF hS m734 m735 m736 m737 m732 m733 m740 m731 ls (lv_sub hl [0, 3, 4, 5, 6, 7, 8, 9] rfl)
                    · have t748 : 200 < x675.toInt := ti_nle c680 rfl (by decide)
                      refine lv_goto (tgt := 225) hx hb dX12_orders_163 (by decide) ?_
                      refine lv_iinc (v := nI (i9 + 1)) (lv' := [(7, .int (nI (i9 + 1))), (8, .int x675), (9, .int x667), (0, .ref o0), (1, .int 0), (2, .int us), (3, .int yr), (4, .int ca), (5, .int ic), (6, .int su)]) hx hb dX12_orders_225 hl (k := 2) rfl (nI_add i9 1) (by decide) rfl (fun ls hl => ?_)
                      refine lv_goto (tgt := 64) hx hb dX12_orders_228 (by decide) ?_
                      have bk9 : z19.toInt = (slO N 0 aC aY aB aA (bt us) yr.toInt ca.toInt ic.toInt su.toInt R a0 (i9 + 1)).1 ∧ (0 ≤ (slO N 0 aC aY aB aA (bt us) yr.toInt ca.toInt ic.toInt su.toInt R a0 (i9 + 1)).1 → ∀ k : Nat, k < N → (V16 k).toInt = (slO N 0 aC aY aB aA (bt us) yr.toInt ca.toInt ic.toInt su.toInt R a0 (i9 + 1)).2 k) ∧ ∀ k : Nat, k < 0 → (V14 k).toInt = R k := by rw [sl_n (wt_none hj532 (by omega) (by omega))]; exact ⟨hj21, hj22, hj23⟩
                      exact ih399 (i9 + 1) (by omega) (by omega) V14 V16 z19 ⟨bk9.1, bk9.2.1, bk9.2.2, (by omega)⟩ _ _ hT hF hS m524 m525 m526 m527 m528 m529 m530 m531 ls (lv_sub hl [0, 3, 4, 5, 6, 7, 8, 9] rfl)
                · have t749 : z520.toInt < x658.toInt := ti_nle c661 rfl rfl
                  refine lv_iload hx hb dX12_orders_105 (lv_at hl 1 rfl) ?_
                  refine lv_sipush (v := 200) hx hb dX12_orders_107 (by decide) ?_
                  refine lv_icmp_gt (tgt := 126) hx hb dX12_orders_110 (by decide) (fun c750 => ?_) (fun c750 => ?_)
                  · have t751 : 200 < z522.toInt := ti_lt c750 (by decide) rfl
                    refine lv_iload hx hb dX12_orders_126 (lv_at hl 0 rfl) ?_
                    refine lv_aload_n hx hb dX12_orders_128 rfl (lv_at hl 3 rfl) ?_
                    refine tw_get hx hb hts bF_X12 hown hK hT hr_o0 shm_0 rfl 70 (by decide) (ht_at hts 1 rfl) (fun _ h9 => h9) dX12_orders_129 (fun v9 m752 h9 => ?_)
                    obtain ⟨rfl, hg753⟩ := h9 _ rfl
                    refine lv_iload hx hb dX12_orders_132 (lv_at hl 2 rfl) ?_
                    refine tw_iald (i := (nI i9)) hx hb hK hT hg1 shm_71 rfl (vp_in_nI (by omega) (by decide)) dX12_orders_134 (fun v9 m754 h9 => ?_)
                    obtain ⟨x755, rfl, gx755, kx755⟩ := h9
                    have cx755 := m524.at m754 (by have q9 := tn_of (show (nI i9).toInt = ((i9 : Nat) : Int) from (nI_toInt (by omega))) (by omega); omega)
                    obtain rfl : x658 = x755 := (el_same m754 m657 rfl).symm
                    refine lv_isub hx hb dX12_orders_135 ?_
                    refine lv_topi (fun x756 ex756 => ?_)
                    have t757 : x756.toInt = z520.toInt - x658.toInt := ti_sub ex756 rfl rfl (by omega) (by omega)
                    refine lv_istore (lv' := [(9, .int x756), (8, .int z522), (7, .int (nI i9)), (0, .ref o0), (1, .int 0), (2, .int us), (3, .int yr), (4, .int ca), (5, .int ic), (6, .int su)]) hx hb dX12_orders_136 hl (by decide) rfl (fun ls hl => ?_)
                    refine lv_iload hx hb dX12_orders_138 (lv_at hl 1 rfl) ?_
                    refine lv_aload_n hx hb dX12_orders_140 rfl (lv_at hl 3 rfl) ?_
                    refine tw_get hx hb hts bF_X12 hown hK hT hr_o0 shm_0 rfl 71 (by decide) (ht_at hts 2 rfl) (fun _ h9 => h9) dX12_orders_141 (fun v9 m758 h9 => ?_)
                    obtain ⟨rfl, hg759⟩ := h9 _ rfl
                    refine lv_iload hx hb dX12_orders_144 (lv_at hl 2 rfl) ?_
                    refine tw_iald (i := (nI i9)) hx hb hK hT hg2 shm_72 rfl (vp_in_nI (by omega) (by decide)) dX12_orders_146 (fun v9 m760 h9 => ?_)
                    obtain ⟨x761, rfl, gx761, kx761⟩ := h9
                    have cx761 := m525.at m760 (by have q9 := tn_of (show (nI i9).toInt = ((i9 : Nat) : Int) from (nI_toInt (by omega))) (by omega); omega)
                    have t762 : x761.toInt = (aY i9).toInt := congrArg Int32.toInt (cx761.trans (by rw [tn_nI (by omega)]))
                    have t763 : 1 ≤ (aY i9).toInt ∧ (aY i9).toInt ≤ 20 := (hrg i9 (by omega)).2.1
                    refine lv_iadd hx hb dX12_orders_147 ?_
                    refine lv_topi (fun x764 ex764 => ?_)
                    have t765 : x764.toInt = z522.toInt + x761.toInt := ti_add ex764 rfl rfl (by omega) (by omega)
                    refine lv_istore (lv' := [(8, .int x764), (9, .int x756), (7, .int (nI i9)), (0, .ref o0), (1, .int 0), (2, .int us), (3, .int yr), (4, .int ca), (5, .int ic), (6, .int su)]) hx hb dX12_orders_148 hl (by decide) rfl (fun ls hl => ?_)
                    refine lv_iload hx hb dX12_orders_150 (lv_at hl 1 rfl) ?_
                    refine lv_if_lt (tgt := 225) hx hb dX12_orders_152 (by decide) (fun c766 => ?_) (fun c766 => ?_)
                    · have t767 : x756.toInt < 0 := ti_lt c766 rfl (by decide)
                      refine lv_iinc (v := nI (i9 + 1)) (lv' := [(7, .int (nI (i9 + 1))), (8, .int x764), (9, .int x756), (0, .ref o0), (1, .int 0), (2, .int us), (3, .int yr), (4, .int ca), (5, .int ic), (6, .int su)]) hx hb dX12_orders_225 hl (k := 2) rfl (nI_add i9 1) (by decide) rfl (fun ls hl => ?_)
                      refine lv_goto (tgt := 64) hx hb dX12_orders_228 (by decide) ?_
                      have bk9 : z19.toInt = (slO N 0 aC aY aB aA (bt us) yr.toInt ca.toInt ic.toInt su.toInt R a0 (i9 + 1)).1 ∧ (0 ≤ (slO N 0 aC aY aB aA (bt us) yr.toInt ca.toInt ic.toInt su.toInt R a0 (i9 + 1)).1 → ∀ k : Nat, k < N → (V16 k).toInt = (slO N 0 aC aY aB aA (bt us) yr.toInt ca.toInt ic.toInt su.toInt R a0 (i9 + 1)).2 k) ∧ ∀ k : Nat, k < 0 → (V14 k).toInt = R k := by rw [sl_n (wt_none hj532 (by omega) (by omega))]; exact ⟨hj21, hj22, hj23⟩
                      exact ih399 (i9 + 1) (by omega) (by omega) V14 V16 z19 ⟨bk9.1, bk9.2.1, bk9.2.2, (by omega)⟩ _ _ hT hF hS m524 m525 m526 m527 m528 m529 m530 m531 ls (lv_sub hl [0, 3, 4, 5, 6, 7, 8, 9] rfl)
                    · have t768 : 0 ≤ x756.toInt := ti_nlt c766 rfl (by decide)
                      refine lv_iload hx hb dX12_orders_155 (lv_at hl 0 rfl) ?_
                      refine lv_sipush (v := 200) hx hb dX12_orders_157 (by decide) ?_
                      refine lv_icmp_le (tgt := 166) hx hb dX12_orders_160 (by decide) (fun c769 => (by exfalso; have q9 : x764.toInt ≤ 200 := ti_le c769 rfl (by decide); omega)) (fun c769 => ?_)
                      have t770 : 200 < x764.toInt := ti_nle c769 rfl (by decide)
                      refine lv_goto (tgt := 225) hx hb dX12_orders_163 (by decide) ?_
                      refine lv_iinc (v := nI (i9 + 1)) (lv' := [(7, .int (nI (i9 + 1))), (8, .int x764), (9, .int x756), (0, .ref o0), (1, .int 0), (2, .int us), (3, .int yr), (4, .int ca), (5, .int ic), (6, .int su)]) hx hb dX12_orders_225 hl (k := 2) rfl (nI_add i9 1) (by decide) rfl (fun ls hl => ?_)
                      refine lv_goto (tgt := 64) hx hb dX12_orders_228 (by decide) ?_
                      have bk9 : z19.toInt = (slO N 0 aC aY aB aA (bt us) yr.toInt ca.toInt ic.toInt su.toInt R a0 (i9 + 1)).1 ∧ (0 ≤ (slO N 0 aC aY aB aA (bt us) yr.toInt ca.toInt ic.toInt su.toInt R a0 (i9 + 1)).1 → ∀ k : Nat, k < N → (V16 k).toInt = (slO N 0 aC aY aB aA (bt us) yr.toInt ca.toInt ic.toInt su.toInt R a0 (i9 + 1)).2 k) ∧ ∀ k : Nat, k < 0 → (V14 k).toInt = R k := by rw [sl_n (wt_none hj532 (by omega) (by omega))]; exact ⟨hj21, hj22, hj23⟩
                      exact ih399 (i9 + 1) (by omega) (by omega) V14 V16 z19 ⟨bk9.1, bk9.2.1, bk9.2.2, (by omega)⟩ _ _ hT hF hS m524 m525 m526 m527 m528 m529 m530 m531 ls (lv_sub hl [0, 3, 4, 5, 6, 7, 8, 9] rfl)
                  · have t771 : z522.toInt ≤ 200 := ti_nlt c750 (by decide) rfl
                    obtain ⟨x772, ex772⟩ : ∃ y : Int32, y = z522 + 1 := ⟨_, rfl⟩
                    have t773 : x772.toInt = z522.toInt + 1 := ti_add ex772 rfl (by decide) (by omega) (by omega)
                    refine lv_iinc (v := x772) (lv' := [(8, .int x772), (9, .int z520), (7, .int (nI i9)), (0, .ref o0), (1, .int 0), (2, .int us), (3, .int yr), (4, .int ca), (5, .int ic), (6, .int su)]) hx hb dX12_orders_113 hl (k := 1) rfl (by first | (rw [ex772]; done) | (rw [ex772]; rfl)) (by decide) rfl (fun ls hl => ?_)
                    refine lv_iload hx hb dX12_orders_116 (lv_at hl 1 rfl) ?_
                    refine lv_iload hx hb dX12_orders_118 (lv_at hl 8 rfl) ?_
                    refine lv_iadd hx hb dX12_orders_120 ?_
                    refine lv_topi (fun x774 ex774 => ?_)
                    have t775 : x774.toInt = z520.toInt + ic.toInt := ti_add ex774 rfl rfl (by omega) (by omega)
                    refine lv_istore (lv' := [(9, .int x774), (8, .int x772), (7, .int (nI i9)), (0, .ref o0), (1, .int 0), (2, .int us), (3, .int yr), (4, .int ca), (5, .int ic), (6, .int su)]) hx hb dX12_orders_121 hl (by decide) rfl (fun ls hl => ?_)
                    refine lv_goto (tgt := 93) hx hb dX12_orders_123 (by decide) ?_
                    exact ih654 x774 x772 (by have q9 := (show x772.toInt = x772.toInt from rfl); omega) ⟨(by have q8 := ti_all x774; omega), (by have q8 := ti_all x772; omega), (wt_s hj532 (by omega) (by omega) (by omega))⟩ _ _ hT hF hS m524 m525 m526 m527 m528 m529 m530 m531 ls (lv_sub hl [0, 1, 2, 3, 4, 5, 6, 7, 8, 9] rfl)
            exact key654 401 ca yr (by have q9 := (show yr.toInt = yr.toInt from rfl); omega) ⟨(by have q8 := ti_all ca; omega), (by have q8 := ti_all yr; omega), (wt_0 (by omega) (by omega))⟩ _ _ hT hF hS m10 m11 m12 m13 m15 m17 m18 m20 ls (lv_sub hl [0, 1, 2, 3, 4, 5, 6, 7, 8, 9] rfl)
          · have t776 : x407.toInt = 1 := ti_eq c408 rfl (by decide)
            refine lv_goto (tgt := 225) hx hb dX12_orders_83 (by decide) ?_
            refine lv_iinc (v := nI (i9 + 1)) (lv' := [(7, .int (nI (i9 + 1))), (0, .ref o0), (1, .int 0), (2, .int us), (3, .int yr), (4, .int ca), (5, .int ic), (6, .int su)]) hx hb dX12_orders_225 hl (k := 0) rfl (nI_add i9 1) (by decide) rfl (fun ls hl => ?_)
            refine lv_goto (tgt := 64) hx hb dX12_orders_228 (by decide) ?_
            have bk9 : z19.toInt = (slO N 0 aC aY aB aA (bt us) yr.toInt ca.toInt ic.toInt su.toInt R a0 (i9 + 1)).1 ∧ (0 ≤ (slO N 0 aC aY aB aA (bt us) yr.toInt ca.toInt ic.toInt su.toInt R a0 (i9 + 1)).1 → ∀ k : Nat, k < N → (V16 k).toInt = (slO N 0 aC aY aB aA (bt us) yr.toInt ca.toInt ic.toInt su.toInt R a0 (i9 + 1)).2 k) ∧ ∀ k : Nat, k < 0 → (V14 k).toInt = R k := by rw [sl_u (hbt.1 (by omega))]; exact ⟨hj21, hj22, hj23⟩
            exact ih399 (i9 + 1) (by omega) (by omega) V14 V16 z19 ⟨bk9.1, bk9.2.1, bk9.2.2, (by omega)⟩ _ _ hT hF hS m10 m11 m12 m13 m15 m17 m18 m20 ls (lv_sub hl [0, 1, 2, 3, 4, 5, 6, 7] rfl)
    exact key399 (7 - 0) 0 (by omega) (Nat.le_refl _) vR vZ la ⟨hla, hZ0, hR, (by omega)⟩ _ _ hT hF hS hc_aC hc_aY hc_aB hc_aA hc_vR hc_vZ hm_jb hm_la ls (lv_sub hl [0, 1, 2, 3, 4, 5, 6, 7] rfl)
  · have t777 : 0 = jb.toInt := ti_eq c7 (by decide) rfl
    refine lv_aload_n hx hb dX12_orders_8 rfl (lv_at hl 0 rfl) ?_
    refine tw_getM (v := .int la) hx hb hts bF_X12 hown hK hT hr_o0 shm_0 rfl 77 (by decide) (ht_at hts 7 rfl) (fun _ h9 => h9) hm_la dX12_orders_9 ?_
    refine lv_if_lt (tgt := 25) hx hb dX12_orders_12 (by decide) (fun c778 => ?_) (fun c778 => ?_)
    · have t779 : la.toInt < 0 := ti_lt c778 rfl (by decide)
      refine lv_aload_n hx hb dX12_orders_25 rfl (lv_at hl 0 rfl) ?_
      refine lv_iload hx hb dX12_orders_26 (lv_at hl 6 rfl) ?_
      refine tw_put (v := .int su) (ty := .int) hx hb hts bF_X12 tyX12 tyX12_ok nmX12 hown hK hT hG hS hr_o0 shm_0 rfl 77 (by decide) (ht_at hts 7 rfl) (fun _ h9 => h9) rfl (by decide +kernel) rfl rfl (gl_at rfl (gi_all _)) dX12_orders_28 (fun H locs hT oq m780 oj hS => ?_)
      have hF := hF.put hr_o0 skm_0 oq oj (by decide)
      have m781 := (oj 74 (by decide) (by decide)).trans hm_jb
      have m782 := hc_aC.kept (oq _ (gne hg1 hr_o0 (by decide)))
      have m783 := hc_aY.kept (oq _ (gne hg2 hr_o0 (by decide)))
      have m784 := hc_aB.kept (oq _ (gne hg3 hr_o0 (by decide)))
      have m785 := hc_aA.kept (oq _ (gne hg4 hr_o0 (by decide)))
      have m786 := hc_vR.kept (oq _ (gne hg5 hr_o0 (by decide)))
      have m787 := hc_vZ.kept (oq _ (gne hg6 hr_o0 (by decide)))
      refine lv_iconst (v := 0) hx hb dX12_orders_31 (by decide) ?_
      refine lv_istore (lv' := [(7, .int 0), (0, .ref o0), (1, .int 0), (2, .int us), (3, .int yr), (4, .int ca), (5, .int ic), (6, .int su)]) hx hb dX12_orders_32 hl (by decide) rfl (fun ls hl => ?_)
      have key801 : ∀ (n801 i788 : Nat), i788 + n801 = 0 → 0 ≤ i788 → ∀ (V794 : Nat → Int32), ((∀ k : Nat, k < i788 → (V794 k).toInt = R k)) → ∀ (H : Heap) (locs : List Loc), gH (dC, dI) kA (SHm q (wP wZ wN wH wB wC wL wK wU wV) PI im PM PT lS lB lE lN) G H → gF (dC, dI) SKm G ([(0, 77), (76, 0), (77, 0)] : List (Nat × Nat)) s.heap H → va_S A s.heap H locs → ct H (q 70) 7 aC → ct H (q 71) 7 aY → ct H (q 72) 7 aB → ct H (q 73) 7 aA → ct H (q 75) 7 vR → ct H (q 76) 7 V794 → el H o0 (dI 15 74) = some (.int jb) → el H o0 (dI 15 77) = some (.int su) → ∀ ls : Array Slot, lv_has ls 10 [(7, .int (nI i788)), (0, .ref o0), (1, .int 0), (2, .int us), (3, .int yr), (4, .int ca), (5, .int ic), (6, .int su)] → W p l e (headSpec w_s_ordersC0 ({ frames := 7, cells := 0, slots := 0, locals := 203 })).room s m #[.ref o0, .int 0, .int us, .int yr, .int ca, .int ic, .int su] below meth c H locs 0 0 (MQ below (va_Qv (fun (u : Int32 × (Nat → Int32) × (Nat → Int32)) => match u with | (la1, vR1, vZ1) => (la1.toInt = (sx N 0 aC aY aB aA (bt us) yr.toInt ca.toInt ic.toInt su.toInt R a0).1 ∧ (0 ≤ (sx N 0 aC aY aB aA (bt us) yr.toInt ca.toInt ic.toInt su.toInt R a0).1 → ∀ k : Nat, k < N → (vZ1 k).toInt = (sx N 0 aC aY aB aA (bt us) yr.toInt ca.toInt ic.toInt su.toInt R a0).2 k) ∧ ∀ k : Nat, k < 0 → (vR1 k).toInt = R k)) (fun (u : Int32 × (Nat → Int32) × (Nat → Int32)) (t : State) => match u with | (la1, vR1, vZ1) => gH (dC, dI) kA (SHm q (wP wZ wN wH wB wC wL wK wU wV) PI im PM PT lS lB lE lN) G t.heap ∧ gF (dC, dI) SKm G ([(0, 77), (76, 0), (77, 0)] : List (Nat × Nat)) s.heap t.heap ∧ el t.heap o0 (dI 15 77) = some (.int la1) ∧ ct t.heap (q 75) 7 vR1 ∧ ct t.heap (q 76) 7 vZ1) A) #[.ref o0, .int 0, .int us, .int yr, .int ca, .int ic, .int su] s 0 0 A) (F0 m 34 ls []) := by
        intro n801
        induction n801 with
        | zero =>
          intro i788 hn801 hlo802 V794 hj798 H locs hT hF hS m789 m790 m791 m792 m793 m795 m796 m797 ls hl
          obtain rfl : 0 = i788 := by omega
          refine lv_iload hx hb dX12_orders_34 (lv_at hl 0 rfl) ?_
          refine lv_iload_n hx hb dX12_orders_36 rfl (lv_at hl 2 rfl) ?_
          refine lv_icmp_ge (tgt := 60) hx hb dX12_orders_37 (by decide) (fun c803 => ?_) (fun c803 => (by exfalso; have q9 : ((0 : Nat) : Int) < 0 := ti_nle c803 (by decide) (nI_toInt (by omega)); omega))
          have t804 : 0 ≤ ((0 : Nat) : Int) := ti_le c803 (by decide) (nI_toInt (by omega))
          exact W.vret hx hb hr (fun t ht hW => ⟨⟨(su, vR, V794), rfl, (by exact (by (try dsimp only); have e9 : N = 0 := (by omega); rw [sx_0 e9, if_neg (by omega)]; exact ⟨rfl, fun _ k hk => hj798 k (by omega), hR⟩)), by (try dsimp only); rw [ht]; exact ⟨hT, hF, m797, m793, m795⟩⟩, hS.F ht⟩) hS.2.2 dX12_orders_60
        | succ n801 ih801 =>
          intro i788 hn801 hlo802 V794 hj798 H locs hT hF hS m789 m790 m791 m792 m793 m795 m796 m797 ls hl
          have hlt804 : i788 < 0 := by omega
          refine lv_iload hx hb dX12_orders_34 (lv_at hl 0 rfl) ?_
          refine lv_iload_n hx hb dX12_orders_36 rfl (lv_at hl 2 rfl) ?_
          refine lv_icmp_ge (tgt := 60) hx hb dX12_orders_37 (by decide) (fun c805 => ?_) (fun c805 => (by exfalso; have q9 : ((i788 : Nat) : Int) < 0 := ti_nle c805 (by decide) (nI_toInt (by omega)); omega))
          have t806 : 0 ≤ ((i788 : Nat) : Int) := ti_le c805 (by decide) (nI_toInt (by omega))
          exact W.vret hx hb hr (fun t ht hW => ⟨⟨(su, vR, V794), rfl, (by exact (by (try dsimp only); have e9 : N = 0 := (by omega); rw [sx_0 e9, if_neg (by omega)]; exact ⟨rfl, fun _ k hk => hj798 k (by omega), hR⟩)), by (try dsimp only); rw [ht]; exact ⟨hT, hF, m797, m793, m795⟩⟩, hS.F ht⟩) hS.2.2 dX12_orders_60
      exact key801 (0 - 0) 0 (by omega) (Nat.le_refl _) vZ (fun k h => absurd h (Nat.not_lt_zero k)) _ _ hT hF hS m782 m783 m784 m785 m786 m787 m781 m780 ls (lv_sub hl [0, 1, 2, 3, 4, 5, 6, 7] rfl)
    · have t807 : 0 ≤ la.toInt := ti_nlt c778 rfl (by decide)
      refine lv_iload hx hb dX12_orders_15 (lv_at hl 6 rfl) ?_
      refine lv_aload_n hx hb dX12_orders_17 rfl (lv_at hl 0 rfl) ?_
      refine tw_getM (v := .int la) hx hb hts bF_X12 hown hK hT hr_o0 shm_0 rfl 77 (by decide) (ht_at hts 7 rfl) (fun _ h9 => h9) hm_la dX12_orders_18 ?_
      refine lv_icmp_lt (tgt := 25) hx hb dX12_orders_21 (by decide) (fun c808 => ?_) (fun c808 => ?_)
      · have t809 : su.toInt < la.toInt := ti_lt c808 rfl rfl
        refine lv_aload_n hx hb dX12_orders_25 rfl (lv_at hl 0 rfl) ?_
        refine lv_iload hx hb dX12_orders_26 (lv_at hl 6 rfl) ?_
        refine tw_put (v := .int su) (ty := .int) hx hb hts bF_X12 tyX12 tyX12_ok nmX12 hown hK hT hG hS hr_o0 shm_0 rfl 77 (by decide) (ht_at hts 7 rfl) (fun _ h9 => h9) rfl (by decide +kernel) rfl rfl (gl_at rfl (gi_all _)) dX12_orders_28 (fun H locs hT oq m810 oj hS => ?_)
        have hF := hF.put hr_o0 skm_0 oq oj (by decide)
        have m811 := (oj 74 (by decide) (by decide)).trans hm_jb
        have m812 := hc_aC.kept (oq _ (gne hg1 hr_o0 (by decide)))
        have m813 := hc_aY.kept (oq _ (gne hg2 hr_o0 (by decide)))
        have m814 := hc_aB.kept (oq _ (gne hg3 hr_o0 (by decide)))
        have m815 := hc_aA.kept (oq _ (gne hg4 hr_o0 (by decide)))
        have m816 := hc_vR.kept (oq _ (gne hg5 hr_o0 (by decide)))
        have m817 := hc_vZ.kept (oq _ (gne hg6 hr_o0 (by decide)))
        refine lv_iconst (v := 0) hx hb dX12_orders_31 (by decide) ?_
        refine lv_istore (lv' := [(7, .int 0), (0, .ref o0), (1, .int 0), (2, .int us), (3, .int yr), (4, .int ca), (5, .int ic), (6, .int su)]) hx hb dX12_orders_32 hl (by decide) rfl (fun ls hl => ?_)
        have key831 : ∀ (n831 i818 : Nat), i818 + n831 = 0 → 0 ≤ i818 → ∀ (V824 : Nat → Int32), ((∀ k : Nat, k < i818 → (V824 k).toInt = R k)) → ∀ (H : Heap) (locs : List Loc), gH (dC, dI) kA (SHm q (wP wZ wN wH wB wC wL wK wU wV) PI im PM PT lS lB lE lN) G H → gF (dC, dI) SKm G ([(0, 77), (76, 0), (77, 0)] : List (Nat × Nat)) s.heap H → va_S A s.heap H locs → ct H (q 70) 7 aC → ct H (q 71) 7 aY → ct H (q 72) 7 aB → ct H (q 73) 7 aA → ct H (q 75) 7 vR → ct H (q 76) 7 V824 → el H o0 (dI 15 74) = some (.int jb) → el H o0 (dI 15 77) = some (.int su) → ∀ ls : Array Slot, lv_has ls 10 [(7, .int (nI i818)), (0, .ref o0), (1, .int 0), (2, .int us), (3, .int yr), (4, .int ca), (5, .int ic), (6, .int su)] → W p l e (headSpec w_s_ordersC0 ({ frames := 7, cells := 0, slots := 0, locals := 203 })).room s m #[.ref o0, .int 0, .int us, .int yr, .int ca, .int ic, .int su] below meth c H locs 0 0 (MQ below (va_Qv (fun (u : Int32 × (Nat → Int32) × (Nat → Int32)) => match u with | (la1, vR1, vZ1) => (la1.toInt = (sx N 0 aC aY aB aA (bt us) yr.toInt ca.toInt ic.toInt su.toInt R a0).1 ∧ (0 ≤ (sx N 0 aC aY aB aA (bt us) yr.toInt ca.toInt ic.toInt su.toInt R a0).1 → ∀ k : Nat, k < N → (vZ1 k).toInt = (sx N 0 aC aY aB aA (bt us) yr.toInt ca.toInt ic.toInt su.toInt R a0).2 k) ∧ ∀ k : Nat, k < 0 → (vR1 k).toInt = R k)) (fun (u : Int32 × (Nat → Int32) × (Nat → Int32)) (t : State) => match u with | (la1, vR1, vZ1) => gH (dC, dI) kA (SHm q (wP wZ wN wH wB wC wL wK wU wV) PI im PM PT lS lB lE lN) G t.heap ∧ gF (dC, dI) SKm G ([(0, 77), (76, 0), (77, 0)] : List (Nat × Nat)) s.heap t.heap ∧ el t.heap o0 (dI 15 77) = some (.int la1) ∧ ct t.heap (q 75) 7 vR1 ∧ ct t.heap (q 76) 7 vZ1) A) #[.ref o0, .int 0, .int us, .int yr, .int ca, .int ic, .int su] s 0 0 A) (F0 m 34 ls []) := by
          intro n831
          induction n831 with
          | zero =>
            intro i818 hn831 hlo832 V824 hj828 H locs hT hF hS m819 m820 m821 m822 m823 m825 m826 m827 ls hl
            obtain rfl : 0 = i818 := by omega
            refine lv_iload hx hb dX12_orders_34 (lv_at hl 0 rfl) ?_
            refine lv_iload_n hx hb dX12_orders_36 rfl (lv_at hl 2 rfl) ?_
            refine lv_icmp_ge (tgt := 60) hx hb dX12_orders_37 (by decide) (fun c833 => ?_) (fun c833 => (by exfalso; have q9 : ((0 : Nat) : Int) < 0 := ti_nle c833 (by decide) (nI_toInt (by omega)); omega))
            have t834 : 0 ≤ ((0 : Nat) : Int) := ti_le c833 (by decide) (nI_toInt (by omega))
            exact W.vret hx hb hr (fun t ht hW => ⟨⟨(su, vR, V824), rfl, (by exact (by (try dsimp only); have e9 : N = 0 := (by omega); rw [sx_0 e9, if_neg (by omega)]; exact ⟨rfl, fun _ k hk => hj828 k (by omega), hR⟩)), by (try dsimp only); rw [ht]; exact ⟨hT, hF, m827, m823, m825⟩⟩, hS.F ht⟩) hS.2.2 dX12_orders_60
          | succ n831 ih831 =>
            intro i818 hn831 hlo832 V824 hj828 H locs hT hF hS m819 m820 m821 m822 m823 m825 m826 m827 ls hl
            have hlt834 : i818 < 0 := by omega
            refine lv_iload hx hb dX12_orders_34 (lv_at hl 0 rfl) ?_
            refine lv_iload_n hx hb dX12_orders_36 rfl (lv_at hl 2 rfl) ?_
            refine lv_icmp_ge (tgt := 60) hx hb dX12_orders_37 (by decide) (fun c835 => ?_) (fun c835 => (by exfalso; have q9 : ((i818 : Nat) : Int) < 0 := ti_nle c835 (by decide) (nI_toInt (by omega)); omega))
            have t836 : 0 ≤ ((i818 : Nat) : Int) := ti_le c835 (by decide) (nI_toInt (by omega))
            exact W.vret hx hb hr (fun t ht hW => ⟨⟨(su, vR, V824), rfl, (by exact (by (try dsimp only); have e9 : N = 0 := (by omega); rw [sx_0 e9, if_neg (by omega)]; exact ⟨rfl, fun _ k hk => hj828 k (by omega), hR⟩)), by (try dsimp only); rw [ht]; exact ⟨hT, hF, m827, m823, m825⟩⟩, hS.F ht⟩) hS.2.2 dX12_orders_60
        exact key831 (0 - 0) 0 (by omega) (Nat.le_refl _) vZ (fun k h => absurd h (Nat.not_lt_zero k)) _ _ hT hF hS m812 m813 m814 m815 m816 m817 m811 m810 ls (lv_sub hl [0, 1, 2, 3, 4, 5, 6, 7] rfl)
      · have t837 : la.toInt ≤ su.toInt := ti_nlt c808 rfl rfl
        exact W.vret hx hb hr (fun t ht hW => ⟨⟨(la, vR, vZ), rfl, (by exact (by (try dsimp only); have e9 : N = 0 := (by omega); rw [sx_0 e9, if_pos ⟨by omega, by omega⟩]; exact ⟨by omega, hZ0, hR⟩)), by (try dsimp only); rw [ht]; exact ⟨hT, hF, hm_la, hc_vR, hc_vZ⟩⟩, hS.F ht⟩) hS.2.2 dX12_orders_24
def w_s_orderC : List Cond := .code yX12_order cX12_order 3 (some .int) :: (HAppend.hAppend (α := List Cond) (β := List Cond) (γ := List Cond) [.fieldLink RX12 194 "SeaLandModel" "thrown" "I", .constant RX12 536 1000000, .code yX12_in cX12_in 3 (some .boolean), .methodLink RX12 197 yX12_in, .static yX12_in, .initialized RX12, .code yX12_throwsIf cX12_throwsIf 3 (some .boolean), .methodLink RX12 224 yX12_throwsIf, .instanceMethod yX12_throwsIf, .selects RX12 yX12_throwsIf yX12_throwsIf, .fieldLink RX12 556 "SeaLandModel" "lateness" "I", .code yX12_orders cX12_orders 10 none, .fieldLink RX12 553 "SeaLandModel" "jobs" "I", .fieldLink RX12 176 "SeaLandModel" "jCost" "[I", .fieldLink RX12 179 "SeaLandModel" "jYears" "[I", .fieldLink RX12 188 "SeaLandModel" "row" "[I", .fieldLink RX12 182 "SeaLandModel" "jBrings" "[I", .fieldLink RX12 185 "SeaLandModel" "jAcres" "[I", .fieldLink RX12 191 "SeaLandModel" "bestRow" "[I", .methodLink RX12 559 yX12_orders, .instanceMethod yX12_orders, .selects RX12 yX12_orders yX12_orders] bs)
set_option maxHeartbeats 4000000 in
set_option maxRecDepth 100000 in
theorem s_orderC (l : Launch) (dC : Nat → ClassId) (dI : Nat → Nat → Nat) (kA : Nat → ClassId) (adK adV : Nat → Nat) (G : gT) (H0 : Heap) (q : Nat → Nat) (wZ wN : Nat → Int) (wH wB wC : Int) (wL wK : Nat → Prop) (wU wV : Nat → Nat) (PI : Nat → Int → Prop) (im : Int) (PM PT : Nat → Int → Prop) (lS lB lE : Nat → Nat → Int → Prop) (lN : Nat → Int) (o0 : Nat) (p0 : Int32) (p1 : Int32) (jb : Int32) (aC : Nat → Int32) (aY : Nat → Int32) (aB : Nat → Int32) (aA : Nat → Int32) (vZ : Nat → Int32)  (hT : gH (dC, dI) kA (SHm q (wP wZ wN wH wB wC wL wK wU wV) PI im PM PT lS lB lE lN) G H0) (hr_o0 : G o0 = some 0) (hm_jb : el H0 o0 (dI 15 74) = some (.int jb)) (hq0 : 0 ≤ jb.toInt ∧ jb.toInt ≤ 7) (hrg : joR jb.toInt aC aY aB aA) (hc_aC : ct H0 (q 70) 7 aC) (hc_aY : ct H0 (q 71) 7 aY) (hc_aB : ct H0 (q 72) 7 aB) (hc_aA : ct H0 (q 73) 7 aA) (hc_vZ : ct H0 (q 76) 7 vZ) (hgz : ∀ i, 0 ≤ wZ i) (hgn : ∀ i, 6500000 ≤ wN i ∧ wN i ≤ 20200000) (hgh : 0 ≤ wH ∧ wH ≤ 40000) (hgb : 0 ≤ wB ∧ wB ≤ 3850000) (hgc : 0 ≤ wC ∧ wC ≤ 30) (hgi : 0 ≤ im ∧ im ≤ 1) (hgu : ∀ a t, G a = some (t + 1) → a = q t) : Met l yX12_order w_s_orderC ({ frames := 8, cells := 0, slots := 0, locals := 232 }) (va_Pc [.ref o0, .int p0, .int p1] (fun U => U.heap = H0 ∧ va_K (dC, dI) vwCl (tyl kA) U ∧ EVS adK adV (gA G H0.size) U U.heap)) (va_Qi (fun (r : Int32) (u : Int32) => ((orC p0.toInt = 0 ∧ u.toInt = 0 ∧ r.toInt = orV jb.toInt aC aY aB aA p0.toInt p1.toInt) ∨ (orC p0.toInt = 1 ∧ u.toInt = 1))) (fun (t1 : Int32) (t : State) => gH (dC, dI) kA (SHm q (wP wZ wN wH wB wC wL wK wU wV) PI im PM PT lS lB lE lN) G t.heap ∧ gF (dC, dI) SKm G ([(0, 0), (0, 77), (76, 0), (77, 0)] : List (Nat × Nat)) H0 t.heap ∧ el t.heap o0 (dI 15 0) = some (.int t1)) (gA G H0.size)) 0 0 (gA G H0.size) := by
  refine Met.ofW (cc := cX12_order) (maxL := 3) (ret := (some .int)) (by decide) rfl ?_
  intro p e s m args below meth c s₁ B hml hv
  obtain ⟨rfl, hH0, hK, hE⟩ := hv
  have hx := B.exec
  have hb := B.bytes
  have hr := B.returns
  have hts := atoms_spec (ws := w_s_orderC) B.pre
  have hown : s.vm.findClass RX12 = some m.cls := findClass_of_methodNamed B.named
  have hlocks := B.notSynchronized
  subst hH0
  generalize hAe : gA G s.heap.size = A at hE ⊢
  have hA : ∀ q : Nat, s.heap.size ≤ q → A q := fun q h => by rw [← hAe]; exact Or.inr h
  have hG := gA_of hAe
  have hS : va_S A s.heap s.heap [] := va_S.rf
  have hF : gF (dC, dI) SKm G ([(0, 0), (0, 77), (76, 0), (77, 0)] : List (Nat × Nat)) s.heap s.heap := gF.rf
  have hl := lv_entry ([.ref o0, .int p0, .int p1]) (n := 3) (Nat.le_of_ble_eq_true rfl)
  rw [lg_entry_eq]
  generalize (lg_sl ([.ref o0, .int p0, .int p1]) ++ List.replicate (3 - (lg_sl ([.ref o0, .int p0, .int p1])).length) Slot.unset).toArray = ls at hl ⊢
  have hl : lv_has ls 3 [(0, .ref o0), (1, .int p0), (2, .int p1)] := hl
  have hg1 : G (q 70) = some 71 := gx_of hT hr_o0 shm_0 (k := 70) (by decide) rfl
  have hg2 : G (q 71) = some 72 := gx_of hT hr_o0 shm_0 (k := 71) (by decide) rfl
  have hg3 : G (q 72) = some 73 := gx_of hT hr_o0 shm_0 (k := 72) (by decide) rfl
  have hg4 : G (q 73) = some 74 := gx_of hT hr_o0 shm_0 (k := 73) (by decide) rfl
  have hg5 : G (q 76) = some 77 := gx_of hT hr_o0 shm_0 (k := 76) (by decide) rfl
  refine lv_aload_n hx hb dX12_order_0 rfl (lv_at hl 0 rfl) ?_
  refine lv_iconst (v := 0) hx hb dX12_order_1 (by decide) ?_
  refine tw_put (v := .int 0) (ty := .int) hx hb hts bF_X12 tyX12 tyX12_ok nmX12 hown hK hT hG hS hr_o0 shm_0 rfl 0 (by decide) (ht_at hts 0 rfl) (fun _ h9 => h9) rfl (by decide +kernel) rfl rfl (gl_at rfl (gi_all _)) dX12_order_2 (fun H locs hT oq m6 oj hS => ?_)
  have hF := hF.put hr_o0 skm_0 oq oj (by decide)
  have m7 := (oj 74 (by decide) (by decide)).trans hm_jb
  have m8 := hc_aC.kept (oq _ (gne hg1 hr_o0 (by decide)))
  have m9 := hc_aY.kept (oq _ (gne hg2 hr_o0 (by decide)))
  have m10 := hc_aB.kept (oq _ (gne hg3 hr_o0 (by decide)))
  have m11 := hc_aA.kept (oq _ (gne hg4 hr_o0 (by decide)))
  have m12 := hc_vZ.kept (oq _ (gne hg5 hr_o0 (by decide)))
  refine lv_aload_n hx hb dX12_order_5 rfl (lv_at hl 0 rfl) ?_
  refine lv_iload_n hx hb dX12_order_6 rfl (lv_at hl 1 rfl) ?_
  refine lv_iconst (v := 0) hx hb dX12_order_7 (by decide) ?_
  refine lv_ldcw (v := 1000000) hx hb hown (ht_at hts 1 rfl) dX12_order_8 ?_
  have hFc := gA_free hG hA hS
  refine va_calli (va_runS (As := [.int p0, .int 0, .int 1000000]) (rest := [.ref o0]) ⟨hx, hb, hml, hown, hts⟩ (s_in l dC dI kA adK adV G H q wZ wN wH wB wC wL wK wU wV PI im PM PT lS lB lE lN p0 0 1000000 hT hgz hgn hgh hgb hgc hgi hgu) (va_cwS 3 hts (goodIn_app (goodIn_r _ [4, 5, 6] rfl (by decide +kernel)) (goodIn_ca (goodIn_r _ [3] rfl (by decide +kernel)) (bs_in _ _))) rfl rfl rfl (by decide +kernel) ⟨(Nat.le_of_ble_eq_true rfl), (Nat.le_of_ble_eq_true rfl)⟩) ⟨fun a U g mk q => by obtain ⟨q0, q1, qK, qE⟩ := q; exact ⟨q0, q1, va_K.moved (u := U) (U := U.calling g mk a) (Vm.Alike.refl U.vm) qK, EVS.blind g mk a qE⟩, fun U hU hW => ⟨rfl, hU, va_K.moved hW.alike hK, hE.call hS hFc hU hW⟩⟩ rfl rfl hl.1 rfl (lv_room (Nat.le_of_ble_eq_true rfl)) dX12_order_11 ⟨(Nat.le_of_ble_eq_true rfl), (Nat.le_of_ble_eq_true rfl)⟩) hS (fun q _ h => hFc q h) hFc (fun r13 u t H locs ht hvm hw14 hB _ _ hS => ?_)
  obtain ⟨hT, hF1⟩ := hB
  rw [ht] at hT hF1
  have m15 := (hF1.fld hr_o0 skm_0 (k := 74) (by decide) (by decide)).trans m7
  have m16 := m8.kept (hF1.arr hg1 skm_71 (by decide))
  have m17 := m9.kept (hF1.arr hg2 skm_72 (by decide))
  have m18 := m10.kept (hF1.arr hg3 skm_73 (by decide))
  have m19 := m11.kept (hF1.arr hg4 skm_74 (by decide))
  have m20 := m12.kept (hF1.arr hg5 skm_77 (by decide))
  have m21 := (hF1.fld hr_o0 skm_0 (k := 0) (by decide) (by decide)).trans m6
  have hF := hF.more hF1 (by decide)
  try dsimp only at hw14
  obtain ⟨h22, hi23, hi24⟩ := hw14
  refine lv_if_ne (tgt := 21) hx hb dX12_order_14 (by decide) (fun c25 => ?_) (fun c25 => ?_)
  · have t26 : r13.toInt ≠ 0 := ti_ne c25 rfl (by decide)
    have t27 : (0 : Int32).toInt = 0 := by decide
    have t28 : (1000000 : Int32).toInt = 1000000 := by decide
    have t29 : (0 : Int32).toInt ≤ p0.toInt ∧ p0.toInt ≤ (1000000 : Int32).toInt := hi23 ((bit_of ⟨by omega, by omega⟩).resolve_left c25)
    refine lv_iconst (v := 0) hx hb dX12_order_21 (by decide) ?_
    refine lv_iconst (v := 1) hx hb dX12_order_22 (by decide) ?_
    have hFc := gA_free hG hA hS
    refine va_calli (va_runV (As := [.int 0, .int 1]) (rest := []) ⟨hx, hb, hml, hown, hts⟩ (s_throwsIfP l dC dI kA adK adV G H q wZ wN wH wB wC wL wK wU wV PI im PM PT lS lB lE lN o0 0 1 0 hT hr_o0 m21 (rg_t (a := 0) (by decide) (by omega) (by omega)) hgz hgn hgh hgb hgc hgi hgu) (cwV 2 hts (goodIn_app (goodIn_r _ [8, 9, 10, 6] rfl (by decide +kernel)) (goodIn_ca (goodIn_r _ [7, 1] rfl (by decide +kernel)) (bs_in _ _))) rfl rfl rfl (by decide +kernel) ⟨(Nat.le_of_ble_eq_true rfl), (Nat.le_of_ble_eq_true rfl)⟩) ⟨fun a U g mk q => by obtain ⟨q0, q1, qK, qE⟩ := q; exact ⟨q0, q1, va_K.moved (u := U) (U := U.calling g mk a) (Vm.Alike.refl U.vm) qK, EVS.blind g mk a qE⟩, gH_recv hK hT hr_o0 shm_0 rfl, fun U hU hW => ⟨rfl, hU, va_K.moved hW.alike hK, hE.call hS hFc hU hW⟩⟩ rfl rfl hl.1 rfl (lv_room (Nat.le_of_ble_eq_true rfl)) dX12_order_23 ⟨(Nat.le_of_ble_eq_true rfl), (Nat.le_of_ble_eq_true rfl)⟩) hS (fun q _ h => hFc q h) hFc (fun r30 u t H locs ht hvm hw31 hB _ _ hS => ?_)
    obtain ⟨u32, rfl⟩ : ∃ z, z = u := ⟨_, rfl⟩
    obtain ⟨hT, hF1, m33⟩ := hB
    rw [ht] at hT hF1 m33
    have m34 := (hF1.fld hr_o0 skm_0 (k := 74) (by decide) (by decide)).trans m15
    have m35 := m16.kept (hF1.arr hg1 skm_71 (by decide))
    have m36 := m17.kept (hF1.arr hg2 skm_72 (by decide))
    have m37 := m18.kept (hF1.arr hg3 skm_73 (by decide))
    have m38 := m19.kept (hF1.arr hg4 skm_74 (by decide))
    have m39 := m20.kept (hF1.arr hg5 skm_77 (by decide))
    have hF := hF.more hF1 (by decide)
    try dsimp only at hw31
    obtain ⟨h41, hf42, hd43⟩ := hw31
    have t44 : (0 : Int32).toInt = 0 := by decide
    have t45 : (1 : Int32).toInt = 1 := by decide
    have t46 : (0 : Int32).toInt = 0 := by decide
    obtain rfl : (0 : Int32) = r30 := hd43.symm
    refine lv_if_eq (tgt := 31) hx hb dX12_order_26 (by decide) (fun c47 => ?_) (fun c47 => absurd c47 (by decide))
    refine lv_aload_n hx hb dX12_order_31 rfl (lv_at hl 0 rfl) ?_
    refine lv_iconst (v := (-1)) hx hb dX12_order_32 (by decide) ?_
    refine tw_put (v := .int (-1)) (ty := .int) hx hb hts bF_X12 tyX12 tyX12_ok nmX12 hown hK hT hG hS hr_o0 shm_0 rfl 77 (by decide) (ht_at hts 10 rfl) (fun _ h9 => h9) rfl (by decide +kernel) rfl rfl (gl_at rfl (gi_all _)) dX12_order_33 (fun H locs hT oq m48 oj hS => ?_)
    have hF := hF.put hr_o0 skm_0 oq oj (by decide)
    have m49 := (oj 74 (by decide) (by decide)).trans m34
    have m50 := m35.kept (oq _ (gne hg1 hr_o0 (by decide)))
    have m51 := m36.kept (oq _ (gne hg2 hr_o0 (by decide)))
    have m52 := m37.kept (oq _ (gne hg3 hr_o0 (by decide)))
    have m53 := m38.kept (oq _ (gne hg4 hr_o0 (by decide)))
    have m54 := m39.kept (oq _ (gne hg5 hr_o0 (by decide)))
    have m55 := (oj 0 (by decide) (by decide)).trans m33
    refine lv_aload_n hx hb dX12_order_36 rfl (lv_at hl 0 rfl) ?_
    refine lv_iconst (v := 0) hx hb dX12_order_37 (by decide) ?_
    refine lv_iconst (v := 0) hx hb dX12_order_38 (by decide) ?_
    refine lv_iconst (v := 0) hx hb dX12_order_39 (by decide) ?_
    refine lv_iload_n hx hb dX12_order_40 rfl (lv_at hl 1 rfl) ?_
    refine lv_iconst (v := 0) hx hb dX12_order_41 (by decide) ?_
    refine lv_iconst (v := 0) hx hb dX12_order_42 (by decide) ?_
    have hg56 : G (q 75) = some 76 := gx_of hT hr_o0 shm_0 (k := 75) (by decide) rfl
    obtain ⟨V57, m58, kV57⟩ := ct_of hT hg56 shm_76
    have hFc := gA_free hG hA hS
    refine va_callv (va_runV (As := [.int 0, .int 0, .int 0, .int p0, .int 0, .int 0]) (rest := []) ⟨hx, hb, hml, hown, hts⟩ (s_ordersC0 l dC dI kA adK adV G H q wZ wN wH wB wC wL wK wU wV PI im PM PT lS lB lE lN o0 0 0 p0 0 0 jb (-1) aC aY aB aA V57 vZ jb.toInt.toNat (fun _ => 0) ((-1 : Int), fun _ => (0 : Int)) hT hr_o0 m49 m48 (rg_t (a := 0) (by decide) (by omega) (by omega)) (by have q8 := ti_all p0; omega) (rg_t (a := 0) (by decide) (by omega) (by omega)) (rg_t (a := 0) (by decide) (by omega) (by omega)) (by have q8 := ti_all jb; omega) (by omega) hrg (by decide) (fun h => absurd h (by decide)) (fun k h => absurd h (Nat.not_lt_zero k)) m50 m51 m52 m53 m58 m54 hgz hgn hgh hgb hgc hgi hgu) (cwV 6 hts (goodIn_app (goodIn_r _ [20, 21, 22, 6] rfl (by decide +kernel)) (goodIn_ca (goodIn_r _ [12, 13, 14, 15, 16, 17, 18, 12, 11, 19, 20, 21, 22, 6] rfl (by decide +kernel)) (bs_in _ _))) rfl rfl rfl (by decide +kernel) ⟨(Nat.le_of_ble_eq_true rfl), (Nat.le_of_ble_eq_true rfl)⟩) ⟨fun a U g mk q => by obtain ⟨q0, q1, qK, qE⟩ := q; exact ⟨q0, q1, va_K.moved (u := U) (U := U.calling g mk a) (Vm.Alike.refl U.vm) qK, EVS.blind g mk a qE⟩, gH_recv hK hT hr_o0 shm_0 rfl, fun U hU hW => ⟨rfl, hU, va_K.moved hW.alike hK, hE.call hS hFc hU hW⟩⟩ rfl rfl hl.1 rfl (lv_room (Nat.le_of_ble_eq_true rfl)) dX12_order_43 ⟨(Nat.le_of_ble_eq_true rfl), (Nat.le_of_ble_eq_true rfl)⟩) hS (fun q _ h => hFc q h) hFc (fun u t H locs ht hvm hw60 hB _ _ hS => ?_)
    obtain ⟨u61, u62, u63⟩ := u
    obtain ⟨hT, hF1, m64, m65, m66⟩ := hB
    rw [ht] at hT hF1 m64 m65 m66
    have m67 := (hF1.fld hr_o0 skm_0 (k := 74) (by decide) (by decide)).trans m49
    have m68 := m50.kept (hF1.arr hg1 skm_71 (by decide))
    have m69 := m51.kept (hF1.arr hg2 skm_72 (by decide))
    have m70 := m52.kept (hF1.arr hg3 skm_73 (by decide))
    have m71 := m53.kept (hF1.arr hg4 skm_74 (by decide))
    have m73 := (hF1.fld hr_o0 skm_0 (k := 0) (by decide) (by decide)).trans m55
    have hF := hF.more hF1 (by decide)
    try dsimp only at hw60
    have hf76 := hw60
    refine lv_aload_n hx hb dX12_order_46 rfl (lv_at hl 0 rfl) ?_
    refine tw_getM (v := .int u61) hx hb hts bF_X12 hown hK hT hr_o0 shm_0 rfl 77 (by decide) (ht_at hts 10 rfl) (fun _ h9 => h9) m64 dX12_order_47 ?_
    refine lv_if_lt (tgt := 58) hx hb dX12_order_50 (by decide) (fun c77 => ?_) (fun c77 => ?_)
    · have t78 : u61.toInt < 0 := ti_lt c77 rfl (by decide)
      refine lv_aload_n hx hb dX12_order_58 rfl (lv_at hl 0 rfl) ?_
      refine tw_getM (v := .int u61) hx hb hts bF_X12 hown hK hT hr_o0 shm_0 rfl 77 (by decide) (ht_at hts 10 rfl) (fun _ h9 => h9) m64 dX12_order_59 ?_
      exact W.iret (v := u61) hx hb hr (fun t ht hW => ⟨⟨u61, u32, rfl, (by exact (Or.inl ⟨by have := orC_s p0.toInt; omega, by have q0 : (0 : Int32).toInt = 0 := (by decide); have q1 : (1 : Int32).toInt = 1 := (by decide); have qm : (-1 : Int32).toInt = -1 := (by decide); omega, by have q0 : (0 : Int32).toInt = 0 := (by decide); have q1 : (1 : Int32).toInt = 1 := (by decide); have qm : (-1 : Int32).toInt = -1 := (by decide); have q9 := hf76; rw [orS_r (n := jb.toInt) (coin := p0.toInt) (by omega) rfl (by decide) (by decide) (by decide)] at q9; obtain ⟨y1, y2, -⟩ := q9; rw [orV_a (by omega)]; exact y1⟩)), by (try dsimp only); rw [ht]; exact ⟨hT, hF, m73⟩⟩, hS.F ht⟩) hS.2.2 dX12_order_62
    · have t79 : 0 ≤ u61.toInt := ti_nlt c77 rfl (by decide)
      refine lv_iload_n hx hb dX12_order_53 rfl (lv_at hl 2 rfl) ?_
      refine lv_iconst (v := (-1)) hx hb dX12_order_54 (by decide) ?_
      refine lv_icmp_ne (tgt := 63) hx hb dX12_order_55 (by decide) (fun c80 => ?_) (fun c80 => ?_)
      · have t81 : p1.toInt ≠ (-1) := ti_ne c80 rfl (by decide)
        refine lv_iload_n hx hb dX12_order_63 rfl (lv_at hl 2 rfl) ?_
        refine lv_iconst (v := 0) hx hb dX12_order_64 (by decide) ?_
        refine lv_aload_n hx hb dX12_order_65 rfl (lv_at hl 0 rfl) ?_
        refine tw_getM (v := .int jb) hx hb hts bF_X12 hown hK hT hr_o0 shm_0 rfl 74 (by decide) (ht_at hts 12 rfl) (fun _ h9 => h9) m67 dX12_order_66 ?_
        refine lv_iconst (v := 1) hx hb dX12_order_69 (by decide) ?_
        refine lv_isub hx hb dX12_order_70 ?_
        refine lv_topi (fun x82 ex82 => ?_)
        have t83 : x82.toInt = jb.toInt - 1 := ti_sub ex82 rfl (by decide) (by omega) (by omega)
        have hFc := gA_free hG hA hS
        refine va_calli (va_runS (As := [.int p1, .int 0, .int x82]) (rest := []) ⟨hx, hb, hml, hown, hts⟩ (s_in l dC dI kA adK adV G H q wZ wN wH wB wC wL wK wU wV PI im PM PT lS lB lE lN p1 0 x82 hT hgz hgn hgh hgb hgc hgi hgu) (va_cwS 3 hts (goodIn_app (goodIn_r _ [4, 5, 6] rfl (by decide +kernel)) (goodIn_ca (goodIn_r _ [3] rfl (by decide +kernel)) (bs_in _ _))) rfl rfl rfl (by decide +kernel) ⟨(Nat.le_of_ble_eq_true rfl), (Nat.le_of_ble_eq_true rfl)⟩) ⟨fun a U g mk q => by obtain ⟨q0, q1, qK, qE⟩ := q; exact ⟨q0, q1, va_K.moved (u := U) (U := U.calling g mk a) (Vm.Alike.refl U.vm) qK, EVS.blind g mk a qE⟩, fun U hU hW => ⟨rfl, hU, va_K.moved hW.alike hK, hE.call hS hFc hU hW⟩⟩ rfl rfl hl.1 rfl (lv_room (Nat.le_of_ble_eq_true rfl)) dX12_order_71 ⟨(Nat.le_of_ble_eq_true rfl), (Nat.le_of_ble_eq_true rfl)⟩) hS (fun q _ h => hFc q h) hFc (fun r84 u t H locs ht hvm hw85 hB _ _ hS => ?_)
        obtain ⟨hT, hF1⟩ := hB
        rw [ht] at hT hF1
        have m86 := (hF1.fld hr_o0 skm_0 (k := 74) (by decide) (by decide)).trans m67
        have m87 := m68.kept (hF1.arr hg1 skm_71 (by decide))
        have m88 := m69.kept (hF1.arr hg2 skm_72 (by decide))
        have m89 := m70.kept (hF1.arr hg3 skm_73 (by decide))
        have m90 := m71.kept (hF1.arr hg4 skm_74 (by decide))
        have m91 := (hF1.fld hr_o0 skm_0 (k := 0) (by decide) (by decide)).trans m73
        have m92 := (hF1.fld hr_o0 skm_0 (k := 77) (by decide) (by decide)).trans m64
        have m93 := m65.kept (hF1.arr hg56 skm_76 (by decide))
        have m94 := m66.kept (hF1.arr hg5 skm_77 (by decide))
        have hF := hF.more hF1 (by decide)
        try dsimp only at hw85
        obtain ⟨h95, hi96, hi97⟩ := hw85
        refine lv_if_eq (tgt := 86) hx hb dX12_order_74 (by decide) (fun c98 => ?_) (fun c98 => ?_)
        · have t99 : r84.toInt = 0 := ti_eq c98 rfl (by decide)
          have t100 : (0 : Int32).toInt = 0 := by decide
          have t101 : p1.toInt < (0 : Int32).toInt ∨ x82.toInt < p1.toInt := hi97 c98
          refine lv_iconst (v := (-1)) hx hb dX12_order_86 (by decide) ?_
          exact W.iret (v := (-1)) hx hb hr (fun t ht hW => ⟨⟨(-1), u32, rfl, (by exact (Or.inl ⟨by have := orC_s p0.toInt; omega, by have q0 : (0 : Int32).toInt = 0 := (by decide); have q1 : (1 : Int32).toInt = 1 := (by decide); have qm : (-1 : Int32).toInt = -1 := (by decide); omega, by have q0 : (0 : Int32).toInt = 0 := (by decide); have q1 : (1 : Int32).toInt = 1 := (by decide); have qm : (-1 : Int32).toInt = -1 := (by decide); have q9 := hf76; rw [orS_r (n := jb.toInt) (coin := p0.toInt) (by omega) rfl (by decide) (by decide) (by decide)] at q9; obtain ⟨y1, y2, -⟩ := q9; rw [orV_c (by omega) (by omega)]; decide⟩)), by (try dsimp only); rw [ht]; exact ⟨hT, hF, m91⟩⟩, hS.F ht⟩) hS.2.2 dX12_order_87
        · have t102 : r84.toInt ≠ 0 := ti_ne c98 rfl (by decide)
          have t103 : (0 : Int32).toInt = 0 := by decide
          have t104 : (0 : Int32).toInt ≤ p1.toInt ∧ p1.toInt ≤ x82.toInt := hi96 ((bit_of ⟨by omega, by omega⟩).resolve_left c98)
          refine lv_aload_n hx hb dX12_order_77 rfl (lv_at hl 0 rfl) ?_
          refine tw_get hx hb hts bF_X12 hown hK hT hr_o0 shm_0 rfl 76 (by decide) (ht_at hts 18 rfl) (fun _ h9 => h9) dX12_order_78 (fun v9 m105 h9 => ?_)
          obtain ⟨rfl, hg106⟩ := h9 _ rfl
          refine lv_iload_n hx hb dX12_order_81 rfl (lv_at hl 2 rfl) ?_
          refine tw_iald (i := p1) hx hb hK hT hg5 shm_77 rfl (vin_t (a := p1.toInt) rfl (by omega) (by omega)) dX12_order_82 (fun v9 m107 h9 => ?_)
          obtain ⟨x108, rfl, gx108, kx108⟩ := h9
          have cx108 := m94.at m107 (by have q9 := tn_of (show p1.toInt = p1.toInt from rfl) (by omega); omega)
          refine lv_goto (tgt := 87) hx hb dX12_order_83 (by decide) ?_
          exact W.iret (v := x108) hx hb hr (fun t ht hW => ⟨⟨x108, u32, rfl, (by exact (Or.inl ⟨by have := orC_s p0.toInt; omega, by have q0 : (0 : Int32).toInt = 0 := (by decide); have q1 : (1 : Int32).toInt = 1 := (by decide); have qm : (-1 : Int32).toInt = -1 := (by decide); omega, by have q0 : (0 : Int32).toInt = 0 := (by decide); have q1 : (1 : Int32).toInt = 1 := (by decide); have qm : (-1 : Int32).toInt = -1 := (by decide); have q9 := hf76; rw [orS_r (n := jb.toInt) (coin := p0.toInt) (by omega) rfl (by decide) (by decide) (by decide)] at q9; obtain ⟨y1, y2, -⟩ := q9; rw [orV_b (by omega) ⟨by omega, by omega⟩]; have c9 := congrArg Int32.toInt cx108; have q7 := y2 (by omega) p1.toInt.toNat (by omega); have q6 : p1.toNatClampNeg = p1.toInt.toNat := rfl; rw [q6] at c9; exact c9.trans q7⟩)), by (try dsimp only); rw [ht]; exact ⟨hT, hF, m91⟩⟩, hS.F ht⟩) hS.2.2 dX12_order_87
      · have t109 : p1.toInt = (-1) := ti_eq c80 rfl (by decide)
        refine lv_aload_n hx hb dX12_order_58 rfl (lv_at hl 0 rfl) ?_
        refine tw_getM (v := .int u61) hx hb hts bF_X12 hown hK hT hr_o0 shm_0 rfl 77 (by decide) (ht_at hts 10 rfl) (fun _ h9 => h9) m64 dX12_order_59 ?_
        exact W.iret (v := u61) hx hb hr (fun t ht hW => ⟨⟨u61, u32, rfl, (by exact (Or.inl ⟨by have := orC_s p0.toInt; omega, by have q0 : (0 : Int32).toInt = 0 := (by decide); have q1 : (1 : Int32).toInt = 1 := (by decide); have qm : (-1 : Int32).toInt = -1 := (by decide); omega, by have q0 : (0 : Int32).toInt = 0 := (by decide); have q1 : (1 : Int32).toInt = 1 := (by decide); have qm : (-1 : Int32).toInt = -1 := (by decide); have q9 := hf76; rw [orS_r (n := jb.toInt) (coin := p0.toInt) (by omega) rfl (by decide) (by decide) (by decide)] at q9; obtain ⟨y1, y2, -⟩ := q9; rw [orV_a (by omega)]; exact y1⟩)), by (try dsimp only); rw [ht]; exact ⟨hT, hF, m73⟩⟩, hS.F ht⟩) hS.2.2 dX12_order_62
  · have t110 : r13.toInt = 0 := ti_eq c25 rfl (by decide)
    have t111 : (0 : Int32).toInt = 0 := by decide
    have t112 : (1000000 : Int32).toInt = 1000000 := by decide
    have t113 : p0.toInt < (0 : Int32).toInt ∨ (1000000 : Int32).toInt < p0.toInt := hi24 c25
    refine lv_iconst (v := 1) hx hb dX12_order_17 (by decide) ?_
    refine lv_goto (tgt := 22) hx hb dX12_order_18 (by decide) ?_
    refine lv_iconst (v := 1) hx hb dX12_order_22 (by decide) ?_
    have hFc := gA_free hG hA hS
    refine va_calli (va_runV (As := [.int 1, .int 1]) (rest := []) ⟨hx, hb, hml, hown, hts⟩ (s_throwsIfP l dC dI kA adK adV G H q wZ wN wH wB wC wL wK wU wV PI im PM PT lS lB lE lN o0 1 1 0 hT hr_o0 m21 (rg_t (a := 1) (by decide) (by omega) (by omega)) hgz hgn hgh hgb hgc hgi hgu) (cwV 2 hts (goodIn_app (goodIn_r _ [8, 9, 10, 6] rfl (by decide +kernel)) (goodIn_ca (goodIn_r _ [7, 1] rfl (by decide +kernel)) (bs_in _ _))) rfl rfl rfl (by decide +kernel) ⟨(Nat.le_of_ble_eq_true rfl), (Nat.le_of_ble_eq_true rfl)⟩) ⟨fun a U g mk q => by obtain ⟨q0, q1, qK, qE⟩ := q; exact ⟨q0, q1, va_K.moved (u := U) (U := U.calling g mk a) (Vm.Alike.refl U.vm) qK, EVS.blind g mk a qE⟩, gH_recv hK hT hr_o0 shm_0 rfl, fun U hU hW => ⟨rfl, hU, va_K.moved hW.alike hK, hE.call hS hFc hU hW⟩⟩ rfl rfl hl.1 rfl (lv_room (Nat.le_of_ble_eq_true rfl)) dX12_order_23 ⟨(Nat.le_of_ble_eq_true rfl), (Nat.le_of_ble_eq_true rfl)⟩) hS (fun q _ h => hFc q h) hFc (fun r114 u t H locs ht hvm hw115 hB _ _ hS => ?_)
    obtain ⟨u116, rfl⟩ : ∃ z, z = u := ⟨_, rfl⟩
    obtain ⟨hT, hF1, m117⟩ := hB
    rw [ht] at hT hF1 m117
    have m118 := (hF1.fld hr_o0 skm_0 (k := 74) (by decide) (by decide)).trans m15
    have m119 := m16.kept (hF1.arr hg1 skm_71 (by decide))
    have m120 := m17.kept (hF1.arr hg2 skm_72 (by decide))
    have m121 := m18.kept (hF1.arr hg3 skm_73 (by decide))
    have m122 := m19.kept (hF1.arr hg4 skm_74 (by decide))
    have m123 := m20.kept (hF1.arr hg5 skm_77 (by decide))
    have hF := hF.more hF1 (by decide)
    try dsimp only at hw115
    obtain ⟨h125, hf126, hd127⟩ := hw115
    have t128 : (1 : Int32).toInt = 1 := by decide
    have t129 : (1 : Int32).toInt = 1 := by decide
    have t130 : (0 : Int32).toInt = 0 := by decide
    obtain rfl : (1 : Int32) = r114 := hd127.symm
    refine lv_if_eq (tgt := 31) hx hb dX12_order_26 (by decide) (fun c131 => absurd c131 (by decide)) (fun c131 => ?_)
    refine lv_iconst (v := 0) hx hb dX12_order_29 (by decide) ?_
    exact W.iret (v := 0) hx hb hr (fun t ht hW => ⟨⟨0, u116, rfl, (by exact (Or.inr ⟨by have := orC_s p0.toInt; omega, by have q0 : (0 : Int32).toInt = 0 := (by decide); have q1 : (1 : Int32).toInt = 1 := (by decide); have qm : (-1 : Int32).toInt = -1 := (by decide); omega⟩)), by (try dsimp only); rw [ht]; exact ⟨hT, hF, m117⟩⟩, hS.F ht⟩) hS.2.2 dX12_order_30
