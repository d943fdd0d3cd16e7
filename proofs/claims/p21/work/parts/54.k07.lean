def w_cj_coder : List Cond := .code yJ0_coder_7d493 cJ0_coder_7d493 1 (some .byte) :: (HAppend.hAppend (α := List Cond) (β := List Cond) (γ := List Cond) [.fieldLink RJ0 38 "java/lang/String" "COMPACT_STRINGS" "Z", .fieldLink RJ0 15 "java/lang/String" "coder" "B"] bs2)
set_option maxHeartbeats 4000000 in
set_option maxRecDepth 100000 in
theorem cj_coder (l : Launch) (dC : Nat → ClassId) (dI : Nat → Nat → Nat) (kA : Nat → ClassId) (adK adV : Nat → Nat) (G : gT) (H0 : Heap) (nC nS : Int)  (sk : Nat) (hT : gH (dC, dI) kA (SHc nC nS) G H0) (hsk : sk < 48) (hgC : 0 ≤ nC ∧ nC ≤ 40) (hgS : 0 ≤ nS ∧ nS ≤ 60) : Met l yJ0_coder_7d493 w_cj_coder ({ frames := 0, cells := 0, slots := 0, locals := 0 }) (va_Pc [.ref (adK sk)] (fun U => U.heap = H0 ∧ va_K (dC, dI) vwCl (tyl kA) U ∧ EVC adK adV (gA G H0.size) U U.heap)) (va_Qi (fun (r : Int32) (u : Unit) => (0 ≤ r.toInt ∧ r.toInt ≤ 0) ∧ (r = 0)) (fun (_ : Unit) (t : State) => gH (dC, dI) kA (SHc nC nS) G t.heap ∧ gF (dC, dI) SKc G ([] : List (Nat × Nat)) H0 t.heap) (gA G H0.size)) 0 0 (gA G H0.size) := by
  refine va_MetF (cc := cJ0_coder_7d493) (maxL := 1) (ret := (some .byte)) (by decide +kernel) rfl ?_
  intro p e s m args below meth c s₁ B hml hv
  obtain ⟨rfl, hH0, hK, hE⟩ := hv
  have hx := B.exec
  have hb := B.bytes
  have hr := B.returns
  have hts := atoms_spec (ws := w_cj_coder) B.pre
  have hown : s.vm.findClass RJ0 = some m.cls := findClass_of_methodNamed B.named
  have hlocks := B.notSynchronized
  subst hH0
  generalize hAe : gA G s.heap.size = A at hE ⊢
  have hA : ∀ q : Nat, s.heap.size ≤ q → A q := fun q h => by rw [← hAe]; exact Or.inr h
  have hG := gA_of hAe
  have hS : va_S A s.heap s.heap [] := va_S.rf
  have hF : gF (dC, dI) SKc G ([] : List (Nat × Nat)) s.heap s.heap := gF.rf
  have hl := lv_entry ([.ref (adK sk)]) (n := 1) (Nat.le_of_ble_eq_true rfl)
  rw [lg_entry_eq]
  generalize (lg_sl ([.ref (adK sk)]) ++ List.replicate (1 - (lg_sl ([.ref (adK sk)])).length) Slot.unset).toArray = ls at hl ⊢
  have hl : lv_has ls 1 [(0, .ref (adK sk))] := hl
  refine va_gets hx hb (v := .int 1) hE.1.2.2.2.1 hS hown (ht_at2 hts 0 rfl) (fun _ h9 => h9) dJ0_coder_7d493_0 ?_
  refine lv_if_eq (tgt := 13) hx hb dJ0_coder_7d493_3 (by decide) (fun c1 => absurd c1 (by decide)) (fun c1 => ?_)
  refine lv_aload_n hx hb dJ0_coder_7d493_6 rfl (lv_at hl 0 rfl) ?_
  refine vk_getf hx hb (v := .int 0) (hE.1.2.1 sk hsk).2.1 hS hown (ht_at2 hts 1 rfl) (fun _ h9 => h9) dJ0_coder_7d493_7 ?_
  refine lv_goto (tgt := 14) hx hb dJ0_coder_7d493_10 (by decide) ?_
  exact W.zret (v := 0) hx hb hr (by decide) (fun t ht hW => ⟨⟨0, (), rfl, (by exact ⟨(rg_t (a := 0) (by decide) (by first | decide | omega) (by first | decide | omega)), rfl⟩), by (try dsimp only); rw [ht]; exact ⟨hT, hF⟩⟩, hS.F ht⟩) hS.2.2 dJ0_coder_7d493_14
def w_cj_isLatin1 : List Cond := .code yJ0_isLatin1_aae02 cJ0_isLatin1_aae02 1 (some .boolean) :: (HAppend.hAppend (α := List Cond) (β := List Cond) (γ := List Cond) [.fieldLink RJ0 38 "java/lang/String" "COMPACT_STRINGS" "Z", .fieldLink RJ0 15 "java/lang/String" "coder" "B"] bs2)
set_option maxHeartbeats 4000000 in
set_option maxRecDepth 100000 in
theorem cj_isLatin1 (l : Launch) (dC : Nat → ClassId) (dI : Nat → Nat → Nat) (kA : Nat → ClassId) (adK adV : Nat → Nat) (G : gT) (H0 : Heap) (nC nS : Int)  (sk : Nat) (hT : gH (dC, dI) kA (SHc nC nS) G H0) (hsk : sk < 48) (hgC : 0 ≤ nC ∧ nC ≤ 40) (hgS : 0 ≤ nS ∧ nS ≤ 60) : Met l yJ0_isLatin1_aae02 w_cj_isLatin1 ({ frames := 0, cells := 0, slots := 0, locals := 0 }) (va_Pc [.ref (adK sk)] (fun U => U.heap = H0 ∧ va_K (dC, dI) vwCl (tyl kA) U ∧ EVC adK adV (gA G H0.size) U U.heap)) (va_Qi (fun (r : Int32) (u : Unit) => (1 ≤ r.toInt ∧ r.toInt ≤ 1) ∧ (r = 1)) (fun (_ : Unit) (t : State) => gH (dC, dI) kA (SHc nC nS) G t.heap ∧ gF (dC, dI) SKc G ([] : List (Nat × Nat)) H0 t.heap) (gA G H0.size)) 0 0 (gA G H0.size) := by
  refine va_MetF (cc := cJ0_isLatin1_aae02) (maxL := 1) (ret := (some .boolean)) (by decide +kernel) rfl ?_
  intro p e s m args below meth c s₁ B hml hv
  obtain ⟨rfl, hH0, hK, hE⟩ := hv
  have hx := B.exec
  have hb := B.bytes
  have hr := B.returns
  have hts := atoms_spec (ws := w_cj_isLatin1) B.pre
  have hown : s.vm.findClass RJ0 = some m.cls := findClass_of_methodNamed B.named
  have hlocks := B.notSynchronized
  subst hH0
  generalize hAe : gA G s.heap.size = A at hE ⊢
  have hA : ∀ q : Nat, s.heap.size ≤ q → A q := fun q h => by rw [← hAe]; exact Or.inr h
  have hG := gA_of hAe
  have hS : va_S A s.heap s.heap [] := va_S.rf
  have hF : gF (dC, dI) SKc G ([] : List (Nat × Nat)) s.heap s.heap := gF.rf
  have hl := lv_entry ([.ref (adK sk)]) (n := 1) (Nat.le_of_ble_eq_true rfl)
  rw [lg_entry_eq]
  generalize (lg_sl ([.ref (adK sk)]) ++ List.replicate (1 - (lg_sl ([.ref (adK sk)])).length) Slot.unset).toArray = ls at hl ⊢
  have hl : lv_has ls 1 [(0, .ref (adK sk))] := hl
  refine va_gets hx hb (v := .int 1) hE.1.2.2.2.1 hS hown (ht_at2 hts 0 rfl) (fun _ h9 => h9) dJ0_isLatin1_aae02_0 ?_
  refine lv_if_eq (tgt := 17) hx hb dJ0_isLatin1_aae02_3 (by decide) (fun c1 => absurd c1 (by decide)) (fun c1 => ?_)
  refine lv_aload_n hx hb dJ0_isLatin1_aae02_6 rfl (lv_at hl 0 rfl) ?_
  refine vk_getf hx hb (v := .int 0) (hE.1.2.1 sk hsk).2.1 hS hown (ht_at2 hts 1 rfl) (fun _ h9 => h9) dJ0_isLatin1_aae02_7 ?_
  refine lv_if_ne (tgt := 17) hx hb dJ0_isLatin1_aae02_10 (by decide) (fun c2 => absurd c2 (by decide)) (fun c2 => ?_)
  refine lv_iconst (v := 1) hx hb dJ0_isLatin1_aae02_13 (by decide) ?_
  refine lv_goto (tgt := 18) hx hb dJ0_isLatin1_aae02_14 (by decide) ?_
  exact W.zret (v := 1) hx hb hr (by decide) (fun t ht hW => ⟨⟨1, (), rfl, (by exact ⟨(rg_t (a := 1) (by decide) (by first | decide | omega) (by first | decide | omega)), rfl⟩), by (try dsimp only); rw [ht]; exact ⟨hT, hF⟩⟩, hS.F ht⟩) hS.2.2 dJ0_isLatin1_aae02_18
def w_cj_length : List Cond := .code yJ0_length_8abf5 cJ0_length_8abf5 1 (some .int) :: (HAppend.hAppend (α := List Cond) (β := List Cond) (γ := List Cond) [.fieldLink RJ0 9 "java/lang/String" "value" "[B", .code yJ0_coder_7d493 cJ0_coder_7d493 1 (some .byte), .fieldLink RJ0 38 "java/lang/String" "COMPACT_STRINGS" "Z", .fieldLink RJ0 15 "java/lang/String" "coder" "B", .methodLink RJ0 335 yJ0_coder_7d493, .instanceMethod yJ0_coder_7d493, .selects RJ0 yJ0_coder_7d493 yJ0_coder_7d493, .initialized RJ0] bs2)
set_option maxHeartbeats 4000000 in
set_option maxRecDepth 100000 in
theorem cj_length (l : Launch) (dC : Nat → ClassId) (dI : Nat → Nat → Nat) (kA : Nat → ClassId) (adK adV : Nat → Nat) (G : gT) (H0 : Heap) (nC nS : Int)  (sk : Nat) (hT : gH (dC, dI) kA (SHc nC nS) G H0) (hsk : sk < 48) (hgC : 0 ≤ nC ∧ nC ≤ 40) (hgS : 0 ≤ nS ∧ nS ≤ 60) : Met l yJ0_length_8abf5 w_cj_length ({ frames := 1, cells := 0, slots := 0, locals := 20 }) (va_Pc [.ref (adK sk)] (fun U => U.heap = H0 ∧ va_K (dC, dI) vwCl (tyl kA) U ∧ EVC adK adV (gA G H0.size) U U.heap)) (va_Qi (fun (r : Int32) (u : Unit) => (2 ≤ r.toInt ∧ r.toInt ≤ 6) ∧ (r.toInt = ((sLn sk : Nat) : Int))) (fun (_ : Unit) (t : State) => gH (dC, dI) kA (SHc nC nS) G t.heap ∧ gF (dC, dI) SKc G ([] : List (Nat × Nat)) H0 t.heap) (gA G H0.size)) 0 0 (gA G H0.size) := by
  refine va_MetF (cc := cJ0_length_8abf5) (maxL := 1) (ret := (some .int)) (by decide +kernel) rfl ?_
  intro p e s m args below meth c s₁ B hml hv
  obtain ⟨rfl, hH0, hK, hE⟩ := hv
  have hx := B.exec
  have hb := B.bytes
  have hr := B.returns
  have hts := atoms_spec (ws := w_cj_length) B.pre
  have hown : s.vm.findClass RJ0 = some m.cls := findClass_of_methodNamed B.named
  have hlocks := B.notSynchronized
  subst hH0
  generalize hAe : gA G s.heap.size = A at hE ⊢
  have hA : ∀ q : Nat, s.heap.size ≤ q → A q := fun q h => by rw [← hAe]; exact Or.inr h
  have hG := gA_of hAe
  have hS : va_S A s.heap s.heap [] := va_S.rf
  have hF : gF (dC, dI) SKc G ([] : List (Nat × Nat)) s.heap s.heap := gF.rf
  have hl := lv_entry ([.ref (adK sk)]) (n := 1) (Nat.le_of_ble_eq_true rfl)
  rw [lg_entry_eq]
  generalize (lg_sl ([.ref (adK sk)]) ++ List.replicate (1 - (lg_sl ([.ref (adK sk)])).length) Slot.unset).toArray = ls at hl ⊢
  have hl : lv_has ls 1 [(0, .ref (adK sk))] := hl
  refine lv_aload_n hx hb dJ0_length_8abf5_0 rfl (lv_at hl 0 rfl) ?_
  refine vk_getf hx hb (v := .ref (adV sk)) (hE.1.2.1 sk hsk).2.2.1 hS hown (ht_at2 hts 0 rfl) (fun _ h9 => h9) dJ0_length_8abf5_1 ?_
  have hb9 := (hE.1.2.1 sk hsk).2.2.2
  obtain ⟨x1, ex1⟩ : ∃ y : Int32, Int32.ofNat (sLn sk) = y := ⟨_, rfl⟩
  have t2 : x1.toInt = ((sLn sk : Nat) : Int) := sLn_i hsk ex1
  have t3 : 2 ≤ sLn sk ∧ sLn sk ≤ 6 := sLn_b hsk
  refine va_tlen hx hb hb9 hS ex1 dJ0_length_8abf5_4 ?_
  refine lv_aload_n hx hb dJ0_length_8abf5_5 rfl (lv_at hl 0 rfl) ?_
  have hFc := gA_free hG hA hS
  refine va_calli (va_runV (As := []) (rest := [.int x1]) ⟨hx, hb, hml, hown, hts⟩ (cj_coder l dC dI kA adK adV G s.heap nC nS sk hT hsk (by omega) (by omega)) (cwV 0 hts (goodIn_app (goodIn_r _ [5, 6, 7, 8] rfl (by decide +kernel)) (goodIn_ca (goodIn_r _ [2, 3, 4] rfl (by decide +kernel)) (bs2_in _ _))) rfl rfl rfl (by decide +kernel) ⟨(Nat.le_of_ble_eq_true rfl), (Nat.le_of_ble_eq_true rfl)⟩) ⟨fun a U g mk q => by obtain ⟨q0, q1, qK, qE⟩ := q; exact ⟨q0, q1, va_K.moved (u := U) (U := U.calling g mk a) (Vm.Alike.refl U.vm) qK, EVC.blind g mk a qE⟩, hE.recv (i := sk) hsk hS, fun U hU hW => ⟨rfl, hU, va_K.moved hW.alike hK, hE.call hS hFc hU hW⟩⟩ rfl rfl hl.1 rfl (lv_room (Nat.le_of_ble_eq_true rfl)) dJ0_length_8abf5_6 ⟨(Nat.le_of_ble_eq_true rfl), (Nat.le_of_ble_eq_true rfl)⟩) hS (fun q _ h => hFc q h) hFc (fun r4 u t H locs ht hvm hw5 hB _ _ hS => ?_)
  obtain ⟨hT, hF1⟩ := hB
  rw [ht] at hT hF1
  have hF := hF.more hF1 (by decide)
  try dsimp only at hw5
  obtain ⟨h6, hd7⟩ := hw5
  obtain rfl : (0 : Int32) = r4 := hd7.symm
  refine lv_ishr hx hb dJ0_length_8abf5_9 ?_
  refine lv_topi (fun x8 ex8 => ?_)
  obtain rfl : x1 = x8 := (ex8.trans (shr_0 _)).symm
  exact W.iret (v := x1) hx hb hr (fun t ht hW => ⟨⟨x1, (), rfl, (by exact ⟨(by have q8 := ti_all x1; omega), (by omega)⟩), by (try dsimp only); rw [ht]; exact ⟨hT, hF⟩⟩, hS.F ht⟩) hS.2.2 dJ0_length_8abf5_10
def w_cj_check3N : List Cond := .code yJ3_checkIndex_8e157 cJ3_checkIndex_8e157 3 (some .int) :: (HAppend.hAppend (α := List Cond) (β := List Cond) (γ := List Cond) [] bs2)
set_option maxHeartbeats 4000000 in
set_option maxRecDepth 100000 in
theorem cj_check3N (l : Launch) (dC : Nat → ClassId) (dI : Nat → Nat → Nat) (kA : Nat → ClassId) (adK adV : Nat → Nat) (G : gT) (H0 : Heap) (nC nS : Int) (ci : Int32) (cn : Int32)  (hT : gH (dC, dI) kA (SHc nC nS) G H0) (hq0 : 0 ≤ ci.toInt ∧ ci.toInt ≤ 2147483647) (hci : ci.toInt < cn.toInt) (hgC : 0 ≤ nC ∧ nC ≤ 40) (hgS : 0 ≤ nS ∧ nS ≤ 60) : Met l yJ3_checkIndex_8e157 w_cj_check3N ({ frames := 0, cells := 0, slots := 0, locals := 0 }) (va_Pc [.int ci, .int cn, .null] (fun U => U.heap = H0 ∧ va_K (dC, dI) vwCl (tyl kA) U ∧ EVC adK adV (gA G H0.size) U U.heap)) (va_Qi (fun (r : Int32) (u : Unit) => (0 ≤ r.toInt ∧ r.toInt ≤ 2147483647)) (fun (_ : Unit) (t : State) => gH (dC, dI) kA (SHc nC nS) G t.heap ∧ gF (dC, dI) SKc G ([] : List (Nat × Nat)) H0 t.heap) (gA G H0.size)) 0 0 (gA G H0.size) := by
  refine va_MetF (cc := cJ3_checkIndex_8e157) (maxL := 3) (ret := (some .int)) (by decide +kernel) rfl ?_
  intro p e s m args below meth c s₁ B hml hv
  obtain ⟨rfl, hH0, hK, hE⟩ := hv
  have hx := B.exec
  have hb := B.bytes
  have hr := B.returns
  have hts := atoms_spec (ws := w_cj_check3N) B.pre
  have hown : s.vm.findClass RJ3 = some m.cls := findClass_of_methodNamed B.named
  have hlocks := B.notSynchronized
  subst hH0
  generalize hAe : gA G s.heap.size = A at hE ⊢
  have hA : ∀ q : Nat, s.heap.size ≤ q → A q := fun q h => by rw [← hAe]; exact Or.inr h
  have hG := gA_of hAe
  have hS : va_S A s.heap s.heap [] := va_S.rf
  have hF : gF (dC, dI) SKc G ([] : List (Nat × Nat)) s.heap s.heap := gF.rf
  have hl := lv_entry ([.int ci, .int cn, .null]) (n := 3) (Nat.le_of_ble_eq_true rfl)
  rw [lg_entry_eq]
  generalize (lg_sl ([.int ci, .int cn, .null]) ++ List.replicate (3 - (lg_sl ([.int ci, .int cn, .null])).length) Slot.unset).toArray = ls at hl ⊢
  have hl : lv_has ls 3 [(0, .int ci), (1, .int cn), (2, .null)] := hl
  refine lv_iload_n hx hb dJ3_checkIndex_8e157_0 rfl (lv_at hl 0 rfl) ?_
  have t1 : -2147483648 ≤ ci.toInt ∧ ci.toInt ≤ 2147483647 := ti_all ci
  refine lv_if_lt (tgt := 9) hx hb dJ3_checkIndex_8e157_1 (by decide) (fun c2 => (by exfalso; have q9 : ci.toInt < 0 := ti_lt c2 rfl (by decide); have := ti_all ci; omega)) (fun c2 => ?_)
  have t3 : 0 ≤ ci.toInt := ti_nlt c2 rfl (by decide)
  refine lv_iload_n hx hb dJ3_checkIndex_8e157_4 rfl (lv_at hl 0 rfl) ?_
  refine lv_iload_n hx hb dJ3_checkIndex_8e157_5 rfl (lv_at hl 1 rfl) ?_
  have t4 : -2147483648 ≤ cn.toInt ∧ cn.toInt ≤ 2147483647 := ti_all cn
  refine lv_icmp_lt (tgt := 16) hx hb dJ3_checkIndex_8e157_6 (by decide) (fun c5 => ?_) (fun c5 => ?_)
  · have t6 : ci.toInt < cn.toInt := ti_lt c5 rfl rfl
    refine lv_iload_n hx hb dJ3_checkIndex_8e157_16 rfl (lv_at hl 0 rfl) ?_
    exact W.iret (v := ci) hx hb hr (fun t ht hW => ⟨⟨ci, (), rfl, (by exact (by have q8 := ti_all ci; omega)), by (try dsimp only); rw [ht]; exact ⟨hT, hF⟩⟩, hS.F ht⟩) hS.2.2 dJ3_checkIndex_8e157_17
  · have t7 : cn.toInt ≤ ci.toInt := ti_nlt c5 rfl rfl
    exfalso; omega
def w_cj_check3R : List Cond := .code yJ3_checkIndex_8e157 cJ3_checkIndex_8e157 3 (some .int) :: (HAppend.hAppend (α := List Cond) (β := List Cond) (γ := List Cond) [] bs2)
set_option maxHeartbeats 4000000 in
set_option maxRecDepth 100000 in
theorem cj_check3R (l : Launch) (dC : Nat → ClassId) (dI : Nat → Nat → Nat) (kA : Nat → ClassId) (adK adV : Nat → Nat) (G : gT) (H0 : Heap) (nC nS : Int) (ci : Int32) (cn : Int32) (fa : Nat)  (hT : gH (dC, dI) kA (SHc nC nS) G H0) (hq0 : 0 ≤ ci.toInt ∧ ci.toInt ≤ 2147483647) (hci : ci.toInt < cn.toInt) (hgC : 0 ≤ nC ∧ nC ≤ 40) (hgS : 0 ≤ nS ∧ nS ≤ 60) : Met l yJ3_checkIndex_8e157 w_cj_check3R ({ frames := 0, cells := 0, slots := 0, locals := 0 }) (va_Pc [.int ci, .int cn, .ref fa] (fun U => U.heap = H0 ∧ va_K (dC, dI) vwCl (tyl kA) U ∧ EVC adK adV (gA G H0.size) U U.heap)) (va_Qi (fun (r : Int32) (u : Unit) => (0 ≤ r.toInt ∧ r.toInt ≤ 2147483647)) (fun (_ : Unit) (t : State) => gH (dC, dI) kA (SHc nC nS) G t.heap ∧ gF (dC, dI) SKc G ([] : List (Nat × Nat)) H0 t.heap) (gA G H0.size)) 0 0 (gA G H0.size) := by
  refine va_MetF (cc := cJ3_checkIndex_8e157) (maxL := 3) (ret := (some .int)) (by decide +kernel) rfl ?_
  intro p e s m args below meth c s₁ B hml hv
  obtain ⟨rfl, hH0, hK, hE⟩ := hv
  have hx := B.exec
  have hb := B.bytes
  have hr := B.returns
  have hts := atoms_spec (ws := w_cj_check3R) B.pre
  have hown : s.vm.findClass RJ3 = some m.cls := findClass_of_methodNamed B.named
  have hlocks := B.notSynchronized
  subst hH0
  generalize hAe : gA G s.heap.size = A at hE ⊢
  have hA : ∀ q : Nat, s.heap.size ≤ q → A q := fun q h => by rw [← hAe]; exact Or.inr h
  have hG := gA_of hAe
  have hS : va_S A s.heap s.heap [] := va_S.rf
  have hF : gF (dC, dI) SKc G ([] : List (Nat × Nat)) s.heap s.heap := gF.rf
  have hl := lv_entry ([.int ci, .int cn, .ref fa]) (n := 3) (Nat.le_of_ble_eq_true rfl)
  rw [lg_entry_eq]
  generalize (lg_sl ([.int ci, .int cn, .ref fa]) ++ List.replicate (3 - (lg_sl ([.int ci, .int cn, .ref fa])).length) Slot.unset).toArray = ls at hl ⊢
  have hl : lv_has ls 3 [(0, .int ci), (1, .int cn), (2, .ref fa)] := hl
  refine lv_iload_n hx hb dJ3_checkIndex_8e157_0 rfl (lv_at hl 0 rfl) ?_
  have t1 : -2147483648 ≤ ci.toInt ∧ ci.toInt ≤ 2147483647 := ti_all ci
  refine lv_if_lt (tgt := 9) hx hb dJ3_checkIndex_8e157_1 (by decide) (fun c2 => (by exfalso; have q9 : ci.toInt < 0 := ti_lt c2 rfl (by decide); have := ti_all ci; omega)) (fun c2 => ?_)
  have t3 : 0 ≤ ci.toInt := ti_nlt c2 rfl (by decide)
  refine lv_iload_n hx hb dJ3_checkIndex_8e157_4 rfl (lv_at hl 0 rfl) ?_
  refine lv_iload_n hx hb dJ3_checkIndex_8e157_5 rfl (lv_at hl 1 rfl) ?_
  have t4 : -2147483648 ≤ cn.toInt ∧ cn.toInt ≤ 2147483647 := ti_all cn
  refine lv_icmp_lt (tgt := 16) hx hb dJ3_checkIndex_8e157_6 (by decide) (fun c5 => ?_) (fun c5 => ?_)
  · have t6 : ci.toInt < cn.toInt := ti_lt c5 rfl rfl
    refine lv_iload_n hx hb dJ3_checkIndex_8e157_16 rfl (lv_at hl 0 rfl) ?_
    exact W.iret (v := ci) hx hb hr (fun t ht hW => ⟨⟨ci, (), rfl, (by exact (by have q8 := ti_all ci; omega)), by (try dsimp only); rw [ht]; exact ⟨hT, hF⟩⟩, hS.F ht⟩) hS.2.2 dJ3_checkIndex_8e157_17
  · have t7 : cn.toInt ≤ ci.toInt := ti_nlt c5 rfl rfl
    exfalso; omega
def w_cj_check0 : List Cond := .code yJ0_checkIndex_df160 cJ0_checkIndex_df160 2 none :: (HAppend.hAppend (α := List Cond) (β := List Cond) (γ := List Cond) [.fieldLink RJ0 1053 "jdk/internal/util/Preconditions" "SIOOBE_FORMATTER" "Ljava/util/function/BiFunction;", .code yJ3_checkIndex_8e157 cJ3_checkIndex_8e157 3 (some .int), .methodLink RJ0 1059 yJ3_checkIndex_8e157, .static yJ3_checkIndex_8e157, .initialized RJ3] bs2)
set_option maxHeartbeats 4000000 in
set_option maxRecDepth 100000 in
theorem cj_check0 (l : Launch) (dC : Nat → ClassId) (dI : Nat → Nat → Nat) (kA : Nat → ClassId) (adK adV : Nat → Nat) (G : gT) (H0 : Heap) (nC nS : Int) (ci : Int32) (cn : Int32)  (hT : gH (dC, dI) kA (SHc nC nS) G H0) (hq0 : 0 ≤ ci.toInt ∧ ci.toInt ≤ 2147483647) (hci : ci.toInt < cn.toInt) (hgC : 0 ≤ nC ∧ nC ≤ 40) (hgS : 0 ≤ nS ∧ nS ≤ 60) : Met l yJ0_checkIndex_df160 w_cj_check0 ({ frames := 1, cells := 0, slots := 0, locals := 22 }) (va_Pc [.int ci, .int cn] (fun U => U.heap = H0 ∧ va_K (dC, dI) vwCl (tyl kA) U ∧ EVC adK adV (gA G H0.size) U U.heap)) (va_Qv (fun (u : Unit) => True) (fun (_ : Unit) (t : State) => gH (dC, dI) kA (SHc nC nS) G t.heap ∧ gF (dC, dI) SKc G ([] : List (Nat × Nat)) H0 t.heap) (gA G H0.size)) 0 0 (gA G H0.size) := by
  refine va_MetF (cc := cJ0_checkIndex_df160) (maxL := 2) (ret := none) (by decide +kernel) rfl ?_
  intro p e s m args below meth c s₁ B hml hv
  obtain ⟨rfl, hH0, hK, hE⟩ := hv
  have hx := B.exec
  have hb := B.bytes
  have hr := B.returns
  have hts := atoms_spec (ws := w_cj_check0) B.pre
  have hown : s.vm.findClass RJ0 = some m.cls := findClass_of_methodNamed B.named
  have hlocks := B.notSynchronized
  subst hH0
  generalize hAe : gA G s.heap.size = A at hE ⊢
  have hA : ∀ q : Nat, s.heap.size ≤ q → A q := fun q h => by rw [← hAe]; exact Or.inr h
  have hG := gA_of hAe
  have hS : va_S A s.heap s.heap [] := va_S.rf
  have hF : gF (dC, dI) SKc G ([] : List (Nat × Nat)) s.heap s.heap := gF.rf
  have hl := lv_entry ([.int ci, .int cn]) (n := 2) (Nat.le_of_ble_eq_true rfl)
  rw [lg_entry_eq]
  generalize (lg_sl ([.int ci, .int cn]) ++ List.replicate (2 - (lg_sl ([.int ci, .int cn])).length) Slot.unset).toArray = ls at hl ⊢
  have hl : lv_has ls 2 [(0, .int ci), (1, .int cn)] := hl
  refine lv_iload_n hx hb dJ0_checkIndex_df160_0 rfl (lv_at hl 0 rfl) ?_
  refine lv_iload_n hx hb dJ0_checkIndex_df160_1 rfl (lv_at hl 1 rfl) ?_
  rcases hE.1.2.2.2.2 with hz9 | ⟨ta, hz9⟩
  · refine va_gets hx hb (v := .null) hz9 hS hown (ht_at2 hts 0 rfl) (fun _ h9 => h9) dJ0_checkIndex_df160_2 ?_
    have hFc := gA_free hG hA hS
    refine va_calli (va_runS (As := [.int ci, .int cn, .null]) (rest := []) ⟨hx, hb, hml, hown, hts⟩ (cj_check3N l dC dI kA adK adV G s.heap nC nS ci cn hT (by have q8 := ti_all ci; omega) (by omega) (by omega) (by omega)) (va_cwS 3 hts (goodIn_app (goodIn_r _ [3, 4, 5] rfl (by decide +kernel)) (goodIn_ca (goodIn_r _ [2] rfl (by decide +kernel)) (bs2_in _ _))) rfl rfl rfl (by decide +kernel) ⟨(Nat.le_of_ble_eq_true rfl), (Nat.le_of_ble_eq_true rfl)⟩) ⟨fun a U g mk q => by obtain ⟨q0, q1, qK, qE⟩ := q; exact ⟨q0, q1, va_K.moved (u := U) (U := U.calling g mk a) (Vm.Alike.refl U.vm) qK, EVC.blind g mk a qE⟩, fun U hU hW => ⟨rfl, hU, va_K.moved hW.alike hK, hE.call hS hFc hU hW⟩⟩ rfl rfl hl.1 rfl (lv_room (Nat.le_of_ble_eq_true rfl)) dJ0_checkIndex_df160_5 ⟨(Nat.le_of_ble_eq_true rfl), (Nat.le_of_ble_eq_true rfl)⟩) hS (fun q _ h => hFc q h) hFc (fun r1 u t H locs ht hvm hw2 hB _ _ hS => ?_)
    obtain ⟨hT, hF1⟩ := hB
    rw [ht] at hT hF1
    have hF := hF.more hF1 (by decide)
    try dsimp only at hw2
    have h3 := hw2
    refine lv_pop hx hb dJ0_checkIndex_df160_8 rfl ?_
    exact W.vret hx hb hr (fun t ht hW => ⟨⟨(), rfl, (by exact trivial), by (try dsimp only); rw [ht]; exact ⟨hT, hF⟩⟩, hS.F ht⟩) hS.2.2 dJ0_checkIndex_df160_9
  · refine va_gets hx hb (v := .ref ta) hz9 hS hown (ht_at2 hts 0 rfl) (fun _ h9 => h9) dJ0_checkIndex_df160_2 ?_
    have hFc := gA_free hG hA hS
    refine va_calli (va_runS (As := [.int ci, .int cn, .ref ta]) (rest := []) ⟨hx, hb, hml, hown, hts⟩ (cj_check3R l dC dI kA adK adV G s.heap nC nS ci cn ta hT (by have q8 := ti_all ci; omega) (by omega) (by omega) (by omega)) (va_cwS 3 hts (goodIn_app (goodIn_r _ [3, 4, 5] rfl (by decide +kernel)) (goodIn_ca (goodIn_r _ [2] rfl (by decide +kernel)) (bs2_in _ _))) rfl rfl rfl (by decide +kernel) ⟨(Nat.le_of_ble_eq_true rfl), (Nat.le_of_ble_eq_true rfl)⟩) ⟨fun a U g mk q => by obtain ⟨q0, q1, qK, qE⟩ := q; exact ⟨q0, q1, va_K.moved (u := U) (U := U.calling g mk a) (Vm.Alike.refl U.vm) qK, EVC.blind g mk a qE⟩, fun U hU hW => ⟨rfl, hU, va_K.moved hW.alike hK, hE.call hS hFc hU hW⟩⟩ rfl rfl hl.1 rfl (lv_room (Nat.le_of_ble_eq_true rfl)) dJ0_checkIndex_df160_5 ⟨(Nat.le_of_ble_eq_true rfl), (Nat.le_of_ble_eq_true rfl)⟩) hS (fun q _ h => hFc q h) hFc (fun r4 u t H locs ht hvm hw5 hB _ _ hS => ?_)
    obtain ⟨hT, hF1⟩ := hB
    rw [ht] at hT hF1
    have hF := hF.more hF1 (by decide)
    try dsimp only at hw5
    have h6 := hw5
    refine lv_pop hx hb dJ0_checkIndex_df160_8 rfl ?_
    exact W.vret hx hb hr (fun t ht hW => ⟨⟨(), rfl, (by exact trivial), by (try dsimp only); rw [ht]; exact ⟨hT, hF⟩⟩, hS.F ht⟩) hS.2.2 dJ0_checkIndex_df160_9
def w_cj_charAt1 : List Cond := .code yJ1_charAt_3b067 cJ1_charAt_3b067 2 (some .char) :: (HAppend.hAppend (α := List Cond) (β := List Cond) (γ := List Cond) [.code yJ0_checkIndex_df160 cJ0_checkIndex_df160 2 none, .fieldLink RJ0 1053 "jdk/internal/util/Preconditions" "SIOOBE_FORMATTER" "Ljava/util/function/BiFunction;", .code yJ3_checkIndex_8e157 cJ3_checkIndex_8e157 3 (some .int), .methodLink RJ0 1059 yJ3_checkIndex_8e157, .static yJ3_checkIndex_8e157, .initialized RJ3, .methodLink RJ1 9 yJ0_checkIndex_df160, .static yJ0_checkIndex_df160, .initialized RJ0] bs2)
set_option maxHeartbeats 4000000 in
set_option maxRecDepth 100000 in
theorem cj_charAt1 (l : Launch) (dC : Nat → ClassId) (dI : Nat → Nat → Nat) (kA : Nat → ClassId) (adK adV : Nat → Nat) (G : gT) (H0 : Heap) (nC nS : Int) (ci : Int32) (sk : Nat) (hT : gH (dC, dI) kA (SHc nC nS) G H0) (hq0 : 0 ≤ ci.toInt ∧ ci.toInt ≤ 6) (hci : ci.toInt < ((sLn sk : Nat) : Int)) (hsk : sk < 48) (hgC : 0 ≤ nC ∧ nC ≤ 40) (hgS : 0 ≤ nS ∧ nS ≤ 60) : Met l yJ1_charAt_3b067 w_cj_charAt1 ({ frames := 2, cells := 0, slots := 0, locals := 43 }) (va_Pc [.ref (adV sk), .int ci] (fun U => U.heap = H0 ∧ va_K (dC, dI) vwCl (tyl kA) U ∧ EVC adK adV (gA G H0.size) U U.heap)) (va_Qi (fun (r : Int32) (u : Unit) => (narrow .char (.int r) = .int r) ∧ (r.toInt = (sW sk).getD ci.toNatClampNeg 0)) (fun (_ : Unit) (t : State) => gH (dC, dI) kA (SHc nC nS) G t.heap ∧ gF (dC, dI) SKc G ([] : List (Nat × Nat)) H0 t.heap) (gA G H0.size)) 0 0 (gA G H0.size) := by
  refine va_MetF (cc := cJ1_charAt_3b067) (maxL := 2) (ret := (some .char)) (by decide +kernel) rfl ?_
  intro p e s m args below meth c s₁ B hml hv
  obtain ⟨rfl, hH0, hK, hE⟩ := hv
  have hx := B.exec
  have hb := B.bytes
  have hr := B.returns
  have hts := atoms_spec (ws := w_cj_charAt1) B.pre
  have hown : s.vm.findClass RJ1 = some m.cls := findClass_of_methodNamed B.named
  have hlocks := B.notSynchronized
  subst hH0
  generalize hAe : gA G s.heap.size = A at hE ⊢
  have hA : ∀ q : Nat, s.heap.size ≤ q → A q := fun q h => by rw [← hAe]; exact Or.inr h
  have hG := gA_of hAe
  have hS : va_S A s.heap s.heap [] := va_S.rf
  have hF : gF (dC, dI) SKc G ([] : List (Nat × Nat)) s.heap s.heap := gF.rf
  have hl := lv_entry ([.ref (adV sk), .int ci]) (n := 2) (Nat.le_of_ble_eq_true rfl)
  rw [lg_entry_eq]
  generalize (lg_sl ([.ref (adV sk), .int ci]) ++ List.replicate (2 - (lg_sl ([.ref (adV sk), .int ci])).length) Slot.unset).toArray = ls at hl ⊢
  have hl : lv_has ls 2 [(0, .ref (adV sk)), (1, .int ci)] := hl
  refine lv_iload_n hx hb dJ1_charAt_3b067_0 rfl (lv_at hl 1 rfl) ?_
  refine lv_aload_n hx hb dJ1_charAt_3b067_1 rfl (lv_at hl 0 rfl) ?_
  have hb9 := (hE.1.2.1 sk hsk).2.2.2
  obtain ⟨x1, ex1⟩ : ∃ y : Int32, Int32.ofNat (sLn sk) = y := ⟨_, rfl⟩
  have t2 : x1.toInt = ((sLn sk : Nat) : Int) := sLn_i hsk ex1
  have t3 : 2 ≤ sLn sk ∧ sLn sk ≤ 6 := sLn_b hsk
  refine va_tlen hx hb hb9 hS ex1 dJ1_charAt_3b067_2 ?_
  have hFc := gA_free hG hA hS
  refine va_callv (va_runS (As := [.int ci, .int x1]) (rest := []) ⟨hx, hb, hml, hown, hts⟩ (cj_check0 l dC dI kA adK adV G s.heap nC nS ci x1 hT (by have q8 := ti_all ci; omega) (by omega) (by omega) (by omega)) (va_cwS 2 hts (goodIn_app (goodIn_r _ [7, 8, 9] rfl (by decide +kernel)) (goodIn_ca (goodIn_r _ [1, 2, 3, 4, 5, 6] rfl (by decide +kernel)) (bs2_in _ _))) rfl rfl rfl (by decide +kernel) ⟨(Nat.le_of_ble_eq_true rfl), (Nat.le_of_ble_eq_true rfl)⟩) ⟨fun a U g mk q => by obtain ⟨q0, q1, qK, qE⟩ := q; exact ⟨q0, q1, va_K.moved (u := U) (U := U.calling g mk a) (Vm.Alike.refl U.vm) qK, EVC.blind g mk a qE⟩, fun U hU hW => ⟨rfl, hU, va_K.moved hW.alike hK, hE.call hS hFc hU hW⟩⟩ rfl rfl hl.1 rfl (lv_room (Nat.le_of_ble_eq_true rfl)) dJ1_charAt_3b067_3 ⟨(Nat.le_of_ble_eq_true rfl), (Nat.le_of_ble_eq_true rfl)⟩) hS (fun q _ h => hFc q h) hFc (fun u t H locs ht hvm hw5 hB _ _ hS => ?_)
  obtain ⟨hT, hF1⟩ := hB
  rw [ht] at hT hF1
  have hF := hF.more hF1 (by decide)
  try dsimp only at hw5
  refine lv_aload_n hx hb dJ1_charAt_3b067_6 rfl (lv_at hl 0 rfl) ?_
  refine lv_iload_n hx hb dJ1_charAt_3b067_7 rfl (lv_at hl 1 rfl) ?_
  have hb9 := (hE.1.2.1 sk hsk).2.2.2
  refine va_tb hx hb hb9 hS (i := ci) (vin_t (a := ci.toInt) rfl (by omega) (by omega)) rfl dJ1_charAt_3b067_8 ?_
  refine lv_topi (fun x7 ex7 => ?_)
  refine lv_sipush (v := 255) hx hb dJ1_charAt_3b067_9 (by decide) ?_
  refine lv_iand hx hb dJ1_charAt_3b067_12 ?_
  refine lv_topi (fun x8 ex8 => ?_)
  have t9 : 0 ≤ x8.toInt ∧ x8.toInt ≤ 255 := by rw [ex8]; exact and_nn (show (255 : Int32).toInt = 255 from (by decide)) (by omega)
  refine lv_i2c hx hb dJ1_charAt_3b067_13 rfl ?_
  refine lv_topi (fun x11 ex11 => ?_)
  have hnc_ : narrow .char (.int x11) = .int x11 := by rw [ex11]; exact nar_c _
  exact W.zret (v := x11) hx hb hr hnc_ (fun t ht hW => ⟨⟨x11, (), rfl, (by exact ⟨hnc_, (by rw [ex11, ex8, ex7]; exact sw_ch hsk (by have q9 := tn_of (i := ci) rfl (by omega); omega))⟩), by (try dsimp only); rw [ht]; exact ⟨hT, hF⟩⟩, hS.F ht⟩) hS.2.2 dJ1_charAt_3b067_14
def w_cj_charAt : List Cond := .code yJ0_charAt_5068e cJ0_charAt_5068e 2 (some .char) :: (HAppend.hAppend (α := List Cond) (β := List Cond) (γ := List Cond) [.code yJ0_isLatin1_aae02 cJ0_isLatin1_aae02 1 (some .boolean), .fieldLink RJ0 38 "java/lang/String" "COMPACT_STRINGS" "Z", .fieldLink RJ0 15 "java/lang/String" "coder" "B", .methodLink RJ0 492 yJ0_isLatin1_aae02, .instanceMethod yJ0_isLatin1_aae02, .selects RJ0 yJ0_isLatin1_aae02 yJ0_isLatin1_aae02, .initialized RJ0, .fieldLink RJ0 9 "java/lang/String" "value" "[B", .code yJ1_charAt_3b067 cJ1_charAt_3b067 2 (some .char), .code yJ0_checkIndex_df160 cJ0_checkIndex_df160 2 none, .fieldLink RJ0 1053 "jdk/internal/util/Preconditions" "SIOOBE_FORMATTER" "Ljava/util/function/BiFunction;", .code yJ3_checkIndex_8e157 cJ3_checkIndex_8e157 3 (some .int), .methodLink RJ0 1059 yJ3_checkIndex_8e157, .static yJ3_checkIndex_8e157, .initialized RJ3, .methodLink RJ1 9 yJ0_checkIndex_df160, .static yJ0_checkIndex_df160, .methodLink RJ0 495 yJ1_charAt_3b067, .static yJ1_charAt_3b067, .initialized RJ1] bs2)
set_option maxHeartbeats 4000000 in
set_option maxRecDepth 100000 in
theorem cj_charAt (l : Launch) (dC : Nat → ClassId) (dI : Nat → Nat → Nat) (kA : Nat → ClassId) (adK adV : Nat → Nat) (G : gT) (H0 : Heap) (nC nS : Int) (ci : Int32) (sk : Nat) (hT : gH (dC, dI) kA (SHc nC nS) G H0) (hq0 : 0 ≤ ci.toInt ∧ ci.toInt ≤ 6) (hci : ci.toInt < ((sLn sk : Nat) : Int)) (hsk : sk < 48) (hgC : 0 ≤ nC ∧ nC ≤ 40) (hgS : 0 ≤ nS ∧ nS ≤ 60) : Met l yJ0_charAt_5068e w_cj_charAt ({ frames := 3, cells := 0, slots := 0, locals := 64 }) (va_Pc [.ref (adK sk), .int ci] (fun U => U.heap = H0 ∧ va_K (dC, dI) vwCl (tyl kA) U ∧ EVC adK adV (gA G H0.size) U U.heap)) (va_Qi (fun (r : Int32) (u : Unit) => (r.toInt = (sW sk).getD ci.toNatClampNeg 0)) (fun (_ : Unit) (t : State) => gH (dC, dI) kA (SHc nC nS) G t.heap ∧ gF (dC, dI) SKc G ([] : List (Nat × Nat)) H0 t.heap) (gA G H0.size)) 0 0 (gA G H0.size) := by
  refine va_MetF (cc := cJ0_charAt_5068e) (maxL := 2) (ret := (some .char)) (by decide +kernel) rfl ?_
  intro p e s m args below meth c s₁ B hml hv
  obtain ⟨rfl, hH0, hK, hE⟩ := hv
  have hx := B.exec
  have hb := B.bytes
  have hr := B.returns
  have hts := atoms_spec (ws := w_cj_charAt) B.pre
  have hown : s.vm.findClass RJ0 = some m.cls := findClass_of_methodNamed B.named
  have hlocks := B.notSynchronized
  subst hH0
  generalize hAe : gA G s.heap.size = A at hE ⊢
  have hA : ∀ q : Nat, s.heap.size ≤ q → A q := fun q h => by rw [← hAe]; exact Or.inr h
  have hG := gA_of hAe
  have hS : va_S A s.heap s.heap [] := va_S.rf
  have hF : gF (dC, dI) SKc G ([] : List (Nat × Nat)) s.heap s.heap := gF.rf
  have hl := lv_entry ([.ref (adK sk), .int ci]) (n := 2) (Nat.le_of_ble_eq_true rfl)
  rw [lg_entry_eq]
  generalize (lg_sl ([.ref (adK sk), .int ci]) ++ List.replicate (2 - (lg_sl ([.ref (adK sk), .int ci])).length) Slot.unset).toArray = ls at hl ⊢
  have hl : lv_has ls 2 [(0, .ref (adK sk)), (1, .int ci)] := hl
  refine lv_aload_n hx hb dJ0_charAt_5068e_0 rfl (lv_at hl 0 rfl) ?_
  have hFc := gA_free hG hA hS
  refine va_calli (va_runV (As := []) (rest := []) ⟨hx, hb, hml, hown, hts⟩ (cj_isLatin1 l dC dI kA adK adV G s.heap nC nS sk hT hsk (by omega) (by omega)) (cwV 0 hts (goodIn_app (goodIn_r _ [4, 5, 6, 7] rfl (by decide +kernel)) (goodIn_ca (goodIn_r _ [1, 2, 3] rfl (by decide +kernel)) (bs2_in _ _))) rfl rfl rfl (by decide +kernel) ⟨(Nat.le_of_ble_eq_true rfl), (Nat.le_of_ble_eq_true rfl)⟩) ⟨fun a U g mk q => by obtain ⟨q0, q1, qK, qE⟩ := q; exact ⟨q0, q1, va_K.moved (u := U) (U := U.calling g mk a) (Vm.Alike.refl U.vm) qK, EVC.blind g mk a qE⟩, hE.recv (i := sk) hsk hS, fun U hU hW => ⟨rfl, hU, va_K.moved hW.alike hK, hE.call hS hFc hU hW⟩⟩ rfl rfl hl.1 rfl (lv_room (Nat.le_of_ble_eq_true rfl)) dJ0_charAt_5068e_1 ⟨(Nat.le_of_ble_eq_true rfl), (Nat.le_of_ble_eq_true rfl)⟩) hS (fun q _ h => hFc q h) hFc (fun r1 u t H locs ht hvm hw2 hB _ _ hS => ?_)
  obtain ⟨hT, hF1⟩ := hB
  rw [ht] at hT hF1
  have hF := hF.more hF1 (by decide)
  try dsimp only at hw2
  obtain ⟨h3, hd4⟩ := hw2
  obtain rfl : (1 : Int32) = r1 := hd4.symm
  refine lv_if_eq (tgt := 16) hx hb dJ0_charAt_5068e_4 (by decide) (fun c5 => absurd c5 (by decide)) (fun c5 => ?_)
  refine lv_aload_n hx hb dJ0_charAt_5068e_7 rfl (lv_at hl 0 rfl) ?_
  refine vk_getf hx hb (v := .ref (adV sk)) (hE.1.2.1 sk hsk).2.2.1 hS hown (ht_at2 hts 7 rfl) (fun _ h9 => h9) dJ0_charAt_5068e_8 ?_
  refine lv_iload_n hx hb dJ0_charAt_5068e_11 rfl (lv_at hl 1 rfl) ?_
  have hFc := gA_free hG hA hS
  refine va_calli (va_runS (As := [.ref (adV sk), .int ci]) (rest := []) ⟨hx, hb, hml, hown, hts⟩ (cj_charAt1 l dC dI kA adK adV G H nC nS ci sk hT (by have q8 := ti_all ci; omega) (by omega) hsk (by omega) (by omega)) (va_cwS 2 hts (goodIn_app (goodIn_r _ [18, 19, 20] rfl (by decide +kernel)) (goodIn_ca (goodIn_r _ [9, 10, 11, 12, 13, 14, 15, 16, 17, 7] rfl (by decide +kernel)) (bs2_in _ _))) rfl rfl rfl (by decide +kernel) ⟨(Nat.le_of_ble_eq_true rfl), (Nat.le_of_ble_eq_true rfl)⟩) ⟨fun a U g mk q => by obtain ⟨q0, q1, qK, qE⟩ := q; exact ⟨q0, q1, va_K.moved (u := U) (U := U.calling g mk a) (Vm.Alike.refl U.vm) qK, EVC.blind g mk a qE⟩, fun U hU hW => ⟨rfl, hU, va_K.moved hW.alike hK, hE.call hS hFc hU hW⟩⟩ rfl rfl hl.1 rfl (lv_room (Nat.le_of_ble_eq_true rfl)) dJ0_charAt_5068e_12 ⟨(Nat.le_of_ble_eq_true rfl), (Nat.le_of_ble_eq_true rfl)⟩) hS (fun q _ h => hFc q h) hFc (fun r6 u t H locs ht hvm hw7 hB _ _ hS => ?_)
  obtain ⟨hT, hF1⟩ := hB
  rw [ht] at hT hF1
  have hF := hF.more hF1 (by decide)
  try dsimp only at hw7
  obtain ⟨hf8, hf9⟩ := hw7
  exact W.zret (v := r6) hx hb hr (by assumption) (fun t ht hW => ⟨⟨r6, (), rfl, (by exact hf9), by (try dsimp only); rw [ht]; exact ⟨hT, hF⟩⟩, hS.F ht⟩) hS.2.2 dJ0_charAt_5068e_15
def w_c_isLetter : List Cond := .code yX4_isLetter cX4_isLetter 1 (some .boolean) :: (HAppend.hAppend (α := List Cond) (β := List Cond) (γ := List Cond) [] bs2)
set_option maxHeartbeats 4000000 in
set_option maxRecDepth 100000 in
theorem c_isLetter (l : Launch) (dC : Nat → ClassId) (dI : Nat → Nat → Nat) (kA : Nat → ClassId) (adK adV : Nat → Nat) (G : gT) (H0 : Heap) (nC nS : Int) (sg : Int32)  (hT : gH (dC, dI) kA (SHc nC nS) G H0) (hgC : 0 ≤ nC ∧ nC ≤ 40) (hgS : 0 ≤ nS ∧ nS ≤ 60) : Met l yX4_isLetter w_c_isLetter ({ frames := 0, cells := 0, slots := 0, locals := 0 }) (va_Pc [.int sg] (fun U => U.heap = H0 ∧ va_K (dC, dI) vwCl (tyl kA) U ∧ EVC adK adV (gA G H0.size) U U.heap)) (va_Qi (fun (r : Int32) (u : Unit) => (0 ≤ r.toInt ∧ r.toInt ≤ 1) ∧ (r.toInt = 1 → 97 ≤ sg.toInt) ∧ ((r.toInt = 1 ∧ 97 ≤ sg.toInt ∧ sg.toInt ≤ 122) ∨ (r.toInt = 0 ∧ ¬ (97 ≤ sg.toInt ∧ sg.toInt ≤ 122)))) (fun (_ : Unit) (t : State) => gH (dC, dI) kA (SHc nC nS) G t.heap ∧ gF (dC, dI) SKc G ([] : List (Nat × Nat)) H0 t.heap) (gA G H0.size)) 0 0 (gA G H0.size) := by
  refine Met.ofW (cc := cX4_isLetter) (maxL := 1) (ret := (some .boolean)) (by decide) rfl ?_
  intro p e s m args below meth c s₁ B hml hv
  obtain ⟨rfl, hH0, hK, hE⟩ := hv
  have hx := B.exec
  have hb := B.bytes
  have hr := B.returns
  have hts := atoms_spec (ws := w_c_isLetter) B.pre
  have hown : s.vm.findClass RX4 = some m.cls := findClass_of_methodNamed B.named
  have hlocks := B.notSynchronized
  subst hH0
  generalize hAe : gA G s.heap.size = A at hE ⊢
  have hA : ∀ q : Nat, s.heap.size ≤ q → A q := fun q h => by rw [← hAe]; exact Or.inr h
  have hG := gA_of hAe
  have hS : va_S A s.heap s.heap [] := va_S.rf
  have hF : gF (dC, dI) SKc G ([] : List (Nat × Nat)) s.heap s.heap := gF.rf
  have hl := lv_entry ([.int sg]) (n := 1) (Nat.le_of_ble_eq_true rfl)
  rw [lg_entry_eq]
  generalize (lg_sl ([.int sg]) ++ List.replicate (1 - (lg_sl ([.int sg])).length) Slot.unset).toArray = ls at hl ⊢
  have hl : lv_has ls 1 [(0, .int sg)] := hl
  refine lv_bipush (v := 97) hx hb dX4_isLetter_0 (by decide) ?_
  refine lv_iload_n hx hb dX4_isLetter_2 rfl (lv_at hl 0 rfl) ?_
  have t1 : -2147483648 ≤ sg.toInt ∧ sg.toInt ≤ 2147483647 := ti_all sg
  refine lv_icmp_gt (tgt := 16) hx hb dX4_isLetter_3 (by decide) (fun c2 => ?_) (fun c2 => ?_)
  · have t3 : sg.toInt < 97 := ti_lt c2 rfl (by decide)
    refine lv_iconst (v := 0) hx hb dX4_isLetter_16 (by decide) ?_
    exact W.zret (v := 0) hx hb hr (by decide) (fun t ht hW => ⟨⟨0, (), rfl, (by exact ⟨(rg_t (a := 0) (by decide) (by first | decide | omega) (by first | decide | omega)), (by have : (0 : Int32).toInt = 0 := (by decide); omega), (by have : (0 : Int32).toInt = 0 := (by decide); omega)⟩), by (try dsimp only); rw [ht]; exact ⟨hT, hF⟩⟩, hS.F ht⟩) hS.2.2 dX4_isLetter_17
  · have t4 : 97 ≤ sg.toInt := ti_nlt c2 rfl (by decide)
    refine lv_iload_n hx hb dX4_isLetter_6 rfl (lv_at hl 0 rfl) ?_
    refine lv_bipush (v := 122) hx hb dX4_isLetter_7 (by decide) ?_
    refine lv_icmp_gt (tgt := 16) hx hb dX4_isLetter_9 (by decide) (fun c5 => ?_) (fun c5 => ?_)
    · have t6 : 122 < sg.toInt := ti_lt c5 (by decide) rfl
      refine lv_iconst (v := 0) hx hb dX4_isLetter_16 (by decide) ?_
      exact W.zret (v := 0) hx hb hr (by decide) (fun t ht hW => ⟨⟨0, (), rfl, (by exact ⟨(rg_t (a := 0) (by decide) (by first | decide | omega) (by first | decide | omega)), (by have : (0 : Int32).toInt = 0 := (by decide); omega), (by have : (0 : Int32).toInt = 0 := (by decide); omega)⟩), by (try dsimp only); rw [ht]; exact ⟨hT, hF⟩⟩, hS.F ht⟩) hS.2.2 dX4_isLetter_17
    · have t7 : sg.toInt ≤ 122 := ti_nlt c5 (by decide) rfl
      refine lv_iconst (v := 1) hx hb dX4_isLetter_12 (by decide) ?_
      refine lv_goto (tgt := 17) hx hb dX4_isLetter_13 (by decide) ?_
      exact W.zret (v := 1) hx hb hr (by decide) (fun t ht hW => ⟨⟨1, (), rfl, (by exact ⟨(rg_t (a := 1) (by decide) (by first | decide | omega) (by first | decide | omega)), (by have : (1 : Int32).toInt = 1 := (by decide); omega), (by have : (1 : Int32).toInt = 1 := (by decide); omega)⟩), by (try dsimp only); rw [ht]; exact ⟨hT, hF⟩⟩, hS.F ht⟩) hS.2.2 dX4_isLetter_17
def w_c_isDigit : List Cond := .code yX4_isDigit cX4_isDigit 1 (some .boolean) :: (HAppend.hAppend (α := List Cond) (β := List Cond) (γ := List Cond) [] bs2)
set_option maxHeartbeats 4000000 in
set_option maxRecDepth 100000 in
theorem c_isDigit (l : Launch) (dC : Nat → ClassId) (dI : Nat → Nat → Nat) (kA : Nat → ClassId) (adK adV : Nat → Nat) (G : gT) (H0 : Heap) (nC nS : Int) (sg : Int32)  (hT : gH (dC, dI) kA (SHc nC nS) G H0) (hgC : 0 ≤ nC ∧ nC ≤ 40) (hgS : 0 ≤ nS ∧ nS ≤ 60) : Met l yX4_isDigit w_c_isDigit ({ frames := 0, cells := 0, slots := 0, locals := 0 }) (va_Pc [.int sg] (fun U => U.heap = H0 ∧ va_K (dC, dI) vwCl (tyl kA) U ∧ EVC adK adV (gA G H0.size) U U.heap)) (va_Qi (fun (r : Int32) (u : Unit) => (0 ≤ r.toInt ∧ r.toInt ≤ 1) ∧ ((r.toInt = 1 → 48 ≤ sg.toInt ∧ sg.toInt ≤ 57) ∧ (r.toInt = 0 → sg.toInt < 48 ∨ 57 < sg.toInt))) (fun (_ : Unit) (t : State) => gH (dC, dI) kA (SHc nC nS) G t.heap ∧ gF (dC, dI) SKc G ([] : List (Nat × Nat)) H0 t.heap) (gA G H0.size)) 0 0 (gA G H0.size) := by
  refine Met.ofW (cc := cX4_isDigit) (maxL := 1) (ret := (some .boolean)) (by decide) rfl ?_
  intro p e s m args below meth c s₁ B hml hv
  obtain ⟨rfl, hH0, hK, hE⟩ := hv
  have hx := B.exec
  have hb := B.bytes
  have hr := B.returns
  have hts := atoms_spec (ws := w_c_isDigit) B.pre
  have hown : s.vm.findClass RX4 = some m.cls := findClass_of_methodNamed B.named
  have hlocks := B.notSynchronized
  subst hH0
  generalize hAe : gA G s.heap.size = A at hE ⊢
  have hA : ∀ q : Nat, s.heap.size ≤ q → A q := fun q h => by rw [← hAe]; exact Or.inr h
  have hG := gA_of hAe
  have hS : va_S A s.heap s.heap [] := va_S.rf
  have hF : gF (dC, dI) SKc G ([] : List (Nat × Nat)) s.heap s.heap := gF.rf
  have hl := lv_entry ([.int sg]) (n := 1) (Nat.le_of_ble_eq_true rfl)
  rw [lg_entry_eq]
  generalize (lg_sl ([.int sg]) ++ List.replicate (1 - (lg_sl ([.int sg])).length) Slot.unset).toArray = ls at hl ⊢
  have hl : lv_has ls 1 [(0, .int sg)] := hl
  refine lv_bipush (v := 48) hx hb dX4_isDigit_0 (by decide) ?_
  refine lv_iload_n hx hb dX4_isDigit_2 rfl (lv_at hl 0 rfl) ?_
  have t1 : -2147483648 ≤ sg.toInt ∧ sg.toInt ≤ 2147483647 := ti_all sg
  refine lv_icmp_gt (tgt := 16) hx hb dX4_isDigit_3 (by decide) (fun c2 => ?_) (fun c2 => ?_)
  · have t3 : sg.toInt < 48 := ti_lt c2 rfl (by decide)
    refine lv_iconst (v := 0) hx hb dX4_isDigit_16 (by decide) ?_
    exact W.zret (v := 0) hx hb hr (by decide) (fun t ht hW => ⟨⟨0, (), rfl, (by exact ⟨(rg_t (a := 0) (by decide) (by first | decide | omega) (by first | decide | omega)), (by have : (0 : Int32).toInt = 0 := (by decide); omega)⟩), by (try dsimp only); rw [ht]; exact ⟨hT, hF⟩⟩, hS.F ht⟩) hS.2.2 dX4_isDigit_17
  · have t4 : 48 ≤ sg.toInt := ti_nlt c2 rfl (by decide)
    refine lv_iload_n hx hb dX4_isDigit_6 rfl (lv_at hl 0 rfl) ?_
    refine lv_bipush (v := 57) hx hb dX4_isDigit_7 (by decide) ?_
    refine lv_icmp_gt (tgt := 16) hx hb dX4_isDigit_9 (by decide) (fun c5 => ?_) (fun c5 => ?_)
    · have t6 : 57 < sg.toInt := ti_lt c5 (by decide) rfl
      refine lv_iconst (v := 0) hx hb dX4_isDigit_16 (by decide) ?_
      exact W.zret (v := 0) hx hb hr (by decide) (fun t ht hW => ⟨⟨0, (), rfl, (by exact ⟨(rg_t (a := 0) (by decide) (by first | decide | omega) (by first | decide | omega)), (by have : (0 : Int32).toInt = 0 := (by decide); omega)⟩), by (try dsimp only); rw [ht]; exact ⟨hT, hF⟩⟩, hS.F ht⟩) hS.2.2 dX4_isDigit_17
    · have t7 : sg.toInt ≤ 57 := ti_nlt c5 (by decide) rfl
      refine lv_iconst (v := 1) hx hb dX4_isDigit_12 (by decide) ?_
      refine lv_goto (tgt := 17) hx hb dX4_isDigit_13 (by decide) ?_
      exact W.zret (v := 1) hx hb hr (by decide) (fun t ht hW => ⟨⟨1, (), rfl, (by exact ⟨(rg_t (a := 1) (by decide) (by first | decide | omega) (by first | decide | omega)), (by have : (1 : Int32).toInt = 1 := (by decide); omega)⟩), by (try dsimp only); rw [ht]; exact ⟨hT, hF⟩⟩, hS.F ht⟩) hS.2.2 dX4_isDigit_17
def w_c_thingEnd : List Cond := .code yX4_thingEnd cX4_thingEnd 6 (some .int) :: (HAppend.hAppend (α := List Cond) (β := List Cond) (γ := List Cond) [.code yX4_isLetter cX4_isLetter 1 (some .boolean), .methodLink RX4 81 yX4_isLetter, .static yX4_isLetter, .initialized RX4, .code yX4_isDigit cX4_isDigit 1 (some .boolean), .methodLink RX4 84 yX4_isDigit, .static yX4_isDigit] bs2)
set_option maxHeartbeats 4000000 in
set_option maxRecDepth 100000 in
theorem c_thingEnd (l : Launch) (dC : Nat → ClassId) (dI : Nat → Nat → Nat) (kA : Nat → ClassId) (adK adV : Nat → Nat) (G : gT) (H0 : Heap) (nC nS : Int) (tx : Nat) (fr : Int32) (en : Int32) (vc : Nat → Int32) (N : Nat) (hT : gH (dC, dI) kA (SHc nC nS) G H0) (hr_tx : G tx = some 16) (hq0 : 0 ≤ fr.toInt ∧ fr.toInt ≤ 399) (hq1 : 0 ≤ en.toInt ∧ en.toInt ≤ 400) (hfe : fr.toInt < en.toInt) (hN : en.toInt = ((N : Nat) : Int)) (hc_vc : ct H0 tx 400 vc) (hgC : 0 ≤ nC ∧ nC ≤ 40) (hgS : 0 ≤ nS ∧ nS ≤ 60) : Met l yX4_thingEnd w_c_thingEnd ({ frames := 1, cells := 0, slots := 0, locals := 20 }) (va_Pc [.ref tx, .int fr, .int en] (fun U => U.heap = H0 ∧ va_K (dC, dI) vwCl (tyl kA) U ∧ EVC adK adV (gA G H0.size) U U.heap)) (va_Qi (fun (r : Int32) (u : Unit) => (1 ≤ r.toInt ∧ r.toInt ≤ 400) ∧ (fr.toInt + 1 ≤ r.toInt ∧ r.toInt ≤ en.toInt) ∧ ((∃ x : Int32, el H0 tx fr.toNatClampNeg = some (.int x) ∧ 48 ≤ x.toInt ∧ x.toInt ≤ 57) → ∀ j : Nat, fr.toInt ≤ (j : Int) → (j : Int) < r.toInt → ∃ x : Int32, el H0 tx j = some (.int x) ∧ 48 ≤ x.toInt ∧ x.toInt ≤ 57) ∧ (r.toNatClampNeg = te (tc vc) N fr.toNatClampNeg)) (fun (_ : Unit) (t : State) => gH (dC, dI) kA (SHc nC nS) G t.heap ∧ gF (dC, dI) SKc G ([] : List (Nat × Nat)) H0 t.heap) (gA G H0.size)) 0 0 (gA G H0.size) := by
  refine Met.ofW (cc := cX4_thingEnd) (maxL := 6) (ret := (some .int)) (by decide) rfl ?_
  intro p e s m args below meth c s₁ B hml hv
  obtain ⟨rfl, hH0, hK, hE⟩ := hv
  have hx := B.exec
  have hb := B.bytes
  have hr := B.returns
  have hts := atoms_spec (ws := w_c_thingEnd) B.pre
  have hown : s.vm.findClass RX4 = some m.cls := findClass_of_methodNamed B.named
  have hlocks := B.notSynchronized
  subst hH0
  generalize hAe : gA G s.heap.size = A at hE ⊢
  have hA : ∀ q : Nat, s.heap.size ≤ q → A q := fun q h => by rw [← hAe]; exact Or.inr h
  have hG := gA_of hAe
  have hS : va_S A s.heap s.heap [] := va_S.rf
  have hF : gF (dC, dI) SKc G ([] : List (Nat × Nat)) s.heap s.heap := gF.rf
  have hl := lv_entry ([.ref tx, .int fr, .int en]) (n := 6) (Nat.le_of_ble_eq_true rfl)
  rw [lg_entry_eq]
  generalize (lg_sl ([.ref tx, .int fr, .int en]) ++ List.replicate (6 - (lg_sl ([.ref tx, .int fr, .int en])).length) Slot.unset).toArray = ls at hl ⊢
  have hl : lv_has ls 6 [(0, .ref tx), (1, .int fr), (2, .int en)] := hl
  refine lv_aload_n hx hb dX4_thingEnd_0 rfl (lv_at hl 0 rfl) ?_
  refine lv_iload_n hx hb dX4_thingEnd_1 rfl (lv_at hl 1 rfl) ?_
  refine tw_iald (i := fr) hx hb hK hT hr_tx shc_16 rfl (vin_t (a := fr.toInt) rfl (by omega) (by omega)) dX4_thingEnd_2 (fun v9 m1 h9 => ?_)
  obtain ⟨x2, rfl, gx2, kx2⟩ := h9
  have cx2 := hc_vc.at m1 (by have q9 := tn_of (show fr.toInt = fr.toInt from rfl) (by omega); omega)
  have t3 : (x2.toInt < 128 ∧ tc vc fr.toNatClampNeg = x2.toInt) ∨ (128 ≤ x2.toInt ∧ tc vc fr.toNatClampNeg = x2.toInt - 256) := tc_s cx2 (by omega) (by omega)
  have hFc := gA_free hG hA hS
  refine va_calli (va_runS (As := [.int x2]) (rest := []) ⟨hx, hb, hml, hown, hts⟩ (c_isLetter l dC dI kA adK adV G s.heap nC nS x2 hT (by omega) (by omega)) (va_cwS 1 hts (goodIn_app (goodIn_r _ [2, 3, 4] rfl (by decide +kernel)) (goodIn_ca (goodIn_r _ [1] rfl (by decide +kernel)) (bs2_in _ _))) rfl rfl rfl (by decide +kernel) ⟨(Nat.le_of_ble_eq_true rfl), (Nat.le_of_ble_eq_true rfl)⟩) ⟨fun a U g mk q => by obtain ⟨q0, q1, qK, qE⟩ := q; exact ⟨q0, q1, va_K.moved (u := U) (U := U.calling g mk a) (Vm.Alike.refl U.vm) qK, EVC.blind g mk a qE⟩, fun U hU hW => ⟨rfl, hU, va_K.moved hW.alike hK, hE.call hS hFc hU hW⟩⟩ rfl rfl hl.1 rfl (lv_room (Nat.le_of_ble_eq_true rfl)) dX4_thingEnd_3 ⟨(Nat.le_of_ble_eq_true rfl), (Nat.le_of_ble_eq_true rfl)⟩) hS (fun q _ h => hFc q h) hFc (fun r4 u t H locs ht hvm hw5 hB _ _ hS => ?_)
  obtain ⟨hT, hF1⟩ := hB
  rw [ht] at hT hF1
  have m6 := hc_vc.kept (hF1.arr hr_tx skc_16 (by decide))
  have m7 := (el_kept (hF1.arr hr_tx skc_16 (by decide))).trans m1
  have hF := hF.more hF1 (by decide)
  try dsimp only at hw5
  obtain ⟨h8, hf9, hf10⟩ := hw5
  refine lv_istore_n (lv' := [(3, .int r4), (0, .ref tx), (1, .int fr), (2, .int en)]) hx hb dX4_thingEnd_6 rfl hl (by decide) rfl (fun ls hl => ?_)
  refine lv_aload_n hx hb dX4_thingEnd_7 rfl (lv_at hl 1 rfl) ?_
  refine lv_iload_n hx hb dX4_thingEnd_8 rfl (lv_at hl 2 rfl) ?_
  refine tw_iald (i := fr) hx hb hK hT hr_tx shc_16 rfl (vin_t (a := fr.toInt) rfl (by omega) (by omega)) dX4_thingEnd_9 (fun v9 m11 h9 => ?_)
  obtain ⟨x12, rfl, gx12, kx12⟩ := h9
  have cx12 := m6.at m11 (by have q9 := tn_of (show fr.toInt = fr.toInt from rfl) (by omega); omega)
  obtain rfl : x2 = x12 := (el_same m11 m7 rfl).symm
  have hFc := gA_free hG hA hS
  refine va_calli (va_runS (As := [.int x2]) (rest := []) ⟨hx, hb, hml, hown, hts⟩ (c_isDigit l dC dI kA adK adV G H nC nS x2 hT (by omega) (by omega)) (va_cwS 1 hts (goodIn_app (goodIn_r _ [6, 7, 4] rfl (by decide +kernel)) (goodIn_ca (goodIn_r _ [5] rfl (by decide +kernel)) (bs2_in _ _))) rfl rfl rfl (by decide +kernel) ⟨(Nat.le_of_ble_eq_true rfl), (Nat.le_of_ble_eq_true rfl)⟩) ⟨fun a U g mk q => by obtain ⟨q0, q1, qK, qE⟩ := q; exact ⟨q0, q1, va_K.moved (u := U) (U := U.calling g mk a) (Vm.Alike.refl U.vm) qK, EVC.blind g mk a qE⟩, fun U hU hW => ⟨rfl, hU, va_K.moved hW.alike hK, hE.call hS hFc hU hW⟩⟩ rfl rfl hl.1 rfl (lv_room (Nat.le_of_ble_eq_true rfl)) dX4_thingEnd_10 ⟨(Nat.le_of_ble_eq_true rfl), (Nat.le_of_ble_eq_true rfl)⟩) hS (fun q _ h => hFc q h) hFc (fun r13 u t H locs ht hvm hw14 hB _ _ hS => ?_)
  obtain ⟨hT, hF1⟩ := hB
  rw [ht] at hT hF1
  have m15 := m6.kept (hF1.arr hr_tx skc_16 (by decide))
  have m16 := (el_kept (hF1.arr hr_tx skc_16 (by decide))).trans m7
  have hF := hF.more hF1 (by decide)
  try dsimp only at hw14
  obtain ⟨h17, hf18⟩ := hw14
  refine lv_istore (lv' := [(4, .int r13), (3, .int r4), (0, .ref tx), (1, .int fr), (2, .int en)]) hx hb dX4_thingEnd_13 hl (by decide) rfl (fun ls hl => ?_)
  refine lv_iload_n hx hb dX4_thingEnd_15 rfl (lv_at hl 3 rfl) ?_
  refine lv_iconst (v := 1) hx hb dX4_thingEnd_16 (by decide) ?_
  refine lv_iadd hx hb dX4_thingEnd_17 ?_
  refine lv_topi (fun x19 ex19 => ?_)
  have t20 : x19.toInt = fr.toInt + 1 := ti_add ex19 rfl (by decide) (by omega) (by omega)
  refine lv_istore (lv' := [(5, .int x19), (4, .int r13), (3, .int r4), (0, .ref tx), (1, .int fr), (2, .int en)]) hx hb dX4_thingEnd_18 hl (by decide) rfl (fun ls hl => ?_)
  obtain ⟨k21, hk21, lk21, ek21⟩ := ti_nat x19 (by omega)
  subst ek21
  have key79 : ∀ (n79 i22 : Nat), i22 + n79 = 400 → k21 ≤ i22 → (((r4.toInt = 1 → ∀ j : Nat, fr.toNatClampNeg ≤ j → j < i22 → ltB (tc vc j) = true) ∧ (r13.toInt = 1 → ∀ j : Nat, fr.toNatClampNeg ≤ j → j < i22 → dgB (tc vc j) = true) ∧ (r4.toInt = 0 → r13.toInt = 0 → i22 = fr.toNatClampNeg + 1)) ∧ (r13.toInt = 1 → ∀ j : Nat, fr.toInt ≤ (j : Int) → (j : Int) < ((i22 : Nat) : Int) → ∃ x : Int32, el s.heap tx j = some (.int x) ∧ 48 ≤ x.toInt ∧ x.toInt ≤ 57) ∧ (((i22 : Nat) : Int) ≤ en.toInt)) → ∀ (H : Heap) (locs : List Loc), gH (dC, dI) kA (SHc nC nS) G H → gF (dC, dI) SKc G ([] : List (Nat × Nat)) s.heap H → va_S A s.heap H locs → ct H tx 400 vc → el H tx fr.toNatClampNeg = some (.int x2) → ∀ ls : Array Slot, lv_has ls 6 [(5, .int (nI i22)), (4, .int r13), (3, .int r4), (0, .ref tx), (1, .int fr), (2, .int en)] → W p l e (headSpec w_c_thingEnd ({ frames := 1, cells := 0, slots := 0, locals := 20 })).room s m #[.ref tx, .int fr, .int en] below meth c H locs 0 0 (MQ below (va_Qi (fun (r : Int32) (u : Unit) => (1 ≤ r.toInt ∧ r.toInt ≤ 400) ∧ (fr.toInt + 1 ≤ r.toInt ∧ r.toInt ≤ en.toInt) ∧ ((∃ x : Int32, el s.heap tx fr.toNatClampNeg = some (.int x) ∧ 48 ≤ x.toInt ∧ x.toInt ≤ 57) → ∀ j : Nat, fr.toInt ≤ (j : Int) → (j : Int) < r.toInt → ∃ x : Int32, el s.heap tx j = some (.int x) ∧ 48 ≤ x.toInt ∧ x.toInt ≤ 57) ∧ (r.toNatClampNeg = te (tc vc) N fr.toNatClampNeg)) (fun (_ : Unit) (t : State) => gH (dC, dI) kA (SHc nC nS) G t.heap ∧ gF (dC, dI) SKc G ([] : List (Nat × Nat)) s.heap t.heap) A) #[.ref tx, .int fr, .int en] s 0 0 A) (F0 m 20 ls []) := by
    intro n79
    induction n79 with
    | zero =>
      intro i22 hn79 hlo80 ⟨hj25, hj26, hj27⟩ H locs hT hF hS m23 m24 ls hl
      obtain rfl : 400 = i22 := by omega
      refine lv_iload hx hb dX4_thingEnd_20 (lv_at hl 0 rfl) ?_
      refine lv_iload_n hx hb dX4_thingEnd_22 rfl (lv_at hl 5 rfl) ?_
      refine lv_icmp_ge (tgt := 61) hx hb dX4_thingEnd_23 (by decide) (fun c81 => ?_) (fun c81 => (by exfalso; have q9 : ((400 : Nat) : Int) < en.toInt := ti_nle c81 rfl (nI_toInt (by omega)); omega))
      have t82 : en.toInt ≤ ((400 : Nat) : Int) := ti_le c81 rfl (nI_toInt (by omega))
      refine lv_iload hx hb dX4_thingEnd_61 (lv_at hl 0 rfl) ?_
      exact W.iret (v := nI 400) hx hb hr (fun t ht hW => ⟨⟨nI 400, (), rfl, (by exact ⟨(rg_t (a := ((400 : Nat) : Int)) (nI_toInt (by omega)) (by omega) (by omega)), (by have : (nI 400).toInt = ((400 : Nat) : Int) := nI_toInt (by omega); omega), (fun h9 j h8 h7 => by obtain ⟨x9, e9, a9, b9⟩ := h9; have e8 := (el_kept (hF.arr hr_tx skc_16 (by decide))).symm.trans m24; rw [show fr.toNatClampNeg = fr.toNatClampNeg from tn_same (show fr.toInt = fr.toInt from rfl) rfl (by omega)] at e8; have e7 := el_val e8 e9; subst e7; have q9 := (show (nI 400).toInt = ((400 : Nat) : Int) from (nI_toInt (by omega))); exact hj26 (by omega) j h8 (by omega)), (by have := tn_of (show fr.toInt = fr.toInt from rfl) (by omega); rw [tn_nI (by omega)]; exact te_x (w := r4.toInt) (d := r13.toInt) (by omega) (by rcases (show r4.toInt = 1 ∨ r4.toInt = 0 by omega) with h9 | h9; (exact Or.inl ⟨h9, ltB_1 (by omega)⟩); exact Or.inr ⟨h9, ltB_0 (by omega)⟩) (by rcases (show r13.toInt = 1 ∨ r13.toInt = 0 by omega) with h9 | h9; (exact Or.inl ⟨h9, dgB_1 (by omega)⟩); exact Or.inr ⟨h9, dgB_0 (by omega)⟩) (by omega) (by omega) hj25.1 hj25.2.1 hj25.2.2 (fun h9 => ⟨fun h8 => ltB_0 (by omega), fun h8 => dgB_0 (by omega)⟩))⟩), by (try dsimp only); rw [ht]; exact ⟨hT, hF⟩⟩, hS.F ht⟩) hS.2.2 dX4_thingEnd_63
    | succ n79 ih79 =>
      intro i22 hn79 hlo80 ⟨hj25, hj26, hj27⟩ H locs hT hF hS m23 m24 ls hl
      have hlt82 : i22 < 400 := by omega
      refine lv_iload hx hb dX4_thingEnd_20 (lv_at hl 0 rfl) ?_
      refine lv_iload_n hx hb dX4_thingEnd_22 rfl (lv_at hl 5 rfl) ?_
      refine lv_icmp_ge (tgt := 61) hx hb dX4_thingEnd_23 (by decide) (fun c83 => ?_) (fun c83 => ?_)
      · have t84 : en.toInt ≤ ((i22 : Nat) : Int) := ti_le c83 rfl (nI_toInt (by omega))
        refine lv_iload hx hb dX4_thingEnd_61 (lv_at hl 0 rfl) ?_
        exact W.iret (v := nI i22) hx hb hr (fun t ht hW => ⟨⟨nI i22, (), rfl, (by exact ⟨(rg_t (a := ((i22 : Nat) : Int)) (nI_toInt (by omega)) (by omega) (by omega)), (by have : (nI i22).toInt = ((i22 : Nat) : Int) := nI_toInt (by omega); omega), (fun h9 j h8 h7 => by obtain ⟨x9, e9, a9, b9⟩ := h9; have e8 := (el_kept (hF.arr hr_tx skc_16 (by decide))).symm.trans m24; rw [show fr.toNatClampNeg = fr.toNatClampNeg from tn_same (show fr.toInt = fr.toInt from rfl) rfl (by omega)] at e8; have e7 := el_val e8 e9; subst e7; have q9 := (show (nI i22).toInt = ((i22 : Nat) : Int) from (nI_toInt (by omega))); exact hj26 (by omega) j h8 (by omega)), (by have := tn_of (show fr.toInt = fr.toInt from rfl) (by omega); rw [tn_nI (by omega)]; exact te_x (w := r4.toInt) (d := r13.toInt) (by omega) (by rcases (show r4.toInt = 1 ∨ r4.toInt = 0 by omega) with h9 | h9; (exact Or.inl ⟨h9, ltB_1 (by omega)⟩); exact Or.inr ⟨h9, ltB_0 (by omega)⟩) (by rcases (show r13.toInt = 1 ∨ r13.toInt = 0 by omega) with h9 | h9; (exact Or.inl ⟨h9, dgB_1 (by omega)⟩); exact Or.inr ⟨h9, dgB_0 (by omega)⟩) (by omega) (by omega) hj25.1 hj25.2.1 hj25.2.2 (fun h9 => ⟨fun h8 => ltB_0 (by omega), fun h8 => dgB_0 (by omega)⟩))⟩), by (try dsimp only); rw [ht]; exact ⟨hT, hF⟩⟩, hS.F ht⟩) hS.2.2 dX4_thingEnd_63
      · have t85 : ((i22 : Nat) : Int) < en.toInt := ti_nle c83 rfl (nI_toInt (by omega))
        refine lv_iload_n hx hb dX4_thingEnd_26 rfl (lv_at hl 2 rfl) ?_
        refine lv_if_eq (tgt := 40) hx hb dX4_thingEnd_27 (by decide) (fun c86 => ?_) (fun c86 => ?_)
        · have t87 : r4.toInt = 0 := ti_eq c86 rfl (by decide)
          refine lv_iload hx hb dX4_thingEnd_40 (lv_at hl 1 rfl) ?_
          refine lv_if_eq (tgt := 61) hx hb dX4_thingEnd_42 (by decide) (fun c88 => ?_) (fun c88 => ?_)
          · have t89 : r13.toInt = 0 := ti_eq c88 rfl (by decide)
            refine lv_iload hx hb dX4_thingEnd_61 (lv_at hl 0 rfl) ?_
            exact W.iret (v := nI i22) hx hb hr (fun t ht hW => ⟨⟨nI i22, (), rfl, (by exact ⟨(rg_t (a := ((i22 : Nat) : Int)) (nI_toInt (by omega)) (by omega) (by omega)), (by have : (nI i22).toInt = ((i22 : Nat) : Int) := nI_toInt (by omega); omega), (fun h9 j h8 h7 => by obtain ⟨x9, e9, a9, b9⟩ := h9; have e8 := (el_kept (hF.arr hr_tx skc_16 (by decide))).symm.trans m24; rw [show fr.toNatClampNeg = fr.toNatClampNeg from tn_same (show fr.toInt = fr.toInt from rfl) rfl (by omega)] at e8; have e7 := el_val e8 e9; subst e7; have q9 := (show (nI i22).toInt = ((i22 : Nat) : Int) from (nI_toInt (by omega))); exact hj26 (by omega) j h8 (by omega)), (by have := tn_of (show fr.toInt = fr.toInt from rfl) (by omega); rw [tn_nI (by omega)]; exact te_x (w := r4.toInt) (d := r13.toInt) (by omega) (by rcases (show r4.toInt = 1 ∨ r4.toInt = 0 by omega) with h9 | h9; (exact Or.inl ⟨h9, ltB_1 (by omega)⟩); exact Or.inr ⟨h9, ltB_0 (by omega)⟩) (by rcases (show r13.toInt = 1 ∨ r13.toInt = 0 by omega) with h9 | h9; (exact Or.inl ⟨h9, dgB_1 (by omega)⟩); exact Or.inr ⟨h9, dgB_0 (by omega)⟩) (by omega) (by omega) hj25.1 hj25.2.1 hj25.2.2 (fun h9 => ⟨fun h8 => ltB_0 (by omega), fun h8 => dgB_0 (by omega)⟩))⟩), by (try dsimp only); rw [ht]; exact ⟨hT, hF⟩⟩, hS.F ht⟩) hS.2.2 dX4_thingEnd_63
          · have t90 : r13.toInt ≠ 0 := ti_ne c88 rfl (by decide)
            refine lv_aload_n hx hb dX4_thingEnd_45 rfl (lv_at hl 3 rfl) ?_
            refine lv_iload hx hb dX4_thingEnd_46 (lv_at hl 0 rfl) ?_
            refine tw_iald (i := (nI i22)) hx hb hK hT hr_tx shc_16 rfl (vp_in_nI (by omega) (by decide)) dX4_thingEnd_48 (fun v9 m91 h9 => ?_)
            obtain ⟨x92, rfl, gx92, kx92⟩ := h9
            have cx92 := m23.at m91 (by have q9 := tn_of (show (nI i22).toInt = ((i22 : Nat) : Int) from (nI_toInt (by omega))) (by omega); omega)
            have t93 : (x92.toInt < 128 ∧ tc vc i22 = x92.toInt) ∨ (128 ≤ x92.toInt ∧ tc vc i22 = x92.toInt - 256) := tc_s (cx92.trans (by rw [tn_nI (by omega)])) (by omega) (by omega)
            have hFc := gA_free hG hA hS
            refine va_calli (va_runS (As := [.int x92]) (rest := []) ⟨hx, hb, hml, hown, hts⟩ (c_isDigit l dC dI kA adK adV G H nC nS x92 hT (by omega) (by omega)) (va_cwS 1 hts (goodIn_app (goodIn_r _ [6, 7, 4] rfl (by decide +kernel)) (goodIn_ca (goodIn_r _ [5] rfl (by decide +kernel)) (bs2_in _ _))) rfl rfl rfl (by decide +kernel) ⟨(Nat.le_of_ble_eq_true rfl), (Nat.le_of_ble_eq_true rfl)⟩) ⟨fun a U g mk q => by obtain ⟨q0, q1, qK, qE⟩ := q; exact ⟨q0, q1, va_K.moved (u := U) (U := U.calling g mk a) (Vm.Alike.refl U.vm) qK, EVC.blind g mk a qE⟩, fun U hU hW => ⟨rfl, hU, va_K.moved hW.alike hK, hE.call hS hFc hU hW⟩⟩ rfl rfl hl.1 rfl (lv_room (Nat.le_of_ble_eq_true rfl)) dX4_thingEnd_49 ⟨(Nat.le_of_ble_eq_true rfl), (Nat.le_of_ble_eq_true rfl)⟩) hS (fun q _ h => hFc q h) hFc (fun r94 u t H locs ht hvm hw95 hB _ _ hS => ?_)
            obtain ⟨hT, hF1⟩ := hB
            rw [ht] at hT hF1
            have m96 := m23.kept (hF1.arr hr_tx skc_16 (by decide))
            have m97 := (el_kept (hF1.arr hr_tx skc_16 (by decide))).trans m24
            have m98 := (el_kept (hF1.arr hr_tx skc_16 (by decide))).trans m91
            have hF := hF.more hF1 (by decide)
            try dsimp only at hw95
            obtain ⟨h99, hf100⟩ := hw95
            refine lv_if_eq (tgt := 61) hx hb dX4_thingEnd_52 (by decide) (fun c101 => ?_) (fun c101 => ?_)
            · have t102 : r94.toInt = 0 := ti_eq c101 rfl (by decide)
              refine lv_iload hx hb dX4_thingEnd_61 (lv_at hl 0 rfl) ?_
              exact W.iret (v := nI i22) hx hb hr (fun t ht hW => ⟨⟨nI i22, (), rfl, (by exact ⟨(rg_t (a := ((i22 : Nat) : Int)) (nI_toInt (by omega)) (by omega) (by omega)), (by have : (nI i22).toInt = ((i22 : Nat) : Int) := nI_toInt (by omega); omega), (fun h9 j h8 h7 => by obtain ⟨x9, e9, a9, b9⟩ := h9; have e8 := (el_kept (hF.arr hr_tx skc_16 (by decide))).symm.trans m97; rw [show fr.toNatClampNeg = fr.toNatClampNeg from tn_same (show fr.toInt = fr.toInt from rfl) rfl (by omega)] at e8; have e7 := el_val e8 e9; subst e7; have q9 := (show (nI i22).toInt = ((i22 : Nat) : Int) from (nI_toInt (by omega))); exact hj26 (by omega) j h8 (by omega)), (by have := tn_of (show fr.toInt = fr.toInt from rfl) (by omega); rw [tn_nI (by omega)]; exact te_x (w := r4.toInt) (d := r13.toInt) (by omega) (by rcases (show r4.toInt = 1 ∨ r4.toInt = 0 by omega) with h9 | h9; (exact Or.inl ⟨h9, ltB_1 (by omega)⟩); exact Or.inr ⟨h9, ltB_0 (by omega)⟩) (by rcases (show r13.toInt = 1 ∨ r13.toInt = 0 by omega) with h9 | h9; (exact Or.inl ⟨h9, dgB_1 (by omega)⟩); exact Or.inr ⟨h9, dgB_0 (by omega)⟩) (by omega) (by omega) hj25.1 hj25.2.1 hj25.2.2 (fun h9 => ⟨fun h8 => ltB_0 (by omega), fun h8 => dgB_0 (by omega)⟩))⟩), by (try dsimp only); rw [ht]; exact ⟨hT, hF⟩⟩, hS.F ht⟩) hS.2.2 dX4_thingEnd_63
            · have t103 : r94.toInt ≠ 0 := ti_ne c101 rfl (by decide)
              refine lv_iinc (v := nI (i22 + 1)) (lv' := [(5, .int (nI (i22 + 1))), (4, .int r13), (3, .int r4), (0, .ref tx), (1, .int fr), (2, .int en)]) hx hb dX4_thingEnd_55 hl (k := 0) rfl (nI_add i22 1) (by decide) rfl (fun ls hl => ?_)
              refine lv_goto (tgt := 20) hx hb dX4_thingEnd_58 (by decide) ?_
              exact ih79 (i22 + 1) (by omega) (by omega) ⟨(by have := tn_of (show fr.toInt = fr.toInt from rfl) (by omega); exact ⟨fun h9 j h8 h7 => by by_cases e8 : j = i22; (rw [e8]; exact ltB_1 (by omega)); exact hj25.1 h9 j h8 (by omega), fun h9 j h8 h7 => by by_cases e8 : j = i22; (rw [e8]; exact dgB_1 (by omega)); exact hj25.2.1 h9 j h8 (by omega), fun h9 h8 => by exfalso; omega⟩), (fun h9 j h8 h7 => by by_cases e8 : (j : Int) < ((i22 : Nat) : Int); exact hj26 h9 j h8 e8; exact ⟨x92, by have e9 : j = (nI i22).toNatClampNeg := (by have q9 := tn_of (show (nI i22).toInt = ((i22 : Nat) : Int) from (nI_toInt (by omega))) (by omega); omega); rw [e9]; exact (el_kept (hF.arr hr_tx skc_16 (by decide))).symm.trans m98, by omega, by omega⟩), (by omega)⟩ _ _ hT hF hS m96 m97 ls (lv_sub hl [0, 1, 2, 3, 4, 5] rfl)
        · have t104 : r4.toInt ≠ 0 := ti_ne c86 rfl (by decide)
          refine lv_aload_n hx hb dX4_thingEnd_30 rfl (lv_at hl 3 rfl) ?_
          refine lv_iload hx hb dX4_thingEnd_31 (lv_at hl 0 rfl) ?_
          refine tw_iald (i := (nI i22)) hx hb hK hT hr_tx shc_16 rfl (vp_in_nI (by omega) (by decide)) dX4_thingEnd_33 (fun v9 m105 h9 => ?_)
          obtain ⟨x106, rfl, gx106, kx106⟩ := h9
          have cx106 := m23.at m105 (by have q9 := tn_of (show (nI i22).toInt = ((i22 : Nat) : Int) from (nI_toInt (by omega))) (by omega); omega)
          have t107 : (x106.toInt < 128 ∧ tc vc i22 = x106.toInt) ∨ (128 ≤ x106.toInt ∧ tc vc i22 = x106.toInt - 256) := tc_s (cx106.trans (by rw [tn_nI (by omega)])) (by omega) (by omega)
          have hFc := gA_free hG hA hS
          refine va_calli (va_runS (As := [.int x106]) (rest := []) ⟨hx, hb, hml, hown, hts⟩ (c_isLetter l dC dI kA adK adV G H nC nS x106 hT (by omega) (by omega)) (va_cwS 1 hts (goodIn_app (goodIn_r _ [2, 3, 4] rfl (by decide +kernel)) (goodIn_ca (goodIn_r _ [1] rfl (by decide +kernel)) (bs2_in _ _))) rfl rfl rfl (by decide +kernel) ⟨(Nat.le_of_ble_eq_true rfl), (Nat.le_of_ble_eq_true rfl)⟩) ⟨fun a U g mk q => by obtain ⟨q0, q1, qK, qE⟩ := q; exact ⟨q0, q1, va_K.moved (u := U) (U := U.calling g mk a) (Vm.Alike.refl U.vm) qK, EVC.blind g mk a qE⟩, fun U hU hW => ⟨rfl, hU, va_K.moved hW.alike hK, hE.call hS hFc hU hW⟩⟩ rfl rfl hl.1 rfl (lv_room (Nat.le_of_ble_eq_true rfl)) dX4_thingEnd_34 ⟨(Nat.le_of_ble_eq_true rfl), (Nat.le_of_ble_eq_true rfl)⟩) hS (fun q _ h => hFc q h) hFc (fun r108 u t H locs ht hvm hw109 hB _ _ hS => ?_)
          obtain ⟨hT, hF1⟩ := hB
          rw [ht] at hT hF1
          have m110 := m23.kept (hF1.arr hr_tx skc_16 (by decide))
          have m111 := (el_kept (hF1.arr hr_tx skc_16 (by decide))).trans m24
          have m112 := (el_kept (hF1.arr hr_tx skc_16 (by decide))).trans m105
          have hF := hF.more hF1 (by decide)
          try dsimp only at hw109
          obtain ⟨h113, hf114, hf115⟩ := hw109
          refine lv_if_ne (tgt := 55) hx hb dX4_thingEnd_37 (by decide) (fun c116 => ?_) (fun c116 => ?_)
          · have t117 : r108.toInt ≠ 0 := ti_ne c116 rfl (by decide)
            refine lv_iinc (v := nI (i22 + 1)) (lv' := [(5, .int (nI (i22 + 1))), (4, .int r13), (3, .int r4), (0, .ref tx), (1, .int fr), (2, .int en)]) hx hb dX4_thingEnd_55 hl (k := 0) rfl (nI_add i22 1) (by decide) rfl (fun ls hl => ?_)
            refine lv_goto (tgt := 20) hx hb dX4_thingEnd_58 (by decide) ?_
            exact ih79 (i22 + 1) (by omega) (by omega) ⟨(by have := tn_of (show fr.toInt = fr.toInt from rfl) (by omega); exact ⟨fun h9 j h8 h7 => by by_cases e8 : j = i22; (rw [e8]; exact ltB_1 (by omega)); exact hj25.1 h9 j h8 (by omega), fun h9 j h8 h7 => by by_cases e8 : j = i22; (rw [e8]; exact dgB_1 (by omega)); exact hj25.2.1 h9 j h8 (by omega), fun h9 h8 => by exfalso; omega⟩), (fun h9 j h8 h7 => by by_cases e8 : (j : Int) < ((i22 : Nat) : Int); exact hj26 h9 j h8 e8; exact ⟨x106, by have e9 : j = (nI i22).toNatClampNeg := (by have q9 := tn_of (show (nI i22).toInt = ((i22 : Nat) : Int) from (nI_toInt (by omega))) (by omega); omega); rw [e9]; exact (el_kept (hF.arr hr_tx skc_16 (by decide))).symm.trans m112, by omega, by omega⟩), (by omega)⟩ _ _ hT hF hS m110 m111 ls (lv_sub hl [0, 1, 2, 3, 4, 5] rfl)
          · have t118 : r108.toInt = 0 := ti_eq c116 rfl (by decide)
            refine lv_iload hx hb dX4_thingEnd_40 (lv_at hl 1 rfl) ?_
            refine lv_if_eq (tgt := 61) hx hb dX4_thingEnd_42 (by decide) (fun c119 => ?_) (fun c119 => ?_)
            · have t120 : r13.toInt = 0 := ti_eq c119 rfl (by decide)
              refine lv_iload hx hb dX4_thingEnd_61 (lv_at hl 0 rfl) ?_
              exact W.iret (v := nI i22) hx hb hr (fun t ht hW => ⟨⟨nI i22, (), rfl, (by exact ⟨(rg_t (a := ((i22 : Nat) : Int)) (nI_toInt (by omega)) (by omega) (by omega)), (by have : (nI i22).toInt = ((i22 : Nat) : Int) := nI_toInt (by omega); omega), (fun h9 j h8 h7 => by obtain ⟨x9, e9, a9, b9⟩ := h9; have e8 := (el_kept (hF.arr hr_tx skc_16 (by decide))).symm.trans m111; rw [show fr.toNatClampNeg = fr.toNatClampNeg from tn_same (show fr.toInt = fr.toInt from rfl) rfl (by omega)] at e8; have e7 := el_val e8 e9; subst e7; have q9 := (show (nI i22).toInt = ((i22 : Nat) : Int) from (nI_toInt (by omega))); exact hj26 (by omega) j h8 (by omega)), (by have := tn_of (show fr.toInt = fr.toInt from rfl) (by omega); rw [tn_nI (by omega)]; exact te_x (w := r4.toInt) (d := r13.toInt) (by omega) (by rcases (show r4.toInt = 1 ∨ r4.toInt = 0 by omega) with h9 | h9; (exact Or.inl ⟨h9, ltB_1 (by omega)⟩); exact Or.inr ⟨h9, ltB_0 (by omega)⟩) (by rcases (show r13.toInt = 1 ∨ r13.toInt = 0 by omega) with h9 | h9; (exact Or.inl ⟨h9, dgB_1 (by omega)⟩); exact Or.inr ⟨h9, dgB_0 (by omega)⟩) (by omega) (by omega) hj25.1 hj25.2.1 hj25.2.2 (fun h9 => ⟨fun h8 => ltB_0 (by omega), fun h8 => dgB_0 (by omega)⟩))⟩), by (try dsimp only); rw [ht]; exact ⟨hT, hF⟩⟩, hS.F ht⟩) hS.2.2 dX4_thingEnd_63
            · have t121 : r13.toInt ≠ 0 := ti_ne c119 rfl (by decide)
              refine lv_aload_n hx hb dX4_thingEnd_45 rfl (lv_at hl 3 rfl) ?_
              refine lv_iload hx hb dX4_thingEnd_46 (lv_at hl 0 rfl) ?_
              refine tw_iald (i := (nI i22)) hx hb hK hT hr_tx shc_16 rfl (vp_in_nI (by omega) (by decide)) dX4_thingEnd_48 (fun v9 m122 h9 => ?_)
              obtain ⟨x123, rfl, gx123, kx123⟩ := h9
              have cx123 := m110.at m122 (by have q9 := tn_of (show (nI i22).toInt = ((i22 : Nat) : Int) from (nI_toInt (by omega))) (by omega); omega)
              obtain rfl : x106 = x123 := (el_same m122 m112 rfl).symm
              have hFc := gA_free hG hA hS
              refine va_calli (va_runS (As := [.int x106]) (rest := []) ⟨hx, hb, hml, hown, hts⟩ (c_isDigit l dC dI kA adK adV G H nC nS x106 hT (by omega) (by omega)) (va_cwS 1 hts (goodIn_app (goodIn_r _ [6, 7, 4] rfl (by decide +kernel)) (goodIn_ca (goodIn_r _ [5] rfl (by decide +kernel)) (bs2_in _ _))) rfl rfl rfl (by decide +kernel) ⟨(Nat.le_of_ble_eq_true rfl), (Nat.le_of_ble_eq_true rfl)⟩) ⟨fun a U g mk q => by obtain ⟨q0, q1, qK, qE⟩ := q; exact ⟨q0, q1, va_K.moved (u := U) (U := U.calling g mk a) (Vm.Alike.refl U.vm) qK, EVC.blind g mk a qE⟩, fun U hU hW => ⟨rfl, hU, va_K.moved hW.alike hK, hE.call hS hFc hU hW⟩⟩ rfl rfl hl.1 rfl (lv_room (Nat.le_of_ble_eq_true rfl)) dX4_thingEnd_49 ⟨(Nat.le_of_ble_eq_true rfl), (Nat.le_of_ble_eq_true rfl)⟩) hS (fun q _ h => hFc q h) hFc (fun r124 u t H locs ht hvm hw125 hB _ _ hS => ?_)
              obtain ⟨hT, hF1⟩ := hB
              rw [ht] at hT hF1
              have m126 := m110.kept (hF1.arr hr_tx skc_16 (by decide))
              have m127 := (el_kept (hF1.arr hr_tx skc_16 (by decide))).trans m111
              have m128 := (el_kept (hF1.arr hr_tx skc_16 (by decide))).trans m112
              have hF := hF.more hF1 (by decide)
              try dsimp only at hw125
              obtain ⟨h129, hf130⟩ := hw125
              refine lv_if_eq (tgt := 61) hx hb dX4_thingEnd_52 (by decide) (fun c131 => ?_) (fun c131 => ?_)
              · have t132 : r124.toInt = 0 := ti_eq c131 rfl (by decide)
                refine lv_iload hx hb dX4_thingEnd_61 (lv_at hl 0 rfl) ?_
                exact W.iret (v := nI i22) hx hb hr (fun t ht hW => ⟨⟨nI i22, (), rfl, (by exact ⟨(rg_t (a := ((i22 : Nat) : Int)) (nI_toInt (by omega)) (by omega) (by omega)), (by have : (nI i22).toInt = ((i22 : Nat) : Int) := nI_toInt (by omega); omega), (fun h9 j h8 h7 => by obtain ⟨x9, e9, a9, b9⟩ := h9; have e8 := (el_kept (hF.arr hr_tx skc_16 (by decide))).symm.trans m127; rw [show fr.toNatClampNeg = fr.toNatClampNeg from tn_same (show fr.toInt = fr.toInt from rfl) rfl (by omega)] at e8; have e7 := el_val e8 e9; subst e7; have q9 := (show (nI i22).toInt = ((i22 : Nat) : Int) from (nI_toInt (by omega))); exact hj26 (by omega) j h8 (by omega)), (by have := tn_of (show fr.toInt = fr.toInt from rfl) (by omega); rw [tn_nI (by omega)]; exact te_x (w := r4.toInt) (d := r13.toInt) (by omega) (by rcases (show r4.toInt = 1 ∨ r4.toInt = 0 by omega) with h9 | h9; (exact Or.inl ⟨h9, ltB_1 (by omega)⟩); exact Or.inr ⟨h9, ltB_0 (by omega)⟩) (by rcases (show r13.toInt = 1 ∨ r13.toInt = 0 by omega) with h9 | h9; (exact Or.inl ⟨h9, dgB_1 (by omega)⟩); exact Or.inr ⟨h9, dgB_0 (by omega)⟩) (by omega) (by omega) hj25.1 hj25.2.1 hj25.2.2 (fun h9 => ⟨fun h8 => ltB_0 (by omega), fun h8 => dgB_0 (by omega)⟩))⟩), by (try dsimp only); rw [ht]; exact ⟨hT, hF⟩⟩, hS.F ht⟩) hS.2.2 dX4_thingEnd_63
              · have t133 : r124.toInt ≠ 0 := ti_ne c131 rfl (by decide)
                refine lv_iinc (v := nI (i22 + 1)) (lv' := [(5, .int (nI (i22 + 1))), (4, .int r13), (3, .int r4), (0, .ref tx), (1, .int fr), (2, .int en)]) hx hb dX4_thingEnd_55 hl (k := 0) rfl (nI_add i22 1) (by decide) rfl (fun ls hl => ?_)
                refine lv_goto (tgt := 20) hx hb dX4_thingEnd_58 (by decide) ?_
                exact ih79 (i22 + 1) (by omega) (by omega) ⟨(by have := tn_of (show fr.toInt = fr.toInt from rfl) (by omega); exact ⟨fun h9 j h8 h7 => by by_cases e8 : j = i22; (rw [e8]; exact ltB_1 (by omega)); exact hj25.1 h9 j h8 (by omega), fun h9 j h8 h7 => by by_cases e8 : j = i22; (rw [e8]; exact dgB_1 (by omega)); exact hj25.2.1 h9 j h8 (by omega), fun h9 h8 => by exfalso; omega⟩), (fun h9 j h8 h7 => by by_cases e8 : (j : Int) < ((i22 : Nat) : Int); exact hj26 h9 j h8 e8; exact ⟨x106, by have e9 : j = (nI i22).toNatClampNeg := (by have q9 := tn_of (show (nI i22).toInt = ((i22 : Nat) : Int) from (nI_toInt (by omega))) (by omega); omega); rw [e9]; exact (el_kept (hF.arr hr_tx skc_16 (by decide))).symm.trans m128, by omega, by omega⟩), (by omega)⟩ _ _ hT hF hS m126 m127 ls (lv_sub hl [0, 1, 2, 3, 4, 5] rfl)
  exact key79 (400 - k21) k21 (by omega) (Nat.le_refl _) ⟨(by have := tn_of (show fr.toInt = fr.toInt from rfl) (by omega); exact ⟨fun h9 j h8 h7 => by rw [show j = fr.toNatClampNeg from by omega]; exact ltB_1 (by omega), fun h9 j h8 h7 => by rw [show j = fr.toNatClampNeg from by omega]; exact dgB_1 (by omega), fun _ _ => by omega⟩), (fun h9 j h8 h7 => ⟨x2, by have e9 : j = fr.toNatClampNeg := (by have q9 := tn_of (show fr.toInt = fr.toInt from rfl) (by omega); omega); rw [e9]; exact (el_kept (hF.arr hr_tx skc_16 (by decide))).symm.trans m16, by omega, by omega⟩), (by omega)⟩ _ _ hT hF hS m15 m16 ls (lv_sub hl [0, 1, 2, 3, 4, 5] rfl)
def w_c_numberThing : List Cond := .code yX4_numberThing cX4_numberThing 5 (some .int) :: (HAppend.hAppend (α := List Cond) (β := List Cond) (γ := List Cond) [] bs2)
set_option maxHeartbeats 4000000 in
set_option maxRecDepth 100000 in
theorem c_numberThing (l : Launch) (dC : Nat → ClassId) (dI : Nat → Nat → Nat) (kA : Nat → ClassId) (adK adV : Nat → Nat) (G : gT) (H0 : Heap) (nC nS : Int) (tx : Nat) (fr : Int32) (en : Int32) (vc : Nat → Int32)  (hT : gH (dC, dI) kA (SHc nC nS) G H0) (hr_tx : G tx = some 16) (hq0 : 0 ≤ fr.toInt ∧ fr.toInt ≤ 399) (hq1 : 0 ≤ en.toInt ∧ en.toInt ≤ 400) (hfe : fr.toInt < en.toInt) (hdg : ∀ j : Nat, fr.toInt ≤ (j : Int) → (j : Int) < en.toInt → ∃ x : Int32, el H0 tx j = some (.int x) ∧ 48 ≤ x.toInt ∧ x.toInt ≤ 57) (hc_vc : ct H0 tx 400 vc) (hgC : 0 ≤ nC ∧ nC ≤ 40) (hgS : 0 ≤ nS ∧ nS ≤ 60) : Met l yX4_numberThing w_c_numberThing ({ frames := 0, cells := 0, slots := 0, locals := 0 }) (va_Pc [.ref tx, .int fr, .int en] (fun U => U.heap = H0 ∧ va_K (dC, dI) vwCl (tyl kA) U ∧ EVC adK adV (gA G H0.size) U U.heap)) (va_Qi (fun (r : Int32) (u : Unit) => (22 ≤ r.toInt ∧ r.toInt ≤ 100039) ∧ ((5 < en.toNatClampNeg - fr.toNatClampNeg ∧ r.toInt = 22) ∨ (en.toNatClampNeg - fr.toNatClampNeg ≤ 5 ∧ r.toInt = 40 + nv (tc vc) fr.toNatClampNeg (en.toNatClampNeg - fr.toNatClampNeg)))) (fun (_ : Unit) (t : State) => gH (dC, dI) kA (SHc nC nS) G t.heap ∧ gF (dC, dI) SKc G ([] : List (Nat × Nat)) H0 t.heap) (gA G H0.size)) 0 0 (gA G H0.size) := by
  refine Met.ofW (cc := cX4_numberThing) (maxL := 5) (ret := (some .int)) (by decide) rfl ?_
  intro p e s m args below meth c s₁ B hml hv
  obtain ⟨rfl, hH0, hK, hE⟩ := hv
  have hx := B.exec
  have hb := B.bytes
  have hr := B.returns
  have hts := atoms_spec (ws := w_c_numberThing) B.pre
  have hown : s.vm.findClass RX4 = some m.cls := findClass_of_methodNamed B.named
  have hlocks := B.notSynchronized
  subst hH0
  generalize hAe : gA G s.heap.size = A at hE ⊢
  have hA : ∀ q : Nat, s.heap.size ≤ q → A q := fun q h => by rw [← hAe]; exact Or.inr h
  have hG := gA_of hAe
  have hS : va_S A s.heap s.heap [] := va_S.rf
  have hF : gF (dC, dI) SKc G ([] : List (Nat × Nat)) s.heap s.heap := gF.rf
  have hl := lv_entry ([.ref tx, .int fr, .int en]) (n := 5) (Nat.le_of_ble_eq_true rfl)
  rw [lg_entry_eq]
  generalize (lg_sl ([.ref tx, .int fr, .int en]) ++ List.replicate (5 - (lg_sl ([.ref tx, .int fr, .int en])).length) Slot.unset).toArray = ls at hl ⊢
  have hl : lv_has ls 5 [(0, .ref tx), (1, .int fr), (2, .int en)] := hl
  refine lv_iload_n hx hb dX4_numberThing_0 rfl (lv_at hl 2 rfl) ?_
  refine lv_iload_n hx hb dX4_numberThing_1 rfl (lv_at hl 1 rfl) ?_
  refine lv_isub hx hb dX4_numberThing_2 ?_
  refine lv_topi (fun x1 ex1 => ?_)
  have t2 : x1.toInt = en.toInt - fr.toInt := ti_sub ex1 rfl rfl (by omega) (by omega)
  refine lv_iconst (v := 5) hx hb dX4_numberThing_3 (by decide) ?_
  refine lv_icmp_le (tgt := 10) hx hb dX4_numberThing_4 (by decide) (fun c3 => ?_) (fun c3 => ?_)
  · have t4 : x1.toInt ≤ 5 := ti_le c3 rfl (by decide)
    refine lv_iconst (v := 0) hx hb dX4_numberThing_10 (by decide) ?_
    refine lv_istore_n (lv' := [(3, .int 0), (0, .ref tx), (1, .int fr), (2, .int en)]) hx hb dX4_numberThing_11 rfl hl (by decide) rfl (fun ls hl => ?_)
    refine lv_iload_n hx hb dX4_numberThing_12 rfl (lv_at hl 2 rfl) ?_
    refine lv_istore (lv' := [(4, .int fr), (3, .int 0), (0, .ref tx), (1, .int fr), (2, .int en)]) hx hb dX4_numberThing_13 hl (by decide) rfl (fun ls hl => ?_)
    obtain ⟨k5, hk5, lk5, ek5⟩ := ti_nat fr (by omega)
    subst ek5
    have key26 : ∀ (n26 i6 : Nat), i6 + n26 = 400 → k5 ≤ i6 → ∀ (z7 : Int32), ((0 ≤ z7.toInt ∧ z7.toInt ≤ 99999) ∧ (z7.toInt = nv (tc vc) (nI k5).toNatClampNeg (i6 - (nI k5).toNatClampNeg) ∧ (nI k5).toNatClampNeg ≤ i6 ∧ ((i6 : Nat) : Int) ≤ en.toInt) ∧ (0 ≤ z7.toInt ∧ (((i6 : Nat) : Int) ≤ (nI k5).toInt + 0 → z7.toInt ≤ 0) ∧ (((i6 : Nat) : Int) ≤ (nI k5).toInt + 1 → z7.toInt ≤ 9) ∧ (((i6 : Nat) : Int) ≤ (nI k5).toInt + 2 → z7.toInt ≤ 99) ∧ (((i6 : Nat) : Int) ≤ (nI k5).toInt + 3 → z7.toInt ≤ 999) ∧ (((i6 : Nat) : Int) ≤ (nI k5).toInt + 4 → z7.toInt ≤ 9999) ∧ (((i6 : Nat) : Int) ≤ (nI k5).toInt + 5 → z7.toInt ≤ 99999))) → ∀ (H : Heap) (locs : List Loc), gH (dC, dI) kA (SHc nC nS) G H → gF (dC, dI) SKc G ([] : List (Nat × Nat)) s.heap H → va_S A s.heap H locs → ct H tx 400 vc → ∀ ls : Array Slot, lv_has ls 5 [(4, .int (nI i6)), (3, .int z7), (0, .ref tx), (1, .int (nI k5)), (2, .int en)] → W p l e (headSpec w_c_numberThing ({ frames := 0, cells := 0, slots := 0, locals := 0 })).room s m #[.ref tx, .int (nI k5), .int en] below meth c H locs 0 0 (MQ below (va_Qi (fun (r : Int32) (u : Unit) => (22 ≤ r.toInt ∧ r.toInt ≤ 100039) ∧ ((5 < en.toNatClampNeg - (nI k5).toNatClampNeg ∧ r.toInt = 22) ∨ (en.toNatClampNeg - (nI k5).toNatClampNeg ≤ 5 ∧ r.toInt = 40 + nv (tc vc) (nI k5).toNatClampNeg (en.toNatClampNeg - (nI k5).toNatClampNeg)))) (fun (_ : Unit) (t : State) => gH (dC, dI) kA (SHc nC nS) G t.heap ∧ gF (dC, dI) SKc G ([] : List (Nat × Nat)) s.heap t.heap) A) #[.ref tx, .int (nI k5), .int en] s 0 0 A) (F0 m 15 ls []) := by
      intro n26
      induction n26 with
      | zero =>
        intro i6 hn26 hlo27 z7 ⟨h8, hj10, hj11⟩ H locs hT hF hS m9 ls hl
        obtain rfl : 400 = i6 := by omega
        refine lv_iload hx hb dX4_numberThing_15 (lv_at hl 0 rfl) ?_
        refine lv_iload_n hx hb dX4_numberThing_17 rfl (lv_at hl 4 rfl) ?_
        refine lv_icmp_ge (tgt := 40) hx hb dX4_numberThing_18 (by decide) (fun c28 => ?_) (fun c28 => (by exfalso; have q9 : ((400 : Nat) : Int) < en.toInt := ti_nle c28 rfl (nI_toInt (by omega)); omega))
        have t29 : en.toInt ≤ ((400 : Nat) : Int) := ti_le c28 rfl (nI_toInt (by omega))
        refine lv_bipush (v := 40) hx hb dX4_numberThing_40 (by decide) ?_
        refine lv_iload_n hx hb dX4_numberThing_42 rfl (lv_at hl 1 rfl) ?_
        refine lv_iadd hx hb dX4_numberThing_43 ?_
        refine lv_topi (fun x30 ex30 => ?_)
        have t31 : x30.toInt = 40 + z7.toInt := ti_add ex30 (by decide) rfl (by omega) (by omega)
        exact W.iret (v := x30) hx hb hr (fun t ht hW => ⟨⟨x30, (), rfl, (by exact ⟨(by have q8 := ti_all x30; omega), (Or.inr ⟨by have := tn_of (show (nI k5).toInt = ((k5 : Nat) : Int) from (nI_toInt (by omega))) (by omega); have := tn_of (show en.toInt = en.toInt from rfl) (by omega); omega, by have := tn_of (show (nI k5).toInt = ((k5 : Nat) : Int) from (nI_toInt (by omega))) (by omega); have := tn_of (show en.toInt = en.toInt from rfl) (by omega); have := (show x30.toInt = x30.toInt from rfl); have g9 := hj10.1; rw [show 400 - (nI k5).toNatClampNeg = en.toNatClampNeg - (nI k5).toNatClampNeg from by have := hj10.2; omega] at g9; omega⟩)⟩), by (try dsimp only); rw [ht]; exact ⟨hT, hF⟩⟩, hS.F ht⟩) hS.2.2 dX4_numberThing_44
      | succ n26 ih26 =>
        intro i6 hn26 hlo27 z7 ⟨h8, hj10, hj11⟩ H locs hT hF hS m9 ls hl
        have hlt31 : i6 < 400 := by omega
        refine lv_iload hx hb dX4_numberThing_15 (lv_at hl 0 rfl) ?_
        refine lv_iload_n hx hb dX4_numberThing_17 rfl (lv_at hl 4 rfl) ?_
        refine lv_icmp_ge (tgt := 40) hx hb dX4_numberThing_18 (by decide) (fun c32 => ?_) (fun c32 => ?_)
        · have t33 : en.toInt ≤ ((i6 : Nat) : Int) := ti_le c32 rfl (nI_toInt (by omega))
          refine lv_bipush (v := 40) hx hb dX4_numberThing_40 (by decide) ?_
          refine lv_iload_n hx hb dX4_numberThing_42 rfl (lv_at hl 1 rfl) ?_
          refine lv_iadd hx hb dX4_numberThing_43 ?_
          refine lv_topi (fun x34 ex34 => ?_)
          have t35 : x34.toInt = 40 + z7.toInt := ti_add ex34 (by decide) rfl (by omega) (by omega)
          exact W.iret (v := x34) hx hb hr (fun t ht hW => ⟨⟨x34, (), rfl, (by exact ⟨(by have q8 := ti_all x34; omega), (Or.inr ⟨by have := tn_of (show (nI k5).toInt = ((k5 : Nat) : Int) from (nI_toInt (by omega))) (by omega); have := tn_of (show en.toInt = en.toInt from rfl) (by omega); omega, by have := tn_of (show (nI k5).toInt = ((k5 : Nat) : Int) from (nI_toInt (by omega))) (by omega); have := tn_of (show en.toInt = en.toInt from rfl) (by omega); have := (show x34.toInt = x34.toInt from rfl); have g9 := hj10.1; rw [show i6 - (nI k5).toNatClampNeg = en.toNatClampNeg - (nI k5).toNatClampNeg from by have := hj10.2; omega] at g9; omega⟩)⟩), by (try dsimp only); rw [ht]; exact ⟨hT, hF⟩⟩, hS.F ht⟩) hS.2.2 dX4_numberThing_44
        · have t36 : ((i6 : Nat) : Int) < en.toInt := ti_nle c32 rfl (nI_toInt (by omega))
          refine lv_iload_n hx hb dX4_numberThing_21 rfl (lv_at hl 1 rfl) ?_
          refine lv_bipush (v := 10) hx hb dX4_numberThing_22 (by decide) ?_
          refine lv_imul hx hb dX4_numberThing_24 ?_
          refine lv_topi (fun x37 ex37 => ?_)
          have t38 : x37.toInt = z7.toInt * 10 := ti_mul ex37 rfl (by decide) (by omega) (by omega)
          refine lv_aload_n hx hb dX4_numberThing_25 rfl (lv_at hl 2 rfl) ?_
          refine lv_iload hx hb dX4_numberThing_26 (lv_at hl 0 rfl) ?_
          refine tw_iald (i := (nI i6)) hx hb hK hT hr_tx shc_16 rfl (vp_in_nI (by omega) (by decide)) dX4_numberThing_28 (fun v9 m39 h9 => ?_)
          obtain ⟨x40, rfl, gx40, kx40⟩ := h9
          have cx40 := m9.at m39 (by have q9 := tn_of (show (nI i6).toInt = ((i6 : Nat) : Int) from (nI_toInt (by omega))) (by omega); omega)
          have t41 : (x40.toInt < 128 ∧ tc vc i6 = x40.toInt) ∨ (128 ≤ x40.toInt ∧ tc vc i6 = x40.toInt - 256) := tc_s (cx40.trans (by rw [tn_nI (by omega)])) (by omega) (by omega)
          obtain ⟨x9, e9, a9, b9⟩ := hdg i6 (by omega) (by omega)
          have e8 := (el_kept (hF.arr hr_tx skc_16 (by decide))).symm.trans m39; rw [show (nI i6).toNatClampNeg = i6 from tn_nI (by omega)] at e8
          obtain rfl : x40 = x9 := el_val e8 e9
          refine lv_iadd hx hb dX4_numberThing_29 ?_
          refine lv_topi (fun x42 ex42 => ?_)
          have t43 : x42.toInt = x37.toInt + x40.toInt := ti_add ex42 rfl rfl (by omega) (by omega)
          refine lv_bipush (v := 48) hx hb dX4_numberThing_30 (by decide) ?_
          refine lv_isub hx hb dX4_numberThing_32 ?_
          refine lv_topi (fun x44 ex44 => ?_)
          have t45 : x44.toInt = x42.toInt - 48 := ti_sub ex44 rfl (by decide) (by omega) (by omega)
          refine lv_istore_n (lv' := [(3, .int x44), (4, .int (nI i6)), (0, .ref tx), (1, .int (nI k5)), (2, .int en)]) hx hb dX4_numberThing_33 rfl hl (by decide) rfl (fun ls hl => ?_)
          refine lv_iinc (v := nI (i6 + 1)) (lv' := [(4, .int (nI (i6 + 1))), (3, .int x44), (0, .ref tx), (1, .int (nI k5)), (2, .int en)]) hx hb dX4_numberThing_34 hl (k := 1) rfl (nI_add i6 1) (by decide) rfl (fun ls hl => ?_)
          refine lv_goto (tgt := 15) hx hb dX4_numberThing_37 (by decide) ?_
          exact ih26 (i6 + 1) (by omega) (by omega) x44 ⟨(by have q9 := (show x44.toInt = x44.toInt from rfl); (try have q8 := ti_all x44); omega), (by have := tn_of (show (nI k5).toInt = ((k5 : Nat) : Int) from (nI_toInt (by omega))) (by omega); have := (show x44.toInt = x44.toInt from rfl); refine ⟨?_, by omega, by omega⟩; rw [show i6 + 1 - (nI k5).toNatClampNeg = (i6 - (nI k5).toNatClampNeg) + 1 from by omega]; show _ = nv (tc vc) (nI k5).toNatClampNeg (i6 - (nI k5).toNatClampNeg) * 10 + tc vc ((nI k5).toNatClampNeg + (i6 - (nI k5).toNatClampNeg)) - 48; rw [show (nI k5).toNatClampNeg + (i6 - (nI k5).toNatClampNeg) = i6 from by omega, ← hj10.1]; omega), (by have := (show x44.toInt = x44.toInt from rfl); omega)⟩ _ _ hT hF hS m9 ls (lv_sub hl [0, 1, 2, 3, 4] rfl)
    exact key26 (400 - k5) k5 (by omega) (Nat.le_refl _) 0 ⟨(by have q9 := (show (0 : Int32).toInt = 0 from (by decide)); (try have q8 := ti_all (0 : Int32)); omega), (by have := tn_of (show (nI k5).toInt = ((k5 : Nat) : Int) from (nI_toInt (by omega))) (by omega); refine ⟨?_, by omega, by omega⟩; rw [show k5 - (nI k5).toNatClampNeg = 0 from by omega]; exact (show (0 : Int32).toInt = 0 from by decide)), (by have := (show (0 : Int32).toInt = 0 from (by decide)); omega)⟩ _ _ hT hF hS hc_vc ls (lv_sub hl [0, 1, 2, 3, 4] rfl)
  · have t46 : 5 < x1.toInt := ti_nle c3 rfl (by decide)
    refine lv_bipush (v := 22) hx hb dX4_numberThing_7 (by decide) ?_
    exact W.iret (v := 22) hx hb hr (fun t ht hW => ⟨⟨22, (), rfl, (by exact ⟨(rg_t (a := 22) (by decide) (by first | decide | omega) (by first | decide | omega)), (Or.inl ⟨by have := tn_of (show fr.toInt = fr.toInt from rfl) (by omega); have := tn_of (show en.toInt = en.toInt from rfl) (by omega); omega, by decide⟩)⟩), by (try dsimp only); rw [ht]; exact ⟨hT, hF⟩⟩, hS.F ht⟩) hS.2.2 dX4_numberThing_9
def w_c_signThing : List Cond := .code yX4_signThing cX4_signThing 1 (some .int) :: (HAppend.hAppend (α := List Cond) (β := List Cond) (γ := List Cond) [] bs2)
set_option maxHeartbeats 4000000 in
set_option maxRecDepth 100000 in
theorem c_signThing (l : Launch) (dC : Nat → ClassId) (dI : Nat → Nat → Nat) (kA : Nat → ClassId) (adK adV : Nat → Nat) (G : gT) (H0 : Heap) (nC nS : Int) (p0 : Int32)  (hT : gH (dC, dI) kA (SHc nC nS) G H0) (hgC : 0 ≤ nC ∧ nC ≤ 40) (hgS : 0 ≤ nS ∧ nS ≤ 60) : Met l yX4_signThing w_c_signThing ({ frames := 0, cells := 0, slots := 0, locals := 0 }) (va_Pc [.int p0] (fun U => U.heap = H0 ∧ va_K (dC, dI) vwCl (tyl kA) U ∧ EVC adK adV (gA G H0.size) U U.heap)) (va_Qi (fun (r : Int32) (u : Unit) => (10 ≤ r.toInt ∧ r.toInt ≤ 22) ∧ (r.toInt = sgT p0.toInt)) (fun (_ : Unit) (t : State) => gH (dC, dI) kA (SHc nC nS) G t.heap ∧ gF (dC, dI) SKc G ([] : List (Nat × Nat)) H0 t.heap) (gA G H0.size)) 0 0 (gA G H0.size) := by
  refine Met.ofW (cc := cX4_signThing) (maxL := 1) (ret := (some .int)) (by decide) rfl ?_
  intro p e s m args below meth c s₁ B hml hv
  obtain ⟨rfl, hH0, hK, hE⟩ := hv
  have hx := B.exec
  have hb := B.bytes
  have hr := B.returns
  have hts := atoms_spec (ws := w_c_signThing) B.pre
  have hown : s.vm.findClass RX4 = some m.cls := findClass_of_methodNamed B.named
  have hlocks := B.notSynchronized
  subst hH0
  generalize hAe : gA G s.heap.size = A at hE ⊢
  have hA : ∀ q : Nat, s.heap.size ≤ q → A q := fun q h => by rw [← hAe]; exact Or.inr h
  have hG := gA_of hAe
  have hS : va_S A s.heap s.heap [] := va_S.rf
  have hF : gF (dC, dI) SKc G ([] : List (Nat × Nat)) s.heap s.heap := gF.rf
  have hl := lv_entry ([.int p0]) (n := 1) (Nat.le_of_ble_eq_true rfl)
  rw [lg_entry_eq]
  generalize (lg_sl ([.int p0]) ++ List.replicate (1 - (lg_sl ([.int p0])).length) Slot.unset).toArray = ls at hl ⊢
  have hl : lv_has ls 1 [(0, .int p0)] := hl
  refine lv_iload_n hx hb dX4_signThing_0 rfl (lv_at hl 0 rfl) ?_
  by_cases hs1 : p0 = 40
  · subst hs1
    refine lv_lookup (x := 40) (off := 68) (tgt := 69) hx hb dX4_signThing_1 (by decide) (by decide) (by decide) ?_
    refine lv_bipush (v := 16) hx hb dX4_signThing_69 (by decide) ?_
    exact W.iret (v := 16) hx hb hr (fun t ht hW => ⟨⟨16, (), rfl, (by exact ⟨(rg_t (a := 16) (by decide) (by first | decide | omega) (by first | decide | omega)), (by decide)⟩), by (try dsimp only); rw [ht]; exact ⟨hT, hF⟩⟩, hS.F ht⟩) hS.2.2 dX4_signThing_71
  by_cases hs2 : p0 = 41
  · subst hs2
    refine lv_lookup (x := 41) (off := 71) (tgt := 72) hx hb dX4_signThing_1 (by decide) (by decide) (by decide) ?_
    refine lv_bipush (v := 17) hx hb dX4_signThing_72 (by decide) ?_
    exact W.iret (v := 17) hx hb hr (fun t ht hW => ⟨⟨17, (), rfl, (by exact ⟨(rg_t (a := 17) (by decide) (by first | decide | omega) (by first | decide | omega)), (by decide)⟩), by (try dsimp only); rw [ht]; exact ⟨hT, hF⟩⟩, hS.F ht⟩) hS.2.2 dX4_signThing_74
  by_cases hs3 : p0 = 43
  · subst hs3
    refine lv_lookup (x := 43) (off := 59) (tgt := 60) hx hb dX4_signThing_1 (by decide) (by decide) (by decide) ?_
    refine lv_bipush (v := 10) hx hb dX4_signThing_60 (by decide) ?_
    exact W.iret (v := 10) hx hb hr (fun t ht hW => ⟨⟨10, (), rfl, (by exact ⟨(rg_t (a := 10) (by decide) (by first | decide | omega) (by first | decide | omega)), (by decide)⟩), by (try dsimp only); rw [ht]; exact ⟨hT, hF⟩⟩, hS.F ht⟩) hS.2.2 dX4_signThing_62
  by_cases hs4 : p0 = 59
  · subst hs4
    refine lv_lookup (x := 59) (off := 74) (tgt := 75) hx hb dX4_signThing_1 (by decide) (by decide) (by decide) ?_
    refine lv_bipush (v := 18) hx hb dX4_signThing_75 (by decide) ?_
    exact W.iret (v := 18) hx hb hr (fun t ht hW => ⟨⟨18, (), rfl, (by exact ⟨(rg_t (a := 18) (by decide) (by first | decide | omega) (by first | decide | omega)), (by decide)⟩), by (try dsimp only); rw [ht]; exact ⟨hT, hF⟩⟩, hS.F ht⟩) hS.2.2 dX4_signThing_77
  by_cases hs5 : p0 = 60
  · subst hs5
    refine lv_lookup (x := 60) (off := 62) (tgt := 63) hx hb dX4_signThing_1 (by decide) (by decide) (by decide) ?_
    refine lv_bipush (v := 11) hx hb dX4_signThing_63 (by decide) ?_
    exact W.iret (v := 11) hx hb hr (fun t ht hW => ⟨⟨11, (), rfl, (by exact ⟨(rg_t (a := 11) (by decide) (by first | decide | omega) (by first | decide | omega)), (by decide)⟩), by (try dsimp only); rw [ht]; exact ⟨hT, hF⟩⟩, hS.F ht⟩) hS.2.2 dX4_signThing_65
  by_cases hs6 : p0 = 62
  · subst hs6
    refine lv_lookup (x := 62) (off := 65) (tgt := 66) hx hb dX4_signThing_1 (by decide) (by decide) (by decide) ?_
    refine lv_bipush (v := 12) hx hb dX4_signThing_66 (by decide) ?_
    exact W.iret (v := 12) hx hb hr (fun t ht hW => ⟨⟨12, (), rfl, (by exact ⟨(rg_t (a := 12) (by decide) (by first | decide | omega) (by first | decide | omega)), (by decide)⟩), by (try dsimp only); rw [ht]; exact ⟨hT, hF⟩⟩, hS.F ht⟩) hS.2.2 dX4_signThing_68
  refine lv_lookup (off := 77) (tgt := 78) hx hb dX4_signThing_1 (by decide) (by rw [lv_osw hs1 (by decide)]; rw [lv_osw hs2 (by decide)]; rw [lv_osw hs3 (by decide)]; rw [lv_osw hs4 (by decide)]; rw [lv_osw hs5 (by decide)]; rw [lv_osw hs6 (by decide)]; rfl) (by decide) ?_
  refine lv_bipush (v := 22) hx hb dX4_signThing_78 (by decide) ?_
  exact W.iret (v := 22) hx hb hr (fun t ht hW => ⟨⟨22, (), rfl, (by exact ⟨(rg_t (a := 22) (by decide) (by first | decide | omega) (by first | decide | omega)), (by have q9 : (22 : Int32).toInt = 22 := (by decide); rcases sgT_n p0.toInt with h9 | h9 | h9 | h9 | h9 | h9 | h9; (exact absurd (Int32.toInt_inj.mp (h9.trans (show (43 : Int) = (43 : Int32).toInt from by decide))) (by assumption)); (exact absurd (Int32.toInt_inj.mp (h9.trans (show (60 : Int) = (60 : Int32).toInt from by decide))) (by assumption)); (exact absurd (Int32.toInt_inj.mp (h9.trans (show (62 : Int) = (62 : Int32).toInt from by decide))) (by assumption)); (exact absurd (Int32.toInt_inj.mp (h9.trans (show (40 : Int) = (40 : Int32).toInt from by decide))) (by assumption)); (exact absurd (Int32.toInt_inj.mp (h9.trans (show (41 : Int) = (41 : Int32).toInt from by decide))) (by assumption)); (exact absurd (Int32.toInt_inj.mp (h9.trans (show (59 : Int) = (59 : Int32).toInt from by decide))) (by assumption)); omega)⟩), by (try dsimp only); rw [ht]; exact ⟨hT, hF⟩⟩, hS.F ht⟩) hS.2.2 dX4_signThing_80
def w_c_wordIs : List Cond := .code yX4_wordIs cX4_wordIs 5 (some .boolean) :: (HAppend.hAppend (α := List Cond) (β := List Cond) (γ := List Cond) [.code yJ0_length_8abf5 cJ0_length_8abf5 1 (some .int), .fieldLink RJ0 9 "java/lang/String" "value" "[B", .code yJ0_coder_7d493 cJ0_coder_7d493 1 (some .byte), .fieldLink RJ0 38 "java/lang/String" "COMPACT_STRINGS" "Z", .fieldLink RJ0 15 "java/lang/String" "coder" "B", .methodLink RJ0 335 yJ0_coder_7d493, .instanceMethod yJ0_coder_7d493, .selects RJ0 yJ0_coder_7d493 yJ0_coder_7d493, .initialized RJ0, .methodLink RX4 155 yJ0_length_8abf5, .instanceMethod yJ0_length_8abf5, .selects RJ0 yJ0_length_8abf5 yJ0_length_8abf5, .code yJ0_charAt_5068e cJ0_charAt_5068e 2 (some .char), .code yJ0_isLatin1_aae02 cJ0_isLatin1_aae02 1 (some .boolean), .methodLink RJ0 492 yJ0_isLatin1_aae02, .instanceMethod yJ0_isLatin1_aae02, .selects RJ0 yJ0_isLatin1_aae02 yJ0_isLatin1_aae02, .code yJ1_charAt_3b067 cJ1_charAt_3b067 2 (some .char), .code yJ0_checkIndex_df160 cJ0_checkIndex_df160 2 none, .fieldLink RJ0 1053 "jdk/internal/util/Preconditions" "SIOOBE_FORMATTER" "Ljava/util/function/BiFunction;", .code yJ3_checkIndex_8e157 cJ3_checkIndex_8e157 3 (some .int), .methodLink RJ0 1059 yJ3_checkIndex_8e157, .static yJ3_checkIndex_8e157, .initialized RJ3, .methodLink RJ1 9 yJ0_checkIndex_df160, .static yJ0_checkIndex_df160, .methodLink RJ0 495 yJ1_charAt_3b067, .static yJ1_charAt_3b067, .initialized RJ1, .methodLink RX4 161 yJ0_charAt_5068e, .instanceMethod yJ0_charAt_5068e, .selects RJ0 yJ0_charAt_5068e yJ0_charAt_5068e] bs2)
set_option maxHeartbeats 4000000 in
set_option maxRecDepth 100000 in
theorem c_wordIs (l : Launch) (dC : Nat → ClassId) (dI : Nat → Nat → Nat) (kA : Nat → ClassId) (adK adV : Nat → Nat) (G : gT) (H0 : Heap) (nC nS : Int) (tx : Nat) (fr : Int32) (en : Int32) (vc : Nat → Int32) (sk : Nat) (hT : gH (dC, dI) kA (SHc nC nS) G H0) (hr_tx : G tx = some 16) (hq0 : 0 ≤ fr.toInt ∧ fr.toInt ≤ 399) (hq1 : 0 ≤ en.toInt ∧ en.toInt ≤ 400) (hfe : fr.toInt < en.toInt) (hsk : sk < 48) (hc_vc : ct H0 tx 400 vc) (hgC : 0 ≤ nC ∧ nC ≤ 40) (hgS : 0 ≤ nS ∧ nS ≤ 60) : Met l yX4_wordIs w_c_wordIs ({ frames := 4, cells := 0, slots := 0, locals := 85 }) (va_Pc [.ref (adK sk), .ref tx, .int fr, .int en] (fun U => U.heap = H0 ∧ va_K (dC, dI) vwCl (tyl kA) U ∧ EVC adK adV (gA G H0.size) U U.heap)) (va_Qi (fun (r : Int32) (u : Unit) => (0 ≤ r.toInt ∧ r.toInt ≤ 1) ∧ ((r.toInt = 1 ∧ wd (sW sk) (tc vc) fr.toNatClampNeg en.toNatClampNeg) ∨ (r.toInt = 0 ∧ ¬ wd (sW sk) (tc vc) fr.toNatClampNeg en.toNatClampNeg))) (fun (_ : Unit) (t : State) => gH (dC, dI) kA (SHc nC nS) G t.heap ∧ gF (dC, dI) SKc G ([] : List (Nat × Nat)) H0 t.heap) (gA G H0.size)) 0 0 (gA G H0.size) := by
  refine Met.ofW (cc := cX4_wordIs) (maxL := 5) (ret := (some .boolean)) (by decide) rfl ?_
  intro p e s m args below meth c s₁ B hml hv
  obtain ⟨rfl, hH0, hK, hE⟩ := hv
  have hx := B.exec
  have hb := B.bytes
  have hr := B.returns
  have hts := atoms_spec (ws := w_c_wordIs) B.pre
  have hown : s.vm.findClass RX4 = some m.cls := findClass_of_methodNamed B.named
  have hlocks := B.notSynchronized
  subst hH0
  generalize hAe : gA G s.heap.size = A at hE ⊢
  have hA : ∀ q : Nat, s.heap.size ≤ q → A q := fun q h => by rw [← hAe]; exact Or.inr h
  have hG := gA_of hAe
  have hS : va_S A s.heap s.heap [] := va_S.rf
  have hF : gF (dC, dI) SKc G ([] : List (Nat × Nat)) s.heap s.heap := gF.rf
  have hl := lv_entry ([.ref (adK sk), .ref tx, .int fr, .int en]) (n := 5) (Nat.le_of_ble_eq_true rfl)
  rw [lg_entry_eq]
  generalize (lg_sl ([.ref (adK sk), .ref tx, .int fr, .int en]) ++ List.replicate (5 - (lg_sl ([.ref (adK sk), .ref tx, .int fr, .int en])).length) Slot.unset).toArray = ls at hl ⊢
  have hl : lv_has ls 5 [(0, .ref (adK sk)), (1, .ref tx), (2, .int fr), (3, .int en)] := hl
  refine lv_iload_n hx hb dX4_wordIs_0 rfl (lv_at hl 3 rfl) ?_
  refine lv_iload_n hx hb dX4_wordIs_1 rfl (lv_at hl 2 rfl) ?_
  refine lv_isub hx hb dX4_wordIs_2 ?_
  refine lv_topi (fun x1 ex1 => ?_)
  have t2 : x1.toInt = en.toInt - fr.toInt := ti_sub ex1 rfl rfl (by omega) (by omega)
  refine lv_aload_n hx hb dX4_wordIs_3 rfl (lv_at hl 0 rfl) ?_
  have hFc := gA_free hG hA hS
  refine va_calli (va_runV (As := []) (rest := [.int x1]) ⟨hx, hb, hml, hown, hts⟩ (cj_length l dC dI kA adK adV G s.heap nC nS sk hT hsk (by omega) (by omega)) (cwV 0 hts (goodIn_app (goodIn_r _ [10, 11, 12, 9] rfl (by decide +kernel)) (goodIn_ca (goodIn_r _ [1, 2, 3, 4, 5, 6, 7, 8, 9] rfl (by decide +kernel)) (bs2_in _ _))) rfl rfl rfl (by decide +kernel) ⟨(Nat.le_of_ble_eq_true rfl), (Nat.le_of_ble_eq_true rfl)⟩) ⟨fun a U g mk q => by obtain ⟨q0, q1, qK, qE⟩ := q; exact ⟨q0, q1, va_K.moved (u := U) (U := U.calling g mk a) (Vm.Alike.refl U.vm) qK, EVC.blind g mk a qE⟩, hE.recv (i := sk) hsk hS, fun U hU hW => ⟨rfl, hU, va_K.moved hW.alike hK, hE.call hS hFc hU hW⟩⟩ rfl rfl hl.1 rfl (lv_room (Nat.le_of_ble_eq_true rfl)) dX4_wordIs_4 ⟨(Nat.le_of_ble_eq_true rfl), (Nat.le_of_ble_eq_true rfl)⟩) hS (fun q _ h => hFc q h) hFc (fun r3 u t H locs ht hvm hw4 hB _ _ hS => ?_)
  obtain ⟨hT, hF1⟩ := hB
  rw [ht] at hT hF1
  have m5 := hc_vc.kept (hF1.arr hr_tx skc_16 (by decide))
  have hF := hF.more hF1 (by decide)
  try dsimp only at hw4
  obtain ⟨h6, hf7⟩ := hw4
  refine lv_icmp_eq (tgt := 12) hx hb dX4_wordIs_7 (by decide) (fun c8 => ?_) (fun c8 => ?_)
  · have t9 : x1.toInt = r3.toInt := ti_eq c8 rfl rfl
    refine lv_iconst (v := 0) hx hb dX4_wordIs_12 (by decide) ?_
    refine lv_istore (lv' := [(4, .int 0), (0, .ref (adK sk)), (1, .ref tx), (2, .int fr), (3, .int en)]) hx hb dX4_wordIs_13 hl (by decide) rfl (fun ls hl => ?_)
    have key35 : ∀ (n35 i10 : Nat), i10 + n35 = 6 → 0 ≤ i10 → ((∀ j : Nat, j < i10 → tc vc (fr.toNatClampNeg + j) = (sW sk).getD j 0)) → ∀ (H : Heap) (locs : List Loc), gH (dC, dI) kA (SHc nC nS) G H → gF (dC, dI) SKc G ([] : List (Nat × Nat)) s.heap H → va_S A s.heap H locs → ct H tx 400 vc → ∀ ls : Array Slot, lv_has ls 5 [(4, .int (nI i10)), (0, .ref (adK sk)), (1, .ref tx), (2, .int fr), (3, .int en)] → W p l e (headSpec w_c_wordIs ({ frames := 4, cells := 0, slots := 0, locals := 85 })).room s m #[.ref (adK sk), .ref tx, .int fr, .int en] below meth c H locs 0 0 (MQ below (va_Qi (fun (r : Int32) (u : Unit) => (0 ≤ r.toInt ∧ r.toInt ≤ 1) ∧ ((r.toInt = 1 ∧ wd (sW sk) (tc vc) fr.toNatClampNeg en.toNatClampNeg) ∨ (r.toInt = 0 ∧ ¬ wd (sW sk) (tc vc) fr.toNatClampNeg en.toNatClampNeg))) (fun (_ : Unit) (t : State) => gH (dC, dI) kA (SHc nC nS) G t.heap ∧ gF (dC, dI) SKc G ([] : List (Nat × Nat)) s.heap t.heap) A) #[.ref (adK sk), .ref tx, .int fr, .int en] s 0 0 A) (F0 m 15 ls []) := by
      intro n35
      induction n35 with
      | zero =>
        intro i10 hn35 hlo36 hj12 H locs hT hF hS m11 ls hl
        obtain rfl : 6 = i10 := by omega
        refine lv_iload hx hb dX4_wordIs_15 (lv_at hl 0 rfl) ?_
        refine lv_aload_n hx hb dX4_wordIs_17 rfl (lv_at hl 1 rfl) ?_
        have hFc := gA_free hG hA hS
        refine va_calli (va_runV (As := []) (rest := [.int (nI 6)]) ⟨hx, hb, hml, hown, hts⟩ (cj_length l dC dI kA adK adV G H nC nS sk hT hsk (by omega) (by omega)) (cwV 0 hts (goodIn_app (goodIn_r _ [10, 11, 12, 9] rfl (by decide +kernel)) (goodIn_ca (goodIn_r _ [1, 2, 3, 4, 5, 6, 7, 8, 9] rfl (by decide +kernel)) (bs2_in _ _))) rfl rfl rfl (by decide +kernel) ⟨(Nat.le_of_ble_eq_true rfl), (Nat.le_of_ble_eq_true rfl)⟩) ⟨fun a U g mk q => by obtain ⟨q0, q1, qK, qE⟩ := q; exact ⟨q0, q1, va_K.moved (u := U) (U := U.calling g mk a) (Vm.Alike.refl U.vm) qK, EVC.blind g mk a qE⟩, hE.recv (i := sk) hsk hS, fun U hU hW => ⟨rfl, hU, va_K.moved hW.alike hK, hE.call hS hFc hU hW⟩⟩ rfl rfl hl.1 rfl (lv_room (Nat.le_of_ble_eq_true rfl)) dX4_wordIs_18 ⟨(Nat.le_of_ble_eq_true rfl), (Nat.le_of_ble_eq_true rfl)⟩) hS (fun q _ h => hFc q h) hFc (fun r37 u t H locs ht hvm hw38 hB _ _ hS => ?_)
        obtain ⟨hT, hF1⟩ := hB
        rw [ht] at hT hF1
        have hF := hF.more hF1 (by decide)
        try dsimp only at hw38
        obtain ⟨h40, hf41⟩ := hw38
        refine lv_icmp_ge (tgt := 47) hx hb dX4_wordIs_21 (by decide) (fun c42 => ?_) (fun c42 => (by exfalso; have q9 : ((6 : Nat) : Int) < r37.toInt := ti_nle c42 rfl (nI_toInt (by omega)); omega))
        have t43 : r37.toInt ≤ ((6 : Nat) : Int) := ti_le c42 rfl (nI_toInt (by omega))
        refine lv_iconst (v := 1) hx hb dX4_wordIs_47 (by decide) ?_
        exact W.zret (v := 1) hx hb hr (by decide) (fun t ht hW => ⟨⟨1, (), rfl, (by exact ⟨(rg_t (a := 1) (by decide) (by first | decide | omega) (by first | decide | omega)), (Or.inl ⟨by decide, by have l1 := sW_l hsk; have := tn_of (show fr.toInt = fr.toInt from rfl) (by omega); have := tn_of (show en.toInt = en.toInt from rfl) (by omega); exact ⟨by omega, fun j hj => hj12 j (by omega)⟩⟩)⟩), by (try dsimp only); rw [ht]; exact ⟨hT, hF⟩⟩, hS.F ht⟩) hS.2.2 dX4_wordIs_48
      | succ n35 ih35 =>
        intro i10 hn35 hlo36 hj12 H locs hT hF hS m11 ls hl
        have hlt43 : i10 < 6 := by omega
        refine lv_iload hx hb dX4_wordIs_15 (lv_at hl 0 rfl) ?_
        refine lv_aload_n hx hb dX4_wordIs_17 rfl (lv_at hl 1 rfl) ?_
        have hFc := gA_free hG hA hS
        refine va_calli (va_runV (As := []) (rest := [.int (nI i10)]) ⟨hx, hb, hml, hown, hts⟩ (cj_length l dC dI kA adK adV G H nC nS sk hT hsk (by omega) (by omega)) (cwV 0 hts (goodIn_app (goodIn_r _ [10, 11, 12, 9] rfl (by decide +kernel)) (goodIn_ca (goodIn_r _ [1, 2, 3, 4, 5, 6, 7, 8, 9] rfl (by decide +kernel)) (bs2_in _ _))) rfl rfl rfl (by decide +kernel) ⟨(Nat.le_of_ble_eq_true rfl), (Nat.le_of_ble_eq_true rfl)⟩) ⟨fun a U g mk q => by obtain ⟨q0, q1, qK, qE⟩ := q; exact ⟨q0, q1, va_K.moved (u := U) (U := U.calling g mk a) (Vm.Alike.refl U.vm) qK, EVC.blind g mk a qE⟩, hE.recv (i := sk) hsk hS, fun U hU hW => ⟨rfl, hU, va_K.moved hW.alike hK, hE.call hS hFc hU hW⟩⟩ rfl rfl hl.1 rfl (lv_room (Nat.le_of_ble_eq_true rfl)) dX4_wordIs_18 ⟨(Nat.le_of_ble_eq_true rfl), (Nat.le_of_ble_eq_true rfl)⟩) hS (fun q _ h => hFc q h) hFc (fun r44 u t H locs ht hvm hw45 hB _ _ hS => ?_)
        obtain ⟨hT, hF1⟩ := hB
        rw [ht] at hT hF1
        have m46 := m11.kept (hF1.arr hr_tx skc_16 (by decide))
        have hF := hF.more hF1 (by decide)
        try dsimp only at hw45
        obtain ⟨h47, hf48⟩ := hw45
        refine lv_icmp_ge (tgt := 47) hx hb dX4_wordIs_21 (by decide) (fun c49 => ?_) (fun c49 => ?_)
        · have t50 : r44.toInt ≤ ((i10 : Nat) : Int) := ti_le c49 rfl (nI_toInt (by omega))
          refine lv_iconst (v := 1) hx hb dX4_wordIs_47 (by decide) ?_
          exact W.zret (v := 1) hx hb hr (by decide) (fun t ht hW => ⟨⟨1, (), rfl, (by exact ⟨(rg_t (a := 1) (by decide) (by first | decide | omega) (by first | decide | omega)), (Or.inl ⟨by decide, by have l1 := sW_l hsk; have := tn_of (show fr.toInt = fr.toInt from rfl) (by omega); have := tn_of (show en.toInt = en.toInt from rfl) (by omega); exact ⟨by omega, fun j hj => hj12 j (by omega)⟩⟩)⟩), by (try dsimp only); rw [ht]; exact ⟨hT, hF⟩⟩, hS.F ht⟩) hS.2.2 dX4_wordIs_48
        · have t51 : ((i10 : Nat) : Int) < r44.toInt := ti_nle c49 rfl (nI_toInt (by omega))
          refine lv_aload_n hx hb dX4_wordIs_24 rfl (lv_at hl 2 rfl) ?_
          refine lv_iload_n hx hb dX4_wordIs_25 rfl (lv_at hl 3 rfl) ?_
          refine lv_iload hx hb dX4_wordIs_26 (lv_at hl 0 rfl) ?_
          refine lv_iadd hx hb dX4_wordIs_28 ?_
          refine lv_topi (fun x52 ex52 => ?_)
          have t53 : x52.toInt = fr.toInt + ((i10 : Nat) : Int) := ti_add ex52 rfl (nI_toInt (by omega)) (by omega) (by omega)
          refine tw_iald (i := x52) hx hb hK hT hr_tx shc_16 rfl (vin_t (a := x52.toInt) rfl (by omega) (by omega)) dX4_wordIs_29 (fun v9 m54 h9 => ?_)
          obtain ⟨x55, rfl, gx55, kx55⟩ := h9
          have cx55 := m46.at m54 (by have q9 := tn_of (show x52.toInt = x52.toInt from rfl) (by omega); omega)
          have t56 : (x55.toInt < 128 ∧ tc vc x52.toNatClampNeg = x55.toInt) ∨ (128 ≤ x55.toInt ∧ tc vc x52.toNatClampNeg = x55.toInt - 256) := tc_s cx55 (by omega) (by omega)
          refine lv_aload_n hx hb dX4_wordIs_30 rfl (lv_at hl 1 rfl) ?_
          refine lv_iload hx hb dX4_wordIs_31 (lv_at hl 0 rfl) ?_
          have hFc := gA_free hG hA hS
          refine va_calli (va_runV (As := [.int (nI i10)]) (rest := [.int x55]) ⟨hx, hb, hml, hown, hts⟩ (cj_charAt l dC dI kA adK adV G H nC nS (nI i10) sk hT (rg_t (a := ((i10 : Nat) : Int)) (nI_toInt (by omega)) (by omega) (by omega)) (by have := (show (nI i10).toInt = ((i10 : Nat) : Int) from (nI_toInt (by omega))); omega) hsk (by omega) (by omega)) (cwV 1 hts (goodIn_app (goodIn_r _ [30, 31, 32, 9] rfl (by decide +kernel)) (goodIn_ca (goodIn_r _ [13, 14, 4, 5, 15, 16, 17, 9, 2, 18, 19, 20, 21, 22, 23, 24, 25, 26, 27, 28, 29] rfl (by decide +kernel)) (bs2_in _ _))) rfl rfl rfl (by decide +kernel) ⟨(Nat.le_of_ble_eq_true rfl), (Nat.le_of_ble_eq_true rfl)⟩) ⟨fun a U g mk q => by obtain ⟨q0, q1, qK, qE⟩ := q; exact ⟨q0, q1, va_K.moved (u := U) (U := U.calling g mk a) (Vm.Alike.refl U.vm) qK, EVC.blind g mk a qE⟩, hE.recv (i := sk) hsk hS, fun U hU hW => ⟨rfl, hU, va_K.moved hW.alike hK, hE.call hS hFc hU hW⟩⟩ rfl rfl hl.1 rfl (lv_room (Nat.le_of_ble_eq_true rfl)) dX4_wordIs_33 ⟨(Nat.le_of_ble_eq_true rfl), (Nat.le_of_ble_eq_true rfl)⟩) hS (fun q _ h => hFc q h) hFc (fun r57 u t H locs ht hvm hw58 hB _ _ hS => ?_)
          obtain ⟨hT, hF1⟩ := hB
          rw [ht] at hT hF1
          have m59 := m46.kept (hF1.arr hr_tx skc_16 (by decide))
          have hF := hF.more hF1 (by decide)
          try dsimp only at hw58
          have hf61 := hw58
          have t62 : -2147483648 ≤ r57.toInt ∧ r57.toInt ≤ 2147483647 := ti_all r57
          refine lv_icmp_eq (tgt := 41) hx hb dX4_wordIs_36 (by decide) (fun c63 => ?_) (fun c63 => ?_)
          · have t64 : x55.toInt = r57.toInt := ti_eq c63 rfl rfl
            refine lv_iinc (v := nI (i10 + 1)) (lv' := [(4, .int (nI (i10 + 1))), (0, .ref (adK sk)), (1, .ref tx), (2, .int fr), (3, .int en)]) hx hb dX4_wordIs_41 hl (k := 0) rfl (nI_add i10 1) (by decide) rfl (fun ls hl => ?_)
            refine lv_goto (tgt := 15) hx hb dX4_wordIs_44 (by decide) ?_
            exact ih35 (i10 + 1) (by omega) (by omega) (by have l1 := sW_l hsk; have := tn_of (show x52.toInt = x52.toInt from rfl) (by omega); have := tn_of (show fr.toInt = fr.toInt from rfl) (by omega); have b9 := sW_b (i := sk) (j := (nI i10).toNatClampNeg) hsk; have c8 := hf61; exact iw_s hj12 (n := x52.toNatClampNeg) (m := (nI i10).toNatClampNeg) (by omega) (by omega) (tn_nI (by omega))) _ _ hT hF hS m59 ls (lv_sub hl [0, 1, 2, 3, 4] rfl)
          · have t65 : x55.toInt ≠ r57.toInt := ti_ne c63 rfl rfl
            refine lv_iconst (v := 0) hx hb dX4_wordIs_39 (by decide) ?_
            exact W.zret (v := 0) hx hb hr (by decide) (fun t ht hW => ⟨⟨0, (), rfl, (by exact ⟨(rg_t (a := 0) (by decide) (by first | decide | omega) (by first | decide | omega)), (Or.inr ⟨by decide, by have l1 := sW_l hsk; have := tn_of (show x52.toInt = x52.toInt from rfl) (by omega); have := tn_of (show fr.toInt = fr.toInt from rfl) (by omega); have b9 := sW_b (i := sk) (j := (nI i10).toNatClampNeg) hsk; have c8 := hf61; exact iw_n (i := i10) (n := x52.toNatClampNeg) (m := (nI i10).toNatClampNeg) (by omega) (by omega) (tn_nI (by omega)) (by omega)⟩)⟩), by (try dsimp only); rw [ht]; exact ⟨hT, hF⟩⟩, hS.F ht⟩) hS.2.2 dX4_wordIs_40
    exact key35 (6 - 0) 0 (by omega) (Nat.le_refl _) (fun j h9 => absurd h9 (Nat.not_lt_zero j)) _ _ hT hF hS m5 ls (lv_sub hl [0, 1, 2, 3, 4] rfl)
  · have t66 : x1.toInt ≠ r3.toInt := ti_ne c8 rfl rfl
    refine lv_iconst (v := 0) hx hb dX4_wordIs_10 (by decide) ?_
    exact W.zret (v := 0) hx hb hr (by decide) (fun t ht hW => ⟨⟨0, (), rfl, (by exact ⟨(rg_t (a := 0) (by decide) (by first | decide | omega) (by first | decide | omega)), (Or.inr ⟨by decide, fun h9 => by have l1 := sW_l hsk; have := tn_of (show fr.toInt = fr.toInt from rfl) (by omega); have := tn_of (show en.toInt = en.toInt from rfl) (by omega); have := h9.1; omega⟩)⟩), by (try dsimp only); rw [ht]; exact ⟨hT, hF⟩⟩, hS.F ht⟩) hS.2.2 dX4_wordIs_11
def w_c_factThing : List Cond := .code yX4_factThing cX4_factThing 3 (some .int) :: (HAppend.hAppend (α := List Cond) (β := List Cond) (γ := List Cond) [.code yX4_wordIs cX4_wordIs 5 (some .boolean), .code yJ0_length_8abf5 cJ0_length_8abf5 1 (some .int), .fieldLink RJ0 9 "java/lang/String" "value" "[B", .code yJ0_coder_7d493 cJ0_coder_7d493 1 (some .byte), .fieldLink RJ0 38 "java/lang/String" "COMPACT_STRINGS" "Z", .fieldLink RJ0 15 "java/lang/String" "coder" "B", .methodLink RJ0 335 yJ0_coder_7d493, .instanceMethod yJ0_coder_7d493, .selects RJ0 yJ0_coder_7d493 yJ0_coder_7d493, .initialized RJ0, .methodLink RX4 155 yJ0_length_8abf5, .instanceMethod yJ0_length_8abf5, .selects RJ0 yJ0_length_8abf5 yJ0_length_8abf5, .code yJ0_charAt_5068e cJ0_charAt_5068e 2 (some .char), .code yJ0_isLatin1_aae02 cJ0_isLatin1_aae02 1 (some .boolean), .methodLink RJ0 492 yJ0_isLatin1_aae02, .instanceMethod yJ0_isLatin1_aae02, .selects RJ0 yJ0_isLatin1_aae02 yJ0_isLatin1_aae02, .code yJ1_charAt_3b067 cJ1_charAt_3b067 2 (some .char), .code yJ0_checkIndex_df160 cJ0_checkIndex_df160 2 none, .fieldLink RJ0 1053 "jdk/internal/util/Preconditions" "SIOOBE_FORMATTER" "Ljava/util/function/BiFunction;", .code yJ3_checkIndex_8e157 cJ3_checkIndex_8e157 3 (some .int), .methodLink RJ0 1059 yJ3_checkIndex_8e157, .static yJ3_checkIndex_8e157, .initialized RJ3, .methodLink RJ1 9 yJ0_checkIndex_df160, .static yJ0_checkIndex_df160, .methodLink RJ0 495 yJ1_charAt_3b067, .static yJ1_charAt_3b067, .initialized RJ1, .methodLink RX4 161 yJ0_charAt_5068e, .instanceMethod yJ0_charAt_5068e, .selects RJ0 yJ0_charAt_5068e yJ0_charAt_5068e, .methodLink RX4 105 yX4_wordIs, .static yX4_wordIs, .initialized RX4] bs2)
set_option maxHeartbeats 4000000 in
set_option maxRecDepth 100000 in
theorem c_factThing (l : Launch) (dC : Nat → ClassId) (dI : Nat → Nat → Nat) (kA : Nat → ClassId) (adK adV : Nat → Nat) (G : gT) (H0 : Heap) (nC nS : Int) (tx : Nat) (fr : Int32) (en : Int32) (vc : Nat → Int32)  (hT : gH (dC, dI) kA (SHc nC nS) G H0) (hr_tx : G tx = some 16) (hq0 : 0 ≤ fr.toInt ∧ fr.toInt ≤ 399) (hq1 : 0 ≤ en.toInt ∧ en.toInt ≤ 400) (hfe : fr.toInt < en.toInt) (hc_vc : ct H0 tx 400 vc) (hgC : 0 ≤ nC ∧ nC ≤ 40) (hgS : 0 ≤ nS ∧ nS ≤ 60) : Met l yX4_factThing w_c_factThing ({ frames := 5, cells := 0, slots := 0, locals := 109 }) (va_Pc [.ref tx, .int fr, .int en] (fun U => U.heap = H0 ∧ va_K (dC, dI) vwCl (tyl kA) U ∧ EVC adK adV (gA G H0.size) U U.heap)) (va_Qi (fun (r : Int32) (u : Unit) => (-1 ≤ r.toInt ∧ r.toInt ≤ 9) ∧ ((r.toInt = -1 ∧ ∀ i : Nat, 29 ≤ i → i < 39 → ¬ wd (sW i) (tc vc) fr.toNatClampNeg en.toNatClampNeg) ∨ ∃ i : Nat, (29 ≤ i ∧ i < 39) ∧ wd (sW i) (tc vc) fr.toNatClampNeg en.toNatClampNeg ∧ r.toInt = sC i)) (fun (_ : Unit) (t : State) => gH (dC, dI) kA (SHc nC nS) G t.heap ∧ gF (dC, dI) SKc G ([] : List (Nat × Nat)) H0 t.heap) (gA G H0.size)) 0 0 (gA G H0.size) := by
  refine Met.ofW (cc := cX4_factThing) (maxL := 3) (ret := (some .int)) (by decide) rfl ?_
  intro p e s m args below meth c s₁ B hml hv
  obtain ⟨rfl, hH0, hK, hE⟩ := hv
  have hx := B.exec
  have hb := B.bytes
  have hr := B.returns
  have hts := atoms_spec (ws := w_c_factThing) B.pre
  have hown : s.vm.findClass RX4 = some m.cls := findClass_of_methodNamed B.named
  have hlocks := B.notSynchronized
  subst hH0
  generalize hAe : gA G s.heap.size = A at hE ⊢
  have hA : ∀ q : Nat, s.heap.size ≤ q → A q := fun q h => by rw [← hAe]; exact Or.inr h
  have hG := gA_of hAe
  have hS : va_S A s.heap s.heap [] := va_S.rf
  have hF : gF (dC, dI) SKc G ([] : List (Nat × Nat)) s.heap s.heap := gF.rf
  have hl := lv_entry ([.ref tx, .int fr, .int en]) (n := 3) (Nat.le_of_ble_eq_true rfl)
  rw [lg_entry_eq]
  generalize (lg_sl ([.ref tx, .int fr, .int en]) ++ List.replicate (3 - (lg_sl ([.ref tx, .int fr, .int en])).length) Slot.unset).toArray = ls at hl ⊢
  have hl : lv_has ls 3 [(0, .ref tx), (1, .int fr), (2, .int en)] := hl
  refine va_ldcS hx hb hown hE.1.s29 dX4_factThing_0 ?_
  refine lv_aload_n hx hb dX4_factThing_2 rfl (lv_at hl 0 rfl) ?_
  refine lv_iload_n hx hb dX4_factThing_3 rfl (lv_at hl 1 rfl) ?_
  refine lv_iload_n hx hb dX4_factThing_4 rfl (lv_at hl 2 rfl) ?_
  have hFc := gA_free hG hA hS
  refine va_calli (va_runS (As := [.ref (adK 29), .ref tx, .int fr, .int en]) (rest := []) ⟨hx, hb, hml, hown, hts⟩ (c_wordIs l dC dI kA adK adV G s.heap nC nS tx fr en vc 29 hT hr_tx (by have q8 := ti_all fr; omega) (by have q8 := ti_all en; omega) (by have := (show fr.toInt = fr.toInt from rfl); have := (show en.toInt = en.toInt from rfl); omega) (by first | omega | decide) hc_vc (by omega) (by omega)) (va_cwS 4 hts (goodIn_app (goodIn_r _ [34, 35, 36] rfl (by decide +kernel)) (goodIn_ca (goodIn_r _ [1, 2, 3, 4, 5, 6, 7, 8, 9, 10, 11, 12, 13, 14, 15, 16, 17, 18, 19, 20, 21, 22, 23, 24, 25, 26, 27, 28, 29, 30, 31, 32, 33] rfl (by decide +kernel)) (bs2_in _ _))) rfl rfl rfl (by decide +kernel) ⟨(Nat.le_of_ble_eq_true rfl), (Nat.le_of_ble_eq_true rfl)⟩) ⟨fun a U g mk q => by obtain ⟨q0, q1, qK, qE⟩ := q; exact ⟨q0, q1, va_K.moved (u := U) (U := U.calling g mk a) (Vm.Alike.refl U.vm) qK, EVC.blind g mk a qE⟩, fun U hU hW => ⟨rfl, hU, va_K.moved hW.alike hK, hE.call hS hFc hU hW⟩⟩ rfl rfl hl.1 rfl (lv_room (Nat.le_of_ble_eq_true rfl)) dX4_factThing_5 ⟨(Nat.le_of_ble_eq_true rfl), (Nat.le_of_ble_eq_true rfl)⟩) hS (fun q _ h => hFc q h) hFc (fun r1 u t H locs ht hvm hw2 hB _ _ hS => ?_)
  obtain ⟨hT, hF1⟩ := hB
  rw [ht] at hT hF1
  have m3 := hc_vc.kept (hF1.arr hr_tx skc_16 (by decide))
  have hF := hF.more hF1 (by decide)
  try dsimp only at hw2
  obtain ⟨h4, hf5⟩ := hw2
  refine lv_if_eq (tgt := 15) hx hb dX4_factThing_8 (by decide) (fun c6 => ?_) (fun c6 => ?_)
  · have t7 : r1.toInt = 0 := ti_eq c6 rfl (by decide)
    refine va_ldcS hx hb hown hE.1.s30 dX4_factThing_15 ?_
    refine lv_aload_n hx hb dX4_factThing_17 rfl (lv_at hl 0 rfl) ?_
    refine lv_iload_n hx hb dX4_factThing_18 rfl (lv_at hl 1 rfl) ?_
    refine lv_iload_n hx hb dX4_factThing_19 rfl (lv_at hl 2 rfl) ?_
    have hFc := gA_free hG hA hS
    refine va_calli (va_runS (As := [.ref (adK 30), .ref tx, .int fr, .int en]) (rest := []) ⟨hx, hb, hml, hown, hts⟩ (c_wordIs l dC dI kA adK adV G H nC nS tx fr en vc 30 hT hr_tx (by have q8 := ti_all fr; omega) (by have q8 := ti_all en; omega) (by have := (show fr.toInt = fr.toInt from rfl); have := (show en.toInt = en.toInt from rfl); omega) (by first | omega | decide) m3 (by omega) (by omega)) (va_cwS 4 hts (goodIn_app (goodIn_r _ [34, 35, 36] rfl (by decide +kernel)) (goodIn_ca (goodIn_r _ [1, 2, 3, 4, 5, 6, 7, 8, 9, 10, 11, 12, 13, 14, 15, 16, 17, 18, 19, 20, 21, 22, 23, 24, 25, 26, 27, 28, 29, 30, 31, 32, 33] rfl (by decide +kernel)) (bs2_in _ _))) rfl rfl rfl (by decide +kernel) ⟨(Nat.le_of_ble_eq_true rfl), (Nat.le_of_ble_eq_true rfl)⟩) ⟨fun a U g mk q => by obtain ⟨q0, q1, qK, qE⟩ := q; exact ⟨q0, q1, va_K.moved (u := U) (U := U.calling g mk a) (Vm.Alike.refl U.vm) qK, EVC.blind g mk a qE⟩, fun U hU hW => ⟨rfl, hU, va_K.moved hW.alike hK, hE.call hS hFc hU hW⟩⟩ rfl rfl hl.1 rfl (lv_room (Nat.le_of_ble_eq_true rfl)) dX4_factThing_20 ⟨(Nat.le_of_ble_eq_true rfl), (Nat.le_of_ble_eq_true rfl)⟩) hS (fun q _ h => hFc q h) hFc (fun r8 u t H locs ht hvm hw9 hB _ _ hS => ?_)
    obtain ⟨hT, hF1⟩ := hB
    rw [ht] at hT hF1
    have m10 := m3.kept (hF1.arr hr_tx skc_16 (by decide))
    have hF := hF.more hF1 (by decide)
    try dsimp only at hw9
    obtain ⟨h11, hf12⟩ := hw9
    refine lv_if_eq (tgt := 30) hx hb dX4_factThing_23 (by decide) (fun c13 => ?_) (fun c13 => ?_)
    · have t14 : r8.toInt = 0 := ti_eq c13 rfl (by decide)
      refine va_ldcS hx hb hown hE.1.s31 dX4_factThing_30 ?_
      refine lv_aload_n hx hb dX4_factThing_32 rfl (lv_at hl 0 rfl) ?_
      refine lv_iload_n hx hb dX4_factThing_33 rfl (lv_at hl 1 rfl) ?_
      refine lv_iload_n hx hb dX4_factThing_34 rfl (lv_at hl 2 rfl) ?_
      have hFc := gA_free hG hA hS
      refine va_calli (va_runS (As := [.ref (adK 31), .ref tx, .int fr, .int en]) (rest := []) ⟨hx, hb, hml, hown, hts⟩ (c_wordIs l dC dI kA adK adV G H nC nS tx fr en vc 31 hT hr_tx (by have q8 := ti_all fr; omega) (by have q8 := ti_all en; omega) (by have := (show fr.toInt = fr.toInt from rfl); have := (show en.toInt = en.toInt from rfl); omega) (by first | omega | decide) m10 (by omega) (by omega)) (va_cwS 4 hts (goodIn_app (goodIn_r _ [34, 35, 36] rfl (by decide +kernel)) (goodIn_ca (goodIn_r _ [1, 2, 3, 4, 5, 6, 7, 8, 9, 10, 11, 12, 13, 14, 15, 16, 17, 18, 19, 20, 21, 22, 23, 24, 25, 26, 27, 28, 29, 30, 31, 32, 33] rfl (by decide +kernel)) (bs2_in _ _))) rfl rfl rfl (by decide +kernel) ⟨(Nat.le_of_ble_eq_true rfl), (Nat.le_of_ble_eq_true rfl)⟩) ⟨fun a U g mk q => by obtain ⟨q0, q1, qK, qE⟩ := q; exact ⟨q0, q1, va_K.moved (u := U) (U := U.calling g mk a) (Vm.Alike.refl U.vm) qK, EVC.blind g mk a qE⟩, fun U hU hW => ⟨rfl, hU, va_K.moved hW.alike hK, hE.call hS hFc hU hW⟩⟩ rfl rfl hl.1 rfl (lv_room (Nat.le_of_ble_eq_true rfl)) dX4_factThing_35 ⟨(Nat.le_of_ble_eq_true rfl), (Nat.le_of_ble_eq_true rfl)⟩) hS (fun q _ h => hFc q h) hFc (fun r15 u t H locs ht hvm hw16 hB _ _ hS => ?_)
      obtain ⟨hT, hF1⟩ := hB
      rw [ht] at hT hF1
      have m17 := m10.kept (hF1.arr hr_tx skc_16 (by decide))
      have hF := hF.more hF1 (by decide)
      try dsimp only at hw16
      obtain ⟨h18, hf19⟩ := hw16
      refine lv_if_eq (tgt := 45) hx hb dX4_factThing_38 (by decide) (fun c20 => ?_) (fun c20 => ?_)
      · have t21 : r15.toInt = 0 := ti_eq c20 rfl (by decide)
        refine va_ldcS hx hb hown hE.1.s32 dX4_factThing_45 ?_
        refine lv_aload_n hx hb dX4_factThing_47 rfl (lv_at hl 0 rfl) ?_
        refine lv_iload_n hx hb dX4_factThing_48 rfl (lv_at hl 1 rfl) ?_
        refine lv_iload_n hx hb dX4_factThing_49 rfl (lv_at hl 2 rfl) ?_
        have hFc := gA_free hG hA hS
        refine va_calli (va_runS (As := [.ref (adK 32), .ref tx, .int fr, .int en]) (rest := []) ⟨hx, hb, hml, hown, hts⟩ (c_wordIs l dC dI kA adK adV G H nC nS tx fr en vc 32 hT hr_tx (by have q8 := ti_all fr; omega) (by have q8 := ti_all en; omega) (by have := (show fr.toInt = fr.toInt from rfl); have := (show en.toInt = en.toInt from rfl); omega) (by first | omega | decide) m17 (by omega) (by omega)) (va_cwS 4 hts (goodIn_app (goodIn_r _ [34, 35, 36] rfl (by decide +kernel)) (goodIn_ca (goodIn_r _ [1, 2, 3, 4, 5, 6, 7, 8, 9, 10, 11, 12, 13, 14, 15, 16, 17, 18, 19, 20, 21, 22, 23, 24, 25, 26, 27, 28, 29, 30, 31, 32, 33] rfl (by decide +kernel)) (bs2_in _ _))) rfl rfl rfl (by decide +kernel) ⟨(Nat.le_of_ble_eq_true rfl), (Nat.le_of_ble_eq_true rfl)⟩) ⟨fun a U g mk q => by obtain ⟨q0, q1, qK, qE⟩ := q; exact ⟨q0, q1, va_K.moved (u := U) (U := U.calling g mk a) (Vm.Alike.refl U.vm) qK, EVC.blind g mk a qE⟩, fun U hU hW => ⟨rfl, hU, va_K.moved hW.alike hK, hE.call hS hFc hU hW⟩⟩ rfl rfl hl.1 rfl (lv_room (Nat.le_of_ble_eq_true rfl)) dX4_factThing_50 ⟨(Nat.le_of_ble_eq_true rfl), (Nat.le_of_ble_eq_true rfl)⟩) hS (fun q _ h => hFc q h) hFc (fun r22 u t H locs ht hvm hw23 hB _ _ hS => ?_)
        obtain ⟨hT, hF1⟩ := hB
        rw [ht] at hT hF1
        have m24 := m17.kept (hF1.arr hr_tx skc_16 (by decide))
        have hF := hF.more hF1 (by decide)
        try dsimp only at hw23
        obtain ⟨h25, hf26⟩ := hw23
        refine lv_if_eq (tgt := 60) hx hb dX4_factThing_53 (by decide) (fun c27 => ?_) (fun c27 => ?_)
        · have t28 : r22.toInt = 0 := ti_eq c27 rfl (by decide)
          refine va_ldcS hx hb hown hE.1.s33 dX4_factThing_60 ?_
          refine lv_aload_n hx hb dX4_factThing_62 rfl (lv_at hl 0 rfl) ?_
          refine lv_iload_n hx hb dX4_factThing_63 rfl (lv_at hl 1 rfl) ?_
          refine lv_iload_n hx hb dX4_factThing_64 rfl (lv_at hl 2 rfl) ?_
          have hFc := gA_free hG hA hS
          refine va_calli (va_runS (As := [.ref (adK 33), .ref tx, .int fr, .int en]) (rest := []) ⟨hx, hb, hml, hown, hts⟩ (c_wordIs l dC dI kA adK adV G H nC nS tx fr en vc 33 hT hr_tx (by have q8 := ti_all fr; omega) (by have q8 := ti_all en; omega) (by have := (show fr.toInt = fr.toInt from rfl); have := (show en.toInt = en.toInt from rfl); omega) (by first | omega | decide) m24 (by omega) (by omega)) (va_cwS 4 hts (goodIn_app (goodIn_r _ [34, 35, 36] rfl (by decide +kernel)) (goodIn_ca (goodIn_r _ [1, 2, 3, 4, 5, 6, 7, 8, 9, 10, 11, 12, 13, 14, 15, 16, 17, 18, 19, 20, 21, 22, 23, 24, 25, 26, 27, 28, 29, 30, 31, 32, 33] rfl (by decide +kernel)) (bs2_in _ _))) rfl rfl rfl (by decide +kernel) ⟨(Nat.le_of_ble_eq_true rfl), (Nat.le_of_ble_eq_true rfl)⟩) ⟨fun a U g mk q => by obtain ⟨q0, q1, qK, qE⟩ := q; exact ⟨q0, q1, va_K.moved (u := U) (U := U.calling g mk a) (Vm.Alike.refl U.vm) qK, EVC.blind g mk a qE⟩, fun U hU hW => ⟨rfl, hU, va_K.moved hW.alike hK, hE.call hS hFc hU hW⟩⟩ rfl rfl hl.1 rfl (lv_room (Nat.le_of_ble_eq_true rfl)) dX4_factThing_65 ⟨(Nat.le_of_ble_eq_true rfl), (Nat.le_of_ble_eq_true rfl)⟩) hS (fun q _ h => hFc q h) hFc (fun r29 u t H locs ht hvm hw30 hB _ _ hS => ?_)
          obtain ⟨hT, hF1⟩ := hB
          rw [ht] at hT hF1
          have m31 := m24.kept (hF1.arr hr_tx skc_16 (by decide))
          have hF := hF.more hF1 (by decide)
          try dsimp only at hw30
          obtain ⟨h32, hf33⟩ := hw30
          refine lv_if_eq (tgt := 75) hx hb dX4_factThing_68 (by decide) (fun c34 => ?_) (fun c34 => ?_)
          · have t35 : r29.toInt = 0 := ti_eq c34 rfl (by decide)
            refine va_ldcS hx hb hown hE.1.s34 dX4_factThing_75 ?_
            refine lv_aload_n hx hb dX4_factThing_77 rfl (lv_at hl 0 rfl) ?_
            refine lv_iload_n hx hb dX4_factThing_78 rfl (lv_at hl 1 rfl) ?_
            refine lv_iload_n hx hb dX4_factThing_79 rfl (lv_at hl 2 rfl) ?_
            have hFc := gA_free hG hA hS
            refine va_calli (va_runS (As := [.ref (adK 34), .ref tx, .int fr, .int en]) (rest := []) ⟨hx, hb, hml, hown, hts⟩ (c_wordIs l dC dI kA adK adV G H nC nS tx fr en vc 34 hT hr_tx (by have q8 := ti_all fr; omega) (by have q8 := ti_all en; omega) (by have := (show fr.toInt = fr.toInt from rfl); have := (show en.toInt = en.toInt from rfl); omega) (by first | omega | decide) m31 (by omega) (by omega)) (va_cwS 4 hts (goodIn_app (goodIn_r _ [34, 35, 36] rfl (by decide +kernel)) (goodIn_ca (goodIn_r _ [1, 2, 3, 4, 5, 6, 7, 8, 9, 10, 11, 12, 13, 14, 15, 16, 17, 18, 19, 20, 21, 22, 23, 24, 25, 26, 27, 28, 29, 30, 31, 32, 33] rfl (by decide +kernel)) (bs2_in _ _))) rfl rfl rfl (by decide +kernel) ⟨(Nat.le_of_ble_eq_true rfl), (Nat.le_of_ble_eq_true rfl)⟩) ⟨fun a U g mk q => by obtain ⟨q0, q1, qK, qE⟩ := q; exact ⟨q0, q1, va_K.moved (u := U) (U := U.calling g mk a) (Vm.Alike.refl U.vm) qK, EVC.blind g mk a qE⟩, fun U hU hW => ⟨rfl, hU, va_K.moved hW.alike hK, hE.call hS hFc hU hW⟩⟩ rfl rfl hl.1 rfl (lv_room (Nat.le_of_ble_eq_true rfl)) dX4_factThing_80 ⟨(Nat.le_of_ble_eq_true rfl), (Nat.le_of_ble_eq_true rfl)⟩) hS (fun q _ h => hFc q h) hFc (fun r36 u t H locs ht hvm hw37 hB _ _ hS => ?_)
            obtain ⟨hT, hF1⟩ := hB
            rw [ht] at hT hF1
            have m38 := m31.kept (hF1.arr hr_tx skc_16 (by decide))
            have hF := hF.more hF1 (by decide)
            try dsimp only at hw37
            obtain ⟨h39, hf40⟩ := hw37
            refine lv_if_eq (tgt := 90) hx hb dX4_factThing_83 (by decide) (fun c41 => ?_) (fun c41 => ?_)
            · have t42 : r36.toInt = 0 := ti_eq c41 rfl (by decide)
              refine va_ldcS hx hb hown hE.1.s35 dX4_factThing_90 ?_
              refine lv_aload_n hx hb dX4_factThing_92 rfl (lv_at hl 0 rfl) ?_
              refine lv_iload_n hx hb dX4_factThing_93 rfl (lv_at hl 1 rfl) ?_
              refine lv_iload_n hx hb dX4_factThing_94 rfl (lv_at hl 2 rfl) ?_
              have hFc := gA_free hG hA hS
              refine va_calli (va_runS (As := [.ref (adK 35), .ref tx, .int fr, .int en]) (rest := []) ⟨hx, hb, hml, hown, hts⟩ (c_wordIs l dC dI kA adK adV G H nC nS tx fr en vc 35 hT hr_tx (by have q8 := ti_all fr; omega) (by have q8 := ti_all en; omega) (by have := (show fr.toInt = fr.toInt from rfl); have := (show en.toInt = en.toInt from rfl); omega) (by first | omega | decide) m38 (by omega) (by omega)) (va_cwS 4 hts (goodIn_app (goodIn_r _ [34, 35, 36] rfl (by decide +kernel)) (goodIn_ca (goodIn_r _ [1, 2, 3, 4, 5, 6, 7, 8, 9, 10, 11, 12, 13, 14, 15, 16, 17, 18, 19, 20, 21, 22, 23, 24, 25, 26, 27, 28, 29, 30, 31, 32, 33] rfl (by decide +kernel)) (bs2_in _ _))) rfl rfl rfl (by decide +kernel) ⟨(Nat.le_of_ble_eq_true rfl), (Nat.le_of_ble_eq_true rfl)⟩) ⟨fun a U g mk q => by obtain ⟨q0, q1, qK, qE⟩ := q; exact ⟨q0, q1, va_K.moved (u := U) (U := U.calling g mk a) (Vm.Alike.refl U.vm) qK, EVC.blind g mk a qE⟩, fun U hU hW => ⟨rfl, hU, va_K.moved hW.alike hK, hE.call hS hFc hU hW⟩⟩ rfl rfl hl.1 rfl (lv_room (Nat.le_of_ble_eq_true rfl)) dX4_factThing_95 ⟨(Nat.le_of_ble_eq_true rfl), (Nat.le_of_ble_eq_true rfl)⟩) hS (fun q _ h => hFc q h) hFc (fun r43 u t H locs ht hvm hw44 hB _ _ hS => ?_)
              obtain ⟨hT, hF1⟩ := hB
              rw [ht] at hT hF1
              have m45 := m38.kept (hF1.arr hr_tx skc_16 (by decide))
              have hF := hF.more hF1 (by decide)
              try dsimp only at hw44
              obtain ⟨h46, hf47⟩ := hw44
              refine lv_if_eq (tgt := 106) hx hb dX4_factThing_98 (by decide) (fun c48 => ?_) (fun c48 => ?_)
              · have t49 : r43.toInt = 0 := ti_eq c48 rfl (by decide)
                refine va_ldcS hx hb hown hE.1.s36 dX4_factThing_106 ?_
                refine lv_aload_n hx hb dX4_factThing_108 rfl (lv_at hl 0 rfl) ?_
                refine lv_iload_n hx hb dX4_factThing_109 rfl (lv_at hl 1 rfl) ?_
                refine lv_iload_n hx hb dX4_factThing_110 rfl (lv_at hl 2 rfl) ?_
                have hFc := gA_free hG hA hS
                refine va_calli (va_runS (As := [.ref (adK 36), .ref tx, .int fr, .int en]) (rest := []) ⟨hx, hb, hml, hown, hts⟩ (c_wordIs l dC dI kA adK adV G H nC nS tx fr en vc 36 hT hr_tx (by have q8 := ti_all fr; omega) (by have q8 := ti_all en; omega) (by have := (show fr.toInt = fr.toInt from rfl); have := (show en.toInt = en.toInt from rfl); omega) (by first | omega | decide) m45 (by omega) (by omega)) (va_cwS 4 hts (goodIn_app (goodIn_r _ [34, 35, 36] rfl (by decide +kernel)) (goodIn_ca (goodIn_r _ [1, 2, 3, 4, 5, 6, 7, 8, 9, 10, 11, 12, 13, 14, 15, 16, 17, 18, 19, 20, 21, 22, 23, 24, 25, 26, 27, 28, 29, 30, 31, 32, 33] rfl (by decide +kernel)) (bs2_in _ _))) rfl rfl rfl (by decide +kernel) ⟨(Nat.le_of_ble_eq_true rfl), (Nat.le_of_ble_eq_true rfl)⟩) ⟨fun a U g mk q => by obtain ⟨q0, q1, qK, qE⟩ := q; exact ⟨q0, q1, va_K.moved (u := U) (U := U.calling g mk a) (Vm.Alike.refl U.vm) qK, EVC.blind g mk a qE⟩, fun U hU hW => ⟨rfl, hU, va_K.moved hW.alike hK, hE.call hS hFc hU hW⟩⟩ rfl rfl hl.1 rfl (lv_room (Nat.le_of_ble_eq_true rfl)) dX4_factThing_111 ⟨(Nat.le_of_ble_eq_true rfl), (Nat.le_of_ble_eq_true rfl)⟩) hS (fun q _ h => hFc q h) hFc (fun r50 u t H locs ht hvm hw51 hB _ _ hS => ?_)
                obtain ⟨hT, hF1⟩ := hB
                rw [ht] at hT hF1
                have m52 := m45.kept (hF1.arr hr_tx skc_16 (by decide))
                have hF := hF.more hF1 (by decide)
                try dsimp only at hw51
                obtain ⟨h53, hf54⟩ := hw51
                refine lv_if_eq (tgt := 122) hx hb dX4_factThing_114 (by decide) (fun c55 => ?_) (fun c55 => ?_)
                · have t56 : r50.toInt = 0 := ti_eq c55 rfl (by decide)
                  refine va_ldcS hx hb hown hE.1.s37 dX4_factThing_122 ?_
                  refine lv_aload_n hx hb dX4_factThing_124 rfl (lv_at hl 0 rfl) ?_
                  refine lv_iload_n hx hb dX4_factThing_125 rfl (lv_at hl 1 rfl) ?_
                  refine lv_iload_n hx hb dX4_factThing_126 rfl (lv_at hl 2 rfl) ?_
                  have hFc := gA_free hG hA hS
                  refine va_calli (va_runS (As := [.ref (adK 37), .ref tx, .int fr, .int en]) (rest := []) ⟨hx, hb, hml, hown, hts⟩ (c_wordIs l dC dI kA adK adV G H nC nS tx fr en vc 37 hT hr_tx (by have q8 := ti_all fr; omega) (by have q8 := ti_all en; omega) (by have := (show fr.toInt = fr.toInt from rfl); have := (show en.toInt = en.toInt from rfl); omega) (by first | omega | decide) m52 (by omega) (by omega)) (va_cwS 4 hts (goodIn_app (goodIn_r _ [34, 35, 36] rfl (by decide +kernel)) (goodIn_ca (goodIn_r _ [1, 2, 3, 4, 5, 6, 7, 8, 9, 10, 11, 12, 13, 14, 15, 16, 17, 18, 19, 20, 21, 22, 23, 24, 25, 26, 27, 28, 29, 30, 31, 32, 33] rfl (by decide +kernel)) (bs2_in _ _))) rfl rfl rfl (by decide +kernel) ⟨(Nat.le_of_ble_eq_true rfl), (Nat.le_of_ble_eq_true rfl)⟩) ⟨fun a U g mk q => by obtain ⟨q0, q1, qK, qE⟩ := q; exact ⟨q0, q1, va_K.moved (u := U) (U := U.calling g mk a) (Vm.Alike.refl U.vm) qK, EVC.blind g mk a qE⟩, fun U hU hW => ⟨rfl, hU, va_K.moved hW.alike hK, hE.call hS hFc hU hW⟩⟩ rfl rfl hl.1 rfl (lv_room (Nat.le_of_ble_eq_true rfl)) dX4_factThing_127 ⟨(Nat.le_of_ble_eq_true rfl), (Nat.le_of_ble_eq_true rfl)⟩) hS (fun q _ h => hFc q h) hFc (fun r57 u t H locs ht hvm hw58 hB _ _ hS => ?_)
                  obtain ⟨hT, hF1⟩ := hB
                  rw [ht] at hT hF1
                  have m59 := m52.kept (hF1.arr hr_tx skc_16 (by decide))
                  have hF := hF.more hF1 (by decide)
                  try dsimp only at hw58
                  obtain ⟨h60, hf61⟩ := hw58
                  refine lv_if_eq (tgt := 138) hx hb dX4_factThing_130 (by decide) (fun c62 => ?_) (fun c62 => ?_)
                  · have t63 : r57.toInt = 0 := ti_eq c62 rfl (by decide)
                    refine va_ldcS hx hb hown hE.1.s38 dX4_factThing_138 ?_
                    refine lv_aload_n hx hb dX4_factThing_140 rfl (lv_at hl 0 rfl) ?_
                    refine lv_iload_n hx hb dX4_factThing_141 rfl (lv_at hl 1 rfl) ?_
                    refine lv_iload_n hx hb dX4_factThing_142 rfl (lv_at hl 2 rfl) ?_
                    have hFc := gA_free hG hA hS
                    refine va_calli (va_runS (As := [.ref (adK 38), .ref tx, .int fr, .int en]) (rest := []) ⟨hx, hb, hml, hown, hts⟩ (c_wordIs l dC dI kA adK adV G H nC nS tx fr en vc 38 hT hr_tx (by have q8 := ti_all fr; omega) (by have q8 := ti_all en; omega) (by have := (show fr.toInt = fr.toInt from rfl); have := (show en.toInt = en.toInt from rfl); omega) (by first | omega | decide) m59 (by omega) (by omega)) (va_cwS 4 hts (goodIn_app (goodIn_r _ [34, 35, 36] rfl (by decide +kernel)) (goodIn_ca (goodIn_r _ [1, 2, 3, 4, 5, 6, 7, 8, 9, 10, 11, 12, 13, 14, 15, 16, 17, 18, 19, 20, 21, 22, 23, 24, 25, 26, 27, 28, 29, 30, 31, 32, 33] rfl (by decide +kernel)) (bs2_in _ _))) rfl rfl rfl (by decide +kernel) ⟨(Nat.le_of_ble_eq_true rfl), (Nat.le_of_ble_eq_true rfl)⟩) ⟨fun a U g mk q => by obtain ⟨q0, q1, qK, qE⟩ := q; exact ⟨q0, q1, va_K.moved (u := U) (U := U.calling g mk a) (Vm.Alike.refl U.vm) qK, EVC.blind g mk a qE⟩, fun U hU hW => ⟨rfl, hU, va_K.moved hW.alike hK, hE.call hS hFc hU hW⟩⟩ rfl rfl hl.1 rfl (lv_room (Nat.le_of_ble_eq_true rfl)) dX4_factThing_143 ⟨(Nat.le_of_ble_eq_true rfl), (Nat.le_of_ble_eq_true rfl)⟩) hS (fun q _ h => hFc q h) hFc (fun r64 u t H locs ht hvm hw65 hB _ _ hS => ?_)
                    obtain ⟨hT, hF1⟩ := hB
                    rw [ht] at hT hF1
                    have hF := hF.more hF1 (by decide)
                    try dsimp only at hw65
                    obtain ⟨h67, hf68⟩ := hw65
                    refine lv_if_eq (tgt := 154) hx hb dX4_factThing_146 (by decide) (fun c69 => ?_) (fun c69 => ?_)
                    · have t70 : r64.toInt = 0 := ti_eq c69 rfl (by decide)
                      refine lv_iconst (v := (-1)) hx hb dX4_factThing_154 (by decide) ?_
                      exact W.iret (v := (-1)) hx hb hr (fun t ht hW => ⟨⟨(-1), (), rfl, (by exact ⟨(rg_t (a := (-1)) (by decide) (by first | decide | omega) (by first | decide | omega)), (Or.inl ⟨by decide, fun i h9 h8 => by rcases (show i = 29 ∨ i = 30 ∨ i = 31 ∨ i = 32 ∨ i = 33 ∨ i = 34 ∨ i = 35 ∨ i = 36 ∨ i = 37 ∨ i = 38 by omega) with rfl | rfl | rfl | rfl | rfl | rfl | rfl | rfl | rfl | rfl; (exact (hf5.resolve_left (fun h8 => by have := h8.1; omega)).2); (exact (hf12.resolve_left (fun h8 => by have := h8.1; omega)).2); (exact (hf19.resolve_left (fun h8 => by have := h8.1; omega)).2); (exact (hf26.resolve_left (fun h8 => by have := h8.1; omega)).2); (exact (hf33.resolve_left (fun h8 => by have := h8.1; omega)).2); (exact (hf40.resolve_left (fun h8 => by have := h8.1; omega)).2); (exact (hf47.resolve_left (fun h8 => by have := h8.1; omega)).2); (exact (hf54.resolve_left (fun h8 => by have := h8.1; omega)).2); (exact (hf61.resolve_left (fun h8 => by have := h8.1; omega)).2); exact (hf68.resolve_left (fun h8 => by have := h8.1; omega)).2⟩)⟩), by (try dsimp only); rw [ht]; exact ⟨hT, hF⟩⟩, hS.F ht⟩) hS.2.2 dX4_factThing_155
                    · have t71 : r64.toInt ≠ 0 := ti_ne c69 rfl (by decide)
                      refine lv_bipush (v := 9) hx hb dX4_factThing_149 (by decide) ?_
                      refine lv_goto (tgt := 155) hx hb dX4_factThing_151 (by decide) ?_
                      exact W.iret (v := 9) hx hb hr (fun t ht hW => ⟨⟨9, (), rfl, (by exact ⟨(rg_t (a := 9) (by decide) (by first | decide | omega) (by first | decide | omega)), (Or.inr ⟨38, by decide, (hf68.resolve_right (fun h8 => by have := h8.1; omega)).2, by decide⟩)⟩), by (try dsimp only); rw [ht]; exact ⟨hT, hF⟩⟩, hS.F ht⟩) hS.2.2 dX4_factThing_155
                  · have t72 : r57.toInt ≠ 0 := ti_ne c62 rfl (by decide)
                    refine lv_bipush (v := 8) hx hb dX4_factThing_133 (by decide) ?_
                    refine lv_goto (tgt := 155) hx hb dX4_factThing_135 (by decide) ?_
                    exact W.iret (v := 8) hx hb hr (fun t ht hW => ⟨⟨8, (), rfl, (by exact ⟨(rg_t (a := 8) (by decide) (by first | decide | omega) (by first | decide | omega)), (Or.inr ⟨37, by decide, (hf61.resolve_right (fun h8 => by have := h8.1; omega)).2, by decide⟩)⟩), by (try dsimp only); rw [ht]; exact ⟨hT, hF⟩⟩, hS.F ht⟩) hS.2.2 dX4_factThing_155
                · have t73 : r50.toInt ≠ 0 := ti_ne c55 rfl (by decide)
                  refine lv_bipush (v := 7) hx hb dX4_factThing_117 (by decide) ?_
                  refine lv_goto (tgt := 155) hx hb dX4_factThing_119 (by decide) ?_
                  exact W.iret (v := 7) hx hb hr (fun t ht hW => ⟨⟨7, (), rfl, (by exact ⟨(rg_t (a := 7) (by decide) (by first | decide | omega) (by first | decide | omega)), (Or.inr ⟨36, by decide, (hf54.resolve_right (fun h8 => by have := h8.1; omega)).2, by decide⟩)⟩), by (try dsimp only); rw [ht]; exact ⟨hT, hF⟩⟩, hS.F ht⟩) hS.2.2 dX4_factThing_155
              · have t74 : r43.toInt ≠ 0 := ti_ne c48 rfl (by decide)
                refine lv_bipush (v := 6) hx hb dX4_factThing_101 (by decide) ?_
                refine lv_goto (tgt := 155) hx hb dX4_factThing_103 (by decide) ?_
                exact W.iret (v := 6) hx hb hr (fun t ht hW => ⟨⟨6, (), rfl, (by exact ⟨(rg_t (a := 6) (by decide) (by first | decide | omega) (by first | decide | omega)), (Or.inr ⟨35, by decide, (hf47.resolve_right (fun h8 => by have := h8.1; omega)).2, by decide⟩)⟩), by (try dsimp only); rw [ht]; exact ⟨hT, hF⟩⟩, hS.F ht⟩) hS.2.2 dX4_factThing_155
            · have t75 : r36.toInt ≠ 0 := ti_ne c41 rfl (by decide)
              refine lv_iconst (v := 5) hx hb dX4_factThing_86 (by decide) ?_
              refine lv_goto (tgt := 155) hx hb dX4_factThing_87 (by decide) ?_
              exact W.iret (v := 5) hx hb hr (fun t ht hW => ⟨⟨5, (), rfl, (by exact ⟨(rg_t (a := 5) (by decide) (by first | decide | omega) (by first | decide | omega)), (Or.inr ⟨34, by decide, (hf40.resolve_right (fun h8 => by have := h8.1; omega)).2, by decide⟩)⟩), by (try dsimp only); rw [ht]; exact ⟨hT, hF⟩⟩, hS.F ht⟩) hS.2.2 dX4_factThing_155
          · have t76 : r29.toInt ≠ 0 := ti_ne c34 rfl (by decide)
            refine lv_iconst (v := 4) hx hb dX4_factThing_71 (by decide) ?_
            refine lv_goto (tgt := 155) hx hb dX4_factThing_72 (by decide) ?_
            exact W.iret (v := 4) hx hb hr (fun t ht hW => ⟨⟨4, (), rfl, (by exact ⟨(rg_t (a := 4) (by decide) (by first | decide | omega) (by first | decide | omega)), (Or.inr ⟨33, by decide, (hf33.resolve_right (fun h8 => by have := h8.1; omega)).2, by decide⟩)⟩), by (try dsimp only); rw [ht]; exact ⟨hT, hF⟩⟩, hS.F ht⟩) hS.2.2 dX4_factThing_155
        · have t77 : r22.toInt ≠ 0 := ti_ne c27 rfl (by decide)
          refine lv_iconst (v := 3) hx hb dX4_factThing_56 (by decide) ?_
          refine lv_goto (tgt := 155) hx hb dX4_factThing_57 (by decide) ?_
          exact W.iret (v := 3) hx hb hr (fun t ht hW => ⟨⟨3, (), rfl, (by exact ⟨(rg_t (a := 3) (by decide) (by first | decide | omega) (by first | decide | omega)), (Or.inr ⟨32, by decide, (hf26.resolve_right (fun h8 => by have := h8.1; omega)).2, by decide⟩)⟩), by (try dsimp only); rw [ht]; exact ⟨hT, hF⟩⟩, hS.F ht⟩) hS.2.2 dX4_factThing_155
      · have t78 : r15.toInt ≠ 0 := ti_ne c20 rfl (by decide)
        refine lv_iconst (v := 2) hx hb dX4_factThing_41 (by decide) ?_
        refine lv_goto (tgt := 155) hx hb dX4_factThing_42 (by decide) ?_
        exact W.iret (v := 2) hx hb hr (fun t ht hW => ⟨⟨2, (), rfl, (by exact ⟨(rg_t (a := 2) (by decide) (by first | decide | omega) (by first | decide | omega)), (Or.inr ⟨31, by decide, (hf19.resolve_right (fun h8 => by have := h8.1; omega)).2, by decide⟩)⟩), by (try dsimp only); rw [ht]; exact ⟨hT, hF⟩⟩, hS.F ht⟩) hS.2.2 dX4_factThing_155
    · have t79 : r8.toInt ≠ 0 := ti_ne c13 rfl (by decide)
      refine lv_iconst (v := 1) hx hb dX4_factThing_26 (by decide) ?_
      refine lv_goto (tgt := 155) hx hb dX4_factThing_27 (by decide) ?_
      exact W.iret (v := 1) hx hb hr (fun t ht hW => ⟨⟨1, (), rfl, (by exact ⟨(rg_t (a := 1) (by decide) (by first | decide | omega) (by first | decide | omega)), (Or.inr ⟨30, by decide, (hf12.resolve_right (fun h8 => by have := h8.1; omega)).2, by decide⟩)⟩), by (try dsimp only); rw [ht]; exact ⟨hT, hF⟩⟩, hS.F ht⟩) hS.2.2 dX4_factThing_155
  · have t80 : r1.toInt ≠ 0 := ti_ne c6 rfl (by decide)
    refine lv_iconst (v := 0) hx hb dX4_factThing_11 (by decide) ?_
    refine lv_goto (tgt := 155) hx hb dX4_factThing_12 (by decide) ?_
    exact W.iret (v := 0) hx hb hr (fun t ht hW => ⟨⟨0, (), rfl, (by exact ⟨(rg_t (a := 0) (by decide) (by first | decide | omega) (by first | decide | omega)), (Or.inr ⟨29, by decide, (hf5.resolve_right (fun h8 => by have := h8.1; omega)).2, by decide⟩)⟩), by (try dsimp only); rw [ht]; exact ⟨hT, hF⟩⟩, hS.F ht⟩) hS.2.2 dX4_factThing_155
def w_c_lineThing : List Cond := .code yX4_lineThing cX4_lineThing 4 (some .int) :: (HAppend.hAppend (α := List Cond) (β := List Cond) (γ := List Cond) [.code yX4_wordIs cX4_wordIs 5 (some .boolean), .code yJ0_length_8abf5 cJ0_length_8abf5 1 (some .int), .fieldLink RJ0 9 "java/lang/String" "value" "[B", .code yJ0_coder_7d493 cJ0_coder_7d493 1 (some .byte), .fieldLink RJ0 38 "java/lang/String" "COMPACT_STRINGS" "Z", .fieldLink RJ0 15 "java/lang/String" "coder" "B", .methodLink RJ0 335 yJ0_coder_7d493, .instanceMethod yJ0_coder_7d493, .selects RJ0 yJ0_coder_7d493 yJ0_coder_7d493, .initialized RJ0, .methodLink RX4 155 yJ0_length_8abf5, .instanceMethod yJ0_length_8abf5, .selects RJ0 yJ0_length_8abf5 yJ0_length_8abf5, .code yJ0_charAt_5068e cJ0_charAt_5068e 2 (some .char), .code yJ0_isLatin1_aae02 cJ0_isLatin1_aae02 1 (some .boolean), .methodLink RJ0 492 yJ0_isLatin1_aae02, .instanceMethod yJ0_isLatin1_aae02, .selects RJ0 yJ0_isLatin1_aae02 yJ0_isLatin1_aae02, .code yJ1_charAt_3b067 cJ1_charAt_3b067 2 (some .char), .code yJ0_checkIndex_df160 cJ0_checkIndex_df160 2 none, .fieldLink RJ0 1053 "jdk/internal/util/Preconditions" "SIOOBE_FORMATTER" "Ljava/util/function/BiFunction;", .code yJ3_checkIndex_8e157 cJ3_checkIndex_8e157 3 (some .int), .methodLink RJ0 1059 yJ3_checkIndex_8e157, .static yJ3_checkIndex_8e157, .initialized RJ3, .methodLink RJ1 9 yJ0_checkIndex_df160, .static yJ0_checkIndex_df160, .methodLink RJ0 495 yJ1_charAt_3b067, .static yJ1_charAt_3b067, .initialized RJ1, .methodLink RX4 161 yJ0_charAt_5068e, .instanceMethod yJ0_charAt_5068e, .selects RJ0 yJ0_charAt_5068e yJ0_charAt_5068e, .methodLink RX4 105 yX4_wordIs, .static yX4_wordIs, .initialized RX4] bs2)
set_option maxHeartbeats 4000000 in
set_option maxRecDepth 100000 in
theorem c_lineThing (l : Launch) (dC : Nat → ClassId) (dI : Nat → Nat → Nat) (kA : Nat → ClassId) (adK adV : Nat → Nat) (G : gT) (H0 : Heap) (nC nS : Int) (tx : Nat) (fr : Int32) (en : Int32) (vc : Nat → Int32)  (hT : gH (dC, dI) kA (SHc nC nS) G H0) (hr_tx : G tx = some 16) (hq0 : 0 ≤ fr.toInt ∧ fr.toInt ≤ 399) (hq1 : 0 ≤ en.toInt ∧ en.toInt ≤ 400) (hfe : fr.toInt < en.toInt) (hc_vc : ct H0 tx 400 vc) (hgC : 0 ≤ nC ∧ nC ≤ 40) (hgS : 0 ≤ nS ∧ nS ≤ 60) : Met l yX4_lineThing w_c_lineThing ({ frames := 5, cells := 0, slots := 0, locals := 109 }) (va_Pc [.ref tx, .int fr, .int en] (fun U => U.heap = H0 ∧ va_K (dC, dI) vwCl (tyl kA) U ∧ EVC adK adV (gA G H0.size) U U.heap)) (va_Qi (fun (r : Int32) (u : Unit) => (-1 ≤ r.toInt ∧ r.toInt ≤ 39) ∧ ((r.toInt = -1 ∧ ∀ i : Nat, 39 ≤ i → i < 48 → ¬ wd (sW i) (tc vc) fr.toNatClampNeg en.toNatClampNeg) ∨ ∃ i : Nat, (39 ≤ i ∧ i < 48) ∧ wd (sW i) (tc vc) fr.toNatClampNeg en.toNatClampNeg ∧ r.toInt = sC i)) (fun (_ : Unit) (t : State) => gH (dC, dI) kA (SHc nC nS) G t.heap ∧ gF (dC, dI) SKc G ([] : List (Nat × Nat)) H0 t.heap) (gA G H0.size)) 0 0 (gA G H0.size) := by
  refine Met.ofW (cc := cX4_lineThing) (maxL := 4) (ret := (some .int)) (by decide) rfl ?_
  intro p e s m args below meth c s₁ B hml hv
  obtain ⟨rfl, hH0, hK, hE⟩ := hv
  have hx := B.exec
  have hb := B.bytes
  have hr := B.returns
  have hts := atoms_spec (ws := w_c_lineThing) B.pre
  have hown : s.vm.findClass RX4 = some m.cls := findClass_of_methodNamed B.named
  have hlocks := B.notSynchronized
  subst hH0
  generalize hAe : gA G s.heap.size = A at hE ⊢
  have hA : ∀ q : Nat, s.heap.size ≤ q → A q := fun q h => by rw [← hAe]; exact Or.inr h
  have hG := gA_of hAe
  have hS : va_S A s.heap s.heap [] := va_S.rf
  have hF : gF (dC, dI) SKc G ([] : List (Nat × Nat)) s.heap s.heap := gF.rf
  have hl := lv_entry ([.ref tx, .int fr, .int en]) (n := 4) (Nat.le_of_ble_eq_true rfl)
  rw [lg_entry_eq]
  generalize (lg_sl ([.ref tx, .int fr, .int en]) ++ List.replicate (4 - (lg_sl ([.ref tx, .int fr, .int en])).length) Slot.unset).toArray = ls at hl ⊢
  have hl : lv_has ls 4 [(0, .ref tx), (1, .int fr), (2, .int en)] := hl
  refine va_ldcS hx hb hown hE.1.s39 dX4_lineThing_0 ?_
  refine lv_aload_n hx hb dX4_lineThing_2 rfl (lv_at hl 0 rfl) ?_
  refine lv_iload_n hx hb dX4_lineThing_3 rfl (lv_at hl 1 rfl) ?_
  refine lv_iload_n hx hb dX4_lineThing_4 rfl (lv_at hl 2 rfl) ?_
  have hFc := gA_free hG hA hS
  refine va_calli (va_runS (As := [.ref (adK 39), .ref tx, .int fr, .int en]) (rest := []) ⟨hx, hb, hml, hown, hts⟩ (c_wordIs l dC dI kA adK adV G s.heap nC nS tx fr en vc 39 hT hr_tx (by have q8 := ti_all fr; omega) (by have q8 := ti_all en; omega) (by have := (show fr.toInt = fr.toInt from rfl); have := (show en.toInt = en.toInt from rfl); omega) (by first | omega | decide) hc_vc (by omega) (by omega)) (va_cwS 4 hts (goodIn_app (goodIn_r _ [34, 35, 36] rfl (by decide +kernel)) (goodIn_ca (goodIn_r _ [1, 2, 3, 4, 5, 6, 7, 8, 9, 10, 11, 12, 13, 14, 15, 16, 17, 18, 19, 20, 21, 22, 23, 24, 25, 26, 27, 28, 29, 30, 31, 32, 33] rfl (by decide +kernel)) (bs2_in _ _))) rfl rfl rfl (by decide +kernel) ⟨(Nat.le_of_ble_eq_true rfl), (Nat.le_of_ble_eq_true rfl)⟩) ⟨fun a U g mk q => by obtain ⟨q0, q1, qK, qE⟩ := q; exact ⟨q0, q1, va_K.moved (u := U) (U := U.calling g mk a) (Vm.Alike.refl U.vm) qK, EVC.blind g mk a qE⟩, fun U hU hW => ⟨rfl, hU, va_K.moved hW.alike hK, hE.call hS hFc hU hW⟩⟩ rfl rfl hl.1 rfl (lv_room (Nat.le_of_ble_eq_true rfl)) dX4_lineThing_5 ⟨(Nat.le_of_ble_eq_true rfl), (Nat.le_of_ble_eq_true rfl)⟩) hS (fun q _ h => hFc q h) hFc (fun r1 u t H locs ht hvm hw2 hB _ _ hS => ?_)
  obtain ⟨hT, hF1⟩ := hB
  rw [ht] at hT hF1
  have m3 := hc_vc.kept (hF1.arr hr_tx skc_16 (by decide))
  have hF := hF.more hF1 (by decide)
  try dsimp only at hw2
  obtain ⟨h4, hf5⟩ := hw2
  refine lv_if_eq (tgt := 15) hx hb dX4_lineThing_8 (by decide) (fun c6 => ?_) (fun c6 => ?_)
  · have t7 : r1.toInt = 0 := ti_eq c6 rfl (by decide)
    refine va_ldcS hx hb hown hE.1.s40 dX4_lineThing_15 ?_
    refine lv_aload_n hx hb dX4_lineThing_17 rfl (lv_at hl 0 rfl) ?_
    refine lv_iload_n hx hb dX4_lineThing_18 rfl (lv_at hl 1 rfl) ?_
    refine lv_iload_n hx hb dX4_lineThing_19 rfl (lv_at hl 2 rfl) ?_
    have hFc := gA_free hG hA hS
    refine va_calli (va_runS (As := [.ref (adK 40), .ref tx, .int fr, .int en]) (rest := []) ⟨hx, hb, hml, hown, hts⟩ (c_wordIs l dC dI kA adK adV G H nC nS tx fr en vc 40 hT hr_tx (by have q8 := ti_all fr; omega) (by have q8 := ti_all en; omega) (by have := (show fr.toInt = fr.toInt from rfl); have := (show en.toInt = en.toInt from rfl); omega) (by first | omega | decide) m3 (by omega) (by omega)) (va_cwS 4 hts (goodIn_app (goodIn_r _ [34, 35, 36] rfl (by decide +kernel)) (goodIn_ca (goodIn_r _ [1, 2, 3, 4, 5, 6, 7, 8, 9, 10, 11, 12, 13, 14, 15, 16, 17, 18, 19, 20, 21, 22, 23, 24, 25, 26, 27, 28, 29, 30, 31, 32, 33] rfl (by decide +kernel)) (bs2_in _ _))) rfl rfl rfl (by decide +kernel) ⟨(Nat.le_of_ble_eq_true rfl), (Nat.le_of_ble_eq_true rfl)⟩) ⟨fun a U g mk q => by obtain ⟨q0, q1, qK, qE⟩ := q; exact ⟨q0, q1, va_K.moved (u := U) (U := U.calling g mk a) (Vm.Alike.refl U.vm) qK, EVC.blind g mk a qE⟩, fun U hU hW => ⟨rfl, hU, va_K.moved hW.alike hK, hE.call hS hFc hU hW⟩⟩ rfl rfl hl.1 rfl (lv_room (Nat.le_of_ble_eq_true rfl)) dX4_lineThing_20 ⟨(Nat.le_of_ble_eq_true rfl), (Nat.le_of_ble_eq_true rfl)⟩) hS (fun q _ h => hFc q h) hFc (fun r8 u t H locs ht hvm hw9 hB _ _ hS => ?_)
    obtain ⟨hT, hF1⟩ := hB
    rw [ht] at hT hF1
    have m10 := m3.kept (hF1.arr hr_tx skc_16 (by decide))
    have hF := hF.more hF1 (by decide)
    try dsimp only at hw9
    obtain ⟨h11, hf12⟩ := hw9
    refine lv_if_eq (tgt := 30) hx hb dX4_lineThing_23 (by decide) (fun c13 => ?_) (fun c13 => ?_)
    · have t14 : r8.toInt = 0 := ti_eq c13 rfl (by decide)
      refine va_ldcS hx hb hown hE.1.s41 dX4_lineThing_30 ?_
      refine lv_aload_n hx hb dX4_lineThing_32 rfl (lv_at hl 0 rfl) ?_
      refine lv_iload_n hx hb dX4_lineThing_33 rfl (lv_at hl 1 rfl) ?_
      refine lv_iload_n hx hb dX4_lineThing_34 rfl (lv_at hl 2 rfl) ?_
      have hFc := gA_free hG hA hS
      refine va_calli (va_runS (As := [.ref (adK 41), .ref tx, .int fr, .int en]) (rest := []) ⟨hx, hb, hml, hown, hts⟩ (c_wordIs l dC dI kA adK adV G H nC nS tx fr en vc 41 hT hr_tx (by have q8 := ti_all fr; omega) (by have q8 := ti_all en; omega) (by have := (show fr.toInt = fr.toInt from rfl); have := (show en.toInt = en.toInt from rfl); omega) (by first | omega | decide) m10 (by omega) (by omega)) (va_cwS 4 hts (goodIn_app (goodIn_r _ [34, 35, 36] rfl (by decide +kernel)) (goodIn_ca (goodIn_r _ [1, 2, 3, 4, 5, 6, 7, 8, 9, 10, 11, 12, 13, 14, 15, 16, 17, 18, 19, 20, 21, 22, 23, 24, 25, 26, 27, 28, 29, 30, 31, 32, 33] rfl (by decide +kernel)) (bs2_in _ _))) rfl rfl rfl (by decide +kernel) ⟨(Nat.le_of_ble_eq_true rfl), (Nat.le_of_ble_eq_true rfl)⟩) ⟨fun a U g mk q => by obtain ⟨q0, q1, qK, qE⟩ := q; exact ⟨q0, q1, va_K.moved (u := U) (U := U.calling g mk a) (Vm.Alike.refl U.vm) qK, EVC.blind g mk a qE⟩, fun U hU hW => ⟨rfl, hU, va_K.moved hW.alike hK, hE.call hS hFc hU hW⟩⟩ rfl rfl hl.1 rfl (lv_room (Nat.le_of_ble_eq_true rfl)) dX4_lineThing_35 ⟨(Nat.le_of_ble_eq_true rfl), (Nat.le_of_ble_eq_true rfl)⟩) hS (fun q _ h => hFc q h) hFc (fun r15 u t H locs ht hvm hw16 hB _ _ hS => ?_)
      obtain ⟨hT, hF1⟩ := hB
      rw [ht] at hT hF1
      have m17 := m10.kept (hF1.arr hr_tx skc_16 (by decide))
      have hF := hF.more hF1 (by decide)
      try dsimp only at hw16
      obtain ⟨h18, hf19⟩ := hw16
      refine lv_if_eq (tgt := 45) hx hb dX4_lineThing_38 (by decide) (fun c20 => ?_) (fun c20 => ?_)
      · have t21 : r15.toInt = 0 := ti_eq c20 rfl (by decide)
        refine va_ldcS hx hb hown hE.1.s42 dX4_lineThing_45 ?_
        refine lv_aload_n hx hb dX4_lineThing_47 rfl (lv_at hl 0 rfl) ?_
        refine lv_iload_n hx hb dX4_lineThing_48 rfl (lv_at hl 1 rfl) ?_
        refine lv_iload_n hx hb dX4_lineThing_49 rfl (lv_at hl 2 rfl) ?_
        have hFc := gA_free hG hA hS
        refine va_calli (va_runS (As := [.ref (adK 42), .ref tx, .int fr, .int en]) (rest := []) ⟨hx, hb, hml, hown, hts⟩ (c_wordIs l dC dI kA adK adV G H nC nS tx fr en vc 42 hT hr_tx (by have q8 := ti_all fr; omega) (by have q8 := ti_all en; omega) (by have := (show fr.toInt = fr.toInt from rfl); have := (show en.toInt = en.toInt from rfl); omega) (by first | omega | decide) m17 (by omega) (by omega)) (va_cwS 4 hts (goodIn_app (goodIn_r _ [34, 35, 36] rfl (by decide +kernel)) (goodIn_ca (goodIn_r _ [1, 2, 3, 4, 5, 6, 7, 8, 9, 10, 11, 12, 13, 14, 15, 16, 17, 18, 19, 20, 21, 22, 23, 24, 25, 26, 27, 28, 29, 30, 31, 32, 33] rfl (by decide +kernel)) (bs2_in _ _))) rfl rfl rfl (by decide +kernel) ⟨(Nat.le_of_ble_eq_true rfl), (Nat.le_of_ble_eq_true rfl)⟩) ⟨fun a U g mk q => by obtain ⟨q0, q1, qK, qE⟩ := q; exact ⟨q0, q1, va_K.moved (u := U) (U := U.calling g mk a) (Vm.Alike.refl U.vm) qK, EVC.blind g mk a qE⟩, fun U hU hW => ⟨rfl, hU, va_K.moved hW.alike hK, hE.call hS hFc hU hW⟩⟩ rfl rfl hl.1 rfl (lv_room (Nat.le_of_ble_eq_true rfl)) dX4_lineThing_50 ⟨(Nat.le_of_ble_eq_true rfl), (Nat.le_of_ble_eq_true rfl)⟩) hS (fun q _ h => hFc q h) hFc (fun r22 u t H locs ht hvm hw23 hB _ _ hS => ?_)
        obtain ⟨hT, hF1⟩ := hB
        rw [ht] at hT hF1
        have m24 := m17.kept (hF1.arr hr_tx skc_16 (by decide))
        have hF := hF.more hF1 (by decide)
        try dsimp only at hw23
        obtain ⟨h25, hf26⟩ := hw23
        refine lv_if_eq (tgt := 60) hx hb dX4_lineThing_53 (by decide) (fun c27 => ?_) (fun c27 => ?_)
        · have t28 : r22.toInt = 0 := ti_eq c27 rfl (by decide)
          refine va_ldcS hx hb hown hE.1.s43 dX4_lineThing_60 ?_
          refine lv_aload_n hx hb dX4_lineThing_62 rfl (lv_at hl 0 rfl) ?_
          refine lv_iload_n hx hb dX4_lineThing_63 rfl (lv_at hl 1 rfl) ?_
          refine lv_iload_n hx hb dX4_lineThing_64 rfl (lv_at hl 2 rfl) ?_
          have hFc := gA_free hG hA hS
          refine va_calli (va_runS (As := [.ref (adK 43), .ref tx, .int fr, .int en]) (rest := []) ⟨hx, hb, hml, hown, hts⟩ (c_wordIs l dC dI kA adK adV G H nC nS tx fr en vc 43 hT hr_tx (by have q8 := ti_all fr; omega) (by have q8 := ti_all en; omega) (by have := (show fr.toInt = fr.toInt from rfl); have := (show en.toInt = en.toInt from rfl); omega) (by first | omega | decide) m24 (by omega) (by omega)) (va_cwS 4 hts (goodIn_app (goodIn_r _ [34, 35, 36] rfl (by decide +kernel)) (goodIn_ca (goodIn_r _ [1, 2, 3, 4, 5, 6, 7, 8, 9, 10, 11, 12, 13, 14, 15, 16, 17, 18, 19, 20, 21, 22, 23, 24, 25, 26, 27, 28, 29, 30, 31, 32, 33] rfl (by decide +kernel)) (bs2_in _ _))) rfl rfl rfl (by decide +kernel) ⟨(Nat.le_of_ble_eq_true rfl), (Nat.le_of_ble_eq_true rfl)⟩) ⟨fun a U g mk q => by obtain ⟨q0, q1, qK, qE⟩ := q; exact ⟨q0, q1, va_K.moved (u := U) (U := U.calling g mk a) (Vm.Alike.refl U.vm) qK, EVC.blind g mk a qE⟩, fun U hU hW => ⟨rfl, hU, va_K.moved hW.alike hK, hE.call hS hFc hU hW⟩⟩ rfl rfl hl.1 rfl (lv_room (Nat.le_of_ble_eq_true rfl)) dX4_lineThing_65 ⟨(Nat.le_of_ble_eq_true rfl), (Nat.le_of_ble_eq_true rfl)⟩) hS (fun q _ h => hFc q h) hFc (fun r29 u t H locs ht hvm hw30 hB _ _ hS => ?_)
          obtain ⟨hT, hF1⟩ := hB
          rw [ht] at hT hF1
          have m31 := m24.kept (hF1.arr hr_tx skc_16 (by decide))
          have hF := hF.more hF1 (by decide)
          try dsimp only at hw30
          obtain ⟨h32, hf33⟩ := hw30
          refine lv_if_eq (tgt := 75) hx hb dX4_lineThing_68 (by decide) (fun c34 => ?_) (fun c34 => ?_)
          · have t35 : r29.toInt = 0 := ti_eq c34 rfl (by decide)
            refine va_ldcS hx hb hown hE.1.s44 dX4_lineThing_75 ?_
            refine lv_aload_n hx hb dX4_lineThing_77 rfl (lv_at hl 0 rfl) ?_
            refine lv_iload_n hx hb dX4_lineThing_78 rfl (lv_at hl 1 rfl) ?_
            refine lv_iload_n hx hb dX4_lineThing_79 rfl (lv_at hl 2 rfl) ?_
            have hFc := gA_free hG hA hS
            refine va_calli (va_runS (As := [.ref (adK 44), .ref tx, .int fr, .int en]) (rest := []) ⟨hx, hb, hml, hown, hts⟩ (c_wordIs l dC dI kA adK adV G H nC nS tx fr en vc 44 hT hr_tx (by have q8 := ti_all fr; omega) (by have q8 := ti_all en; omega) (by have := (show fr.toInt = fr.toInt from rfl); have := (show en.toInt = en.toInt from rfl); omega) (by first | omega | decide) m31 (by omega) (by omega)) (va_cwS 4 hts (goodIn_app (goodIn_r _ [34, 35, 36] rfl (by decide +kernel)) (goodIn_ca (goodIn_r _ [1, 2, 3, 4, 5, 6, 7, 8, 9, 10, 11, 12, 13, 14, 15, 16, 17, 18, 19, 20, 21, 22, 23, 24, 25, 26, 27, 28, 29, 30, 31, 32, 33] rfl (by decide +kernel)) (bs2_in _ _))) rfl rfl rfl (by decide +kernel) ⟨(Nat.le_of_ble_eq_true rfl), (Nat.le_of_ble_eq_true rfl)⟩) ⟨fun a U g mk q => by obtain ⟨q0, q1, qK, qE⟩ := q; exact ⟨q0, q1, va_K.moved (u := U) (U := U.calling g mk a) (Vm.Alike.refl U.vm) qK, EVC.blind g mk a qE⟩, fun U hU hW => ⟨rfl, hU, va_K.moved hW.alike hK, hE.call hS hFc hU hW⟩⟩ rfl rfl hl.1 rfl (lv_room (Nat.le_of_ble_eq_true rfl)) dX4_lineThing_80 ⟨(Nat.le_of_ble_eq_true rfl), (Nat.le_of_ble_eq_true rfl)⟩) hS (fun q _ h => hFc q h) hFc (fun r36 u t H locs ht hvm hw37 hB _ _ hS => ?_)
            obtain ⟨hT, hF1⟩ := hB
            rw [ht] at hT hF1
            have m38 := m31.kept (hF1.arr hr_tx skc_16 (by decide))
            have hF := hF.more hF1 (by decide)
            try dsimp only at hw37
            obtain ⟨h39, hf40⟩ := hw37
            refine lv_if_eq (tgt := 91) hx hb dX4_lineThing_83 (by decide) (fun c41 => ?_) (fun c41 => ?_)
            · have t42 : r36.toInt = 0 := ti_eq c41 rfl (by decide)
              refine va_ldcS hx hb hown hE.1.s45 dX4_lineThing_91 ?_
              refine lv_aload_n hx hb dX4_lineThing_93 rfl (lv_at hl 0 rfl) ?_
              refine lv_iload_n hx hb dX4_lineThing_94 rfl (lv_at hl 1 rfl) ?_
              refine lv_iload_n hx hb dX4_lineThing_95 rfl (lv_at hl 2 rfl) ?_
              have hFc := gA_free hG hA hS
              refine va_calli (va_runS (As := [.ref (adK 45), .ref tx, .int fr, .int en]) (rest := []) ⟨hx, hb, hml, hown, hts⟩ (c_wordIs l dC dI kA adK adV G H nC nS tx fr en vc 45 hT hr_tx (by have q8 := ti_all fr; omega) (by have q8 := ti_all en; omega) (by have := (show fr.toInt = fr.toInt from rfl); have := (show en.toInt = en.toInt from rfl); omega) (by first | omega | decide) m38 (by omega) (by omega)) (va_cwS 4 hts (goodIn_app (goodIn_r _ [34, 35, 36] rfl (by decide +kernel)) (goodIn_ca (goodIn_r _ [1, 2, 3, 4, 5, 6, 7, 8, 9, 10, 11, 12, 13, 14, 15, 16, 17, 18, 19, 20, 21, 22, 23, 24, 25, 26, 27, 28, 29, 30, 31, 32, 33] rfl (by decide +kernel)) (bs2_in _ _))) rfl rfl rfl (by decide +kernel) ⟨(Nat.le_of_ble_eq_true rfl), (Nat.le_of_ble_eq_true rfl)⟩) ⟨fun a U g mk q => by obtain ⟨q0, q1, qK, qE⟩ := q; exact ⟨q0, q1, va_K.moved (u := U) (U := U.calling g mk a) (Vm.Alike.refl U.vm) qK, EVC.blind g mk a qE⟩, fun U hU hW => ⟨rfl, hU, va_K.moved hW.alike hK, hE.call hS hFc hU hW⟩⟩ rfl rfl hl.1 rfl (lv_room (Nat.le_of_ble_eq_true rfl)) dX4_lineThing_96 ⟨(Nat.le_of_ble_eq_true rfl), (Nat.le_of_ble_eq_true rfl)⟩) hS (fun q _ h => hFc q h) hFc (fun r43 u t H locs ht hvm hw44 hB _ _ hS => ?_)
              obtain ⟨hT, hF1⟩ := hB
              rw [ht] at hT hF1
              have m45 := m38.kept (hF1.arr hr_tx skc_16 (by decide))
              have hF := hF.more hF1 (by decide)
              try dsimp only at hw44
              obtain ⟨h46, hf47⟩ := hw44
              refine lv_if_eq (tgt := 107) hx hb dX4_lineThing_99 (by decide) (fun c48 => ?_) (fun c48 => ?_)
              · have t49 : r43.toInt = 0 := ti_eq c48 rfl (by decide)
                refine va_ldcS hx hb hown hE.1.s46 dX4_lineThing_107 ?_
                refine lv_aload_n hx hb dX4_lineThing_109 rfl (lv_at hl 0 rfl) ?_
                refine lv_iload_n hx hb dX4_lineThing_110 rfl (lv_at hl 1 rfl) ?_
                refine lv_iload_n hx hb dX4_lineThing_111 rfl (lv_at hl 2 rfl) ?_
                have hFc := gA_free hG hA hS
                refine va_calli (va_runS (As := [.ref (adK 46), .ref tx, .int fr, .int en]) (rest := []) ⟨hx, hb, hml, hown, hts⟩ (c_wordIs l dC dI kA adK adV G H nC nS tx fr en vc 46 hT hr_tx (by have q8 := ti_all fr; omega) (by have q8 := ti_all en; omega) (by have := (show fr.toInt = fr.toInt from rfl); have := (show en.toInt = en.toInt from rfl); omega) (by first | omega | decide) m45 (by omega) (by omega)) (va_cwS 4 hts (goodIn_app (goodIn_r _ [34, 35, 36] rfl (by decide +kernel)) (goodIn_ca (goodIn_r _ [1, 2, 3, 4, 5, 6, 7, 8, 9, 10, 11, 12, 13, 14, 15, 16, 17, 18, 19, 20, 21, 22, 23, 24, 25, 26, 27, 28, 29, 30, 31, 32, 33] rfl (by decide +kernel)) (bs2_in _ _))) rfl rfl rfl (by decide +kernel) ⟨(Nat.le_of_ble_eq_true rfl), (Nat.le_of_ble_eq_true rfl)⟩) ⟨fun a U g mk q => by obtain ⟨q0, q1, qK, qE⟩ := q; exact ⟨q0, q1, va_K.moved (u := U) (U := U.calling g mk a) (Vm.Alike.refl U.vm) qK, EVC.blind g mk a qE⟩, fun U hU hW => ⟨rfl, hU, va_K.moved hW.alike hK, hE.call hS hFc hU hW⟩⟩ rfl rfl hl.1 rfl (lv_room (Nat.le_of_ble_eq_true rfl)) dX4_lineThing_112 ⟨(Nat.le_of_ble_eq_true rfl), (Nat.le_of_ble_eq_true rfl)⟩) hS (fun q _ h => hFc q h) hFc (fun r50 u t H locs ht hvm hw51 hB _ _ hS => ?_)
                obtain ⟨hT, hF1⟩ := hB
                rw [ht] at hT hF1
                have m52 := m45.kept (hF1.arr hr_tx skc_16 (by decide))
                have hF := hF.more hF1 (by decide)
                try dsimp only at hw51
                obtain ⟨h53, hf54⟩ := hw51
                refine lv_if_eq (tgt := 123) hx hb dX4_lineThing_115 (by decide) (fun c55 => ?_) (fun c55 => ?_)
                · have t56 : r50.toInt = 0 := ti_eq c55 rfl (by decide)
                  refine va_ldcS hx hb hown hE.1.s47 dX4_lineThing_123 ?_
                  refine lv_aload_n hx hb dX4_lineThing_125 rfl (lv_at hl 0 rfl) ?_
                  refine lv_iload_n hx hb dX4_lineThing_126 rfl (lv_at hl 1 rfl) ?_
                  refine lv_iload_n hx hb dX4_lineThing_127 rfl (lv_at hl 2 rfl) ?_
                  have hFc := gA_free hG hA hS
                  refine va_calli (va_runS (As := [.ref (adK 47), .ref tx, .int fr, .int en]) (rest := []) ⟨hx, hb, hml, hown, hts⟩ (c_wordIs l dC dI kA adK adV G H nC nS tx fr en vc 47 hT hr_tx (by have q8 := ti_all fr; omega) (by have q8 := ti_all en; omega) (by have := (show fr.toInt = fr.toInt from rfl); have := (show en.toInt = en.toInt from rfl); omega) (by first | omega | decide) m52 (by omega) (by omega)) (va_cwS 4 hts (goodIn_app (goodIn_r _ [34, 35, 36] rfl (by decide +kernel)) (goodIn_ca (goodIn_r _ [1, 2, 3, 4, 5, 6, 7, 8, 9, 10, 11, 12, 13, 14, 15, 16, 17, 18, 19, 20, 21, 22, 23, 24, 25, 26, 27, 28, 29, 30, 31, 32, 33] rfl (by decide +kernel)) (bs2_in _ _))) rfl rfl rfl (by decide +kernel) ⟨(Nat.le_of_ble_eq_true rfl), (Nat.le_of_ble_eq_true rfl)⟩) ⟨fun a U g mk q => by obtain ⟨q0, q1, qK, qE⟩ := q; exact ⟨q0, q1, va_K.moved (u := U) (U := U.calling g mk a) (Vm.Alike.refl U.vm) qK, EVC.blind g mk a qE⟩, fun U hU hW => ⟨rfl, hU, va_K.moved hW.alike hK, hE.call hS hFc hU hW⟩⟩ rfl rfl hl.1 rfl (lv_room (Nat.le_of_ble_eq_true rfl)) dX4_lineThing_128 ⟨(Nat.le_of_ble_eq_true rfl), (Nat.le_of_ble_eq_true rfl)⟩) hS (fun q _ h => hFc q h) hFc (fun r57 u t H locs ht hvm hw58 hB _ _ hS => ?_)
                  obtain ⟨hT, hF1⟩ := hB
                  rw [ht] at hT hF1
                  have hF := hF.more hF1 (by decide)
                  try dsimp only at hw58
                  obtain ⟨h60, hf61⟩ := hw58
                  refine lv_if_eq (tgt := 139) hx hb dX4_lineThing_131 (by decide) (fun c62 => ?_) (fun c62 => ?_)
                  · have t63 : r57.toInt = 0 := ti_eq c62 rfl (by decide)
                    refine lv_iconst (v := (-1)) hx hb dX4_lineThing_139 (by decide) ?_
                    refine lv_istore_n (lv' := [(3, .int (-1)), (0, .ref tx), (1, .int fr), (2, .int en)]) hx hb dX4_lineThing_140 rfl hl (by decide) rfl (fun ls hl => ?_)
                    refine lv_iload_n hx hb dX4_lineThing_141 rfl (lv_at hl 0 rfl) ?_
                    refine lv_iconst (v := (-1)) hx hb dX4_lineThing_142 (by decide) ?_
                    refine lv_icmp_ne (tgt := 150) hx hb dX4_lineThing_143 (by decide) (fun c64 => absurd c64 (by decide)) (fun c64 => ?_)
                    refine lv_iconst (v := (-1)) hx hb dX4_lineThing_146 (by decide) ?_
                    refine lv_goto (tgt := 154) hx hb dX4_lineThing_147 (by decide) ?_
                    exact W.iret (v := (-1)) hx hb hr (fun t ht hW => ⟨⟨(-1), (), rfl, (by exact ⟨(rg_t (a := (-1)) (by decide) (by first | decide | omega) (by first | decide | omega)), (Or.inl ⟨by decide, fun i h9 h8 => by rcases (show i = 39 ∨ i = 40 ∨ i = 41 ∨ i = 42 ∨ i = 43 ∨ i = 44 ∨ i = 45 ∨ i = 46 ∨ i = 47 by omega) with rfl | rfl | rfl | rfl | rfl | rfl | rfl | rfl | rfl; (exact (hf5.resolve_left (fun h8 => by have := h8.1; omega)).2); (exact (hf12.resolve_left (fun h8 => by have := h8.1; omega)).2); (exact (hf19.resolve_left (fun h8 => by have := h8.1; omega)).2); (exact (hf26.resolve_left (fun h8 => by have := h8.1; omega)).2); (exact (hf33.resolve_left (fun h8 => by have := h8.1; omega)).2); (exact (hf40.resolve_left (fun h8 => by have := h8.1; omega)).2); (exact (hf47.resolve_left (fun h8 => by have := h8.1; omega)).2); (exact (hf54.resolve_left (fun h8 => by have := h8.1; omega)).2); exact (hf61.resolve_left (fun h8 => by have := h8.1; omega)).2⟩)⟩), by (try dsimp only); rw [ht]; exact ⟨hT, hF⟩⟩, hS.F ht⟩) hS.2.2 dX4_lineThing_154
                  · have t65 : r57.toInt ≠ 0 := ti_ne c62 rfl (by decide)
                    refine lv_bipush (v := 9) hx hb dX4_lineThing_134 (by decide) ?_
                    refine lv_goto (tgt := 140) hx hb dX4_lineThing_136 (by decide) ?_
                    refine lv_istore_n (lv' := [(3, .int 9), (0, .ref tx), (1, .int fr), (2, .int en)]) hx hb dX4_lineThing_140 rfl hl (by decide) rfl (fun ls hl => ?_)
                    refine lv_iload_n hx hb dX4_lineThing_141 rfl (lv_at hl 0 rfl) ?_
                    refine lv_iconst (v := (-1)) hx hb dX4_lineThing_142 (by decide) ?_
                    refine lv_icmp_ne (tgt := 150) hx hb dX4_lineThing_143 (by decide) (fun c66 => ?_) (fun c66 => absurd c66 (by decide))
                    refine lv_bipush (v := 30) hx hb dX4_lineThing_150 (by decide) ?_
                    refine lv_iload_n hx hb dX4_lineThing_152 rfl (lv_at hl 0 rfl) ?_
                    refine lv_iadd hx hb dX4_lineThing_153 ?_
                    refine lv_topi (fun x67 ex67 => ?_)
                    obtain rfl : x67 = 39 := ex67.trans (by decide)
                    exact W.iret (v := 39) hx hb hr (fun t ht hW => ⟨⟨39, (), rfl, (by exact ⟨(rg_t (a := 39) (by decide) (by first | decide | omega) (by first | decide | omega)), (Or.inr ⟨47, by decide, (hf61.resolve_right (fun h8 => by have := h8.1; omega)).2, by decide⟩)⟩), by (try dsimp only); rw [ht]; exact ⟨hT, hF⟩⟩, hS.F ht⟩) hS.2.2 dX4_lineThing_154
                · have t68 : r50.toInt ≠ 0 := ti_ne c55 rfl (by decide)
                  refine lv_bipush (v := 8) hx hb dX4_lineThing_118 (by decide) ?_
                  refine lv_goto (tgt := 140) hx hb dX4_lineThing_120 (by decide) ?_
                  refine lv_istore_n (lv' := [(3, .int 8), (0, .ref tx), (1, .int fr), (2, .int en)]) hx hb dX4_lineThing_140 rfl hl (by decide) rfl (fun ls hl => ?_)
                  refine lv_iload_n hx hb dX4_lineThing_141 rfl (lv_at hl 0 rfl) ?_
                  refine lv_iconst (v := (-1)) hx hb dX4_lineThing_142 (by decide) ?_
                  refine lv_icmp_ne (tgt := 150) hx hb dX4_lineThing_143 (by decide) (fun c69 => ?_) (fun c69 => absurd c69 (by decide))
                  refine lv_bipush (v := 30) hx hb dX4_lineThing_150 (by decide) ?_
                  refine lv_iload_n hx hb dX4_lineThing_152 rfl (lv_at hl 0 rfl) ?_
                  refine lv_iadd hx hb dX4_lineThing_153 ?_
                  refine lv_topi (fun x70 ex70 => ?_)
                  obtain rfl : x70 = 38 := ex70.trans (by decide)
                  exact W.iret (v := 38) hx hb hr (fun t ht hW => ⟨⟨38, (), rfl, (by exact ⟨(rg_t (a := 38) (by decide) (by first | decide | omega) (by first | decide | omega)), (Or.inr ⟨46, by decide, (hf54.resolve_right (fun h8 => by have := h8.1; omega)).2, by decide⟩)⟩), by (try dsimp only); rw [ht]; exact ⟨hT, hF⟩⟩, hS.F ht⟩) hS.2.2 dX4_lineThing_154
              · have t71 : r43.toInt ≠ 0 := ti_ne c48 rfl (by decide)
                refine lv_bipush (v := 7) hx hb dX4_lineThing_102 (by decide) ?_
                refine lv_goto (tgt := 140) hx hb dX4_lineThing_104 (by decide) ?_
                refine lv_istore_n (lv' := [(3, .int 7), (0, .ref tx), (1, .int fr), (2, .int en)]) hx hb dX4_lineThing_140 rfl hl (by decide) rfl (fun ls hl => ?_)
                refine lv_iload_n hx hb dX4_lineThing_141 rfl (lv_at hl 0 rfl) ?_
                refine lv_iconst (v := (-1)) hx hb dX4_lineThing_142 (by decide) ?_
                refine lv_icmp_ne (tgt := 150) hx hb dX4_lineThing_143 (by decide) (fun c72 => ?_) (fun c72 => absurd c72 (by decide))
                refine lv_bipush (v := 30) hx hb dX4_lineThing_150 (by decide) ?_
                refine lv_iload_n hx hb dX4_lineThing_152 rfl (lv_at hl 0 rfl) ?_
                refine lv_iadd hx hb dX4_lineThing_153 ?_
                refine lv_topi (fun x73 ex73 => ?_)
                obtain rfl : x73 = 37 := ex73.trans (by decide)
                exact W.iret (v := 37) hx hb hr (fun t ht hW => ⟨⟨37, (), rfl, (by exact ⟨(rg_t (a := 37) (by decide) (by first | decide | omega) (by first | decide | omega)), (Or.inr ⟨45, by decide, (hf47.resolve_right (fun h8 => by have := h8.1; omega)).2, by decide⟩)⟩), by (try dsimp only); rw [ht]; exact ⟨hT, hF⟩⟩, hS.F ht⟩) hS.2.2 dX4_lineThing_154
            · have t74 : r36.toInt ≠ 0 := ti_ne c41 rfl (by decide)
              refine lv_bipush (v := 6) hx hb dX4_lineThing_86 (by decide) ?_
              refine lv_goto (tgt := 140) hx hb dX4_lineThing_88 (by decide) ?_
              refine lv_istore_n (lv' := [(3, .int 6), (0, .ref tx), (1, .int fr), (2, .int en)]) hx hb dX4_lineThing_140 rfl hl (by decide) rfl (fun ls hl => ?_)
              refine lv_iload_n hx hb dX4_lineThing_141 rfl (lv_at hl 0 rfl) ?_
              refine lv_iconst (v := (-1)) hx hb dX4_lineThing_142 (by decide) ?_
              refine lv_icmp_ne (tgt := 150) hx hb dX4_lineThing_143 (by decide) (fun c75 => ?_) (fun c75 => absurd c75 (by decide))
              refine lv_bipush (v := 30) hx hb dX4_lineThing_150 (by decide) ?_
              refine lv_iload_n hx hb dX4_lineThing_152 rfl (lv_at hl 0 rfl) ?_
              refine lv_iadd hx hb dX4_lineThing_153 ?_
              refine lv_topi (fun x76 ex76 => ?_)
              obtain rfl : x76 = 36 := ex76.trans (by decide)
              exact W.iret (v := 36) hx hb hr (fun t ht hW => ⟨⟨36, (), rfl, (by exact ⟨(rg_t (a := 36) (by decide) (by first | decide | omega) (by first | decide | omega)), (Or.inr ⟨44, by decide, (hf40.resolve_right (fun h8 => by have := h8.1; omega)).2, by decide⟩)⟩), by (try dsimp only); rw [ht]; exact ⟨hT, hF⟩⟩, hS.F ht⟩) hS.2.2 dX4_lineThing_154
          · have t77 : r29.toInt ≠ 0 := ti_ne c34 rfl (by decide)
            refine lv_iconst (v := 5) hx hb dX4_lineThing_71 (by decide) ?_
            refine lv_goto (tgt := 140) hx hb dX4_lineThing_72 (by decide) ?_
            refine lv_istore_n (lv' := [(3, .int 5), (0, .ref tx), (1, .int fr), (2, .int en)]) hx hb dX4_lineThing_140 rfl hl (by decide) rfl (fun ls hl => ?_)
            refine lv_iload_n hx hb dX4_lineThing_141 rfl (lv_at hl 0 rfl) ?_
            refine lv_iconst (v := (-1)) hx hb dX4_lineThing_142 (by decide) ?_
            refine lv_icmp_ne (tgt := 150) hx hb dX4_lineThing_143 (by decide) (fun c78 => ?_) (fun c78 => absurd c78 (by decide))
            refine lv_bipush (v := 30) hx hb dX4_lineThing_150 (by decide) ?_
            refine lv_iload_n hx hb dX4_lineThing_152 rfl (lv_at hl 0 rfl) ?_
            refine lv_iadd hx hb dX4_lineThing_153 ?_
            refine lv_topi (fun x79 ex79 => ?_)
            obtain rfl : x79 = 35 := ex79.trans (by decide)
            exact W.iret (v := 35) hx hb hr (fun t ht hW => ⟨⟨35, (), rfl, (by exact ⟨(rg_t (a := 35) (by decide) (by first | decide | omega) (by first | decide | omega)), (Or.inr ⟨43, by decide, (hf33.resolve_right (fun h8 => by have := h8.1; omega)).2, by decide⟩)⟩), by (try dsimp only); rw [ht]; exact ⟨hT, hF⟩⟩, hS.F ht⟩) hS.2.2 dX4_lineThing_154
        · have t80 : r22.toInt ≠ 0 := ti_ne c27 rfl (by decide)
          refine lv_iconst (v := 4) hx hb dX4_lineThing_56 (by decide) ?_
          refine lv_goto (tgt := 140) hx hb dX4_lineThing_57 (by decide) ?_
          refine lv_istore_n (lv' := [(3, .int 4), (0, .ref tx), (1, .int fr), (2, .int en)]) hx hb dX4_lineThing_140 rfl hl (by decide) rfl (fun ls hl => ?_)
          refine lv_iload_n hx hb dX4_lineThing_141 rfl (lv_at hl 0 rfl) ?_
          refine lv_iconst (v := (-1)) hx hb dX4_lineThing_142 (by decide) ?_
          refine lv_icmp_ne (tgt := 150) hx hb dX4_lineThing_143 (by decide) (fun c81 => ?_) (fun c81 => absurd c81 (by decide))
          refine lv_bipush (v := 30) hx hb dX4_lineThing_150 (by decide) ?_
          refine lv_iload_n hx hb dX4_lineThing_152 rfl (lv_at hl 0 rfl) ?_
          refine lv_iadd hx hb dX4_lineThing_153 ?_
          refine lv_topi (fun x82 ex82 => ?_)
          obtain rfl : x82 = 34 := ex82.trans (by decide)
          exact W.iret (v := 34) hx hb hr (fun t ht hW => ⟨⟨34, (), rfl, (by exact ⟨(rg_t (a := 34) (by decide) (by first | decide | omega) (by first | decide | omega)), (Or.inr ⟨42, by decide, (hf26.resolve_right (fun h8 => by have := h8.1; omega)).2, by decide⟩)⟩), by (try dsimp only); rw [ht]; exact ⟨hT, hF⟩⟩, hS.F ht⟩) hS.2.2 dX4_lineThing_154
      · have t83 : r15.toInt ≠ 0 := ti_ne c20 rfl (by decide)
        refine lv_iconst (v := 3) hx hb dX4_lineThing_41 (by decide) ?_
        refine lv_goto (tgt := 140) hx hb dX4_lineThing_42 (by decide) ?_
        refine lv_istore_n (lv' := [(3, .int 3), (0, .ref tx), (1, .int fr), (2, .int en)]) hx hb dX4_lineThing_140 rfl hl (by decide) rfl (fun ls hl => ?_)
        refine lv_iload_n hx hb dX4_lineThing_141 rfl (lv_at hl 0 rfl) ?_
        refine lv_iconst (v := (-1)) hx hb dX4_lineThing_142 (by decide) ?_
        refine lv_icmp_ne (tgt := 150) hx hb dX4_lineThing_143 (by decide) (fun c84 => ?_) (fun c84 => absurd c84 (by decide))
        refine lv_bipush (v := 30) hx hb dX4_lineThing_150 (by decide) ?_
        refine lv_iload_n hx hb dX4_lineThing_152 rfl (lv_at hl 0 rfl) ?_
        refine lv_iadd hx hb dX4_lineThing_153 ?_
        refine lv_topi (fun x85 ex85 => ?_)
        obtain rfl : x85 = 33 := ex85.trans (by decide)
        exact W.iret (v := 33) hx hb hr (fun t ht hW => ⟨⟨33, (), rfl, (by exact ⟨(rg_t (a := 33) (by decide) (by first | decide | omega) (by first | decide | omega)), (Or.inr ⟨41, by decide, (hf19.resolve_right (fun h8 => by have := h8.1; omega)).2, by decide⟩)⟩), by (try dsimp only); rw [ht]; exact ⟨hT, hF⟩⟩, hS.F ht⟩) hS.2.2 dX4_lineThing_154
    · have t86 : r8.toInt ≠ 0 := ti_ne c13 rfl (by decide)
      refine lv_iconst (v := 2) hx hb dX4_lineThing_26 (by decide) ?_
      refine lv_goto (tgt := 140) hx hb dX4_lineThing_27 (by decide) ?_
      refine lv_istore_n (lv' := [(3, .int 2), (0, .ref tx), (1, .int fr), (2, .int en)]) hx hb dX4_lineThing_140 rfl hl (by decide) rfl (fun ls hl => ?_)
      refine lv_iload_n hx hb dX4_lineThing_141 rfl (lv_at hl 0 rfl) ?_
      refine lv_iconst (v := (-1)) hx hb dX4_lineThing_142 (by decide) ?_
      refine lv_icmp_ne (tgt := 150) hx hb dX4_lineThing_143 (by decide) (fun c87 => ?_) (fun c87 => absurd c87 (by decide))
      refine lv_bipush (v := 30) hx hb dX4_lineThing_150 (by decide) ?_
      refine lv_iload_n hx hb dX4_lineThing_152 rfl (lv_at hl 0 rfl) ?_
      refine lv_iadd hx hb dX4_lineThing_153 ?_
      refine lv_topi (fun x88 ex88 => ?_)
      obtain rfl : x88 = 32 := ex88.trans (by decide)
      exact W.iret (v := 32) hx hb hr (fun t ht hW => ⟨⟨32, (), rfl, (by exact ⟨(rg_t (a := 32) (by decide) (by first | decide | omega) (by first | decide | omega)), (Or.inr ⟨40, by decide, (hf12.resolve_right (fun h8 => by have := h8.1; omega)).2, by decide⟩)⟩), by (try dsimp only); rw [ht]; exact ⟨hT, hF⟩⟩, hS.F ht⟩) hS.2.2 dX4_lineThing_154
  · have t89 : r1.toInt ≠ 0 := ti_ne c6 rfl (by decide)
    refine lv_iconst (v := 0) hx hb dX4_lineThing_11 (by decide) ?_
    refine lv_goto (tgt := 140) hx hb dX4_lineThing_12 (by decide) ?_
    refine lv_istore_n (lv' := [(3, .int 0), (0, .ref tx), (1, .int fr), (2, .int en)]) hx hb dX4_lineThing_140 rfl hl (by decide) rfl (fun ls hl => ?_)
    refine lv_iload_n hx hb dX4_lineThing_141 rfl (lv_at hl 0 rfl) ?_
    refine lv_iconst (v := (-1)) hx hb dX4_lineThing_142 (by decide) ?_
    refine lv_icmp_ne (tgt := 150) hx hb dX4_lineThing_143 (by decide) (fun c90 => ?_) (fun c90 => absurd c90 (by decide))
    refine lv_bipush (v := 30) hx hb dX4_lineThing_150 (by decide) ?_
    refine lv_iload_n hx hb dX4_lineThing_152 rfl (lv_at hl 0 rfl) ?_
    refine lv_iadd hx hb dX4_lineThing_153 ?_
    refine lv_topi (fun x91 ex91 => ?_)
    obtain rfl : x91 = 30 := ex91.trans (by decide)
    exact W.iret (v := 30) hx hb hr (fun t ht hW => ⟨⟨30, (), rfl, (by exact ⟨(rg_t (a := 30) (by decide) (by first | decide | omega) (by first | decide | omega)), (Or.inr ⟨39, by decide, (hf5.resolve_right (fun h8 => by have := h8.1; omega)).2, by decide⟩)⟩), by (try dsimp only); rw [ht]; exact ⟨hT, hF⟩⟩, hS.F ht⟩) hS.2.2 dX4_lineThing_154
def w_c_wordThing : List Cond := .code yX4_wordThing cX4_wordThing 4 (some .int) :: (HAppend.hAppend (α := List Cond) (β := List Cond) (γ := List Cond) [.code yX4_factThing cX4_factThing 3 (some .int), .code yX4_wordIs cX4_wordIs 5 (some .boolean), .code yJ0_length_8abf5 cJ0_length_8abf5 1 (some .int), .fieldLink RJ0 9 "java/lang/String" "value" "[B", .code yJ0_coder_7d493 cJ0_coder_7d493 1 (some .byte), .fieldLink RJ0 38 "java/lang/String" "COMPACT_STRINGS" "Z", .fieldLink RJ0 15 "java/lang/String" "coder" "B", .methodLink RJ0 335 yJ0_coder_7d493, .instanceMethod yJ0_coder_7d493, .selects RJ0 yJ0_coder_7d493 yJ0_coder_7d493, .initialized RJ0, .methodLink RX4 155 yJ0_length_8abf5, .instanceMethod yJ0_length_8abf5, .selects RJ0 yJ0_length_8abf5 yJ0_length_8abf5, .code yJ0_charAt_5068e cJ0_charAt_5068e 2 (some .char), .code yJ0_isLatin1_aae02 cJ0_isLatin1_aae02 1 (some .boolean), .methodLink RJ0 492 yJ0_isLatin1_aae02, .instanceMethod yJ0_isLatin1_aae02, .selects RJ0 yJ0_isLatin1_aae02 yJ0_isLatin1_aae02, .code yJ1_charAt_3b067 cJ1_charAt_3b067 2 (some .char), .code yJ0_checkIndex_df160 cJ0_checkIndex_df160 2 none, .fieldLink RJ0 1053 "jdk/internal/util/Preconditions" "SIOOBE_FORMATTER" "Ljava/util/function/BiFunction;", .code yJ3_checkIndex_8e157 cJ3_checkIndex_8e157 3 (some .int), .methodLink RJ0 1059 yJ3_checkIndex_8e157, .static yJ3_checkIndex_8e157, .initialized RJ3, .methodLink RJ1 9 yJ0_checkIndex_df160, .static yJ0_checkIndex_df160, .methodLink RJ0 495 yJ1_charAt_3b067, .static yJ1_charAt_3b067, .initialized RJ1, .methodLink RX4 161 yJ0_charAt_5068e, .instanceMethod yJ0_charAt_5068e, .selects RJ0 yJ0_charAt_5068e yJ0_charAt_5068e, .methodLink RX4 105 yX4_wordIs, .static yX4_wordIs, .initialized RX4, .methodLink RX4 97 yX4_factThing, .static yX4_factThing, .code yX4_lineThing cX4_lineThing 4 (some .int), .methodLink RX4 100 yX4_lineThing, .static yX4_lineThing] bs2)
set_option maxHeartbeats 4000000 in
set_option maxRecDepth 100000 in
theorem c_wordThing (l : Launch) (dC : Nat → ClassId) (dI : Nat → Nat → Nat) (kA : Nat → ClassId) (adK adV : Nat → Nat) (G : gT) (H0 : Heap) (nC nS : Int) (tx : Nat) (fr : Int32) (en : Int32) (vc : Nat → Int32)  (hT : gH (dC, dI) kA (SHc nC nS) G H0) (hr_tx : G tx = some 16) (hq0 : 0 ≤ fr.toInt ∧ fr.toInt ≤ 399) (hq1 : 0 ≤ en.toInt ∧ en.toInt ≤ 400) (hfe : fr.toInt < en.toInt) (hc_vc : ct H0 tx 400 vc) (hgC : 0 ≤ nC ∧ nC ≤ 40) (hgS : 0 ≤ nS ∧ nS ≤ 60) : Met l yX4_wordThing w_c_wordThing ({ frames := 6, cells := 0, slots := 0, locals := 132 }) (va_Pc [.ref tx, .int fr, .int en] (fun U => U.heap = H0 ∧ va_K (dC, dI) vwCl (tyl kA) U ∧ EVC adK adV (gA G H0.size) U U.heap)) (va_Qi (fun (r : Int32) (u : Unit) => (0 ≤ r.toInt ∧ r.toInt ≤ 39) ∧ (r.toInt = wk (tc vc) fr.toNatClampNeg en.toNatClampNeg)) (fun (_ : Unit) (t : State) => gH (dC, dI) kA (SHc nC nS) G t.heap ∧ gF (dC, dI) SKc G ([] : List (Nat × Nat)) H0 t.heap) (gA G H0.size)) 0 0 (gA G H0.size) := by
  refine Met.ofW (cc := cX4_wordThing) (maxL := 4) (ret := (some .int)) (by decide) rfl ?_
  intro p e s m args below meth c s₁ B hml hv
  obtain ⟨rfl, hH0, hK, hE⟩ := hv
  have hx := B.exec
  have hb := B.bytes
  have hr := B.returns
  have hts := atoms_spec (ws := w_c_wordThing) B.pre
  have hown : s.vm.findClass RX4 = some m.cls := findClass_of_methodNamed B.named
  have hlocks := B.notSynchronized
  subst hH0
  generalize hAe : gA G s.heap.size = A at hE ⊢
  have hA : ∀ q : Nat, s.heap.size ≤ q → A q := fun q h => by rw [← hAe]; exact Or.inr h
  have hG := gA_of hAe
  have hS : va_S A s.heap s.heap [] := va_S.rf
  have hF : gF (dC, dI) SKc G ([] : List (Nat × Nat)) s.heap s.heap := gF.rf
  have hl := lv_entry ([.ref tx, .int fr, .int en]) (n := 4) (Nat.le_of_ble_eq_true rfl)
  rw [lg_entry_eq]
  generalize (lg_sl ([.ref tx, .int fr, .int en]) ++ List.replicate (4 - (lg_sl ([.ref tx, .int fr, .int en])).length) Slot.unset).toArray = ls at hl ⊢
  have hl : lv_has ls 4 [(0, .ref tx), (1, .int fr), (2, .int en)] := hl
  refine lv_aload_n hx hb dX4_wordThing_0 rfl (lv_at hl 0 rfl) ?_
  refine lv_iload_n hx hb dX4_wordThing_1 rfl (lv_at hl 1 rfl) ?_
  refine lv_iload_n hx hb dX4_wordThing_2 rfl (lv_at hl 2 rfl) ?_
  have hFc := gA_free hG hA hS
  refine va_calli (va_runS (As := [.ref tx, .int fr, .int en]) (rest := []) ⟨hx, hb, hml, hown, hts⟩ (c_factThing l dC dI kA adK adV G s.heap nC nS tx fr en vc hT hr_tx (by have q8 := ti_all fr; omega) (by have q8 := ti_all en; omega) (by have := (show fr.toInt = fr.toInt from rfl); have := (show en.toInt = en.toInt from rfl); omega) hc_vc (by omega) (by omega)) (va_cwS 3 hts (goodIn_app (goodIn_r _ [38, 39, 37] rfl (by decide +kernel)) (goodIn_ca (goodIn_r _ [1, 2, 3, 4, 5, 6, 7, 8, 9, 10, 11, 12, 13, 14, 15, 16, 17, 18, 19, 20, 21, 22, 23, 24, 25, 26, 27, 28, 29, 30, 31, 32, 33, 34, 35, 36, 37] rfl (by decide +kernel)) (bs2_in _ _))) rfl rfl rfl (by decide +kernel) ⟨(Nat.le_of_ble_eq_true rfl), (Nat.le_of_ble_eq_true rfl)⟩) ⟨fun a U g mk q => by obtain ⟨q0, q1, qK, qE⟩ := q; exact ⟨q0, q1, va_K.moved (u := U) (U := U.calling g mk a) (Vm.Alike.refl U.vm) qK, EVC.blind g mk a qE⟩, fun U hU hW => ⟨rfl, hU, va_K.moved hW.alike hK, hE.call hS hFc hU hW⟩⟩ rfl rfl hl.1 rfl (lv_room (Nat.le_of_ble_eq_true rfl)) dX4_wordThing_3 ⟨(Nat.le_of_ble_eq_true rfl), (Nat.le_of_ble_eq_true rfl)⟩) hS (fun q _ h => hFc q h) hFc (fun r1 u t H locs ht hvm hw2 hB _ _ hS => ?_)
  obtain ⟨hT, hF1⟩ := hB
  rw [ht] at hT hF1
  have m3 := hc_vc.kept (hF1.arr hr_tx skc_16 (by decide))
  have hF := hF.more hF1 (by decide)
  try dsimp only at hw2
  obtain ⟨h4, hf5⟩ := hw2
  refine lv_istore_n (lv' := [(3, .int r1), (0, .ref tx), (1, .int fr), (2, .int en)]) hx hb dX4_wordThing_6 rfl hl (by decide) rfl (fun ls hl => ?_)
  refine lv_iload_n hx hb dX4_wordThing_7 rfl (lv_at hl 0 rfl) ?_
  refine lv_iconst (v := (-1)) hx hb dX4_wordThing_8 (by decide) ?_
  refine lv_icmp_ne (tgt := 19) hx hb dX4_wordThing_9 (by decide) (fun c6 => ?_) (fun c6 => ?_)
  · have t7 : r1.toInt ≠ (-1) := ti_ne c6 rfl (by decide)
    refine lv_iload_n hx hb dX4_wordThing_19 rfl (lv_at hl 0 rfl) ?_
    refine lv_iconst (v := (-1)) hx hb dX4_wordThing_20 (by decide) ?_
    refine lv_icmp_ne (tgt := 107) hx hb dX4_wordThing_21 (by decide) (fun c8 => ?_) (fun c8 => (by exfalso; have q9 : r1.toInt = (-1) := ti_eq c8 rfl (by decide); omega))
    have t9 : r1.toInt ≠ (-1) := ti_ne c8 rfl (by decide)
    refine lv_iload_n hx hb dX4_wordThing_107 rfl (lv_at hl 0 rfl) ?_
    exact W.iret (v := r1) hx hb hr (fun t ht hW => ⟨⟨r1, (), rfl, (by exact ⟨(by have q8 := ti_all r1; omega), (by obtain ⟨i9, y1, y2, y3⟩ := hf5.resolve_left (fun h8 => by have := h8.1; omega); rw [wk_1 (sW_in (i := i9) (by omega)) y2]; exact y3)⟩), by (try dsimp only); rw [ht]; exact ⟨hT, hF⟩⟩, hS.F ht⟩) hS.2.2 dX4_wordThing_108
  · have t10 : r1.toInt = (-1) := ti_eq c6 rfl (by decide)
    refine lv_aload_n hx hb dX4_wordThing_12 rfl (lv_at hl 1 rfl) ?_
    refine lv_iload_n hx hb dX4_wordThing_13 rfl (lv_at hl 2 rfl) ?_
    refine lv_iload_n hx hb dX4_wordThing_14 rfl (lv_at hl 3 rfl) ?_
    have hFc := gA_free hG hA hS
    refine va_calli (va_runS (As := [.ref tx, .int fr, .int en]) (rest := []) ⟨hx, hb, hml, hown, hts⟩ (c_lineThing l dC dI kA adK adV G H nC nS tx fr en vc hT hr_tx (by have q8 := ti_all fr; omega) (by have q8 := ti_all en; omega) (by have := (show fr.toInt = fr.toInt from rfl); have := (show en.toInt = en.toInt from rfl); omega) m3 (by omega) (by omega)) (va_cwS 3 hts (goodIn_app (goodIn_r _ [41, 42, 37] rfl (by decide +kernel)) (goodIn_ca (goodIn_r _ [40, 2, 3, 4, 5, 6, 7, 8, 9, 10, 11, 12, 13, 14, 15, 16, 17, 18, 19, 20, 21, 22, 23, 24, 25, 26, 27, 28, 29, 30, 31, 32, 33, 34, 35, 36, 37] rfl (by decide +kernel)) (bs2_in _ _))) rfl rfl rfl (by decide +kernel) ⟨(Nat.le_of_ble_eq_true rfl), (Nat.le_of_ble_eq_true rfl)⟩) ⟨fun a U g mk q => by obtain ⟨q0, q1, qK, qE⟩ := q; exact ⟨q0, q1, va_K.moved (u := U) (U := U.calling g mk a) (Vm.Alike.refl U.vm) qK, EVC.blind g mk a qE⟩, fun U hU hW => ⟨rfl, hU, va_K.moved hW.alike hK, hE.call hS hFc hU hW⟩⟩ rfl rfl hl.1 rfl (lv_room (Nat.le_of_ble_eq_true rfl)) dX4_wordThing_15 ⟨(Nat.le_of_ble_eq_true rfl), (Nat.le_of_ble_eq_true rfl)⟩) hS (fun q _ h => hFc q h) hFc (fun r11 u t H locs ht hvm hw12 hB _ _ hS => ?_)
    obtain ⟨hT, hF1⟩ := hB
    rw [ht] at hT hF1
    have m13 := m3.kept (hF1.arr hr_tx skc_16 (by decide))
    have hF := hF.more hF1 (by decide)
    try dsimp only at hw12
    obtain ⟨h14, hf15⟩ := hw12
    refine lv_istore_n (lv' := [(3, .int r11), (0, .ref tx), (1, .int fr), (2, .int en)]) hx hb dX4_wordThing_18 rfl hl (by decide) rfl (fun ls hl => ?_)
    refine lv_iload_n hx hb dX4_wordThing_19 rfl (lv_at hl 0 rfl) ?_
    refine lv_iconst (v := (-1)) hx hb dX4_wordThing_20 (by decide) ?_
    refine lv_icmp_ne (tgt := 107) hx hb dX4_wordThing_21 (by decide) (fun c16 => ?_) (fun c16 => ?_)
    · have t17 : r11.toInt ≠ (-1) := ti_ne c16 rfl (by decide)
      refine lv_iload_n hx hb dX4_wordThing_107 rfl (lv_at hl 0 rfl) ?_
      exact W.iret (v := r11) hx hb hr (fun t ht hW => ⟨⟨r11, (), rfl, (by exact ⟨(by have q8 := ti_all r11; omega), (by obtain ⟨i9, y1, y2, y3⟩ := hf15.resolve_left (fun h8 => by have := h8.1; omega); rw [wk_1 (sW_in (i := i9) (by omega)) y2]; exact y3)⟩), by (try dsimp only); rw [ht]; exact ⟨hT, hF⟩⟩, hS.F ht⟩) hS.2.2 dX4_wordThing_108
    · have t18 : r11.toInt = (-1) := ti_eq c16 rfl (by decide)
      refine va_ldcS hx hb hown hE.1.s24 dX4_wordThing_24 ?_
      refine lv_aload_n hx hb dX4_wordThing_26 rfl (lv_at hl 1 rfl) ?_
      refine lv_iload_n hx hb dX4_wordThing_27 rfl (lv_at hl 2 rfl) ?_
      refine lv_iload_n hx hb dX4_wordThing_28 rfl (lv_at hl 3 rfl) ?_
      have hFc := gA_free hG hA hS
      refine va_calli (va_runS (As := [.ref (adK 24), .ref tx, .int fr, .int en]) (rest := []) ⟨hx, hb, hml, hown, hts⟩ (c_wordIs l dC dI kA adK adV G H nC nS tx fr en vc 24 hT hr_tx (by have q8 := ti_all fr; omega) (by have q8 := ti_all en; omega) (by have := (show fr.toInt = fr.toInt from rfl); have := (show en.toInt = en.toInt from rfl); omega) (by first | omega | decide) m13 (by omega) (by omega)) (va_cwS 4 hts (goodIn_app (goodIn_r _ [35, 36, 37] rfl (by decide +kernel)) (goodIn_ca (goodIn_r _ [2, 3, 4, 5, 6, 7, 8, 9, 10, 11, 12, 13, 14, 15, 16, 17, 18, 19, 20, 21, 22, 23, 24, 25, 26, 27, 28, 29, 30, 31, 32, 33, 34] rfl (by decide +kernel)) (bs2_in _ _))) rfl rfl rfl (by decide +kernel) ⟨(Nat.le_of_ble_eq_true rfl), (Nat.le_of_ble_eq_true rfl)⟩) ⟨fun a U g mk q => by obtain ⟨q0, q1, qK, qE⟩ := q; exact ⟨q0, q1, va_K.moved (u := U) (U := U.calling g mk a) (Vm.Alike.refl U.vm) qK, EVC.blind g mk a qE⟩, fun U hU hW => ⟨rfl, hU, va_K.moved hW.alike hK, hE.call hS hFc hU hW⟩⟩ rfl rfl hl.1 rfl (lv_room (Nat.le_of_ble_eq_true rfl)) dX4_wordThing_29 ⟨(Nat.le_of_ble_eq_true rfl), (Nat.le_of_ble_eq_true rfl)⟩) hS (fun q _ h => hFc q h) hFc (fun r19 u t H locs ht hvm hw20 hB _ _ hS => ?_)
      obtain ⟨hT, hF1⟩ := hB
      rw [ht] at hT hF1
      have m21 := m13.kept (hF1.arr hr_tx skc_16 (by decide))
      have hF := hF.more hF1 (by decide)
      try dsimp only at hw20
      obtain ⟨h22, hf23⟩ := hw20
      refine lv_if_eq (tgt := 40) hx hb dX4_wordThing_32 (by decide) (fun c24 => ?_) (fun c24 => ?_)
      · have t25 : r19.toInt = 0 := ti_eq c24 rfl (by decide)
        refine va_ldcS hx hb hown hE.1.s25 dX4_wordThing_40 ?_
        refine lv_aload_n hx hb dX4_wordThing_42 rfl (lv_at hl 1 rfl) ?_
        refine lv_iload_n hx hb dX4_wordThing_43 rfl (lv_at hl 2 rfl) ?_
        refine lv_iload_n hx hb dX4_wordThing_44 rfl (lv_at hl 3 rfl) ?_
        have hFc := gA_free hG hA hS
        refine va_calli (va_runS (As := [.ref (adK 25), .ref tx, .int fr, .int en]) (rest := []) ⟨hx, hb, hml, hown, hts⟩ (c_wordIs l dC dI kA adK adV G H nC nS tx fr en vc 25 hT hr_tx (by have q8 := ti_all fr; omega) (by have q8 := ti_all en; omega) (by have := (show fr.toInt = fr.toInt from rfl); have := (show en.toInt = en.toInt from rfl); omega) (by first | omega | decide) m21 (by omega) (by omega)) (va_cwS 4 hts (goodIn_app (goodIn_r _ [35, 36, 37] rfl (by decide +kernel)) (goodIn_ca (goodIn_r _ [2, 3, 4, 5, 6, 7, 8, 9, 10, 11, 12, 13, 14, 15, 16, 17, 18, 19, 20, 21, 22, 23, 24, 25, 26, 27, 28, 29, 30, 31, 32, 33, 34] rfl (by decide +kernel)) (bs2_in _ _))) rfl rfl rfl (by decide +kernel) ⟨(Nat.le_of_ble_eq_true rfl), (Nat.le_of_ble_eq_true rfl)⟩) ⟨fun a U g mk q => by obtain ⟨q0, q1, qK, qE⟩ := q; exact ⟨q0, q1, va_K.moved (u := U) (U := U.calling g mk a) (Vm.Alike.refl U.vm) qK, EVC.blind g mk a qE⟩, fun U hU hW => ⟨rfl, hU, va_K.moved hW.alike hK, hE.call hS hFc hU hW⟩⟩ rfl rfl hl.1 rfl (lv_room (Nat.le_of_ble_eq_true rfl)) dX4_wordThing_45 ⟨(Nat.le_of_ble_eq_true rfl), (Nat.le_of_ble_eq_true rfl)⟩) hS (fun q _ h => hFc q h) hFc (fun r26 u t H locs ht hvm hw27 hB _ _ hS => ?_)
        obtain ⟨hT, hF1⟩ := hB
        rw [ht] at hT hF1
        have m28 := m21.kept (hF1.arr hr_tx skc_16 (by decide))
        have hF := hF.more hF1 (by decide)
        try dsimp only at hw27
        obtain ⟨h29, hf30⟩ := hw27
        refine lv_if_eq (tgt := 56) hx hb dX4_wordThing_48 (by decide) (fun c31 => ?_) (fun c31 => ?_)
        · have t32 : r26.toInt = 0 := ti_eq c31 rfl (by decide)
          refine va_ldcS hx hb hown hE.1.s26 dX4_wordThing_56 ?_
          refine lv_aload_n hx hb dX4_wordThing_58 rfl (lv_at hl 1 rfl) ?_
          refine lv_iload_n hx hb dX4_wordThing_59 rfl (lv_at hl 2 rfl) ?_
          refine lv_iload_n hx hb dX4_wordThing_60 rfl (lv_at hl 3 rfl) ?_
          have hFc := gA_free hG hA hS
          refine va_calli (va_runS (As := [.ref (adK 26), .ref tx, .int fr, .int en]) (rest := []) ⟨hx, hb, hml, hown, hts⟩ (c_wordIs l dC dI kA adK adV G H nC nS tx fr en vc 26 hT hr_tx (by have q8 := ti_all fr; omega) (by have q8 := ti_all en; omega) (by have := (show fr.toInt = fr.toInt from rfl); have := (show en.toInt = en.toInt from rfl); omega) (by first | omega | decide) m28 (by omega) (by omega)) (va_cwS 4 hts (goodIn_app (goodIn_r _ [35, 36, 37] rfl (by decide +kernel)) (goodIn_ca (goodIn_r _ [2, 3, 4, 5, 6, 7, 8, 9, 10, 11, 12, 13, 14, 15, 16, 17, 18, 19, 20, 21, 22, 23, 24, 25, 26, 27, 28, 29, 30, 31, 32, 33, 34] rfl (by decide +kernel)) (bs2_in _ _))) rfl rfl rfl (by decide +kernel) ⟨(Nat.le_of_ble_eq_true rfl), (Nat.le_of_ble_eq_true rfl)⟩) ⟨fun a U g mk q => by obtain ⟨q0, q1, qK, qE⟩ := q; exact ⟨q0, q1, va_K.moved (u := U) (U := U.calling g mk a) (Vm.Alike.refl U.vm) qK, EVC.blind g mk a qE⟩, fun U hU hW => ⟨rfl, hU, va_K.moved hW.alike hK, hE.call hS hFc hU hW⟩⟩ rfl rfl hl.1 rfl (lv_room (Nat.le_of_ble_eq_true rfl)) dX4_wordThing_61 ⟨(Nat.le_of_ble_eq_true rfl), (Nat.le_of_ble_eq_true rfl)⟩) hS (fun q _ h => hFc q h) hFc (fun r33 u t H locs ht hvm hw34 hB _ _ hS => ?_)
          obtain ⟨hT, hF1⟩ := hB
          rw [ht] at hT hF1
          have m35 := m28.kept (hF1.arr hr_tx skc_16 (by decide))
          have hF := hF.more hF1 (by decide)
          try dsimp only at hw34
          obtain ⟨h36, hf37⟩ := hw34
          refine lv_if_eq (tgt := 72) hx hb dX4_wordThing_64 (by decide) (fun c38 => ?_) (fun c38 => ?_)
          · have t39 : r33.toInt = 0 := ti_eq c38 rfl (by decide)
            refine va_ldcS hx hb hown hE.1.s27 dX4_wordThing_72 ?_
            refine lv_aload_n hx hb dX4_wordThing_74 rfl (lv_at hl 1 rfl) ?_
            refine lv_iload_n hx hb dX4_wordThing_75 rfl (lv_at hl 2 rfl) ?_
            refine lv_iload_n hx hb dX4_wordThing_76 rfl (lv_at hl 3 rfl) ?_
            have hFc := gA_free hG hA hS
            refine va_calli (va_runS (As := [.ref (adK 27), .ref tx, .int fr, .int en]) (rest := []) ⟨hx, hb, hml, hown, hts⟩ (c_wordIs l dC dI kA adK adV G H nC nS tx fr en vc 27 hT hr_tx (by have q8 := ti_all fr; omega) (by have q8 := ti_all en; omega) (by have := (show fr.toInt = fr.toInt from rfl); have := (show en.toInt = en.toInt from rfl); omega) (by first | omega | decide) m35 (by omega) (by omega)) (va_cwS 4 hts (goodIn_app (goodIn_r _ [35, 36, 37] rfl (by decide +kernel)) (goodIn_ca (goodIn_r _ [2, 3, 4, 5, 6, 7, 8, 9, 10, 11, 12, 13, 14, 15, 16, 17, 18, 19, 20, 21, 22, 23, 24, 25, 26, 27, 28, 29, 30, 31, 32, 33, 34] rfl (by decide +kernel)) (bs2_in _ _))) rfl rfl rfl (by decide +kernel) ⟨(Nat.le_of_ble_eq_true rfl), (Nat.le_of_ble_eq_true rfl)⟩) ⟨fun a U g mk q => by obtain ⟨q0, q1, qK, qE⟩ := q; exact ⟨q0, q1, va_K.moved (u := U) (U := U.calling g mk a) (Vm.Alike.refl U.vm) qK, EVC.blind g mk a qE⟩, fun U hU hW => ⟨rfl, hU, va_K.moved hW.alike hK, hE.call hS hFc hU hW⟩⟩ rfl rfl hl.1 rfl (lv_room (Nat.le_of_ble_eq_true rfl)) dX4_wordThing_77 ⟨(Nat.le_of_ble_eq_true rfl), (Nat.le_of_ble_eq_true rfl)⟩) hS (fun q _ h => hFc q h) hFc (fun r40 u t H locs ht hvm hw41 hB _ _ hS => ?_)
            obtain ⟨hT, hF1⟩ := hB
            rw [ht] at hT hF1
            have m42 := m35.kept (hF1.arr hr_tx skc_16 (by decide))
            have hF := hF.more hF1 (by decide)
            try dsimp only at hw41
            obtain ⟨h43, hf44⟩ := hw41
            refine lv_if_eq (tgt := 88) hx hb dX4_wordThing_80 (by decide) (fun c45 => ?_) (fun c45 => ?_)
            · have t46 : r40.toInt = 0 := ti_eq c45 rfl (by decide)
              refine va_ldcS hx hb hown hE.1.s28 dX4_wordThing_88 ?_
              refine lv_aload_n hx hb dX4_wordThing_90 rfl (lv_at hl 1 rfl) ?_
              refine lv_iload_n hx hb dX4_wordThing_91 rfl (lv_at hl 2 rfl) ?_
              refine lv_iload_n hx hb dX4_wordThing_92 rfl (lv_at hl 3 rfl) ?_
              have hFc := gA_free hG hA hS
              refine va_calli (va_runS (As := [.ref (adK 28), .ref tx, .int fr, .int en]) (rest := []) ⟨hx, hb, hml, hown, hts⟩ (c_wordIs l dC dI kA adK adV G H nC nS tx fr en vc 28 hT hr_tx (by have q8 := ti_all fr; omega) (by have q8 := ti_all en; omega) (by have := (show fr.toInt = fr.toInt from rfl); have := (show en.toInt = en.toInt from rfl); omega) (by first | omega | decide) m42 (by omega) (by omega)) (va_cwS 4 hts (goodIn_app (goodIn_r _ [35, 36, 37] rfl (by decide +kernel)) (goodIn_ca (goodIn_r _ [2, 3, 4, 5, 6, 7, 8, 9, 10, 11, 12, 13, 14, 15, 16, 17, 18, 19, 20, 21, 22, 23, 24, 25, 26, 27, 28, 29, 30, 31, 32, 33, 34] rfl (by decide +kernel)) (bs2_in _ _))) rfl rfl rfl (by decide +kernel) ⟨(Nat.le_of_ble_eq_true rfl), (Nat.le_of_ble_eq_true rfl)⟩) ⟨fun a U g mk q => by obtain ⟨q0, q1, qK, qE⟩ := q; exact ⟨q0, q1, va_K.moved (u := U) (U := U.calling g mk a) (Vm.Alike.refl U.vm) qK, EVC.blind g mk a qE⟩, fun U hU hW => ⟨rfl, hU, va_K.moved hW.alike hK, hE.call hS hFc hU hW⟩⟩ rfl rfl hl.1 rfl (lv_room (Nat.le_of_ble_eq_true rfl)) dX4_wordThing_93 ⟨(Nat.le_of_ble_eq_true rfl), (Nat.le_of_ble_eq_true rfl)⟩) hS (fun q _ h => hFc q h) hFc (fun r47 u t H locs ht hvm hw48 hB _ _ hS => ?_)
              obtain ⟨hT, hF1⟩ := hB
              rw [ht] at hT hF1
              have hF := hF.more hF1 (by decide)
              try dsimp only at hw48
              obtain ⟨h50, hf51⟩ := hw48
              refine lv_if_eq (tgt := 104) hx hb dX4_wordThing_96 (by decide) (fun c52 => ?_) (fun c52 => ?_)
              · have t53 : r47.toInt = 0 := ti_eq c52 rfl (by decide)
                refine lv_bipush (v := 22) hx hb dX4_wordThing_104 (by decide) ?_
                refine lv_istore_n (lv' := [(3, .int 22), (0, .ref tx), (1, .int fr), (2, .int en)]) hx hb dX4_wordThing_106 rfl hl (by decide) rfl (fun ls hl => ?_)
                refine lv_iload_n hx hb dX4_wordThing_107 rfl (lv_at hl 0 rfl) ?_
                exact W.iret (v := 22) hx hb hr (fun t ht hW => ⟨⟨22, (), rfl, (by exact ⟨(rg_t (a := 22) (by decide) (by first | decide | omega) (by first | decide | omega)), (by have n1 := (hf5.resolve_right (fun ⟨i, y1, y2, y3⟩ => by have := sC_p (i := i) (by omega); omega)).2; have n2 := (hf15.resolve_right (fun ⟨i, y1, y2, y3⟩ => by have := sC_p (i := i) (by omega); omega)).2; rw [wk_n (t := tc vc) (fun i h9 h8 => by by_cases q9 : 39 ≤ i; (exact n2 i q9 h8); by_cases q8 : 29 ≤ i; (exact n1 i q8 (by omega)); rcases (show i = 24 ∨ i = 25 ∨ i = 26 ∨ i = 27 ∨ i = 28 by omega) with rfl | rfl | rfl | rfl | rfl; (exact (hf23.resolve_left (fun h8 => by have := h8.1; omega)).2); (exact (hf30.resolve_left (fun h8 => by have := h8.1; omega)).2); (exact (hf37.resolve_left (fun h8 => by have := h8.1; omega)).2); (exact (hf44.resolve_left (fun h8 => by have := h8.1; omega)).2); exact (hf51.resolve_left (fun h8 => by have := h8.1; omega)).2)]; decide)⟩), by (try dsimp only); rw [ht]; exact ⟨hT, hF⟩⟩, hS.F ht⟩) hS.2.2 dX4_wordThing_108
              · have t54 : r47.toInt ≠ 0 := ti_ne c52 rfl (by decide)
                refine lv_bipush (v := 15) hx hb dX4_wordThing_99 (by decide) ?_
                refine lv_goto (tgt := 106) hx hb dX4_wordThing_101 (by decide) ?_
                refine lv_istore_n (lv' := [(3, .int 15), (0, .ref tx), (1, .int fr), (2, .int en)]) hx hb dX4_wordThing_106 rfl hl (by decide) rfl (fun ls hl => ?_)
                refine lv_iload_n hx hb dX4_wordThing_107 rfl (lv_at hl 0 rfl) ?_
                exact W.iret (v := 15) hx hb hr (fun t ht hW => ⟨⟨15, (), rfl, (by exact ⟨(rg_t (a := 15) (by decide) (by first | decide | omega) (by first | decide | omega)), (by rw [wk_1 (sW_in (i := 28) (by decide)) (hf51.resolve_right (fun h8 => by have := h8.1; omega)).2]; decide)⟩), by (try dsimp only); rw [ht]; exact ⟨hT, hF⟩⟩, hS.F ht⟩) hS.2.2 dX4_wordThing_108
            · have t55 : r40.toInt ≠ 0 := ti_ne c45 rfl (by decide)
              refine lv_bipush (v := 14) hx hb dX4_wordThing_83 (by decide) ?_
              refine lv_goto (tgt := 106) hx hb dX4_wordThing_85 (by decide) ?_
              refine lv_istore_n (lv' := [(3, .int 14), (0, .ref tx), (1, .int fr), (2, .int en)]) hx hb dX4_wordThing_106 rfl hl (by decide) rfl (fun ls hl => ?_)
              refine lv_iload_n hx hb dX4_wordThing_107 rfl (lv_at hl 0 rfl) ?_
              exact W.iret (v := 14) hx hb hr (fun t ht hW => ⟨⟨14, (), rfl, (by exact ⟨(rg_t (a := 14) (by decide) (by first | decide | omega) (by first | decide | omega)), (by rw [wk_1 (sW_in (i := 27) (by decide)) (hf44.resolve_right (fun h8 => by have := h8.1; omega)).2]; decide)⟩), by (try dsimp only); rw [ht]; exact ⟨hT, hF⟩⟩, hS.F ht⟩) hS.2.2 dX4_wordThing_108
          · have t56 : r33.toInt ≠ 0 := ti_ne c38 rfl (by decide)
            refine lv_bipush (v := 13) hx hb dX4_wordThing_67 (by decide) ?_
            refine lv_goto (tgt := 106) hx hb dX4_wordThing_69 (by decide) ?_
            refine lv_istore_n (lv' := [(3, .int 13), (0, .ref tx), (1, .int fr), (2, .int en)]) hx hb dX4_wordThing_106 rfl hl (by decide) rfl (fun ls hl => ?_)
            refine lv_iload_n hx hb dX4_wordThing_107 rfl (lv_at hl 0 rfl) ?_
            exact W.iret (v := 13) hx hb hr (fun t ht hW => ⟨⟨13, (), rfl, (by exact ⟨(rg_t (a := 13) (by decide) (by first | decide | omega) (by first | decide | omega)), (by rw [wk_1 (sW_in (i := 26) (by decide)) (hf37.resolve_right (fun h8 => by have := h8.1; omega)).2]; decide)⟩), by (try dsimp only); rw [ht]; exact ⟨hT, hF⟩⟩, hS.F ht⟩) hS.2.2 dX4_wordThing_108
        · have t57 : r26.toInt ≠ 0 := ti_ne c31 rfl (by decide)
          refine lv_bipush (v := 20) hx hb dX4_wordThing_51 (by decide) ?_
          refine lv_goto (tgt := 106) hx hb dX4_wordThing_53 (by decide) ?_
          refine lv_istore_n (lv' := [(3, .int 20), (0, .ref tx), (1, .int fr), (2, .int en)]) hx hb dX4_wordThing_106 rfl hl (by decide) rfl (fun ls hl => ?_)
          refine lv_iload_n hx hb dX4_wordThing_107 rfl (lv_at hl 0 rfl) ?_
          exact W.iret (v := 20) hx hb hr (fun t ht hW => ⟨⟨20, (), rfl, (by exact ⟨(rg_t (a := 20) (by decide) (by first | decide | omega) (by first | decide | omega)), (by rw [wk_1 (sW_in (i := 25) (by decide)) (hf30.resolve_right (fun h8 => by have := h8.1; omega)).2]; decide)⟩), by (try dsimp only); rw [ht]; exact ⟨hT, hF⟩⟩, hS.F ht⟩) hS.2.2 dX4_wordThing_108
      · have t58 : r19.toInt ≠ 0 := ti_ne c24 rfl (by decide)
        refine lv_bipush (v := 19) hx hb dX4_wordThing_35 (by decide) ?_
        refine lv_goto (tgt := 106) hx hb dX4_wordThing_37 (by decide) ?_
        refine lv_istore_n (lv' := [(3, .int 19), (0, .ref tx), (1, .int fr), (2, .int en)]) hx hb dX4_wordThing_106 rfl hl (by decide) rfl (fun ls hl => ?_)
        refine lv_iload_n hx hb dX4_wordThing_107 rfl (lv_at hl 0 rfl) ?_
        exact W.iret (v := 19) hx hb hr (fun t ht hW => ⟨⟨19, (), rfl, (by exact ⟨(rg_t (a := 19) (by decide) (by first | decide | omega) (by first | decide | omega)), (by rw [wk_1 (sW_in (i := 24) (by decide)) (hf23.resolve_right (fun h8 => by have := h8.1; omega)).2]; decide)⟩), by (try dsimp only); rw [ht]; exact ⟨hT, hF⟩⟩, hS.F ht⟩) hS.2.2 dX4_wordThing_108
