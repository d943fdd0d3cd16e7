def w_cj_coder : List Cond := .code yJ0_coder_7d493 cJ0_coder_7d493 1 (some .byte) :: (HAppend.hAppend (α := List Cond) (β := List Cond) (γ := List Cond) [.fieldLink RJ0 38 "java/lang/String" "COMPACT_STRINGS" "Z", .fieldLink RJ0 15 "java/lang/String" "coder" "B"] bs2)
set_option maxHeartbeats 4000000 in
set_option maxRecDepth 100000 in
theorem cj_coder (l : Launch) (dC : Nat → ClassId) (dI : Nat → Nat → Nat) (kA : Nat → ClassId) (adK adV : Nat → Nat) (G : gT) (H0 : Heap) (nC nS : Int)  (sk : Nat) (hT : gH (dC, dI) kA (SHc nC nS) G H0) (hsk : sk < 48) (hgC : 0 ≤ nC ∧ nC ≤ 40) (hgS : 0 ≤ nS ∧ nS ≤ 60) : Met l yJ0_coder_7d493 w_cj_coder ({ frames := 0, cells := 0, slots := 0, locals := 0 }) (va_Pc [.ref (adK sk)] (fun U => U.heap = H0 ∧ va_K (dC, dI) vwCl (tyl kA) U ∧ EVC adK adV (gA G H0.size) U U.heap)) (va_Qi (fun (r : Int32) (u : Unit) => (0 ≤ r.toInt ∧ r.toInt ≤ 0) ∧ (r = 0)) (fun (_ : Unit) (t : State) => gH (dC, dI) kA (SHc nC nS) G t.heap ∧ gF (dC, dI) SKc G ([] : List (Nat × Nat)) H0 t.heap) (gA G H0.size)) 0 0 (gA G H0.size) := by
  refine va_MetF (cc := cJ0_coder_7d493) (maxL := 1) (ret := (some .byte)) (by decide +kernel) rfl ?_
  intro p e s m args below meth c s₁ B hml hv
  obtain ⟨rfl, hH0, hK, hE⟩ := hv
  have hx := B.exec
  have hb := B.bytes
  have hr := B.returns
  have hts := atoms_spec (ws := w_cj_coder) B.pre
  have hown : s.vm.findClass RJ0 = some m.cls := findClass_of_methodNamed B.named
  have hlocks := B.notSynchronized
  subst hH0
  generalize hAe : gA G s.heap.size = A at hE ⊢
  have hA : ∀ q : Nat, s.heap.size ≤ q → A q := fun q h => by rw [← hAe]; exact Or.inr h
  have hG := gA_of hAe
  have hS : va_S A s.heap s.heap [] := va_S.rf
  have hF : gF (dC, dI) SKc G ([] : List (Nat × Nat)) s.heap s.heap := gF.rf
  have hl := lv_entry ([.ref (adK sk)]) (n := 1) (Nat.le_of_ble_eq_true rfl)
  rw [lg_entry_eq]
  generalize (lg_sl ([.ref (adK sk)]) ++ List.replicate (1 - (lg_sl ([.ref (adK sk)])).length) Slot.unset).toArray = ls at hl ⊢
  have hl : lv_has ls 1 [(0, .ref (adK sk))] := hl
  refine va_gets hx hb (v := .int 1) hE.1.2.2.2.1 hS hown (ht_at2 hts 0 rfl) (fun _ h9 => h9) dJ0_coder_7d493_0 ?_
  refine lv_if_eq (tgt := 13) hx hb dJ0_coder_7d493_3 (by decide) (fun c1 => absurd c1 (by decide)) (fun c1 => ?_)
  refine lv_aload_n hx hb dJ0_coder_7d493_6 rfl (lv_at hl 0 rfl) ?_
  refine vk_getf hx hb (v := .int 0) (hE.1.2.1 sk hsk).2.1 hS hown (ht_at2 hts 1 rfl) (fun _ h9 => h9) dJ0_coder_7d493_7 ?_
  refine lv_goto (tgt := 14) hx hb dJ0_coder_7d493_10 (by decide) ?_
  exact W.zret (v := 0) hx hb hr (by decide) (fun t ht hW => ⟨⟨0, (), rfl, (by exact ⟨(rg_t (a := 0) (by decide) (by first | decide | omega) (by first | decide | omega)), rfl⟩), by (try dsimp only); rw [ht]; exact ⟨hT, hF⟩⟩, hS.F ht⟩) hS.2.2 dJ0_coder_7d493_14
def w_cj_isLatin1 : List Cond := .code yJ0_isLatin1_aae02 cJ0_isLatin1_aae02 1 (some .boolean) :: (HAppend.hAppend (α := List Cond) (β := List Cond) (γ := List Cond) [.fieldLink RJ0 38 "java/lang/String" "COMPACT_STRINGS" "Z", .fieldLink RJ0 15 "java/lang/String" "coder" "B"] bs2)
set_option maxHeartbeats 4000000 in
set_option maxRecDepth 100000 in
theorem cj_isLatin1 (l : Launch) (dC : Nat → ClassId) (dI : Nat → Nat → Nat) (kA : Nat → ClassId) (adK adV : Nat → Nat) (G : gT) (H0 : Heap) (nC nS : Int)  (sk : Nat) (hT : gH (dC, dI) kA (SHc nC nS) G H0) (hsk : sk < 48) (hgC : 0 ≤ nC ∧ nC ≤ 40) (hgS : 0 ≤ nS ∧ nS ≤ 60) : Met l yJ0_isLatin1_aae02 w_cj_isLatin1 ({ frames := 0, cells := 0, slots := 0, locals := 0 }) (va_Pc [.ref (adK sk)] (fun U => U.heap = H0 ∧ va_K (dC, dI) vwCl (tyl kA) U ∧ EVC adK adV (gA G H0.size) U U.heap)) (va_Qi (fun (r : Int32) (u : Unit) => (1 ≤ r.toInt ∧ r.toInt ≤ 1) ∧ (r = 1)) (fun (_ : Unit) (t : State) => gH (dC, dI) kA (SHc nC nS) G t.heap ∧ gF (dC, dI) SKc G ([] : List (Nat × Nat)) H0 t.heap) (gA G H0.size)) 0 0 (gA G H0.size) := by
  refine va_MetF (cc := cJ0_isLatin1_aae02) (maxL := 1) (ret := (some .boolean)) (by decide +kernel) rfl ?_
  intro p e s m args below meth c s₁ B hml hv
  obtain ⟨rfl, hH0, hK, hE⟩ := hv
  have hx := B.exec
  have hb := B.bytes
  have hr := B.returns
  have hts := atoms_spec (ws := w_cj_isLatin1) B.pre
  have hown : s.vm.findClass RJ0 = some m.cls := findClass_of_methodNamed B.named
  have hlocks := B.notSynchronized
  subst hH0
  generalize hAe : gA G s.heap.size = A at hE ⊢
  have hA : ∀ q : Nat, s.heap.size ≤ q → A q := fun q h => by rw [← hAe]; exact Or.inr h
  have hG := gA_of hAe
  have hS : va_S A s.heap s.heap [] := va_S.rf
  have hF : gF (dC, dI) SKc G ([] : List (Nat × Nat)) s.heap s.heap := gF.rf
  have hl := lv_entry ([.ref (adK sk)]) (n := 1) (Nat.le_of_ble_eq_true rfl)
  rw [lg_entry_eq]
  generalize (lg_sl ([.ref (adK sk)]) ++ List.replicate (1 - (lg_sl ([.ref (adK sk)])).length) Slot.unset).toArray = ls at hl ⊢
  have hl : lv_has ls 1 [(0, .ref (adK sk))] := hl
  refine va_gets hx hb (v := .int 1) hE.1.2.2.2.1 hS hown (ht_at2 hts 0 rfl) (fun _ h9 => h9) dJ0_isLatin1_aae02_0 ?_
  refine lv_if_eq (tgt := 17) hx hb dJ0_isLatin1_aae02_3 (by decide) (fun c1 => absurd c1 (by decide)) (fun c1 => ?_)
  refine lv_aload_n hx hb dJ0_isLatin1_aae02_6 rfl (lv_at hl 0 rfl) ?_
  refine vk_getf hx hb (v := .int 0) (hE.1.2.1 sk hsk).2.1 hS hown (ht_at2 hts 1 rfl) (fun _ h9 => h9) dJ0_isLatin1_aae02_7 ?_
  refine lv_if_ne (tgt := 17) hx hb dJ0_isLatin1_aae02_10 (by decide) (fun c2 => absurd c2 (by decide)) (fun c2 => ?_)
  refine lv_iconst (v := 1) hx hb dJ0_isLatin1_aae02_13 (by decide) ?_
  refine lv_goto (tgt := 18) hx hb dJ0_isLatin1_aae02_14 (by decide) ?_
  exact W.zret (v := 1) hx hb hr (by decide) (fun t ht hW => ⟨⟨1, (), rfl, (by exact ⟨(rg_t (a := 1) (by decide) (by first | decide | omega) (by first | decide | omega)), rfl⟩), by (try dsimp only); rw [ht]; exact ⟨hT, hF⟩⟩, hS.F ht⟩) hS.2.2 dJ0_isLatin1_aae02_18
def w_cj_length : List Cond := .code yJ0_length_8abf5 cJ0_length_8abf5 1 (some .int) :: (HAppend.hAppend (α := List Cond) (β := List Cond) (γ := List Cond) [.fieldLink RJ0 9 "java/lang/String" "value" "[B", .code yJ0_coder_7d493 cJ0_coder_7d493 1 (some .byte), .fieldLink RJ0 38 "java/lang/String" "COMPACT_STRINGS" "Z", .fieldLink RJ0 15 "java/lang/String" "coder" "B", .methodLink RJ0 335 yJ0_coder_7d493, .instanceMethod yJ0_coder_7d493, .selects RJ0 yJ0_coder_7d493 yJ0_coder_7d493, .initialized RJ0] bs2)
set_option maxHeartbeats 4000000 in
set_option maxRecDepth 100000 in
theorem cj_length (l : Launch) (dC : Nat → ClassId) (dI : Nat → Nat → Nat) (kA : Nat → ClassId) (adK adV : Nat → Nat) (G : gT) (H0 : Heap) (nC nS : Int)  (sk : Nat) (hT : gH (dC, dI) kA (SHc nC nS) G H0) (hsk : sk < 48) (hgC : 0 ≤ nC ∧ nC ≤ 40) (hgS : 0 ≤ nS ∧ nS ≤ 60) : Met l yJ0_length_8abf5 w_cj_length ({ frames := 1, cells := 0, slots := 0, locals := 20 }) (va_Pc [.ref (adK sk)] (fun U => U.heap = H0 ∧ va_K (dC, dI) vwCl (tyl kA) U ∧ EVC adK adV (gA G H0.size) U U.heap)) (va_Qi (fun (r : Int32) (u : Unit) => (2 ≤ r.toInt ∧ r.toInt ≤ 6) ∧ (r.toInt = ((sLn sk : Nat) : Int))) (fun (_ : Unit) (t : State) => gH (dC, dI) kA (SHc nC nS) G t.heap ∧ gF (dC, dI) SKc G ([] : List (Nat × Nat)) H0 t.heap) (gA G H0.size)) 0 0 (gA G H0.size) := by
  refine va_MetF (cc := cJ0_length_8abf5) (maxL := 1) (ret := (some .int)) (by decide +kernel) rfl ?_
  intro p e s m args below meth c s₁ B hml hv
  obtain ⟨rfl, hH0, hK, hE⟩ := hv
  have hx := B.exec
  have hb := B.bytes
  have hr := B.returns
  have hts := atoms_spec (ws := w_cj_length) B.pre
  have hown : s.vm.findClass RJ0 = some m.cls := findClass_of_methodNamed B.named
  have hlocks := B.notSynchronized
  subst hH0
  generalize hAe : gA G s.heap.size = A at hE ⊢
  have hA : ∀ q : Nat, s.heap.size ≤ q → A q := fun q h => by rw [← hAe]; exact Or.inr h
  have hG := gA_of hAe
  have hS : va_S A s.heap s.heap [] := va_S.rf
  have hF : gF (dC, dI) SKc G ([] : List (Nat × Nat)) s.heap s.heap := gF.rf
  have hl := lv_entry ([.ref (adK sk)]) (n := 1) (Nat.le_of_ble_eq_true rfl)
  rw [lg_entry_eq]
  generalize (lg_sl ([.ref (adK sk)]) ++ List.replicate (1 - (lg_sl ([.ref (adK sk)])).length) Slot.unset).toArray = ls at hl ⊢
  have hl : lv_has ls 1 [(0, .ref (adK sk))] := hl
  refine lv_aload_n hx hb dJ0_length_8abf5_0 rfl (lv_at hl 0 rfl) ?_
  refine vk_getf hx hb (v := .ref (adV sk)) (hE.1.2.1 sk hsk).2.2.1 hS hown (ht_at2 hts 0 rfl) (fun _ h9 => h9) dJ0_length_8abf5_1 ?_
  obtain ⟨fb9, hb9⟩ := (hE.1.2.1 sk hsk).2.2.2
  obtain ⟨x1, ex1⟩ : ∃ y : Int32, Int32.ofNat (sLn sk) = y := ⟨_, rfl⟩
  have t2 : x1.toInt = ((sLn sk : Nat) : Int) := sLn_i hsk ex1
  have t3 : 2 ≤ sLn sk ∧ sLn sk ≤ 6 := sLn_b hsk
  refine va_tlen hx hb hb9 hS ex1 dJ0_length_8abf5_4 ?_
  refine lv_aload_n hx hb dJ0_length_8abf5_5 rfl (lv_at hl 0 rfl) ?_
  have hFc := gA_free hG hA hS
  refine va_calli (va_runV (As := []) (rest := [.int x1]) ⟨hx, hb, hml, hown, hts⟩ (cj_coder l dC dI kA adK adV G s.heap nC nS sk hT hsk (by omega) (by omega)) (cwV 0 hts (goodIn_app (goodIn_r _ [5, 6, 7, 8] rfl (by decide +kernel)) (goodIn_ca (goodIn_r _ [2, 3, 4] rfl (by decide +kernel)) (bs2_in _ _))) rfl rfl rfl (by decide +kernel) ⟨(Nat.le_of_ble_eq_true rfl), (Nat.le_of_ble_eq_true rfl)⟩) ⟨fun a U g mk q => by obtain ⟨q0, q1, qK, qE⟩ := q; exact ⟨q0, q1, va_K.moved (u := U) (U := U.calling g mk a) (Vm.Alike.refl U.vm) qK, EVC.blind g mk a qE⟩, hE.recv (i := sk) hsk hS, fun U hU hW => ⟨rfl, hU, va_K.moved hW.alike hK, hE.call hS hFc hU hW⟩⟩ rfl rfl hl.1 rfl (lv_room (Nat.le_of_ble_eq_true rfl)) dJ0_length_8abf5_6 ⟨(Nat.le_of_ble_eq_true rfl), (Nat.le_of_ble_eq_true rfl)⟩) hS (fun q _ h => hFc q h) hFc (fun r4 u t H locs ht hvm hw5 hB _ _ hS => ?_)
  obtain ⟨hT, hF1⟩ := hB
  rw [ht] at hT hF1
  have hF := hF.more hF1 (by decide)
  try dsimp only at hw5
  obtain ⟨h6, hd7⟩ := hw5
  obtain rfl : (0 : Int32) = r4 := hd7.symm
  refine lv_ishr hx hb dJ0_length_8abf5_9 ?_
  refine lv_topi (fun x8 ex8 => ?_)
  obtain rfl : x1 = x8 := (ex8.trans (shr_0 _)).symm
  exact W.iret (v := x1) hx hb hr (fun t ht hW => ⟨⟨x1, (), rfl, (by exact ⟨(by have q8 := ti_all x1; omega), (by omega)⟩), by (try dsimp only); rw [ht]; exact ⟨hT, hF⟩⟩, hS.F ht⟩) hS.2.2 dJ0_length_8abf5_10
def w_cj_check3N : List Cond := .code yJ3_checkIndex_8e157 cJ3_checkIndex_8e157 3 (some .int) :: (HAppend.hAppend (α := List Cond) (β := List Cond) (γ := List Cond) [] bs2)
set_option maxHeartbeats 4000000 in
set_option maxRecDepth 100000 in
theorem cj_check3N (l : Launch) (dC : Nat → ClassId) (dI : Nat → Nat → Nat) (kA : Nat → ClassId) (adK adV : Nat → Nat) (G : gT) (H0 : Heap) (nC nS : Int) (ci : Int32) (cn : Int32)  (hT : gH (dC, dI) kA (SHc nC nS) G H0) (hq0 : 0 ≤ ci.toInt ∧ ci.toInt ≤ 2147483647) (hci : ci.toInt < cn.toInt) (hgC : 0 ≤ nC ∧ nC ≤ 40) (hgS : 0 ≤ nS ∧ nS ≤ 60) : Met l yJ3_checkIndex_8e157 w_cj_check3N ({ frames := 0, cells := 0, slots := 0, locals := 0 }) (va_Pc [.int ci, .int cn, .null] (fun U => U.heap = H0 ∧ va_K (dC, dI) vwCl (tyl kA) U ∧ EVC adK adV (gA G H0.size) U U.heap)) (va_Qi (fun (r : Int32) (u : Unit) => (0 ≤ r.toInt ∧ r.toInt ≤ 2147483647)) (fun (_ : Unit) (t : State) => gH (dC, dI) kA (SHc nC nS) G t.heap ∧ gF (dC, dI) SKc G ([] : List (Nat × Nat)) H0 t.heap) (gA G H0.size)) 0 0 (gA G H0.size) := by
  refine va_MetF (cc := cJ3_checkIndex_8e157) (maxL := 3) (ret := (some .int)) (by decide +kernel) rfl ?_
  intro p e s m args below meth c s₁ B hml hv
  obtain ⟨rfl, hH0, hK, hE⟩ := hv
  have hx := B.exec
  have hb := B.bytes
  have hr := B.returns
  have hts := atoms_spec (ws := w_cj_check3N) B.pre
  have hown : s.vm.findClass RJ3 = some m.cls := findClass_of_methodNamed B.named
  have hlocks := B.notSynchronized
  subst hH0
  generalize hAe : gA G s.heap.size = A at hE ⊢
  have hA : ∀ q : Nat, s.heap.size ≤ q → A q := fun q h => by rw [← hAe]; exact Or.inr h
  have hG := gA_of hAe
  have hS : va_S A s.heap s.heap [] := va_S.rf
  have hF : gF (dC, dI) SKc G ([] : List (Nat × Nat)) s.heap s.heap := gF.rf
  have hl := lv_entry ([.int ci, .int cn, .null]) (n := 3) (Nat.le_of_ble_eq_true rfl)
  rw [lg_entry_eq]
  generalize (lg_sl ([.int ci, .int cn, .null]) ++ List.replicate (3 - (lg_sl ([.int ci, .int cn, .null])).length) Slot.unset).toArray = ls at hl ⊢
  have hl : lv_has ls 3 [(0, .int ci), (1, .int cn), (2, .null)] := hl
  refine lv_iload_n hx hb dJ3_checkIndex_8e157_0 rfl (lv_at hl 0 rfl) ?_
  have t1 : -2147483648 ≤ ci.toInt ∧ ci.toInt ≤ 2147483647 := ti_all ci
  refine lv_if_lt (tgt := 9) hx hb dJ3_checkIndex_8e157_1 (by decide) (fun c2 => (by exfalso; have q9 : ci.toInt < 0 := ti_lt c2 rfl (by decide); have := ti_all ci; omega)) (fun c2 => ?_)
  have t3 : 0 ≤ ci.toInt := ti_nlt c2 rfl (by decide)
  refine lv_iload_n hx hb dJ3_checkIndex_8e157_4 rfl (lv_at hl 0 rfl) ?_
  refine lv_iload_n hx hb dJ3_checkIndex_8e157_5 rfl (lv_at hl 1 rfl) ?_
  have t4 : -2147483648 ≤ cn.toInt ∧ cn.toInt ≤ 2147483647 := ti_all cn
  refine lv_icmp_lt (tgt := 16) hx hb dJ3_checkIndex_8e157_6 (by decide) (fun c5 => ?_) (fun c5 => ?_)
  · have t6 : ci.toInt < cn.toInt := ti_lt c5 rfl rfl
    refine lv_iload_n hx hb dJ3_checkIndex_8e157_16 rfl (lv_at hl 0 rfl) ?_
    exact W.iret (v := ci) hx hb hr (fun t ht hW => ⟨⟨ci, (), rfl, (by exact (by have q8 := ti_all ci; omega)), by (try dsimp only); rw [ht]; exact ⟨hT, hF⟩⟩, hS.F ht⟩) hS.2.2 dJ3_checkIndex_8e157_17
  · have t7 : cn.toInt ≤ ci.toInt := ti_nlt c5 rfl rfl
    exfalso; omega
def w_cj_check3R : List Cond := .code yJ3_checkIndex_8e157 cJ3_checkIndex_8e157 3 (some .int) :: (HAppend.hAppend (α := List Cond) (β := List Cond) (γ := List Cond) [] bs2)
set_option maxHeartbeats 4000000 in
set_option maxRecDepth 100000 in
theorem cj_check3R (l : Launch) (dC : Nat → ClassId) (dI : Nat → Nat → Nat) (kA : Nat → ClassId) (adK adV : Nat → Nat) (G : gT) (H0 : Heap) (nC nS : Int) (ci : Int32) (cn : Int32) (fa : Nat)  (hT : gH (dC, dI) kA (SHc nC nS) G H0) (hq0 : 0 ≤ ci.toInt ∧ ci.toInt ≤ 2147483647) (hci : ci.toInt < cn.toInt) (hgC : 0 ≤ nC ∧ nC ≤ 40) (hgS : 0 ≤ nS ∧ nS ≤ 60) : Met l yJ3_checkIndex_8e157 w_cj_check3R ({ frames := 0, cells := 0, slots := 0, locals := 0 }) (va_Pc [.int ci, .int cn, .ref fa] (fun U => U.heap = H0 ∧ va_K (dC, dI) vwCl (tyl kA) U ∧ EVC adK adV (gA G H0.size) U U.heap)) (va_Qi (fun (r : Int32) (u : Unit) => (0 ≤ r.toInt ∧ r.toInt ≤ 2147483647)) (fun (_ : Unit) (t : State) => gH (dC, dI) kA (SHc nC nS) G t.heap ∧ gF (dC, dI) SKc G ([] : List (Nat × Nat)) H0 t.heap) (gA G H0.size)) 0 0 (gA G H0.size) := by
  refine va_MetF (cc := cJ3_checkIndex_8e157) (maxL := 3) (ret := (some .int)) (by decide +kernel) rfl ?_
  intro p e s m args below meth c s₁ B hml hv
  obtain ⟨rfl, hH0, hK, hE⟩ := hv
  have hx := B.exec
  have hb := B.bytes
  have hr := B.returns
  have hts := atoms_spec (ws := w_cj_check3R) B.pre
  have hown : s.vm.findClass RJ3 = some m.cls := findClass_of_methodNamed B.named
  have hlocks := B.notSynchronized
  subst hH0
  generalize hAe : gA G s.heap.size = A at hE ⊢
  have hA : ∀ q : Nat, s.heap.size ≤ q → A q := fun q h => by rw [← hAe]; exact Or.inr h
  have hG := gA_of hAe
  have hS : va_S A s.heap s.heap [] := va_S.rf
  have hF : gF (dC, dI) SKc G ([] : List (Nat × Nat)) s.heap s.heap := gF.rf
  have hl := lv_entry ([.int ci, .int cn, .ref fa]) (n := 3) (Nat.le_of_ble_eq_true rfl)
  rw [lg_entry_eq]
  generalize (lg_sl ([.int ci, .int cn, .ref fa]) ++ List.replicate (3 - (lg_sl ([.int ci, .int cn, .ref fa])).length) Slot.unset).toArray = ls at hl ⊢
  have hl : lv_has ls 3 [(0, .int ci), (1, .int cn), (2, .ref fa)] := hl
  refine lv_iload_n hx hb dJ3_checkIndex_8e157_0 rfl (lv_at hl 0 rfl) ?_
  have t1 : -2147483648 ≤ ci.toInt ∧ ci.toInt ≤ 2147483647 := ti_all ci
  refine lv_if_lt (tgt := 9) hx hb dJ3_checkIndex_8e157_1 (by decide) (fun c2 => (by exfalso; have q9 : ci.toInt < 0 := ti_lt c2 rfl (by decide); have := ti_all ci; omega)) (fun c2 => ?_)
  have t3 : 0 ≤ ci.toInt := ti_nlt c2 rfl (by decide)
  refine lv_iload_n hx hb dJ3_checkIndex_8e157_4 rfl (lv_at hl 0 rfl) ?_
  refine lv_iload_n hx hb dJ3_checkIndex_8e157_5 rfl (lv_at hl 1 rfl) ?_
  have t4 : -2147483648 ≤ cn.toInt ∧ cn.toInt ≤ 2147483647 := ti_all cn
  refine lv_icmp_lt (tgt := 16) hx hb dJ3_checkIndex_8e157_6 (by decide) (fun c5 => ?_) (fun c5 => ?_)
  · have t6 : ci.toInt < cn.toInt := ti_lt c5 rfl rfl
    refine lv_iload_n hx hb dJ3_checkIndex_8e157_16 rfl (lv_at hl 0 rfl) ?_
    exact W.iret (v := ci) hx hb hr (fun t ht hW => ⟨⟨ci, (), rfl, (by exact (by have q8 := ti_all ci; omega)), by (try dsimp only); rw [ht]; exact ⟨hT, hF⟩⟩, hS.F ht⟩) hS.2.2 dJ3_checkIndex_8e157_17
  · have t7 : cn.toInt ≤ ci.toInt := ti_nlt c5 rfl rfl
    exfalso; omega
def w_cj_check0 : List Cond := .code yJ0_checkIndex_df160 cJ0_checkIndex_df160 2 none :: (HAppend.hAppend (α := List Cond) (β := List Cond) (γ := List Cond) [.fieldLink RJ0 1053 "jdk/internal/util/Preconditions" "SIOOBE_FORMATTER" "Ljava/util/function/BiFunction;", .code yJ3_checkIndex_8e157 cJ3_checkIndex_8e157 3 (some .int), .methodLink RJ0 1059 yJ3_checkIndex_8e157, .static yJ3_checkIndex_8e157, .initialized RJ3] bs2)
set_option maxHeartbeats 4000000 in
set_option maxRecDepth 100000 in
theorem cj_check0 (l : Launch) (dC : Nat → ClassId) (dI : Nat → Nat → Nat) (kA : Nat → ClassId) (adK adV : Nat → Nat) (G : gT) (H0 : Heap) (nC nS : Int) (ci : Int32) (cn : Int32)  (hT : gH (dC, dI) kA (SHc nC nS) G H0) (hq0 : 0 ≤ ci.toInt ∧ ci.toInt ≤ 2147483647) (hci : ci.toInt < cn.toInt) (hgC : 0 ≤ nC ∧ nC ≤ 40) (hgS : 0 ≤ nS ∧ nS ≤ 60) : Met l yJ0_checkIndex_df160 w_cj_check0 ({ frames := 1, cells := 0, slots := 0, locals := 22 }) (va_Pc [.int ci, .int cn] (fun U => U.heap = H0 ∧ va_K (dC, dI) vwCl (tyl kA) U ∧ EVC adK adV (gA G H0.size) U U.heap)) (va_Qv (fun (u : Unit) => True) (fun (_ : Unit) (t : State) => gH (dC, dI) kA (SHc nC nS) G t.heap ∧ gF (dC, dI) SKc G ([] : List (Nat × Nat)) H0 t.heap) (gA G H0.size)) 0 0 (gA G H0.size) := by
  refine va_MetF (cc := cJ0_checkIndex_df160) (maxL := 2) (ret := none) (by decide +kernel) rfl ?_
  intro p e s m args below meth c s₁ B hml hv
  obtain ⟨rfl, hH0, hK, hE⟩ := hv
  have hx := B.exec
  have hb := B.bytes
  have hr := B.returns
  have hts := atoms_spec (ws := w_cj_check0) B.pre
  have hown : s.vm.findClass RJ0 = some m.cls := findClass_of_methodNamed B.named
  have hlocks := B.notSynchronized
  subst hH0
  generalize hAe : gA G s.heap.size = A at hE ⊢
  have hA : ∀ q : Nat, s.heap.size ≤ q → A q := fun q h => by rw [← hAe]; exact Or.inr h
  have hG := gA_of hAe
  have hS : va_S A s.heap s.heap [] := va_S.rf
  have hF : gF (dC, dI) SKc G ([] : List (Nat × Nat)) s.heap s.heap := gF.rf
  have hl := lv_entry ([.int ci, .int cn]) (n := 2) (Nat.le_of_ble_eq_true rfl)
  rw [lg_entry_eq]
  generalize (lg_sl ([.int ci, .int cn]) ++ List.replicate (2 - (lg_sl ([.int ci, .int cn])).length) Slot.unset).toArray = ls at hl ⊢
  have hl : lv_has ls 2 [(0, .int ci), (1, .int cn)] := hl
  refine lv_iload_n hx hb dJ0_checkIndex_df160_0 rfl (lv_at hl 0 rfl) ?_
  refine lv_iload_n hx hb dJ0_checkIndex_df160_1 rfl (lv_at hl 1 rfl) ?_
  rcases hE.1.2.2.2.2 with hz9 | ⟨ta, hz9⟩
  · refine va_gets hx hb (v := .null) hz9 hS hown (ht_at2 hts 0 rfl) (fun _ h9 => h9) dJ0_checkIndex_df160_2 ?_
    have hFc := gA_free hG hA hS
    refine va_calli (va_runS (As := [.int ci, .int cn, .null]) (rest := []) ⟨hx, hb, hml, hown, hts⟩ (cj_check3N l dC dI kA adK adV G s.heap nC nS ci cn hT (by have q8 := ti_all ci; omega) (by omega) (by omega) (by omega)) (va_cwS 3 hts (goodIn_app (goodIn_r _ [3, 4, 5] rfl (by decide +kernel)) (goodIn_ca (goodIn_r _ [2] rfl (by decide +kernel)) (bs2_in _ _))) rfl rfl rfl (by decide +kernel) ⟨(Nat.le_of_ble_eq_true rfl), (Nat.le_of_ble_eq_true rfl)⟩) ⟨fun a U g mk q => by obtain ⟨q0, q1, qK, qE⟩ := q; exact ⟨q0, q1, va_K.moved (u := U) (U := U.calling g mk a) (Vm.Alike.refl U.vm) qK, EVC.blind g mk a qE⟩, fun U hU hW => ⟨rfl, hU, va_K.moved hW.alike hK, hE.call hS hFc hU hW⟩⟩ rfl rfl hl.1 rfl (lv_room (Nat.le_of_ble_eq_true rfl)) dJ0_checkIndex_df160_5 ⟨(Nat.le_of_ble_eq_true rfl), (Nat.le_of_ble_eq_true rfl)⟩) hS (fun q _ h => hFc q h) hFc (fun r1 u t H locs ht hvm hw2 hB _ _ hS => ?_)
    obtain ⟨hT, hF1⟩ := hB
    rw [ht] at hT hF1
    have hF := hF.more hF1 (by decide)
    try dsimp only at hw2
    have h3 := hw2
    refine lv_pop hx hb dJ0_checkIndex_df160_8 rfl ?_
    exact W.vret hx hb hr (fun t ht hW => ⟨⟨(), rfl, (by exact trivial), by (try dsimp only); rw [ht]; exact ⟨hT, hF⟩⟩, hS.F ht⟩) hS.2.2 dJ0_checkIndex_df160_9
  · refine va_gets hx hb (v := .ref ta) hz9 hS hown (ht_at2 hts 0 rfl) (fun _ h9 => h9) dJ0_checkIndex_df160_2 ?_
    have hFc := gA_free hG hA hS
    refine va_calli (va_runS (As := [.int ci, .int cn, .ref ta]) (rest := []) ⟨hx, hb, hml, hown, hts⟩ (cj_check3R l dC dI kA adK adV G s.heap nC nS ci cn ta hT (by have q8 := ti_all ci; omega) (by omega) (by omega) (by omega)) (va_cwS 3 hts (goodIn_app (goodIn_r _ [3, 4, 5] rfl (by decide +kernel)) (goodIn_ca (goodIn_r _ [2] rfl (by decide +kernel)) (bs2_in _ _))) rfl rfl rfl (by decide +kernel) ⟨(Nat.le_of_ble_eq_true rfl), (Nat.le_of_ble_eq_true rfl)⟩) ⟨fun a U g mk q => by obtain ⟨q0, q1, qK, qE⟩ := q; exact ⟨q0, q1, va_K.moved (u := U) (U := U.calling g mk a) (Vm.Alike.refl U.vm) qK, EVC.blind g mk a qE⟩, fun U hU hW => ⟨rfl, hU, va_K.moved hW.alike hK, hE.call hS hFc hU hW⟩⟩ rfl rfl hl.1 rfl (lv_room (Nat.le_of_ble_eq_true rfl)) dJ0_checkIndex_df160_5 ⟨(Nat.le_of_ble_eq_true rfl), (Nat.le_of_ble_eq_true rfl)⟩) hS (fun q _ h => hFc q h) hFc (fun r4 u t H locs ht hvm hw5 hB _ _ hS => ?_)
    obtain ⟨hT, hF1⟩ := hB
    rw [ht] at hT hF1
    have hF := hF.more hF1 (by decide)
    try dsimp only at hw5
    have h6 := hw5
    refine lv_pop hx hb dJ0_checkIndex_df160_8 rfl ?_
    exact W.vret hx hb hr (fun t ht hW => ⟨⟨(), rfl, (by exact trivial), by (try dsimp only); rw [ht]; exact ⟨hT, hF⟩⟩, hS.F ht⟩) hS.2.2 dJ0_checkIndex_df160_9
def w_cj_charAt1 : List Cond := .code yJ1_charAt_3b067 cJ1_charAt_3b067 2 (some .char) :: (HAppend.hAppend (α := List Cond) (β := List Cond) (γ := List Cond) [.code yJ0_checkIndex_df160 cJ0_checkIndex_df160 2 none, .fieldLink RJ0 1053 "jdk/internal/util/Preconditions" "SIOOBE_FORMATTER" "Ljava/util/function/BiFunction;", .code yJ3_checkIndex_8e157 cJ3_checkIndex_8e157 3 (some .int), .methodLink RJ0 1059 yJ3_checkIndex_8e157, .static yJ3_checkIndex_8e157, .initialized RJ3, .methodLink RJ1 9 yJ0_checkIndex_df160, .static yJ0_checkIndex_df160, .initialized RJ0] bs2)
set_option maxHeartbeats 4000000 in
set_option maxRecDepth 100000 in
theorem cj_charAt1 (l : Launch) (dC : Nat → ClassId) (dI : Nat → Nat → Nat) (kA : Nat → ClassId) (adK adV : Nat → Nat) (G : gT) (H0 : Heap) (nC nS : Int) (ci : Int32) (sk : Nat) (hT : gH (dC, dI) kA (SHc nC nS) G H0) (hq0 : 0 ≤ ci.toInt ∧ ci.toInt ≤ 6) (hci : ci.toInt < ((sLn sk : Nat) : Int)) (hsk : sk < 48) (hgC : 0 ≤ nC ∧ nC ≤ 40) (hgS : 0 ≤ nS ∧ nS ≤ 60) : Met l yJ1_charAt_3b067 w_cj_charAt1 ({ frames := 2, cells := 0, slots := 0, locals := 43 }) (va_Pc [.ref (adV sk), .int ci] (fun U => U.heap = H0 ∧ va_K (dC, dI) vwCl (tyl kA) U ∧ EVC adK adV (gA G H0.size) U U.heap)) (va_Qi (fun (r : Int32) (u : Unit) => (narrow .char (.int r) = .int r)) (fun (_ : Unit) (t : State) => gH (dC, dI) kA (SHc nC nS) G t.heap ∧ gF (dC, dI) SKc G ([] : List (Nat × Nat)) H0 t.heap) (gA G H0.size)) 0 0 (gA G H0.size) := by
  refine va_MetF (cc := cJ1_charAt_3b067) (maxL := 2) (ret := (some .char)) (by decide +kernel) rfl ?_
  intro p e s m args below meth c s₁ B hml hv
  obtain ⟨rfl, hH0, hK, hE⟩ := hv
  have hx := B.exec
  have hb := B.bytes
  have hr := B.returns
  have hts := atoms_spec (ws := w_cj_charAt1) B.pre
  have hown : s.vm.findClass RJ1 = some m.cls := findClass_of_methodNamed B.named
  have hlocks := B.notSynchronized
  subst hH0
  generalize hAe : gA G s.heap.size = A at hE ⊢
  have hA : ∀ q : Nat, s.heap.size ≤ q → A q := fun q h => by rw [← hAe]; exact Or.inr h
  have hG := gA_of hAe
  have hS : va_S A s.heap s.heap [] := va_S.rf
  have hF : gF (dC, dI) SKc G ([] : List (Nat × Nat)) s.heap s.heap := gF.rf
  have hl := lv_entry ([.ref (adV sk), .int ci]) (n := 2) (Nat.le_of_ble_eq_true rfl)
  rw [lg_entry_eq]
  generalize (lg_sl ([.ref (adV sk), .int ci]) ++ List.replicate (2 - (lg_sl ([.ref (adV sk), .int ci])).length) Slot.unset).toArray = ls at hl ⊢
  have hl : lv_has ls 2 [(0, .ref (adV sk)), (1, .int ci)] := hl
  refine lv_iload_n hx hb dJ1_charAt_3b067_0 rfl (lv_at hl 1 rfl) ?_
  refine lv_aload_n hx hb dJ1_charAt_3b067_1 rfl (lv_at hl 0 rfl) ?_
  obtain ⟨fb9, hb9⟩ := (hE.1.2.1 sk hsk).2.2.2
  obtain ⟨x1, ex1⟩ : ∃ y : Int32, Int32.ofNat (sLn sk) = y := ⟨_, rfl⟩
  have t2 : x1.toInt = ((sLn sk : Nat) : Int) := sLn_i hsk ex1
  have t3 : 2 ≤ sLn sk ∧ sLn sk ≤ 6 := sLn_b hsk
  refine va_tlen hx hb hb9 hS ex1 dJ1_charAt_3b067_2 ?_
  have hFc := gA_free hG hA hS
  refine va_callv (va_runS (As := [.int ci, .int x1]) (rest := []) ⟨hx, hb, hml, hown, hts⟩ (cj_check0 l dC dI kA adK adV G s.heap nC nS ci x1 hT (by have q8 := ti_all ci; omega) (by omega) (by omega) (by omega)) (va_cwS 2 hts (goodIn_app (goodIn_r _ [7, 8, 9] rfl (by decide +kernel)) (goodIn_ca (goodIn_r _ [1, 2, 3, 4, 5, 6] rfl (by decide +kernel)) (bs2_in _ _))) rfl rfl rfl (by decide +kernel) ⟨(Nat.le_of_ble_eq_true rfl), (Nat.le_of_ble_eq_true rfl)⟩) ⟨fun a U g mk q => by obtain ⟨q0, q1, qK, qE⟩ := q; exact ⟨q0, q1, va_K.moved (u := U) (U := U.calling g mk a) (Vm.Alike.refl U.vm) qK, EVC.blind g mk a qE⟩, fun U hU hW => ⟨rfl, hU, va_K.moved hW.alike hK, hE.call hS hFc hU hW⟩⟩ rfl rfl hl.1 rfl (lv_room (Nat.le_of_ble_eq_true rfl)) dJ1_charAt_3b067_3 ⟨(Nat.le_of_ble_eq_true rfl), (Nat.le_of_ble_eq_true rfl)⟩) hS (fun q _ h => hFc q h) hFc (fun u t H locs ht hvm hw5 hB _ _ hS => ?_)
  obtain ⟨hT, hF1⟩ := hB
  rw [ht] at hT hF1
  have hF := hF.more hF1 (by decide)
  try dsimp only at hw5
  refine lv_aload_n hx hb dJ1_charAt_3b067_6 rfl (lv_at hl 0 rfl) ?_
  refine lv_iload_n hx hb dJ1_charAt_3b067_7 rfl (lv_at hl 1 rfl) ?_
  obtain ⟨fb9, hb9⟩ := (hE.1.2.1 sk hsk).2.2.2
  refine va_tb hx hb hb9 hS (i := ci) (vin_t (a := ci.toInt) rfl (by omega) (by omega)) rfl dJ1_charAt_3b067_8 ?_
  refine lv_topi (fun x7 ex7 => ?_)
  refine lv_sipush (v := 255) hx hb dJ1_charAt_3b067_9 (by decide) ?_
  refine lv_iand hx hb dJ1_charAt_3b067_12 ?_
  refine lv_topi (fun x8 ex8 => ?_)
  have t9 : 0 ≤ x8.toInt ∧ x8.toInt ≤ 255 := by rw [ex8]; exact and_nn (show (255 : Int32).toInt = 255 from (by decide)) (by omega)
  refine lv_i2c hx hb dJ1_charAt_3b067_13 rfl ?_
  refine lv_topi (fun x11 ex11 => ?_)
  have hnc_ : narrow .char (.int x11) = .int x11 := by rw [ex11]; exact nar_c _
  exact W.zret (v := x11) hx hb hr hnc_ (fun t ht hW => ⟨⟨x11, (), rfl, (by exact hnc_), by (try dsimp only); rw [ht]; exact ⟨hT, hF⟩⟩, hS.F ht⟩) hS.2.2 dJ1_charAt_3b067_14
def w_cj_charAt : List Cond := .code yJ0_charAt_5068e cJ0_charAt_5068e 2 (some .char) :: (HAppend.hAppend (α := List Cond) (β := List Cond) (γ := List Cond) [.code yJ0_isLatin1_aae02 cJ0_isLatin1_aae02 1 (some .boolean), .fieldLink RJ0 38 "java/lang/String" "COMPACT_STRINGS" "Z", .fieldLink RJ0 15 "java/lang/String" "coder" "B", .methodLink RJ0 492 yJ0_isLatin1_aae02, .instanceMethod yJ0_isLatin1_aae02, .selects RJ0 yJ0_isLatin1_aae02 yJ0_isLatin1_aae02, .initialized RJ0, .fieldLink RJ0 9 "java/lang/String" "value" "[B", .code yJ1_charAt_3b067 cJ1_charAt_3b067 2 (some .char), .code yJ0_checkIndex_df160 cJ0_checkIndex_df160 2 none, .fieldLink RJ0 1053 "jdk/internal/util/Preconditions" "SIOOBE_FORMATTER" "Ljava/util/function/BiFunction;", .code yJ3_checkIndex_8e157 cJ3_checkIndex_8e157 3 (some .int), .methodLink RJ0 1059 yJ3_checkIndex_8e157, .static yJ3_checkIndex_8e157, .initialized RJ3, .methodLink RJ1 9 yJ0_checkIndex_df160, .static yJ0_checkIndex_df160, .methodLink RJ0 495 yJ1_charAt_3b067, .static yJ1_charAt_3b067, .initialized RJ1] bs2)
set_option maxHeartbeats 4000000 in
set_option maxRecDepth 100000 in
theorem cj_charAt (l : Launch) (dC : Nat → ClassId) (dI : Nat → Nat → Nat) (kA : Nat → ClassId) (adK adV : Nat → Nat) (G : gT) (H0 : Heap) (nC nS : Int) (ci : Int32) (sk : Nat) (hT : gH (dC, dI) kA (SHc nC nS) G H0) (hq0 : 0 ≤ ci.toInt ∧ ci.toInt ≤ 6) (hci : ci.toInt < ((sLn sk : Nat) : Int)) (hsk : sk < 48) (hgC : 0 ≤ nC ∧ nC ≤ 40) (hgS : 0 ≤ nS ∧ nS ≤ 60) : Met l yJ0_charAt_5068e w_cj_charAt ({ frames := 3, cells := 0, slots := 0, locals := 64 }) (va_Pc [.ref (adK sk), .int ci] (fun U => U.heap = H0 ∧ va_K (dC, dI) vwCl (tyl kA) U ∧ EVC adK adV (gA G H0.size) U U.heap)) (va_Qi (fun (r : Int32) (u : Unit) => True) (fun (_ : Unit) (t : State) => gH (dC, dI) kA (SHc nC nS) G t.heap ∧ gF (dC, dI) SKc G ([] : List (Nat × Nat)) H0 t.heap) (gA G H0.size)) 0 0 (gA G H0.size) := by
  refine va_MetF (cc := cJ0_charAt_5068e) (maxL := 2) (ret := (some .char)) (by decide +kernel) rfl ?_
  intro p e s m args below meth c s₁ B hml hv
  obtain ⟨rfl, hH0, hK, hE⟩ := hv
  have hx := B.exec
  have hb := B.bytes
  have hr := B.returns
  have hts := atoms_spec (ws := w_cj_charAt) B.pre
  have hown : s.vm.findClass RJ0 = some m.cls := findClass_of_methodNamed B.named
  have hlocks := B.notSynchronized
  subst hH0
  generalize hAe : gA G s.heap.size = A at hE ⊢
  have hA : ∀ q : Nat, s.heap.size ≤ q → A q := fun q h => by rw [← hAe]; exact Or.inr h
  have hG := gA_of hAe
  have hS : va_S A s.heap s.heap [] := va_S.rf
  have hF : gF (dC, dI) SKc G ([] : List (Nat × Nat)) s.heap s.heap := gF.rf
  have hl := lv_entry ([.ref (adK sk), .int ci]) (n := 2) (Nat.le_of_ble_eq_true rfl)
  rw [lg_entry_eq]
  generalize (lg_sl ([.ref (adK sk), .int ci]) ++ List.replicate (2 - (lg_sl ([.ref (adK sk), .int ci])).length) Slot.unset).toArray = ls at hl ⊢
  have hl : lv_has ls 2 [(0, .ref (adK sk)), (1, .int ci)] := hl
  refine lv_aload_n hx hb dJ0_charAt_5068e_0 rfl (lv_at hl 0 rfl) ?_
  have hFc := gA_free hG hA hS
  refine va_calli (va_runV (As := []) (rest := []) ⟨hx, hb, hml, hown, hts⟩ (cj_isLatin1 l dC dI kA adK adV G s.heap nC nS sk hT hsk (by omega) (by omega)) (cwV 0 hts (goodIn_app (goodIn_r _ [4, 5, 6, 7] rfl (by decide +kernel)) (goodIn_ca (goodIn_r _ [1, 2, 3] rfl (by decide +kernel)) (bs2_in _ _))) rfl rfl rfl (by decide +kernel) ⟨(Nat.le_of_ble_eq_true rfl), (Nat.le_of_ble_eq_true rfl)⟩) ⟨fun a U g mk q => by obtain ⟨q0, q1, qK, qE⟩ := q; exact ⟨q0, q1, va_K.moved (u := U) (U := U.calling g mk a) (Vm.Alike.refl U.vm) qK, EVC.blind g mk a qE⟩, hE.recv (i := sk) hsk hS, fun U hU hW => ⟨rfl, hU, va_K.moved hW.alike hK, hE.call hS hFc hU hW⟩⟩ rfl rfl hl.1 rfl (lv_room (Nat.le_of_ble_eq_true rfl)) dJ0_charAt_5068e_1 ⟨(Nat.le_of_ble_eq_true rfl), (Nat.le_of_ble_eq_true rfl)⟩) hS (fun q _ h => hFc q h) hFc (fun r1 u t H locs ht hvm hw2 hB _ _ hS => ?_)
  obtain ⟨hT, hF1⟩ := hB
  rw [ht] at hT hF1
  have hF := hF.more hF1 (by decide)
  try dsimp only at hw2
  obtain ⟨h3, hd4⟩ := hw2
  obtain rfl : (1 : Int32) = r1 := hd4.symm
  refine lv_if_eq (tgt := 16) hx hb dJ0_charAt_5068e_4 (by decide) (fun c5 => absurd c5 (by decide)) (fun c5 => ?_)
  refine lv_aload_n hx hb dJ0_charAt_5068e_7 rfl (lv_at hl 0 rfl) ?_
  refine vk_getf hx hb (v := .ref (adV sk)) (hE.1.2.1 sk hsk).2.2.1 hS hown (ht_at2 hts 7 rfl) (fun _ h9 => h9) dJ0_charAt_5068e_8 ?_
  refine lv_iload_n hx hb dJ0_charAt_5068e_11 rfl (lv_at hl 1 rfl) ?_
  have hFc := gA_free hG hA hS
  refine va_calli (va_runS (As := [.ref (adV sk), .int ci]) (rest := []) ⟨hx, hb, hml, hown, hts⟩ (cj_charAt1 l dC dI kA adK adV G H nC nS ci sk hT (by have q8 := ti_all ci; omega) (by omega) hsk (by omega) (by omega)) (va_cwS 2 hts (goodIn_app (goodIn_r _ [18, 19, 20] rfl (by decide +kernel)) (goodIn_ca (goodIn_r _ [9, 10, 11, 12, 13, 14, 15, 16, 17, 7] rfl (by decide +kernel)) (bs2_in _ _))) rfl rfl rfl (by decide +kernel) ⟨(Nat.le_of_ble_eq_true rfl), (Nat.le_of_ble_eq_true rfl)⟩) ⟨fun a U g mk q => by obtain ⟨q0, q1, qK, qE⟩ := q; exact ⟨q0, q1, va_K.moved (u := U) (U := U.calling g mk a) (Vm.Alike.refl U.vm) qK, EVC.blind g mk a qE⟩, fun U hU hW => ⟨rfl, hU, va_K.moved hW.alike hK, hE.call hS hFc hU hW⟩⟩ rfl rfl hl.1 rfl (lv_room (Nat.le_of_ble_eq_true rfl)) dJ0_charAt_5068e_12 ⟨(Nat.le_of_ble_eq_true rfl), (Nat.le_of_ble_eq_true rfl)⟩) hS (fun q _ h => hFc q h) hFc (fun r6 u t H locs ht hvm hw7 hB _ _ hS => ?_)
  obtain ⟨hT, hF1⟩ := hB
  rw [ht] at hT hF1
  have hF := hF.more hF1 (by decide)
  try dsimp only at hw7
  have hf8 := hw7
  exact W.zret (v := r6) hx hb hr (by assumption) (fun t ht hW => ⟨⟨r6, (), rfl, (by exact trivial), by (try dsimp only); rw [ht]; exact ⟨hT, hF⟩⟩, hS.F ht⟩) hS.2.2 dJ0_charAt_5068e_15
def w_c_isLetter : List Cond := .code yX4_isLetter cX4_isLetter 1 (some .boolean) :: (HAppend.hAppend (α := List Cond) (β := List Cond) (γ := List Cond) [] bs2)
set_option maxHeartbeats 4000000 in
set_option maxRecDepth 100000 in
theorem c_isLetter (l : Launch) (dC : Nat → ClassId) (dI : Nat → Nat → Nat) (kA : Nat → ClassId) (adK adV : Nat → Nat) (G : gT) (H0 : Heap) (nC nS : Int) (sg : Int32)  (hT : gH (dC, dI) kA (SHc nC nS) G H0) (hgC : 0 ≤ nC ∧ nC ≤ 40) (hgS : 0 ≤ nS ∧ nS ≤ 60) : Met l yX4_isLetter w_c_isLetter ({ frames := 0, cells := 0, slots := 0, locals := 0 }) (va_Pc [.int sg] (fun U => U.heap = H0 ∧ va_K (dC, dI) vwCl (tyl kA) U ∧ EVC adK adV (gA G H0.size) U U.heap)) (va_Qi (fun (r : Int32) (u : Unit) => (0 ≤ r.toInt ∧ r.toInt ≤ 1) ∧ (r.toInt = 1 → 97 ≤ sg.toInt)) (fun (_ : Unit) (t : State) => gH (dC, dI) kA (SHc nC nS) G t.heap ∧ gF (dC, dI) SKc G ([] : List (Nat × Nat)) H0 t.heap) (gA G H0.size)) 0 0 (gA G H0.size) := by
  refine Met.ofW (cc := cX4_isLetter) (maxL := 1) (ret := (some .boolean)) (by decide) rfl ?_
  intro p e s m args below meth c s₁ B hml hv
  obtain ⟨rfl, hH0, hK, hE⟩ := hv
  have hx := B.exec
  have hb := B.bytes
  have hr := B.returns
  have hts := atoms_spec (ws := w_c_isLetter) B.pre
  have hown : s.vm.findClass RX4 = some m.cls := findClass_of_methodNamed B.named
  have hlocks := B.notSynchronized
  subst hH0
  generalize hAe : gA G s.heap.size = A at hE ⊢
  have hA : ∀ q : Nat, s.heap.size ≤ q → A q := fun q h => by rw [← hAe]; exact Or.inr h
  have hG := gA_of hAe
  have hS : va_S A s.heap s.heap [] := va_S.rf
  have hF : gF (dC, dI) SKc G ([] : List (Nat × Nat)) s.heap s.heap := gF.rf
  have hl := lv_entry ([.int sg]) (n := 1) (Nat.le_of_ble_eq_true rfl)
  rw [lg_entry_eq]
  generalize (lg_sl ([.int sg]) ++ List.replicate (1 - (lg_sl ([.int sg])).length) Slot.unset).toArray = ls at hl ⊢
  have hl : lv_has ls 1 [(0, .int sg)] := hl
  refine lv_bipush (v := 97) hx hb dX4_isLetter_0 (by decide) ?_
  refine lv_iload_n hx hb dX4_isLetter_2 rfl (lv_at hl 0 rfl) ?_
  have t1 : -2147483648 ≤ sg.toInt ∧ sg.toInt ≤ 2147483647 := ti_all sg
  refine lv_icmp_gt (tgt := 16) hx hb dX4_isLetter_3 (by decide) (fun c2 => ?_) (fun c2 => ?_)
  · have t3 : sg.toInt < 97 := ti_lt c2 rfl (by decide)
    refine lv_iconst (v := 0) hx hb dX4_isLetter_16 (by decide) ?_
    exact W.zret (v := 0) hx hb hr (by decide) (fun t ht hW => ⟨⟨0, (), rfl, (by exact ⟨(rg_t (a := 0) (by decide) (by first | decide | omega) (by first | decide | omega)), (by have : (0 : Int32).toInt = 0 := (by decide); omega)⟩), by (try dsimp only); rw [ht]; exact ⟨hT, hF⟩⟩, hS.F ht⟩) hS.2.2 dX4_isLetter_17
  · have t4 : 97 ≤ sg.toInt := ti_nlt c2 rfl (by decide)
    refine lv_iload_n hx hb dX4_isLetter_6 rfl (lv_at hl 0 rfl) ?_
    refine lv_bipush (v := 122) hx hb dX4_isLetter_7 (by decide) ?_
    refine lv_icmp_gt (tgt := 16) hx hb dX4_isLetter_9 (by decide) (fun c5 => ?_) (fun c5 => ?_)
    · have t6 : 122 < sg.toInt := ti_lt c5 (by decide) rfl
      refine lv_iconst (v := 0) hx hb dX4_isLetter_16 (by decide) ?_
      exact W.zret (v := 0) hx hb hr (by decide) (fun t ht hW => ⟨⟨0, (), rfl, (by exact ⟨(rg_t (a := 0) (by decide) (by first | decide | omega) (by first | decide | omega)), (by have : (0 : Int32).toInt = 0 := (by decide); omega)⟩), by (try dsimp only); rw [ht]; exact ⟨hT, hF⟩⟩, hS.F ht⟩) hS.2.2 dX4_isLetter_17
    · have t7 : sg.toInt ≤ 122 := ti_nlt c5 (by decide) rfl
      refine lv_iconst (v := 1) hx hb dX4_isLetter_12 (by decide) ?_
      refine lv_goto (tgt := 17) hx hb dX4_isLetter_13 (by decide) ?_
      exact W.zret (v := 1) hx hb hr (by decide) (fun t ht hW => ⟨⟨1, (), rfl, (by exact ⟨(rg_t (a := 1) (by decide) (by first | decide | omega) (by first | decide | omega)), (by have : (1 : Int32).toInt = 1 := (by decide); omega)⟩), by (try dsimp only); rw [ht]; exact ⟨hT, hF⟩⟩, hS.F ht⟩) hS.2.2 dX4_isLetter_17
def w_c_isDigit : List Cond := .code yX4_isDigit cX4_isDigit 1 (some .boolean) :: (HAppend.hAppend (α := List Cond) (β := List Cond) (γ := List Cond) [] bs2)
set_option maxHeartbeats 4000000 in
set_option maxRecDepth 100000 in
theorem c_isDigit (l : Launch) (dC : Nat → ClassId) (dI : Nat → Nat → Nat) (kA : Nat → ClassId) (adK adV : Nat → Nat) (G : gT) (H0 : Heap) (nC nS : Int) (sg : Int32)  (hT : gH (dC, dI) kA (SHc nC nS) G H0) (hgC : 0 ≤ nC ∧ nC ≤ 40) (hgS : 0 ≤ nS ∧ nS ≤ 60) : Met l yX4_isDigit w_c_isDigit ({ frames := 0, cells := 0, slots := 0, locals := 0 }) (va_Pc [.int sg] (fun U => U.heap = H0 ∧ va_K (dC, dI) vwCl (tyl kA) U ∧ EVC adK adV (gA G H0.size) U U.heap)) (va_Qi (fun (r : Int32) (u : Unit) => (0 ≤ r.toInt ∧ r.toInt ≤ 1) ∧ ((r.toInt = 1 → 48 ≤ sg.toInt ∧ sg.toInt ≤ 57) ∧ (r.toInt = 0 → sg.toInt < 48 ∨ 57 < sg.toInt))) (fun (_ : Unit) (t : State) => gH (dC, dI) kA (SHc nC nS) G t.heap ∧ gF (dC, dI) SKc G ([] : List (Nat × Nat)) H0 t.heap) (gA G H0.size)) 0 0 (gA G H0.size) := by
  refine Met.ofW (cc := cX4_isDigit) (maxL := 1) (ret := (some .boolean)) (by decide) rfl ?_
  intro p e s m args below meth c s₁ B hml hv
  obtain ⟨rfl, hH0, hK, hE⟩ := hv
  have hx := B.exec
  have hb := B.bytes
  have hr := B.returns
  have hts := atoms_spec (ws := w_c_isDigit) B.pre
  have hown : s.vm.findClass RX4 = some m.cls := findClass_of_methodNamed B.named
  have hlocks := B.notSynchronized
  subst hH0
  generalize hAe : gA G s.heap.size = A at hE ⊢
  have hA : ∀ q : Nat, s.heap.size ≤ q → A q := fun q h => by rw [← hAe]; exact Or.inr h
  have hG := gA_of hAe
  have hS : va_S A s.heap s.heap [] := va_S.rf
  have hF : gF (dC, dI) SKc G ([] : List (Nat × Nat)) s.heap s.heap := gF.rf
  have hl := lv_entry ([.int sg]) (n := 1) (Nat.le_of_ble_eq_true rfl)
  rw [lg_entry_eq]
  generalize (lg_sl ([.int sg]) ++ List.replicate (1 - (lg_sl ([.int sg])).length) Slot.unset).toArray = ls at hl ⊢
  have hl : lv_has ls 1 [(0, .int sg)] := hl
  refine lv_bipush (v := 48) hx hb dX4_isDigit_0 (by decide) ?_
  refine lv_iload_n hx hb dX4_isDigit_2 rfl (lv_at hl 0 rfl) ?_
  have t1 : -2147483648 ≤ sg.toInt ∧ sg.toInt ≤ 2147483647 := ti_all sg
  refine lv_icmp_gt (tgt := 16) hx hb dX4_isDigit_3 (by decide) (fun c2 => ?_) (fun c2 => ?_)
  · have t3 : sg.toInt < 48 := ti_lt c2 rfl (by decide)
    refine lv_iconst (v := 0) hx hb dX4_isDigit_16 (by decide) ?_
    exact W.zret (v := 0) hx hb hr (by decide) (fun t ht hW => ⟨⟨0, (), rfl, (by exact ⟨(rg_t (a := 0) (by decide) (by first | decide | omega) (by first | decide | omega)), (by have : (0 : Int32).toInt = 0 := (by decide); omega)⟩), by (try dsimp only); rw [ht]; exact ⟨hT, hF⟩⟩, hS.F ht⟩) hS.2.2 dX4_isDigit_17
  · have t4 : 48 ≤ sg.toInt := ti_nlt c2 rfl (by decide)
    refine lv_iload_n hx hb dX4_isDigit_6 rfl (lv_at hl 0 rfl) ?_
    refine lv_bipush (v := 57) hx hb dX4_isDigit_7 (by decide) ?_
    refine lv_icmp_gt (tgt := 16) hx hb dX4_isDigit_9 (by decide) (fun c5 => ?_) (fun c5 => ?_)
    · have t6 : 57 < sg.toInt := ti_lt c5 (by decide) rfl
      refine lv_iconst (v := 0) hx hb dX4_isDigit_16 (by decide) ?_
      exact W.zret (v := 0) hx hb hr (by decide) (fun t ht hW => ⟨⟨0, (), rfl, (by exact ⟨(rg_t (a := 0) (by decide) (by first | decide | omega) (by first | decide | omega)), (by have : (0 : Int32).toInt = 0 := (by decide); omega)⟩), by (try dsimp only); rw [ht]; exact ⟨hT, hF⟩⟩, hS.F ht⟩) hS.2.2 dX4_isDigit_17
    · have t7 : sg.toInt ≤ 57 := ti_nlt c5 (by decide) rfl
      refine lv_iconst (v := 1) hx hb dX4_isDigit_12 (by decide) ?_
      refine lv_goto (tgt := 17) hx hb dX4_isDigit_13 (by decide) ?_
      exact W.zret (v := 1) hx hb hr (by decide) (fun t ht hW => ⟨⟨1, (), rfl, (by exact ⟨(rg_t (a := 1) (by decide) (by first | decide | omega) (by first | decide | omega)), (by have : (1 : Int32).toInt = 1 := (by decide); omega)⟩), by (try dsimp only); rw [ht]; exact ⟨hT, hF⟩⟩, hS.F ht⟩) hS.2.2 dX4_isDigit_17
def w_c_thingEnd : List Cond := .code yX4_thingEnd cX4_thingEnd 6 (some .int) :: (HAppend.hAppend (α := List Cond) (β := List Cond) (γ := List Cond) [.code yX4_isLetter cX4_isLetter 1 (some .boolean), .methodLink RX4 81 yX4_isLetter, .static yX4_isLetter, .initialized RX4, .code yX4_isDigit cX4_isDigit 1 (some .boolean), .methodLink RX4 84 yX4_isDigit, .static yX4_isDigit] bs2)
set_option maxHeartbeats 4000000 in
set_option maxRecDepth 100000 in
theorem c_thingEnd (l : Launch) (dC : Nat → ClassId) (dI : Nat → Nat → Nat) (kA : Nat → ClassId) (adK adV : Nat → Nat) (G : gT) (H0 : Heap) (nC nS : Int) (tx : Nat) (fr : Int32) (en : Int32)  (hT : gH (dC, dI) kA (SHc nC nS) G H0) (hr_tx : G tx = some 16) (hq0 : 0 ≤ fr.toInt ∧ fr.toInt ≤ 399) (hq1 : 0 ≤ en.toInt ∧ en.toInt ≤ 400) (hfe : fr.toInt < en.toInt) (hgC : 0 ≤ nC ∧ nC ≤ 40) (hgS : 0 ≤ nS ∧ nS ≤ 60) : Met l yX4_thingEnd w_c_thingEnd ({ frames := 1, cells := 0, slots := 0, locals := 20 }) (va_Pc [.ref tx, .int fr, .int en] (fun U => U.heap = H0 ∧ va_K (dC, dI) vwCl (tyl kA) U ∧ EVC adK adV (gA G H0.size) U U.heap)) (va_Qi (fun (r : Int32) (u : Unit) => (1 ≤ r.toInt ∧ r.toInt ≤ 400) ∧ (fr.toInt + 1 ≤ r.toInt ∧ r.toInt ≤ en.toInt) ∧ ((∃ x : Int32, el H0 tx fr.toNatClampNeg = some (.int x) ∧ 48 ≤ x.toInt ∧ x.toInt ≤ 57) → ∀ j : Nat, fr.toInt ≤ (j : Int) → (j : Int) < r.toInt → ∃ x : Int32, el H0 tx j = some (.int x) ∧ 48 ≤ x.toInt ∧ x.toInt ≤ 57)) (fun (_ : Unit) (t : State) => gH (dC, dI) kA (SHc nC nS) G t.heap ∧ gF (dC, dI) SKc G ([] : List (Nat × Nat)) H0 t.heap) (gA G H0.size)) 0 0 (gA G H0.size) := by
  refine Met.ofW (cc := cX4_thingEnd) (maxL := 6) (ret := (some .int)) (by decide) rfl ?_
  intro p e s m args below meth c s₁ B hml hv
  obtain ⟨rfl, hH0, hK, hE⟩ := hv
  have hx := B.exec
  have hb := B.bytes
  have hr := B.returns
  have hts := atoms_spec (ws := w_c_thingEnd) B.pre
  have hown : s.vm.findClass RX4 = some m.cls := findClass_of_methodNamed B.named
  have hlocks := B.notSynchronized
  subst hH0
  generalize hAe : gA G s.heap.size = A at hE ⊢
  have hA : ∀ q : Nat, s.heap.size ≤ q → A q := fun q h => by rw [← hAe]; exact Or.inr h
  have hG := gA_of hAe
  have hS : va_S A s.heap s.heap [] := va_S.rf
  have hF : gF (dC, dI) SKc G ([] : List (Nat × Nat)) s.heap s.heap := gF.rf
  have hl := lv_entry ([.ref tx, .int fr, .int en]) (n := 6) (Nat.le_of_ble_eq_true rfl)
  rw [lg_entry_eq]
  generalize (lg_sl ([.ref tx, .int fr, .int en]) ++ List.replicate (6 - (lg_sl ([.ref tx, .int fr, .int en])).length) Slot.unset).toArray = ls at hl ⊢
  have hl : lv_has ls 6 [(0, .ref tx), (1, .int fr), (2, .int en)] := hl
  refine lv_aload_n hx hb dX4_thingEnd_0 rfl (lv_at hl 0 rfl) ?_
  refine lv_iload_n hx hb dX4_thingEnd_1 rfl (lv_at hl 1 rfl) ?_
  refine tw_iald (i := fr) hx hb hK hT hr_tx shc_16 rfl (vin_t (a := fr.toInt) rfl (by omega) (by omega)) dX4_thingEnd_2 (fun v9 m1 h9 => ?_)
  obtain ⟨x2, rfl, gx2, kx2⟩ := h9
  have hFc := gA_free hG hA hS
  refine va_calli (va_runS (As := [.int x2]) (rest := []) ⟨hx, hb, hml, hown, hts⟩ (c_isLetter l dC dI kA adK adV G s.heap nC nS x2 hT (by omega) (by omega)) (va_cwS 1 hts (goodIn_app (goodIn_r _ [2, 3, 4] rfl (by decide +kernel)) (goodIn_ca (goodIn_r _ [1] rfl (by decide +kernel)) (bs2_in _ _))) rfl rfl rfl (by decide +kernel) ⟨(Nat.le_of_ble_eq_true rfl), (Nat.le_of_ble_eq_true rfl)⟩) ⟨fun a U g mk q => by obtain ⟨q0, q1, qK, qE⟩ := q; exact ⟨q0, q1, va_K.moved (u := U) (U := U.calling g mk a) (Vm.Alike.refl U.vm) qK, EVC.blind g mk a qE⟩, fun U hU hW => ⟨rfl, hU, va_K.moved hW.alike hK, hE.call hS hFc hU hW⟩⟩ rfl rfl hl.1 rfl (lv_room (Nat.le_of_ble_eq_true rfl)) dX4_thingEnd_3 ⟨(Nat.le_of_ble_eq_true rfl), (Nat.le_of_ble_eq_true rfl)⟩) hS (fun q _ h => hFc q h) hFc (fun r3 u t H locs ht hvm hw4 hB _ _ hS => ?_)
  obtain ⟨hT, hF1⟩ := hB
  rw [ht] at hT hF1
  have m5 := (el_kept (hF1.arr hr_tx skc_16 (by decide))).trans m1
  have hF := hF.more hF1 (by decide)
  try dsimp only at hw4
  obtain ⟨h6, hf7⟩ := hw4
  refine lv_istore_n (lv' := [(3, .int r3), (0, .ref tx), (1, .int fr), (2, .int en)]) hx hb dX4_thingEnd_6 rfl hl (by decide) rfl (fun ls hl => ?_)
  refine lv_aload_n hx hb dX4_thingEnd_7 rfl (lv_at hl 1 rfl) ?_
  refine lv_iload_n hx hb dX4_thingEnd_8 rfl (lv_at hl 2 rfl) ?_
  refine tw_iald (i := fr) hx hb hK hT hr_tx shc_16 rfl (vin_t (a := fr.toInt) rfl (by omega) (by omega)) dX4_thingEnd_9 (fun v9 m8 h9 => ?_)
  obtain ⟨x9, rfl, gx9, kx9⟩ := h9
  obtain rfl : x2 = x9 := (el_same m8 m5 rfl).symm
  have hFc := gA_free hG hA hS
  refine va_calli (va_runS (As := [.int x2]) (rest := []) ⟨hx, hb, hml, hown, hts⟩ (c_isDigit l dC dI kA adK adV G H nC nS x2 hT (by omega) (by omega)) (va_cwS 1 hts (goodIn_app (goodIn_r _ [6, 7, 4] rfl (by decide +kernel)) (goodIn_ca (goodIn_r _ [5] rfl (by decide +kernel)) (bs2_in _ _))) rfl rfl rfl (by decide +kernel) ⟨(Nat.le_of_ble_eq_true rfl), (Nat.le_of_ble_eq_true rfl)⟩) ⟨fun a U g mk q => by obtain ⟨q0, q1, qK, qE⟩ := q; exact ⟨q0, q1, va_K.moved (u := U) (U := U.calling g mk a) (Vm.Alike.refl U.vm) qK, EVC.blind g mk a qE⟩, fun U hU hW => ⟨rfl, hU, va_K.moved hW.alike hK, hE.call hS hFc hU hW⟩⟩ rfl rfl hl.1 rfl (lv_room (Nat.le_of_ble_eq_true rfl)) dX4_thingEnd_10 ⟨(Nat.le_of_ble_eq_true rfl), (Nat.le_of_ble_eq_true rfl)⟩) hS (fun q _ h => hFc q h) hFc (fun r10 u t H locs ht hvm hw11 hB _ _ hS => ?_)
  obtain ⟨hT, hF1⟩ := hB
  rw [ht] at hT hF1
  have m12 := (el_kept (hF1.arr hr_tx skc_16 (by decide))).trans m5
  have hF := hF.more hF1 (by decide)
  try dsimp only at hw11
  obtain ⟨h13, hf14⟩ := hw11
  refine lv_istore (lv' := [(4, .int r10), (3, .int r3), (0, .ref tx), (1, .int fr), (2, .int en)]) hx hb dX4_thingEnd_13 hl (by decide) rfl (fun ls hl => ?_)
  refine lv_iload_n hx hb dX4_thingEnd_15 rfl (lv_at hl 3 rfl) ?_
  refine lv_iconst (v := 1) hx hb dX4_thingEnd_16 (by decide) ?_
  refine lv_iadd hx hb dX4_thingEnd_17 ?_
  refine lv_topi (fun x15 ex15 => ?_)
  have t16 : x15.toInt = fr.toInt + 1 := ti_add ex15 rfl (by decide) (by omega) (by omega)
  refine lv_istore (lv' := [(5, .int x15), (4, .int r10), (3, .int r3), (0, .ref tx), (1, .int fr), (2, .int en)]) hx hb dX4_thingEnd_18 hl (by decide) rfl (fun ls hl => ?_)
  obtain ⟨k17, hk17, lk17, ek17⟩ := ti_nat x15 (by omega)
  subst ek17
  have key67 : ∀ (n67 i18 : Nat), i18 + n67 = 400 → k17 ≤ i18 → ((r10.toInt = 1 → ∀ j : Nat, fr.toInt ≤ (j : Int) → (j : Int) < ((i18 : Nat) : Int) → ∃ x : Int32, el s.heap tx j = some (.int x) ∧ 48 ≤ x.toInt ∧ x.toInt ≤ 57) ∧ (((i18 : Nat) : Int) ≤ en.toInt)) → ∀ (H : Heap) (locs : List Loc), gH (dC, dI) kA (SHc nC nS) G H → gF (dC, dI) SKc G ([] : List (Nat × Nat)) s.heap H → va_S A s.heap H locs → el H tx fr.toNatClampNeg = some (.int x2) → ∀ ls : Array Slot, lv_has ls 6 [(5, .int (nI i18)), (4, .int r10), (3, .int r3), (0, .ref tx), (1, .int fr), (2, .int en)] → W p l e (headSpec w_c_thingEnd ({ frames := 1, cells := 0, slots := 0, locals := 20 })).room s m #[.ref tx, .int fr, .int en] below meth c H locs 0 0 (MQ below (va_Qi (fun (r : Int32) (u : Unit) => (1 ≤ r.toInt ∧ r.toInt ≤ 400) ∧ (fr.toInt + 1 ≤ r.toInt ∧ r.toInt ≤ en.toInt) ∧ ((∃ x : Int32, el s.heap tx fr.toNatClampNeg = some (.int x) ∧ 48 ≤ x.toInt ∧ x.toInt ≤ 57) → ∀ j : Nat, fr.toInt ≤ (j : Int) → (j : Int) < r.toInt → ∃ x : Int32, el s.heap tx j = some (.int x) ∧ 48 ≤ x.toInt ∧ x.toInt ≤ 57)) (fun (_ : Unit) (t : State) => gH (dC, dI) kA (SHc nC nS) G t.heap ∧ gF (dC, dI) SKc G ([] : List (Nat × Nat)) s.heap t.heap) A) #[.ref tx, .int fr, .int en] s 0 0 A) (F0 m 20 ls []) := by
    intro n67
    induction n67 with
    | zero =>
      intro i18 hn67 hlo68 ⟨hj20, hj21⟩ H locs hT hF hS m19 ls hl
      obtain rfl : 400 = i18 := by omega
      refine lv_iload hx hb dX4_thingEnd_20 (lv_at hl 0 rfl) ?_
      refine lv_iload_n hx hb dX4_thingEnd_22 rfl (lv_at hl 5 rfl) ?_
      refine lv_icmp_ge (tgt := 61) hx hb dX4_thingEnd_23 (by decide) (fun c69 => ?_) (fun c69 => (by exfalso; have q9 : ((400 : Nat) : Int) < en.toInt := ti_nle c69 rfl (nI_toInt (by omega)); omega))
      have t70 : en.toInt ≤ ((400 : Nat) : Int) := ti_le c69 rfl (nI_toInt (by omega))
      refine lv_iload hx hb dX4_thingEnd_61 (lv_at hl 0 rfl) ?_
      exact W.iret (v := nI 400) hx hb hr (fun t ht hW => ⟨⟨nI 400, (), rfl, (by exact ⟨(rg_t (a := ((400 : Nat) : Int)) (nI_toInt (by omega)) (by omega) (by omega)), (by have : (nI 400).toInt = ((400 : Nat) : Int) := nI_toInt (by omega); omega), (fun h9 j h8 h7 => by obtain ⟨x9, e9, a9, b9⟩ := h9; have e8 := (el_kept (hF.arr hr_tx skc_16 (by decide))).symm.trans m19; rw [show fr.toNatClampNeg = fr.toNatClampNeg from tn_same (show fr.toInt = fr.toInt from rfl) rfl (by omega)] at e8; have e7 := el_val e8 e9; subst e7; have q9 := (show (nI 400).toInt = ((400 : Nat) : Int) from (nI_toInt (by omega))); exact hj20 (by omega) j h8 (by omega))⟩), by (try dsimp only); rw [ht]; exact ⟨hT, hF⟩⟩, hS.F ht⟩) hS.2.2 dX4_thingEnd_63
    | succ n67 ih67 =>
      intro i18 hn67 hlo68 ⟨hj20, hj21⟩ H locs hT hF hS m19 ls hl
      have hlt70 : i18 < 400 := by omega
      refine lv_iload hx hb dX4_thingEnd_20 (lv_at hl 0 rfl) ?_
      refine lv_iload_n hx hb dX4_thingEnd_22 rfl (lv_at hl 5 rfl) ?_
      refine lv_icmp_ge (tgt := 61) hx hb dX4_thingEnd_23 (by decide) (fun c71 => ?_) (fun c71 => ?_)
      · have t72 : en.toInt ≤ ((i18 : Nat) : Int) := ti_le c71 rfl (nI_toInt (by omega))
        refine lv_iload hx hb dX4_thingEnd_61 (lv_at hl 0 rfl) ?_
        exact W.iret (v := nI i18) hx hb hr (fun t ht hW => ⟨⟨nI i18, (), rfl, (by exact ⟨(rg_t (a := ((i18 : Nat) : Int)) (nI_toInt (by omega)) (by omega) (by omega)), (by have : (nI i18).toInt = ((i18 : Nat) : Int) := nI_toInt (by omega); omega), (fun h9 j h8 h7 => by obtain ⟨x9, e9, a9, b9⟩ := h9; have e8 := (el_kept (hF.arr hr_tx skc_16 (by decide))).symm.trans m19; rw [show fr.toNatClampNeg = fr.toNatClampNeg from tn_same (show fr.toInt = fr.toInt from rfl) rfl (by omega)] at e8; have e7 := el_val e8 e9; subst e7; have q9 := (show (nI i18).toInt = ((i18 : Nat) : Int) from (nI_toInt (by omega))); exact hj20 (by omega) j h8 (by omega))⟩), by (try dsimp only); rw [ht]; exact ⟨hT, hF⟩⟩, hS.F ht⟩) hS.2.2 dX4_thingEnd_63
      · have t73 : ((i18 : Nat) : Int) < en.toInt := ti_nle c71 rfl (nI_toInt (by omega))
        refine lv_iload_n hx hb dX4_thingEnd_26 rfl (lv_at hl 2 rfl) ?_
        refine lv_if_eq (tgt := 40) hx hb dX4_thingEnd_27 (by decide) (fun c74 => ?_) (fun c74 => ?_)
        · have t75 : r3.toInt = 0 := ti_eq c74 rfl (by decide)
          refine lv_iload hx hb dX4_thingEnd_40 (lv_at hl 1 rfl) ?_
          refine lv_if_eq (tgt := 61) hx hb dX4_thingEnd_42 (by decide) (fun c76 => ?_) (fun c76 => ?_)
          · have t77 : r10.toInt = 0 := ti_eq c76 rfl (by decide)
            refine lv_iload hx hb dX4_thingEnd_61 (lv_at hl 0 rfl) ?_
            exact W.iret (v := nI i18) hx hb hr (fun t ht hW => ⟨⟨nI i18, (), rfl, (by exact ⟨(rg_t (a := ((i18 : Nat) : Int)) (nI_toInt (by omega)) (by omega) (by omega)), (by have : (nI i18).toInt = ((i18 : Nat) : Int) := nI_toInt (by omega); omega), (fun h9 j h8 h7 => by obtain ⟨x9, e9, a9, b9⟩ := h9; have e8 := (el_kept (hF.arr hr_tx skc_16 (by decide))).symm.trans m19; rw [show fr.toNatClampNeg = fr.toNatClampNeg from tn_same (show fr.toInt = fr.toInt from rfl) rfl (by omega)] at e8; have e7 := el_val e8 e9; subst e7; have q9 := (show (nI i18).toInt = ((i18 : Nat) : Int) from (nI_toInt (by omega))); exact hj20 (by omega) j h8 (by omega))⟩), by (try dsimp only); rw [ht]; exact ⟨hT, hF⟩⟩, hS.F ht⟩) hS.2.2 dX4_thingEnd_63
          · have t78 : r10.toInt ≠ 0 := ti_ne c76 rfl (by decide)
            refine lv_aload_n hx hb dX4_thingEnd_45 rfl (lv_at hl 3 rfl) ?_
            refine lv_iload hx hb dX4_thingEnd_46 (lv_at hl 0 rfl) ?_
            refine tw_iald (i := (nI i18)) hx hb hK hT hr_tx shc_16 rfl (vp_in_nI (by omega) (by decide)) dX4_thingEnd_48 (fun v9 m79 h9 => ?_)
            obtain ⟨x80, rfl, gx80, kx80⟩ := h9
            have hFc := gA_free hG hA hS
            refine va_calli (va_runS (As := [.int x80]) (rest := []) ⟨hx, hb, hml, hown, hts⟩ (c_isDigit l dC dI kA adK adV G H nC nS x80 hT (by omega) (by omega)) (va_cwS 1 hts (goodIn_app (goodIn_r _ [6, 7, 4] rfl (by decide +kernel)) (goodIn_ca (goodIn_r _ [5] rfl (by decide +kernel)) (bs2_in _ _))) rfl rfl rfl (by decide +kernel) ⟨(Nat.le_of_ble_eq_true rfl), (Nat.le_of_ble_eq_true rfl)⟩) ⟨fun a U g mk q => by obtain ⟨q0, q1, qK, qE⟩ := q; exact ⟨q0, q1, va_K.moved (u := U) (U := U.calling g mk a) (Vm.Alike.refl U.vm) qK, EVC.blind g mk a qE⟩, fun U hU hW => ⟨rfl, hU, va_K.moved hW.alike hK, hE.call hS hFc hU hW⟩⟩ rfl rfl hl.1 rfl (lv_room (Nat.le_of_ble_eq_true rfl)) dX4_thingEnd_49 ⟨(Nat.le_of_ble_eq_true rfl), (Nat.le_of_ble_eq_true rfl)⟩) hS (fun q _ h => hFc q h) hFc (fun r81 u t H locs ht hvm hw82 hB _ _ hS => ?_)
            obtain ⟨hT, hF1⟩ := hB
            rw [ht] at hT hF1
            have m83 := (el_kept (hF1.arr hr_tx skc_16 (by decide))).trans m19
            have m84 := (el_kept (hF1.arr hr_tx skc_16 (by decide))).trans m79
            have hF := hF.more hF1 (by decide)
            try dsimp only at hw82
            obtain ⟨h85, hf86⟩ := hw82
            refine lv_if_eq (tgt := 61) hx hb dX4_thingEnd_52 (by decide) (fun c87 => ?_) (fun c87 => ?_)
            · have t88 : r81.toInt = 0 := ti_eq c87 rfl (by decide)
              refine lv_iload hx hb dX4_thingEnd_61 (lv_at hl 0 rfl) ?_
              exact W.iret (v := nI i18) hx hb hr (fun t ht hW => ⟨⟨nI i18, (), rfl, (by exact ⟨(rg_t (a := ((i18 : Nat) : Int)) (nI_toInt (by omega)) (by omega) (by omega)), (by have : (nI i18).toInt = ((i18 : Nat) : Int) := nI_toInt (by omega); omega), (fun h9 j h8 h7 => by obtain ⟨x9, e9, a9, b9⟩ := h9; have e8 := (el_kept (hF.arr hr_tx skc_16 (by decide))).symm.trans m83; rw [show fr.toNatClampNeg = fr.toNatClampNeg from tn_same (show fr.toInt = fr.toInt from rfl) rfl (by omega)] at e8; have e7 := el_val e8 e9; subst e7; have q9 := (show (nI i18).toInt = ((i18 : Nat) : Int) from (nI_toInt (by omega))); exact hj20 (by omega) j h8 (by omega))⟩), by (try dsimp only); rw [ht]; exact ⟨hT, hF⟩⟩, hS.F ht⟩) hS.2.2 dX4_thingEnd_63
            · have t89 : r81.toInt ≠ 0 := ti_ne c87 rfl (by decide)
              refine lv_iinc (v := nI (i18 + 1)) (lv' := [(5, .int (nI (i18 + 1))), (4, .int r10), (3, .int r3), (0, .ref tx), (1, .int fr), (2, .int en)]) hx hb dX4_thingEnd_55 hl (k := 0) rfl (nI_add i18 1) (by decide) rfl (fun ls hl => ?_)
              refine lv_goto (tgt := 20) hx hb dX4_thingEnd_58 (by decide) ?_
              exact ih67 (i18 + 1) (by omega) (by omega) ⟨(fun h9 j h8 h7 => by by_cases e8 : (j : Int) < ((i18 : Nat) : Int); exact hj20 h9 j h8 e8; exact ⟨x80, by have e9 : j = (nI i18).toNatClampNeg := (by have q9 := tn_of (show (nI i18).toInt = ((i18 : Nat) : Int) from (nI_toInt (by omega))) (by omega); omega); rw [e9]; exact (el_kept (hF.arr hr_tx skc_16 (by decide))).symm.trans m84, by omega, by omega⟩), (by omega)⟩ _ _ hT hF hS m83 ls (lv_sub hl [0, 1, 2, 3, 4, 5] rfl)
        · have t90 : r3.toInt ≠ 0 := ti_ne c74 rfl (by decide)
          refine lv_aload_n hx hb dX4_thingEnd_30 rfl (lv_at hl 3 rfl) ?_
          refine lv_iload hx hb dX4_thingEnd_31 (lv_at hl 0 rfl) ?_
          refine tw_iald (i := (nI i18)) hx hb hK hT hr_tx shc_16 rfl (vp_in_nI (by omega) (by decide)) dX4_thingEnd_33 (fun v9 m91 h9 => ?_)
          obtain ⟨x92, rfl, gx92, kx92⟩ := h9
          have hFc := gA_free hG hA hS
          refine va_calli (va_runS (As := [.int x92]) (rest := []) ⟨hx, hb, hml, hown, hts⟩ (c_isLetter l dC dI kA adK adV G H nC nS x92 hT (by omega) (by omega)) (va_cwS 1 hts (goodIn_app (goodIn_r _ [2, 3, 4] rfl (by decide +kernel)) (goodIn_ca (goodIn_r _ [1] rfl (by decide +kernel)) (bs2_in _ _))) rfl rfl rfl (by decide +kernel) ⟨(Nat.le_of_ble_eq_true rfl), (Nat.le_of_ble_eq_true rfl)⟩) ⟨fun a U g mk q => by obtain ⟨q0, q1, qK, qE⟩ := q; exact ⟨q0, q1, va_K.moved (u := U) (U := U.calling g mk a) (Vm.Alike.refl U.vm) qK, EVC.blind g mk a qE⟩, fun U hU hW => ⟨rfl, hU, va_K.moved hW.alike hK, hE.call hS hFc hU hW⟩⟩ rfl rfl hl.1 rfl (lv_room (Nat.le_of_ble_eq_true rfl)) dX4_thingEnd_34 ⟨(Nat.le_of_ble_eq_true rfl), (Nat.le_of_ble_eq_true rfl)⟩) hS (fun q _ h => hFc q h) hFc (fun r93 u t H locs ht hvm hw94 hB _ _ hS => ?_)
          obtain ⟨hT, hF1⟩ := hB
          rw [ht] at hT hF1
          have m95 := (el_kept (hF1.arr hr_tx skc_16 (by decide))).trans m19
          have m96 := (el_kept (hF1.arr hr_tx skc_16 (by decide))).trans m91
          have hF := hF.more hF1 (by decide)
          try dsimp only at hw94
          obtain ⟨h97, hf98⟩ := hw94
          refine lv_if_ne (tgt := 55) hx hb dX4_thingEnd_37 (by decide) (fun c99 => ?_) (fun c99 => ?_)
          · have t100 : r93.toInt ≠ 0 := ti_ne c99 rfl (by decide)
            refine lv_iinc (v := nI (i18 + 1)) (lv' := [(5, .int (nI (i18 + 1))), (4, .int r10), (3, .int r3), (0, .ref tx), (1, .int fr), (2, .int en)]) hx hb dX4_thingEnd_55 hl (k := 0) rfl (nI_add i18 1) (by decide) rfl (fun ls hl => ?_)
            refine lv_goto (tgt := 20) hx hb dX4_thingEnd_58 (by decide) ?_
            exact ih67 (i18 + 1) (by omega) (by omega) ⟨(fun h9 j h8 h7 => by by_cases e8 : (j : Int) < ((i18 : Nat) : Int); exact hj20 h9 j h8 e8; exact ⟨x92, by have e9 : j = (nI i18).toNatClampNeg := (by have q9 := tn_of (show (nI i18).toInt = ((i18 : Nat) : Int) from (nI_toInt (by omega))) (by omega); omega); rw [e9]; exact (el_kept (hF.arr hr_tx skc_16 (by decide))).symm.trans m96, by omega, by omega⟩), (by omega)⟩ _ _ hT hF hS m95 ls (lv_sub hl [0, 1, 2, 3, 4, 5] rfl)
          · have t101 : r93.toInt = 0 := ti_eq c99 rfl (by decide)
            refine lv_iload hx hb dX4_thingEnd_40 (lv_at hl 1 rfl) ?_
            refine lv_if_eq (tgt := 61) hx hb dX4_thingEnd_42 (by decide) (fun c102 => ?_) (fun c102 => ?_)
            · have t103 : r10.toInt = 0 := ti_eq c102 rfl (by decide)
              refine lv_iload hx hb dX4_thingEnd_61 (lv_at hl 0 rfl) ?_
              exact W.iret (v := nI i18) hx hb hr (fun t ht hW => ⟨⟨nI i18, (), rfl, (by exact ⟨(rg_t (a := ((i18 : Nat) : Int)) (nI_toInt (by omega)) (by omega) (by omega)), (by have : (nI i18).toInt = ((i18 : Nat) : Int) := nI_toInt (by omega); omega), (fun h9 j h8 h7 => by obtain ⟨x9, e9, a9, b9⟩ := h9; have e8 := (el_kept (hF.arr hr_tx skc_16 (by decide))).symm.trans m95; rw [show fr.toNatClampNeg = fr.toNatClampNeg from tn_same (show fr.toInt = fr.toInt from rfl) rfl (by omega)] at e8; have e7 := el_val e8 e9; subst e7; have q9 := (show (nI i18).toInt = ((i18 : Nat) : Int) from (nI_toInt (by omega))); exact hj20 (by omega) j h8 (by omega))⟩), by (try dsimp only); rw [ht]; exact ⟨hT, hF⟩⟩, hS.F ht⟩) hS.2.2 dX4_thingEnd_63
            · have t104 : r10.toInt ≠ 0 := ti_ne c102 rfl (by decide)
              refine lv_aload_n hx hb dX4_thingEnd_45 rfl (lv_at hl 3 rfl) ?_
              refine lv_iload hx hb dX4_thingEnd_46 (lv_at hl 0 rfl) ?_
              refine tw_iald (i := (nI i18)) hx hb hK hT hr_tx shc_16 rfl (vp_in_nI (by omega) (by decide)) dX4_thingEnd_48 (fun v9 m105 h9 => ?_)
              obtain ⟨x106, rfl, gx106, kx106⟩ := h9
              obtain rfl : x92 = x106 := (el_same m105 m96 rfl).symm
              have hFc := gA_free hG hA hS
              refine va_calli (va_runS (As := [.int x92]) (rest := []) ⟨hx, hb, hml, hown, hts⟩ (c_isDigit l dC dI kA adK adV G H nC nS x92 hT (by omega) (by omega)) (va_cwS 1 hts (goodIn_app (goodIn_r _ [6, 7, 4] rfl (by decide +kernel)) (goodIn_ca (goodIn_r _ [5] rfl (by decide +kernel)) (bs2_in _ _))) rfl rfl rfl (by decide +kernel) ⟨(Nat.le_of_ble_eq_true rfl), (Nat.le_of_ble_eq_true rfl)⟩) ⟨fun a U g mk q => by obtain ⟨q0, q1, qK, qE⟩ := q; exact ⟨q0, q1, va_K.moved (u := U) (U := U.calling g mk a) (Vm.Alike.refl U.vm) qK, EVC.blind g mk a qE⟩, fun U hU hW => ⟨rfl, hU, va_K.moved hW.alike hK, hE.call hS hFc hU hW⟩⟩ rfl rfl hl.1 rfl (lv_room (Nat.le_of_ble_eq_true rfl)) dX4_thingEnd_49 ⟨(Nat.le_of_ble_eq_true rfl), (Nat.le_of_ble_eq_true rfl)⟩) hS (fun q _ h => hFc q h) hFc (fun r107 u t H locs ht hvm hw108 hB _ _ hS => ?_)
              obtain ⟨hT, hF1⟩ := hB
              rw [ht] at hT hF1
              have m109 := (el_kept (hF1.arr hr_tx skc_16 (by decide))).trans m95
              have m110 := (el_kept (hF1.arr hr_tx skc_16 (by decide))).trans m96
              have hF := hF.more hF1 (by decide)
              try dsimp only at hw108
              obtain ⟨h111, hf112⟩ := hw108
              refine lv_if_eq (tgt := 61) hx hb dX4_thingEnd_52 (by decide) (fun c113 => ?_) (fun c113 => ?_)
              · have t114 : r107.toInt = 0 := ti_eq c113 rfl (by decide)
                refine lv_iload hx hb dX4_thingEnd_61 (lv_at hl 0 rfl) ?_
                exact W.iret (v := nI i18) hx hb hr (fun t ht hW => ⟨⟨nI i18, (), rfl, (by exact ⟨(rg_t (a := ((i18 : Nat) : Int)) (nI_toInt (by omega)) (by omega) (by omega)), (by have : (nI i18).toInt = ((i18 : Nat) : Int) := nI_toInt (by omega); omega), (fun h9 j h8 h7 => by obtain ⟨x9, e9, a9, b9⟩ := h9; have e8 := (el_kept (hF.arr hr_tx skc_16 (by decide))).symm.trans m109; rw [show fr.toNatClampNeg = fr.toNatClampNeg from tn_same (show fr.toInt = fr.toInt from rfl) rfl (by omega)] at e8; have e7 := el_val e8 e9; subst e7; have q9 := (show (nI i18).toInt = ((i18 : Nat) : Int) from (nI_toInt (by omega))); exact hj20 (by omega) j h8 (by omega))⟩), by (try dsimp only); rw [ht]; exact ⟨hT, hF⟩⟩, hS.F ht⟩) hS.2.2 dX4_thingEnd_63
              · have t115 : r107.toInt ≠ 0 := ti_ne c113 rfl (by decide)
                refine lv_iinc (v := nI (i18 + 1)) (lv' := [(5, .int (nI (i18 + 1))), (4, .int r10), (3, .int r3), (0, .ref tx), (1, .int fr), (2, .int en)]) hx hb dX4_thingEnd_55 hl (k := 0) rfl (nI_add i18 1) (by decide) rfl (fun ls hl => ?_)
                refine lv_goto (tgt := 20) hx hb dX4_thingEnd_58 (by decide) ?_
                exact ih67 (i18 + 1) (by omega) (by omega) ⟨(fun h9 j h8 h7 => by by_cases e8 : (j : Int) < ((i18 : Nat) : Int); exact hj20 h9 j h8 e8; exact ⟨x92, by have e9 : j = (nI i18).toNatClampNeg := (by have q9 := tn_of (show (nI i18).toInt = ((i18 : Nat) : Int) from (nI_toInt (by omega))) (by omega); omega); rw [e9]; exact (el_kept (hF.arr hr_tx skc_16 (by decide))).symm.trans m110, by omega, by omega⟩), (by omega)⟩ _ _ hT hF hS m109 ls (lv_sub hl [0, 1, 2, 3, 4, 5] rfl)
  exact key67 (400 - k17) k17 (by omega) (Nat.le_refl _) ⟨(fun h9 j h8 h7 => ⟨x2, by have e9 : j = fr.toNatClampNeg := (by have q9 := tn_of (show fr.toInt = fr.toInt from rfl) (by omega); omega); rw [e9]; exact (el_kept (hF.arr hr_tx skc_16 (by decide))).symm.trans m12, by omega, by omega⟩), (by omega)⟩ _ _ hT hF hS m12 ls (lv_sub hl [0, 1, 2, 3, 4, 5] rfl)
def w_c_numberThing : List Cond := .code yX4_numberThing cX4_numberThing 5 (some .int) :: (HAppend.hAppend (α := List Cond) (β := List Cond) (γ := List Cond) [] bs2)
set_option maxHeartbeats 4000000 in
set_option maxRecDepth 100000 in
theorem c_numberThing (l : Launch) (dC : Nat → ClassId) (dI : Nat → Nat → Nat) (kA : Nat → ClassId) (adK adV : Nat → Nat) (G : gT) (H0 : Heap) (nC nS : Int) (tx : Nat) (fr : Int32) (en : Int32)  (hT : gH (dC, dI) kA (SHc nC nS) G H0) (hr_tx : G tx = some 16) (hq0 : 0 ≤ fr.toInt ∧ fr.toInt ≤ 399) (hq1 : 0 ≤ en.toInt ∧ en.toInt ≤ 400) (hfe : fr.toInt < en.toInt) (hdg : ∀ j : Nat, fr.toInt ≤ (j : Int) → (j : Int) < en.toInt → ∃ x : Int32, el H0 tx j = some (.int x) ∧ 48 ≤ x.toInt ∧ x.toInt ≤ 57) (hgC : 0 ≤ nC ∧ nC ≤ 40) (hgS : 0 ≤ nS ∧ nS ≤ 60) : Met l yX4_numberThing w_c_numberThing ({ frames := 0, cells := 0, slots := 0, locals := 0 }) (va_Pc [.ref tx, .int fr, .int en] (fun U => U.heap = H0 ∧ va_K (dC, dI) vwCl (tyl kA) U ∧ EVC adK adV (gA G H0.size) U U.heap)) (va_Qi (fun (r : Int32) (u : Unit) => (22 ≤ r.toInt ∧ r.toInt ≤ 100039)) (fun (_ : Unit) (t : State) => gH (dC, dI) kA (SHc nC nS) G t.heap ∧ gF (dC, dI) SKc G ([] : List (Nat × Nat)) H0 t.heap) (gA G H0.size)) 0 0 (gA G H0.size) := by
  refine Met.ofW (cc := cX4_numberThing) (maxL := 5) (ret := (some .int)) (by decide) rfl ?_
  intro p e s m args below meth c s₁ B hml hv
  obtain ⟨rfl, hH0, hK, hE⟩ := hv
  have hx := B.exec
  have hb := B.bytes
  have hr := B.returns
  have hts := atoms_spec (ws := w_c_numberThing) B.pre
  have hown : s.vm.findClass RX4 = some m.cls := findClass_of_methodNamed B.named
  have hlocks := B.notSynchronized
  subst hH0
  generalize hAe : gA G s.heap.size = A at hE ⊢
  have hA : ∀ q : Nat, s.heap.size ≤ q → A q := fun q h => by rw [← hAe]; exact Or.inr h
  have hG := gA_of hAe
  have hS : va_S A s.heap s.heap [] := va_S.rf
  have hF : gF (dC, dI) SKc G ([] : List (Nat × Nat)) s.heap s.heap := gF.rf
  have hl := lv_entry ([.ref tx, .int fr, .int en]) (n := 5) (Nat.le_of_ble_eq_true rfl)
  rw [lg_entry_eq]
  generalize (lg_sl ([.ref tx, .int fr, .int en]) ++ List.replicate (5 - (lg_sl ([.ref tx, .int fr, .int en])).length) Slot.unset).toArray = ls at hl ⊢
  have hl : lv_has ls 5 [(0, .ref tx), (1, .int fr), (2, .int en)] := hl
  refine lv_iload_n hx hb dX4_numberThing_0 rfl (lv_at hl 2 rfl) ?_
  refine lv_iload_n hx hb dX4_numberThing_1 rfl (lv_at hl 1 rfl) ?_
  refine lv_isub hx hb dX4_numberThing_2 ?_
  refine lv_topi (fun x1 ex1 => ?_)
  have t2 : x1.toInt = en.toInt - fr.toInt := ti_sub ex1 rfl rfl (by omega) (by omega)
  refine lv_iconst (v := 5) hx hb dX4_numberThing_3 (by decide) ?_
  refine lv_icmp_le (tgt := 10) hx hb dX4_numberThing_4 (by decide) (fun c3 => ?_) (fun c3 => ?_)
  · have t4 : x1.toInt ≤ 5 := ti_le c3 rfl (by decide)
    refine lv_iconst (v := 0) hx hb dX4_numberThing_10 (by decide) ?_
    refine lv_istore_n (lv' := [(3, .int 0), (0, .ref tx), (1, .int fr), (2, .int en)]) hx hb dX4_numberThing_11 rfl hl (by decide) rfl (fun ls hl => ?_)
    refine lv_iload_n hx hb dX4_numberThing_12 rfl (lv_at hl 2 rfl) ?_
    refine lv_istore (lv' := [(4, .int fr), (3, .int 0), (0, .ref tx), (1, .int fr), (2, .int en)]) hx hb dX4_numberThing_13 hl (by decide) rfl (fun ls hl => ?_)
    obtain ⟨k5, hk5, lk5, ek5⟩ := ti_nat fr (by omega)
    subst ek5
    have key23 : ∀ (n23 i6 : Nat), i6 + n23 = 400 → k5 ≤ i6 → ∀ (z7 : Int32), ((0 ≤ z7.toInt ∧ z7.toInt ≤ 99999) ∧ (0 ≤ z7.toInt ∧ (((i6 : Nat) : Int) ≤ (nI k5).toInt + 0 → z7.toInt ≤ 0) ∧ (((i6 : Nat) : Int) ≤ (nI k5).toInt + 1 → z7.toInt ≤ 9) ∧ (((i6 : Nat) : Int) ≤ (nI k5).toInt + 2 → z7.toInt ≤ 99) ∧ (((i6 : Nat) : Int) ≤ (nI k5).toInt + 3 → z7.toInt ≤ 999) ∧ (((i6 : Nat) : Int) ≤ (nI k5).toInt + 4 → z7.toInt ≤ 9999) ∧ (((i6 : Nat) : Int) ≤ (nI k5).toInt + 5 → z7.toInt ≤ 99999))) → ∀ (H : Heap) (locs : List Loc), gH (dC, dI) kA (SHc nC nS) G H → gF (dC, dI) SKc G ([] : List (Nat × Nat)) s.heap H → va_S A s.heap H locs → ∀ ls : Array Slot, lv_has ls 5 [(4, .int (nI i6)), (3, .int z7), (0, .ref tx), (1, .int (nI k5)), (2, .int en)] → W p l e (headSpec w_c_numberThing ({ frames := 0, cells := 0, slots := 0, locals := 0 })).room s m #[.ref tx, .int (nI k5), .int en] below meth c H locs 0 0 (MQ below (va_Qi (fun (r : Int32) (u : Unit) => (22 ≤ r.toInt ∧ r.toInt ≤ 100039)) (fun (_ : Unit) (t : State) => gH (dC, dI) kA (SHc nC nS) G t.heap ∧ gF (dC, dI) SKc G ([] : List (Nat × Nat)) s.heap t.heap) A) #[.ref tx, .int (nI k5), .int en] s 0 0 A) (F0 m 15 ls []) := by
      intro n23
      induction n23 with
      | zero =>
        intro i6 hn23 hlo24 z7 ⟨h8, hj9⟩ H locs hT hF hS  ls hl
        obtain rfl : 400 = i6 := by omega
        refine lv_iload hx hb dX4_numberThing_15 (lv_at hl 0 rfl) ?_
        refine lv_iload_n hx hb dX4_numberThing_17 rfl (lv_at hl 4 rfl) ?_
        refine lv_icmp_ge (tgt := 40) hx hb dX4_numberThing_18 (by decide) (fun c25 => ?_) (fun c25 => (by exfalso; have q9 : ((400 : Nat) : Int) < en.toInt := ti_nle c25 rfl (nI_toInt (by omega)); omega))
        have t26 : en.toInt ≤ ((400 : Nat) : Int) := ti_le c25 rfl (nI_toInt (by omega))
        refine lv_bipush (v := 40) hx hb dX4_numberThing_40 (by decide) ?_
        refine lv_iload_n hx hb dX4_numberThing_42 rfl (lv_at hl 1 rfl) ?_
        refine lv_iadd hx hb dX4_numberThing_43 ?_
        refine lv_topi (fun x27 ex27 => ?_)
        have t28 : x27.toInt = 40 + z7.toInt := ti_add ex27 (by decide) rfl (by omega) (by omega)
        exact W.iret (v := x27) hx hb hr (fun t ht hW => ⟨⟨x27, (), rfl, (by exact (by have q8 := ti_all x27; omega)), by (try dsimp only); rw [ht]; exact ⟨hT, hF⟩⟩, hS.F ht⟩) hS.2.2 dX4_numberThing_44
      | succ n23 ih23 =>
        intro i6 hn23 hlo24 z7 ⟨h8, hj9⟩ H locs hT hF hS  ls hl
        have hlt28 : i6 < 400 := by omega
        refine lv_iload hx hb dX4_numberThing_15 (lv_at hl 0 rfl) ?_
        refine lv_iload_n hx hb dX4_numberThing_17 rfl (lv_at hl 4 rfl) ?_
        refine lv_icmp_ge (tgt := 40) hx hb dX4_numberThing_18 (by decide) (fun c29 => ?_) (fun c29 => ?_)
        · have t30 : en.toInt ≤ ((i6 : Nat) : Int) := ti_le c29 rfl (nI_toInt (by omega))
          refine lv_bipush (v := 40) hx hb dX4_numberThing_40 (by decide) ?_
          refine lv_iload_n hx hb dX4_numberThing_42 rfl (lv_at hl 1 rfl) ?_
          refine lv_iadd hx hb dX4_numberThing_43 ?_
          refine lv_topi (fun x31 ex31 => ?_)
          have t32 : x31.toInt = 40 + z7.toInt := ti_add ex31 (by decide) rfl (by omega) (by omega)
          exact W.iret (v := x31) hx hb hr (fun t ht hW => ⟨⟨x31, (), rfl, (by exact (by have q8 := ti_all x31; omega)), by (try dsimp only); rw [ht]; exact ⟨hT, hF⟩⟩, hS.F ht⟩) hS.2.2 dX4_numberThing_44
        · have t33 : ((i6 : Nat) : Int) < en.toInt := ti_nle c29 rfl (nI_toInt (by omega))
          refine lv_iload_n hx hb dX4_numberThing_21 rfl (lv_at hl 1 rfl) ?_
          refine lv_bipush (v := 10) hx hb dX4_numberThing_22 (by decide) ?_
          refine lv_imul hx hb dX4_numberThing_24 ?_
          refine lv_topi (fun x34 ex34 => ?_)
          have t35 : x34.toInt = z7.toInt * 10 := ti_mul ex34 rfl (by decide) (by omega) (by omega)
          refine lv_aload_n hx hb dX4_numberThing_25 rfl (lv_at hl 2 rfl) ?_
          refine lv_iload hx hb dX4_numberThing_26 (lv_at hl 0 rfl) ?_
          refine tw_iald (i := (nI i6)) hx hb hK hT hr_tx shc_16 rfl (vp_in_nI (by omega) (by decide)) dX4_numberThing_28 (fun v9 m36 h9 => ?_)
          obtain ⟨x37, rfl, gx37, kx37⟩ := h9
          obtain ⟨x9, e9, a9, b9⟩ := hdg i6 (by omega) (by omega)
          have e8 := (el_kept (hF.arr hr_tx skc_16 (by decide))).symm.trans m36; rw [show (nI i6).toNatClampNeg = i6 from tn_nI (by omega)] at e8
          obtain rfl : x37 = x9 := el_val e8 e9
          refine lv_iadd hx hb dX4_numberThing_29 ?_
          refine lv_topi (fun x38 ex38 => ?_)
          have t39 : x38.toInt = x34.toInt + x37.toInt := ti_add ex38 rfl rfl (by omega) (by omega)
          refine lv_bipush (v := 48) hx hb dX4_numberThing_30 (by decide) ?_
          refine lv_isub hx hb dX4_numberThing_32 ?_
          refine lv_topi (fun x40 ex40 => ?_)
          have t41 : x40.toInt = x38.toInt - 48 := ti_sub ex40 rfl (by decide) (by omega) (by omega)
          refine lv_istore_n (lv' := [(3, .int x40), (4, .int (nI i6)), (0, .ref tx), (1, .int (nI k5)), (2, .int en)]) hx hb dX4_numberThing_33 rfl hl (by decide) rfl (fun ls hl => ?_)
          refine lv_iinc (v := nI (i6 + 1)) (lv' := [(4, .int (nI (i6 + 1))), (3, .int x40), (0, .ref tx), (1, .int (nI k5)), (2, .int en)]) hx hb dX4_numberThing_34 hl (k := 1) rfl (nI_add i6 1) (by decide) rfl (fun ls hl => ?_)
          refine lv_goto (tgt := 15) hx hb dX4_numberThing_37 (by decide) ?_
          exact ih23 (i6 + 1) (by omega) (by omega) x40 ⟨(by have q9 := (show x40.toInt = x40.toInt from rfl); (try have q8 := ti_all x40); omega), (by have := (show x40.toInt = x40.toInt from rfl); omega)⟩ _ _ hT hF hS ls (lv_sub hl [0, 1, 2, 3, 4] rfl)
    exact key23 (400 - k5) k5 (by omega) (Nat.le_refl _) 0 ⟨(by have q9 := (show (0 : Int32).toInt = 0 from (by decide)); (try have q8 := ti_all (0 : Int32)); omega), (by have := (show (0 : Int32).toInt = 0 from (by decide)); omega)⟩ _ _ hT hF hS ls (lv_sub hl [0, 1, 2, 3, 4] rfl)
  · have t42 : 5 < x1.toInt := ti_nle c3 rfl (by decide)
    refine lv_bipush (v := 22) hx hb dX4_numberThing_7 (by decide) ?_
    exact W.iret (v := 22) hx hb hr (fun t ht hW => ⟨⟨22, (), rfl, (by exact (rg_t (a := 22) (by decide) (by first | decide | omega) (by first | decide | omega))), by (try dsimp only); rw [ht]; exact ⟨hT, hF⟩⟩, hS.F ht⟩) hS.2.2 dX4_numberThing_9
def w_c_signThing : List Cond := .code yX4_signThing cX4_signThing 1 (some .int) :: (HAppend.hAppend (α := List Cond) (β := List Cond) (γ := List Cond) [] bs2)
set_option maxHeartbeats 4000000 in
set_option maxRecDepth 100000 in
theorem c_signThing (l : Launch) (dC : Nat → ClassId) (dI : Nat → Nat → Nat) (kA : Nat → ClassId) (adK adV : Nat → Nat) (G : gT) (H0 : Heap) (nC nS : Int) (p0 : Int32)  (hT : gH (dC, dI) kA (SHc nC nS) G H0) (hgC : 0 ≤ nC ∧ nC ≤ 40) (hgS : 0 ≤ nS ∧ nS ≤ 60) : Met l yX4_signThing w_c_signThing ({ frames := 0, cells := 0, slots := 0, locals := 0 }) (va_Pc [.int p0] (fun U => U.heap = H0 ∧ va_K (dC, dI) vwCl (tyl kA) U ∧ EVC adK adV (gA G H0.size) U U.heap)) (va_Qi (fun (r : Int32) (u : Unit) => (10 ≤ r.toInt ∧ r.toInt ≤ 22)) (fun (_ : Unit) (t : State) => gH (dC, dI) kA (SHc nC nS) G t.heap ∧ gF (dC, dI) SKc G ([] : List (Nat × Nat)) H0 t.heap) (gA G H0.size)) 0 0 (gA G H0.size) := by
  refine Met.ofW (cc := cX4_signThing) (maxL := 1) (ret := (some .int)) (by decide) rfl ?_
  intro p e s m args below meth c s₁ B hml hv
  obtain ⟨rfl, hH0, hK, hE⟩ := hv
  have hx := B.exec
  have hb := B.bytes
  have hr := B.returns
  have hts := atoms_spec (ws := w_c_signThing) B.pre
  have hown : s.vm.findClass RX4 = some m.cls := findClass_of_methodNamed B.named
  have hlocks := B.notSynchronized
  subst hH0
  generalize hAe : gA G s.heap.size = A at hE ⊢
  have hA : ∀ q : Nat, s.heap.size ≤ q → A q := fun q h => by rw [← hAe]; exact Or.inr h
  have hG := gA_of hAe
  have hS : va_S A s.heap s.heap [] := va_S.rf
  have hF : gF (dC, dI) SKc G ([] : List (Nat × Nat)) s.heap s.heap := gF.rf
  have hl := lv_entry ([.int p0]) (n := 1) (Nat.le_of_ble_eq_true rfl)
  rw [lg_entry_eq]
  generalize (lg_sl ([.int p0]) ++ List.replicate (1 - (lg_sl ([.int p0])).length) Slot.unset).toArray = ls at hl ⊢
  have hl : lv_has ls 1 [(0, .int p0)] := hl
  refine lv_iload_n hx hb dX4_signThing_0 rfl (lv_at hl 0 rfl) ?_
  by_cases hs1 : p0 = 40
  · subst hs1
    refine lv_lookup (x := 40) (off := 68) (tgt := 69) hx hb dX4_signThing_1 (by decide) (by decide) (by decide) ?_
    refine lv_bipush (v := 16) hx hb dX4_signThing_69 (by decide) ?_
    exact W.iret (v := 16) hx hb hr (fun t ht hW => ⟨⟨16, (), rfl, (by exact (rg_t (a := 16) (by decide) (by first | decide | omega) (by first | decide | omega))), by (try dsimp only); rw [ht]; exact ⟨hT, hF⟩⟩, hS.F ht⟩) hS.2.2 dX4_signThing_71
  by_cases hs2 : p0 = 41
  · subst hs2
    refine lv_lookup (x := 41) (off := 71) (tgt := 72) hx hb dX4_signThing_1 (by decide) (by decide) (by decide) ?_
    refine lv_bipush (v := 17) hx hb dX4_signThing_72 (by decide) ?_
    exact W.iret (v := 17) hx hb hr (fun t ht hW => ⟨⟨17, (), rfl, (by exact (rg_t (a := 17) (by decide) (by first | decide | omega) (by first | decide | omega))), by (try dsimp only); rw [ht]; exact ⟨hT, hF⟩⟩, hS.F ht⟩) hS.2.2 dX4_signThing_74
  by_cases hs3 : p0 = 43
  · subst hs3
    refine lv_lookup (x := 43) (off := 59) (tgt := 60) hx hb dX4_signThing_1 (by decide) (by decide) (by decide) ?_
    refine lv_bipush (v := 10) hx hb dX4_signThing_60 (by decide) ?_
    exact W.iret (v := 10) hx hb hr (fun t ht hW => ⟨⟨10, (), rfl, (by exact (rg_t (a := 10) (by decide) (by first | decide | omega) (by first | decide | omega))), by (try dsimp only); rw [ht]; exact ⟨hT, hF⟩⟩, hS.F ht⟩) hS.2.2 dX4_signThing_62
  by_cases hs4 : p0 = 59
  · subst hs4
    refine lv_lookup (x := 59) (off := 74) (tgt := 75) hx hb dX4_signThing_1 (by decide) (by decide) (by decide) ?_
    refine lv_bipush (v := 18) hx hb dX4_signThing_75 (by decide) ?_
    exact W.iret (v := 18) hx hb hr (fun t ht hW => ⟨⟨18, (), rfl, (by exact (rg_t (a := 18) (by decide) (by first | decide | omega) (by first | decide | omega))), by (try dsimp only); rw [ht]; exact ⟨hT, hF⟩⟩, hS.F ht⟩) hS.2.2 dX4_signThing_77
  by_cases hs5 : p0 = 60
  · subst hs5
    refine lv_lookup (x := 60) (off := 62) (tgt := 63) hx hb dX4_signThing_1 (by decide) (by decide) (by decide) ?_
    refine lv_bipush (v := 11) hx hb dX4_signThing_63 (by decide) ?_
    exact W.iret (v := 11) hx hb hr (fun t ht hW => ⟨⟨11, (), rfl, (by exact (rg_t (a := 11) (by decide) (by first | decide | omega) (by first | decide | omega))), by (try dsimp only); rw [ht]; exact ⟨hT, hF⟩⟩, hS.F ht⟩) hS.2.2 dX4_signThing_65
  by_cases hs6 : p0 = 62
  · subst hs6
    refine lv_lookup (x := 62) (off := 65) (tgt := 66) hx hb dX4_signThing_1 (by decide) (by decide) (by decide) ?_
    refine lv_bipush (v := 12) hx hb dX4_signThing_66 (by decide) ?_
    exact W.iret (v := 12) hx hb hr (fun t ht hW => ⟨⟨12, (), rfl, (by exact (rg_t (a := 12) (by decide) (by first | decide | omega) (by first | decide | omega))), by (try dsimp only); rw [ht]; exact ⟨hT, hF⟩⟩, hS.F ht⟩) hS.2.2 dX4_signThing_68
  refine lv_lookup (off := 77) (tgt := 78) hx hb dX4_signThing_1 (by decide) (by rw [lv_osw hs1 (by decide)]; rw [lv_osw hs2 (by decide)]; rw [lv_osw hs3 (by decide)]; rw [lv_osw hs4 (by decide)]; rw [lv_osw hs5 (by decide)]; rw [lv_osw hs6 (by decide)]; rfl) (by decide) ?_
  refine lv_bipush (v := 22) hx hb dX4_signThing_78 (by decide) ?_
  exact W.iret (v := 22) hx hb hr (fun t ht hW => ⟨⟨22, (), rfl, (by exact (rg_t (a := 22) (by decide) (by first | decide | omega) (by first | decide | omega))), by (try dsimp only); rw [ht]; exact ⟨hT, hF⟩⟩, hS.F ht⟩) hS.2.2 dX4_signThing_80
def w_c_wordIs : List Cond := .code yX4_wordIs cX4_wordIs 5 (some .boolean) :: (HAppend.hAppend (α := List Cond) (β := List Cond) (γ := List Cond) [.code yJ0_length_8abf5 cJ0_length_8abf5 1 (some .int), .fieldLink RJ0 9 "java/lang/String" "value" "[B", .code yJ0_coder_7d493 cJ0_coder_7d493 1 (some .byte), .fieldLink RJ0 38 "java/lang/String" "COMPACT_STRINGS" "Z", .fieldLink RJ0 15 "java/lang/String" "coder" "B", .methodLink RJ0 335 yJ0_coder_7d493, .instanceMethod yJ0_coder_7d493, .selects RJ0 yJ0_coder_7d493 yJ0_coder_7d493, .initialized RJ0, .methodLink RX4 155 yJ0_length_8abf5, .instanceMethod yJ0_length_8abf5, .selects RJ0 yJ0_length_8abf5 yJ0_length_8abf5, .code yJ0_charAt_5068e cJ0_charAt_5068e 2 (some .char), .code yJ0_isLatin1_aae02 cJ0_isLatin1_aae02 1 (some .boolean), .methodLink RJ0 492 yJ0_isLatin1_aae02, .instanceMethod yJ0_isLatin1_aae02, .selects RJ0 yJ0_isLatin1_aae02 yJ0_isLatin1_aae02, .code yJ1_charAt_3b067 cJ1_charAt_3b067 2 (some .char), .code yJ0_checkIndex_df160 cJ0_checkIndex_df160 2 none, .fieldLink RJ0 1053 "jdk/internal/util/Preconditions" "SIOOBE_FORMATTER" "Ljava/util/function/BiFunction;", .code yJ3_checkIndex_8e157 cJ3_checkIndex_8e157 3 (some .int), .methodLink RJ0 1059 yJ3_checkIndex_8e157, .static yJ3_checkIndex_8e157, .initialized RJ3, .methodLink RJ1 9 yJ0_checkIndex_df160, .static yJ0_checkIndex_df160, .methodLink RJ0 495 yJ1_charAt_3b067, .static yJ1_charAt_3b067, .initialized RJ1, .methodLink RX4 161 yJ0_charAt_5068e, .instanceMethod yJ0_charAt_5068e, .selects RJ0 yJ0_charAt_5068e yJ0_charAt_5068e] bs2)
set_option maxHeartbeats 4000000 in
set_option maxRecDepth 100000 in
theorem c_wordIs (l : Launch) (dC : Nat → ClassId) (dI : Nat → Nat → Nat) (kA : Nat → ClassId) (adK adV : Nat → Nat) (G : gT) (H0 : Heap) (nC nS : Int) (tx : Nat) (fr : Int32) (en : Int32) (sk : Nat) (hT : gH (dC, dI) kA (SHc nC nS) G H0) (hr_tx : G tx = some 16) (hq0 : 0 ≤ fr.toInt ∧ fr.toInt ≤ 399) (hq1 : 0 ≤ en.toInt ∧ en.toInt ≤ 400) (hfe : fr.toInt < en.toInt) (hsk : sk < 48) (hgC : 0 ≤ nC ∧ nC ≤ 40) (hgS : 0 ≤ nS ∧ nS ≤ 60) : Met l yX4_wordIs w_c_wordIs ({ frames := 4, cells := 0, slots := 0, locals := 85 }) (va_Pc [.ref (adK sk), .ref tx, .int fr, .int en] (fun U => U.heap = H0 ∧ va_K (dC, dI) vwCl (tyl kA) U ∧ EVC adK adV (gA G H0.size) U U.heap)) (va_Qi (fun (r : Int32) (u : Unit) => (0 ≤ r.toInt ∧ r.toInt ≤ 1)) (fun (_ : Unit) (t : State) => gH (dC, dI) kA (SHc nC nS) G t.heap ∧ gF (dC, dI) SKc G ([] : List (Nat × Nat)) H0 t.heap) (gA G H0.size)) 0 0 (gA G H0.size) := by
  refine Met.ofW (cc := cX4_wordIs) (maxL := 5) (ret := (some .boolean)) (by decide) rfl ?_
  intro p e s m args below meth c s₁ B hml hv
  obtain ⟨rfl, hH0, hK, hE⟩ := hv
  have hx := B.exec
  have hb := B.bytes
  have hr := B.returns
  have hts := atoms_spec (ws := w_c_wordIs) B.pre
  have hown : s.vm.findClass RX4 = some m.cls := findClass_of_methodNamed B.named
  have hlocks := B.notSynchronized
  subst hH0
  generalize hAe : gA G s.heap.size = A at hE ⊢
  have hA : ∀ q : Nat, s.heap.size ≤ q → A q := fun q h => by rw [← hAe]; exact Or.inr h
  have hG := gA_of hAe
  have hS : va_S A s.heap s.heap [] := va_S.rf
  have hF : gF (dC, dI) SKc G ([] : List (Nat × Nat)) s.heap s.heap := gF.rf
  have hl := lv_entry ([.ref (adK sk), .ref tx, .int fr, .int en]) (n := 5) (Nat.le_of_ble_eq_true rfl)
  rw [lg_entry_eq]
  generalize (lg_sl ([.ref (adK sk), .ref tx, .int fr, .int en]) ++ List.replicate (5 - (lg_sl ([.ref (adK sk), .ref tx, .int fr, .int en])).length) Slot.unset).toArray = ls at hl ⊢
  have hl : lv_has ls 5 [(0, .ref (adK sk)), (1, .ref tx), (2, .int fr), (3, .int en)] := hl
  refine lv_iload_n hx hb dX4_wordIs_0 rfl (lv_at hl 3 rfl) ?_
  refine lv_iload_n hx hb dX4_wordIs_1 rfl (lv_at hl 2 rfl) ?_
  refine lv_isub hx hb dX4_wordIs_2 ?_
  refine lv_topi (fun x1 ex1 => ?_)
  have t2 : x1.toInt = en.toInt - fr.toInt := ti_sub ex1 rfl rfl (by omega) (by omega)
  refine lv_aload_n hx hb dX4_wordIs_3 rfl (lv_at hl 0 rfl) ?_
  have hFc := gA_free hG hA hS
  refine va_calli (va_runV (As := []) (rest := [.int x1]) ⟨hx, hb, hml, hown, hts⟩ (cj_length l dC dI kA adK adV G s.heap nC nS sk hT hsk (by omega) (by omega)) (cwV 0 hts (goodIn_app (goodIn_r _ [10, 11, 12, 9] rfl (by decide +kernel)) (goodIn_ca (goodIn_r _ [1, 2, 3, 4, 5, 6, 7, 8, 9] rfl (by decide +kernel)) (bs2_in _ _))) rfl rfl rfl (by decide +kernel) ⟨(Nat.le_of_ble_eq_true rfl), (Nat.le_of_ble_eq_true rfl)⟩) ⟨fun a U g mk q => by obtain ⟨q0, q1, qK, qE⟩ := q; exact ⟨q0, q1, va_K.moved (u := U) (U := U.calling g mk a) (Vm.Alike.refl U.vm) qK, EVC.blind g mk a qE⟩, hE.recv (i := sk) hsk hS, fun U hU hW => ⟨rfl, hU, va_K.moved hW.alike hK, hE.call hS hFc hU hW⟩⟩ rfl rfl hl.1 rfl (lv_room (Nat.le_of_ble_eq_true rfl)) dX4_wordIs_4 ⟨(Nat.le_of_ble_eq_true rfl), (Nat.le_of_ble_eq_true rfl)⟩) hS (fun q _ h => hFc q h) hFc (fun r3 u t H locs ht hvm hw4 hB _ _ hS => ?_)
  obtain ⟨hT, hF1⟩ := hB
  rw [ht] at hT hF1
  have hF := hF.more hF1 (by decide)
  try dsimp only at hw4
  obtain ⟨h5, hf6⟩ := hw4
  refine lv_icmp_eq (tgt := 12) hx hb dX4_wordIs_7 (by decide) (fun c7 => ?_) (fun c7 => ?_)
  · have t8 : x1.toInt = r3.toInt := ti_eq c7 rfl rfl
    refine lv_iconst (v := 0) hx hb dX4_wordIs_12 (by decide) ?_
    refine lv_istore (lv' := [(4, .int 0), (0, .ref (adK sk)), (1, .ref tx), (2, .int fr), (3, .int en)]) hx hb dX4_wordIs_13 hl (by decide) rfl (fun ls hl => ?_)
    have key28 : ∀ (n28 i9 : Nat), i9 + n28 = 6 → 0 ≤ i9 → ∀ (H : Heap) (locs : List Loc), gH (dC, dI) kA (SHc nC nS) G H → gF (dC, dI) SKc G ([] : List (Nat × Nat)) s.heap H → va_S A s.heap H locs → ∀ ls : Array Slot, lv_has ls 5 [(4, .int (nI i9)), (0, .ref (adK sk)), (1, .ref tx), (2, .int fr), (3, .int en)] → W p l e (headSpec w_c_wordIs ({ frames := 4, cells := 0, slots := 0, locals := 85 })).room s m #[.ref (adK sk), .ref tx, .int fr, .int en] below meth c H locs 0 0 (MQ below (va_Qi (fun (r : Int32) (u : Unit) => (0 ≤ r.toInt ∧ r.toInt ≤ 1)) (fun (_ : Unit) (t : State) => gH (dC, dI) kA (SHc nC nS) G t.heap ∧ gF (dC, dI) SKc G ([] : List (Nat × Nat)) s.heap t.heap) A) #[.ref (adK sk), .ref tx, .int fr, .int en] s 0 0 A) (F0 m 15 ls []) := by
      intro n28
      induction n28 with
      | zero =>
        intro i9 hn28 hlo29  H locs hT hF hS  ls hl
        obtain rfl : 6 = i9 := by omega
        refine lv_iload hx hb dX4_wordIs_15 (lv_at hl 0 rfl) ?_
        refine lv_aload_n hx hb dX4_wordIs_17 rfl (lv_at hl 1 rfl) ?_
        have hFc := gA_free hG hA hS
        refine va_calli (va_runV (As := []) (rest := [.int (nI 6)]) ⟨hx, hb, hml, hown, hts⟩ (cj_length l dC dI kA adK adV G H nC nS sk hT hsk (by omega) (by omega)) (cwV 0 hts (goodIn_app (goodIn_r _ [10, 11, 12, 9] rfl (by decide +kernel)) (goodIn_ca (goodIn_r _ [1, 2, 3, 4, 5, 6, 7, 8, 9] rfl (by decide +kernel)) (bs2_in _ _))) rfl rfl rfl (by decide +kernel) ⟨(Nat.le_of_ble_eq_true rfl), (Nat.le_of_ble_eq_true rfl)⟩) ⟨fun a U g mk q => by obtain ⟨q0, q1, qK, qE⟩ := q; exact ⟨q0, q1, va_K.moved (u := U) (U := U.calling g mk a) (Vm.Alike.refl U.vm) qK, EVC.blind g mk a qE⟩, hE.recv (i := sk) hsk hS, fun U hU hW => ⟨rfl, hU, va_K.moved hW.alike hK, hE.call hS hFc hU hW⟩⟩ rfl rfl hl.1 rfl (lv_room (Nat.le_of_ble_eq_true rfl)) dX4_wordIs_18 ⟨(Nat.le_of_ble_eq_true rfl), (Nat.le_of_ble_eq_true rfl)⟩) hS (fun q _ h => hFc q h) hFc (fun r30 u t H locs ht hvm hw31 hB _ _ hS => ?_)
        obtain ⟨hT, hF1⟩ := hB
        rw [ht] at hT hF1
        have hF := hF.more hF1 (by decide)
        try dsimp only at hw31
        obtain ⟨h32, hf33⟩ := hw31
        refine lv_icmp_ge (tgt := 47) hx hb dX4_wordIs_21 (by decide) (fun c34 => ?_) (fun c34 => (by exfalso; have q9 : ((6 : Nat) : Int) < r30.toInt := ti_nle c34 rfl (nI_toInt (by omega)); omega))
        have t35 : r30.toInt ≤ ((6 : Nat) : Int) := ti_le c34 rfl (nI_toInt (by omega))
        refine lv_iconst (v := 1) hx hb dX4_wordIs_47 (by decide) ?_
        exact W.zret (v := 1) hx hb hr (by decide) (fun t ht hW => ⟨⟨1, (), rfl, (by exact (rg_t (a := 1) (by decide) (by first | decide | omega) (by first | decide | omega))), by (try dsimp only); rw [ht]; exact ⟨hT, hF⟩⟩, hS.F ht⟩) hS.2.2 dX4_wordIs_48
      | succ n28 ih28 =>
        intro i9 hn28 hlo29  H locs hT hF hS  ls hl
        have hlt35 : i9 < 6 := by omega
        refine lv_iload hx hb dX4_wordIs_15 (lv_at hl 0 rfl) ?_
        refine lv_aload_n hx hb dX4_wordIs_17 rfl (lv_at hl 1 rfl) ?_
        have hFc := gA_free hG hA hS
        refine va_calli (va_runV (As := []) (rest := [.int (nI i9)]) ⟨hx, hb, hml, hown, hts⟩ (cj_length l dC dI kA adK adV G H nC nS sk hT hsk (by omega) (by omega)) (cwV 0 hts (goodIn_app (goodIn_r _ [10, 11, 12, 9] rfl (by decide +kernel)) (goodIn_ca (goodIn_r _ [1, 2, 3, 4, 5, 6, 7, 8, 9] rfl (by decide +kernel)) (bs2_in _ _))) rfl rfl rfl (by decide +kernel) ⟨(Nat.le_of_ble_eq_true rfl), (Nat.le_of_ble_eq_true rfl)⟩) ⟨fun a U g mk q => by obtain ⟨q0, q1, qK, qE⟩ := q; exact ⟨q0, q1, va_K.moved (u := U) (U := U.calling g mk a) (Vm.Alike.refl U.vm) qK, EVC.blind g mk a qE⟩, hE.recv (i := sk) hsk hS, fun U hU hW => ⟨rfl, hU, va_K.moved hW.alike hK, hE.call hS hFc hU hW⟩⟩ rfl rfl hl.1 rfl (lv_room (Nat.le_of_ble_eq_true rfl)) dX4_wordIs_18 ⟨(Nat.le_of_ble_eq_true rfl), (Nat.le_of_ble_eq_true rfl)⟩) hS (fun q _ h => hFc q h) hFc (fun r36 u t H locs ht hvm hw37 hB _ _ hS => ?_)
        obtain ⟨hT, hF1⟩ := hB
        rw [ht] at hT hF1
        have hF := hF.more hF1 (by decide)
        try dsimp only at hw37
        obtain ⟨h38, hf39⟩ := hw37
        refine lv_icmp_ge (tgt := 47) hx hb dX4_wordIs_21 (by decide) (fun c40 => ?_) (fun c40 => ?_)
        · have t41 : r36.toInt ≤ ((i9 : Nat) : Int) := ti_le c40 rfl (nI_toInt (by omega))
          refine lv_iconst (v := 1) hx hb dX4_wordIs_47 (by decide) ?_
          exact W.zret (v := 1) hx hb hr (by decide) (fun t ht hW => ⟨⟨1, (), rfl, (by exact (rg_t (a := 1) (by decide) (by first | decide | omega) (by first | decide | omega))), by (try dsimp only); rw [ht]; exact ⟨hT, hF⟩⟩, hS.F ht⟩) hS.2.2 dX4_wordIs_48
        · have t42 : ((i9 : Nat) : Int) < r36.toInt := ti_nle c40 rfl (nI_toInt (by omega))
          refine lv_aload_n hx hb dX4_wordIs_24 rfl (lv_at hl 2 rfl) ?_
          refine lv_iload_n hx hb dX4_wordIs_25 rfl (lv_at hl 3 rfl) ?_
          refine lv_iload hx hb dX4_wordIs_26 (lv_at hl 0 rfl) ?_
          refine lv_iadd hx hb dX4_wordIs_28 ?_
          refine lv_topi (fun x43 ex43 => ?_)
          have t44 : x43.toInt = fr.toInt + ((i9 : Nat) : Int) := ti_add ex43 rfl (nI_toInt (by omega)) (by omega) (by omega)
          refine tw_iald (i := x43) hx hb hK hT hr_tx shc_16 rfl (vin_t (a := x43.toInt) rfl (by omega) (by omega)) dX4_wordIs_29 (fun v9 m45 h9 => ?_)
          obtain ⟨x46, rfl, gx46, kx46⟩ := h9
          refine lv_aload_n hx hb dX4_wordIs_30 rfl (lv_at hl 1 rfl) ?_
          refine lv_iload hx hb dX4_wordIs_31 (lv_at hl 0 rfl) ?_
          have hFc := gA_free hG hA hS
          refine va_calli (va_runV (As := [.int (nI i9)]) (rest := [.int x46]) ⟨hx, hb, hml, hown, hts⟩ (cj_charAt l dC dI kA adK adV G H nC nS (nI i9) sk hT (rg_t (a := ((i9 : Nat) : Int)) (nI_toInt (by omega)) (by omega) (by omega)) (by have := (show (nI i9).toInt = ((i9 : Nat) : Int) from (nI_toInt (by omega))); omega) hsk (by omega) (by omega)) (cwV 1 hts (goodIn_app (goodIn_r _ [30, 31, 32, 9] rfl (by decide +kernel)) (goodIn_ca (goodIn_r _ [13, 14, 4, 5, 15, 16, 17, 9, 2, 18, 19, 20, 21, 22, 23, 24, 25, 26, 27, 28, 29] rfl (by decide +kernel)) (bs2_in _ _))) rfl rfl rfl (by decide +kernel) ⟨(Nat.le_of_ble_eq_true rfl), (Nat.le_of_ble_eq_true rfl)⟩) ⟨fun a U g mk q => by obtain ⟨q0, q1, qK, qE⟩ := q; exact ⟨q0, q1, va_K.moved (u := U) (U := U.calling g mk a) (Vm.Alike.refl U.vm) qK, EVC.blind g mk a qE⟩, hE.recv (i := sk) hsk hS, fun U hU hW => ⟨rfl, hU, va_K.moved hW.alike hK, hE.call hS hFc hU hW⟩⟩ rfl rfl hl.1 rfl (lv_room (Nat.le_of_ble_eq_true rfl)) dX4_wordIs_33 ⟨(Nat.le_of_ble_eq_true rfl), (Nat.le_of_ble_eq_true rfl)⟩) hS (fun q _ h => hFc q h) hFc (fun r47 u t H locs ht hvm hw48 hB _ _ hS => ?_)
          obtain ⟨hT, hF1⟩ := hB
          rw [ht] at hT hF1
          have hF := hF.more hF1 (by decide)
          try dsimp only at hw48
          have t50 : -2147483648 ≤ r47.toInt ∧ r47.toInt ≤ 2147483647 := ti_all r47
          refine lv_icmp_eq (tgt := 41) hx hb dX4_wordIs_36 (by decide) (fun c51 => ?_) (fun c51 => ?_)
          · have t52 : x46.toInt = r47.toInt := ti_eq c51 rfl rfl
            refine lv_iinc (v := nI (i9 + 1)) (lv' := [(4, .int (nI (i9 + 1))), (0, .ref (adK sk)), (1, .ref tx), (2, .int fr), (3, .int en)]) hx hb dX4_wordIs_41 hl (k := 0) rfl (nI_add i9 1) (by decide) rfl (fun ls hl => ?_)
            refine lv_goto (tgt := 15) hx hb dX4_wordIs_44 (by decide) ?_
            exact ih28 (i9 + 1) (by omega) (by omega) _ _ hT hF hS ls (lv_sub hl [0, 1, 2, 3, 4] rfl)
          · have t53 : x46.toInt ≠ r47.toInt := ti_ne c51 rfl rfl
            refine lv_iconst (v := 0) hx hb dX4_wordIs_39 (by decide) ?_
            exact W.zret (v := 0) hx hb hr (by decide) (fun t ht hW => ⟨⟨0, (), rfl, (by exact (rg_t (a := 0) (by decide) (by first | decide | omega) (by first | decide | omega))), by (try dsimp only); rw [ht]; exact ⟨hT, hF⟩⟩, hS.F ht⟩) hS.2.2 dX4_wordIs_40
    exact key28 (6 - 0) 0 (by omega) (Nat.le_refl _) _ _ hT hF hS ls (lv_sub hl [0, 1, 2, 3, 4] rfl)
  · have t54 : x1.toInt ≠ r3.toInt := ti_ne c7 rfl rfl
    refine lv_iconst (v := 0) hx hb dX4_wordIs_10 (by decide) ?_
    exact W.zret (v := 0) hx hb hr (by decide) (fun t ht hW => ⟨⟨0, (), rfl, (by exact (rg_t (a := 0) (by decide) (by first | decide | omega) (by first | decide | omega))), by (try dsimp only); rw [ht]; exact ⟨hT, hF⟩⟩, hS.F ht⟩) hS.2.2 dX4_wordIs_11
def w_c_factThing : List Cond := .code yX4_factThing cX4_factThing 3 (some .int) :: (HAppend.hAppend (α := List Cond) (β := List Cond) (γ := List Cond) [.code yX4_wordIs cX4_wordIs 5 (some .boolean), .code yJ0_length_8abf5 cJ0_length_8abf5 1 (some .int), .fieldLink RJ0 9 "java/lang/String" "value" "[B", .code yJ0_coder_7d493 cJ0_coder_7d493 1 (some .byte), .fieldLink RJ0 38 "java/lang/String" "COMPACT_STRINGS" "Z", .fieldLink RJ0 15 "java/lang/String" "coder" "B", .methodLink RJ0 335 yJ0_coder_7d493, .instanceMethod yJ0_coder_7d493, .selects RJ0 yJ0_coder_7d493 yJ0_coder_7d493, .initialized RJ0, .methodLink RX4 155 yJ0_length_8abf5, .instanceMethod yJ0_length_8abf5, .selects RJ0 yJ0_length_8abf5 yJ0_length_8abf5, .code yJ0_charAt_5068e cJ0_charAt_5068e 2 (some .char), .code yJ0_isLatin1_aae02 cJ0_isLatin1_aae02 1 (some .boolean), .methodLink RJ0 492 yJ0_isLatin1_aae02, .instanceMethod yJ0_isLatin1_aae02, .selects RJ0 yJ0_isLatin1_aae02 yJ0_isLatin1_aae02, .code yJ1_charAt_3b067 cJ1_charAt_3b067 2 (some .char), .code yJ0_checkIndex_df160 cJ0_checkIndex_df160 2 none, .fieldLink RJ0 1053 "jdk/internal/util/Preconditions" "SIOOBE_FORMATTER" "Ljava/util/function/BiFunction;", .code yJ3_checkIndex_8e157 cJ3_checkIndex_8e157 3 (some .int), .methodLink RJ0 1059 yJ3_checkIndex_8e157, .static yJ3_checkIndex_8e157, .initialized RJ3, .methodLink RJ1 9 yJ0_checkIndex_df160, .static yJ0_checkIndex_df160, .methodLink RJ0 495 yJ1_charAt_3b067, .static yJ1_charAt_3b067, .initialized RJ1, .methodLink RX4 161 yJ0_charAt_5068e, .instanceMethod yJ0_charAt_5068e, .selects RJ0 yJ0_charAt_5068e yJ0_charAt_5068e, .methodLink RX4 105 yX4_wordIs, .static yX4_wordIs, .initialized RX4] bs2)
set_option maxHeartbeats 4000000 in
set_option maxRecDepth 100000 in
theorem c_factThing (l : Launch) (dC : Nat → ClassId) (dI : Nat → Nat → Nat) (kA : Nat → ClassId) (adK adV : Nat → Nat) (G : gT) (H0 : Heap) (nC nS : Int) (tx : Nat) (fr : Int32) (en : Int32)  (hT : gH (dC, dI) kA (SHc nC nS) G H0) (hr_tx : G tx = some 16) (hq0 : 0 ≤ fr.toInt ∧ fr.toInt ≤ 399) (hq1 : 0 ≤ en.toInt ∧ en.toInt ≤ 400) (hfe : fr.toInt < en.toInt) (hgC : 0 ≤ nC ∧ nC ≤ 40) (hgS : 0 ≤ nS ∧ nS ≤ 60) : Met l yX4_factThing w_c_factThing ({ frames := 5, cells := 0, slots := 0, locals := 109 }) (va_Pc [.ref tx, .int fr, .int en] (fun U => U.heap = H0 ∧ va_K (dC, dI) vwCl (tyl kA) U ∧ EVC adK adV (gA G H0.size) U U.heap)) (va_Qi (fun (r : Int32) (u : Unit) => (-1 ≤ r.toInt ∧ r.toInt ≤ 9)) (fun (_ : Unit) (t : State) => gH (dC, dI) kA (SHc nC nS) G t.heap ∧ gF (dC, dI) SKc G ([] : List (Nat × Nat)) H0 t.heap) (gA G H0.size)) 0 0 (gA G H0.size) := by
  refine Met.ofW (cc := cX4_factThing) (maxL := 3) (ret := (some .int)) (by decide) rfl ?_
  intro p e s m args below meth c s₁ B hml hv
  obtain ⟨rfl, hH0, hK, hE⟩ := hv
  have hx := B.exec
  have hb := B.bytes
  have hr := B.returns
  have hts := atoms_spec (ws := w_c_factThing) B.pre
  have hown : s.vm.findClass RX4 = some m.cls := findClass_of_methodNamed B.named
  have hlocks := B.notSynchronized
  subst hH0
  generalize hAe : gA G s.heap.size = A at hE ⊢
  have hA : ∀ q : Nat, s.heap.size ≤ q → A q := fun q h => by rw [← hAe]; exact Or.inr h
  have hG := gA_of hAe
  have hS : va_S A s.heap s.heap [] := va_S.rf
  have hF : gF (dC, dI) SKc G ([] : List (Nat × Nat)) s.heap s.heap := gF.rf
  have hl := lv_entry ([.ref tx, .int fr, .int en]) (n := 3) (Nat.le_of_ble_eq_true rfl)
  rw [lg_entry_eq]
  generalize (lg_sl ([.ref tx, .int fr, .int en]) ++ List.replicate (3 - (lg_sl ([.ref tx, .int fr, .int en])).length) Slot.unset).toArray = ls at hl ⊢
  have hl : lv_has ls 3 [(0, .ref tx), (1, .int fr), (2, .int en)] := hl
  refine va_ldcS hx hb hown hE.1.s29 dX4_factThing_0 ?_
  refine lv_aload_n hx hb dX4_factThing_2 rfl (lv_at hl 0 rfl) ?_
  refine lv_iload_n hx hb dX4_factThing_3 rfl (lv_at hl 1 rfl) ?_
  refine lv_iload_n hx hb dX4_factThing_4 rfl (lv_at hl 2 rfl) ?_
  have hFc := gA_free hG hA hS
  refine va_calli (va_runS (As := [.ref (adK 29), .ref tx, .int fr, .int en]) (rest := []) ⟨hx, hb, hml, hown, hts⟩ (c_wordIs l dC dI kA adK adV G s.heap nC nS tx fr en 29 hT hr_tx (by have q8 := ti_all fr; omega) (by have q8 := ti_all en; omega) (by have := (show fr.toInt = fr.toInt from rfl); have := (show en.toInt = en.toInt from rfl); omega) (by first | omega | decide) (by omega) (by omega)) (va_cwS 4 hts (goodIn_app (goodIn_r _ [34, 35, 36] rfl (by decide +kernel)) (goodIn_ca (goodIn_r _ [1, 2, 3, 4, 5, 6, 7, 8, 9, 10, 11, 12, 13, 14, 15, 16, 17, 18, 19, 20, 21, 22, 23, 24, 25, 26, 27, 28, 29, 30, 31, 32, 33] rfl (by decide +kernel)) (bs2_in _ _))) rfl rfl rfl (by decide +kernel) ⟨(Nat.le_of_ble_eq_true rfl), (Nat.le_of_ble_eq_true rfl)⟩) ⟨fun a U g mk q => by obtain ⟨q0, q1, qK, qE⟩ := q; exact ⟨q0, q1, va_K.moved (u := U) (U := U.calling g mk a) (Vm.Alike.refl U.vm) qK, EVC.blind g mk a qE⟩, fun U hU hW => ⟨rfl, hU, va_K.moved hW.alike hK, hE.call hS hFc hU hW⟩⟩ rfl rfl hl.1 rfl (lv_room (Nat.le_of_ble_eq_true rfl)) dX4_factThing_5 ⟨(Nat.le_of_ble_eq_true rfl), (Nat.le_of_ble_eq_true rfl)⟩) hS (fun q _ h => hFc q h) hFc (fun r1 u t H locs ht hvm hw2 hB _ _ hS => ?_)
  obtain ⟨hT, hF1⟩ := hB
  rw [ht] at hT hF1
  have hF := hF.more hF1 (by decide)
  try dsimp only at hw2
  have h3 := hw2
  refine lv_if_eq (tgt := 15) hx hb dX4_factThing_8 (by decide) (fun c4 => ?_) (fun c4 => ?_)
  · have t5 : r1.toInt = 0 := ti_eq c4 rfl (by decide)
    refine va_ldcS hx hb hown hE.1.s30 dX4_factThing_15 ?_
    refine lv_aload_n hx hb dX4_factThing_17 rfl (lv_at hl 0 rfl) ?_
    refine lv_iload_n hx hb dX4_factThing_18 rfl (lv_at hl 1 rfl) ?_
    refine lv_iload_n hx hb dX4_factThing_19 rfl (lv_at hl 2 rfl) ?_
    have hFc := gA_free hG hA hS
    refine va_calli (va_runS (As := [.ref (adK 30), .ref tx, .int fr, .int en]) (rest := []) ⟨hx, hb, hml, hown, hts⟩ (c_wordIs l dC dI kA adK adV G H nC nS tx fr en 30 hT hr_tx (by have q8 := ti_all fr; omega) (by have q8 := ti_all en; omega) (by have := (show fr.toInt = fr.toInt from rfl); have := (show en.toInt = en.toInt from rfl); omega) (by first | omega | decide) (by omega) (by omega)) (va_cwS 4 hts (goodIn_app (goodIn_r _ [34, 35, 36] rfl (by decide +kernel)) (goodIn_ca (goodIn_r _ [1, 2, 3, 4, 5, 6, 7, 8, 9, 10, 11, 12, 13, 14, 15, 16, 17, 18, 19, 20, 21, 22, 23, 24, 25, 26, 27, 28, 29, 30, 31, 32, 33] rfl (by decide +kernel)) (bs2_in _ _))) rfl rfl rfl (by decide +kernel) ⟨(Nat.le_of_ble_eq_true rfl), (Nat.le_of_ble_eq_true rfl)⟩) ⟨fun a U g mk q => by obtain ⟨q0, q1, qK, qE⟩ := q; exact ⟨q0, q1, va_K.moved (u := U) (U := U.calling g mk a) (Vm.Alike.refl U.vm) qK, EVC.blind g mk a qE⟩, fun U hU hW => ⟨rfl, hU, va_K.moved hW.alike hK, hE.call hS hFc hU hW⟩⟩ rfl rfl hl.1 rfl (lv_room (Nat.le_of_ble_eq_true rfl)) dX4_factThing_20 ⟨(Nat.le_of_ble_eq_true rfl), (Nat.le_of_ble_eq_true rfl)⟩) hS (fun q _ h => hFc q h) hFc (fun r6 u t H locs ht hvm hw7 hB _ _ hS => ?_)
    obtain ⟨hT, hF1⟩ := hB
    rw [ht] at hT hF1
    have hF := hF.more hF1 (by decide)
    try dsimp only at hw7
    have h8 := hw7
    refine lv_if_eq (tgt := 30) hx hb dX4_factThing_23 (by decide) (fun c9 => ?_) (fun c9 => ?_)
    · have t10 : r6.toInt = 0 := ti_eq c9 rfl (by decide)
      refine va_ldcS hx hb hown hE.1.s31 dX4_factThing_30 ?_
      refine lv_aload_n hx hb dX4_factThing_32 rfl (lv_at hl 0 rfl) ?_
      refine lv_iload_n hx hb dX4_factThing_33 rfl (lv_at hl 1 rfl) ?_
      refine lv_iload_n hx hb dX4_factThing_34 rfl (lv_at hl 2 rfl) ?_
      have hFc := gA_free hG hA hS
      refine va_calli (va_runS (As := [.ref (adK 31), .ref tx, .int fr, .int en]) (rest := []) ⟨hx, hb, hml, hown, hts⟩ (c_wordIs l dC dI kA adK adV G H nC nS tx fr en 31 hT hr_tx (by have q8 := ti_all fr; omega) (by have q8 := ti_all en; omega) (by have := (show fr.toInt = fr.toInt from rfl); have := (show en.toInt = en.toInt from rfl); omega) (by first | omega | decide) (by omega) (by omega)) (va_cwS 4 hts (goodIn_app (goodIn_r _ [34, 35, 36] rfl (by decide +kernel)) (goodIn_ca (goodIn_r _ [1, 2, 3, 4, 5, 6, 7, 8, 9, 10, 11, 12, 13, 14, 15, 16, 17, 18, 19, 20, 21, 22, 23, 24, 25, 26, 27, 28, 29, 30, 31, 32, 33] rfl (by decide +kernel)) (bs2_in _ _))) rfl rfl rfl (by decide +kernel) ⟨(Nat.le_of_ble_eq_true rfl), (Nat.le_of_ble_eq_true rfl)⟩) ⟨fun a U g mk q => by obtain ⟨q0, q1, qK, qE⟩ := q; exact ⟨q0, q1, va_K.moved (u := U) (U := U.calling g mk a) (Vm.Alike.refl U.vm) qK, EVC.blind g mk a qE⟩, fun U hU hW => ⟨rfl, hU, va_K.moved hW.alike hK, hE.call hS hFc hU hW⟩⟩ rfl rfl hl.1 rfl (lv_room (Nat.le_of_ble_eq_true rfl)) dX4_factThing_35 ⟨(Nat.le_of_ble_eq_true rfl), (Nat.le_of_ble_eq_true rfl)⟩) hS (fun q _ h => hFc q h) hFc (fun r11 u t H locs ht hvm hw12 hB _ _ hS => ?_)
      obtain ⟨hT, hF1⟩ := hB
      rw [ht] at hT hF1
      have hF := hF.more hF1 (by decide)
      try dsimp only at hw12
      have h13 := hw12
      refine lv_if_eq (tgt := 45) hx hb dX4_factThing_38 (by decide) (fun c14 => ?_) (fun c14 => ?_)
      · have t15 : r11.toInt = 0 := ti_eq c14 rfl (by decide)
        refine va_ldcS hx hb hown hE.1.s32 dX4_factThing_45 ?_
        refine lv_aload_n hx hb dX4_factThing_47 rfl (lv_at hl 0 rfl) ?_
        refine lv_iload_n hx hb dX4_factThing_48 rfl (lv_at hl 1 rfl) ?_
        refine lv_iload_n hx hb dX4_factThing_49 rfl (lv_at hl 2 rfl) ?_
        have hFc := gA_free hG hA hS
        refine va_calli (va_runS (As := [.ref (adK 32), .ref tx, .int fr, .int en]) (rest := []) ⟨hx, hb, hml, hown, hts⟩ (c_wordIs l dC dI kA adK adV G H nC nS tx fr en 32 hT hr_tx (by have q8 := ti_all fr; omega) (by have q8 := ti_all en; omega) (by have := (show fr.toInt = fr.toInt from rfl); have := (show en.toInt = en.toInt from rfl); omega) (by first | omega | decide) (by omega) (by omega)) (va_cwS 4 hts (goodIn_app (goodIn_r _ [34, 35, 36] rfl (by decide +kernel)) (goodIn_ca (goodIn_r _ [1, 2, 3, 4, 5, 6, 7, 8, 9, 10, 11, 12, 13, 14, 15, 16, 17, 18, 19, 20, 21, 22, 23, 24, 25, 26, 27, 28, 29, 30, 31, 32, 33] rfl (by decide +kernel)) (bs2_in _ _))) rfl rfl rfl (by decide +kernel) ⟨(Nat.le_of_ble_eq_true rfl), (Nat.le_of_ble_eq_true rfl)⟩) ⟨fun a U g mk q => by obtain ⟨q0, q1, qK, qE⟩ := q; exact ⟨q0, q1, va_K.moved (u := U) (U := U.calling g mk a) (Vm.Alike.refl U.vm) qK, EVC.blind g mk a qE⟩, fun U hU hW => ⟨rfl, hU, va_K.moved hW.alike hK, hE.call hS hFc hU hW⟩⟩ rfl rfl hl.1 rfl (lv_room (Nat.le_of_ble_eq_true rfl)) dX4_factThing_50 ⟨(Nat.le_of_ble_eq_true rfl), (Nat.le_of_ble_eq_true rfl)⟩) hS (fun q _ h => hFc q h) hFc (fun r16 u t H locs ht hvm hw17 hB _ _ hS => ?_)
        obtain ⟨hT, hF1⟩ := hB
        rw [ht] at hT hF1
        have hF := hF.more hF1 (by decide)
        try dsimp only at hw17
        have h18 := hw17
        refine lv_if_eq (tgt := 60) hx hb dX4_factThing_53 (by decide) (fun c19 => ?_) (fun c19 => ?_)
        · have t20 : r16.toInt = 0 := ti_eq c19 rfl (by decide)
          refine va_ldcS hx hb hown hE.1.s33 dX4_factThing_60 ?_
          refine lv_aload_n hx hb dX4_factThing_62 rfl (lv_at hl 0 rfl) ?_
          refine lv_iload_n hx hb dX4_factThing_63 rfl (lv_at hl 1 rfl) ?_
          refine lv_iload_n hx hb dX4_factThing_64 rfl (lv_at hl 2 rfl) ?_
          have hFc := gA_free hG hA hS
          refine va_calli (va_runS (As := [.ref (adK 33), .ref tx, .int fr, .int en]) (rest := []) ⟨hx, hb, hml, hown, hts⟩ (c_wordIs l dC dI kA adK adV G H nC nS tx fr en 33 hT hr_tx (by have q8 := ti_all fr; omega) (by have q8 := ti_all en; omega) (by have := (show fr.toInt = fr.toInt from rfl); have := (show en.toInt = en.toInt from rfl); omega) (by first | omega | decide) (by omega) (by omega)) (va_cwS 4 hts (goodIn_app (goodIn_r _ [34, 35, 36] rfl (by decide +kernel)) (goodIn_ca (goodIn_r _ [1, 2, 3, 4, 5, 6, 7, 8, 9, 10, 11, 12, 13, 14, 15, 16, 17, 18, 19, 20, 21, 22, 23, 24, 25, 26, 27, 28, 29, 30, 31, 32, 33] rfl (by decide +kernel)) (bs2_in _ _))) rfl rfl rfl (by decide +kernel) ⟨(Nat.le_of_ble_eq_true rfl), (Nat.le_of_ble_eq_true rfl)⟩) ⟨fun a U g mk q => by obtain ⟨q0, q1, qK, qE⟩ := q; exact ⟨q0, q1, va_K.moved (u := U) (U := U.calling g mk a) (Vm.Alike.refl U.vm) qK, EVC.blind g mk a qE⟩, fun U hU hW => ⟨rfl, hU, va_K.moved hW.alike hK, hE.call hS hFc hU hW⟩⟩ rfl rfl hl.1 rfl (lv_room (Nat.le_of_ble_eq_true rfl)) dX4_factThing_65 ⟨(Nat.le_of_ble_eq_true rfl), (Nat.le_of_ble_eq_true rfl)⟩) hS (fun q _ h => hFc q h) hFc (fun r21 u t H locs ht hvm hw22 hB _ _ hS => ?_)
          obtain ⟨hT, hF1⟩ := hB
          rw [ht] at hT hF1
          have hF := hF.more hF1 (by decide)
          try dsimp only at hw22
          have h23 := hw22
          refine lv_if_eq (tgt := 75) hx hb dX4_factThing_68 (by decide) (fun c24 => ?_) (fun c24 => ?_)
          · have t25 : r21.toInt = 0 := ti_eq c24 rfl (by decide)
            refine va_ldcS hx hb hown hE.1.s34 dX4_factThing_75 ?_
            refine lv_aload_n hx hb dX4_factThing_77 rfl (lv_at hl 0 rfl) ?_
            refine lv_iload_n hx hb dX4_factThing_78 rfl (lv_at hl 1 rfl) ?_
            refine lv_iload_n hx hb dX4_factThing_79 rfl (lv_at hl 2 rfl) ?_
            have hFc := gA_free hG hA hS
            refine va_calli (va_runS (As := [.ref (adK 34), .ref tx, .int fr, .int en]) (rest := []) ⟨hx, hb, hml, hown, hts⟩ (c_wordIs l dC dI kA adK adV G H nC nS tx fr en 34 hT hr_tx (by have q8 := ti_all fr; omega) (by have q8 := ti_all en; omega) (by have := (show fr.toInt = fr.toInt from rfl); have := (show en.toInt = en.toInt from rfl); omega) (by first | omega | decide) (by omega) (by omega)) (va_cwS 4 hts (goodIn_app (goodIn_r _ [34, 35, 36] rfl (by decide +kernel)) (goodIn_ca (goodIn_r _ [1, 2, 3, 4, 5, 6, 7, 8, 9, 10, 11, 12, 13, 14, 15, 16, 17, 18, 19, 20, 21, 22, 23, 24, 25, 26, 27, 28, 29, 30, 31, 32, 33] rfl (by decide +kernel)) (bs2_in _ _))) rfl rfl rfl (by decide +kernel) ⟨(Nat.le_of_ble_eq_true rfl), (Nat.le_of_ble_eq_true rfl)⟩) ⟨fun a U g mk q => by obtain ⟨q0, q1, qK, qE⟩ := q; exact ⟨q0, q1, va_K.moved (u := U) (U := U.calling g mk a) (Vm.Alike.refl U.vm) qK, EVC.blind g mk a qE⟩, fun U hU hW => ⟨rfl, hU, va_K.moved hW.alike hK, hE.call hS hFc hU hW⟩⟩ rfl rfl hl.1 rfl (lv_room (Nat.le_of_ble_eq_true rfl)) dX4_factThing_80 ⟨(Nat.le_of_ble_eq_true rfl), (Nat.le_of_ble_eq_true rfl)⟩) hS (fun q _ h => hFc q h) hFc (fun r26 u t H locs ht hvm hw27 hB _ _ hS => ?_)
            obtain ⟨hT, hF1⟩ := hB
            rw [ht] at hT hF1
            have hF := hF.more hF1 (by decide)
            try dsimp only at hw27
            have h28 := hw27
            refine lv_if_eq (tgt := 90) hx hb dX4_factThing_83 (by decide) (fun c29 => ?_) (fun c29 => ?_)
            · have t30 : r26.toInt = 0 := ti_eq c29 rfl (by decide)
              refine va_ldcS hx hb hown hE.1.s35 dX4_factThing_90 ?_
              refine lv_aload_n hx hb dX4_factThing_92 rfl (lv_at hl 0 rfl) ?_
              refine lv_iload_n hx hb dX4_factThing_93 rfl (lv_at hl 1 rfl) ?_
              refine lv_iload_n hx hb dX4_factThing_94 rfl (lv_at hl 2 rfl) ?_
              have hFc := gA_free hG hA hS
              refine va_calli (va_runS (As := [.ref (adK 35), .ref tx, .int fr, .int en]) (rest := []) ⟨hx, hb, hml, hown, hts⟩ (c_wordIs l dC dI kA adK adV G H nC nS tx fr en 35 hT hr_tx (by have q8 := ti_all fr; omega) (by have q8 := ti_all en; omega) (by have := (show fr.toInt = fr.toInt from rfl); have := (show en.toInt = en.toInt from rfl); omega) (by first | omega | decide) (by omega) (by omega)) (va_cwS 4 hts (goodIn_app (goodIn_r _ [34, 35, 36] rfl (by decide +kernel)) (goodIn_ca (goodIn_r _ [1, 2, 3, 4, 5, 6, 7, 8, 9, 10, 11, 12, 13, 14, 15, 16, 17, 18, 19, 20, 21, 22, 23, 24, 25, 26, 27, 28, 29, 30, 31, 32, 33] rfl (by decide +kernel)) (bs2_in _ _))) rfl rfl rfl (by decide +kernel) ⟨(Nat.le_of_ble_eq_true rfl), (Nat.le_of_ble_eq_true rfl)⟩) ⟨fun a U g mk q => by obtain ⟨q0, q1, qK, qE⟩ := q; exact ⟨q0, q1, va_K.moved (u := U) (U := U.calling g mk a) (Vm.Alike.refl U.vm) qK, EVC.blind g mk a qE⟩, fun U hU hW => ⟨rfl, hU, va_K.moved hW.alike hK, hE.call hS hFc hU hW⟩⟩ rfl rfl hl.1 rfl (lv_room (Nat.le_of_ble_eq_true rfl)) dX4_factThing_95 ⟨(Nat.le_of_ble_eq_true rfl), (Nat.le_of_ble_eq_true rfl)⟩) hS (fun q _ h => hFc q h) hFc (fun r31 u t H locs ht hvm hw32 hB _ _ hS => ?_)
              obtain ⟨hT, hF1⟩ := hB
              rw [ht] at hT hF1
              have hF := hF.more hF1 (by decide)
              try dsimp only at hw32
              have h33 := hw32
              refine lv_if_eq (tgt := 106) hx hb dX4_factThing_98 (by decide) (fun c34 => ?_) (fun c34 => ?_)
              · have t35 : r31.toInt = 0 := ti_eq c34 rfl (by decide)
                refine va_ldcS hx hb hown hE.1.s36 dX4_factThing_106 ?_
                refine lv_aload_n hx hb dX4_factThing_108 rfl (lv_at hl 0 rfl) ?_
                refine lv_iload_n hx hb dX4_factThing_109 rfl (lv_at hl 1 rfl) ?_
                refine lv_iload_n hx hb dX4_factThing_110 rfl (lv_at hl 2 rfl) ?_
                have hFc := gA_free hG hA hS
                refine va_calli (va_runS (As := [.ref (adK 36), .ref tx, .int fr, .int en]) (rest := []) ⟨hx, hb, hml, hown, hts⟩ (c_wordIs l dC dI kA adK adV G H nC nS tx fr en 36 hT hr_tx (by have q8 := ti_all fr; omega) (by have q8 := ti_all en; omega) (by have := (show fr.toInt = fr.toInt from rfl); have := (show en.toInt = en.toInt from rfl); omega) (by first | omega | decide) (by omega) (by omega)) (va_cwS 4 hts (goodIn_app (goodIn_r _ [34, 35, 36] rfl (by decide +kernel)) (goodIn_ca (goodIn_r _ [1, 2, 3, 4, 5, 6, 7, 8, 9, 10, 11, 12, 13, 14, 15, 16, 17, 18, 19, 20, 21, 22, 23, 24, 25, 26, 27, 28, 29, 30, 31, 32, 33] rfl (by decide +kernel)) (bs2_in _ _))) rfl rfl rfl (by decide +kernel) ⟨(Nat.le_of_ble_eq_true rfl), (Nat.le_of_ble_eq_true rfl)⟩) ⟨fun a U g mk q => by obtain ⟨q0, q1, qK, qE⟩ := q; exact ⟨q0, q1, va_K.moved (u := U) (U := U.calling g mk a) (Vm.Alike.refl U.vm) qK, EVC.blind g mk a qE⟩, fun U hU hW => ⟨rfl, hU, va_K.moved hW.alike hK, hE.call hS hFc hU hW⟩⟩ rfl rfl hl.1 rfl (lv_room (Nat.le_of_ble_eq_true rfl)) dX4_factThing_111 ⟨(Nat.le_of_ble_eq_true rfl), (Nat.le_of_ble_eq_true rfl)⟩) hS (fun q _ h => hFc q h) hFc (fun r36 u t H locs ht hvm hw37 hB _ _ hS => ?_)
                obtain ⟨hT, hF1⟩ := hB
                rw [ht] at hT hF1
                have hF := hF.more hF1 (by decide)
                try dsimp only at hw37
                have h38 := hw37
                refine lv_if_eq (tgt := 122) hx hb dX4_factThing_114 (by decide) (fun c39 => ?_) (fun c39 => ?_)
                · have t40 : r36.toInt = 0 := ti_eq c39 rfl (by decide)
                  refine va_ldcS hx hb hown hE.1.s37 dX4_factThing_122 ?_
                  refine lv_aload_n hx hb dX4_factThing_124 rfl (lv_at hl 0 rfl) ?_
                  refine lv_iload_n hx hb dX4_factThing_125 rfl (lv_at hl 1 rfl) ?_
                  refine lv_iload_n hx hb dX4_factThing_126 rfl (lv_at hl 2 rfl) ?_
                  have hFc := gA_free hG hA hS
                  refine va_calli (va_runS (As := [.ref (adK 37), .ref tx, .int fr, .int en]) (rest := []) ⟨hx, hb, hml, hown, hts⟩ (c_wordIs l dC dI kA adK adV G H nC nS tx fr en 37 hT hr_tx (by have q8 := ti_all fr; omega) (by have q8 := ti_all en; omega) (by have := (show fr.toInt = fr.toInt from rfl); have := (show en.toInt = en.toInt from rfl); omega) (by first | omega | decide) (by omega) (by omega)) (va_cwS 4 hts (goodIn_app (goodIn_r _ [34, 35, 36] rfl (by decide +kernel)) (goodIn_ca (goodIn_r _ [1, 2, 3, 4, 5, 6, 7, 8, 9, 10, 11, 12, 13, 14, 15, 16, 17, 18, 19, 20, 21, 22, 23, 24, 25, 26, 27, 28, 29, 30, 31, 32, 33] rfl (by decide +kernel)) (bs2_in _ _))) rfl rfl rfl (by decide +kernel) ⟨(Nat.le_of_ble_eq_true rfl), (Nat.le_of_ble_eq_true rfl)⟩) ⟨fun a U g mk q => by obtain ⟨q0, q1, qK, qE⟩ := q; exact ⟨q0, q1, va_K.moved (u := U) (U := U.calling g mk a) (Vm.Alike.refl U.vm) qK, EVC.blind g mk a qE⟩, fun U hU hW => ⟨rfl, hU, va_K.moved hW.alike hK, hE.call hS hFc hU hW⟩⟩ rfl rfl hl.1 rfl (lv_room (Nat.le_of_ble_eq_true rfl)) dX4_factThing_127 ⟨(Nat.le_of_ble_eq_true rfl), (Nat.le_of_ble_eq_true rfl)⟩) hS (fun q _ h => hFc q h) hFc (fun r41 u t H locs ht hvm hw42 hB _ _ hS => ?_)
                  obtain ⟨hT, hF1⟩ := hB
                  rw [ht] at hT hF1
                  have hF := hF.more hF1 (by decide)
                  try dsimp only at hw42
                  have h43 := hw42
                  refine lv_if_eq (tgt := 138) hx hb dX4_factThing_130 (by decide) (fun c44 => ?_) (fun c44 => ?_)
                  · have t45 : r41.toInt = 0 := ti_eq c44 rfl (by decide)
                    refine va_ldcS hx hb hown hE.1.s38 dX4_factThing_138 ?_
                    refine lv_aload_n hx hb dX4_factThing_140 rfl (lv_at hl 0 rfl) ?_
                    refine lv_iload_n hx hb dX4_factThing_141 rfl (lv_at hl 1 rfl) ?_
                    refine lv_iload_n hx hb dX4_factThing_142 rfl (lv_at hl 2 rfl) ?_
                    have hFc := gA_free hG hA hS
                    refine va_calli (va_runS (As := [.ref (adK 38), .ref tx, .int fr, .int en]) (rest := []) ⟨hx, hb, hml, hown, hts⟩ (c_wordIs l dC dI kA adK adV G H nC nS tx fr en 38 hT hr_tx (by have q8 := ti_all fr; omega) (by have q8 := ti_all en; omega) (by have := (show fr.toInt = fr.toInt from rfl); have := (show en.toInt = en.toInt from rfl); omega) (by first | omega | decide) (by omega) (by omega)) (va_cwS 4 hts (goodIn_app (goodIn_r _ [34, 35, 36] rfl (by decide +kernel)) (goodIn_ca (goodIn_r _ [1, 2, 3, 4, 5, 6, 7, 8, 9, 10, 11, 12, 13, 14, 15, 16, 17, 18, 19, 20, 21, 22, 23, 24, 25, 26, 27, 28, 29, 30, 31, 32, 33] rfl (by decide +kernel)) (bs2_in _ _))) rfl rfl rfl (by decide +kernel) ⟨(Nat.le_of_ble_eq_true rfl), (Nat.le_of_ble_eq_true rfl)⟩) ⟨fun a U g mk q => by obtain ⟨q0, q1, qK, qE⟩ := q; exact ⟨q0, q1, va_K.moved (u := U) (U := U.calling g mk a) (Vm.Alike.refl U.vm) qK, EVC.blind g mk a qE⟩, fun U hU hW => ⟨rfl, hU, va_K.moved hW.alike hK, hE.call hS hFc hU hW⟩⟩ rfl rfl hl.1 rfl (lv_room (Nat.le_of_ble_eq_true rfl)) dX4_factThing_143 ⟨(Nat.le_of_ble_eq_true rfl), (Nat.le_of_ble_eq_true rfl)⟩) hS (fun q _ h => hFc q h) hFc (fun r46 u t H locs ht hvm hw47 hB _ _ hS => ?_)
                    obtain ⟨hT, hF1⟩ := hB
                    rw [ht] at hT hF1
                    have hF := hF.more hF1 (by decide)
                    try dsimp only at hw47
                    have h48 := hw47
                    refine lv_if_eq (tgt := 154) hx hb dX4_factThing_146 (by decide) (fun c49 => ?_) (fun c49 => ?_)
                    · have t50 : r46.toInt = 0 := ti_eq c49 rfl (by decide)
                      refine lv_iconst (v := (-1)) hx hb dX4_factThing_154 (by decide) ?_
                      exact W.iret (v := (-1)) hx hb hr (fun t ht hW => ⟨⟨(-1), (), rfl, (by exact (rg_t (a := (-1)) (by decide) (by first | decide | omega) (by first | decide | omega))), by (try dsimp only); rw [ht]; exact ⟨hT, hF⟩⟩, hS.F ht⟩) hS.2.2 dX4_factThing_155
                    · have t51 : r46.toInt ≠ 0 := ti_ne c49 rfl (by decide)
                      refine lv_bipush (v := 9) hx hb dX4_factThing_149 (by decide) ?_
                      refine lv_goto (tgt := 155) hx hb dX4_factThing_151 (by decide) ?_
                      exact W.iret (v := 9) hx hb hr (fun t ht hW => ⟨⟨9, (), rfl, (by exact (rg_t (a := 9) (by decide) (by first | decide | omega) (by first | decide | omega))), by (try dsimp only); rw [ht]; exact ⟨hT, hF⟩⟩, hS.F ht⟩) hS.2.2 dX4_factThing_155
                  · have t52 : r41.toInt ≠ 0 := ti_ne c44 rfl (by decide)
                    refine lv_bipush (v := 8) hx hb dX4_factThing_133 (by decide) ?_
                    refine lv_goto (tgt := 155) hx hb dX4_factThing_135 (by decide) ?_
                    exact W.iret (v := 8) hx hb hr (fun t ht hW => ⟨⟨8, (), rfl, (by exact (rg_t (a := 8) (by decide) (by first | decide | omega) (by first | decide | omega))), by (try dsimp only); rw [ht]; exact ⟨hT, hF⟩⟩, hS.F ht⟩) hS.2.2 dX4_factThing_155
                · have t53 : r36.toInt ≠ 0 := ti_ne c39 rfl (by decide)
                  refine lv_bipush (v := 7) hx hb dX4_factThing_117 (by decide) ?_
                  refine lv_goto (tgt := 155) hx hb dX4_factThing_119 (by decide) ?_
                  exact W.iret (v := 7) hx hb hr (fun t ht hW => ⟨⟨7, (), rfl, (by exact (rg_t (a := 7) (by decide) (by first | decide | omega) (by first | decide | omega))), by (try dsimp only); rw [ht]; exact ⟨hT, hF⟩⟩, hS.F ht⟩) hS.2.2 dX4_factThing_155
              · have t54 : r31.toInt ≠ 0 := ti_ne c34 rfl (by decide)
                refine lv_bipush (v := 6) hx hb dX4_factThing_101 (by decide) ?_
                refine lv_goto (tgt := 155) hx hb dX4_factThing_103 (by decide) ?_
                exact W.iret (v := 6) hx hb hr (fun t ht hW => ⟨⟨6, (), rfl, (by exact (rg_t (a := 6) (by decide) (by first | decide | omega) (by first | decide | omega))), by (try dsimp only); rw [ht]; exact ⟨hT, hF⟩⟩, hS.F ht⟩) hS.2.2 dX4_factThing_155
            · have t55 : r26.toInt ≠ 0 := ti_ne c29 rfl (by decide)
              refine lv_iconst (v := 5) hx hb dX4_factThing_86 (by decide) ?_
              refine lv_goto (tgt := 155) hx hb dX4_factThing_87 (by decide) ?_
              exact W.iret (v := 5) hx hb hr (fun t ht hW => ⟨⟨5, (), rfl, (by exact (rg_t (a := 5) (by decide) (by first | decide | omega) (by first | decide | omega))), by (try dsimp only); rw [ht]; exact ⟨hT, hF⟩⟩, hS.F ht⟩) hS.2.2 dX4_factThing_155
          · have t56 : r21.toInt ≠ 0 := ti_ne c24 rfl (by decide)
            refine lv_iconst (v := 4) hx hb dX4_factThing_71 (by decide) ?_
            refine lv_goto (tgt := 155) hx hb dX4_factThing_72 (by decide) ?_
            exact W.iret (v := 4) hx hb hr (fun t ht hW => ⟨⟨4, (), rfl, (by exact (rg_t (a := 4) (by decide) (by first | decide | omega) (by first | decide | omega))), by (try dsimp only); rw [ht]; exact ⟨hT, hF⟩⟩, hS.F ht⟩) hS.2.2 dX4_factThing_155
        · have t57 : r16.toInt ≠ 0 := ti_ne c19 rfl (by decide)
          refine lv_iconst (v := 3) hx hb dX4_factThing_56 (by decide) ?_
          refine lv_goto (tgt := 155) hx hb dX4_factThing_57 (by decide) ?_
          exact W.iret (v := 3) hx hb hr (fun t ht hW => ⟨⟨3, (), rfl, (by exact (rg_t (a := 3) (by decide) (by first | decide | omega) (by first | decide | omega))), by (try dsimp only); rw [ht]; exact ⟨hT, hF⟩⟩, hS.F ht⟩) hS.2.2 dX4_factThing_155
      · have t58 : r11.toInt ≠ 0 := ti_ne c14 rfl (by decide)
        refine lv_iconst (v := 2) hx hb dX4_factThing_41 (by decide) ?_
        refine lv_goto (tgt := 155) hx hb dX4_factThing_42 (by decide) ?_
        exact W.iret (v := 2) hx hb hr (fun t ht hW => ⟨⟨2, (), rfl, (by exact (rg_t (a := 2) (by decide) (by first | decide | omega) (by first | decide | omega))), by (try dsimp only); rw [ht]; exact ⟨hT, hF⟩⟩, hS.F ht⟩) hS.2.2 dX4_factThing_155
    · have t59 : r6.toInt ≠ 0 := ti_ne c9 rfl (by decide)
      refine lv_iconst (v := 1) hx hb dX4_factThing_26 (by decide) ?_
      refine lv_goto (tgt := 155) hx hb dX4_factThing_27 (by decide) ?_
      exact W.iret (v := 1) hx hb hr (fun t ht hW => ⟨⟨1, (), rfl, (by exact (rg_t (a := 1) (by decide) (by first | decide | omega) (by first | decide | omega))), by (try dsimp only); rw [ht]; exact ⟨hT, hF⟩⟩, hS.F ht⟩) hS.2.2 dX4_factThing_155
  · have t60 : r1.toInt ≠ 0 := ti_ne c4 rfl (by decide)
    refine lv_iconst (v := 0) hx hb dX4_factThing_11 (by decide) ?_
    refine lv_goto (tgt := 155) hx hb dX4_factThing_12 (by decide) ?_
    exact W.iret (v := 0) hx hb hr (fun t ht hW => ⟨⟨0, (), rfl, (by exact (rg_t (a := 0) (by decide) (by first | decide | omega) (by first | decide | omega))), by (try dsimp only); rw [ht]; exact ⟨hT, hF⟩⟩, hS.F ht⟩) hS.2.2 dX4_factThing_155
def w_c_lineThing : List Cond := .code yX4_lineThing cX4_lineThing 4 (some .int) :: (HAppend.hAppend (α := List Cond) (β := List Cond) (γ := List Cond) [.code yX4_wordIs cX4_wordIs 5 (some .boolean), .code yJ0_length_8abf5 cJ0_length_8abf5 1 (some .int), .fieldLink RJ0 9 "java/lang/String" "value" "[B", .code yJ0_coder_7d493 cJ0_coder_7d493 1 (some .byte), .fieldLink RJ0 38 "java/lang/String" "COMPACT_STRINGS" "Z", .fieldLink RJ0 15 "java/lang/String" "coder" "B", .methodLink RJ0 335 yJ0_coder_7d493, .instanceMethod yJ0_coder_7d493, .selects RJ0 yJ0_coder_7d493 yJ0_coder_7d493, .initialized RJ0, .methodLink RX4 155 yJ0_length_8abf5, .instanceMethod yJ0_length_8abf5, .selects RJ0 yJ0_length_8abf5 yJ0_length_8abf5, .code yJ0_charAt_5068e cJ0_charAt_5068e 2 (some .char), .code yJ0_isLatin1_aae02 cJ0_isLatin1_aae02 1 (some .boolean), .methodLink RJ0 492 yJ0_isLatin1_aae02, .instanceMethod yJ0_isLatin1_aae02, .selects RJ0 yJ0_isLatin1_aae02 yJ0_isLatin1_aae02, .code yJ1_charAt_3b067 cJ1_charAt_3b067 2 (some .char), .code yJ0_checkIndex_df160 cJ0_checkIndex_df160 2 none, .fieldLink RJ0 1053 "jdk/internal/util/Preconditions" "SIOOBE_FORMATTER" "Ljava/util/function/BiFunction;", .code yJ3_checkIndex_8e157 cJ3_checkIndex_8e157 3 (some .int), .methodLink RJ0 1059 yJ3_checkIndex_8e157, .static yJ3_checkIndex_8e157, .initialized RJ3, .methodLink RJ1 9 yJ0_checkIndex_df160, .static yJ0_checkIndex_df160, .methodLink RJ0 495 yJ1_charAt_3b067, .static yJ1_charAt_3b067, .initialized RJ1, .methodLink RX4 161 yJ0_charAt_5068e, .instanceMethod yJ0_charAt_5068e, .selects RJ0 yJ0_charAt_5068e yJ0_charAt_5068e, .methodLink RX4 105 yX4_wordIs, .static yX4_wordIs, .initialized RX4] bs2)
set_option maxHeartbeats 4000000 in
set_option maxRecDepth 100000 in
theorem c_lineThing (l : Launch) (dC : Nat → ClassId) (dI : Nat → Nat → Nat) (kA : Nat → ClassId) (adK adV : Nat → Nat) (G : gT) (H0 : Heap) (nC nS : Int) (tx : Nat) (fr : Int32) (en : Int32)  (hT : gH (dC, dI) kA (SHc nC nS) G H0) (hr_tx : G tx = some 16) (hq0 : 0 ≤ fr.toInt ∧ fr.toInt ≤ 399) (hq1 : 0 ≤ en.toInt ∧ en.toInt ≤ 400) (hfe : fr.toInt < en.toInt) (hgC : 0 ≤ nC ∧ nC ≤ 40) (hgS : 0 ≤ nS ∧ nS ≤ 60) : Met l yX4_lineThing w_c_lineThing ({ frames := 5, cells := 0, slots := 0, locals := 109 }) (va_Pc [.ref tx, .int fr, .int en] (fun U => U.heap = H0 ∧ va_K (dC, dI) vwCl (tyl kA) U ∧ EVC adK adV (gA G H0.size) U U.heap)) (va_Qi (fun (r : Int32) (u : Unit) => (-1 ≤ r.toInt ∧ r.toInt ≤ 39)) (fun (_ : Unit) (t : State) => gH (dC, dI) kA (SHc nC nS) G t.heap ∧ gF (dC, dI) SKc G ([] : List (Nat × Nat)) H0 t.heap) (gA G H0.size)) 0 0 (gA G H0.size) := by
  refine Met.ofW (cc := cX4_lineThing) (maxL := 4) (ret := (some .int)) (by decide) rfl ?_
  intro p e s m args below meth c s₁ B hml hv
  obtain ⟨rfl, hH0, hK, hE⟩ := hv
  have hx := B.exec
  have hb := B.bytes
  have hr := B.returns
  have hts := atoms_spec (ws := w_c_lineThing) B.pre
  have hown : s.vm.findClass RX4 = some m.cls := findClass_of_methodNamed B.named
  have hlocks := B.notSynchronized
  subst hH0
  generalize hAe : gA G s.heap.size = A at hE ⊢
  have hA : ∀ q : Nat, s.heap.size ≤ q → A q := fun q h => by rw [← hAe]; exact Or.inr h
  have hG := gA_of hAe
  have hS : va_S A s.heap s.heap [] := va_S.rf
  have hF : gF (dC, dI) SKc G ([] : List (Nat × Nat)) s.heap s.heap := gF.rf
  have hl := lv_entry ([.ref tx, .int fr, .int en]) (n := 4) (Nat.le_of_ble_eq_true rfl)
  rw [lg_entry_eq]
  generalize (lg_sl ([.ref tx, .int fr, .int en]) ++ List.replicate (4 - (lg_sl ([.ref tx, .int fr, .int en])).length) Slot.unset).toArray = ls at hl ⊢
  have hl : lv_has ls 4 [(0, .ref tx), (1, .int fr), (2, .int en)] := hl
  refine va_ldcS hx hb hown hE.1.s39 dX4_lineThing_0 ?_
  refine lv_aload_n hx hb dX4_lineThing_2 rfl (lv_at hl 0 rfl) ?_
  refine lv_iload_n hx hb dX4_lineThing_3 rfl (lv_at hl 1 rfl) ?_
  refine lv_iload_n hx hb dX4_lineThing_4 rfl (lv_at hl 2 rfl) ?_
  have hFc := gA_free hG hA hS
  refine va_calli (va_runS (As := [.ref (adK 39), .ref tx, .int fr, .int en]) (rest := []) ⟨hx, hb, hml, hown, hts⟩ (c_wordIs l dC dI kA adK adV G s.heap nC nS tx fr en 39 hT hr_tx (by have q8 := ti_all fr; omega) (by have q8 := ti_all en; omega) (by have := (show fr.toInt = fr.toInt from rfl); have := (show en.toInt = en.toInt from rfl); omega) (by first | omega | decide) (by omega) (by omega)) (va_cwS 4 hts (goodIn_app (goodIn_r _ [34, 35, 36] rfl (by decide +kernel)) (goodIn_ca (goodIn_r _ [1, 2, 3, 4, 5, 6, 7, 8, 9, 10, 11, 12, 13, 14, 15, 16, 17, 18, 19, 20, 21, 22, 23, 24, 25, 26, 27, 28, 29, 30, 31, 32, 33] rfl (by decide +kernel)) (bs2_in _ _))) rfl rfl rfl (by decide +kernel) ⟨(Nat.le_of_ble_eq_true rfl), (Nat.le_of_ble_eq_true rfl)⟩) ⟨fun a U g mk q => by obtain ⟨q0, q1, qK, qE⟩ := q; exact ⟨q0, q1, va_K.moved (u := U) (U := U.calling g mk a) (Vm.Alike.refl U.vm) qK, EVC.blind g mk a qE⟩, fun U hU hW => ⟨rfl, hU, va_K.moved hW.alike hK, hE.call hS hFc hU hW⟩⟩ rfl rfl hl.1 rfl (lv_room (Nat.le_of_ble_eq_true rfl)) dX4_lineThing_5 ⟨(Nat.le_of_ble_eq_true rfl), (Nat.le_of_ble_eq_true rfl)⟩) hS (fun q _ h => hFc q h) hFc (fun r1 u t H locs ht hvm hw2 hB _ _ hS => ?_)
  obtain ⟨hT, hF1⟩ := hB
  rw [ht] at hT hF1
  have hF := hF.more hF1 (by decide)
  try dsimp only at hw2
  have h3 := hw2
  have jn54 : ∀ (z52 : Int32), ((-1 ≤ z52.toInt ∧ z52.toInt ≤ 9)) → ∀ (H : Heap) (locs : List Loc), gH (dC, dI) kA (SHc nC nS) G H → gF (dC, dI) SKc G ([] : List (Nat × Nat)) s.heap H → va_S A s.heap H locs → ∀ ls : Array Slot, lv_has ls 4 [(0, .ref tx), (1, .int fr), (2, .int en)] → W p l e (headSpec w_c_lineThing ({ frames := 5, cells := 0, slots := 0, locals := 109 })).room s m #[.ref tx, .int fr, .int en] below meth c H locs 0 0 (MQ below (va_Qi (fun (r : Int32) (u : Unit) => (-1 ≤ r.toInt ∧ r.toInt ≤ 39)) (fun (_ : Unit) (t : State) => gH (dC, dI) kA (SHc nC nS) G t.heap ∧ gF (dC, dI) SKc G ([] : List (Nat × Nat)) s.heap t.heap) A) #[.ref tx, .int fr, .int en] s 0 0 A) (F0 m 140 ls [.int z52]) := by
    intro z52 h53 H locs hT hF hS  ls hl
    refine lv_istore_n (lv' := [(3, .int z52), (0, .ref tx), (1, .int fr), (2, .int en)]) hx hb dX4_lineThing_140 rfl hl (by decide) rfl (fun ls hl => ?_)
    refine lv_iload_n hx hb dX4_lineThing_141 rfl (lv_at hl 0 rfl) ?_
    refine lv_iconst (v := (-1)) hx hb dX4_lineThing_142 (by decide) ?_
    refine lv_icmp_ne (tgt := 150) hx hb dX4_lineThing_143 (by decide) (fun c55 => ?_) (fun c55 => ?_)
    · have t56 : z52.toInt ≠ (-1) := ti_ne c55 rfl (by decide)
      refine lv_bipush (v := 30) hx hb dX4_lineThing_150 (by decide) ?_
      refine lv_iload_n hx hb dX4_lineThing_152 rfl (lv_at hl 0 rfl) ?_
      refine lv_iadd hx hb dX4_lineThing_153 ?_
      refine lv_topi (fun x57 ex57 => ?_)
      have t58 : x57.toInt = 30 + z52.toInt := ti_add ex57 (by decide) rfl (by omega) (by omega)
      exact W.iret (v := x57) hx hb hr (fun t ht hW => ⟨⟨x57, (), rfl, (by exact (by have q8 := ti_all x57; omega)), by (try dsimp only); rw [ht]; exact ⟨hT, hF⟩⟩, hS.F ht⟩) hS.2.2 dX4_lineThing_154
    · have t59 : z52.toInt = (-1) := ti_eq c55 rfl (by decide)
      refine lv_iconst (v := (-1)) hx hb dX4_lineThing_146 (by decide) ?_
      refine lv_goto (tgt := 154) hx hb dX4_lineThing_147 (by decide) ?_
      exact W.iret (v := (-1)) hx hb hr (fun t ht hW => ⟨⟨(-1), (), rfl, (by exact (rg_t (a := (-1)) (by decide) (by first | decide | omega) (by first | decide | omega))), by (try dsimp only); rw [ht]; exact ⟨hT, hF⟩⟩, hS.F ht⟩) hS.2.2 dX4_lineThing_154
  refine lv_if_eq (tgt := 15) hx hb dX4_lineThing_8 (by decide) (fun c60 => ?_) (fun c60 => ?_)
  · have t61 : r1.toInt = 0 := ti_eq c60 rfl (by decide)
    refine va_ldcS hx hb hown hE.1.s40 dX4_lineThing_15 ?_
    refine lv_aload_n hx hb dX4_lineThing_17 rfl (lv_at hl 0 rfl) ?_
    refine lv_iload_n hx hb dX4_lineThing_18 rfl (lv_at hl 1 rfl) ?_
    refine lv_iload_n hx hb dX4_lineThing_19 rfl (lv_at hl 2 rfl) ?_
    have hFc := gA_free hG hA hS
    refine va_calli (va_runS (As := [.ref (adK 40), .ref tx, .int fr, .int en]) (rest := []) ⟨hx, hb, hml, hown, hts⟩ (c_wordIs l dC dI kA adK adV G H nC nS tx fr en 40 hT hr_tx (by have q8 := ti_all fr; omega) (by have q8 := ti_all en; omega) (by have := (show fr.toInt = fr.toInt from rfl); have := (show en.toInt = en.toInt from rfl); omega) (by first | omega | decide) (by omega) (by omega)) (va_cwS 4 hts (goodIn_app (goodIn_r _ [34, 35, 36] rfl (by decide +kernel)) (goodIn_ca (goodIn_r _ [1, 2, 3, 4, 5, 6, 7, 8, 9, 10, 11, 12, 13, 14, 15, 16, 17, 18, 19, 20, 21, 22, 23, 24, 25, 26, 27, 28, 29, 30, 31, 32, 33] rfl (by decide +kernel)) (bs2_in _ _))) rfl rfl rfl (by decide +kernel) ⟨(Nat.le_of_ble_eq_true rfl), (Nat.le_of_ble_eq_true rfl)⟩) ⟨fun a U g mk q => by obtain ⟨q0, q1, qK, qE⟩ := q; exact ⟨q0, q1, va_K.moved (u := U) (U := U.calling g mk a) (Vm.Alike.refl U.vm) qK, EVC.blind g mk a qE⟩, fun U hU hW => ⟨rfl, hU, va_K.moved hW.alike hK, hE.call hS hFc hU hW⟩⟩ rfl rfl hl.1 rfl (lv_room (Nat.le_of_ble_eq_true rfl)) dX4_lineThing_20 ⟨(Nat.le_of_ble_eq_true rfl), (Nat.le_of_ble_eq_true rfl)⟩) hS (fun q _ h => hFc q h) hFc (fun r62 u t H locs ht hvm hw63 hB _ _ hS => ?_)
    obtain ⟨hT, hF1⟩ := hB
    rw [ht] at hT hF1
    have hF := hF.more hF1 (by decide)
    try dsimp only at hw63
    have h64 := hw63
    refine lv_if_eq (tgt := 30) hx hb dX4_lineThing_23 (by decide) (fun c65 => ?_) (fun c65 => ?_)
    · have t66 : r62.toInt = 0 := ti_eq c65 rfl (by decide)
      refine va_ldcS hx hb hown hE.1.s41 dX4_lineThing_30 ?_
      refine lv_aload_n hx hb dX4_lineThing_32 rfl (lv_at hl 0 rfl) ?_
      refine lv_iload_n hx hb dX4_lineThing_33 rfl (lv_at hl 1 rfl) ?_
      refine lv_iload_n hx hb dX4_lineThing_34 rfl (lv_at hl 2 rfl) ?_
      have hFc := gA_free hG hA hS
      refine va_calli (va_runS (As := [.ref (adK 41), .ref tx, .int fr, .int en]) (rest := []) ⟨hx, hb, hml, hown, hts⟩ (c_wordIs l dC dI kA adK adV G H nC nS tx fr en 41 hT hr_tx (by have q8 := ti_all fr; omega) (by have q8 := ti_all en; omega) (by have := (show fr.toInt = fr.toInt from rfl); have := (show en.toInt = en.toInt from rfl); omega) (by first | omega | decide) (by omega) (by omega)) (va_cwS 4 hts (goodIn_app (goodIn_r _ [34, 35, 36] rfl (by decide +kernel)) (goodIn_ca (goodIn_r _ [1, 2, 3, 4, 5, 6, 7, 8, 9, 10, 11, 12, 13, 14, 15, 16, 17, 18, 19, 20, 21, 22, 23, 24, 25, 26, 27, 28, 29, 30, 31, 32, 33] rfl (by decide +kernel)) (bs2_in _ _))) rfl rfl rfl (by decide +kernel) ⟨(Nat.le_of_ble_eq_true rfl), (Nat.le_of_ble_eq_true rfl)⟩) ⟨fun a U g mk q => by obtain ⟨q0, q1, qK, qE⟩ := q; exact ⟨q0, q1, va_K.moved (u := U) (U := U.calling g mk a) (Vm.Alike.refl U.vm) qK, EVC.blind g mk a qE⟩, fun U hU hW => ⟨rfl, hU, va_K.moved hW.alike hK, hE.call hS hFc hU hW⟩⟩ rfl rfl hl.1 rfl (lv_room (Nat.le_of_ble_eq_true rfl)) dX4_lineThing_35 ⟨(Nat.le_of_ble_eq_true rfl), (Nat.le_of_ble_eq_true rfl)⟩) hS (fun q _ h => hFc q h) hFc (fun r67 u t H locs ht hvm hw68 hB _ _ hS => ?_)
      obtain ⟨hT, hF1⟩ := hB
      rw [ht] at hT hF1
      have hF := hF.more hF1 (by decide)
      try dsimp only at hw68
      have h69 := hw68
      refine lv_if_eq (tgt := 45) hx hb dX4_lineThing_38 (by decide) (fun c70 => ?_) (fun c70 => ?_)
      · have t71 : r67.toInt = 0 := ti_eq c70 rfl (by decide)
        refine va_ldcS hx hb hown hE.1.s42 dX4_lineThing_45 ?_
        refine lv_aload_n hx hb dX4_lineThing_47 rfl (lv_at hl 0 rfl) ?_
        refine lv_iload_n hx hb dX4_lineThing_48 rfl (lv_at hl 1 rfl) ?_
        refine lv_iload_n hx hb dX4_lineThing_49 rfl (lv_at hl 2 rfl) ?_
        have hFc := gA_free hG hA hS
        refine va_calli (va_runS (As := [.ref (adK 42), .ref tx, .int fr, .int en]) (rest := []) ⟨hx, hb, hml, hown, hts⟩ (c_wordIs l dC dI kA adK adV G H nC nS tx fr en 42 hT hr_tx (by have q8 := ti_all fr; omega) (by have q8 := ti_all en; omega) (by have := (show fr.toInt = fr.toInt from rfl); have := (show en.toInt = en.toInt from rfl); omega) (by first | omega | decide) (by omega) (by omega)) (va_cwS 4 hts (goodIn_app (goodIn_r _ [34, 35, 36] rfl (by decide +kernel)) (goodIn_ca (goodIn_r _ [1, 2, 3, 4, 5, 6, 7, 8, 9, 10, 11, 12, 13, 14, 15, 16, 17, 18, 19, 20, 21, 22, 23, 24, 25, 26, 27, 28, 29, 30, 31, 32, 33] rfl (by decide +kernel)) (bs2_in _ _))) rfl rfl rfl (by decide +kernel) ⟨(Nat.le_of_ble_eq_true rfl), (Nat.le_of_ble_eq_true rfl)⟩) ⟨fun a U g mk q => by obtain ⟨q0, q1, qK, qE⟩ := q; exact ⟨q0, q1, va_K.moved (u := U) (U := U.calling g mk a) (Vm.Alike.refl U.vm) qK, EVC.blind g mk a qE⟩, fun U hU hW => ⟨rfl, hU, va_K.moved hW.alike hK, hE.call hS hFc hU hW⟩⟩ rfl rfl hl.1 rfl (lv_room (Nat.le_of_ble_eq_true rfl)) dX4_lineThing_50 ⟨(Nat.le_of_ble_eq_true rfl), (Nat.le_of_ble_eq_true rfl)⟩) hS (fun q _ h => hFc q h) hFc (fun r72 u t H locs ht hvm hw73 hB _ _ hS => ?_)
        obtain ⟨hT, hF1⟩ := hB
        rw [ht] at hT hF1
        have hF := hF.more hF1 (by decide)
        try dsimp only at hw73
        have h74 := hw73
        refine lv_if_eq (tgt := 60) hx hb dX4_lineThing_53 (by decide) (fun c75 => ?_) (fun c75 => ?_)
        · have t76 : r72.toInt = 0 := ti_eq c75 rfl (by decide)
          refine va_ldcS hx hb hown hE.1.s43 dX4_lineThing_60 ?_
          refine lv_aload_n hx hb dX4_lineThing_62 rfl (lv_at hl 0 rfl) ?_
          refine lv_iload_n hx hb dX4_lineThing_63 rfl (lv_at hl 1 rfl) ?_
          refine lv_iload_n hx hb dX4_lineThing_64 rfl (lv_at hl 2 rfl) ?_
          have hFc := gA_free hG hA hS
          refine va_calli (va_runS (As := [.ref (adK 43), .ref tx, .int fr, .int en]) (rest := []) ⟨hx, hb, hml, hown, hts⟩ (c_wordIs l dC dI kA adK adV G H nC nS tx fr en 43 hT hr_tx (by have q8 := ti_all fr; omega) (by have q8 := ti_all en; omega) (by have := (show fr.toInt = fr.toInt from rfl); have := (show en.toInt = en.toInt from rfl); omega) (by first | omega | decide) (by omega) (by omega)) (va_cwS 4 hts (goodIn_app (goodIn_r _ [34, 35, 36] rfl (by decide +kernel)) (goodIn_ca (goodIn_r _ [1, 2, 3, 4, 5, 6, 7, 8, 9, 10, 11, 12, 13, 14, 15, 16, 17, 18, 19, 20, 21, 22, 23, 24, 25, 26, 27, 28, 29, 30, 31, 32, 33] rfl (by decide +kernel)) (bs2_in _ _))) rfl rfl rfl (by decide +kernel) ⟨(Nat.le_of_ble_eq_true rfl), (Nat.le_of_ble_eq_true rfl)⟩) ⟨fun a U g mk q => by obtain ⟨q0, q1, qK, qE⟩ := q; exact ⟨q0, q1, va_K.moved (u := U) (U := U.calling g mk a) (Vm.Alike.refl U.vm) qK, EVC.blind g mk a qE⟩, fun U hU hW => ⟨rfl, hU, va_K.moved hW.alike hK, hE.call hS hFc hU hW⟩⟩ rfl rfl hl.1 rfl (lv_room (Nat.le_of_ble_eq_true rfl)) dX4_lineThing_65 ⟨(Nat.le_of_ble_eq_true rfl), (Nat.le_of_ble_eq_true rfl)⟩) hS (fun q _ h => hFc q h) hFc (fun r77 u t H locs ht hvm hw78 hB _ _ hS => ?_)
          obtain ⟨hT, hF1⟩ := hB
          rw [ht] at hT hF1
          have hF := hF.more hF1 (by decide)
          try dsimp only at hw78
          have h79 := hw78
          refine lv_if_eq (tgt := 75) hx hb dX4_lineThing_68 (by decide) (fun c80 => ?_) (fun c80 => ?_)
          · have t81 : r77.toInt = 0 := ti_eq c80 rfl (by decide)
            refine va_ldcS hx hb hown hE.1.s44 dX4_lineThing_75 ?_
            refine lv_aload_n hx hb dX4_lineThing_77 rfl (lv_at hl 0 rfl) ?_
            refine lv_iload_n hx hb dX4_lineThing_78 rfl (lv_at hl 1 rfl) ?_
            refine lv_iload_n hx hb dX4_lineThing_79 rfl (lv_at hl 2 rfl) ?_
            have hFc := gA_free hG hA hS
            refine va_calli (va_runS (As := [.ref (adK 44), .ref tx, .int fr, .int en]) (rest := []) ⟨hx, hb, hml, hown, hts⟩ (c_wordIs l dC dI kA adK adV G H nC nS tx fr en 44 hT hr_tx (by have q8 := ti_all fr; omega) (by have q8 := ti_all en; omega) (by have := (show fr.toInt = fr.toInt from rfl); have := (show en.toInt = en.toInt from rfl); omega) (by first | omega | decide) (by omega) (by omega)) (va_cwS 4 hts (goodIn_app (goodIn_r _ [34, 35, 36] rfl (by decide +kernel)) (goodIn_ca (goodIn_r _ [1, 2, 3, 4, 5, 6, 7, 8, 9, 10, 11, 12, 13, 14, 15, 16, 17, 18, 19, 20, 21, 22, 23, 24, 25, 26, 27, 28, 29, 30, 31, 32, 33] rfl (by decide +kernel)) (bs2_in _ _))) rfl rfl rfl (by decide +kernel) ⟨(Nat.le_of_ble_eq_true rfl), (Nat.le_of_ble_eq_true rfl)⟩) ⟨fun a U g mk q => by obtain ⟨q0, q1, qK, qE⟩ := q; exact ⟨q0, q1, va_K.moved (u := U) (U := U.calling g mk a) (Vm.Alike.refl U.vm) qK, EVC.blind g mk a qE⟩, fun U hU hW => ⟨rfl, hU, va_K.moved hW.alike hK, hE.call hS hFc hU hW⟩⟩ rfl rfl hl.1 rfl (lv_room (Nat.le_of_ble_eq_true rfl)) dX4_lineThing_80 ⟨(Nat.le_of_ble_eq_true rfl), (Nat.le_of_ble_eq_true rfl)⟩) hS (fun q _ h => hFc q h) hFc (fun r82 u t H locs ht hvm hw83 hB _ _ hS => ?_)
            obtain ⟨hT, hF1⟩ := hB
            rw [ht] at hT hF1
            have hF := hF.more hF1 (by decide)
            try dsimp only at hw83
            have h84 := hw83
            refine lv_if_eq (tgt := 91) hx hb dX4_lineThing_83 (by decide) (fun c85 => ?_) (fun c85 => ?_)
            · have t86 : r82.toInt = 0 := ti_eq c85 rfl (by decide)
              refine va_ldcS hx hb hown hE.1.s45 dX4_lineThing_91 ?_
              refine lv_aload_n hx hb dX4_lineThing_93 rfl (lv_at hl 0 rfl) ?_
              refine lv_iload_n hx hb dX4_lineThing_94 rfl (lv_at hl 1 rfl) ?_
              refine lv_iload_n hx hb dX4_lineThing_95 rfl (lv_at hl 2 rfl) ?_
              have hFc := gA_free hG hA hS
              refine va_calli (va_runS (As := [.ref (adK 45), .ref tx, .int fr, .int en]) (rest := []) ⟨hx, hb, hml, hown, hts⟩ (c_wordIs l dC dI kA adK adV G H nC nS tx fr en 45 hT hr_tx (by have q8 := ti_all fr; omega) (by have q8 := ti_all en; omega) (by have := (show fr.toInt = fr.toInt from rfl); have := (show en.toInt = en.toInt from rfl); omega) (by first | omega | decide) (by omega) (by omega)) (va_cwS 4 hts (goodIn_app (goodIn_r _ [34, 35, 36] rfl (by decide +kernel)) (goodIn_ca (goodIn_r _ [1, 2, 3, 4, 5, 6, 7, 8, 9, 10, 11, 12, 13, 14, 15, 16, 17, 18, 19, 20, 21, 22, 23, 24, 25, 26, 27, 28, 29, 30, 31, 32, 33] rfl (by decide +kernel)) (bs2_in _ _))) rfl rfl rfl (by decide +kernel) ⟨(Nat.le_of_ble_eq_true rfl), (Nat.le_of_ble_eq_true rfl)⟩) ⟨fun a U g mk q => by obtain ⟨q0, q1, qK, qE⟩ := q; exact ⟨q0, q1, va_K.moved (u := U) (U := U.calling g mk a) (Vm.Alike.refl U.vm) qK, EVC.blind g mk a qE⟩, fun U hU hW => ⟨rfl, hU, va_K.moved hW.alike hK, hE.call hS hFc hU hW⟩⟩ rfl rfl hl.1 rfl (lv_room (Nat.le_of_ble_eq_true rfl)) dX4_lineThing_96 ⟨(Nat.le_of_ble_eq_true rfl), (Nat.le_of_ble_eq_true rfl)⟩) hS (fun q _ h => hFc q h) hFc (fun r87 u t H locs ht hvm hw88 hB _ _ hS => ?_)
              obtain ⟨hT, hF1⟩ := hB
              rw [ht] at hT hF1
              have hF := hF.more hF1 (by decide)
              try dsimp only at hw88
              have h89 := hw88
              refine lv_if_eq (tgt := 107) hx hb dX4_lineThing_99 (by decide) (fun c90 => ?_) (fun c90 => ?_)
              · have t91 : r87.toInt = 0 := ti_eq c90 rfl (by decide)
                refine va_ldcS hx hb hown hE.1.s46 dX4_lineThing_107 ?_
                refine lv_aload_n hx hb dX4_lineThing_109 rfl (lv_at hl 0 rfl) ?_
                refine lv_iload_n hx hb dX4_lineThing_110 rfl (lv_at hl 1 rfl) ?_
                refine lv_iload_n hx hb dX4_lineThing_111 rfl (lv_at hl 2 rfl) ?_
                have hFc := gA_free hG hA hS
                refine va_calli (va_runS (As := [.ref (adK 46), .ref tx, .int fr, .int en]) (rest := []) ⟨hx, hb, hml, hown, hts⟩ (c_wordIs l dC dI kA adK adV G H nC nS tx fr en 46 hT hr_tx (by have q8 := ti_all fr; omega) (by have q8 := ti_all en; omega) (by have := (show fr.toInt = fr.toInt from rfl); have := (show en.toInt = en.toInt from rfl); omega) (by first | omega | decide) (by omega) (by omega)) (va_cwS 4 hts (goodIn_app (goodIn_r _ [34, 35, 36] rfl (by decide +kernel)) (goodIn_ca (goodIn_r _ [1, 2, 3, 4, 5, 6, 7, 8, 9, 10, 11, 12, 13, 14, 15, 16, 17, 18, 19, 20, 21, 22, 23, 24, 25, 26, 27, 28, 29, 30, 31, 32, 33] rfl (by decide +kernel)) (bs2_in _ _))) rfl rfl rfl (by decide +kernel) ⟨(Nat.le_of_ble_eq_true rfl), (Nat.le_of_ble_eq_true rfl)⟩) ⟨fun a U g mk q => by obtain ⟨q0, q1, qK, qE⟩ := q; exact ⟨q0, q1, va_K.moved (u := U) (U := U.calling g mk a) (Vm.Alike.refl U.vm) qK, EVC.blind g mk a qE⟩, fun U hU hW => ⟨rfl, hU, va_K.moved hW.alike hK, hE.call hS hFc hU hW⟩⟩ rfl rfl hl.1 rfl (lv_room (Nat.le_of_ble_eq_true rfl)) dX4_lineThing_112 ⟨(Nat.le_of_ble_eq_true rfl), (Nat.le_of_ble_eq_true rfl)⟩) hS (fun q _ h => hFc q h) hFc (fun r92 u t H locs ht hvm hw93 hB _ _ hS => ?_)
                obtain ⟨hT, hF1⟩ := hB
                rw [ht] at hT hF1
                have hF := hF.more hF1 (by decide)
                try dsimp only at hw93
                have h94 := hw93
                refine lv_if_eq (tgt := 123) hx hb dX4_lineThing_115 (by decide) (fun c95 => ?_) (fun c95 => ?_)
                · have t96 : r92.toInt = 0 := ti_eq c95 rfl (by decide)
                  refine va_ldcS hx hb hown hE.1.s47 dX4_lineThing_123 ?_
                  refine lv_aload_n hx hb dX4_lineThing_125 rfl (lv_at hl 0 rfl) ?_
                  refine lv_iload_n hx hb dX4_lineThing_126 rfl (lv_at hl 1 rfl) ?_
                  refine lv_iload_n hx hb dX4_lineThing_127 rfl (lv_at hl 2 rfl) ?_
                  have hFc := gA_free hG hA hS
                  refine va_calli (va_runS (As := [.ref (adK 47), .ref tx, .int fr, .int en]) (rest := []) ⟨hx, hb, hml, hown, hts⟩ (c_wordIs l dC dI kA adK adV G H nC nS tx fr en 47 hT hr_tx (by have q8 := ti_all fr; omega) (by have q8 := ti_all en; omega) (by have := (show fr.toInt = fr.toInt from rfl); have := (show en.toInt = en.toInt from rfl); omega) (by first | omega | decide) (by omega) (by omega)) (va_cwS 4 hts (goodIn_app (goodIn_r _ [34, 35, 36] rfl (by decide +kernel)) (goodIn_ca (goodIn_r _ [1, 2, 3, 4, 5, 6, 7, 8, 9, 10, 11, 12, 13, 14, 15, 16, 17, 18, 19, 20, 21, 22, 23, 24, 25, 26, 27, 28, 29, 30, 31, 32, 33] rfl (by decide +kernel)) (bs2_in _ _))) rfl rfl rfl (by decide +kernel) ⟨(Nat.le_of_ble_eq_true rfl), (Nat.le_of_ble_eq_true rfl)⟩) ⟨fun a U g mk q => by obtain ⟨q0, q1, qK, qE⟩ := q; exact ⟨q0, q1, va_K.moved (u := U) (U := U.calling g mk a) (Vm.Alike.refl U.vm) qK, EVC.blind g mk a qE⟩, fun U hU hW => ⟨rfl, hU, va_K.moved hW.alike hK, hE.call hS hFc hU hW⟩⟩ rfl rfl hl.1 rfl (lv_room (Nat.le_of_ble_eq_true rfl)) dX4_lineThing_128 ⟨(Nat.le_of_ble_eq_true rfl), (Nat.le_of_ble_eq_true rfl)⟩) hS (fun q _ h => hFc q h) hFc (fun r97 u t H locs ht hvm hw98 hB _ _ hS => ?_)
                  obtain ⟨hT, hF1⟩ := hB
                  rw [ht] at hT hF1
                  have hF := hF.more hF1 (by decide)
                  try dsimp only at hw98
                  have h99 := hw98
                  refine lv_if_eq (tgt := 139) hx hb dX4_lineThing_131 (by decide) (fun c100 => ?_) (fun c100 => ?_)
                  · have t101 : r97.toInt = 0 := ti_eq c100 rfl (by decide)
                    refine lv_iconst (v := (-1)) hx hb dX4_lineThing_139 (by decide) ?_
                    exact jn54 (-1) (rg_t (a := (-1)) (by decide) (by first | decide | omega) (by first | decide | omega)) _ _ hT hF hS ls (lv_sub hl [0, 1, 2] rfl)
                  · have t102 : r97.toInt ≠ 0 := ti_ne c100 rfl (by decide)
                    refine lv_bipush (v := 9) hx hb dX4_lineThing_134 (by decide) ?_
                    refine lv_goto (tgt := 140) hx hb dX4_lineThing_136 (by decide) ?_
                    exact jn54 9 (rg_t (a := 9) (by decide) (by first | decide | omega) (by first | decide | omega)) _ _ hT hF hS ls (lv_sub hl [0, 1, 2] rfl)
                · have t103 : r92.toInt ≠ 0 := ti_ne c95 rfl (by decide)
                  refine lv_bipush (v := 8) hx hb dX4_lineThing_118 (by decide) ?_
                  refine lv_goto (tgt := 140) hx hb dX4_lineThing_120 (by decide) ?_
                  exact jn54 8 (rg_t (a := 8) (by decide) (by first | decide | omega) (by first | decide | omega)) _ _ hT hF hS ls (lv_sub hl [0, 1, 2] rfl)
              · have t104 : r87.toInt ≠ 0 := ti_ne c90 rfl (by decide)
                refine lv_bipush (v := 7) hx hb dX4_lineThing_102 (by decide) ?_
                refine lv_goto (tgt := 140) hx hb dX4_lineThing_104 (by decide) ?_
                exact jn54 7 (rg_t (a := 7) (by decide) (by first | decide | omega) (by first | decide | omega)) _ _ hT hF hS ls (lv_sub hl [0, 1, 2] rfl)
            · have t105 : r82.toInt ≠ 0 := ti_ne c85 rfl (by decide)
              refine lv_bipush (v := 6) hx hb dX4_lineThing_86 (by decide) ?_
              refine lv_goto (tgt := 140) hx hb dX4_lineThing_88 (by decide) ?_
              exact jn54 6 (rg_t (a := 6) (by decide) (by first | decide | omega) (by first | decide | omega)) _ _ hT hF hS ls (lv_sub hl [0, 1, 2] rfl)
          · have t106 : r77.toInt ≠ 0 := ti_ne c80 rfl (by decide)
            refine lv_iconst (v := 5) hx hb dX4_lineThing_71 (by decide) ?_
            refine lv_goto (tgt := 140) hx hb dX4_lineThing_72 (by decide) ?_
            exact jn54 5 (rg_t (a := 5) (by decide) (by first | decide | omega) (by first | decide | omega)) _ _ hT hF hS ls (lv_sub hl [0, 1, 2] rfl)
        · have t107 : r72.toInt ≠ 0 := ti_ne c75 rfl (by decide)
          refine lv_iconst (v := 4) hx hb dX4_lineThing_56 (by decide) ?_
          refine lv_goto (tgt := 140) hx hb dX4_lineThing_57 (by decide) ?_
          exact jn54 4 (rg_t (a := 4) (by decide) (by first | decide | omega) (by first | decide | omega)) _ _ hT hF hS ls (lv_sub hl [0, 1, 2] rfl)
      · have t108 : r67.toInt ≠ 0 := ti_ne c70 rfl (by decide)
        refine lv_iconst (v := 3) hx hb dX4_lineThing_41 (by decide) ?_
        refine lv_goto (tgt := 140) hx hb dX4_lineThing_42 (by decide) ?_
        exact jn54 3 (rg_t (a := 3) (by decide) (by first | decide | omega) (by first | decide | omega)) _ _ hT hF hS ls (lv_sub hl [0, 1, 2] rfl)
    · have t109 : r62.toInt ≠ 0 := ti_ne c65 rfl (by decide)
      refine lv_iconst (v := 2) hx hb dX4_lineThing_26 (by decide) ?_
      refine lv_goto (tgt := 140) hx hb dX4_lineThing_27 (by decide) ?_
      exact jn54 2 (rg_t (a := 2) (by decide) (by first | decide | omega) (by first | decide | omega)) _ _ hT hF hS ls (lv_sub hl [0, 1, 2] rfl)
  · have t110 : r1.toInt ≠ 0 := ti_ne c60 rfl (by decide)
    refine lv_iconst (v := 0) hx hb dX4_lineThing_11 (by decide) ?_
    refine lv_goto (tgt := 140) hx hb dX4_lineThing_12 (by decide) ?_
    exact jn54 0 (rg_t (a := 0) (by decide) (by first | decide | omega) (by first | decide | omega)) _ _ hT hF hS ls (lv_sub hl [0, 1, 2] rfl)
def w_c_wordThing : List Cond := .code yX4_wordThing cX4_wordThing 4 (some .int) :: (HAppend.hAppend (α := List Cond) (β := List Cond) (γ := List Cond) [.code yX4_factThing cX4_factThing 3 (some .int), .code yX4_wordIs cX4_wordIs 5 (some .boolean), .code yJ0_length_8abf5 cJ0_length_8abf5 1 (some .int), .fieldLink RJ0 9 "java/lang/String" "value" "[B", .code yJ0_coder_7d493 cJ0_coder_7d493 1 (some .byte), .fieldLink RJ0 38 "java/lang/String" "COMPACT_STRINGS" "Z", .fieldLink RJ0 15 "java/lang/String" "coder" "B", .methodLink RJ0 335 yJ0_coder_7d493, .instanceMethod yJ0_coder_7d493, .selects RJ0 yJ0_coder_7d493 yJ0_coder_7d493, .initialized RJ0, .methodLink RX4 155 yJ0_length_8abf5, .instanceMethod yJ0_length_8abf5, .selects RJ0 yJ0_length_8abf5 yJ0_length_8abf5, .code yJ0_charAt_5068e cJ0_charAt_5068e 2 (some .char), .code yJ0_isLatin1_aae02 cJ0_isLatin1_aae02 1 (some .boolean), .methodLink RJ0 492 yJ0_isLatin1_aae02, .instanceMethod yJ0_isLatin1_aae02, .selects RJ0 yJ0_isLatin1_aae02 yJ0_isLatin1_aae02, .code yJ1_charAt_3b067 cJ1_charAt_3b067 2 (some .char), .code yJ0_checkIndex_df160 cJ0_checkIndex_df160 2 none, .fieldLink RJ0 1053 "jdk/internal/util/Preconditions" "SIOOBE_FORMATTER" "Ljava/util/function/BiFunction;", .code yJ3_checkIndex_8e157 cJ3_checkIndex_8e157 3 (some .int), .methodLink RJ0 1059 yJ3_checkIndex_8e157, .static yJ3_checkIndex_8e157, .initialized RJ3, .methodLink RJ1 9 yJ0_checkIndex_df160, .static yJ0_checkIndex_df160, .methodLink RJ0 495 yJ1_charAt_3b067, .static yJ1_charAt_3b067, .initialized RJ1, .methodLink RX4 161 yJ0_charAt_5068e, .instanceMethod yJ0_charAt_5068e, .selects RJ0 yJ0_charAt_5068e yJ0_charAt_5068e, .methodLink RX4 105 yX4_wordIs, .static yX4_wordIs, .initialized RX4, .methodLink RX4 97 yX4_factThing, .static yX4_factThing, .code yX4_lineThing cX4_lineThing 4 (some .int), .methodLink RX4 100 yX4_lineThing, .static yX4_lineThing] bs2)
set_option maxHeartbeats 4000000 in
set_option maxRecDepth 100000 in
theorem c_wordThing (l : Launch) (dC : Nat → ClassId) (dI : Nat → Nat → Nat) (kA : Nat → ClassId) (adK adV : Nat → Nat) (G : gT) (H0 : Heap) (nC nS : Int) (tx : Nat) (fr : Int32) (en : Int32)  (hT : gH (dC, dI) kA (SHc nC nS) G H0) (hr_tx : G tx = some 16) (hq0 : 0 ≤ fr.toInt ∧ fr.toInt ≤ 399) (hq1 : 0 ≤ en.toInt ∧ en.toInt ≤ 400) (hfe : fr.toInt < en.toInt) (hgC : 0 ≤ nC ∧ nC ≤ 40) (hgS : 0 ≤ nS ∧ nS ≤ 60) : Met l yX4_wordThing w_c_wordThing ({ frames := 6, cells := 0, slots := 0, locals := 132 }) (va_Pc [.ref tx, .int fr, .int en] (fun U => U.heap = H0 ∧ va_K (dC, dI) vwCl (tyl kA) U ∧ EVC adK adV (gA G H0.size) U U.heap)) (va_Qi (fun (r : Int32) (u : Unit) => (0 ≤ r.toInt ∧ r.toInt ≤ 39)) (fun (_ : Unit) (t : State) => gH (dC, dI) kA (SHc nC nS) G t.heap ∧ gF (dC, dI) SKc G ([] : List (Nat × Nat)) H0 t.heap) (gA G H0.size)) 0 0 (gA G H0.size) := by
  refine Met.ofW (cc := cX4_wordThing) (maxL := 4) (ret := (some .int)) (by decide) rfl ?_
  intro p e s m args below meth c s₁ B hml hv
  obtain ⟨rfl, hH0, hK, hE⟩ := hv
  have hx := B.exec
  have hb := B.bytes
  have hr := B.returns
  have hts := atoms_spec (ws := w_c_wordThing) B.pre
  have hown : s.vm.findClass RX4 = some m.cls := findClass_of_methodNamed B.named
  have hlocks := B.notSynchronized
  subst hH0
  generalize hAe : gA G s.heap.size = A at hE ⊢
  have hA : ∀ q : Nat, s.heap.size ≤ q → A q := fun q h => by rw [← hAe]; exact Or.inr h
  have hG := gA_of hAe
  have hS : va_S A s.heap s.heap [] := va_S.rf
  have hF : gF (dC, dI) SKc G ([] : List (Nat × Nat)) s.heap s.heap := gF.rf
  have hl := lv_entry ([.ref tx, .int fr, .int en]) (n := 4) (Nat.le_of_ble_eq_true rfl)
  rw [lg_entry_eq]
  generalize (lg_sl ([.ref tx, .int fr, .int en]) ++ List.replicate (4 - (lg_sl ([.ref tx, .int fr, .int en])).length) Slot.unset).toArray = ls at hl ⊢
  have hl : lv_has ls 4 [(0, .ref tx), (1, .int fr), (2, .int en)] := hl
  refine lv_aload_n hx hb dX4_wordThing_0 rfl (lv_at hl 0 rfl) ?_
  refine lv_iload_n hx hb dX4_wordThing_1 rfl (lv_at hl 1 rfl) ?_
  refine lv_iload_n hx hb dX4_wordThing_2 rfl (lv_at hl 2 rfl) ?_
  have hFc := gA_free hG hA hS
  refine va_calli (va_runS (As := [.ref tx, .int fr, .int en]) (rest := []) ⟨hx, hb, hml, hown, hts⟩ (c_factThing l dC dI kA adK adV G s.heap nC nS tx fr en hT hr_tx (by have q8 := ti_all fr; omega) (by have q8 := ti_all en; omega) (by have := (show fr.toInt = fr.toInt from rfl); have := (show en.toInt = en.toInt from rfl); omega) (by omega) (by omega)) (va_cwS 3 hts (goodIn_app (goodIn_r _ [38, 39, 37] rfl (by decide +kernel)) (goodIn_ca (goodIn_r _ [1, 2, 3, 4, 5, 6, 7, 8, 9, 10, 11, 12, 13, 14, 15, 16, 17, 18, 19, 20, 21, 22, 23, 24, 25, 26, 27, 28, 29, 30, 31, 32, 33, 34, 35, 36, 37] rfl (by decide +kernel)) (bs2_in _ _))) rfl rfl rfl (by decide +kernel) ⟨(Nat.le_of_ble_eq_true rfl), (Nat.le_of_ble_eq_true rfl)⟩) ⟨fun a U g mk q => by obtain ⟨q0, q1, qK, qE⟩ := q; exact ⟨q0, q1, va_K.moved (u := U) (U := U.calling g mk a) (Vm.Alike.refl U.vm) qK, EVC.blind g mk a qE⟩, fun U hU hW => ⟨rfl, hU, va_K.moved hW.alike hK, hE.call hS hFc hU hW⟩⟩ rfl rfl hl.1 rfl (lv_room (Nat.le_of_ble_eq_true rfl)) dX4_wordThing_3 ⟨(Nat.le_of_ble_eq_true rfl), (Nat.le_of_ble_eq_true rfl)⟩) hS (fun q _ h => hFc q h) hFc (fun r1 u t H locs ht hvm hw2 hB _ _ hS => ?_)
  obtain ⟨hT, hF1⟩ := hB
  rw [ht] at hT hF1
  have hF := hF.more hF1 (by decide)
  try dsimp only at hw2
  have h3 := hw2
  refine lv_istore_n (lv' := [(3, .int r1), (0, .ref tx), (1, .int fr), (2, .int en)]) hx hb dX4_wordThing_6 rfl hl (by decide) rfl (fun ls hl => ?_)
  refine lv_iload_n hx hb dX4_wordThing_7 rfl (lv_at hl 0 rfl) ?_
  refine lv_iconst (v := (-1)) hx hb dX4_wordThing_8 (by decide) ?_
  have jn9 : ∀ (z7 : Int32), ((-1 ≤ z7.toInt ∧ z7.toInt ≤ 39)) → ∀ (H : Heap) (locs : List Loc), gH (dC, dI) kA (SHc nC nS) G H → gF (dC, dI) SKc G ([] : List (Nat × Nat)) s.heap H → va_S A s.heap H locs → ∀ ls : Array Slot, lv_has ls 4 [(3, .int z7), (0, .ref tx), (1, .int fr), (2, .int en)] → W p l e (headSpec w_c_wordThing ({ frames := 6, cells := 0, slots := 0, locals := 132 })).room s m #[.ref tx, .int fr, .int en] below meth c H locs 0 0 (MQ below (va_Qi (fun (r : Int32) (u : Unit) => (0 ≤ r.toInt ∧ r.toInt ≤ 39)) (fun (_ : Unit) (t : State) => gH (dC, dI) kA (SHc nC nS) G t.heap ∧ gF (dC, dI) SKc G ([] : List (Nat × Nat)) s.heap t.heap) A) #[.ref tx, .int fr, .int en] s 0 0 A) (F0 m 19 ls []) := by
    intro z7 h8 H locs hT hF hS  ls hl
    refine lv_iload_n hx hb dX4_wordThing_19 rfl (lv_at hl 0 rfl) ?_
    refine lv_iconst (v := (-1)) hx hb dX4_wordThing_20 (by decide) ?_
    refine lv_icmp_ne (tgt := 107) hx hb dX4_wordThing_21 (by decide) (fun c10 => ?_) (fun c10 => ?_)
    · have t11 : z7.toInt ≠ (-1) := ti_ne c10 rfl (by decide)
      refine lv_iload_n hx hb dX4_wordThing_107 rfl (lv_at hl 0 rfl) ?_
      exact W.iret (v := z7) hx hb hr (fun t ht hW => ⟨⟨z7, (), rfl, (by exact (by have q8 := ti_all z7; omega)), by (try dsimp only); rw [ht]; exact ⟨hT, hF⟩⟩, hS.F ht⟩) hS.2.2 dX4_wordThing_108
    · have t12 : z7.toInt = (-1) := ti_eq c10 rfl (by decide)
      refine va_ldcS hx hb hown hE.1.s24 dX4_wordThing_24 ?_
      refine lv_aload_n hx hb dX4_wordThing_26 rfl (lv_at hl 1 rfl) ?_
      refine lv_iload_n hx hb dX4_wordThing_27 rfl (lv_at hl 2 rfl) ?_
      refine lv_iload_n hx hb dX4_wordThing_28 rfl (lv_at hl 3 rfl) ?_
      have hFc := gA_free hG hA hS
      refine va_calli (va_runS (As := [.ref (adK 24), .ref tx, .int fr, .int en]) (rest := []) ⟨hx, hb, hml, hown, hts⟩ (c_wordIs l dC dI kA adK adV G H nC nS tx fr en 24 hT hr_tx (by have q8 := ti_all fr; omega) (by have q8 := ti_all en; omega) (by have := (show fr.toInt = fr.toInt from rfl); have := (show en.toInt = en.toInt from rfl); omega) (by first | omega | decide) (by omega) (by omega)) (va_cwS 4 hts (goodIn_app (goodIn_r _ [35, 36, 37] rfl (by decide +kernel)) (goodIn_ca (goodIn_r _ [2, 3, 4, 5, 6, 7, 8, 9, 10, 11, 12, 13, 14, 15, 16, 17, 18, 19, 20, 21, 22, 23, 24, 25, 26, 27, 28, 29, 30, 31, 32, 33, 34] rfl (by decide +kernel)) (bs2_in _ _))) rfl rfl rfl (by decide +kernel) ⟨(Nat.le_of_ble_eq_true rfl), (Nat.le_of_ble_eq_true rfl)⟩) ⟨fun a U g mk q => by obtain ⟨q0, q1, qK, qE⟩ := q; exact ⟨q0, q1, va_K.moved (u := U) (U := U.calling g mk a) (Vm.Alike.refl U.vm) qK, EVC.blind g mk a qE⟩, fun U hU hW => ⟨rfl, hU, va_K.moved hW.alike hK, hE.call hS hFc hU hW⟩⟩ rfl rfl hl.1 rfl (lv_room (Nat.le_of_ble_eq_true rfl)) dX4_wordThing_29 ⟨(Nat.le_of_ble_eq_true rfl), (Nat.le_of_ble_eq_true rfl)⟩) hS (fun q _ h => hFc q h) hFc (fun r13 u t H locs ht hvm hw14 hB _ _ hS => ?_)
      obtain ⟨hT, hF1⟩ := hB
      rw [ht] at hT hF1
      have hF := hF.more hF1 (by decide)
      try dsimp only at hw14
      have h15 := hw14
      refine lv_if_eq (tgt := 40) hx hb dX4_wordThing_32 (by decide) (fun c16 => ?_) (fun c16 => ?_)
      · have t17 : r13.toInt = 0 := ti_eq c16 rfl (by decide)
        refine va_ldcS hx hb hown hE.1.s25 dX4_wordThing_40 ?_
        refine lv_aload_n hx hb dX4_wordThing_42 rfl (lv_at hl 1 rfl) ?_
        refine lv_iload_n hx hb dX4_wordThing_43 rfl (lv_at hl 2 rfl) ?_
        refine lv_iload_n hx hb dX4_wordThing_44 rfl (lv_at hl 3 rfl) ?_
        have hFc := gA_free hG hA hS
        refine va_calli (va_runS (As := [.ref (adK 25), .ref tx, .int fr, .int en]) (rest := []) ⟨hx, hb, hml, hown, hts⟩ (c_wordIs l dC dI kA adK adV G H nC nS tx fr en 25 hT hr_tx (by have q8 := ti_all fr; omega) (by have q8 := ti_all en; omega) (by have := (show fr.toInt = fr.toInt from rfl); have := (show en.toInt = en.toInt from rfl); omega) (by first | omega | decide) (by omega) (by omega)) (va_cwS 4 hts (goodIn_app (goodIn_r _ [35, 36, 37] rfl (by decide +kernel)) (goodIn_ca (goodIn_r _ [2, 3, 4, 5, 6, 7, 8, 9, 10, 11, 12, 13, 14, 15, 16, 17, 18, 19, 20, 21, 22, 23, 24, 25, 26, 27, 28, 29, 30, 31, 32, 33, 34] rfl (by decide +kernel)) (bs2_in _ _))) rfl rfl rfl (by decide +kernel) ⟨(Nat.le_of_ble_eq_true rfl), (Nat.le_of_ble_eq_true rfl)⟩) ⟨fun a U g mk q => by obtain ⟨q0, q1, qK, qE⟩ := q; exact ⟨q0, q1, va_K.moved (u := U) (U := U.calling g mk a) (Vm.Alike.refl U.vm) qK, EVC.blind g mk a qE⟩, fun U hU hW => ⟨rfl, hU, va_K.moved hW.alike hK, hE.call hS hFc hU hW⟩⟩ rfl rfl hl.1 rfl (lv_room (Nat.le_of_ble_eq_true rfl)) dX4_wordThing_45 ⟨(Nat.le_of_ble_eq_true rfl), (Nat.le_of_ble_eq_true rfl)⟩) hS (fun q _ h => hFc q h) hFc (fun r18 u t H locs ht hvm hw19 hB _ _ hS => ?_)
        obtain ⟨hT, hF1⟩ := hB
        rw [ht] at hT hF1
        have hF := hF.more hF1 (by decide)
        try dsimp only at hw19
        have h20 := hw19
        refine lv_if_eq (tgt := 56) hx hb dX4_wordThing_48 (by decide) (fun c21 => ?_) (fun c21 => ?_)
        · have t22 : r18.toInt = 0 := ti_eq c21 rfl (by decide)
          refine va_ldcS hx hb hown hE.1.s26 dX4_wordThing_56 ?_
          refine lv_aload_n hx hb dX4_wordThing_58 rfl (lv_at hl 1 rfl) ?_
          refine lv_iload_n hx hb dX4_wordThing_59 rfl (lv_at hl 2 rfl) ?_
          refine lv_iload_n hx hb dX4_wordThing_60 rfl (lv_at hl 3 rfl) ?_
          have hFc := gA_free hG hA hS
          refine va_calli (va_runS (As := [.ref (adK 26), .ref tx, .int fr, .int en]) (rest := []) ⟨hx, hb, hml, hown, hts⟩ (c_wordIs l dC dI kA adK adV G H nC nS tx fr en 26 hT hr_tx (by have q8 := ti_all fr; omega) (by have q8 := ti_all en; omega) (by have := (show fr.toInt = fr.toInt from rfl); have := (show en.toInt = en.toInt from rfl); omega) (by first | omega | decide) (by omega) (by omega)) (va_cwS 4 hts (goodIn_app (goodIn_r _ [35, 36, 37] rfl (by decide +kernel)) (goodIn_ca (goodIn_r _ [2, 3, 4, 5, 6, 7, 8, 9, 10, 11, 12, 13, 14, 15, 16, 17, 18, 19, 20, 21, 22, 23, 24, 25, 26, 27, 28, 29, 30, 31, 32, 33, 34] rfl (by decide +kernel)) (bs2_in _ _))) rfl rfl rfl (by decide +kernel) ⟨(Nat.le_of_ble_eq_true rfl), (Nat.le_of_ble_eq_true rfl)⟩) ⟨fun a U g mk q => by obtain ⟨q0, q1, qK, qE⟩ := q; exact ⟨q0, q1, va_K.moved (u := U) (U := U.calling g mk a) (Vm.Alike.refl U.vm) qK, EVC.blind g mk a qE⟩, fun U hU hW => ⟨rfl, hU, va_K.moved hW.alike hK, hE.call hS hFc hU hW⟩⟩ rfl rfl hl.1 rfl (lv_room (Nat.le_of_ble_eq_true rfl)) dX4_wordThing_61 ⟨(Nat.le_of_ble_eq_true rfl), (Nat.le_of_ble_eq_true rfl)⟩) hS (fun q _ h => hFc q h) hFc (fun r23 u t H locs ht hvm hw24 hB _ _ hS => ?_)
          obtain ⟨hT, hF1⟩ := hB
          rw [ht] at hT hF1
          have hF := hF.more hF1 (by decide)
          try dsimp only at hw24
          have h25 := hw24
          refine lv_if_eq (tgt := 72) hx hb dX4_wordThing_64 (by decide) (fun c26 => ?_) (fun c26 => ?_)
          · have t27 : r23.toInt = 0 := ti_eq c26 rfl (by decide)
            refine va_ldcS hx hb hown hE.1.s27 dX4_wordThing_72 ?_
            refine lv_aload_n hx hb dX4_wordThing_74 rfl (lv_at hl 1 rfl) ?_
            refine lv_iload_n hx hb dX4_wordThing_75 rfl (lv_at hl 2 rfl) ?_
            refine lv_iload_n hx hb dX4_wordThing_76 rfl (lv_at hl 3 rfl) ?_
            have hFc := gA_free hG hA hS
            refine va_calli (va_runS (As := [.ref (adK 27), .ref tx, .int fr, .int en]) (rest := []) ⟨hx, hb, hml, hown, hts⟩ (c_wordIs l dC dI kA adK adV G H nC nS tx fr en 27 hT hr_tx (by have q8 := ti_all fr; omega) (by have q8 := ti_all en; omega) (by have := (show fr.toInt = fr.toInt from rfl); have := (show en.toInt = en.toInt from rfl); omega) (by first | omega | decide) (by omega) (by omega)) (va_cwS 4 hts (goodIn_app (goodIn_r _ [35, 36, 37] rfl (by decide +kernel)) (goodIn_ca (goodIn_r _ [2, 3, 4, 5, 6, 7, 8, 9, 10, 11, 12, 13, 14, 15, 16, 17, 18, 19, 20, 21, 22, 23, 24, 25, 26, 27, 28, 29, 30, 31, 32, 33, 34] rfl (by decide +kernel)) (bs2_in _ _))) rfl rfl rfl (by decide +kernel) ⟨(Nat.le_of_ble_eq_true rfl), (Nat.le_of_ble_eq_true rfl)⟩) ⟨fun a U g mk q => by obtain ⟨q0, q1, qK, qE⟩ := q; exact ⟨q0, q1, va_K.moved (u := U) (U := U.calling g mk a) (Vm.Alike.refl U.vm) qK, EVC.blind g mk a qE⟩, fun U hU hW => ⟨rfl, hU, va_K.moved hW.alike hK, hE.call hS hFc hU hW⟩⟩ rfl rfl hl.1 rfl (lv_room (Nat.le_of_ble_eq_true rfl)) dX4_wordThing_77 ⟨(Nat.le_of_ble_eq_true rfl), (Nat.le_of_ble_eq_true rfl)⟩) hS (fun q _ h => hFc q h) hFc (fun r28 u t H locs ht hvm hw29 hB _ _ hS => ?_)
            obtain ⟨hT, hF1⟩ := hB
            rw [ht] at hT hF1
            have hF := hF.more hF1 (by decide)
            try dsimp only at hw29
            have h30 := hw29
            refine lv_if_eq (tgt := 88) hx hb dX4_wordThing_80 (by decide) (fun c31 => ?_) (fun c31 => ?_)
            · have t32 : r28.toInt = 0 := ti_eq c31 rfl (by decide)
              refine va_ldcS hx hb hown hE.1.s28 dX4_wordThing_88 ?_
              refine lv_aload_n hx hb dX4_wordThing_90 rfl (lv_at hl 1 rfl) ?_
              refine lv_iload_n hx hb dX4_wordThing_91 rfl (lv_at hl 2 rfl) ?_
              refine lv_iload_n hx hb dX4_wordThing_92 rfl (lv_at hl 3 rfl) ?_
              have hFc := gA_free hG hA hS
              refine va_calli (va_runS (As := [.ref (adK 28), .ref tx, .int fr, .int en]) (rest := []) ⟨hx, hb, hml, hown, hts⟩ (c_wordIs l dC dI kA adK adV G H nC nS tx fr en 28 hT hr_tx (by have q8 := ti_all fr; omega) (by have q8 := ti_all en; omega) (by have := (show fr.toInt = fr.toInt from rfl); have := (show en.toInt = en.toInt from rfl); omega) (by first | omega | decide) (by omega) (by omega)) (va_cwS 4 hts (goodIn_app (goodIn_r _ [35, 36, 37] rfl (by decide +kernel)) (goodIn_ca (goodIn_r _ [2, 3, 4, 5, 6, 7, 8, 9, 10, 11, 12, 13, 14, 15, 16, 17, 18, 19, 20, 21, 22, 23, 24, 25, 26, 27, 28, 29, 30, 31, 32, 33, 34] rfl (by decide +kernel)) (bs2_in _ _))) rfl rfl rfl (by decide +kernel) ⟨(Nat.le_of_ble_eq_true rfl), (Nat.le_of_ble_eq_true rfl)⟩) ⟨fun a U g mk q => by obtain ⟨q0, q1, qK, qE⟩ := q; exact ⟨q0, q1, va_K.moved (u := U) (U := U.calling g mk a) (Vm.Alike.refl U.vm) qK, EVC.blind g mk a qE⟩, fun U hU hW => ⟨rfl, hU, va_K.moved hW.alike hK, hE.call hS hFc hU hW⟩⟩ rfl rfl hl.1 rfl (lv_room (Nat.le_of_ble_eq_true rfl)) dX4_wordThing_93 ⟨(Nat.le_of_ble_eq_true rfl), (Nat.le_of_ble_eq_true rfl)⟩) hS (fun q _ h => hFc q h) hFc (fun r33 u t H locs ht hvm hw34 hB _ _ hS => ?_)
              obtain ⟨hT, hF1⟩ := hB
              rw [ht] at hT hF1
              have hF := hF.more hF1 (by decide)
              try dsimp only at hw34
              have h35 := hw34
              refine lv_if_eq (tgt := 104) hx hb dX4_wordThing_96 (by decide) (fun c36 => ?_) (fun c36 => ?_)
              · have t37 : r33.toInt = 0 := ti_eq c36 rfl (by decide)
                refine lv_bipush (v := 22) hx hb dX4_wordThing_104 (by decide) ?_
                refine lv_istore_n (lv' := [(3, .int 22), (0, .ref tx), (1, .int fr), (2, .int en)]) hx hb dX4_wordThing_106 rfl hl (by decide) rfl (fun ls hl => ?_)
                refine lv_iload_n hx hb dX4_wordThing_107 rfl (lv_at hl 0 rfl) ?_
                exact W.iret (v := 22) hx hb hr (fun t ht hW => ⟨⟨22, (), rfl, (by exact (rg_t (a := 22) (by decide) (by first | decide | omega) (by first | decide | omega))), by (try dsimp only); rw [ht]; exact ⟨hT, hF⟩⟩, hS.F ht⟩) hS.2.2 dX4_wordThing_108
              · have t38 : r33.toInt ≠ 0 := ti_ne c36 rfl (by decide)
                refine lv_bipush (v := 15) hx hb dX4_wordThing_99 (by decide) ?_
                refine lv_goto (tgt := 106) hx hb dX4_wordThing_101 (by decide) ?_
                refine lv_istore_n (lv' := [(3, .int 15), (0, .ref tx), (1, .int fr), (2, .int en)]) hx hb dX4_wordThing_106 rfl hl (by decide) rfl (fun ls hl => ?_)
                refine lv_iload_n hx hb dX4_wordThing_107 rfl (lv_at hl 0 rfl) ?_
                exact W.iret (v := 15) hx hb hr (fun t ht hW => ⟨⟨15, (), rfl, (by exact (rg_t (a := 15) (by decide) (by first | decide | omega) (by first | decide | omega))), by (try dsimp only); rw [ht]; exact ⟨hT, hF⟩⟩, hS.F ht⟩) hS.2.2 dX4_wordThing_108
            · have t39 : r28.toInt ≠ 0 := ti_ne c31 rfl (by decide)
              refine lv_bipush (v := 14) hx hb dX4_wordThing_83 (by decide) ?_
              refine lv_goto (tgt := 106) hx hb dX4_wordThing_85 (by decide) ?_
              refine lv_istore_n (lv' := [(3, .int 14), (0, .ref tx), (1, .int fr), (2, .int en)]) hx hb dX4_wordThing_106 rfl hl (by decide) rfl (fun ls hl => ?_)
              refine lv_iload_n hx hb dX4_wordThing_107 rfl (lv_at hl 0 rfl) ?_
              exact W.iret (v := 14) hx hb hr (fun t ht hW => ⟨⟨14, (), rfl, (by exact (rg_t (a := 14) (by decide) (by first | decide | omega) (by first | decide | omega))), by (try dsimp only); rw [ht]; exact ⟨hT, hF⟩⟩, hS.F ht⟩) hS.2.2 dX4_wordThing_108
          · have t40 : r23.toInt ≠ 0 := ti_ne c26 rfl (by decide)
            refine lv_bipush (v := 13) hx hb dX4_wordThing_67 (by decide) ?_
            refine lv_goto (tgt := 106) hx hb dX4_wordThing_69 (by decide) ?_
            refine lv_istore_n (lv' := [(3, .int 13), (0, .ref tx), (1, .int fr), (2, .int en)]) hx hb dX4_wordThing_106 rfl hl (by decide) rfl (fun ls hl => ?_)
            refine lv_iload_n hx hb dX4_wordThing_107 rfl (lv_at hl 0 rfl) ?_
            exact W.iret (v := 13) hx hb hr (fun t ht hW => ⟨⟨13, (), rfl, (by exact (rg_t (a := 13) (by decide) (by first | decide | omega) (by first | decide | omega))), by (try dsimp only); rw [ht]; exact ⟨hT, hF⟩⟩, hS.F ht⟩) hS.2.2 dX4_wordThing_108
        · have t41 : r18.toInt ≠ 0 := ti_ne c21 rfl (by decide)
          refine lv_bipush (v := 20) hx hb dX4_wordThing_51 (by decide) ?_
          refine lv_goto (tgt := 106) hx hb dX4_wordThing_53 (by decide) ?_
          refine lv_istore_n (lv' := [(3, .int 20), (0, .ref tx), (1, .int fr), (2, .int en)]) hx hb dX4_wordThing_106 rfl hl (by decide) rfl (fun ls hl => ?_)
          refine lv_iload_n hx hb dX4_wordThing_107 rfl (lv_at hl 0 rfl) ?_
          exact W.iret (v := 20) hx hb hr (fun t ht hW => ⟨⟨20, (), rfl, (by exact (rg_t (a := 20) (by decide) (by first | decide | omega) (by first | decide | omega))), by (try dsimp only); rw [ht]; exact ⟨hT, hF⟩⟩, hS.F ht⟩) hS.2.2 dX4_wordThing_108
      · have t42 : r13.toInt ≠ 0 := ti_ne c16 rfl (by decide)
        refine lv_bipush (v := 19) hx hb dX4_wordThing_35 (by decide) ?_
        refine lv_goto (tgt := 106) hx hb dX4_wordThing_37 (by decide) ?_
        refine lv_istore_n (lv' := [(3, .int 19), (0, .ref tx), (1, .int fr), (2, .int en)]) hx hb dX4_wordThing_106 rfl hl (by decide) rfl (fun ls hl => ?_)
        refine lv_iload_n hx hb dX4_wordThing_107 rfl (lv_at hl 0 rfl) ?_
        exact W.iret (v := 19) hx hb hr (fun t ht hW => ⟨⟨19, (), rfl, (by exact (rg_t (a := 19) (by decide) (by first | decide | omega) (by first | decide | omega))), by (try dsimp only); rw [ht]; exact ⟨hT, hF⟩⟩, hS.F ht⟩) hS.2.2 dX4_wordThing_108
  refine lv_icmp_ne (tgt := 19) hx hb dX4_wordThing_9 (by decide) (fun c43 => ?_) (fun c43 => ?_)
  · have t44 : r1.toInt ≠ (-1) := ti_ne c43 rfl (by decide)
    exact jn9 r1 (by have q8 := ti_all r1; omega) _ _ hT hF hS ls (lv_sub hl [0, 1, 2, 3] rfl)
  · have t45 : r1.toInt = (-1) := ti_eq c43 rfl (by decide)
    refine lv_aload_n hx hb dX4_wordThing_12 rfl (lv_at hl 1 rfl) ?_
    refine lv_iload_n hx hb dX4_wordThing_13 rfl (lv_at hl 2 rfl) ?_
    refine lv_iload_n hx hb dX4_wordThing_14 rfl (lv_at hl 3 rfl) ?_
    have hFc := gA_free hG hA hS
    refine va_calli (va_runS (As := [.ref tx, .int fr, .int en]) (rest := []) ⟨hx, hb, hml, hown, hts⟩ (c_lineThing l dC dI kA adK adV G H nC nS tx fr en hT hr_tx (by have q8 := ti_all fr; omega) (by have q8 := ti_all en; omega) (by have := (show fr.toInt = fr.toInt from rfl); have := (show en.toInt = en.toInt from rfl); omega) (by omega) (by omega)) (va_cwS 3 hts (goodIn_app (goodIn_r _ [41, 42, 37] rfl (by decide +kernel)) (goodIn_ca (goodIn_r _ [40, 2, 3, 4, 5, 6, 7, 8, 9, 10, 11, 12, 13, 14, 15, 16, 17, 18, 19, 20, 21, 22, 23, 24, 25, 26, 27, 28, 29, 30, 31, 32, 33, 34, 35, 36, 37] rfl (by decide +kernel)) (bs2_in _ _))) rfl rfl rfl (by decide +kernel) ⟨(Nat.le_of_ble_eq_true rfl), (Nat.le_of_ble_eq_true rfl)⟩) ⟨fun a U g mk q => by obtain ⟨q0, q1, qK, qE⟩ := q; exact ⟨q0, q1, va_K.moved (u := U) (U := U.calling g mk a) (Vm.Alike.refl U.vm) qK, EVC.blind g mk a qE⟩, fun U hU hW => ⟨rfl, hU, va_K.moved hW.alike hK, hE.call hS hFc hU hW⟩⟩ rfl rfl hl.1 rfl (lv_room (Nat.le_of_ble_eq_true rfl)) dX4_wordThing_15 ⟨(Nat.le_of_ble_eq_true rfl), (Nat.le_of_ble_eq_true rfl)⟩) hS (fun q _ h => hFc q h) hFc (fun r46 u t H locs ht hvm hw47 hB _ _ hS => ?_)
    obtain ⟨hT, hF1⟩ := hB
    rw [ht] at hT hF1
    have hF := hF.more hF1 (by decide)
    try dsimp only at hw47
    have h48 := hw47
    refine lv_istore_n (lv' := [(3, .int r46), (0, .ref tx), (1, .int fr), (2, .int en)]) hx hb dX4_wordThing_18 rfl hl (by decide) rfl (fun ls hl => ?_)
    exact jn9 r46 (by have q8 := ti_all r46; omega) _ _ hT hF hS ls (lv_sub hl [0, 1, 2, 3] rfl)
