def w_s_worthAt : List Cond := .code yX12_worthAt cX12_worthAt 3 (some .int) :: (HAppend.hAppend (α := List Cond) (β := List Cond) (γ := List Cond) [.methodLink RX12 201 Lib.Math.abs.name, .static Lib.Math.abs.name, .initialized "java/lang/Math", .code Lib.Math.abs.name Lib.Math.abs.code 1 (some .int), .methodLink RX12 211 Lib.Math.max.name, .static Lib.Math.max.name, .code Lib.Math.max.name Lib.Math.max.code 2 (some .int)] bs)
set_option maxHeartbeats 4000000 in
set_option maxRecDepth 100000 in
theorem s_worthAt (l : Launch) (dC : Nat → ClassId) (dI : Nat → Nat → Nat) (kA : Nat → ClassId) (adK adV : Nat → Nat) (G : gT) (H0 : Heap) (q : Nat → Nat) (wZ wN : Nat → Int) (wH wB wC : Int) (wL wK : Nat → Prop) (wU wV : Nat → Nat) (PI : Nat → Int → Prop) (im : Int) (PM PT : Nat → Int → Prop) (lS lB lE : Nat → Nat → Int → Prop) (lN : Nat → Int) (c1 : Int32) (d1 : Int32)  (hT : gH (dC, dI) kA (SHm q (wP wZ wN wH wB wC wL wK wU wV) PI im PM PT lS lB lE lN) G H0) (hgz : ∀ i, 0 ≤ wZ i) (hgn : ∀ i, 6500000 ≤ wN i ∧ wN i ≤ 20200000) (hgh : 0 ≤ wH ∧ wH ≤ 40000) (hgb : 0 ≤ wB ∧ wB ≤ 3850000) (hgc : 0 ≤ wC ∧ wC ≤ 30) (hgi : 0 ≤ im ∧ im ≤ 1) (hgu : ∀ a t, G a = some (t + 1) → a = q t) : Met l yX12_worthAt w_s_worthAt ({ frames := 1, cells := 0, slots := 0, locals := 40 }) (va_Pc [.int c1, .int d1] (fun U => U.heap = H0 ∧ va_K (dC, dI) vwCl (tyl kA) U ∧ EVS adK adV (gA G H0.size) U U.heap)) (va_Qi (fun (r : Int32) (u : Unit) => (0 ≤ r.toInt ∧ r.toInt ≤ 1073741874)) (fun (_ : Unit) (t : State) => gH (dC, dI) kA (SHm q (wP wZ wN wH wB wC wL wK wU wV) PI im PM PT lS lB lE lN) G t.heap ∧ gF (dC, dI) SKm G ([] : List (Nat × Nat)) H0 t.heap) (gA G H0.size)) 0 0 (gA G H0.size) := by
  refine Met.ofW (cc := cX12_worthAt) (maxL := 3) (ret := (some .int)) (by decide) rfl ?_
  intro p e s m args below meth c s₁ B hml hv
  obtain ⟨rfl, hH0, hK, hE⟩ := hv
  have hx := B.exec
  have hb := B.bytes
  have hr := B.returns
  have hts := atoms_spec (ws := w_s_worthAt) B.pre
  have hown : s.vm.findClass RX12 = some m.cls := findClass_of_methodNamed B.named
  have hlocks := B.notSynchronized
  subst hH0
  generalize hAe : gA G s.heap.size = A at hE ⊢
  have hA : ∀ q : Nat, s.heap.size ≤ q → A q := fun q h => by rw [← hAe]; exact Or.inr h
  have hG := gA_of hAe
  have hS : va_S A s.heap s.heap [] := va_S.rf
  have hF : gF (dC, dI) SKm G ([] : List (Nat × Nat)) s.heap s.heap := gF.rf
  have hl := lv_entry ([.int c1, .int d1]) (n := 3) (Nat.le_of_ble_eq_true rfl)
  rw [lg_entry_eq]
  generalize (lg_sl ([.int c1, .int d1]) ++ List.replicate (3 - (lg_sl ([.int c1, .int d1])).length) Slot.unset).toArray = ls at hl ⊢
  have hl : lv_has ls 3 [(0, .int c1), (1, .int d1)] := hl
  refine lv_iload_n hx hb dX12_worthAt_0 rfl (lv_at hl 0 rfl) ?_
  refine lv_iconst (v := 1) hx hb dX12_worthAt_1 (by decide) ?_
  have jn30 : ∀ (z28 : Int32), ((-1073741773 ≤ z28.toInt ∧ z28.toInt ≤ 1073741874)) → ∀ (H : Heap) (locs : List Loc), gH (dC, dI) kA (SHm q (wP wZ wN wH wB wC wL wK wU wV) PI im PM PT lS lB lE lN) G H → gF (dC, dI) SKm G ([] : List (Nat × Nat)) s.heap H → va_S A s.heap H locs → ∀ ls : Array Slot, lv_has ls 3 [(0, .int c1), (1, .int d1)] → W p l e (headSpec w_s_worthAt ({ frames := 1, cells := 0, slots := 0, locals := 40 })).room s m #[.int c1, .int d1] below meth c H locs 0 0 (MQ below (va_Qi (fun (r : Int32) (u : Unit) => (0 ≤ r.toInt ∧ r.toInt ≤ 1073741874)) (fun (_ : Unit) (t : State) => gH (dC, dI) kA (SHm q (wP wZ wN wH wB wC wL wK wU wV) PI im PM PT lS lB lE lN) G t.heap ∧ gF (dC, dI) SKm G ([] : List (Nat × Nat)) s.heap t.heap) A) #[.int c1, .int d1] s 0 0 A) (F0 m 61 ls [.int z28]) := by
    intro z28 h29 H locs hT hF hS  ls hl
    refine lv_istore_n (lv' := [(2, .int z28), (0, .int c1), (1, .int d1)]) hx hb dX12_worthAt_61 rfl hl (by decide) rfl (fun ls hl => ?_)
    refine lv_iconst (v := 0) hx hb dX12_worthAt_62 (by decide) ?_
    refine lv_iload_n hx hb dX12_worthAt_63 rfl (lv_at hl 0 rfl) ?_
    refine va_mmax hx hb (hml.trans hl.1.symm) hown (ht_at hts 4 rfl) (ht_at hts 5 rfl) (ht_at hts 2 rfl) (ht_at hts 6 rfl) (Nat.le_of_ble_eq_true rfl) (Nat.le_of_ble_eq_true rfl) (Nat.le_of_ble_eq_true rfl) (Nat.le_of_ble_eq_true rfl) dX12_worthAt_64 ?_
    refine lv_topi (fun x31 ex31 => ?_)
    have t32 : 0 ≤ x31.toInt ∧ z28.toInt ≤ x31.toInt ∧ (x31.toInt = 0 ∨ x31.toInt = z28.toInt) := mx_f ex31 (by decide) rfl
    exact W.iret (v := x31) hx hb hr (fun t ht hW => ⟨⟨x31, (), rfl, (by exact (by have q8 := ti_all x31; omega)), by (try dsimp only); rw [ht]; exact ⟨hT, hF⟩⟩, hS.F ht⟩) hS.2.2 dX12_worthAt_67
  refine lv_icmp_ne (tgt := 20) hx hb dX12_worthAt_2 (by decide) (fun c33 => ?_) (fun c33 => ?_)
  · have t34 : c1.toInt ≠ 1 := ti_ne c33 rfl (by decide)
    refine lv_iload_n hx hb dX12_worthAt_20 rfl (lv_at hl 0 rfl) ?_
    refine lv_iconst (v := 2) hx hb dX12_worthAt_21 (by decide) ?_
    refine lv_icmp_ne (tgt := 40) hx hb dX12_worthAt_22 (by decide) (fun c35 => ?_) (fun c35 => ?_)
    · have t36 : c1.toInt ≠ 2 := ti_ne c35 rfl (by decide)
      refine lv_iload_n hx hb dX12_worthAt_40 rfl (lv_at hl 0 rfl) ?_
      refine lv_iconst (v := 3) hx hb dX12_worthAt_41 (by decide) ?_
      refine lv_icmp_ne (tgt := 60) hx hb dX12_worthAt_42 (by decide) (fun c37 => ?_) (fun c37 => ?_)
      · have t38 : c1.toInt ≠ 3 := ti_ne c37 rfl (by decide)
        refine lv_iconst (v := 0) hx hb dX12_worthAt_60 (by decide) ?_
        exact jn30 0 (rg_t (a := 0) (by decide) (by first | decide | omega) (by first | decide | omega)) _ _ hT hF hS ls (lv_sub hl [0, 1] rfl)
      · have t39 : c1.toInt = 3 := ti_eq c37 rfl (by decide)
        refine lv_bipush (v := 40) hx hb dX12_worthAt_45 (by decide) ?_
        refine lv_iload_n hx hb dX12_worthAt_47 rfl (lv_at hl 1 rfl) ?_
        refine lv_bipush (v := 100) hx hb dX12_worthAt_48 (by decide) ?_
        refine lv_isub hx hb dX12_worthAt_50 ?_
        refine lv_topi (fun x40 ex40 => ?_)
        refine va_mabs hx hb (hml.trans hl.1.symm) hown (ht_at hts 0 rfl) (ht_at hts 1 rfl) (ht_at hts 2 rfl) (ht_at hts 3 rfl) (Nat.le_of_ble_eq_true rfl) (Nat.le_of_ble_eq_true rfl) (Nat.le_of_ble_eq_true rfl) (Nat.le_of_ble_eq_true rfl) dX12_worthAt_51 ?_
        refine lv_topi (fun x41 ex41 => ?_)
        refine lv_iconst (v := 3) hx hb dX12_worthAt_54 (by decide) ?_
        have t42 : -2147483648 ≤ x41.toInt ∧ x41.toInt ≤ 2147483647 := ti_all x41
        refine lv_idiv hx hb dX12_worthAt_55 (by decide) ?_
        refine lv_topi (fun x43 ex43 => ?_)
        have t44 : (0 ≤ x41.toInt ∧ x43.toInt = x41.toInt / 3) ∨ (x41.toInt < 0 ∧ x43.toInt = -((-x41.toInt) / 3)) := ti_divs ex43 rfl (by decide) (by decide)
        refine lv_isub hx hb dX12_worthAt_56 ?_
        refine lv_topi (fun x45 ex45 => ?_)
        have t46 : x45.toInt = 40 - x43.toInt := ti_sub ex45 (by decide) rfl (by omega) (by omega)
        refine lv_goto (tgt := 61) hx hb dX12_worthAt_57 (by decide) ?_
        exact jn30 x45 (by have q8 := ti_all x45; omega) _ _ hT hF hS ls (lv_sub hl [0, 1] rfl)
    · have t47 : c1.toInt = 2 := ti_eq c35 rfl (by decide)
      refine lv_bipush (v := 50) hx hb dX12_worthAt_25 (by decide) ?_
      refine lv_iload_n hx hb dX12_worthAt_27 rfl (lv_at hl 1 rfl) ?_
      refine lv_bipush (v := 120) hx hb dX12_worthAt_28 (by decide) ?_
      refine lv_isub hx hb dX12_worthAt_30 ?_
      refine lv_topi (fun x48 ex48 => ?_)
      refine va_mabs hx hb (hml.trans hl.1.symm) hown (ht_at hts 0 rfl) (ht_at hts 1 rfl) (ht_at hts 2 rfl) (ht_at hts 3 rfl) (Nat.le_of_ble_eq_true rfl) (Nat.le_of_ble_eq_true rfl) (Nat.le_of_ble_eq_true rfl) (Nat.le_of_ble_eq_true rfl) dX12_worthAt_31 ?_
      refine lv_topi (fun x49 ex49 => ?_)
      refine lv_iconst (v := 2) hx hb dX12_worthAt_34 (by decide) ?_
      have t50 : -2147483648 ≤ x49.toInt ∧ x49.toInt ≤ 2147483647 := ti_all x49
      refine lv_idiv hx hb dX12_worthAt_35 (by decide) ?_
      refine lv_topi (fun x51 ex51 => ?_)
      have t52 : (0 ≤ x49.toInt ∧ x51.toInt = x49.toInt / 2) ∨ (x49.toInt < 0 ∧ x51.toInt = -((-x49.toInt) / 2)) := ti_divs ex51 rfl (by decide) (by decide)
      refine lv_isub hx hb dX12_worthAt_36 ?_
      refine lv_topi (fun x53 ex53 => ?_)
      have t54 : x53.toInt = 50 - x51.toInt := ti_sub ex53 (by decide) rfl (by omega) (by omega)
      refine lv_goto (tgt := 61) hx hb dX12_worthAt_37 (by decide) ?_
      exact jn30 x53 (by have q8 := ti_all x53; omega) _ _ hT hF hS ls (lv_sub hl [0, 1] rfl)
  · have t55 : c1.toInt = 1 := ti_eq c33 rfl (by decide)
    refine lv_bipush (v := 20) hx hb dX12_worthAt_5 (by decide) ?_
    refine lv_iload_n hx hb dX12_worthAt_7 rfl (lv_at hl 1 rfl) ?_
    refine lv_bipush (v := 60) hx hb dX12_worthAt_8 (by decide) ?_
    refine lv_isub hx hb dX12_worthAt_10 ?_
    refine lv_topi (fun x56 ex56 => ?_)
    refine va_mabs hx hb (hml.trans hl.1.symm) hown (ht_at hts 0 rfl) (ht_at hts 1 rfl) (ht_at hts 2 rfl) (ht_at hts 3 rfl) (Nat.le_of_ble_eq_true rfl) (Nat.le_of_ble_eq_true rfl) (Nat.le_of_ble_eq_true rfl) (Nat.le_of_ble_eq_true rfl) dX12_worthAt_11 ?_
    refine lv_topi (fun x57 ex57 => ?_)
    refine lv_iconst (v := 5) hx hb dX12_worthAt_14 (by decide) ?_
    have t58 : -2147483648 ≤ x57.toInt ∧ x57.toInt ≤ 2147483647 := ti_all x57
    refine lv_idiv hx hb dX12_worthAt_15 (by decide) ?_
    refine lv_topi (fun x59 ex59 => ?_)
    have t60 : (0 ≤ x57.toInt ∧ x59.toInt = x57.toInt / 5) ∨ (x57.toInt < 0 ∧ x59.toInt = -((-x57.toInt) / 5)) := ti_divs ex59 rfl (by decide) (by decide)
    refine lv_isub hx hb dX12_worthAt_16 ?_
    refine lv_topi (fun x61 ex61 => ?_)
    have t62 : x61.toInt = 20 - x59.toInt := ti_sub ex61 (by decide) rfl (by omega) (by omega)
    refine lv_goto (tgt := 61) hx hb dX12_worthAt_17 (by decide) ?_
    exact jn30 x61 (by have q8 := ti_all x61; omega) _ _ hT hF hS ls (lv_sub hl [0, 1] rfl)
def w_s_mayBuildOn : List Cond := .code yX12_mayBuildOn cX12_mayBuildOn 5 (some .boolean) :: (HAppend.hAppend (α := List Cond) (β := List Cond) (γ := List Cond) [.code yX12_lastOf cX12_lastOf 5 (some .int), .fieldLink RX12 42 "SeaLandModel" "lines" "[I", .fieldLink RX12 45 "SeaLandModel" "sort" "[I", .fieldLink RX12 48 "SeaLandModel" "told" "[I", .methodLink RX12 492 yX12_lastOf, .instanceMethod yX12_lastOf, .selects RX12 yX12_lastOf yX12_lastOf, .initialized RX12, .fieldLink RX12 9 "SeaLandModel" "world" "[I", .code yX12_isDike cX12_isDike 2 (some .boolean), .code yX12_of cX12_of 3 (some .int), .code yX12_at cX12_at 2 (some .int), .methodLink RX12 214 yX12_at, .static yX12_at, .methodLink RX12 217 yX12_of, .instanceMethod yX12_of, .selects RX12 yX12_of yX12_of, .methodLink RX12 272 yX12_isDike, .instanceMethod yX12_isDike, .selects RX12 yX12_isDike yX12_isDike, .code yX12_steps cX12_steps 2 (some .int), .methodLink RX12 201 Lib.Math.abs.name, .static Lib.Math.abs.name, .initialized "java/lang/Math", .code Lib.Math.abs.name Lib.Math.abs.code 1 (some .int), .methodLink RX12 262 yX12_steps, .static yX12_steps] bs)
set_option maxHeartbeats 4000000 in
set_option maxRecDepth 100000 in
theorem s_mayBuildOn (l : Launch) (dC : Nat → ClassId) (dI : Nat → Nat → Nat) (kA : Nat → ClassId) (adK adV : Nat → Nat) (G : gT) (H0 : Heap) (q : Nat → Nat) (wZ wN : Nat → Int) (wH wB wC : Int) (wL wK : Nat → Prop) (wU wV : Nat → Nat) (PI : Nat → Int → Prop) (im : Int) (PM PT : Nat → Int → Prop) (lS lB lE : Nat → Nat → Int → Prop) (lN : Nat → Int) (o0 : Nat) (sq : Int32)  (hT : gH (dC, dI) kA (SHm q (wP wZ wN wH wB wC wL wK wU wV) PI im PM PT lS lB lE lN) G H0) (hr_o0 : G o0 = some 0) (hgz : ∀ i, 0 ≤ wZ i) (hgn : ∀ i, 6500000 ≤ wN i ∧ wN i ≤ 20200000) (hgh : 0 ≤ wH ∧ wH ≤ 40000) (hgb : 0 ≤ wB ∧ wB ≤ 3850000) (hgc : 0 ≤ wC ∧ wC ≤ 30) (hgi : 0 ≤ im ∧ im ≤ 1) (hgu : ∀ a t, G a = some (t + 1) → a = q t) : Met l yX12_mayBuildOn w_s_mayBuildOn ({ frames := 3, cells := 0, slots := 0, locals := 64 }) (va_Pc [.ref o0, .int sq] (fun U => U.heap = H0 ∧ va_K (dC, dI) vwCl (tyl kA) U ∧ EVS adK adV (gA G H0.size) U U.heap)) (va_Qi (fun (r : Int32) (u : Unit) => (0 ≤ r.toInt ∧ r.toInt ≤ 1)) (fun (_ : Unit) (t : State) => gH (dC, dI) kA (SHm q (wP wZ wN wH wB wC wL wK wU wV) PI im PM PT lS lB lE lN) G t.heap ∧ gF (dC, dI) SKm G ([] : List (Nat × Nat)) H0 t.heap) (gA G H0.size)) 0 0 (gA G H0.size) := by
  refine Met.ofW (cc := cX12_mayBuildOn) (maxL := 5) (ret := (some .boolean)) (by decide) rfl ?_
  intro p e s m args below meth c s₁ B hml hv
  obtain ⟨rfl, hH0, hK, hE⟩ := hv
  have hx := B.exec
  have hb := B.bytes
  have hr := B.returns
  have hts := atoms_spec (ws := w_s_mayBuildOn) B.pre
  have hown : s.vm.findClass RX12 = some m.cls := findClass_of_methodNamed B.named
  have hlocks := B.notSynchronized
  subst hH0
  generalize hAe : gA G s.heap.size = A at hE ⊢
  have hA : ∀ q : Nat, s.heap.size ≤ q → A q := fun q h => by rw [← hAe]; exact Or.inr h
  have hG := gA_of hAe
  have hS : va_S A s.heap s.heap [] := va_S.rf
  have hF : gF (dC, dI) SKm G ([] : List (Nat × Nat)) s.heap s.heap := gF.rf
  have hl := lv_entry ([.ref o0, .int sq]) (n := 5) (Nat.le_of_ble_eq_true rfl)
  rw [lg_entry_eq]
  generalize (lg_sl ([.ref o0, .int sq]) ++ List.replicate (5 - (lg_sl ([.ref o0, .int sq])).length) Slot.unset).toArray = ls at hl ⊢
  have hl : lv_has ls 5 [(0, .ref o0), (1, .int sq)] := hl
  refine lv_aload_n hx hb dX12_mayBuildOn_0 rfl (lv_at hl 0 rfl) ?_
  refine lv_bipush (v := 9) hx hb dX12_mayBuildOn_1 (by decide) ?_
  refine lv_iconst (v := 0) hx hb dX12_mayBuildOn_3 (by decide) ?_
  have hFc := gA_free hG hA hS
  refine va_calli (va_runV (As := [.int 9, .int 0]) (rest := []) ⟨hx, hb, hml, hown, hts⟩ (s_lastOf l dC dI kA adK adV G s.heap q wZ wN wH wB wC wL wK wU wV PI im PM PT lS lB lE lN o0 9 0 hT hr_o0 hgz hgn hgh hgb hgc hgi hgu) (cwV 2 hts (goodIn_app (goodIn_r _ [5, 6, 7, 8] rfl (by decide +kernel)) (goodIn_ca (goodIn_r _ [1, 2, 3, 4] rfl (by decide +kernel)) (bs_in _ _))) rfl rfl rfl (by decide +kernel) ⟨(Nat.le_of_ble_eq_true rfl), (Nat.le_of_ble_eq_true rfl)⟩) ⟨fun a U g mk q => by obtain ⟨q0, q1, qK, qE⟩ := q; exact ⟨q0, q1, va_K.moved (u := U) (U := U.calling g mk a) (Vm.Alike.refl U.vm) qK, EVS.blind g mk a qE⟩, gH_rc hK hT hr_o0 shm_0 rfl, fun U hU hW => ⟨rfl, hU, va_K.moved hW.alike hK, hE.call hS hFc hU hW⟩⟩ rfl rfl hl.1 rfl (lv_room (Nat.le_of_ble_eq_true rfl)) dX12_mayBuildOn_4 ⟨(Nat.le_of_ble_eq_true rfl), (Nat.le_of_ble_eq_true rfl)⟩) hS (fun q _ h => hFc q h) hFc (fun r1 u t H locs ht hvm hw2 hB _ _ hS => ?_)
  obtain ⟨hT, hF1⟩ := hB
  rw [ht] at hT hF1
  have hF := hF.more hF1 (by decide)
  try dsimp only at hw2
  refine lv_istore_n (lv' := [(2, .int r1), (0, .ref o0), (1, .int sq)]) hx hb dX12_mayBuildOn_7 rfl hl (by decide) rfl (fun ls hl => ?_)
  refine lv_iconst (v := 1) hx hb dX12_mayBuildOn_8 (by decide) ?_
  refine lv_istore_n (lv' := [(3, .int 1), (2, .int r1), (0, .ref o0), (1, .int sq)]) hx hb dX12_mayBuildOn_9 rfl hl (by decide) rfl (fun ls hl => ?_)
  refine lv_iconst (v := 0) hx hb dX12_mayBuildOn_10 (by decide) ?_
  refine lv_istore (lv' := [(4, .int 0), (3, .int 1), (2, .int r1), (0, .ref o0), (1, .int sq)]) hx hb dX12_mayBuildOn_11 hl (by decide) rfl (fun ls hl => ?_)
  have key41 : ∀ (n41 i3 : Nat), i3 + n41 = 30 → 0 ≤ i3 → ∀ (z4 : Int32), ((0 ≤ z4.toInt ∧ z4.toInt ≤ 1)) → ∀ (H : Heap) (locs : List Loc), gH (dC, dI) kA (SHm q (wP wZ wN wH wB wC wL wK wU wV) PI im PM PT lS lB lE lN) G H → gF (dC, dI) SKm G ([] : List (Nat × Nat)) s.heap H → va_S A s.heap H locs → ∀ ls : Array Slot, lv_has ls 5 [(4, .int (nI i3)), (3, .int z4), (2, .int r1), (0, .ref o0), (1, .int sq)] → W p l e (headSpec w_s_mayBuildOn ({ frames := 3, cells := 0, slots := 0, locals := 64 })).room s m #[.ref o0, .int sq] below meth c H locs 0 0 (MQ below (va_Qi (fun (r : Int32) (u : Unit) => (0 ≤ r.toInt ∧ r.toInt ≤ 1)) (fun (_ : Unit) (t : State) => gH (dC, dI) kA (SHm q (wP wZ wN wH wB wC wL wK wU wV) PI im PM PT lS lB lE lN) G t.heap ∧ gF (dC, dI) SKm G ([] : List (Nat × Nat)) s.heap t.heap) A) #[.ref o0, .int sq] s 0 0 A) (F0 m 13 ls []) := by
    intro n41
    induction n41 with
    | zero =>
      intro i3 hn41 hlo42 z4 h5 H locs hT hF hS  ls hl
      obtain rfl : 30 = i3 := by omega
      refine lv_iload hx hb dX12_mayBuildOn_13 (lv_at hl 0 rfl) ?_
      refine lv_aload_n hx hb dX12_mayBuildOn_15 rfl (lv_at hl 3 rfl) ?_
      refine tw_get hx hb hts bF_X12 hown hK hT hr_o0 shm_0 rfl 1 (by decide) (ht_at hts 8 rfl) (fun _ h9 => h9) dX12_mayBuildOn_16 (fun v9 m43 h9 => ?_)
      obtain ⟨rfl, hg44⟩ := h9 _ rfl
      refine lv_sipush (v := 1428) hx hb dX12_mayBuildOn_19 (by decide) ?_
      refine tw_iald (i := 1428) hx hb hK hT hg44 shm_2 rfl (by unfold vp_in; decide) dX12_mayBuildOn_22 (fun v9 m45 h9 => ?_)
      obtain ⟨x46, rfl, gx46, kx46⟩ := (gp_at h9 (w_wct (by have q9 := tn_of (show (1428 : Int32).toInt = 1428 from (by decide)) (show (0 : Int) ≤ 1428 from by omega); omega)))
      refine lv_icmp_ge (tgt := 66) hx hb dX12_mayBuildOn_23 (by decide) (fun c47 => ?_) (fun c47 => (by exfalso; have q9 : ((30 : Nat) : Int) < x46.toInt := ti_nle c47 rfl (nI_toInt (by omega)); omega))
      have t48 : x46.toInt ≤ ((30 : Nat) : Int) := ti_le c47 rfl (nI_toInt (by omega))
      refine lv_iload_n hx hb dX12_mayBuildOn_66 rfl (lv_at hl 1 rfl) ?_
      exact W.zret (v := z4) hx hb hr (nar_b (by have q8 := ti_all z4; omega)) (fun t ht hW => ⟨⟨z4, (), rfl, (by exact (by have q8 := ti_all z4; omega)), by (try dsimp only); rw [ht]; exact ⟨hT, hF⟩⟩, hS.F ht⟩) hS.2.2 dX12_mayBuildOn_67
    | succ n41 ih41 =>
      intro i3 hn41 hlo42 z4 h5 H locs hT hF hS  ls hl
      have hlt48 : i3 < 30 := by omega
      refine lv_iload hx hb dX12_mayBuildOn_13 (lv_at hl 0 rfl) ?_
      refine lv_aload_n hx hb dX12_mayBuildOn_15 rfl (lv_at hl 3 rfl) ?_
      refine tw_get hx hb hts bF_X12 hown hK hT hr_o0 shm_0 rfl 1 (by decide) (ht_at hts 8 rfl) (fun _ h9 => h9) dX12_mayBuildOn_16 (fun v9 m49 h9 => ?_)
      obtain ⟨rfl, hg50⟩ := h9 _ rfl
      refine lv_sipush (v := 1428) hx hb dX12_mayBuildOn_19 (by decide) ?_
      refine tw_iald (i := 1428) hx hb hK hT hg50 shm_2 rfl (by unfold vp_in; decide) dX12_mayBuildOn_22 (fun v9 m51 h9 => ?_)
      obtain ⟨x52, rfl, gx52, kx52⟩ := (gp_at h9 (w_wct (by have q9 := tn_of (show (1428 : Int32).toInt = 1428 from (by decide)) (show (0 : Int) ≤ 1428 from by omega); omega)))
      refine lv_icmp_ge (tgt := 66) hx hb dX12_mayBuildOn_23 (by decide) (fun c53 => ?_) (fun c53 => ?_)
      · have t54 : x52.toInt ≤ ((i3 : Nat) : Int) := ti_le c53 rfl (nI_toInt (by omega))
        refine lv_iload_n hx hb dX12_mayBuildOn_66 rfl (lv_at hl 1 rfl) ?_
        exact W.zret (v := z4) hx hb hr (nar_b (by have q8 := ti_all z4; omega)) (fun t ht hW => ⟨⟨z4, (), rfl, (by exact (by have q8 := ti_all z4; omega)), by (try dsimp only); rw [ht]; exact ⟨hT, hF⟩⟩, hS.F ht⟩) hS.2.2 dX12_mayBuildOn_67
      · have t55 : ((i3 : Nat) : Int) < x52.toInt := ti_nle c53 rfl (nI_toInt (by omega))
        refine lv_iload_n hx hb dX12_mayBuildOn_26 rfl (lv_at hl 1 rfl) ?_
        refine lv_if_eq (tgt := 58) hx hb dX12_mayBuildOn_27 (by decide) (fun c56 => ?_) (fun c56 => ?_)
        · have t57 : z4.toInt = 0 := ti_eq c56 rfl (by decide)
          refine lv_iconst (v := 0) hx hb dX12_mayBuildOn_58 (by decide) ?_
          refine lv_istore_n (lv' := [(3, .int 0), (4, .int (nI i3)), (2, .int r1), (0, .ref o0), (1, .int sq)]) hx hb dX12_mayBuildOn_59 rfl hl (by decide) rfl (fun ls hl => ?_)
          refine lv_iinc (v := nI (i3 + 1)) (lv' := [(4, .int (nI (i3 + 1))), (3, .int 0), (2, .int r1), (0, .ref o0), (1, .int sq)]) hx hb dX12_mayBuildOn_60 hl (k := 1) rfl (nI_add i3 1) (by decide) rfl (fun ls hl => ?_)
          refine lv_goto (tgt := 13) hx hb dX12_mayBuildOn_63 (by decide) ?_
          exact ih41 (i3 + 1) (by omega) (by omega) 0 (rg_t (a := 0) (by decide) (by first | decide | omega) (by first | decide | omega)) _ _ hT hF hS ls (lv_sub hl [0, 1, 2, 3, 4] rfl)
        · have t58 : z4.toInt ≠ 0 := ti_ne c56 rfl (by decide)
          refine lv_aload_n hx hb dX12_mayBuildOn_30 rfl (lv_at hl 3 rfl) ?_
          refine lv_iload hx hb dX12_mayBuildOn_31 (lv_at hl 0 rfl) ?_
          have hFc := gA_free hG hA hS
          refine va_calli (va_runV (As := [.int (nI i3)]) (rest := []) ⟨hx, hb, hml, hown, hts⟩ (s_isDike l dC dI kA adK adV G H q wZ wN wH wB wC wL wK wU wV PI im PM PT lS lB lE lN o0 (nI i3) hT hr_o0 (rg_t (a := ((i3 : Nat) : Int)) (nI_toInt (by omega)) (by omega) (by omega)) hgz hgn hgh hgb hgc hgi hgu) (cwV 1 hts (goodIn_app (goodIn_r _ [18, 19, 20, 8] rfl (by decide +kernel)) (goodIn_ca (goodIn_r _ [10, 11, 9, 12, 13, 14, 8, 15, 16, 17] rfl (by decide +kernel)) (bs_in _ _))) rfl rfl rfl (by decide +kernel) ⟨(Nat.le_of_ble_eq_true rfl), (Nat.le_of_ble_eq_true rfl)⟩) ⟨fun a U g mk q => by obtain ⟨q0, q1, qK, qE⟩ := q; exact ⟨q0, q1, va_K.moved (u := U) (U := U.calling g mk a) (Vm.Alike.refl U.vm) qK, EVS.blind g mk a qE⟩, gH_rc hK hT hr_o0 shm_0 rfl, fun U hU hW => ⟨rfl, hU, va_K.moved hW.alike hK, hE.call hS hFc hU hW⟩⟩ rfl rfl hl.1 rfl (lv_room (Nat.le_of_ble_eq_true rfl)) dX12_mayBuildOn_33 ⟨(Nat.le_of_ble_eq_true rfl), (Nat.le_of_ble_eq_true rfl)⟩) hS (fun q _ h => hFc q h) hFc (fun r59 u t H locs ht hvm hw60 hB _ _ hS => ?_)
          obtain ⟨hT, hF1⟩ := hB
          rw [ht] at hT hF1
          have hF := hF.more hF1 (by decide)
          try dsimp only at hw60
          obtain ⟨h62, hi63⟩ := hw60
          refine lv_if_eq (tgt := 54) hx hb dX12_mayBuildOn_36 (by decide) (fun c64 => ?_) (fun c64 => ?_)
          · have t65 : r59.toInt = 0 := ti_eq c64 rfl (by decide)
            refine lv_iconst (v := 1) hx hb dX12_mayBuildOn_54 (by decide) ?_
            refine lv_goto (tgt := 59) hx hb dX12_mayBuildOn_55 (by decide) ?_
            refine lv_istore_n (lv' := [(3, .int 1), (4, .int (nI i3)), (2, .int r1), (0, .ref o0), (1, .int sq)]) hx hb dX12_mayBuildOn_59 rfl hl (by decide) rfl (fun ls hl => ?_)
            refine lv_iinc (v := nI (i3 + 1)) (lv' := [(4, .int (nI (i3 + 1))), (3, .int 1), (2, .int r1), (0, .ref o0), (1, .int sq)]) hx hb dX12_mayBuildOn_60 hl (k := 1) rfl (nI_add i3 1) (by decide) rfl (fun ls hl => ?_)
            refine lv_goto (tgt := 13) hx hb dX12_mayBuildOn_63 (by decide) ?_
            exact ih41 (i3 + 1) (by omega) (by omega) 1 (rg_t (a := 1) (by decide) (by first | decide | omega) (by first | decide | omega)) _ _ hT hF hS ls (lv_sub hl [0, 1, 2, 3, 4] rfl)
          · have t66 : r59.toInt ≠ 0 := ti_ne c64 rfl (by decide)
            have t67 : (nI i3).toInt = ((i3 : Nat) : Int) := nI_toInt (by omega)
            have t68 : (nI i3).toInt < wC → wK (nI i3).toNatClampNeg := hi63 ((bit_of ⟨by omega, by omega⟩).resolve_left c64)
            refine lv_iload_n hx hb dX12_mayBuildOn_39 rfl (lv_at hl 4 rfl) ?_
            refine lv_aload_n hx hb dX12_mayBuildOn_40 rfl (lv_at hl 3 rfl) ?_
            refine lv_iload hx hb dX12_mayBuildOn_41 (lv_at hl 0 rfl) ?_
            refine lv_iconst (v := 1) hx hb dX12_mayBuildOn_43 (by decide) ?_
            have hFc := gA_free hG hA hS
            refine va_calli (va_runV (As := [.int (nI i3), .int 1]) (rest := [.int sq]) ⟨hx, hb, hml, hown, hts⟩ (s_of1 l dC dI kA adK adV G H q wZ wN wH wB wC wL wK wU wV PI im PM PT lS lB lE lN o0 (nI i3) hT hr_o0 (rg_t (a := ((i3 : Nat) : Int)) (nI_toInt (by omega)) (by omega) (by omega)) hgz hgn hgh hgb hgc hgi hgu) (cwV 2 hts (goodIn_app (goodIn_r _ [15, 16, 17, 8] rfl (by decide +kernel)) (goodIn_ca (goodIn_r _ [11, 9, 12, 13, 14, 8] rfl (by decide +kernel)) (bs_in _ _))) rfl rfl rfl (by decide +kernel) ⟨(Nat.le_of_ble_eq_true rfl), (Nat.le_of_ble_eq_true rfl)⟩) ⟨fun a U g mk q => by obtain ⟨q0, q1, qK, qE⟩ := q; exact ⟨q0, q1, va_K.moved (u := U) (U := U.calling g mk a) (Vm.Alike.refl U.vm) qK, EVS.blind g mk a qE⟩, gH_rc hK hT hr_o0 shm_0 rfl, fun U hU hW => ⟨rfl, hU, va_K.moved hW.alike hK, hE.call hS hFc hU hW⟩⟩ rfl rfl hl.1 rfl (lv_room (Nat.le_of_ble_eq_true rfl)) dX12_mayBuildOn_44 ⟨(Nat.le_of_ble_eq_true rfl), (Nat.le_of_ble_eq_true rfl)⟩) hS (fun q _ h => hFc q h) hFc (fun r69 u t H locs ht hvm hw70 hB _ _ hS => ?_)
            obtain ⟨hT, hF1⟩ := hB
            rw [ht] at hT hF1
            have hF := hF.more hF1 (by decide)
            try dsimp only at hw70
            obtain ⟨h72, ⟨ix73, hix73, m74⟩⟩ := hw70
            have t75 : (nI i3).toInt = ((i3 : Nat) : Int) := nI_toInt (by omega)
            have hFc := gA_free hG hA hS
            refine va_calli (va_runS (As := [.int sq, .int r69]) (rest := []) ⟨hx, hb, hml, hown, hts⟩ (s_steps l dC dI kA adK adV G H q wZ wN wH wB wC wL wK wU wV PI im PM PT lS lB lE lN sq r69 hT hgz hgn hgh hgb hgc hgi hgu) (va_cwS 2 hts (goodIn_app (goodIn_r _ [26, 27, 8] rfl (by decide +kernel)) (goodIn_ca (goodIn_r _ [21, 22, 23, 24, 25] rfl (by decide +kernel)) (bs_in _ _))) rfl rfl rfl (by decide +kernel) ⟨(Nat.le_of_ble_eq_true rfl), (Nat.le_of_ble_eq_true rfl)⟩) ⟨fun a U g mk q => by obtain ⟨q0, q1, qK, qE⟩ := q; exact ⟨q0, q1, va_K.moved (u := U) (U := U.calling g mk a) (Vm.Alike.refl U.vm) qK, EVS.blind g mk a qE⟩, fun U hU hW => ⟨rfl, hU, va_K.moved hW.alike hK, hE.call hS hFc hU hW⟩⟩ rfl rfl hl.1 rfl (lv_room (Nat.le_of_ble_eq_true rfl)) dX12_mayBuildOn_47 ⟨(Nat.le_of_ble_eq_true rfl), (Nat.le_of_ble_eq_true rfl)⟩) hS (fun q _ h => hFc q h) hFc (fun r77 u t H locs ht hvm hw78 hB _ _ hS => ?_)
            obtain ⟨hT, hF1⟩ := hB
            rw [ht] at hT hF1
            have hF := hF.more hF1 (by decide)
            try dsimp only at hw78
            refine lv_iload_n hx hb dX12_mayBuildOn_50 rfl (lv_at hl 2 rfl) ?_
            refine lv_icmp_lt (tgt := 58) hx hb dX12_mayBuildOn_51 (by decide) (fun c81 => ?_) (fun c81 => ?_)
            · have t82 : r77.toInt < r1.toInt := ti_lt c81 rfl rfl
              refine lv_iconst (v := 0) hx hb dX12_mayBuildOn_58 (by decide) ?_
              refine lv_istore_n (lv' := [(3, .int 0), (4, .int (nI i3)), (2, .int r1), (0, .ref o0), (1, .int sq)]) hx hb dX12_mayBuildOn_59 rfl hl (by decide) rfl (fun ls hl => ?_)
              refine lv_iinc (v := nI (i3 + 1)) (lv' := [(4, .int (nI (i3 + 1))), (3, .int 0), (2, .int r1), (0, .ref o0), (1, .int sq)]) hx hb dX12_mayBuildOn_60 hl (k := 1) rfl (nI_add i3 1) (by decide) rfl (fun ls hl => ?_)
              refine lv_goto (tgt := 13) hx hb dX12_mayBuildOn_63 (by decide) ?_
              exact ih41 (i3 + 1) (by omega) (by omega) 0 (rg_t (a := 0) (by decide) (by first | decide | omega) (by first | decide | omega)) _ _ hT hF hS ls (lv_sub hl [0, 1, 2, 3, 4] rfl)
            · have t83 : r1.toInt ≤ r77.toInt := ti_nlt c81 rfl rfl
              refine lv_iconst (v := 1) hx hb dX12_mayBuildOn_54 (by decide) ?_
              refine lv_goto (tgt := 59) hx hb dX12_mayBuildOn_55 (by decide) ?_
              refine lv_istore_n (lv' := [(3, .int 1), (4, .int (nI i3)), (2, .int r1), (0, .ref o0), (1, .int sq)]) hx hb dX12_mayBuildOn_59 rfl hl (by decide) rfl (fun ls hl => ?_)
              refine lv_iinc (v := nI (i3 + 1)) (lv' := [(4, .int (nI (i3 + 1))), (3, .int 1), (2, .int r1), (0, .ref o0), (1, .int sq)]) hx hb dX12_mayBuildOn_60 hl (k := 1) rfl (nI_add i3 1) (by decide) rfl (fun ls hl => ?_)
              refine lv_goto (tgt := 13) hx hb dX12_mayBuildOn_63 (by decide) ?_
              exact ih41 (i3 + 1) (by omega) (by omega) 1 (rg_t (a := 1) (by decide) (by first | decide | omega) (by first | decide | omega)) _ _ hT hF hS ls (lv_sub hl [0, 1, 2, 3, 4] rfl)
  exact key41 (30 - 0) 0 (by omega) (Nat.le_refl _) 1 (rg_t (a := 1) (by decide) (by first | decide | omega) (by first | decide | omega)) _ _ hT hF hS ls (lv_sub hl [0, 1, 2, 3, 4] rfl)
def w_s_noPlace : List Cond := .code yX12_noPlace cX12_noPlace 2 (some .boolean) :: (HAppend.hAppend (α := List Cond) (β := List Cond) (γ := List Cond) [.code yX12_isLand cX12_isLand 2 (some .boolean), .fieldLink RX12 9 "SeaLandModel" "world" "[I", .methodLink RX12 235 yX12_isLand, .instanceMethod yX12_isLand, .selects RX12 yX12_isLand yX12_isLand, .initialized RX12, .code yX12_workOn cX12_workOn 3 (some .int), .code yX12_of cX12_of 3 (some .int), .code yX12_at cX12_at 2 (some .int), .methodLink RX12 214 yX12_at, .static yX12_at, .methodLink RX12 217 yX12_of, .instanceMethod yX12_of, .selects RX12 yX12_of yX12_of, .methodLink RX12 256 yX12_workOn, .instanceMethod yX12_workOn, .selects RX12 yX12_workOn yX12_workOn] bs)
set_option maxHeartbeats 4000000 in
set_option maxRecDepth 100000 in
theorem s_noPlace (l : Launch) (dC : Nat → ClassId) (dI : Nat → Nat → Nat) (kA : Nat → ClassId) (adK adV : Nat → Nat) (G : gT) (H0 : Heap) (q : Nat → Nat) (wZ wN : Nat → Int) (wH wB wC : Int) (wL wK : Nat → Prop) (wU wV : Nat → Nat) (PI : Nat → Int → Prop) (im : Int) (PM PT : Nat → Int → Prop) (lS lB lE : Nat → Nat → Int → Prop) (lN : Nat → Int) (o0 : Nat) (sq : Int32)  (hT : gH (dC, dI) kA (SHm q (wP wZ wN wH wB wC wL wK wU wV) PI im PM PT lS lB lE lN) G H0) (hr_o0 : G o0 = some 0) (hq0 : 0 ≤ sq.toInt ∧ sq.toInt ≤ 95) (hgz : ∀ i, 0 ≤ wZ i) (hgn : ∀ i, 6500000 ≤ wN i ∧ wN i ≤ 20200000) (hgh : 0 ≤ wH ∧ wH ≤ 40000) (hgb : 0 ≤ wB ∧ wB ≤ 3850000) (hgc : 0 ≤ wC ∧ wC ≤ 30) (hgi : 0 ≤ im ∧ im ≤ 1) (hgu : ∀ a t, G a = some (t + 1) → a = q t) : Met l yX12_noPlace w_s_noPlace ({ frames := 3, cells := 0, slots := 0, locals := 65 }) (va_Pc [.ref o0, .int sq] (fun U => U.heap = H0 ∧ va_K (dC, dI) vwCl (tyl kA) U ∧ EVS adK adV (gA G H0.size) U U.heap)) (va_Qi (fun (r : Int32) (u : Unit) => (0 ≤ r.toInt ∧ r.toInt ≤ 1) ∧ (r = 0 → wL sq.toNatClampNeg ∧ ∀ w : Nat, (w : Int) < wC → (wU w : Int) ≠ sq.toInt)) (fun (_ : Unit) (t : State) => gH (dC, dI) kA (SHm q (wP wZ wN wH wB wC wL wK wU wV) PI im PM PT lS lB lE lN) G t.heap ∧ gF (dC, dI) SKm G ([] : List (Nat × Nat)) H0 t.heap) (gA G H0.size)) 0 0 (gA G H0.size) := by
  refine Met.ofW (cc := cX12_noPlace) (maxL := 2) (ret := (some .boolean)) (by decide) rfl ?_
  intro p e s m args below meth c s₁ B hml hv
  obtain ⟨rfl, hH0, hK, hE⟩ := hv
  have hx := B.exec
  have hb := B.bytes
  have hr := B.returns
  have hts := atoms_spec (ws := w_s_noPlace) B.pre
  have hown : s.vm.findClass RX12 = some m.cls := findClass_of_methodNamed B.named
  have hlocks := B.notSynchronized
  subst hH0
  generalize hAe : gA G s.heap.size = A at hE ⊢
  have hA : ∀ q : Nat, s.heap.size ≤ q → A q := fun q h => by rw [← hAe]; exact Or.inr h
  have hG := gA_of hAe
  have hS : va_S A s.heap s.heap [] := va_S.rf
  have hF : gF (dC, dI) SKm G ([] : List (Nat × Nat)) s.heap s.heap := gF.rf
  have hl := lv_entry ([.ref o0, .int sq]) (n := 2) (Nat.le_of_ble_eq_true rfl)
  rw [lg_entry_eq]
  generalize (lg_sl ([.ref o0, .int sq]) ++ List.replicate (2 - (lg_sl ([.ref o0, .int sq])).length) Slot.unset).toArray = ls at hl ⊢
  have hl : lv_has ls 2 [(0, .ref o0), (1, .int sq)] := hl
  refine lv_aload_n hx hb dX12_noPlace_0 rfl (lv_at hl 0 rfl) ?_
  refine lv_iload_n hx hb dX12_noPlace_1 rfl (lv_at hl 1 rfl) ?_
  have hFc := gA_free hG hA hS
  refine va_calli (va_runV (As := [.int sq]) (rest := []) ⟨hx, hb, hml, hown, hts⟩ (s_isLand l dC dI kA adK adV G s.heap q wZ wN wH wB wC wL wK wU wV PI im PM PT lS lB lE lN o0 sq hT hr_o0 (by have q8 := ti_all sq; omega) hgz hgn hgh hgb hgc hgi hgu) (cwV 1 hts (goodIn_app (goodIn_r _ [3, 4, 5, 6] rfl (by decide +kernel)) (goodIn_ca (goodIn_r _ [1, 2] rfl (by decide +kernel)) (bs_in _ _))) rfl rfl rfl (by decide +kernel) ⟨(Nat.le_of_ble_eq_true rfl), (Nat.le_of_ble_eq_true rfl)⟩) ⟨fun a U g mk q => by obtain ⟨q0, q1, qK, qE⟩ := q; exact ⟨q0, q1, va_K.moved (u := U) (U := U.calling g mk a) (Vm.Alike.refl U.vm) qK, EVS.blind g mk a qE⟩, gH_rc hK hT hr_o0 shm_0 rfl, fun U hU hW => ⟨rfl, hU, va_K.moved hW.alike hK, hE.call hS hFc hU hW⟩⟩ rfl rfl hl.1 rfl (lv_room (Nat.le_of_ble_eq_true rfl)) dX12_noPlace_2 ⟨(Nat.le_of_ble_eq_true rfl), (Nat.le_of_ble_eq_true rfl)⟩) hS (fun q _ h => hFc q h) hFc (fun r1 u t H locs ht hvm hw2 hB _ _ hS => ?_)
  obtain ⟨hT, hF1⟩ := hB
  rw [ht] at hT hF1
  have hF := hF.more hF1 (by decide)
  try dsimp only at hw2
  obtain ⟨h3, hi4, hi5⟩ := hw2
  refine lv_if_eq (tgt := 16) hx hb dX12_noPlace_5 (by decide) (fun c6 => ?_) (fun c6 => ?_)
  · have t7 : r1.toInt = 0 := ti_eq c6 rfl (by decide)
    have t8 : ¬ wL sq.toNatClampNeg := hi5 c6
    refine lv_iconst (v := 1) hx hb dX12_noPlace_16 (by decide) ?_
    refine lv_goto (tgt := 21) hx hb dX12_noPlace_17 (by decide) ?_
    exact W.zret (v := 1) hx hb hr (by decide) (fun t ht hW => ⟨⟨1, (), rfl, (by exact ⟨(rg_t (a := 1) (by decide) (by first | decide | omega) (by first | decide | omega)), (fun h => absurd h (by decide))⟩), by (try dsimp only); rw [ht]; exact ⟨hT, hF⟩⟩, hS.F ht⟩) hS.2.2 dX12_noPlace_21
  · have t9 : r1.toInt ≠ 0 := ti_ne c6 rfl (by decide)
    have t10 : wL sq.toNatClampNeg := hi4 ((bit_of ⟨by omega, by omega⟩).resolve_left c6)
    refine lv_aload_n hx hb dX12_noPlace_8 rfl (lv_at hl 0 rfl) ?_
    refine lv_iload_n hx hb dX12_noPlace_9 rfl (lv_at hl 1 rfl) ?_
    have hFc := gA_free hG hA hS
    refine va_calli (va_runV (As := [.int sq]) (rest := []) ⟨hx, hb, hml, hown, hts⟩ (s_workOn l dC dI kA adK adV G H q wZ wN wH wB wC wL wK wU wV PI im PM PT lS lB lE lN o0 sq hT hr_o0 hgz hgn hgh hgb hgc hgi hgu) (cwV 1 hts (goodIn_app (goodIn_r _ [15, 16, 17, 6] rfl (by decide +kernel)) (goodIn_ca (goodIn_r _ [7, 2, 8, 9, 10, 11, 6, 12, 13, 14] rfl (by decide +kernel)) (bs_in _ _))) rfl rfl rfl (by decide +kernel) ⟨(Nat.le_of_ble_eq_true rfl), (Nat.le_of_ble_eq_true rfl)⟩) ⟨fun a U g mk q => by obtain ⟨q0, q1, qK, qE⟩ := q; exact ⟨q0, q1, va_K.moved (u := U) (U := U.calling g mk a) (Vm.Alike.refl U.vm) qK, EVS.blind g mk a qE⟩, gH_rc hK hT hr_o0 shm_0 rfl, fun U hU hW => ⟨rfl, hU, va_K.moved hW.alike hK, hE.call hS hFc hU hW⟩⟩ rfl rfl hl.1 rfl (lv_room (Nat.le_of_ble_eq_true rfl)) dX12_noPlace_10 ⟨(Nat.le_of_ble_eq_true rfl), (Nat.le_of_ble_eq_true rfl)⟩) hS (fun q _ h => hFc q h) hFc (fun r11 u t H locs ht hvm hw12 hB _ _ hS => ?_)
    obtain ⟨hT, hF1⟩ := hB
    rw [ht] at hT hF1
    have hF := hF.more hF1 (by decide)
    try dsimp only at hw12
    obtain ⟨h13, hf14⟩ := hw12
    refine lv_if_lt (tgt := 20) hx hb dX12_noPlace_13 (by decide) (fun c15 => ?_) (fun c15 => ?_)
    · have t16 : r11.toInt < 0 := ti_lt c15 rfl (by decide)
      refine lv_iconst (v := 0) hx hb dX12_noPlace_20 (by decide) ?_
      exact W.zret (v := 0) hx hb hr (by decide) (fun t ht hW => ⟨⟨0, (), rfl, (by exact ⟨(rg_t (a := 0) (by decide) (by first | decide | omega) (by first | decide | omega)), (fun _ => ⟨by assumption, (by assumption : (_ : Int) < 0 → _) (by omega)⟩)⟩), by (try dsimp only); rw [ht]; exact ⟨hT, hF⟩⟩, hS.F ht⟩) hS.2.2 dX12_noPlace_21
    · have t17 : 0 ≤ r11.toInt := ti_nlt c15 rfl (by decide)
      refine lv_iconst (v := 1) hx hb dX12_noPlace_16 (by decide) ?_
      refine lv_goto (tgt := 21) hx hb dX12_noPlace_17 (by decide) ?_
      exact W.zret (v := 1) hx hb hr (by decide) (fun t ht hW => ⟨⟨1, (), rfl, (by exact ⟨(rg_t (a := 1) (by decide) (by first | decide | omega) (by first | decide | omega)), (fun h => absurd h (by decide))⟩), by (try dsimp only); rw [ht]; exact ⟨hT, hF⟩⟩, hS.F ht⟩) hS.2.2 dX12_noPlace_21
def w_s_crest : List Cond := .code yX12_crest cX12_crest 4 (some .int) :: (HAppend.hAppend (α := List Cond) (β := List Cond) (γ := List Cond) [.fieldLink RX12 9 "SeaLandModel" "world" "[I", .code yX12_of cX12_of 3 (some .int), .code yX12_at cX12_at 2 (some .int), .methodLink RX12 214 yX12_at, .static yX12_at, .initialized RX12, .methodLink RX12 217 yX12_of, .instanceMethod yX12_of, .selects RX12 yX12_of yX12_of] bs)
set_option maxHeartbeats 4000000 in
set_option maxRecDepth 100000 in
theorem s_crest (l : Launch) (dC : Nat → ClassId) (dI : Nat → Nat → Nat) (kA : Nat → ClassId) (adK adV : Nat → Nat) (G : gT) (H0 : Heap) (q : Nat → Nat) (wZ wN : Nat → Int) (wH wB wC : Int) (wL wK : Nat → Prop) (wU wV : Nat → Nat) (PI : Nat → Int → Prop) (im : Int) (PM PT : Nat → Int → Prop) (lS lB lE : Nat → Nat → Int → Prop) (lN : Nat → Int) (o0 : Nat) (wk : Int32)  (hT : gH (dC, dI) kA (SHm q (wP wZ wN wH wB wC wL wK wU wV) PI im PM PT lS lB lE lN) G H0) (hr_o0 : G o0 = some 0) (hq0 : 0 ≤ wk.toInt ∧ wk.toInt ≤ 29) (hgz : ∀ i, 0 ≤ wZ i) (hgn : ∀ i, 6500000 ≤ wN i ∧ wN i ≤ 20200000) (hgh : 0 ≤ wH ∧ wH ≤ 40000) (hgb : 0 ≤ wB ∧ wB ≤ 3850000) (hgc : 0 ≤ wC ∧ wC ≤ 30) (hgi : 0 ≤ im ∧ im ≤ 1) (hgu : ∀ a t, G a = some (t + 1) → a = q t) : Met l yX12_crest w_s_crest ({ frames := 2, cells := 0, slots := 0, locals := 43 }) (va_Pc [.ref o0, .int wk] (fun U => U.heap = H0 ∧ va_K (dC, dI) vwCl (tyl kA) U ∧ EVS adK adV (gA G H0.size) U U.heap)) (va_Qi (fun (r : Int32) (u : Unit) => True) (fun (_ : Unit) (t : State) => gH (dC, dI) kA (SHm q (wP wZ wN wH wB wC wL wK wU wV) PI im PM PT lS lB lE lN) G t.heap ∧ gF (dC, dI) SKm G ([] : List (Nat × Nat)) H0 t.heap) (gA G H0.size)) 0 0 (gA G H0.size) := by
  refine Met.ofW (cc := cX12_crest) (maxL := 4) (ret := (some .int)) (by decide) rfl ?_
  intro p e s m args below meth c s₁ B hml hv
  obtain ⟨rfl, hH0, hK, hE⟩ := hv
  have hx := B.exec
  have hb := B.bytes
  have hr := B.returns
  have hts := atoms_spec (ws := w_s_crest) B.pre
  have hown : s.vm.findClass RX12 = some m.cls := findClass_of_methodNamed B.named
  have hlocks := B.notSynchronized
  subst hH0
  generalize hAe : gA G s.heap.size = A at hE ⊢
  have hA : ∀ q : Nat, s.heap.size ≤ q → A q := fun q h => by rw [← hAe]; exact Or.inr h
  have hG := gA_of hAe
  have hS : va_S A s.heap s.heap [] := va_S.rf
  have hF : gF (dC, dI) SKm G ([] : List (Nat × Nat)) s.heap s.heap := gF.rf
  have hl := lv_entry ([.ref o0, .int wk]) (n := 4) (Nat.le_of_ble_eq_true rfl)
  rw [lg_entry_eq]
  generalize (lg_sl ([.ref o0, .int wk]) ++ List.replicate (4 - (lg_sl ([.ref o0, .int wk])).length) Slot.unset).toArray = ls at hl ⊢
  have hl : lv_has ls 4 [(0, .ref o0), (1, .int wk)] := hl
  refine lv_aload_n hx hb dX12_crest_0 rfl (lv_at hl 0 rfl) ?_
  refine tw_get hx hb hts bF_X12 hown hK hT hr_o0 shm_0 rfl 1 (by decide) (ht_at hts 0 rfl) (fun _ h9 => h9) dX12_crest_1 (fun v9 m1 h9 => ?_)
  obtain ⟨rfl, hg2⟩ := h9 _ rfl
  refine lv_bipush (v := 96) hx hb dX12_crest_4 (by decide) ?_
  refine lv_aload_n hx hb dX12_crest_6 rfl (lv_at hl 0 rfl) ?_
  refine lv_iload_n hx hb dX12_crest_7 rfl (lv_at hl 1 rfl) ?_
  refine lv_iconst (v := 1) hx hb dX12_crest_8 (by decide) ?_
  have hFc := gA_free hG hA hS
  refine va_calli (va_runV (As := [.int wk, .int 1]) (rest := [.int 96, .ref (q 1)]) ⟨hx, hb, hml, hown, hts⟩ (s_of1 l dC dI kA adK adV G s.heap q wZ wN wH wB wC wL wK wU wV PI im PM PT lS lB lE lN o0 wk hT hr_o0 (by have q8 := ti_all wk; omega) hgz hgn hgh hgb hgc hgi hgu) (cwV 2 hts (goodIn_app (goodIn_r _ [7, 8, 9, 6] rfl (by decide +kernel)) (goodIn_ca (goodIn_r _ [2, 1, 3, 4, 5, 6] rfl (by decide +kernel)) (bs_in _ _))) rfl rfl rfl (by decide +kernel) ⟨(Nat.le_of_ble_eq_true rfl), (Nat.le_of_ble_eq_true rfl)⟩) ⟨fun a U g mk q => by obtain ⟨q0, q1, qK, qE⟩ := q; exact ⟨q0, q1, va_K.moved (u := U) (U := U.calling g mk a) (Vm.Alike.refl U.vm) qK, EVS.blind g mk a qE⟩, gH_rc hK hT hr_o0 shm_0 rfl, fun U hU hW => ⟨rfl, hU, va_K.moved hW.alike hK, hE.call hS hFc hU hW⟩⟩ rfl rfl hl.1 rfl (lv_room (Nat.le_of_ble_eq_true rfl)) dX12_crest_9 ⟨(Nat.le_of_ble_eq_true rfl), (Nat.le_of_ble_eq_true rfl)⟩) hS (fun q _ h => hFc q h) hFc (fun r3 u t H locs ht hvm hw4 hB _ _ hS => ?_)
  obtain ⟨hT, hF1⟩ := hB
  rw [ht] at hT hF1
  have hF := hF.more hF1 (by decide)
  try dsimp only at hw4
  obtain ⟨h5, ⟨ix6, hix6, m7⟩⟩ := hw4
  have m8 := (el_kept (hF1.arr hg2 skm_2 (by decide))).trans m7
  refine lv_iadd hx hb dX12_crest_12 ?_
  refine lv_topi (fun x9 ex9 => ?_)
  have t10 : x9.toInt = 96 + r3.toInt := ti_add ex9 (by decide) rfl (by omega) (by omega)
  refine tw_iald (i := x9) hx hb hK hT hg2 shm_2 rfl (vin_t (a := x9.toInt) rfl (by omega) (by omega)) dX12_crest_13 (fun v9 m11 h9 => ?_)
  obtain ⟨x12, rfl, gx12, kx12⟩ := (gp_at h9 (w_hgt (by have q9 := tn_of (show x9.toInt = x9.toInt from rfl) (show (0 : Int) ≤ x9.toInt from by omega); omega)))
  refine lv_istore_n (lv' := [(2, .int x12), (0, .ref o0), (1, .int wk)]) hx hb dX12_crest_14 rfl hl (by decide) rfl (fun ls hl => ?_)
  refine lv_iconst (v := 0) hx hb dX12_crest_15 (by decide) ?_
  refine lv_istore_n (lv' := [(3, .int 0), (2, .int x12), (0, .ref o0), (1, .int wk)]) hx hb dX12_crest_16 rfl hl (by decide) rfl (fun ls hl => ?_)
  have key39 : ∀ (n39 i13 : Nat), i13 + n39 = 6 → 0 ≤ i13 → ∀ (z14 : Int32), ∀ (H : Heap) (locs : List Loc), gH (dC, dI) kA (SHm q (wP wZ wN wH wB wC wL wK wU wV) PI im PM PT lS lB lE lN) G H → gF (dC, dI) SKm G ([] : List (Nat × Nat)) s.heap H → va_S A s.heap H locs → el H (q 1) ix6.toNatClampNeg = some (.int r3) → el H (q 1) x9.toNatClampNeg = some (.int x12) → ∀ ls : Array Slot, lv_has ls 4 [(3, .int (nI i13)), (2, .int z14), (0, .ref o0), (1, .int wk)] → W p l e (headSpec w_s_crest ({ frames := 2, cells := 0, slots := 0, locals := 43 })).room s m #[.ref o0, .int wk] below meth c H locs 0 0 (MQ below (va_Qi (fun (r : Int32) (u : Unit) => True) (fun (_ : Unit) (t : State) => gH (dC, dI) kA (SHm q (wP wZ wN wH wB wC wL wK wU wV) PI im PM PT lS lB lE lN) G t.heap ∧ gF (dC, dI) SKm G ([] : List (Nat × Nat)) s.heap t.heap) A) #[.ref o0, .int wk] s 0 0 A) (F0 m 17 ls []) := by
    intro n39
    induction n39 with
    | zero =>
      intro i13 hn39 hlo40 z14 H locs hT hF hS m15 m16 ls hl
      obtain rfl : 6 = i13 := by omega
      refine lv_iload_n hx hb dX12_crest_17 rfl (lv_at hl 0 rfl) ?_
      refine lv_aload_n hx hb dX12_crest_18 rfl (lv_at hl 2 rfl) ?_
      refine lv_iload_n hx hb dX12_crest_19 rfl (lv_at hl 3 rfl) ?_
      refine lv_iconst (v := 4) hx hb dX12_crest_20 (by decide) ?_
      have hFc := gA_free hG hA hS
      refine va_calli (va_runV (As := [.int wk, .int 4]) (rest := [.int (nI 6)]) ⟨hx, hb, hml, hown, hts⟩ (s_of4 l dC dI kA adK adV G H q wZ wN wH wB wC wL wK wU wV PI im PM PT lS lB lE lN o0 wk hT hr_o0 (by have q8 := ti_all wk; omega) hgz hgn hgh hgb hgc hgi hgu) (cwV 2 hts (goodIn_app (goodIn_r _ [7, 8, 9, 6] rfl (by decide +kernel)) (goodIn_ca (goodIn_r _ [2, 1, 3, 4, 5, 6] rfl (by decide +kernel)) (bs_in _ _))) rfl rfl rfl (by decide +kernel) ⟨(Nat.le_of_ble_eq_true rfl), (Nat.le_of_ble_eq_true rfl)⟩) ⟨fun a U g mk q => by obtain ⟨q0, q1, qK, qE⟩ := q; exact ⟨q0, q1, va_K.moved (u := U) (U := U.calling g mk a) (Vm.Alike.refl U.vm) qK, EVS.blind g mk a qE⟩, gH_rc hK hT hr_o0 shm_0 rfl, fun U hU hW => ⟨rfl, hU, va_K.moved hW.alike hK, hE.call hS hFc hU hW⟩⟩ rfl rfl hl.1 rfl (lv_room (Nat.le_of_ble_eq_true rfl)) dX12_crest_21 ⟨(Nat.le_of_ble_eq_true rfl), (Nat.le_of_ble_eq_true rfl)⟩) hS (fun q _ h => hFc q h) hFc (fun r41 u t H locs ht hvm hw42 hB _ _ hS => ?_)
      obtain ⟨hT, hF1⟩ := hB
      rw [ht] at hT hF1
      have hF := hF.more hF1 (by decide)
      try dsimp only at hw42
      obtain ⟨h45, ⟨ix46, hix46, m47⟩⟩ := hw42
      refine lv_icmp_ge (tgt := 44) hx hb dX12_crest_24 (by decide) (fun c49 => ?_) (fun c49 => (by exfalso; have q9 : ((6 : Nat) : Int) < r41.toInt := ti_nle c49 rfl (nI_toInt (by omega)); omega))
      have t50 : r41.toInt ≤ ((6 : Nat) : Int) := ti_le c49 rfl (nI_toInt (by omega))
      refine lv_iload_n hx hb dX12_crest_44 rfl (lv_at hl 1 rfl) ?_
      exact W.iret (v := z14) hx hb hr (fun t ht hW => ⟨⟨z14, (), rfl, (by exact trivial), by (try dsimp only); rw [ht]; exact ⟨hT, hF⟩⟩, hS.F ht⟩) hS.2.2 dX12_crest_45
    | succ n39 ih39 =>
      intro i13 hn39 hlo40 z14 H locs hT hF hS m15 m16 ls hl
      have hlt50 : i13 < 6 := by omega
      refine lv_iload_n hx hb dX12_crest_17 rfl (lv_at hl 0 rfl) ?_
      refine lv_aload_n hx hb dX12_crest_18 rfl (lv_at hl 2 rfl) ?_
      refine lv_iload_n hx hb dX12_crest_19 rfl (lv_at hl 3 rfl) ?_
      refine lv_iconst (v := 4) hx hb dX12_crest_20 (by decide) ?_
      have hFc := gA_free hG hA hS
      refine va_calli (va_runV (As := [.int wk, .int 4]) (rest := [.int (nI i13)]) ⟨hx, hb, hml, hown, hts⟩ (s_of4 l dC dI kA adK adV G H q wZ wN wH wB wC wL wK wU wV PI im PM PT lS lB lE lN o0 wk hT hr_o0 (by have q8 := ti_all wk; omega) hgz hgn hgh hgb hgc hgi hgu) (cwV 2 hts (goodIn_app (goodIn_r _ [7, 8, 9, 6] rfl (by decide +kernel)) (goodIn_ca (goodIn_r _ [2, 1, 3, 4, 5, 6] rfl (by decide +kernel)) (bs_in _ _))) rfl rfl rfl (by decide +kernel) ⟨(Nat.le_of_ble_eq_true rfl), (Nat.le_of_ble_eq_true rfl)⟩) ⟨fun a U g mk q => by obtain ⟨q0, q1, qK, qE⟩ := q; exact ⟨q0, q1, va_K.moved (u := U) (U := U.calling g mk a) (Vm.Alike.refl U.vm) qK, EVS.blind g mk a qE⟩, gH_rc hK hT hr_o0 shm_0 rfl, fun U hU hW => ⟨rfl, hU, va_K.moved hW.alike hK, hE.call hS hFc hU hW⟩⟩ rfl rfl hl.1 rfl (lv_room (Nat.le_of_ble_eq_true rfl)) dX12_crest_21 ⟨(Nat.le_of_ble_eq_true rfl), (Nat.le_of_ble_eq_true rfl)⟩) hS (fun q _ h => hFc q h) hFc (fun r51 u t H locs ht hvm hw52 hB _ _ hS => ?_)
      obtain ⟨hT, hF1⟩ := hB
      rw [ht] at hT hF1
      have m53 := (el_kept (hF1.arr hg2 skm_2 (by decide))).trans m15
      have m54 := (el_kept (hF1.arr hg2 skm_2 (by decide))).trans m16
      have hF := hF.more hF1 (by decide)
      try dsimp only at hw52
      obtain ⟨h55, ⟨ix56, hix56, m57⟩⟩ := hw52
      refine lv_icmp_ge (tgt := 44) hx hb dX12_crest_24 (by decide) (fun c59 => ?_) (fun c59 => ?_)
      · have t60 : r51.toInt ≤ ((i13 : Nat) : Int) := ti_le c59 rfl (nI_toInt (by omega))
        refine lv_iload_n hx hb dX12_crest_44 rfl (lv_at hl 1 rfl) ?_
        exact W.iret (v := z14) hx hb hr (fun t ht hW => ⟨⟨z14, (), rfl, (by exact trivial), by (try dsimp only); rw [ht]; exact ⟨hT, hF⟩⟩, hS.F ht⟩) hS.2.2 dX12_crest_45
      · have t61 : ((i13 : Nat) : Int) < r51.toInt := ti_nle c59 rfl (nI_toInt (by omega))
        refine lv_iload_n hx hb dX12_crest_27 rfl (lv_at hl 1 rfl) ?_
        refine lv_aload_n hx hb dX12_crest_28 rfl (lv_at hl 2 rfl) ?_
        refine lv_iload_n hx hb dX12_crest_29 rfl (lv_at hl 3 rfl) ?_
        refine lv_iconst (v := 5) hx hb dX12_crest_30 (by decide) ?_
        refine lv_iload_n hx hb dX12_crest_31 rfl (lv_at hl 0 rfl) ?_
        refine lv_iadd hx hb dX12_crest_32 ?_
        refine lv_topi (fun x62 ex62 => ?_)
        obtain rfl : nI (5 + i13) = x62 := (ex62.trans (nI_add 5 i13)).symm
        have hFc := gA_free hG hA hS
        refine va_calli (va_runV (As := [.int wk, .int (nI (5 + i13))]) (rest := [.int z14]) ⟨hx, hb, hml, hown, hts⟩ (s_ofT l dC dI kA adK adV G H q wZ wN wH wB wC wL wK wU wV PI im PM PT lS lB lE lN o0 wk (nI (5 + i13)) hT hr_o0 (by have q8 := ti_all wk; omega) (rg_t (a := ((5 + i13 : Nat) : Int)) (nI_toInt (by omega)) (by omega) (by omega)) hgz hgn hgh hgb hgc hgi hgu) (cwV 2 hts (goodIn_app (goodIn_r _ [7, 8, 9, 6] rfl (by decide +kernel)) (goodIn_ca (goodIn_r _ [2, 1, 3, 4, 5, 6] rfl (by decide +kernel)) (bs_in _ _))) rfl rfl rfl (by decide +kernel) ⟨(Nat.le_of_ble_eq_true rfl), (Nat.le_of_ble_eq_true rfl)⟩) ⟨fun a U g mk q => by obtain ⟨q0, q1, qK, qE⟩ := q; exact ⟨q0, q1, va_K.moved (u := U) (U := U.calling g mk a) (Vm.Alike.refl U.vm) qK, EVS.blind g mk a qE⟩, gH_rc hK hT hr_o0 shm_0 rfl, fun U hU hW => ⟨rfl, hU, va_K.moved hW.alike hK, hE.call hS hFc hU hW⟩⟩ rfl rfl hl.1 rfl (lv_room (Nat.le_of_ble_eq_true rfl)) dX12_crest_33 ⟨(Nat.le_of_ble_eq_true rfl), (Nat.le_of_ble_eq_true rfl)⟩) hS (fun q _ h => hFc q h) hFc (fun r63 u t H locs ht hvm hw64 hB _ _ hS => ?_)
        obtain ⟨hT, hF1⟩ := hB
        rw [ht] at hT hF1
        have m65 := (el_kept (hF1.arr hg2 skm_2 (by decide))).trans m53
        have m66 := (el_kept (hF1.arr hg2 skm_2 (by decide))).trans m54
        have hF := hF.more hF1 (by decide)
        try dsimp only at hw64
        have ⟨ix68, hix68, m69⟩ := hw64
        have t70 : (nI (5 + i13)).toInt = ((5 + i13 : Nat) : Int) := nI_toInt (by omega)
        refine lv_iadd hx hb dX12_crest_36 ?_
        refine lv_topi (fun x72 ex72 => ?_)
        refine lv_istore_n (lv' := [(2, .int x72), (3, .int (nI i13)), (0, .ref o0), (1, .int wk)]) hx hb dX12_crest_37 rfl hl (by decide) rfl (fun ls hl => ?_)
        refine lv_iinc (v := nI (i13 + 1)) (lv' := [(3, .int (nI (i13 + 1))), (2, .int x72), (0, .ref o0), (1, .int wk)]) hx hb dX12_crest_38 hl (k := 1) rfl (nI_add i13 1) (by decide) rfl (fun ls hl => ?_)
        refine lv_goto (tgt := 17) hx hb dX12_crest_41 (by decide) ?_
        exact ih39 (i13 + 1) (by omega) (by omega) x72 _ _ hT hF hS m65 m66 ls (lv_sub hl [0, 1, 2, 3] rfl)
  exact key39 (6 - 0) 0 (by omega) (Nat.le_refl _) x12 _ _ hT hF hS m8 m11 ls (lv_sub hl [0, 1, 2, 3] rfl)
def w_s_hasDitch : List Cond := .code yX12_hasDitch cX12_hasDitch 2 (some .boolean) :: (HAppend.hAppend (α := List Cond) (β := List Cond) (γ := List Cond) [.code yX12_isLand cX12_isLand 2 (some .boolean), .fieldLink RX12 9 "SeaLandModel" "world" "[I", .methodLink RX12 235 yX12_isLand, .instanceMethod yX12_isLand, .selects RX12 yX12_isLand yX12_isLand, .initialized RX12] bs)
set_option maxHeartbeats 4000000 in
set_option maxRecDepth 100000 in
theorem s_hasDitch (l : Launch) (dC : Nat → ClassId) (dI : Nat → Nat → Nat) (kA : Nat → ClassId) (adK adV : Nat → Nat) (G : gT) (H0 : Heap) (q : Nat → Nat) (wZ wN : Nat → Int) (wH wB wC : Int) (wL wK : Nat → Prop) (wU wV : Nat → Nat) (PI : Nat → Int → Prop) (im : Int) (PM PT : Nat → Int → Prop) (lS lB lE : Nat → Nat → Int → Prop) (lN : Nat → Int) (o0 : Nat) (sq : Int32)  (hT : gH (dC, dI) kA (SHm q (wP wZ wN wH wB wC wL wK wU wV) PI im PM PT lS lB lE lN) G H0) (hr_o0 : G o0 = some 0) (hq0 : 0 ≤ sq.toInt ∧ sq.toInt ≤ 95) (hgz : ∀ i, 0 ≤ wZ i) (hgn : ∀ i, 6500000 ≤ wN i ∧ wN i ≤ 20200000) (hgh : 0 ≤ wH ∧ wH ≤ 40000) (hgb : 0 ≤ wB ∧ wB ≤ 3850000) (hgc : 0 ≤ wC ∧ wC ≤ 30) (hgi : 0 ≤ im ∧ im ≤ 1) (hgu : ∀ a t, G a = some (t + 1) → a = q t) : Met l yX12_hasDitch w_s_hasDitch ({ frames := 1, cells := 0, slots := 0, locals := 21 }) (va_Pc [.ref o0, .int sq] (fun U => U.heap = H0 ∧ va_K (dC, dI) vwCl (tyl kA) U ∧ EVS adK adV (gA G H0.size) U U.heap)) (va_Qi (fun (r : Int32) (u : Unit) => (0 ≤ r.toInt ∧ r.toInt ≤ 1) ∧ (r = 1 → wL sq.toNatClampNeg)) (fun (_ : Unit) (t : State) => gH (dC, dI) kA (SHm q (wP wZ wN wH wB wC wL wK wU wV) PI im PM PT lS lB lE lN) G t.heap ∧ gF (dC, dI) SKm G ([] : List (Nat × Nat)) H0 t.heap) (gA G H0.size)) 0 0 (gA G H0.size) := by
  refine Met.ofW (cc := cX12_hasDitch) (maxL := 2) (ret := (some .boolean)) (by decide) rfl ?_
  intro p e s m args below meth c s₁ B hml hv
  obtain ⟨rfl, hH0, hK, hE⟩ := hv
  have hx := B.exec
  have hb := B.bytes
  have hr := B.returns
  have hts := atoms_spec (ws := w_s_hasDitch) B.pre
  have hown : s.vm.findClass RX12 = some m.cls := findClass_of_methodNamed B.named
  have hlocks := B.notSynchronized
  subst hH0
  generalize hAe : gA G s.heap.size = A at hE ⊢
  have hA : ∀ q : Nat, s.heap.size ≤ q → A q := fun q h => by rw [← hAe]; exact Or.inr h
  have hG := gA_of hAe
  have hS : va_S A s.heap s.heap [] := va_S.rf
  have hF : gF (dC, dI) SKm G ([] : List (Nat × Nat)) s.heap s.heap := gF.rf
  have hl := lv_entry ([.ref o0, .int sq]) (n := 2) (Nat.le_of_ble_eq_true rfl)
  rw [lg_entry_eq]
  generalize (lg_sl ([.ref o0, .int sq]) ++ List.replicate (2 - (lg_sl ([.ref o0, .int sq])).length) Slot.unset).toArray = ls at hl ⊢
  have hl : lv_has ls 2 [(0, .ref o0), (1, .int sq)] := hl
  refine lv_aload_n hx hb dX12_hasDitch_0 rfl (lv_at hl 0 rfl) ?_
  refine lv_iload_n hx hb dX12_hasDitch_1 rfl (lv_at hl 1 rfl) ?_
  have hFc := gA_free hG hA hS
  refine va_calli (va_runV (As := [.int sq]) (rest := []) ⟨hx, hb, hml, hown, hts⟩ (s_isLand l dC dI kA adK adV G s.heap q wZ wN wH wB wC wL wK wU wV PI im PM PT lS lB lE lN o0 sq hT hr_o0 (by have q8 := ti_all sq; omega) hgz hgn hgh hgb hgc hgi hgu) (cwV 1 hts (goodIn_app (goodIn_r _ [3, 4, 5, 6] rfl (by decide +kernel)) (goodIn_ca (goodIn_r _ [1, 2] rfl (by decide +kernel)) (bs_in _ _))) rfl rfl rfl (by decide +kernel) ⟨(Nat.le_of_ble_eq_true rfl), (Nat.le_of_ble_eq_true rfl)⟩) ⟨fun a U g mk q => by obtain ⟨q0, q1, qK, qE⟩ := q; exact ⟨q0, q1, va_K.moved (u := U) (U := U.calling g mk a) (Vm.Alike.refl U.vm) qK, EVS.blind g mk a qE⟩, gH_rc hK hT hr_o0 shm_0 rfl, fun U hU hW => ⟨rfl, hU, va_K.moved hW.alike hK, hE.call hS hFc hU hW⟩⟩ rfl rfl hl.1 rfl (lv_room (Nat.le_of_ble_eq_true rfl)) dX12_hasDitch_2 ⟨(Nat.le_of_ble_eq_true rfl), (Nat.le_of_ble_eq_true rfl)⟩) hS (fun q _ h => hFc q h) hFc (fun r1 u t H locs ht hvm hw2 hB _ _ hS => ?_)
  obtain ⟨hT, hF1⟩ := hB
  rw [ht] at hT hF1
  have hF := hF.more hF1 (by decide)
  try dsimp only at hw2
  obtain ⟨h3, hi4, hi5⟩ := hw2
  refine lv_if_eq (tgt := 25) hx hb dX12_hasDitch_5 (by decide) (fun c6 => ?_) (fun c6 => ?_)
  · have t7 : r1.toInt = 0 := ti_eq c6 rfl (by decide)
    have t8 : ¬ wL sq.toNatClampNeg := hi5 c6
    refine lv_iconst (v := 0) hx hb dX12_hasDitch_25 (by decide) ?_
    exact W.zret (v := 0) hx hb hr (by decide) (fun t ht hW => ⟨⟨0, (), rfl, (by exact ⟨(rg_t (a := 0) (by decide) (by first | decide | omega) (by first | decide | omega)), (fun h => absurd h (by decide))⟩), by (try dsimp only); rw [ht]; exact ⟨hT, hF⟩⟩, hS.F ht⟩) hS.2.2 dX12_hasDitch_26
  · have t9 : r1.toInt ≠ 0 := ti_ne c6 rfl (by decide)
    have t10 : wL sq.toNatClampNeg := hi4 ((bit_of ⟨by omega, by omega⟩).resolve_left c6)
    refine lv_aload_n hx hb dX12_hasDitch_8 rfl (lv_at hl 0 rfl) ?_
    refine tw_get hx hb hts bF_X12 hown hK hT hr_o0 shm_0 rfl 1 (by decide) (ht_at hts 1 rfl) (fun _ h9 => h9) dX12_hasDitch_9 (fun v9 m11 h9 => ?_)
    obtain ⟨rfl, hg12⟩ := h9 _ rfl
    refine lv_sipush (v := 288) hx hb dX12_hasDitch_12 (by decide) ?_
    refine lv_iload_n hx hb dX12_hasDitch_15 rfl (lv_at hl 1 rfl) ?_
    refine lv_iadd hx hb dX12_hasDitch_16 ?_
    refine lv_topi (fun x13 ex13 => ?_)
    have t14 : x13.toInt = 288 + sq.toInt := ti_add ex13 (by decide) rfl (by omega) (by omega)
    refine tw_iald (i := x13) hx hb hK hT hg12 shm_2 rfl (vin_t (a := x13.toInt) rfl (by omega) (by omega)) dX12_hasDitch_17 (fun v9 m15 h9 => ?_)
    obtain ⟨x16, rfl, gx16, kx16⟩ := (gp_at h9 (w_dit (by have q9 := tn_of (show x13.toInt = x13.toInt from rfl) (show (0 : Int) ≤ x13.toInt from by omega); omega)))
    refine lv_if_le (tgt := 25) hx hb dX12_hasDitch_18 (by decide) (fun c17 => ?_) (fun c17 => ?_)
    · have t18 : x16.toInt ≤ 0 := ti_le c17 rfl (by decide)
      refine lv_iconst (v := 0) hx hb dX12_hasDitch_25 (by decide) ?_
      exact W.zret (v := 0) hx hb hr (by decide) (fun t ht hW => ⟨⟨0, (), rfl, (by exact ⟨(rg_t (a := 0) (by decide) (by first | decide | omega) (by first | decide | omega)), (fun h => absurd h (by decide))⟩), by (try dsimp only); rw [ht]; exact ⟨hT, hF⟩⟩, hS.F ht⟩) hS.2.2 dX12_hasDitch_26
    · have t19 : 0 < x16.toInt := ti_nle c17 rfl (by decide)
      refine lv_iconst (v := 1) hx hb dX12_hasDitch_21 (by decide) ?_
      refine lv_goto (tgt := 26) hx hb dX12_hasDitch_22 (by decide) ?_
      exact W.zret (v := 1) hx hb hr (by decide) (fun t ht hW => ⟨⟨1, (), rfl, (by exact ⟨(rg_t (a := 1) (by decide) (by first | decide | omega) (by first | decide | omega)), (fun _ => (by assumption))⟩), by (try dsimp only); rw [ht]; exact ⟨hT, hF⟩⟩, hS.F ht⟩) hS.2.2 dX12_hasDitch_26
def w_s_sumLandW : List Cond := .code yX12_sumLand cX12_sumLand 4 (some .int) :: (HAppend.hAppend (α := List Cond) (β := List Cond) (γ := List Cond) [.fieldLink RX12 9 "SeaLandModel" "world" "[I"] bs)
set_option maxHeartbeats 4000000 in
set_option maxRecDepth 100000 in
theorem s_sumLandW (l : Launch) (dC : Nat → ClassId) (dI : Nat → Nat → Nat) (kA : Nat → ClassId) (adK adV : Nat → Nat) (G : gT) (H0 : Heap) (q : Nat → Nat) (wZ wN : Nat → Int) (wH wB wC : Int) (wL wK : Nat → Prop) (wU wV : Nat → Nat) (PI : Nat → Int → Prop) (im : Int) (PM PT : Nat → Int → Prop) (lS lB lE : Nat → Nat → Int → Prop) (lN : Nat → Int) (o0 : Nat)  (hT : gH (dC, dI) kA (SHm q (wP wZ wN wH wB wC wL wK wU wV) PI im PM PT lS lB lE lN) G H0) (hr_o0 : G o0 = some 0) (hgz : ∀ i, 0 ≤ wZ i) (hgn : ∀ i, 6500000 ≤ wN i ∧ wN i ≤ 20200000) (hgh : 0 ≤ wH ∧ wH ≤ 40000) (hgb : 0 ≤ wB ∧ wB ≤ 3850000) (hgc : 0 ≤ wC ∧ wC ≤ 30) (hgi : 0 ≤ im ∧ im ≤ 1) (hgu : ∀ a t, G a = some (t + 1) → a = q t) : Met l yX12_sumLand w_s_sumLandW ({ frames := 0, cells := 0, slots := 0, locals := 0 }) (va_Pc [.ref o0, .int 384] (fun U => U.heap = H0 ∧ va_K (dC, dI) vwCl (tyl kA) U ∧ EVS adK adV (gA G H0.size) U U.heap)) (va_Qi (fun (r : Int32) (u : Unit) => True) (fun (_ : Unit) (t : State) => gH (dC, dI) kA (SHm q (wP wZ wN wH wB wC wL wK wU wV) PI im PM PT lS lB lE lN) G t.heap ∧ gF (dC, dI) SKm G ([] : List (Nat × Nat)) H0 t.heap) (gA G H0.size)) 0 0 (gA G H0.size) := by
  refine Met.ofW (cc := cX12_sumLand) (maxL := 4) (ret := (some .int)) (by decide) rfl ?_
  intro p e s m args below meth c s₁ B hml hv
  obtain ⟨rfl, hH0, hK, hE⟩ := hv
  have hx := B.exec
  have hb := B.bytes
  have hr := B.returns
  have hts := atoms_spec (ws := w_s_sumLandW) B.pre
  have hown : s.vm.findClass RX12 = some m.cls := findClass_of_methodNamed B.named
  have hlocks := B.notSynchronized
  subst hH0
  generalize hAe : gA G s.heap.size = A at hE ⊢
  have hA : ∀ q : Nat, s.heap.size ≤ q → A q := fun q h => by rw [← hAe]; exact Or.inr h
  have hG := gA_of hAe
  have hS : va_S A s.heap s.heap [] := va_S.rf
  have hF : gF (dC, dI) SKm G ([] : List (Nat × Nat)) s.heap s.heap := gF.rf
  have hl := lv_entry ([.ref o0, .int 384]) (n := 4) (Nat.le_of_ble_eq_true rfl)
  rw [lg_entry_eq]
  generalize (lg_sl ([.ref o0, .int 384]) ++ List.replicate (4 - (lg_sl ([.ref o0, .int 384])).length) Slot.unset).toArray = ls at hl ⊢
  have hl : lv_has ls 4 [(0, .ref o0), (1, .int 384)] := hl
  refine lv_iconst (v := 0) hx hb dX12_sumLand_0 (by decide) ?_
  refine lv_istore_n (lv' := [(2, .int 0), (0, .ref o0), (1, .int 384)]) hx hb dX12_sumLand_1 rfl hl (by decide) rfl (fun ls hl => ?_)
  refine lv_iconst (v := 0) hx hb dX12_sumLand_2 (by decide) ?_
  refine lv_istore_n (lv' := [(3, .int 0), (2, .int 0), (0, .ref o0), (1, .int 384)]) hx hb dX12_sumLand_3 rfl hl (by decide) rfl (fun ls hl => ?_)
  have key11 : ∀ (n11 i1 : Nat), i1 + n11 = 96 → 0 ≤ i1 → ∀ (z2 : Int32), ∀ (H : Heap) (locs : List Loc), gH (dC, dI) kA (SHm q (wP wZ wN wH wB wC wL wK wU wV) PI im PM PT lS lB lE lN) G H → gF (dC, dI) SKm G ([] : List (Nat × Nat)) s.heap H → va_S A s.heap H locs → ∀ ls : Array Slot, lv_has ls 4 [(3, .int (nI i1)), (2, .int z2), (0, .ref o0), (1, .int 384)] → W p l e (headSpec w_s_sumLandW ({ frames := 0, cells := 0, slots := 0, locals := 0 })).room s m #[.ref o0, .int 384] below meth c H locs 0 0 (MQ below (va_Qi (fun (r : Int32) (u : Unit) => True) (fun (_ : Unit) (t : State) => gH (dC, dI) kA (SHm q (wP wZ wN wH wB wC wL wK wU wV) PI im PM PT lS lB lE lN) G t.heap ∧ gF (dC, dI) SKm G ([] : List (Nat × Nat)) s.heap t.heap) A) #[.ref o0, .int 384] s 0 0 A) (F0 m 4 ls []) := by
    intro n11
    induction n11 with
    | zero =>
      intro i1 hn11 hlo12 z2 H locs hT hF hS  ls hl
      obtain rfl : 96 = i1 := by omega
      refine lv_iload_n hx hb dX12_sumLand_4 rfl (lv_at hl 0 rfl) ?_
      refine lv_bipush (v := 96) hx hb dX12_sumLand_5 (by decide) ?_
      refine lv_icmp_ge (tgt := 27) hx hb dX12_sumLand_7 (by decide) (fun c13 => ?_) (fun c13 => (by exfalso; have q9 : ((96 : Nat) : Int) < 96 := ti_nle c13 (by decide) (nI_toInt (by omega)); omega))
      have t14 : 96 ≤ ((96 : Nat) : Int) := ti_le c13 (by decide) (nI_toInt (by omega))
      refine lv_iload_n hx hb dX12_sumLand_27 rfl (lv_at hl 1 rfl) ?_
      exact W.iret (v := z2) hx hb hr (fun t ht hW => ⟨⟨z2, (), rfl, (by exact trivial), by (try dsimp only); rw [ht]; exact ⟨hT, hF⟩⟩, hS.F ht⟩) hS.2.2 dX12_sumLand_28
    | succ n11 ih11 =>
      intro i1 hn11 hlo12 z2 H locs hT hF hS  ls hl
      have hlt14 : i1 < 96 := by omega
      refine lv_iload_n hx hb dX12_sumLand_4 rfl (lv_at hl 0 rfl) ?_
      refine lv_bipush (v := 96) hx hb dX12_sumLand_5 (by decide) ?_
      refine lv_icmp_ge (tgt := 27) hx hb dX12_sumLand_7 (by decide) (fun c15 => (by exfalso; have q9 : 96 ≤ ((i1 : Nat) : Int) := ti_le c15 (by decide) (nI_toInt (by omega)); omega)) (fun c15 => ?_)
      have t16 : ((i1 : Nat) : Int) < 96 := ti_nle c15 (by decide) (nI_toInt (by omega))
      refine lv_iload_n hx hb dX12_sumLand_10 rfl (lv_at hl 1 rfl) ?_
      refine lv_aload_n hx hb dX12_sumLand_11 rfl (lv_at hl 2 rfl) ?_
      refine tw_get hx hb hts bF_X12 hown hK hT hr_o0 shm_0 rfl 1 (by decide) (ht_at hts 0 rfl) (fun _ h9 => h9) dX12_sumLand_12 (fun v9 m17 h9 => ?_)
      obtain ⟨rfl, hg18⟩ := h9 _ rfl
      refine lv_iload_n hx hb dX12_sumLand_15 rfl (lv_at hl 3 rfl) ?_
      refine lv_iload_n hx hb dX12_sumLand_16 rfl (lv_at hl 0 rfl) ?_
      refine lv_iadd hx hb dX12_sumLand_17 ?_
      refine lv_topi (fun x19 ex19 => ?_)
      obtain rfl : nI (384 + i1) = x19 := (ex19.trans (nI_add 384 i1)).symm
      refine tw_iald (i := (nI (384 + i1))) hx hb hK hT hg18 shm_2 rfl (vp_in_nI (by omega) (by decide)) dX12_sumLand_18 (fun v9 m20 h9 => ?_)
      obtain ⟨x21, rfl, gx21, kx21⟩ := (gw_at h9 (w_wat (by have q9 := tn_of (show (nI (384 + i1)).toInt = ((384 + i1 : Nat) : Int) from (nI_toInt (by omega))) (show (0 : Int) ≤ ((384 + i1 : Nat) : Int) from by omega); omega)) hgn hgz)
      refine lv_iadd hx hb dX12_sumLand_19 ?_
      refine lv_topi (fun x22 ex22 => ?_)
      refine lv_istore_n (lv' := [(2, .int x22), (3, .int (nI i1)), (0, .ref o0), (1, .int 384)]) hx hb dX12_sumLand_20 rfl hl (by decide) rfl (fun ls hl => ?_)
      refine lv_iinc (v := nI (i1 + 1)) (lv' := [(3, .int (nI (i1 + 1))), (2, .int x22), (0, .ref o0), (1, .int 384)]) hx hb dX12_sumLand_21 hl (k := 1) rfl (nI_add i1 1) (by decide) rfl (fun ls hl => ?_)
      refine lv_goto (tgt := 4) hx hb dX12_sumLand_24 (by decide) ?_
      exact ih11 (i1 + 1) (by omega) (by omega) x22 _ _ hT hF hS ls (lv_sub hl [0, 1, 2, 3] rfl)
  exact key11 (96 - 0) 0 (by omega) (Nat.le_refl _) 0 _ _ hT hF hS ls (lv_sub hl [0, 1, 2, 3] rfl)
def w_s_sumLandS : List Cond := .code yX12_sumLand cX12_sumLand 4 (some .int) :: (HAppend.hAppend (α := List Cond) (β := List Cond) (γ := List Cond) [.fieldLink RX12 9 "SeaLandModel" "world" "[I"] bs)
set_option maxHeartbeats 4000000 in
set_option maxRecDepth 100000 in
theorem s_sumLandS (l : Launch) (dC : Nat → ClassId) (dI : Nat → Nat → Nat) (kA : Nat → ClassId) (adK adV : Nat → Nat) (G : gT) (H0 : Heap) (q : Nat → Nat) (wZ wN : Nat → Int) (wH wB wC : Int) (wL wK : Nat → Prop) (wU wV : Nat → Nat) (PI : Nat → Int → Prop) (im : Int) (PM PT : Nat → Int → Prop) (lS lB lE : Nat → Nat → Int → Prop) (lN : Nat → Int) (o0 : Nat)  (hT : gH (dC, dI) kA (SHm q (wP wZ wN wH wB wC wL wK wU wV) PI im PM PT lS lB lE lN) G H0) (hr_o0 : G o0 = some 0) (hgz : ∀ i, 0 ≤ wZ i) (hgn : ∀ i, 6500000 ≤ wN i ∧ wN i ≤ 20200000) (hgh : 0 ≤ wH ∧ wH ≤ 40000) (hgb : 0 ≤ wB ∧ wB ≤ 3850000) (hgc : 0 ≤ wC ∧ wC ≤ 30) (hgi : 0 ≤ im ∧ im ≤ 1) (hgu : ∀ a t, G a = some (t + 1) → a = q t) : Met l yX12_sumLand w_s_sumLandS ({ frames := 0, cells := 0, slots := 0, locals := 0 }) (va_Pc [.ref o0, .int 480] (fun U => U.heap = H0 ∧ va_K (dC, dI) vwCl (tyl kA) U ∧ EVS adK adV (gA G H0.size) U U.heap)) (va_Qi (fun (r : Int32) (u : Unit) => True) (fun (_ : Unit) (t : State) => gH (dC, dI) kA (SHm q (wP wZ wN wH wB wC wL wK wU wV) PI im PM PT lS lB lE lN) G t.heap ∧ gF (dC, dI) SKm G ([] : List (Nat × Nat)) H0 t.heap) (gA G H0.size)) 0 0 (gA G H0.size) := by
  refine Met.ofW (cc := cX12_sumLand) (maxL := 4) (ret := (some .int)) (by decide) rfl ?_
  intro p e s m args below meth c s₁ B hml hv
  obtain ⟨rfl, hH0, hK, hE⟩ := hv
  have hx := B.exec
  have hb := B.bytes
  have hr := B.returns
  have hts := atoms_spec (ws := w_s_sumLandS) B.pre
  have hown : s.vm.findClass RX12 = some m.cls := findClass_of_methodNamed B.named
  have hlocks := B.notSynchronized
  subst hH0
  generalize hAe : gA G s.heap.size = A at hE ⊢
  have hA : ∀ q : Nat, s.heap.size ≤ q → A q := fun q h => by rw [← hAe]; exact Or.inr h
  have hG := gA_of hAe
  have hS : va_S A s.heap s.heap [] := va_S.rf
  have hF : gF (dC, dI) SKm G ([] : List (Nat × Nat)) s.heap s.heap := gF.rf
  have hl := lv_entry ([.ref o0, .int 480]) (n := 4) (Nat.le_of_ble_eq_true rfl)
  rw [lg_entry_eq]
  generalize (lg_sl ([.ref o0, .int 480]) ++ List.replicate (4 - (lg_sl ([.ref o0, .int 480])).length) Slot.unset).toArray = ls at hl ⊢
  have hl : lv_has ls 4 [(0, .ref o0), (1, .int 480)] := hl
  refine lv_iconst (v := 0) hx hb dX12_sumLand_0 (by decide) ?_
  refine lv_istore_n (lv' := [(2, .int 0), (0, .ref o0), (1, .int 480)]) hx hb dX12_sumLand_1 rfl hl (by decide) rfl (fun ls hl => ?_)
  refine lv_iconst (v := 0) hx hb dX12_sumLand_2 (by decide) ?_
  refine lv_istore_n (lv' := [(3, .int 0), (2, .int 0), (0, .ref o0), (1, .int 480)]) hx hb dX12_sumLand_3 rfl hl (by decide) rfl (fun ls hl => ?_)
  have key11 : ∀ (n11 i1 : Nat), i1 + n11 = 96 → 0 ≤ i1 → ∀ (z2 : Int32), ∀ (H : Heap) (locs : List Loc), gH (dC, dI) kA (SHm q (wP wZ wN wH wB wC wL wK wU wV) PI im PM PT lS lB lE lN) G H → gF (dC, dI) SKm G ([] : List (Nat × Nat)) s.heap H → va_S A s.heap H locs → ∀ ls : Array Slot, lv_has ls 4 [(3, .int (nI i1)), (2, .int z2), (0, .ref o0), (1, .int 480)] → W p l e (headSpec w_s_sumLandS ({ frames := 0, cells := 0, slots := 0, locals := 0 })).room s m #[.ref o0, .int 480] below meth c H locs 0 0 (MQ below (va_Qi (fun (r : Int32) (u : Unit) => True) (fun (_ : Unit) (t : State) => gH (dC, dI) kA (SHm q (wP wZ wN wH wB wC wL wK wU wV) PI im PM PT lS lB lE lN) G t.heap ∧ gF (dC, dI) SKm G ([] : List (Nat × Nat)) s.heap t.heap) A) #[.ref o0, .int 480] s 0 0 A) (F0 m 4 ls []) := by
    intro n11
    induction n11 with
    | zero =>
      intro i1 hn11 hlo12 z2 H locs hT hF hS  ls hl
      obtain rfl : 96 = i1 := by omega
      refine lv_iload_n hx hb dX12_sumLand_4 rfl (lv_at hl 0 rfl) ?_
      refine lv_bipush (v := 96) hx hb dX12_sumLand_5 (by decide) ?_
      refine lv_icmp_ge (tgt := 27) hx hb dX12_sumLand_7 (by decide) (fun c13 => ?_) (fun c13 => (by exfalso; have q9 : ((96 : Nat) : Int) < 96 := ti_nle c13 (by decide) (nI_toInt (by omega)); omega))
      have t14 : 96 ≤ ((96 : Nat) : Int) := ti_le c13 (by decide) (nI_toInt (by omega))
      refine lv_iload_n hx hb dX12_sumLand_27 rfl (lv_at hl 1 rfl) ?_
      exact W.iret (v := z2) hx hb hr (fun t ht hW => ⟨⟨z2, (), rfl, (by exact trivial), by (try dsimp only); rw [ht]; exact ⟨hT, hF⟩⟩, hS.F ht⟩) hS.2.2 dX12_sumLand_28
    | succ n11 ih11 =>
      intro i1 hn11 hlo12 z2 H locs hT hF hS  ls hl
      have hlt14 : i1 < 96 := by omega
      refine lv_iload_n hx hb dX12_sumLand_4 rfl (lv_at hl 0 rfl) ?_
      refine lv_bipush (v := 96) hx hb dX12_sumLand_5 (by decide) ?_
      refine lv_icmp_ge (tgt := 27) hx hb dX12_sumLand_7 (by decide) (fun c15 => (by exfalso; have q9 : 96 ≤ ((i1 : Nat) : Int) := ti_le c15 (by decide) (nI_toInt (by omega)); omega)) (fun c15 => ?_)
      have t16 : ((i1 : Nat) : Int) < 96 := ti_nle c15 (by decide) (nI_toInt (by omega))
      refine lv_iload_n hx hb dX12_sumLand_10 rfl (lv_at hl 1 rfl) ?_
      refine lv_aload_n hx hb dX12_sumLand_11 rfl (lv_at hl 2 rfl) ?_
      refine tw_get hx hb hts bF_X12 hown hK hT hr_o0 shm_0 rfl 1 (by decide) (ht_at hts 0 rfl) (fun _ h9 => h9) dX12_sumLand_12 (fun v9 m17 h9 => ?_)
      obtain ⟨rfl, hg18⟩ := h9 _ rfl
      refine lv_iload_n hx hb dX12_sumLand_15 rfl (lv_at hl 3 rfl) ?_
      refine lv_iload_n hx hb dX12_sumLand_16 rfl (lv_at hl 0 rfl) ?_
      refine lv_iadd hx hb dX12_sumLand_17 ?_
      refine lv_topi (fun x19 ex19 => ?_)
      obtain rfl : nI (480 + i1) = x19 := (ex19.trans (nI_add 480 i1)).symm
      refine tw_iald (i := (nI (480 + i1))) hx hb hK hT hg18 shm_2 rfl (vp_in_nI (by omega) (by decide)) dX12_sumLand_18 (fun v9 m20 h9 => ?_)
      obtain ⟨x21, rfl, gx21, kx21⟩ := (gp_at h9 (w_fre (by have q9 := tn_of (show (nI (480 + i1)).toInt = ((480 + i1 : Nat) : Int) from (nI_toInt (by omega))) (show (0 : Int) ≤ ((480 + i1 : Nat) : Int) from by omega); omega)))
      refine lv_iadd hx hb dX12_sumLand_19 ?_
      refine lv_topi (fun x22 ex22 => ?_)
      refine lv_istore_n (lv' := [(2, .int x22), (3, .int (nI i1)), (0, .ref o0), (1, .int 480)]) hx hb dX12_sumLand_20 rfl hl (by decide) rfl (fun ls hl => ?_)
      refine lv_iinc (v := nI (i1 + 1)) (lv' := [(3, .int (nI (i1 + 1))), (2, .int x22), (0, .ref o0), (1, .int 480)]) hx hb dX12_sumLand_21 hl (k := 1) rfl (nI_add i1 1) (by decide) rfl (fun ls hl => ?_)
      refine lv_goto (tgt := 4) hx hb dX12_sumLand_24 (by decide) ?_
      exact ih11 (i1 + 1) (by omega) (by omega) x22 _ _ hT hF hS ls (lv_sub hl [0, 1, 2, 3] rfl)
  exact key11 (96 - 0) 0 (by omega) (Nat.le_refl _) 0 _ _ hT hF hS ls (lv_sub hl [0, 1, 2, 3] rfl)
def w_s_wind : List Cond := .code yX12_wind cX12_wind 7 (some .int) :: (HAppend.hAppend (α := List Cond) (β := List Cond) (γ := List Cond) [.code yX12_telling cX12_telling 6 (some .int), .fieldLink RX12 9 "SeaLandModel" "world" "[I", .methodLink RX12 243 yX12_telling, .instanceMethod yX12_telling, .selects RX12 yX12_telling yX12_telling, .initialized RX12, .methodLink RX12 211 Lib.Math.max.name, .static Lib.Math.max.name, .initialized "java/lang/Math", .code Lib.Math.max.name Lib.Math.max.code 2 (some .int)] bs)
set_option maxHeartbeats 4000000 in
set_option maxRecDepth 100000 in
theorem s_wind (l : Launch) (dC : Nat → ClassId) (dI : Nat → Nat → Nat) (kA : Nat → ClassId) (adK adV : Nat → Nat) (G : gT) (H0 : Heap) (q : Nat → Nat) (wZ wN : Nat → Int) (wH wB wC : Int) (wL wK : Nat → Prop) (wU wV : Nat → Nat) (PI : Nat → Int → Prop) (im : Int) (PM PT : Nat → Int → Prop) (lS lB lE : Nat → Nat → Int → Prop) (lN : Nat → Int) (o0 : Nat) (ho : Int32)  (hT : gH (dC, dI) kA (SHm q (wP wZ wN wH wB wC wL wK wU wV) PI im PM PT lS lB lE lN) G H0) (hr_o0 : G o0 = some 0) (hgz : ∀ i, 0 ≤ wZ i) (hgn : ∀ i, 6500000 ≤ wN i ∧ wN i ≤ 20200000) (hgh : 0 ≤ wH ∧ wH ≤ 40000) (hgb : 0 ≤ wB ∧ wB ≤ 3850000) (hgc : 0 ≤ wC ∧ wC ≤ 30) (hgi : 0 ≤ im ∧ im ≤ 1) (hgu : ∀ a t, G a = some (t + 1) → a = q t) : Met l yX12_wind w_s_wind ({ frames := 1, cells := 0, slots := 0, locals := 40 }) (va_Pc [.ref o0, .int ho] (fun U => U.heap = H0 ∧ va_K (dC, dI) vwCl (tyl kA) U ∧ EVS adK adV (gA G H0.size) U U.heap)) (va_Qi (fun (r : Int32) (u : Unit) => (0 ≤ r.toInt ∧ r.toInt ≤ 9)) (fun (_ : Unit) (t : State) => gH (dC, dI) kA (SHm q (wP wZ wN wH wB wC wL wK wU wV) PI im PM PT lS lB lE lN) G t.heap ∧ gF (dC, dI) SKm G ([] : List (Nat × Nat)) H0 t.heap) (gA G H0.size)) 0 0 (gA G H0.size) := by
  refine Met.ofW (cc := cX12_wind) (maxL := 7) (ret := (some .int)) (by decide) rfl ?_
  intro p e s m args below meth c s₁ B hml hv
  obtain ⟨rfl, hH0, hK, hE⟩ := hv
  have hx := B.exec
  have hb := B.bytes
  have hr := B.returns
  have hts := atoms_spec (ws := w_s_wind) B.pre
  have hown : s.vm.findClass RX12 = some m.cls := findClass_of_methodNamed B.named
  have hlocks := B.notSynchronized
  subst hH0
  generalize hAe : gA G s.heap.size = A at hE ⊢
  have hA : ∀ q : Nat, s.heap.size ≤ q → A q := fun q h => by rw [← hAe]; exact Or.inr h
  have hG := gA_of hAe
  have hS : va_S A s.heap s.heap [] := va_S.rf
  have hF : gF (dC, dI) SKm G ([] : List (Nat × Nat)) s.heap s.heap := gF.rf
  have hl := lv_entry ([.ref o0, .int ho]) (n := 7) (Nat.le_of_ble_eq_true rfl)
  rw [lg_entry_eq]
  generalize (lg_sl ([.ref o0, .int ho]) ++ List.replicate (7 - (lg_sl ([.ref o0, .int ho])).length) Slot.unset).toArray = ls at hl ⊢
  have hl : lv_has ls 7 [(0, .ref o0), (1, .int ho)] := hl
  refine lv_aload_n hx hb dX12_wind_0 rfl (lv_at hl 0 rfl) ?_
  refine lv_sipush (v := 1503) hx hb dX12_wind_1 (by decide) ?_
  refine lv_sipush (v := 1504) hx hb dX12_wind_4 (by decide) ?_
  refine lv_iload_n hx hb dX12_wind_7 rfl (lv_at hl 1 rfl) ?_
  have hFc := gA_free hG hA hS
  refine va_calli (va_runV (As := [.int 1503, .int 1504, .int ho]) (rest := []) ⟨hx, hb, hml, hown, hts⟩ (s_telling2 l dC dI kA adK adV G s.heap q wZ wN wH wB wC wL wK wU wV PI im PM PT lS lB lE lN o0 ho hT hr_o0 hgz hgn hgh hgb hgc hgi hgu) (cwV 3 hts (goodIn_app (goodIn_r _ [3, 4, 5, 6] rfl (by decide +kernel)) (goodIn_ca (goodIn_r _ [1, 2] rfl (by decide +kernel)) (bs_in _ _))) rfl rfl rfl (by decide +kernel) ⟨(Nat.le_of_ble_eq_true rfl), (Nat.le_of_ble_eq_true rfl)⟩) ⟨fun a U g mk q => by obtain ⟨q0, q1, qK, qE⟩ := q; exact ⟨q0, q1, va_K.moved (u := U) (U := U.calling g mk a) (Vm.Alike.refl U.vm) qK, EVS.blind g mk a qE⟩, gH_rc hK hT hr_o0 shm_0 rfl, fun U hU hW => ⟨rfl, hU, va_K.moved hW.alike hK, hE.call hS hFc hU hW⟩⟩ rfl rfl hl.1 rfl (lv_room (Nat.le_of_ble_eq_true rfl)) dX12_wind_8 ⟨(Nat.le_of_ble_eq_true rfl), (Nat.le_of_ble_eq_true rfl)⟩) hS (fun q _ h => hFc q h) hFc (fun r1 u t H locs ht hvm hw2 hB _ _ hS => ?_)
  obtain ⟨hT, hF1⟩ := hB
  rw [ht] at hT hF1
  have hF := hF.more hF1 (by decide)
  try dsimp only at hw2
  obtain ⟨h3, hf4⟩ := hw2
  refine lv_istore_n (lv' := [(2, .int r1), (0, .ref o0), (1, .int ho)]) hx hb dX12_wind_11 rfl hl (by decide) rfl (fun ls hl => ?_)
  refine lv_iload_n hx hb dX12_wind_12 rfl (lv_at hl 0 rfl) ?_
  refine lv_if_ge (tgt := 18) hx hb dX12_wind_13 (by decide) (fun c5 => ?_) (fun c5 => ?_)
  · have t6 : 0 ≤ r1.toInt := ti_le c5 (by decide) rfl
    refine lv_aload_n hx hb dX12_wind_18 rfl (lv_at hl 1 rfl) ?_
    refine tw_get hx hb hts bF_X12 hown hK hT hr_o0 shm_0 rfl 1 (by decide) (ht_at hts 1 rfl) (fun _ h9 => h9) dX12_wind_19 (fun v9 m7 h9 => ?_)
    obtain ⟨rfl, hg8⟩ := h9 _ rfl
    refine lv_iload_n hx hb dX12_wind_22 rfl (lv_at hl 0 rfl) ?_
    refine lv_iconst (v := 1) hx hb dX12_wind_23 (by decide) ?_
    refine lv_iadd hx hb dX12_wind_24 ?_
    refine lv_topi (fun x9 ex9 => ?_)
    have t10 : x9.toInt = r1.toInt + 1 := ti_add ex9 rfl (by decide) (by omega) (by omega)
    refine tw_iald (i := x9) hx hb hK hT hg8 shm_2 rfl (vin_t (a := x9.toInt) rfl (by omega) (by omega)) dX12_wind_25 (fun v9 m11 h9 => ?_)
    obtain ⟨x12, rfl, gx12, kx12⟩ := (gp_at h9 (w_wid (by have q9 := tn_of (show x9.toInt = x9.toInt from rfl) (show (0 : Int) ≤ x9.toInt from by omega); omega)))
    refine lv_if_lt (tgt := 38) hx hb dX12_wind_26 (by decide) (fun c13 => ?_) (fun c13 => ?_)
    · have t14 : x12.toInt < 0 := ti_lt c13 rfl (by decide)
      refine lv_aload_n hx hb dX12_wind_38 rfl (lv_at hl 1 rfl) ?_
      refine tw_get hx hb hts bF_X12 hown hK hT hr_o0 shm_0 rfl 1 (by decide) (ht_at hts 1 rfl) (fun _ h9 => h9) dX12_wind_39 (fun v9 m15 h9 => ?_)
      obtain ⟨rfl, hg16⟩ := h9 _ rfl
      refine lv_iload_n hx hb dX12_wind_42 rfl (lv_at hl 0 rfl) ?_
      refine tw_iald (i := r1) hx hb hK hT hg8 shm_2 rfl (vin_t (a := r1.toInt) rfl (by omega) (by omega)) dX12_wind_43 (fun v9 m17 h9 => ?_)
      obtain ⟨x18, rfl, gx18, kx18⟩ := (gp_any h9)
      refine lv_istore_n (lv' := [(3, .int x18), (2, .int r1), (0, .ref o0), (1, .int ho)]) hx hb dX12_wind_44 rfl hl (by decide) rfl (fun ls hl => ?_)
      refine lv_iconst (v := (-1)) hx hb dX12_wind_45 (by decide) ?_
      refine lv_istore (lv' := [(4, .int (-1)), (3, .int x18), (2, .int r1), (0, .ref o0), (1, .int ho)]) hx hb dX12_wind_46 hl (by decide) rfl (fun ls hl => ?_)
      refine lv_iconst (v := (-1)) hx hb dX12_wind_48 (by decide) ?_
      refine lv_istore (lv' := [(5, .int (-1)), (4, .int (-1)), (3, .int x18), (2, .int r1), (0, .ref o0), (1, .int ho)]) hx hb dX12_wind_49 hl (by decide) rfl (fun ls hl => ?_)
      refine lv_sipush (v := 1504) hx hb dX12_wind_51 (by decide) ?_
      refine lv_istore (lv' := [(6, .int 1504), (5, .int (-1)), (4, .int (-1)), (3, .int x18), (2, .int r1), (0, .ref o0), (1, .int ho)]) hx hb dX12_wind_54 hl (by decide) rfl (fun ls hl => ?_)
      have jn380 : ∀ (z367 : Int32), ∀ (z369 : Int32), ∀ (z371 : Int32), ∀ (z375 : Int32), ((1504 ≤ z367.toInt ∧ z367.toInt ≤ 1624) ∧ (-1 ≤ z369.toInt ∧ z369.toInt ≤ 1622) ∧ (-1 ≤ z371.toInt ∧ z371.toInt ≤ 1622) ∧ (0 ≤ z375.toInt ∧ z375.toInt ≤ 60) ∧ ((z371.toInt = -1 ∨ ∃ x ix : Int32, ix.toInt = z371.toInt + 1 ∧ el s.heap (q 1) ix.toNatClampNeg = some (.int x) ∧ 0 ≤ x.toInt ∧ x.toInt ≤ 9)) ∧ ((z369.toInt = -1 ∨ ∃ x ix : Int32, ix.toInt = z369.toInt + 1 ∧ el s.heap (q 1) ix.toNatClampNeg = some (.int x) ∧ 0 ≤ x.toInt ∧ x.toInt ≤ 9))) → ∀ (H : Heap) (locs : List Loc), gH (dC, dI) kA (SHm q (wP wZ wN wH wB wC wL wK wU wV) PI im PM PT lS lB lE lN) G H → gF (dC, dI) SKm G ([] : List (Nat × Nat)) s.heap H → va_S A s.heap H locs → el H (q 1) x9.toNatClampNeg = some (.int x12) → el H (q 1) r1.toNatClampNeg = some (.int x18) → el H (q 1) (1503 : Int32).toNatClampNeg = some (.int z375) → ∀ ls : Array Slot, lv_has ls 7 [(6, .int z367), (5, .int z369), (4, .int z371), (3, .int x18), (2, .int r1), (0, .ref o0), (1, .int ho)] → W p l e (headSpec w_s_wind ({ frames := 1, cells := 0, slots := 0, locals := 40 })).room s m #[.ref o0, .int ho] below meth c H locs 0 0 (MQ below (va_Qi (fun (r : Int32) (u : Unit) => (0 ≤ r.toInt ∧ r.toInt ≤ 9)) (fun (_ : Unit) (t : State) => gH (dC, dI) kA (SHm q (wP wZ wN wH wB wC wL wK wU wV) PI im PM PT lS lB lE lN) G t.heap ∧ gF (dC, dI) SKm G ([] : List (Nat × Nat)) s.heap t.heap) A) #[.ref o0, .int ho] s 0 0 A) (F0 m 192 ls []) := by
        intro z367 z369 z371 z375 ⟨h368, h370, h372, h376, hj378, hj379⟩ H locs hT hF hS m373 m374 m377 ls hl
        refine lv_iload hx hb dX12_wind_192 (lv_at hl 2 rfl) ?_
        refine lv_if_ge (tgt := 201) hx hb dX12_wind_194 (by decide) (fun c381 => ?_) (fun c381 => ?_)
        · have t382 : 0 ≤ z371.toInt := ti_le c381 (by decide) rfl
          refine lv_aload_n hx hb dX12_wind_201 rfl (lv_at hl 5 rfl) ?_
          refine tw_get hx hb hts bF_X12 hown hK hT hr_o0 shm_0 rfl 1 (by decide) (ht_at hts 1 rfl) (fun _ h9 => h9) dX12_wind_202 (fun v9 m383 h9 => ?_)
          obtain ⟨rfl, hg384⟩ := h9 _ rfl
          refine lv_iload hx hb dX12_wind_205 (lv_at hl 2 rfl) ?_
          refine lv_iconst (v := 1) hx hb dX12_wind_207 (by decide) ?_
          refine lv_iadd hx hb dX12_wind_208 ?_
          refine lv_topi (fun x385 ex385 => ?_)
          have t386 : x385.toInt = z371.toInt + 1 := ti_add ex385 rfl (by decide) (by omega) (by omega)
          refine tw_iald (i := x385) hx hb hK hT hg8 shm_2 rfl (vin_t (a := x385.toInt) rfl (by omega) (by omega)) dX12_wind_209 (fun v9 m387 h9 => ?_)
          obtain ⟨x388, rfl, gx388, kx388⟩ := (gp_any h9)
          have t389 : 0 ≤ x388.toInt ∧ x388.toInt ≤ 9 := by
            rcases hj378 with h8 | ⟨x8, ix8, h8, h7, h6, h5⟩
            · exfalso; omega
            · have h4 := (el_kept (hF.arr hg8 skm_2 (by decide))).symm.trans m387; rw [tn_same (i := x385) (j := ix8) rfl h8 (by omega)] at h4; have h3 := el_val h4 h7; subst h3; exact ⟨h6, h5⟩
          refine lv_iload hx hb dX12_wind_210 (lv_at hl 1 rfl) ?_
          refine lv_if_ge (tgt := 219) hx hb dX12_wind_212 (by decide) (fun c390 => ?_) (fun c390 => ?_)
          · have t391 : 0 ≤ z369.toInt := ti_le c390 (by decide) rfl
            refine lv_aload_n hx hb dX12_wind_219 rfl (lv_at hl 5 rfl) ?_
            refine tw_get hx hb hts bF_X12 hown hK hT hr_o0 shm_0 rfl 1 (by decide) (ht_at hts 1 rfl) (fun _ h9 => h9) dX12_wind_220 (fun v9 m392 h9 => ?_)
            obtain ⟨rfl, hg393⟩ := h9 _ rfl
            refine lv_iload hx hb dX12_wind_223 (lv_at hl 1 rfl) ?_
            refine lv_iconst (v := 1) hx hb dX12_wind_225 (by decide) ?_
            refine lv_iadd hx hb dX12_wind_226 ?_
            refine lv_topi (fun x394 ex394 => ?_)
            have t395 : x394.toInt = z369.toInt + 1 := ti_add ex394 rfl (by decide) (by omega) (by omega)
            refine tw_iald (i := x394) hx hb hK hT hg8 shm_2 rfl (vin_t (a := x394.toInt) rfl (by omega) (by omega)) dX12_wind_227 (fun v9 m396 h9 => ?_)
            obtain ⟨x397, rfl, gx397, kx397⟩ := (gp_any h9)
            have t398 : 0 ≤ x397.toInt ∧ x397.toInt ≤ 9 := by
              rcases hj379 with h8 | ⟨x8, ix8, h8, h7, h6, h5⟩
              · exfalso; omega
              · have h4 := (el_kept (hF.arr hg8 skm_2 (by decide))).symm.trans m396; rw [tn_same (i := x394) (j := ix8) rfl h8 (by omega)] at h4; have h3 := el_val h4 h7; subst h3; exact ⟨h6, h5⟩
            refine va_mmax hx hb (hml.trans hl.1.symm) hown (ht_at hts 6 rfl) (ht_at hts 7 rfl) (ht_at hts 8 rfl) (ht_at hts 9 rfl) (Nat.le_of_ble_eq_true rfl) (Nat.le_of_ble_eq_true rfl) (Nat.le_of_ble_eq_true rfl) (Nat.le_of_ble_eq_true rfl) dX12_wind_228 ?_
            refine lv_topi (fun x399 ex399 => ?_)
            have t400 : x388.toInt ≤ x399.toInt ∧ x397.toInt ≤ x399.toInt ∧ (x399.toInt = x388.toInt ∨ x399.toInt = x397.toInt) := mx_f ex399 rfl rfl
            exact W.iret (v := x399) hx hb hr (fun t ht hW => ⟨⟨x399, (), rfl, (by exact (by have q8 := ti_all x399; omega)), by (try dsimp only); rw [ht]; exact ⟨hT, hF⟩⟩, hS.F ht⟩) hS.2.2 dX12_wind_231
          · have t401 : z369.toInt < 0 := ti_nle c390 (by decide) rfl
            refine lv_iconst (v := 0) hx hb dX12_wind_215 (by decide) ?_
            refine lv_goto (tgt := 228) hx hb dX12_wind_216 (by decide) ?_
            refine va_mmax hx hb (hml.trans hl.1.symm) hown (ht_at hts 6 rfl) (ht_at hts 7 rfl) (ht_at hts 8 rfl) (ht_at hts 9 rfl) (Nat.le_of_ble_eq_true rfl) (Nat.le_of_ble_eq_true rfl) (Nat.le_of_ble_eq_true rfl) (Nat.le_of_ble_eq_true rfl) dX12_wind_228 ?_
            refine lv_topi (fun x402 ex402 => ?_)
            have t403 : x388.toInt ≤ x402.toInt ∧ 0 ≤ x402.toInt ∧ (x402.toInt = x388.toInt ∨ x402.toInt = 0) := mx_f ex402 rfl (by decide)
            exact W.iret (v := x402) hx hb hr (fun t ht hW => ⟨⟨x402, (), rfl, (by exact (by have q8 := ti_all x402; omega)), by (try dsimp only); rw [ht]; exact ⟨hT, hF⟩⟩, hS.F ht⟩) hS.2.2 dX12_wind_231
        · have t404 : z371.toInt < 0 := ti_nle c381 (by decide) rfl
          refine lv_iconst (v := 0) hx hb dX12_wind_197 (by decide) ?_
          refine lv_goto (tgt := 210) hx hb dX12_wind_198 (by decide) ?_
          refine lv_iload hx hb dX12_wind_210 (lv_at hl 1 rfl) ?_
          refine lv_if_ge (tgt := 219) hx hb dX12_wind_212 (by decide) (fun c405 => ?_) (fun c405 => ?_)
          · have t406 : 0 ≤ z369.toInt := ti_le c405 (by decide) rfl
            refine lv_aload_n hx hb dX12_wind_219 rfl (lv_at hl 5 rfl) ?_
            refine tw_get hx hb hts bF_X12 hown hK hT hr_o0 shm_0 rfl 1 (by decide) (ht_at hts 1 rfl) (fun _ h9 => h9) dX12_wind_220 (fun v9 m407 h9 => ?_)
            obtain ⟨rfl, hg408⟩ := h9 _ rfl
            refine lv_iload hx hb dX12_wind_223 (lv_at hl 1 rfl) ?_
            refine lv_iconst (v := 1) hx hb dX12_wind_225 (by decide) ?_
            refine lv_iadd hx hb dX12_wind_226 ?_
            refine lv_topi (fun x409 ex409 => ?_)
            have t410 : x409.toInt = z369.toInt + 1 := ti_add ex409 rfl (by decide) (by omega) (by omega)
            refine tw_iald (i := x409) hx hb hK hT hg8 shm_2 rfl (vin_t (a := x409.toInt) rfl (by omega) (by omega)) dX12_wind_227 (fun v9 m411 h9 => ?_)
            obtain ⟨x412, rfl, gx412, kx412⟩ := (gp_any h9)
            have t413 : 0 ≤ x412.toInt ∧ x412.toInt ≤ 9 := by
              rcases hj379 with h8 | ⟨x8, ix8, h8, h7, h6, h5⟩
              · exfalso; omega
              · have h4 := (el_kept (hF.arr hg8 skm_2 (by decide))).symm.trans m411; rw [tn_same (i := x409) (j := ix8) rfl h8 (by omega)] at h4; have h3 := el_val h4 h7; subst h3; exact ⟨h6, h5⟩
            refine va_mmax hx hb (hml.trans hl.1.symm) hown (ht_at hts 6 rfl) (ht_at hts 7 rfl) (ht_at hts 8 rfl) (ht_at hts 9 rfl) (Nat.le_of_ble_eq_true rfl) (Nat.le_of_ble_eq_true rfl) (Nat.le_of_ble_eq_true rfl) (Nat.le_of_ble_eq_true rfl) dX12_wind_228 ?_
            refine lv_topi (fun x414 ex414 => ?_)
            have t415 : 0 ≤ x414.toInt ∧ x412.toInt ≤ x414.toInt ∧ (x414.toInt = 0 ∨ x414.toInt = x412.toInt) := mx_f ex414 (by decide) rfl
            exact W.iret (v := x414) hx hb hr (fun t ht hW => ⟨⟨x414, (), rfl, (by exact (by have q8 := ti_all x414; omega)), by (try dsimp only); rw [ht]; exact ⟨hT, hF⟩⟩, hS.F ht⟩) hS.2.2 dX12_wind_231
          · have t416 : z369.toInt < 0 := ti_nle c405 (by decide) rfl
            refine lv_iconst (v := 0) hx hb dX12_wind_215 (by decide) ?_
            refine lv_goto (tgt := 228) hx hb dX12_wind_216 (by decide) ?_
            refine va_mmax hx hb (hml.trans hl.1.symm) hown (ht_at hts 6 rfl) (ht_at hts 7 rfl) (ht_at hts 8 rfl) (ht_at hts 9 rfl) (Nat.le_of_ble_eq_true rfl) (Nat.le_of_ble_eq_true rfl) (Nat.le_of_ble_eq_true rfl) (Nat.le_of_ble_eq_true rfl) dX12_wind_228 ?_
            refine lv_topi (fun x417 ex417 => ?_)
            obtain rfl : x417 = 0 := ex417.trans (by decide)
            exact W.iret (v := 0) hx hb hr (fun t ht hW => ⟨⟨0, (), rfl, (by exact (rg_t (a := 0) (by decide) (by first | decide | omega) (by first | decide | omega))), by (try dsimp only); rw [ht]; exact ⟨hT, hF⟩⟩, hS.F ht⟩) hS.2.2 dX12_wind_231
      have key418 : ∀ (n418 i19 : Nat), i19 + n418 = 60 → ∀ (z20 : Int32), ∀ (z22 : Int32), ((-1 ≤ z20.toInt ∧ z20.toInt ≤ 1622) ∧ (-1 ≤ z22.toInt ∧ z22.toInt ≤ 1622) ∧ ((z22.toInt = -1 ∨ ∃ x ix : Int32, ix.toInt = z22.toInt + 1 ∧ el s.heap (q 1) ix.toNatClampNeg = some (.int x) ∧ 0 ≤ x.toInt ∧ x.toInt ≤ 9)) ∧ ((z20.toInt = -1 ∨ ∃ x ix : Int32, ix.toInt = z20.toInt + 1 ∧ el s.heap (q 1) ix.toNatClampNeg = some (.int x) ∧ 0 ≤ x.toInt ∧ x.toInt ≤ 9))) → ∀ (H : Heap) (locs : List Loc), gH (dC, dI) kA (SHm q (wP wZ wN wH wB wC wL wK wU wV) PI im PM PT lS lB lE lN) G H → gF (dC, dI) SKm G ([] : List (Nat × Nat)) s.heap H → va_S A s.heap H locs → el H (q 1) x9.toNatClampNeg = some (.int x12) → el H (q 1) r1.toNatClampNeg = some (.int x18) → ∀ ls : Array Slot, lv_has ls 7 [(6, .int (nI (1504 + 2 * i19))), (5, .int z20), (4, .int z22), (3, .int x18), (2, .int r1), (0, .ref o0), (1, .int ho)] → W p l e (headSpec w_s_wind ({ frames := 1, cells := 0, slots := 0, locals := 40 })).room s m #[.ref o0, .int ho] below meth c H locs 0 0 (MQ below (va_Qi (fun (r : Int32) (u : Unit) => (0 ≤ r.toInt ∧ r.toInt ≤ 9)) (fun (_ : Unit) (t : State) => gH (dC, dI) kA (SHm q (wP wZ wN wH wB wC wL wK wU wV) PI im PM PT lS lB lE lN) G t.heap ∧ gF (dC, dI) SKm G ([] : List (Nat × Nat)) s.heap t.heap) A) #[.ref o0, .int ho] s 0 0 A) (F0 m 56 ls []) := by
        intro n418
        induction n418 with
        | zero =>
          intro i19 hn418 z20 z22 ⟨h21, h23, hj26, hj27⟩ H locs hT hF hS m24 m25 ls hl
          obtain rfl : 60 = i19 := by omega
          refine lv_iload hx hb dX12_wind_56 (lv_at hl 0 rfl) ?_
          refine lv_sipush (v := 1504) hx hb dX12_wind_58 (by decide) ?_
          refine lv_iconst (v := 2) hx hb dX12_wind_61 (by decide) ?_
          refine lv_aload_n hx hb dX12_wind_62 rfl (lv_at hl 5 rfl) ?_
          refine tw_get hx hb hts bF_X12 hown hK hT hr_o0 shm_0 rfl 1 (by decide) (ht_at hts 1 rfl) (fun _ h9 => h9) dX12_wind_63 (fun v9 m420 h9 => ?_)
          obtain ⟨rfl, hg421⟩ := h9 _ rfl
          refine lv_sipush (v := 1503) hx hb dX12_wind_66 (by decide) ?_
          refine tw_iald (i := 1503) hx hb hK hT hg8 shm_2 rfl (by unfold vp_in; decide) dX12_wind_69 (fun v9 m422 h9 => ?_)
          obtain ⟨x423, rfl, gx423, kx423⟩ := (gp_at h9 (w_wic (by have q9 := tn_of (show (1503 : Int32).toInt = 1503 from (by decide)) (show (0 : Int) ≤ 1503 from by omega); omega)))
          refine lv_imul hx hb dX12_wind_70 ?_
          refine lv_topi (fun x424 ex424 => ?_)
          have t425 : x424.toInt = 2 * x423.toInt := ti_mul ex424 (by decide) rfl (by omega) (by omega)
          refine lv_iadd hx hb dX12_wind_71 ?_
          refine lv_topi (fun x426 ex426 => ?_)
          have t427 : x426.toInt = 1504 + x424.toInt := ti_add ex426 (by decide) rfl (by omega) (by omega)
          refine lv_icmp_ge (tgt := 192) hx hb dX12_wind_72 (by decide) (fun c428 => ?_) (fun c428 => (by exfalso; have q9 : ((1504 + 2 * 60 : Nat) : Int) < x426.toInt := ti_nle c428 rfl (nI_toInt (by omega)); omega))
          have t429 : x426.toInt ≤ ((1504 + 2 * 60 : Nat) : Int) := ti_le c428 rfl (nI_toInt (by omega))
          exact jn380 (nI (1504 + 2 * 60)) z20 z22 x423 ⟨(rg_t (a := ((1504 + 2 * 60 : Nat) : Int)) (nI_toInt (by omega)) (by omega) (by omega)), (by have q9 := (show z20.toInt = z20.toInt from rfl); (try have q8 := ti_all z20); omega), (by have q9 := (show z22.toInt = z22.toInt from rfl); (try have q8 := ti_all z22); omega), (by have q8 := ti_all x423; omega), hj26, hj27⟩ _ _ hT hF hS m24 m25 m422 ls (lv_sub hl [0, 1, 2, 3, 4, 5, 6] rfl)
        | succ n418 ih418 =>
          intro i19 hn418 z20 z22 ⟨h21, h23, hj26, hj27⟩ H locs hT hF hS m24 m25 ls hl
          have hlt429 : i19 < 60 := by omega
          refine lv_iload hx hb dX12_wind_56 (lv_at hl 0 rfl) ?_
          refine lv_sipush (v := 1504) hx hb dX12_wind_58 (by decide) ?_
          refine lv_iconst (v := 2) hx hb dX12_wind_61 (by decide) ?_
          refine lv_aload_n hx hb dX12_wind_62 rfl (lv_at hl 5 rfl) ?_
          refine tw_get hx hb hts bF_X12 hown hK hT hr_o0 shm_0 rfl 1 (by decide) (ht_at hts 1 rfl) (fun _ h9 => h9) dX12_wind_63 (fun v9 m430 h9 => ?_)
          obtain ⟨rfl, hg431⟩ := h9 _ rfl
          refine lv_sipush (v := 1503) hx hb dX12_wind_66 (by decide) ?_
          refine tw_iald (i := 1503) hx hb hK hT hg8 shm_2 rfl (by unfold vp_in; decide) dX12_wind_69 (fun v9 m432 h9 => ?_)
          obtain ⟨x433, rfl, gx433, kx433⟩ := (gp_at h9 (w_wic (by have q9 := tn_of (show (1503 : Int32).toInt = 1503 from (by decide)) (show (0 : Int) ≤ 1503 from by omega); omega)))
          refine lv_imul hx hb dX12_wind_70 ?_
          refine lv_topi (fun x434 ex434 => ?_)
          have t435 : x434.toInt = 2 * x433.toInt := ti_mul ex434 (by decide) rfl (by omega) (by omega)
          refine lv_iadd hx hb dX12_wind_71 ?_
          refine lv_topi (fun x436 ex436 => ?_)
          have t437 : x436.toInt = 1504 + x434.toInt := ti_add ex436 (by decide) rfl (by omega) (by omega)
          refine lv_icmp_ge (tgt := 192) hx hb dX12_wind_72 (by decide) (fun c438 => ?_) (fun c438 => ?_)
          · have t439 : x436.toInt ≤ ((1504 + 2 * i19 : Nat) : Int) := ti_le c438 rfl (nI_toInt (by omega))
            exact jn380 (nI (1504 + 2 * i19)) z20 z22 x433 ⟨(rg_t (a := ((1504 + 2 * i19 : Nat) : Int)) (nI_toInt (by omega)) (by omega) (by omega)), (by have q9 := (show z20.toInt = z20.toInt from rfl); (try have q8 := ti_all z20); omega), (by have q9 := (show z22.toInt = z22.toInt from rfl); (try have q8 := ti_all z22); omega), (by have q8 := ti_all x433; omega), hj26, hj27⟩ _ _ hT hF hS m24 m25 m432 ls (lv_sub hl [0, 1, 2, 3, 4, 5, 6] rfl)
          · have t440 : ((1504 + 2 * i19 : Nat) : Int) < x436.toInt := ti_nle c438 rfl (nI_toInt (by omega))
            refine lv_aload_n hx hb dX12_wind_75 rfl (lv_at hl 5 rfl) ?_
            refine tw_get hx hb hts bF_X12 hown hK hT hr_o0 shm_0 rfl 1 (by decide) (ht_at hts 1 rfl) (fun _ h9 => h9) dX12_wind_76 (fun v9 m441 h9 => ?_)
            obtain ⟨rfl, hg442⟩ := h9 _ rfl
            refine lv_iload hx hb dX12_wind_79 (lv_at hl 0 rfl) ?_
            refine lv_iconst (v := 1) hx hb dX12_wind_81 (by decide) ?_
            refine lv_iadd hx hb dX12_wind_82 ?_
            refine lv_topi (fun x443 ex443 => ?_)
            obtain rfl : nI (1504 + 2 * i19 + 1) = x443 := (ex443.trans (nI_add (1504 + 2 * i19) 1)).symm
            refine tw_iald (i := (nI (1504 + 2 * i19 + 1))) hx hb hK hT hg8 shm_2 rfl (vp_in_nI (by omega) (by decide)) dX12_wind_83 (fun v9 m444 h9 => ?_)
            obtain ⟨x445, rfl, gx445, kx445⟩ := (gp_at h9 (w_wid (by have q9 := tn_of (show (nI (1504 + 2 * i19 + 1)).toInt = ((1504 + 2 * i19 + 1 : Nat) : Int) from (nI_toInt (by omega))) (show (0 : Int) ≤ ((1504 + 2 * i19 + 1 : Nat) : Int) from by omega); omega)))
            refine lv_if_lt (tgt := 186) hx hb dX12_wind_84 (by decide) (fun c446 => ?_) (fun c446 => ?_)
            · have t447 : x445.toInt < 0 := ti_lt c446 rfl (by decide)
              refine lv_iinc (v := nI (1504 + 2 * i19 + 2)) (lv' := [(6, .int (nI (1504 + 2 * i19 + 2))), (5, .int z20), (4, .int z22), (3, .int x18), (2, .int r1), (0, .ref o0), (1, .int ho)]) hx hb dX12_wind_186 hl (k := 0) rfl (nI_add (1504 + 2 * i19) 2) (by decide) rfl (fun ls hl => ?_)
              refine lv_goto (tgt := 56) hx hb dX12_wind_189 (by decide) ?_
              have hl : lv_has ls 7 [(6, .int (nI (1504 + 2 * (i19 + 1)))), (5, .int z20), (4, .int z22), (3, .int x18), (2, .int r1), (0, .ref o0), (1, .int ho)] := by rw [show nI (1504 + 2 * (i19 + 1)) = nI (1504 + 2 * i19 + 2) from congrArg nI (by omega)]; exact hl
              exact ih418 (i19 + 1) (by omega) z20 z22 ⟨(by have q9 := (show z20.toInt = z20.toInt from rfl); (try have q8 := ti_all z20); omega), (by have q9 := (show z22.toInt = z22.toInt from rfl); (try have q8 := ti_all z22); omega), hj26, hj27⟩ _ _ hT hF hS m24 m25 ls (lv_sub hl [0, 1, 2, 3, 4, 5, 6] rfl)
            · have t448 : 0 ≤ x445.toInt := ti_nlt c446 rfl (by decide)
              refine lv_aload_n hx hb dX12_wind_87 rfl (lv_at hl 5 rfl) ?_
              refine lv_sipush (v := 1503) hx hb dX12_wind_88 (by decide) ?_
              refine lv_sipush (v := 1504) hx hb dX12_wind_91 (by decide) ?_
              refine lv_aload_n hx hb dX12_wind_94 rfl (lv_at hl 5 rfl) ?_
              refine tw_get hx hb hts bF_X12 hown hK hT hr_o0 shm_0 rfl 1 (by decide) (ht_at hts 1 rfl) (fun _ h9 => h9) dX12_wind_95 (fun v9 m449 h9 => ?_)
              obtain ⟨rfl, hg450⟩ := h9 _ rfl
              refine lv_iload hx hb dX12_wind_98 (lv_at hl 0 rfl) ?_
              refine tw_iald (i := (nI (1504 + 2 * i19))) hx hb hK hT hg8 shm_2 rfl (vp_in_nI (by omega) (by decide)) dX12_wind_100 (fun v9 m451 h9 => ?_)
              obtain ⟨x452, rfl, gx452, kx452⟩ := (gp_at h9 (w_fre (by have q9 := tn_of (show (nI (1504 + 2 * i19)).toInt = ((1504 + 2 * i19 : Nat) : Int) from (nI_toInt (by omega))) (show (0 : Int) ≤ ((1504 + 2 * i19 : Nat) : Int) from by omega); omega)))
              have hFc := gA_free hG hA hS
              refine va_calli (va_runV (As := [.int 1503, .int 1504, .int x452]) (rest := []) ⟨hx, hb, hml, hown, hts⟩ (s_telling2 l dC dI kA adK adV G H q wZ wN wH wB wC wL wK wU wV PI im PM PT lS lB lE lN o0 x452 hT hr_o0 hgz hgn hgh hgb hgc hgi hgu) (cwV 3 hts (goodIn_app (goodIn_r _ [3, 4, 5, 6] rfl (by decide +kernel)) (goodIn_ca (goodIn_r _ [1, 2] rfl (by decide +kernel)) (bs_in _ _))) rfl rfl rfl (by decide +kernel) ⟨(Nat.le_of_ble_eq_true rfl), (Nat.le_of_ble_eq_true rfl)⟩) ⟨fun a U g mk q => by obtain ⟨q0, q1, qK, qE⟩ := q; exact ⟨q0, q1, va_K.moved (u := U) (U := U.calling g mk a) (Vm.Alike.refl U.vm) qK, EVS.blind g mk a qE⟩, gH_rc hK hT hr_o0 shm_0 rfl, fun U hU hW => ⟨rfl, hU, va_K.moved hW.alike hK, hE.call hS hFc hU hW⟩⟩ rfl rfl hl.1 rfl (lv_room (Nat.le_of_ble_eq_true rfl)) dX12_wind_101 ⟨(Nat.le_of_ble_eq_true rfl), (Nat.le_of_ble_eq_true rfl)⟩) hS (fun q _ h => hFc q h) hFc (fun r453 u t H locs ht hvm hw454 hB _ _ hS => ?_)
              obtain ⟨hT, hF1⟩ := hB
              rw [ht] at hT hF1
              have m455 := (el_kept (hF1.arr hg8 skm_2 (by decide))).trans m24
              have m456 := (el_kept (hF1.arr hg8 skm_2 (by decide))).trans m25
              have m457 := (el_kept (hF1.arr hg8 skm_2 (by decide))).trans m432
              have m458 := (el_kept (hF1.arr hg8 skm_2 (by decide))).trans m444
              have m459 := (el_kept (hF1.arr hg8 skm_2 (by decide))).trans m451
              have hF := hF.more hF1 (by decide)
              try dsimp only at hw454
              obtain ⟨h460, hf461⟩ := hw454
              refine lv_iload hx hb dX12_wind_104 (lv_at hl 0 rfl) ?_
              refine lv_icmp_eq (tgt := 112) hx hb dX12_wind_106 (by decide) (fun c462 => ?_) (fun c462 => ?_)
              · have t463 : r453.toInt = ((1504 + 2 * i19 : Nat) : Int) := ti_eq c462 rfl (nI_toInt (by omega))
                refine lv_aload_n hx hb dX12_wind_112 rfl (lv_at hl 5 rfl) ?_
                refine tw_get hx hb hts bF_X12 hown hK hT hr_o0 shm_0 rfl 1 (by decide) (ht_at hts 1 rfl) (fun _ h9 => h9) dX12_wind_113 (fun v9 m464 h9 => ?_)
                obtain ⟨rfl, hg465⟩ := h9 _ rfl
                refine lv_iload hx hb dX12_wind_116 (lv_at hl 0 rfl) ?_
                refine tw_iald (i := (nI (1504 + 2 * i19))) hx hb hK hT hg8 shm_2 rfl (vp_in_nI (by omega) (by decide)) dX12_wind_118 (fun v9 m466 h9 => ?_)
                obtain ⟨x467, rfl, gx467, kx467⟩ := (gp_at h9 (w_fre (by have q9 := tn_of (show (nI (1504 + 2 * i19)).toInt = ((1504 + 2 * i19 : Nat) : Int) from (nI_toInt (by omega))) (show (0 : Int) ≤ ((1504 + 2 * i19 : Nat) : Int) from by omega); omega)))
                obtain rfl : x452 = x467 := (el_same m466 m459 rfl).symm
                refine lv_iload_n hx hb dX12_wind_119 rfl (lv_at hl 3 rfl) ?_
                have jn491 : ∀ (z482 : Int32), ((-1 ≤ z482.toInt ∧ z482.toInt ≤ 1622) ∧ ((z482.toInt = -1 ∨ ∃ x ix : Int32, ix.toInt = z482.toInt + 1 ∧ el s.heap (q 1) ix.toNatClampNeg = some (.int x) ∧ 0 ≤ x.toInt ∧ x.toInt ≤ 9)) ∧ ((z20.toInt = -1 ∨ ∃ x ix : Int32, ix.toInt = z20.toInt + 1 ∧ el s.heap (q 1) ix.toNatClampNeg = some (.int x) ∧ 0 ≤ x.toInt ∧ x.toInt ≤ 9))) → ∀ (H : Heap) (locs : List Loc), gH (dC, dI) kA (SHm q (wP wZ wN wH wB wC wL wK wU wV) PI im PM PT lS lB lE lN) G H → gF (dC, dI) SKm G ([] : List (Nat × Nat)) s.heap H → va_S A s.heap H locs → el H (q 1) x9.toNatClampNeg = some (.int x12) → el H (q 1) r1.toNatClampNeg = some (.int x18) → el H (q 1) (1503 : Int32).toNatClampNeg = some (.int x433) → el H (q 1) (nI (1504 + 2 * i19 + 1)).toNatClampNeg = some (.int x445) → el H (q 1) (nI (1504 + 2 * i19)).toNatClampNeg = some (.int x452) → ∀ ls : Array Slot, lv_has ls 7 [(6, .int (nI (1504 + 2 * i19))), (5, .int z20), (4, .int z482), (3, .int x18), (2, .int r1), (0, .ref o0), (1, .int ho)] → W p l e (headSpec w_s_wind ({ frames := 1, cells := 0, slots := 0, locals := 40 })).room s m #[.ref o0, .int ho] below meth c H locs 0 0 (MQ below (va_Qi (fun (r : Int32) (u : Unit) => (0 ≤ r.toInt ∧ r.toInt ≤ 9)) (fun (_ : Unit) (t : State) => gH (dC, dI) kA (SHm q (wP wZ wN wH wB wC wL wK wU wV) PI im PM PT lS lB lE lN) G t.heap ∧ gF (dC, dI) SKm G ([] : List (Nat × Nat)) s.heap t.heap) A) #[.ref o0, .int ho] s 0 0 A) (F0 m 149 ls []) := by
                  intro z482 ⟨h483, hj489, hj490⟩ H locs hT hF hS m484 m485 m486 m487 m488 ls hl
                  refine lv_aload_n hx hb dX12_wind_149 rfl (lv_at hl 5 rfl) ?_
                  refine tw_get hx hb hts bF_X12 hown hK hT hr_o0 shm_0 rfl 1 (by decide) (ht_at hts 1 rfl) (fun _ h9 => h9) dX12_wind_150 (fun v9 m492 h9 => ?_)
                  obtain ⟨rfl, hg493⟩ := h9 _ rfl
                  refine lv_iload hx hb dX12_wind_153 (lv_at hl 0 rfl) ?_
                  refine tw_iald (i := (nI (1504 + 2 * i19))) hx hb hK hT hg8 shm_2 rfl (vp_in_nI (by omega) (by decide)) dX12_wind_155 (fun v9 m494 h9 => ?_)
                  obtain ⟨x495, rfl, gx495, kx495⟩ := (gp_at h9 (w_fre (by have q9 := tn_of (show (nI (1504 + 2 * i19)).toInt = ((1504 + 2 * i19 : Nat) : Int) from (nI_toInt (by omega))) (show (0 : Int) ≤ ((1504 + 2 * i19 : Nat) : Int) from by omega); omega)))
                  obtain rfl : x452 = x495 := (el_same m494 m488 rfl).symm
                  refine lv_iload_n hx hb dX12_wind_156 rfl (lv_at hl 3 rfl) ?_
                  refine lv_icmp_le (tgt := 186) hx hb dX12_wind_157 (by decide) (fun c496 => ?_) (fun c496 => ?_)
                  · have t497 : x452.toInt ≤ x18.toInt := ti_le c496 rfl rfl
                    refine lv_iinc (v := nI (1504 + 2 * i19 + 2)) (lv' := [(6, .int (nI (1504 + 2 * i19 + 2))), (5, .int z20), (4, .int z482), (3, .int x18), (2, .int r1), (0, .ref o0), (1, .int ho)]) hx hb dX12_wind_186 hl (k := 0) rfl (nI_add (1504 + 2 * i19) 2) (by decide) rfl (fun ls hl => ?_)
                    refine lv_goto (tgt := 56) hx hb dX12_wind_189 (by decide) ?_
                    have hl : lv_has ls 7 [(6, .int (nI (1504 + 2 * (i19 + 1)))), (5, .int z20), (4, .int z482), (3, .int x18), (2, .int r1), (0, .ref o0), (1, .int ho)] := by rw [show nI (1504 + 2 * (i19 + 1)) = nI (1504 + 2 * i19 + 2) from congrArg nI (by omega)]; exact hl
                    exact ih418 (i19 + 1) (by omega) z20 z482 ⟨(by have q9 := (show z20.toInt = z20.toInt from rfl); (try have q8 := ti_all z20); omega), (by have q9 := (show z482.toInt = z482.toInt from rfl); (try have q8 := ti_all z482); omega), hj489, hj490⟩ _ _ hT hF hS m484 m485 ls (lv_sub hl [0, 1, 2, 3, 4, 5, 6] rfl)
                  · have t498 : x18.toInt < x452.toInt := ti_nle c496 rfl rfl
                    refine lv_iload hx hb dX12_wind_160 (lv_at hl 1 rfl) ?_
                    refine lv_if_lt (tgt := 182) hx hb dX12_wind_162 (by decide) (fun c499 => ?_) (fun c499 => ?_)
                    · have t500 : z20.toInt < 0 := ti_lt c499 rfl (by decide)
                      refine lv_iload hx hb dX12_wind_182 (lv_at hl 0 rfl) ?_
                      refine lv_istore (lv' := [(5, .int (nI (1504 + 2 * i19))), (6, .int (nI (1504 + 2 * i19))), (4, .int z482), (3, .int x18), (2, .int r1), (0, .ref o0), (1, .int ho)]) hx hb dX12_wind_184 hl (by decide) rfl (fun ls hl => ?_)
                      refine lv_iinc (v := nI (1504 + 2 * i19 + 2)) (lv' := [(6, .int (nI (1504 + 2 * i19 + 2))), (5, .int (nI (1504 + 2 * i19))), (4, .int z482), (3, .int x18), (2, .int r1), (0, .ref o0), (1, .int ho)]) hx hb dX12_wind_186 hl (k := 1) rfl (nI_add (1504 + 2 * i19) 2) (by decide) rfl (fun ls hl => ?_)
                      refine lv_goto (tgt := 56) hx hb dX12_wind_189 (by decide) ?_
                      have hl : lv_has ls 7 [(6, .int (nI (1504 + 2 * (i19 + 1)))), (5, .int (nI (1504 + 2 * i19))), (4, .int z482), (3, .int x18), (2, .int r1), (0, .ref o0), (1, .int ho)] := by rw [show nI (1504 + 2 * (i19 + 1)) = nI (1504 + 2 * i19 + 2) from congrArg nI (by omega)]; exact hl
                      exact ih418 (i19 + 1) (by omega) (nI (1504 + 2 * i19)) z482 ⟨(by have q9 := (show (nI (1504 + 2 * i19)).toInt = ((1504 + 2 * i19 : Nat) : Int) from (nI_toInt (by omega))); (try have q8 := ti_all (nI (1504 + 2 * i19))); omega), (by have q9 := (show z482.toInt = z482.toInt from rfl); (try have q8 := ti_all z482); omega), hj489, (Or.inr ⟨x445, (nI (1504 + 2 * i19 + 1)), by have q9 := (show (nI (1504 + 2 * i19 + 1)).toInt = ((1504 + 2 * i19 + 1 : Nat) : Int) from (nI_toInt (by omega))); have q8 := (show (nI (1504 + 2 * i19)).toInt = ((1504 + 2 * i19 : Nat) : Int) from (nI_toInt (by omega))); omega, (el_kept (hF.arr hg8 skm_2 (by decide))).symm.trans m487, by omega, by omega⟩)⟩ _ _ hT hF hS m484 m485 ls (lv_sub hl [0, 1, 2, 3, 4, 5, 6] rfl)
                    · have t501 : 0 ≤ z20.toInt := ti_nlt c499 rfl (by decide)
                      refine lv_aload_n hx hb dX12_wind_165 rfl (lv_at hl 5 rfl) ?_
                      refine tw_get hx hb hts bF_X12 hown hK hT hr_o0 shm_0 rfl 1 (by decide) (ht_at hts 1 rfl) (fun _ h9 => h9) dX12_wind_166 (fun v9 m502 h9 => ?_)
                      obtain ⟨rfl, hg503⟩ := h9 _ rfl
                      refine lv_iload hx hb dX12_wind_169 (lv_at hl 0 rfl) ?_
                      refine tw_iald (i := (nI (1504 + 2 * i19))) hx hb hK hT hg8 shm_2 rfl (vp_in_nI (by omega) (by decide)) dX12_wind_171 (fun v9 m504 h9 => ?_)
                      obtain ⟨x505, rfl, gx505, kx505⟩ := (gp_at h9 (w_fre (by have q9 := tn_of (show (nI (1504 + 2 * i19)).toInt = ((1504 + 2 * i19 : Nat) : Int) from (nI_toInt (by omega))) (show (0 : Int) ≤ ((1504 + 2 * i19 : Nat) : Int) from by omega); omega)))
                      obtain rfl : x452 = x505 := (el_same m504 m488 rfl).symm
                      refine lv_aload_n hx hb dX12_wind_172 rfl (lv_at hl 5 rfl) ?_
                      refine tw_get hx hb hts bF_X12 hown hK hT hr_o0 shm_0 rfl 1 (by decide) (ht_at hts 1 rfl) (fun _ h9 => h9) dX12_wind_173 (fun v9 m506 h9 => ?_)
                      obtain ⟨rfl, hg507⟩ := h9 _ rfl
                      refine lv_iload hx hb dX12_wind_176 (lv_at hl 1 rfl) ?_
                      refine tw_iald (i := z20) hx hb hK hT hg8 shm_2 rfl (vin_t (a := z20.toInt) rfl (by omega) (by omega)) dX12_wind_178 (fun v9 m508 h9 => ?_)
                      obtain ⟨x509, rfl, gx509, kx509⟩ := (gp_any h9)
                      refine lv_icmp_ge (tgt := 186) hx hb dX12_wind_179 (by decide) (fun c510 => ?_) (fun c510 => ?_)
                      · have t511 : x509.toInt ≤ x452.toInt := ti_le c510 rfl rfl
                        refine lv_iinc (v := nI (1504 + 2 * i19 + 2)) (lv' := [(6, .int (nI (1504 + 2 * i19 + 2))), (5, .int z20), (4, .int z482), (3, .int x18), (2, .int r1), (0, .ref o0), (1, .int ho)]) hx hb dX12_wind_186 hl (k := 0) rfl (nI_add (1504 + 2 * i19) 2) (by decide) rfl (fun ls hl => ?_)
                        refine lv_goto (tgt := 56) hx hb dX12_wind_189 (by decide) ?_
                        have hl : lv_has ls 7 [(6, .int (nI (1504 + 2 * (i19 + 1)))), (5, .int z20), (4, .int z482), (3, .int x18), (2, .int r1), (0, .ref o0), (1, .int ho)] := by rw [show nI (1504 + 2 * (i19 + 1)) = nI (1504 + 2 * i19 + 2) from congrArg nI (by omega)]; exact hl
                        exact ih418 (i19 + 1) (by omega) z20 z482 ⟨(by have q9 := (show z20.toInt = z20.toInt from rfl); (try have q8 := ti_all z20); omega), (by have q9 := (show z482.toInt = z482.toInt from rfl); (try have q8 := ti_all z482); omega), hj489, hj490⟩ _ _ hT hF hS m484 m485 ls (lv_sub hl [0, 1, 2, 3, 4, 5, 6] rfl)
                      · have t512 : x452.toInt < x509.toInt := ti_nle c510 rfl rfl
                        refine lv_iload hx hb dX12_wind_182 (lv_at hl 0 rfl) ?_
                        refine lv_istore (lv' := [(5, .int (nI (1504 + 2 * i19))), (6, .int (nI (1504 + 2 * i19))), (4, .int z482), (3, .int x18), (2, .int r1), (0, .ref o0), (1, .int ho)]) hx hb dX12_wind_184 hl (by decide) rfl (fun ls hl => ?_)
                        refine lv_iinc (v := nI (1504 + 2 * i19 + 2)) (lv' := [(6, .int (nI (1504 + 2 * i19 + 2))), (5, .int (nI (1504 + 2 * i19))), (4, .int z482), (3, .int x18), (2, .int r1), (0, .ref o0), (1, .int ho)]) hx hb dX12_wind_186 hl (k := 1) rfl (nI_add (1504 + 2 * i19) 2) (by decide) rfl (fun ls hl => ?_)
                        refine lv_goto (tgt := 56) hx hb dX12_wind_189 (by decide) ?_
                        have hl : lv_has ls 7 [(6, .int (nI (1504 + 2 * (i19 + 1)))), (5, .int (nI (1504 + 2 * i19))), (4, .int z482), (3, .int x18), (2, .int r1), (0, .ref o0), (1, .int ho)] := by rw [show nI (1504 + 2 * (i19 + 1)) = nI (1504 + 2 * i19 + 2) from congrArg nI (by omega)]; exact hl
                        exact ih418 (i19 + 1) (by omega) (nI (1504 + 2 * i19)) z482 ⟨(by have q9 := (show (nI (1504 + 2 * i19)).toInt = ((1504 + 2 * i19 : Nat) : Int) from (nI_toInt (by omega))); (try have q8 := ti_all (nI (1504 + 2 * i19))); omega), (by have q9 := (show z482.toInt = z482.toInt from rfl); (try have q8 := ti_all z482); omega), hj489, (Or.inr ⟨x445, (nI (1504 + 2 * i19 + 1)), by have q9 := (show (nI (1504 + 2 * i19 + 1)).toInt = ((1504 + 2 * i19 + 1 : Nat) : Int) from (nI_toInt (by omega))); have q8 := (show (nI (1504 + 2 * i19)).toInt = ((1504 + 2 * i19 : Nat) : Int) from (nI_toInt (by omega))); omega, (el_kept (hF.arr hg8 skm_2 (by decide))).symm.trans m487, by omega, by omega⟩)⟩ _ _ hT hF hS m484 m485 ls (lv_sub hl [0, 1, 2, 3, 4, 5, 6] rfl)
                refine lv_icmp_ge (tgt := 149) hx hb dX12_wind_120 (by decide) (fun c513 => ?_) (fun c513 => ?_)
                · have t514 : x18.toInt ≤ x452.toInt := ti_le c513 rfl rfl
                  exact jn491 z22 ⟨(by have q9 := (show z22.toInt = z22.toInt from rfl); (try have q8 := ti_all z22); omega), hj26, hj27⟩ _ _ hT hF hS m455 m456 m457 m458 m459 ls (lv_sub hl [0, 1, 2, 3, 4, 5, 6] rfl)
                · have t515 : x452.toInt < x18.toInt := ti_nle c513 rfl rfl
                  refine lv_iload hx hb dX12_wind_123 (lv_at hl 2 rfl) ?_
                  refine lv_if_lt (tgt := 145) hx hb dX12_wind_125 (by decide) (fun c516 => ?_) (fun c516 => ?_)
                  · have t517 : z22.toInt < 0 := ti_lt c516 rfl (by decide)
                    refine lv_iload hx hb dX12_wind_145 (lv_at hl 0 rfl) ?_
                    refine lv_istore (lv' := [(4, .int (nI (1504 + 2 * i19))), (6, .int (nI (1504 + 2 * i19))), (5, .int z20), (3, .int x18), (2, .int r1), (0, .ref o0), (1, .int ho)]) hx hb dX12_wind_147 hl (by decide) rfl (fun ls hl => ?_)
                    exact jn491 (nI (1504 + 2 * i19)) ⟨(by have q9 := (show (nI (1504 + 2 * i19)).toInt = ((1504 + 2 * i19 : Nat) : Int) from (nI_toInt (by omega))); (try have q8 := ti_all (nI (1504 + 2 * i19))); omega), (Or.inr ⟨x445, (nI (1504 + 2 * i19 + 1)), by have q9 := (show (nI (1504 + 2 * i19 + 1)).toInt = ((1504 + 2 * i19 + 1 : Nat) : Int) from (nI_toInt (by omega))); have q8 := (show (nI (1504 + 2 * i19)).toInt = ((1504 + 2 * i19 : Nat) : Int) from (nI_toInt (by omega))); omega, (el_kept (hF.arr hg8 skm_2 (by decide))).symm.trans m458, by omega, by omega⟩), hj27⟩ _ _ hT hF hS m455 m456 m457 m458 m459 ls (lv_sub hl [1, 2, 0, 3, 4, 5, 6] rfl)
                  · have t518 : 0 ≤ z22.toInt := ti_nlt c516 rfl (by decide)
                    refine lv_aload_n hx hb dX12_wind_128 rfl (lv_at hl 5 rfl) ?_
                    refine tw_get hx hb hts bF_X12 hown hK hT hr_o0 shm_0 rfl 1 (by decide) (ht_at hts 1 rfl) (fun _ h9 => h9) dX12_wind_129 (fun v9 m519 h9 => ?_)
                    obtain ⟨rfl, hg520⟩ := h9 _ rfl
                    refine lv_iload hx hb dX12_wind_132 (lv_at hl 0 rfl) ?_
                    refine tw_iald (i := (nI (1504 + 2 * i19))) hx hb hK hT hg8 shm_2 rfl (vp_in_nI (by omega) (by decide)) dX12_wind_134 (fun v9 m521 h9 => ?_)
                    obtain ⟨x522, rfl, gx522, kx522⟩ := (gp_at h9 (w_fre (by have q9 := tn_of (show (nI (1504 + 2 * i19)).toInt = ((1504 + 2 * i19 : Nat) : Int) from (nI_toInt (by omega))) (show (0 : Int) ≤ ((1504 + 2 * i19 : Nat) : Int) from by omega); omega)))
                    obtain rfl : x452 = x522 := (el_same m521 m459 rfl).symm
                    refine lv_aload_n hx hb dX12_wind_135 rfl (lv_at hl 5 rfl) ?_
                    refine tw_get hx hb hts bF_X12 hown hK hT hr_o0 shm_0 rfl 1 (by decide) (ht_at hts 1 rfl) (fun _ h9 => h9) dX12_wind_136 (fun v9 m523 h9 => ?_)
                    obtain ⟨rfl, hg524⟩ := h9 _ rfl
                    refine lv_iload hx hb dX12_wind_139 (lv_at hl 2 rfl) ?_
                    refine tw_iald (i := z22) hx hb hK hT hg8 shm_2 rfl (vin_t (a := z22.toInt) rfl (by omega) (by omega)) dX12_wind_141 (fun v9 m525 h9 => ?_)
                    obtain ⟨x526, rfl, gx526, kx526⟩ := (gp_any h9)
                    refine lv_icmp_le (tgt := 149) hx hb dX12_wind_142 (by decide) (fun c527 => ?_) (fun c527 => ?_)
                    · have t528 : x452.toInt ≤ x526.toInt := ti_le c527 rfl rfl
                      exact jn491 z22 ⟨(by have q9 := (show z22.toInt = z22.toInt from rfl); (try have q8 := ti_all z22); omega), hj26, hj27⟩ _ _ hT hF hS m455 m456 m457 m458 m459 ls (lv_sub hl [0, 1, 2, 3, 4, 5, 6] rfl)
                    · have t529 : x526.toInt < x452.toInt := ti_nle c527 rfl rfl
                      refine lv_iload hx hb dX12_wind_145 (lv_at hl 0 rfl) ?_
                      refine lv_istore (lv' := [(4, .int (nI (1504 + 2 * i19))), (6, .int (nI (1504 + 2 * i19))), (5, .int z20), (3, .int x18), (2, .int r1), (0, .ref o0), (1, .int ho)]) hx hb dX12_wind_147 hl (by decide) rfl (fun ls hl => ?_)
                      exact jn491 (nI (1504 + 2 * i19)) ⟨(by have q9 := (show (nI (1504 + 2 * i19)).toInt = ((1504 + 2 * i19 : Nat) : Int) from (nI_toInt (by omega))); (try have q8 := ti_all (nI (1504 + 2 * i19))); omega), (Or.inr ⟨x445, (nI (1504 + 2 * i19 + 1)), by have q9 := (show (nI (1504 + 2 * i19 + 1)).toInt = ((1504 + 2 * i19 + 1 : Nat) : Int) from (nI_toInt (by omega))); have q8 := (show (nI (1504 + 2 * i19)).toInt = ((1504 + 2 * i19 : Nat) : Int) from (nI_toInt (by omega))); omega, (el_kept (hF.arr hg8 skm_2 (by decide))).symm.trans m458, by omega, by omega⟩), hj27⟩ _ _ hT hF hS m455 m456 m457 m458 m459 ls (lv_sub hl [1, 2, 0, 3, 4, 5, 6] rfl)
              · have t530 : r453.toInt ≠ ((1504 + 2 * i19 : Nat) : Int) := ti_ne c462 rfl (nI_toInt (by omega))
                refine lv_goto (tgt := 186) hx hb dX12_wind_109 (by decide) ?_
                refine lv_iinc (v := nI (1504 + 2 * i19 + 2)) (lv' := [(6, .int (nI (1504 + 2 * i19 + 2))), (5, .int z20), (4, .int z22), (3, .int x18), (2, .int r1), (0, .ref o0), (1, .int ho)]) hx hb dX12_wind_186 hl (k := 0) rfl (nI_add (1504 + 2 * i19) 2) (by decide) rfl (fun ls hl => ?_)
                refine lv_goto (tgt := 56) hx hb dX12_wind_189 (by decide) ?_
                have hl : lv_has ls 7 [(6, .int (nI (1504 + 2 * (i19 + 1)))), (5, .int z20), (4, .int z22), (3, .int x18), (2, .int r1), (0, .ref o0), (1, .int ho)] := by rw [show nI (1504 + 2 * (i19 + 1)) = nI (1504 + 2 * i19 + 2) from congrArg nI (by omega)]; exact hl
                exact ih418 (i19 + 1) (by omega) z20 z22 ⟨(by have q9 := (show z20.toInt = z20.toInt from rfl); (try have q8 := ti_all z20); omega), (by have q9 := (show z22.toInt = z22.toInt from rfl); (try have q8 := ti_all z22); omega), hj26, hj27⟩ _ _ hT hF hS m455 m456 ls (lv_sub hl [0, 1, 2, 3, 4, 5, 6] rfl)
      have hl2 : lv_has ls 7 [(6, .int (nI (1504 + 2 * 0))), (5, .int (-1)), (4, .int (-1)), (3, .int x18), (2, .int r1), (0, .ref o0), (1, .int ho)] := hl
      exact key418 (60 - 0) 0 (by omega) (-1) (-1) ⟨(by have q9 := (show (-1 : Int32).toInt = (-1) from (by decide)); (try have q8 := ti_all (-1 : Int32)); omega), (by have q9 := (show (-1 : Int32).toInt = (-1) from (by decide)); (try have q8 := ti_all (-1 : Int32)); omega), (Or.inl (by decide)), (Or.inl (by decide))⟩ _ _ hT hF hS m11 m17 ls (lv_sub hl2 [0, 1, 2, 3, 4, 5, 6] rfl)
    · have t531 : 0 ≤ x12.toInt := ti_nlt c13 rfl (by decide)
      refine lv_aload_n hx hb dX12_wind_29 rfl (lv_at hl 1 rfl) ?_
      refine tw_get hx hb hts bF_X12 hown hK hT hr_o0 shm_0 rfl 1 (by decide) (ht_at hts 1 rfl) (fun _ h9 => h9) dX12_wind_30 (fun v9 m532 h9 => ?_)
      obtain ⟨rfl, hg533⟩ := h9 _ rfl
      refine lv_iload_n hx hb dX12_wind_33 rfl (lv_at hl 0 rfl) ?_
      refine lv_iconst (v := 1) hx hb dX12_wind_34 (by decide) ?_
      refine lv_iadd hx hb dX12_wind_35 ?_
      refine lv_topi (fun x534 ex534 => ?_)
      have t535 : x534.toInt = r1.toInt + 1 := ti_add ex534 rfl (by decide) (by omega) (by omega)
      refine tw_iald (i := x534) hx hb hK hT hg8 shm_2 rfl (vin_t (a := x534.toInt) rfl (by omega) (by omega)) dX12_wind_36 (fun v9 m536 h9 => ?_)
      obtain ⟨x537, rfl, gx537, kx537⟩ := (gp_at h9 (w_wid (by have q9 := tn_of (show x534.toInt = x534.toInt from rfl) (show (0 : Int) ≤ x534.toInt from by omega); omega)))
      obtain rfl : x12 = x537 := (el_same m536 m11 (show x534.toInt = x9.toInt from by rw []; try omega)).symm
      exact W.iret (v := x12) hx hb hr (fun t ht hW => ⟨⟨x12, (), rfl, (by exact (by have q8 := ti_all x12; omega)), by (try dsimp only); rw [ht]; exact ⟨hT, hF⟩⟩, hS.F ht⟩) hS.2.2 dX12_wind_37
  · have t538 : r1.toInt < 0 := ti_nle c5 (by decide) rfl
    refine lv_iconst (v := 0) hx hb dX12_wind_16 (by decide) ?_
    exact W.iret (v := 0) hx hb hr (fun t ht hW => ⟨⟨0, (), rfl, (by exact (rg_t (a := 0) (by decide) (by first | decide | omega) (by first | decide | omega))), by (try dsimp only); rw [ht]; exact ⟨hT, hF⟩⟩, hS.F ht⟩) hS.2.2 dX12_wind_17
def w_s_sky : List Cond := .code yX12_sky cX12_sky 3 (some .int) :: (HAppend.hAppend (α := List Cond) (β := List Cond) (γ := List Cond) [.fieldLink RX12 194 "SeaLandModel" "thrown" "I", .constant RX12 242 40000, .code yX12_in cX12_in 3 (some .boolean), .methodLink RX12 197 yX12_in, .static yX12_in, .initialized RX12, .code yX12_throwsIf cX12_throwsIf 3 (some .boolean), .methodLink RX12 224 yX12_throwsIf, .instanceMethod yX12_throwsIf, .selects RX12 yX12_throwsIf yX12_throwsIf, .code yX12_rain cX12_rain 3 (some .int), .code yX12_telling cX12_telling 6 (some .int), .fieldLink RX12 9 "SeaLandModel" "world" "[I", .methodLink RX12 243 yX12_telling, .instanceMethod yX12_telling, .selects RX12 yX12_telling yX12_telling, .methodLink RX12 253 yX12_rain, .instanceMethod yX12_rain, .selects RX12 yX12_rain yX12_rain, .code yX12_wind cX12_wind 7 (some .int), .methodLink RX12 211 Lib.Math.max.name, .static Lib.Math.max.name, .initialized "java/lang/Math", .code Lib.Math.max.name Lib.Math.max.code 2 (some .int), .methodLink RX12 250 yX12_wind, .instanceMethod yX12_wind, .selects RX12 yX12_wind yX12_wind, .code yX12_outside cX12_outside 4 (some .int), .methodLink RX12 247 yX12_outside, .instanceMethod yX12_outside, .selects RX12 yX12_outside yX12_outside] bs)
set_option maxHeartbeats 4000000 in
set_option maxRecDepth 100000 in
theorem s_sky (l : Launch) (dC : Nat → ClassId) (dI : Nat → Nat → Nat) (kA : Nat → ClassId) (adK adV : Nat → Nat) (G : gT) (H0 : Heap) (q : Nat → Nat) (wZ wN : Nat → Int) (wH wB wC : Int) (wL wK : Nat → Prop) (wU wV : Nat → Nat) (PI : Nat → Int → Prop) (im : Int) (PM PT : Nat → Int → Prop) (lS lB lE : Nat → Nat → Int → Prop) (lN : Nat → Int) (o0 : Nat) (p0 : Int32) (p1 : Int32)  (hT : gH (dC, dI) kA (SHm q (wP wZ wN wH wB wC wL wK wU wV) PI im PM PT lS lB lE lN) G H0) (hr_o0 : G o0 = some 0) (hgz : ∀ i, 0 ≤ wZ i) (hgn : ∀ i, 6500000 ≤ wN i ∧ wN i ≤ 20200000) (hgh : 0 ≤ wH ∧ wH ≤ 40000) (hgb : 0 ≤ wB ∧ wB ≤ 3850000) (hgc : 0 ≤ wC ∧ wC ≤ 30) (hgi : 0 ≤ im ∧ im ≤ 1) (hgu : ∀ a t, G a = some (t + 1) → a = q t) : Met l yX12_sky w_s_sky ({ frames := 2, cells := 0, slots := 0, locals := 66 }) (va_Pc [.ref o0, .int p0, .int p1] (fun U => U.heap = H0 ∧ va_K (dC, dI) vwCl (tyl kA) U ∧ EVS adK adV (gA G H0.size) U U.heap)) (va_Qi (fun (r : Int32) (u : Unit) => (-400 ≤ r.toInt ∧ r.toInt ≤ 10400)) (fun (_ : Unit) (t : State) => gH (dC, dI) kA (SHm q (wP wZ wN wH wB wC wL wK wU wV) PI im PM PT lS lB lE lN) G t.heap ∧ gF (dC, dI) SKm G ([(0, 0)] : List (Nat × Nat)) H0 t.heap) (gA G H0.size)) 0 0 (gA G H0.size) := by
  refine Met.ofW (cc := cX12_sky) (maxL := 3) (ret := (some .int)) (by decide) rfl ?_
  intro p e s m args below meth c s₁ B hml hv
  obtain ⟨rfl, hH0, hK, hE⟩ := hv
  have hx := B.exec
  have hb := B.bytes
  have hr := B.returns
  have hts := atoms_spec (ws := w_s_sky) B.pre
  have hown : s.vm.findClass RX12 = some m.cls := findClass_of_methodNamed B.named
  have hlocks := B.notSynchronized
  subst hH0
  generalize hAe : gA G s.heap.size = A at hE ⊢
  have hA : ∀ q : Nat, s.heap.size ≤ q → A q := fun q h => by rw [← hAe]; exact Or.inr h
  have hG := gA_of hAe
  have hS : va_S A s.heap s.heap [] := va_S.rf
  have hF : gF (dC, dI) SKm G ([(0, 0)] : List (Nat × Nat)) s.heap s.heap := gF.rf
  have hl := lv_entry ([.ref o0, .int p0, .int p1]) (n := 3) (Nat.le_of_ble_eq_true rfl)
  rw [lg_entry_eq]
  generalize (lg_sl ([.ref o0, .int p0, .int p1]) ++ List.replicate (3 - (lg_sl ([.ref o0, .int p0, .int p1])).length) Slot.unset).toArray = ls at hl ⊢
  have hl : lv_has ls 3 [(0, .ref o0), (1, .int p0), (2, .int p1)] := hl
  refine lv_aload_n hx hb dX12_sky_0 rfl (lv_at hl 0 rfl) ?_
  refine lv_iconst (v := 0) hx hb dX12_sky_1 (by decide) ?_
  refine tw_put (v := .int 0) (ty := .int) hx hb hts bF_X12 tyX12 tyX12_ok nmX12 hown hK hT hG hS hr_o0 shm_0 rfl 0 (by decide) (ht_at hts 0 rfl) (fun _ h9 => h9) rfl (by decide +kernel) rfl rfl (gl_at rfl (gi_all _)) dX12_sky_2 (fun H locs hT oq m1 oj hS => ?_)
  have hF := hF.put hr_o0 skm_0 oq oj (by decide)
  refine lv_aload_n hx hb dX12_sky_5 rfl (lv_at hl 0 rfl) ?_
  refine lv_iload_n hx hb dX12_sky_6 rfl (lv_at hl 1 rfl) ?_
  refine lv_iconst (v := 0) hx hb dX12_sky_7 (by decide) ?_
  refine lv_ldc (v := 40000) hx hb hown (ht_at hts 1 rfl) dX12_sky_8 ?_
  have hFc := gA_free hG hA hS
  refine va_calli (va_runS (As := [.int p0, .int 0, .int 40000]) (rest := [.ref o0]) ⟨hx, hb, hml, hown, hts⟩ (s_in l dC dI kA adK adV G H q wZ wN wH wB wC wL wK wU wV PI im PM PT lS lB lE lN p0 0 40000 hT hgz hgn hgh hgb hgc hgi hgu) (va_cwS 3 hts (goodIn_app (goodIn_r _ [4, 5, 6] rfl (by decide +kernel)) (goodIn_ca (goodIn_r _ [3] rfl (by decide +kernel)) (bs_in _ _))) rfl rfl rfl (by decide +kernel) ⟨(Nat.le_of_ble_eq_true rfl), (Nat.le_of_ble_eq_true rfl)⟩) ⟨fun a U g mk q => by obtain ⟨q0, q1, qK, qE⟩ := q; exact ⟨q0, q1, va_K.moved (u := U) (U := U.calling g mk a) (Vm.Alike.refl U.vm) qK, EVS.blind g mk a qE⟩, fun U hU hW => ⟨rfl, hU, va_K.moved hW.alike hK, hE.call hS hFc hU hW⟩⟩ rfl rfl hl.1 rfl (lv_room (Nat.le_of_ble_eq_true rfl)) dX12_sky_10 ⟨(Nat.le_of_ble_eq_true rfl), (Nat.le_of_ble_eq_true rfl)⟩) hS (fun q _ h => hFc q h) hFc (fun r2 u t H locs ht hvm hw3 hB _ _ hS => ?_)
  obtain ⟨hT, hF1⟩ := hB
  rw [ht] at hT hF1
  have hF := hF.more hF1 (by decide)
  try dsimp only at hw3
  obtain ⟨h5, hi6, hi7⟩ := hw3
  refine lv_if_eq (tgt := 25) hx hb dX12_sky_13 (by decide) (fun c8 => ?_) (fun c8 => ?_)
  · have t9 : r2.toInt = 0 := ti_eq c8 rfl (by decide)
    have t10 : (40000 : Int32).toInt = 40000 := by decide
    have t11 : (0 : Int32).toInt = 0 := by decide
    have t12 : p0.toInt < (0 : Int32).toInt ∨ (40000 : Int32).toInt < p0.toInt := hi7 c8
    refine lv_iconst (v := 1) hx hb dX12_sky_25 (by decide) ?_
    refine lv_goto (tgt := 30) hx hb dX12_sky_26 (by decide) ?_
    refine lv_iconst (v := 1) hx hb dX12_sky_30 (by decide) ?_
    have hFc := gA_free hG hA hS
    refine va_calli (va_runV (As := [.int 1, .int 1]) (rest := []) ⟨hx, hb, hml, hown, hts⟩ (s_throwsIf l dC dI kA adK adV G H q wZ wN wH wB wC wL wK wU wV PI im PM PT lS lB lE lN o0 1 1 hT hr_o0 (rg_t (a := 1) (by decide) (by first | decide | omega) (by first | decide | omega)) hgz hgn hgh hgb hgc hgi hgu) (cwV 2 hts (goodIn_app (goodIn_r _ [8, 9, 10, 6] rfl (by decide +kernel)) (goodIn_ca (goodIn_r _ [7, 1] rfl (by decide +kernel)) (bs_in _ _))) rfl rfl rfl (by decide +kernel) ⟨(Nat.le_of_ble_eq_true rfl), (Nat.le_of_ble_eq_true rfl)⟩) ⟨fun a U g mk q => by obtain ⟨q0, q1, qK, qE⟩ := q; exact ⟨q0, q1, va_K.moved (u := U) (U := U.calling g mk a) (Vm.Alike.refl U.vm) qK, EVS.blind g mk a qE⟩, gH_rc hK hT hr_o0 shm_0 rfl, fun U hU hW => ⟨rfl, hU, va_K.moved hW.alike hK, hE.call hS hFc hU hW⟩⟩ rfl rfl hl.1 rfl (lv_room (Nat.le_of_ble_eq_true rfl)) dX12_sky_31 ⟨(Nat.le_of_ble_eq_true rfl), (Nat.le_of_ble_eq_true rfl)⟩) hS (fun q _ h => hFc q h) hFc (fun r13 u t H locs ht hvm hw14 hB _ _ hS => ?_)
    obtain ⟨hT, hF1⟩ := hB
    rw [ht] at hT hF1
    have hF := hF.more hF1 (by decide)
    try dsimp only at hw14
    obtain ⟨h16, hd17⟩ := hw14
    obtain rfl : (1 : Int32) = r13 := hd17.symm
    refine lv_if_eq (tgt := 39) hx hb dX12_sky_34 (by decide) (fun c18 => absurd c18 (by decide)) (fun c18 => ?_)
    refine lv_iconst (v := 0) hx hb dX12_sky_37 (by decide) ?_
    exact W.iret (v := 0) hx hb hr (fun t ht hW => ⟨⟨0, (), rfl, (by exact (rg_t (a := 0) (by decide) (by first | decide | omega) (by first | decide | omega))), by (try dsimp only); rw [ht]; exact ⟨hT, hF⟩⟩, hS.F ht⟩) hS.2.2 dX12_sky_38
  · have t19 : r2.toInt ≠ 0 := ti_ne c8 rfl (by decide)
    have t20 : (40000 : Int32).toInt = 40000 := by decide
    have t21 : (0 : Int32).toInt = 0 := by decide
    have t22 : (0 : Int32).toInt ≤ p0.toInt ∧ p0.toInt ≤ (40000 : Int32).toInt := hi6 ((bit_of ⟨by omega, by omega⟩).resolve_left c8)
    refine lv_iload_n hx hb dX12_sky_16 rfl (lv_at hl 2 rfl) ?_
    refine lv_iconst (v := 0) hx hb dX12_sky_17 (by decide) ?_
    refine lv_iconst (v := 2) hx hb dX12_sky_18 (by decide) ?_
    have hFc := gA_free hG hA hS
    refine va_calli (va_runS (As := [.int p1, .int 0, .int 2]) (rest := [.ref o0]) ⟨hx, hb, hml, hown, hts⟩ (s_in l dC dI kA adK adV G H q wZ wN wH wB wC wL wK wU wV PI im PM PT lS lB lE lN p1 0 2 hT hgz hgn hgh hgb hgc hgi hgu) (va_cwS 3 hts (goodIn_app (goodIn_r _ [4, 5, 6] rfl (by decide +kernel)) (goodIn_ca (goodIn_r _ [3] rfl (by decide +kernel)) (bs_in _ _))) rfl rfl rfl (by decide +kernel) ⟨(Nat.le_of_ble_eq_true rfl), (Nat.le_of_ble_eq_true rfl)⟩) ⟨fun a U g mk q => by obtain ⟨q0, q1, qK, qE⟩ := q; exact ⟨q0, q1, va_K.moved (u := U) (U := U.calling g mk a) (Vm.Alike.refl U.vm) qK, EVS.blind g mk a qE⟩, fun U hU hW => ⟨rfl, hU, va_K.moved hW.alike hK, hE.call hS hFc hU hW⟩⟩ rfl rfl hl.1 rfl (lv_room (Nat.le_of_ble_eq_true rfl)) dX12_sky_19 ⟨(Nat.le_of_ble_eq_true rfl), (Nat.le_of_ble_eq_true rfl)⟩) hS (fun q _ h => hFc q h) hFc (fun r23 u t H locs ht hvm hw24 hB _ _ hS => ?_)
    obtain ⟨hT, hF1⟩ := hB
    rw [ht] at hT hF1
    have hF := hF.more hF1 (by decide)
    try dsimp only at hw24
    obtain ⟨h26, hi27, hi28⟩ := hw24
    refine lv_if_ne (tgt := 29) hx hb dX12_sky_22 (by decide) (fun c29 => ?_) (fun c29 => ?_)
    · have t30 : r23.toInt ≠ 0 := ti_ne c29 rfl (by decide)
      have t31 : (2 : Int32).toInt = 2 := by decide
      have t32 : (0 : Int32).toInt = 0 := by decide
      have t33 : (0 : Int32).toInt ≤ p1.toInt ∧ p1.toInt ≤ (2 : Int32).toInt := hi27 ((bit_of ⟨by omega, by omega⟩).resolve_left c29)
      refine lv_iconst (v := 0) hx hb dX12_sky_29 (by decide) ?_
      refine lv_iconst (v := 1) hx hb dX12_sky_30 (by decide) ?_
      have hFc := gA_free hG hA hS
      refine va_calli (va_runV (As := [.int 0, .int 1]) (rest := []) ⟨hx, hb, hml, hown, hts⟩ (s_throwsIf l dC dI kA adK adV G H q wZ wN wH wB wC wL wK wU wV PI im PM PT lS lB lE lN o0 0 1 hT hr_o0 (rg_t (a := 0) (by decide) (by first | decide | omega) (by first | decide | omega)) hgz hgn hgh hgb hgc hgi hgu) (cwV 2 hts (goodIn_app (goodIn_r _ [8, 9, 10, 6] rfl (by decide +kernel)) (goodIn_ca (goodIn_r _ [7, 1] rfl (by decide +kernel)) (bs_in _ _))) rfl rfl rfl (by decide +kernel) ⟨(Nat.le_of_ble_eq_true rfl), (Nat.le_of_ble_eq_true rfl)⟩) ⟨fun a U g mk q => by obtain ⟨q0, q1, qK, qE⟩ := q; exact ⟨q0, q1, va_K.moved (u := U) (U := U.calling g mk a) (Vm.Alike.refl U.vm) qK, EVS.blind g mk a qE⟩, gH_rc hK hT hr_o0 shm_0 rfl, fun U hU hW => ⟨rfl, hU, va_K.moved hW.alike hK, hE.call hS hFc hU hW⟩⟩ rfl rfl hl.1 rfl (lv_room (Nat.le_of_ble_eq_true rfl)) dX12_sky_31 ⟨(Nat.le_of_ble_eq_true rfl), (Nat.le_of_ble_eq_true rfl)⟩) hS (fun q _ h => hFc q h) hFc (fun r34 u t H locs ht hvm hw35 hB _ _ hS => ?_)
      obtain ⟨hT, hF1⟩ := hB
      rw [ht] at hT hF1
      have hF := hF.more hF1 (by decide)
      try dsimp only at hw35
      obtain ⟨h37, hd38⟩ := hw35
      obtain rfl : (0 : Int32) = r34 := hd38.symm
      refine lv_if_eq (tgt := 39) hx hb dX12_sky_34 (by decide) (fun c39 => ?_) (fun c39 => absurd c39 (by decide))
      refine lv_iload_n hx hb dX12_sky_39 rfl (lv_at hl 2 rfl) ?_
      refine lv_if_ne (tgt := 51) hx hb dX12_sky_40 (by decide) (fun c40 => ?_) (fun c40 => ?_)
      · have t41 : p1.toInt ≠ 0 := ti_ne c40 rfl (by decide)
        refine lv_iload_n hx hb dX12_sky_51 rfl (lv_at hl 2 rfl) ?_
        refine lv_iconst (v := 1) hx hb dX12_sky_52 (by decide) ?_
        refine lv_icmp_ne (tgt := 64) hx hb dX12_sky_53 (by decide) (fun c42 => ?_) (fun c42 => ?_)
        · have t43 : p1.toInt ≠ 1 := ti_ne c42 rfl (by decide)
          refine lv_aload_n hx hb dX12_sky_64 rfl (lv_at hl 0 rfl) ?_
          refine lv_iload_n hx hb dX12_sky_65 rfl (lv_at hl 1 rfl) ?_
          have hFc := gA_free hG hA hS
          refine va_calli (va_runV (As := [.int p0]) (rest := []) ⟨hx, hb, hml, hown, hts⟩ (s_rain l dC dI kA adK adV G H q wZ wN wH wB wC wL wK wU wV PI im PM PT lS lB lE lN o0 p0 hT hr_o0 hgz hgn hgh hgb hgc hgi hgu) (cwV 1 hts (goodIn_app (goodIn_r _ [17, 18, 19, 6] rfl (by decide +kernel)) (goodIn_ca (goodIn_r _ [11, 12, 13, 14, 15, 16, 6] rfl (by decide +kernel)) (bs_in _ _))) rfl rfl rfl (by decide +kernel) ⟨(Nat.le_of_ble_eq_true rfl), (Nat.le_of_ble_eq_true rfl)⟩) ⟨fun a U g mk q => by obtain ⟨q0, q1, qK, qE⟩ := q; exact ⟨q0, q1, va_K.moved (u := U) (U := U.calling g mk a) (Vm.Alike.refl U.vm) qK, EVS.blind g mk a qE⟩, gH_rc hK hT hr_o0 shm_0 rfl, fun U hU hW => ⟨rfl, hU, va_K.moved hW.alike hK, hE.call hS hFc hU hW⟩⟩ rfl rfl hl.1 rfl (lv_room (Nat.le_of_ble_eq_true rfl)) dX12_sky_66 ⟨(Nat.le_of_ble_eq_true rfl), (Nat.le_of_ble_eq_true rfl)⟩) hS (fun q _ h => hFc q h) hFc (fun r44 u t H locs ht hvm hw45 hB _ _ hS => ?_)
          obtain ⟨hT, hF1⟩ := hB
          rw [ht] at hT hF1
          have hF := hF.more hF1 (by decide)
          try dsimp only at hw45
          have h46 := hw45
          exact W.iret (v := r44) hx hb hr (fun t ht hW => ⟨⟨r44, (), rfl, (by exact (by have q8 := ti_all r44; omega)), by (try dsimp only); rw [ht]; exact ⟨hT, hF⟩⟩, hS.F ht⟩) hS.2.2 dX12_sky_69
        · have t47 : p1.toInt = 1 := ti_eq c42 rfl (by decide)
          refine lv_aload_n hx hb dX12_sky_56 rfl (lv_at hl 0 rfl) ?_
          refine lv_iload_n hx hb dX12_sky_57 rfl (lv_at hl 1 rfl) ?_
          have hFc := gA_free hG hA hS
          refine va_calli (va_runV (As := [.int p0]) (rest := []) ⟨hx, hb, hml, hown, hts⟩ (s_wind l dC dI kA adK adV G H q wZ wN wH wB wC wL wK wU wV PI im PM PT lS lB lE lN o0 p0 hT hr_o0 hgz hgn hgh hgb hgc hgi hgu) (cwV 1 hts (goodIn_app (goodIn_r _ [25, 26, 27, 6] rfl (by decide +kernel)) (goodIn_ca (goodIn_r _ [20, 12, 13, 14, 15, 16, 6, 21, 22, 23, 24] rfl (by decide +kernel)) (bs_in _ _))) rfl rfl rfl (by decide +kernel) ⟨(Nat.le_of_ble_eq_true rfl), (Nat.le_of_ble_eq_true rfl)⟩) ⟨fun a U g mk q => by obtain ⟨q0, q1, qK, qE⟩ := q; exact ⟨q0, q1, va_K.moved (u := U) (U := U.calling g mk a) (Vm.Alike.refl U.vm) qK, EVS.blind g mk a qE⟩, gH_rc hK hT hr_o0 shm_0 rfl, fun U hU hW => ⟨rfl, hU, va_K.moved hW.alike hK, hE.call hS hFc hU hW⟩⟩ rfl rfl hl.1 rfl (lv_room (Nat.le_of_ble_eq_true rfl)) dX12_sky_58 ⟨(Nat.le_of_ble_eq_true rfl), (Nat.le_of_ble_eq_true rfl)⟩) hS (fun q _ h => hFc q h) hFc (fun r48 u t H locs ht hvm hw49 hB _ _ hS => ?_)
          obtain ⟨hT, hF1⟩ := hB
          rw [ht] at hT hF1
          have hF := hF.more hF1 (by decide)
          try dsimp only at hw49
          have h50 := hw49
          refine lv_goto (tgt := 69) hx hb dX12_sky_61 (by decide) ?_
          exact W.iret (v := r48) hx hb hr (fun t ht hW => ⟨⟨r48, (), rfl, (by exact (by have q8 := ti_all r48; omega)), by (try dsimp only); rw [ht]; exact ⟨hT, hF⟩⟩, hS.F ht⟩) hS.2.2 dX12_sky_69
      · have t51 : p1.toInt = 0 := ti_eq c40 rfl (by decide)
        refine lv_aload_n hx hb dX12_sky_43 rfl (lv_at hl 0 rfl) ?_
        refine lv_iload_n hx hb dX12_sky_44 rfl (lv_at hl 1 rfl) ?_
        have hFc := gA_free hG hA hS
        refine va_calli (va_runV (As := [.int p0]) (rest := []) ⟨hx, hb, hml, hown, hts⟩ (s_outside l dC dI kA adK adV G H q wZ wN wH wB wC wL wK wU wV PI im PM PT lS lB lE lN o0 p0 hT hr_o0 (by have q8 := ti_all p0; omega) hgz hgn hgh hgb hgc hgi hgu) (cwV 1 hts (goodIn_app (goodIn_r _ [29, 30, 31, 6] rfl (by decide +kernel)) (goodIn_ca (goodIn_r _ [28, 13, 3, 4, 5, 6] rfl (by decide +kernel)) (bs_in _ _))) rfl rfl rfl (by decide +kernel) ⟨(Nat.le_of_ble_eq_true rfl), (Nat.le_of_ble_eq_true rfl)⟩) ⟨fun a U g mk q => by obtain ⟨q0, q1, qK, qE⟩ := q; exact ⟨q0, q1, va_K.moved (u := U) (U := U.calling g mk a) (Vm.Alike.refl U.vm) qK, EVS.blind g mk a qE⟩, gH_rc hK hT hr_o0 shm_0 rfl, fun U hU hW => ⟨rfl, hU, va_K.moved hW.alike hK, hE.call hS hFc hU hW⟩⟩ rfl rfl hl.1 rfl (lv_room (Nat.le_of_ble_eq_true rfl)) dX12_sky_45 ⟨(Nat.le_of_ble_eq_true rfl), (Nat.le_of_ble_eq_true rfl)⟩) hS (fun q _ h => hFc q h) hFc (fun r52 u t H locs ht hvm hw53 hB _ _ hS => ?_)
        obtain ⟨hT, hF1⟩ := hB
        rw [ht] at hT hF1
        have hF := hF.more hF1 (by decide)
        try dsimp only at hw53
        have h54 := hw53
        refine lv_goto (tgt := 69) hx hb dX12_sky_48 (by decide) ?_
        exact W.iret (v := r52) hx hb hr (fun t ht hW => ⟨⟨r52, (), rfl, (by exact (by have q8 := ti_all r52; omega)), by (try dsimp only); rw [ht]; exact ⟨hT, hF⟩⟩, hS.F ht⟩) hS.2.2 dX12_sky_69
    · have t55 : r23.toInt = 0 := ti_eq c29 rfl (by decide)
      have t56 : (2 : Int32).toInt = 2 := by decide
      have t57 : (0 : Int32).toInt = 0 := by decide
      have t58 : p1.toInt < (0 : Int32).toInt ∨ (2 : Int32).toInt < p1.toInt := hi28 c29
      refine lv_iconst (v := 1) hx hb dX12_sky_25 (by decide) ?_
      refine lv_goto (tgt := 30) hx hb dX12_sky_26 (by decide) ?_
      refine lv_iconst (v := 1) hx hb dX12_sky_30 (by decide) ?_
      have hFc := gA_free hG hA hS
      refine va_calli (va_runV (As := [.int 1, .int 1]) (rest := []) ⟨hx, hb, hml, hown, hts⟩ (s_throwsIf l dC dI kA adK adV G H q wZ wN wH wB wC wL wK wU wV PI im PM PT lS lB lE lN o0 1 1 hT hr_o0 (rg_t (a := 1) (by decide) (by first | decide | omega) (by first | decide | omega)) hgz hgn hgh hgb hgc hgi hgu) (cwV 2 hts (goodIn_app (goodIn_r _ [8, 9, 10, 6] rfl (by decide +kernel)) (goodIn_ca (goodIn_r _ [7, 1] rfl (by decide +kernel)) (bs_in _ _))) rfl rfl rfl (by decide +kernel) ⟨(Nat.le_of_ble_eq_true rfl), (Nat.le_of_ble_eq_true rfl)⟩) ⟨fun a U g mk q => by obtain ⟨q0, q1, qK, qE⟩ := q; exact ⟨q0, q1, va_K.moved (u := U) (U := U.calling g mk a) (Vm.Alike.refl U.vm) qK, EVS.blind g mk a qE⟩, gH_rc hK hT hr_o0 shm_0 rfl, fun U hU hW => ⟨rfl, hU, va_K.moved hW.alike hK, hE.call hS hFc hU hW⟩⟩ rfl rfl hl.1 rfl (lv_room (Nat.le_of_ble_eq_true rfl)) dX12_sky_31 ⟨(Nat.le_of_ble_eq_true rfl), (Nat.le_of_ble_eq_true rfl)⟩) hS (fun q _ h => hFc q h) hFc (fun r59 u t H locs ht hvm hw60 hB _ _ hS => ?_)
      obtain ⟨hT, hF1⟩ := hB
      rw [ht] at hT hF1
      have hF := hF.more hF1 (by decide)
      try dsimp only at hw60
      obtain ⟨h62, hd63⟩ := hw60
      obtain rfl : (1 : Int32) = r59 := hd63.symm
      refine lv_if_eq (tgt := 39) hx hb dX12_sky_34 (by decide) (fun c64 => absurd c64 (by decide)) (fun c64 => ?_)
      refine lv_iconst (v := 0) hx hb dX12_sky_37 (by decide) ?_
      exact W.iret (v := 0) hx hb hr (fun t ht hW => ⟨⟨0, (), rfl, (by exact (rg_t (a := 0) (by decide) (by first | decide | omega) (by first | decide | omega))), by (try dsimp only); rw [ht]; exact ⟨hT, hF⟩⟩, hS.F ht⟩) hS.2.2 dX12_sky_38
