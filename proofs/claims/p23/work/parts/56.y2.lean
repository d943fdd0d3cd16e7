def w_n_X0 : List Cond := .code yX0_init cX0_init 1 none :: (HAppend.hAppend (α := List Cond) (β := List Cond) (γ := List Cond) [.methodLink RX0 3 objectInit, .instanceMethod objectInit, .code objectInit ⟨#[0xb1]⟩ 1 none, .classLink RX0 9 RX7, .fieldLink RX0 11 "SeaLand$Board" "settlers" "[LSeaLand$Settler;", .arrayClass .int, .fieldLink RX0 17 "SeaLand$Board" "farmOf" "[I", .fieldLink RX0 21 "SeaLand$Board" "crops" "[I", .arrayClass .boolean, .fieldLink RX0 24 "SeaLand$Board" "held" "[Z", .fieldLink RX0 28 "SeaLand$Board" "harvested" "[Z", .arrayClass .long, .fieldLink RX0 33 "SeaLand$Board" "facts" "[J", .fieldLink RX0 37 "SeaLand$Board" "marks" "[I", .classLink RX0 31 RX4, .instantiable RX4 14, .initialized RX4, .code yX4_init cX4_init 1 none, .methodLink RX4 5 objectInit, .fieldLink RX4 11 "SeaLand$Law" "things" "[I", .fieldLink RX4 15 "SeaLand$Law" "begins" "[I", .fieldLink RX4 18 "SeaLand$Law" "kinds" "[I", .fieldLink RX4 21 "SeaLand$Law" "firsts" "[I", .fieldLink RX4 24 "SeaLand$Law" "seconds" "[I", .fieldLink RX4 27 "SeaLand$Law" "froms" "[I", .fieldLink RX4 30 "SeaLand$Law" "tos" "[I", .fieldLink RX4 33 "SeaLand$Law" "stepFrom" "[I", .fieldLink RX4 36 "SeaLand$Law" "stepTo" "[I", .fieldLink RX4 39 "SeaLand$Law" "steps" "[I", .fieldLink RX4 42 "SeaLand$Law" "stack" "[J", .instanceMethod yX4_init, .fieldLink RX0 41 "SeaLand$Board" "force" "LSeaLand$Law;", .fieldLink RX0 45 "SeaLand$Board" "proposed" "LSeaLand$Law;", .fieldLink RX0 48 "SeaLand$Board" "spare" "LSeaLand$Law;", .fieldLink RX0 51 "SeaLand$Board" "fault" "I", .code yJ7_fill_53178 cJ7_fill_53178 4 none, .methodLink RX0 55 yJ7_fill_53178, .static yJ7_fill_53178, .initialized RJ7] bs2)
set_option maxHeartbeats 4000000 in
set_option maxRecDepth 100000 in
theorem n_X0 (l : Launch) (dC : Nat → ClassId) (dI : Nat → Nat → Nat) (kA : Nat → ClassId) (adK adV : Nat → Nat) (G : gT) (H0 : Heap)  (o0 : Nat) (hT : gH (dC, dI) kA (SHc 0 0) G H0) (hr_o0 : G o0 = some 103) (hm_11 : el H0 o0 (dI 3 11) = some (.int 0)) : Met l yX0_init w_n_X0 ({ frames := 2, cells := 43, slots := 4419, locals := 58 }) (va_Pc [.ref o0] (fun U => U.heap = H0 ∧ va_K (dC, dI) vwCl (tyl kA) U ∧ EVC adK adV (gA G H0.size) U U.heap ∧ AO U)) (va_Qv (fun (u : gT) => True) (fun (G1 : gT) (t : State) => gH (dC, dI) kA (SHc 0 0) G1 t.heap ∧ G1 o0 = some 3 ∧ gY ([7, 40, 41, 42, 43, 44, 45, 46, 47, 48, 49, 50, 51, 52, 53, 54, 55, 56, 57, 107] : List Nat) 3 o0 G G1 H0 t.heap ∧ (∃ w, ∀ b, G1 b = some 51 → G b = some 51 ∨ b = w) ∧ el t.heap o0 (dI 3 10) = some (.int (-1)) ∧ el t.heap o0 (dI 3 11) = some (.int 0)) (gA G H0.size)) 43 4419 (gA G H0.size) := by
  refine Met.ofW (cc := cX0_init) (maxL := 1) (ret := none) (by decide) rfl ?_
  intro p e s m args below meth c s₁ B hml hv
  obtain ⟨rfl, hH0, hK, hE, hAO⟩ := hv
  have hx := B.exec
  have hb := B.bytes
  have hr := B.returns
  have hts := atoms_spec (ws := w_n_X0) B.pre
  have hown : s.vm.findClass RX0 = some m.cls := findClass_of_methodNamed B.named
  have hlocks := B.notSynchronized
  have hin : meth.name = "<init>" := (name_of_methodNamed B.named B.method).1
  subst hH0
  generalize hAe : gA G s.heap.size = A at hE ⊢
  have hA : ∀ q : Nat, s.heap.size ≤ q → A q := fun q h => by rw [← hAe]; exact Or.inr h
  have hG := gA_of hAe
  have hS : va_S A s.heap s.heap [] := va_S.rf
  have hl := lv_entry ([.ref o0]) (n := 1) (Nat.le_of_ble_eq_true rfl)
  rw [lg_entry_eq]
  generalize (lg_sl ([.ref o0]) ++ List.replicate (1 - (lg_sl ([.ref o0])).length) Slot.unset).toArray = ls at hl ⊢
  have hl : lv_has ls 1 [(0, .ref o0)] := hl
  have hG0 := hG
  have hY : gY ([7, 40, 41, 42, 43, 44, 45, 46, 47, 48, 49, 50, 51, 52, 53, 54, 55, 56, 57, 107] : List Nat) 3 o0 G G s.heap s.heap := gY.rf hT
  have hU_51 : ∀ b, G b = some 51 → G b = some 51 := fun _ h => h
  have hAo := hG _ _ hr_o0
  refine lv_aload_n hx hb dX0_init_0 rfl (lv_at hl 0 rfl) ?_
  refine W.objInit hx hb hown (ht_at2 hts 0 rfl) (ht_at2 hts 1 rfl) (ht_at2 hts 2 rfl) rfl (by rw [hml]; exact hl.1) rfl dX0_init_1 (Nat.le_of_ble_eq_true rfl) (Nat.le_of_ble_eq_true rfl) ?_
  refine W.eq (g2 := F0 m 4 ls []) rfl ?_
  refine lv_aload_n hx hb dX0_init_4 rfl (lv_at hl 0 rfl) ?_
  refine lv_bipush (v := 60) hx hb dX0_init_5 (by decide) ?_
  have hz9 := hS.1
  refine tw_newq hx hb hown (ht_at2 hts 3 rfl) (hAO _ (by decide)) hK mon_c hT hS hG hA (shc_51) rfl (fun _ _ _ => ⟨fun h => absurd h (by omega), ⟨none, rfl, fun _ h => by cases h⟩⟩) (by decide) rfl (Nat.le_of_ble_eq_true rfl) (Nat.le_of_ble_eq_true rfl) (Nat.le_of_ble_eq_true rfl) dX0_init_7 (fun q1 G1 H hq9 eG hz1 hz2 hT hx9 hG hm9 hS => ?_)
  have hn_q1 : s.heap.size ≤ q1 := Nat.le_trans hz9 (Nat.le_of_eq hz2)
  have hY := hY.new hn_q1 eG hx9 (by decide)
  have hU_51 := gT_new1 hU_51 eG
  have m2 := (el_kept (hx9 _ _ hr_o0).2).trans hm_11
  have hg3 := (hx9 _ _ hr_o0).1
  have hg4 : G1 q1 = some 51 := by rw [eG]; exact gU_at
  refine tw_putF (v := .ref q1) (ty := (.array (.object "SeaLand$Settler"))) hx hb hts bF2_X0 tyX0 tyX0_ok nmX0 hown hK hT hG hS hg3 shc_103 rfl 0 (by decide) (ht_at2 hts 4 rfl) (fun _ h9 => h9) rfl hin rfl (by decide +kernel) rfl rfl (gl_at rfl ⟨some _, rfl, fun _ h => by cases h; exact hg4⟩) dX0_init_10 (fun H locs hT oq m5 oj hS => ?_)
  have hY := hY.put oq
  have m6 := (oj 11 (by decide) (by decide)).trans m2
  refine lv_aload_n hx hb dX0_init_13 rfl (lv_at hl 0 rfl) ?_
  refine lv_bipush (v := 96) hx hb dX0_init_14 (by decide) ?_
  have hz9 := hS.1
  refine tw_newa (ty := .int) hx hb (ht_at2 hts 5 rfl) rfl hK mon_c hT hS hG hA (shc_52) rfl (fun _ _ _ => ⟨0, rfl, by decide, by decide⟩) (by decide) rfl (Nat.le_of_ble_eq_true rfl) (Nat.le_of_ble_eq_true rfl) (Nat.le_of_ble_eq_true rfl) dX0_init_16 (fun q7 G2 H hq9 eG hz1 hz2 hT hx9 hG hm9 hS => ?_)
  have hn_q7 : s.heap.size ≤ q7 := Nat.le_trans hz9 (Nat.le_of_eq hz2)
  have hY := hY.new hn_q7 eG hx9 (by decide)
  have hU_51 := gT_new hU_51 eG (by decide)
  have m8 := (el_kept (hx9 _ _ hg3).2).trans m6
  have m9 := (el_kept (hx9 _ _ hg3).2).trans m5
  have hg10 := (hx9 _ _ hg3).1
  have hg11 := (hx9 _ _ hg4).1
  have hg12 : G2 q7 = some 52 := by rw [eG]; exact gU_at
  refine tw_putF (v := .ref q7) (ty := (.array .int)) hx hb hts bF2_X0 tyX0 tyX0_ok nmX0 hown hK hT hG hS hg10 shc_103 rfl 1 (by decide) (ht_at2 hts 6 rfl) (fun _ h9 => h9) rfl hin rfl (by decide +kernel) rfl rfl (gl_at rfl ⟨some _, rfl, fun _ h => by cases h; exact hg12⟩) dX0_init_18 (fun H locs hT oq m13 oj hS => ?_)
  have hY := hY.put oq
  have m14 := (oj 11 (by decide) (by decide)).trans m8
  have m15 := (oj 0 (by decide) (by decide)).trans m9
  refine lv_aload_n hx hb dX0_init_21 rfl (lv_at hl 0 rfl) ?_
  refine lv_bipush (v := 30) hx hb dX0_init_22 (by decide) ?_
  have hz9 := hS.1
  refine tw_newa (ty := .int) hx hb (ht_at2 hts 5 rfl) rfl hK mon_c hT hS hG hA (shc_53) rfl (fun _ _ _ => ⟨0, rfl, by decide, by decide⟩) (by decide) rfl (Nat.le_of_ble_eq_true rfl) (Nat.le_of_ble_eq_true rfl) (Nat.le_of_ble_eq_true rfl) dX0_init_24 (fun q16 G3 H hq9 eG hz1 hz2 hT hx9 hG hm9 hS => ?_)
  have hn_q16 : s.heap.size ≤ q16 := Nat.le_trans hz9 (Nat.le_of_eq hz2)
  have hY := hY.new hn_q16 eG hx9 (by decide)
  have hU_51 := gT_new hU_51 eG (by decide)
  have m17 := (el_kept (hx9 _ _ hg10).2).trans m14
  have m18 := (el_kept (hx9 _ _ hg10).2).trans m15
  have m19 := (el_kept (hx9 _ _ hg10).2).trans m13
  have hg20 := (hx9 _ _ hg10).1
  have hg21 := (hx9 _ _ hg11).1
  have hg22 := (hx9 _ _ hg12).1
  have hg23 : G3 q16 = some 53 := by rw [eG]; exact gU_at
  refine tw_putF (v := .ref q16) (ty := (.array .int)) hx hb hts bF2_X0 tyX0 tyX0_ok nmX0 hown hK hT hG hS hg20 shc_103 rfl 2 (by decide) (ht_at2 hts 7 rfl) (fun _ h9 => h9) rfl hin rfl (by decide +kernel) rfl rfl (gl_at rfl ⟨some _, rfl, fun _ h => by cases h; exact hg23⟩) dX0_init_26 (fun H locs hT oq m24 oj hS => ?_)
  have hY := hY.put oq
  have m25 := (oj 11 (by decide) (by decide)).trans m17
  have m26 := (oj 0 (by decide) (by decide)).trans m18
  have m27 := (oj 1 (by decide) (by decide)).trans m19
  refine lv_aload_n hx hb dX0_init_29 rfl (lv_at hl 0 rfl) ?_
  refine lv_bipush (v := 30) hx hb dX0_init_30 (by decide) ?_
  have hz9 := hS.1
  refine tw_newa (ty := .boolean) hx hb (ht_at2 hts 8 rfl) rfl hK mon_c hT hS hG hA (shc_54) rfl (fun _ _ _ => ⟨0, rfl, by decide, by decide⟩) (by decide) rfl (Nat.le_of_ble_eq_true rfl) (Nat.le_of_ble_eq_true rfl) (Nat.le_of_ble_eq_true rfl) dX0_init_32 (fun q28 G4 H hq9 eG hz1 hz2 hT hx9 hG hm9 hS => ?_)
  have hn_q28 : s.heap.size ≤ q28 := Nat.le_trans hz9 (Nat.le_of_eq hz2)
  have hY := hY.new hn_q28 eG hx9 (by decide)
  have hU_51 := gT_new hU_51 eG (by decide)
  have m29 := (el_kept (hx9 _ _ hg20).2).trans m25
  have m30 := (el_kept (hx9 _ _ hg20).2).trans m26
  have m31 := (el_kept (hx9 _ _ hg20).2).trans m27
  have m32 := (el_kept (hx9 _ _ hg20).2).trans m24
  have hg33 := (hx9 _ _ hg20).1
  have hg34 := (hx9 _ _ hg21).1
  have hg35 := (hx9 _ _ hg22).1
  have hg36 := (hx9 _ _ hg23).1
  have hg37 : G4 q28 = some 54 := by rw [eG]; exact gU_at
  refine tw_putF (v := .ref q28) (ty := (.array .boolean)) hx hb hts bF2_X0 tyX0 tyX0_ok nmX0 hown hK hT hG hS hg33 shc_103 rfl 3 (by decide) (ht_at2 hts 9 rfl) (fun _ h9 => h9) rfl hin rfl (by decide +kernel) rfl rfl (gl_at rfl ⟨some _, rfl, fun _ h => by cases h; exact hg37⟩) dX0_init_34 (fun H locs hT oq m38 oj hS => ?_)
  have hY := hY.put oq
  have m39 := (oj 11 (by decide) (by decide)).trans m29
  have m40 := (oj 0 (by decide) (by decide)).trans m30
  have m41 := (oj 1 (by decide) (by decide)).trans m31
  have m42 := (oj 2 (by decide) (by decide)).trans m32
  refine lv_aload_n hx hb dX0_init_37 rfl (lv_at hl 0 rfl) ?_
  refine lv_iconst (v := 5) hx hb dX0_init_38 (by decide) ?_
  have hz9 := hS.1
  refine tw_newa (ty := .boolean) hx hb (ht_at2 hts 8 rfl) rfl hK mon_c hT hS hG hA (shc_55) rfl (fun _ _ _ => ⟨0, rfl, by decide, by decide⟩) (by decide) rfl (Nat.le_of_ble_eq_true rfl) (Nat.le_of_ble_eq_true rfl) (Nat.le_of_ble_eq_true rfl) dX0_init_39 (fun q43 G5 H hq9 eG hz1 hz2 hT hx9 hG hm9 hS => ?_)
  have hn_q43 : s.heap.size ≤ q43 := Nat.le_trans hz9 (Nat.le_of_eq hz2)
  have hY := hY.new hn_q43 eG hx9 (by decide)
  have hU_51 := gT_new hU_51 eG (by decide)
  have m44 := (el_kept (hx9 _ _ hg33).2).trans m39
  have m45 := (el_kept (hx9 _ _ hg33).2).trans m40
  have m46 := (el_kept (hx9 _ _ hg33).2).trans m41
  have m47 := (el_kept (hx9 _ _ hg33).2).trans m42
  have m48 := (el_kept (hx9 _ _ hg33).2).trans m38
  have hg49 := (hx9 _ _ hg33).1
  have hg50 := (hx9 _ _ hg34).1
  have hg51 := (hx9 _ _ hg35).1
  have hg52 := (hx9 _ _ hg36).1
  have hg53 := (hx9 _ _ hg37).1
  have hg54 : G5 q43 = some 55 := by rw [eG]; exact gU_at
  refine tw_putF (v := .ref q43) (ty := (.array .boolean)) hx hb hts bF2_X0 tyX0 tyX0_ok nmX0 hown hK hT hG hS hg49 shc_103 rfl 4 (by decide) (ht_at2 hts 10 rfl) (fun _ h9 => h9) rfl hin rfl (by decide +kernel) rfl rfl (gl_at rfl ⟨some _, rfl, fun _ h => by cases h; exact hg54⟩) dX0_init_41 (fun H locs hT oq m55 oj hS => ?_)
  have hY := hY.put oq
  have m56 := (oj 11 (by decide) (by decide)).trans m44
  have m57 := (oj 0 (by decide) (by decide)).trans m45
  have m58 := (oj 1 (by decide) (by decide)).trans m46
  have m59 := (oj 2 (by decide) (by decide)).trans m47
  have m60 := (oj 3 (by decide) (by decide)).trans m48
  refine lv_aload_n hx hb dX0_init_44 rfl (lv_at hl 0 rfl) ?_
  refine lv_bipush (v := 10) hx hb dX0_init_45 (by decide) ?_
  have hz9 := hS.1
  refine tw_newa (ty := .long) hx hb (ht_at2 hts 11 rfl) rfl hK mon_c hT hS hG hA (shc_56) rfl (fun _ _ _ => ⟨0, rfl⟩) (by decide) rfl (Nat.le_of_ble_eq_true rfl) (Nat.le_of_ble_eq_true rfl) (Nat.le_of_ble_eq_true rfl) dX0_init_47 (fun q61 G6 H hq9 eG hz1 hz2 hT hx9 hG hm9 hS => ?_)
  have hn_q61 : s.heap.size ≤ q61 := Nat.le_trans hz9 (Nat.le_of_eq hz2)
  have hY := hY.new hn_q61 eG hx9 (by decide)
  have hU_51 := gT_new hU_51 eG (by decide)
  have m62 := (el_kept (hx9 _ _ hg49).2).trans m56
  have m63 := (el_kept (hx9 _ _ hg49).2).trans m57
  have m64 := (el_kept (hx9 _ _ hg49).2).trans m58
  have m65 := (el_kept (hx9 _ _ hg49).2).trans m59
  have m66 := (el_kept (hx9 _ _ hg49).2).trans m60
  have m67 := (el_kept (hx9 _ _ hg49).2).trans m55
  have hg68 := (hx9 _ _ hg49).1
  have hg69 := (hx9 _ _ hg50).1
  have hg70 := (hx9 _ _ hg51).1
  have hg71 := (hx9 _ _ hg52).1
  have hg72 := (hx9 _ _ hg53).1
  have hg73 := (hx9 _ _ hg54).1
  have hg74 : G6 q61 = some 56 := by rw [eG]; exact gU_at
  refine tw_putF (v := .ref q61) (ty := (.array .long)) hx hb hts bF2_X0 tyX0 tyX0_ok nmX0 hown hK hT hG hS hg68 shc_103 rfl 5 (by decide) (ht_at2 hts 12 rfl) (fun _ h9 => h9) rfl hin rfl (by decide +kernel) rfl rfl (gl_at rfl ⟨some _, rfl, fun _ h => by cases h; exact hg74⟩) dX0_init_49 (fun H locs hT oq m75 oj hS => ?_)
  have hY := hY.put oq
  have m76 := (oj 11 (by decide) (by decide)).trans m62
  have m77 := (oj 0 (by decide) (by decide)).trans m63
  have m78 := (oj 1 (by decide) (by decide)).trans m64
  have m79 := (oj 2 (by decide) (by decide)).trans m65
  have m80 := (oj 3 (by decide) (by decide)).trans m66
  have m81 := (oj 4 (by decide) (by decide)).trans m67
  refine lv_aload_n hx hb dX0_init_52 rfl (lv_at hl 0 rfl) ?_
  refine lv_bipush (v := 60) hx hb dX0_init_53 (by decide) ?_
  have hz9 := hS.1
  refine tw_newa (ty := .int) hx hb (ht_at2 hts 5 rfl) rfl hK mon_c hT hS hG hA (shc_57) rfl (fun _ _ _ => ⟨0, rfl, by decide, by decide⟩) (by decide) rfl (Nat.le_of_ble_eq_true rfl) (Nat.le_of_ble_eq_true rfl) (Nat.le_of_ble_eq_true rfl) dX0_init_55 (fun q82 G7 H hq9 eG hz1 hz2 hT hx9 hG hm9 hS => ?_)
  have hn_q82 : s.heap.size ≤ q82 := Nat.le_trans hz9 (Nat.le_of_eq hz2)
  have hY := hY.new hn_q82 eG hx9 (by decide)
  have hU_51 := gT_new hU_51 eG (by decide)
  have m83 := (el_kept (hx9 _ _ hg68).2).trans m76
  have m84 := (el_kept (hx9 _ _ hg68).2).trans m77
  have m85 := (el_kept (hx9 _ _ hg68).2).trans m78
  have m86 := (el_kept (hx9 _ _ hg68).2).trans m79
  have m87 := (el_kept (hx9 _ _ hg68).2).trans m80
  have m88 := (el_kept (hx9 _ _ hg68).2).trans m81
  have m89 := (el_kept (hx9 _ _ hg68).2).trans m75
  have hg90 := (hx9 _ _ hg68).1
  have hg91 := (hx9 _ _ hg69).1
  have hg92 := (hx9 _ _ hg70).1
  have hg93 := (hx9 _ _ hg71).1
  have hg94 := (hx9 _ _ hg72).1
  have hg95 := (hx9 _ _ hg73).1
  have hg96 := (hx9 _ _ hg74).1
  have hg97 : G7 q82 = some 57 := by rw [eG]; exact gU_at
  refine tw_putF (v := .ref q82) (ty := (.array .int)) hx hb hts bF2_X0 tyX0 tyX0_ok nmX0 hown hK hT hG hS hg90 shc_103 rfl 6 (by decide) (ht_at2 hts 13 rfl) (fun _ h9 => h9) rfl hin rfl (by decide +kernel) rfl rfl (gl_at rfl ⟨some _, rfl, fun _ h => by cases h; exact hg97⟩) dX0_init_57 (fun H locs hT oq m98 oj hS => ?_)
  have hY := hY.put oq
  have m99 := (oj 11 (by decide) (by decide)).trans m83
  have m100 := (oj 0 (by decide) (by decide)).trans m84
  have m101 := (oj 1 (by decide) (by decide)).trans m85
  have m102 := (oj 2 (by decide) (by decide)).trans m86
  have m103 := (oj 3 (by decide) (by decide)).trans m87
  have m104 := (oj 4 (by decide) (by decide)).trans m88
  have m105 := (oj 5 (by decide) (by decide)).trans m89
  refine lv_aload_n hx hb dX0_init_60 rfl (lv_at hl 0 rfl) ?_
  have hz9 := hS.1
  refine tw_new hx hb hts bF2_X4 tyX4 tyX4_ok hown (ht_at2 hts 14 rfl) (ht_at2 hts 15 rfl) (ht_at2 hts 16 rfl) hK mon_c hT hS hG hA (shc_107) rfl nd_107 (Nat.le_of_ble_eq_true rfl) (Nat.le_of_ble_eq_true rfl) dX0_init_61 (fun q106 G8 H hq9 eG hz1 hz2 hT hx9 hG hm9 hS => ?_)
  have hn_q106 : s.heap.size ≤ q106 := Nat.le_trans hz9 (Nat.le_of_eq hz2)
  have hY := hY.new hn_q106 eG hx9 (by decide)
  have hU_51 := gT_new hU_51 eG (by decide)
  have m107 := (el_kept (hx9 _ _ hg90).2).trans m99
  have m108 := (el_kept (hx9 _ _ hg90).2).trans m100
  have m109 := (el_kept (hx9 _ _ hg90).2).trans m101
  have m110 := (el_kept (hx9 _ _ hg90).2).trans m102
  have m111 := (el_kept (hx9 _ _ hg90).2).trans m103
  have m112 := (el_kept (hx9 _ _ hg90).2).trans m104
  have m113 := (el_kept (hx9 _ _ hg90).2).trans m105
  have m114 := (el_kept (hx9 _ _ hg90).2).trans m98
  have hg115 := (hx9 _ _ hg90).1
  have hg116 := (hx9 _ _ hg91).1
  have hg117 := (hx9 _ _ hg92).1
  have hg118 := (hx9 _ _ hg93).1
  have hg119 := (hx9 _ _ hg94).1
  have hg120 := (hx9 _ _ hg95).1
  have hg121 := (hx9 _ _ hg96).1
  have hg122 := (hx9 _ _ hg97).1
  have hg123 : G8 q106 = some 107 := by rw [eG]; exact gU_at
  refine lv_dup hx hb dX0_init_64 rfl ?_
  have hFc := gA_free hG hA hS
  have hz9 := hS.1
  refine va_callv (va_runIN (As := []) (rest := [.ref q106, .ref o0]) ⟨hx, hb, hml, hown, hts⟩ (n_X4 l dC dI kA adK adV G8 H 0 0 q106 hT hg123 (by omega) (by omega)) ⟨va_cnB 0 hts (goodIn_ca (goodIn_r _ [18, 19, 2, 3, 6, 20, 21, 22, 23, 24, 25, 26, 27, 28, 29, 12, 30] rfl (by decide +kernel)) (bs2_in _ _)) rfl rfl rfl (hE.nm 104 rfl) (ht_at2 hts 16 rfl) (by decide +kernel) ⟨(Nat.le_of_ble_eq_true rfl), (Nat.le_of_ble_eq_true rfl)⟩, rfl, (ht_at2 hts 30 rfl)⟩ ⟨fun a U g mk q => by obtain ⟨q0, q1, qK, qE, qA⟩ := q; exact ⟨q0, q1, va_K.moved (u := U) (U := U.calling g mk a) (Vm.Alike.refl U.vm) qK, EVC.blind g mk a qE, AO.blind g mk a qA⟩, fun U hU hW => ⟨rfl, hU, va_K.moved hW.alike hK, hE.call hS hFc hU hW, hAO.call hW⟩⟩ rfl rfl hl.1 rfl (lv_room (Nat.le_of_ble_eq_true rfl)) dX0_init_65 ⟨(Nat.le_of_ble_eq_true rfl), (Nat.le_of_ble_eq_true rfl)⟩) hS (fun q _ h => hFc q h) hFc (fun G9 t H locs ht hvm _ hB _ _ hS => ?_)
  (try dsimp only at hB); rw [ht] at hB; obtain ⟨hT, hg124, hY1⟩ := hB
  have hY := hY.call hn_q106 hY1 hz9 (by decide)
  have hG := hY.A hG0 hAo hA
  have hU_51 := gT_call hU_51 hY1 (by decide)
  have m125 := (el_kept (hY1.1 _ _ (gne hg115 hg123 (by decide)) hg115).2).trans m107
  have m126 := (el_kept (hY1.1 _ _ (gne hg115 hg123 (by decide)) hg115).2).trans m108
  have m127 := (el_kept (hY1.1 _ _ (gne hg115 hg123 (by decide)) hg115).2).trans m109
  have m128 := (el_kept (hY1.1 _ _ (gne hg115 hg123 (by decide)) hg115).2).trans m110
  have m129 := (el_kept (hY1.1 _ _ (gne hg115 hg123 (by decide)) hg115).2).trans m111
  have m130 := (el_kept (hY1.1 _ _ (gne hg115 hg123 (by decide)) hg115).2).trans m112
  have m131 := (el_kept (hY1.1 _ _ (gne hg115 hg123 (by decide)) hg115).2).trans m113
  have m132 := (el_kept (hY1.1 _ _ (gne hg115 hg123 (by decide)) hg115).2).trans m114
  have hg133 := (hY1.1 _ _ (gne hg115 hg123 (by decide)) hg115).1
  have hg134 := (hY1.1 _ _ (gne hg116 hg123 (by decide)) hg116).1
  have hg135 := (hY1.1 _ _ (gne hg117 hg123 (by decide)) hg117).1
  have hg136 := (hY1.1 _ _ (gne hg118 hg123 (by decide)) hg118).1
  have hg137 := (hY1.1 _ _ (gne hg119 hg123 (by decide)) hg119).1
  have hg138 := (hY1.1 _ _ (gne hg120 hg123 (by decide)) hg120).1
  have hg139 := (hY1.1 _ _ (gne hg121 hg123 (by decide)) hg121).1
  have hg140 := (hY1.1 _ _ (gne hg122 hg123 (by decide)) hg122).1
  refine tw_put (v := .ref q106) (ty := (.object "SeaLand$Law")) hx hb hts bF2_X0 tyX0 tyX0_ok nmX0 hown hK hT hG hS hg133 shc_103 rfl 7 (by decide) (ht_at2 hts 31 rfl) (fun _ h9 => h9) rfl (by decide +kernel) rfl rfl (gl_at rfl ⟨some _, rfl, fun _ h => by cases h; exact hg124⟩) dX0_init_68 (fun H locs hT oq m141 oj hS => ?_)
  have hY := hY.put oq
  have m142 := (oj 11 (by decide) (by decide)).trans m125
  have m143 := (oj 0 (by decide) (by decide)).trans m126
  have m144 := (oj 1 (by decide) (by decide)).trans m127
  have m145 := (oj 2 (by decide) (by decide)).trans m128
  have m146 := (oj 3 (by decide) (by decide)).trans m129
  have m147 := (oj 4 (by decide) (by decide)).trans m130
  have m148 := (oj 5 (by decide) (by decide)).trans m131
  have m149 := (oj 6 (by decide) (by decide)).trans m132
  refine lv_aload_n hx hb dX0_init_71 rfl (lv_at hl 0 rfl) ?_
  have hz9 := hS.1
  refine tw_new hx hb hts bF2_X4 tyX4 tyX4_ok hown (ht_at2 hts 14 rfl) (ht_at2 hts 15 rfl) (ht_at2 hts 16 rfl) hK mon_c hT hS hG hA (shc_107) rfl nd_107 (Nat.le_of_ble_eq_true rfl) (Nat.le_of_ble_eq_true rfl) dX0_init_72 (fun q150 G10 H hq9 eG hz1 hz2 hT hx9 hG hm9 hS => ?_)
  have hn_q150 : s.heap.size ≤ q150 := Nat.le_trans hz9 (Nat.le_of_eq hz2)
  have hY := hY.new hn_q150 eG hx9 (by decide)
  have hU_51 := gT_new hU_51 eG (by decide)
  have m151 := (el_kept (hx9 _ _ hg133).2).trans m142
  have m152 := (el_kept (hx9 _ _ hg133).2).trans m143
  have m153 := (el_kept (hx9 _ _ hg133).2).trans m144
  have m154 := (el_kept (hx9 _ _ hg133).2).trans m145
  have m155 := (el_kept (hx9 _ _ hg133).2).trans m146
  have m156 := (el_kept (hx9 _ _ hg133).2).trans m147
  have m157 := (el_kept (hx9 _ _ hg133).2).trans m148
  have m158 := (el_kept (hx9 _ _ hg133).2).trans m149
  have m159 := (el_kept (hx9 _ _ hg133).2).trans m141
  have hg160 := (hx9 _ _ hg133).1
  have hg161 := (hx9 _ _ hg134).1
  have hg162 := (hx9 _ _ hg135).1
  have hg163 := (hx9 _ _ hg136).1
  have hg164 := (hx9 _ _ hg137).1
  have hg165 := (hx9 _ _ hg138).1
  have hg166 := (hx9 _ _ hg139).1
  have hg167 := (hx9 _ _ hg140).1
  have hg168 := (hx9 _ _ hg124).1
  have hg169 : G10 q150 = some 107 := by rw [eG]; exact gU_at
  refine lv_dup hx hb dX0_init_75 rfl ?_
  have hFc := gA_free hG hA hS
  have hz9 := hS.1
  refine va_callv (va_runIN (As := []) (rest := [.ref q150, .ref o0]) ⟨hx, hb, hml, hown, hts⟩ (n_X4 l dC dI kA adK adV G10 H 0 0 q150 hT hg169 (by omega) (by omega)) ⟨va_cnB 0 hts (goodIn_ca (goodIn_r _ [18, 19, 2, 3, 6, 20, 21, 22, 23, 24, 25, 26, 27, 28, 29, 12, 30] rfl (by decide +kernel)) (bs2_in _ _)) rfl rfl rfl (hE.nm 104 rfl) (ht_at2 hts 16 rfl) (by decide +kernel) ⟨(Nat.le_of_ble_eq_true rfl), (Nat.le_of_ble_eq_true rfl)⟩, rfl, (ht_at2 hts 30 rfl)⟩ ⟨fun a U g mk q => by obtain ⟨q0, q1, qK, qE, qA⟩ := q; exact ⟨q0, q1, va_K.moved (u := U) (U := U.calling g mk a) (Vm.Alike.refl U.vm) qK, EVC.blind g mk a qE, AO.blind g mk a qA⟩, fun U hU hW => ⟨rfl, hU, va_K.moved hW.alike hK, hE.call hS hFc hU hW, hAO.call hW⟩⟩ rfl rfl hl.1 rfl (lv_room (Nat.le_of_ble_eq_true rfl)) dX0_init_76 ⟨(Nat.le_of_ble_eq_true rfl), (Nat.le_of_ble_eq_true rfl)⟩) hS (fun q _ h => hFc q h) hFc (fun G11 t H locs ht hvm _ hB _ _ hS => ?_)
  (try dsimp only at hB); rw [ht] at hB; obtain ⟨hT, hg170, hY1⟩ := hB
  have hY := hY.call hn_q150 hY1 hz9 (by decide)
  have hG := hY.A hG0 hAo hA
  have hU_51 := gT_call hU_51 hY1 (by decide)
  have m171 := (el_kept (hY1.1 _ _ (gne hg160 hg169 (by decide)) hg160).2).trans m151
  have m172 := (el_kept (hY1.1 _ _ (gne hg160 hg169 (by decide)) hg160).2).trans m152
  have m173 := (el_kept (hY1.1 _ _ (gne hg160 hg169 (by decide)) hg160).2).trans m153
  have m174 := (el_kept (hY1.1 _ _ (gne hg160 hg169 (by decide)) hg160).2).trans m154
  have m175 := (el_kept (hY1.1 _ _ (gne hg160 hg169 (by decide)) hg160).2).trans m155
  have m176 := (el_kept (hY1.1 _ _ (gne hg160 hg169 (by decide)) hg160).2).trans m156
  have m177 := (el_kept (hY1.1 _ _ (gne hg160 hg169 (by decide)) hg160).2).trans m157
  have m178 := (el_kept (hY1.1 _ _ (gne hg160 hg169 (by decide)) hg160).2).trans m158
  have m179 := (el_kept (hY1.1 _ _ (gne hg160 hg169 (by decide)) hg160).2).trans m159
  have hg180 := (hY1.1 _ _ (gne hg160 hg169 (by decide)) hg160).1
  have hg181 := (hY1.1 _ _ (gne hg161 hg169 (by decide)) hg161).1
  have hg182 := (hY1.1 _ _ (gne hg162 hg169 (by decide)) hg162).1
  have hg183 := (hY1.1 _ _ (gne hg163 hg169 (by decide)) hg163).1
  have hg184 := (hY1.1 _ _ (gne hg164 hg169 (by decide)) hg164).1
  have hg185 := (hY1.1 _ _ (gne hg165 hg169 (by decide)) hg165).1
  have hg186 := (hY1.1 _ _ (gne hg166 hg169 (by decide)) hg166).1
  have hg187 := (hY1.1 _ _ (gne hg167 hg169 (by decide)) hg167).1
  have hg188 := (hY1.1 _ _ (gne hg168 hg169 (by decide)) hg168).1
  refine tw_put (v := .ref q150) (ty := (.object "SeaLand$Law")) hx hb hts bF2_X0 tyX0 tyX0_ok nmX0 hown hK hT hG hS hg180 shc_103 rfl 8 (by decide) (ht_at2 hts 32 rfl) (fun _ h9 => h9) rfl (by decide +kernel) rfl rfl (gl_at rfl ⟨some _, rfl, fun _ h => by cases h; exact hg170⟩) dX0_init_79 (fun H locs hT oq m189 oj hS => ?_)
  have hY := hY.put oq
  have m190 := (oj 11 (by decide) (by decide)).trans m171
  have m191 := (oj 0 (by decide) (by decide)).trans m172
  have m192 := (oj 1 (by decide) (by decide)).trans m173
  have m193 := (oj 2 (by decide) (by decide)).trans m174
  have m194 := (oj 3 (by decide) (by decide)).trans m175
  have m195 := (oj 4 (by decide) (by decide)).trans m176
  have m196 := (oj 5 (by decide) (by decide)).trans m177
  have m197 := (oj 6 (by decide) (by decide)).trans m178
  have m198 := (oj 7 (by decide) (by decide)).trans m179
  refine lv_aload_n hx hb dX0_init_82 rfl (lv_at hl 0 rfl) ?_
  have hz9 := hS.1
  refine tw_new hx hb hts bF2_X4 tyX4 tyX4_ok hown (ht_at2 hts 14 rfl) (ht_at2 hts 15 rfl) (ht_at2 hts 16 rfl) hK mon_c hT hS hG hA (shc_107) rfl nd_107 (Nat.le_of_ble_eq_true rfl) (Nat.le_of_ble_eq_true rfl) dX0_init_83 (fun q199 G12 H hq9 eG hz1 hz2 hT hx9 hG hm9 hS => ?_)
  have hn_q199 : s.heap.size ≤ q199 := Nat.le_trans hz9 (Nat.le_of_eq hz2)
  have hY := hY.new hn_q199 eG hx9 (by decide)
  have hU_51 := gT_new hU_51 eG (by decide)
  have m200 := (el_kept (hx9 _ _ hg180).2).trans m190
  have m201 := (el_kept (hx9 _ _ hg180).2).trans m191
  have m202 := (el_kept (hx9 _ _ hg180).2).trans m192
  have m203 := (el_kept (hx9 _ _ hg180).2).trans m193
  have m204 := (el_kept (hx9 _ _ hg180).2).trans m194
  have m205 := (el_kept (hx9 _ _ hg180).2).trans m195
  have m206 := (el_kept (hx9 _ _ hg180).2).trans m196
  have m207 := (el_kept (hx9 _ _ hg180).2).trans m197
  have m208 := (el_kept (hx9 _ _ hg180).2).trans m198
  have m209 := (el_kept (hx9 _ _ hg180).2).trans m189
  have hg210 := (hx9 _ _ hg180).1
  have hg211 := (hx9 _ _ hg181).1
  have hg212 := (hx9 _ _ hg182).1
  have hg213 := (hx9 _ _ hg183).1
  have hg214 := (hx9 _ _ hg184).1
  have hg215 := (hx9 _ _ hg185).1
  have hg216 := (hx9 _ _ hg186).1
  have hg217 := (hx9 _ _ hg187).1
  have hg218 := (hx9 _ _ hg188).1
  have hg219 := (hx9 _ _ hg170).1
  have hg220 : G12 q199 = some 107 := by rw [eG]; exact gU_at
  refine lv_dup hx hb dX0_init_86 rfl ?_
  have hFc := gA_free hG hA hS
  have hz9 := hS.1
  refine va_callv (va_runIN (As := []) (rest := [.ref q199, .ref o0]) ⟨hx, hb, hml, hown, hts⟩ (n_X4 l dC dI kA adK adV G12 H 0 0 q199 hT hg220 (by omega) (by omega)) ⟨va_cnB 0 hts (goodIn_ca (goodIn_r _ [18, 19, 2, 3, 6, 20, 21, 22, 23, 24, 25, 26, 27, 28, 29, 12, 30] rfl (by decide +kernel)) (bs2_in _ _)) rfl rfl rfl (hE.nm 104 rfl) (ht_at2 hts 16 rfl) (by decide +kernel) ⟨(Nat.le_of_ble_eq_true rfl), (Nat.le_of_ble_eq_true rfl)⟩, rfl, (ht_at2 hts 30 rfl)⟩ ⟨fun a U g mk q => by obtain ⟨q0, q1, qK, qE, qA⟩ := q; exact ⟨q0, q1, va_K.moved (u := U) (U := U.calling g mk a) (Vm.Alike.refl U.vm) qK, EVC.blind g mk a qE, AO.blind g mk a qA⟩, fun U hU hW => ⟨rfl, hU, va_K.moved hW.alike hK, hE.call hS hFc hU hW, hAO.call hW⟩⟩ rfl rfl hl.1 rfl (lv_room (Nat.le_of_ble_eq_true rfl)) dX0_init_87 ⟨(Nat.le_of_ble_eq_true rfl), (Nat.le_of_ble_eq_true rfl)⟩) hS (fun q _ h => hFc q h) hFc (fun G13 t H locs ht hvm _ hB _ _ hS => ?_)
  (try dsimp only at hB); rw [ht] at hB; obtain ⟨hT, hg221, hY1⟩ := hB
  have hY := hY.call hn_q199 hY1 hz9 (by decide)
  have hG := hY.A hG0 hAo hA
  have hU_51 := gT_call hU_51 hY1 (by decide)
  have m222 := (el_kept (hY1.1 _ _ (gne hg210 hg220 (by decide)) hg210).2).trans m200
  have m223 := (el_kept (hY1.1 _ _ (gne hg210 hg220 (by decide)) hg210).2).trans m201
  have m224 := (el_kept (hY1.1 _ _ (gne hg210 hg220 (by decide)) hg210).2).trans m202
  have m225 := (el_kept (hY1.1 _ _ (gne hg210 hg220 (by decide)) hg210).2).trans m203
  have m226 := (el_kept (hY1.1 _ _ (gne hg210 hg220 (by decide)) hg210).2).trans m204
  have m227 := (el_kept (hY1.1 _ _ (gne hg210 hg220 (by decide)) hg210).2).trans m205
  have m228 := (el_kept (hY1.1 _ _ (gne hg210 hg220 (by decide)) hg210).2).trans m206
  have m229 := (el_kept (hY1.1 _ _ (gne hg210 hg220 (by decide)) hg210).2).trans m207
  have m230 := (el_kept (hY1.1 _ _ (gne hg210 hg220 (by decide)) hg210).2).trans m208
  have m231 := (el_kept (hY1.1 _ _ (gne hg210 hg220 (by decide)) hg210).2).trans m209
  have hg232 := (hY1.1 _ _ (gne hg210 hg220 (by decide)) hg210).1
  have hg233 := (hY1.1 _ _ (gne hg211 hg220 (by decide)) hg211).1
  have hg234 := (hY1.1 _ _ (gne hg212 hg220 (by decide)) hg212).1
  have hg235 := (hY1.1 _ _ (gne hg213 hg220 (by decide)) hg213).1
  have hg236 := (hY1.1 _ _ (gne hg214 hg220 (by decide)) hg214).1
  have hg237 := (hY1.1 _ _ (gne hg215 hg220 (by decide)) hg215).1
  have hg238 := (hY1.1 _ _ (gne hg216 hg220 (by decide)) hg216).1
  have hg239 := (hY1.1 _ _ (gne hg217 hg220 (by decide)) hg217).1
  have hg240 := (hY1.1 _ _ (gne hg218 hg220 (by decide)) hg218).1
  have hg241 := (hY1.1 _ _ (gne hg219 hg220 (by decide)) hg219).1
  refine tw_put (v := .ref q199) (ty := (.object "SeaLand$Law")) hx hb hts bF2_X0 tyX0 tyX0_ok nmX0 hown hK hT hG hS hg232 shc_103 rfl 9 (by decide) (ht_at2 hts 33 rfl) (fun _ h9 => h9) rfl (by decide +kernel) rfl rfl (gl_at rfl ⟨some _, rfl, fun _ h => by cases h; exact hg221⟩) dX0_init_90 (fun H locs hT oq m242 oj hS => ?_)
  have hY := hY.put oq
  have m243 := (oj 11 (by decide) (by decide)).trans m222
  have m244 := (oj 0 (by decide) (by decide)).trans m223
  have m245 := (oj 1 (by decide) (by decide)).trans m224
  have m246 := (oj 2 (by decide) (by decide)).trans m225
  have m247 := (oj 3 (by decide) (by decide)).trans m226
  have m248 := (oj 4 (by decide) (by decide)).trans m227
  have m249 := (oj 5 (by decide) (by decide)).trans m228
  have m250 := (oj 6 (by decide) (by decide)).trans m229
  have m251 := (oj 7 (by decide) (by decide)).trans m230
  have m252 := (oj 8 (by decide) (by decide)).trans m231
  refine lv_aload_n hx hb dX0_init_93 rfl (lv_at hl 0 rfl) ?_
  refine lv_iconst (v := (-1)) hx hb dX0_init_94 (by decide) ?_
  refine tw_put (v := .int (-1)) (ty := .int) hx hb hts bF2_X0 tyX0 tyX0_ok nmX0 hown hK hT hG hS hg232 shc_103 rfl 10 (by decide) (ht_at2 hts 34 rfl) (fun _ h9 => h9) rfl (by decide +kernel) rfl rfl (gl_at rfl (gi_all _)) dX0_init_95 (fun H locs hT oq m253 oj hS => ?_)
  have hY := hY.put oq
  have m254 := (oj 11 (by decide) (by decide)).trans m243
  have m255 := (oj 0 (by decide) (by decide)).trans m244
  have m256 := (oj 1 (by decide) (by decide)).trans m245
  have m257 := (oj 2 (by decide) (by decide)).trans m246
  have m258 := (oj 3 (by decide) (by decide)).trans m247
  have m259 := (oj 4 (by decide) (by decide)).trans m248
  have m260 := (oj 5 (by decide) (by decide)).trans m249
  have m261 := (oj 6 (by decide) (by decide)).trans m250
  have m262 := (oj 7 (by decide) (by decide)).trans m251
  have m263 := (oj 8 (by decide) (by decide)).trans m252
  have m264 := (oj 9 (by decide) (by decide)).trans m242
  refine lv_aload_n hx hb dX0_init_98 rfl (lv_at hl 0 rfl) ?_
  refine tw_getM (v := .ref q7) hx hb hts bF2_X0 hown hK hT hg232 shc_103 rfl 1 (by decide) (ht_at2 hts 6 rfl) (fun _ h9 => h9) m256 dX0_init_99 ?_
  refine lv_iconst (v := (-1)) hx hb dX0_init_102 (by decide) ?_
  have hi9 : ∀ (G G' : gT) (k : Nat) (v : Value), (ga (gI (-2147483648) 2147483647)) G k v → (ga (gI (-2147483648) 2147483647)) G' k v := fun _ _ _ _ h => h
  have hz8 := hS.1
  have hT1 := hT.one hg234 shc_52 hi9
  have hFc := gA_one (t := 52) (sz := H.size) (hG _ _ hg234) (fun q hq => hA q (Nat.le_trans hS.1 hq))
  have hTo := hT
  refine va_callv (va_runS (As := [.ref q7, .int (-1)]) (rest := []) ⟨hx, hb, hml, hown, hts⟩ (c_fill_farmOf l dC dI kA adK adV (gU (fun _ => none) q7 52) H 0 0 q7 (-1) hT1 gU_at (by omega) (by omega)) (va_cwS 2 hts (goodIn_app (goodIn_r _ [37, 38, 39] rfl (by decide +kernel)) (goodIn_ca (goodIn_r _ [36] rfl (by decide +kernel)) (bs2_in _ _))) rfl rfl rfl (by decide +kernel) ⟨(Nat.le_of_ble_eq_true rfl), (Nat.le_of_ble_eq_true rfl)⟩) ⟨fun a U g mk q => by obtain ⟨q0, q1, qK, qE⟩ := q; exact ⟨q0, q1, va_K.moved (u := U) (U := U.calling g mk a) (Vm.Alike.refl U.vm) qK, EVC.blind g mk a qE⟩, fun U hU hW => ⟨rfl, hU, va_K.moved hW.alike hK, hE.call hS hFc hU hW⟩⟩ rfl rfl hl.1 rfl (lv_room (Nat.le_of_ble_eq_true rfl)) dX0_init_103 ⟨(Nat.le_of_ble_eq_true rfl), (Nat.le_of_ble_eq_true rfl)⟩) hS (fun q _ h => hFc q h) hFc (fun u t H locs ht hvm _ hB hz1 hk1 hS => ?_)
  (try dsimp only at hB); rw [ht] at hB; have hk2 : ∀ q, q < _ → q ≠ q7 → H[q]? = _ := fun q h1 h2 => hk1 q h1 (gA_not h1 h2)
  have hT := hTo.back hg234 shc_52 hi9 hB.1 hk2
  have hY := hY.put1 hn_q7 (fun q h1 h2 => hk2 q (Nat.lt_of_lt_of_le h1 hz8) h2)
  have m265 := (el_kept (hk2 _ (hTo.lt hg232) (gne hg232 hg234 (by decide)))).trans m254
  have m266 := (el_kept (hk2 _ (hTo.lt hg232) (gne hg232 hg234 (by decide)))).trans m255
  have m267 := (el_kept (hk2 _ (hTo.lt hg232) (gne hg232 hg234 (by decide)))).trans m256
  have m268 := (el_kept (hk2 _ (hTo.lt hg232) (gne hg232 hg234 (by decide)))).trans m257
  have m269 := (el_kept (hk2 _ (hTo.lt hg232) (gne hg232 hg234 (by decide)))).trans m258
  have m270 := (el_kept (hk2 _ (hTo.lt hg232) (gne hg232 hg234 (by decide)))).trans m259
  have m271 := (el_kept (hk2 _ (hTo.lt hg232) (gne hg232 hg234 (by decide)))).trans m260
  have m272 := (el_kept (hk2 _ (hTo.lt hg232) (gne hg232 hg234 (by decide)))).trans m261
  have m273 := (el_kept (hk2 _ (hTo.lt hg232) (gne hg232 hg234 (by decide)))).trans m262
  have m274 := (el_kept (hk2 _ (hTo.lt hg232) (gne hg232 hg234 (by decide)))).trans m263
  have m275 := (el_kept (hk2 _ (hTo.lt hg232) (gne hg232 hg234 (by decide)))).trans m264
  have m276 := (el_kept (hk2 _ (hTo.lt hg232) (gne hg232 hg234 (by decide)))).trans m253
  have hT := hT.grown (t := 3) mon_c hg232 (by decide) (by
    have h8 := hT _ _ hg232; rw [shc_103] at h8; rw [shc_3]
    refine gC.grow h8 (fun k v hk hm hv => match k, hk, hm, hv with
      | 0, _, hm, hv => gl_at rfl (by obtain rfl : v = .ref q1 := Option.some.inj (hm.symm.trans m266); exact ⟨_, rfl, (gU_ne (gne hg233 hg232 (by decide))).trans hg233⟩)
      | 1, _, hm, hv => gl_at rfl (by obtain rfl : v = .ref q7 := Option.some.inj (hm.symm.trans m267); exact ⟨_, rfl, (gU_ne (gne hg234 hg232 (by decide))).trans hg234⟩)
      | 2, _, hm, hv => gl_at rfl (by obtain rfl : v = .ref q16 := Option.some.inj (hm.symm.trans m268); exact ⟨_, rfl, (gU_ne (gne hg235 hg232 (by decide))).trans hg235⟩)
      | 3, _, hm, hv => gl_at rfl (by obtain rfl : v = .ref q28 := Option.some.inj (hm.symm.trans m269); exact ⟨_, rfl, (gU_ne (gne hg236 hg232 (by decide))).trans hg236⟩)
      | 4, _, hm, hv => gl_at rfl (by obtain rfl : v = .ref q43 := Option.some.inj (hm.symm.trans m270); exact ⟨_, rfl, (gU_ne (gne hg237 hg232 (by decide))).trans hg237⟩)
      | 5, _, hm, hv => gl_at rfl (by obtain rfl : v = .ref q61 := Option.some.inj (hm.symm.trans m271); exact ⟨_, rfl, (gU_ne (gne hg238 hg232 (by decide))).trans hg238⟩)
      | 6, _, hm, hv => gl_at rfl (by obtain rfl : v = .ref q82 := Option.some.inj (hm.symm.trans m272); exact ⟨_, rfl, (gU_ne (gne hg239 hg232 (by decide))).trans hg239⟩)
      | 7, _, hm, hv => gl_at rfl (by obtain rfl : v = .ref q106 := Option.some.inj (hm.symm.trans m273); exact ⟨_, rfl, (gU_ne (gne hg240 hg232 (by decide))).trans hg240⟩)
      | 8, _, hm, hv => gl_at rfl (by obtain rfl : v = .ref q150 := Option.some.inj (hm.symm.trans m274); exact ⟨_, rfl, (gU_ne (gne hg241 hg232 (by decide))).trans hg241⟩)
      | 9, _, hm, hv => gl_at rfl (by obtain rfl : v = .ref q199 := Option.some.inj (hm.symm.trans m275); exact ⟨_, rfl, (gU_ne (gne hg221 hg232 (by decide))).trans hg221⟩)
      | 10, _, hm, hv => gl_at rfl (hv _ rfl)
      | 11, _, hm, hv => gl_at rfl (hv _ rfl)
      | 12, _, hm, hv => gl_at rfl (hv _ rfl)
      | 13, _, hm, hv => gl_at rfl (hv _ rfl)
      | 14, _, hm, hv => gl_at rfl (hv _ rfl)
      | 15, _, hm, hv => gl_at rfl (hv _ rfl)
      | 16, _, hm, hv => gl_at rfl (hv _ rfl)
      | 17, _, hm, hv => gl_at rfl (hv _ rfl)
      | k + 18, hk, _, _ => absurd hk (by omega)))
  have hY := hY.grow
  have hU_51 := gT_new (q := o0) (t := 3) hU_51 rfl (by decide)
  exact W.vret hx hb hr (fun t ht hW => ⟨⟨_, rfl, trivial, by (try dsimp only); rw [ht]; exact ⟨hT, gU_at, hY, ⟨_, hU_51⟩, m276, m265⟩⟩, hS.F ht⟩) hS.2.2 dX0_init_106
def w_n_X3 : List Cond := .code yX3_init cX3_init 2 none :: (HAppend.hAppend (α := List Cond) (β := List Cond) (γ := List Cond) [.methodLink RX3 3 objectInit, .instanceMethod objectInit, .code objectInit ⟨#[0xb1]⟩ 1 none, .classLink RX3 9 RX8, .instantiable RX8 7, .initialized RX8, .code yX8_init cX8_init 1 none, .methodLink RX8 3 objectInit, .arrayClass .int, .fieldLink RX8 9 "SeaLand$Sky" "tides" "[I", .fieldLink RX8 15 "SeaLand$Sky" "stormFrom" "[I", .fieldLink RX8 18 "SeaLand$Sky" "stormTo" "[I", .fieldLink RX8 21 "SeaLand$Sky" "stormMore" "[I", .classLink RX8 24 RX9, .instantiable RX9 3, .initialized RX9, .code yX9_init cX9_init 1 none, .methodLink RX9 3 objectInit, .fieldLink RX9 9 "SeaLand$Tellings" "hours" "[I", .fieldLink RX9 15 "SeaLand$Tellings" "numbers" "[I", .instanceMethod yX9_init, .fieldLink RX8 27 "SeaLand$Sky" "wind" "LSeaLand$Tellings;", .fieldLink RX8 31 "SeaLand$Sky" "rain" "LSeaLand$Tellings;", .instanceMethod yX8_init, .fieldLink RX3 12 "SeaLand$Lake" "sky" "LSeaLand$Sky;", .classLink RX3 18 RX2, .instantiable RX2 15, .initialized RX2, .code yX2_init cX2_init 1 none, .methodLink RX2 3 objectInit, .arrayClass .boolean, .fieldLink RX2 9 "SeaLand$Ground" "isLand" "[Z", .fieldLink RX2 15 "SeaLand$Ground" "height" "[I", .fieldLink RX2 19 "SeaLand$Ground" "soil" "[I", .fieldLink RX2 22 "SeaLand$Ground" "ditch" "[I", .fieldLink RX2 25 "SeaLand$Ground" "water" "[I", .fieldLink RX2 28 "SeaLand$Ground" "salt" "[I", .fieldLink RX2 31 "SeaLand$Ground" "dry" "[I", .fieldLink RX2 34 "SeaLand$Ground" "wet" "[I", .fieldLink RX2 37 "SeaLand$Ground" "ditchTo" "[I", .fieldLink RX2 40 "SeaLand$Ground" "ditchWater" "[I", .fieldLink RX2 43 "SeaLand$Ground" "ditchSalt" "[I", .instanceMethod yX2_init, .fieldLink RX3 21 "SeaLand$Lake" "ground" "LSeaLand$Ground;", .classLink RX3 25 RX10, .fieldLink RX3 27 "SeaLand$Lake" "works" "[LSeaLand$Work;", .instantiable RX10 12, .initialized RX10, .code yX10_init cX10_init 1 none, .methodLink RX10 3 objectInit, .fieldLink RX10 9 "SeaLand$Work" "thick" "[I", .fieldLink RX10 15 "SeaLand$Work" "clay" "[I", .instanceMethod yX10_init] bs2)
set_option maxHeartbeats 4000000 in
set_option maxRecDepth 100000 in
theorem n_X3 (l : Launch) (dC : Nat → ClassId) (dI : Nat → Nat → Nat) (kA : Nat → ClassId) (adK adV : Nat → Nat) (G : gT) (H0 : Heap) (nC nS : Int) (o0 : Nat) (hT : gH (dC, dI) kA (SHc nC nS) G H0) (hr_o0 : G o0 = some 106) (hgC : 0 ≤ nC ∧ nC ≤ 40) (hgS : 0 ≤ nS ∧ nS ≤ 60) : Met l yX3_init w_n_X3 ({ frames := 3, cells := 114, slots := 2146, locals := 86 }) (va_Pc [.ref o0] (fun U => U.heap = H0 ∧ va_K (dC, dI) vwCl (tyl kA) U ∧ EVC adK adV (gA G H0.size) U U.heap ∧ AO U)) (va_Qv (fun (u : gT) => True) (fun (G1 : gT) (t : State) => gH (dC, dI) kA (SHc nC nS) G1 t.heap ∧ G1 o0 = some 6 ∧ gY ([5, 11, 12, 13, 18, 19, 20, 21, 22, 23, 24, 25, 26, 27, 28, 29, 30, 31, 32, 33, 34, 35, 36, 37, 99, 105, 111, 112, 113] : List Nat) 6 o0 G G1 H0 t.heap) (gA G H0.size)) 114 2146 (gA G H0.size) := by
  refine Met.ofW (cc := cX3_init) (maxL := 2) (ret := none) (by decide) rfl ?_
  intro p e s m args below meth c s₁ B hml hv
  obtain ⟨rfl, hH0, hK, hE, hAO⟩ := hv
  have hx := B.exec
  have hb := B.bytes
  have hr := B.returns
  have hts := atoms_spec (ws := w_n_X3) B.pre
  have hown : s.vm.findClass RX3 = some m.cls := findClass_of_methodNamed B.named
  have hlocks := B.notSynchronized
  have hin : meth.name = "<init>" := (name_of_methodNamed B.named B.method).1
  subst hH0
  generalize hAe : gA G s.heap.size = A at hE ⊢
  have hA : ∀ q : Nat, s.heap.size ≤ q → A q := fun q h => by rw [← hAe]; exact Or.inr h
  have hG := gA_of hAe
  have hS : va_S A s.heap s.heap [] := va_S.rf
  have hl := lv_entry ([.ref o0]) (n := 2) (Nat.le_of_ble_eq_true rfl)
  rw [lg_entry_eq]
  generalize (lg_sl ([.ref o0]) ++ List.replicate (2 - (lg_sl ([.ref o0])).length) Slot.unset).toArray = ls at hl ⊢
  have hl : lv_has ls 2 [(0, .ref o0)] := hl
  have hG0 := hG
  have hY : gY ([5, 11, 12, 13, 18, 19, 20, 21, 22, 23, 24, 25, 26, 27, 28, 29, 30, 31, 32, 33, 34, 35, 36, 37, 99, 105, 111, 112, 113] : List Nat) 6 o0 G G s.heap s.heap := gY.rf hT
  have hAo := hG _ _ hr_o0
  refine lv_aload_n hx hb dX3_init_0 rfl (lv_at hl 0 rfl) ?_
  refine W.objInit hx hb hown (ht_at2 hts 0 rfl) (ht_at2 hts 1 rfl) (ht_at2 hts 2 rfl) rfl (by rw [hml]; exact hl.1) rfl dX3_init_1 (Nat.le_of_ble_eq_true rfl) (Nat.le_of_ble_eq_true rfl) ?_
  refine W.eq (g2 := F0 m 4 ls []) rfl ?_
  refine lv_aload_n hx hb dX3_init_4 rfl (lv_at hl 0 rfl) ?_
  have hz9 := hS.1
  refine tw_new hx hb hts bF2_X8 tyX8 tyX8_ok hown (ht_at2 hts 3 rfl) (ht_at2 hts 4 rfl) (ht_at2 hts 5 rfl) hK mon_c hT hS hG hA (shc_111) rfl nd_111 (Nat.le_of_ble_eq_true rfl) (Nat.le_of_ble_eq_true rfl) dX3_init_5 (fun q1 G1 H hq9 eG hz1 hz2 hT hx9 hG hm9 hS => ?_)
  have hn_q1 : s.heap.size ≤ q1 := Nat.le_trans hz9 (Nat.le_of_eq hz2)
  have hY := hY.new hn_q1 eG hx9 (by decide)
  have hg2 := (hx9 _ _ hr_o0).1
  have hg3 : G1 q1 = some 111 := by rw [eG]; exact gU_at
  refine lv_dup hx hb dX3_init_8 rfl ?_
  have hFc := gA_free hG hA hS
  have hz9 := hS.1
  refine va_callv (va_runIN (As := []) (rest := [.ref q1, .ref o0]) ⟨hx, hb, hml, hown, hts⟩ (n_X8 l dC dI kA adK adV G1 H nC nS q1 hT hg3 (by omega) (by omega)) ⟨va_cnB 0 hts (goodIn_ca (goodIn_r _ [7, 8, 2, 3, 9, 10, 11, 12, 13, 14, 15, 16, 17, 18, 19, 20, 21, 22, 23] rfl (by decide +kernel)) (bs2_in _ _)) rfl rfl rfl (hE.nm 106 rfl) (ht_at2 hts 5 rfl) (by decide +kernel) ⟨(Nat.le_of_ble_eq_true rfl), (Nat.le_of_ble_eq_true rfl)⟩, rfl, (ht_at2 hts 23 rfl)⟩ ⟨fun a U g mk q => by obtain ⟨q0, q1, qK, qE, qA⟩ := q; exact ⟨q0, q1, va_K.moved (u := U) (U := U.calling g mk a) (Vm.Alike.refl U.vm) qK, EVC.blind g mk a qE, AO.blind g mk a qA⟩, fun U hU hW => ⟨rfl, hU, va_K.moved hW.alike hK, hE.call hS hFc hU hW, hAO.call hW⟩⟩ rfl rfl hl.1 rfl (lv_room (Nat.le_of_ble_eq_true rfl)) dX3_init_9 ⟨(Nat.le_of_ble_eq_true rfl), (Nat.le_of_ble_eq_true rfl)⟩) hS (fun q _ h => hFc q h) hFc (fun G2 t H locs ht hvm _ hB _ _ hS => ?_)
  (try dsimp only at hB); rw [ht] at hB; obtain ⟨hT, hg4, hY1⟩ := hB
  have hY := hY.call hn_q1 hY1 hz9 (by decide)
  have hG := hY.A hG0 hAo hA
  have hg5 := (hY1.1 _ _ (gne hg2 hg3 (by decide)) hg2).1
  refine tw_putF (v := .ref q1) (ty := (.object "SeaLand$Sky")) hx hb hts bF2_X3 tyX3 tyX3_ok nmX3 hown hK hT hG hS hg5 shc_106 rfl 0 (by decide) (ht_at2 hts 24 rfl) (fun _ h9 => h9) rfl hin rfl (by decide +kernel) rfl rfl (gl_at rfl ⟨some _, rfl, fun _ h => by cases h; exact hg4⟩) dX3_init_12 (fun H locs hT oq m6 oj hS => ?_)
  have hY := hY.put oq
  refine lv_aload_n hx hb dX3_init_15 rfl (lv_at hl 0 rfl) ?_
  have hz9 := hS.1
  refine tw_new hx hb hts bF2_X2 tyX2 tyX2_ok hown (ht_at2 hts 25 rfl) (ht_at2 hts 26 rfl) (ht_at2 hts 27 rfl) hK mon_c hT hS hG hA (shc_105) rfl nd_105 (Nat.le_of_ble_eq_true rfl) (Nat.le_of_ble_eq_true rfl) dX3_init_16 (fun q7 G3 H hq9 eG hz1 hz2 hT hx9 hG hm9 hS => ?_)
  have hn_q7 : s.heap.size ≤ q7 := Nat.le_trans hz9 (Nat.le_of_eq hz2)
  have hY := hY.new hn_q7 eG hx9 (by decide)
  have m8 := (el_kept (hx9 _ _ hg5).2).trans m6
  have hg9 := (hx9 _ _ hg5).1
  have hg10 := (hx9 _ _ hg4).1
  have hg11 : G3 q7 = some 105 := by rw [eG]; exact gU_at
  refine lv_dup hx hb dX3_init_19 rfl ?_
  have hFc := gA_free hG hA hS
  have hz9 := hS.1
  refine va_callv (va_runIN (As := []) (rest := [.ref q7, .ref o0]) ⟨hx, hb, hml, hown, hts⟩ (n_X2 l dC dI kA adK adV G3 H nC nS q7 hT hg11 (by omega) (by omega)) ⟨va_cnB 0 hts (goodIn_ca (goodIn_r _ [29, 30, 2, 3, 31, 32, 9, 33, 34, 35, 36, 37, 38, 39, 40, 41, 42] rfl (by decide +kernel)) (bs2_in _ _)) rfl rfl rfl (hE.nm 107 rfl) (ht_at2 hts 27 rfl) (by decide +kernel) ⟨(Nat.le_of_ble_eq_true rfl), (Nat.le_of_ble_eq_true rfl)⟩, rfl, (ht_at2 hts 42 rfl)⟩ ⟨fun a U g mk q => by obtain ⟨q0, q1, qK, qE, qA⟩ := q; exact ⟨q0, q1, va_K.moved (u := U) (U := U.calling g mk a) (Vm.Alike.refl U.vm) qK, EVC.blind g mk a qE, AO.blind g mk a qA⟩, fun U hU hW => ⟨rfl, hU, va_K.moved hW.alike hK, hE.call hS hFc hU hW, hAO.call hW⟩⟩ rfl rfl hl.1 rfl (lv_room (Nat.le_of_ble_eq_true rfl)) dX3_init_20 ⟨(Nat.le_of_ble_eq_true rfl), (Nat.le_of_ble_eq_true rfl)⟩) hS (fun q _ h => hFc q h) hFc (fun G4 t H locs ht hvm _ hB _ _ hS => ?_)
  (try dsimp only at hB); rw [ht] at hB; obtain ⟨hT, hg12, hY1⟩ := hB
  have hY := hY.call hn_q7 hY1 hz9 (by decide)
  have hG := hY.A hG0 hAo hA
  have m13 := (el_kept (hY1.1 _ _ (gne hg9 hg11 (by decide)) hg9).2).trans m8
  have hg14 := (hY1.1 _ _ (gne hg9 hg11 (by decide)) hg9).1
  have hg15 := (hY1.1 _ _ (gne hg10 hg11 (by decide)) hg10).1
  refine tw_putF (v := .ref q7) (ty := (.object "SeaLand$Ground")) hx hb hts bF2_X3 tyX3 tyX3_ok nmX3 hown hK hT hG hS hg14 shc_106 rfl 1 (by decide) (ht_at2 hts 43 rfl) (fun _ h9 => h9) rfl hin rfl (by decide +kernel) rfl rfl (gl_at rfl ⟨some _, rfl, fun _ h => by cases h; exact hg12⟩) dX3_init_23 (fun H locs hT oq m16 oj hS => ?_)
  have hY := hY.put oq
  have m17 := (oj 0 (by decide) (by decide)).trans m13
  refine lv_aload_n hx hb dX3_init_26 rfl (lv_at hl 0 rfl) ?_
  refine lv_bipush (v := 30) hx hb dX3_init_27 (by decide) ?_
  have hz9 := hS.1
  refine tw_newq hx hb hown (ht_at2 hts 44 rfl) (hAO _ (by decide)) hK mon_c hT hS hG hA (shc_99) rfl (fun _ _ _ => ⟨none, rfl, fun _ h => by cases h⟩) (by decide) rfl (Nat.le_of_ble_eq_true rfl) (Nat.le_of_ble_eq_true rfl) (Nat.le_of_ble_eq_true rfl) dX3_init_29 (fun q18 G5 H hq9 eG hz1 hz2 hT hx9 hG hm9 hS => ?_)
  have hn_q18 : s.heap.size ≤ q18 := Nat.le_trans hz9 (Nat.le_of_eq hz2)
  have hY := hY.new hn_q18 eG hx9 (by decide)
  have m19 := (el_kept (hx9 _ _ hg14).2).trans m17
  have m20 := (el_kept (hx9 _ _ hg14).2).trans m16
  have hg21 := (hx9 _ _ hg14).1
  have hg22 := (hx9 _ _ hg15).1
  have hg23 := (hx9 _ _ hg12).1
  have hg24 : G5 q18 = some 99 := by rw [eG]; exact gU_at
  refine tw_putF (v := .ref q18) (ty := (.array (.object "SeaLand$Work"))) hx hb hts bF2_X3 tyX3 tyX3_ok nmX3 hown hK hT hG hS hg21 shc_106 rfl 2 (by decide) (ht_at2 hts 45 rfl) (fun _ h9 => h9) rfl hin rfl (by decide +kernel) rfl rfl (gl_at rfl ⟨some _, rfl⟩) dX3_init_32 (fun H locs hT oq m25 oj hS => ?_)
  have hY := hY.put oq
  have m26 := (oj 0 (by decide) (by decide)).trans m19
  have m27 := (oj 1 (by decide) (by decide)).trans m20
  refine lv_iconst (v := 0) hx hb dX3_init_35 (by decide) ?_
  refine lv_istore_n (lv' := [(1, .int 0), (0, .ref o0)]) hx hb dX3_init_36 rfl hl (by decide) rfl (fun ls hl => ?_)
  have key9 : ∀ (n i : Nat), i + n = 30 → ∀ (G9 : gT) (H : Heap) (locs : List Loc), gH (dC, dI) kA (SHc nC nS) G9 H → gY ([5, 11, 12, 13, 18, 19, 20, 21, 22, 23, 24, 25, 26, 27, 28, 29, 30, 31, 32, 33, 34, 35, 36, 37, 99, 105, 111, 112, 113] : List Nat) 6 o0 G G9 s.heap H → va_S A s.heap H locs → G9 o0 = some 106 → G9 q1 = some 11 → G9 q7 = some 5 → G9 q18 = some 99 → el H o0 (dI 6 0) = some (.ref q1) → el H o0 (dI 6 1) = some (.ref q7) → el H o0 (dI 6 2) = some (.ref q18) → (∀ j, j < i → ∃ b, el H q18 j = some (.ref b) ∧ G9 b = some 13) → ∀ ls : Array Slot, lv_has ls 2 [(1, .int (nI i)), (0, .ref o0)] → W p l e (headSpec w_n_X3 ({ frames := 3, cells := 114, slots := 2146, locals := 86 })).room s m #[.ref o0] below meth c H locs (24 + 3 * i) (1426 + 24 * i) (MQ below (va_Qv (fun (u : gT) => True) (fun (G1 : gT) (t : State) => gH (dC, dI) kA (SHc nC nS) G1 t.heap ∧ G1 o0 = some 6 ∧ gY ([5, 11, 12, 13, 18, 19, 20, 21, 22, 23, 24, 25, 26, 27, 28, 29, 30, 31, 32, 33, 34, 35, 36, 37, 99, 105, 111, 112, 113] : List Nat) 6 o0 G G1 s.heap t.heap) A) #[.ref o0] s 114 2146 A) (F0 m 37 ls []) := by
    intro n
    induction n with
    | zero =>
      intro i hn9 G9 H locs hT hY hS hw0 hw1 hw2 hw3 mw0 mw1 mw2 hall ls hl
      obtain rfl : 30 = i := by omega
      have hG := hY.A hG0 hAo hA
      refine lv_iload_n hx hb dX3_init_37 rfl (lv_at hl 0 rfl) ?_
      refine lv_bipush (v := 30) hx hb dX3_init_38 (by decide) ?_
      refine lv_icmp_ge (tgt := 62) hx hb dX3_init_40 (by decide) (fun c9 => ?_) (fun c9 => (by exfalso; have q9 : ((30 : Nat) : Int) < 30 := ti_nle c9 (by decide) (nI_toInt (by omega)); omega))
      have hT := hT.grown (t := 18) mon_c hw3 (by decide) (by
        have h8 := hT _ _ hw3; rw [shc_99] at h8; rw [shc_18]
        exact gC.grow_arr h8 (fun k v hk hm hv => by obtain ⟨b9, e1, e2⟩ := hall k hk; obtain rfl : v = .ref b9 := Option.some.inj (hm.symm.trans e1); exact ⟨b9, rfl, (gU_ne (gne e2 hw3 (by decide))).trans e2⟩))
      have hY := hY.grow1 (t := 18) hn_q18 (by decide)
      have hg28 := (gU_ne (t := 18) (gne hw0 hw3 (by decide))).trans hw0
      have hg29 := (gU_ne (t := 18) (gne hw1 hw3 (by decide))).trans hw1
      have hg30 := (gU_ne (t := 18) (gne hw2 hw3 (by decide))).trans hw2
      have hgq9 := gU_at (G := G9) (q := q18) (t := 18)
      refine W.widen (k := 114) (n := 2146) (by decide) (by decide) ?_
      have hT := hT.grown (t := 6) mon_c hg28 (by decide) (by
        have h8 := hT _ _ hg28; rw [shc_106] at h8; rw [shc_6]
        refine gC.grow h8 (fun k v hk hm hv => match k, hk, hm, hv with
          | 0, _, hm, hv => gl_at rfl (by obtain rfl : v = .ref q1 := Option.some.inj (hm.symm.trans mw0); exact ⟨_, rfl, (gU_ne (gne hg29 hg28 (by decide))).trans hg29⟩)
          | 1, _, hm, hv => gl_at rfl (by obtain rfl : v = .ref q7 := Option.some.inj (hm.symm.trans mw1); exact ⟨_, rfl, (gU_ne (gne hg30 hg28 (by decide))).trans hg30⟩)
          | 2, _, hm, hv => gl_at rfl (by obtain rfl : v = .ref q18 := Option.some.inj (hm.symm.trans mw2); exact ⟨_, rfl, (gU_ne (gne hgq9 hg28 (by decide))).trans hgq9⟩)
          | 3, _, hm, hv => gl_at rfl (hv _ rfl)
          | 4, _, hm, hv => gl_at rfl (hv _ rfl)
          | k + 5, hk, _, _ => absurd hk (by omega)))
      have hY := hY.grow
      exact W.vret hx hb hr (fun t ht hW => ⟨⟨_, rfl, trivial, by (try dsimp only); rw [ht]; exact ⟨hT, gU_at, hY⟩⟩, hS.F ht⟩) hS.2.2 dX3_init_62
    | succ n ih9 =>
      intro i hn9 G9 H locs hT hY hS hw0 hw1 hw2 hw3 mw0 mw1 mw2 hall ls hl
      have hG := hY.A hG0 hAo hA
      refine lv_iload_n hx hb dX3_init_37 rfl (lv_at hl 0 rfl) ?_
      refine lv_bipush (v := 30) hx hb dX3_init_38 (by decide) ?_
      refine lv_icmp_ge (tgt := 62) hx hb dX3_init_40 (by decide) (fun c9 => (by exfalso; have q9 : 30 ≤ ((i : Nat) : Int) := ti_le c9 (by decide) (nI_toInt (by omega)); omega)) (fun c9 => ?_)
      refine lv_aload_n hx hb dX3_init_43 rfl (lv_at hl 1 rfl) ?_
      refine tw_getM (v := .ref q18) hx hb hts bF2_X3 hown hK hT hw0 shc_106 rfl 2 (by decide) (ht_at2 hts 45 rfl) (fun _ h9 => h9) mw2 dX3_init_44 ?_
      refine lv_iload_n hx hb dX3_init_47 rfl (lv_at hl 0 rfl) ?_
      have hz9 := hS.1
      refine tw_new hx hb hts bF2_X10 tyX10 tyX10_ok hown (ht_at2 hts 44 rfl) (ht_at2 hts 46 rfl) (ht_at2 hts 47 rfl) hK mon_c hT hS hG hA (shc_113) rfl nd_113 (show (24 + 3 * i) + 1 ≤ 114 from by omega) (show (1426 + 24 * i) + 12 ≤ 2146 from by omega) dX3_init_48 (fun q31 G6 H hq9 eG hz1 hz2 hT hx9 hG hm9 hS => ?_)
      have hn_q31 : s.heap.size ≤ q31 := Nat.le_trans hz9 (Nat.le_of_eq hz2)
      have hY := hY.new hn_q31 eG hx9 (by decide)
      have hall : ∀ j, j < i → ∃ b, el H q18 j = some (.ref b) ∧ G6 b = some 13 := fun j hj => by obtain ⟨b9, e1, e2⟩ := hall j hj; exact ⟨b9, (el_kept (hx9 _ _ hw3).2).trans e1, (hx9 _ _ e2).1⟩
      have m32 := (el_kept (hx9 _ _ hw0).2).trans mw0
      have m33 := (el_kept (hx9 _ _ hw0).2).trans mw1
      have m34 := (el_kept (hx9 _ _ hw0).2).trans mw2
      have hg35 := (hx9 _ _ hw0).1
      have hg36 := (hx9 _ _ hw1).1
      have hg37 := (hx9 _ _ hw2).1
      have hg38 := (hx9 _ _ hw3).1
      have hg39 : G6 q31 = some 113 := by rw [eG]; exact gU_at
      refine lv_dup hx hb dX3_init_51 rfl ?_
      have hFc := gA_free hG hA hS
      have hz9 := hS.1
      refine va_callv (va_runIN (As := []) (rest := [.ref q31, .int (nI i), .ref q18]) ⟨hx, hb, hml, hown, hts⟩ (n_X10 l dC dI kA adK adV G6 H nC nS q31 hT hg39 (by omega) (by omega)) ⟨va_cnB 0 hts (goodIn_ca (goodIn_r _ [49, 50, 2, 3, 9, 51, 52] rfl (by decide +kernel)) (bs2_in _ _)) rfl rfl rfl (hE.nm 108 rfl) (ht_at2 hts 47 rfl) (by decide +kernel) ⟨(Nat.le_of_ble_eq_true rfl), (Nat.le_of_ble_eq_true rfl)⟩, rfl, (ht_at2 hts 52 rfl)⟩ ⟨fun a U g mk q => by obtain ⟨q0, q1, qK, qE, qA⟩ := q; exact ⟨q0, q1, va_K.moved (u := U) (U := U.calling g mk a) (Vm.Alike.refl U.vm) qK, EVC.blind g mk a qE, AO.blind g mk a qA⟩, fun U hU hW => ⟨rfl, hU, va_K.moved hW.alike hK, hE.call hS hFc hU hW, hAO.call hW⟩⟩ rfl rfl hl.1 rfl (lv_room (Nat.le_of_ble_eq_true rfl)) dX3_init_52 ⟨show (24 + 3 * i) + 1 + 2 ≤ 114 from by omega, show (1426 + 24 * i) + 12 + 12 ≤ 2146 from by omega⟩) hS (fun q _ h => hFc q h) hFc (fun G7 t H locs ht hvm _ hB _ _ hS => ?_)
      (try dsimp only at hB); rw [ht] at hB; obtain ⟨hT, hg40, hY1⟩ := hB
      have hY := hY.call hn_q31 hY1 hz9 (by decide)
      have hG := hY.A hG0 hAo hA
      have hall : ∀ j, j < i → ∃ b, el H q18 j = some (.ref b) ∧ G7 b = some 13 := fun j hj => by obtain ⟨b9, e1, e2⟩ := hall j hj; exact ⟨b9, (el_kept (hY1.1 _ _ (gne hg38 hg39 (by decide)) hg38).2).trans e1, (hY1.1 _ _ (gne e2 hg39 (by decide)) e2).1⟩
      have m41 := (el_kept (hY1.1 _ _ (gne hg35 hg39 (by decide)) hg35).2).trans m32
      have m42 := (el_kept (hY1.1 _ _ (gne hg35 hg39 (by decide)) hg35).2).trans m33
      have m43 := (el_kept (hY1.1 _ _ (gne hg35 hg39 (by decide)) hg35).2).trans m34
      have hg44 := (hY1.1 _ _ (gne hg35 hg39 (by decide)) hg35).1
      have hg45 := (hY1.1 _ _ (gne hg36 hg39 (by decide)) hg36).1
      have hg46 := (hY1.1 _ _ (gne hg37 hg39 (by decide)) hg37).1
      have hg47 := (hY1.1 _ _ (gne hg38 hg39 (by decide)) hg38).1
      refine tw_aast (C := RX10) (i := (nI i)) hx hb hK hT hG hS hg47 shc_99 rfl hg40 shc_13 rfl (vp_in_nI (by omega) (by decide)) ⟨some _, rfl, fun _ h => by cases h; exact hg40⟩ dX3_init_55 (fun H locs hT oq m48 oi hS => ?_)
      rw [show (nI i).toNatClampNeg = i from tn_nI (by omega)] at m48 oi
      have hY := hY.put1 hn_q18 (fun q _ h => oq q h)
      have hall : ∀ j, j < i + 1 → ∃ b, el H q18 j = some (.ref b) ∧ G7 b = some 13 := fun j hj => by
        by_cases e9 : j = i
        · rw [e9]; exact ⟨_, m48, hg40⟩
        · obtain ⟨b9, e1, e2⟩ := hall j (by omega); exact ⟨b9, (oi j e9).trans e1, e2⟩
      have m49 := (el_kept (oq _ (gne hg44 hg47 (by decide)))).trans m41
      have m50 := (el_kept (oq _ (gne hg44 hg47 (by decide)))).trans m42
      have m51 := (el_kept (oq _ (gne hg44 hg47 (by decide)))).trans m43
      refine lv_iinc (v := nI (i + 1)) (lv' := [(1, .int (nI (i + 1))), (0, .ref o0)]) hx hb dX3_init_56 hl (k := 0) rfl (nI_add i 1) (by decide) rfl (fun ls hl => ?_)
      refine lv_goto (tgt := 37) hx hb dX3_init_59 (by decide) ?_
      exact W.widen (k := 24 + 3 * (i + 1)) (n := 1426 + 24 * (i + 1)) (by omega) (by omega) (ih9 (i + 1) (by omega) _ _ _ hT hY hS hg44 hg45 hg46 hg47 m49 m50 m51 hall ls (lv_sub hl [0, 1] rfl))
  exact key9 30 0 rfl _ _ _ hT hY hS hg21 hg22 hg23 hg24 m26 m27 m25 (fun j hj => absurd hj (by omega)) ls hl
def w_n_X11 : List Cond := .code yX11_init cX11_init 1 none :: (HAppend.hAppend (α := List Cond) (β := List Cond) (γ := List Cond) [.methodLink RX11 1 objectInit, .instanceMethod objectInit, .code objectInit ⟨#[0xb1]⟩ 1 none, .arrayClass .int, .fieldLink RX11 9 "SeaLand" "tape" "[I", .classLink RX11 13 RX3, .instantiable RX3 5, .initialized RX3, .code yX3_init cX3_init 2 none, .methodLink RX3 3 objectInit, .classLink RX3 9 RX8, .instantiable RX8 7, .initialized RX8, .code yX8_init cX8_init 1 none, .methodLink RX8 3 objectInit, .fieldLink RX8 9 "SeaLand$Sky" "tides" "[I", .fieldLink RX8 15 "SeaLand$Sky" "stormFrom" "[I", .fieldLink RX8 18 "SeaLand$Sky" "stormTo" "[I", .fieldLink RX8 21 "SeaLand$Sky" "stormMore" "[I", .classLink RX8 24 RX9, .instantiable RX9 3, .initialized RX9, .code yX9_init cX9_init 1 none, .methodLink RX9 3 objectInit, .fieldLink RX9 9 "SeaLand$Tellings" "hours" "[I", .fieldLink RX9 15 "SeaLand$Tellings" "numbers" "[I", .instanceMethod yX9_init, .fieldLink RX8 27 "SeaLand$Sky" "wind" "LSeaLand$Tellings;", .fieldLink RX8 31 "SeaLand$Sky" "rain" "LSeaLand$Tellings;", .instanceMethod yX8_init, .fieldLink RX3 12 "SeaLand$Lake" "sky" "LSeaLand$Sky;", .classLink RX3 18 RX2, .instantiable RX2 15, .initialized RX2, .code yX2_init cX2_init 1 none, .methodLink RX2 3 objectInit, .arrayClass .boolean, .fieldLink RX2 9 "SeaLand$Ground" "isLand" "[Z", .fieldLink RX2 15 "SeaLand$Ground" "height" "[I", .fieldLink RX2 19 "SeaLand$Ground" "soil" "[I", .fieldLink RX2 22 "SeaLand$Ground" "ditch" "[I", .fieldLink RX2 25 "SeaLand$Ground" "water" "[I", .fieldLink RX2 28 "SeaLand$Ground" "salt" "[I", .fieldLink RX2 31 "SeaLand$Ground" "dry" "[I", .fieldLink RX2 34 "SeaLand$Ground" "wet" "[I", .fieldLink RX2 37 "SeaLand$Ground" "ditchTo" "[I", .fieldLink RX2 40 "SeaLand$Ground" "ditchWater" "[I", .fieldLink RX2 43 "SeaLand$Ground" "ditchSalt" "[I", .instanceMethod yX2_init, .fieldLink RX3 21 "SeaLand$Lake" "ground" "LSeaLand$Ground;", .classLink RX3 25 RX10, .fieldLink RX3 27 "SeaLand$Lake" "works" "[LSeaLand$Work;", .instantiable RX10 12, .initialized RX10, .code yX10_init cX10_init 1 none, .methodLink RX10 3 objectInit, .fieldLink RX10 9 "SeaLand$Work" "thick" "[I", .fieldLink RX10 15 "SeaLand$Work" "clay" "[I", .instanceMethod yX10_init, .methodLink RX11 15 yX3_init, .instanceMethod yX3_init, .fieldLink RX11 16 "SeaLand" "lake" "LSeaLand$Lake;", .classLink RX11 20 RX6, .instantiable RX6 4, .initialized RX6, .code yX6_init cX6_init 1 none, .methodLink RX6 3 objectInit, .fieldLink RX6 9 "SeaLand$Rows" "shown" "[I", .fieldLink RX6 15 "SeaLand$Rows" "proof" "[I", .instanceMethod yX6_init, .fieldLink RX11 23 "SeaLand" "rows" "LSeaLand$Rows;", .classLink RX11 27 RX0, .instantiable RX0 18, .initialized RX0, .code yX0_init cX0_init 1 none, .methodLink RX0 3 objectInit, .classLink RX0 9 RX7, .fieldLink RX0 11 "SeaLand$Board" "settlers" "[LSeaLand$Settler;", .fieldLink RX0 17 "SeaLand$Board" "farmOf" "[I", .fieldLink RX0 21 "SeaLand$Board" "crops" "[I", .fieldLink RX0 24 "SeaLand$Board" "held" "[Z", .fieldLink RX0 28 "SeaLand$Board" "harvested" "[Z", .arrayClass .long, .fieldLink RX0 33 "SeaLand$Board" "facts" "[J", .fieldLink RX0 37 "SeaLand$Board" "marks" "[I", .classLink RX0 31 RX4, .instantiable RX4 14, .initialized RX4, .code yX4_init cX4_init 1 none, .methodLink RX4 5 objectInit, .fieldLink RX4 11 "SeaLand$Law" "things" "[I", .fieldLink RX4 15 "SeaLand$Law" "begins" "[I", .fieldLink RX4 18 "SeaLand$Law" "kinds" "[I", .fieldLink RX4 21 "SeaLand$Law" "firsts" "[I", .fieldLink RX4 24 "SeaLand$Law" "seconds" "[I", .fieldLink RX4 27 "SeaLand$Law" "froms" "[I", .fieldLink RX4 30 "SeaLand$Law" "tos" "[I", .fieldLink RX4 33 "SeaLand$Law" "stepFrom" "[I", .fieldLink RX4 36 "SeaLand$Law" "stepTo" "[I", .fieldLink RX4 39 "SeaLand$Law" "steps" "[I", .fieldLink RX4 42 "SeaLand$Law" "stack" "[J", .instanceMethod yX4_init, .fieldLink RX0 41 "SeaLand$Board" "force" "LSeaLand$Law;", .fieldLink RX0 45 "SeaLand$Board" "proposed" "LSeaLand$Law;", .fieldLink RX0 48 "SeaLand$Board" "spare" "LSeaLand$Law;", .fieldLink RX0 51 "SeaLand$Board" "fault" "I", .code yJ7_fill_53178 cJ7_fill_53178 4 none, .methodLink RX0 55 yJ7_fill_53178, .static yJ7_fill_53178, .initialized RJ7, .methodLink RX11 29 yX0_init, .instanceMethod yX0_init, .fieldLink RX11 30 "SeaLand" "board" "LSeaLand$Board;", .classLink RX11 34 RX1, .fieldLink RX11 36 "SeaLand" "contracts" "[LSeaLand$Contract;", .classLink RX11 40 RX5, .instantiable RX5 17, .initialized RX5, .code yX5_init cX5_init 1 none, .methodLink RX5 5 objectInit, .fieldLink RX5 13 "SeaLand$Plans" "liftOf" "[I", .fieldLink RX5 17 "SeaLand$Plans" "leastNow" "[I", .fieldLink RX5 20 "SeaLand$Plans" "leastThen" "[I", .fieldLink RX5 23 "SeaLand$Plans" "fields" "[I", .fieldLink RX5 26 "SeaLand$Plans" "fieldLevels" "[I", .fieldLink RX5 29 "SeaLand$Plans" "costs" "[I", .fieldLink RX5 32 "SeaLand$Plans" "lasts" "[I", .fieldLink RX5 35 "SeaLand$Plans" "incomes" "[I", .fieldLink RX5 38 "SeaLand$Plans" "acres" "[I", .fieldLink RX5 41 "SeaLand$Plans" "placed" "[Z", .fieldLink RX5 45 "SeaLand$Plans" "trial" "[I", .fieldLink RX5 48 "SeaLand$Plans" "best" "[I", .instanceMethod yX5_init, .fieldLink RX11 43 "SeaLand" "plans" "LSeaLand$Plans;"] bs2)
set_option maxHeartbeats 4000000 in
set_option maxRecDepth 100000 in
theorem n_X11 (l : Launch) (dC : Nat → ClassId) (dI : Nat → Nat → Nat) (kA : Nat → ClassId) (adK adV : Nat → Nat) (G : gT) (H0 : Heap)  (o0 : Nat) (hT : gH (dC, dI) kA (SHc 0 0) G H0) (hr_o0 : G o0 = some 114) (hm_7 : el H0 o0 (dI 14 7) = some (.int 0)) : Met l yX11_init w_n_X11 ({ frames := 4, cells := 177, slots := 11966, locals := 115 }) (va_Pc [.ref o0] (fun U => U.heap = H0 ∧ va_K (dC, dI) vwCl (tyl kA) U ∧ EVC adK adV (gA G H0.size) U U.heap ∧ AO U)) (va_Qv (fun (u : gT) => True) (fun (G1 : gT) (t : State) => gH (dC, dI) kA (SHc 0 0) G1 t.heap ∧ G1 o0 = some 14 ∧ gY ([3, 5, 6, 7, 8, 9, 11, 12, 13, 16, 17, 18, 19, 20, 21, 22, 23, 24, 25, 26, 27, 28, 29, 30, 31, 32, 33, 34, 35, 36, 37, 38, 39, 40, 41, 42, 43, 44, 45, 46, 47, 48, 49, 50, 51, 52, 53, 54, 55, 56, 57, 58, 59, 60, 61, 62, 63, 64, 65, 66, 67, 68, 69, 99, 103, 105, 106, 107, 108, 109, 111, 112, 113] : List Nat) 14 o0 G G1 H0 t.heap ∧ (∃ w, ∀ b, G1 b = some 3 → G b = some 3 ∨ b = w) ∧ (∃ w, ∀ b, G1 b = some 51 → G b = some 51 ∨ b = w) ∧ (∃ w, ∀ b, G1 b = some 17 → G b = some 17 ∨ b = w) ∧ el t.heap o0 (dI 14 7) = some (.int 0) ∧ (∃ a1, el t.heap o0 (dI 14 0) = some (.ref a1) ∧ G1 a1 = some 16 ∧ ct t.heap a1 400 (fun _ => 0)) ∧ (∃ a1, el t.heap o0 (dI 14 3) = some (.ref a1) ∧ G1 a1 = some 3 ∧ el t.heap a1 (dI 3 10) = some (.int (-1)) ∧ el t.heap a1 (dI 3 11) = some (.int 0))) (gA G H0.size)) 177 11966 (gA G H0.size) := by
  refine Met.ofW (cc := cX11_init) (maxL := 1) (ret := none) (by decide) rfl ?_
  intro p e s m args below meth c s₁ B hml hv
  obtain ⟨rfl, hH0, hK, hE, hAO⟩ := hv
  have hx := B.exec
  have hb := B.bytes
  have hr := B.returns
  have hts := atoms_spec (ws := w_n_X11) B.pre
  have hown : s.vm.findClass RX11 = some m.cls := findClass_of_methodNamed B.named
  have hlocks := B.notSynchronized
  have hin : meth.name = "<init>" := (name_of_methodNamed B.named B.method).1
  subst hH0
  generalize hAe : gA G s.heap.size = A at hE ⊢
  have hA : ∀ q : Nat, s.heap.size ≤ q → A q := fun q h => by rw [← hAe]; exact Or.inr h
  have hG := gA_of hAe
  have hS : va_S A s.heap s.heap [] := va_S.rf
  have hl := lv_entry ([.ref o0]) (n := 1) (Nat.le_of_ble_eq_true rfl)
  rw [lg_entry_eq]
  generalize (lg_sl ([.ref o0]) ++ List.replicate (1 - (lg_sl ([.ref o0])).length) Slot.unset).toArray = ls at hl ⊢
  have hl : lv_has ls 1 [(0, .ref o0)] := hl
  have hG0 := hG
  have hY : gY ([3, 5, 6, 7, 8, 9, 11, 12, 13, 16, 17, 18, 19, 20, 21, 22, 23, 24, 25, 26, 27, 28, 29, 30, 31, 32, 33, 34, 35, 36, 37, 38, 39, 40, 41, 42, 43, 44, 45, 46, 47, 48, 49, 50, 51, 52, 53, 54, 55, 56, 57, 58, 59, 60, 61, 62, 63, 64, 65, 66, 67, 68, 69, 99, 103, 105, 106, 107, 108, 109, 111, 112, 113] : List Nat) 14 o0 G G s.heap s.heap := gY.rf hT
  have hU_3 : ∀ b, G b = some 3 → G b = some 3 := fun _ h => h
  have hU_51 : ∀ b, G b = some 51 → G b = some 51 := fun _ h => h
  have hU_17 : ∀ b, G b = some 17 → G b = some 17 := fun _ h => h
  have hAo := hG _ _ hr_o0
  refine lv_aload_n hx hb dX11_init_0 rfl (lv_at hl 0 rfl) ?_
  refine W.objInit hx hb hown (ht_at2 hts 0 rfl) (ht_at2 hts 1 rfl) (ht_at2 hts 2 rfl) rfl (by rw [hml]; exact hl.1) rfl dX11_init_1 (Nat.le_of_ble_eq_true rfl) (Nat.le_of_ble_eq_true rfl) ?_
  refine W.eq (g2 := F0 m 4 ls []) rfl ?_
  refine lv_aload_n hx hb dX11_init_4 rfl (lv_at hl 0 rfl) ?_
  refine lv_sipush (v := 400) hx hb dX11_init_5 (by decide) ?_
  have hz9 := hS.1
  refine tw_newa (ty := .int) hx hb (ht_at2 hts 3 rfl) rfl hK mon_c hT hS hG hA (shc_16) rfl (fun _ _ _ => ⟨0, rfl, by decide, by decide⟩) (by decide) rfl (Nat.le_of_ble_eq_true rfl) (Nat.le_of_ble_eq_true rfl) (Nat.le_of_ble_eq_true rfl) dX11_init_8 (fun q1 G1 H hq9 eG hz1 hz2 hT hx9 hG hm9 hS => ?_)
  have hn_q1 : s.heap.size ≤ q1 := Nat.le_trans hz9 (Nat.le_of_eq hz2)
  have hY := hY.new hn_q1 eG hx9 (by decide)
  have hU_3 := gT_new hU_3 eG (by decide)
  have hU_51 := gT_new hU_51 eG (by decide)
  have hU_17 := gT_new hU_17 eG (by decide)
  have m2 := (el_kept (hx9 _ _ hr_o0).2).trans hm_7
  have hg3 := (hx9 _ _ hr_o0).1
  have hg4 : G1 q1 = some 16 := by rw [eG]; exact gU_at
  have m5 : ct H q1 400 (fun _ => 0) := fun i9 h9 => hm9 i9 h9
  refine tw_putF (v := .ref q1) (ty := (.array .int)) hx hb hts bF2_X11 tyX11 tyX11_ok nmX11 hown hK hT hG hS hg3 shc_114 rfl 0 (by decide) (ht_at2 hts 4 rfl) (fun _ h9 => h9) rfl hin rfl (by decide +kernel) rfl rfl (gl_at rfl ⟨some _, rfl, fun _ h => by cases h; exact hg4⟩) dX11_init_10 (fun H locs hT oq m6 oj hS => ?_)
  have hY := hY.put oq
  have m7 := (oj 7 (by decide) (by decide)).trans m2
  have m8 := m5.kept (oq _ (gne hg4 hg3 (by decide)))
  refine lv_aload_n hx hb dX11_init_13 rfl (lv_at hl 0 rfl) ?_
  have hz9 := hS.1
  refine tw_new hx hb hts bF2_X3 tyX3 tyX3_ok hown (ht_at2 hts 5 rfl) (ht_at2 hts 6 rfl) (ht_at2 hts 7 rfl) hK mon_c hT hS hG hA (shc_106) rfl nd_106 (Nat.le_of_ble_eq_true rfl) (Nat.le_of_ble_eq_true rfl) dX11_init_14 (fun q9 G2 H hq9 eG hz1 hz2 hT hx9 hG hm9 hS => ?_)
  have hn_q9 : s.heap.size ≤ q9 := Nat.le_trans hz9 (Nat.le_of_eq hz2)
  have hY := hY.new hn_q9 eG hx9 (by decide)
  have hU_3 := gT_new hU_3 eG (by decide)
  have hU_51 := gT_new hU_51 eG (by decide)
  have hU_17 := gT_new hU_17 eG (by decide)
  have m10 := (el_kept (hx9 _ _ hg3).2).trans m7
  have m11 := m8.kept (hx9 _ _ hg4).2
  have m12 := (el_kept (hx9 _ _ hg3).2).trans m6
  have hg13 := (hx9 _ _ hg3).1
  have hg14 := (hx9 _ _ hg4).1
  have hg15 : G2 q9 = some 106 := by rw [eG]; exact gU_at
  refine lv_dup hx hb dX11_init_17 rfl ?_
  have hFc := gA_free hG hA hS
  have hz9 := hS.1
  refine va_callv (va_runI (As := []) (rest := [.ref q9, .ref o0]) ⟨hx, hb, hml, hown, hts⟩ (n_X3 l dC dI kA adK adV G2 H 0 0 q9 hT hg15 (by omega) (by omega)) (cwI 0 hts (goodIn_ca (goodIn_r _ [9, 10, 2, 3, 11, 12, 13, 14, 15, 4, 16, 17, 18, 19, 20, 21, 22, 23, 24, 25, 26, 27, 28, 29, 30, 31, 32, 33, 34, 35, 36, 37, 38, 39, 40, 41, 42, 43, 44, 45, 46, 47, 48, 49, 50, 51, 52, 53, 54, 55, 56, 57, 58, 59] rfl (by decide +kernel)) (bs2_in _ _)) rfl rfl rfl (ht_at2 hts 7 rfl) (ht_at2 hts 59 rfl) (ht_at2 hts 60 rfl) rfl (by decide +kernel) ⟨(Nat.le_of_ble_eq_true rfl), (Nat.le_of_ble_eq_true rfl)⟩) ⟨fun a U g mk q => by obtain ⟨q0, q1, qK, qE, qA⟩ := q; exact ⟨q0, q1, va_K.moved (u := U) (U := U.calling g mk a) (Vm.Alike.refl U.vm) qK, EVC.blind g mk a qE, AO.blind g mk a qA⟩, fun U hU hW => ⟨rfl, hU, va_K.moved hW.alike hK, hE.call hS hFc hU hW, hAO.call hW⟩⟩ rfl rfl hl.1 rfl (lv_room (Nat.le_of_ble_eq_true rfl)) dX11_init_18 ⟨(Nat.le_of_ble_eq_true rfl), (Nat.le_of_ble_eq_true rfl)⟩) hS (fun q _ h => hFc q h) hFc (fun G3 t H locs ht hvm _ hB _ _ hS => ?_)
  (try dsimp only at hB); rw [ht] at hB; obtain ⟨hT, hg16, hY1⟩ := hB
  have hY := hY.call hn_q9 hY1 hz9 (by decide)
  have hG := hY.A hG0 hAo hA
  have hU_3 := gT_call hU_3 hY1 (by decide)
  have hU_51 := gT_call hU_51 hY1 (by decide)
  have hU_17 := gT_call hU_17 hY1 (by decide)
  have m17 := (el_kept (hY1.1 _ _ (gne hg13 hg15 (by decide)) hg13).2).trans m10
  have m18 := m11.kept (hY1.1 _ _ (gne hg14 hg15 (by decide)) hg14).2
  have m19 := (el_kept (hY1.1 _ _ (gne hg13 hg15 (by decide)) hg13).2).trans m12
  have hg20 := (hY1.1 _ _ (gne hg13 hg15 (by decide)) hg13).1
  have hg21 := (hY1.1 _ _ (gne hg14 hg15 (by decide)) hg14).1
  refine tw_putF (v := .ref q9) (ty := (.object "SeaLand$Lake")) hx hb hts bF2_X11 tyX11 tyX11_ok nmX11 hown hK hT hG hS hg20 shc_114 rfl 1 (by decide) (ht_at2 hts 61 rfl) (fun _ h9 => h9) rfl hin rfl (by decide +kernel) rfl rfl (gl_at rfl ⟨some _, rfl, fun _ h => by cases h; exact hg16⟩) dX11_init_21 (fun H locs hT oq m22 oj hS => ?_)
  have hY := hY.put oq
  have m23 := (oj 7 (by decide) (by decide)).trans m17
  have m24 := m18.kept (oq _ (gne hg21 hg20 (by decide)))
  have m25 := (oj 0 (by decide) (by decide)).trans m19
  refine lv_aload_n hx hb dX11_init_24 rfl (lv_at hl 0 rfl) ?_
  have hz9 := hS.1
  refine tw_new hx hb hts bF2_X6 tyX6 tyX6_ok hown (ht_at2 hts 62 rfl) (ht_at2 hts 63 rfl) (ht_at2 hts 64 rfl) hK mon_c hT hS hG hA (shc_109) rfl nd_109 (Nat.le_of_ble_eq_true rfl) (Nat.le_of_ble_eq_true rfl) dX11_init_25 (fun q26 G4 H hq9 eG hz1 hz2 hT hx9 hG hm9 hS => ?_)
  have hn_q26 : s.heap.size ≤ q26 := Nat.le_trans hz9 (Nat.le_of_eq hz2)
  have hY := hY.new hn_q26 eG hx9 (by decide)
  have hU_3 := gT_new hU_3 eG (by decide)
  have hU_51 := gT_new hU_51 eG (by decide)
  have hU_17 := gT_new hU_17 eG (by decide)
  have m27 := (el_kept (hx9 _ _ hg20).2).trans m23
  have m28 := m24.kept (hx9 _ _ hg21).2
  have m29 := (el_kept (hx9 _ _ hg20).2).trans m25
  have m30 := (el_kept (hx9 _ _ hg20).2).trans m22
  have hg31 := (hx9 _ _ hg20).1
  have hg32 := (hx9 _ _ hg21).1
  have hg33 := (hx9 _ _ hg16).1
  have hg34 : G4 q26 = some 109 := by rw [eG]; exact gU_at
  refine lv_dup hx hb dX11_init_28 rfl ?_
  have hFc := gA_free hG hA hS
  have hz9 := hS.1
  refine va_callv (va_runIN (As := []) (rest := [.ref q26, .ref o0]) ⟨hx, hb, hml, hown, hts⟩ (n_X6 l dC dI kA adK adV G4 H 0 0 q26 hT hg34 (by omega) (by omega)) ⟨va_cnB 0 hts (goodIn_ca (goodIn_r _ [66, 67, 2, 3, 4, 68, 69] rfl (by decide +kernel)) (bs2_in _ _)) rfl rfl rfl (hE.nm 102 rfl) (ht_at2 hts 64 rfl) (by decide +kernel) ⟨(Nat.le_of_ble_eq_true rfl), (Nat.le_of_ble_eq_true rfl)⟩, rfl, (ht_at2 hts 69 rfl)⟩ ⟨fun a U g mk q => by obtain ⟨q0, q1, qK, qE, qA⟩ := q; exact ⟨q0, q1, va_K.moved (u := U) (U := U.calling g mk a) (Vm.Alike.refl U.vm) qK, EVC.blind g mk a qE, AO.blind g mk a qA⟩, fun U hU hW => ⟨rfl, hU, va_K.moved hW.alike hK, hE.call hS hFc hU hW, hAO.call hW⟩⟩ rfl rfl hl.1 rfl (lv_room (Nat.le_of_ble_eq_true rfl)) dX11_init_29 ⟨(Nat.le_of_ble_eq_true rfl), (Nat.le_of_ble_eq_true rfl)⟩) hS (fun q _ h => hFc q h) hFc (fun G5 t H locs ht hvm _ hB _ _ hS => ?_)
  (try dsimp only at hB); rw [ht] at hB; obtain ⟨hT, hg35, hY1⟩ := hB
  have hY := hY.call hn_q26 hY1 hz9 (by decide)
  have hG := hY.A hG0 hAo hA
  have hU_3 := gT_call hU_3 hY1 (by decide)
  have hU_51 := gT_call hU_51 hY1 (by decide)
  have hU_17 := gT_call hU_17 hY1 (by decide)
  have m36 := (el_kept (hY1.1 _ _ (gne hg31 hg34 (by decide)) hg31).2).trans m27
  have m37 := m28.kept (hY1.1 _ _ (gne hg32 hg34 (by decide)) hg32).2
  have m38 := (el_kept (hY1.1 _ _ (gne hg31 hg34 (by decide)) hg31).2).trans m29
  have m39 := (el_kept (hY1.1 _ _ (gne hg31 hg34 (by decide)) hg31).2).trans m30
  have hg40 := (hY1.1 _ _ (gne hg31 hg34 (by decide)) hg31).1
  have hg41 := (hY1.1 _ _ (gne hg32 hg34 (by decide)) hg32).1
  have hg42 := (hY1.1 _ _ (gne hg33 hg34 (by decide)) hg33).1
  refine tw_putF (v := .ref q26) (ty := (.object "SeaLand$Rows")) hx hb hts bF2_X11 tyX11 tyX11_ok nmX11 hown hK hT hG hS hg40 shc_114 rfl 2 (by decide) (ht_at2 hts 70 rfl) (fun _ h9 => h9) rfl hin rfl (by decide +kernel) rfl rfl (gl_at rfl ⟨some _, rfl, fun _ h => by cases h; exact hg35⟩) dX11_init_32 (fun H locs hT oq m43 oj hS => ?_)
  have hY := hY.put oq
  have m44 := (oj 7 (by decide) (by decide)).trans m36
  have m45 := m37.kept (oq _ (gne hg41 hg40 (by decide)))
  have m46 := (oj 0 (by decide) (by decide)).trans m38
  have m47 := (oj 1 (by decide) (by decide)).trans m39
  refine lv_aload_n hx hb dX11_init_35 rfl (lv_at hl 0 rfl) ?_
  have hz9 := hS.1
  refine tw_new hx hb hts bF2_X0 tyX0 tyX0_ok hown (ht_at2 hts 71 rfl) (ht_at2 hts 72 rfl) (ht_at2 hts 73 rfl) hK mon_c hT hS hG hA (shc_103) rfl nd_103 (Nat.le_of_ble_eq_true rfl) (Nat.le_of_ble_eq_true rfl) dX11_init_36 (fun q48 G6 H hq9 eG hz1 hz2 hT hx9 hG hm9 hS => ?_)
  have hn_q48 : s.heap.size ≤ q48 := Nat.le_trans hz9 (Nat.le_of_eq hz2)
  have hY := hY.new hn_q48 eG hx9 (by decide)
  have hU_3 := gT_new hU_3 eG (by decide)
  have hU_51 := gT_new hU_51 eG (by decide)
  have hU_17 := gT_new hU_17 eG (by decide)
  have m49 := (el_kept (hx9 _ _ hg40).2).trans m44
  have m50 := m45.kept (hx9 _ _ hg41).2
  have m51 := (el_kept (hx9 _ _ hg40).2).trans m46
  have m52 := (el_kept (hx9 _ _ hg40).2).trans m47
  have m53 := (el_kept (hx9 _ _ hg40).2).trans m43
  have hg54 := (hx9 _ _ hg40).1
  have hg55 := (hx9 _ _ hg41).1
  have hg56 := (hx9 _ _ hg42).1
  have hg57 := (hx9 _ _ hg35).1
  have hg58 : G6 q48 = some 103 := by rw [eG]; exact gU_at
  have m59 : el H q48 (dI 3 11) = some (.int 0) := hm9 11 (by decide)
  refine lv_dup hx hb dX11_init_39 rfl ?_
  have hFc := gA_free hG hA hS
  have hz9 := hS.1
  refine va_callv (va_runI (As := []) (rest := [.ref q48, .ref o0]) ⟨hx, hb, hml, hown, hts⟩ (n_X0 l dC dI kA adK adV G6 H  q48 hT hg58 m59) (cwI 0 hts (goodIn_ca (goodIn_r _ [75, 76, 2, 3, 77, 78, 4, 79, 80, 37, 81, 82, 83, 84, 85, 86, 87, 88, 89, 90, 91, 92, 93, 94, 95, 96, 97, 98, 99, 100, 101, 102, 103, 104, 105, 106, 107, 108, 109, 110] rfl (by decide +kernel)) (bs2_in _ _)) rfl rfl rfl (ht_at2 hts 73 rfl) (ht_at2 hts 110 rfl) (ht_at2 hts 111 rfl) rfl (by decide +kernel) ⟨(Nat.le_of_ble_eq_true rfl), (Nat.le_of_ble_eq_true rfl)⟩) ⟨fun a U g mk q => by obtain ⟨q0, q1, qK, qE, qA⟩ := q; exact ⟨q0, q1, va_K.moved (u := U) (U := U.calling g mk a) (Vm.Alike.refl U.vm) qK, EVC.blind g mk a qE, AO.blind g mk a qA⟩, fun U hU hW => ⟨rfl, hU, va_K.moved hW.alike hK, hE.call hS hFc hU hW, hAO.call hW⟩⟩ rfl rfl hl.1 rfl (lv_room (Nat.le_of_ble_eq_true rfl)) dX11_init_40 ⟨(Nat.le_of_ble_eq_true rfl), (Nat.le_of_ble_eq_true rfl)⟩) hS (fun q _ h => hFc q h) hFc (fun G7 t H locs ht hvm _ hB _ _ hS => ?_)
  (try dsimp only at hB); rw [ht] at hB; obtain ⟨hT, hg62, hY1, ⟨w9_51, hU9_51⟩, m60, m61⟩ := hB
  have hY := hY.call hn_q48 hY1 hz9 (by decide)
  have hG := hY.A hG0 hAo hA
  have hU_3 := gT_call1 hU_3 hY1 (by decide)
  have hU_51 := gT_call2 hU_51 hU9_51
  have hU_17 := gT_call hU_17 hY1 (by decide)
  have m63 := (el_kept (hY1.1 _ _ (gne hg54 hg58 (by decide)) hg54).2).trans m49
  have m64 := m50.kept (hY1.1 _ _ (gne hg55 hg58 (by decide)) hg55).2
  have m65 := (el_kept (hY1.1 _ _ (gne hg54 hg58 (by decide)) hg54).2).trans m51
  have m66 := (el_kept (hY1.1 _ _ (gne hg54 hg58 (by decide)) hg54).2).trans m52
  have m67 := (el_kept (hY1.1 _ _ (gne hg54 hg58 (by decide)) hg54).2).trans m53
  have hg68 := (hY1.1 _ _ (gne hg54 hg58 (by decide)) hg54).1
  have hg69 := (hY1.1 _ _ (gne hg55 hg58 (by decide)) hg55).1
  have hg70 := (hY1.1 _ _ (gne hg56 hg58 (by decide)) hg56).1
  have hg71 := (hY1.1 _ _ (gne hg57 hg58 (by decide)) hg57).1
  refine tw_putF (v := .ref q48) (ty := (.object "SeaLand$Board")) hx hb hts bF2_X11 tyX11 tyX11_ok nmX11 hown hK hT hG hS hg68 shc_114 rfl 3 (by decide) (ht_at2 hts 112 rfl) (fun _ h9 => h9) rfl hin rfl (by decide +kernel) rfl rfl (gl_at rfl ⟨some _, rfl, fun _ h => by cases h; exact hg62⟩) dX11_init_43 (fun H locs hT oq m72 oj hS => ?_)
  have hY := hY.put oq
  have m73 := (oj 7 (by decide) (by decide)).trans m63
  have m74 := m64.kept (oq _ (gne hg69 hg68 (by decide)))
  have m75 := (oj 0 (by decide) (by decide)).trans m65
  have m76 := (oj 1 (by decide) (by decide)).trans m66
  have m77 := (oj 2 (by decide) (by decide)).trans m67
  have m78 := (el_kept (oq _ (gne hg62 hg68 (by decide)))).trans m60
  have m79 := (el_kept (oq _ (gne hg62 hg68 (by decide)))).trans m61
  refine lv_aload_n hx hb dX11_init_46 rfl (lv_at hl 0 rfl) ?_
  refine lv_bipush (v := 40) hx hb dX11_init_47 (by decide) ?_
  have hz9 := hS.1
  refine tw_newq hx hb hown (ht_at2 hts 113 rfl) (hAO _ (by decide)) hK mon_c hT hS hG hA (shc_17) rfl (fun _ _ _ => ⟨fun h => absurd h (by omega), ⟨none, rfl, fun _ h => by cases h⟩⟩) (by decide) rfl (Nat.le_of_ble_eq_true rfl) (Nat.le_of_ble_eq_true rfl) (Nat.le_of_ble_eq_true rfl) dX11_init_49 (fun q80 G8 H hq9 eG hz1 hz2 hT hx9 hG hm9 hS => ?_)
  have hn_q80 : s.heap.size ≤ q80 := Nat.le_trans hz9 (Nat.le_of_eq hz2)
  have hY := hY.new hn_q80 eG hx9 (by decide)
  have hU_3 := gT_new hU_3 eG (by decide)
  have hU_51 := gT_new hU_51 eG (by decide)
  have hU_17 := gT_new1 hU_17 eG
  have m81 := (el_kept (hx9 _ _ hg68).2).trans m73
  have m82 := m74.kept (hx9 _ _ hg69).2
  have m83 := (el_kept (hx9 _ _ hg68).2).trans m75
  have m84 := (el_kept (hx9 _ _ hg68).2).trans m76
  have m85 := (el_kept (hx9 _ _ hg68).2).trans m77
  have m86 := (el_kept (hx9 _ _ hg62).2).trans m78
  have m87 := (el_kept (hx9 _ _ hg62).2).trans m79
  have m88 := (el_kept (hx9 _ _ hg68).2).trans m72
  have hg89 := (hx9 _ _ hg68).1
  have hg90 := (hx9 _ _ hg69).1
  have hg91 := (hx9 _ _ hg70).1
  have hg92 := (hx9 _ _ hg71).1
  have hg93 := (hx9 _ _ hg62).1
  have hg94 : G8 q80 = some 17 := by rw [eG]; exact gU_at
  refine tw_putF (v := .ref q80) (ty := (.array (.object "SeaLand$Contract"))) hx hb hts bF2_X11 tyX11 tyX11_ok nmX11 hown hK hT hG hS hg89 shc_114 rfl 4 (by decide) (ht_at2 hts 114 rfl) (fun _ h9 => h9) rfl hin rfl (by decide +kernel) rfl rfl (gl_at rfl ⟨some _, rfl, fun _ h => by cases h; exact hg94⟩) dX11_init_52 (fun H locs hT oq m95 oj hS => ?_)
  have hY := hY.put oq
  have m96 := (oj 7 (by decide) (by decide)).trans m81
  have m97 := m82.kept (oq _ (gne hg90 hg89 (by decide)))
  have m98 := (oj 0 (by decide) (by decide)).trans m83
  have m99 := (oj 1 (by decide) (by decide)).trans m84
  have m100 := (oj 2 (by decide) (by decide)).trans m85
  have m101 := (el_kept (oq _ (gne hg93 hg89 (by decide)))).trans m86
  have m102 := (el_kept (oq _ (gne hg93 hg89 (by decide)))).trans m87
  have m103 := (oj 3 (by decide) (by decide)).trans m88
  refine lv_aload_n hx hb dX11_init_55 rfl (lv_at hl 0 rfl) ?_
  have hz9 := hS.1
  refine tw_new hx hb hts bF2_X5 tyX5 tyX5_ok hown (ht_at2 hts 115 rfl) (ht_at2 hts 116 rfl) (ht_at2 hts 117 rfl) hK mon_c hT hS hG hA (shc_108) rfl nd_108 (Nat.le_of_ble_eq_true rfl) (Nat.le_of_ble_eq_true rfl) dX11_init_56 (fun q104 G9 H hq9 eG hz1 hz2 hT hx9 hG hm9 hS => ?_)
  have hn_q104 : s.heap.size ≤ q104 := Nat.le_trans hz9 (Nat.le_of_eq hz2)
  have hY := hY.new hn_q104 eG hx9 (by decide)
  have hU_3 := gT_new hU_3 eG (by decide)
  have hU_51 := gT_new hU_51 eG (by decide)
  have hU_17 := gT_new hU_17 eG (by decide)
  have m105 := (el_kept (hx9 _ _ hg89).2).trans m96
  have m106 := m97.kept (hx9 _ _ hg90).2
  have m107 := (el_kept (hx9 _ _ hg89).2).trans m98
  have m108 := (el_kept (hx9 _ _ hg89).2).trans m99
  have m109 := (el_kept (hx9 _ _ hg89).2).trans m100
  have m110 := (el_kept (hx9 _ _ hg93).2).trans m101
  have m111 := (el_kept (hx9 _ _ hg93).2).trans m102
  have m112 := (el_kept (hx9 _ _ hg89).2).trans m103
  have m113 := (el_kept (hx9 _ _ hg89).2).trans m95
  have hg114 := (hx9 _ _ hg89).1
  have hg115 := (hx9 _ _ hg90).1
  have hg116 := (hx9 _ _ hg91).1
  have hg117 := (hx9 _ _ hg92).1
  have hg118 := (hx9 _ _ hg93).1
  have hg119 := (hx9 _ _ hg94).1
  have hg120 : G9 q104 = some 108 := by rw [eG]; exact gU_at
  refine lv_dup hx hb dX11_init_59 rfl ?_
  have hFc := gA_free hG hA hS
  have hz9 := hS.1
  refine va_callv (va_runIN (As := []) (rest := [.ref q104, .ref o0]) ⟨hx, hb, hml, hown, hts⟩ (n_X5 l dC dI kA adK adV G9 H 0 0 q104 hT hg120 (by omega) (by omega)) ⟨va_cnB 0 hts (goodIn_ca (goodIn_r _ [119, 120, 2, 3, 4, 121, 122, 123, 124, 125, 126, 127, 128, 129, 37, 130, 131, 132] rfl (by decide +kernel)) (bs2_in _ _)) rfl rfl rfl (hE.nm 103 rfl) (ht_at2 hts 117 rfl) (by decide +kernel) ⟨(Nat.le_of_ble_eq_true rfl), (Nat.le_of_ble_eq_true rfl)⟩, rfl, (ht_at2 hts 132 rfl)⟩ ⟨fun a U g mk q => by obtain ⟨q0, q1, qK, qE, qA⟩ := q; exact ⟨q0, q1, va_K.moved (u := U) (U := U.calling g mk a) (Vm.Alike.refl U.vm) qK, EVC.blind g mk a qE, AO.blind g mk a qA⟩, fun U hU hW => ⟨rfl, hU, va_K.moved hW.alike hK, hE.call hS hFc hU hW, hAO.call hW⟩⟩ rfl rfl hl.1 rfl (lv_room (Nat.le_of_ble_eq_true rfl)) dX11_init_60 ⟨(Nat.le_of_ble_eq_true rfl), (Nat.le_of_ble_eq_true rfl)⟩) hS (fun q _ h => hFc q h) hFc (fun G10 t H locs ht hvm _ hB _ _ hS => ?_)
  (try dsimp only at hB); rw [ht] at hB; obtain ⟨hT, hg121, hY1⟩ := hB
  have hY := hY.call hn_q104 hY1 hz9 (by decide)
  have hG := hY.A hG0 hAo hA
  have hU_3 := gT_call hU_3 hY1 (by decide)
  have hU_51 := gT_call hU_51 hY1 (by decide)
  have hU_17 := gT_call hU_17 hY1 (by decide)
  have m122 := (el_kept (hY1.1 _ _ (gne hg114 hg120 (by decide)) hg114).2).trans m105
  have m123 := m106.kept (hY1.1 _ _ (gne hg115 hg120 (by decide)) hg115).2
  have m124 := (el_kept (hY1.1 _ _ (gne hg114 hg120 (by decide)) hg114).2).trans m107
  have m125 := (el_kept (hY1.1 _ _ (gne hg114 hg120 (by decide)) hg114).2).trans m108
  have m126 := (el_kept (hY1.1 _ _ (gne hg114 hg120 (by decide)) hg114).2).trans m109
  have m127 := (el_kept (hY1.1 _ _ (gne hg118 hg120 (by decide)) hg118).2).trans m110
  have m128 := (el_kept (hY1.1 _ _ (gne hg118 hg120 (by decide)) hg118).2).trans m111
  have m129 := (el_kept (hY1.1 _ _ (gne hg114 hg120 (by decide)) hg114).2).trans m112
  have m130 := (el_kept (hY1.1 _ _ (gne hg114 hg120 (by decide)) hg114).2).trans m113
  have hg131 := (hY1.1 _ _ (gne hg114 hg120 (by decide)) hg114).1
  have hg132 := (hY1.1 _ _ (gne hg115 hg120 (by decide)) hg115).1
  have hg133 := (hY1.1 _ _ (gne hg116 hg120 (by decide)) hg116).1
  have hg134 := (hY1.1 _ _ (gne hg117 hg120 (by decide)) hg117).1
  have hg135 := (hY1.1 _ _ (gne hg118 hg120 (by decide)) hg118).1
  have hg136 := (hY1.1 _ _ (gne hg119 hg120 (by decide)) hg119).1
  refine tw_putF (v := .ref q104) (ty := (.object "SeaLand$Plans")) hx hb hts bF2_X11 tyX11 tyX11_ok nmX11 hown hK hT hG hS hg131 shc_114 rfl 5 (by decide) (ht_at2 hts 133 rfl) (fun _ h9 => h9) rfl hin rfl (by decide +kernel) rfl rfl (gl_at rfl ⟨some _, rfl, fun _ h => by cases h; exact hg121⟩) dX11_init_63 (fun H locs hT oq m137 oj hS => ?_)
  have hY := hY.put oq
  have m138 := (oj 7 (by decide) (by decide)).trans m122
  have m139 := m123.kept (oq _ (gne hg132 hg131 (by decide)))
  have m140 := (oj 0 (by decide) (by decide)).trans m124
  have m141 := (oj 1 (by decide) (by decide)).trans m125
  have m142 := (oj 2 (by decide) (by decide)).trans m126
  have m143 := (el_kept (oq _ (gne hg135 hg131 (by decide)))).trans m127
  have m144 := (el_kept (oq _ (gne hg135 hg131 (by decide)))).trans m128
  have m145 := (oj 3 (by decide) (by decide)).trans m129
  have m146 := (oj 4 (by decide) (by decide)).trans m130
  have hT := hT.grown (t := 14) mon_c hg131 (by decide) (by
    have h8 := hT _ _ hg131; rw [shc_114] at h8; rw [shc_14]
    refine gC.grow h8 (fun k v hk hm hv => match k, hk, hm, hv with
      | 0, _, hm, hv => gl_at rfl (by obtain rfl : v = .ref q1 := Option.some.inj (hm.symm.trans m140); exact ⟨_, rfl, (gU_ne (gne hg132 hg131 (by decide))).trans hg132⟩)
      | 1, _, hm, hv => gl_at rfl (by obtain rfl : v = .ref q9 := Option.some.inj (hm.symm.trans m141); exact ⟨_, rfl, (gU_ne (gne hg133 hg131 (by decide))).trans hg133⟩)
      | 2, _, hm, hv => gl_at rfl (by obtain rfl : v = .ref q26 := Option.some.inj (hm.symm.trans m142); exact ⟨_, rfl, (gU_ne (gne hg134 hg131 (by decide))).trans hg134⟩)
      | 3, _, hm, hv => gl_at rfl (by obtain rfl : v = .ref q48 := Option.some.inj (hm.symm.trans m145); exact ⟨_, rfl, (gU_ne (gne hg135 hg131 (by decide))).trans hg135⟩)
      | 4, _, hm, hv => gl_at rfl (by obtain rfl : v = .ref q80 := Option.some.inj (hm.symm.trans m146); exact ⟨_, rfl, (gU_ne (gne hg136 hg131 (by decide))).trans hg136⟩)
      | 5, _, hm, hv => gl_at rfl (by obtain rfl : v = .ref q104 := Option.some.inj (hm.symm.trans m137); exact ⟨_, rfl, (gU_ne (gne hg121 hg131 (by decide))).trans hg121⟩)
      | 6, _, hm, hv => gl_at rfl (mK_N (by decide) _ _ v (gM_re hg131 (by decide)) (hv _ rfl))
      | 7, _, hm, hv => gl_at rfl (hv _ rfl)
      | 8, _, hm, hv => gl_at rfl (hv _ rfl)
      | k + 9, hk, _, _ => absurd hk (by omega)))
  have hY := hY.grow
  have hU_3 := gT_new (q := o0) (t := 14) hU_3 rfl (by decide)
  have hU_51 := gT_new (q := o0) (t := 14) hU_51 rfl (by decide)
  have hU_17 := gT_new (q := o0) (t := 14) hU_17 rfl (by decide)
  exact W.vret hx hb hr (fun t ht hW => ⟨⟨_, rfl, trivial, by (try dsimp only); rw [ht]; exact ⟨hT, gU_at, hY, ⟨_, hU_3⟩, ⟨_, hU_51⟩, ⟨_, hU_17⟩, m138, ⟨_, m140, (gU_ne (gne hg132 hg131 (by decide))).trans hg132, m139⟩, ⟨_, m145, (gU_ne (gne hg135 hg131 (by decide))).trans hg135, m143, m144⟩⟩⟩, hS.F ht⟩) hS.2.2 dX11_init_66
