def w_n_X0 : List Cond := .code yX0_init cX0_init 1 none :: (HAppend.hAppend (α := List Cond) (β := List Cond) (γ := List Cond) [.methodLink RX0 3 objectInit, .instanceMethod objectInit, .code objectInit ⟨#[0xb1]⟩ 1 none, .classLink RX0 9 RX7, .fieldLink RX0 11 "SeaLand$Board" "settlers" "[LSeaLand$Settler;", .arrayClass .int, .fieldLink RX0 17 "SeaLand$Board" "farmOf" "[I", .fieldLink RX0 21 "SeaLand$Board" "crops" "[I", .arrayClass .boolean, .fieldLink RX0 24 "SeaLand$Board" "held" "[Z", .fieldLink RX0 28 "SeaLand$Board" "harvested" "[Z", .arrayClass .long, .fieldLink RX0 33 "SeaLand$Board" "facts" "[J", .fieldLink RX0 37 "SeaLand$Board" "marks" "[I", .classLink RX0 31 RX4, .instantiable RX4 14, .initialized RX4, .code yX4_init cX4_init 1 none, .methodLink RX4 5 objectInit, .fieldLink RX4 11 "SeaLand$Law" "things" "[I", .fieldLink RX4 15 "SeaLand$Law" "begins" "[I", .fieldLink RX4 18 "SeaLand$Law" "kinds" "[I", .fieldLink RX4 21 "SeaLand$Law" "firsts" "[I", .fieldLink RX4 24 "SeaLand$Law" "seconds" "[I", .fieldLink RX4 27 "SeaLand$Law" "froms" "[I", .fieldLink RX4 30 "SeaLand$Law" "tos" "[I", .fieldLink RX4 33 "SeaLand$Law" "stepFrom" "[I", .fieldLink RX4 36 "SeaLand$Law" "stepTo" "[I", .fieldLink RX4 39 "SeaLand$Law" "steps" "[I", .fieldLink RX4 42 "SeaLand$Law" "stack" "[J", .instanceMethod yX4_init, .fieldLink RX0 41 "SeaLand$Board" "force" "LSeaLand$Law;", .fieldLink RX0 45 "SeaLand$Board" "proposed" "LSeaLand$Law;", .fieldLink RX0 48 "SeaLand$Board" "spare" "LSeaLand$Law;", .fieldLink RX0 51 "SeaLand$Board" "fault" "I", .code yJ7_fill_53178 cJ7_fill_53178 4 none, .methodLink RX0 55 yJ7_fill_53178, .static yJ7_fill_53178, .initialized RJ7] bs2)
set_option maxHeartbeats 4000000 in
set_option maxRecDepth 100000 in
theorem n_X0 (l : Launch) (dC : Nat → ClassId) (dI : Nat → Nat → Nat) (kA : Nat → ClassId) (adK adV : Nat → Nat) (G : gT) (H0 : Heap)  (o0 : Nat) (hT : gH (dC, dI) kA (SHc 0 0) G H0) (hr_o0 : G o0 = some 103) (hm_16 : el H0 o0 (dI 3 16) = some (.int 0)) : Met l yX0_init w_n_X0 ({ frames := 2, cells := 43, slots := 4419, locals := 58 }) (va_Pc [.ref o0] (fun U => U.heap = H0 ∧ va_K (dC, dI) vwCl (tyl kA) U ∧ EVC adK adV (gA G H0.size) U U.heap ∧ AO U)) (va_Qv (fun (u : gT) => True) (fun (G1 : gT) (t : State) => gH (dC, dI) kA (SHc 0 0) G1 t.heap ∧ G1 o0 = some 3 ∧ gY ([7, 40, 41, 42, 43, 44, 45, 46, 47, 48, 49, 50, 51, 52, 53, 54, 55, 56, 57, 107] : List Nat) 3 o0 G G1 H0 t.heap ∧ (∃ w, ∀ b, G1 b = some 51 → G b = some 51 ∨ b = w) ∧ el t.heap o0 (dI 3 16) = some (.int 0) ∧ (∃ a1, el t.heap o0 (dI 3 1) = some (.ref a1) ∧ G1 a1 = some 52 ∧ ct t.heap a1 96 (fun _ => (-1))) ∧ (∃ a1, el t.heap o0 (dI 3 2) = some (.ref a1) ∧ G1 a1 = some 53 ∧ ct t.heap a1 30 (fun _ => 0))) (gA G H0.size)) 43 4419 (gA G H0.size) := by
  refine Met.ofW (cc := cX0_init) (maxL := 1) (ret := none) (by decide) rfl ?_
  intro p e s m args below meth c s₁ B hml hv
  obtain ⟨rfl, hH0, hK, hE, hAO⟩ := hv
  have hx := B.exec
  have hb := B.bytes
  have hr := B.returns
  have hts := atoms_spec (ws := w_n_X0) B.pre
  have hown : s.vm.findClass RX0 = some m.cls := findClass_of_methodNamed B.named
  have hlocks := B.notSynchronized
  have hin : meth.name = "<init>" := (name_of_methodNamed B.named B.method).1
  subst hH0
  generalize hAe : gA G s.heap.size = A at hE ⊢
  have hA : ∀ q : Nat, s.heap.size ≤ q → A q := fun q h => by rw [← hAe]; exact Or.inr h
  have hG := gA_of hAe
  have hS : va_S A s.heap s.heap [] := va_S.rf
  have hl := lv_entry ([.ref o0]) (n := 1) (Nat.le_of_ble_eq_true rfl)
  rw [lg_entry_eq]
  generalize (lg_sl ([.ref o0]) ++ List.replicate (1 - (lg_sl ([.ref o0])).length) Slot.unset).toArray = ls at hl ⊢
  have hl : lv_has ls 1 [(0, .ref o0)] := hl
  have hG0 := hG
  have hY : gY ([7, 40, 41, 42, 43, 44, 45, 46, 47, 48, 49, 50, 51, 52, 53, 54, 55, 56, 57, 107] : List Nat) 3 o0 G G s.heap s.heap := gY.rf hT
  have hU_51 : ∀ b, G b = some 51 → G b = some 51 := fun _ h => h
  have hAo := hG _ _ hr_o0
  refine lv_aload_n hx hb dX0_init_0 rfl (lv_at hl 0 rfl) ?_
  refine W.objInit hx hb hown (ht_at2 hts 0 rfl) (ht_at2 hts 1 rfl) (ht_at2 hts 2 rfl) rfl (by rw [hml]; exact hl.1) rfl dX0_init_1 (Nat.le_of_ble_eq_true rfl) (Nat.le_of_ble_eq_true rfl) ?_
  refine W.eq (g2 := F0 m 4 ls []) rfl ?_
  refine lv_aload_n hx hb dX0_init_4 rfl (lv_at hl 0 rfl) ?_
  refine lv_bipush (v := 60) hx hb dX0_init_5 (by decide) ?_
  have hz9 := hS.1
  refine tw_newq hx hb hown (ht_at2 hts 3 rfl) (hAO _ (by decide)) hK mon_c hT hS hG hA (shc_51) rfl (fun _ _ _ => ⟨fun h => absurd h (by omega), ⟨none, rfl, fun _ h => by cases h⟩⟩) (by decide) rfl (Nat.le_of_ble_eq_true rfl) (Nat.le_of_ble_eq_true rfl) (Nat.le_of_ble_eq_true rfl) dX0_init_7 (fun q1 G1 H hq9 eG hz1 hz2 hT hx9 hG hm9 hS => ?_)
  have hn_q1 : s.heap.size ≤ q1 := Nat.le_trans hz9 (Nat.le_of_eq hz2)
  have hY := hY.new hn_q1 eG hx9 (by decide)
  have hU_51 := gT_new1 hU_51 eG
  have m2 := (el_kept (hx9 _ _ hr_o0).2).trans hm_16
  have hg3 := (hx9 _ _ hr_o0).1
  have hg4 : G1 q1 = some 51 := by rw [eG]; exact gU_at
  refine tw_putF (v := .ref q1) (ty := (.array (.object "SeaLand$Settler"))) hx hb hts bF2_X0 tyX0 tyX0_ok nmX0 hown hK hT hG hS hg3 shc_103 rfl 0 (by decide) (ht_at2 hts 4 rfl) (fun _ h9 => h9) rfl hin rfl (by decide +kernel) rfl rfl (gl_at rfl ⟨some _, rfl, fun _ h => by cases h; exact hg4⟩) dX0_init_10 (fun H locs hT oq m5 oj hS => ?_)
  have hY := hY.put oq
  have m6 := (oj 16 (by decide) (by decide)).trans m2
  refine lv_aload_n hx hb dX0_init_13 rfl (lv_at hl 0 rfl) ?_
  refine lv_bipush (v := 96) hx hb dX0_init_14 (by decide) ?_
  have hz9 := hS.1
  refine tw_newa (ty := .int) hx hb (ht_at2 hts 5 rfl) rfl hK mon_c hT hS hG hA (shc_52) rfl (fun _ _ _ => ⟨0, rfl, by decide, by decide⟩) (by decide) rfl (Nat.le_of_ble_eq_true rfl) (Nat.le_of_ble_eq_true rfl) (Nat.le_of_ble_eq_true rfl) dX0_init_16 (fun q7 G2 H hq9 eG hz1 hz2 hT hx9 hG hm9 hS => ?_)
  have hn_q7 : s.heap.size ≤ q7 := Nat.le_trans hz9 (Nat.le_of_eq hz2)
  have hY := hY.new hn_q7 eG hx9 (by decide)
  have hU_51 := gT_new hU_51 eG (by decide)
  have m8 := (el_kept (hx9 _ _ hg3).2).trans m6
  have m9 := (el_kept (hx9 _ _ hg3).2).trans m5
  have hg10 := (hx9 _ _ hg3).1
  have hg11 := (hx9 _ _ hg4).1
  have hg12 : G2 q7 = some 52 := by rw [eG]; exact gU_at
  have m13 : ct H q7 96 (fun _ => 0) := fun i9 h9 => hm9 i9 h9
  refine tw_putF (v := .ref q7) (ty := (.array .int)) hx hb hts bF2_X0 tyX0 tyX0_ok nmX0 hown hK hT hG hS hg10 shc_103 rfl 1 (by decide) (ht_at2 hts 6 rfl) (fun _ h9 => h9) rfl hin rfl (by decide +kernel) rfl rfl (gl_at rfl ⟨some _, rfl, fun _ h => by cases h; exact hg12⟩) dX0_init_18 (fun H locs hT oq m14 oj hS => ?_)
  have hY := hY.put oq
  have m15 := (oj 16 (by decide) (by decide)).trans m8
  have m16 := (oj 0 (by decide) (by decide)).trans m9
  have m17 := m13.kept (oq _ (gne hg12 hg10 (by decide)))
  refine lv_aload_n hx hb dX0_init_21 rfl (lv_at hl 0 rfl) ?_
  refine lv_bipush (v := 30) hx hb dX0_init_22 (by decide) ?_
  have hz9 := hS.1
  refine tw_newa (ty := .int) hx hb (ht_at2 hts 5 rfl) rfl hK mon_c hT hS hG hA (shc_53) rfl (fun _ _ _ => ⟨0, rfl, by decide, by decide⟩) (by decide) rfl (Nat.le_of_ble_eq_true rfl) (Nat.le_of_ble_eq_true rfl) (Nat.le_of_ble_eq_true rfl) dX0_init_24 (fun q18 G3 H hq9 eG hz1 hz2 hT hx9 hG hm9 hS => ?_)
  have hn_q18 : s.heap.size ≤ q18 := Nat.le_trans hz9 (Nat.le_of_eq hz2)
  have hY := hY.new hn_q18 eG hx9 (by decide)
  have hU_51 := gT_new hU_51 eG (by decide)
  have m19 := (el_kept (hx9 _ _ hg10).2).trans m15
  have m20 := (el_kept (hx9 _ _ hg10).2).trans m16
  have m21 := m17.kept (hx9 _ _ hg12).2
  have m22 := (el_kept (hx9 _ _ hg10).2).trans m14
  have hg23 := (hx9 _ _ hg10).1
  have hg24 := (hx9 _ _ hg11).1
  have hg25 := (hx9 _ _ hg12).1
  have hg26 : G3 q18 = some 53 := by rw [eG]; exact gU_at
  have m27 : ct H q18 30 (fun _ => 0) := fun i9 h9 => hm9 i9 h9
  refine tw_putF (v := .ref q18) (ty := (.array .int)) hx hb hts bF2_X0 tyX0 tyX0_ok nmX0 hown hK hT hG hS hg23 shc_103 rfl 2 (by decide) (ht_at2 hts 7 rfl) (fun _ h9 => h9) rfl hin rfl (by decide +kernel) rfl rfl (gl_at rfl ⟨some _, rfl, fun _ h => by cases h; exact hg26⟩) dX0_init_26 (fun H locs hT oq m28 oj hS => ?_)
  have hY := hY.put oq
  have m29 := (oj 16 (by decide) (by decide)).trans m19
  have m30 := (oj 0 (by decide) (by decide)).trans m20
  have m31 := m21.kept (oq _ (gne hg25 hg23 (by decide)))
  have m32 := (oj 1 (by decide) (by decide)).trans m22
  have m33 := m27.kept (oq _ (gne hg26 hg23 (by decide)))
  refine lv_aload_n hx hb dX0_init_29 rfl (lv_at hl 0 rfl) ?_
  refine lv_bipush (v := 30) hx hb dX0_init_30 (by decide) ?_
  have hz9 := hS.1
  refine tw_newa (ty := .boolean) hx hb (ht_at2 hts 8 rfl) rfl hK mon_c hT hS hG hA (shc_54) rfl (fun _ _ _ => ⟨0, rfl, by decide, by decide⟩) (by decide) rfl (Nat.le_of_ble_eq_true rfl) (Nat.le_of_ble_eq_true rfl) (Nat.le_of_ble_eq_true rfl) dX0_init_32 (fun q34 G4 H hq9 eG hz1 hz2 hT hx9 hG hm9 hS => ?_)
  have hn_q34 : s.heap.size ≤ q34 := Nat.le_trans hz9 (Nat.le_of_eq hz2)
  have hY := hY.new hn_q34 eG hx9 (by decide)
  have hU_51 := gT_new hU_51 eG (by decide)
  have m35 := (el_kept (hx9 _ _ hg23).2).trans m29
  have m36 := (el_kept (hx9 _ _ hg23).2).trans m30
  have m37 := m31.kept (hx9 _ _ hg25).2
  have m38 := (el_kept (hx9 _ _ hg23).2).trans m32
  have m39 := m33.kept (hx9 _ _ hg26).2
  have m40 := (el_kept (hx9 _ _ hg23).2).trans m28
  have hg41 := (hx9 _ _ hg23).1
  have hg42 := (hx9 _ _ hg24).1
  have hg43 := (hx9 _ _ hg25).1
  have hg44 := (hx9 _ _ hg26).1
  have hg45 : G4 q34 = some 54 := by rw [eG]; exact gU_at
  refine tw_putF (v := .ref q34) (ty := (.array .boolean)) hx hb hts bF2_X0 tyX0 tyX0_ok nmX0 hown hK hT hG hS hg41 shc_103 rfl 3 (by decide) (ht_at2 hts 9 rfl) (fun _ h9 => h9) rfl hin rfl (by decide +kernel) rfl rfl (gl_at rfl ⟨some _, rfl, fun _ h => by cases h; exact hg45⟩) dX0_init_34 (fun H locs hT oq m46 oj hS => ?_)
  have hY := hY.put oq
  have m47 := (oj 16 (by decide) (by decide)).trans m35
  have m48 := (oj 0 (by decide) (by decide)).trans m36
  have m49 := m37.kept (oq _ (gne hg43 hg41 (by decide)))
  have m50 := (oj 1 (by decide) (by decide)).trans m38
  have m51 := m39.kept (oq _ (gne hg44 hg41 (by decide)))
  have m52 := (oj 2 (by decide) (by decide)).trans m40
  refine lv_aload_n hx hb dX0_init_37 rfl (lv_at hl 0 rfl) ?_
  refine lv_iconst (v := 5) hx hb dX0_init_38 (by decide) ?_
  have hz9 := hS.1
  refine tw_newa (ty := .boolean) hx hb (ht_at2 hts 8 rfl) rfl hK mon_c hT hS hG hA (shc_55) rfl (fun _ _ _ => ⟨0, rfl, by decide, by decide⟩) (by decide) rfl (Nat.le_of_ble_eq_true rfl) (Nat.le_of_ble_eq_true rfl) (Nat.le_of_ble_eq_true rfl) dX0_init_39 (fun q53 G5 H hq9 eG hz1 hz2 hT hx9 hG hm9 hS => ?_)
  have hn_q53 : s.heap.size ≤ q53 := Nat.le_trans hz9 (Nat.le_of_eq hz2)
  have hY := hY.new hn_q53 eG hx9 (by decide)
  have hU_51 := gT_new hU_51 eG (by decide)
  have m54 := (el_kept (hx9 _ _ hg41).2).trans m47
  have m55 := (el_kept (hx9 _ _ hg41).2).trans m48
  have m56 := m49.kept (hx9 _ _ hg43).2
  have m57 := (el_kept (hx9 _ _ hg41).2).trans m50
  have m58 := m51.kept (hx9 _ _ hg44).2
  have m59 := (el_kept (hx9 _ _ hg41).2).trans m52
  have m60 := (el_kept (hx9 _ _ hg41).2).trans m46
  have hg61 := (hx9 _ _ hg41).1
  have hg62 := (hx9 _ _ hg42).1
  have hg63 := (hx9 _ _ hg43).1
  have hg64 := (hx9 _ _ hg44).1
  have hg65 := (hx9 _ _ hg45).1
  have hg66 : G5 q53 = some 55 := by rw [eG]; exact gU_at
  refine tw_putF (v := .ref q53) (ty := (.array .boolean)) hx hb hts bF2_X0 tyX0 tyX0_ok nmX0 hown hK hT hG hS hg61 shc_103 rfl 4 (by decide) (ht_at2 hts 10 rfl) (fun _ h9 => h9) rfl hin rfl (by decide +kernel) rfl rfl (gl_at rfl ⟨some _, rfl, fun _ h => by cases h; exact hg66⟩) dX0_init_41 (fun H locs hT oq m67 oj hS => ?_)
  have hY := hY.put oq
  have m68 := (oj 16 (by decide) (by decide)).trans m54
  have m69 := (oj 0 (by decide) (by decide)).trans m55
  have m70 := m56.kept (oq _ (gne hg63 hg61 (by decide)))
  have m71 := (oj 1 (by decide) (by decide)).trans m57
  have m72 := m58.kept (oq _ (gne hg64 hg61 (by decide)))
  have m73 := (oj 2 (by decide) (by decide)).trans m59
  have m74 := (oj 3 (by decide) (by decide)).trans m60
  refine lv_aload_n hx hb dX0_init_44 rfl (lv_at hl 0 rfl) ?_
  refine lv_bipush (v := 10) hx hb dX0_init_45 (by decide) ?_
  have hz9 := hS.1
  refine tw_newa (ty := .long) hx hb (ht_at2 hts 11 rfl) rfl hK mon_c hT hS hG hA (shc_56) rfl (fun _ _ _ => ⟨0, rfl⟩) (by decide) rfl (Nat.le_of_ble_eq_true rfl) (Nat.le_of_ble_eq_true rfl) (Nat.le_of_ble_eq_true rfl) dX0_init_47 (fun q75 G6 H hq9 eG hz1 hz2 hT hx9 hG hm9 hS => ?_)
  have hn_q75 : s.heap.size ≤ q75 := Nat.le_trans hz9 (Nat.le_of_eq hz2)
  have hY := hY.new hn_q75 eG hx9 (by decide)
  have hU_51 := gT_new hU_51 eG (by decide)
  have m76 := (el_kept (hx9 _ _ hg61).2).trans m68
  have m77 := (el_kept (hx9 _ _ hg61).2).trans m69
  have m78 := m70.kept (hx9 _ _ hg63).2
  have m79 := (el_kept (hx9 _ _ hg61).2).trans m71
  have m80 := m72.kept (hx9 _ _ hg64).2
  have m81 := (el_kept (hx9 _ _ hg61).2).trans m73
  have m82 := (el_kept (hx9 _ _ hg61).2).trans m74
  have m83 := (el_kept (hx9 _ _ hg61).2).trans m67
  have hg84 := (hx9 _ _ hg61).1
  have hg85 := (hx9 _ _ hg62).1
  have hg86 := (hx9 _ _ hg63).1
  have hg87 := (hx9 _ _ hg64).1
  have hg88 := (hx9 _ _ hg65).1
  have hg89 := (hx9 _ _ hg66).1
  have hg90 : G6 q75 = some 56 := by rw [eG]; exact gU_at
  refine tw_putF (v := .ref q75) (ty := (.array .long)) hx hb hts bF2_X0 tyX0 tyX0_ok nmX0 hown hK hT hG hS hg84 shc_103 rfl 5 (by decide) (ht_at2 hts 12 rfl) (fun _ h9 => h9) rfl hin rfl (by decide +kernel) rfl rfl (gl_at rfl ⟨some _, rfl, fun _ h => by cases h; exact hg90⟩) dX0_init_49 (fun H locs hT oq m91 oj hS => ?_)
  have hY := hY.put oq
  have m92 := (oj 16 (by decide) (by decide)).trans m76
  have m93 := (oj 0 (by decide) (by decide)).trans m77
  have m94 := m78.kept (oq _ (gne hg86 hg84 (by decide)))
  have m95 := (oj 1 (by decide) (by decide)).trans m79
  have m96 := m80.kept (oq _ (gne hg87 hg84 (by decide)))
  have m97 := (oj 2 (by decide) (by decide)).trans m81
  have m98 := (oj 3 (by decide) (by decide)).trans m82
  have m99 := (oj 4 (by decide) (by decide)).trans m83
  refine lv_aload_n hx hb dX0_init_52 rfl (lv_at hl 0 rfl) ?_
  refine lv_bipush (v := 60) hx hb dX0_init_53 (by decide) ?_
  have hz9 := hS.1
  refine tw_newa (ty := .int) hx hb (ht_at2 hts 5 rfl) rfl hK mon_c hT hS hG hA (shc_57) rfl (fun _ _ _ => ⟨0, rfl, by decide, by decide⟩) (by decide) rfl (Nat.le_of_ble_eq_true rfl) (Nat.le_of_ble_eq_true rfl) (Nat.le_of_ble_eq_true rfl) dX0_init_55 (fun q100 G7 H hq9 eG hz1 hz2 hT hx9 hG hm9 hS => ?_)
  have hn_q100 : s.heap.size ≤ q100 := Nat.le_trans hz9 (Nat.le_of_eq hz2)
  have hY := hY.new hn_q100 eG hx9 (by decide)
  have hU_51 := gT_new hU_51 eG (by decide)
  have m101 := (el_kept (hx9 _ _ hg84).2).trans m92
  have m102 := (el_kept (hx9 _ _ hg84).2).trans m93
  have m103 := m94.kept (hx9 _ _ hg86).2
  have m104 := (el_kept (hx9 _ _ hg84).2).trans m95
  have m105 := m96.kept (hx9 _ _ hg87).2
  have m106 := (el_kept (hx9 _ _ hg84).2).trans m97
  have m107 := (el_kept (hx9 _ _ hg84).2).trans m98
  have m108 := (el_kept (hx9 _ _ hg84).2).trans m99
  have m109 := (el_kept (hx9 _ _ hg84).2).trans m91
  have hg110 := (hx9 _ _ hg84).1
  have hg111 := (hx9 _ _ hg85).1
  have hg112 := (hx9 _ _ hg86).1
  have hg113 := (hx9 _ _ hg87).1
  have hg114 := (hx9 _ _ hg88).1
  have hg115 := (hx9 _ _ hg89).1
  have hg116 := (hx9 _ _ hg90).1
  have hg117 : G7 q100 = some 57 := by rw [eG]; exact gU_at
  refine tw_putF (v := .ref q100) (ty := (.array .int)) hx hb hts bF2_X0 tyX0 tyX0_ok nmX0 hown hK hT hG hS hg110 shc_103 rfl 6 (by decide) (ht_at2 hts 13 rfl) (fun _ h9 => h9) rfl hin rfl (by decide +kernel) rfl rfl (gl_at rfl ⟨some _, rfl, fun _ h => by cases h; exact hg117⟩) dX0_init_57 (fun H locs hT oq m118 oj hS => ?_)
  have hY := hY.put oq
  have m119 := (oj 16 (by decide) (by decide)).trans m101
  have m120 := (oj 0 (by decide) (by decide)).trans m102
  have m121 := m103.kept (oq _ (gne hg112 hg110 (by decide)))
  have m122 := (oj 1 (by decide) (by decide)).trans m104
  have m123 := m105.kept (oq _ (gne hg113 hg110 (by decide)))
  have m124 := (oj 2 (by decide) (by decide)).trans m106
  have m125 := (oj 3 (by decide) (by decide)).trans m107
  have m126 := (oj 4 (by decide) (by decide)).trans m108
  have m127 := (oj 5 (by decide) (by decide)).trans m109
  refine lv_aload_n hx hb dX0_init_60 rfl (lv_at hl 0 rfl) ?_
  have hz9 := hS.1
  refine tw_new hx hb hts bF2_X4 tyX4 tyX4_ok hown (ht_at2 hts 14 rfl) (ht_at2 hts 15 rfl) (ht_at2 hts 16 rfl) hK mon_c hT hS hG hA (shc_107) rfl nd_107 (Nat.le_of_ble_eq_true rfl) (Nat.le_of_ble_eq_true rfl) dX0_init_61 (fun q128 G8 H hq9 eG hz1 hz2 hT hx9 hG hm9 hS => ?_)
  have hn_q128 : s.heap.size ≤ q128 := Nat.le_trans hz9 (Nat.le_of_eq hz2)
  have hY := hY.new hn_q128 eG hx9 (by decide)
  have hU_51 := gT_new hU_51 eG (by decide)
  have m129 := (el_kept (hx9 _ _ hg110).2).trans m119
  have m130 := (el_kept (hx9 _ _ hg110).2).trans m120
  have m131 := m121.kept (hx9 _ _ hg112).2
  have m132 := (el_kept (hx9 _ _ hg110).2).trans m122
  have m133 := m123.kept (hx9 _ _ hg113).2
  have m134 := (el_kept (hx9 _ _ hg110).2).trans m124
  have m135 := (el_kept (hx9 _ _ hg110).2).trans m125
  have m136 := (el_kept (hx9 _ _ hg110).2).trans m126
  have m137 := (el_kept (hx9 _ _ hg110).2).trans m127
  have m138 := (el_kept (hx9 _ _ hg110).2).trans m118
  have hg139 := (hx9 _ _ hg110).1
  have hg140 := (hx9 _ _ hg111).1
  have hg141 := (hx9 _ _ hg112).1
  have hg142 := (hx9 _ _ hg113).1
  have hg143 := (hx9 _ _ hg114).1
  have hg144 := (hx9 _ _ hg115).1
  have hg145 := (hx9 _ _ hg116).1
  have hg146 := (hx9 _ _ hg117).1
  have hg147 : G8 q128 = some 107 := by rw [eG]; exact gU_at
  refine lv_dup hx hb dX0_init_64 rfl ?_
  have hFc := gA_free hG hA hS
  have hz9 := hS.1
  refine va_callv (va_runIN (As := []) (rest := [.ref q128, .ref o0]) ⟨hx, hb, hml, hown, hts⟩ (n_X4 l dC dI kA adK adV G8 H 0 0 q128 hT hg147 (by omega) (by omega)) ⟨va_cnB 0 hts (goodIn_ca (goodIn_r _ [18, 19, 2, 3, 6, 20, 21, 22, 23, 24, 25, 26, 27, 28, 29, 12, 30] rfl (by decide +kernel)) (bs2_in _ _)) rfl rfl rfl (hE.nm 104 rfl) (ht_at2 hts 16 rfl) (by decide +kernel) ⟨(Nat.le_of_ble_eq_true rfl), (Nat.le_of_ble_eq_true rfl)⟩, rfl, (ht_at2 hts 30 rfl)⟩ ⟨fun a U g mk q => by obtain ⟨q0, q1, qK, qE, qA⟩ := q; exact ⟨q0, q1, va_K.moved (u := U) (U := U.calling g mk a) (Vm.Alike.refl U.vm) qK, EVC.blind g mk a qE, AO.blind g mk a qA⟩, fun U hU hW => ⟨rfl, hU, va_K.moved hW.alike hK, hE.call hS hFc hU hW, hAO.call hW⟩⟩ rfl rfl hl.1 rfl (lv_room (Nat.le_of_ble_eq_true rfl)) dX0_init_65 ⟨(Nat.le_of_ble_eq_true rfl), (Nat.le_of_ble_eq_true rfl)⟩) hS (fun q _ h => hFc q h) hFc (fun G9 t H locs ht hvm _ hB _ _ hS => ?_)
  (try dsimp only at hB); rw [ht] at hB; obtain ⟨hT, hg148, hY1⟩ := hB
  have hY := hY.call hn_q128 hY1 hz9 (by decide)
  have hG := hY.A hG0 hAo hA
  have hU_51 := gT_call hU_51 hY1 (by decide)
  have m149 := (el_kept (hY1.1 _ _ (gne hg139 hg147 (by decide)) hg139).2).trans m129
  have m150 := (el_kept (hY1.1 _ _ (gne hg139 hg147 (by decide)) hg139).2).trans m130
  have m151 := m131.kept (hY1.1 _ _ (gne hg141 hg147 (by decide)) hg141).2
  have m152 := (el_kept (hY1.1 _ _ (gne hg139 hg147 (by decide)) hg139).2).trans m132
  have m153 := m133.kept (hY1.1 _ _ (gne hg142 hg147 (by decide)) hg142).2
  have m154 := (el_kept (hY1.1 _ _ (gne hg139 hg147 (by decide)) hg139).2).trans m134
  have m155 := (el_kept (hY1.1 _ _ (gne hg139 hg147 (by decide)) hg139).2).trans m135
  have m156 := (el_kept (hY1.1 _ _ (gne hg139 hg147 (by decide)) hg139).2).trans m136
  have m157 := (el_kept (hY1.1 _ _ (gne hg139 hg147 (by decide)) hg139).2).trans m137
  have m158 := (el_kept (hY1.1 _ _ (gne hg139 hg147 (by decide)) hg139).2).trans m138
  have hg159 := (hY1.1 _ _ (gne hg139 hg147 (by decide)) hg139).1
  have hg160 := (hY1.1 _ _ (gne hg140 hg147 (by decide)) hg140).1
  have hg161 := (hY1.1 _ _ (gne hg141 hg147 (by decide)) hg141).1
  have hg162 := (hY1.1 _ _ (gne hg142 hg147 (by decide)) hg142).1
  have hg163 := (hY1.1 _ _ (gne hg143 hg147 (by decide)) hg143).1
  have hg164 := (hY1.1 _ _ (gne hg144 hg147 (by decide)) hg144).1
  have hg165 := (hY1.1 _ _ (gne hg145 hg147 (by decide)) hg145).1
  have hg166 := (hY1.1 _ _ (gne hg146 hg147 (by decide)) hg146).1
  refine tw_put (v := .ref q128) (ty := (.object "SeaLand$Law")) hx hb hts bF2_X0 tyX0 tyX0_ok nmX0 hown hK hT hG hS hg159 shc_103 rfl 7 (by decide) (ht_at2 hts 31 rfl) (fun _ h9 => h9) rfl (by decide +kernel) rfl rfl (gl_at rfl ⟨some _, rfl, fun _ h => by cases h; exact hg148⟩) dX0_init_68 (fun H locs hT oq m167 oj hS => ?_)
  have hY := hY.put oq
  have m168 := (oj 16 (by decide) (by decide)).trans m149
  have m169 := (oj 0 (by decide) (by decide)).trans m150
  have m170 := m151.kept (oq _ (gne hg161 hg159 (by decide)))
  have m171 := (oj 1 (by decide) (by decide)).trans m152
  have m172 := m153.kept (oq _ (gne hg162 hg159 (by decide)))
  have m173 := (oj 2 (by decide) (by decide)).trans m154
  have m174 := (oj 3 (by decide) (by decide)).trans m155
  have m175 := (oj 4 (by decide) (by decide)).trans m156
  have m176 := (oj 5 (by decide) (by decide)).trans m157
  have m177 := (oj 6 (by decide) (by decide)).trans m158
  refine lv_aload_n hx hb dX0_init_71 rfl (lv_at hl 0 rfl) ?_
  have hz9 := hS.1
  refine tw_new hx hb hts bF2_X4 tyX4 tyX4_ok hown (ht_at2 hts 14 rfl) (ht_at2 hts 15 rfl) (ht_at2 hts 16 rfl) hK mon_c hT hS hG hA (shc_107) rfl nd_107 (Nat.le_of_ble_eq_true rfl) (Nat.le_of_ble_eq_true rfl) dX0_init_72 (fun q178 G10 H hq9 eG hz1 hz2 hT hx9 hG hm9 hS => ?_)
  have hn_q178 : s.heap.size ≤ q178 := Nat.le_trans hz9 (Nat.le_of_eq hz2)
  have hY := hY.new hn_q178 eG hx9 (by decide)
  have hU_51 := gT_new hU_51 eG (by decide)
  have m179 := (el_kept (hx9 _ _ hg159).2).trans m168
  have m180 := (el_kept (hx9 _ _ hg159).2).trans m169
  have m181 := m170.kept (hx9 _ _ hg161).2
  have m182 := (el_kept (hx9 _ _ hg159).2).trans m171
  have m183 := m172.kept (hx9 _ _ hg162).2
  have m184 := (el_kept (hx9 _ _ hg159).2).trans m173
  have m185 := (el_kept (hx9 _ _ hg159).2).trans m174
  have m186 := (el_kept (hx9 _ _ hg159).2).trans m175
  have m187 := (el_kept (hx9 _ _ hg159).2).trans m176
  have m188 := (el_kept (hx9 _ _ hg159).2).trans m177
  have m189 := (el_kept (hx9 _ _ hg159).2).trans m167
  have hg190 := (hx9 _ _ hg159).1
  have hg191 := (hx9 _ _ hg160).1
  have hg192 := (hx9 _ _ hg161).1
  have hg193 := (hx9 _ _ hg162).1
  have hg194 := (hx9 _ _ hg163).1
  have hg195 := (hx9 _ _ hg164).1
  have hg196 := (hx9 _ _ hg165).1
  have hg197 := (hx9 _ _ hg166).1
  have hg198 := (hx9 _ _ hg148).1
  have hg199 : G10 q178 = some 107 := by rw [eG]; exact gU_at
  refine lv_dup hx hb dX0_init_75 rfl ?_
  have hFc := gA_free hG hA hS
  have hz9 := hS.1
  refine va_callv (va_runIN (As := []) (rest := [.ref q178, .ref o0]) ⟨hx, hb, hml, hown, hts⟩ (n_X4 l dC dI kA adK adV G10 H 0 0 q178 hT hg199 (by omega) (by omega)) ⟨va_cnB 0 hts (goodIn_ca (goodIn_r _ [18, 19, 2, 3, 6, 20, 21, 22, 23, 24, 25, 26, 27, 28, 29, 12, 30] rfl (by decide +kernel)) (bs2_in _ _)) rfl rfl rfl (hE.nm 104 rfl) (ht_at2 hts 16 rfl) (by decide +kernel) ⟨(Nat.le_of_ble_eq_true rfl), (Nat.le_of_ble_eq_true rfl)⟩, rfl, (ht_at2 hts 30 rfl)⟩ ⟨fun a U g mk q => by obtain ⟨q0, q1, qK, qE, qA⟩ := q; exact ⟨q0, q1, va_K.moved (u := U) (U := U.calling g mk a) (Vm.Alike.refl U.vm) qK, EVC.blind g mk a qE, AO.blind g mk a qA⟩, fun U hU hW => ⟨rfl, hU, va_K.moved hW.alike hK, hE.call hS hFc hU hW, hAO.call hW⟩⟩ rfl rfl hl.1 rfl (lv_room (Nat.le_of_ble_eq_true rfl)) dX0_init_76 ⟨(Nat.le_of_ble_eq_true rfl), (Nat.le_of_ble_eq_true rfl)⟩) hS (fun q _ h => hFc q h) hFc (fun G11 t H locs ht hvm _ hB _ _ hS => ?_)
  (try dsimp only at hB); rw [ht] at hB; obtain ⟨hT, hg200, hY1⟩ := hB
  have hY := hY.call hn_q178 hY1 hz9 (by decide)
  have hG := hY.A hG0 hAo hA
  have hU_51 := gT_call hU_51 hY1 (by decide)
  have m201 := (el_kept (hY1.1 _ _ (gne hg190 hg199 (by decide)) hg190).2).trans m179
  have m202 := (el_kept (hY1.1 _ _ (gne hg190 hg199 (by decide)) hg190).2).trans m180
  have m203 := m181.kept (hY1.1 _ _ (gne hg192 hg199 (by decide)) hg192).2
  have m204 := (el_kept (hY1.1 _ _ (gne hg190 hg199 (by decide)) hg190).2).trans m182
  have m205 := m183.kept (hY1.1 _ _ (gne hg193 hg199 (by decide)) hg193).2
  have m206 := (el_kept (hY1.1 _ _ (gne hg190 hg199 (by decide)) hg190).2).trans m184
  have m207 := (el_kept (hY1.1 _ _ (gne hg190 hg199 (by decide)) hg190).2).trans m185
  have m208 := (el_kept (hY1.1 _ _ (gne hg190 hg199 (by decide)) hg190).2).trans m186
  have m209 := (el_kept (hY1.1 _ _ (gne hg190 hg199 (by decide)) hg190).2).trans m187
  have m210 := (el_kept (hY1.1 _ _ (gne hg190 hg199 (by decide)) hg190).2).trans m188
  have m211 := (el_kept (hY1.1 _ _ (gne hg190 hg199 (by decide)) hg190).2).trans m189
  have hg212 := (hY1.1 _ _ (gne hg190 hg199 (by decide)) hg190).1
  have hg213 := (hY1.1 _ _ (gne hg191 hg199 (by decide)) hg191).1
  have hg214 := (hY1.1 _ _ (gne hg192 hg199 (by decide)) hg192).1
  have hg215 := (hY1.1 _ _ (gne hg193 hg199 (by decide)) hg193).1
  have hg216 := (hY1.1 _ _ (gne hg194 hg199 (by decide)) hg194).1
  have hg217 := (hY1.1 _ _ (gne hg195 hg199 (by decide)) hg195).1
  have hg218 := (hY1.1 _ _ (gne hg196 hg199 (by decide)) hg196).1
  have hg219 := (hY1.1 _ _ (gne hg197 hg199 (by decide)) hg197).1
  have hg220 := (hY1.1 _ _ (gne hg198 hg199 (by decide)) hg198).1
  refine tw_put (v := .ref q178) (ty := (.object "SeaLand$Law")) hx hb hts bF2_X0 tyX0 tyX0_ok nmX0 hown hK hT hG hS hg212 shc_103 rfl 8 (by decide) (ht_at2 hts 32 rfl) (fun _ h9 => h9) rfl (by decide +kernel) rfl rfl (gl_at rfl ⟨some _, rfl, fun _ h => by cases h; exact hg200⟩) dX0_init_79 (fun H locs hT oq m221 oj hS => ?_)
  have hY := hY.put oq
  have m222 := (oj 16 (by decide) (by decide)).trans m201
  have m223 := (oj 0 (by decide) (by decide)).trans m202
  have m224 := m203.kept (oq _ (gne hg214 hg212 (by decide)))
  have m225 := (oj 1 (by decide) (by decide)).trans m204
  have m226 := m205.kept (oq _ (gne hg215 hg212 (by decide)))
  have m227 := (oj 2 (by decide) (by decide)).trans m206
  have m228 := (oj 3 (by decide) (by decide)).trans m207
  have m229 := (oj 4 (by decide) (by decide)).trans m208
  have m230 := (oj 5 (by decide) (by decide)).trans m209
  have m231 := (oj 6 (by decide) (by decide)).trans m210
  have m232 := (oj 7 (by decide) (by decide)).trans m211
  refine lv_aload_n hx hb dX0_init_82 rfl (lv_at hl 0 rfl) ?_
  have hz9 := hS.1
  refine tw_new hx hb hts bF2_X4 tyX4 tyX4_ok hown (ht_at2 hts 14 rfl) (ht_at2 hts 15 rfl) (ht_at2 hts 16 rfl) hK mon_c hT hS hG hA (shc_107) rfl nd_107 (Nat.le_of_ble_eq_true rfl) (Nat.le_of_ble_eq_true rfl) dX0_init_83 (fun q233 G12 H hq9 eG hz1 hz2 hT hx9 hG hm9 hS => ?_)
  have hn_q233 : s.heap.size ≤ q233 := Nat.le_trans hz9 (Nat.le_of_eq hz2)
  have hY := hY.new hn_q233 eG hx9 (by decide)
  have hU_51 := gT_new hU_51 eG (by decide)
  have m234 := (el_kept (hx9 _ _ hg212).2).trans m222
  have m235 := (el_kept (hx9 _ _ hg212).2).trans m223
  have m236 := m224.kept (hx9 _ _ hg214).2
  have m237 := (el_kept (hx9 _ _ hg212).2).trans m225
  have m238 := m226.kept (hx9 _ _ hg215).2
  have m239 := (el_kept (hx9 _ _ hg212).2).trans m227
  have m240 := (el_kept (hx9 _ _ hg212).2).trans m228
  have m241 := (el_kept (hx9 _ _ hg212).2).trans m229
  have m242 := (el_kept (hx9 _ _ hg212).2).trans m230
  have m243 := (el_kept (hx9 _ _ hg212).2).trans m231
  have m244 := (el_kept (hx9 _ _ hg212).2).trans m232
  have m245 := (el_kept (hx9 _ _ hg212).2).trans m221
  have hg246 := (hx9 _ _ hg212).1
  have hg247 := (hx9 _ _ hg213).1
  have hg248 := (hx9 _ _ hg214).1
  have hg249 := (hx9 _ _ hg215).1
  have hg250 := (hx9 _ _ hg216).1
  have hg251 := (hx9 _ _ hg217).1
  have hg252 := (hx9 _ _ hg218).1
  have hg253 := (hx9 _ _ hg219).1
  have hg254 := (hx9 _ _ hg220).1
  have hg255 := (hx9 _ _ hg200).1
  have hg256 : G12 q233 = some 107 := by rw [eG]; exact gU_at
  refine lv_dup hx hb dX0_init_86 rfl ?_
  have hFc := gA_free hG hA hS
  have hz9 := hS.1
  refine va_callv (va_runIN (As := []) (rest := [.ref q233, .ref o0]) ⟨hx, hb, hml, hown, hts⟩ (n_X4 l dC dI kA adK adV G12 H 0 0 q233 hT hg256 (by omega) (by omega)) ⟨va_cnB 0 hts (goodIn_ca (goodIn_r _ [18, 19, 2, 3, 6, 20, 21, 22, 23, 24, 25, 26, 27, 28, 29, 12, 30] rfl (by decide +kernel)) (bs2_in _ _)) rfl rfl rfl (hE.nm 104 rfl) (ht_at2 hts 16 rfl) (by decide +kernel) ⟨(Nat.le_of_ble_eq_true rfl), (Nat.le_of_ble_eq_true rfl)⟩, rfl, (ht_at2 hts 30 rfl)⟩ ⟨fun a U g mk q => by obtain ⟨q0, q1, qK, qE, qA⟩ := q; exact ⟨q0, q1, va_K.moved (u := U) (U := U.calling g mk a) (Vm.Alike.refl U.vm) qK, EVC.blind g mk a qE, AO.blind g mk a qA⟩, fun U hU hW => ⟨rfl, hU, va_K.moved hW.alike hK, hE.call hS hFc hU hW, hAO.call hW⟩⟩ rfl rfl hl.1 rfl (lv_room (Nat.le_of_ble_eq_true rfl)) dX0_init_87 ⟨(Nat.le_of_ble_eq_true rfl), (Nat.le_of_ble_eq_true rfl)⟩) hS (fun q _ h => hFc q h) hFc (fun G13 t H locs ht hvm _ hB _ _ hS => ?_)
  (try dsimp only at hB); rw [ht] at hB; obtain ⟨hT, hg257, hY1⟩ := hB
  have hY := hY.call hn_q233 hY1 hz9 (by decide)
  have hG := hY.A hG0 hAo hA
  have hU_51 := gT_call hU_51 hY1 (by decide)
  have m258 := (el_kept (hY1.1 _ _ (gne hg246 hg256 (by decide)) hg246).2).trans m234
  have m259 := (el_kept (hY1.1 _ _ (gne hg246 hg256 (by decide)) hg246).2).trans m235
  have m260 := m236.kept (hY1.1 _ _ (gne hg248 hg256 (by decide)) hg248).2
  have m261 := (el_kept (hY1.1 _ _ (gne hg246 hg256 (by decide)) hg246).2).trans m237
  have m262 := m238.kept (hY1.1 _ _ (gne hg249 hg256 (by decide)) hg249).2
  have m263 := (el_kept (hY1.1 _ _ (gne hg246 hg256 (by decide)) hg246).2).trans m239
  have m264 := (el_kept (hY1.1 _ _ (gne hg246 hg256 (by decide)) hg246).2).trans m240
  have m265 := (el_kept (hY1.1 _ _ (gne hg246 hg256 (by decide)) hg246).2).trans m241
  have m266 := (el_kept (hY1.1 _ _ (gne hg246 hg256 (by decide)) hg246).2).trans m242
  have m267 := (el_kept (hY1.1 _ _ (gne hg246 hg256 (by decide)) hg246).2).trans m243
  have m268 := (el_kept (hY1.1 _ _ (gne hg246 hg256 (by decide)) hg246).2).trans m244
  have m269 := (el_kept (hY1.1 _ _ (gne hg246 hg256 (by decide)) hg246).2).trans m245
  have hg270 := (hY1.1 _ _ (gne hg246 hg256 (by decide)) hg246).1
  have hg271 := (hY1.1 _ _ (gne hg247 hg256 (by decide)) hg247).1
  have hg272 := (hY1.1 _ _ (gne hg248 hg256 (by decide)) hg248).1
  have hg273 := (hY1.1 _ _ (gne hg249 hg256 (by decide)) hg249).1
  have hg274 := (hY1.1 _ _ (gne hg250 hg256 (by decide)) hg250).1
  have hg275 := (hY1.1 _ _ (gne hg251 hg256 (by decide)) hg251).1
  have hg276 := (hY1.1 _ _ (gne hg252 hg256 (by decide)) hg252).1
  have hg277 := (hY1.1 _ _ (gne hg253 hg256 (by decide)) hg253).1
  have hg278 := (hY1.1 _ _ (gne hg254 hg256 (by decide)) hg254).1
  have hg279 := (hY1.1 _ _ (gne hg255 hg256 (by decide)) hg255).1
  refine tw_put (v := .ref q233) (ty := (.object "SeaLand$Law")) hx hb hts bF2_X0 tyX0 tyX0_ok nmX0 hown hK hT hG hS hg270 shc_103 rfl 9 (by decide) (ht_at2 hts 33 rfl) (fun _ h9 => h9) rfl (by decide +kernel) rfl rfl (gl_at rfl ⟨some _, rfl, fun _ h => by cases h; exact hg257⟩) dX0_init_90 (fun H locs hT oq m280 oj hS => ?_)
  have hY := hY.put oq
  have m281 := (oj 16 (by decide) (by decide)).trans m258
  have m282 := (oj 0 (by decide) (by decide)).trans m259
  have m283 := m260.kept (oq _ (gne hg272 hg270 (by decide)))
  have m284 := (oj 1 (by decide) (by decide)).trans m261
  have m285 := m262.kept (oq _ (gne hg273 hg270 (by decide)))
  have m286 := (oj 2 (by decide) (by decide)).trans m263
  have m287 := (oj 3 (by decide) (by decide)).trans m264
  have m288 := (oj 4 (by decide) (by decide)).trans m265
  have m289 := (oj 5 (by decide) (by decide)).trans m266
  have m290 := (oj 6 (by decide) (by decide)).trans m267
  have m291 := (oj 7 (by decide) (by decide)).trans m268
  have m292 := (oj 8 (by decide) (by decide)).trans m269
  refine lv_aload_n hx hb dX0_init_93 rfl (lv_at hl 0 rfl) ?_
  refine lv_iconst (v := (-1)) hx hb dX0_init_94 (by decide) ?_
  refine tw_put (v := .int (-1)) (ty := .int) hx hb hts bF2_X0 tyX0 tyX0_ok nmX0 hown hK hT hG hS hg270 shc_103 rfl 10 (by decide) (ht_at2 hts 34 rfl) (fun _ h9 => h9) rfl (by decide +kernel) rfl rfl (gl_at rfl (gi_all _)) dX0_init_95 (fun H locs hT oq m293 oj hS => ?_)
  have hY := hY.put oq
  have m294 := (oj 16 (by decide) (by decide)).trans m281
  have m295 := (oj 0 (by decide) (by decide)).trans m282
  have m296 := m283.kept (oq _ (gne hg272 hg270 (by decide)))
  have m297 := (oj 1 (by decide) (by decide)).trans m284
  have m298 := m285.kept (oq _ (gne hg273 hg270 (by decide)))
  have m299 := (oj 2 (by decide) (by decide)).trans m286
  have m300 := (oj 3 (by decide) (by decide)).trans m287
  have m301 := (oj 4 (by decide) (by decide)).trans m288
  have m302 := (oj 5 (by decide) (by decide)).trans m289
  have m303 := (oj 6 (by decide) (by decide)).trans m290
  have m304 := (oj 7 (by decide) (by decide)).trans m291
  have m305 := (oj 8 (by decide) (by decide)).trans m292
  have m306 := (oj 9 (by decide) (by decide)).trans m280
  refine lv_aload_n hx hb dX0_init_98 rfl (lv_at hl 0 rfl) ?_
  refine tw_getM (v := .ref q7) hx hb hts bF2_X0 hown hK hT hg270 shc_103 rfl 1 (by decide) (ht_at2 hts 6 rfl) (fun _ h9 => h9) m297 dX0_init_99 ?_
  refine lv_iconst (v := (-1)) hx hb dX0_init_102 (by decide) ?_
  have hi9 : ∀ (G G' : gT) (k : Nat) (v : Value), (ga (gI (-2147483648) 2147483647)) G k v → (ga (gI (-2147483648) 2147483647)) G' k v := fun _ _ _ _ h => h
  have hz8 := hS.1
  have hT1 := hT.one hg272 shc_52 hi9
  have hFc := gA_one (t := 52) (sz := H.size) (hG _ _ hg272) (fun q hq => hA q (Nat.le_trans hS.1 hq))
  have hTo := hT
  refine va_callv (va_runS (As := [.ref q7, .int (-1)]) (rest := []) ⟨hx, hb, hml, hown, hts⟩ (c_fill_farmOf l dC dI kA adK adV (gU (fun _ => none) q7 52) H 0 0 q7 (-1) (fun _ => 0) hT1 gU_at m296 (by omega) (by omega)) (va_cwS 2 hts (goodIn_app (goodIn_r _ [37, 38, 39] rfl (by decide +kernel)) (goodIn_ca (goodIn_r _ [36] rfl (by decide +kernel)) (bs2_in _ _))) rfl rfl rfl (by decide +kernel) ⟨(Nat.le_of_ble_eq_true rfl), (Nat.le_of_ble_eq_true rfl)⟩) ⟨fun a U g mk q => by obtain ⟨q0, q1, qK, qE⟩ := q; exact ⟨q0, q1, va_K.moved (u := U) (U := U.calling g mk a) (Vm.Alike.refl U.vm) qK, EVC.blind g mk a qE⟩, fun U hU hW => ⟨rfl, hU, va_K.moved hW.alike hK, hE.call hS hFc hU hW⟩⟩ rfl rfl hl.1 rfl (lv_room (Nat.le_of_ble_eq_true rfl)) dX0_init_103 ⟨(Nat.le_of_ble_eq_true rfl), (Nat.le_of_ble_eq_true rfl)⟩) hS (fun q _ h => hFc q h) hFc (fun u t H locs ht hvm _ hB hz1 hk1 hS => ?_)
  (try dsimp only at hB); rw [ht] at hB; have hk2 : ∀ q, q < _ → q ≠ q7 → H[q]? = _ := fun q h1 h2 => hk1 q h1 (gA_not h1 h2)
  have hT := hTo.back hg272 shc_52 hi9 hB.1 hk2
  have hY := hY.put1 hn_q7 (fun q h1 h2 => hk2 q (Nat.lt_of_lt_of_le h1 hz8) h2)
  have m307 := (el_kept (hk2 _ (hTo.lt hg270) (gne hg270 hg272 (by decide)))).trans m294
  have m308 := (el_kept (hk2 _ (hTo.lt hg270) (gne hg270 hg272 (by decide)))).trans m295
  have m309 := (el_kept (hk2 _ (hTo.lt hg270) (gne hg270 hg272 (by decide)))).trans m297
  have m310 := m298.kept (hk2 _ (hTo.lt hg273) (gne hg273 hg272 (by decide)))
  have m311 := (el_kept (hk2 _ (hTo.lt hg270) (gne hg270 hg272 (by decide)))).trans m299
  have m312 := (el_kept (hk2 _ (hTo.lt hg270) (gne hg270 hg272 (by decide)))).trans m300
  have m313 := (el_kept (hk2 _ (hTo.lt hg270) (gne hg270 hg272 (by decide)))).trans m301
  have m314 := (el_kept (hk2 _ (hTo.lt hg270) (gne hg270 hg272 (by decide)))).trans m302
  have m315 := (el_kept (hk2 _ (hTo.lt hg270) (gne hg270 hg272 (by decide)))).trans m303
  have m316 := (el_kept (hk2 _ (hTo.lt hg270) (gne hg270 hg272 (by decide)))).trans m304
  have m317 := (el_kept (hk2 _ (hTo.lt hg270) (gne hg270 hg272 (by decide)))).trans m305
  have m318 := (el_kept (hk2 _ (hTo.lt hg270) (gne hg270 hg272 (by decide)))).trans m306
  have m320 := hB.2.2
  have hT := hT.grown (t := 3) mon_c hg270 (by decide) (by
    have h8 := hT _ _ hg270; rw [shc_103] at h8; rw [shc_3]
    refine gC.grow h8 (fun k v hk hm hv => match k, hk, hm, hv with
      | 0, _, hm, hv => gl_at rfl (by obtain rfl : v = .ref q1 := Option.some.inj (hm.symm.trans m308); exact ⟨_, rfl, (gU_ne (gne hg271 hg270 (by decide))).trans hg271⟩)
      | 1, _, hm, hv => gl_at rfl (by obtain rfl : v = .ref q7 := Option.some.inj (hm.symm.trans m309); exact ⟨_, rfl, (gU_ne (gne hg272 hg270 (by decide))).trans hg272⟩)
      | 2, _, hm, hv => gl_at rfl (by obtain rfl : v = .ref q18 := Option.some.inj (hm.symm.trans m311); exact ⟨_, rfl, (gU_ne (gne hg273 hg270 (by decide))).trans hg273⟩)
      | 3, _, hm, hv => gl_at rfl (by obtain rfl : v = .ref q34 := Option.some.inj (hm.symm.trans m312); exact ⟨_, rfl, (gU_ne (gne hg274 hg270 (by decide))).trans hg274⟩)
      | 4, _, hm, hv => gl_at rfl (by obtain rfl : v = .ref q53 := Option.some.inj (hm.symm.trans m313); exact ⟨_, rfl, (gU_ne (gne hg275 hg270 (by decide))).trans hg275⟩)
      | 5, _, hm, hv => gl_at rfl (by obtain rfl : v = .ref q75 := Option.some.inj (hm.symm.trans m314); exact ⟨_, rfl, (gU_ne (gne hg276 hg270 (by decide))).trans hg276⟩)
      | 6, _, hm, hv => gl_at rfl (by obtain rfl : v = .ref q100 := Option.some.inj (hm.symm.trans m315); exact ⟨_, rfl, (gU_ne (gne hg277 hg270 (by decide))).trans hg277⟩)
      | 7, _, hm, hv => gl_at rfl (by obtain rfl : v = .ref q128 := Option.some.inj (hm.symm.trans m316); exact ⟨_, rfl, (gU_ne (gne hg278 hg270 (by decide))).trans hg278⟩)
      | 8, _, hm, hv => gl_at rfl (by obtain rfl : v = .ref q178 := Option.some.inj (hm.symm.trans m317); exact ⟨_, rfl, (gU_ne (gne hg279 hg270 (by decide))).trans hg279⟩)
      | 9, _, hm, hv => gl_at rfl (by obtain rfl : v = .ref q233 := Option.some.inj (hm.symm.trans m318); exact ⟨_, rfl, (gU_ne (gne hg257 hg270 (by decide))).trans hg257⟩)
      | 10, _, hm, hv => gl_at rfl (hv _ rfl)
      | 11, _, hm, hv => gl_at rfl (hv _ rfl)
      | 12, _, hm, hv => gl_at rfl (hv _ rfl)
      | 13, _, hm, hv => gl_at rfl (hv _ rfl)
      | 14, _, hm, hv => gl_at rfl (hv _ rfl)
      | 15, _, hm, hv => gl_at rfl (hv _ rfl)
      | 16, _, hm, hv => gl_at rfl (hv _ rfl)
      | 17, _, hm, hv => gl_at rfl (hv _ rfl)
      | k + 18, hk, _, _ => absurd hk (by omega)))
  have hY := hY.grow
  have hU_51 := gT_new (q := o0) (t := 3) hU_51 rfl (by decide)
  exact W.vret hx hb hr (fun t ht hW => ⟨⟨_, rfl, trivial, by (try dsimp only); rw [ht]; exact ⟨hT, gU_at, hY, ⟨_, hU_51⟩, m307, ⟨_, m309, (gU_ne (gne hg272 hg270 (by decide))).trans hg272, m320⟩, ⟨_, m311, (gU_ne (gne hg273 hg270 (by decide))).trans hg273, m310⟩⟩⟩, hS.F ht⟩) hS.2.2 dX0_init_106
def w_n_X3 : List Cond := .code yX3_init cX3_init 2 none :: (HAppend.hAppend (α := List Cond) (β := List Cond) (γ := List Cond) [.methodLink RX3 3 objectInit, .instanceMethod objectInit, .code objectInit ⟨#[0xb1]⟩ 1 none, .classLink RX3 9 RX8, .instantiable RX8 7, .initialized RX8, .code yX8_init cX8_init 1 none, .methodLink RX8 3 objectInit, .arrayClass .int, .fieldLink RX8 9 "SeaLand$Sky" "tides" "[I", .fieldLink RX8 15 "SeaLand$Sky" "stormFrom" "[I", .fieldLink RX8 18 "SeaLand$Sky" "stormTo" "[I", .fieldLink RX8 21 "SeaLand$Sky" "stormMore" "[I", .classLink RX8 24 RX9, .instantiable RX9 3, .initialized RX9, .code yX9_init cX9_init 1 none, .methodLink RX9 3 objectInit, .fieldLink RX9 9 "SeaLand$Tellings" "hours" "[I", .fieldLink RX9 15 "SeaLand$Tellings" "numbers" "[I", .instanceMethod yX9_init, .fieldLink RX8 27 "SeaLand$Sky" "wind" "LSeaLand$Tellings;", .fieldLink RX8 31 "SeaLand$Sky" "rain" "LSeaLand$Tellings;", .instanceMethod yX8_init, .fieldLink RX3 12 "SeaLand$Lake" "sky" "LSeaLand$Sky;", .classLink RX3 18 RX2, .instantiable RX2 15, .initialized RX2, .code yX2_init cX2_init 1 none, .methodLink RX2 3 objectInit, .arrayClass .boolean, .fieldLink RX2 9 "SeaLand$Ground" "isLand" "[Z", .fieldLink RX2 15 "SeaLand$Ground" "height" "[I", .fieldLink RX2 19 "SeaLand$Ground" "soil" "[I", .fieldLink RX2 22 "SeaLand$Ground" "ditch" "[I", .fieldLink RX2 25 "SeaLand$Ground" "water" "[I", .fieldLink RX2 28 "SeaLand$Ground" "salt" "[I", .fieldLink RX2 31 "SeaLand$Ground" "dry" "[I", .fieldLink RX2 34 "SeaLand$Ground" "wet" "[I", .fieldLink RX2 37 "SeaLand$Ground" "ditchTo" "[I", .fieldLink RX2 40 "SeaLand$Ground" "ditchWater" "[I", .fieldLink RX2 43 "SeaLand$Ground" "ditchSalt" "[I", .instanceMethod yX2_init, .fieldLink RX3 21 "SeaLand$Lake" "ground" "LSeaLand$Ground;", .classLink RX3 25 RX10, .fieldLink RX3 27 "SeaLand$Lake" "works" "[LSeaLand$Work;", .instantiable RX10 12, .initialized RX10, .code yX10_init cX10_init 1 none, .methodLink RX10 3 objectInit, .fieldLink RX10 9 "SeaLand$Work" "thick" "[I", .fieldLink RX10 15 "SeaLand$Work" "clay" "[I", .instanceMethod yX10_init] bs2)
set_option maxHeartbeats 4000000 in
set_option maxRecDepth 100000 in
theorem n_X3 (l : Launch) (dC : Nat → ClassId) (dI : Nat → Nat → Nat) (kA : Nat → ClassId) (adK adV : Nat → Nat) (G : gT) (H0 : Heap) (nC nS : Int) (o0 : Nat) (hT : gH (dC, dI) kA (SHc nC nS) G H0) (hr_o0 : G o0 = some 106) (hm_4 : el H0 o0 (dI 6 4) = some (.int 0)) (hgC : 0 ≤ nC ∧ nC ≤ 40) (hgS : 0 ≤ nS ∧ nS ≤ 60) : Met l yX3_init w_n_X3 ({ frames := 3, cells := 114, slots := 2146, locals := 86 }) (va_Pc [.ref o0] (fun U => U.heap = H0 ∧ va_K (dC, dI) vwCl (tyl kA) U ∧ EVC adK adV (gA G H0.size) U U.heap ∧ AO U)) (va_Qv (fun (u : gT) => True) (fun (G1 : gT) (t : State) => gH (dC, dI) kA (SHc nC nS) G1 t.heap ∧ G1 o0 = some 6 ∧ gY ([5, 11, 12, 13, 18, 19, 20, 21, 22, 23, 24, 25, 26, 27, 28, 29, 30, 31, 32, 33, 34, 35, 36, 37, 99, 105, 111, 112, 113] : List Nat) 6 o0 G G1 H0 t.heap ∧ el t.heap o0 (dI 6 4) = some (.int 0) ∧ (∃ a1, el t.heap o0 (dI 6 1) = some (.ref a1) ∧ G1 a1 = some 5 ∧ (∃ a2, el t.heap a1 (dI 5 0) = some (.ref a2) ∧ G1 a2 = some 25 ∧ ct t.heap a2 96 (fun _ => 0)))) (gA G H0.size)) 114 2146 (gA G H0.size) := by
  refine Met.ofW (cc := cX3_init) (maxL := 2) (ret := none) (by decide) rfl ?_
  intro p e s m args below meth c s₁ B hml hv
  obtain ⟨rfl, hH0, hK, hE, hAO⟩ := hv
  have hx := B.exec
  have hb := B.bytes
  have hr := B.returns
  have hts := atoms_spec (ws := w_n_X3) B.pre
  have hown : s.vm.findClass RX3 = some m.cls := findClass_of_methodNamed B.named
  have hlocks := B.notSynchronized
  have hin : meth.name = "<init>" := (name_of_methodNamed B.named B.method).1
  subst hH0
  generalize hAe : gA G s.heap.size = A at hE ⊢
  have hA : ∀ q : Nat, s.heap.size ≤ q → A q := fun q h => by rw [← hAe]; exact Or.inr h
  have hG := gA_of hAe
  have hS : va_S A s.heap s.heap [] := va_S.rf
  have hl := lv_entry ([.ref o0]) (n := 2) (Nat.le_of_ble_eq_true rfl)
  rw [lg_entry_eq]
  generalize (lg_sl ([.ref o0]) ++ List.replicate (2 - (lg_sl ([.ref o0])).length) Slot.unset).toArray = ls at hl ⊢
  have hl : lv_has ls 2 [(0, .ref o0)] := hl
  have hG0 := hG
  have hY : gY ([5, 11, 12, 13, 18, 19, 20, 21, 22, 23, 24, 25, 26, 27, 28, 29, 30, 31, 32, 33, 34, 35, 36, 37, 99, 105, 111, 112, 113] : List Nat) 6 o0 G G s.heap s.heap := gY.rf hT
  have hAo := hG _ _ hr_o0
  refine lv_aload_n hx hb dX3_init_0 rfl (lv_at hl 0 rfl) ?_
  refine W.objInit hx hb hown (ht_at2 hts 0 rfl) (ht_at2 hts 1 rfl) (ht_at2 hts 2 rfl) rfl (by rw [hml]; exact hl.1) rfl dX3_init_1 (Nat.le_of_ble_eq_true rfl) (Nat.le_of_ble_eq_true rfl) ?_
  refine W.eq (g2 := F0 m 4 ls []) rfl ?_
  refine lv_aload_n hx hb dX3_init_4 rfl (lv_at hl 0 rfl) ?_
  have hz9 := hS.1
  refine tw_new hx hb hts bF2_X8 tyX8 tyX8_ok hown (ht_at2 hts 3 rfl) (ht_at2 hts 4 rfl) (ht_at2 hts 5 rfl) hK mon_c hT hS hG hA (shc_111) rfl nd_111 (Nat.le_of_ble_eq_true rfl) (Nat.le_of_ble_eq_true rfl) dX3_init_5 (fun q1 G1 H hq9 eG hz1 hz2 hT hx9 hG hm9 hS => ?_)
  have hn_q1 : s.heap.size ≤ q1 := Nat.le_trans hz9 (Nat.le_of_eq hz2)
  have hY := hY.new hn_q1 eG hx9 (by decide)
  have m2 := (el_kept (hx9 _ _ hr_o0).2).trans hm_4
  have hg3 := (hx9 _ _ hr_o0).1
  have hg4 : G1 q1 = some 111 := by rw [eG]; exact gU_at
  refine lv_dup hx hb dX3_init_8 rfl ?_
  have hFc := gA_free hG hA hS
  have hz9 := hS.1
  refine va_callv (va_runIN (As := []) (rest := [.ref q1, .ref o0]) ⟨hx, hb, hml, hown, hts⟩ (n_X8 l dC dI kA adK adV G1 H nC nS q1 hT hg4 (by omega) (by omega)) ⟨va_cnB 0 hts (goodIn_ca (goodIn_r _ [7, 8, 2, 3, 9, 10, 11, 12, 13, 14, 15, 16, 17, 18, 19, 20, 21, 22, 23] rfl (by decide +kernel)) (bs2_in _ _)) rfl rfl rfl (hE.nm 106 rfl) (ht_at2 hts 5 rfl) (by decide +kernel) ⟨(Nat.le_of_ble_eq_true rfl), (Nat.le_of_ble_eq_true rfl)⟩, rfl, (ht_at2 hts 23 rfl)⟩ ⟨fun a U g mk q => by obtain ⟨q0, q1, qK, qE, qA⟩ := q; exact ⟨q0, q1, va_K.moved (u := U) (U := U.calling g mk a) (Vm.Alike.refl U.vm) qK, EVC.blind g mk a qE, AO.blind g mk a qA⟩, fun U hU hW => ⟨rfl, hU, va_K.moved hW.alike hK, hE.call hS hFc hU hW, hAO.call hW⟩⟩ rfl rfl hl.1 rfl (lv_room (Nat.le_of_ble_eq_true rfl)) dX3_init_9 ⟨(Nat.le_of_ble_eq_true rfl), (Nat.le_of_ble_eq_true rfl)⟩) hS (fun q _ h => hFc q h) hFc (fun G2 t H locs ht hvm _ hB _ _ hS => ?_)
  (try dsimp only at hB); rw [ht] at hB; obtain ⟨hT, hg5, hY1⟩ := hB
  have hY := hY.call hn_q1 hY1 hz9 (by decide)
  have hG := hY.A hG0 hAo hA
  have m6 := (el_kept (hY1.1 _ _ (gne hg3 hg4 (by decide)) hg3).2).trans m2
  have hg7 := (hY1.1 _ _ (gne hg3 hg4 (by decide)) hg3).1
  refine tw_putF (v := .ref q1) (ty := (.object "SeaLand$Sky")) hx hb hts bF2_X3 tyX3 tyX3_ok nmX3 hown hK hT hG hS hg7 shc_106 rfl 0 (by decide) (ht_at2 hts 24 rfl) (fun _ h9 => h9) rfl hin rfl (by decide +kernel) rfl rfl (gl_at rfl ⟨some _, rfl, fun _ h => by cases h; exact hg5⟩) dX3_init_12 (fun H locs hT oq m8 oj hS => ?_)
  have hY := hY.put oq
  have m9 := (oj 4 (by decide) (by decide)).trans m6
  refine lv_aload_n hx hb dX3_init_15 rfl (lv_at hl 0 rfl) ?_
  have hz9 := hS.1
  refine tw_new hx hb hts bF2_X2 tyX2 tyX2_ok hown (ht_at2 hts 25 rfl) (ht_at2 hts 26 rfl) (ht_at2 hts 27 rfl) hK mon_c hT hS hG hA (shc_105) rfl nd_105 (Nat.le_of_ble_eq_true rfl) (Nat.le_of_ble_eq_true rfl) dX3_init_16 (fun q10 G3 H hq9 eG hz1 hz2 hT hx9 hG hm9 hS => ?_)
  have hn_q10 : s.heap.size ≤ q10 := Nat.le_trans hz9 (Nat.le_of_eq hz2)
  have hY := hY.new hn_q10 eG hx9 (by decide)
  have m11 := (el_kept (hx9 _ _ hg7).2).trans m9
  have m12 := (el_kept (hx9 _ _ hg7).2).trans m8
  have hg13 := (hx9 _ _ hg7).1
  have hg14 := (hx9 _ _ hg5).1
  have hg15 : G3 q10 = some 105 := by rw [eG]; exact gU_at
  refine lv_dup hx hb dX3_init_19 rfl ?_
  have hFc := gA_free hG hA hS
  have hz9 := hS.1
  refine va_callv (va_runIN (As := []) (rest := [.ref q10, .ref o0]) ⟨hx, hb, hml, hown, hts⟩ (n_X2 l dC dI kA adK adV G3 H nC nS q10 hT hg15 (by omega) (by omega)) ⟨va_cnB 0 hts (goodIn_ca (goodIn_r _ [29, 30, 2, 3, 31, 32, 9, 33, 34, 35, 36, 37, 38, 39, 40, 41, 42] rfl (by decide +kernel)) (bs2_in _ _)) rfl rfl rfl (hE.nm 107 rfl) (ht_at2 hts 27 rfl) (by decide +kernel) ⟨(Nat.le_of_ble_eq_true rfl), (Nat.le_of_ble_eq_true rfl)⟩, rfl, (ht_at2 hts 42 rfl)⟩ ⟨fun a U g mk q => by obtain ⟨q0, q1, qK, qE, qA⟩ := q; exact ⟨q0, q1, va_K.moved (u := U) (U := U.calling g mk a) (Vm.Alike.refl U.vm) qK, EVC.blind g mk a qE, AO.blind g mk a qA⟩, fun U hU hW => ⟨rfl, hU, va_K.moved hW.alike hK, hE.call hS hFc hU hW, hAO.call hW⟩⟩ rfl rfl hl.1 rfl (lv_room (Nat.le_of_ble_eq_true rfl)) dX3_init_20 ⟨(Nat.le_of_ble_eq_true rfl), (Nat.le_of_ble_eq_true rfl)⟩) hS (fun q _ h => hFc q h) hFc (fun G4 t H locs ht hvm _ hB _ _ hS => ?_)
  (try dsimp only at hB); rw [ht] at hB; obtain ⟨hT, hg20, hY1, ⟨b16, m17, hg18, m19⟩⟩ := hB
  have hY := hY.call hn_q10 hY1 hz9 (by decide)
  have hG := hY.A hG0 hAo hA
  have m21 := (el_kept (hY1.1 _ _ (gne hg13 hg15 (by decide)) hg13).2).trans m11
  have m22 := (el_kept (hY1.1 _ _ (gne hg13 hg15 (by decide)) hg13).2).trans m12
  have hg23 := (hY1.1 _ _ (gne hg13 hg15 (by decide)) hg13).1
  have hg24 := (hY1.1 _ _ (gne hg14 hg15 (by decide)) hg14).1
  refine tw_putF (v := .ref q10) (ty := (.object "SeaLand$Ground")) hx hb hts bF2_X3 tyX3 tyX3_ok nmX3 hown hK hT hG hS hg23 shc_106 rfl 1 (by decide) (ht_at2 hts 43 rfl) (fun _ h9 => h9) rfl hin rfl (by decide +kernel) rfl rfl (gl_at rfl ⟨some _, rfl, fun _ h => by cases h; exact hg20⟩) dX3_init_23 (fun H locs hT oq m25 oj hS => ?_)
  have hY := hY.put oq
  have m26 := (oj 4 (by decide) (by decide)).trans m21
  have m27 := (oj 0 (by decide) (by decide)).trans m22
  have m28 := (el_kept (oq _ (gne hg20 hg23 (by decide)))).trans m17
  have m29 := m19.kept (oq _ (gne hg18 hg23 (by decide)))
  refine lv_aload_n hx hb dX3_init_26 rfl (lv_at hl 0 rfl) ?_
  refine lv_bipush (v := 30) hx hb dX3_init_27 (by decide) ?_
  have hz9 := hS.1
  refine tw_newq hx hb hown (ht_at2 hts 44 rfl) (hAO _ (by decide)) hK mon_c hT hS hG hA (shc_99) rfl (fun _ _ _ => ⟨none, rfl, fun _ h => by cases h⟩) (by decide) rfl (Nat.le_of_ble_eq_true rfl) (Nat.le_of_ble_eq_true rfl) (Nat.le_of_ble_eq_true rfl) dX3_init_29 (fun q30 G5 H hq9 eG hz1 hz2 hT hx9 hG hm9 hS => ?_)
  have hn_q30 : s.heap.size ≤ q30 := Nat.le_trans hz9 (Nat.le_of_eq hz2)
  have hY := hY.new hn_q30 eG hx9 (by decide)
  have m31 := (el_kept (hx9 _ _ hg23).2).trans m26
  have m32 := (el_kept (hx9 _ _ hg23).2).trans m27
  have m33 := (el_kept (hx9 _ _ hg20).2).trans m28
  have m34 := m29.kept (hx9 _ _ hg18).2
  have m35 := (el_kept (hx9 _ _ hg23).2).trans m25
  have hg36 := (hx9 _ _ hg23).1
  have hg37 := (hx9 _ _ hg24).1
  have hg38 := (hx9 _ _ hg20).1
  have hg39 := (hx9 _ _ hg18).1
  have hg40 : G5 q30 = some 99 := by rw [eG]; exact gU_at
  refine tw_putF (v := .ref q30) (ty := (.array (.object "SeaLand$Work"))) hx hb hts bF2_X3 tyX3 tyX3_ok nmX3 hown hK hT hG hS hg36 shc_106 rfl 2 (by decide) (ht_at2 hts 45 rfl) (fun _ h9 => h9) rfl hin rfl (by decide +kernel) rfl rfl (gl_at rfl ⟨some _, rfl⟩) dX3_init_32 (fun H locs hT oq m41 oj hS => ?_)
  have hY := hY.put oq
  have m42 := (oj 4 (by decide) (by decide)).trans m31
  have m43 := (oj 0 (by decide) (by decide)).trans m32
  have m44 := (el_kept (oq _ (gne hg38 hg36 (by decide)))).trans m33
  have m45 := m34.kept (oq _ (gne hg39 hg36 (by decide)))
  have m46 := (oj 1 (by decide) (by decide)).trans m35
  refine lv_iconst (v := 0) hx hb dX3_init_35 (by decide) ?_
  refine lv_istore_n (lv' := [(1, .int 0), (0, .ref o0)]) hx hb dX3_init_36 rfl hl (by decide) rfl (fun ls hl => ?_)
  have key9 : ∀ (n i : Nat), i + n = 30 → ∀ (G9 : gT) (H : Heap) (locs : List Loc), gH (dC, dI) kA (SHc nC nS) G9 H → gY ([5, 11, 12, 13, 18, 19, 20, 21, 22, 23, 24, 25, 26, 27, 28, 29, 30, 31, 32, 33, 34, 35, 36, 37, 99, 105, 111, 112, 113] : List Nat) 6 o0 G G9 s.heap H → va_S A s.heap H locs → G9 o0 = some 106 → G9 q1 = some 11 → G9 q10 = some 5 → G9 b16 = some 25 → G9 q30 = some 99 → el H o0 (dI 6 4) = some (.int 0) → el H o0 (dI 6 0) = some (.ref q1) → el H q10 (dI 5 0) = some (.ref b16) → ct H b16 96 (fun _ => 0) → el H o0 (dI 6 1) = some (.ref q10) → el H o0 (dI 6 2) = some (.ref q30) → (∀ j, j < i → ∃ b, el H q30 j = some (.ref b) ∧ G9 b = some 13) → ∀ ls : Array Slot, lv_has ls 2 [(1, .int (nI i)), (0, .ref o0)] → W p l e (headSpec w_n_X3 ({ frames := 3, cells := 114, slots := 2146, locals := 86 })).room s m #[.ref o0] below meth c H locs (24 + 3 * i) (1426 + 24 * i) (MQ below (va_Qv (fun (u : gT) => True) (fun (G1 : gT) (t : State) => gH (dC, dI) kA (SHc nC nS) G1 t.heap ∧ G1 o0 = some 6 ∧ gY ([5, 11, 12, 13, 18, 19, 20, 21, 22, 23, 24, 25, 26, 27, 28, 29, 30, 31, 32, 33, 34, 35, 36, 37, 99, 105, 111, 112, 113] : List Nat) 6 o0 G G1 s.heap t.heap ∧ el t.heap o0 (dI 6 4) = some (.int 0) ∧ (∃ a1, el t.heap o0 (dI 6 1) = some (.ref a1) ∧ G1 a1 = some 5 ∧ (∃ a2, el t.heap a1 (dI 5 0) = some (.ref a2) ∧ G1 a2 = some 25 ∧ ct t.heap a2 96 (fun _ => 0)))) A) #[.ref o0] s 114 2146 A) (F0 m 37 ls []) := by
    intro n
    induction n with
    | zero =>
      intro i hn9 G9 H locs hT hY hS hw0 hw1 hw2 hw3 hw4 mw0 mw1 mw2 mw3 mw4 mw5 hall ls hl
      obtain rfl : 30 = i := by omega
      have hG := hY.A hG0 hAo hA
      refine lv_iload_n hx hb dX3_init_37 rfl (lv_at hl 0 rfl) ?_
      refine lv_bipush (v := 30) hx hb dX3_init_38 (by decide) ?_
      refine lv_icmp_ge (tgt := 62) hx hb dX3_init_40 (by decide) (fun c9 => ?_) (fun c9 => (by exfalso; have q9 : ((30 : Nat) : Int) < 30 := ti_nle c9 (by decide) (nI_toInt (by omega)); omega))
      have hT := hT.grown (t := 18) mon_c hw4 (by decide) (by
        have h8 := hT _ _ hw4; rw [shc_99] at h8; rw [shc_18]
        exact gC.grow_arr h8 (fun k v hk hm hv => by obtain ⟨b9, e1, e2⟩ := hall k hk; obtain rfl : v = .ref b9 := Option.some.inj (hm.symm.trans e1); exact ⟨b9, rfl, (gU_ne (gne e2 hw4 (by decide))).trans e2⟩))
      have hY := hY.grow1 (t := 18) hn_q30 (by decide)
      have hg47 := (gU_ne (t := 18) (gne hw0 hw4 (by decide))).trans hw0
      have hg48 := (gU_ne (t := 18) (gne hw1 hw4 (by decide))).trans hw1
      have hg49 := (gU_ne (t := 18) (gne hw2 hw4 (by decide))).trans hw2
      have hg50 := (gU_ne (t := 18) (gne hw3 hw4 (by decide))).trans hw3
      have hgq9 := gU_at (G := G9) (q := q30) (t := 18)
      refine W.widen (k := 114) (n := 2146) (by decide) (by decide) ?_
      have hT := hT.grown (t := 6) mon_c hg47 (by decide) (by
        have h8 := hT _ _ hg47; rw [shc_106] at h8; rw [shc_6]
        refine gC.grow h8 (fun k v hk hm hv => match k, hk, hm, hv with
          | 0, _, hm, hv => gl_at rfl (by obtain rfl : v = .ref q1 := Option.some.inj (hm.symm.trans mw1); exact ⟨_, rfl, (gU_ne (gne hg48 hg47 (by decide))).trans hg48⟩)
          | 1, _, hm, hv => gl_at rfl (by obtain rfl : v = .ref q10 := Option.some.inj (hm.symm.trans mw4); exact ⟨_, rfl, (gU_ne (gne hg49 hg47 (by decide))).trans hg49⟩)
          | 2, _, hm, hv => gl_at rfl (by obtain rfl : v = .ref q30 := Option.some.inj (hm.symm.trans mw5); exact ⟨_, rfl, (gU_ne (gne hgq9 hg47 (by decide))).trans hgq9⟩)
          | 3, _, hm, hv => gl_at rfl (hv _ rfl)
          | 4, _, hm, hv => gl_at rfl (hv _ rfl)
          | k + 5, hk, _, _ => absurd hk (by omega)))
      have hY := hY.grow
      exact W.vret hx hb hr (fun t ht hW => ⟨⟨_, rfl, trivial, by (try dsimp only); rw [ht]; exact ⟨hT, gU_at, hY, mw0, ⟨_, mw4, (gU_ne (gne hg49 hg47 (by decide))).trans hg49, ⟨_, mw2, (gU_ne (gne hg50 hg47 (by decide))).trans hg50, mw3⟩⟩⟩⟩, hS.F ht⟩) hS.2.2 dX3_init_62
    | succ n ih9 =>
      intro i hn9 G9 H locs hT hY hS hw0 hw1 hw2 hw3 hw4 mw0 mw1 mw2 mw3 mw4 mw5 hall ls hl
      have hG := hY.A hG0 hAo hA
      refine lv_iload_n hx hb dX3_init_37 rfl (lv_at hl 0 rfl) ?_
      refine lv_bipush (v := 30) hx hb dX3_init_38 (by decide) ?_
      refine lv_icmp_ge (tgt := 62) hx hb dX3_init_40 (by decide) (fun c9 => (by exfalso; have q9 : 30 ≤ ((i : Nat) : Int) := ti_le c9 (by decide) (nI_toInt (by omega)); omega)) (fun c9 => ?_)
      refine lv_aload_n hx hb dX3_init_43 rfl (lv_at hl 1 rfl) ?_
      refine tw_getM (v := .ref q30) hx hb hts bF2_X3 hown hK hT hw0 shc_106 rfl 2 (by decide) (ht_at2 hts 45 rfl) (fun _ h9 => h9) mw5 dX3_init_44 ?_
      refine lv_iload_n hx hb dX3_init_47 rfl (lv_at hl 0 rfl) ?_
      have hz9 := hS.1
      refine tw_new hx hb hts bF2_X10 tyX10 tyX10_ok hown (ht_at2 hts 44 rfl) (ht_at2 hts 46 rfl) (ht_at2 hts 47 rfl) hK mon_c hT hS hG hA (shc_113) rfl nd_113 (show (24 + 3 * i) + 1 ≤ 114 from by omega) (show (1426 + 24 * i) + 12 ≤ 2146 from by omega) dX3_init_48 (fun q51 G6 H hq9 eG hz1 hz2 hT hx9 hG hm9 hS => ?_)
      have hn_q51 : s.heap.size ≤ q51 := Nat.le_trans hz9 (Nat.le_of_eq hz2)
      have hY := hY.new hn_q51 eG hx9 (by decide)
      have hall : ∀ j, j < i → ∃ b, el H q30 j = some (.ref b) ∧ G6 b = some 13 := fun j hj => by obtain ⟨b9, e1, e2⟩ := hall j hj; exact ⟨b9, (el_kept (hx9 _ _ hw4).2).trans e1, (hx9 _ _ e2).1⟩
      have m52 := (el_kept (hx9 _ _ hw0).2).trans mw0
      have m53 := (el_kept (hx9 _ _ hw0).2).trans mw1
      have m54 := (el_kept (hx9 _ _ hw2).2).trans mw2
      have m55 := mw3.kept (hx9 _ _ hw3).2
      have m56 := (el_kept (hx9 _ _ hw0).2).trans mw4
      have m57 := (el_kept (hx9 _ _ hw0).2).trans mw5
      have hg58 := (hx9 _ _ hw0).1
      have hg59 := (hx9 _ _ hw1).1
      have hg60 := (hx9 _ _ hw2).1
      have hg61 := (hx9 _ _ hw3).1
      have hg62 := (hx9 _ _ hw4).1
      have hg63 : G6 q51 = some 113 := by rw [eG]; exact gU_at
      refine lv_dup hx hb dX3_init_51 rfl ?_
      have hFc := gA_free hG hA hS
      have hz9 := hS.1
      refine va_callv (va_runIN (As := []) (rest := [.ref q51, .int (nI i), .ref q30]) ⟨hx, hb, hml, hown, hts⟩ (n_X10 l dC dI kA adK adV G6 H nC nS q51 hT hg63 (by omega) (by omega)) ⟨va_cnB 0 hts (goodIn_ca (goodIn_r _ [49, 50, 2, 3, 9, 51, 52] rfl (by decide +kernel)) (bs2_in _ _)) rfl rfl rfl (hE.nm 108 rfl) (ht_at2 hts 47 rfl) (by decide +kernel) ⟨(Nat.le_of_ble_eq_true rfl), (Nat.le_of_ble_eq_true rfl)⟩, rfl, (ht_at2 hts 52 rfl)⟩ ⟨fun a U g mk q => by obtain ⟨q0, q1, qK, qE, qA⟩ := q; exact ⟨q0, q1, va_K.moved (u := U) (U := U.calling g mk a) (Vm.Alike.refl U.vm) qK, EVC.blind g mk a qE, AO.blind g mk a qA⟩, fun U hU hW => ⟨rfl, hU, va_K.moved hW.alike hK, hE.call hS hFc hU hW, hAO.call hW⟩⟩ rfl rfl hl.1 rfl (lv_room (Nat.le_of_ble_eq_true rfl)) dX3_init_52 ⟨show (24 + 3 * i) + 1 + 2 ≤ 114 from by omega, show (1426 + 24 * i) + 12 + 12 ≤ 2146 from by omega⟩) hS (fun q _ h => hFc q h) hFc (fun G7 t H locs ht hvm _ hB _ _ hS => ?_)
      (try dsimp only at hB); rw [ht] at hB; obtain ⟨hT, hg64, hY1⟩ := hB
      have hY := hY.call hn_q51 hY1 hz9 (by decide)
      have hG := hY.A hG0 hAo hA
      have hall : ∀ j, j < i → ∃ b, el H q30 j = some (.ref b) ∧ G7 b = some 13 := fun j hj => by obtain ⟨b9, e1, e2⟩ := hall j hj; exact ⟨b9, (el_kept (hY1.1 _ _ (gne hg62 hg63 (by decide)) hg62).2).trans e1, (hY1.1 _ _ (gne e2 hg63 (by decide)) e2).1⟩
      have m65 := (el_kept (hY1.1 _ _ (gne hg58 hg63 (by decide)) hg58).2).trans m52
      have m66 := (el_kept (hY1.1 _ _ (gne hg58 hg63 (by decide)) hg58).2).trans m53
      have m67 := (el_kept (hY1.1 _ _ (gne hg60 hg63 (by decide)) hg60).2).trans m54
      have m68 := m55.kept (hY1.1 _ _ (gne hg61 hg63 (by decide)) hg61).2
      have m69 := (el_kept (hY1.1 _ _ (gne hg58 hg63 (by decide)) hg58).2).trans m56
      have m70 := (el_kept (hY1.1 _ _ (gne hg58 hg63 (by decide)) hg58).2).trans m57
      have hg71 := (hY1.1 _ _ (gne hg58 hg63 (by decide)) hg58).1
      have hg72 := (hY1.1 _ _ (gne hg59 hg63 (by decide)) hg59).1
      have hg73 := (hY1.1 _ _ (gne hg60 hg63 (by decide)) hg60).1
      have hg74 := (hY1.1 _ _ (gne hg61 hg63 (by decide)) hg61).1
      have hg75 := (hY1.1 _ _ (gne hg62 hg63 (by decide)) hg62).1
      refine tw_aast (C := RX10) (i := (nI i)) hx hb hK hT hG hS hg75 shc_99 rfl hg64 shc_13 rfl (vp_in_nI (by omega) (by decide)) ⟨some _, rfl, fun _ h => by cases h; exact hg64⟩ dX3_init_55 (fun H locs hT oq m76 oi hS => ?_)
      rw [show (nI i).toNatClampNeg = i from tn_nI (by omega)] at m76 oi
      have hY := hY.put1 hn_q30 (fun q _ h => oq q h)
      have hall : ∀ j, j < i + 1 → ∃ b, el H q30 j = some (.ref b) ∧ G7 b = some 13 := fun j hj => by
        by_cases e9 : j = i
        · rw [e9]; exact ⟨_, m76, hg64⟩
        · obtain ⟨b9, e1, e2⟩ := hall j (by omega); exact ⟨b9, (oi j e9).trans e1, e2⟩
      have m77 := (el_kept (oq _ (gne hg71 hg75 (by decide)))).trans m65
      have m78 := (el_kept (oq _ (gne hg71 hg75 (by decide)))).trans m66
      have m79 := (el_kept (oq _ (gne hg73 hg75 (by decide)))).trans m67
      have m80 := m68.kept (oq _ (gne hg74 hg75 (by decide)))
      have m81 := (el_kept (oq _ (gne hg71 hg75 (by decide)))).trans m69
      have m82 := (el_kept (oq _ (gne hg71 hg75 (by decide)))).trans m70
      refine lv_iinc (v := nI (i + 1)) (lv' := [(1, .int (nI (i + 1))), (0, .ref o0)]) hx hb dX3_init_56 hl (k := 0) rfl (nI_add i 1) (by decide) rfl (fun ls hl => ?_)
      refine lv_goto (tgt := 37) hx hb dX3_init_59 (by decide) ?_
      exact W.widen (k := 24 + 3 * (i + 1)) (n := 1426 + 24 * (i + 1)) (by omega) (by omega) (ih9 (i + 1) (by omega) _ _ _ hT hY hS hg71 hg72 hg73 hg74 hg75 m77 m78 m79 m80 m81 m82 hall ls (lv_sub hl [0, 1] rfl))
  exact key9 30 0 rfl _ _ _ hT hY hS hg36 hg37 hg38 hg39 hg40 m42 m43 m44 m45 m46 m41 (fun j hj => absurd hj (by omega)) ls hl
def w_n_I3 : List Cond := .code yX3_init cX3_init 2 none :: (HAppend.hAppend (α := List Cond) (β := List Cond) (γ := List Cond) [.methodLink RX3 3 objectInit, .instanceMethod objectInit, .code objectInit ⟨#[0xb1]⟩ 1 none, .classLink RX3 9 RX8, .instantiable RX8 7, .initialized RX8, .code yX8_init cX8_init 1 none, .methodLink RX8 3 objectInit, .arrayClass .int, .fieldLink RX8 9 "SeaLand$Sky" "tides" "[I", .fieldLink RX8 15 "SeaLand$Sky" "stormFrom" "[I", .fieldLink RX8 18 "SeaLand$Sky" "stormTo" "[I", .fieldLink RX8 21 "SeaLand$Sky" "stormMore" "[I", .classLink RX8 24 RX9, .instantiable RX9 3, .initialized RX9, .code yX9_init cX9_init 1 none, .methodLink RX9 3 objectInit, .fieldLink RX9 9 "SeaLand$Tellings" "hours" "[I", .fieldLink RX9 15 "SeaLand$Tellings" "numbers" "[I", .instanceMethod yX9_init, .fieldLink RX8 27 "SeaLand$Sky" "wind" "LSeaLand$Tellings;", .fieldLink RX8 31 "SeaLand$Sky" "rain" "LSeaLand$Tellings;", .instanceMethod yX8_init, .fieldLink RX3 12 "SeaLand$Lake" "sky" "LSeaLand$Sky;", .classLink RX3 18 RX2, .instantiable RX2 15, .initialized RX2, .code yX2_init cX2_init 1 none, .methodLink RX2 3 objectInit, .arrayClass .boolean, .fieldLink RX2 9 "SeaLand$Ground" "isLand" "[Z", .fieldLink RX2 15 "SeaLand$Ground" "height" "[I", .fieldLink RX2 19 "SeaLand$Ground" "soil" "[I", .fieldLink RX2 22 "SeaLand$Ground" "ditch" "[I", .fieldLink RX2 25 "SeaLand$Ground" "water" "[I", .fieldLink RX2 28 "SeaLand$Ground" "salt" "[I", .fieldLink RX2 31 "SeaLand$Ground" "dry" "[I", .fieldLink RX2 34 "SeaLand$Ground" "wet" "[I", .fieldLink RX2 37 "SeaLand$Ground" "ditchTo" "[I", .fieldLink RX2 40 "SeaLand$Ground" "ditchWater" "[I", .fieldLink RX2 43 "SeaLand$Ground" "ditchSalt" "[I", .instanceMethod yX2_init, .fieldLink RX3 21 "SeaLand$Lake" "ground" "LSeaLand$Ground;", .classLink RX3 25 RX10, .fieldLink RX3 27 "SeaLand$Lake" "works" "[LSeaLand$Work;", .instantiable RX10 12, .initialized RX10, .code yX10_init cX10_init 1 none, .methodLink RX10 3 objectInit, .fieldLink RX10 9 "SeaLand$Work" "thick" "[I", .fieldLink RX10 15 "SeaLand$Work" "clay" "[I", .instanceMethod yX10_init] bs2)
set_option maxHeartbeats 4000000 in
set_option maxRecDepth 100000 in
theorem n_I3 (l : Launch) (dC : Nat → ClassId) (dI : Nat → Nat → Nat) (kA : Nat → ClassId) (adK adV : Nat → Nat) (G : gT) (H0 : Heap) (nC nS : Int) (o0 : Nat) (hT : gH (dC, dI) kA (SHc nC nS) G H0) (hr_o0 : G o0 = some 120) (hgC : 0 ≤ nC ∧ nC ≤ 40) (hgS : 0 ≤ nS ∧ nS ≤ 60) : Met l yX3_init w_n_I3 ({ frames := 3, cells := 114, slots := 2146, locals := 86 }) (va_Pc [.ref o0] (fun U => U.heap = H0 ∧ va_K (dC, dI) vwCl (tyl kA) U ∧ EVC adK adV (gA G H0.size) U U.heap ∧ AO U)) (va_Qv (fun (u : gT) => True) (fun (G1 : gT) (t : State) => gH (dC, dI) kA (SHc nC nS) G1 t.heap ∧ G1 o0 = some 90 ∧ gY ([70, 71, 72, 73, 74, 75, 76, 77, 78, 79, 80, 81, 82, 83, 84, 85, 86, 87, 88, 89, 91, 92, 93, 94, 121, 122, 123, 124, 125] : List Nat) 90 o0 G G1 H0 t.heap) (gA G H0.size)) 114 2146 (gA G H0.size) := by
  refine Met.ofW (cc := cX3_init) (maxL := 2) (ret := none) (by decide) rfl ?_
  intro p e s m args below meth c s₁ B hml hv
  obtain ⟨rfl, hH0, hK, hE, hAO⟩ := hv
  have hx := B.exec
  have hb := B.bytes
  have hr := B.returns
  have hts := atoms_spec (ws := w_n_I3) B.pre
  have hown : s.vm.findClass RX3 = some m.cls := findClass_of_methodNamed B.named
  have hlocks := B.notSynchronized
  have hin : meth.name = "<init>" := (name_of_methodNamed B.named B.method).1
  subst hH0
  generalize hAe : gA G s.heap.size = A at hE ⊢
  have hA : ∀ q : Nat, s.heap.size ≤ q → A q := fun q h => by rw [← hAe]; exact Or.inr h
  have hG := gA_of hAe
  have hS : va_S A s.heap s.heap [] := va_S.rf
  have hl := lv_entry ([.ref o0]) (n := 2) (Nat.le_of_ble_eq_true rfl)
  rw [lg_entry_eq]
  generalize (lg_sl ([.ref o0]) ++ List.replicate (2 - (lg_sl ([.ref o0])).length) Slot.unset).toArray = ls at hl ⊢
  have hl : lv_has ls 2 [(0, .ref o0)] := hl
  have hG0 := hG
  have hY : gY ([70, 71, 72, 73, 74, 75, 76, 77, 78, 79, 80, 81, 82, 83, 84, 85, 86, 87, 88, 89, 91, 92, 93, 94, 121, 122, 123, 124, 125] : List Nat) 90 o0 G G s.heap s.heap := gY.rf hT
  have hAo := hG _ _ hr_o0
  refine lv_aload_n hx hb dX3_init_0 rfl (lv_at hl 0 rfl) ?_
  refine W.objInit hx hb hown (ht_at2 hts 0 rfl) (ht_at2 hts 1 rfl) (ht_at2 hts 2 rfl) rfl (by rw [hml]; exact hl.1) rfl dX3_init_1 (Nat.le_of_ble_eq_true rfl) (Nat.le_of_ble_eq_true rfl) ?_
  refine W.eq (g2 := F0 m 4 ls []) rfl ?_
  refine lv_aload_n hx hb dX3_init_4 rfl (lv_at hl 0 rfl) ?_
  have hz9 := hS.1
  refine tw_new hx hb hts bF2_X8 tyX8 tyX8_ok hown (ht_at2 hts 3 rfl) (ht_at2 hts 4 rfl) (ht_at2 hts 5 rfl) hK mon_c hT hS hG hA (shc_121) rfl nd_121 (Nat.le_of_ble_eq_true rfl) (Nat.le_of_ble_eq_true rfl) dX3_init_5 (fun q1 G1 H hq9 eG hz1 hz2 hT hx9 hG hm9 hS => ?_)
  have hn_q1 : s.heap.size ≤ q1 := Nat.le_trans hz9 (Nat.le_of_eq hz2)
  have hY := hY.new hn_q1 eG hx9 (by decide)
  have hg2 := (hx9 _ _ hr_o0).1
  have hg3 : G1 q1 = some 121 := by rw [eG]; exact gU_at
  refine lv_dup hx hb dX3_init_8 rfl ?_
  have hFc := gA_free hG hA hS
  have hz9 := hS.1
  refine va_callv (va_runIN (As := []) (rest := [.ref q1, .ref o0]) ⟨hx, hb, hml, hown, hts⟩ (n_I8 l dC dI kA adK adV G1 H nC nS q1 hT hg3 (by omega) (by omega)) ⟨va_cnB 0 hts (goodIn_ca (goodIn_r _ [7, 8, 2, 3, 9, 10, 11, 12, 13, 14, 15, 16, 17, 18, 19, 20, 21, 22, 23] rfl (by decide +kernel)) (bs2_in _ _)) rfl rfl rfl (hE.nm 106 rfl) (ht_at2 hts 5 rfl) (by decide +kernel) ⟨(Nat.le_of_ble_eq_true rfl), (Nat.le_of_ble_eq_true rfl)⟩, rfl, (ht_at2 hts 23 rfl)⟩ ⟨fun a U g mk q => by obtain ⟨q0, q1, qK, qE, qA⟩ := q; exact ⟨q0, q1, va_K.moved (u := U) (U := U.calling g mk a) (Vm.Alike.refl U.vm) qK, EVC.blind g mk a qE, AO.blind g mk a qA⟩, fun U hU hW => ⟨rfl, hU, va_K.moved hW.alike hK, hE.call hS hFc hU hW, hAO.call hW⟩⟩ rfl rfl hl.1 rfl (lv_room (Nat.le_of_ble_eq_true rfl)) dX3_init_9 ⟨(Nat.le_of_ble_eq_true rfl), (Nat.le_of_ble_eq_true rfl)⟩) hS (fun q _ h => hFc q h) hFc (fun G2 t H locs ht hvm _ hB _ _ hS => ?_)
  (try dsimp only at hB); rw [ht] at hB; obtain ⟨hT, hg4, hY1⟩ := hB
  have hY := hY.call hn_q1 hY1 hz9 (by decide)
  have hG := hY.A hG0 hAo hA
  have hg5 := (hY1.1 _ _ (gne hg2 hg3 (by decide)) hg2).1
  refine tw_putF (v := .ref q1) (ty := (.object "SeaLand$Sky")) hx hb hts bF2_X3 tyX3 tyX3_ok nmX3 hown hK hT hG hS hg5 shc_120 rfl 0 (by decide) (ht_at2 hts 24 rfl) (fun _ h9 => h9) rfl hin rfl (by decide +kernel) rfl rfl (gl_at rfl ⟨some _, rfl, fun _ h => by cases h; exact hg4⟩) dX3_init_12 (fun H locs hT oq m6 oj hS => ?_)
  have hY := hY.put oq
  refine lv_aload_n hx hb dX3_init_15 rfl (lv_at hl 0 rfl) ?_
  have hz9 := hS.1
  refine tw_new hx hb hts bF2_X2 tyX2 tyX2_ok hown (ht_at2 hts 25 rfl) (ht_at2 hts 26 rfl) (ht_at2 hts 27 rfl) hK mon_c hT hS hG hA (shc_123) rfl nd_123 (Nat.le_of_ble_eq_true rfl) (Nat.le_of_ble_eq_true rfl) dX3_init_16 (fun q7 G3 H hq9 eG hz1 hz2 hT hx9 hG hm9 hS => ?_)
  have hn_q7 : s.heap.size ≤ q7 := Nat.le_trans hz9 (Nat.le_of_eq hz2)
  have hY := hY.new hn_q7 eG hx9 (by decide)
  have m8 := (el_kept (hx9 _ _ hg5).2).trans m6
  have hg9 := (hx9 _ _ hg5).1
  have hg10 := (hx9 _ _ hg4).1
  have hg11 : G3 q7 = some 123 := by rw [eG]; exact gU_at
  refine lv_dup hx hb dX3_init_19 rfl ?_
  have hFc := gA_free hG hA hS
  have hz9 := hS.1
  refine va_callv (va_runIN (As := []) (rest := [.ref q7, .ref o0]) ⟨hx, hb, hml, hown, hts⟩ (n_I2 l dC dI kA adK adV G3 H nC nS q7 hT hg11 (by omega) (by omega)) ⟨va_cnB 0 hts (goodIn_ca (goodIn_r _ [29, 30, 2, 3, 31, 32, 9, 33, 34, 35, 36, 37, 38, 39, 40, 41, 42] rfl (by decide +kernel)) (bs2_in _ _)) rfl rfl rfl (hE.nm 107 rfl) (ht_at2 hts 27 rfl) (by decide +kernel) ⟨(Nat.le_of_ble_eq_true rfl), (Nat.le_of_ble_eq_true rfl)⟩, rfl, (ht_at2 hts 42 rfl)⟩ ⟨fun a U g mk q => by obtain ⟨q0, q1, qK, qE, qA⟩ := q; exact ⟨q0, q1, va_K.moved (u := U) (U := U.calling g mk a) (Vm.Alike.refl U.vm) qK, EVC.blind g mk a qE, AO.blind g mk a qA⟩, fun U hU hW => ⟨rfl, hU, va_K.moved hW.alike hK, hE.call hS hFc hU hW, hAO.call hW⟩⟩ rfl rfl hl.1 rfl (lv_room (Nat.le_of_ble_eq_true rfl)) dX3_init_20 ⟨(Nat.le_of_ble_eq_true rfl), (Nat.le_of_ble_eq_true rfl)⟩) hS (fun q _ h => hFc q h) hFc (fun G4 t H locs ht hvm _ hB _ _ hS => ?_)
  (try dsimp only at hB); rw [ht] at hB; obtain ⟨hT, hg12, hY1⟩ := hB
  have hY := hY.call hn_q7 hY1 hz9 (by decide)
  have hG := hY.A hG0 hAo hA
  have m13 := (el_kept (hY1.1 _ _ (gne hg9 hg11 (by decide)) hg9).2).trans m8
  have hg14 := (hY1.1 _ _ (gne hg9 hg11 (by decide)) hg9).1
  have hg15 := (hY1.1 _ _ (gne hg10 hg11 (by decide)) hg10).1
  refine tw_putF (v := .ref q7) (ty := (.object "SeaLand$Ground")) hx hb hts bF2_X3 tyX3 tyX3_ok nmX3 hown hK hT hG hS hg14 shc_120 rfl 1 (by decide) (ht_at2 hts 43 rfl) (fun _ h9 => h9) rfl hin rfl (by decide +kernel) rfl rfl (gl_at rfl ⟨some _, rfl, fun _ h => by cases h; exact hg12⟩) dX3_init_23 (fun H locs hT oq m16 oj hS => ?_)
  have hY := hY.put oq
  have m17 := (oj 0 (by decide) (by decide)).trans m13
  refine lv_aload_n hx hb dX3_init_26 rfl (lv_at hl 0 rfl) ?_
  refine lv_bipush (v := 30) hx hb dX3_init_27 (by decide) ?_
  have hz9 := hS.1
  refine tw_newq hx hb hown (ht_at2 hts 44 rfl) (hAO _ (by decide)) hK mon_c hT hS hG hA (shc_125) rfl (fun _ _ _ => ⟨none, rfl, fun _ h => by cases h⟩) (by decide) rfl (Nat.le_of_ble_eq_true rfl) (Nat.le_of_ble_eq_true rfl) (Nat.le_of_ble_eq_true rfl) dX3_init_29 (fun q18 G5 H hq9 eG hz1 hz2 hT hx9 hG hm9 hS => ?_)
  have hn_q18 : s.heap.size ≤ q18 := Nat.le_trans hz9 (Nat.le_of_eq hz2)
  have hY := hY.new hn_q18 eG hx9 (by decide)
  have m19 := (el_kept (hx9 _ _ hg14).2).trans m17
  have m20 := (el_kept (hx9 _ _ hg14).2).trans m16
  have hg21 := (hx9 _ _ hg14).1
  have hg22 := (hx9 _ _ hg15).1
  have hg23 := (hx9 _ _ hg12).1
  have hg24 : G5 q18 = some 125 := by rw [eG]; exact gU_at
  refine tw_putF (v := .ref q18) (ty := (.array (.object "SeaLand$Work"))) hx hb hts bF2_X3 tyX3 tyX3_ok nmX3 hown hK hT hG hS hg21 shc_120 rfl 2 (by decide) (ht_at2 hts 45 rfl) (fun _ h9 => h9) rfl hin rfl (by decide +kernel) rfl rfl (gl_at rfl ⟨some _, rfl⟩) dX3_init_32 (fun H locs hT oq m25 oj hS => ?_)
  have hY := hY.put oq
  have m26 := (oj 0 (by decide) (by decide)).trans m19
  have m27 := (oj 1 (by decide) (by decide)).trans m20
  refine lv_iconst (v := 0) hx hb dX3_init_35 (by decide) ?_
  refine lv_istore_n (lv' := [(1, .int 0), (0, .ref o0)]) hx hb dX3_init_36 rfl hl (by decide) rfl (fun ls hl => ?_)
  have key9 : ∀ (n i : Nat), i + n = 30 → ∀ (G9 : gT) (H : Heap) (locs : List Loc), gH (dC, dI) kA (SHc nC nS) G9 H → gY ([70, 71, 72, 73, 74, 75, 76, 77, 78, 79, 80, 81, 82, 83, 84, 85, 86, 87, 88, 89, 91, 92, 93, 94, 121, 122, 123, 124, 125] : List Nat) 90 o0 G G9 s.heap H → va_S A s.heap H locs → G9 o0 = some 120 → G9 q1 = some 91 → G9 q7 = some 93 → G9 q18 = some 125 → el H o0 (dI 6 0) = some (.ref q1) → el H o0 (dI 6 1) = some (.ref q7) → el H o0 (dI 6 2) = some (.ref q18) → (∀ j, j < i → ∃ b, el H q18 j = some (.ref b) ∧ G9 b = some 94) → ∀ ls : Array Slot, lv_has ls 2 [(1, .int (nI i)), (0, .ref o0)] → W p l e (headSpec w_n_I3 ({ frames := 3, cells := 114, slots := 2146, locals := 86 })).room s m #[.ref o0] below meth c H locs (24 + 3 * i) (1426 + 24 * i) (MQ below (va_Qv (fun (u : gT) => True) (fun (G1 : gT) (t : State) => gH (dC, dI) kA (SHc nC nS) G1 t.heap ∧ G1 o0 = some 90 ∧ gY ([70, 71, 72, 73, 74, 75, 76, 77, 78, 79, 80, 81, 82, 83, 84, 85, 86, 87, 88, 89, 91, 92, 93, 94, 121, 122, 123, 124, 125] : List Nat) 90 o0 G G1 s.heap t.heap) A) #[.ref o0] s 114 2146 A) (F0 m 37 ls []) := by
    intro n
    induction n with
    | zero =>
      intro i hn9 G9 H locs hT hY hS hw0 hw1 hw2 hw3 mw0 mw1 mw2 hall ls hl
      obtain rfl : 30 = i := by omega
      have hG := hY.A hG0 hAo hA
      refine lv_iload_n hx hb dX3_init_37 rfl (lv_at hl 0 rfl) ?_
      refine lv_bipush (v := 30) hx hb dX3_init_38 (by decide) ?_
      refine lv_icmp_ge (tgt := 62) hx hb dX3_init_40 (by decide) (fun c9 => ?_) (fun c9 => (by exfalso; have q9 : ((30 : Nat) : Int) < 30 := ti_nle c9 (by decide) (nI_toInt (by omega)); omega))
      have hT := hT.grown (t := 70) mon_c hw3 (by decide) (by
        have h8 := hT _ _ hw3; rw [shc_125] at h8; rw [shc_70]
        exact gC.grow_arr h8 (fun k v hk hm hv => by obtain ⟨b9, e1, e2⟩ := hall k hk; obtain rfl : v = .ref b9 := Option.some.inj (hm.symm.trans e1); exact ⟨b9, rfl, (gU_ne (gne e2 hw3 (by decide))).trans e2⟩))
      have hY := hY.grow1 (t := 70) hn_q18 (by decide)
      have hg28 := (gU_ne (t := 70) (gne hw0 hw3 (by decide))).trans hw0
      have hg29 := (gU_ne (t := 70) (gne hw1 hw3 (by decide))).trans hw1
      have hg30 := (gU_ne (t := 70) (gne hw2 hw3 (by decide))).trans hw2
      have hgq9 := gU_at (G := G9) (q := q18) (t := 70)
      refine W.widen (k := 114) (n := 2146) (by decide) (by decide) ?_
      have hT := hT.grown (t := 90) mon_c hg28 (by decide) (by
        have h8 := hT _ _ hg28; rw [shc_120] at h8; rw [shc_90]
        refine gC.growT h8 (fun k v hk hm hv => match k, hk, hm, hv with
          | 0, _, hm, hv => gl_at rfl (by obtain rfl : v = .ref q1 := Option.some.inj (hm.symm.trans mw0); exact ⟨_, rfl, (gU_ne (gne hg29 hg28 (by decide))).trans hg29⟩)
          | 1, _, hm, hv => gl_at rfl (by obtain rfl : v = .ref q7 := Option.some.inj (hm.symm.trans mw1); exact ⟨_, rfl, (gU_ne (gne hg30 hg28 (by decide))).trans hg30⟩)
          | 2, _, hm, hv => gl_at rfl (by obtain rfl : v = .ref q18 := Option.some.inj (hm.symm.trans mw2); exact ⟨_, rfl, (gU_ne (gne hgq9 hg28 (by decide))).trans hgq9⟩)
          | 3, _, hm, hv => gl_at rfl (hv _ rfl)
          | 4, _, hm, hv => gl_at rfl (hv _ rfl)
          | k + 5, hk, _, _ => absurd hk (by omega)))
      have hY := hY.grow
      exact W.vret hx hb hr (fun t ht hW => ⟨⟨_, rfl, trivial, by (try dsimp only); rw [ht]; exact ⟨hT, gU_at, hY⟩⟩, hS.F ht⟩) hS.2.2 dX3_init_62
    | succ n ih9 =>
      intro i hn9 G9 H locs hT hY hS hw0 hw1 hw2 hw3 mw0 mw1 mw2 hall ls hl
      have hG := hY.A hG0 hAo hA
      refine lv_iload_n hx hb dX3_init_37 rfl (lv_at hl 0 rfl) ?_
      refine lv_bipush (v := 30) hx hb dX3_init_38 (by decide) ?_
      refine lv_icmp_ge (tgt := 62) hx hb dX3_init_40 (by decide) (fun c9 => (by exfalso; have q9 : 30 ≤ ((i : Nat) : Int) := ti_le c9 (by decide) (nI_toInt (by omega)); omega)) (fun c9 => ?_)
      refine lv_aload_n hx hb dX3_init_43 rfl (lv_at hl 1 rfl) ?_
      refine tw_getM (v := .ref q18) hx hb hts bF2_X3 hown hK hT hw0 shc_120 rfl 2 (by decide) (ht_at2 hts 45 rfl) (fun _ h9 => h9) mw2 dX3_init_44 ?_
      refine lv_iload_n hx hb dX3_init_47 rfl (lv_at hl 0 rfl) ?_
      have hz9 := hS.1
      refine tw_new hx hb hts bF2_X10 tyX10 tyX10_ok hown (ht_at2 hts 44 rfl) (ht_at2 hts 46 rfl) (ht_at2 hts 47 rfl) hK mon_c hT hS hG hA (shc_124) rfl nd_124 (show (24 + 3 * i) + 1 ≤ 114 from by omega) (show (1426 + 24 * i) + 12 ≤ 2146 from by omega) dX3_init_48 (fun q31 G6 H hq9 eG hz1 hz2 hT hx9 hG hm9 hS => ?_)
      have hn_q31 : s.heap.size ≤ q31 := Nat.le_trans hz9 (Nat.le_of_eq hz2)
      have hY := hY.new hn_q31 eG hx9 (by decide)
      have hall : ∀ j, j < i → ∃ b, el H q18 j = some (.ref b) ∧ G6 b = some 94 := fun j hj => by obtain ⟨b9, e1, e2⟩ := hall j hj; exact ⟨b9, (el_kept (hx9 _ _ hw3).2).trans e1, (hx9 _ _ e2).1⟩
      have m32 := (el_kept (hx9 _ _ hw0).2).trans mw0
      have m33 := (el_kept (hx9 _ _ hw0).2).trans mw1
      have m34 := (el_kept (hx9 _ _ hw0).2).trans mw2
      have hg35 := (hx9 _ _ hw0).1
      have hg36 := (hx9 _ _ hw1).1
      have hg37 := (hx9 _ _ hw2).1
      have hg38 := (hx9 _ _ hw3).1
      have hg39 : G6 q31 = some 124 := by rw [eG]; exact gU_at
      refine lv_dup hx hb dX3_init_51 rfl ?_
      have hFc := gA_free hG hA hS
      have hz9 := hS.1
      refine va_callv (va_runIN (As := []) (rest := [.ref q31, .int (nI i), .ref q18]) ⟨hx, hb, hml, hown, hts⟩ (n_I10 l dC dI kA adK adV G6 H nC nS q31 hT hg39 (by omega) (by omega)) ⟨va_cnB 0 hts (goodIn_ca (goodIn_r _ [49, 50, 2, 3, 9, 51, 52] rfl (by decide +kernel)) (bs2_in _ _)) rfl rfl rfl (hE.nm 108 rfl) (ht_at2 hts 47 rfl) (by decide +kernel) ⟨(Nat.le_of_ble_eq_true rfl), (Nat.le_of_ble_eq_true rfl)⟩, rfl, (ht_at2 hts 52 rfl)⟩ ⟨fun a U g mk q => by obtain ⟨q0, q1, qK, qE, qA⟩ := q; exact ⟨q0, q1, va_K.moved (u := U) (U := U.calling g mk a) (Vm.Alike.refl U.vm) qK, EVC.blind g mk a qE, AO.blind g mk a qA⟩, fun U hU hW => ⟨rfl, hU, va_K.moved hW.alike hK, hE.call hS hFc hU hW, hAO.call hW⟩⟩ rfl rfl hl.1 rfl (lv_room (Nat.le_of_ble_eq_true rfl)) dX3_init_52 ⟨show (24 + 3 * i) + 1 + 2 ≤ 114 from by omega, show (1426 + 24 * i) + 12 + 12 ≤ 2146 from by omega⟩) hS (fun q _ h => hFc q h) hFc (fun G7 t H locs ht hvm _ hB _ _ hS => ?_)
      (try dsimp only at hB); rw [ht] at hB; obtain ⟨hT, hg40, hY1⟩ := hB
      have hY := hY.call hn_q31 hY1 hz9 (by decide)
      have hG := hY.A hG0 hAo hA
      have hall : ∀ j, j < i → ∃ b, el H q18 j = some (.ref b) ∧ G7 b = some 94 := fun j hj => by obtain ⟨b9, e1, e2⟩ := hall j hj; exact ⟨b9, (el_kept (hY1.1 _ _ (gne hg38 hg39 (by decide)) hg38).2).trans e1, (hY1.1 _ _ (gne e2 hg39 (by decide)) e2).1⟩
      have m41 := (el_kept (hY1.1 _ _ (gne hg35 hg39 (by decide)) hg35).2).trans m32
      have m42 := (el_kept (hY1.1 _ _ (gne hg35 hg39 (by decide)) hg35).2).trans m33
      have m43 := (el_kept (hY1.1 _ _ (gne hg35 hg39 (by decide)) hg35).2).trans m34
      have hg44 := (hY1.1 _ _ (gne hg35 hg39 (by decide)) hg35).1
      have hg45 := (hY1.1 _ _ (gne hg36 hg39 (by decide)) hg36).1
      have hg46 := (hY1.1 _ _ (gne hg37 hg39 (by decide)) hg37).1
      have hg47 := (hY1.1 _ _ (gne hg38 hg39 (by decide)) hg38).1
      refine tw_aast (C := RX10) (i := (nI i)) hx hb hK hT hG hS hg47 shc_125 rfl hg40 shc_94 rfl (vp_in_nI (by omega) (by decide)) ⟨some _, rfl, fun _ h => by cases h; exact hg40⟩ dX3_init_55 (fun H locs hT oq m48 oi hS => ?_)
      rw [show (nI i).toNatClampNeg = i from tn_nI (by omega)] at m48 oi
      have hY := hY.put1 hn_q18 (fun q _ h => oq q h)
      have hall : ∀ j, j < i + 1 → ∃ b, el H q18 j = some (.ref b) ∧ G7 b = some 94 := fun j hj => by
        by_cases e9 : j = i
        · rw [e9]; exact ⟨_, m48, hg40⟩
        · obtain ⟨b9, e1, e2⟩ := hall j (by omega); exact ⟨b9, (oi j e9).trans e1, e2⟩
      have m49 := (el_kept (oq _ (gne hg44 hg47 (by decide)))).trans m41
      have m50 := (el_kept (oq _ (gne hg44 hg47 (by decide)))).trans m42
      have m51 := (el_kept (oq _ (gne hg44 hg47 (by decide)))).trans m43
      refine lv_iinc (v := nI (i + 1)) (lv' := [(1, .int (nI (i + 1))), (0, .ref o0)]) hx hb dX3_init_56 hl (k := 0) rfl (nI_add i 1) (by decide) rfl (fun ls hl => ?_)
      refine lv_goto (tgt := 37) hx hb dX3_init_59 (by decide) ?_
      exact W.widen (k := 24 + 3 * (i + 1)) (n := 1426 + 24 * (i + 1)) (by omega) (by omega) (ih9 (i + 1) (by omega) _ _ _ hT hY hS hg44 hg45 hg46 hg47 m49 m50 m51 hall ls (lv_sub hl [0, 1] rfl))
  exact key9 30 0 rfl _ _ _ hT hY hS hg21 hg22 hg23 hg24 m26 m27 m25 (fun j hj => absurd hj (by omega)) ls hl
def w_n_X11 : List Cond := .code yX11_init cX11_init 1 none :: (HAppend.hAppend (α := List Cond) (β := List Cond) (γ := List Cond) [.methodLink RX11 1 objectInit, .instanceMethod objectInit, .code objectInit ⟨#[0xb1]⟩ 1 none, .arrayClass .int, .fieldLink RX11 9 "SeaLand" "tape" "[I", .classLink RX11 13 RX3, .instantiable RX3 5, .initialized RX3, .code yX3_init cX3_init 2 none, .methodLink RX3 3 objectInit, .classLink RX3 9 RX8, .instantiable RX8 7, .initialized RX8, .code yX8_init cX8_init 1 none, .methodLink RX8 3 objectInit, .fieldLink RX8 9 "SeaLand$Sky" "tides" "[I", .fieldLink RX8 15 "SeaLand$Sky" "stormFrom" "[I", .fieldLink RX8 18 "SeaLand$Sky" "stormTo" "[I", .fieldLink RX8 21 "SeaLand$Sky" "stormMore" "[I", .classLink RX8 24 RX9, .instantiable RX9 3, .initialized RX9, .code yX9_init cX9_init 1 none, .methodLink RX9 3 objectInit, .fieldLink RX9 9 "SeaLand$Tellings" "hours" "[I", .fieldLink RX9 15 "SeaLand$Tellings" "numbers" "[I", .instanceMethod yX9_init, .fieldLink RX8 27 "SeaLand$Sky" "wind" "LSeaLand$Tellings;", .fieldLink RX8 31 "SeaLand$Sky" "rain" "LSeaLand$Tellings;", .instanceMethod yX8_init, .fieldLink RX3 12 "SeaLand$Lake" "sky" "LSeaLand$Sky;", .classLink RX3 18 RX2, .instantiable RX2 15, .initialized RX2, .code yX2_init cX2_init 1 none, .methodLink RX2 3 objectInit, .arrayClass .boolean, .fieldLink RX2 9 "SeaLand$Ground" "isLand" "[Z", .fieldLink RX2 15 "SeaLand$Ground" "height" "[I", .fieldLink RX2 19 "SeaLand$Ground" "soil" "[I", .fieldLink RX2 22 "SeaLand$Ground" "ditch" "[I", .fieldLink RX2 25 "SeaLand$Ground" "water" "[I", .fieldLink RX2 28 "SeaLand$Ground" "salt" "[I", .fieldLink RX2 31 "SeaLand$Ground" "dry" "[I", .fieldLink RX2 34 "SeaLand$Ground" "wet" "[I", .fieldLink RX2 37 "SeaLand$Ground" "ditchTo" "[I", .fieldLink RX2 40 "SeaLand$Ground" "ditchWater" "[I", .fieldLink RX2 43 "SeaLand$Ground" "ditchSalt" "[I", .instanceMethod yX2_init, .fieldLink RX3 21 "SeaLand$Lake" "ground" "LSeaLand$Ground;", .classLink RX3 25 RX10, .fieldLink RX3 27 "SeaLand$Lake" "works" "[LSeaLand$Work;", .instantiable RX10 12, .initialized RX10, .code yX10_init cX10_init 1 none, .methodLink RX10 3 objectInit, .fieldLink RX10 9 "SeaLand$Work" "thick" "[I", .fieldLink RX10 15 "SeaLand$Work" "clay" "[I", .instanceMethod yX10_init, .methodLink RX11 15 yX3_init, .instanceMethod yX3_init, .fieldLink RX11 16 "SeaLand" "lake" "LSeaLand$Lake;", .classLink RX11 20 RX6, .instantiable RX6 4, .initialized RX6, .code yX6_init cX6_init 1 none, .methodLink RX6 3 objectInit, .fieldLink RX6 9 "SeaLand$Rows" "shown" "[I", .fieldLink RX6 15 "SeaLand$Rows" "proof" "[I", .instanceMethod yX6_init, .fieldLink RX11 23 "SeaLand" "rows" "LSeaLand$Rows;", .classLink RX11 27 RX0, .instantiable RX0 18, .initialized RX0, .code yX0_init cX0_init 1 none, .methodLink RX0 3 objectInit, .classLink RX0 9 RX7, .fieldLink RX0 11 "SeaLand$Board" "settlers" "[LSeaLand$Settler;", .fieldLink RX0 17 "SeaLand$Board" "farmOf" "[I", .fieldLink RX0 21 "SeaLand$Board" "crops" "[I", .fieldLink RX0 24 "SeaLand$Board" "held" "[Z", .fieldLink RX0 28 "SeaLand$Board" "harvested" "[Z", .arrayClass .long, .fieldLink RX0 33 "SeaLand$Board" "facts" "[J", .fieldLink RX0 37 "SeaLand$Board" "marks" "[I", .classLink RX0 31 RX4, .instantiable RX4 14, .initialized RX4, .code yX4_init cX4_init 1 none, .methodLink RX4 5 objectInit, .fieldLink RX4 11 "SeaLand$Law" "things" "[I", .fieldLink RX4 15 "SeaLand$Law" "begins" "[I", .fieldLink RX4 18 "SeaLand$Law" "kinds" "[I", .fieldLink RX4 21 "SeaLand$Law" "firsts" "[I", .fieldLink RX4 24 "SeaLand$Law" "seconds" "[I", .fieldLink RX4 27 "SeaLand$Law" "froms" "[I", .fieldLink RX4 30 "SeaLand$Law" "tos" "[I", .fieldLink RX4 33 "SeaLand$Law" "stepFrom" "[I", .fieldLink RX4 36 "SeaLand$Law" "stepTo" "[I", .fieldLink RX4 39 "SeaLand$Law" "steps" "[I", .fieldLink RX4 42 "SeaLand$Law" "stack" "[J", .instanceMethod yX4_init, .fieldLink RX0 41 "SeaLand$Board" "force" "LSeaLand$Law;", .fieldLink RX0 45 "SeaLand$Board" "proposed" "LSeaLand$Law;", .fieldLink RX0 48 "SeaLand$Board" "spare" "LSeaLand$Law;", .fieldLink RX0 51 "SeaLand$Board" "fault" "I", .code yJ7_fill_53178 cJ7_fill_53178 4 none, .methodLink RX0 55 yJ7_fill_53178, .static yJ7_fill_53178, .initialized RJ7, .methodLink RX11 29 yX0_init, .instanceMethod yX0_init, .fieldLink RX11 30 "SeaLand" "board" "LSeaLand$Board;", .classLink RX11 34 RX1, .fieldLink RX11 36 "SeaLand" "contracts" "[LSeaLand$Contract;", .classLink RX11 40 RX5, .instantiable RX5 17, .initialized RX5, .code yX5_init cX5_init 1 none, .methodLink RX5 5 objectInit, .fieldLink RX5 13 "SeaLand$Plans" "liftOf" "[I", .fieldLink RX5 17 "SeaLand$Plans" "leastNow" "[I", .fieldLink RX5 20 "SeaLand$Plans" "leastThen" "[I", .fieldLink RX5 23 "SeaLand$Plans" "fields" "[I", .fieldLink RX5 26 "SeaLand$Plans" "fieldLevels" "[I", .fieldLink RX5 29 "SeaLand$Plans" "costs" "[I", .fieldLink RX5 32 "SeaLand$Plans" "lasts" "[I", .fieldLink RX5 35 "SeaLand$Plans" "incomes" "[I", .fieldLink RX5 38 "SeaLand$Plans" "acres" "[I", .fieldLink RX5 41 "SeaLand$Plans" "placed" "[Z", .fieldLink RX5 45 "SeaLand$Plans" "trial" "[I", .fieldLink RX5 48 "SeaLand$Plans" "best" "[I", .instanceMethod yX5_init, .fieldLink RX11 43 "SeaLand" "plans" "LSeaLand$Plans;"] bs2)
set_option maxHeartbeats 4000000 in
set_option maxRecDepth 100000 in
theorem n_X11 (l : Launch) (dC : Nat → ClassId) (dI : Nat → Nat → Nat) (kA : Nat → ClassId) (adK adV : Nat → Nat) (G : gT) (H0 : Heap)  (o0 : Nat) (hT : gH (dC, dI) kA (SHc 0 0) G H0) (hr_o0 : G o0 = some 114) (hm_6 : el H0 o0 (dI 14 6) = some (.null)) : Met l yX11_init w_n_X11 ({ frames := 4, cells := 177, slots := 11966, locals := 115 }) (va_Pc [.ref o0] (fun U => U.heap = H0 ∧ va_K (dC, dI) vwCl (tyl kA) U ∧ EVC adK adV (gA G H0.size) U U.heap ∧ AO U)) (va_Qv (fun (u : gT) => True) (fun (G1 : gT) (t : State) => gH (dC, dI) kA (SHc 0 0) G1 t.heap ∧ G1 o0 = some 14 ∧ gY ([3, 5, 6, 7, 8, 9, 11, 12, 13, 16, 17, 18, 19, 20, 21, 22, 23, 24, 25, 26, 27, 28, 29, 30, 31, 32, 33, 34, 35, 36, 37, 38, 39, 40, 41, 42, 43, 44, 45, 46, 47, 48, 49, 50, 51, 52, 53, 54, 55, 56, 57, 58, 59, 60, 61, 62, 63, 64, 65, 66, 67, 68, 69, 99, 103, 105, 106, 107, 108, 109, 111, 112, 113] : List Nat) 14 o0 G G1 H0 t.heap ∧ (∃ w, ∀ b, G1 b = some 3 → G b = some 3 ∨ b = w) ∧ (∃ w, ∀ b, G1 b = some 51 → G b = some 51 ∨ b = w) ∧ (∃ w, ∀ b, G1 b = some 17 → G b = some 17 ∨ b = w) ∧ (∃ a1, el t.heap o0 (dI 14 1) = some (.ref a1) ∧ G1 a1 = some 6 ∧ el t.heap a1 (dI 6 4) = some (.int 0) ∧ (∃ a2, el t.heap a1 (dI 6 1) = some (.ref a2) ∧ G1 a2 = some 5 ∧ (∃ a3, el t.heap a2 (dI 5 0) = some (.ref a3) ∧ G1 a3 = some 25 ∧ ct t.heap a3 96 (fun _ => 0)))) ∧ (∃ a1, el t.heap o0 (dI 14 3) = some (.ref a1) ∧ G1 a1 = some 3 ∧ el t.heap a1 (dI 3 16) = some (.int 0) ∧ (∃ a2, el t.heap a1 (dI 3 1) = some (.ref a2) ∧ G1 a2 = some 52 ∧ ct t.heap a2 96 (fun _ => (-1))) ∧ (∃ a2, el t.heap a1 (dI 3 2) = some (.ref a2) ∧ G1 a2 = some 53 ∧ ct t.heap a2 30 (fun _ => 0))) ∧ el t.heap o0 (dI 14 6) = some .null) (gA G H0.size)) 177 11966 (gA G H0.size) := by
  refine Met.ofW (cc := cX11_init) (maxL := 1) (ret := none) (by decide) rfl ?_
  intro p e s m args below meth c s₁ B hml hv
  obtain ⟨rfl, hH0, hK, hE, hAO⟩ := hv
  have hx := B.exec
  have hb := B.bytes
  have hr := B.returns
  have hts := atoms_spec (ws := w_n_X11) B.pre
  have hown : s.vm.findClass RX11 = some m.cls := findClass_of_methodNamed B.named
  have hlocks := B.notSynchronized
  have hin : meth.name = "<init>" := (name_of_methodNamed B.named B.method).1
  subst hH0
  generalize hAe : gA G s.heap.size = A at hE ⊢
  have hA : ∀ q : Nat, s.heap.size ≤ q → A q := fun q h => by rw [← hAe]; exact Or.inr h
  have hG := gA_of hAe
  have hS : va_S A s.heap s.heap [] := va_S.rf
  have hl := lv_entry ([.ref o0]) (n := 1) (Nat.le_of_ble_eq_true rfl)
  rw [lg_entry_eq]
  generalize (lg_sl ([.ref o0]) ++ List.replicate (1 - (lg_sl ([.ref o0])).length) Slot.unset).toArray = ls at hl ⊢
  have hl : lv_has ls 1 [(0, .ref o0)] := hl
  have hG0 := hG
  have hY : gY ([3, 5, 6, 7, 8, 9, 11, 12, 13, 16, 17, 18, 19, 20, 21, 22, 23, 24, 25, 26, 27, 28, 29, 30, 31, 32, 33, 34, 35, 36, 37, 38, 39, 40, 41, 42, 43, 44, 45, 46, 47, 48, 49, 50, 51, 52, 53, 54, 55, 56, 57, 58, 59, 60, 61, 62, 63, 64, 65, 66, 67, 68, 69, 99, 103, 105, 106, 107, 108, 109, 111, 112, 113] : List Nat) 14 o0 G G s.heap s.heap := gY.rf hT
  have hU_3 : ∀ b, G b = some 3 → G b = some 3 := fun _ h => h
  have hU_51 : ∀ b, G b = some 51 → G b = some 51 := fun _ h => h
  have hU_17 : ∀ b, G b = some 17 → G b = some 17 := fun _ h => h
  have hAo := hG _ _ hr_o0
  refine lv_aload_n hx hb dX11_init_0 rfl (lv_at hl 0 rfl) ?_
  refine W.objInit hx hb hown (ht_at2 hts 0 rfl) (ht_at2 hts 1 rfl) (ht_at2 hts 2 rfl) rfl (by rw [hml]; exact hl.1) rfl dX11_init_1 (Nat.le_of_ble_eq_true rfl) (Nat.le_of_ble_eq_true rfl) ?_
  refine W.eq (g2 := F0 m 4 ls []) rfl ?_
  refine lv_aload_n hx hb dX11_init_4 rfl (lv_at hl 0 rfl) ?_
  refine lv_sipush (v := 400) hx hb dX11_init_5 (by decide) ?_
  have hz9 := hS.1
  refine tw_newa (ty := .int) hx hb (ht_at2 hts 3 rfl) rfl hK mon_c hT hS hG hA (shc_16) rfl (fun _ _ _ => ⟨0, rfl, by decide, by decide⟩) (by decide) rfl (Nat.le_of_ble_eq_true rfl) (Nat.le_of_ble_eq_true rfl) (Nat.le_of_ble_eq_true rfl) dX11_init_8 (fun q1 G1 H hq9 eG hz1 hz2 hT hx9 hG hm9 hS => ?_)
  have hn_q1 : s.heap.size ≤ q1 := Nat.le_trans hz9 (Nat.le_of_eq hz2)
  have hY := hY.new hn_q1 eG hx9 (by decide)
  have hU_3 := gT_new hU_3 eG (by decide)
  have hU_51 := gT_new hU_51 eG (by decide)
  have hU_17 := gT_new hU_17 eG (by decide)
  have m2 := (el_kept (hx9 _ _ hr_o0).2).trans hm_6
  have hg3 := (hx9 _ _ hr_o0).1
  have hg4 : G1 q1 = some 16 := by rw [eG]; exact gU_at
  refine tw_putF (v := .ref q1) (ty := (.array .int)) hx hb hts bF2_X11 tyX11 tyX11_ok nmX11 hown hK hT hG hS hg3 shc_114 rfl 0 (by decide) (ht_at2 hts 4 rfl) (fun _ h9 => h9) rfl hin rfl (by decide +kernel) rfl rfl (gl_at rfl ⟨some _, rfl, fun _ h => by cases h; exact hg4⟩) dX11_init_10 (fun H locs hT oq m5 oj hS => ?_)
  have hY := hY.put oq
  have m6 := (oj 6 (by decide) (by decide)).trans m2
  refine lv_aload_n hx hb dX11_init_13 rfl (lv_at hl 0 rfl) ?_
  have hz9 := hS.1
  refine tw_new hx hb hts bF2_X3 tyX3 tyX3_ok hown (ht_at2 hts 5 rfl) (ht_at2 hts 6 rfl) (ht_at2 hts 7 rfl) hK mon_c hT hS hG hA (shc_106) rfl nd_106 (Nat.le_of_ble_eq_true rfl) (Nat.le_of_ble_eq_true rfl) dX11_init_14 (fun q7 G2 H hq9 eG hz1 hz2 hT hx9 hG hm9 hS => ?_)
  have hn_q7 : s.heap.size ≤ q7 := Nat.le_trans hz9 (Nat.le_of_eq hz2)
  have hY := hY.new hn_q7 eG hx9 (by decide)
  have hU_3 := gT_new hU_3 eG (by decide)
  have hU_51 := gT_new hU_51 eG (by decide)
  have hU_17 := gT_new hU_17 eG (by decide)
  have m8 := (el_kept (hx9 _ _ hg3).2).trans m6
  have m9 := (el_kept (hx9 _ _ hg3).2).trans m5
  have hg10 := (hx9 _ _ hg3).1
  have hg11 := (hx9 _ _ hg4).1
  have hg12 : G2 q7 = some 106 := by rw [eG]; exact gU_at
  have m13 : el H q7 (dI 6 4) = some (.int 0) := hm9 4 (by decide)
  refine lv_dup hx hb dX11_init_17 rfl ?_
  have hFc := gA_free hG hA hS
  have hz9 := hS.1
  refine va_callv (va_runI (As := []) (rest := [.ref q7, .ref o0]) ⟨hx, hb, hml, hown, hts⟩ (n_X3 l dC dI kA adK adV G2 H 0 0 q7 hT hg12 m13 (by omega) (by omega)) (cwI 0 hts (goodIn_ca (goodIn_r _ [9, 10, 2, 3, 11, 12, 13, 14, 15, 4, 16, 17, 18, 19, 20, 21, 22, 23, 24, 25, 26, 27, 28, 29, 30, 31, 32, 33, 34, 35, 36, 37, 38, 39, 40, 41, 42, 43, 44, 45, 46, 47, 48, 49, 50, 51, 52, 53, 54, 55, 56, 57, 58, 59] rfl (by decide +kernel)) (bs2_in _ _)) rfl rfl rfl (ht_at2 hts 7 rfl) (ht_at2 hts 59 rfl) (ht_at2 hts 60 rfl) rfl (by decide +kernel) ⟨(Nat.le_of_ble_eq_true rfl), (Nat.le_of_ble_eq_true rfl)⟩) ⟨fun a U g mk q => by obtain ⟨q0, q1, qK, qE, qA⟩ := q; exact ⟨q0, q1, va_K.moved (u := U) (U := U.calling g mk a) (Vm.Alike.refl U.vm) qK, EVC.blind g mk a qE, AO.blind g mk a qA⟩, fun U hU hW => ⟨rfl, hU, va_K.moved hW.alike hK, hE.call hS hFc hU hW, hAO.call hW⟩⟩ rfl rfl hl.1 rfl (lv_room (Nat.le_of_ble_eq_true rfl)) dX11_init_18 ⟨(Nat.le_of_ble_eq_true rfl), (Nat.le_of_ble_eq_true rfl)⟩) hS (fun q _ h => hFc q h) hFc (fun G3 t H locs ht hvm _ hB _ _ hS => ?_)
  (try dsimp only at hB); rw [ht] at hB; obtain ⟨hT, hg22, hY1, m14, ⟨b15, m16, hg17, ⟨b18, m19, hg20, m21⟩⟩⟩ := hB
  have hY := hY.call hn_q7 hY1 hz9 (by decide)
  have hG := hY.A hG0 hAo hA
  have hU_3 := gT_call hU_3 hY1 (by decide)
  have hU_51 := gT_call hU_51 hY1 (by decide)
  have hU_17 := gT_call hU_17 hY1 (by decide)
  have m23 := (el_kept (hY1.1 _ _ (gne hg10 hg12 (by decide)) hg10).2).trans m8
  have m24 := (el_kept (hY1.1 _ _ (gne hg10 hg12 (by decide)) hg10).2).trans m9
  have hg25 := (hY1.1 _ _ (gne hg10 hg12 (by decide)) hg10).1
  have hg26 := (hY1.1 _ _ (gne hg11 hg12 (by decide)) hg11).1
  refine tw_putF (v := .ref q7) (ty := (.object "SeaLand$Lake")) hx hb hts bF2_X11 tyX11 tyX11_ok nmX11 hown hK hT hG hS hg25 shc_114 rfl 1 (by decide) (ht_at2 hts 61 rfl) (fun _ h9 => h9) rfl hin rfl (by decide +kernel) rfl rfl (gl_at rfl ⟨some _, rfl, fun _ h => by cases h; exact hg22⟩) dX11_init_21 (fun H locs hT oq m27 oj hS => ?_)
  have hY := hY.put oq
  have m28 := (oj 6 (by decide) (by decide)).trans m23
  have m29 := (oj 0 (by decide) (by decide)).trans m24
  have m30 := (el_kept (oq _ (gne hg22 hg25 (by decide)))).trans m14
  have m31 := (el_kept (oq _ (gne hg22 hg25 (by decide)))).trans m16
  have m32 := (el_kept (oq _ (gne hg17 hg25 (by decide)))).trans m19
  have m33 := m21.kept (oq _ (gne hg20 hg25 (by decide)))
  refine lv_aload_n hx hb dX11_init_24 rfl (lv_at hl 0 rfl) ?_
  have hz9 := hS.1
  refine tw_new hx hb hts bF2_X6 tyX6 tyX6_ok hown (ht_at2 hts 62 rfl) (ht_at2 hts 63 rfl) (ht_at2 hts 64 rfl) hK mon_c hT hS hG hA (shc_109) rfl nd_109 (Nat.le_of_ble_eq_true rfl) (Nat.le_of_ble_eq_true rfl) dX11_init_25 (fun q34 G4 H hq9 eG hz1 hz2 hT hx9 hG hm9 hS => ?_)
  have hn_q34 : s.heap.size ≤ q34 := Nat.le_trans hz9 (Nat.le_of_eq hz2)
  have hY := hY.new hn_q34 eG hx9 (by decide)
  have hU_3 := gT_new hU_3 eG (by decide)
  have hU_51 := gT_new hU_51 eG (by decide)
  have hU_17 := gT_new hU_17 eG (by decide)
  have m35 := (el_kept (hx9 _ _ hg25).2).trans m28
  have m36 := (el_kept (hx9 _ _ hg25).2).trans m29
  have m37 := (el_kept (hx9 _ _ hg22).2).trans m30
  have m38 := (el_kept (hx9 _ _ hg22).2).trans m31
  have m39 := (el_kept (hx9 _ _ hg17).2).trans m32
  have m40 := m33.kept (hx9 _ _ hg20).2
  have m41 := (el_kept (hx9 _ _ hg25).2).trans m27
  have hg42 := (hx9 _ _ hg25).1
  have hg43 := (hx9 _ _ hg26).1
  have hg44 := (hx9 _ _ hg22).1
  have hg45 := (hx9 _ _ hg17).1
  have hg46 := (hx9 _ _ hg20).1
  have hg47 : G4 q34 = some 109 := by rw [eG]; exact gU_at
  refine lv_dup hx hb dX11_init_28 rfl ?_
  have hFc := gA_free hG hA hS
  have hz9 := hS.1
  refine va_callv (va_runIN (As := []) (rest := [.ref q34, .ref o0]) ⟨hx, hb, hml, hown, hts⟩ (n_X6 l dC dI kA adK adV G4 H 0 0 q34 hT hg47 (by omega) (by omega)) ⟨va_cnB 0 hts (goodIn_ca (goodIn_r _ [66, 67, 2, 3, 4, 68, 69] rfl (by decide +kernel)) (bs2_in _ _)) rfl rfl rfl (hE.nm 102 rfl) (ht_at2 hts 64 rfl) (by decide +kernel) ⟨(Nat.le_of_ble_eq_true rfl), (Nat.le_of_ble_eq_true rfl)⟩, rfl, (ht_at2 hts 69 rfl)⟩ ⟨fun a U g mk q => by obtain ⟨q0, q1, qK, qE, qA⟩ := q; exact ⟨q0, q1, va_K.moved (u := U) (U := U.calling g mk a) (Vm.Alike.refl U.vm) qK, EVC.blind g mk a qE, AO.blind g mk a qA⟩, fun U hU hW => ⟨rfl, hU, va_K.moved hW.alike hK, hE.call hS hFc hU hW, hAO.call hW⟩⟩ rfl rfl hl.1 rfl (lv_room (Nat.le_of_ble_eq_true rfl)) dX11_init_29 ⟨(Nat.le_of_ble_eq_true rfl), (Nat.le_of_ble_eq_true rfl)⟩) hS (fun q _ h => hFc q h) hFc (fun G5 t H locs ht hvm _ hB _ _ hS => ?_)
  (try dsimp only at hB); rw [ht] at hB; obtain ⟨hT, hg48, hY1⟩ := hB
  have hY := hY.call hn_q34 hY1 hz9 (by decide)
  have hG := hY.A hG0 hAo hA
  have hU_3 := gT_call hU_3 hY1 (by decide)
  have hU_51 := gT_call hU_51 hY1 (by decide)
  have hU_17 := gT_call hU_17 hY1 (by decide)
  have m49 := (el_kept (hY1.1 _ _ (gne hg42 hg47 (by decide)) hg42).2).trans m35
  have m50 := (el_kept (hY1.1 _ _ (gne hg42 hg47 (by decide)) hg42).2).trans m36
  have m51 := (el_kept (hY1.1 _ _ (gne hg44 hg47 (by decide)) hg44).2).trans m37
  have m52 := (el_kept (hY1.1 _ _ (gne hg44 hg47 (by decide)) hg44).2).trans m38
  have m53 := (el_kept (hY1.1 _ _ (gne hg45 hg47 (by decide)) hg45).2).trans m39
  have m54 := m40.kept (hY1.1 _ _ (gne hg46 hg47 (by decide)) hg46).2
  have m55 := (el_kept (hY1.1 _ _ (gne hg42 hg47 (by decide)) hg42).2).trans m41
  have hg56 := (hY1.1 _ _ (gne hg42 hg47 (by decide)) hg42).1
  have hg57 := (hY1.1 _ _ (gne hg43 hg47 (by decide)) hg43).1
  have hg58 := (hY1.1 _ _ (gne hg44 hg47 (by decide)) hg44).1
  have hg59 := (hY1.1 _ _ (gne hg45 hg47 (by decide)) hg45).1
  have hg60 := (hY1.1 _ _ (gne hg46 hg47 (by decide)) hg46).1
  refine tw_putF (v := .ref q34) (ty := (.object "SeaLand$Rows")) hx hb hts bF2_X11 tyX11 tyX11_ok nmX11 hown hK hT hG hS hg56 shc_114 rfl 2 (by decide) (ht_at2 hts 70 rfl) (fun _ h9 => h9) rfl hin rfl (by decide +kernel) rfl rfl (gl_at rfl ⟨some _, rfl, fun _ h => by cases h; exact hg48⟩) dX11_init_32 (fun H locs hT oq m61 oj hS => ?_)
  have hY := hY.put oq
  have m62 := (oj 6 (by decide) (by decide)).trans m49
  have m63 := (oj 0 (by decide) (by decide)).trans m50
  have m64 := (el_kept (oq _ (gne hg58 hg56 (by decide)))).trans m51
  have m65 := (el_kept (oq _ (gne hg58 hg56 (by decide)))).trans m52
  have m66 := (el_kept (oq _ (gne hg59 hg56 (by decide)))).trans m53
  have m67 := m54.kept (oq _ (gne hg60 hg56 (by decide)))
  have m68 := (oj 1 (by decide) (by decide)).trans m55
  refine lv_aload_n hx hb dX11_init_35 rfl (lv_at hl 0 rfl) ?_
  have hz9 := hS.1
  refine tw_new hx hb hts bF2_X0 tyX0 tyX0_ok hown (ht_at2 hts 71 rfl) (ht_at2 hts 72 rfl) (ht_at2 hts 73 rfl) hK mon_c hT hS hG hA (shc_103) rfl nd_103 (Nat.le_of_ble_eq_true rfl) (Nat.le_of_ble_eq_true rfl) dX11_init_36 (fun q69 G6 H hq9 eG hz1 hz2 hT hx9 hG hm9 hS => ?_)
  have hn_q69 : s.heap.size ≤ q69 := Nat.le_trans hz9 (Nat.le_of_eq hz2)
  have hY := hY.new hn_q69 eG hx9 (by decide)
  have hU_3 := gT_new hU_3 eG (by decide)
  have hU_51 := gT_new hU_51 eG (by decide)
  have hU_17 := gT_new hU_17 eG (by decide)
  have m70 := (el_kept (hx9 _ _ hg56).2).trans m62
  have m71 := (el_kept (hx9 _ _ hg56).2).trans m63
  have m72 := (el_kept (hx9 _ _ hg58).2).trans m64
  have m73 := (el_kept (hx9 _ _ hg58).2).trans m65
  have m74 := (el_kept (hx9 _ _ hg59).2).trans m66
  have m75 := m67.kept (hx9 _ _ hg60).2
  have m76 := (el_kept (hx9 _ _ hg56).2).trans m68
  have m77 := (el_kept (hx9 _ _ hg56).2).trans m61
  have hg78 := (hx9 _ _ hg56).1
  have hg79 := (hx9 _ _ hg57).1
  have hg80 := (hx9 _ _ hg58).1
  have hg81 := (hx9 _ _ hg59).1
  have hg82 := (hx9 _ _ hg60).1
  have hg83 := (hx9 _ _ hg48).1
  have hg84 : G6 q69 = some 103 := by rw [eG]; exact gU_at
  have m85 : el H q69 (dI 3 16) = some (.int 0) := hm9 16 (by decide)
  refine lv_dup hx hb dX11_init_39 rfl ?_
  have hFc := gA_free hG hA hS
  have hz9 := hS.1
  refine va_callv (va_runI (As := []) (rest := [.ref q69, .ref o0]) ⟨hx, hb, hml, hown, hts⟩ (n_X0 l dC dI kA adK adV G6 H  q69 hT hg84 m85) (cwI 0 hts (goodIn_ca (goodIn_r _ [75, 76, 2, 3, 77, 78, 4, 79, 80, 37, 81, 82, 83, 84, 85, 86, 87, 88, 89, 90, 91, 92, 93, 94, 95, 96, 97, 98, 99, 100, 101, 102, 103, 104, 105, 106, 107, 108, 109, 110] rfl (by decide +kernel)) (bs2_in _ _)) rfl rfl rfl (ht_at2 hts 73 rfl) (ht_at2 hts 110 rfl) (ht_at2 hts 111 rfl) rfl (by decide +kernel) ⟨(Nat.le_of_ble_eq_true rfl), (Nat.le_of_ble_eq_true rfl)⟩) ⟨fun a U g mk q => by obtain ⟨q0, q1, qK, qE, qA⟩ := q; exact ⟨q0, q1, va_K.moved (u := U) (U := U.calling g mk a) (Vm.Alike.refl U.vm) qK, EVC.blind g mk a qE, AO.blind g mk a qA⟩, fun U hU hW => ⟨rfl, hU, va_K.moved hW.alike hK, hE.call hS hFc hU hW, hAO.call hW⟩⟩ rfl rfl hl.1 rfl (lv_room (Nat.le_of_ble_eq_true rfl)) dX11_init_40 ⟨(Nat.le_of_ble_eq_true rfl), (Nat.le_of_ble_eq_true rfl)⟩) hS (fun q _ h => hFc q h) hFc (fun G7 t H locs ht hvm _ hB _ _ hS => ?_)
  (try dsimp only at hB); rw [ht] at hB; obtain ⟨hT, hg95, hY1, ⟨w9_51, hU9_51⟩, m86, ⟨b87, m88, hg89, m90⟩, ⟨b91, m92, hg93, m94⟩⟩ := hB
  have hY := hY.call hn_q69 hY1 hz9 (by decide)
  have hG := hY.A hG0 hAo hA
  have hU_3 := gT_call1 hU_3 hY1 (by decide)
  have hU_51 := gT_call2 hU_51 hU9_51
  have hU_17 := gT_call hU_17 hY1 (by decide)
  have m96 := (el_kept (hY1.1 _ _ (gne hg78 hg84 (by decide)) hg78).2).trans m70
  have m97 := (el_kept (hY1.1 _ _ (gne hg78 hg84 (by decide)) hg78).2).trans m71
  have m98 := (el_kept (hY1.1 _ _ (gne hg80 hg84 (by decide)) hg80).2).trans m72
  have m99 := (el_kept (hY1.1 _ _ (gne hg80 hg84 (by decide)) hg80).2).trans m73
  have m100 := (el_kept (hY1.1 _ _ (gne hg81 hg84 (by decide)) hg81).2).trans m74
  have m101 := m75.kept (hY1.1 _ _ (gne hg82 hg84 (by decide)) hg82).2
  have m102 := (el_kept (hY1.1 _ _ (gne hg78 hg84 (by decide)) hg78).2).trans m76
  have m103 := (el_kept (hY1.1 _ _ (gne hg78 hg84 (by decide)) hg78).2).trans m77
  have hg104 := (hY1.1 _ _ (gne hg78 hg84 (by decide)) hg78).1
  have hg105 := (hY1.1 _ _ (gne hg79 hg84 (by decide)) hg79).1
  have hg106 := (hY1.1 _ _ (gne hg80 hg84 (by decide)) hg80).1
  have hg107 := (hY1.1 _ _ (gne hg81 hg84 (by decide)) hg81).1
  have hg108 := (hY1.1 _ _ (gne hg82 hg84 (by decide)) hg82).1
  have hg109 := (hY1.1 _ _ (gne hg83 hg84 (by decide)) hg83).1
  refine tw_putF (v := .ref q69) (ty := (.object "SeaLand$Board")) hx hb hts bF2_X11 tyX11 tyX11_ok nmX11 hown hK hT hG hS hg104 shc_114 rfl 3 (by decide) (ht_at2 hts 112 rfl) (fun _ h9 => h9) rfl hin rfl (by decide +kernel) rfl rfl (gl_at rfl ⟨some _, rfl, fun _ h => by cases h; exact hg95⟩) dX11_init_43 (fun H locs hT oq m110 oj hS => ?_)
  have hY := hY.put oq
  have m111 := (oj 6 (by decide) (by decide)).trans m96
  have m112 := (oj 0 (by decide) (by decide)).trans m97
  have m113 := (el_kept (oq _ (gne hg106 hg104 (by decide)))).trans m98
  have m114 := (el_kept (oq _ (gne hg106 hg104 (by decide)))).trans m99
  have m115 := (el_kept (oq _ (gne hg107 hg104 (by decide)))).trans m100
  have m116 := m101.kept (oq _ (gne hg108 hg104 (by decide)))
  have m117 := (oj 1 (by decide) (by decide)).trans m102
  have m118 := (oj 2 (by decide) (by decide)).trans m103
  have m119 := (el_kept (oq _ (gne hg95 hg104 (by decide)))).trans m86
  have m120 := (el_kept (oq _ (gne hg95 hg104 (by decide)))).trans m88
  have m121 := m90.kept (oq _ (gne hg89 hg104 (by decide)))
  have m122 := (el_kept (oq _ (gne hg95 hg104 (by decide)))).trans m92
  have m123 := m94.kept (oq _ (gne hg93 hg104 (by decide)))
  refine lv_aload_n hx hb dX11_init_46 rfl (lv_at hl 0 rfl) ?_
  refine lv_bipush (v := 40) hx hb dX11_init_47 (by decide) ?_
  have hz9 := hS.1
  refine tw_newq hx hb hown (ht_at2 hts 113 rfl) (hAO _ (by decide)) hK mon_c hT hS hG hA (shc_17) rfl (fun _ _ _ => ⟨fun h => absurd h (by omega), ⟨none, rfl, fun _ h => by cases h⟩⟩) (by decide) rfl (Nat.le_of_ble_eq_true rfl) (Nat.le_of_ble_eq_true rfl) (Nat.le_of_ble_eq_true rfl) dX11_init_49 (fun q124 G8 H hq9 eG hz1 hz2 hT hx9 hG hm9 hS => ?_)
  have hn_q124 : s.heap.size ≤ q124 := Nat.le_trans hz9 (Nat.le_of_eq hz2)
  have hY := hY.new hn_q124 eG hx9 (by decide)
  have hU_3 := gT_new hU_3 eG (by decide)
  have hU_51 := gT_new hU_51 eG (by decide)
  have hU_17 := gT_new1 hU_17 eG
  have m125 := (el_kept (hx9 _ _ hg104).2).trans m111
  have m126 := (el_kept (hx9 _ _ hg104).2).trans m112
  have m127 := (el_kept (hx9 _ _ hg106).2).trans m113
  have m128 := (el_kept (hx9 _ _ hg106).2).trans m114
  have m129 := (el_kept (hx9 _ _ hg107).2).trans m115
  have m130 := m116.kept (hx9 _ _ hg108).2
  have m131 := (el_kept (hx9 _ _ hg104).2).trans m117
  have m132 := (el_kept (hx9 _ _ hg104).2).trans m118
  have m133 := (el_kept (hx9 _ _ hg95).2).trans m119
  have m134 := (el_kept (hx9 _ _ hg95).2).trans m120
  have m135 := m121.kept (hx9 _ _ hg89).2
  have m136 := (el_kept (hx9 _ _ hg95).2).trans m122
  have m137 := m123.kept (hx9 _ _ hg93).2
  have m138 := (el_kept (hx9 _ _ hg104).2).trans m110
  have hg139 := (hx9 _ _ hg104).1
  have hg140 := (hx9 _ _ hg105).1
  have hg141 := (hx9 _ _ hg106).1
  have hg142 := (hx9 _ _ hg107).1
  have hg143 := (hx9 _ _ hg108).1
  have hg144 := (hx9 _ _ hg109).1
  have hg145 := (hx9 _ _ hg95).1
  have hg146 := (hx9 _ _ hg89).1
  have hg147 := (hx9 _ _ hg93).1
  have hg148 : G8 q124 = some 17 := by rw [eG]; exact gU_at
  refine tw_putF (v := .ref q124) (ty := (.array (.object "SeaLand$Contract"))) hx hb hts bF2_X11 tyX11 tyX11_ok nmX11 hown hK hT hG hS hg139 shc_114 rfl 4 (by decide) (ht_at2 hts 114 rfl) (fun _ h9 => h9) rfl hin rfl (by decide +kernel) rfl rfl (gl_at rfl ⟨some _, rfl, fun _ h => by cases h; exact hg148⟩) dX11_init_52 (fun H locs hT oq m149 oj hS => ?_)
  have hY := hY.put oq
  have m150 := (oj 6 (by decide) (by decide)).trans m125
  have m151 := (oj 0 (by decide) (by decide)).trans m126
  have m152 := (el_kept (oq _ (gne hg141 hg139 (by decide)))).trans m127
  have m153 := (el_kept (oq _ (gne hg141 hg139 (by decide)))).trans m128
  have m154 := (el_kept (oq _ (gne hg142 hg139 (by decide)))).trans m129
  have m155 := m130.kept (oq _ (gne hg143 hg139 (by decide)))
  have m156 := (oj 1 (by decide) (by decide)).trans m131
  have m157 := (oj 2 (by decide) (by decide)).trans m132
  have m158 := (el_kept (oq _ (gne hg145 hg139 (by decide)))).trans m133
  have m159 := (el_kept (oq _ (gne hg145 hg139 (by decide)))).trans m134
  have m160 := m135.kept (oq _ (gne hg146 hg139 (by decide)))
  have m161 := (el_kept (oq _ (gne hg145 hg139 (by decide)))).trans m136
  have m162 := m137.kept (oq _ (gne hg147 hg139 (by decide)))
  have m163 := (oj 3 (by decide) (by decide)).trans m138
  refine lv_aload_n hx hb dX11_init_55 rfl (lv_at hl 0 rfl) ?_
  have hz9 := hS.1
  refine tw_new hx hb hts bF2_X5 tyX5 tyX5_ok hown (ht_at2 hts 115 rfl) (ht_at2 hts 116 rfl) (ht_at2 hts 117 rfl) hK mon_c hT hS hG hA (shc_108) rfl nd_108 (Nat.le_of_ble_eq_true rfl) (Nat.le_of_ble_eq_true rfl) dX11_init_56 (fun q164 G9 H hq9 eG hz1 hz2 hT hx9 hG hm9 hS => ?_)
  have hn_q164 : s.heap.size ≤ q164 := Nat.le_trans hz9 (Nat.le_of_eq hz2)
  have hY := hY.new hn_q164 eG hx9 (by decide)
  have hU_3 := gT_new hU_3 eG (by decide)
  have hU_51 := gT_new hU_51 eG (by decide)
  have hU_17 := gT_new hU_17 eG (by decide)
  have m165 := (el_kept (hx9 _ _ hg139).2).trans m150
  have m166 := (el_kept (hx9 _ _ hg139).2).trans m151
  have m167 := (el_kept (hx9 _ _ hg141).2).trans m152
  have m168 := (el_kept (hx9 _ _ hg141).2).trans m153
  have m169 := (el_kept (hx9 _ _ hg142).2).trans m154
  have m170 := m155.kept (hx9 _ _ hg143).2
  have m171 := (el_kept (hx9 _ _ hg139).2).trans m156
  have m172 := (el_kept (hx9 _ _ hg139).2).trans m157
  have m173 := (el_kept (hx9 _ _ hg145).2).trans m158
  have m174 := (el_kept (hx9 _ _ hg145).2).trans m159
  have m175 := m160.kept (hx9 _ _ hg146).2
  have m176 := (el_kept (hx9 _ _ hg145).2).trans m161
  have m177 := m162.kept (hx9 _ _ hg147).2
  have m178 := (el_kept (hx9 _ _ hg139).2).trans m163
  have m179 := (el_kept (hx9 _ _ hg139).2).trans m149
  have hg180 := (hx9 _ _ hg139).1
  have hg181 := (hx9 _ _ hg140).1
  have hg182 := (hx9 _ _ hg141).1
  have hg183 := (hx9 _ _ hg142).1
  have hg184 := (hx9 _ _ hg143).1
  have hg185 := (hx9 _ _ hg144).1
  have hg186 := (hx9 _ _ hg145).1
  have hg187 := (hx9 _ _ hg146).1
  have hg188 := (hx9 _ _ hg147).1
  have hg189 := (hx9 _ _ hg148).1
  have hg190 : G9 q164 = some 108 := by rw [eG]; exact gU_at
  refine lv_dup hx hb dX11_init_59 rfl ?_
  have hFc := gA_free hG hA hS
  have hz9 := hS.1
  refine va_callv (va_runIN (As := []) (rest := [.ref q164, .ref o0]) ⟨hx, hb, hml, hown, hts⟩ (n_X5 l dC dI kA adK adV G9 H 0 0 q164 hT hg190 (by omega) (by omega)) ⟨va_cnB 0 hts (goodIn_ca (goodIn_r _ [119, 120, 2, 3, 4, 121, 122, 123, 124, 125, 126, 127, 128, 129, 37, 130, 131, 132] rfl (by decide +kernel)) (bs2_in _ _)) rfl rfl rfl (hE.nm 103 rfl) (ht_at2 hts 117 rfl) (by decide +kernel) ⟨(Nat.le_of_ble_eq_true rfl), (Nat.le_of_ble_eq_true rfl)⟩, rfl, (ht_at2 hts 132 rfl)⟩ ⟨fun a U g mk q => by obtain ⟨q0, q1, qK, qE, qA⟩ := q; exact ⟨q0, q1, va_K.moved (u := U) (U := U.calling g mk a) (Vm.Alike.refl U.vm) qK, EVC.blind g mk a qE, AO.blind g mk a qA⟩, fun U hU hW => ⟨rfl, hU, va_K.moved hW.alike hK, hE.call hS hFc hU hW, hAO.call hW⟩⟩ rfl rfl hl.1 rfl (lv_room (Nat.le_of_ble_eq_true rfl)) dX11_init_60 ⟨(Nat.le_of_ble_eq_true rfl), (Nat.le_of_ble_eq_true rfl)⟩) hS (fun q _ h => hFc q h) hFc (fun G10 t H locs ht hvm _ hB _ _ hS => ?_)
  (try dsimp only at hB); rw [ht] at hB; obtain ⟨hT, hg191, hY1⟩ := hB
  have hY := hY.call hn_q164 hY1 hz9 (by decide)
  have hG := hY.A hG0 hAo hA
  have hU_3 := gT_call hU_3 hY1 (by decide)
  have hU_51 := gT_call hU_51 hY1 (by decide)
  have hU_17 := gT_call hU_17 hY1 (by decide)
  have m192 := (el_kept (hY1.1 _ _ (gne hg180 hg190 (by decide)) hg180).2).trans m165
  have m193 := (el_kept (hY1.1 _ _ (gne hg180 hg190 (by decide)) hg180).2).trans m166
  have m194 := (el_kept (hY1.1 _ _ (gne hg182 hg190 (by decide)) hg182).2).trans m167
  have m195 := (el_kept (hY1.1 _ _ (gne hg182 hg190 (by decide)) hg182).2).trans m168
  have m196 := (el_kept (hY1.1 _ _ (gne hg183 hg190 (by decide)) hg183).2).trans m169
  have m197 := m170.kept (hY1.1 _ _ (gne hg184 hg190 (by decide)) hg184).2
  have m198 := (el_kept (hY1.1 _ _ (gne hg180 hg190 (by decide)) hg180).2).trans m171
  have m199 := (el_kept (hY1.1 _ _ (gne hg180 hg190 (by decide)) hg180).2).trans m172
  have m200 := (el_kept (hY1.1 _ _ (gne hg186 hg190 (by decide)) hg186).2).trans m173
  have m201 := (el_kept (hY1.1 _ _ (gne hg186 hg190 (by decide)) hg186).2).trans m174
  have m202 := m175.kept (hY1.1 _ _ (gne hg187 hg190 (by decide)) hg187).2
  have m203 := (el_kept (hY1.1 _ _ (gne hg186 hg190 (by decide)) hg186).2).trans m176
  have m204 := m177.kept (hY1.1 _ _ (gne hg188 hg190 (by decide)) hg188).2
  have m205 := (el_kept (hY1.1 _ _ (gne hg180 hg190 (by decide)) hg180).2).trans m178
  have m206 := (el_kept (hY1.1 _ _ (gne hg180 hg190 (by decide)) hg180).2).trans m179
  have hg207 := (hY1.1 _ _ (gne hg180 hg190 (by decide)) hg180).1
  have hg208 := (hY1.1 _ _ (gne hg181 hg190 (by decide)) hg181).1
  have hg209 := (hY1.1 _ _ (gne hg182 hg190 (by decide)) hg182).1
  have hg210 := (hY1.1 _ _ (gne hg183 hg190 (by decide)) hg183).1
  have hg211 := (hY1.1 _ _ (gne hg184 hg190 (by decide)) hg184).1
  have hg212 := (hY1.1 _ _ (gne hg185 hg190 (by decide)) hg185).1
  have hg213 := (hY1.1 _ _ (gne hg186 hg190 (by decide)) hg186).1
  have hg214 := (hY1.1 _ _ (gne hg187 hg190 (by decide)) hg187).1
  have hg215 := (hY1.1 _ _ (gne hg188 hg190 (by decide)) hg188).1
  have hg216 := (hY1.1 _ _ (gne hg189 hg190 (by decide)) hg189).1
  refine tw_putF (v := .ref q164) (ty := (.object "SeaLand$Plans")) hx hb hts bF2_X11 tyX11 tyX11_ok nmX11 hown hK hT hG hS hg207 shc_114 rfl 5 (by decide) (ht_at2 hts 133 rfl) (fun _ h9 => h9) rfl hin rfl (by decide +kernel) rfl rfl (gl_at rfl ⟨some _, rfl, fun _ h => by cases h; exact hg191⟩) dX11_init_63 (fun H locs hT oq m217 oj hS => ?_)
  have hY := hY.put oq
  have m218 := (oj 6 (by decide) (by decide)).trans m192
  have m219 := (oj 0 (by decide) (by decide)).trans m193
  have m220 := (el_kept (oq _ (gne hg209 hg207 (by decide)))).trans m194
  have m221 := (el_kept (oq _ (gne hg209 hg207 (by decide)))).trans m195
  have m222 := (el_kept (oq _ (gne hg210 hg207 (by decide)))).trans m196
  have m223 := m197.kept (oq _ (gne hg211 hg207 (by decide)))
  have m224 := (oj 1 (by decide) (by decide)).trans m198
  have m225 := (oj 2 (by decide) (by decide)).trans m199
  have m226 := (el_kept (oq _ (gne hg213 hg207 (by decide)))).trans m200
  have m227 := (el_kept (oq _ (gne hg213 hg207 (by decide)))).trans m201
  have m228 := m202.kept (oq _ (gne hg214 hg207 (by decide)))
  have m229 := (el_kept (oq _ (gne hg213 hg207 (by decide)))).trans m203
  have m230 := m204.kept (oq _ (gne hg215 hg207 (by decide)))
  have m231 := (oj 3 (by decide) (by decide)).trans m205
  have m232 := (oj 4 (by decide) (by decide)).trans m206
  have hT := hT.grown (t := 14) mon_c hg207 (by decide) (by
    have h8 := hT _ _ hg207; rw [shc_114] at h8; rw [shc_14]
    refine gC.grow h8 (fun k v hk hm hv => match k, hk, hm, hv with
      | 0, _, hm, hv => gl_at rfl (by obtain rfl : v = .ref q1 := Option.some.inj (hm.symm.trans m219); exact ⟨_, rfl, (gU_ne (gne hg208 hg207 (by decide))).trans hg208⟩)
      | 1, _, hm, hv => gl_at rfl (by obtain rfl : v = .ref q7 := Option.some.inj (hm.symm.trans m224); exact ⟨_, rfl, (gU_ne (gne hg209 hg207 (by decide))).trans hg209⟩)
      | 2, _, hm, hv => gl_at rfl (by obtain rfl : v = .ref q34 := Option.some.inj (hm.symm.trans m225); exact ⟨_, rfl, (gU_ne (gne hg212 hg207 (by decide))).trans hg212⟩)
      | 3, _, hm, hv => gl_at rfl (by obtain rfl : v = .ref q69 := Option.some.inj (hm.symm.trans m231); exact ⟨_, rfl, (gU_ne (gne hg213 hg207 (by decide))).trans hg213⟩)
      | 4, _, hm, hv => gl_at rfl (by obtain rfl : v = .ref q124 := Option.some.inj (hm.symm.trans m232); exact ⟨_, rfl, (gU_ne (gne hg216 hg207 (by decide))).trans hg216⟩)
      | 5, _, hm, hv => gl_at rfl (by obtain rfl : v = .ref q164 := Option.some.inj (hm.symm.trans m217); exact ⟨_, rfl, (gU_ne (gne hg191 hg207 (by decide))).trans hg191⟩)
      | 6, _, hm, hv => gl_at rfl (mK_N (by decide) _ _ v (gM_re hg207 (by decide)) (hv _ rfl))
      | 7, _, hm, hv => gl_at rfl (hv _ rfl)
      | 8, _, hm, hv => gl_at rfl (hv _ rfl)
      | k + 9, hk, _, _ => absurd hk (by omega)))
  have hY := hY.grow
  have hU_3 := gT_new (q := o0) (t := 14) hU_3 rfl (by decide)
  have hU_51 := gT_new (q := o0) (t := 14) hU_51 rfl (by decide)
  have hU_17 := gT_new (q := o0) (t := 14) hU_17 rfl (by decide)
  exact W.vret hx hb hr (fun t ht hW => ⟨⟨_, rfl, trivial, by (try dsimp only); rw [ht]; exact ⟨hT, gU_at, hY, ⟨_, hU_3⟩, ⟨_, hU_51⟩, ⟨_, hU_17⟩, ⟨_, m224, (gU_ne (gne hg209 hg207 (by decide))).trans hg209, m220, ⟨_, m221, (gU_ne (gne hg210 hg207 (by decide))).trans hg210, ⟨_, m222, (gU_ne (gne hg211 hg207 (by decide))).trans hg211, m223⟩⟩⟩, ⟨_, m231, (gU_ne (gne hg213 hg207 (by decide))).trans hg213, m226, ⟨_, m227, (gU_ne (gne hg214 hg207 (by decide))).trans hg214, m228⟩, ⟨_, m229, (gU_ne (gne hg215 hg207 (by decide))).trans hg215, m230⟩⟩, m218⟩⟩, hS.F ht⟩) hS.2.2 dX11_init_66
