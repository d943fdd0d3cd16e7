def w_n_X0 : List Cond := .code yX0_init cX0_init 1 none :: (HAppend.hAppend (α := List Cond) (β := List Cond) (γ := List Cond) [.methodLink RX0 3 objectInit, .instanceMethod objectInit, .code objectInit ⟨#[0xb1]⟩ 1 none, .classLink RX0 9 RX7, .fieldLink RX0 11 "SeaLand$Board" "settlers" "[LSeaLand$Settler;", .arrayClass .int, .fieldLink RX0 17 "SeaLand$Board" "farmOf" "[I", .fieldLink RX0 21 "SeaLand$Board" "crops" "[I", .arrayClass .boolean, .fieldLink RX0 24 "SeaLand$Board" "held" "[Z", .fieldLink RX0 28 "SeaLand$Board" "harvested" "[Z", .arrayClass .long, .fieldLink RX0 33 "SeaLand$Board" "facts" "[J", .fieldLink RX0 37 "SeaLand$Board" "marks" "[I", .classLink RX0 31 RX4, .instantiable RX4 14, .initialized RX4, .code yX4_init cX4_init 1 none, .methodLink RX4 5 objectInit, .fieldLink RX4 11 "SeaLand$Law" "things" "[I", .fieldLink RX4 15 "SeaLand$Law" "begins" "[I", .fieldLink RX4 18 "SeaLand$Law" "kinds" "[I", .fieldLink RX4 21 "SeaLand$Law" "firsts" "[I", .fieldLink RX4 24 "SeaLand$Law" "seconds" "[I", .fieldLink RX4 27 "SeaLand$Law" "froms" "[I", .fieldLink RX4 30 "SeaLand$Law" "tos" "[I", .fieldLink RX4 33 "SeaLand$Law" "stepFrom" "[I", .fieldLink RX4 36 "SeaLand$Law" "stepTo" "[I", .fieldLink RX4 39 "SeaLand$Law" "steps" "[I", .fieldLink RX4 42 "SeaLand$Law" "stack" "[J", .instanceMethod yX4_init, .fieldLink RX0 41 "SeaLand$Board" "force" "LSeaLand$Law;", .fieldLink RX0 45 "SeaLand$Board" "proposed" "LSeaLand$Law;", .fieldLink RX0 48 "SeaLand$Board" "spare" "LSeaLand$Law;", .fieldLink RX0 51 "SeaLand$Board" "fault" "I", .code yJ7_fill_53178 cJ7_fill_53178 4 none, .methodLink RX0 55 yJ7_fill_53178, .static yJ7_fill_53178, .initialized RJ7] bs2)
set_option maxHeartbeats 4000000 in
set_option maxRecDepth 100000 in
theorem n_X0 (l : Launch) (dC : Nat → ClassId) (dI : Nat → Nat → Nat) (kA : Nat → ClassId) (adK adV : Nat → Nat) (G : gT) (H0 : Heap)  (o0 : Nat) (hT : gH (dC, dI) kA (SHc 0 0) G H0) (hr_o0 : G o0 = some 103) (hm_16 : el H0 o0 (dI 3 16) = some (.int 0)) (hm_15 : el H0 o0 (dI 3 15) = some (.int 0)) (hm_11 : el H0 o0 (dI 3 11) = some (.int 0)) (hm_12 : el H0 o0 (dI 3 12) = some (.long 0)) (hm_13 : el H0 o0 (dI 3 13) = some (.long 0)) : Met l yX0_init w_n_X0 ({ frames := 2, cells := 43, slots := 4419, locals := 58 }) (va_Pc [.ref o0] (fun U => U.heap = H0 ∧ va_K (dC, dI) vwCl (tyl kA) U ∧ EVC adK adV (gA G H0.size) U U.heap ∧ AO U)) (va_Qv (fun (u : gT) => True) (fun (G1 : gT) (t : State) => gH (dC, dI) kA (SHc 0 0) G1 t.heap ∧ G1 o0 = some 3 ∧ gY ([7, 40, 41, 42, 43, 44, 45, 46, 47, 48, 49, 50, 51, 52, 53, 54, 55, 56, 57, 107, 140, 141, 142, 143, 144, 145, 146, 147, 148, 149, 150, 151, 152, 153, 154, 155, 156, 157, 158, 159, 160, 161, 162, 163, 164, 165] : List Nat) 3 o0 G G1 H0 t.heap ∧ (∃ w, ∀ b, G1 b = some 51 → G b = some 51 ∨ b = w) ∧ el t.heap o0 (dI 3 16) = some (.int 0) ∧ (∃ a1, el t.heap o0 (dI 3 1) = some (.ref a1) ∧ G1 a1 = some 52 ∧ ct t.heap a1 96 (fun _ => (-1))) ∧ (∃ a1, el t.heap o0 (dI 3 2) = some (.ref a1) ∧ G1 a1 = some 53 ∧ ct t.heap a1 30 (fun _ => 0)) ∧ (∃ a1, el t.heap o0 (dI 3 3) = some (.ref a1) ∧ G1 a1 = some 54 ∧ ct t.heap a1 30 (fun _ => 0)) ∧ el t.heap o0 (dI 3 15) = some (.int 0) ∧ el t.heap o0 (dI 3 10) = some (.int (-1)) ∧ el t.heap o0 (dI 3 11) = some (.int 0) ∧ el t.heap o0 (dI 3 12) = some (.long 0) ∧ el t.heap o0 (dI 3 13) = some (.long 0) ∧ (∃ a1, el t.heap o0 (dI 3 7) = some (.ref a1) ∧ G1 a1 = some 7 ∧ el t.heap a1 (dI 7 11) = some (.int 0))) (gA G H0.size)) 43 4419 (gA G H0.size) := by
  refine Met.ofW (cc := cX0_init) (maxL := 1) (ret := none) (by decide) rfl ?_
  intro p e s m args below meth c s₁ B hml hv
  obtain ⟨rfl, hH0, hK, hE, hAO⟩ := hv
  have hx := B.exec
  have hb := B.bytes
  have hr := B.returns
  have hts := atoms_spec (ws := w_n_X0) B.pre
  have hown : s.vm.findClass RX0 = some m.cls := findClass_of_methodNamed B.named
  have hlocks := B.notSynchronized
  have hin : meth.name = "<init>" := (name_of_methodNamed B.named B.method).1
  subst hH0
  generalize hAe : gA G s.heap.size = A at hE ⊢
  have hA : ∀ q : Nat, s.heap.size ≤ q → A q := fun q h => by rw [← hAe]; exact Or.inr h
  have hG := gA_of hAe
  have hS : va_S A s.heap s.heap [] := va_S.rf
  have hl := lv_entry ([.ref o0]) (n := 1) (Nat.le_of_ble_eq_true rfl)
  rw [lg_entry_eq]
  generalize (lg_sl ([.ref o0]) ++ List.replicate (1 - (lg_sl ([.ref o0])).length) Slot.unset).toArray = ls at hl ⊢
  have hl : lv_has ls 1 [(0, .ref o0)] := hl
  have hG0 := hG
  have hY : gY ([7, 40, 41, 42, 43, 44, 45, 46, 47, 48, 49, 50, 51, 52, 53, 54, 55, 56, 57, 107, 140, 141, 142, 143, 144, 145, 146, 147, 148, 149, 150, 151, 152, 153, 154, 155, 156, 157, 158, 159, 160, 161, 162, 163, 164, 165] : List Nat) 3 o0 G G s.heap s.heap := gY.rf hT
  have hU_51 : ∀ b, G b = some 51 → G b = some 51 := fun _ h => h
  have hAo := hG _ _ hr_o0
  refine lv_aload_n hx hb dX0_init_0 rfl (lv_at hl 0 rfl) ?_
  refine W.objInit hx hb hown (ht_at2 hts 0 rfl) (ht_at2 hts 1 rfl) (ht_at2 hts 2 rfl) rfl (by rw [hml]; exact hl.1) rfl dX0_init_1 (Nat.le_of_ble_eq_true rfl) (Nat.le_of_ble_eq_true rfl) ?_
  refine W.eq (g2 := F0 m 4 ls []) rfl ?_
  refine lv_aload_n hx hb dX0_init_4 rfl (lv_at hl 0 rfl) ?_
  refine lv_bipush (v := 60) hx hb dX0_init_5 (by decide) ?_
  have hz9 := hS.1
  refine tw_newq hx hb hown (ht_at2 hts 3 rfl) (hAO _ (by decide)) hK mon_c hT hS hG hA (shc_51) rfl (fun _ _ _ => ⟨fun h => absurd h (by omega), ⟨none, rfl, fun _ h => by cases h⟩⟩) (by decide) rfl (Nat.le_of_ble_eq_true rfl) (Nat.le_of_ble_eq_true rfl) (Nat.le_of_ble_eq_true rfl) dX0_init_7 (fun q1 G1 H hq9 eG hz1 hz2 hT hx9 hG hm9 hS => ?_)
  have hn_q1 : s.heap.size ≤ q1 := Nat.le_trans hz9 (Nat.le_of_eq hz2)
  have hY := hY.new hn_q1 eG hx9 (by decide)
  have hU_51 := gT_new1 hU_51 eG
  have m2 := (el_kept (hx9 _ _ hr_o0).2).trans hm_16
  have m3 := (el_kept (hx9 _ _ hr_o0).2).trans hm_15
  have m4 := (el_kept (hx9 _ _ hr_o0).2).trans hm_11
  have m5 := (el_kept (hx9 _ _ hr_o0).2).trans hm_12
  have m6 := (el_kept (hx9 _ _ hr_o0).2).trans hm_13
  have hg7 := (hx9 _ _ hr_o0).1
  have hg8 : G1 q1 = some 51 := by rw [eG]; exact gU_at
  refine tw_putF (v := .ref q1) (ty := (.array (.object "SeaLand$Settler"))) hx hb hts bF2_X0 tyX0 tyX0_ok nmX0 hown hK hT hG hS hg7 shc_103 rfl 0 (by decide) (ht_at2 hts 4 rfl) (fun _ h9 => h9) rfl hin rfl (by decide +kernel) rfl rfl (gl_at rfl ⟨some _, rfl, fun _ h => by cases h; exact hg8⟩) dX0_init_10 (fun H locs hT oq m9 oj hS => ?_)
  have hY := hY.put oq
  have m10 := (oj 16 (by decide) (by decide)).trans m2
  have m11 := (oj 15 (by decide) (by decide)).trans m3
  have m12 := (oj 11 (by decide) (by decide)).trans m4
  have m13 := (oj 12 (by decide) (by decide)).trans m5
  have m14 := (oj 13 (by decide) (by decide)).trans m6
  refine lv_aload_n hx hb dX0_init_13 rfl (lv_at hl 0 rfl) ?_
  refine lv_bipush (v := 96) hx hb dX0_init_14 (by decide) ?_
  have hz9 := hS.1
  refine tw_newa (ty := .int) hx hb (ht_at2 hts 5 rfl) rfl hK mon_c hT hS hG hA (shc_52) rfl (fun _ _ _ => ⟨0, rfl, by decide, by decide⟩) (by decide) rfl (Nat.le_of_ble_eq_true rfl) (Nat.le_of_ble_eq_true rfl) (Nat.le_of_ble_eq_true rfl) dX0_init_16 (fun q15 G2 H hq9 eG hz1 hz2 hT hx9 hG hm9 hS => ?_)
  have hn_q15 : s.heap.size ≤ q15 := Nat.le_trans hz9 (Nat.le_of_eq hz2)
  have hY := hY.new hn_q15 eG hx9 (by decide)
  have hU_51 := gT_new hU_51 eG (by decide)
  have m16 := (el_kept (hx9 _ _ hg7).2).trans m10
  have m17 := (el_kept (hx9 _ _ hg7).2).trans m11
  have m18 := (el_kept (hx9 _ _ hg7).2).trans m12
  have m19 := (el_kept (hx9 _ _ hg7).2).trans m13
  have m20 := (el_kept (hx9 _ _ hg7).2).trans m14
  have m21 := (el_kept (hx9 _ _ hg7).2).trans m9
  have hg22 := (hx9 _ _ hg7).1
  have hg23 := (hx9 _ _ hg8).1
  have hg24 : G2 q15 = some 52 := by rw [eG]; exact gU_at
  have m25 : ct H q15 96 (fun _ => 0) := fun i9 h9 => hm9 i9 h9
  refine tw_putF (v := .ref q15) (ty := (.array .int)) hx hb hts bF2_X0 tyX0 tyX0_ok nmX0 hown hK hT hG hS hg22 shc_103 rfl 1 (by decide) (ht_at2 hts 6 rfl) (fun _ h9 => h9) rfl hin rfl (by decide +kernel) rfl rfl (gl_at rfl ⟨some _, rfl, fun _ h => by cases h; exact hg24⟩) dX0_init_18 (fun H locs hT oq m26 oj hS => ?_)
  have hY := hY.put oq
  have m27 := (oj 16 (by decide) (by decide)).trans m16
  have m28 := (oj 15 (by decide) (by decide)).trans m17
  have m29 := (oj 11 (by decide) (by decide)).trans m18
  have m30 := (oj 12 (by decide) (by decide)).trans m19
  have m31 := (oj 13 (by decide) (by decide)).trans m20
  have m32 := (oj 0 (by decide) (by decide)).trans m21
  have m33 := m25.kept (oq _ (gne hg24 hg22 (by decide)))
  refine lv_aload_n hx hb dX0_init_21 rfl (lv_at hl 0 rfl) ?_
  refine lv_bipush (v := 30) hx hb dX0_init_22 (by decide) ?_
  have hz9 := hS.1
  refine tw_newa (ty := .int) hx hb (ht_at2 hts 5 rfl) rfl hK mon_c hT hS hG hA (shc_53) rfl (fun _ _ _ => ⟨0, rfl, by decide, by decide⟩) (by decide) rfl (Nat.le_of_ble_eq_true rfl) (Nat.le_of_ble_eq_true rfl) (Nat.le_of_ble_eq_true rfl) dX0_init_24 (fun q34 G3 H hq9 eG hz1 hz2 hT hx9 hG hm9 hS => ?_)
  have hn_q34 : s.heap.size ≤ q34 := Nat.le_trans hz9 (Nat.le_of_eq hz2)
  have hY := hY.new hn_q34 eG hx9 (by decide)
  have hU_51 := gT_new hU_51 eG (by decide)
  have m35 := (el_kept (hx9 _ _ hg22).2).trans m27
  have m36 := (el_kept (hx9 _ _ hg22).2).trans m28
  have m37 := (el_kept (hx9 _ _ hg22).2).trans m29
  have m38 := (el_kept (hx9 _ _ hg22).2).trans m30
  have m39 := (el_kept (hx9 _ _ hg22).2).trans m31
  have m40 := (el_kept (hx9 _ _ hg22).2).trans m32
  have m41 := m33.kept (hx9 _ _ hg24).2
  have m42 := (el_kept (hx9 _ _ hg22).2).trans m26
  have hg43 := (hx9 _ _ hg22).1
  have hg44 := (hx9 _ _ hg23).1
  have hg45 := (hx9 _ _ hg24).1
  have hg46 : G3 q34 = some 53 := by rw [eG]; exact gU_at
  have m47 : ct H q34 30 (fun _ => 0) := fun i9 h9 => hm9 i9 h9
  refine tw_putF (v := .ref q34) (ty := (.array .int)) hx hb hts bF2_X0 tyX0 tyX0_ok nmX0 hown hK hT hG hS hg43 shc_103 rfl 2 (by decide) (ht_at2 hts 7 rfl) (fun _ h9 => h9) rfl hin rfl (by decide +kernel) rfl rfl (gl_at rfl ⟨some _, rfl, fun _ h => by cases h; exact hg46⟩) dX0_init_26 (fun H locs hT oq m48 oj hS => ?_)
  have hY := hY.put oq
  have m49 := (oj 16 (by decide) (by decide)).trans m35
  have m50 := (oj 15 (by decide) (by decide)).trans m36
  have m51 := (oj 11 (by decide) (by decide)).trans m37
  have m52 := (oj 12 (by decide) (by decide)).trans m38
  have m53 := (oj 13 (by decide) (by decide)).trans m39
  have m54 := (oj 0 (by decide) (by decide)).trans m40
  have m55 := m41.kept (oq _ (gne hg45 hg43 (by decide)))
  have m56 := (oj 1 (by decide) (by decide)).trans m42
  have m57 := m47.kept (oq _ (gne hg46 hg43 (by decide)))
  refine lv_aload_n hx hb dX0_init_29 rfl (lv_at hl 0 rfl) ?_
  refine lv_bipush (v := 30) hx hb dX0_init_30 (by decide) ?_
  have hz9 := hS.1
  refine tw_newa (ty := .boolean) hx hb (ht_at2 hts 8 rfl) rfl hK mon_c hT hS hG hA (shc_54) rfl (fun _ _ _ => ⟨0, rfl, by decide, by decide⟩) (by decide) rfl (Nat.le_of_ble_eq_true rfl) (Nat.le_of_ble_eq_true rfl) (Nat.le_of_ble_eq_true rfl) dX0_init_32 (fun q58 G4 H hq9 eG hz1 hz2 hT hx9 hG hm9 hS => ?_)
  have hn_q58 : s.heap.size ≤ q58 := Nat.le_trans hz9 (Nat.le_of_eq hz2)
  have hY := hY.new hn_q58 eG hx9 (by decide)
  have hU_51 := gT_new hU_51 eG (by decide)
  have m59 := (el_kept (hx9 _ _ hg43).2).trans m49
  have m60 := (el_kept (hx9 _ _ hg43).2).trans m50
  have m61 := (el_kept (hx9 _ _ hg43).2).trans m51
  have m62 := (el_kept (hx9 _ _ hg43).2).trans m52
  have m63 := (el_kept (hx9 _ _ hg43).2).trans m53
  have m64 := (el_kept (hx9 _ _ hg43).2).trans m54
  have m65 := m55.kept (hx9 _ _ hg45).2
  have m66 := (el_kept (hx9 _ _ hg43).2).trans m56
  have m67 := m57.kept (hx9 _ _ hg46).2
  have m68 := (el_kept (hx9 _ _ hg43).2).trans m48
  have hg69 := (hx9 _ _ hg43).1
  have hg70 := (hx9 _ _ hg44).1
  have hg71 := (hx9 _ _ hg45).1
  have hg72 := (hx9 _ _ hg46).1
  have hg73 : G4 q58 = some 54 := by rw [eG]; exact gU_at
  have m74 : ct H q58 30 (fun _ => 0) := fun i9 h9 => hm9 i9 h9
  refine tw_putF (v := .ref q58) (ty := (.array .boolean)) hx hb hts bF2_X0 tyX0 tyX0_ok nmX0 hown hK hT hG hS hg69 shc_103 rfl 3 (by decide) (ht_at2 hts 9 rfl) (fun _ h9 => h9) rfl hin rfl (by decide +kernel) rfl rfl (gl_at rfl ⟨some _, rfl, fun _ h => by cases h; exact hg73⟩) dX0_init_34 (fun H locs hT oq m75 oj hS => ?_)
  have hY := hY.put oq
  have m76 := (oj 16 (by decide) (by decide)).trans m59
  have m77 := (oj 15 (by decide) (by decide)).trans m60
  have m78 := (oj 11 (by decide) (by decide)).trans m61
  have m79 := (oj 12 (by decide) (by decide)).trans m62
  have m80 := (oj 13 (by decide) (by decide)).trans m63
  have m81 := (oj 0 (by decide) (by decide)).trans m64
  have m82 := m65.kept (oq _ (gne hg71 hg69 (by decide)))
  have m83 := (oj 1 (by decide) (by decide)).trans m66
  have m84 := m67.kept (oq _ (gne hg72 hg69 (by decide)))
  have m85 := (oj 2 (by decide) (by decide)).trans m68
  have m86 := m74.kept (oq _ (gne hg73 hg69 (by decide)))
  refine lv_aload_n hx hb dX0_init_37 rfl (lv_at hl 0 rfl) ?_
  refine lv_iconst (v := 5) hx hb dX0_init_38 (by decide) ?_
  have hz9 := hS.1
  refine tw_newa (ty := .boolean) hx hb (ht_at2 hts 8 rfl) rfl hK mon_c hT hS hG hA (shc_55) rfl (fun _ _ _ => ⟨0, rfl, by decide, by decide⟩) (by decide) rfl (Nat.le_of_ble_eq_true rfl) (Nat.le_of_ble_eq_true rfl) (Nat.le_of_ble_eq_true rfl) dX0_init_39 (fun q87 G5 H hq9 eG hz1 hz2 hT hx9 hG hm9 hS => ?_)
  have hn_q87 : s.heap.size ≤ q87 := Nat.le_trans hz9 (Nat.le_of_eq hz2)
  have hY := hY.new hn_q87 eG hx9 (by decide)
  have hU_51 := gT_new hU_51 eG (by decide)
  have m88 := (el_kept (hx9 _ _ hg69).2).trans m76
  have m89 := (el_kept (hx9 _ _ hg69).2).trans m77
  have m90 := (el_kept (hx9 _ _ hg69).2).trans m78
  have m91 := (el_kept (hx9 _ _ hg69).2).trans m79
  have m92 := (el_kept (hx9 _ _ hg69).2).trans m80
  have m93 := (el_kept (hx9 _ _ hg69).2).trans m81
  have m94 := m82.kept (hx9 _ _ hg71).2
  have m95 := (el_kept (hx9 _ _ hg69).2).trans m83
  have m96 := m84.kept (hx9 _ _ hg72).2
  have m97 := (el_kept (hx9 _ _ hg69).2).trans m85
  have m98 := m86.kept (hx9 _ _ hg73).2
  have m99 := (el_kept (hx9 _ _ hg69).2).trans m75
  have hg100 := (hx9 _ _ hg69).1
  have hg101 := (hx9 _ _ hg70).1
  have hg102 := (hx9 _ _ hg71).1
  have hg103 := (hx9 _ _ hg72).1
  have hg104 := (hx9 _ _ hg73).1
  have hg105 : G5 q87 = some 55 := by rw [eG]; exact gU_at
  refine tw_putF (v := .ref q87) (ty := (.array .boolean)) hx hb hts bF2_X0 tyX0 tyX0_ok nmX0 hown hK hT hG hS hg100 shc_103 rfl 4 (by decide) (ht_at2 hts 10 rfl) (fun _ h9 => h9) rfl hin rfl (by decide +kernel) rfl rfl (gl_at rfl ⟨some _, rfl, fun _ h => by cases h; exact hg105⟩) dX0_init_41 (fun H locs hT oq m106 oj hS => ?_)
  have hY := hY.put oq
  have m107 := (oj 16 (by decide) (by decide)).trans m88
  have m108 := (oj 15 (by decide) (by decide)).trans m89
  have m109 := (oj 11 (by decide) (by decide)).trans m90
  have m110 := (oj 12 (by decide) (by decide)).trans m91
  have m111 := (oj 13 (by decide) (by decide)).trans m92
  have m112 := (oj 0 (by decide) (by decide)).trans m93
  have m113 := m94.kept (oq _ (gne hg102 hg100 (by decide)))
  have m114 := (oj 1 (by decide) (by decide)).trans m95
  have m115 := m96.kept (oq _ (gne hg103 hg100 (by decide)))
  have m116 := (oj 2 (by decide) (by decide)).trans m97
  have m117 := m98.kept (oq _ (gne hg104 hg100 (by decide)))
  have m118 := (oj 3 (by decide) (by decide)).trans m99
  refine lv_aload_n hx hb dX0_init_44 rfl (lv_at hl 0 rfl) ?_
  refine lv_bipush (v := 10) hx hb dX0_init_45 (by decide) ?_
  have hz9 := hS.1
  refine tw_newa (ty := .long) hx hb (ht_at2 hts 11 rfl) rfl hK mon_c hT hS hG hA (shc_56) rfl (fun _ _ _ => ⟨0, rfl⟩) (by decide) rfl (Nat.le_of_ble_eq_true rfl) (Nat.le_of_ble_eq_true rfl) (Nat.le_of_ble_eq_true rfl) dX0_init_47 (fun q119 G6 H hq9 eG hz1 hz2 hT hx9 hG hm9 hS => ?_)
  have hn_q119 : s.heap.size ≤ q119 := Nat.le_trans hz9 (Nat.le_of_eq hz2)
  have hY := hY.new hn_q119 eG hx9 (by decide)
  have hU_51 := gT_new hU_51 eG (by decide)
  have m120 := (el_kept (hx9 _ _ hg100).2).trans m107
  have m121 := (el_kept (hx9 _ _ hg100).2).trans m108
  have m122 := (el_kept (hx9 _ _ hg100).2).trans m109
  have m123 := (el_kept (hx9 _ _ hg100).2).trans m110
  have m124 := (el_kept (hx9 _ _ hg100).2).trans m111
  have m125 := (el_kept (hx9 _ _ hg100).2).trans m112
  have m126 := m113.kept (hx9 _ _ hg102).2
  have m127 := (el_kept (hx9 _ _ hg100).2).trans m114
  have m128 := m115.kept (hx9 _ _ hg103).2
  have m129 := (el_kept (hx9 _ _ hg100).2).trans m116
  have m130 := m117.kept (hx9 _ _ hg104).2
  have m131 := (el_kept (hx9 _ _ hg100).2).trans m118
  have m132 := (el_kept (hx9 _ _ hg100).2).trans m106
  have hg133 := (hx9 _ _ hg100).1
  have hg134 := (hx9 _ _ hg101).1
  have hg135 := (hx9 _ _ hg102).1
  have hg136 := (hx9 _ _ hg103).1
  have hg137 := (hx9 _ _ hg104).1
  have hg138 := (hx9 _ _ hg105).1
  have hg139 : G6 q119 = some 56 := by rw [eG]; exact gU_at
  refine tw_putF (v := .ref q119) (ty := (.array .long)) hx hb hts bF2_X0 tyX0 tyX0_ok nmX0 hown hK hT hG hS hg133 shc_103 rfl 5 (by decide) (ht_at2 hts 12 rfl) (fun _ h9 => h9) rfl hin rfl (by decide +kernel) rfl rfl (gl_at rfl ⟨some _, rfl, fun _ h => by cases h; exact hg139⟩) dX0_init_49 (fun H locs hT oq m140 oj hS => ?_)
  have hY := hY.put oq
  have m141 := (oj 16 (by decide) (by decide)).trans m120
  have m142 := (oj 15 (by decide) (by decide)).trans m121
  have m143 := (oj 11 (by decide) (by decide)).trans m122
  have m144 := (oj 12 (by decide) (by decide)).trans m123
  have m145 := (oj 13 (by decide) (by decide)).trans m124
  have m146 := (oj 0 (by decide) (by decide)).trans m125
  have m147 := m126.kept (oq _ (gne hg135 hg133 (by decide)))
  have m148 := (oj 1 (by decide) (by decide)).trans m127
  have m149 := m128.kept (oq _ (gne hg136 hg133 (by decide)))
  have m150 := (oj 2 (by decide) (by decide)).trans m129
  have m151 := m130.kept (oq _ (gne hg137 hg133 (by decide)))
  have m152 := (oj 3 (by decide) (by decide)).trans m131
  have m153 := (oj 4 (by decide) (by decide)).trans m132
  refine lv_aload_n hx hb dX0_init_52 rfl (lv_at hl 0 rfl) ?_
  refine lv_bipush (v := 60) hx hb dX0_init_53 (by decide) ?_
  have hz9 := hS.1
  refine tw_newa (ty := .int) hx hb (ht_at2 hts 5 rfl) rfl hK mon_c hT hS hG hA (shc_57) rfl (fun _ _ _ => ⟨0, rfl, by decide, by decide⟩) (by decide) rfl (Nat.le_of_ble_eq_true rfl) (Nat.le_of_ble_eq_true rfl) (Nat.le_of_ble_eq_true rfl) dX0_init_55 (fun q154 G7 H hq9 eG hz1 hz2 hT hx9 hG hm9 hS => ?_)
  have hn_q154 : s.heap.size ≤ q154 := Nat.le_trans hz9 (Nat.le_of_eq hz2)
  have hY := hY.new hn_q154 eG hx9 (by decide)
  have hU_51 := gT_new hU_51 eG (by decide)
  have m155 := (el_kept (hx9 _ _ hg133).2).trans m141
  have m156 := (el_kept (hx9 _ _ hg133).2).trans m142
  have m157 := (el_kept (hx9 _ _ hg133).2).trans m143
  have m158 := (el_kept (hx9 _ _ hg133).2).trans m144
  have m159 := (el_kept (hx9 _ _ hg133).2).trans m145
  have m160 := (el_kept (hx9 _ _ hg133).2).trans m146
  have m161 := m147.kept (hx9 _ _ hg135).2
  have m162 := (el_kept (hx9 _ _ hg133).2).trans m148
  have m163 := m149.kept (hx9 _ _ hg136).2
  have m164 := (el_kept (hx9 _ _ hg133).2).trans m150
  have m165 := m151.kept (hx9 _ _ hg137).2
  have m166 := (el_kept (hx9 _ _ hg133).2).trans m152
  have m167 := (el_kept (hx9 _ _ hg133).2).trans m153
  have m168 := (el_kept (hx9 _ _ hg133).2).trans m140
  have hg169 := (hx9 _ _ hg133).1
  have hg170 := (hx9 _ _ hg134).1
  have hg171 := (hx9 _ _ hg135).1
  have hg172 := (hx9 _ _ hg136).1
  have hg173 := (hx9 _ _ hg137).1
  have hg174 := (hx9 _ _ hg138).1
  have hg175 := (hx9 _ _ hg139).1
  have hg176 : G7 q154 = some 57 := by rw [eG]; exact gU_at
  refine tw_putF (v := .ref q154) (ty := (.array .int)) hx hb hts bF2_X0 tyX0 tyX0_ok nmX0 hown hK hT hG hS hg169 shc_103 rfl 6 (by decide) (ht_at2 hts 13 rfl) (fun _ h9 => h9) rfl hin rfl (by decide +kernel) rfl rfl (gl_at rfl ⟨some _, rfl, fun _ h => by cases h; exact hg176⟩) dX0_init_57 (fun H locs hT oq m177 oj hS => ?_)
  have hY := hY.put oq
  have m178 := (oj 16 (by decide) (by decide)).trans m155
  have m179 := (oj 15 (by decide) (by decide)).trans m156
  have m180 := (oj 11 (by decide) (by decide)).trans m157
  have m181 := (oj 12 (by decide) (by decide)).trans m158
  have m182 := (oj 13 (by decide) (by decide)).trans m159
  have m183 := (oj 0 (by decide) (by decide)).trans m160
  have m184 := m161.kept (oq _ (gne hg171 hg169 (by decide)))
  have m185 := (oj 1 (by decide) (by decide)).trans m162
  have m186 := m163.kept (oq _ (gne hg172 hg169 (by decide)))
  have m187 := (oj 2 (by decide) (by decide)).trans m164
  have m188 := m165.kept (oq _ (gne hg173 hg169 (by decide)))
  have m189 := (oj 3 (by decide) (by decide)).trans m166
  have m190 := (oj 4 (by decide) (by decide)).trans m167
  have m191 := (oj 5 (by decide) (by decide)).trans m168
  refine lv_aload_n hx hb dX0_init_60 rfl (lv_at hl 0 rfl) ?_
  have hz9 := hS.1
  refine tw_new hx hb hts bF2_X4 tyX4 tyX4_ok hown (ht_at2 hts 14 rfl) (ht_at2 hts 15 rfl) (ht_at2 hts 16 rfl) hK mon_c hT hS hG hA (shc_107) rfl nd_107 (Nat.le_of_ble_eq_true rfl) (Nat.le_of_ble_eq_true rfl) dX0_init_61 (fun q192 G8 H hq9 eG hz1 hz2 hT hx9 hG hm9 hS => ?_)
  have hn_q192 : s.heap.size ≤ q192 := Nat.le_trans hz9 (Nat.le_of_eq hz2)
  have hY := hY.new hn_q192 eG hx9 (by decide)
  have hU_51 := gT_new hU_51 eG (by decide)
  have m193 := (el_kept (hx9 _ _ hg169).2).trans m178
  have m194 := (el_kept (hx9 _ _ hg169).2).trans m179
  have m195 := (el_kept (hx9 _ _ hg169).2).trans m180
  have m196 := (el_kept (hx9 _ _ hg169).2).trans m181
  have m197 := (el_kept (hx9 _ _ hg169).2).trans m182
  have m198 := (el_kept (hx9 _ _ hg169).2).trans m183
  have m199 := m184.kept (hx9 _ _ hg171).2
  have m200 := (el_kept (hx9 _ _ hg169).2).trans m185
  have m201 := m186.kept (hx9 _ _ hg172).2
  have m202 := (el_kept (hx9 _ _ hg169).2).trans m187
  have m203 := m188.kept (hx9 _ _ hg173).2
  have m204 := (el_kept (hx9 _ _ hg169).2).trans m189
  have m205 := (el_kept (hx9 _ _ hg169).2).trans m190
  have m206 := (el_kept (hx9 _ _ hg169).2).trans m191
  have m207 := (el_kept (hx9 _ _ hg169).2).trans m177
  have hg208 := (hx9 _ _ hg169).1
  have hg209 := (hx9 _ _ hg170).1
  have hg210 := (hx9 _ _ hg171).1
  have hg211 := (hx9 _ _ hg172).1
  have hg212 := (hx9 _ _ hg173).1
  have hg213 := (hx9 _ _ hg174).1
  have hg214 := (hx9 _ _ hg175).1
  have hg215 := (hx9 _ _ hg176).1
  have hg216 : G8 q192 = some 107 := by rw [eG]; exact gU_at
  have m217 : el H q192 (dI 7 11) = some (.int 0) := hm9 11 (by decide)
  refine lv_dup hx hb dX0_init_64 rfl ?_
  have hFc := gA_free hG hA hS
  have hz9 := hS.1
  refine va_callv (va_runIN (As := []) (rest := [.ref q192, .ref o0]) ⟨hx, hb, hml, hown, hts⟩ (n_X4 l dC dI kA adK adV G8 H 0 0 q192 hT hg216 m217 (by omega) (by omega)) ⟨va_cnB 0 hts (goodIn_ca (goodIn_r _ [18, 19, 2, 3, 6, 20, 21, 22, 23, 24, 25, 26, 27, 28, 29, 12, 30] rfl (by decide +kernel)) (bs2_in _ _)) rfl rfl rfl (hE.nm 104 rfl) (ht_at2 hts 16 rfl) (by decide +kernel) ⟨(Nat.le_of_ble_eq_true rfl), (Nat.le_of_ble_eq_true rfl)⟩, rfl, (ht_at2 hts 30 rfl)⟩ ⟨fun a U g mk q => by obtain ⟨q0, q1, qK, qE, qA⟩ := q; exact ⟨q0, q1, va_K.moved (u := U) (U := U.calling g mk a) (Vm.Alike.refl U.vm) qK, EVC.blind g mk a qE, AO.blind g mk a qA⟩, fun U hU hW => ⟨rfl, hU, va_K.moved hW.alike hK, hE.call hS hFc hU hW, hAO.call hW⟩⟩ rfl rfl hl.1 rfl (lv_room (Nat.le_of_ble_eq_true rfl)) dX0_init_65 ⟨(Nat.le_of_ble_eq_true rfl), (Nat.le_of_ble_eq_true rfl)⟩) hS (fun q _ h => hFc q h) hFc (fun G9 t H locs ht hvm _ hB _ _ hS => ?_)
  (try dsimp only at hB); rw [ht] at hB; obtain ⟨hT, hg219, hY1, m218⟩ := hB
  have hY := hY.call hn_q192 hY1 hz9 (by decide)
  have hG := hY.A hG0 hAo hA
  have hU_51 := gT_call hU_51 hY1 (by decide)
  have m220 := (el_kept (hY1.1 _ _ (gne hg208 hg216 (by decide)) hg208).2).trans m193
  have m221 := (el_kept (hY1.1 _ _ (gne hg208 hg216 (by decide)) hg208).2).trans m194
  have m222 := (el_kept (hY1.1 _ _ (gne hg208 hg216 (by decide)) hg208).2).trans m195
  have m223 := (el_kept (hY1.1 _ _ (gne hg208 hg216 (by decide)) hg208).2).trans m196
  have m224 := (el_kept (hY1.1 _ _ (gne hg208 hg216 (by decide)) hg208).2).trans m197
  have m225 := (el_kept (hY1.1 _ _ (gne hg208 hg216 (by decide)) hg208).2).trans m198
  have m226 := m199.kept (hY1.1 _ _ (gne hg210 hg216 (by decide)) hg210).2
  have m227 := (el_kept (hY1.1 _ _ (gne hg208 hg216 (by decide)) hg208).2).trans m200
  have m228 := m201.kept (hY1.1 _ _ (gne hg211 hg216 (by decide)) hg211).2
  have m229 := (el_kept (hY1.1 _ _ (gne hg208 hg216 (by decide)) hg208).2).trans m202
  have m230 := m203.kept (hY1.1 _ _ (gne hg212 hg216 (by decide)) hg212).2
  have m231 := (el_kept (hY1.1 _ _ (gne hg208 hg216 (by decide)) hg208).2).trans m204
  have m232 := (el_kept (hY1.1 _ _ (gne hg208 hg216 (by decide)) hg208).2).trans m205
  have m233 := (el_kept (hY1.1 _ _ (gne hg208 hg216 (by decide)) hg208).2).trans m206
  have m234 := (el_kept (hY1.1 _ _ (gne hg208 hg216 (by decide)) hg208).2).trans m207
  have hg235 := (hY1.1 _ _ (gne hg208 hg216 (by decide)) hg208).1
  have hg236 := (hY1.1 _ _ (gne hg209 hg216 (by decide)) hg209).1
  have hg237 := (hY1.1 _ _ (gne hg210 hg216 (by decide)) hg210).1
  have hg238 := (hY1.1 _ _ (gne hg211 hg216 (by decide)) hg211).1
  have hg239 := (hY1.1 _ _ (gne hg212 hg216 (by decide)) hg212).1
  have hg240 := (hY1.1 _ _ (gne hg213 hg216 (by decide)) hg213).1
  have hg241 := (hY1.1 _ _ (gne hg214 hg216 (by decide)) hg214).1
  have hg242 := (hY1.1 _ _ (gne hg215 hg216 (by decide)) hg215).1
  refine tw_put (v := .ref q192) (ty := (.object "SeaLand$Law")) hx hb hts bF2_X0 tyX0 tyX0_ok nmX0 hown hK hT hG hS hg235 shc_103 rfl 7 (by decide) (ht_at2 hts 31 rfl) (fun _ h9 => h9) rfl (by decide +kernel) rfl rfl (gl_at rfl ⟨some _, rfl, fun _ h => by cases h; exact hg219⟩) dX0_init_68 (fun H locs hT oq m243 oj hS => ?_)
  have hY := hY.put oq
  have m244 := (oj 16 (by decide) (by decide)).trans m220
  have m245 := (oj 15 (by decide) (by decide)).trans m221
  have m246 := (oj 11 (by decide) (by decide)).trans m222
  have m247 := (oj 12 (by decide) (by decide)).trans m223
  have m248 := (oj 13 (by decide) (by decide)).trans m224
  have m249 := (oj 0 (by decide) (by decide)).trans m225
  have m250 := m226.kept (oq _ (gne hg237 hg235 (by decide)))
  have m251 := (oj 1 (by decide) (by decide)).trans m227
  have m252 := m228.kept (oq _ (gne hg238 hg235 (by decide)))
  have m253 := (oj 2 (by decide) (by decide)).trans m229
  have m254 := m230.kept (oq _ (gne hg239 hg235 (by decide)))
  have m255 := (oj 3 (by decide) (by decide)).trans m231
  have m256 := (oj 4 (by decide) (by decide)).trans m232
  have m257 := (oj 5 (by decide) (by decide)).trans m233
  have m258 := (oj 6 (by decide) (by decide)).trans m234
  have m259 := (el_kept (oq _ (gne hg219 hg235 (by decide)))).trans m218
  refine lv_aload_n hx hb dX0_init_71 rfl (lv_at hl 0 rfl) ?_
  have hz9 := hS.1
  refine tw_new hx hb hts bF2_X4 tyX4 tyX4_ok hown (ht_at2 hts 14 rfl) (ht_at2 hts 15 rfl) (ht_at2 hts 16 rfl) hK mon_c hT hS hG hA (shc_164) rfl nd_164 (Nat.le_of_ble_eq_true rfl) (Nat.le_of_ble_eq_true rfl) dX0_init_72 (fun q260 G10 H hq9 eG hz1 hz2 hT hx9 hG hm9 hS => ?_)
  have hn_q260 : s.heap.size ≤ q260 := Nat.le_trans hz9 (Nat.le_of_eq hz2)
  have hY := hY.new hn_q260 eG hx9 (by decide)
  have hU_51 := gT_new hU_51 eG (by decide)
  have m261 := (el_kept (hx9 _ _ hg235).2).trans m244
  have m262 := (el_kept (hx9 _ _ hg235).2).trans m245
  have m263 := (el_kept (hx9 _ _ hg235).2).trans m246
  have m264 := (el_kept (hx9 _ _ hg235).2).trans m247
  have m265 := (el_kept (hx9 _ _ hg235).2).trans m248
  have m266 := (el_kept (hx9 _ _ hg235).2).trans m249
  have m267 := m250.kept (hx9 _ _ hg237).2
  have m268 := (el_kept (hx9 _ _ hg235).2).trans m251
  have m269 := m252.kept (hx9 _ _ hg238).2
  have m270 := (el_kept (hx9 _ _ hg235).2).trans m253
  have m271 := m254.kept (hx9 _ _ hg239).2
  have m272 := (el_kept (hx9 _ _ hg235).2).trans m255
  have m273 := (el_kept (hx9 _ _ hg235).2).trans m256
  have m274 := (el_kept (hx9 _ _ hg235).2).trans m257
  have m275 := (el_kept (hx9 _ _ hg235).2).trans m258
  have m276 := (el_kept (hx9 _ _ hg219).2).trans m259
  have m277 := (el_kept (hx9 _ _ hg235).2).trans m243
  have hg278 := (hx9 _ _ hg235).1
  have hg279 := (hx9 _ _ hg236).1
  have hg280 := (hx9 _ _ hg237).1
  have hg281 := (hx9 _ _ hg238).1
  have hg282 := (hx9 _ _ hg239).1
  have hg283 := (hx9 _ _ hg240).1
  have hg284 := (hx9 _ _ hg241).1
  have hg285 := (hx9 _ _ hg242).1
  have hg286 := (hx9 _ _ hg219).1
  have hg287 : G10 q260 = some 164 := by rw [eG]; exact gU_at
  have m288 : el H q260 (dI 7 11) = some (.int 0) := hm9 11 (by decide)
  refine lv_dup hx hb dX0_init_75 rfl ?_
  have hFc := gA_free hG hA hS
  have hz9 := hS.1
  refine va_callv (va_runIN (As := []) (rest := [.ref q260, .ref o0]) ⟨hx, hb, hml, hown, hts⟩ (n_P4 l dC dI kA adK adV G10 H 0 0 q260 hT hg287 (by omega) (by omega)) ⟨va_cnB 0 hts (goodIn_ca (goodIn_r _ [18, 19, 2, 3, 6, 20, 21, 22, 23, 24, 25, 26, 27, 28, 29, 12, 30] rfl (by decide +kernel)) (bs2_in _ _)) rfl rfl rfl (hE.nm 104 rfl) (ht_at2 hts 16 rfl) (by decide +kernel) ⟨(Nat.le_of_ble_eq_true rfl), (Nat.le_of_ble_eq_true rfl)⟩, rfl, (ht_at2 hts 30 rfl)⟩ ⟨fun a U g mk q => by obtain ⟨q0, q1, qK, qE, qA⟩ := q; exact ⟨q0, q1, va_K.moved (u := U) (U := U.calling g mk a) (Vm.Alike.refl U.vm) qK, EVC.blind g mk a qE, AO.blind g mk a qA⟩, fun U hU hW => ⟨rfl, hU, va_K.moved hW.alike hK, hE.call hS hFc hU hW, hAO.call hW⟩⟩ rfl rfl hl.1 rfl (lv_room (Nat.le_of_ble_eq_true rfl)) dX0_init_76 ⟨(Nat.le_of_ble_eq_true rfl), (Nat.le_of_ble_eq_true rfl)⟩) hS (fun q _ h => hFc q h) hFc (fun G11 t H locs ht hvm _ hB _ _ hS => ?_)
  (try dsimp only at hB); rw [ht] at hB; obtain ⟨hT, hg289, hY1⟩ := hB
  have hY := hY.call hn_q260 hY1 hz9 (by decide)
  have hG := hY.A hG0 hAo hA
  have hU_51 := gT_call hU_51 hY1 (by decide)
  have m290 := (el_kept (hY1.1 _ _ (gne hg278 hg287 (by decide)) hg278).2).trans m261
  have m291 := (el_kept (hY1.1 _ _ (gne hg278 hg287 (by decide)) hg278).2).trans m262
  have m292 := (el_kept (hY1.1 _ _ (gne hg278 hg287 (by decide)) hg278).2).trans m263
  have m293 := (el_kept (hY1.1 _ _ (gne hg278 hg287 (by decide)) hg278).2).trans m264
  have m294 := (el_kept (hY1.1 _ _ (gne hg278 hg287 (by decide)) hg278).2).trans m265
  have m295 := (el_kept (hY1.1 _ _ (gne hg278 hg287 (by decide)) hg278).2).trans m266
  have m296 := m267.kept (hY1.1 _ _ (gne hg280 hg287 (by decide)) hg280).2
  have m297 := (el_kept (hY1.1 _ _ (gne hg278 hg287 (by decide)) hg278).2).trans m268
  have m298 := m269.kept (hY1.1 _ _ (gne hg281 hg287 (by decide)) hg281).2
  have m299 := (el_kept (hY1.1 _ _ (gne hg278 hg287 (by decide)) hg278).2).trans m270
  have m300 := m271.kept (hY1.1 _ _ (gne hg282 hg287 (by decide)) hg282).2
  have m301 := (el_kept (hY1.1 _ _ (gne hg278 hg287 (by decide)) hg278).2).trans m272
  have m302 := (el_kept (hY1.1 _ _ (gne hg278 hg287 (by decide)) hg278).2).trans m273
  have m303 := (el_kept (hY1.1 _ _ (gne hg278 hg287 (by decide)) hg278).2).trans m274
  have m304 := (el_kept (hY1.1 _ _ (gne hg278 hg287 (by decide)) hg278).2).trans m275
  have m305 := (el_kept (hY1.1 _ _ (gne hg286 hg287 (by decide)) hg286).2).trans m276
  have m306 := (el_kept (hY1.1 _ _ (gne hg278 hg287 (by decide)) hg278).2).trans m277
  have hg307 := (hY1.1 _ _ (gne hg278 hg287 (by decide)) hg278).1
  have hg308 := (hY1.1 _ _ (gne hg279 hg287 (by decide)) hg279).1
  have hg309 := (hY1.1 _ _ (gne hg280 hg287 (by decide)) hg280).1
  have hg310 := (hY1.1 _ _ (gne hg281 hg287 (by decide)) hg281).1
  have hg311 := (hY1.1 _ _ (gne hg282 hg287 (by decide)) hg282).1
  have hg312 := (hY1.1 _ _ (gne hg283 hg287 (by decide)) hg283).1
  have hg313 := (hY1.1 _ _ (gne hg284 hg287 (by decide)) hg284).1
  have hg314 := (hY1.1 _ _ (gne hg285 hg287 (by decide)) hg285).1
  have hg315 := (hY1.1 _ _ (gne hg286 hg287 (by decide)) hg286).1
  refine tw_put (v := .ref q260) (ty := (.object "SeaLand$Law")) hx hb hts bF2_X0 tyX0 tyX0_ok nmX0 hown hK hT hG hS hg307 shc_103 rfl 8 (by decide) (ht_at2 hts 32 rfl) (fun _ h9 => h9) rfl (by decide +kernel) rfl rfl (gl_at rfl ⟨some _, rfl, fun _ h => by cases h; exact hg289⟩) dX0_init_79 (fun H locs hT oq m316 oj hS => ?_)
  have hY := hY.put oq
  have m317 := (oj 16 (by decide) (by decide)).trans m290
  have m318 := (oj 15 (by decide) (by decide)).trans m291
  have m319 := (oj 11 (by decide) (by decide)).trans m292
  have m320 := (oj 12 (by decide) (by decide)).trans m293
  have m321 := (oj 13 (by decide) (by decide)).trans m294
  have m322 := (oj 0 (by decide) (by decide)).trans m295
  have m323 := m296.kept (oq _ (gne hg309 hg307 (by decide)))
  have m324 := (oj 1 (by decide) (by decide)).trans m297
  have m325 := m298.kept (oq _ (gne hg310 hg307 (by decide)))
  have m326 := (oj 2 (by decide) (by decide)).trans m299
  have m327 := m300.kept (oq _ (gne hg311 hg307 (by decide)))
  have m328 := (oj 3 (by decide) (by decide)).trans m301
  have m329 := (oj 4 (by decide) (by decide)).trans m302
  have m330 := (oj 5 (by decide) (by decide)).trans m303
  have m331 := (oj 6 (by decide) (by decide)).trans m304
  have m332 := (el_kept (oq _ (gne hg315 hg307 (by decide)))).trans m305
  have m333 := (oj 7 (by decide) (by decide)).trans m306
  refine lv_aload_n hx hb dX0_init_82 rfl (lv_at hl 0 rfl) ?_
  have hz9 := hS.1
  refine tw_new hx hb hts bF2_X4 tyX4 tyX4_ok hown (ht_at2 hts 14 rfl) (ht_at2 hts 15 rfl) (ht_at2 hts 16 rfl) hK mon_c hT hS hG hA (shc_165) rfl nd_165 (Nat.le_of_ble_eq_true rfl) (Nat.le_of_ble_eq_true rfl) dX0_init_83 (fun q334 G12 H hq9 eG hz1 hz2 hT hx9 hG hm9 hS => ?_)
  have hn_q334 : s.heap.size ≤ q334 := Nat.le_trans hz9 (Nat.le_of_eq hz2)
  have hY := hY.new hn_q334 eG hx9 (by decide)
  have hU_51 := gT_new hU_51 eG (by decide)
  have m335 := (el_kept (hx9 _ _ hg307).2).trans m317
  have m336 := (el_kept (hx9 _ _ hg307).2).trans m318
  have m337 := (el_kept (hx9 _ _ hg307).2).trans m319
  have m338 := (el_kept (hx9 _ _ hg307).2).trans m320
  have m339 := (el_kept (hx9 _ _ hg307).2).trans m321
  have m340 := (el_kept (hx9 _ _ hg307).2).trans m322
  have m341 := m323.kept (hx9 _ _ hg309).2
  have m342 := (el_kept (hx9 _ _ hg307).2).trans m324
  have m343 := m325.kept (hx9 _ _ hg310).2
  have m344 := (el_kept (hx9 _ _ hg307).2).trans m326
  have m345 := m327.kept (hx9 _ _ hg311).2
  have m346 := (el_kept (hx9 _ _ hg307).2).trans m328
  have m347 := (el_kept (hx9 _ _ hg307).2).trans m329
  have m348 := (el_kept (hx9 _ _ hg307).2).trans m330
  have m349 := (el_kept (hx9 _ _ hg307).2).trans m331
  have m350 := (el_kept (hx9 _ _ hg315).2).trans m332
  have m351 := (el_kept (hx9 _ _ hg307).2).trans m333
  have m352 := (el_kept (hx9 _ _ hg307).2).trans m316
  have hg353 := (hx9 _ _ hg307).1
  have hg354 := (hx9 _ _ hg308).1
  have hg355 := (hx9 _ _ hg309).1
  have hg356 := (hx9 _ _ hg310).1
  have hg357 := (hx9 _ _ hg311).1
  have hg358 := (hx9 _ _ hg312).1
  have hg359 := (hx9 _ _ hg313).1
  have hg360 := (hx9 _ _ hg314).1
  have hg361 := (hx9 _ _ hg315).1
  have hg362 := (hx9 _ _ hg289).1
  have hg363 : G12 q334 = some 165 := by rw [eG]; exact gU_at
  have m364 : el H q334 (dI 7 11) = some (.int 0) := hm9 11 (by decide)
  refine lv_dup hx hb dX0_init_86 rfl ?_
  have hFc := gA_free hG hA hS
  have hz9 := hS.1
  refine va_callv (va_runIN (As := []) (rest := [.ref q334, .ref o0]) ⟨hx, hb, hml, hown, hts⟩ (n_S4 l dC dI kA adK adV G12 H 0 0 q334 hT hg363 (by omega) (by omega)) ⟨va_cnB 0 hts (goodIn_ca (goodIn_r _ [18, 19, 2, 3, 6, 20, 21, 22, 23, 24, 25, 26, 27, 28, 29, 12, 30] rfl (by decide +kernel)) (bs2_in _ _)) rfl rfl rfl (hE.nm 104 rfl) (ht_at2 hts 16 rfl) (by decide +kernel) ⟨(Nat.le_of_ble_eq_true rfl), (Nat.le_of_ble_eq_true rfl)⟩, rfl, (ht_at2 hts 30 rfl)⟩ ⟨fun a U g mk q => by obtain ⟨q0, q1, qK, qE, qA⟩ := q; exact ⟨q0, q1, va_K.moved (u := U) (U := U.calling g mk a) (Vm.Alike.refl U.vm) qK, EVC.blind g mk a qE, AO.blind g mk a qA⟩, fun U hU hW => ⟨rfl, hU, va_K.moved hW.alike hK, hE.call hS hFc hU hW, hAO.call hW⟩⟩ rfl rfl hl.1 rfl (lv_room (Nat.le_of_ble_eq_true rfl)) dX0_init_87 ⟨(Nat.le_of_ble_eq_true rfl), (Nat.le_of_ble_eq_true rfl)⟩) hS (fun q _ h => hFc q h) hFc (fun G13 t H locs ht hvm _ hB _ _ hS => ?_)
  (try dsimp only at hB); rw [ht] at hB; obtain ⟨hT, hg365, hY1⟩ := hB
  have hY := hY.call hn_q334 hY1 hz9 (by decide)
  have hG := hY.A hG0 hAo hA
  have hU_51 := gT_call hU_51 hY1 (by decide)
  have m366 := (el_kept (hY1.1 _ _ (gne hg353 hg363 (by decide)) hg353).2).trans m335
  have m367 := (el_kept (hY1.1 _ _ (gne hg353 hg363 (by decide)) hg353).2).trans m336
  have m368 := (el_kept (hY1.1 _ _ (gne hg353 hg363 (by decide)) hg353).2).trans m337
  have m369 := (el_kept (hY1.1 _ _ (gne hg353 hg363 (by decide)) hg353).2).trans m338
  have m370 := (el_kept (hY1.1 _ _ (gne hg353 hg363 (by decide)) hg353).2).trans m339
  have m371 := (el_kept (hY1.1 _ _ (gne hg353 hg363 (by decide)) hg353).2).trans m340
  have m372 := m341.kept (hY1.1 _ _ (gne hg355 hg363 (by decide)) hg355).2
  have m373 := (el_kept (hY1.1 _ _ (gne hg353 hg363 (by decide)) hg353).2).trans m342
  have m374 := m343.kept (hY1.1 _ _ (gne hg356 hg363 (by decide)) hg356).2
  have m375 := (el_kept (hY1.1 _ _ (gne hg353 hg363 (by decide)) hg353).2).trans m344
  have m376 := m345.kept (hY1.1 _ _ (gne hg357 hg363 (by decide)) hg357).2
  have m377 := (el_kept (hY1.1 _ _ (gne hg353 hg363 (by decide)) hg353).2).trans m346
  have m378 := (el_kept (hY1.1 _ _ (gne hg353 hg363 (by decide)) hg353).2).trans m347
  have m379 := (el_kept (hY1.1 _ _ (gne hg353 hg363 (by decide)) hg353).2).trans m348
  have m380 := (el_kept (hY1.1 _ _ (gne hg353 hg363 (by decide)) hg353).2).trans m349
  have m381 := (el_kept (hY1.1 _ _ (gne hg361 hg363 (by decide)) hg361).2).trans m350
  have m382 := (el_kept (hY1.1 _ _ (gne hg353 hg363 (by decide)) hg353).2).trans m351
  have m383 := (el_kept (hY1.1 _ _ (gne hg353 hg363 (by decide)) hg353).2).trans m352
  have hg384 := (hY1.1 _ _ (gne hg353 hg363 (by decide)) hg353).1
  have hg385 := (hY1.1 _ _ (gne hg354 hg363 (by decide)) hg354).1
  have hg386 := (hY1.1 _ _ (gne hg355 hg363 (by decide)) hg355).1
  have hg387 := (hY1.1 _ _ (gne hg356 hg363 (by decide)) hg356).1
  have hg388 := (hY1.1 _ _ (gne hg357 hg363 (by decide)) hg357).1
  have hg389 := (hY1.1 _ _ (gne hg358 hg363 (by decide)) hg358).1
  have hg390 := (hY1.1 _ _ (gne hg359 hg363 (by decide)) hg359).1
  have hg391 := (hY1.1 _ _ (gne hg360 hg363 (by decide)) hg360).1
  have hg392 := (hY1.1 _ _ (gne hg361 hg363 (by decide)) hg361).1
  have hg393 := (hY1.1 _ _ (gne hg362 hg363 (by decide)) hg362).1
  refine tw_put (v := .ref q334) (ty := (.object "SeaLand$Law")) hx hb hts bF2_X0 tyX0 tyX0_ok nmX0 hown hK hT hG hS hg384 shc_103 rfl 9 (by decide) (ht_at2 hts 33 rfl) (fun _ h9 => h9) rfl (by decide +kernel) rfl rfl (gl_at rfl ⟨some _, rfl, fun _ h => by cases h; exact hg365⟩) dX0_init_90 (fun H locs hT oq m394 oj hS => ?_)
  have hY := hY.put oq
  have m395 := (oj 16 (by decide) (by decide)).trans m366
  have m396 := (oj 15 (by decide) (by decide)).trans m367
  have m397 := (oj 11 (by decide) (by decide)).trans m368
  have m398 := (oj 12 (by decide) (by decide)).trans m369
  have m399 := (oj 13 (by decide) (by decide)).trans m370
  have m400 := (oj 0 (by decide) (by decide)).trans m371
  have m401 := m372.kept (oq _ (gne hg386 hg384 (by decide)))
  have m402 := (oj 1 (by decide) (by decide)).trans m373
  have m403 := m374.kept (oq _ (gne hg387 hg384 (by decide)))
  have m404 := (oj 2 (by decide) (by decide)).trans m375
  have m405 := m376.kept (oq _ (gne hg388 hg384 (by decide)))
  have m406 := (oj 3 (by decide) (by decide)).trans m377
  have m407 := (oj 4 (by decide) (by decide)).trans m378
  have m408 := (oj 5 (by decide) (by decide)).trans m379
  have m409 := (oj 6 (by decide) (by decide)).trans m380
  have m410 := (el_kept (oq _ (gne hg392 hg384 (by decide)))).trans m381
  have m411 := (oj 7 (by decide) (by decide)).trans m382
  have m412 := (oj 8 (by decide) (by decide)).trans m383
  refine lv_aload_n hx hb dX0_init_93 rfl (lv_at hl 0 rfl) ?_
  refine lv_iconst (v := (-1)) hx hb dX0_init_94 (by decide) ?_
  refine tw_put (v := .int (-1)) (ty := .int) hx hb hts bF2_X0 tyX0 tyX0_ok nmX0 hown hK hT hG hS hg384 shc_103 rfl 10 (by decide) (ht_at2 hts 34 rfl) (fun _ h9 => h9) rfl (by decide +kernel) rfl rfl (gl_at rfl (gi_all _)) dX0_init_95 (fun H locs hT oq m413 oj hS => ?_)
  have hY := hY.put oq
  have m414 := (oj 16 (by decide) (by decide)).trans m395
  have m415 := (oj 15 (by decide) (by decide)).trans m396
  have m416 := (oj 11 (by decide) (by decide)).trans m397
  have m417 := (oj 12 (by decide) (by decide)).trans m398
  have m418 := (oj 13 (by decide) (by decide)).trans m399
  have m419 := (oj 0 (by decide) (by decide)).trans m400
  have m420 := m401.kept (oq _ (gne hg386 hg384 (by decide)))
  have m421 := (oj 1 (by decide) (by decide)).trans m402
  have m422 := m403.kept (oq _ (gne hg387 hg384 (by decide)))
  have m423 := (oj 2 (by decide) (by decide)).trans m404
  have m424 := m405.kept (oq _ (gne hg388 hg384 (by decide)))
  have m425 := (oj 3 (by decide) (by decide)).trans m406
  have m426 := (oj 4 (by decide) (by decide)).trans m407
  have m427 := (oj 5 (by decide) (by decide)).trans m408
  have m428 := (oj 6 (by decide) (by decide)).trans m409
  have m429 := (el_kept (oq _ (gne hg392 hg384 (by decide)))).trans m410
  have m430 := (oj 7 (by decide) (by decide)).trans m411
  have m431 := (oj 8 (by decide) (by decide)).trans m412
  have m432 := (oj 9 (by decide) (by decide)).trans m394
  refine lv_aload_n hx hb dX0_init_98 rfl (lv_at hl 0 rfl) ?_
  refine tw_getM (v := .ref q15) hx hb hts bF2_X0 hown hK hT hg384 shc_103 rfl 1 (by decide) (ht_at2 hts 6 rfl) (fun _ h9 => h9) m421 dX0_init_99 ?_
  refine lv_iconst (v := (-1)) hx hb dX0_init_102 (by decide) ?_
  have hi9 : ∀ (G G' : gT) (k : Nat) (v : Value), (ga (gI (-2147483648) 2147483647)) G k v → (ga (gI (-2147483648) 2147483647)) G' k v := fun _ _ _ _ h => h
  have hz8 := hS.1
  have hT1 := hT.one hg386 shc_52 hi9
  have hFc := gA_one (t := 52) (sz := H.size) (hG _ _ hg386) (fun q hq => hA q (Nat.le_trans hS.1 hq))
  have hTo := hT
  refine va_callv (va_runS (As := [.ref q15, .int (-1)]) (rest := []) ⟨hx, hb, hml, hown, hts⟩ (c_fill_farmOf l dC dI kA adK adV (gU (fun _ => none) q15 52) H 0 0 q15 (-1) (fun _ => 0) hT1 gU_at m420 (by omega) (by omega)) (va_cwS 2 hts (goodIn_app (goodIn_r _ [37, 38, 39] rfl (by decide +kernel)) (goodIn_ca (goodIn_r _ [36] rfl (by decide +kernel)) (bs2_in _ _))) rfl rfl rfl (by decide +kernel) ⟨(Nat.le_of_ble_eq_true rfl), (Nat.le_of_ble_eq_true rfl)⟩) ⟨fun a U g mk q => by obtain ⟨q0, q1, qK, qE⟩ := q; exact ⟨q0, q1, va_K.moved (u := U) (U := U.calling g mk a) (Vm.Alike.refl U.vm) qK, EVC.blind g mk a qE⟩, fun U hU hW => ⟨rfl, hU, va_K.moved hW.alike hK, hE.call hS hFc hU hW⟩⟩ rfl rfl hl.1 rfl (lv_room (Nat.le_of_ble_eq_true rfl)) dX0_init_103 ⟨(Nat.le_of_ble_eq_true rfl), (Nat.le_of_ble_eq_true rfl)⟩) hS (fun q _ h => hFc q h) hFc (fun u t H locs ht hvm _ hB hz1 hk1 hS => ?_)
  (try dsimp only at hB); rw [ht] at hB; have hk2 : ∀ q, q < _ → q ≠ q15 → H[q]? = _ := fun q h1 h2 => hk1 q h1 (gA_not h1 h2)
  have hT := hTo.back hg386 shc_52 hi9 hB.1 hk2
  have hY := hY.put1 hn_q15 (fun q h1 h2 => hk2 q (Nat.lt_of_lt_of_le h1 hz8) h2)
  have m433 := (el_kept (hk2 _ (hTo.lt hg384) (gne hg384 hg386 (by decide)))).trans m414
  have m434 := (el_kept (hk2 _ (hTo.lt hg384) (gne hg384 hg386 (by decide)))).trans m415
  have m435 := (el_kept (hk2 _ (hTo.lt hg384) (gne hg384 hg386 (by decide)))).trans m416
  have m436 := (el_kept (hk2 _ (hTo.lt hg384) (gne hg384 hg386 (by decide)))).trans m417
  have m437 := (el_kept (hk2 _ (hTo.lt hg384) (gne hg384 hg386 (by decide)))).trans m418
  have m438 := (el_kept (hk2 _ (hTo.lt hg384) (gne hg384 hg386 (by decide)))).trans m419
  have m439 := (el_kept (hk2 _ (hTo.lt hg384) (gne hg384 hg386 (by decide)))).trans m421
  have m440 := m422.kept (hk2 _ (hTo.lt hg387) (gne hg387 hg386 (by decide)))
  have m441 := (el_kept (hk2 _ (hTo.lt hg384) (gne hg384 hg386 (by decide)))).trans m423
  have m442 := m424.kept (hk2 _ (hTo.lt hg388) (gne hg388 hg386 (by decide)))
  have m443 := (el_kept (hk2 _ (hTo.lt hg384) (gne hg384 hg386 (by decide)))).trans m425
  have m444 := (el_kept (hk2 _ (hTo.lt hg384) (gne hg384 hg386 (by decide)))).trans m426
  have m445 := (el_kept (hk2 _ (hTo.lt hg384) (gne hg384 hg386 (by decide)))).trans m427
  have m446 := (el_kept (hk2 _ (hTo.lt hg384) (gne hg384 hg386 (by decide)))).trans m428
  have m447 := (el_kept (hk2 _ (hTo.lt hg392) (gne hg392 hg386 (by decide)))).trans m429
  have m448 := (el_kept (hk2 _ (hTo.lt hg384) (gne hg384 hg386 (by decide)))).trans m430
  have m449 := (el_kept (hk2 _ (hTo.lt hg384) (gne hg384 hg386 (by decide)))).trans m431
  have m450 := (el_kept (hk2 _ (hTo.lt hg384) (gne hg384 hg386 (by decide)))).trans m432
  have m451 := (el_kept (hk2 _ (hTo.lt hg384) (gne hg384 hg386 (by decide)))).trans m413
  have m452 := hB.2.2
  have hT := hT.grown (t := 3) mon_c hg384 (by decide) (by
    have h8 := hT _ _ hg384; rw [shc_103] at h8; rw [shc_3]
    refine gC.grow h8 (fun k v hk hm hv => match k, hk, hm, hv with
      | 0, _, hm, hv => gl_at rfl (by obtain rfl : v = .ref q1 := Option.some.inj (hm.symm.trans m438); exact ⟨_, rfl, (gU_ne (gne hg385 hg384 (by decide))).trans hg385⟩)
      | 1, _, hm, hv => gl_at rfl (by obtain rfl : v = .ref q15 := Option.some.inj (hm.symm.trans m439); exact ⟨_, rfl, (gU_ne (gne hg386 hg384 (by decide))).trans hg386⟩)
      | 2, _, hm, hv => gl_at rfl (by obtain rfl : v = .ref q34 := Option.some.inj (hm.symm.trans m441); exact ⟨_, rfl, (gU_ne (gne hg387 hg384 (by decide))).trans hg387⟩)
      | 3, _, hm, hv => gl_at rfl (by obtain rfl : v = .ref q58 := Option.some.inj (hm.symm.trans m443); exact ⟨_, rfl, (gU_ne (gne hg388 hg384 (by decide))).trans hg388⟩)
      | 4, _, hm, hv => gl_at rfl (by obtain rfl : v = .ref q87 := Option.some.inj (hm.symm.trans m444); exact ⟨_, rfl, (gU_ne (gne hg389 hg384 (by decide))).trans hg389⟩)
      | 5, _, hm, hv => gl_at rfl (by obtain rfl : v = .ref q119 := Option.some.inj (hm.symm.trans m445); exact ⟨_, rfl, (gU_ne (gne hg390 hg384 (by decide))).trans hg390⟩)
      | 6, _, hm, hv => gl_at rfl (by obtain rfl : v = .ref q154 := Option.some.inj (hm.symm.trans m446); exact ⟨_, rfl, (gU_ne (gne hg391 hg384 (by decide))).trans hg391⟩)
      | 7, _, hm, hv => gl_at rfl (by obtain rfl : v = .ref q192 := Option.some.inj (hm.symm.trans m448); exact ⟨_, rfl, (gU_ne (gne hg392 hg384 (by decide))).trans hg392⟩)
      | 8, _, hm, hv => gl_at rfl (by obtain rfl : v = .ref q260 := Option.some.inj (hm.symm.trans m449); exact ⟨_, rfl, (gU_ne (gne hg393 hg384 (by decide))).trans hg393⟩)
      | 9, _, hm, hv => gl_at rfl (by obtain rfl : v = .ref q334 := Option.some.inj (hm.symm.trans m450); exact ⟨_, rfl, (gU_ne (gne hg365 hg384 (by decide))).trans hg365⟩)
      | 10, _, hm, hv => gl_at rfl (hv _ rfl)
      | 11, _, hm, hv => gl_at rfl (hv _ rfl)
      | 12, _, hm, hv => gl_at rfl (hv _ rfl)
      | 13, _, hm, hv => gl_at rfl (hv _ rfl)
      | 14, _, hm, hv => gl_at rfl (hv _ rfl)
      | 15, _, hm, hv => gl_at rfl (hv _ rfl)
      | 16, _, hm, hv => gl_at rfl (hv _ rfl)
      | 17, _, hm, hv => gl_at rfl (hv _ rfl)
      | k + 18, hk, _, _ => absurd hk (by omega)))
  have hY := hY.grow
  have hU_51 := gT_new (q := o0) (t := 3) hU_51 rfl (by decide)
  exact W.vret hx hb hr (fun t ht hW => ⟨⟨_, rfl, trivial, by (try dsimp only); rw [ht]; exact ⟨hT, gU_at, hY, ⟨_, hU_51⟩, m433, ⟨_, m439, (gU_ne (gne hg386 hg384 (by decide))).trans hg386, m452⟩, ⟨_, m441, (gU_ne (gne hg387 hg384 (by decide))).trans hg387, m440⟩, ⟨_, m443, (gU_ne (gne hg388 hg384 (by decide))).trans hg388, m442⟩, m434, m451, m435, m436, m437, ⟨_, m448, (gU_ne (gne hg392 hg384 (by decide))).trans hg392, m447⟩⟩⟩, hS.F ht⟩) hS.2.2 dX0_init_106
def w_n_X3 : List Cond := .code yX3_init cX3_init 2 none :: (HAppend.hAppend (α := List Cond) (β := List Cond) (γ := List Cond) [.methodLink RX3 3 objectInit, .instanceMethod objectInit, .code objectInit ⟨#[0xb1]⟩ 1 none, .classLink RX3 9 RX8, .instantiable RX8 7, .initialized RX8, .code yX8_init cX8_init 1 none, .methodLink RX8 3 objectInit, .arrayClass .int, .fieldLink RX8 9 "SeaLand$Sky" "tides" "[I", .fieldLink RX8 15 "SeaLand$Sky" "stormFrom" "[I", .fieldLink RX8 18 "SeaLand$Sky" "stormTo" "[I", .fieldLink RX8 21 "SeaLand$Sky" "stormMore" "[I", .classLink RX8 24 RX9, .instantiable RX9 3, .initialized RX9, .code yX9_init cX9_init 1 none, .methodLink RX9 3 objectInit, .fieldLink RX9 9 "SeaLand$Tellings" "hours" "[I", .fieldLink RX9 15 "SeaLand$Tellings" "numbers" "[I", .instanceMethod yX9_init, .fieldLink RX8 27 "SeaLand$Sky" "wind" "LSeaLand$Tellings;", .fieldLink RX8 31 "SeaLand$Sky" "rain" "LSeaLand$Tellings;", .instanceMethod yX8_init, .fieldLink RX3 12 "SeaLand$Lake" "sky" "LSeaLand$Sky;", .classLink RX3 18 RX2, .instantiable RX2 15, .initialized RX2, .code yX2_init cX2_init 1 none, .methodLink RX2 3 objectInit, .arrayClass .boolean, .fieldLink RX2 9 "SeaLand$Ground" "isLand" "[Z", .fieldLink RX2 15 "SeaLand$Ground" "height" "[I", .fieldLink RX2 19 "SeaLand$Ground" "soil" "[I", .fieldLink RX2 22 "SeaLand$Ground" "ditch" "[I", .fieldLink RX2 25 "SeaLand$Ground" "water" "[I", .fieldLink RX2 28 "SeaLand$Ground" "salt" "[I", .fieldLink RX2 31 "SeaLand$Ground" "dry" "[I", .fieldLink RX2 34 "SeaLand$Ground" "wet" "[I", .fieldLink RX2 37 "SeaLand$Ground" "ditchTo" "[I", .fieldLink RX2 40 "SeaLand$Ground" "ditchWater" "[I", .fieldLink RX2 43 "SeaLand$Ground" "ditchSalt" "[I", .instanceMethod yX2_init, .fieldLink RX3 21 "SeaLand$Lake" "ground" "LSeaLand$Ground;", .classLink RX3 25 RX10, .fieldLink RX3 27 "SeaLand$Lake" "works" "[LSeaLand$Work;", .instantiable RX10 12, .initialized RX10, .code yX10_init cX10_init 1 none, .methodLink RX10 3 objectInit, .fieldLink RX10 9 "SeaLand$Work" "thick" "[I", .fieldLink RX10 15 "SeaLand$Work" "clay" "[I", .instanceMethod yX10_init] bs2)
set_option maxHeartbeats 4000000 in
set_option maxRecDepth 100000 in
theorem n_X3 (l : Launch) (dC : Nat → ClassId) (dI : Nat → Nat → Nat) (kA : Nat → ClassId) (adK adV : Nat → Nat) (G : gT) (H0 : Heap) (nC nS : Int) (o0 : Nat) (hT : gH (dC, dI) kA (SHc nC nS) G H0) (hr_o0 : G o0 = some 106) (hm_4 : el H0 o0 (dI 6 4) = some (.int 0)) (hgC : 0 ≤ nC ∧ nC ≤ 40) (hgS : 0 ≤ nS ∧ nS ≤ 60) : Met l yX3_init w_n_X3 ({ frames := 3, cells := 114, slots := 2146, locals := 86 }) (va_Pc [.ref o0] (fun U => U.heap = H0 ∧ va_K (dC, dI) vwCl (tyl kA) U ∧ EVC adK adV (gA G H0.size) U U.heap ∧ AO U)) (va_Qv (fun (u : gT) => True) (fun (G1 : gT) (t : State) => gH (dC, dI) kA (SHc nC nS) G1 t.heap ∧ G1 o0 = some 6 ∧ gY ([5, 11, 12, 13, 18, 19, 20, 21, 22, 23, 24, 25, 26, 27, 28, 29, 30, 31, 32, 33, 34, 35, 36, 37, 99, 105, 111, 112, 113] : List Nat) 6 o0 G G1 H0 t.heap ∧ el t.heap o0 (dI 6 4) = some (.int 0) ∧ (∃ a1, el t.heap o0 (dI 6 1) = some (.ref a1) ∧ G1 a1 = some 5 ∧ (∃ a2, el t.heap a1 (dI 5 0) = some (.ref a2) ∧ G1 a2 = some 25 ∧ ct t.heap a2 96 (fun _ => 0)))) (gA G H0.size)) 114 2146 (gA G H0.size) := by
  refine Met.ofW (cc := cX3_init) (maxL := 2) (ret := none) (by decide) rfl ?_
  intro p e s m args below meth c s₁ B hml hv
  obtain ⟨rfl, hH0, hK, hE, hAO⟩ := hv
  have hx := B.exec
  have hb := B.bytes
  have hr := B.returns
  have hts := atoms_spec (ws := w_n_X3) B.pre
  have hown : s.vm.findClass RX3 = some m.cls := findClass_of_methodNamed B.named
  have hlocks := B.notSynchronized
  have hin : meth.name = "<init>" := (name_of_methodNamed B.named B.method).1
  subst hH0
  generalize hAe : gA G s.heap.size = A at hE ⊢
  have hA : ∀ q : Nat, s.heap.size ≤ q → A q := fun q h => by rw [← hAe]; exact Or.inr h
  have hG := gA_of hAe
  have hS : va_S A s.heap s.heap [] := va_S.rf
  have hl := lv_entry ([.ref o0]) (n := 2) (Nat.le_of_ble_eq_true rfl)
  rw [lg_entry_eq]
  generalize (lg_sl ([.ref o0]) ++ List.replicate (2 - (lg_sl ([.ref o0])).length) Slot.unset).toArray = ls at hl ⊢
  have hl : lv_has ls 2 [(0, .ref o0)] := hl
  have hG0 := hG
  have hY : gY ([5, 11, 12, 13, 18, 19, 20, 21, 22, 23, 24, 25, 26, 27, 28, 29, 30, 31, 32, 33, 34, 35, 36, 37, 99, 105, 111, 112, 113] : List Nat) 6 o0 G G s.heap s.heap := gY.rf hT
  have hAo := hG _ _ hr_o0
  refine lv_aload_n hx hb dX3_init_0 rfl (lv_at hl 0 rfl) ?_
  refine W.objInit hx hb hown (ht_at2 hts 0 rfl) (ht_at2 hts 1 rfl) (ht_at2 hts 2 rfl) rfl (by rw [hml]; exact hl.1) rfl dX3_init_1 (Nat.le_of_ble_eq_true rfl) (Nat.le_of_ble_eq_true rfl) ?_
  refine W.eq (g2 := F0 m 4 ls []) rfl ?_
  refine lv_aload_n hx hb dX3_init_4 rfl (lv_at hl 0 rfl) ?_
  have hz9 := hS.1
  refine tw_new hx hb hts bF2_X8 tyX8 tyX8_ok hown (ht_at2 hts 3 rfl) (ht_at2 hts 4 rfl) (ht_at2 hts 5 rfl) hK mon_c hT hS hG hA (shc_111) rfl nd_111 (Nat.le_of_ble_eq_true rfl) (Nat.le_of_ble_eq_true rfl) dX3_init_5 (fun q1 G1 H hq9 eG hz1 hz2 hT hx9 hG hm9 hS => ?_)
  have hn_q1 : s.heap.size ≤ q1 := Nat.le_trans hz9 (Nat.le_of_eq hz2)
  have hY := hY.new hn_q1 eG hx9 (by decide)
  have m2 := (el_kept (hx9 _ _ hr_o0).2).trans hm_4
  have hg3 := (hx9 _ _ hr_o0).1
  have hg4 : G1 q1 = some 111 := by rw [eG]; exact gU_at
  refine lv_dup hx hb dX3_init_8 rfl ?_
  have hFc := gA_free hG hA hS
  have hz9 := hS.1
  refine va_callv (va_runIN (As := []) (rest := [.ref q1, .ref o0]) ⟨hx, hb, hml, hown, hts⟩ (n_X8 l dC dI kA adK adV G1 H nC nS q1 hT hg4 (by omega) (by omega)) ⟨va_cnB 0 hts (goodIn_ca (goodIn_r _ [7, 8, 2, 3, 9, 10, 11, 12, 13, 14, 15, 16, 17, 18, 19, 20, 21, 22, 23] rfl (by decide +kernel)) (bs2_in _ _)) rfl rfl rfl (hE.nm 106 rfl) (ht_at2 hts 5 rfl) (by decide +kernel) ⟨(Nat.le_of_ble_eq_true rfl), (Nat.le_of_ble_eq_true rfl)⟩, rfl, (ht_at2 hts 23 rfl)⟩ ⟨fun a U g mk q => by obtain ⟨q0, q1, qK, qE, qA⟩ := q; exact ⟨q0, q1, va_K.moved (u := U) (U := U.calling g mk a) (Vm.Alike.refl U.vm) qK, EVC.blind g mk a qE, AO.blind g mk a qA⟩, fun U hU hW => ⟨rfl, hU, va_K.moved hW.alike hK, hE.call hS hFc hU hW, hAO.call hW⟩⟩ rfl rfl hl.1 rfl (lv_room (Nat.le_of_ble_eq_true rfl)) dX3_init_9 ⟨(Nat.le_of_ble_eq_true rfl), (Nat.le_of_ble_eq_true rfl)⟩) hS (fun q _ h => hFc q h) hFc (fun G2 t H locs ht hvm _ hB _ _ hS => ?_)
  (try dsimp only at hB); rw [ht] at hB; obtain ⟨hT, hg5, hY1⟩ := hB
  have hY := hY.call hn_q1 hY1 hz9 (by decide)
  have hG := hY.A hG0 hAo hA
  have m6 := (el_kept (hY1.1 _ _ (gne hg3 hg4 (by decide)) hg3).2).trans m2
  have hg7 := (hY1.1 _ _ (gne hg3 hg4 (by decide)) hg3).1
  refine tw_putF (v := .ref q1) (ty := (.object "SeaLand$Sky")) hx hb hts bF2_X3 tyX3 tyX3_ok nmX3 hown hK hT hG hS hg7 shc_106 rfl 0 (by decide) (ht_at2 hts 24 rfl) (fun _ h9 => h9) rfl hin rfl (by decide +kernel) rfl rfl (gl_at rfl ⟨some _, rfl, fun _ h => by cases h; exact hg5⟩) dX3_init_12 (fun H locs hT oq m8 oj hS => ?_)
  have hY := hY.put oq
  have m9 := (oj 4 (by decide) (by decide)).trans m6
  refine lv_aload_n hx hb dX3_init_15 rfl (lv_at hl 0 rfl) ?_
  have hz9 := hS.1
  refine tw_new hx hb hts bF2_X2 tyX2 tyX2_ok hown (ht_at2 hts 25 rfl) (ht_at2 hts 26 rfl) (ht_at2 hts 27 rfl) hK mon_c hT hS hG hA (shc_105) rfl nd_105 (Nat.le_of_ble_eq_true rfl) (Nat.le_of_ble_eq_true rfl) dX3_init_16 (fun q10 G3 H hq9 eG hz1 hz2 hT hx9 hG hm9 hS => ?_)
  have hn_q10 : s.heap.size ≤ q10 := Nat.le_trans hz9 (Nat.le_of_eq hz2)
  have hY := hY.new hn_q10 eG hx9 (by decide)
  have m11 := (el_kept (hx9 _ _ hg7).2).trans m9
  have m12 := (el_kept (hx9 _ _ hg7).2).trans m8
  have hg13 := (hx9 _ _ hg7).1
  have hg14 := (hx9 _ _ hg5).1
  have hg15 : G3 q10 = some 105 := by rw [eG]; exact gU_at
  refine lv_dup hx hb dX3_init_19 rfl ?_
  have hFc := gA_free hG hA hS
  have hz9 := hS.1
  refine va_callv (va_runIN (As := []) (rest := [.ref q10, .ref o0]) ⟨hx, hb, hml, hown, hts⟩ (n_X2 l dC dI kA adK adV G3 H nC nS q10 hT hg15 (by omega) (by omega)) ⟨va_cnB 0 hts (goodIn_ca (goodIn_r _ [29, 30, 2, 3, 31, 32, 9, 33, 34, 35, 36, 37, 38, 39, 40, 41, 42] rfl (by decide +kernel)) (bs2_in _ _)) rfl rfl rfl (hE.nm 107 rfl) (ht_at2 hts 27 rfl) (by decide +kernel) ⟨(Nat.le_of_ble_eq_true rfl), (Nat.le_of_ble_eq_true rfl)⟩, rfl, (ht_at2 hts 42 rfl)⟩ ⟨fun a U g mk q => by obtain ⟨q0, q1, qK, qE, qA⟩ := q; exact ⟨q0, q1, va_K.moved (u := U) (U := U.calling g mk a) (Vm.Alike.refl U.vm) qK, EVC.blind g mk a qE, AO.blind g mk a qA⟩, fun U hU hW => ⟨rfl, hU, va_K.moved hW.alike hK, hE.call hS hFc hU hW, hAO.call hW⟩⟩ rfl rfl hl.1 rfl (lv_room (Nat.le_of_ble_eq_true rfl)) dX3_init_20 ⟨(Nat.le_of_ble_eq_true rfl), (Nat.le_of_ble_eq_true rfl)⟩) hS (fun q _ h => hFc q h) hFc (fun G4 t H locs ht hvm _ hB _ _ hS => ?_)
  (try dsimp only at hB); rw [ht] at hB; obtain ⟨hT, hg20, hY1, ⟨b16, m17, hg18, m19⟩⟩ := hB
  have hY := hY.call hn_q10 hY1 hz9 (by decide)
  have hG := hY.A hG0 hAo hA
  have m21 := (el_kept (hY1.1 _ _ (gne hg13 hg15 (by decide)) hg13).2).trans m11
  have m22 := (el_kept (hY1.1 _ _ (gne hg13 hg15 (by decide)) hg13).2).trans m12
  have hg23 := (hY1.1 _ _ (gne hg13 hg15 (by decide)) hg13).1
  have hg24 := (hY1.1 _ _ (gne hg14 hg15 (by decide)) hg14).1
  refine tw_putF (v := .ref q10) (ty := (.object "SeaLand$Ground")) hx hb hts bF2_X3 tyX3 tyX3_ok nmX3 hown hK hT hG hS hg23 shc_106 rfl 1 (by decide) (ht_at2 hts 43 rfl) (fun _ h9 => h9) rfl hin rfl (by decide +kernel) rfl rfl (gl_at rfl ⟨some _, rfl, fun _ h => by cases h; exact hg20⟩) dX3_init_23 (fun H locs hT oq m25 oj hS => ?_)
  have hY := hY.put oq
  have m26 := (oj 4 (by decide) (by decide)).trans m21
  have m27 := (oj 0 (by decide) (by decide)).trans m22
  have m28 := (el_kept (oq _ (gne hg20 hg23 (by decide)))).trans m17
  have m29 := m19.kept (oq _ (gne hg18 hg23 (by decide)))
  refine lv_aload_n hx hb dX3_init_26 rfl (lv_at hl 0 rfl) ?_
  refine lv_bipush (v := 30) hx hb dX3_init_27 (by decide) ?_
  have hz9 := hS.1
  refine tw_newq hx hb hown (ht_at2 hts 44 rfl) (hAO _ (by decide)) hK mon_c hT hS hG hA (shc_99) rfl (fun _ _ _ => ⟨none, rfl, fun _ h => by cases h⟩) (by decide) rfl (Nat.le_of_ble_eq_true rfl) (Nat.le_of_ble_eq_true rfl) (Nat.le_of_ble_eq_true rfl) dX3_init_29 (fun q30 G5 H hq9 eG hz1 hz2 hT hx9 hG hm9 hS => ?_)
  have hn_q30 : s.heap.size ≤ q30 := Nat.le_trans hz9 (Nat.le_of_eq hz2)
  have hY := hY.new hn_q30 eG hx9 (by decide)
  have m31 := (el_kept (hx9 _ _ hg23).2).trans m26
  have m32 := (el_kept (hx9 _ _ hg23).2).trans m27
  have m33 := (el_kept (hx9 _ _ hg20).2).trans m28
  have m34 := m29.kept (hx9 _ _ hg18).2
  have m35 := (el_kept (hx9 _ _ hg23).2).trans m25
  have hg36 := (hx9 _ _ hg23).1
  have hg37 := (hx9 _ _ hg24).1
  have hg38 := (hx9 _ _ hg20).1
  have hg39 := (hx9 _ _ hg18).1
  have hg40 : G5 q30 = some 99 := by rw [eG]; exact gU_at
  refine tw_putF (v := .ref q30) (ty := (.array (.object "SeaLand$Work"))) hx hb hts bF2_X3 tyX3 tyX3_ok nmX3 hown hK hT hG hS hg36 shc_106 rfl 2 (by decide) (ht_at2 hts 45 rfl) (fun _ h9 => h9) rfl hin rfl (by decide +kernel) rfl rfl (gl_at rfl ⟨some _, rfl⟩) dX3_init_32 (fun H locs hT oq m41 oj hS => ?_)
  have hY := hY.put oq
  have m42 := (oj 4 (by decide) (by decide)).trans m31
  have m43 := (oj 0 (by decide) (by decide)).trans m32
  have m44 := (el_kept (oq _ (gne hg38 hg36 (by decide)))).trans m33
  have m45 := m34.kept (oq _ (gne hg39 hg36 (by decide)))
  have m46 := (oj 1 (by decide) (by decide)).trans m35
  refine lv_iconst (v := 0) hx hb dX3_init_35 (by decide) ?_
  refine lv_istore_n (lv' := [(1, .int 0), (0, .ref o0)]) hx hb dX3_init_36 rfl hl (by decide) rfl (fun ls hl => ?_)
  have key9 : ∀ (n i : Nat), i + n = 30 → ∀ (G9 : gT) (H : Heap) (locs : List Loc), gH (dC, dI) kA (SHc nC nS) G9 H → gY ([5, 11, 12, 13, 18, 19, 20, 21, 22, 23, 24, 25, 26, 27, 28, 29, 30, 31, 32, 33, 34, 35, 36, 37, 99, 105, 111, 112, 113] : List Nat) 6 o0 G G9 s.heap H → va_S A s.heap H locs → G9 o0 = some 106 → G9 q1 = some 11 → G9 q10 = some 5 → G9 b16 = some 25 → G9 q30 = some 99 → el H o0 (dI 6 4) = some (.int 0) → el H o0 (dI 6 0) = some (.ref q1) → el H q10 (dI 5 0) = some (.ref b16) → ct H b16 96 (fun _ => 0) → el H o0 (dI 6 1) = some (.ref q10) → el H o0 (dI 6 2) = some (.ref q30) → (∀ j, j < i → ∃ b, el H q30 j = some (.ref b) ∧ G9 b = some 13) → ∀ ls : Array Slot, lv_has ls 2 [(1, .int (nI i)), (0, .ref o0)] → W p l e (headSpec w_n_X3 ({ frames := 3, cells := 114, slots := 2146, locals := 86 })).room s m #[.ref o0] below meth c H locs (24 + 3 * i) (1426 + 24 * i) (MQ below (va_Qv (fun (u : gT) => True) (fun (G1 : gT) (t : State) => gH (dC, dI) kA (SHc nC nS) G1 t.heap ∧ G1 o0 = some 6 ∧ gY ([5, 11, 12, 13, 18, 19, 20, 21, 22, 23, 24, 25, 26, 27, 28, 29, 30, 31, 32, 33, 34, 35, 36, 37, 99, 105, 111, 112, 113] : List Nat) 6 o0 G G1 s.heap t.heap ∧ el t.heap o0 (dI 6 4) = some (.int 0) ∧ (∃ a1, el t.heap o0 (dI 6 1) = some (.ref a1) ∧ G1 a1 = some 5 ∧ (∃ a2, el t.heap a1 (dI 5 0) = some (.ref a2) ∧ G1 a2 = some 25 ∧ ct t.heap a2 96 (fun _ => 0)))) A) #[.ref o0] s 114 2146 A) (F0 m 37 ls []) := by
    intro n
    induction n with
    | zero =>
      intro i hn9 G9 H locs hT hY hS hw0 hw1 hw2 hw3 hw4 mw0 mw1 mw2 mw3 mw4 mw5 hall ls hl
      obtain rfl : 30 = i := by omega
      have hG := hY.A hG0 hAo hA
      refine lv_iload_n hx hb dX3_init_37 rfl (lv_at hl 0 rfl) ?_
      refine lv_bipush (v := 30) hx hb dX3_init_38 (by decide) ?_
      refine lv_icmp_ge (tgt := 62) hx hb dX3_init_40 (by decide) (fun c9 => ?_) (fun c9 => (by exfalso; have q9 : ((30 : Nat) : Int) < 30 := ti_nle c9 (by decide) (nI_toInt (by omega)); omega))
      have hT := hT.grown (t := 18) mon_c hw4 (by decide) (by
        have h8 := hT _ _ hw4; rw [shc_99] at h8; rw [shc_18]
        exact gC.grow_arr h8 (fun k v hk hm hv => by obtain ⟨b9, e1, e2⟩ := hall k hk; obtain rfl : v = .ref b9 := Option.some.inj (hm.symm.trans e1); exact ⟨b9, rfl, (gU_ne (gne e2 hw4 (by decide))).trans e2⟩))
      have hY := hY.grow1 (t := 18) hn_q30 (by decide)
      have hg47 := (gU_ne (t := 18) (gne hw0 hw4 (by decide))).trans hw0
      have hg48 := (gU_ne (t := 18) (gne hw1 hw4 (by decide))).trans hw1
      have hg49 := (gU_ne (t := 18) (gne hw2 hw4 (by decide))).trans hw2
      have hg50 := (gU_ne (t := 18) (gne hw3 hw4 (by decide))).trans hw3
      have hgq9 := gU_at (G := G9) (q := q30) (t := 18)
      refine W.widen (k := 114) (n := 2146) (by decide) (by decide) ?_
      have hT := hT.grown (t := 6) mon_c hg47 (by decide) (by
        have h8 := hT _ _ hg47; rw [shc_106] at h8; rw [shc_6]
        refine gC.grow h8 (fun k v hk hm hv => match k, hk, hm, hv with
          | 0, _, hm, hv => gl_at rfl (by obtain rfl : v = .ref q1 := Option.some.inj (hm.symm.trans mw1); exact ⟨_, rfl, (gU_ne (gne hg48 hg47 (by decide))).trans hg48⟩)
          | 1, _, hm, hv => gl_at rfl (by obtain rfl : v = .ref q10 := Option.some.inj (hm.symm.trans mw4); exact ⟨_, rfl, (gU_ne (gne hg49 hg47 (by decide))).trans hg49⟩)
          | 2, _, hm, hv => gl_at rfl (by obtain rfl : v = .ref q30 := Option.some.inj (hm.symm.trans mw5); exact ⟨_, rfl, (gU_ne (gne hgq9 hg47 (by decide))).trans hgq9⟩)
          | 3, _, hm, hv => gl_at rfl (hv _ rfl)
          | 4, _, hm, hv => gl_at rfl (hv _ rfl)
          | k + 5, hk, _, _ => absurd hk (by omega)))
      have hY := hY.grow
      exact W.vret hx hb hr (fun t ht hW => ⟨⟨_, rfl, trivial, by (try dsimp only); rw [ht]; exact ⟨hT, gU_at, hY, mw0, ⟨_, mw4, (gU_ne (gne hg49 hg47 (by decide))).trans hg49, ⟨_, mw2, (gU_ne (gne hg50 hg47 (by decide))).trans hg50, mw3⟩⟩⟩⟩, hS.F ht⟩) hS.2.2 dX3_init_62
    | succ n ih9 =>
      intro i hn9 G9 H locs hT hY hS hw0 hw1 hw2 hw3 hw4 mw0 mw1 mw2 mw3 mw4 mw5 hall ls hl
      have hG := hY.A hG0 hAo hA
      refine lv_iload_n hx hb dX3_init_37 rfl (lv_at hl 0 rfl) ?_
      refine lv_bipush (v := 30) hx hb dX3_init_38 (by decide) ?_
      refine lv_icmp_ge (tgt := 62) hx hb dX3_init_40 (by decide) (fun c9 => (by exfalso; have q9 : 30 ≤ ((i : Nat) : Int) := ti_le c9 (by decide) (nI_toInt (by omega)); omega)) (fun c9 => ?_)
      refine lv_aload_n hx hb dX3_init_43 rfl (lv_at hl 1 rfl) ?_
      refine tw_getM (v := .ref q30) hx hb hts bF2_X3 hown hK hT hw0 shc_106 rfl 2 (by decide) (ht_at2 hts 45 rfl) (fun _ h9 => h9) mw5 dX3_init_44 ?_
      refine lv_iload_n hx hb dX3_init_47 rfl (lv_at hl 0 rfl) ?_
      have hz9 := hS.1
      refine tw_new hx hb hts bF2_X10 tyX10 tyX10_ok hown (ht_at2 hts 44 rfl) (ht_at2 hts 46 rfl) (ht_at2 hts 47 rfl) hK mon_c hT hS hG hA (shc_113) rfl nd_113 (show (24 + 3 * i) + 1 ≤ 114 from by omega) (show (1426 + 24 * i) + 12 ≤ 2146 from by omega) dX3_init_48 (fun q51 G6 H hq9 eG hz1 hz2 hT hx9 hG hm9 hS => ?_)
      have hn_q51 : s.heap.size ≤ q51 := Nat.le_trans hz9 (Nat.le_of_eq hz2)
      have hY := hY.new hn_q51 eG hx9 (by decide)
      have hall : ∀ j, j < i → ∃ b, el H q30 j = some (.ref b) ∧ G6 b = some 13 := fun j hj => by obtain ⟨b9, e1, e2⟩ := hall j hj; exact ⟨b9, (el_kept (hx9 _ _ hw4).2).trans e1, (hx9 _ _ e2).1⟩
      have m52 := (el_kept (hx9 _ _ hw0).2).trans mw0
      have m53 := (el_kept (hx9 _ _ hw0).2).trans mw1
      have m54 := (el_kept (hx9 _ _ hw2).2).trans mw2
      have m55 := mw3.kept (hx9 _ _ hw3).2
      have m56 := (el_kept (hx9 _ _ hw0).2).trans mw4
      have m57 := (el_kept (hx9 _ _ hw0).2).trans mw5
      have hg58 := (hx9 _ _ hw0).1
      have hg59 := (hx9 _ _ hw1).1
      have hg60 := (hx9 _ _ hw2).1
      have hg61 := (hx9 _ _ hw3).1
      have hg62 := (hx9 _ _ hw4).1
      have hg63 : G6 q51 = some 113 := by rw [eG]; exact gU_at
      refine lv_dup hx hb dX3_init_51 rfl ?_
      have hFc := gA_free hG hA hS
      have hz9 := hS.1
      refine va_callv (va_runIN (As := []) (rest := [.ref q51, .int (nI i), .ref q30]) ⟨hx, hb, hml, hown, hts⟩ (n_X10 l dC dI kA adK adV G6 H nC nS q51 hT hg63 (by omega) (by omega)) ⟨va_cnB 0 hts (goodIn_ca (goodIn_r _ [49, 50, 2, 3, 9, 51, 52] rfl (by decide +kernel)) (bs2_in _ _)) rfl rfl rfl (hE.nm 108 rfl) (ht_at2 hts 47 rfl) (by decide +kernel) ⟨(Nat.le_of_ble_eq_true rfl), (Nat.le_of_ble_eq_true rfl)⟩, rfl, (ht_at2 hts 52 rfl)⟩ ⟨fun a U g mk q => by obtain ⟨q0, q1, qK, qE, qA⟩ := q; exact ⟨q0, q1, va_K.moved (u := U) (U := U.calling g mk a) (Vm.Alike.refl U.vm) qK, EVC.blind g mk a qE, AO.blind g mk a qA⟩, fun U hU hW => ⟨rfl, hU, va_K.moved hW.alike hK, hE.call hS hFc hU hW, hAO.call hW⟩⟩ rfl rfl hl.1 rfl (lv_room (Nat.le_of_ble_eq_true rfl)) dX3_init_52 ⟨show (24 + 3 * i) + 1 + 2 ≤ 114 from by omega, show (1426 + 24 * i) + 12 + 12 ≤ 2146 from by omega⟩) hS (fun q _ h => hFc q h) hFc (fun G7 t H locs ht hvm _ hB _ _ hS => ?_)
      (try dsimp only at hB); rw [ht] at hB; obtain ⟨hT, hg64, hY1⟩ := hB
      have hY := hY.call hn_q51 hY1 hz9 (by decide)
      have hG := hY.A hG0 hAo hA
      have hall : ∀ j, j < i → ∃ b, el H q30 j = some (.ref b) ∧ G7 b = some 13 := fun j hj => by obtain ⟨b9, e1, e2⟩ := hall j hj; exact ⟨b9, (el_kept (hY1.1 _ _ (gne hg62 hg63 (by decide)) hg62).2).trans e1, (hY1.1 _ _ (gne e2 hg63 (by decide)) e2).1⟩
      have m65 := (el_kept (hY1.1 _ _ (gne hg58 hg63 (by decide)) hg58).2).trans m52
      have m66 := (el_kept (hY1.1 _ _ (gne hg58 hg63 (by decide)) hg58).2).trans m53
      have m67 := (el_kept (hY1.1 _ _ (gne hg60 hg63 (by decide)) hg60).2).trans m54
      have m68 := m55.kept (hY1.1 _ _ (gne hg61 hg63 (by decide)) hg61).2
      have m69 := (el_kept (hY1.1 _ _ (gne hg58 hg63 (by decide)) hg58).2).trans m56
      have m70 := (el_kept (hY1.1 _ _ (gne hg58 hg63 (by decide)) hg58).2).trans m57
      have hg71 := (hY1.1 _ _ (gne hg58 hg63 (by decide)) hg58).1
      have hg72 := (hY1.1 _ _ (gne hg59 hg63 (by decide)) hg59).1
      have hg73 := (hY1.1 _ _ (gne hg60 hg63 (by decide)) hg60).1
      have hg74 := (hY1.1 _ _ (gne hg61 hg63 (by decide)) hg61).1
      have hg75 := (hY1.1 _ _ (gne hg62 hg63 (by decide)) hg62).1
      refine tw_aast (C := RX10) (i := (nI i)) hx hb hK hT hG hS hg75 shc_99 rfl hg64 shc_13 rfl (vp_in_nI (by omega) (by decide)) ⟨some _, rfl, fun _ h => by cases h; exact hg64⟩ dX3_init_55 (fun H locs hT oq m76 oi hS => ?_)
      rw [show (nI i).toNatClampNeg = i from tn_nI (by omega)] at m76 oi
      have hY := hY.put1 hn_q30 (fun q _ h => oq q h)
      have hall : ∀ j, j < i + 1 → ∃ b, el H q30 j = some (.ref b) ∧ G7 b = some 13 := fun j hj => by
        by_cases e9 : j = i
        · rw [e9]; exact ⟨_, m76, hg64⟩
        · obtain ⟨b9, e1, e2⟩ := hall j (by omega); exact ⟨b9, (oi j e9).trans e1, e2⟩
      have m77 := (el_kept (oq _ (gne hg71 hg75 (by decide)))).trans m65
      have m78 := (el_kept (oq _ (gne hg71 hg75 (by decide)))).trans m66
      have m79 := (el_kept (oq _ (gne hg73 hg75 (by decide)))).trans m67
      have m80 := m68.kept (oq _ (gne hg74 hg75 (by decide)))
      have m81 := (el_kept (oq _ (gne hg71 hg75 (by decide)))).trans m69
      have m82 := (el_kept (oq _ (gne hg71 hg75 (by decide)))).trans m70
      refine lv_iinc (v := nI (i + 1)) (lv' := [(1, .int (nI (i + 1))), (0, .ref o0)]) hx hb dX3_init_56 hl (k := 0) rfl (nI_add i 1) (by decide) rfl (fun ls hl => ?_)
      refine lv_goto (tgt := 37) hx hb dX3_init_59 (by decide) ?_
      exact W.widen (k := 24 + 3 * (i + 1)) (n := 1426 + 24 * (i + 1)) (by omega) (by omega) (ih9 (i + 1) (by omega) _ _ _ hT hY hS hg71 hg72 hg73 hg74 hg75 m77 m78 m79 m80 m81 m82 hall ls (lv_sub hl [0, 1] rfl))
  exact key9 30 0 rfl _ _ _ hT hY hS hg36 hg37 hg38 hg39 hg40 m42 m43 m44 m45 m46 m41 (fun j hj => absurd hj (by omega)) ls hl
def w_n_I3 : List Cond := .code yX3_init cX3_init 2 none :: (HAppend.hAppend (α := List Cond) (β := List Cond) (γ := List Cond) [.methodLink RX3 3 objectInit, .instanceMethod objectInit, .code objectInit ⟨#[0xb1]⟩ 1 none, .classLink RX3 9 RX8, .instantiable RX8 7, .initialized RX8, .code yX8_init cX8_init 1 none, .methodLink RX8 3 objectInit, .arrayClass .int, .fieldLink RX8 9 "SeaLand$Sky" "tides" "[I", .fieldLink RX8 15 "SeaLand$Sky" "stormFrom" "[I", .fieldLink RX8 18 "SeaLand$Sky" "stormTo" "[I", .fieldLink RX8 21 "SeaLand$Sky" "stormMore" "[I", .classLink RX8 24 RX9, .instantiable RX9 3, .initialized RX9, .code yX9_init cX9_init 1 none, .methodLink RX9 3 objectInit, .fieldLink RX9 9 "SeaLand$Tellings" "hours" "[I", .fieldLink RX9 15 "SeaLand$Tellings" "numbers" "[I", .instanceMethod yX9_init, .fieldLink RX8 27 "SeaLand$Sky" "wind" "LSeaLand$Tellings;", .fieldLink RX8 31 "SeaLand$Sky" "rain" "LSeaLand$Tellings;", .instanceMethod yX8_init, .fieldLink RX3 12 "SeaLand$Lake" "sky" "LSeaLand$Sky;", .classLink RX3 18 RX2, .instantiable RX2 15, .initialized RX2, .code yX2_init cX2_init 1 none, .methodLink RX2 3 objectInit, .arrayClass .boolean, .fieldLink RX2 9 "SeaLand$Ground" "isLand" "[Z", .fieldLink RX2 15 "SeaLand$Ground" "height" "[I", .fieldLink RX2 19 "SeaLand$Ground" "soil" "[I", .fieldLink RX2 22 "SeaLand$Ground" "ditch" "[I", .fieldLink RX2 25 "SeaLand$Ground" "water" "[I", .fieldLink RX2 28 "SeaLand$Ground" "salt" "[I", .fieldLink RX2 31 "SeaLand$Ground" "dry" "[I", .fieldLink RX2 34 "SeaLand$Ground" "wet" "[I", .fieldLink RX2 37 "SeaLand$Ground" "ditchTo" "[I", .fieldLink RX2 40 "SeaLand$Ground" "ditchWater" "[I", .fieldLink RX2 43 "SeaLand$Ground" "ditchSalt" "[I", .instanceMethod yX2_init, .fieldLink RX3 21 "SeaLand$Lake" "ground" "LSeaLand$Ground;", .classLink RX3 25 RX10, .fieldLink RX3 27 "SeaLand$Lake" "works" "[LSeaLand$Work;", .instantiable RX10 12, .initialized RX10, .code yX10_init cX10_init 1 none, .methodLink RX10 3 objectInit, .fieldLink RX10 9 "SeaLand$Work" "thick" "[I", .fieldLink RX10 15 "SeaLand$Work" "clay" "[I", .instanceMethod yX10_init] bs2)
set_option maxHeartbeats 4000000 in
set_option maxRecDepth 100000 in
theorem n_I3 (l : Launch) (dC : Nat → ClassId) (dI : Nat → Nat → Nat) (kA : Nat → ClassId) (adK adV : Nat → Nat) (G : gT) (H0 : Heap) (nC nS : Int) (o0 : Nat) (hT : gH (dC, dI) kA (SHc nC nS) G H0) (hr_o0 : G o0 = some 120) (hgC : 0 ≤ nC ∧ nC ≤ 40) (hgS : 0 ≤ nS ∧ nS ≤ 60) : Met l yX3_init w_n_I3 ({ frames := 3, cells := 114, slots := 2146, locals := 86 }) (va_Pc [.ref o0] (fun U => U.heap = H0 ∧ va_K (dC, dI) vwCl (tyl kA) U ∧ EVC adK adV (gA G H0.size) U U.heap ∧ AO U)) (va_Qv (fun (u : gT) => True) (fun (G1 : gT) (t : State) => gH (dC, dI) kA (SHc nC nS) G1 t.heap ∧ G1 o0 = some 90 ∧ gY ([70, 71, 72, 73, 74, 75, 76, 77, 78, 79, 80, 81, 82, 83, 84, 85, 86, 87, 88, 89, 91, 92, 93, 94, 121, 122, 123, 124, 125] : List Nat) 90 o0 G G1 H0 t.heap) (gA G H0.size)) 114 2146 (gA G H0.size) := by
  refine Met.ofW (cc := cX3_init) (maxL := 2) (ret := none) (by decide) rfl ?_
  intro p e s m args below meth c s₁ B hml hv
  obtain ⟨rfl, hH0, hK, hE, hAO⟩ := hv
  have hx := B.exec
  have hb := B.bytes
  have hr := B.returns
  have hts := atoms_spec (ws := w_n_I3) B.pre
  have hown : s.vm.findClass RX3 = some m.cls := findClass_of_methodNamed B.named
  have hlocks := B.notSynchronized
  have hin : meth.name = "<init>" := (name_of_methodNamed B.named B.method).1
  subst hH0
  generalize hAe : gA G s.heap.size = A at hE ⊢
  have hA : ∀ q : Nat, s.heap.size ≤ q → A q := fun q h => by rw [← hAe]; exact Or.inr h
  have hG := gA_of hAe
  have hS : va_S A s.heap s.heap [] := va_S.rf
  have hl := lv_entry ([.ref o0]) (n := 2) (Nat.le_of_ble_eq_true rfl)
  rw [lg_entry_eq]
  generalize (lg_sl ([.ref o0]) ++ List.replicate (2 - (lg_sl ([.ref o0])).length) Slot.unset).toArray = ls at hl ⊢
  have hl : lv_has ls 2 [(0, .ref o0)] := hl
  have hG0 := hG
  have hY : gY ([70, 71, 72, 73, 74, 75, 76, 77, 78, 79, 80, 81, 82, 83, 84, 85, 86, 87, 88, 89, 91, 92, 93, 94, 121, 122, 123, 124, 125] : List Nat) 90 o0 G G s.heap s.heap := gY.rf hT
  have hAo := hG _ _ hr_o0
  refine lv_aload_n hx hb dX3_init_0 rfl (lv_at hl 0 rfl) ?_
  refine W.objInit hx hb hown (ht_at2 hts 0 rfl) (ht_at2 hts 1 rfl) (ht_at2 hts 2 rfl) rfl (by rw [hml]; exact hl.1) rfl dX3_init_1 (Nat.le_of_ble_eq_true rfl) (Nat.le_of_ble_eq_true rfl) ?_
  refine W.eq (g2 := F0 m 4 ls []) rfl ?_
  refine lv_aload_n hx hb dX3_init_4 rfl (lv_at hl 0 rfl) ?_
  have hz9 := hS.1
  refine tw_new hx hb hts bF2_X8 tyX8 tyX8_ok hown (ht_at2 hts 3 rfl) (ht_at2 hts 4 rfl) (ht_at2 hts 5 rfl) hK mon_c hT hS hG hA (shc_121) rfl nd_121 (Nat.le_of_ble_eq_true rfl) (Nat.le_of_ble_eq_true rfl) dX3_init_5 (fun q1 G1 H hq9 eG hz1 hz2 hT hx9 hG hm9 hS => ?_)
  have hn_q1 : s.heap.size ≤ q1 := Nat.le_trans hz9 (Nat.le_of_eq hz2)
  have hY := hY.new hn_q1 eG hx9 (by decide)
  have hg2 := (hx9 _ _ hr_o0).1
  have hg3 : G1 q1 = some 121 := by rw [eG]; exact gU_at
  refine lv_dup hx hb dX3_init_8 rfl ?_
  have hFc := gA_free hG hA hS
  have hz9 := hS.1
  refine va_callv (va_runIN (As := []) (rest := [.ref q1, .ref o0]) ⟨hx, hb, hml, hown, hts⟩ (n_I8 l dC dI kA adK adV G1 H nC nS q1 hT hg3 (by omega) (by omega)) ⟨va_cnB 0 hts (goodIn_ca (goodIn_r _ [7, 8, 2, 3, 9, 10, 11, 12, 13, 14, 15, 16, 17, 18, 19, 20, 21, 22, 23] rfl (by decide +kernel)) (bs2_in _ _)) rfl rfl rfl (hE.nm 106 rfl) (ht_at2 hts 5 rfl) (by decide +kernel) ⟨(Nat.le_of_ble_eq_true rfl), (Nat.le_of_ble_eq_true rfl)⟩, rfl, (ht_at2 hts 23 rfl)⟩ ⟨fun a U g mk q => by obtain ⟨q0, q1, qK, qE, qA⟩ := q; exact ⟨q0, q1, va_K.moved (u := U) (U := U.calling g mk a) (Vm.Alike.refl U.vm) qK, EVC.blind g mk a qE, AO.blind g mk a qA⟩, fun U hU hW => ⟨rfl, hU, va_K.moved hW.alike hK, hE.call hS hFc hU hW, hAO.call hW⟩⟩ rfl rfl hl.1 rfl (lv_room (Nat.le_of_ble_eq_true rfl)) dX3_init_9 ⟨(Nat.le_of_ble_eq_true rfl), (Nat.le_of_ble_eq_true rfl)⟩) hS (fun q _ h => hFc q h) hFc (fun G2 t H locs ht hvm _ hB _ _ hS => ?_)
  (try dsimp only at hB); rw [ht] at hB; obtain ⟨hT, hg4, hY1⟩ := hB
  have hY := hY.call hn_q1 hY1 hz9 (by decide)
  have hG := hY.A hG0 hAo hA
  have hg5 := (hY1.1 _ _ (gne hg2 hg3 (by decide)) hg2).1
  refine tw_putF (v := .ref q1) (ty := (.object "SeaLand$Sky")) hx hb hts bF2_X3 tyX3 tyX3_ok nmX3 hown hK hT hG hS hg5 shc_120 rfl 0 (by decide) (ht_at2 hts 24 rfl) (fun _ h9 => h9) rfl hin rfl (by decide +kernel) rfl rfl (gl_at rfl ⟨some _, rfl, fun _ h => by cases h; exact hg4⟩) dX3_init_12 (fun H locs hT oq m6 oj hS => ?_)
  have hY := hY.put oq
  refine lv_aload_n hx hb dX3_init_15 rfl (lv_at hl 0 rfl) ?_
  have hz9 := hS.1
  refine tw_new hx hb hts bF2_X2 tyX2 tyX2_ok hown (ht_at2 hts 25 rfl) (ht_at2 hts 26 rfl) (ht_at2 hts 27 rfl) hK mon_c hT hS hG hA (shc_123) rfl nd_123 (Nat.le_of_ble_eq_true rfl) (Nat.le_of_ble_eq_true rfl) dX3_init_16 (fun q7 G3 H hq9 eG hz1 hz2 hT hx9 hG hm9 hS => ?_)
  have hn_q7 : s.heap.size ≤ q7 := Nat.le_trans hz9 (Nat.le_of_eq hz2)
  have hY := hY.new hn_q7 eG hx9 (by decide)
  have m8 := (el_kept (hx9 _ _ hg5).2).trans m6
  have hg9 := (hx9 _ _ hg5).1
  have hg10 := (hx9 _ _ hg4).1
  have hg11 : G3 q7 = some 123 := by rw [eG]; exact gU_at
  refine lv_dup hx hb dX3_init_19 rfl ?_
  have hFc := gA_free hG hA hS
  have hz9 := hS.1
  refine va_callv (va_runIN (As := []) (rest := [.ref q7, .ref o0]) ⟨hx, hb, hml, hown, hts⟩ (n_I2 l dC dI kA adK adV G3 H nC nS q7 hT hg11 (by omega) (by omega)) ⟨va_cnB 0 hts (goodIn_ca (goodIn_r _ [29, 30, 2, 3, 31, 32, 9, 33, 34, 35, 36, 37, 38, 39, 40, 41, 42] rfl (by decide +kernel)) (bs2_in _ _)) rfl rfl rfl (hE.nm 107 rfl) (ht_at2 hts 27 rfl) (by decide +kernel) ⟨(Nat.le_of_ble_eq_true rfl), (Nat.le_of_ble_eq_true rfl)⟩, rfl, (ht_at2 hts 42 rfl)⟩ ⟨fun a U g mk q => by obtain ⟨q0, q1, qK, qE, qA⟩ := q; exact ⟨q0, q1, va_K.moved (u := U) (U := U.calling g mk a) (Vm.Alike.refl U.vm) qK, EVC.blind g mk a qE, AO.blind g mk a qA⟩, fun U hU hW => ⟨rfl, hU, va_K.moved hW.alike hK, hE.call hS hFc hU hW, hAO.call hW⟩⟩ rfl rfl hl.1 rfl (lv_room (Nat.le_of_ble_eq_true rfl)) dX3_init_20 ⟨(Nat.le_of_ble_eq_true rfl), (Nat.le_of_ble_eq_true rfl)⟩) hS (fun q _ h => hFc q h) hFc (fun G4 t H locs ht hvm _ hB _ _ hS => ?_)
  (try dsimp only at hB); rw [ht] at hB; obtain ⟨hT, hg12, hY1⟩ := hB
  have hY := hY.call hn_q7 hY1 hz9 (by decide)
  have hG := hY.A hG0 hAo hA
  have m13 := (el_kept (hY1.1 _ _ (gne hg9 hg11 (by decide)) hg9).2).trans m8
  have hg14 := (hY1.1 _ _ (gne hg9 hg11 (by decide)) hg9).1
  have hg15 := (hY1.1 _ _ (gne hg10 hg11 (by decide)) hg10).1
  refine tw_putF (v := .ref q7) (ty := (.object "SeaLand$Ground")) hx hb hts bF2_X3 tyX3 tyX3_ok nmX3 hown hK hT hG hS hg14 shc_120 rfl 1 (by decide) (ht_at2 hts 43 rfl) (fun _ h9 => h9) rfl hin rfl (by decide +kernel) rfl rfl (gl_at rfl ⟨some _, rfl, fun _ h => by cases h; exact hg12⟩) dX3_init_23 (fun H locs hT oq m16 oj hS => ?_)
  have hY := hY.put oq
  have m17 := (oj 0 (by decide) (by decide)).trans m13
  refine lv_aload_n hx hb dX3_init_26 rfl (lv_at hl 0 rfl) ?_
  refine lv_bipush (v := 30) hx hb dX3_init_27 (by decide) ?_
  have hz9 := hS.1
  refine tw_newq hx hb hown (ht_at2 hts 44 rfl) (hAO _ (by decide)) hK mon_c hT hS hG hA (shc_125) rfl (fun _ _ _ => ⟨none, rfl, fun _ h => by cases h⟩) (by decide) rfl (Nat.le_of_ble_eq_true rfl) (Nat.le_of_ble_eq_true rfl) (Nat.le_of_ble_eq_true rfl) dX3_init_29 (fun q18 G5 H hq9 eG hz1 hz2 hT hx9 hG hm9 hS => ?_)
  have hn_q18 : s.heap.size ≤ q18 := Nat.le_trans hz9 (Nat.le_of_eq hz2)
  have hY := hY.new hn_q18 eG hx9 (by decide)
  have m19 := (el_kept (hx9 _ _ hg14).2).trans m17
  have m20 := (el_kept (hx9 _ _ hg14).2).trans m16
  have hg21 := (hx9 _ _ hg14).1
  have hg22 := (hx9 _ _ hg15).1
  have hg23 := (hx9 _ _ hg12).1
  have hg24 : G5 q18 = some 125 := by rw [eG]; exact gU_at
  refine tw_putF (v := .ref q18) (ty := (.array (.object "SeaLand$Work"))) hx hb hts bF2_X3 tyX3 tyX3_ok nmX3 hown hK hT hG hS hg21 shc_120 rfl 2 (by decide) (ht_at2 hts 45 rfl) (fun _ h9 => h9) rfl hin rfl (by decide +kernel) rfl rfl (gl_at rfl ⟨some _, rfl⟩) dX3_init_32 (fun H locs hT oq m25 oj hS => ?_)
  have hY := hY.put oq
  have m26 := (oj 0 (by decide) (by decide)).trans m19
  have m27 := (oj 1 (by decide) (by decide)).trans m20
  refine lv_iconst (v := 0) hx hb dX3_init_35 (by decide) ?_
  refine lv_istore_n (lv' := [(1, .int 0), (0, .ref o0)]) hx hb dX3_init_36 rfl hl (by decide) rfl (fun ls hl => ?_)
  have key9 : ∀ (n i : Nat), i + n = 30 → ∀ (G9 : gT) (H : Heap) (locs : List Loc), gH (dC, dI) kA (SHc nC nS) G9 H → gY ([70, 71, 72, 73, 74, 75, 76, 77, 78, 79, 80, 81, 82, 83, 84, 85, 86, 87, 88, 89, 91, 92, 93, 94, 121, 122, 123, 124, 125] : List Nat) 90 o0 G G9 s.heap H → va_S A s.heap H locs → G9 o0 = some 120 → G9 q1 = some 91 → G9 q7 = some 93 → G9 q18 = some 125 → el H o0 (dI 6 0) = some (.ref q1) → el H o0 (dI 6 1) = some (.ref q7) → el H o0 (dI 6 2) = some (.ref q18) → (∀ j, j < i → ∃ b, el H q18 j = some (.ref b) ∧ G9 b = some 94) → ∀ ls : Array Slot, lv_has ls 2 [(1, .int (nI i)), (0, .ref o0)] → W p l e (headSpec w_n_I3 ({ frames := 3, cells := 114, slots := 2146, locals := 86 })).room s m #[.ref o0] below meth c H locs (24 + 3 * i) (1426 + 24 * i) (MQ below (va_Qv (fun (u : gT) => True) (fun (G1 : gT) (t : State) => gH (dC, dI) kA (SHc nC nS) G1 t.heap ∧ G1 o0 = some 90 ∧ gY ([70, 71, 72, 73, 74, 75, 76, 77, 78, 79, 80, 81, 82, 83, 84, 85, 86, 87, 88, 89, 91, 92, 93, 94, 121, 122, 123, 124, 125] : List Nat) 90 o0 G G1 s.heap t.heap) A) #[.ref o0] s 114 2146 A) (F0 m 37 ls []) := by
    intro n
    induction n with
    | zero =>
      intro i hn9 G9 H locs hT hY hS hw0 hw1 hw2 hw3 mw0 mw1 mw2 hall ls hl
      obtain rfl : 30 = i := by omega
      have hG := hY.A hG0 hAo hA
      refine lv_iload_n hx hb dX3_init_37 rfl (lv_at hl 0 rfl) ?_
      refine lv_bipush (v := 30) hx hb dX3_init_38 (by decide) ?_
      refine lv_icmp_ge (tgt := 62) hx hb dX3_init_40 (by decide) (fun c9 => ?_) (fun c9 => (by exfalso; have q9 : ((30 : Nat) : Int) < 30 := ti_nle c9 (by decide) (nI_toInt (by omega)); omega))
      have hT := hT.grown (t := 70) mon_c hw3 (by decide) (by
        have h8 := hT _ _ hw3; rw [shc_125] at h8; rw [shc_70]
        exact gC.grow_arr h8 (fun k v hk hm hv => by obtain ⟨b9, e1, e2⟩ := hall k hk; obtain rfl : v = .ref b9 := Option.some.inj (hm.symm.trans e1); exact ⟨b9, rfl, (gU_ne (gne e2 hw3 (by decide))).trans e2⟩))
      have hY := hY.grow1 (t := 70) hn_q18 (by decide)
      have hg28 := (gU_ne (t := 70) (gne hw0 hw3 (by decide))).trans hw0
      have hg29 := (gU_ne (t := 70) (gne hw1 hw3 (by decide))).trans hw1
      have hg30 := (gU_ne (t := 70) (gne hw2 hw3 (by decide))).trans hw2
      have hgq9 := gU_at (G := G9) (q := q18) (t := 70)
      refine W.widen (k := 114) (n := 2146) (by decide) (by decide) ?_
      have hT := hT.grown (t := 90) mon_c hg28 (by decide) (by
        have h8 := hT _ _ hg28; rw [shc_120] at h8; rw [shc_90]
        refine gC.growT h8 (fun k v hk hm hv => match k, hk, hm, hv with
          | 0, _, hm, hv => gl_at rfl (by obtain rfl : v = .ref q1 := Option.some.inj (hm.symm.trans mw0); exact ⟨_, rfl, (gU_ne (gne hg29 hg28 (by decide))).trans hg29⟩)
          | 1, _, hm, hv => gl_at rfl (by obtain rfl : v = .ref q7 := Option.some.inj (hm.symm.trans mw1); exact ⟨_, rfl, (gU_ne (gne hg30 hg28 (by decide))).trans hg30⟩)
          | 2, _, hm, hv => gl_at rfl (by obtain rfl : v = .ref q18 := Option.some.inj (hm.symm.trans mw2); exact ⟨_, rfl, (gU_ne (gne hgq9 hg28 (by decide))).trans hgq9⟩)
          | 3, _, hm, hv => gl_at rfl (hv _ rfl)
          | 4, _, hm, hv => gl_at rfl (hv _ rfl)
          | k + 5, hk, _, _ => absurd hk (by omega)))
      have hY := hY.grow
      exact W.vret hx hb hr (fun t ht hW => ⟨⟨_, rfl, trivial, by (try dsimp only); rw [ht]; exact ⟨hT, gU_at, hY⟩⟩, hS.F ht⟩) hS.2.2 dX3_init_62
    | succ n ih9 =>
      intro i hn9 G9 H locs hT hY hS hw0 hw1 hw2 hw3 mw0 mw1 mw2 hall ls hl
      have hG := hY.A hG0 hAo hA
      refine lv_iload_n hx hb dX3_init_37 rfl (lv_at hl 0 rfl) ?_
      refine lv_bipush (v := 30) hx hb dX3_init_38 (by decide) ?_
      refine lv_icmp_ge (tgt := 62) hx hb dX3_init_40 (by decide) (fun c9 => (by exfalso; have q9 : 30 ≤ ((i : Nat) : Int) := ti_le c9 (by decide) (nI_toInt (by omega)); omega)) (fun c9 => ?_)
      refine lv_aload_n hx hb dX3_init_43 rfl (lv_at hl 1 rfl) ?_
      refine tw_getM (v := .ref q18) hx hb hts bF2_X3 hown hK hT hw0 shc_120 rfl 2 (by decide) (ht_at2 hts 45 rfl) (fun _ h9 => h9) mw2 dX3_init_44 ?_
      refine lv_iload_n hx hb dX3_init_47 rfl (lv_at hl 0 rfl) ?_
      have hz9 := hS.1
      refine tw_new hx hb hts bF2_X10 tyX10 tyX10_ok hown (ht_at2 hts 44 rfl) (ht_at2 hts 46 rfl) (ht_at2 hts 47 rfl) hK mon_c hT hS hG hA (shc_124) rfl nd_124 (show (24 + 3 * i) + 1 ≤ 114 from by omega) (show (1426 + 24 * i) + 12 ≤ 2146 from by omega) dX3_init_48 (fun q31 G6 H hq9 eG hz1 hz2 hT hx9 hG hm9 hS => ?_)
      have hn_q31 : s.heap.size ≤ q31 := Nat.le_trans hz9 (Nat.le_of_eq hz2)
      have hY := hY.new hn_q31 eG hx9 (by decide)
      have hall : ∀ j, j < i → ∃ b, el H q18 j = some (.ref b) ∧ G6 b = some 94 := fun j hj => by obtain ⟨b9, e1, e2⟩ := hall j hj; exact ⟨b9, (el_kept (hx9 _ _ hw3).2).trans e1, (hx9 _ _ e2).1⟩
      have m32 := (el_kept (hx9 _ _ hw0).2).trans mw0
      have m33 := (el_kept (hx9 _ _ hw0).2).trans mw1
      have m34 := (el_kept (hx9 _ _ hw0).2).trans mw2
      have hg35 := (hx9 _ _ hw0).1
      have hg36 := (hx9 _ _ hw1).1
      have hg37 := (hx9 _ _ hw2).1
      have hg38 := (hx9 _ _ hw3).1
      have hg39 : G6 q31 = some 124 := by rw [eG]; exact gU_at
      refine lv_dup hx hb dX3_init_51 rfl ?_
      have hFc := gA_free hG hA hS
      have hz9 := hS.1
      refine va_callv (va_runIN (As := []) (rest := [.ref q31, .int (nI i), .ref q18]) ⟨hx, hb, hml, hown, hts⟩ (n_I10 l dC dI kA adK adV G6 H nC nS q31 hT hg39 (by omega) (by omega)) ⟨va_cnB 0 hts (goodIn_ca (goodIn_r _ [49, 50, 2, 3, 9, 51, 52] rfl (by decide +kernel)) (bs2_in _ _)) rfl rfl rfl (hE.nm 108 rfl) (ht_at2 hts 47 rfl) (by decide +kernel) ⟨(Nat.le_of_ble_eq_true rfl), (Nat.le_of_ble_eq_true rfl)⟩, rfl, (ht_at2 hts 52 rfl)⟩ ⟨fun a U g mk q => by obtain ⟨q0, q1, qK, qE, qA⟩ := q; exact ⟨q0, q1, va_K.moved (u := U) (U := U.calling g mk a) (Vm.Alike.refl U.vm) qK, EVC.blind g mk a qE, AO.blind g mk a qA⟩, fun U hU hW => ⟨rfl, hU, va_K.moved hW.alike hK, hE.call hS hFc hU hW, hAO.call hW⟩⟩ rfl rfl hl.1 rfl (lv_room (Nat.le_of_ble_eq_true rfl)) dX3_init_52 ⟨show (24 + 3 * i) + 1 + 2 ≤ 114 from by omega, show (1426 + 24 * i) + 12 + 12 ≤ 2146 from by omega⟩) hS (fun q _ h => hFc q h) hFc (fun G7 t H locs ht hvm _ hB _ _ hS => ?_)
      (try dsimp only at hB); rw [ht] at hB; obtain ⟨hT, hg40, hY1⟩ := hB
      have hY := hY.call hn_q31 hY1 hz9 (by decide)
      have hG := hY.A hG0 hAo hA
      have hall : ∀ j, j < i → ∃ b, el H q18 j = some (.ref b) ∧ G7 b = some 94 := fun j hj => by obtain ⟨b9, e1, e2⟩ := hall j hj; exact ⟨b9, (el_kept (hY1.1 _ _ (gne hg38 hg39 (by decide)) hg38).2).trans e1, (hY1.1 _ _ (gne e2 hg39 (by decide)) e2).1⟩
      have m41 := (el_kept (hY1.1 _ _ (gne hg35 hg39 (by decide)) hg35).2).trans m32
      have m42 := (el_kept (hY1.1 _ _ (gne hg35 hg39 (by decide)) hg35).2).trans m33
      have m43 := (el_kept (hY1.1 _ _ (gne hg35 hg39 (by decide)) hg35).2).trans m34
      have hg44 := (hY1.1 _ _ (gne hg35 hg39 (by decide)) hg35).1
      have hg45 := (hY1.1 _ _ (gne hg36 hg39 (by decide)) hg36).1
      have hg46 := (hY1.1 _ _ (gne hg37 hg39 (by decide)) hg37).1
      have hg47 := (hY1.1 _ _ (gne hg38 hg39 (by decide)) hg38).1
      refine tw_aast (C := RX10) (i := (nI i)) hx hb hK hT hG hS hg47 shc_125 rfl hg40 shc_94 rfl (vp_in_nI (by omega) (by decide)) ⟨some _, rfl, fun _ h => by cases h; exact hg40⟩ dX3_init_55 (fun H locs hT oq m48 oi hS => ?_)
      rw [show (nI i).toNatClampNeg = i from tn_nI (by omega)] at m48 oi
      have hY := hY.put1 hn_q18 (fun q _ h => oq q h)
      have hall : ∀ j, j < i + 1 → ∃ b, el H q18 j = some (.ref b) ∧ G7 b = some 94 := fun j hj => by
        by_cases e9 : j = i
        · rw [e9]; exact ⟨_, m48, hg40⟩
        · obtain ⟨b9, e1, e2⟩ := hall j (by omega); exact ⟨b9, (oi j e9).trans e1, e2⟩
      have m49 := (el_kept (oq _ (gne hg44 hg47 (by decide)))).trans m41
      have m50 := (el_kept (oq _ (gne hg44 hg47 (by decide)))).trans m42
      have m51 := (el_kept (oq _ (gne hg44 hg47 (by decide)))).trans m43
      refine lv_iinc (v := nI (i + 1)) (lv' := [(1, .int (nI (i + 1))), (0, .ref o0)]) hx hb dX3_init_56 hl (k := 0) rfl (nI_add i 1) (by decide) rfl (fun ls hl => ?_)
      refine lv_goto (tgt := 37) hx hb dX3_init_59 (by decide) ?_
      exact W.widen (k := 24 + 3 * (i + 1)) (n := 1426 + 24 * (i + 1)) (by omega) (by omega) (ih9 (i + 1) (by omega) _ _ _ hT hY hS hg44 hg45 hg46 hg47 m49 m50 m51 hall ls (lv_sub hl [0, 1] rfl))
  exact key9 30 0 rfl _ _ _ hT hY hS hg21 hg22 hg23 hg24 m26 m27 m25 (fun j hj => absurd hj (by omega)) ls hl
def w_n_X11 : List Cond := .code yX11_init cX11_init 1 none :: (HAppend.hAppend (α := List Cond) (β := List Cond) (γ := List Cond) [.methodLink RX11 1 objectInit, .instanceMethod objectInit, .code objectInit ⟨#[0xb1]⟩ 1 none, .arrayClass .int, .fieldLink RX11 9 "SeaLand" "tape" "[I", .classLink RX11 13 RX3, .instantiable RX3 5, .initialized RX3, .code yX3_init cX3_init 2 none, .methodLink RX3 3 objectInit, .classLink RX3 9 RX8, .instantiable RX8 7, .initialized RX8, .code yX8_init cX8_init 1 none, .methodLink RX8 3 objectInit, .fieldLink RX8 9 "SeaLand$Sky" "tides" "[I", .fieldLink RX8 15 "SeaLand$Sky" "stormFrom" "[I", .fieldLink RX8 18 "SeaLand$Sky" "stormTo" "[I", .fieldLink RX8 21 "SeaLand$Sky" "stormMore" "[I", .classLink RX8 24 RX9, .instantiable RX9 3, .initialized RX9, .code yX9_init cX9_init 1 none, .methodLink RX9 3 objectInit, .fieldLink RX9 9 "SeaLand$Tellings" "hours" "[I", .fieldLink RX9 15 "SeaLand$Tellings" "numbers" "[I", .instanceMethod yX9_init, .fieldLink RX8 27 "SeaLand$Sky" "wind" "LSeaLand$Tellings;", .fieldLink RX8 31 "SeaLand$Sky" "rain" "LSeaLand$Tellings;", .instanceMethod yX8_init, .fieldLink RX3 12 "SeaLand$Lake" "sky" "LSeaLand$Sky;", .classLink RX3 18 RX2, .instantiable RX2 15, .initialized RX2, .code yX2_init cX2_init 1 none, .methodLink RX2 3 objectInit, .arrayClass .boolean, .fieldLink RX2 9 "SeaLand$Ground" "isLand" "[Z", .fieldLink RX2 15 "SeaLand$Ground" "height" "[I", .fieldLink RX2 19 "SeaLand$Ground" "soil" "[I", .fieldLink RX2 22 "SeaLand$Ground" "ditch" "[I", .fieldLink RX2 25 "SeaLand$Ground" "water" "[I", .fieldLink RX2 28 "SeaLand$Ground" "salt" "[I", .fieldLink RX2 31 "SeaLand$Ground" "dry" "[I", .fieldLink RX2 34 "SeaLand$Ground" "wet" "[I", .fieldLink RX2 37 "SeaLand$Ground" "ditchTo" "[I", .fieldLink RX2 40 "SeaLand$Ground" "ditchWater" "[I", .fieldLink RX2 43 "SeaLand$Ground" "ditchSalt" "[I", .instanceMethod yX2_init, .fieldLink RX3 21 "SeaLand$Lake" "ground" "LSeaLand$Ground;", .classLink RX3 25 RX10, .fieldLink RX3 27 "SeaLand$Lake" "works" "[LSeaLand$Work;", .instantiable RX10 12, .initialized RX10, .code yX10_init cX10_init 1 none, .methodLink RX10 3 objectInit, .fieldLink RX10 9 "SeaLand$Work" "thick" "[I", .fieldLink RX10 15 "SeaLand$Work" "clay" "[I", .instanceMethod yX10_init, .methodLink RX11 15 yX3_init, .instanceMethod yX3_init, .fieldLink RX11 16 "SeaLand" "lake" "LSeaLand$Lake;", .classLink RX11 20 RX6, .instantiable RX6 4, .initialized RX6, .code yX6_init cX6_init 1 none, .methodLink RX6 3 objectInit, .fieldLink RX6 9 "SeaLand$Rows" "shown" "[I", .fieldLink RX6 15 "SeaLand$Rows" "proof" "[I", .instanceMethod yX6_init, .fieldLink RX11 23 "SeaLand" "rows" "LSeaLand$Rows;", .classLink RX11 27 RX0, .instantiable RX0 18, .initialized RX0, .code yX0_init cX0_init 1 none, .methodLink RX0 3 objectInit, .classLink RX0 9 RX7, .fieldLink RX0 11 "SeaLand$Board" "settlers" "[LSeaLand$Settler;", .fieldLink RX0 17 "SeaLand$Board" "farmOf" "[I", .fieldLink RX0 21 "SeaLand$Board" "crops" "[I", .fieldLink RX0 24 "SeaLand$Board" "held" "[Z", .fieldLink RX0 28 "SeaLand$Board" "harvested" "[Z", .arrayClass .long, .fieldLink RX0 33 "SeaLand$Board" "facts" "[J", .fieldLink RX0 37 "SeaLand$Board" "marks" "[I", .classLink RX0 31 RX4, .instantiable RX4 14, .initialized RX4, .code yX4_init cX4_init 1 none, .methodLink RX4 5 objectInit, .fieldLink RX4 11 "SeaLand$Law" "things" "[I", .fieldLink RX4 15 "SeaLand$Law" "begins" "[I", .fieldLink RX4 18 "SeaLand$Law" "kinds" "[I", .fieldLink RX4 21 "SeaLand$Law" "firsts" "[I", .fieldLink RX4 24 "SeaLand$Law" "seconds" "[I", .fieldLink RX4 27 "SeaLand$Law" "froms" "[I", .fieldLink RX4 30 "SeaLand$Law" "tos" "[I", .fieldLink RX4 33 "SeaLand$Law" "stepFrom" "[I", .fieldLink RX4 36 "SeaLand$Law" "stepTo" "[I", .fieldLink RX4 39 "SeaLand$Law" "steps" "[I", .fieldLink RX4 42 "SeaLand$Law" "stack" "[J", .instanceMethod yX4_init, .fieldLink RX0 41 "SeaLand$Board" "force" "LSeaLand$Law;", .fieldLink RX0 45 "SeaLand$Board" "proposed" "LSeaLand$Law;", .fieldLink RX0 48 "SeaLand$Board" "spare" "LSeaLand$Law;", .fieldLink RX0 51 "SeaLand$Board" "fault" "I", .code yJ7_fill_53178 cJ7_fill_53178 4 none, .methodLink RX0 55 yJ7_fill_53178, .static yJ7_fill_53178, .initialized RJ7, .methodLink RX11 29 yX0_init, .instanceMethod yX0_init, .fieldLink RX11 30 "SeaLand" "board" "LSeaLand$Board;", .classLink RX11 34 RX1, .fieldLink RX11 36 "SeaLand" "contracts" "[LSeaLand$Contract;", .classLink RX11 40 RX5, .instantiable RX5 17, .initialized RX5, .code yX5_init cX5_init 1 none, .methodLink RX5 5 objectInit, .fieldLink RX5 13 "SeaLand$Plans" "liftOf" "[I", .fieldLink RX5 17 "SeaLand$Plans" "leastNow" "[I", .fieldLink RX5 20 "SeaLand$Plans" "leastThen" "[I", .fieldLink RX5 23 "SeaLand$Plans" "fields" "[I", .fieldLink RX5 26 "SeaLand$Plans" "fieldLevels" "[I", .fieldLink RX5 29 "SeaLand$Plans" "costs" "[I", .fieldLink RX5 32 "SeaLand$Plans" "lasts" "[I", .fieldLink RX5 35 "SeaLand$Plans" "incomes" "[I", .fieldLink RX5 38 "SeaLand$Plans" "acres" "[I", .fieldLink RX5 41 "SeaLand$Plans" "placed" "[Z", .fieldLink RX5 45 "SeaLand$Plans" "trial" "[I", .fieldLink RX5 48 "SeaLand$Plans" "best" "[I", .instanceMethod yX5_init, .fieldLink RX11 43 "SeaLand" "plans" "LSeaLand$Plans;"] bs2)
set_option maxHeartbeats 4000000 in
set_option maxRecDepth 100000 in
theorem n_X11 (l : Launch) (dC : Nat → ClassId) (dI : Nat → Nat → Nat) (kA : Nat → ClassId) (adK adV : Nat → Nat) (G : gT) (H0 : Heap)  (o0 : Nat) (hT : gH (dC, dI) kA (SHc 0 0) G H0) (hr_o0 : G o0 = some 114) (hm_6 : el H0 o0 (dI 14 6) = some (.null)) (hm_7 : el H0 o0 (dI 14 7) = some (.int 0)) : Met l yX11_init w_n_X11 ({ frames := 4, cells := 177, slots := 11966, locals := 115 }) (va_Pc [.ref o0] (fun U => U.heap = H0 ∧ va_K (dC, dI) vwCl (tyl kA) U ∧ EVC adK adV (gA G H0.size) U U.heap ∧ AO U)) (va_Qv (fun (u : gT) => True) (fun (G1 : gT) (t : State) => gH (dC, dI) kA (SHc 0 0) G1 t.heap ∧ G1 o0 = some 14 ∧ gY ([3, 5, 6, 7, 8, 9, 11, 12, 13, 16, 17, 18, 19, 20, 21, 22, 23, 24, 25, 26, 27, 28, 29, 30, 31, 32, 33, 34, 35, 36, 37, 38, 39, 40, 41, 42, 43, 44, 45, 46, 47, 48, 49, 50, 51, 52, 53, 54, 55, 56, 57, 58, 59, 60, 61, 62, 63, 64, 65, 66, 67, 68, 69, 99, 103, 105, 106, 107, 108, 109, 111, 112, 113, 140, 141, 142, 143, 144, 145, 146, 147, 148, 149, 150, 151, 152, 153, 154, 155, 156, 157, 158, 159, 160, 161, 162, 163, 164, 165] : List Nat) 14 o0 G G1 H0 t.heap ∧ (∃ w, ∀ b, G1 b = some 3 → G b = some 3 ∨ b = w) ∧ (∃ w, ∀ b, G1 b = some 51 → G b = some 51 ∨ b = w) ∧ (∃ w, ∀ b, G1 b = some 17 → G b = some 17 ∨ b = w) ∧ (∃ a1, el t.heap o0 (dI 14 1) = some (.ref a1) ∧ G1 a1 = some 6 ∧ el t.heap a1 (dI 6 4) = some (.int 0) ∧ (∃ a2, el t.heap a1 (dI 6 1) = some (.ref a2) ∧ G1 a2 = some 5 ∧ (∃ a3, el t.heap a2 (dI 5 0) = some (.ref a3) ∧ G1 a3 = some 25 ∧ ct t.heap a3 96 (fun _ => 0)))) ∧ (∃ a1, el t.heap o0 (dI 14 3) = some (.ref a1) ∧ G1 a1 = some 3 ∧ el t.heap a1 (dI 3 16) = some (.int 0) ∧ (∃ a2, el t.heap a1 (dI 3 1) = some (.ref a2) ∧ G1 a2 = some 52 ∧ ct t.heap a2 96 (fun _ => (-1))) ∧ (∃ a2, el t.heap a1 (dI 3 2) = some (.ref a2) ∧ G1 a2 = some 53 ∧ ct t.heap a2 30 (fun _ => 0)) ∧ (∃ a2, el t.heap a1 (dI 3 3) = some (.ref a2) ∧ G1 a2 = some 54 ∧ ct t.heap a2 30 (fun _ => 0)) ∧ el t.heap a1 (dI 3 15) = some (.int 0) ∧ el t.heap a1 (dI 3 10) = some (.int (-1)) ∧ el t.heap a1 (dI 3 11) = some (.int 0) ∧ el t.heap a1 (dI 3 12) = some (.long 0) ∧ el t.heap a1 (dI 3 13) = some (.long 0) ∧ (∃ a2, el t.heap a1 (dI 3 7) = some (.ref a2) ∧ G1 a2 = some 7 ∧ el t.heap a2 (dI 7 11) = some (.int 0))) ∧ el t.heap o0 (dI 14 6) = some .null ∧ el t.heap o0 (dI 14 7) = some (.int 0) ∧ (∃ a1, el t.heap o0 (dI 14 0) = some (.ref a1) ∧ G1 a1 = some 16 ∧ ct t.heap a1 400 (fun _ => 0))) (gA G H0.size)) 177 11966 (gA G H0.size) := by
  refine Met.ofW (cc := cX11_init) (maxL := 1) (ret := none) (by decide) rfl ?_
  intro p e s m args below meth c s₁ B hml hv
  obtain ⟨rfl, hH0, hK, hE, hAO⟩ := hv
  have hx := B.exec
  have hb := B.bytes
  have hr := B.returns
  have hts := atoms_spec (ws := w_n_X11) B.pre
  have hown : s.vm.findClass RX11 = some m.cls := findClass_of_methodNamed B.named
  have hlocks := B.notSynchronized
  have hin : meth.name = "<init>" := (name_of_methodNamed B.named B.method).1
  subst hH0
  generalize hAe : gA G s.heap.size = A at hE ⊢
  have hA : ∀ q : Nat, s.heap.size ≤ q → A q := fun q h => by rw [← hAe]; exact Or.inr h
  have hG := gA_of hAe
  have hS : va_S A s.heap s.heap [] := va_S.rf
  have hl := lv_entry ([.ref o0]) (n := 1) (Nat.le_of_ble_eq_true rfl)
  rw [lg_entry_eq]
  generalize (lg_sl ([.ref o0]) ++ List.replicate (1 - (lg_sl ([.ref o0])).length) Slot.unset).toArray = ls at hl ⊢
  have hl : lv_has ls 1 [(0, .ref o0)] := hl
  have hG0 := hG
  have hY : gY ([3, 5, 6, 7, 8, 9, 11, 12, 13, 16, 17, 18, 19, 20, 21, 22, 23, 24, 25, 26, 27, 28, 29, 30, 31, 32, 33, 34, 35, 36, 37, 38, 39, 40, 41, 42, 43, 44, 45, 46, 47, 48, 49, 50, 51, 52, 53, 54, 55, 56, 57, 58, 59, 60, 61, 62, 63, 64, 65, 66, 67, 68, 69, 99, 103, 105, 106, 107, 108, 109, 111, 112, 113, 140, 141, 142, 143, 144, 145, 146, 147, 148, 149, 150, 151, 152, 153, 154, 155, 156, 157, 158, 159, 160, 161, 162, 163, 164, 165] : List Nat) 14 o0 G G s.heap s.heap := gY.rf hT
  have hU_3 : ∀ b, G b = some 3 → G b = some 3 := fun _ h => h
  have hU_51 : ∀ b, G b = some 51 → G b = some 51 := fun _ h => h
  have hU_17 : ∀ b, G b = some 17 → G b = some 17 := fun _ h => h
  have hAo := hG _ _ hr_o0
  refine lv_aload_n hx hb dX11_init_0 rfl (lv_at hl 0 rfl) ?_
  refine W.objInit hx hb hown (ht_at2 hts 0 rfl) (ht_at2 hts 1 rfl) (ht_at2 hts 2 rfl) rfl (by rw [hml]; exact hl.1) rfl dX11_init_1 (Nat.le_of_ble_eq_true rfl) (Nat.le_of_ble_eq_true rfl) ?_
  refine W.eq (g2 := F0 m 4 ls []) rfl ?_
  refine lv_aload_n hx hb dX11_init_4 rfl (lv_at hl 0 rfl) ?_
  refine lv_sipush (v := 400) hx hb dX11_init_5 (by decide) ?_
  have hz9 := hS.1
  refine tw_newa (ty := .int) hx hb (ht_at2 hts 3 rfl) rfl hK mon_c hT hS hG hA (shc_16) rfl (fun _ _ _ => ⟨0, rfl, by decide, by decide⟩) (by decide) rfl (Nat.le_of_ble_eq_true rfl) (Nat.le_of_ble_eq_true rfl) (Nat.le_of_ble_eq_true rfl) dX11_init_8 (fun q1 G1 H hq9 eG hz1 hz2 hT hx9 hG hm9 hS => ?_)
  have hn_q1 : s.heap.size ≤ q1 := Nat.le_trans hz9 (Nat.le_of_eq hz2)
  have hY := hY.new hn_q1 eG hx9 (by decide)
  have hU_3 := gT_new hU_3 eG (by decide)
  have hU_51 := gT_new hU_51 eG (by decide)
  have hU_17 := gT_new hU_17 eG (by decide)
  have m2 := (el_kept (hx9 _ _ hr_o0).2).trans hm_6
  have m3 := (el_kept (hx9 _ _ hr_o0).2).trans hm_7
  have hg4 := (hx9 _ _ hr_o0).1
  have hg5 : G1 q1 = some 16 := by rw [eG]; exact gU_at
  have m6 : ct H q1 400 (fun _ => 0) := fun i9 h9 => hm9 i9 h9
  refine tw_putF (v := .ref q1) (ty := (.array .int)) hx hb hts bF2_X11 tyX11 tyX11_ok nmX11 hown hK hT hG hS hg4 shc_114 rfl 0 (by decide) (ht_at2 hts 4 rfl) (fun _ h9 => h9) rfl hin rfl (by decide +kernel) rfl rfl (gl_at rfl ⟨some _, rfl, fun _ h => by cases h; exact hg5⟩) dX11_init_10 (fun H locs hT oq m7 oj hS => ?_)
  have hY := hY.put oq
  have m8 := (oj 6 (by decide) (by decide)).trans m2
  have m9 := (oj 7 (by decide) (by decide)).trans m3
  have m10 := m6.kept (oq _ (gne hg5 hg4 (by decide)))
  refine lv_aload_n hx hb dX11_init_13 rfl (lv_at hl 0 rfl) ?_
  have hz9 := hS.1
  refine tw_new hx hb hts bF2_X3 tyX3 tyX3_ok hown (ht_at2 hts 5 rfl) (ht_at2 hts 6 rfl) (ht_at2 hts 7 rfl) hK mon_c hT hS hG hA (shc_106) rfl nd_106 (Nat.le_of_ble_eq_true rfl) (Nat.le_of_ble_eq_true rfl) dX11_init_14 (fun q11 G2 H hq9 eG hz1 hz2 hT hx9 hG hm9 hS => ?_)
  have hn_q11 : s.heap.size ≤ q11 := Nat.le_trans hz9 (Nat.le_of_eq hz2)
  have hY := hY.new hn_q11 eG hx9 (by decide)
  have hU_3 := gT_new hU_3 eG (by decide)
  have hU_51 := gT_new hU_51 eG (by decide)
  have hU_17 := gT_new hU_17 eG (by decide)
  have m12 := (el_kept (hx9 _ _ hg4).2).trans m8
  have m13 := (el_kept (hx9 _ _ hg4).2).trans m9
  have m14 := m10.kept (hx9 _ _ hg5).2
  have m15 := (el_kept (hx9 _ _ hg4).2).trans m7
  have hg16 := (hx9 _ _ hg4).1
  have hg17 := (hx9 _ _ hg5).1
  have hg18 : G2 q11 = some 106 := by rw [eG]; exact gU_at
  have m19 : el H q11 (dI 6 4) = some (.int 0) := hm9 4 (by decide)
  refine lv_dup hx hb dX11_init_17 rfl ?_
  have hFc := gA_free hG hA hS
  have hz9 := hS.1
  refine va_callv (va_runI (As := []) (rest := [.ref q11, .ref o0]) ⟨hx, hb, hml, hown, hts⟩ (n_X3 l dC dI kA adK adV G2 H 0 0 q11 hT hg18 m19 (by omega) (by omega)) (cwI 0 hts (goodIn_ca (goodIn_r _ [9, 10, 2, 3, 11, 12, 13, 14, 15, 4, 16, 17, 18, 19, 20, 21, 22, 23, 24, 25, 26, 27, 28, 29, 30, 31, 32, 33, 34, 35, 36, 37, 38, 39, 40, 41, 42, 43, 44, 45, 46, 47, 48, 49, 50, 51, 52, 53, 54, 55, 56, 57, 58, 59] rfl (by decide +kernel)) (bs2_in _ _)) rfl rfl rfl (ht_at2 hts 7 rfl) (ht_at2 hts 59 rfl) (ht_at2 hts 60 rfl) rfl (by decide +kernel) ⟨(Nat.le_of_ble_eq_true rfl), (Nat.le_of_ble_eq_true rfl)⟩) ⟨fun a U g mk q => by obtain ⟨q0, q1, qK, qE, qA⟩ := q; exact ⟨q0, q1, va_K.moved (u := U) (U := U.calling g mk a) (Vm.Alike.refl U.vm) qK, EVC.blind g mk a qE, AO.blind g mk a qA⟩, fun U hU hW => ⟨rfl, hU, va_K.moved hW.alike hK, hE.call hS hFc hU hW, hAO.call hW⟩⟩ rfl rfl hl.1 rfl (lv_room (Nat.le_of_ble_eq_true rfl)) dX11_init_18 ⟨(Nat.le_of_ble_eq_true rfl), (Nat.le_of_ble_eq_true rfl)⟩) hS (fun q _ h => hFc q h) hFc (fun G3 t H locs ht hvm _ hB _ _ hS => ?_)
  (try dsimp only at hB); rw [ht] at hB; obtain ⟨hT, hg28, hY1, m20, ⟨b21, m22, hg23, ⟨b24, m25, hg26, m27⟩⟩⟩ := hB
  have hY := hY.call hn_q11 hY1 hz9 (by decide)
  have hG := hY.A hG0 hAo hA
  have hU_3 := gT_call hU_3 hY1 (by decide)
  have hU_51 := gT_call hU_51 hY1 (by decide)
  have hU_17 := gT_call hU_17 hY1 (by decide)
  have m29 := (el_kept (hY1.1 _ _ (gne hg16 hg18 (by decide)) hg16).2).trans m12
  have m30 := (el_kept (hY1.1 _ _ (gne hg16 hg18 (by decide)) hg16).2).trans m13
  have m31 := m14.kept (hY1.1 _ _ (gne hg17 hg18 (by decide)) hg17).2
  have m32 := (el_kept (hY1.1 _ _ (gne hg16 hg18 (by decide)) hg16).2).trans m15
  have hg33 := (hY1.1 _ _ (gne hg16 hg18 (by decide)) hg16).1
  have hg34 := (hY1.1 _ _ (gne hg17 hg18 (by decide)) hg17).1
  refine tw_putF (v := .ref q11) (ty := (.object "SeaLand$Lake")) hx hb hts bF2_X11 tyX11 tyX11_ok nmX11 hown hK hT hG hS hg33 shc_114 rfl 1 (by decide) (ht_at2 hts 61 rfl) (fun _ h9 => h9) rfl hin rfl (by decide +kernel) rfl rfl (gl_at rfl ⟨some _, rfl, fun _ h => by cases h; exact hg28⟩) dX11_init_21 (fun H locs hT oq m35 oj hS => ?_)
  have hY := hY.put oq
  have m36 := (oj 6 (by decide) (by decide)).trans m29
  have m37 := (oj 7 (by decide) (by decide)).trans m30
  have m38 := m31.kept (oq _ (gne hg34 hg33 (by decide)))
  have m39 := (oj 0 (by decide) (by decide)).trans m32
  have m40 := (el_kept (oq _ (gne hg28 hg33 (by decide)))).trans m20
  have m41 := (el_kept (oq _ (gne hg28 hg33 (by decide)))).trans m22
  have m42 := (el_kept (oq _ (gne hg23 hg33 (by decide)))).trans m25
  have m43 := m27.kept (oq _ (gne hg26 hg33 (by decide)))
  refine lv_aload_n hx hb dX11_init_24 rfl (lv_at hl 0 rfl) ?_
  have hz9 := hS.1
  refine tw_new hx hb hts bF2_X6 tyX6 tyX6_ok hown (ht_at2 hts 62 rfl) (ht_at2 hts 63 rfl) (ht_at2 hts 64 rfl) hK mon_c hT hS hG hA (shc_109) rfl nd_109 (Nat.le_of_ble_eq_true rfl) (Nat.le_of_ble_eq_true rfl) dX11_init_25 (fun q44 G4 H hq9 eG hz1 hz2 hT hx9 hG hm9 hS => ?_)
  have hn_q44 : s.heap.size ≤ q44 := Nat.le_trans hz9 (Nat.le_of_eq hz2)
  have hY := hY.new hn_q44 eG hx9 (by decide)
  have hU_3 := gT_new hU_3 eG (by decide)
  have hU_51 := gT_new hU_51 eG (by decide)
  have hU_17 := gT_new hU_17 eG (by decide)
  have m45 := (el_kept (hx9 _ _ hg33).2).trans m36
  have m46 := (el_kept (hx9 _ _ hg33).2).trans m37
  have m47 := m38.kept (hx9 _ _ hg34).2
  have m48 := (el_kept (hx9 _ _ hg33).2).trans m39
  have m49 := (el_kept (hx9 _ _ hg28).2).trans m40
  have m50 := (el_kept (hx9 _ _ hg28).2).trans m41
  have m51 := (el_kept (hx9 _ _ hg23).2).trans m42
  have m52 := m43.kept (hx9 _ _ hg26).2
  have m53 := (el_kept (hx9 _ _ hg33).2).trans m35
  have hg54 := (hx9 _ _ hg33).1
  have hg55 := (hx9 _ _ hg34).1
  have hg56 := (hx9 _ _ hg28).1
  have hg57 := (hx9 _ _ hg23).1
  have hg58 := (hx9 _ _ hg26).1
  have hg59 : G4 q44 = some 109 := by rw [eG]; exact gU_at
  refine lv_dup hx hb dX11_init_28 rfl ?_
  have hFc := gA_free hG hA hS
  have hz9 := hS.1
  refine va_callv (va_runIN (As := []) (rest := [.ref q44, .ref o0]) ⟨hx, hb, hml, hown, hts⟩ (n_X6 l dC dI kA adK adV G4 H 0 0 q44 hT hg59 (by omega) (by omega)) ⟨va_cnB 0 hts (goodIn_ca (goodIn_r _ [66, 67, 2, 3, 4, 68, 69] rfl (by decide +kernel)) (bs2_in _ _)) rfl rfl rfl (hE.nm 102 rfl) (ht_at2 hts 64 rfl) (by decide +kernel) ⟨(Nat.le_of_ble_eq_true rfl), (Nat.le_of_ble_eq_true rfl)⟩, rfl, (ht_at2 hts 69 rfl)⟩ ⟨fun a U g mk q => by obtain ⟨q0, q1, qK, qE, qA⟩ := q; exact ⟨q0, q1, va_K.moved (u := U) (U := U.calling g mk a) (Vm.Alike.refl U.vm) qK, EVC.blind g mk a qE, AO.blind g mk a qA⟩, fun U hU hW => ⟨rfl, hU, va_K.moved hW.alike hK, hE.call hS hFc hU hW, hAO.call hW⟩⟩ rfl rfl hl.1 rfl (lv_room (Nat.le_of_ble_eq_true rfl)) dX11_init_29 ⟨(Nat.le_of_ble_eq_true rfl), (Nat.le_of_ble_eq_true rfl)⟩) hS (fun q _ h => hFc q h) hFc (fun G5 t H locs ht hvm _ hB _ _ hS => ?_)
  (try dsimp only at hB); rw [ht] at hB; obtain ⟨hT, hg60, hY1⟩ := hB
  have hY := hY.call hn_q44 hY1 hz9 (by decide)
  have hG := hY.A hG0 hAo hA
  have hU_3 := gT_call hU_3 hY1 (by decide)
  have hU_51 := gT_call hU_51 hY1 (by decide)
  have hU_17 := gT_call hU_17 hY1 (by decide)
  have m61 := (el_kept (hY1.1 _ _ (gne hg54 hg59 (by decide)) hg54).2).trans m45
  have m62 := (el_kept (hY1.1 _ _ (gne hg54 hg59 (by decide)) hg54).2).trans m46
  have m63 := m47.kept (hY1.1 _ _ (gne hg55 hg59 (by decide)) hg55).2
  have m64 := (el_kept (hY1.1 _ _ (gne hg54 hg59 (by decide)) hg54).2).trans m48
  have m65 := (el_kept (hY1.1 _ _ (gne hg56 hg59 (by decide)) hg56).2).trans m49
  have m66 := (el_kept (hY1.1 _ _ (gne hg56 hg59 (by decide)) hg56).2).trans m50
  have m67 := (el_kept (hY1.1 _ _ (gne hg57 hg59 (by decide)) hg57).2).trans m51
  have m68 := m52.kept (hY1.1 _ _ (gne hg58 hg59 (by decide)) hg58).2
  have m69 := (el_kept (hY1.1 _ _ (gne hg54 hg59 (by decide)) hg54).2).trans m53
  have hg70 := (hY1.1 _ _ (gne hg54 hg59 (by decide)) hg54).1
  have hg71 := (hY1.1 _ _ (gne hg55 hg59 (by decide)) hg55).1
  have hg72 := (hY1.1 _ _ (gne hg56 hg59 (by decide)) hg56).1
  have hg73 := (hY1.1 _ _ (gne hg57 hg59 (by decide)) hg57).1
  have hg74 := (hY1.1 _ _ (gne hg58 hg59 (by decide)) hg58).1
  refine tw_putF (v := .ref q44) (ty := (.object "SeaLand$Rows")) hx hb hts bF2_X11 tyX11 tyX11_ok nmX11 hown hK hT hG hS hg70 shc_114 rfl 2 (by decide) (ht_at2 hts 70 rfl) (fun _ h9 => h9) rfl hin rfl (by decide +kernel) rfl rfl (gl_at rfl ⟨some _, rfl, fun _ h => by cases h; exact hg60⟩) dX11_init_32 (fun H locs hT oq m75 oj hS => ?_)
  have hY := hY.put oq
  have m76 := (oj 6 (by decide) (by decide)).trans m61
  have m77 := (oj 7 (by decide) (by decide)).trans m62
  have m78 := m63.kept (oq _ (gne hg71 hg70 (by decide)))
  have m79 := (oj 0 (by decide) (by decide)).trans m64
  have m80 := (el_kept (oq _ (gne hg72 hg70 (by decide)))).trans m65
  have m81 := (el_kept (oq _ (gne hg72 hg70 (by decide)))).trans m66
  have m82 := (el_kept (oq _ (gne hg73 hg70 (by decide)))).trans m67
  have m83 := m68.kept (oq _ (gne hg74 hg70 (by decide)))
  have m84 := (oj 1 (by decide) (by decide)).trans m69
  refine lv_aload_n hx hb dX11_init_35 rfl (lv_at hl 0 rfl) ?_
  have hz9 := hS.1
  refine tw_new hx hb hts bF2_X0 tyX0 tyX0_ok hown (ht_at2 hts 71 rfl) (ht_at2 hts 72 rfl) (ht_at2 hts 73 rfl) hK mon_c hT hS hG hA (shc_103) rfl nd_103 (Nat.le_of_ble_eq_true rfl) (Nat.le_of_ble_eq_true rfl) dX11_init_36 (fun q85 G6 H hq9 eG hz1 hz2 hT hx9 hG hm9 hS => ?_)
  have hn_q85 : s.heap.size ≤ q85 := Nat.le_trans hz9 (Nat.le_of_eq hz2)
  have hY := hY.new hn_q85 eG hx9 (by decide)
  have hU_3 := gT_new hU_3 eG (by decide)
  have hU_51 := gT_new hU_51 eG (by decide)
  have hU_17 := gT_new hU_17 eG (by decide)
  have m86 := (el_kept (hx9 _ _ hg70).2).trans m76
  have m87 := (el_kept (hx9 _ _ hg70).2).trans m77
  have m88 := m78.kept (hx9 _ _ hg71).2
  have m89 := (el_kept (hx9 _ _ hg70).2).trans m79
  have m90 := (el_kept (hx9 _ _ hg72).2).trans m80
  have m91 := (el_kept (hx9 _ _ hg72).2).trans m81
  have m92 := (el_kept (hx9 _ _ hg73).2).trans m82
  have m93 := m83.kept (hx9 _ _ hg74).2
  have m94 := (el_kept (hx9 _ _ hg70).2).trans m84
  have m95 := (el_kept (hx9 _ _ hg70).2).trans m75
  have hg96 := (hx9 _ _ hg70).1
  have hg97 := (hx9 _ _ hg71).1
  have hg98 := (hx9 _ _ hg72).1
  have hg99 := (hx9 _ _ hg73).1
  have hg100 := (hx9 _ _ hg74).1
  have hg101 := (hx9 _ _ hg60).1
  have hg102 : G6 q85 = some 103 := by rw [eG]; exact gU_at
  have m103 : el H q85 (dI 3 16) = some (.int 0) := hm9 16 (by decide)
  have m104 : el H q85 (dI 3 15) = some (.int 0) := hm9 15 (by decide)
  have m105 : el H q85 (dI 3 11) = some (.int 0) := hm9 11 (by decide)
  have m106 : el H q85 (dI 3 12) = some (.long 0) := hm9 12 (by decide)
  have m107 : el H q85 (dI 3 13) = some (.long 0) := hm9 13 (by decide)
  refine lv_dup hx hb dX11_init_39 rfl ?_
  have hFc := gA_free hG hA hS
  have hz9 := hS.1
  refine va_callv (va_runI (As := []) (rest := [.ref q85, .ref o0]) ⟨hx, hb, hml, hown, hts⟩ (n_X0 l dC dI kA adK adV G6 H  q85 hT hg102 m103 m104 m105 m106 m107) (cwI 0 hts (goodIn_ca (goodIn_r _ [75, 76, 2, 3, 77, 78, 4, 79, 80, 37, 81, 82, 83, 84, 85, 86, 87, 88, 89, 90, 91, 92, 93, 94, 95, 96, 97, 98, 99, 100, 101, 102, 103, 104, 105, 106, 107, 108, 109, 110] rfl (by decide +kernel)) (bs2_in _ _)) rfl rfl rfl (ht_at2 hts 73 rfl) (ht_at2 hts 110 rfl) (ht_at2 hts 111 rfl) rfl (by decide +kernel) ⟨(Nat.le_of_ble_eq_true rfl), (Nat.le_of_ble_eq_true rfl)⟩) ⟨fun a U g mk q => by obtain ⟨q0, q1, qK, qE, qA⟩ := q; exact ⟨q0, q1, va_K.moved (u := U) (U := U.calling g mk a) (Vm.Alike.refl U.vm) qK, EVC.blind g mk a qE, AO.blind g mk a qA⟩, fun U hU hW => ⟨rfl, hU, va_K.moved hW.alike hK, hE.call hS hFc hU hW, hAO.call hW⟩⟩ rfl rfl hl.1 rfl (lv_room (Nat.le_of_ble_eq_true rfl)) dX11_init_40 ⟨(Nat.le_of_ble_eq_true rfl), (Nat.le_of_ble_eq_true rfl)⟩) hS (fun q _ h => hFc q h) hFc (fun G7 t H locs ht hvm _ hB _ _ hS => ?_)
  (try dsimp only at hB); rw [ht] at hB; obtain ⟨hT, hg130, hY1, ⟨w9_51, hU9_51⟩, m108, ⟨b109, m110, hg111, m112⟩, ⟨b113, m114, hg115, m116⟩, ⟨b117, m118, hg119, m120⟩, m121, m122, m123, m124, m125, ⟨b126, m127, hg128, m129⟩⟩ := hB
  have hY := hY.call hn_q85 hY1 hz9 (by decide)
  have hG := hY.A hG0 hAo hA
  have hU_3 := gT_call1 hU_3 hY1 (by decide)
  have hU_51 := gT_call2 hU_51 hU9_51
  have hU_17 := gT_call hU_17 hY1 (by decide)
  have m131 := (el_kept (hY1.1 _ _ (gne hg96 hg102 (by decide)) hg96).2).trans m86
  have m132 := (el_kept (hY1.1 _ _ (gne hg96 hg102 (by decide)) hg96).2).trans m87
  have m133 := m88.kept (hY1.1 _ _ (gne hg97 hg102 (by decide)) hg97).2
  have m134 := (el_kept (hY1.1 _ _ (gne hg96 hg102 (by decide)) hg96).2).trans m89
  have m135 := (el_kept (hY1.1 _ _ (gne hg98 hg102 (by decide)) hg98).2).trans m90
  have m136 := (el_kept (hY1.1 _ _ (gne hg98 hg102 (by decide)) hg98).2).trans m91
  have m137 := (el_kept (hY1.1 _ _ (gne hg99 hg102 (by decide)) hg99).2).trans m92
  have m138 := m93.kept (hY1.1 _ _ (gne hg100 hg102 (by decide)) hg100).2
  have m139 := (el_kept (hY1.1 _ _ (gne hg96 hg102 (by decide)) hg96).2).trans m94
  have m140 := (el_kept (hY1.1 _ _ (gne hg96 hg102 (by decide)) hg96).2).trans m95
  have hg141 := (hY1.1 _ _ (gne hg96 hg102 (by decide)) hg96).1
  have hg142 := (hY1.1 _ _ (gne hg97 hg102 (by decide)) hg97).1
  have hg143 := (hY1.1 _ _ (gne hg98 hg102 (by decide)) hg98).1
  have hg144 := (hY1.1 _ _ (gne hg99 hg102 (by decide)) hg99).1
  have hg145 := (hY1.1 _ _ (gne hg100 hg102 (by decide)) hg100).1
  have hg146 := (hY1.1 _ _ (gne hg101 hg102 (by decide)) hg101).1
  refine tw_putF (v := .ref q85) (ty := (.object "SeaLand$Board")) hx hb hts bF2_X11 tyX11 tyX11_ok nmX11 hown hK hT hG hS hg141 shc_114 rfl 3 (by decide) (ht_at2 hts 112 rfl) (fun _ h9 => h9) rfl hin rfl (by decide +kernel) rfl rfl (gl_at rfl ⟨some _, rfl, fun _ h => by cases h; exact hg130⟩) dX11_init_43 (fun H locs hT oq m147 oj hS => ?_)
  have hY := hY.put oq
  have m148 := (oj 6 (by decide) (by decide)).trans m131
  have m149 := (oj 7 (by decide) (by decide)).trans m132
  have m150 := m133.kept (oq _ (gne hg142 hg141 (by decide)))
  have m151 := (oj 0 (by decide) (by decide)).trans m134
  have m152 := (el_kept (oq _ (gne hg143 hg141 (by decide)))).trans m135
  have m153 := (el_kept (oq _ (gne hg143 hg141 (by decide)))).trans m136
  have m154 := (el_kept (oq _ (gne hg144 hg141 (by decide)))).trans m137
  have m155 := m138.kept (oq _ (gne hg145 hg141 (by decide)))
  have m156 := (oj 1 (by decide) (by decide)).trans m139
  have m157 := (oj 2 (by decide) (by decide)).trans m140
  have m158 := (el_kept (oq _ (gne hg130 hg141 (by decide)))).trans m108
  have m159 := (el_kept (oq _ (gne hg130 hg141 (by decide)))).trans m110
  have m160 := m112.kept (oq _ (gne hg111 hg141 (by decide)))
  have m161 := (el_kept (oq _ (gne hg130 hg141 (by decide)))).trans m114
  have m162 := m116.kept (oq _ (gne hg115 hg141 (by decide)))
  have m163 := (el_kept (oq _ (gne hg130 hg141 (by decide)))).trans m118
  have m164 := m120.kept (oq _ (gne hg119 hg141 (by decide)))
  have m165 := (el_kept (oq _ (gne hg130 hg141 (by decide)))).trans m121
  have m166 := (el_kept (oq _ (gne hg130 hg141 (by decide)))).trans m122
  have m167 := (el_kept (oq _ (gne hg130 hg141 (by decide)))).trans m123
  have m168 := (el_kept (oq _ (gne hg130 hg141 (by decide)))).trans m124
  have m169 := (el_kept (oq _ (gne hg130 hg141 (by decide)))).trans m125
  have m170 := (el_kept (oq _ (gne hg130 hg141 (by decide)))).trans m127
  have m171 := (el_kept (oq _ (gne hg128 hg141 (by decide)))).trans m129
  refine lv_aload_n hx hb dX11_init_46 rfl (lv_at hl 0 rfl) ?_
  refine lv_bipush (v := 40) hx hb dX11_init_47 (by decide) ?_
  have hz9 := hS.1
  refine tw_newq hx hb hown (ht_at2 hts 113 rfl) (hAO _ (by decide)) hK mon_c hT hS hG hA (shc_17) rfl (fun _ _ _ => ⟨fun h => absurd h (by omega), ⟨none, rfl, fun _ h => by cases h⟩⟩) (by decide) rfl (Nat.le_of_ble_eq_true rfl) (Nat.le_of_ble_eq_true rfl) (Nat.le_of_ble_eq_true rfl) dX11_init_49 (fun q172 G8 H hq9 eG hz1 hz2 hT hx9 hG hm9 hS => ?_)
  have hn_q172 : s.heap.size ≤ q172 := Nat.le_trans hz9 (Nat.le_of_eq hz2)
  have hY := hY.new hn_q172 eG hx9 (by decide)
  have hU_3 := gT_new hU_3 eG (by decide)
  have hU_51 := gT_new hU_51 eG (by decide)
  have hU_17 := gT_new1 hU_17 eG
  have m173 := (el_kept (hx9 _ _ hg141).2).trans m148
  have m174 := (el_kept (hx9 _ _ hg141).2).trans m149
  have m175 := m150.kept (hx9 _ _ hg142).2
  have m176 := (el_kept (hx9 _ _ hg141).2).trans m151
  have m177 := (el_kept (hx9 _ _ hg143).2).trans m152
  have m178 := (el_kept (hx9 _ _ hg143).2).trans m153
  have m179 := (el_kept (hx9 _ _ hg144).2).trans m154
  have m180 := m155.kept (hx9 _ _ hg145).2
  have m181 := (el_kept (hx9 _ _ hg141).2).trans m156
  have m182 := (el_kept (hx9 _ _ hg141).2).trans m157
  have m183 := (el_kept (hx9 _ _ hg130).2).trans m158
  have m184 := (el_kept (hx9 _ _ hg130).2).trans m159
  have m185 := m160.kept (hx9 _ _ hg111).2
  have m186 := (el_kept (hx9 _ _ hg130).2).trans m161
  have m187 := m162.kept (hx9 _ _ hg115).2
  have m188 := (el_kept (hx9 _ _ hg130).2).trans m163
  have m189 := m164.kept (hx9 _ _ hg119).2
  have m190 := (el_kept (hx9 _ _ hg130).2).trans m165
  have m191 := (el_kept (hx9 _ _ hg130).2).trans m166
  have m192 := (el_kept (hx9 _ _ hg130).2).trans m167
  have m193 := (el_kept (hx9 _ _ hg130).2).trans m168
  have m194 := (el_kept (hx9 _ _ hg130).2).trans m169
  have m195 := (el_kept (hx9 _ _ hg130).2).trans m170
  have m196 := (el_kept (hx9 _ _ hg128).2).trans m171
  have m197 := (el_kept (hx9 _ _ hg141).2).trans m147
  have hg198 := (hx9 _ _ hg141).1
  have hg199 := (hx9 _ _ hg142).1
  have hg200 := (hx9 _ _ hg143).1
  have hg201 := (hx9 _ _ hg144).1
  have hg202 := (hx9 _ _ hg145).1
  have hg203 := (hx9 _ _ hg146).1
  have hg204 := (hx9 _ _ hg130).1
  have hg205 := (hx9 _ _ hg111).1
  have hg206 := (hx9 _ _ hg115).1
  have hg207 := (hx9 _ _ hg119).1
  have hg208 := (hx9 _ _ hg128).1
  have hg209 : G8 q172 = some 17 := by rw [eG]; exact gU_at
  refine tw_putF (v := .ref q172) (ty := (.array (.object "SeaLand$Contract"))) hx hb hts bF2_X11 tyX11 tyX11_ok nmX11 hown hK hT hG hS hg198 shc_114 rfl 4 (by decide) (ht_at2 hts 114 rfl) (fun _ h9 => h9) rfl hin rfl (by decide +kernel) rfl rfl (gl_at rfl ⟨some _, rfl, fun _ h => by cases h; exact hg209⟩) dX11_init_52 (fun H locs hT oq m210 oj hS => ?_)
  have hY := hY.put oq
  have m211 := (oj 6 (by decide) (by decide)).trans m173
  have m212 := (oj 7 (by decide) (by decide)).trans m174
  have m213 := m175.kept (oq _ (gne hg199 hg198 (by decide)))
  have m214 := (oj 0 (by decide) (by decide)).trans m176
  have m215 := (el_kept (oq _ (gne hg200 hg198 (by decide)))).trans m177
  have m216 := (el_kept (oq _ (gne hg200 hg198 (by decide)))).trans m178
  have m217 := (el_kept (oq _ (gne hg201 hg198 (by decide)))).trans m179
  have m218 := m180.kept (oq _ (gne hg202 hg198 (by decide)))
  have m219 := (oj 1 (by decide) (by decide)).trans m181
  have m220 := (oj 2 (by decide) (by decide)).trans m182
  have m221 := (el_kept (oq _ (gne hg204 hg198 (by decide)))).trans m183
  have m222 := (el_kept (oq _ (gne hg204 hg198 (by decide)))).trans m184
  have m223 := m185.kept (oq _ (gne hg205 hg198 (by decide)))
  have m224 := (el_kept (oq _ (gne hg204 hg198 (by decide)))).trans m186
  have m225 := m187.kept (oq _ (gne hg206 hg198 (by decide)))
  have m226 := (el_kept (oq _ (gne hg204 hg198 (by decide)))).trans m188
  have m227 := m189.kept (oq _ (gne hg207 hg198 (by decide)))
  have m228 := (el_kept (oq _ (gne hg204 hg198 (by decide)))).trans m190
  have m229 := (el_kept (oq _ (gne hg204 hg198 (by decide)))).trans m191
  have m230 := (el_kept (oq _ (gne hg204 hg198 (by decide)))).trans m192
  have m231 := (el_kept (oq _ (gne hg204 hg198 (by decide)))).trans m193
  have m232 := (el_kept (oq _ (gne hg204 hg198 (by decide)))).trans m194
  have m233 := (el_kept (oq _ (gne hg204 hg198 (by decide)))).trans m195
  have m234 := (el_kept (oq _ (gne hg208 hg198 (by decide)))).trans m196
  have m235 := (oj 3 (by decide) (by decide)).trans m197
  refine lv_aload_n hx hb dX11_init_55 rfl (lv_at hl 0 rfl) ?_
  have hz9 := hS.1
  refine tw_new hx hb hts bF2_X5 tyX5 tyX5_ok hown (ht_at2 hts 115 rfl) (ht_at2 hts 116 rfl) (ht_at2 hts 117 rfl) hK mon_c hT hS hG hA (shc_108) rfl nd_108 (Nat.le_of_ble_eq_true rfl) (Nat.le_of_ble_eq_true rfl) dX11_init_56 (fun q236 G9 H hq9 eG hz1 hz2 hT hx9 hG hm9 hS => ?_)
  have hn_q236 : s.heap.size ≤ q236 := Nat.le_trans hz9 (Nat.le_of_eq hz2)
  have hY := hY.new hn_q236 eG hx9 (by decide)
  have hU_3 := gT_new hU_3 eG (by decide)
  have hU_51 := gT_new hU_51 eG (by decide)
  have hU_17 := gT_new hU_17 eG (by decide)
  have m237 := (el_kept (hx9 _ _ hg198).2).trans m211
  have m238 := (el_kept (hx9 _ _ hg198).2).trans m212
  have m239 := m213.kept (hx9 _ _ hg199).2
  have m240 := (el_kept (hx9 _ _ hg198).2).trans m214
  have m241 := (el_kept (hx9 _ _ hg200).2).trans m215
  have m242 := (el_kept (hx9 _ _ hg200).2).trans m216
  have m243 := (el_kept (hx9 _ _ hg201).2).trans m217
  have m244 := m218.kept (hx9 _ _ hg202).2
  have m245 := (el_kept (hx9 _ _ hg198).2).trans m219
  have m246 := (el_kept (hx9 _ _ hg198).2).trans m220
  have m247 := (el_kept (hx9 _ _ hg204).2).trans m221
  have m248 := (el_kept (hx9 _ _ hg204).2).trans m222
  have m249 := m223.kept (hx9 _ _ hg205).2
  have m250 := (el_kept (hx9 _ _ hg204).2).trans m224
  have m251 := m225.kept (hx9 _ _ hg206).2
  have m252 := (el_kept (hx9 _ _ hg204).2).trans m226
  have m253 := m227.kept (hx9 _ _ hg207).2
  have m254 := (el_kept (hx9 _ _ hg204).2).trans m228
  have m255 := (el_kept (hx9 _ _ hg204).2).trans m229
  have m256 := (el_kept (hx9 _ _ hg204).2).trans m230
  have m257 := (el_kept (hx9 _ _ hg204).2).trans m231
  have m258 := (el_kept (hx9 _ _ hg204).2).trans m232
  have m259 := (el_kept (hx9 _ _ hg204).2).trans m233
  have m260 := (el_kept (hx9 _ _ hg208).2).trans m234
  have m261 := (el_kept (hx9 _ _ hg198).2).trans m235
  have m262 := (el_kept (hx9 _ _ hg198).2).trans m210
  have hg263 := (hx9 _ _ hg198).1
  have hg264 := (hx9 _ _ hg199).1
  have hg265 := (hx9 _ _ hg200).1
  have hg266 := (hx9 _ _ hg201).1
  have hg267 := (hx9 _ _ hg202).1
  have hg268 := (hx9 _ _ hg203).1
  have hg269 := (hx9 _ _ hg204).1
  have hg270 := (hx9 _ _ hg205).1
  have hg271 := (hx9 _ _ hg206).1
  have hg272 := (hx9 _ _ hg207).1
  have hg273 := (hx9 _ _ hg208).1
  have hg274 := (hx9 _ _ hg209).1
  have hg275 : G9 q236 = some 108 := by rw [eG]; exact gU_at
  refine lv_dup hx hb dX11_init_59 rfl ?_
  have hFc := gA_free hG hA hS
  have hz9 := hS.1
  refine va_callv (va_runIN (As := []) (rest := [.ref q236, .ref o0]) ⟨hx, hb, hml, hown, hts⟩ (n_X5 l dC dI kA adK adV G9 H 0 0 q236 hT hg275 (by omega) (by omega)) ⟨va_cnB 0 hts (goodIn_ca (goodIn_r _ [119, 120, 2, 3, 4, 121, 122, 123, 124, 125, 126, 127, 128, 129, 37, 130, 131, 132] rfl (by decide +kernel)) (bs2_in _ _)) rfl rfl rfl (hE.nm 103 rfl) (ht_at2 hts 117 rfl) (by decide +kernel) ⟨(Nat.le_of_ble_eq_true rfl), (Nat.le_of_ble_eq_true rfl)⟩, rfl, (ht_at2 hts 132 rfl)⟩ ⟨fun a U g mk q => by obtain ⟨q0, q1, qK, qE, qA⟩ := q; exact ⟨q0, q1, va_K.moved (u := U) (U := U.calling g mk a) (Vm.Alike.refl U.vm) qK, EVC.blind g mk a qE, AO.blind g mk a qA⟩, fun U hU hW => ⟨rfl, hU, va_K.moved hW.alike hK, hE.call hS hFc hU hW, hAO.call hW⟩⟩ rfl rfl hl.1 rfl (lv_room (Nat.le_of_ble_eq_true rfl)) dX11_init_60 ⟨(Nat.le_of_ble_eq_true rfl), (Nat.le_of_ble_eq_true rfl)⟩) hS (fun q _ h => hFc q h) hFc (fun G10 t H locs ht hvm _ hB _ _ hS => ?_)
  (try dsimp only at hB); rw [ht] at hB; obtain ⟨hT, hg276, hY1⟩ := hB
  have hY := hY.call hn_q236 hY1 hz9 (by decide)
  have hG := hY.A hG0 hAo hA
  have hU_3 := gT_call hU_3 hY1 (by decide)
  have hU_51 := gT_call hU_51 hY1 (by decide)
  have hU_17 := gT_call hU_17 hY1 (by decide)
  have m277 := (el_kept (hY1.1 _ _ (gne hg263 hg275 (by decide)) hg263).2).trans m237
  have m278 := (el_kept (hY1.1 _ _ (gne hg263 hg275 (by decide)) hg263).2).trans m238
  have m279 := m239.kept (hY1.1 _ _ (gne hg264 hg275 (by decide)) hg264).2
  have m280 := (el_kept (hY1.1 _ _ (gne hg263 hg275 (by decide)) hg263).2).trans m240
  have m281 := (el_kept (hY1.1 _ _ (gne hg265 hg275 (by decide)) hg265).2).trans m241
  have m282 := (el_kept (hY1.1 _ _ (gne hg265 hg275 (by decide)) hg265).2).trans m242
  have m283 := (el_kept (hY1.1 _ _ (gne hg266 hg275 (by decide)) hg266).2).trans m243
  have m284 := m244.kept (hY1.1 _ _ (gne hg267 hg275 (by decide)) hg267).2
  have m285 := (el_kept (hY1.1 _ _ (gne hg263 hg275 (by decide)) hg263).2).trans m245
  have m286 := (el_kept (hY1.1 _ _ (gne hg263 hg275 (by decide)) hg263).2).trans m246
  have m287 := (el_kept (hY1.1 _ _ (gne hg269 hg275 (by decide)) hg269).2).trans m247
  have m288 := (el_kept (hY1.1 _ _ (gne hg269 hg275 (by decide)) hg269).2).trans m248
  have m289 := m249.kept (hY1.1 _ _ (gne hg270 hg275 (by decide)) hg270).2
  have m290 := (el_kept (hY1.1 _ _ (gne hg269 hg275 (by decide)) hg269).2).trans m250
  have m291 := m251.kept (hY1.1 _ _ (gne hg271 hg275 (by decide)) hg271).2
  have m292 := (el_kept (hY1.1 _ _ (gne hg269 hg275 (by decide)) hg269).2).trans m252
  have m293 := m253.kept (hY1.1 _ _ (gne hg272 hg275 (by decide)) hg272).2
  have m294 := (el_kept (hY1.1 _ _ (gne hg269 hg275 (by decide)) hg269).2).trans m254
  have m295 := (el_kept (hY1.1 _ _ (gne hg269 hg275 (by decide)) hg269).2).trans m255
  have m296 := (el_kept (hY1.1 _ _ (gne hg269 hg275 (by decide)) hg269).2).trans m256
  have m297 := (el_kept (hY1.1 _ _ (gne hg269 hg275 (by decide)) hg269).2).trans m257
  have m298 := (el_kept (hY1.1 _ _ (gne hg269 hg275 (by decide)) hg269).2).trans m258
  have m299 := (el_kept (hY1.1 _ _ (gne hg269 hg275 (by decide)) hg269).2).trans m259
  have m300 := (el_kept (hY1.1 _ _ (gne hg273 hg275 (by decide)) hg273).2).trans m260
  have m301 := (el_kept (hY1.1 _ _ (gne hg263 hg275 (by decide)) hg263).2).trans m261
  have m302 := (el_kept (hY1.1 _ _ (gne hg263 hg275 (by decide)) hg263).2).trans m262
  have hg303 := (hY1.1 _ _ (gne hg263 hg275 (by decide)) hg263).1
  have hg304 := (hY1.1 _ _ (gne hg264 hg275 (by decide)) hg264).1
  have hg305 := (hY1.1 _ _ (gne hg265 hg275 (by decide)) hg265).1
  have hg306 := (hY1.1 _ _ (gne hg266 hg275 (by decide)) hg266).1
  have hg307 := (hY1.1 _ _ (gne hg267 hg275 (by decide)) hg267).1
  have hg308 := (hY1.1 _ _ (gne hg268 hg275 (by decide)) hg268).1
  have hg309 := (hY1.1 _ _ (gne hg269 hg275 (by decide)) hg269).1
  have hg310 := (hY1.1 _ _ (gne hg270 hg275 (by decide)) hg270).1
  have hg311 := (hY1.1 _ _ (gne hg271 hg275 (by decide)) hg271).1
  have hg312 := (hY1.1 _ _ (gne hg272 hg275 (by decide)) hg272).1
  have hg313 := (hY1.1 _ _ (gne hg273 hg275 (by decide)) hg273).1
  have hg314 := (hY1.1 _ _ (gne hg274 hg275 (by decide)) hg274).1
  refine tw_putF (v := .ref q236) (ty := (.object "SeaLand$Plans")) hx hb hts bF2_X11 tyX11 tyX11_ok nmX11 hown hK hT hG hS hg303 shc_114 rfl 5 (by decide) (ht_at2 hts 133 rfl) (fun _ h9 => h9) rfl hin rfl (by decide +kernel) rfl rfl (gl_at rfl ⟨some _, rfl, fun _ h => by cases h; exact hg276⟩) dX11_init_63 (fun H locs hT oq m315 oj hS => ?_)
  have hY := hY.put oq
  have m316 := (oj 6 (by decide) (by decide)).trans m277
  have m317 := (oj 7 (by decide) (by decide)).trans m278
  have m318 := m279.kept (oq _ (gne hg304 hg303 (by decide)))
  have m319 := (oj 0 (by decide) (by decide)).trans m280
  have m320 := (el_kept (oq _ (gne hg305 hg303 (by decide)))).trans m281
  have m321 := (el_kept (oq _ (gne hg305 hg303 (by decide)))).trans m282
  have m322 := (el_kept (oq _ (gne hg306 hg303 (by decide)))).trans m283
  have m323 := m284.kept (oq _ (gne hg307 hg303 (by decide)))
  have m324 := (oj 1 (by decide) (by decide)).trans m285
  have m325 := (oj 2 (by decide) (by decide)).trans m286
  have m326 := (el_kept (oq _ (gne hg309 hg303 (by decide)))).trans m287
  have m327 := (el_kept (oq _ (gne hg309 hg303 (by decide)))).trans m288
  have m328 := m289.kept (oq _ (gne hg310 hg303 (by decide)))
  have m329 := (el_kept (oq _ (gne hg309 hg303 (by decide)))).trans m290
  have m330 := m291.kept (oq _ (gne hg311 hg303 (by decide)))
  have m331 := (el_kept (oq _ (gne hg309 hg303 (by decide)))).trans m292
  have m332 := m293.kept (oq _ (gne hg312 hg303 (by decide)))
  have m333 := (el_kept (oq _ (gne hg309 hg303 (by decide)))).trans m294
  have m334 := (el_kept (oq _ (gne hg309 hg303 (by decide)))).trans m295
  have m335 := (el_kept (oq _ (gne hg309 hg303 (by decide)))).trans m296
  have m336 := (el_kept (oq _ (gne hg309 hg303 (by decide)))).trans m297
  have m337 := (el_kept (oq _ (gne hg309 hg303 (by decide)))).trans m298
  have m338 := (el_kept (oq _ (gne hg309 hg303 (by decide)))).trans m299
  have m339 := (el_kept (oq _ (gne hg313 hg303 (by decide)))).trans m300
  have m340 := (oj 3 (by decide) (by decide)).trans m301
  have m341 := (oj 4 (by decide) (by decide)).trans m302
  have hT := hT.grown (t := 14) mon_c hg303 (by decide) (by
    have h8 := hT _ _ hg303; rw [shc_114] at h8; rw [shc_14]
    refine gC.grow h8 (fun k v hk hm hv => match k, hk, hm, hv with
      | 0, _, hm, hv => gl_at rfl (by obtain rfl : v = .ref q1 := Option.some.inj (hm.symm.trans m319); exact ⟨_, rfl, (gU_ne (gne hg304 hg303 (by decide))).trans hg304⟩)
      | 1, _, hm, hv => gl_at rfl (by obtain rfl : v = .ref q11 := Option.some.inj (hm.symm.trans m324); exact ⟨_, rfl, (gU_ne (gne hg305 hg303 (by decide))).trans hg305⟩)
      | 2, _, hm, hv => gl_at rfl (by obtain rfl : v = .ref q44 := Option.some.inj (hm.symm.trans m325); exact ⟨_, rfl, (gU_ne (gne hg308 hg303 (by decide))).trans hg308⟩)
      | 3, _, hm, hv => gl_at rfl (by obtain rfl : v = .ref q85 := Option.some.inj (hm.symm.trans m340); exact ⟨_, rfl, (gU_ne (gne hg309 hg303 (by decide))).trans hg309⟩)
      | 4, _, hm, hv => gl_at rfl (by obtain rfl : v = .ref q172 := Option.some.inj (hm.symm.trans m341); exact ⟨_, rfl, (gU_ne (gne hg314 hg303 (by decide))).trans hg314⟩)
      | 5, _, hm, hv => gl_at rfl (by obtain rfl : v = .ref q236 := Option.some.inj (hm.symm.trans m315); exact ⟨_, rfl, (gU_ne (gne hg276 hg303 (by decide))).trans hg276⟩)
      | 6, _, hm, hv => gl_at rfl (mK_N (by decide) _ _ v (gM_re hg303 (by decide)) (hv _ rfl))
      | 7, _, hm, hv => gl_at rfl (hv _ rfl)
      | 8, _, hm, hv => gl_at rfl (hv _ rfl)
      | k + 9, hk, _, _ => absurd hk (by omega)))
  have hY := hY.grow
  have hU_3 := gT_new (q := o0) (t := 14) hU_3 rfl (by decide)
  have hU_51 := gT_new (q := o0) (t := 14) hU_51 rfl (by decide)
  have hU_17 := gT_new (q := o0) (t := 14) hU_17 rfl (by decide)
  exact W.vret hx hb hr (fun t ht hW => ⟨⟨_, rfl, trivial, by (try dsimp only); rw [ht]; exact ⟨hT, gU_at, hY, ⟨_, hU_3⟩, ⟨_, hU_51⟩, ⟨_, hU_17⟩, ⟨_, m324, (gU_ne (gne hg305 hg303 (by decide))).trans hg305, m320, ⟨_, m321, (gU_ne (gne hg306 hg303 (by decide))).trans hg306, ⟨_, m322, (gU_ne (gne hg307 hg303 (by decide))).trans hg307, m323⟩⟩⟩, ⟨_, m340, (gU_ne (gne hg309 hg303 (by decide))).trans hg309, m326, ⟨_, m327, (gU_ne (gne hg310 hg303 (by decide))).trans hg310, m328⟩, ⟨_, m329, (gU_ne (gne hg311 hg303 (by decide))).trans hg311, m330⟩, ⟨_, m331, (gU_ne (gne hg312 hg303 (by decide))).trans hg312, m332⟩, m333, m334, m335, m336, m337, ⟨_, m338, (gU_ne (gne hg313 hg303 (by decide))).trans hg313, m339⟩⟩, m316, m317, ⟨_, m319, (gU_ne (gne hg304 hg303 (by decide))).trans hg304, m318⟩⟩⟩, hS.F ht⟩) hS.2.2 dX11_init_66
