def w_n_X0 : List Cond := .code yX0_init cX0_init 1 none :: (HAppend.hAppend (α := List Cond) (β := List Cond) (γ := List Cond) [.methodLink RX0 3 objectInit, .instanceMethod objectInit, .code objectInit ⟨#[0xb1]⟩ 1 none, .classLink RX0 9 RX7, .fieldLink RX0 11 "SeaLand$Board" "settlers" "[LSeaLand$Settler;", .arrayClass .int, .fieldLink RX0 17 "SeaLand$Board" "farmOf" "[I", .fieldLink RX0 21 "SeaLand$Board" "crops" "[I", .arrayClass .boolean, .fieldLink RX0 24 "SeaLand$Board" "held" "[Z", .fieldLink RX0 28 "SeaLand$Board" "harvested" "[Z", .arrayClass .long, .fieldLink RX0 33 "SeaLand$Board" "facts" "[J", .fieldLink RX0 37 "SeaLand$Board" "marks" "[I", .classLink RX0 31 RX4, .instantiable RX4 14, .initialized RX4, .code yX4_init cX4_init 1 none, .methodLink RX4 5 objectInit, .fieldLink RX4 11 "SeaLand$Law" "things" "[I", .fieldLink RX4 15 "SeaLand$Law" "begins" "[I", .fieldLink RX4 18 "SeaLand$Law" "kinds" "[I", .fieldLink RX4 21 "SeaLand$Law" "firsts" "[I", .fieldLink RX4 24 "SeaLand$Law" "seconds" "[I", .fieldLink RX4 27 "SeaLand$Law" "froms" "[I", .fieldLink RX4 30 "SeaLand$Law" "tos" "[I", .fieldLink RX4 33 "SeaLand$Law" "stepFrom" "[I", .fieldLink RX4 36 "SeaLand$Law" "stepTo" "[I", .fieldLink RX4 39 "SeaLand$Law" "steps" "[I", .fieldLink RX4 42 "SeaLand$Law" "stack" "[J", .instanceMethod yX4_init, .fieldLink RX0 41 "SeaLand$Board" "force" "LSeaLand$Law;", .fieldLink RX0 45 "SeaLand$Board" "proposed" "LSeaLand$Law;", .fieldLink RX0 48 "SeaLand$Board" "spare" "LSeaLand$Law;", .fieldLink RX0 51 "SeaLand$Board" "fault" "I", .code yJ7_fill_53178 cJ7_fill_53178 4 none, .methodLink RX0 55 yJ7_fill_53178, .static yJ7_fill_53178, .initialized RJ7] bs2)
set_option maxHeartbeats 4000000 in
set_option maxRecDepth 100000 in
theorem n_X0 (l : Launch) (dC : Nat → ClassId) (dI : Nat → Nat → Nat) (kA : Nat → ClassId) (adK adV : Nat → Nat) (G : gT) (H0 : Heap)  (o0 : Nat) (hT : gH (dC, dI) kA (SHc 0 0) G H0) (hr_o0 : G o0 = some 103) : Met l yX0_init w_n_X0 ({ frames := 2, cells := 43, slots := 4419, locals := 58 }) (va_Pc [.ref o0] (fun U => U.heap = H0 ∧ va_K (dC, dI) vwCl (tyl kA) U ∧ EVC adK adV (gA G H0.size) U U.heap ∧ AO U)) (va_Qv (fun (u : gT) => True) (fun (G1 : gT) (t : State) => gH (dC, dI) kA (SHc 0 0) G1 t.heap ∧ G1 o0 = some 3 ∧ gY ([7, 40, 41, 42, 43, 44, 45, 46, 47, 48, 49, 50, 51, 52, 53, 54, 55, 56, 57, 107] : List Nat) 3 o0 G G1 H0 t.heap ∧ (∃ w, ∀ b, G1 b = some 51 → G b = some 51 ∨ b = w)) (gA G H0.size)) 43 4419 (gA G H0.size) := by
  refine Met.ofW (cc := cX0_init) (maxL := 1) (ret := none) (by decide) rfl ?_
  intro p e s m args below meth c s₁ B hml hv
  obtain ⟨rfl, hH0, hK, hE, hAO⟩ := hv
  have hx := B.exec
  have hb := B.bytes
  have hr := B.returns
  have hts := atoms_spec (ws := w_n_X0) B.pre
  have hown : s.vm.findClass RX0 = some m.cls := findClass_of_methodNamed B.named
  have hlocks := B.notSynchronized
  have hin : meth.name = "<init>" := (name_of_methodNamed B.named B.method).1
  subst hH0
  generalize hAe : gA G s.heap.size = A at hE ⊢
  have hA : ∀ q : Nat, s.heap.size ≤ q → A q := fun q h => by rw [← hAe]; exact Or.inr h
  have hG := gA_of hAe
  have hS : va_S A s.heap s.heap [] := va_S.rf
  have hl := lv_entry ([.ref o0]) (n := 1) (Nat.le_of_ble_eq_true rfl)
  rw [lg_entry_eq]
  generalize (lg_sl ([.ref o0]) ++ List.replicate (1 - (lg_sl ([.ref o0])).length) Slot.unset).toArray = ls at hl ⊢
  have hl : lv_has ls 1 [(0, .ref o0)] := hl
  have hG0 := hG
  have hY : gY ([7, 40, 41, 42, 43, 44, 45, 46, 47, 48, 49, 50, 51, 52, 53, 54, 55, 56, 57, 107] : List Nat) 3 o0 G G s.heap s.heap := gY.rf hT
  have hU_51 : ∀ b, G b = some 51 → G b = some 51 := fun _ h => h
  have hAo := hG _ _ hr_o0
  refine lv_aload_n hx hb dX0_init_0 rfl (lv_at hl 0 rfl) ?_
  refine W.objInit hx hb hown (ht_at2 hts 0 rfl) (ht_at2 hts 1 rfl) (ht_at2 hts 2 rfl) rfl (by rw [hml]; exact hl.1) rfl dX0_init_1 (Nat.le_of_ble_eq_true rfl) (Nat.le_of_ble_eq_true rfl) ?_
  refine W.eq (g2 := F0 m 4 ls []) rfl ?_
  refine lv_aload_n hx hb dX0_init_4 rfl (lv_at hl 0 rfl) ?_
  refine lv_bipush (v := 60) hx hb dX0_init_5 (by decide) ?_
  have hz9 := hS.1
  refine tw_newq hx hb hown (ht_at2 hts 3 rfl) (hAO _ (by decide)) hK mon_c hT hS hG hA (shc_51) rfl (fun _ _ _ => ⟨fun h => absurd h (by omega), ⟨none, rfl, fun _ h => by cases h⟩⟩) (by decide) rfl (Nat.le_of_ble_eq_true rfl) (Nat.le_of_ble_eq_true rfl) (Nat.le_of_ble_eq_true rfl) dX0_init_7 (fun q1 G1 H hq9 eG hz1 hz2 hT hx9 hG hm9 hS => ?_)
  have hn_q1 : s.heap.size ≤ q1 := Nat.le_trans hz9 (Nat.le_of_eq hz2)
  have hY := hY.new hn_q1 eG hx9 (by decide)
  have hU_51 := gT_new1 hU_51 eG
  have hg2 := (hx9 _ _ hr_o0).1
  have hg3 : G1 q1 = some 51 := by rw [eG]; exact gU_at
  refine tw_putF (v := .ref q1) (ty := (.array (.object "SeaLand$Settler"))) hx hb hts bF2_X0 tyX0 tyX0_ok nmX0 hown hK hT hG hS hg2 shc_103 rfl 0 (by decide) (ht_at2 hts 4 rfl) (fun _ h9 => h9) rfl hin rfl (by decide +kernel) rfl rfl (gl_at rfl ⟨some _, rfl, fun _ h => by cases h; exact hg3⟩) dX0_init_10 (fun H locs hT oq m4 oj hS => ?_)
  have hY := hY.put oq
  refine lv_aload_n hx hb dX0_init_13 rfl (lv_at hl 0 rfl) ?_
  refine lv_bipush (v := 96) hx hb dX0_init_14 (by decide) ?_
  have hz9 := hS.1
  refine tw_newa (ty := .int) hx hb (ht_at2 hts 5 rfl) rfl hK mon_c hT hS hG hA (shc_52) rfl (fun _ _ _ => ⟨0, rfl, by decide, by decide⟩) (by decide) rfl (Nat.le_of_ble_eq_true rfl) (Nat.le_of_ble_eq_true rfl) (Nat.le_of_ble_eq_true rfl) dX0_init_16 (fun q5 G2 H hq9 eG hz1 hz2 hT hx9 hG hm9 hS => ?_)
  have hn_q5 : s.heap.size ≤ q5 := Nat.le_trans hz9 (Nat.le_of_eq hz2)
  have hY := hY.new hn_q5 eG hx9 (by decide)
  have hU_51 := gT_new hU_51 eG (by decide)
  have m6 := (el_kept (hx9 _ _ hg2).2).trans m4
  have hg7 := (hx9 _ _ hg2).1
  have hg8 := (hx9 _ _ hg3).1
  have hg9 : G2 q5 = some 52 := by rw [eG]; exact gU_at
  refine tw_putF (v := .ref q5) (ty := (.array .int)) hx hb hts bF2_X0 tyX0 tyX0_ok nmX0 hown hK hT hG hS hg7 shc_103 rfl 1 (by decide) (ht_at2 hts 6 rfl) (fun _ h9 => h9) rfl hin rfl (by decide +kernel) rfl rfl (gl_at rfl ⟨some _, rfl, fun _ h => by cases h; exact hg9⟩) dX0_init_18 (fun H locs hT oq m10 oj hS => ?_)
  have hY := hY.put oq
  have m11 := (oj 0 (by decide) (by decide)).trans m6
  refine lv_aload_n hx hb dX0_init_21 rfl (lv_at hl 0 rfl) ?_
  refine lv_bipush (v := 30) hx hb dX0_init_22 (by decide) ?_
  have hz9 := hS.1
  refine tw_newa (ty := .int) hx hb (ht_at2 hts 5 rfl) rfl hK mon_c hT hS hG hA (shc_53) rfl (fun _ _ _ => ⟨0, rfl, by decide, by decide⟩) (by decide) rfl (Nat.le_of_ble_eq_true rfl) (Nat.le_of_ble_eq_true rfl) (Nat.le_of_ble_eq_true rfl) dX0_init_24 (fun q12 G3 H hq9 eG hz1 hz2 hT hx9 hG hm9 hS => ?_)
  have hn_q12 : s.heap.size ≤ q12 := Nat.le_trans hz9 (Nat.le_of_eq hz2)
  have hY := hY.new hn_q12 eG hx9 (by decide)
  have hU_51 := gT_new hU_51 eG (by decide)
  have m13 := (el_kept (hx9 _ _ hg7).2).trans m11
  have m14 := (el_kept (hx9 _ _ hg7).2).trans m10
  have hg15 := (hx9 _ _ hg7).1
  have hg16 := (hx9 _ _ hg8).1
  have hg17 := (hx9 _ _ hg9).1
  have hg18 : G3 q12 = some 53 := by rw [eG]; exact gU_at
  refine tw_putF (v := .ref q12) (ty := (.array .int)) hx hb hts bF2_X0 tyX0 tyX0_ok nmX0 hown hK hT hG hS hg15 shc_103 rfl 2 (by decide) (ht_at2 hts 7 rfl) (fun _ h9 => h9) rfl hin rfl (by decide +kernel) rfl rfl (gl_at rfl ⟨some _, rfl, fun _ h => by cases h; exact hg18⟩) dX0_init_26 (fun H locs hT oq m19 oj hS => ?_)
  have hY := hY.put oq
  have m20 := (oj 0 (by decide) (by decide)).trans m13
  have m21 := (oj 1 (by decide) (by decide)).trans m14
  refine lv_aload_n hx hb dX0_init_29 rfl (lv_at hl 0 rfl) ?_
  refine lv_bipush (v := 30) hx hb dX0_init_30 (by decide) ?_
  have hz9 := hS.1
  refine tw_newa (ty := .boolean) hx hb (ht_at2 hts 8 rfl) rfl hK mon_c hT hS hG hA (shc_54) rfl (fun _ _ _ => ⟨0, rfl, by decide, by decide⟩) (by decide) rfl (Nat.le_of_ble_eq_true rfl) (Nat.le_of_ble_eq_true rfl) (Nat.le_of_ble_eq_true rfl) dX0_init_32 (fun q22 G4 H hq9 eG hz1 hz2 hT hx9 hG hm9 hS => ?_)
  have hn_q22 : s.heap.size ≤ q22 := Nat.le_trans hz9 (Nat.le_of_eq hz2)
  have hY := hY.new hn_q22 eG hx9 (by decide)
  have hU_51 := gT_new hU_51 eG (by decide)
  have m23 := (el_kept (hx9 _ _ hg15).2).trans m20
  have m24 := (el_kept (hx9 _ _ hg15).2).trans m21
  have m25 := (el_kept (hx9 _ _ hg15).2).trans m19
  have hg26 := (hx9 _ _ hg15).1
  have hg27 := (hx9 _ _ hg16).1
  have hg28 := (hx9 _ _ hg17).1
  have hg29 := (hx9 _ _ hg18).1
  have hg30 : G4 q22 = some 54 := by rw [eG]; exact gU_at
  refine tw_putF (v := .ref q22) (ty := (.array .boolean)) hx hb hts bF2_X0 tyX0 tyX0_ok nmX0 hown hK hT hG hS hg26 shc_103 rfl 3 (by decide) (ht_at2 hts 9 rfl) (fun _ h9 => h9) rfl hin rfl (by decide +kernel) rfl rfl (gl_at rfl ⟨some _, rfl, fun _ h => by cases h; exact hg30⟩) dX0_init_34 (fun H locs hT oq m31 oj hS => ?_)
  have hY := hY.put oq
  have m32 := (oj 0 (by decide) (by decide)).trans m23
  have m33 := (oj 1 (by decide) (by decide)).trans m24
  have m34 := (oj 2 (by decide) (by decide)).trans m25
  refine lv_aload_n hx hb dX0_init_37 rfl (lv_at hl 0 rfl) ?_
  refine lv_iconst (v := 5) hx hb dX0_init_38 (by decide) ?_
  have hz9 := hS.1
  refine tw_newa (ty := .boolean) hx hb (ht_at2 hts 8 rfl) rfl hK mon_c hT hS hG hA (shc_55) rfl (fun _ _ _ => ⟨0, rfl, by decide, by decide⟩) (by decide) rfl (Nat.le_of_ble_eq_true rfl) (Nat.le_of_ble_eq_true rfl) (Nat.le_of_ble_eq_true rfl) dX0_init_39 (fun q35 G5 H hq9 eG hz1 hz2 hT hx9 hG hm9 hS => ?_)
  have hn_q35 : s.heap.size ≤ q35 := Nat.le_trans hz9 (Nat.le_of_eq hz2)
  have hY := hY.new hn_q35 eG hx9 (by decide)
  have hU_51 := gT_new hU_51 eG (by decide)
  have m36 := (el_kept (hx9 _ _ hg26).2).trans m32
  have m37 := (el_kept (hx9 _ _ hg26).2).trans m33
  have m38 := (el_kept (hx9 _ _ hg26).2).trans m34
  have m39 := (el_kept (hx9 _ _ hg26).2).trans m31
  have hg40 := (hx9 _ _ hg26).1
  have hg41 := (hx9 _ _ hg27).1
  have hg42 := (hx9 _ _ hg28).1
  have hg43 := (hx9 _ _ hg29).1
  have hg44 := (hx9 _ _ hg30).1
  have hg45 : G5 q35 = some 55 := by rw [eG]; exact gU_at
  refine tw_putF (v := .ref q35) (ty := (.array .boolean)) hx hb hts bF2_X0 tyX0 tyX0_ok nmX0 hown hK hT hG hS hg40 shc_103 rfl 4 (by decide) (ht_at2 hts 10 rfl) (fun _ h9 => h9) rfl hin rfl (by decide +kernel) rfl rfl (gl_at rfl ⟨some _, rfl, fun _ h => by cases h; exact hg45⟩) dX0_init_41 (fun H locs hT oq m46 oj hS => ?_)
  have hY := hY.put oq
  have m47 := (oj 0 (by decide) (by decide)).trans m36
  have m48 := (oj 1 (by decide) (by decide)).trans m37
  have m49 := (oj 2 (by decide) (by decide)).trans m38
  have m50 := (oj 3 (by decide) (by decide)).trans m39
  refine lv_aload_n hx hb dX0_init_44 rfl (lv_at hl 0 rfl) ?_
  refine lv_bipush (v := 10) hx hb dX0_init_45 (by decide) ?_
  have hz9 := hS.1
  refine tw_newa (ty := .long) hx hb (ht_at2 hts 11 rfl) rfl hK mon_c hT hS hG hA (shc_56) rfl (fun _ _ _ => ⟨0, rfl⟩) (by decide) rfl (Nat.le_of_ble_eq_true rfl) (Nat.le_of_ble_eq_true rfl) (Nat.le_of_ble_eq_true rfl) dX0_init_47 (fun q51 G6 H hq9 eG hz1 hz2 hT hx9 hG hm9 hS => ?_)
  have hn_q51 : s.heap.size ≤ q51 := Nat.le_trans hz9 (Nat.le_of_eq hz2)
  have hY := hY.new hn_q51 eG hx9 (by decide)
  have hU_51 := gT_new hU_51 eG (by decide)
  have m52 := (el_kept (hx9 _ _ hg40).2).trans m47
  have m53 := (el_kept (hx9 _ _ hg40).2).trans m48
  have m54 := (el_kept (hx9 _ _ hg40).2).trans m49
  have m55 := (el_kept (hx9 _ _ hg40).2).trans m50
  have m56 := (el_kept (hx9 _ _ hg40).2).trans m46
  have hg57 := (hx9 _ _ hg40).1
  have hg58 := (hx9 _ _ hg41).1
  have hg59 := (hx9 _ _ hg42).1
  have hg60 := (hx9 _ _ hg43).1
  have hg61 := (hx9 _ _ hg44).1
  have hg62 := (hx9 _ _ hg45).1
  have hg63 : G6 q51 = some 56 := by rw [eG]; exact gU_at
  refine tw_putF (v := .ref q51) (ty := (.array .long)) hx hb hts bF2_X0 tyX0 tyX0_ok nmX0 hown hK hT hG hS hg57 shc_103 rfl 5 (by decide) (ht_at2 hts 12 rfl) (fun _ h9 => h9) rfl hin rfl (by decide +kernel) rfl rfl (gl_at rfl ⟨some _, rfl, fun _ h => by cases h; exact hg63⟩) dX0_init_49 (fun H locs hT oq m64 oj hS => ?_)
  have hY := hY.put oq
  have m65 := (oj 0 (by decide) (by decide)).trans m52
  have m66 := (oj 1 (by decide) (by decide)).trans m53
  have m67 := (oj 2 (by decide) (by decide)).trans m54
  have m68 := (oj 3 (by decide) (by decide)).trans m55
  have m69 := (oj 4 (by decide) (by decide)).trans m56
  refine lv_aload_n hx hb dX0_init_52 rfl (lv_at hl 0 rfl) ?_
  refine lv_bipush (v := 60) hx hb dX0_init_53 (by decide) ?_
  have hz9 := hS.1
  refine tw_newa (ty := .int) hx hb (ht_at2 hts 5 rfl) rfl hK mon_c hT hS hG hA (shc_57) rfl (fun _ _ _ => ⟨0, rfl, by decide, by decide⟩) (by decide) rfl (Nat.le_of_ble_eq_true rfl) (Nat.le_of_ble_eq_true rfl) (Nat.le_of_ble_eq_true rfl) dX0_init_55 (fun q70 G7 H hq9 eG hz1 hz2 hT hx9 hG hm9 hS => ?_)
  have hn_q70 : s.heap.size ≤ q70 := Nat.le_trans hz9 (Nat.le_of_eq hz2)
  have hY := hY.new hn_q70 eG hx9 (by decide)
  have hU_51 := gT_new hU_51 eG (by decide)
  have m71 := (el_kept (hx9 _ _ hg57).2).trans m65
  have m72 := (el_kept (hx9 _ _ hg57).2).trans m66
  have m73 := (el_kept (hx9 _ _ hg57).2).trans m67
  have m74 := (el_kept (hx9 _ _ hg57).2).trans m68
  have m75 := (el_kept (hx9 _ _ hg57).2).trans m69
  have m76 := (el_kept (hx9 _ _ hg57).2).trans m64
  have hg77 := (hx9 _ _ hg57).1
  have hg78 := (hx9 _ _ hg58).1
  have hg79 := (hx9 _ _ hg59).1
  have hg80 := (hx9 _ _ hg60).1
  have hg81 := (hx9 _ _ hg61).1
  have hg82 := (hx9 _ _ hg62).1
  have hg83 := (hx9 _ _ hg63).1
  have hg84 : G7 q70 = some 57 := by rw [eG]; exact gU_at
  refine tw_putF (v := .ref q70) (ty := (.array .int)) hx hb hts bF2_X0 tyX0 tyX0_ok nmX0 hown hK hT hG hS hg77 shc_103 rfl 6 (by decide) (ht_at2 hts 13 rfl) (fun _ h9 => h9) rfl hin rfl (by decide +kernel) rfl rfl (gl_at rfl ⟨some _, rfl, fun _ h => by cases h; exact hg84⟩) dX0_init_57 (fun H locs hT oq m85 oj hS => ?_)
  have hY := hY.put oq
  have m86 := (oj 0 (by decide) (by decide)).trans m71
  have m87 := (oj 1 (by decide) (by decide)).trans m72
  have m88 := (oj 2 (by decide) (by decide)).trans m73
  have m89 := (oj 3 (by decide) (by decide)).trans m74
  have m90 := (oj 4 (by decide) (by decide)).trans m75
  have m91 := (oj 5 (by decide) (by decide)).trans m76
  refine lv_aload_n hx hb dX0_init_60 rfl (lv_at hl 0 rfl) ?_
  have hz9 := hS.1
  refine tw_new hx hb hts bF2_X4 tyX4 tyX4_ok hown (ht_at2 hts 14 rfl) (ht_at2 hts 15 rfl) (ht_at2 hts 16 rfl) hK mon_c hT hS hG hA (shc_107) rfl nd_107 (Nat.le_of_ble_eq_true rfl) (Nat.le_of_ble_eq_true rfl) dX0_init_61 (fun q92 G8 H hq9 eG hz1 hz2 hT hx9 hG hm9 hS => ?_)
  have hn_q92 : s.heap.size ≤ q92 := Nat.le_trans hz9 (Nat.le_of_eq hz2)
  have hY := hY.new hn_q92 eG hx9 (by decide)
  have hU_51 := gT_new hU_51 eG (by decide)
  have m93 := (el_kept (hx9 _ _ hg77).2).trans m86
  have m94 := (el_kept (hx9 _ _ hg77).2).trans m87
  have m95 := (el_kept (hx9 _ _ hg77).2).trans m88
  have m96 := (el_kept (hx9 _ _ hg77).2).trans m89
  have m97 := (el_kept (hx9 _ _ hg77).2).trans m90
  have m98 := (el_kept (hx9 _ _ hg77).2).trans m91
  have m99 := (el_kept (hx9 _ _ hg77).2).trans m85
  have hg100 := (hx9 _ _ hg77).1
  have hg101 := (hx9 _ _ hg78).1
  have hg102 := (hx9 _ _ hg79).1
  have hg103 := (hx9 _ _ hg80).1
  have hg104 := (hx9 _ _ hg81).1
  have hg105 := (hx9 _ _ hg82).1
  have hg106 := (hx9 _ _ hg83).1
  have hg107 := (hx9 _ _ hg84).1
  have hg108 : G8 q92 = some 107 := by rw [eG]; exact gU_at
  refine lv_dup hx hb dX0_init_64 rfl ?_
  have hFc := gA_free hG hA hS
  have hz9 := hS.1
  refine va_callv (va_runIN (As := []) (rest := [.ref q92, .ref o0]) ⟨hx, hb, hml, hown, hts⟩ (n_X4 l dC dI kA adK adV G8 H 0 0 q92 hT hg108 (by omega) (by omega)) ⟨va_cnB 0 hts (goodIn_ca (goodIn_r _ [18, 19, 2, 3, 6, 20, 21, 22, 23, 24, 25, 26, 27, 28, 29, 12, 30] rfl (by decide +kernel)) (bs2_in _ _)) rfl rfl rfl (hE.nm 104 rfl) (ht_at2 hts 16 rfl) (by decide +kernel) ⟨(Nat.le_of_ble_eq_true rfl), (Nat.le_of_ble_eq_true rfl)⟩, rfl, (ht_at2 hts 30 rfl)⟩ ⟨fun a U g mk q => by obtain ⟨q0, q1, qK, qE, qA⟩ := q; exact ⟨q0, q1, va_K.moved (u := U) (U := U.calling g mk a) (Vm.Alike.refl U.vm) qK, EVC.blind g mk a qE, AO.blind g mk a qA⟩, fun U hU hW => ⟨rfl, hU, va_K.moved hW.alike hK, hE.call hS hFc hU hW, hAO.call hW⟩⟩ rfl rfl hl.1 rfl (lv_room (Nat.le_of_ble_eq_true rfl)) dX0_init_65 ⟨(Nat.le_of_ble_eq_true rfl), (Nat.le_of_ble_eq_true rfl)⟩) hS (fun q _ h => hFc q h) hFc (fun G9 t H locs ht hvm _ hB _ _ hS => ?_)
  (try dsimp only at hB); rw [ht] at hB; obtain ⟨hT, hg109, hY1⟩ := hB
  have hY := hY.call hn_q92 hY1 hz9 (by decide)
  have hG := hY.A hG0 hAo hA
  have hU_51 := gT_call hU_51 hY1 (by decide)
  have m110 := (el_kept (hY1.1 _ _ (gne hg100 hg108 (by decide)) hg100).2).trans m93
  have m111 := (el_kept (hY1.1 _ _ (gne hg100 hg108 (by decide)) hg100).2).trans m94
  have m112 := (el_kept (hY1.1 _ _ (gne hg100 hg108 (by decide)) hg100).2).trans m95
  have m113 := (el_kept (hY1.1 _ _ (gne hg100 hg108 (by decide)) hg100).2).trans m96
  have m114 := (el_kept (hY1.1 _ _ (gne hg100 hg108 (by decide)) hg100).2).trans m97
  have m115 := (el_kept (hY1.1 _ _ (gne hg100 hg108 (by decide)) hg100).2).trans m98
  have m116 := (el_kept (hY1.1 _ _ (gne hg100 hg108 (by decide)) hg100).2).trans m99
  have hg117 := (hY1.1 _ _ (gne hg100 hg108 (by decide)) hg100).1
  have hg118 := (hY1.1 _ _ (gne hg101 hg108 (by decide)) hg101).1
  have hg119 := (hY1.1 _ _ (gne hg102 hg108 (by decide)) hg102).1
  have hg120 := (hY1.1 _ _ (gne hg103 hg108 (by decide)) hg103).1
  have hg121 := (hY1.1 _ _ (gne hg104 hg108 (by decide)) hg104).1
  have hg122 := (hY1.1 _ _ (gne hg105 hg108 (by decide)) hg105).1
  have hg123 := (hY1.1 _ _ (gne hg106 hg108 (by decide)) hg106).1
  have hg124 := (hY1.1 _ _ (gne hg107 hg108 (by decide)) hg107).1
  refine tw_put (v := .ref q92) (ty := (.object "SeaLand$Law")) hx hb hts bF2_X0 tyX0 tyX0_ok nmX0 hown hK hT hG hS hg117 shc_103 rfl 7 (by decide) (ht_at2 hts 31 rfl) (fun _ h9 => h9) rfl (by decide +kernel) rfl rfl (gl_at rfl ⟨some _, rfl, fun _ h => by cases h; exact hg109⟩) dX0_init_68 (fun H locs hT oq m125 oj hS => ?_)
  have hY := hY.put oq
  have m126 := (oj 0 (by decide) (by decide)).trans m110
  have m127 := (oj 1 (by decide) (by decide)).trans m111
  have m128 := (oj 2 (by decide) (by decide)).trans m112
  have m129 := (oj 3 (by decide) (by decide)).trans m113
  have m130 := (oj 4 (by decide) (by decide)).trans m114
  have m131 := (oj 5 (by decide) (by decide)).trans m115
  have m132 := (oj 6 (by decide) (by decide)).trans m116
  refine lv_aload_n hx hb dX0_init_71 rfl (lv_at hl 0 rfl) ?_
  have hz9 := hS.1
  refine tw_new hx hb hts bF2_X4 tyX4 tyX4_ok hown (ht_at2 hts 14 rfl) (ht_at2 hts 15 rfl) (ht_at2 hts 16 rfl) hK mon_c hT hS hG hA (shc_107) rfl nd_107 (Nat.le_of_ble_eq_true rfl) (Nat.le_of_ble_eq_true rfl) dX0_init_72 (fun q133 G10 H hq9 eG hz1 hz2 hT hx9 hG hm9 hS => ?_)
  have hn_q133 : s.heap.size ≤ q133 := Nat.le_trans hz9 (Nat.le_of_eq hz2)
  have hY := hY.new hn_q133 eG hx9 (by decide)
  have hU_51 := gT_new hU_51 eG (by decide)
  have m134 := (el_kept (hx9 _ _ hg117).2).trans m126
  have m135 := (el_kept (hx9 _ _ hg117).2).trans m127
  have m136 := (el_kept (hx9 _ _ hg117).2).trans m128
  have m137 := (el_kept (hx9 _ _ hg117).2).trans m129
  have m138 := (el_kept (hx9 _ _ hg117).2).trans m130
  have m139 := (el_kept (hx9 _ _ hg117).2).trans m131
  have m140 := (el_kept (hx9 _ _ hg117).2).trans m132
  have m141 := (el_kept (hx9 _ _ hg117).2).trans m125
  have hg142 := (hx9 _ _ hg117).1
  have hg143 := (hx9 _ _ hg118).1
  have hg144 := (hx9 _ _ hg119).1
  have hg145 := (hx9 _ _ hg120).1
  have hg146 := (hx9 _ _ hg121).1
  have hg147 := (hx9 _ _ hg122).1
  have hg148 := (hx9 _ _ hg123).1
  have hg149 := (hx9 _ _ hg124).1
  have hg150 := (hx9 _ _ hg109).1
  have hg151 : G10 q133 = some 107 := by rw [eG]; exact gU_at
  refine lv_dup hx hb dX0_init_75 rfl ?_
  have hFc := gA_free hG hA hS
  have hz9 := hS.1
  refine va_callv (va_runIN (As := []) (rest := [.ref q133, .ref o0]) ⟨hx, hb, hml, hown, hts⟩ (n_X4 l dC dI kA adK adV G10 H 0 0 q133 hT hg151 (by omega) (by omega)) ⟨va_cnB 0 hts (goodIn_ca (goodIn_r _ [18, 19, 2, 3, 6, 20, 21, 22, 23, 24, 25, 26, 27, 28, 29, 12, 30] rfl (by decide +kernel)) (bs2_in _ _)) rfl rfl rfl (hE.nm 104 rfl) (ht_at2 hts 16 rfl) (by decide +kernel) ⟨(Nat.le_of_ble_eq_true rfl), (Nat.le_of_ble_eq_true rfl)⟩, rfl, (ht_at2 hts 30 rfl)⟩ ⟨fun a U g mk q => by obtain ⟨q0, q1, qK, qE, qA⟩ := q; exact ⟨q0, q1, va_K.moved (u := U) (U := U.calling g mk a) (Vm.Alike.refl U.vm) qK, EVC.blind g mk a qE, AO.blind g mk a qA⟩, fun U hU hW => ⟨rfl, hU, va_K.moved hW.alike hK, hE.call hS hFc hU hW, hAO.call hW⟩⟩ rfl rfl hl.1 rfl (lv_room (Nat.le_of_ble_eq_true rfl)) dX0_init_76 ⟨(Nat.le_of_ble_eq_true rfl), (Nat.le_of_ble_eq_true rfl)⟩) hS (fun q _ h => hFc q h) hFc (fun G11 t H locs ht hvm _ hB _ _ hS => ?_)
  (try dsimp only at hB); rw [ht] at hB; obtain ⟨hT, hg152, hY1⟩ := hB
  have hY := hY.call hn_q133 hY1 hz9 (by decide)
  have hG := hY.A hG0 hAo hA
  have hU_51 := gT_call hU_51 hY1 (by decide)
  have m153 := (el_kept (hY1.1 _ _ (gne hg142 hg151 (by decide)) hg142).2).trans m134
  have m154 := (el_kept (hY1.1 _ _ (gne hg142 hg151 (by decide)) hg142).2).trans m135
  have m155 := (el_kept (hY1.1 _ _ (gne hg142 hg151 (by decide)) hg142).2).trans m136
  have m156 := (el_kept (hY1.1 _ _ (gne hg142 hg151 (by decide)) hg142).2).trans m137
  have m157 := (el_kept (hY1.1 _ _ (gne hg142 hg151 (by decide)) hg142).2).trans m138
  have m158 := (el_kept (hY1.1 _ _ (gne hg142 hg151 (by decide)) hg142).2).trans m139
  have m159 := (el_kept (hY1.1 _ _ (gne hg142 hg151 (by decide)) hg142).2).trans m140
  have m160 := (el_kept (hY1.1 _ _ (gne hg142 hg151 (by decide)) hg142).2).trans m141
  have hg161 := (hY1.1 _ _ (gne hg142 hg151 (by decide)) hg142).1
  have hg162 := (hY1.1 _ _ (gne hg143 hg151 (by decide)) hg143).1
  have hg163 := (hY1.1 _ _ (gne hg144 hg151 (by decide)) hg144).1
  have hg164 := (hY1.1 _ _ (gne hg145 hg151 (by decide)) hg145).1
  have hg165 := (hY1.1 _ _ (gne hg146 hg151 (by decide)) hg146).1
  have hg166 := (hY1.1 _ _ (gne hg147 hg151 (by decide)) hg147).1
  have hg167 := (hY1.1 _ _ (gne hg148 hg151 (by decide)) hg148).1
  have hg168 := (hY1.1 _ _ (gne hg149 hg151 (by decide)) hg149).1
  have hg169 := (hY1.1 _ _ (gne hg150 hg151 (by decide)) hg150).1
  refine tw_put (v := .ref q133) (ty := (.object "SeaLand$Law")) hx hb hts bF2_X0 tyX0 tyX0_ok nmX0 hown hK hT hG hS hg161 shc_103 rfl 8 (by decide) (ht_at2 hts 32 rfl) (fun _ h9 => h9) rfl (by decide +kernel) rfl rfl (gl_at rfl ⟨some _, rfl, fun _ h => by cases h; exact hg152⟩) dX0_init_79 (fun H locs hT oq m170 oj hS => ?_)
  have hY := hY.put oq
  have m171 := (oj 0 (by decide) (by decide)).trans m153
  have m172 := (oj 1 (by decide) (by decide)).trans m154
  have m173 := (oj 2 (by decide) (by decide)).trans m155
  have m174 := (oj 3 (by decide) (by decide)).trans m156
  have m175 := (oj 4 (by decide) (by decide)).trans m157
  have m176 := (oj 5 (by decide) (by decide)).trans m158
  have m177 := (oj 6 (by decide) (by decide)).trans m159
  have m178 := (oj 7 (by decide) (by decide)).trans m160
  refine lv_aload_n hx hb dX0_init_82 rfl (lv_at hl 0 rfl) ?_
  have hz9 := hS.1
  refine tw_new hx hb hts bF2_X4 tyX4 tyX4_ok hown (ht_at2 hts 14 rfl) (ht_at2 hts 15 rfl) (ht_at2 hts 16 rfl) hK mon_c hT hS hG hA (shc_107) rfl nd_107 (Nat.le_of_ble_eq_true rfl) (Nat.le_of_ble_eq_true rfl) dX0_init_83 (fun q179 G12 H hq9 eG hz1 hz2 hT hx9 hG hm9 hS => ?_)
  have hn_q179 : s.heap.size ≤ q179 := Nat.le_trans hz9 (Nat.le_of_eq hz2)
  have hY := hY.new hn_q179 eG hx9 (by decide)
  have hU_51 := gT_new hU_51 eG (by decide)
  have m180 := (el_kept (hx9 _ _ hg161).2).trans m171
  have m181 := (el_kept (hx9 _ _ hg161).2).trans m172
  have m182 := (el_kept (hx9 _ _ hg161).2).trans m173
  have m183 := (el_kept (hx9 _ _ hg161).2).trans m174
  have m184 := (el_kept (hx9 _ _ hg161).2).trans m175
  have m185 := (el_kept (hx9 _ _ hg161).2).trans m176
  have m186 := (el_kept (hx9 _ _ hg161).2).trans m177
  have m187 := (el_kept (hx9 _ _ hg161).2).trans m178
  have m188 := (el_kept (hx9 _ _ hg161).2).trans m170
  have hg189 := (hx9 _ _ hg161).1
  have hg190 := (hx9 _ _ hg162).1
  have hg191 := (hx9 _ _ hg163).1
  have hg192 := (hx9 _ _ hg164).1
  have hg193 := (hx9 _ _ hg165).1
  have hg194 := (hx9 _ _ hg166).1
  have hg195 := (hx9 _ _ hg167).1
  have hg196 := (hx9 _ _ hg168).1
  have hg197 := (hx9 _ _ hg169).1
  have hg198 := (hx9 _ _ hg152).1
  have hg199 : G12 q179 = some 107 := by rw [eG]; exact gU_at
  refine lv_dup hx hb dX0_init_86 rfl ?_
  have hFc := gA_free hG hA hS
  have hz9 := hS.1
  refine va_callv (va_runIN (As := []) (rest := [.ref q179, .ref o0]) ⟨hx, hb, hml, hown, hts⟩ (n_X4 l dC dI kA adK adV G12 H 0 0 q179 hT hg199 (by omega) (by omega)) ⟨va_cnB 0 hts (goodIn_ca (goodIn_r _ [18, 19, 2, 3, 6, 20, 21, 22, 23, 24, 25, 26, 27, 28, 29, 12, 30] rfl (by decide +kernel)) (bs2_in _ _)) rfl rfl rfl (hE.nm 104 rfl) (ht_at2 hts 16 rfl) (by decide +kernel) ⟨(Nat.le_of_ble_eq_true rfl), (Nat.le_of_ble_eq_true rfl)⟩, rfl, (ht_at2 hts 30 rfl)⟩ ⟨fun a U g mk q => by obtain ⟨q0, q1, qK, qE, qA⟩ := q; exact ⟨q0, q1, va_K.moved (u := U) (U := U.calling g mk a) (Vm.Alike.refl U.vm) qK, EVC.blind g mk a qE, AO.blind g mk a qA⟩, fun U hU hW => ⟨rfl, hU, va_K.moved hW.alike hK, hE.call hS hFc hU hW, hAO.call hW⟩⟩ rfl rfl hl.1 rfl (lv_room (Nat.le_of_ble_eq_true rfl)) dX0_init_87 ⟨(Nat.le_of_ble_eq_true rfl), (Nat.le_of_ble_eq_true rfl)⟩) hS (fun q _ h => hFc q h) hFc (fun G13 t H locs ht hvm _ hB _ _ hS => ?_)
  (try dsimp only at hB); rw [ht] at hB; obtain ⟨hT, hg200, hY1⟩ := hB
  have hY := hY.call hn_q179 hY1 hz9 (by decide)
  have hG := hY.A hG0 hAo hA
  have hU_51 := gT_call hU_51 hY1 (by decide)
  have m201 := (el_kept (hY1.1 _ _ (gne hg189 hg199 (by decide)) hg189).2).trans m180
  have m202 := (el_kept (hY1.1 _ _ (gne hg189 hg199 (by decide)) hg189).2).trans m181
  have m203 := (el_kept (hY1.1 _ _ (gne hg189 hg199 (by decide)) hg189).2).trans m182
  have m204 := (el_kept (hY1.1 _ _ (gne hg189 hg199 (by decide)) hg189).2).trans m183
  have m205 := (el_kept (hY1.1 _ _ (gne hg189 hg199 (by decide)) hg189).2).trans m184
  have m206 := (el_kept (hY1.1 _ _ (gne hg189 hg199 (by decide)) hg189).2).trans m185
  have m207 := (el_kept (hY1.1 _ _ (gne hg189 hg199 (by decide)) hg189).2).trans m186
  have m208 := (el_kept (hY1.1 _ _ (gne hg189 hg199 (by decide)) hg189).2).trans m187
  have m209 := (el_kept (hY1.1 _ _ (gne hg189 hg199 (by decide)) hg189).2).trans m188
  have hg210 := (hY1.1 _ _ (gne hg189 hg199 (by decide)) hg189).1
  have hg211 := (hY1.1 _ _ (gne hg190 hg199 (by decide)) hg190).1
  have hg212 := (hY1.1 _ _ (gne hg191 hg199 (by decide)) hg191).1
  have hg213 := (hY1.1 _ _ (gne hg192 hg199 (by decide)) hg192).1
  have hg214 := (hY1.1 _ _ (gne hg193 hg199 (by decide)) hg193).1
  have hg215 := (hY1.1 _ _ (gne hg194 hg199 (by decide)) hg194).1
  have hg216 := (hY1.1 _ _ (gne hg195 hg199 (by decide)) hg195).1
  have hg217 := (hY1.1 _ _ (gne hg196 hg199 (by decide)) hg196).1
  have hg218 := (hY1.1 _ _ (gne hg197 hg199 (by decide)) hg197).1
  have hg219 := (hY1.1 _ _ (gne hg198 hg199 (by decide)) hg198).1
  refine tw_put (v := .ref q179) (ty := (.object "SeaLand$Law")) hx hb hts bF2_X0 tyX0 tyX0_ok nmX0 hown hK hT hG hS hg210 shc_103 rfl 9 (by decide) (ht_at2 hts 33 rfl) (fun _ h9 => h9) rfl (by decide +kernel) rfl rfl (gl_at rfl ⟨some _, rfl, fun _ h => by cases h; exact hg200⟩) dX0_init_90 (fun H locs hT oq m220 oj hS => ?_)
  have hY := hY.put oq
  have m221 := (oj 0 (by decide) (by decide)).trans m201
  have m222 := (oj 1 (by decide) (by decide)).trans m202
  have m223 := (oj 2 (by decide) (by decide)).trans m203
  have m224 := (oj 3 (by decide) (by decide)).trans m204
  have m225 := (oj 4 (by decide) (by decide)).trans m205
  have m226 := (oj 5 (by decide) (by decide)).trans m206
  have m227 := (oj 6 (by decide) (by decide)).trans m207
  have m228 := (oj 7 (by decide) (by decide)).trans m208
  have m229 := (oj 8 (by decide) (by decide)).trans m209
  refine lv_aload_n hx hb dX0_init_93 rfl (lv_at hl 0 rfl) ?_
  refine lv_iconst (v := (-1)) hx hb dX0_init_94 (by decide) ?_
  refine tw_put (v := .int (-1)) (ty := .int) hx hb hts bF2_X0 tyX0 tyX0_ok nmX0 hown hK hT hG hS hg210 shc_103 rfl 10 (by decide) (ht_at2 hts 34 rfl) (fun _ h9 => h9) rfl (by decide +kernel) rfl rfl (gl_at rfl (gi_all _)) dX0_init_95 (fun H locs hT oq m230 oj hS => ?_)
  have hY := hY.put oq
  have m231 := (oj 0 (by decide) (by decide)).trans m221
  have m232 := (oj 1 (by decide) (by decide)).trans m222
  have m233 := (oj 2 (by decide) (by decide)).trans m223
  have m234 := (oj 3 (by decide) (by decide)).trans m224
  have m235 := (oj 4 (by decide) (by decide)).trans m225
  have m236 := (oj 5 (by decide) (by decide)).trans m226
  have m237 := (oj 6 (by decide) (by decide)).trans m227
  have m238 := (oj 7 (by decide) (by decide)).trans m228
  have m239 := (oj 8 (by decide) (by decide)).trans m229
  have m240 := (oj 9 (by decide) (by decide)).trans m220
  refine lv_aload_n hx hb dX0_init_98 rfl (lv_at hl 0 rfl) ?_
  refine tw_getM (v := .ref q5) hx hb hts bF2_X0 hown hK hT hg210 shc_103 rfl 1 (by decide) (ht_at2 hts 6 rfl) (fun _ h9 => h9) m232 dX0_init_99 ?_
  refine lv_iconst (v := (-1)) hx hb dX0_init_102 (by decide) ?_
  have hi9 : ∀ (G G' : gT) (k : Nat) (v : Value), (ga (gI (-2147483648) 2147483647)) G k v → (ga (gI (-2147483648) 2147483647)) G' k v := fun _ _ _ _ h => h
  have hz8 := hS.1
  have hT1 := hT.one hg212 shc_52 hi9
  have hFc := gA_one (t := 52) (sz := H.size) (hG _ _ hg212) (fun q hq => hA q (Nat.le_trans hS.1 hq))
  have hTo := hT
  refine va_callv (va_runS (As := [.ref q5, .int (-1)]) (rest := []) ⟨hx, hb, hml, hown, hts⟩ (c_fill_farmOf l dC dI kA adK adV (gU (fun _ => none) q5 52) H 0 0 q5 (-1) hT1 gU_at (by omega) (by omega)) (va_cwS 2 hts (goodIn_app (goodIn_r _ [37, 38, 39] rfl (by decide +kernel)) (goodIn_ca (goodIn_r _ [36] rfl (by decide +kernel)) (bs2_in _ _))) rfl rfl rfl (by decide +kernel) ⟨(Nat.le_of_ble_eq_true rfl), (Nat.le_of_ble_eq_true rfl)⟩) ⟨fun a U g mk q => by obtain ⟨q0, q1, qK, qE⟩ := q; exact ⟨q0, q1, va_K.moved (u := U) (U := U.calling g mk a) (Vm.Alike.refl U.vm) qK, EVC.blind g mk a qE⟩, fun U hU hW => ⟨rfl, hU, va_K.moved hW.alike hK, hE.call hS hFc hU hW⟩⟩ rfl rfl hl.1 rfl (lv_room (Nat.le_of_ble_eq_true rfl)) dX0_init_103 ⟨(Nat.le_of_ble_eq_true rfl), (Nat.le_of_ble_eq_true rfl)⟩) hS (fun q _ h => hFc q h) hFc (fun u t H locs ht hvm _ hB hz1 hk1 hS => ?_)
  (try dsimp only at hB); rw [ht] at hB; have hk2 : ∀ q, q < _ → q ≠ q5 → H[q]? = _ := fun q h1 h2 => hk1 q h1 (gA_not h1 h2)
  have hT := hTo.back hg212 shc_52 hi9 hB.1 hk2
  have hY := hY.put1 hn_q5 (fun q h1 h2 => hk2 q (Nat.lt_of_lt_of_le h1 hz8) h2)
  have m241 := (el_kept (hk2 _ (hTo.lt hg210) (gne hg210 hg212 (by decide)))).trans m231
  have m242 := (el_kept (hk2 _ (hTo.lt hg210) (gne hg210 hg212 (by decide)))).trans m232
  have m243 := (el_kept (hk2 _ (hTo.lt hg210) (gne hg210 hg212 (by decide)))).trans m233
  have m244 := (el_kept (hk2 _ (hTo.lt hg210) (gne hg210 hg212 (by decide)))).trans m234
  have m245 := (el_kept (hk2 _ (hTo.lt hg210) (gne hg210 hg212 (by decide)))).trans m235
  have m246 := (el_kept (hk2 _ (hTo.lt hg210) (gne hg210 hg212 (by decide)))).trans m236
  have m247 := (el_kept (hk2 _ (hTo.lt hg210) (gne hg210 hg212 (by decide)))).trans m237
  have m248 := (el_kept (hk2 _ (hTo.lt hg210) (gne hg210 hg212 (by decide)))).trans m238
  have m249 := (el_kept (hk2 _ (hTo.lt hg210) (gne hg210 hg212 (by decide)))).trans m239
  have m250 := (el_kept (hk2 _ (hTo.lt hg210) (gne hg210 hg212 (by decide)))).trans m240
  have m251 := (el_kept (hk2 _ (hTo.lt hg210) (gne hg210 hg212 (by decide)))).trans m230
  have hT := hT.grown (t := 3) mon_c hg210 (by decide) (by
    have h8 := hT _ _ hg210; rw [shc_103] at h8; rw [shc_3]
    refine gC.grow h8 (fun k v hk hm hv => match k, hk, hm, hv with
      | 0, _, hm, hv => gl_at rfl (by obtain rfl : v = .ref q1 := Option.some.inj (hm.symm.trans m241); exact ⟨_, rfl, (gU_ne (gne hg211 hg210 (by decide))).trans hg211⟩)
      | 1, _, hm, hv => gl_at rfl (by obtain rfl : v = .ref q5 := Option.some.inj (hm.symm.trans m242); exact ⟨_, rfl, (gU_ne (gne hg212 hg210 (by decide))).trans hg212⟩)
      | 2, _, hm, hv => gl_at rfl (by obtain rfl : v = .ref q12 := Option.some.inj (hm.symm.trans m243); exact ⟨_, rfl, (gU_ne (gne hg213 hg210 (by decide))).trans hg213⟩)
      | 3, _, hm, hv => gl_at rfl (by obtain rfl : v = .ref q22 := Option.some.inj (hm.symm.trans m244); exact ⟨_, rfl, (gU_ne (gne hg214 hg210 (by decide))).trans hg214⟩)
      | 4, _, hm, hv => gl_at rfl (by obtain rfl : v = .ref q35 := Option.some.inj (hm.symm.trans m245); exact ⟨_, rfl, (gU_ne (gne hg215 hg210 (by decide))).trans hg215⟩)
      | 5, _, hm, hv => gl_at rfl (by obtain rfl : v = .ref q51 := Option.some.inj (hm.symm.trans m246); exact ⟨_, rfl, (gU_ne (gne hg216 hg210 (by decide))).trans hg216⟩)
      | 6, _, hm, hv => gl_at rfl (by obtain rfl : v = .ref q70 := Option.some.inj (hm.symm.trans m247); exact ⟨_, rfl, (gU_ne (gne hg217 hg210 (by decide))).trans hg217⟩)
      | 7, _, hm, hv => gl_at rfl (by obtain rfl : v = .ref q92 := Option.some.inj (hm.symm.trans m248); exact ⟨_, rfl, (gU_ne (gne hg218 hg210 (by decide))).trans hg218⟩)
      | 8, _, hm, hv => gl_at rfl (by obtain rfl : v = .ref q133 := Option.some.inj (hm.symm.trans m249); exact ⟨_, rfl, (gU_ne (gne hg219 hg210 (by decide))).trans hg219⟩)
      | 9, _, hm, hv => gl_at rfl (by obtain rfl : v = .ref q179 := Option.some.inj (hm.symm.trans m250); exact ⟨_, rfl, (gU_ne (gne hg200 hg210 (by decide))).trans hg200⟩)
      | 10, _, hm, hv => gl_at rfl (hv _ rfl)
      | 11, _, hm, hv => gl_at rfl (hv _ rfl)
      | 12, _, hm, hv => gl_at rfl (hv _ rfl)
      | 13, _, hm, hv => gl_at rfl (hv _ rfl)
      | 14, _, hm, hv => gl_at rfl (hv _ rfl)
      | 15, _, hm, hv => gl_at rfl (hv _ rfl)
      | 16, _, hm, hv => gl_at rfl (hv _ rfl)
      | 17, _, hm, hv => gl_at rfl (hv _ rfl)
      | k + 18, hk, _, _ => absurd hk (by omega)))
  have hY := hY.grow
  have hU_51 := gT_new (q := o0) (t := 3) hU_51 rfl (by decide)
  exact W.vret hx hb hr (fun t ht hW => ⟨⟨_, rfl, trivial, by (try dsimp only); rw [ht]; exact ⟨hT, gU_at, hY, ⟨_, hU_51⟩⟩⟩, hS.F ht⟩) hS.2.2 dX0_init_106
def w_n_X3 : List Cond := .code yX3_init cX3_init 2 none :: (HAppend.hAppend (α := List Cond) (β := List Cond) (γ := List Cond) [.methodLink RX3 3 objectInit, .instanceMethod objectInit, .code objectInit ⟨#[0xb1]⟩ 1 none, .classLink RX3 9 RX8, .instantiable RX8 7, .initialized RX8, .code yX8_init cX8_init 1 none, .methodLink RX8 3 objectInit, .arrayClass .int, .fieldLink RX8 9 "SeaLand$Sky" "tides" "[I", .fieldLink RX8 15 "SeaLand$Sky" "stormFrom" "[I", .fieldLink RX8 18 "SeaLand$Sky" "stormTo" "[I", .fieldLink RX8 21 "SeaLand$Sky" "stormMore" "[I", .classLink RX8 24 RX9, .instantiable RX9 3, .initialized RX9, .code yX9_init cX9_init 1 none, .methodLink RX9 3 objectInit, .fieldLink RX9 9 "SeaLand$Tellings" "hours" "[I", .fieldLink RX9 15 "SeaLand$Tellings" "numbers" "[I", .instanceMethod yX9_init, .fieldLink RX8 27 "SeaLand$Sky" "wind" "LSeaLand$Tellings;", .fieldLink RX8 31 "SeaLand$Sky" "rain" "LSeaLand$Tellings;", .instanceMethod yX8_init, .fieldLink RX3 12 "SeaLand$Lake" "sky" "LSeaLand$Sky;", .classLink RX3 18 RX2, .instantiable RX2 15, .initialized RX2, .code yX2_init cX2_init 1 none, .methodLink RX2 3 objectInit, .arrayClass .boolean, .fieldLink RX2 9 "SeaLand$Ground" "isLand" "[Z", .fieldLink RX2 15 "SeaLand$Ground" "height" "[I", .fieldLink RX2 19 "SeaLand$Ground" "soil" "[I", .fieldLink RX2 22 "SeaLand$Ground" "ditch" "[I", .fieldLink RX2 25 "SeaLand$Ground" "water" "[I", .fieldLink RX2 28 "SeaLand$Ground" "salt" "[I", .fieldLink RX2 31 "SeaLand$Ground" "dry" "[I", .fieldLink RX2 34 "SeaLand$Ground" "wet" "[I", .fieldLink RX2 37 "SeaLand$Ground" "ditchTo" "[I", .fieldLink RX2 40 "SeaLand$Ground" "ditchWater" "[I", .fieldLink RX2 43 "SeaLand$Ground" "ditchSalt" "[I", .instanceMethod yX2_init, .fieldLink RX3 21 "SeaLand$Lake" "ground" "LSeaLand$Ground;", .classLink RX3 25 RX10, .fieldLink RX3 27 "SeaLand$Lake" "works" "[LSeaLand$Work;", .instantiable RX10 12, .initialized RX10, .code yX10_init cX10_init 1 none, .methodLink RX10 3 objectInit, .fieldLink RX10 9 "SeaLand$Work" "thick" "[I", .fieldLink RX10 15 "SeaLand$Work" "clay" "[I", .instanceMethod yX10_init] bs2)
set_option maxHeartbeats 4000000 in
set_option maxRecDepth 100000 in
theorem n_X3 (l : Launch) (dC : Nat → ClassId) (dI : Nat → Nat → Nat) (kA : Nat → ClassId) (adK adV : Nat → Nat) (G : gT) (H0 : Heap) (nC nS : Int) (o0 : Nat) (hT : gH (dC, dI) kA (SHc nC nS) G H0) (hr_o0 : G o0 = some 106) (hgC : 0 ≤ nC ∧ nC ≤ 40) (hgS : 0 ≤ nS ∧ nS ≤ 60) : Met l yX3_init w_n_X3 ({ frames := 3, cells := 114, slots := 2146, locals := 86 }) (va_Pc [.ref o0] (fun U => U.heap = H0 ∧ va_K (dC, dI) vwCl (tyl kA) U ∧ EVC adK adV (gA G H0.size) U U.heap ∧ AO U)) (va_Qv (fun (u : gT) => True) (fun (G1 : gT) (t : State) => gH (dC, dI) kA (SHc nC nS) G1 t.heap ∧ G1 o0 = some 6 ∧ gY ([5, 11, 12, 13, 18, 19, 20, 21, 22, 23, 24, 25, 26, 27, 28, 29, 30, 31, 32, 33, 34, 35, 36, 37, 99, 105, 111, 112, 113] : List Nat) 6 o0 G G1 H0 t.heap) (gA G H0.size)) 114 2146 (gA G H0.size) := by
  refine Met.ofW (cc := cX3_init) (maxL := 2) (ret := none) (by decide) rfl ?_
  intro p e s m args below meth c s₁ B hml hv
  obtain ⟨rfl, hH0, hK, hE, hAO⟩ := hv
  have hx := B.exec
  have hb := B.bytes
  have hr := B.returns
  have hts := atoms_spec (ws := w_n_X3) B.pre
  have hown : s.vm.findClass RX3 = some m.cls := findClass_of_methodNamed B.named
  have hlocks := B.notSynchronized
  have hin : meth.name = "<init>" := (name_of_methodNamed B.named B.method).1
  subst hH0
  generalize hAe : gA G s.heap.size = A at hE ⊢
  have hA : ∀ q : Nat, s.heap.size ≤ q → A q := fun q h => by rw [← hAe]; exact Or.inr h
  have hG := gA_of hAe
  have hS : va_S A s.heap s.heap [] := va_S.rf
  have hl := lv_entry ([.ref o0]) (n := 2) (Nat.le_of_ble_eq_true rfl)
  rw [lg_entry_eq]
  generalize (lg_sl ([.ref o0]) ++ List.replicate (2 - (lg_sl ([.ref o0])).length) Slot.unset).toArray = ls at hl ⊢
  have hl : lv_has ls 2 [(0, .ref o0)] := hl
  have hG0 := hG
  have hY : gY ([5, 11, 12, 13, 18, 19, 20, 21, 22, 23, 24, 25, 26, 27, 28, 29, 30, 31, 32, 33, 34, 35, 36, 37, 99, 105, 111, 112, 113] : List Nat) 6 o0 G G s.heap s.heap := gY.rf hT
  have hAo := hG _ _ hr_o0
  refine lv_aload_n hx hb dX3_init_0 rfl (lv_at hl 0 rfl) ?_
  refine W.objInit hx hb hown (ht_at2 hts 0 rfl) (ht_at2 hts 1 rfl) (ht_at2 hts 2 rfl) rfl (by rw [hml]; exact hl.1) rfl dX3_init_1 (Nat.le_of_ble_eq_true rfl) (Nat.le_of_ble_eq_true rfl) ?_
  refine W.eq (g2 := F0 m 4 ls []) rfl ?_
  refine lv_aload_n hx hb dX3_init_4 rfl (lv_at hl 0 rfl) ?_
  have hz9 := hS.1
  refine tw_new hx hb hts bF2_X8 tyX8 tyX8_ok hown (ht_at2 hts 3 rfl) (ht_at2 hts 4 rfl) (ht_at2 hts 5 rfl) hK mon_c hT hS hG hA (shc_111) rfl nd_111 (Nat.le_of_ble_eq_true rfl) (Nat.le_of_ble_eq_true rfl) dX3_init_5 (fun q1 G1 H hq9 eG hz1 hz2 hT hx9 hG hm9 hS => ?_)
  have hn_q1 : s.heap.size ≤ q1 := Nat.le_trans hz9 (Nat.le_of_eq hz2)
  have hY := hY.new hn_q1 eG hx9 (by decide)
  have hg2 := (hx9 _ _ hr_o0).1
  have hg3 : G1 q1 = some 111 := by rw [eG]; exact gU_at
  refine lv_dup hx hb dX3_init_8 rfl ?_
  have hFc := gA_free hG hA hS
  have hz9 := hS.1
  refine va_callv (va_runIN (As := []) (rest := [.ref q1, .ref o0]) ⟨hx, hb, hml, hown, hts⟩ (n_X8 l dC dI kA adK adV G1 H nC nS q1 hT hg3 (by omega) (by omega)) ⟨va_cnB 0 hts (goodIn_ca (goodIn_r _ [7, 8, 2, 3, 9, 10, 11, 12, 13, 14, 15, 16, 17, 18, 19, 20, 21, 22, 23] rfl (by decide +kernel)) (bs2_in _ _)) rfl rfl rfl (hE.nm 106 rfl) (ht_at2 hts 5 rfl) (by decide +kernel) ⟨(Nat.le_of_ble_eq_true rfl), (Nat.le_of_ble_eq_true rfl)⟩, rfl, (ht_at2 hts 23 rfl)⟩ ⟨fun a U g mk q => by obtain ⟨q0, q1, qK, qE, qA⟩ := q; exact ⟨q0, q1, va_K.moved (u := U) (U := U.calling g mk a) (Vm.Alike.refl U.vm) qK, EVC.blind g mk a qE, AO.blind g mk a qA⟩, fun U hU hW => ⟨rfl, hU, va_K.moved hW.alike hK, hE.call hS hFc hU hW, hAO.call hW⟩⟩ rfl rfl hl.1 rfl (lv_room (Nat.le_of_ble_eq_true rfl)) dX3_init_9 ⟨(Nat.le_of_ble_eq_true rfl), (Nat.le_of_ble_eq_true rfl)⟩) hS (fun q _ h => hFc q h) hFc (fun G2 t H locs ht hvm _ hB _ _ hS => ?_)
  (try dsimp only at hB); rw [ht] at hB; obtain ⟨hT, hg4, hY1⟩ := hB
  have hY := hY.call hn_q1 hY1 hz9 (by decide)
  have hG := hY.A hG0 hAo hA
  have hg5 := (hY1.1 _ _ (gne hg2 hg3 (by decide)) hg2).1
  refine tw_putF (v := .ref q1) (ty := (.object "SeaLand$Sky")) hx hb hts bF2_X3 tyX3 tyX3_ok nmX3 hown hK hT hG hS hg5 shc_106 rfl 0 (by decide) (ht_at2 hts 24 rfl) (fun _ h9 => h9) rfl hin rfl (by decide +kernel) rfl rfl (gl_at rfl ⟨some _, rfl, fun _ h => by cases h; exact hg4⟩) dX3_init_12 (fun H locs hT oq m6 oj hS => ?_)
  have hY := hY.put oq
  refine lv_aload_n hx hb dX3_init_15 rfl (lv_at hl 0 rfl) ?_
  have hz9 := hS.1
  refine tw_new hx hb hts bF2_X2 tyX2 tyX2_ok hown (ht_at2 hts 25 rfl) (ht_at2 hts 26 rfl) (ht_at2 hts 27 rfl) hK mon_c hT hS hG hA (shc_105) rfl nd_105 (Nat.le_of_ble_eq_true rfl) (Nat.le_of_ble_eq_true rfl) dX3_init_16 (fun q7 G3 H hq9 eG hz1 hz2 hT hx9 hG hm9 hS => ?_)
  have hn_q7 : s.heap.size ≤ q7 := Nat.le_trans hz9 (Nat.le_of_eq hz2)
  have hY := hY.new hn_q7 eG hx9 (by decide)
  have m8 := (el_kept (hx9 _ _ hg5).2).trans m6
  have hg9 := (hx9 _ _ hg5).1
  have hg10 := (hx9 _ _ hg4).1
  have hg11 : G3 q7 = some 105 := by rw [eG]; exact gU_at
  refine lv_dup hx hb dX3_init_19 rfl ?_
  have hFc := gA_free hG hA hS
  have hz9 := hS.1
  refine va_callv (va_runIN (As := []) (rest := [.ref q7, .ref o0]) ⟨hx, hb, hml, hown, hts⟩ (n_X2 l dC dI kA adK adV G3 H nC nS q7 hT hg11 (by omega) (by omega)) ⟨va_cnB 0 hts (goodIn_ca (goodIn_r _ [29, 30, 2, 3, 31, 32, 9, 33, 34, 35, 36, 37, 38, 39, 40, 41, 42] rfl (by decide +kernel)) (bs2_in _ _)) rfl rfl rfl (hE.nm 107 rfl) (ht_at2 hts 27 rfl) (by decide +kernel) ⟨(Nat.le_of_ble_eq_true rfl), (Nat.le_of_ble_eq_true rfl)⟩, rfl, (ht_at2 hts 42 rfl)⟩ ⟨fun a U g mk q => by obtain ⟨q0, q1, qK, qE, qA⟩ := q; exact ⟨q0, q1, va_K.moved (u := U) (U := U.calling g mk a) (Vm.Alike.refl U.vm) qK, EVC.blind g mk a qE, AO.blind g mk a qA⟩, fun U hU hW => ⟨rfl, hU, va_K.moved hW.alike hK, hE.call hS hFc hU hW, hAO.call hW⟩⟩ rfl rfl hl.1 rfl (lv_room (Nat.le_of_ble_eq_true rfl)) dX3_init_20 ⟨(Nat.le_of_ble_eq_true rfl), (Nat.le_of_ble_eq_true rfl)⟩) hS (fun q _ h => hFc q h) hFc (fun G4 t H locs ht hvm _ hB _ _ hS => ?_)
  (try dsimp only at hB); rw [ht] at hB; obtain ⟨hT, hg12, hY1⟩ := hB
  have hY := hY.call hn_q7 hY1 hz9 (by decide)
  have hG := hY.A hG0 hAo hA
  have m13 := (el_kept (hY1.1 _ _ (gne hg9 hg11 (by decide)) hg9).2).trans m8
  have hg14 := (hY1.1 _ _ (gne hg9 hg11 (by decide)) hg9).1
  have hg15 := (hY1.1 _ _ (gne hg10 hg11 (by decide)) hg10).1
  refine tw_putF (v := .ref q7) (ty := (.object "SeaLand$Ground")) hx hb hts bF2_X3 tyX3 tyX3_ok nmX3 hown hK hT hG hS hg14 shc_106 rfl 1 (by decide) (ht_at2 hts 43 rfl) (fun _ h9 => h9) rfl hin rfl (by decide +kernel) rfl rfl (gl_at rfl ⟨some _, rfl, fun _ h => by cases h; exact hg12⟩) dX3_init_23 (fun H locs hT oq m16 oj hS => ?_)
  have hY := hY.put oq
  have m17 := (oj 0 (by decide) (by decide)).trans m13
  refine lv_aload_n hx hb dX3_init_26 rfl (lv_at hl 0 rfl) ?_
  refine lv_bipush (v := 30) hx hb dX3_init_27 (by decide) ?_
  have hz9 := hS.1
  refine tw_newq hx hb hown (ht_at2 hts 44 rfl) (hAO _ (by decide)) hK mon_c hT hS hG hA (shc_99) rfl (fun _ _ _ => ⟨none, rfl, fun _ h => by cases h⟩) (by decide) rfl (Nat.le_of_ble_eq_true rfl) (Nat.le_of_ble_eq_true rfl) (Nat.le_of_ble_eq_true rfl) dX3_init_29 (fun q18 G5 H hq9 eG hz1 hz2 hT hx9 hG hm9 hS => ?_)
  have hn_q18 : s.heap.size ≤ q18 := Nat.le_trans hz9 (Nat.le_of_eq hz2)
  have hY := hY.new hn_q18 eG hx9 (by decide)
  have m19 := (el_kept (hx9 _ _ hg14).2).trans m17
  have m20 := (el_kept (hx9 _ _ hg14).2).trans m16
  have hg21 := (hx9 _ _ hg14).1
  have hg22 := (hx9 _ _ hg15).1
  have hg23 := (hx9 _ _ hg12).1
  have hg24 : G5 q18 = some 99 := by rw [eG]; exact gU_at
  refine tw_putF (v := .ref q18) (ty := (.array (.object "SeaLand$Work"))) hx hb hts bF2_X3 tyX3 tyX3_ok nmX3 hown hK hT hG hS hg21 shc_106 rfl 2 (by decide) (ht_at2 hts 45 rfl) (fun _ h9 => h9) rfl hin rfl (by decide +kernel) rfl rfl (gl_at rfl ⟨some _, rfl⟩) dX3_init_32 (fun H locs hT oq m25 oj hS => ?_)
  have hY := hY.put oq
  have m26 := (oj 0 (by decide) (by decide)).trans m19
  have m27 := (oj 1 (by decide) (by decide)).trans m20
  refine lv_iconst (v := 0) hx hb dX3_init_35 (by decide) ?_
  refine lv_istore_n (lv' := [(1, .int 0), (0, .ref o0)]) hx hb dX3_init_36 rfl hl (by decide) rfl (fun ls hl => ?_)
  have key9 : ∀ (n i : Nat), i + n = 30 → ∀ (G9 : gT) (H : Heap) (locs : List Loc), gH (dC, dI) kA (SHc nC nS) G9 H → gY ([5, 11, 12, 13, 18, 19, 20, 21, 22, 23, 24, 25, 26, 27, 28, 29, 30, 31, 32, 33, 34, 35, 36, 37, 99, 105, 111, 112, 113] : List Nat) 6 o0 G G9 s.heap H → va_S A s.heap H locs → G9 o0 = some 106 → G9 q1 = some 11 → G9 q7 = some 5 → G9 q18 = some 99 → el H o0 (dI 6 0) = some (.ref q1) → el H o0 (dI 6 1) = some (.ref q7) → el H o0 (dI 6 2) = some (.ref q18) → (∀ j, j < i → ∃ b, el H q18 j = some (.ref b) ∧ G9 b = some 13) → ∀ ls : Array Slot, lv_has ls 2 [(1, .int (nI i)), (0, .ref o0)] → W p l e (headSpec w_n_X3 ({ frames := 3, cells := 114, slots := 2146, locals := 86 })).room s m #[.ref o0] below meth c H locs (24 + 3 * i) (1426 + 24 * i) (MQ below (va_Qv (fun (u : gT) => True) (fun (G1 : gT) (t : State) => gH (dC, dI) kA (SHc nC nS) G1 t.heap ∧ G1 o0 = some 6 ∧ gY ([5, 11, 12, 13, 18, 19, 20, 21, 22, 23, 24, 25, 26, 27, 28, 29, 30, 31, 32, 33, 34, 35, 36, 37, 99, 105, 111, 112, 113] : List Nat) 6 o0 G G1 s.heap t.heap) A) #[.ref o0] s 114 2146 A) (F0 m 37 ls []) := by
    intro n
    induction n with
    | zero =>
      intro i hn9 G9 H locs hT hY hS hw0 hw1 hw2 hw3 mw0 mw1 mw2 hall ls hl
      obtain rfl : 30 = i := by omega
      have hG := hY.A hG0 hAo hA
      refine lv_iload_n hx hb dX3_init_37 rfl (lv_at hl 0 rfl) ?_
      refine lv_bipush (v := 30) hx hb dX3_init_38 (by decide) ?_
      refine lv_icmp_ge (tgt := 62) hx hb dX3_init_40 (by decide) (fun c9 => ?_) (fun c9 => (by exfalso; have q9 : ((30 : Nat) : Int) < 30 := ti_nle c9 (by decide) (nI_toInt (by omega)); omega))
      have hT := hT.grown (t := 18) mon_c hw3 (by decide) (by
        have h8 := hT _ _ hw3; rw [shc_99] at h8; rw [shc_18]
        exact gC.grow_arr h8 (fun k v hk hm hv => by obtain ⟨b9, e1, e2⟩ := hall k hk; obtain rfl : v = .ref b9 := Option.some.inj (hm.symm.trans e1); exact ⟨b9, rfl, (gU_ne (gne e2 hw3 (by decide))).trans e2⟩))
      have hY := hY.grow1 (t := 18) hn_q18 (by decide)
      have hg28 := (gU_ne (t := 18) (gne hw0 hw3 (by decide))).trans hw0
      have hg29 := (gU_ne (t := 18) (gne hw1 hw3 (by decide))).trans hw1
      have hg30 := (gU_ne (t := 18) (gne hw2 hw3 (by decide))).trans hw2
      have hgq9 := gU_at (G := G9) (q := q18) (t := 18)
      refine W.widen (k := 114) (n := 2146) (by decide) (by decide) ?_
      have hT := hT.grown (t := 6) mon_c hg28 (by decide) (by
        have h8 := hT _ _ hg28; rw [shc_106] at h8; rw [shc_6]
        refine gC.grow h8 (fun k v hk hm hv => match k, hk, hm, hv with
          | 0, _, hm, hv => gl_at rfl (by obtain rfl : v = .ref q1 := Option.some.inj (hm.symm.trans mw0); exact ⟨_, rfl, (gU_ne (gne hg29 hg28 (by decide))).trans hg29⟩)
          | 1, _, hm, hv => gl_at rfl (by obtain rfl : v = .ref q7 := Option.some.inj (hm.symm.trans mw1); exact ⟨_, rfl, (gU_ne (gne hg30 hg28 (by decide))).trans hg30⟩)
          | 2, _, hm, hv => gl_at rfl (by obtain rfl : v = .ref q18 := Option.some.inj (hm.symm.trans mw2); exact ⟨_, rfl, (gU_ne (gne hgq9 hg28 (by decide))).trans hgq9⟩)
          | 3, _, hm, hv => gl_at rfl (hv _ rfl)
          | 4, _, hm, hv => gl_at rfl (hv _ rfl)
          | k + 5, hk, _, _ => absurd hk (by omega)))
      have hY := hY.grow
      exact W.vret hx hb hr (fun t ht hW => ⟨⟨_, rfl, trivial, by (try dsimp only); rw [ht]; exact ⟨hT, gU_at, hY⟩⟩, hS.F ht⟩) hS.2.2 dX3_init_62
    | succ n ih9 =>
      intro i hn9 G9 H locs hT hY hS hw0 hw1 hw2 hw3 mw0 mw1 mw2 hall ls hl
      have hG := hY.A hG0 hAo hA
      refine lv_iload_n hx hb dX3_init_37 rfl (lv_at hl 0 rfl) ?_
      refine lv_bipush (v := 30) hx hb dX3_init_38 (by decide) ?_
      refine lv_icmp_ge (tgt := 62) hx hb dX3_init_40 (by decide) (fun c9 => (by exfalso; have q9 : 30 ≤ ((i : Nat) : Int) := ti_le c9 (by decide) (nI_toInt (by omega)); omega)) (fun c9 => ?_)
      refine lv_aload_n hx hb dX3_init_43 rfl (lv_at hl 1 rfl) ?_
      refine tw_getM (v := .ref q18) hx hb hts bF2_X3 hown hK hT hw0 shc_106 rfl 2 (by decide) (ht_at2 hts 45 rfl) (fun _ h9 => h9) mw2 dX3_init_44 ?_
      refine lv_iload_n hx hb dX3_init_47 rfl (lv_at hl 0 rfl) ?_
      have hz9 := hS.1
      refine tw_new hx hb hts bF2_X10 tyX10 tyX10_ok hown (ht_at2 hts 44 rfl) (ht_at2 hts 46 rfl) (ht_at2 hts 47 rfl) hK mon_c hT hS hG hA (shc_113) rfl nd_113 (show (24 + 3 * i) + 1 ≤ 114 from by omega) (show (1426 + 24 * i) + 12 ≤ 2146 from by omega) dX3_init_48 (fun q31 G6 H hq9 eG hz1 hz2 hT hx9 hG hm9 hS => ?_)
      have hn_q31 : s.heap.size ≤ q31 := Nat.le_trans hz9 (Nat.le_of_eq hz2)
      have hY := hY.new hn_q31 eG hx9 (by decide)
      have hall : ∀ j, j < i → ∃ b, el H q18 j = some (.ref b) ∧ G6 b = some 13 := fun j hj => by obtain ⟨b9, e1, e2⟩ := hall j hj; exact ⟨b9, (el_kept (hx9 _ _ hw3).2).trans e1, (hx9 _ _ e2).1⟩
      have m32 := (el_kept (hx9 _ _ hw0).2).trans mw0
      have m33 := (el_kept (hx9 _ _ hw0).2).trans mw1
      have m34 := (el_kept (hx9 _ _ hw0).2).trans mw2
      have hg35 := (hx9 _ _ hw0).1
      have hg36 := (hx9 _ _ hw1).1
      have hg37 := (hx9 _ _ hw2).1
      have hg38 := (hx9 _ _ hw3).1
      have hg39 : G6 q31 = some 113 := by rw [eG]; exact gU_at
      refine lv_dup hx hb dX3_init_51 rfl ?_
      have hFc := gA_free hG hA hS
      have hz9 := hS.1
      refine va_callv (va_runIN (As := []) (rest := [.ref q31, .int (nI i), .ref q18]) ⟨hx, hb, hml, hown, hts⟩ (n_X10 l dC dI kA adK adV G6 H nC nS q31 hT hg39 (by omega) (by omega)) ⟨va_cnB 0 hts (goodIn_ca (goodIn_r _ [49, 50, 2, 3, 9, 51, 52] rfl (by decide +kernel)) (bs2_in _ _)) rfl rfl rfl (hE.nm 108 rfl) (ht_at2 hts 47 rfl) (by decide +kernel) ⟨(Nat.le_of_ble_eq_true rfl), (Nat.le_of_ble_eq_true rfl)⟩, rfl, (ht_at2 hts 52 rfl)⟩ ⟨fun a U g mk q => by obtain ⟨q0, q1, qK, qE, qA⟩ := q; exact ⟨q0, q1, va_K.moved (u := U) (U := U.calling g mk a) (Vm.Alike.refl U.vm) qK, EVC.blind g mk a qE, AO.blind g mk a qA⟩, fun U hU hW => ⟨rfl, hU, va_K.moved hW.alike hK, hE.call hS hFc hU hW, hAO.call hW⟩⟩ rfl rfl hl.1 rfl (lv_room (Nat.le_of_ble_eq_true rfl)) dX3_init_52 ⟨show (24 + 3 * i) + 1 + 2 ≤ 114 from by omega, show (1426 + 24 * i) + 12 + 12 ≤ 2146 from by omega⟩) hS (fun q _ h => hFc q h) hFc (fun G7 t H locs ht hvm _ hB _ _ hS => ?_)
      (try dsimp only at hB); rw [ht] at hB; obtain ⟨hT, hg40, hY1⟩ := hB
      have hY := hY.call hn_q31 hY1 hz9 (by decide)
      have hG := hY.A hG0 hAo hA
      have hall : ∀ j, j < i → ∃ b, el H q18 j = some (.ref b) ∧ G7 b = some 13 := fun j hj => by obtain ⟨b9, e1, e2⟩ := hall j hj; exact ⟨b9, (el_kept (hY1.1 _ _ (gne hg38 hg39 (by decide)) hg38).2).trans e1, (hY1.1 _ _ (gne e2 hg39 (by decide)) e2).1⟩
      have m41 := (el_kept (hY1.1 _ _ (gne hg35 hg39 (by decide)) hg35).2).trans m32
      have m42 := (el_kept (hY1.1 _ _ (gne hg35 hg39 (by decide)) hg35).2).trans m33
      have m43 := (el_kept (hY1.1 _ _ (gne hg35 hg39 (by decide)) hg35).2).trans m34
      have hg44 := (hY1.1 _ _ (gne hg35 hg39 (by decide)) hg35).1
      have hg45 := (hY1.1 _ _ (gne hg36 hg39 (by decide)) hg36).1
      have hg46 := (hY1.1 _ _ (gne hg37 hg39 (by decide)) hg37).1
      have hg47 := (hY1.1 _ _ (gne hg38 hg39 (by decide)) hg38).1
      refine tw_aast (C := RX10) (i := (nI i)) hx hb hK hT hG hS hg47 shc_99 rfl hg40 shc_13 rfl (vp_in_nI (by omega) (by decide)) ⟨some _, rfl, fun _ h => by cases h; exact hg40⟩ dX3_init_55 (fun H locs hT oq m48 oi hS => ?_)
      rw [show (nI i).toNatClampNeg = i from tn_nI (by omega)] at m48 oi
      have hY := hY.put1 hn_q18 (fun q _ h => oq q h)
      have hall : ∀ j, j < i + 1 → ∃ b, el H q18 j = some (.ref b) ∧ G7 b = some 13 := fun j hj => by
        by_cases e9 : j = i
        · rw [e9]; exact ⟨_, m48, hg40⟩
        · obtain ⟨b9, e1, e2⟩ := hall j (by omega); exact ⟨b9, (oi j e9).trans e1, e2⟩
      have m49 := (el_kept (oq _ (gne hg44 hg47 (by decide)))).trans m41
      have m50 := (el_kept (oq _ (gne hg44 hg47 (by decide)))).trans m42
      have m51 := (el_kept (oq _ (gne hg44 hg47 (by decide)))).trans m43
      refine lv_iinc (v := nI (i + 1)) (lv' := [(1, .int (nI (i + 1))), (0, .ref o0)]) hx hb dX3_init_56 hl (k := 0) rfl (nI_add i 1) (by decide) rfl (fun ls hl => ?_)
      refine lv_goto (tgt := 37) hx hb dX3_init_59 (by decide) ?_
      exact W.widen (k := 24 + 3 * (i + 1)) (n := 1426 + 24 * (i + 1)) (by omega) (by omega) (ih9 (i + 1) (by omega) _ _ _ hT hY hS hg44 hg45 hg46 hg47 m49 m50 m51 hall ls (lv_sub hl [0, 1] rfl))
  exact key9 30 0 rfl _ _ _ hT hY hS hg21 hg22 hg23 hg24 m26 m27 m25 (fun j hj => absurd hj (by omega)) ls hl
def w_n_X11 : List Cond := .code yX11_init cX11_init 1 none :: (HAppend.hAppend (α := List Cond) (β := List Cond) (γ := List Cond) [.methodLink RX11 1 objectInit, .instanceMethod objectInit, .code objectInit ⟨#[0xb1]⟩ 1 none, .arrayClass .int, .fieldLink RX11 9 "SeaLand" "tape" "[I", .classLink RX11 13 RX3, .instantiable RX3 5, .initialized RX3, .code yX3_init cX3_init 2 none, .methodLink RX3 3 objectInit, .classLink RX3 9 RX8, .instantiable RX8 7, .initialized RX8, .code yX8_init cX8_init 1 none, .methodLink RX8 3 objectInit, .fieldLink RX8 9 "SeaLand$Sky" "tides" "[I", .fieldLink RX8 15 "SeaLand$Sky" "stormFrom" "[I", .fieldLink RX8 18 "SeaLand$Sky" "stormTo" "[I", .fieldLink RX8 21 "SeaLand$Sky" "stormMore" "[I", .classLink RX8 24 RX9, .instantiable RX9 3, .initialized RX9, .code yX9_init cX9_init 1 none, .methodLink RX9 3 objectInit, .fieldLink RX9 9 "SeaLand$Tellings" "hours" "[I", .fieldLink RX9 15 "SeaLand$Tellings" "numbers" "[I", .instanceMethod yX9_init, .fieldLink RX8 27 "SeaLand$Sky" "wind" "LSeaLand$Tellings;", .fieldLink RX8 31 "SeaLand$Sky" "rain" "LSeaLand$Tellings;", .instanceMethod yX8_init, .fieldLink RX3 12 "SeaLand$Lake" "sky" "LSeaLand$Sky;", .classLink RX3 18 RX2, .instantiable RX2 15, .initialized RX2, .code yX2_init cX2_init 1 none, .methodLink RX2 3 objectInit, .arrayClass .boolean, .fieldLink RX2 9 "SeaLand$Ground" "isLand" "[Z", .fieldLink RX2 15 "SeaLand$Ground" "height" "[I", .fieldLink RX2 19 "SeaLand$Ground" "soil" "[I", .fieldLink RX2 22 "SeaLand$Ground" "ditch" "[I", .fieldLink RX2 25 "SeaLand$Ground" "water" "[I", .fieldLink RX2 28 "SeaLand$Ground" "salt" "[I", .fieldLink RX2 31 "SeaLand$Ground" "dry" "[I", .fieldLink RX2 34 "SeaLand$Ground" "wet" "[I", .fieldLink RX2 37 "SeaLand$Ground" "ditchTo" "[I", .fieldLink RX2 40 "SeaLand$Ground" "ditchWater" "[I", .fieldLink RX2 43 "SeaLand$Ground" "ditchSalt" "[I", .instanceMethod yX2_init, .fieldLink RX3 21 "SeaLand$Lake" "ground" "LSeaLand$Ground;", .classLink RX3 25 RX10, .fieldLink RX3 27 "SeaLand$Lake" "works" "[LSeaLand$Work;", .instantiable RX10 12, .initialized RX10, .code yX10_init cX10_init 1 none, .methodLink RX10 3 objectInit, .fieldLink RX10 9 "SeaLand$Work" "thick" "[I", .fieldLink RX10 15 "SeaLand$Work" "clay" "[I", .instanceMethod yX10_init, .methodLink RX11 15 yX3_init, .instanceMethod yX3_init, .fieldLink RX11 16 "SeaLand" "lake" "LSeaLand$Lake;", .classLink RX11 20 RX6, .instantiable RX6 4, .initialized RX6, .code yX6_init cX6_init 1 none, .methodLink RX6 3 objectInit, .fieldLink RX6 9 "SeaLand$Rows" "shown" "[I", .fieldLink RX6 15 "SeaLand$Rows" "proof" "[I", .instanceMethod yX6_init, .fieldLink RX11 23 "SeaLand" "rows" "LSeaLand$Rows;", .classLink RX11 27 RX0, .instantiable RX0 18, .initialized RX0, .code yX0_init cX0_init 1 none, .methodLink RX0 3 objectInit, .classLink RX0 9 RX7, .fieldLink RX0 11 "SeaLand$Board" "settlers" "[LSeaLand$Settler;", .fieldLink RX0 17 "SeaLand$Board" "farmOf" "[I", .fieldLink RX0 21 "SeaLand$Board" "crops" "[I", .fieldLink RX0 24 "SeaLand$Board" "held" "[Z", .fieldLink RX0 28 "SeaLand$Board" "harvested" "[Z", .arrayClass .long, .fieldLink RX0 33 "SeaLand$Board" "facts" "[J", .fieldLink RX0 37 "SeaLand$Board" "marks" "[I", .classLink RX0 31 RX4, .instantiable RX4 14, .initialized RX4, .code yX4_init cX4_init 1 none, .methodLink RX4 5 objectInit, .fieldLink RX4 11 "SeaLand$Law" "things" "[I", .fieldLink RX4 15 "SeaLand$Law" "begins" "[I", .fieldLink RX4 18 "SeaLand$Law" "kinds" "[I", .fieldLink RX4 21 "SeaLand$Law" "firsts" "[I", .fieldLink RX4 24 "SeaLand$Law" "seconds" "[I", .fieldLink RX4 27 "SeaLand$Law" "froms" "[I", .fieldLink RX4 30 "SeaLand$Law" "tos" "[I", .fieldLink RX4 33 "SeaLand$Law" "stepFrom" "[I", .fieldLink RX4 36 "SeaLand$Law" "stepTo" "[I", .fieldLink RX4 39 "SeaLand$Law" "steps" "[I", .fieldLink RX4 42 "SeaLand$Law" "stack" "[J", .instanceMethod yX4_init, .fieldLink RX0 41 "SeaLand$Board" "force" "LSeaLand$Law;", .fieldLink RX0 45 "SeaLand$Board" "proposed" "LSeaLand$Law;", .fieldLink RX0 48 "SeaLand$Board" "spare" "LSeaLand$Law;", .fieldLink RX0 51 "SeaLand$Board" "fault" "I", .code yJ7_fill_53178 cJ7_fill_53178 4 none, .methodLink RX0 55 yJ7_fill_53178, .static yJ7_fill_53178, .initialized RJ7, .methodLink RX11 29 yX0_init, .instanceMethod yX0_init, .fieldLink RX11 30 "SeaLand" "board" "LSeaLand$Board;", .classLink RX11 34 RX1, .fieldLink RX11 36 "SeaLand" "contracts" "[LSeaLand$Contract;", .classLink RX11 40 RX5, .instantiable RX5 17, .initialized RX5, .code yX5_init cX5_init 1 none, .methodLink RX5 5 objectInit, .fieldLink RX5 13 "SeaLand$Plans" "liftOf" "[I", .fieldLink RX5 17 "SeaLand$Plans" "leastNow" "[I", .fieldLink RX5 20 "SeaLand$Plans" "leastThen" "[I", .fieldLink RX5 23 "SeaLand$Plans" "fields" "[I", .fieldLink RX5 26 "SeaLand$Plans" "fieldLevels" "[I", .fieldLink RX5 29 "SeaLand$Plans" "costs" "[I", .fieldLink RX5 32 "SeaLand$Plans" "lasts" "[I", .fieldLink RX5 35 "SeaLand$Plans" "incomes" "[I", .fieldLink RX5 38 "SeaLand$Plans" "acres" "[I", .fieldLink RX5 41 "SeaLand$Plans" "placed" "[Z", .fieldLink RX5 45 "SeaLand$Plans" "trial" "[I", .fieldLink RX5 48 "SeaLand$Plans" "best" "[I", .instanceMethod yX5_init, .fieldLink RX11 43 "SeaLand" "plans" "LSeaLand$Plans;"] bs2)
set_option maxHeartbeats 4000000 in
set_option maxRecDepth 100000 in
theorem n_X11 (l : Launch) (dC : Nat → ClassId) (dI : Nat → Nat → Nat) (kA : Nat → ClassId) (adK adV : Nat → Nat) (G : gT) (H0 : Heap)  (o0 : Nat) (hT : gH (dC, dI) kA (SHc 0 0) G H0) (hr_o0 : G o0 = some 114) (hm_7 : el H0 o0 (dI 14 7) = some (.int 0)) : Met l yX11_init w_n_X11 ({ frames := 4, cells := 177, slots := 11966, locals := 115 }) (va_Pc [.ref o0] (fun U => U.heap = H0 ∧ va_K (dC, dI) vwCl (tyl kA) U ∧ EVC adK adV (gA G H0.size) U U.heap ∧ AO U)) (va_Qv (fun (u : gT) => True) (fun (G1 : gT) (t : State) => gH (dC, dI) kA (SHc 0 0) G1 t.heap ∧ G1 o0 = some 14 ∧ gY ([3, 5, 6, 7, 8, 9, 11, 12, 13, 16, 17, 18, 19, 20, 21, 22, 23, 24, 25, 26, 27, 28, 29, 30, 31, 32, 33, 34, 35, 36, 37, 38, 39, 40, 41, 42, 43, 44, 45, 46, 47, 48, 49, 50, 51, 52, 53, 54, 55, 56, 57, 58, 59, 60, 61, 62, 63, 64, 65, 66, 67, 68, 69, 99, 103, 105, 106, 107, 108, 109, 111, 112, 113] : List Nat) 14 o0 G G1 H0 t.heap ∧ (∃ w, ∀ b, G1 b = some 3 → G b = some 3 ∨ b = w) ∧ (∃ w, ∀ b, G1 b = some 51 → G b = some 51 ∨ b = w) ∧ (∃ w, ∀ b, G1 b = some 17 → G b = some 17 ∨ b = w) ∧ (∃ a1, el t.heap o0 (dI 14 5) = some (.ref a1) ∧ G1 a1 = some 8 ∧ el t.heap a1 (dI 8 15) = some (.int 0) ∧ (∃ a2, el t.heap a1 (dI 8 5) = some (.ref a2) ∧ G1 a2 = some 63 ∧ ct t.heap a2 7 (fun _ => 0)) ∧ (∃ a2, el t.heap a1 (dI 8 6) = some (.ref a2) ∧ G1 a2 = some 64 ∧ ct t.heap a2 7 (fun _ => 0)) ∧ (∃ a2, el t.heap a1 (dI 8 7) = some (.ref a2) ∧ G1 a2 = some 65 ∧ ct t.heap a2 7 (fun _ => 0)) ∧ (∃ a2, el t.heap a1 (dI 8 8) = some (.ref a2) ∧ G1 a2 = some 66 ∧ ct t.heap a2 7 (fun _ => 0)) ∧ (∃ a2, el t.heap a1 (dI 8 9) = some (.ref a2) ∧ G1 a2 = some 67 ∧ ct t.heap a2 7 (fun _ => 0))) ∧ el t.heap o0 (dI 14 7) = some (.int 0)) (gA G H0.size)) 177 11966 (gA G H0.size) := by
  refine Met.ofW (cc := cX11_init) (maxL := 1) (ret := none) (by decide) rfl ?_
  intro p e s m args below meth c s₁ B hml hv
  obtain ⟨rfl, hH0, hK, hE, hAO⟩ := hv
  have hx := B.exec
  have hb := B.bytes
  have hr := B.returns
  have hts := atoms_spec (ws := w_n_X11) B.pre
  have hown : s.vm.findClass RX11 = some m.cls := findClass_of_methodNamed B.named
  have hlocks := B.notSynchronized
  have hin : meth.name = "<init>" := (name_of_methodNamed B.named B.method).1
  subst hH0
  generalize hAe : gA G s.heap.size = A at hE ⊢
  have hA : ∀ q : Nat, s.heap.size ≤ q → A q := fun q h => by rw [← hAe]; exact Or.inr h
  have hG := gA_of hAe
  have hS : va_S A s.heap s.heap [] := va_S.rf
  have hl := lv_entry ([.ref o0]) (n := 1) (Nat.le_of_ble_eq_true rfl)
  rw [lg_entry_eq]
  generalize (lg_sl ([.ref o0]) ++ List.replicate (1 - (lg_sl ([.ref o0])).length) Slot.unset).toArray = ls at hl ⊢
  have hl : lv_has ls 1 [(0, .ref o0)] := hl
  have hG0 := hG
  have hY : gY ([3, 5, 6, 7, 8, 9, 11, 12, 13, 16, 17, 18, 19, 20, 21, 22, 23, 24, 25, 26, 27, 28, 29, 30, 31, 32, 33, 34, 35, 36, 37, 38, 39, 40, 41, 42, 43, 44, 45, 46, 47, 48, 49, 50, 51, 52, 53, 54, 55, 56, 57, 58, 59, 60, 61, 62, 63, 64, 65, 66, 67, 68, 69, 99, 103, 105, 106, 107, 108, 109, 111, 112, 113] : List Nat) 14 o0 G G s.heap s.heap := gY.rf hT
  have hU_3 : ∀ b, G b = some 3 → G b = some 3 := fun _ h => h
  have hU_51 : ∀ b, G b = some 51 → G b = some 51 := fun _ h => h
  have hU_17 : ∀ b, G b = some 17 → G b = some 17 := fun _ h => h
  have hAo := hG _ _ hr_o0
  refine lv_aload_n hx hb dX11_init_0 rfl (lv_at hl 0 rfl) ?_
  refine W.objInit hx hb hown (ht_at2 hts 0 rfl) (ht_at2 hts 1 rfl) (ht_at2 hts 2 rfl) rfl (by rw [hml]; exact hl.1) rfl dX11_init_1 (Nat.le_of_ble_eq_true rfl) (Nat.le_of_ble_eq_true rfl) ?_
  refine W.eq (g2 := F0 m 4 ls []) rfl ?_
  refine lv_aload_n hx hb dX11_init_4 rfl (lv_at hl 0 rfl) ?_
  refine lv_sipush (v := 400) hx hb dX11_init_5 (by decide) ?_
  have hz9 := hS.1
  refine tw_newa (ty := .int) hx hb (ht_at2 hts 3 rfl) rfl hK mon_c hT hS hG hA (shc_16) rfl (fun _ _ _ => ⟨0, rfl, by decide, by decide⟩) (by decide) rfl (Nat.le_of_ble_eq_true rfl) (Nat.le_of_ble_eq_true rfl) (Nat.le_of_ble_eq_true rfl) dX11_init_8 (fun q1 G1 H hq9 eG hz1 hz2 hT hx9 hG hm9 hS => ?_)
  have hn_q1 : s.heap.size ≤ q1 := Nat.le_trans hz9 (Nat.le_of_eq hz2)
  have hY := hY.new hn_q1 eG hx9 (by decide)
  have hU_3 := gT_new hU_3 eG (by decide)
  have hU_51 := gT_new hU_51 eG (by decide)
  have hU_17 := gT_new hU_17 eG (by decide)
  have m2 := (el_kept (hx9 _ _ hr_o0).2).trans hm_7
  have hg3 := (hx9 _ _ hr_o0).1
  have hg4 : G1 q1 = some 16 := by rw [eG]; exact gU_at
  refine tw_putF (v := .ref q1) (ty := (.array .int)) hx hb hts bF2_X11 tyX11 tyX11_ok nmX11 hown hK hT hG hS hg3 shc_114 rfl 0 (by decide) (ht_at2 hts 4 rfl) (fun _ h9 => h9) rfl hin rfl (by decide +kernel) rfl rfl (gl_at rfl ⟨some _, rfl, fun _ h => by cases h; exact hg4⟩) dX11_init_10 (fun H locs hT oq m5 oj hS => ?_)
  have hY := hY.put oq
  have m6 := (oj 7 (by decide) (by decide)).trans m2
  refine lv_aload_n hx hb dX11_init_13 rfl (lv_at hl 0 rfl) ?_
  have hz9 := hS.1
  refine tw_new hx hb hts bF2_X3 tyX3 tyX3_ok hown (ht_at2 hts 5 rfl) (ht_at2 hts 6 rfl) (ht_at2 hts 7 rfl) hK mon_c hT hS hG hA (shc_106) rfl nd_106 (Nat.le_of_ble_eq_true rfl) (Nat.le_of_ble_eq_true rfl) dX11_init_14 (fun q7 G2 H hq9 eG hz1 hz2 hT hx9 hG hm9 hS => ?_)
  have hn_q7 : s.heap.size ≤ q7 := Nat.le_trans hz9 (Nat.le_of_eq hz2)
  have hY := hY.new hn_q7 eG hx9 (by decide)
  have hU_3 := gT_new hU_3 eG (by decide)
  have hU_51 := gT_new hU_51 eG (by decide)
  have hU_17 := gT_new hU_17 eG (by decide)
  have m8 := (el_kept (hx9 _ _ hg3).2).trans m6
  have m9 := (el_kept (hx9 _ _ hg3).2).trans m5
  have hg10 := (hx9 _ _ hg3).1
  have hg11 := (hx9 _ _ hg4).1
  have hg12 : G2 q7 = some 106 := by rw [eG]; exact gU_at
  refine lv_dup hx hb dX11_init_17 rfl ?_
  have hFc := gA_free hG hA hS
  have hz9 := hS.1
  refine va_callv (va_runI (As := []) (rest := [.ref q7, .ref o0]) ⟨hx, hb, hml, hown, hts⟩ (n_X3 l dC dI kA adK adV G2 H 0 0 q7 hT hg12 (by omega) (by omega)) (cwI 0 hts (goodIn_ca (goodIn_r _ [9, 10, 2, 3, 11, 12, 13, 14, 15, 4, 16, 17, 18, 19, 20, 21, 22, 23, 24, 25, 26, 27, 28, 29, 30, 31, 32, 33, 34, 35, 36, 37, 38, 39, 40, 41, 42, 43, 44, 45, 46, 47, 48, 49, 50, 51, 52, 53, 54, 55, 56, 57, 58, 59] rfl (by decide +kernel)) (bs2_in _ _)) rfl rfl rfl (ht_at2 hts 7 rfl) (ht_at2 hts 59 rfl) (ht_at2 hts 60 rfl) rfl (by decide +kernel) ⟨(Nat.le_of_ble_eq_true rfl), (Nat.le_of_ble_eq_true rfl)⟩) ⟨fun a U g mk q => by obtain ⟨q0, q1, qK, qE, qA⟩ := q; exact ⟨q0, q1, va_K.moved (u := U) (U := U.calling g mk a) (Vm.Alike.refl U.vm) qK, EVC.blind g mk a qE, AO.blind g mk a qA⟩, fun U hU hW => ⟨rfl, hU, va_K.moved hW.alike hK, hE.call hS hFc hU hW, hAO.call hW⟩⟩ rfl rfl hl.1 rfl (lv_room (Nat.le_of_ble_eq_true rfl)) dX11_init_18 ⟨(Nat.le_of_ble_eq_true rfl), (Nat.le_of_ble_eq_true rfl)⟩) hS (fun q _ h => hFc q h) hFc (fun G3 t H locs ht hvm _ hB _ _ hS => ?_)
  (try dsimp only at hB); rw [ht] at hB; obtain ⟨hT, hg13, hY1⟩ := hB
  have hY := hY.call hn_q7 hY1 hz9 (by decide)
  have hG := hY.A hG0 hAo hA
  have hU_3 := gT_call hU_3 hY1 (by decide)
  have hU_51 := gT_call hU_51 hY1 (by decide)
  have hU_17 := gT_call hU_17 hY1 (by decide)
  have m14 := (el_kept (hY1.1 _ _ (gne hg10 hg12 (by decide)) hg10).2).trans m8
  have m15 := (el_kept (hY1.1 _ _ (gne hg10 hg12 (by decide)) hg10).2).trans m9
  have hg16 := (hY1.1 _ _ (gne hg10 hg12 (by decide)) hg10).1
  have hg17 := (hY1.1 _ _ (gne hg11 hg12 (by decide)) hg11).1
  refine tw_putF (v := .ref q7) (ty := (.object "SeaLand$Lake")) hx hb hts bF2_X11 tyX11 tyX11_ok nmX11 hown hK hT hG hS hg16 shc_114 rfl 1 (by decide) (ht_at2 hts 61 rfl) (fun _ h9 => h9) rfl hin rfl (by decide +kernel) rfl rfl (gl_at rfl ⟨some _, rfl, fun _ h => by cases h; exact hg13⟩) dX11_init_21 (fun H locs hT oq m18 oj hS => ?_)
  have hY := hY.put oq
  have m19 := (oj 7 (by decide) (by decide)).trans m14
  have m20 := (oj 0 (by decide) (by decide)).trans m15
  refine lv_aload_n hx hb dX11_init_24 rfl (lv_at hl 0 rfl) ?_
  have hz9 := hS.1
  refine tw_new hx hb hts bF2_X6 tyX6 tyX6_ok hown (ht_at2 hts 62 rfl) (ht_at2 hts 63 rfl) (ht_at2 hts 64 rfl) hK mon_c hT hS hG hA (shc_109) rfl nd_109 (Nat.le_of_ble_eq_true rfl) (Nat.le_of_ble_eq_true rfl) dX11_init_25 (fun q21 G4 H hq9 eG hz1 hz2 hT hx9 hG hm9 hS => ?_)
  have hn_q21 : s.heap.size ≤ q21 := Nat.le_trans hz9 (Nat.le_of_eq hz2)
  have hY := hY.new hn_q21 eG hx9 (by decide)
  have hU_3 := gT_new hU_3 eG (by decide)
  have hU_51 := gT_new hU_51 eG (by decide)
  have hU_17 := gT_new hU_17 eG (by decide)
  have m22 := (el_kept (hx9 _ _ hg16).2).trans m19
  have m23 := (el_kept (hx9 _ _ hg16).2).trans m20
  have m24 := (el_kept (hx9 _ _ hg16).2).trans m18
  have hg25 := (hx9 _ _ hg16).1
  have hg26 := (hx9 _ _ hg17).1
  have hg27 := (hx9 _ _ hg13).1
  have hg28 : G4 q21 = some 109 := by rw [eG]; exact gU_at
  refine lv_dup hx hb dX11_init_28 rfl ?_
  have hFc := gA_free hG hA hS
  have hz9 := hS.1
  refine va_callv (va_runIN (As := []) (rest := [.ref q21, .ref o0]) ⟨hx, hb, hml, hown, hts⟩ (n_X6 l dC dI kA adK adV G4 H 0 0 q21 hT hg28 (by omega) (by omega)) ⟨va_cnB 0 hts (goodIn_ca (goodIn_r _ [66, 67, 2, 3, 4, 68, 69] rfl (by decide +kernel)) (bs2_in _ _)) rfl rfl rfl (hE.nm 102 rfl) (ht_at2 hts 64 rfl) (by decide +kernel) ⟨(Nat.le_of_ble_eq_true rfl), (Nat.le_of_ble_eq_true rfl)⟩, rfl, (ht_at2 hts 69 rfl)⟩ ⟨fun a U g mk q => by obtain ⟨q0, q1, qK, qE, qA⟩ := q; exact ⟨q0, q1, va_K.moved (u := U) (U := U.calling g mk a) (Vm.Alike.refl U.vm) qK, EVC.blind g mk a qE, AO.blind g mk a qA⟩, fun U hU hW => ⟨rfl, hU, va_K.moved hW.alike hK, hE.call hS hFc hU hW, hAO.call hW⟩⟩ rfl rfl hl.1 rfl (lv_room (Nat.le_of_ble_eq_true rfl)) dX11_init_29 ⟨(Nat.le_of_ble_eq_true rfl), (Nat.le_of_ble_eq_true rfl)⟩) hS (fun q _ h => hFc q h) hFc (fun G5 t H locs ht hvm _ hB _ _ hS => ?_)
  (try dsimp only at hB); rw [ht] at hB; obtain ⟨hT, hg29, hY1⟩ := hB
  have hY := hY.call hn_q21 hY1 hz9 (by decide)
  have hG := hY.A hG0 hAo hA
  have hU_3 := gT_call hU_3 hY1 (by decide)
  have hU_51 := gT_call hU_51 hY1 (by decide)
  have hU_17 := gT_call hU_17 hY1 (by decide)
  have m30 := (el_kept (hY1.1 _ _ (gne hg25 hg28 (by decide)) hg25).2).trans m22
  have m31 := (el_kept (hY1.1 _ _ (gne hg25 hg28 (by decide)) hg25).2).trans m23
  have m32 := (el_kept (hY1.1 _ _ (gne hg25 hg28 (by decide)) hg25).2).trans m24
  have hg33 := (hY1.1 _ _ (gne hg25 hg28 (by decide)) hg25).1
  have hg34 := (hY1.1 _ _ (gne hg26 hg28 (by decide)) hg26).1
  have hg35 := (hY1.1 _ _ (gne hg27 hg28 (by decide)) hg27).1
  refine tw_putF (v := .ref q21) (ty := (.object "SeaLand$Rows")) hx hb hts bF2_X11 tyX11 tyX11_ok nmX11 hown hK hT hG hS hg33 shc_114 rfl 2 (by decide) (ht_at2 hts 70 rfl) (fun _ h9 => h9) rfl hin rfl (by decide +kernel) rfl rfl (gl_at rfl ⟨some _, rfl, fun _ h => by cases h; exact hg29⟩) dX11_init_32 (fun H locs hT oq m36 oj hS => ?_)
  have hY := hY.put oq
  have m37 := (oj 7 (by decide) (by decide)).trans m30
  have m38 := (oj 0 (by decide) (by decide)).trans m31
  have m39 := (oj 1 (by decide) (by decide)).trans m32
  refine lv_aload_n hx hb dX11_init_35 rfl (lv_at hl 0 rfl) ?_
  have hz9 := hS.1
  refine tw_new hx hb hts bF2_X0 tyX0 tyX0_ok hown (ht_at2 hts 71 rfl) (ht_at2 hts 72 rfl) (ht_at2 hts 73 rfl) hK mon_c hT hS hG hA (shc_103) rfl nd_103 (Nat.le_of_ble_eq_true rfl) (Nat.le_of_ble_eq_true rfl) dX11_init_36 (fun q40 G6 H hq9 eG hz1 hz2 hT hx9 hG hm9 hS => ?_)
  have hn_q40 : s.heap.size ≤ q40 := Nat.le_trans hz9 (Nat.le_of_eq hz2)
  have hY := hY.new hn_q40 eG hx9 (by decide)
  have hU_3 := gT_new hU_3 eG (by decide)
  have hU_51 := gT_new hU_51 eG (by decide)
  have hU_17 := gT_new hU_17 eG (by decide)
  have m41 := (el_kept (hx9 _ _ hg33).2).trans m37
  have m42 := (el_kept (hx9 _ _ hg33).2).trans m38
  have m43 := (el_kept (hx9 _ _ hg33).2).trans m39
  have m44 := (el_kept (hx9 _ _ hg33).2).trans m36
  have hg45 := (hx9 _ _ hg33).1
  have hg46 := (hx9 _ _ hg34).1
  have hg47 := (hx9 _ _ hg35).1
  have hg48 := (hx9 _ _ hg29).1
  have hg49 : G6 q40 = some 103 := by rw [eG]; exact gU_at
  refine lv_dup hx hb dX11_init_39 rfl ?_
  have hFc := gA_free hG hA hS
  have hz9 := hS.1
  refine va_callv (va_runI (As := []) (rest := [.ref q40, .ref o0]) ⟨hx, hb, hml, hown, hts⟩ (n_X0 l dC dI kA adK adV G6 H  q40 hT hg49) (cwI 0 hts (goodIn_ca (goodIn_r _ [75, 76, 2, 3, 77, 78, 4, 79, 80, 37, 81, 82, 83, 84, 85, 86, 87, 88, 89, 90, 91, 92, 93, 94, 95, 96, 97, 98, 99, 100, 101, 102, 103, 104, 105, 106, 107, 108, 109, 110] rfl (by decide +kernel)) (bs2_in _ _)) rfl rfl rfl (ht_at2 hts 73 rfl) (ht_at2 hts 110 rfl) (ht_at2 hts 111 rfl) rfl (by decide +kernel) ⟨(Nat.le_of_ble_eq_true rfl), (Nat.le_of_ble_eq_true rfl)⟩) ⟨fun a U g mk q => by obtain ⟨q0, q1, qK, qE, qA⟩ := q; exact ⟨q0, q1, va_K.moved (u := U) (U := U.calling g mk a) (Vm.Alike.refl U.vm) qK, EVC.blind g mk a qE, AO.blind g mk a qA⟩, fun U hU hW => ⟨rfl, hU, va_K.moved hW.alike hK, hE.call hS hFc hU hW, hAO.call hW⟩⟩ rfl rfl hl.1 rfl (lv_room (Nat.le_of_ble_eq_true rfl)) dX11_init_40 ⟨(Nat.le_of_ble_eq_true rfl), (Nat.le_of_ble_eq_true rfl)⟩) hS (fun q _ h => hFc q h) hFc (fun G7 t H locs ht hvm _ hB _ _ hS => ?_)
  (try dsimp only at hB); rw [ht] at hB; obtain ⟨hT, hg50, hY1, ⟨w9_51, hU9_51⟩⟩ := hB
  have hY := hY.call hn_q40 hY1 hz9 (by decide)
  have hG := hY.A hG0 hAo hA
  have hU_3 := gT_call1 hU_3 hY1 (by decide)
  have hU_51 := gT_call2 hU_51 hU9_51
  have hU_17 := gT_call hU_17 hY1 (by decide)
  have m51 := (el_kept (hY1.1 _ _ (gne hg45 hg49 (by decide)) hg45).2).trans m41
  have m52 := (el_kept (hY1.1 _ _ (gne hg45 hg49 (by decide)) hg45).2).trans m42
  have m53 := (el_kept (hY1.1 _ _ (gne hg45 hg49 (by decide)) hg45).2).trans m43
  have m54 := (el_kept (hY1.1 _ _ (gne hg45 hg49 (by decide)) hg45).2).trans m44
  have hg55 := (hY1.1 _ _ (gne hg45 hg49 (by decide)) hg45).1
  have hg56 := (hY1.1 _ _ (gne hg46 hg49 (by decide)) hg46).1
  have hg57 := (hY1.1 _ _ (gne hg47 hg49 (by decide)) hg47).1
  have hg58 := (hY1.1 _ _ (gne hg48 hg49 (by decide)) hg48).1
  refine tw_putF (v := .ref q40) (ty := (.object "SeaLand$Board")) hx hb hts bF2_X11 tyX11 tyX11_ok nmX11 hown hK hT hG hS hg55 shc_114 rfl 3 (by decide) (ht_at2 hts 112 rfl) (fun _ h9 => h9) rfl hin rfl (by decide +kernel) rfl rfl (gl_at rfl ⟨some _, rfl, fun _ h => by cases h; exact hg50⟩) dX11_init_43 (fun H locs hT oq m59 oj hS => ?_)
  have hY := hY.put oq
  have m60 := (oj 7 (by decide) (by decide)).trans m51
  have m61 := (oj 0 (by decide) (by decide)).trans m52
  have m62 := (oj 1 (by decide) (by decide)).trans m53
  have m63 := (oj 2 (by decide) (by decide)).trans m54
  refine lv_aload_n hx hb dX11_init_46 rfl (lv_at hl 0 rfl) ?_
  refine lv_bipush (v := 40) hx hb dX11_init_47 (by decide) ?_
  have hz9 := hS.1
  refine tw_newq hx hb hown (ht_at2 hts 113 rfl) (hAO _ (by decide)) hK mon_c hT hS hG hA (shc_17) rfl (fun _ _ _ => ⟨fun h => absurd h (by omega), ⟨none, rfl, fun _ h => by cases h⟩⟩) (by decide) rfl (Nat.le_of_ble_eq_true rfl) (Nat.le_of_ble_eq_true rfl) (Nat.le_of_ble_eq_true rfl) dX11_init_49 (fun q64 G8 H hq9 eG hz1 hz2 hT hx9 hG hm9 hS => ?_)
  have hn_q64 : s.heap.size ≤ q64 := Nat.le_trans hz9 (Nat.le_of_eq hz2)
  have hY := hY.new hn_q64 eG hx9 (by decide)
  have hU_3 := gT_new hU_3 eG (by decide)
  have hU_51 := gT_new hU_51 eG (by decide)
  have hU_17 := gT_new1 hU_17 eG
  have m65 := (el_kept (hx9 _ _ hg55).2).trans m60
  have m66 := (el_kept (hx9 _ _ hg55).2).trans m61
  have m67 := (el_kept (hx9 _ _ hg55).2).trans m62
  have m68 := (el_kept (hx9 _ _ hg55).2).trans m63
  have m69 := (el_kept (hx9 _ _ hg55).2).trans m59
  have hg70 := (hx9 _ _ hg55).1
  have hg71 := (hx9 _ _ hg56).1
  have hg72 := (hx9 _ _ hg57).1
  have hg73 := (hx9 _ _ hg58).1
  have hg74 := (hx9 _ _ hg50).1
  have hg75 : G8 q64 = some 17 := by rw [eG]; exact gU_at
  refine tw_putF (v := .ref q64) (ty := (.array (.object "SeaLand$Contract"))) hx hb hts bF2_X11 tyX11 tyX11_ok nmX11 hown hK hT hG hS hg70 shc_114 rfl 4 (by decide) (ht_at2 hts 114 rfl) (fun _ h9 => h9) rfl hin rfl (by decide +kernel) rfl rfl (gl_at rfl ⟨some _, rfl, fun _ h => by cases h; exact hg75⟩) dX11_init_52 (fun H locs hT oq m76 oj hS => ?_)
  have hY := hY.put oq
  have m77 := (oj 7 (by decide) (by decide)).trans m65
  have m78 := (oj 0 (by decide) (by decide)).trans m66
  have m79 := (oj 1 (by decide) (by decide)).trans m67
  have m80 := (oj 2 (by decide) (by decide)).trans m68
  have m81 := (oj 3 (by decide) (by decide)).trans m69
  refine lv_aload_n hx hb dX11_init_55 rfl (lv_at hl 0 rfl) ?_
  have hz9 := hS.1
  refine tw_new hx hb hts bF2_X5 tyX5 tyX5_ok hown (ht_at2 hts 115 rfl) (ht_at2 hts 116 rfl) (ht_at2 hts 117 rfl) hK mon_c hT hS hG hA (shc_108) rfl nd_108 (Nat.le_of_ble_eq_true rfl) (Nat.le_of_ble_eq_true rfl) dX11_init_56 (fun q82 G9 H hq9 eG hz1 hz2 hT hx9 hG hm9 hS => ?_)
  have hn_q82 : s.heap.size ≤ q82 := Nat.le_trans hz9 (Nat.le_of_eq hz2)
  have hY := hY.new hn_q82 eG hx9 (by decide)
  have hU_3 := gT_new hU_3 eG (by decide)
  have hU_51 := gT_new hU_51 eG (by decide)
  have hU_17 := gT_new hU_17 eG (by decide)
  have m83 := (el_kept (hx9 _ _ hg70).2).trans m77
  have m84 := (el_kept (hx9 _ _ hg70).2).trans m78
  have m85 := (el_kept (hx9 _ _ hg70).2).trans m79
  have m86 := (el_kept (hx9 _ _ hg70).2).trans m80
  have m87 := (el_kept (hx9 _ _ hg70).2).trans m81
  have m88 := (el_kept (hx9 _ _ hg70).2).trans m76
  have hg89 := (hx9 _ _ hg70).1
  have hg90 := (hx9 _ _ hg71).1
  have hg91 := (hx9 _ _ hg72).1
  have hg92 := (hx9 _ _ hg73).1
  have hg93 := (hx9 _ _ hg74).1
  have hg94 := (hx9 _ _ hg75).1
  have hg95 : G9 q82 = some 108 := by rw [eG]; exact gU_at
  have m96 : el H q82 (dI 8 15) = some (.int 0) := hm9 15 (by decide)
  refine lv_dup hx hb dX11_init_59 rfl ?_
  have hFc := gA_free hG hA hS
  have hz9 := hS.1
  refine va_callv (va_runIN (As := []) (rest := [.ref q82, .ref o0]) ⟨hx, hb, hml, hown, hts⟩ (n_X5 l dC dI kA adK adV G9 H 0 0 q82 hT hg95 m96 (by omega) (by omega)) ⟨va_cnB 0 hts (goodIn_ca (goodIn_r _ [119, 120, 2, 3, 4, 121, 122, 123, 124, 125, 126, 127, 128, 129, 37, 130, 131, 132] rfl (by decide +kernel)) (bs2_in _ _)) rfl rfl rfl (hE.nm 103 rfl) (ht_at2 hts 117 rfl) (by decide +kernel) ⟨(Nat.le_of_ble_eq_true rfl), (Nat.le_of_ble_eq_true rfl)⟩, rfl, (ht_at2 hts 132 rfl)⟩ ⟨fun a U g mk q => by obtain ⟨q0, q1, qK, qE, qA⟩ := q; exact ⟨q0, q1, va_K.moved (u := U) (U := U.calling g mk a) (Vm.Alike.refl U.vm) qK, EVC.blind g mk a qE, AO.blind g mk a qA⟩, fun U hU hW => ⟨rfl, hU, va_K.moved hW.alike hK, hE.call hS hFc hU hW, hAO.call hW⟩⟩ rfl rfl hl.1 rfl (lv_room (Nat.le_of_ble_eq_true rfl)) dX11_init_60 ⟨(Nat.le_of_ble_eq_true rfl), (Nat.le_of_ble_eq_true rfl)⟩) hS (fun q _ h => hFc q h) hFc (fun G10 t H locs ht hvm _ hB _ _ hS => ?_)
  (try dsimp only at hB); rw [ht] at hB; obtain ⟨hT, hg118, hY1, m97, ⟨b98, m99, hg100, m101⟩, ⟨b102, m103, hg104, m105⟩, ⟨b106, m107, hg108, m109⟩, ⟨b110, m111, hg112, m113⟩, ⟨b114, m115, hg116, m117⟩⟩ := hB
  have hY := hY.call hn_q82 hY1 hz9 (by decide)
  have hG := hY.A hG0 hAo hA
  have hU_3 := gT_call hU_3 hY1 (by decide)
  have hU_51 := gT_call hU_51 hY1 (by decide)
  have hU_17 := gT_call hU_17 hY1 (by decide)
  have m119 := (el_kept (hY1.1 _ _ (gne hg89 hg95 (by decide)) hg89).2).trans m83
  have m120 := (el_kept (hY1.1 _ _ (gne hg89 hg95 (by decide)) hg89).2).trans m84
  have m121 := (el_kept (hY1.1 _ _ (gne hg89 hg95 (by decide)) hg89).2).trans m85
  have m122 := (el_kept (hY1.1 _ _ (gne hg89 hg95 (by decide)) hg89).2).trans m86
  have m123 := (el_kept (hY1.1 _ _ (gne hg89 hg95 (by decide)) hg89).2).trans m87
  have m124 := (el_kept (hY1.1 _ _ (gne hg89 hg95 (by decide)) hg89).2).trans m88
  have hg125 := (hY1.1 _ _ (gne hg89 hg95 (by decide)) hg89).1
  have hg126 := (hY1.1 _ _ (gne hg90 hg95 (by decide)) hg90).1
  have hg127 := (hY1.1 _ _ (gne hg91 hg95 (by decide)) hg91).1
  have hg128 := (hY1.1 _ _ (gne hg92 hg95 (by decide)) hg92).1
  have hg129 := (hY1.1 _ _ (gne hg93 hg95 (by decide)) hg93).1
  have hg130 := (hY1.1 _ _ (gne hg94 hg95 (by decide)) hg94).1
  refine tw_putF (v := .ref q82) (ty := (.object "SeaLand$Plans")) hx hb hts bF2_X11 tyX11 tyX11_ok nmX11 hown hK hT hG hS hg125 shc_114 rfl 5 (by decide) (ht_at2 hts 133 rfl) (fun _ h9 => h9) rfl hin rfl (by decide +kernel) rfl rfl (gl_at rfl ⟨some _, rfl, fun _ h => by cases h; exact hg118⟩) dX11_init_63 (fun H locs hT oq m131 oj hS => ?_)
  have hY := hY.put oq
  have m132 := (oj 7 (by decide) (by decide)).trans m119
  have m133 := (oj 0 (by decide) (by decide)).trans m120
  have m134 := (oj 1 (by decide) (by decide)).trans m121
  have m135 := (oj 2 (by decide) (by decide)).trans m122
  have m136 := (oj 3 (by decide) (by decide)).trans m123
  have m137 := (oj 4 (by decide) (by decide)).trans m124
  have m138 := (el_kept (oq _ (gne hg118 hg125 (by decide)))).trans m97
  have m139 := (el_kept (oq _ (gne hg118 hg125 (by decide)))).trans m99
  have m140 := m101.kept (oq _ (gne hg100 hg125 (by decide)))
  have m141 := (el_kept (oq _ (gne hg118 hg125 (by decide)))).trans m103
  have m142 := m105.kept (oq _ (gne hg104 hg125 (by decide)))
  have m143 := (el_kept (oq _ (gne hg118 hg125 (by decide)))).trans m107
  have m144 := m109.kept (oq _ (gne hg108 hg125 (by decide)))
  have m145 := (el_kept (oq _ (gne hg118 hg125 (by decide)))).trans m111
  have m146 := m113.kept (oq _ (gne hg112 hg125 (by decide)))
  have m147 := (el_kept (oq _ (gne hg118 hg125 (by decide)))).trans m115
  have m148 := m117.kept (oq _ (gne hg116 hg125 (by decide)))
  have hT := hT.grown (t := 14) mon_c hg125 (by decide) (by
    have h8 := hT _ _ hg125; rw [shc_114] at h8; rw [shc_14]
    refine gC.grow h8 (fun k v hk hm hv => match k, hk, hm, hv with
      | 0, _, hm, hv => gl_at rfl (by obtain rfl : v = .ref q1 := Option.some.inj (hm.symm.trans m133); exact ⟨_, rfl, (gU_ne (gne hg126 hg125 (by decide))).trans hg126⟩)
      | 1, _, hm, hv => gl_at rfl (by obtain rfl : v = .ref q7 := Option.some.inj (hm.symm.trans m134); exact ⟨_, rfl, (gU_ne (gne hg127 hg125 (by decide))).trans hg127⟩)
      | 2, _, hm, hv => gl_at rfl (by obtain rfl : v = .ref q21 := Option.some.inj (hm.symm.trans m135); exact ⟨_, rfl, (gU_ne (gne hg128 hg125 (by decide))).trans hg128⟩)
      | 3, _, hm, hv => gl_at rfl (by obtain rfl : v = .ref q40 := Option.some.inj (hm.symm.trans m136); exact ⟨_, rfl, (gU_ne (gne hg129 hg125 (by decide))).trans hg129⟩)
      | 4, _, hm, hv => gl_at rfl (by obtain rfl : v = .ref q64 := Option.some.inj (hm.symm.trans m137); exact ⟨_, rfl, (gU_ne (gne hg130 hg125 (by decide))).trans hg130⟩)
      | 5, _, hm, hv => gl_at rfl (by obtain rfl : v = .ref q82 := Option.some.inj (hm.symm.trans m131); exact ⟨_, rfl, (gU_ne (gne hg118 hg125 (by decide))).trans hg118⟩)
      | 6, _, hm, hv => gl_at rfl (mK_N (by decide) _ _ v (gM_re hg125 (by decide)) (hv _ rfl))
      | 7, _, hm, hv => gl_at rfl (hv _ rfl)
      | 8, _, hm, hv => gl_at rfl (hv _ rfl)
      | k + 9, hk, _, _ => absurd hk (by omega)))
  have hY := hY.grow
  have hU_3 := gT_new (q := o0) (t := 14) hU_3 rfl (by decide)
  have hU_51 := gT_new (q := o0) (t := 14) hU_51 rfl (by decide)
  have hU_17 := gT_new (q := o0) (t := 14) hU_17 rfl (by decide)
  exact W.vret hx hb hr (fun t ht hW => ⟨⟨_, rfl, trivial, by (try dsimp only); rw [ht]; exact ⟨hT, gU_at, hY, ⟨_, hU_3⟩, ⟨_, hU_51⟩, ⟨_, hU_17⟩, ⟨_, m131, (gU_ne (gne hg118 hg125 (by decide))).trans hg118, m138, ⟨_, m139, (gU_ne (gne hg100 hg125 (by decide))).trans hg100, m140⟩, ⟨_, m141, (gU_ne (gne hg104 hg125 (by decide))).trans hg104, m142⟩, ⟨_, m143, (gU_ne (gne hg108 hg125 (by decide))).trans hg108, m144⟩, ⟨_, m145, (gU_ne (gne hg112 hg125 (by decide))).trans hg112, m146⟩, ⟨_, m147, (gU_ne (gne hg116 hg125 (by decide))).trans hg116, m148⟩⟩, m132⟩⟩, hS.F ht⟩) hS.2.2 dX11_init_66
