def w_n_X0 : List Cond := .code yX0_init cX0_init 1 none :: (HAppend.hAppend (α := List Cond) (β := List Cond) (γ := List Cond) [.methodLink RX0 3 objectInit, .instanceMethod objectInit, .code objectInit ⟨#[0xb1]⟩ 1 none, .classLink RX0 9 RX7, .fieldLink RX0 11 "SeaLand$Board" "settlers" "[LSeaLand$Settler;", .arrayClass .int, .fieldLink RX0 17 "SeaLand$Board" "farmOf" "[I", .fieldLink RX0 21 "SeaLand$Board" "crops" "[I", .arrayClass .boolean, .fieldLink RX0 24 "SeaLand$Board" "held" "[Z", .fieldLink RX0 28 "SeaLand$Board" "harvested" "[Z", .arrayClass .long, .fieldLink RX0 33 "SeaLand$Board" "facts" "[J", .fieldLink RX0 37 "SeaLand$Board" "marks" "[I", .classLink RX0 31 RX4, .instantiable RX4 14, .initialized RX4, .code yX4_init cX4_init 1 none, .methodLink RX4 5 objectInit, .fieldLink RX4 11 "SeaLand$Law" "things" "[I", .fieldLink RX4 15 "SeaLand$Law" "begins" "[I", .fieldLink RX4 18 "SeaLand$Law" "kinds" "[I", .fieldLink RX4 21 "SeaLand$Law" "firsts" "[I", .fieldLink RX4 24 "SeaLand$Law" "seconds" "[I", .fieldLink RX4 27 "SeaLand$Law" "froms" "[I", .fieldLink RX4 30 "SeaLand$Law" "tos" "[I", .fieldLink RX4 33 "SeaLand$Law" "stepFrom" "[I", .fieldLink RX4 36 "SeaLand$Law" "stepTo" "[I", .fieldLink RX4 39 "SeaLand$Law" "steps" "[I", .fieldLink RX4 42 "SeaLand$Law" "stack" "[J", .instanceMethod yX4_init, .fieldLink RX0 41 "SeaLand$Board" "force" "LSeaLand$Law;", .fieldLink RX0 45 "SeaLand$Board" "proposed" "LSeaLand$Law;", .fieldLink RX0 48 "SeaLand$Board" "spare" "LSeaLand$Law;", .fieldLink RX0 51 "SeaLand$Board" "fault" "I", .code yJ7_fill_53178 cJ7_fill_53178 4 none, .methodLink RX0 55 yJ7_fill_53178, .static yJ7_fill_53178, .initialized RJ7] bs2)
set_option maxHeartbeats 4000000 in
set_option maxRecDepth 100000 in
theorem n_X0 (l : Launch) (dC : Nat → ClassId) (dI : Nat → Nat → Nat) (kA : Nat → ClassId) (adK adV : Nat → Nat) (G : gT) (H0 : Heap)  (o0 : Nat) (hT : gH (dC, dI) kA (SHc 0 0) G H0) (hr_o0 : G o0 = some 103) : Met l yX0_init w_n_X0 ({ frames := 2, cells := 43, slots := 4419, locals := 58 }) (va_Pc [.ref o0] (fun U => U.heap = H0 ∧ va_K (dC, dI) vwCl (tyl kA) U ∧ EVC adK adV (gA G H0.size) U U.heap ∧ AO U)) (va_Qv (fun (u : gT) => True) (fun (G1 : gT) (t : State) => gH (dC, dI) kA (SHc 0 0) G1 t.heap ∧ G1 o0 = some 3 ∧ gY ([7, 40, 41, 42, 43, 44, 45, 46, 47, 48, 49, 50, 51, 52, 53, 54, 55, 56, 57, 107] : List Nat) 3 o0 G G1 H0 t.heap ∧ (∃ w, ∀ b, G1 b = some 51 → G b = some 51 ∨ b = w)) (gA G H0.size)) 43 4419 (gA G H0.size) := by
  refine Met.ofW (cc := cX0_init) (maxL := 1) (ret := none) (by decide) rfl ?_
  intro p e s m args below meth c s₁ B hml hv
  obtain ⟨rfl, hH0, hK, hE, hAO⟩ := hv
  have hx := B.exec
  have hb := B.bytes
  have hr := B.returns
  have hts := atoms_spec (ws := w_n_X0) B.pre
  have hown : s.vm.findClass RX0 = some m.cls := findClass_of_methodNamed B.named
  have hlocks := B.notSynchronized
  have hin : meth.name = "<init>" := (name_of_methodNamed B.named B.method).1
  subst hH0
  generalize hAe : gA G s.heap.size = A at hE ⊢
  have hA : ∀ q : Nat, s.heap.size ≤ q → A q := fun q h => by rw [← hAe]; exact Or.inr h
  have hG := gA_of hAe
  have hS : va_S A s.heap s.heap [] := va_S.rf
  have hl := lv_entry ([.ref o0]) (n := 1) (Nat.le_of_ble_eq_true rfl)
  rw [lg_entry_eq]
  generalize (lg_sl ([.ref o0]) ++ List.replicate (1 - (lg_sl ([.ref o0])).length) Slot.unset).toArray = ls at hl ⊢
  have hl : lv_has ls 1 [(0, .ref o0)] := hl
  have hG0 := hG
  have hY : gY ([7, 40, 41, 42, 43, 44, 45, 46, 47, 48, 49, 50, 51, 52, 53, 54, 55, 56, 57, 107] : List Nat) 3 o0 G G s.heap s.heap := gY.rf hT
  have hU_51 : ∀ b, G b = some 51 → G b = some 51 := fun _ h => h
  have hAo := hG _ _ hr_o0
  refine lv_aload_n hx hb dX0_init_0 rfl (lv_at hl 0 rfl) ?_
  refine W.objInit hx hb hown (ht_at2 hts 0 rfl) (ht_at2 hts 1 rfl) (ht_at2 hts 2 rfl) rfl (by rw [hml]; exact hl.1) rfl dX0_init_1 (Nat.le_of_ble_eq_true rfl) (Nat.le_of_ble_eq_true rfl) ?_
  refine W.eq (g2 := F0 m 4 ls []) rfl ?_
  refine lv_aload_n hx hb dX0_init_4 rfl (lv_at hl 0 rfl) ?_
  refine lv_bipush (v := 60) hx hb dX0_init_5 (by decide) ?_
  have hz9 := hS.1
  refine tw_newq hx hb hown (ht_at2 hts 3 rfl) (hAO _ (by decide)) hK mon_c hT hS hG hA (shc_51) rfl (fun _ _ _ => ⟨fun h => absurd h (by omega), ⟨none, rfl, fun _ h => by cases h⟩⟩) (by decide) rfl (Nat.le_of_ble_eq_true rfl) (Nat.le_of_ble_eq_true rfl) (Nat.le_of_ble_eq_true rfl) dX0_init_7 (fun q1 G1 H hq9 eG hz1 hz2 hT hx9 hG hm9 hS => ?_)
  have hn_q1 : s.heap.size ≤ q1 := Nat.le_trans hz9 (Nat.le_of_eq hz2)
  have hY := hY.new hn_q1 eG hx9 (by decide)
  have hU_51 := gT_new1 hU_51 eG
  have hg2 := (hx9 _ _ hr_o0).1
  have hg3 : G1 q1 = some 51 := by rw [eG]; exact gU_at
  refine tw_putF (v := .ref q1) (ty := (.array (.object "SeaLand$Settler"))) hx hb hts bF2_X0 tyX0 tyX0_ok nmX0 hown hK hT hG hS hg2 shc_103 rfl 0 (by decide) (ht_at2 hts 4 rfl) (fun _ h9 => h9) rfl hin rfl (by decide +kernel) rfl rfl (gl_at rfl ⟨some _, rfl, fun _ h => by cases h; exact hg3⟩) dX0_init_10 (fun H locs hT oq m4 oj hS => ?_)
  have hY := hY.put oq
  refine lv_aload_n hx hb dX0_init_13 rfl (lv_at hl 0 rfl) ?_
  refine lv_bipush (v := 96) hx hb dX0_init_14 (by decide) ?_
  have hz9 := hS.1
  refine tw_newa (ty := .int) hx hb (ht_at2 hts 5 rfl) rfl hK mon_c hT hS hG hA (shc_52) rfl (fun _ _ _ => ⟨0, rfl, by decide, by decide⟩) (by decide) rfl (Nat.le_of_ble_eq_true rfl) (Nat.le_of_ble_eq_true rfl) (Nat.le_of_ble_eq_true rfl) dX0_init_16 (fun q5 G2 H hq9 eG hz1 hz2 hT hx9 hG hm9 hS => ?_)
  have hn_q5 : s.heap.size ≤ q5 := Nat.le_trans hz9 (Nat.le_of_eq hz2)
  have hY := hY.new hn_q5 eG hx9 (by decide)
  have hU_51 := gT_new hU_51 eG (by decide)
  have m6 := (el_kept (hx9 _ _ hg2).2).trans m4
  have hg7 := (hx9 _ _ hg2).1
  have hg8 := (hx9 _ _ hg3).1
  have hg9 : G2 q5 = some 52 := by rw [eG]; exact gU_at
  refine tw_putF (v := .ref q5) (ty := (.array .int)) hx hb hts bF2_X0 tyX0 tyX0_ok nmX0 hown hK hT hG hS hg7 shc_103 rfl 1 (by decide) (ht_at2 hts 6 rfl) (fun _ h9 => h9) rfl hin rfl (by decide +kernel) rfl rfl (gl_at rfl ⟨some _, rfl, fun _ h => by cases h; exact hg9⟩) dX0_init_18 (fun H locs hT oq m10 oj hS => ?_)
  have hY := hY.put oq
  have m11 := (oj 0 (by decide) (by decide)).trans m6
  refine lv_aload_n hx hb dX0_init_21 rfl (lv_at hl 0 rfl) ?_
  refine lv_bipush (v := 30) hx hb dX0_init_22 (by decide) ?_
  have hz9 := hS.1
  refine tw_newa (ty := .int) hx hb (ht_at2 hts 5 rfl) rfl hK mon_c hT hS hG hA (shc_53) rfl (fun _ _ _ => ⟨0, rfl, by decide, by decide⟩) (by decide) rfl (Nat.le_of_ble_eq_true rfl) (Nat.le_of_ble_eq_true rfl) (Nat.le_of_ble_eq_true rfl) dX0_init_24 (fun q12 G3 H hq9 eG hz1 hz2 hT hx9 hG hm9 hS => ?_)
  have hn_q12 : s.heap.size ≤ q12 := Nat.le_trans hz9 (Nat.le_of_eq hz2)
  have hY := hY.new hn_q12 eG hx9 (by decide)
  have hU_51 := gT_new hU_51 eG (by decide)
  have m13 := (el_kept (hx9 _ _ hg7).2).trans m11
  have m14 := (el_kept (hx9 _ _ hg7).2).trans m10
  have hg15 := (hx9 _ _ hg7).1
  have hg16 := (hx9 _ _ hg8).1
  have hg17 := (hx9 _ _ hg9).1
  have hg18 : G3 q12 = some 53 := by rw [eG]; exact gU_at
  refine tw_putF (v := .ref q12) (ty := (.array .int)) hx hb hts bF2_X0 tyX0 tyX0_ok nmX0 hown hK hT hG hS hg15 shc_103 rfl 2 (by decide) (ht_at2 hts 7 rfl) (fun _ h9 => h9) rfl hin rfl (by decide +kernel) rfl rfl (gl_at rfl ⟨some _, rfl, fun _ h => by cases h; exact hg18⟩) dX0_init_26 (fun H locs hT oq m19 oj hS => ?_)
  have hY := hY.put oq
  have m20 := (oj 0 (by decide) (by decide)).trans m13
  have m21 := (oj 1 (by decide) (by decide)).trans m14
  refine lv_aload_n hx hb dX0_init_29 rfl (lv_at hl 0 rfl) ?_
  refine lv_bipush (v := 30) hx hb dX0_init_30 (by decide) ?_
  have hz9 := hS.1
  refine tw_newa (ty := .boolean) hx hb (ht_at2 hts 8 rfl) rfl hK mon_c hT hS hG hA (shc_54) rfl (fun _ _ _ => ⟨0, rfl, by decide, by decide⟩) (by decide) rfl (Nat.le_of_ble_eq_true rfl) (Nat.le_of_ble_eq_true rfl) (Nat.le_of_ble_eq_true rfl) dX0_init_32 (fun q22 G4 H hq9 eG hz1 hz2 hT hx9 hG hm9 hS => ?_)
  have hn_q22 : s.heap.size ≤ q22 := Nat.le_trans hz9 (Nat.le_of_eq hz2)
  have hY := hY.new hn_q22 eG hx9 (by decide)
  have hU_51 := gT_new hU_51 eG (by decide)
  have m23 := (el_kept (hx9 _ _ hg15).2).trans m20
  have m24 := (el_kept (hx9 _ _ hg15).2).trans m21
  have m25 := (el_kept (hx9 _ _ hg15).2).trans m19
  have hg26 := (hx9 _ _ hg15).1
  have hg27 := (hx9 _ _ hg16).1
  have hg28 := (hx9 _ _ hg17).1
  have hg29 := (hx9 _ _ hg18).1
  have hg30 : G4 q22 = some 54 := by rw [eG]; exact gU_at
  refine tw_putF (v := .ref q22) (ty := (.array .boolean)) hx hb hts bF2_X0 tyX0 tyX0_ok nmX0 hown hK hT hG hS hg26 shc_103 rfl 3 (by decide) (ht_at2 hts 9 rfl) (fun _ h9 => h9) rfl hin rfl (by decide +kernel) rfl rfl (gl_at rfl ⟨some _, rfl, fun _ h => by cases h; exact hg30⟩) dX0_init_34 (fun H locs hT oq m31 oj hS => ?_)
  have hY := hY.put oq
  have m32 := (oj 0 (by decide) (by decide)).trans m23
  have m33 := (oj 1 (by decide) (by decide)).trans m24
  have m34 := (oj 2 (by decide) (by decide)).trans m25
  refine lv_aload_n hx hb dX0_init_37 rfl (lv_at hl 0 rfl) ?_
  refine lv_iconst (v := 5) hx hb dX0_init_38 (by decide) ?_
  have hz9 := hS.1
  refine tw_newa (ty := .boolean) hx hb (ht_at2 hts 8 rfl) rfl hK mon_c hT hS hG hA (shc_55) rfl (fun _ _ _ => ⟨0, rfl, by decide, by decide⟩) (by decide) rfl (Nat.le_of_ble_eq_true rfl) (Nat.le_of_ble_eq_true rfl) (Nat.le_of_ble_eq_true rfl) dX0_init_39 (fun q35 G5 H hq9 eG hz1 hz2 hT hx9 hG hm9 hS => ?_)
  have hn_q35 : s.heap.size ≤ q35 := Nat.le_trans hz9 (Nat.le_of_eq hz2)
  have hY := hY.new hn_q35 eG hx9 (by decide)
  have hU_51 := gT_new hU_51 eG (by decide)
  have m36 := (el_kept (hx9 _ _ hg26).2).trans m32
  have m37 := (el_kept (hx9 _ _ hg26).2).trans m33
  have m38 := (el_kept (hx9 _ _ hg26).2).trans m34
  have m39 := (el_kept (hx9 _ _ hg26).2).trans m31
  have hg40 := (hx9 _ _ hg26).1
  have hg41 := (hx9 _ _ hg27).1
  have hg42 := (hx9 _ _ hg28).1
  have hg43 := (hx9 _ _ hg29).1
  have hg44 := (hx9 _ _ hg30).1
  have hg45 : G5 q35 = some 55 := by rw [eG]; exact gU_at
  refine tw_putF (v := .ref q35) (ty := (.array .boolean)) hx hb hts bF2_X0 tyX0 tyX0_ok nmX0 hown hK hT hG hS hg40 shc_103 rfl 4 (by decide) (ht_at2 hts 10 rfl) (fun _ h9 => h9) rfl hin rfl (by decide +kernel) rfl rfl (gl_at rfl ⟨some _, rfl, fun _ h => by cases h; exact hg45⟩) dX0_init_41 (fun H locs hT oq m46 oj hS => ?_)
  have hY := hY.put oq
  have m47 := (oj 0 (by decide) (by decide)).trans m36
  have m48 := (oj 1 (by decide) (by decide)).trans m37
  have m49 := (oj 2 (by decide) (by decide)).trans m38
  have m50 := (oj 3 (by decide) (by decide)).trans m39
  refine lv_aload_n hx hb dX0_init_44 rfl (lv_at hl 0 rfl) ?_
  refine lv_bipush (v := 10) hx hb dX0_init_45 (by decide) ?_
  have hz9 := hS.1
  refine tw_newa (ty := .long) hx hb (ht_at2 hts 11 rfl) rfl hK mon_c hT hS hG hA (shc_56) rfl (fun _ _ _ => ⟨0, rfl⟩) (by decide) rfl (Nat.le_of_ble_eq_true rfl) (Nat.le_of_ble_eq_true rfl) (Nat.le_of_ble_eq_true rfl) dX0_init_47 (fun q51 G6 H hq9 eG hz1 hz2 hT hx9 hG hm9 hS => ?_)
  have hn_q51 : s.heap.size ≤ q51 := Nat.le_trans hz9 (Nat.le_of_eq hz2)
  have hY := hY.new hn_q51 eG hx9 (by decide)
  have hU_51 := gT_new hU_51 eG (by decide)
  have m52 := (el_kept (hx9 _ _ hg40).2).trans m47
  have m53 := (el_kept (hx9 _ _ hg40).2).trans m48
  have m54 := (el_kept (hx9 _ _ hg40).2).trans m49
  have m55 := (el_kept (hx9 _ _ hg40).2).trans m50
  have m56 := (el_kept (hx9 _ _ hg40).2).trans m46
  have hg57 := (hx9 _ _ hg40).1
  have hg58 := (hx9 _ _ hg41).1
  have hg59 := (hx9 _ _ hg42).1
  have hg60 := (hx9 _ _ hg43).1
  have hg61 := (hx9 _ _ hg44).1
  have hg62 := (hx9 _ _ hg45).1
  have hg63 : G6 q51 = some 56 := by rw [eG]; exact gU_at
  refine tw_putF (v := .ref q51) (ty := (.array .long)) hx hb hts bF2_X0 tyX0 tyX0_ok nmX0 hown hK hT hG hS hg57 shc_103 rfl 5 (by decide) (ht_at2 hts 12 rfl) (fun _ h9 => h9) rfl hin rfl (by decide +kernel) rfl rfl (gl_at rfl ⟨some _, rfl, fun _ h => by cases h; exact hg63⟩) dX0_init_49 (fun H locs hT oq m64 oj hS => ?_)
  have hY := hY.put oq
  have m65 := (oj 0 (by decide) (by decide)).trans m52
  have m66 := (oj 1 (by decide) (by decide)).trans m53
  have m67 := (oj 2 (by decide) (by decide)).trans m54
  have m68 := (oj 3 (by decide) (by decide)).trans m55
  have m69 := (oj 4 (by decide) (by decide)).trans m56
  refine lv_aload_n hx hb dX0_init_52 rfl (lv_at hl 0 rfl) ?_
  refine lv_bipush (v := 60) hx hb dX0_init_53 (by decide) ?_
  have hz9 := hS.1
  refine tw_newa (ty := .int) hx hb (ht_at2 hts 5 rfl) rfl hK mon_c hT hS hG hA (shc_57) rfl (fun _ _ _ => ⟨0, rfl, by decide, by decide⟩) (by decide) rfl (Nat.le_of_ble_eq_true rfl) (Nat.le_of_ble_eq_true rfl) (Nat.le_of_ble_eq_true rfl) dX0_init_55 (fun q70 G7 H hq9 eG hz1 hz2 hT hx9 hG hm9 hS => ?_)
  have hn_q70 : s.heap.size ≤ q70 := Nat.le_trans hz9 (Nat.le_of_eq hz2)
  have hY := hY.new hn_q70 eG hx9 (by decide)
  have hU_51 := gT_new hU_51 eG (by decide)
  have m71 := (el_kept (hx9 _ _ hg57).2).trans m65
  have m72 := (el_kept (hx9 _ _ hg57).2).trans m66
  have m73 := (el_kept (hx9 _ _ hg57).2).trans m67
  have m74 := (el_kept (hx9 _ _ hg57).2).trans m68
  have m75 := (el_kept (hx9 _ _ hg57).2).trans m69
  have m76 := (el_kept (hx9 _ _ hg57).2).trans m64
  have hg77 := (hx9 _ _ hg57).1
  have hg78 := (hx9 _ _ hg58).1
  have hg79 := (hx9 _ _ hg59).1
  have hg80 := (hx9 _ _ hg60).1
  have hg81 := (hx9 _ _ hg61).1
  have hg82 := (hx9 _ _ hg62).1
  have hg83 := (hx9 _ _ hg63).1
  have hg84 : G7 q70 = some 57 := by rw [eG]; exact gU_at
  refine tw_putF (v := .ref q70) (ty := (.array .int)) hx hb hts bF2_X0 tyX0 tyX0_ok nmX0 hown hK hT hG hS hg77 shc_103 rfl 6 (by decide) (ht_at2 hts 13 rfl) (fun _ h9 => h9) rfl hin rfl (by decide +kernel) rfl rfl (gl_at rfl ⟨some _, rfl, fun _ h => by cases h; exact hg84⟩) dX0_init_57 (fun H locs hT oq m85 oj hS => ?_)
  have hY := hY.put oq
  have m86 := (oj 0 (by decide) (by decide)).trans m71
  have m87 := (oj 1 (by decide) (by decide)).trans m72
  have m88 := (oj 2 (by decide) (by decide)).trans m73
  have m89 := (oj 3 (by decide) (by decide)).trans m74
  have m90 := (oj 4 (by decide) (by decide)).trans m75
  have m91 := (oj 5 (by decide) (by decide)).trans m76
  refine lv_aload_n hx hb dX0_init_60 rfl (lv_at hl 0 rfl) ?_
  have hz9 := hS.1
  refine tw_new hx hb hts bF2_X4 tyX4 tyX4_ok hown (ht_at2 hts 14 rfl) (ht_at2 hts 15 rfl) (ht_at2 hts 16 rfl) hK mon_c hT hS hG hA (shc_107) rfl nd_107 (Nat.le_of_ble_eq_true rfl) (Nat.le_of_ble_eq_true rfl) dX0_init_61 (fun q92 G8 H hq9 eG hz1 hz2 hT hx9 hG hm9 hS => ?_)
  have hn_q92 : s.heap.size ≤ q92 := Nat.le_trans hz9 (Nat.le_of_eq hz2)
  have hY := hY.new hn_q92 eG hx9 (by decide)
  have hU_51 := gT_new hU_51 eG (by decide)
  have m93 := (el_kept (hx9 _ _ hg77).2).trans m86
  have m94 := (el_kept (hx9 _ _ hg77).2).trans m87
  have m95 := (el_kept (hx9 _ _ hg77).2).trans m88
  have m96 := (el_kept (hx9 _ _ hg77).2).trans m89
  have m97 := (el_kept (hx9 _ _ hg77).2).trans m90
  have m98 := (el_kept (hx9 _ _ hg77).2).trans m91
  have m99 := (el_kept (hx9 _ _ hg77).2).trans m85
  have hg100 := (hx9 _ _ hg77).1
  have hg101 := (hx9 _ _ hg78).1
  have hg102 := (hx9 _ _ hg79).1
  have hg103 := (hx9 _ _ hg80).1
  have hg104 := (hx9 _ _ hg81).1
  have hg105 := (hx9 _ _ hg82).1
  have hg106 := (hx9 _ _ hg83).1
  have hg107 := (hx9 _ _ hg84).1
  have hg108 : G8 q92 = some 107 := by rw [eG]; exact gU_at
  refine lv_dup hx hb dX0_init_64 rfl ?_
  have hFc := gA_free hG hA hS
  have hz9 := hS.1
  refine va_callv (va_runIN (As := []) (rest := [.ref q92, .ref o0]) ⟨hx, hb, hml, hown, hts⟩ (n_X4 l dC dI kA adK adV G8 H 0 0 q92 hT hg108 (by omega) (by omega)) ⟨va_cnB 0 hts (goodIn_ca (goodIn_r _ [18, 19, 2, 3, 6, 20, 21, 22, 23, 24, 25, 26, 27, 28, 29, 12, 30] rfl (by decide +kernel)) (bs2_in _ _)) rfl rfl rfl (hE.nm 104 rfl) (ht_at2 hts 16 rfl) (by decide +kernel) ⟨(Nat.le_of_ble_eq_true rfl), (Nat.le_of_ble_eq_true rfl)⟩, rfl, (ht_at2 hts 30 rfl)⟩ ⟨fun a U g mk q => by obtain ⟨q0, q1, qK, qE, qA⟩ := q; exact ⟨q0, q1, va_K.moved (u := U) (U := U.calling g mk a) (Vm.Alike.refl U.vm) qK, EVC.blind g mk a qE, AO.blind g mk a qA⟩, fun U hU hW => ⟨rfl, hU, va_K.moved hW.alike hK, hE.call hS hFc hU hW, hAO.call hW⟩⟩ rfl rfl hl.1 rfl (lv_room (Nat.le_of_ble_eq_true rfl)) dX0_init_65 ⟨(Nat.le_of_ble_eq_true rfl), (Nat.le_of_ble_eq_true rfl)⟩) hS (fun q _ h => hFc q h) hFc (fun G9 t H locs ht hvm _ hB _ _ hS => ?_)
  (try dsimp only at hB); rw [ht] at hB; obtain ⟨hT, hg109, hY1⟩ := hB
  have hY := hY.call hn_q92 hY1 hz9 (by decide)
  have hG := hY.A hG0 hAo hA
  have hU_51 := gT_call hU_51 hY1 (by decide)
  have m110 := (el_kept (hY1.1 _ _ (gne hg100 hg108 (by decide)) hg100).2).trans m93
  have m111 := (el_kept (hY1.1 _ _ (gne hg100 hg108 (by decide)) hg100).2).trans m94
  have m112 := (el_kept (hY1.1 _ _ (gne hg100 hg108 (by decide)) hg100).2).trans m95
  have m113 := (el_kept (hY1.1 _ _ (gne hg100 hg108 (by decide)) hg100).2).trans m96
  have m114 := (el_kept (hY1.1 _ _ (gne hg100 hg108 (by decide)) hg100).2).trans m97
  have m115 := (el_kept (hY1.1 _ _ (gne hg100 hg108 (by decide)) hg100).2).trans m98
  have m116 := (el_kept (hY1.1 _ _ (gne hg100 hg108 (by decide)) hg100).2).trans m99
  have hg117 := (hY1.1 _ _ (gne hg100 hg108 (by decide)) hg100).1
  have hg118 := (hY1.1 _ _ (gne hg101 hg108 (by decide)) hg101).1
  have hg119 := (hY1.1 _ _ (gne hg102 hg108 (by decide)) hg102).1
  have hg120 := (hY1.1 _ _ (gne hg103 hg108 (by decide)) hg103).1
  have hg121 := (hY1.1 _ _ (gne hg104 hg108 (by decide)) hg104).1
  have hg122 := (hY1.1 _ _ (gne hg105 hg108 (by decide)) hg105).1
  have hg123 := (hY1.1 _ _ (gne hg106 hg108 (by decide)) hg106).1
  have hg124 := (hY1.1 _ _ (gne hg107 hg108 (by decide)) hg107).1
  refine tw_put (v := .ref q92) (ty := (.object "SeaLand$Law")) hx hb hts bF2_X0 tyX0 tyX0_ok nmX0 hown hK hT hG hS hg117 shc_103 rfl 7 (by decide) (ht_at2 hts 31 rfl) (fun _ h9 => h9) rfl (by decide +kernel) rfl rfl (gl_at rfl ⟨some _, rfl, fun _ h => by cases h; exact hg109⟩) dX0_init_68 (fun H locs hT oq m125 oj hS => ?_)
  have hY := hY.put oq
  have m126 := (oj 0 (by decide) (by decide)).trans m110
  have m127 := (oj 1 (by decide) (by decide)).trans m111
  have m128 := (oj 2 (by decide) (by decide)).trans m112
  have m129 := (oj 3 (by decide) (by decide)).trans m113
  have m130 := (oj 4 (by decide) (by decide)).trans m114
  have m131 := (oj 5 (by decide) (by decide)).trans m115
  have m132 := (oj 6 (by decide) (by decide)).trans m116
  refine lv_aload_n hx hb dX0_init_71 rfl (lv_at hl 0 rfl) ?_
  have hz9 := hS.1
  refine tw_new hx hb hts bF2_X4 tyX4 tyX4_ok hown (ht_at2 hts 14 rfl) (ht_at2 hts 15 rfl) (ht_at2 hts 16 rfl) hK mon_c hT hS hG hA (shc_107) rfl nd_107 (Nat.le_of_ble_eq_true rfl) (Nat.le_of_ble_eq_true rfl) dX0_init_72 (fun q133 G10 H hq9 eG hz1 hz2 hT hx9 hG hm9 hS => ?_)
  have hn_q133 : s.heap.size ≤ q133 := Nat.le_trans hz9 (Nat.le_of_eq hz2)
  have hY := hY.new hn_q133 eG hx9 (by decide)
  have hU_51 := gT_new hU_51 eG (by decide)
  have m134 := (el_kept (hx9 _ _ hg117).2).trans m126
  have m135 := (el_kept (hx9 _ _ hg117).2).trans m127
  have m136 := (el_kept (hx9 _ _ hg117).2).trans m128
  have m137 := (el_kept (hx9 _ _ hg117).2).trans m129
  have m138 := (el_kept (hx9 _ _ hg117).2).trans m130
  have m139 := (el_kept (hx9 _ _ hg117).2).trans m131
  have m140 := (el_kept (hx9 _ _ hg117).2).trans m132
  have m141 := (el_kept (hx9 _ _ hg117).2).trans m125
  have hg142 := (hx9 _ _ hg117).1
  have hg143 := (hx9 _ _ hg118).1
  have hg144 := (hx9 _ _ hg119).1
  have hg145 := (hx9 _ _ hg120).1
  have hg146 := (hx9 _ _ hg121).1
  have hg147 := (hx9 _ _ hg122).1
  have hg148 := (hx9 _ _ hg123).1
  have hg149 := (hx9 _ _ hg124).1
  have hg150 := (hx9 _ _ hg109).1
  have hg151 : G10 q133 = some 107 := by rw [eG]; exact gU_at
  refine lv_dup hx hb dX0_init_75 rfl ?_
  have hFc := gA_free hG hA hS
  have hz9 := hS.1
  refine va_callv (va_runIN (As := []) (rest := [.ref q133, .ref o0]) ⟨hx, hb, hml, hown, hts⟩ (n_X4 l dC dI kA adK adV G10 H 0 0 q133 hT hg151 (by omega) (by omega)) ⟨va_cnB 0 hts (goodIn_ca (goodIn_r _ [18, 19, 2, 3, 6, 20, 21, 22, 23, 24, 25, 26, 27, 28, 29, 12, 30] rfl (by decide +kernel)) (bs2_in _ _)) rfl rfl rfl (hE.nm 104 rfl) (ht_at2 hts 16 rfl) (by decide +kernel) ⟨(Nat.le_of_ble_eq_true rfl), (Nat.le_of_ble_eq_true rfl)⟩, rfl, (ht_at2 hts 30 rfl)⟩ ⟨fun a U g mk q => by obtain ⟨q0, q1, qK, qE, qA⟩ := q; exact ⟨q0, q1, va_K.moved (u := U) (U := U.calling g mk a) (Vm.Alike.refl U.vm) qK, EVC.blind g mk a qE, AO.blind g mk a qA⟩, fun U hU hW => ⟨rfl, hU, va_K.moved hW.alike hK, hE.call hS hFc hU hW, hAO.call hW⟩⟩ rfl rfl hl.1 rfl (lv_room (Nat.le_of_ble_eq_true rfl)) dX0_init_76 ⟨(Nat.le_of_ble_eq_true rfl), (Nat.le_of_ble_eq_true rfl)⟩) hS (fun q _ h => hFc q h) hFc (fun G11 t H locs ht hvm _ hB _ _ hS => ?_)
  (try dsimp only at hB); rw [ht] at hB; obtain ⟨hT, hg152, hY1⟩ := hB
  have hY := hY.call hn_q133 hY1 hz9 (by decide)
  have hG := hY.A hG0 hAo hA
  have hU_51 := gT_call hU_51 hY1 (by decide)
  have m153 := (el_kept (hY1.1 _ _ (gne hg142 hg151 (by decide)) hg142).2).trans m134
  have m154 := (el_kept (hY1.1 _ _ (gne hg142 hg151 (by decide)) hg142).2).trans m135
  have m155 := (el_kept (hY1.1 _ _ (gne hg142 hg151 (by decide)) hg142).2).trans m136
  have m156 := (el_kept (hY1.1 _ _ (gne hg142 hg151 (by decide)) hg142).2).trans m137
  have m157 := (el_kept (hY1.1 _ _ (gne hg142 hg151 (by decide)) hg142).2).trans m138
  have m158 := (el_kept (hY1.1 _ _ (gne hg142 hg151 (by decide)) hg142).2).trans m139
  have m159 := (el_kept (hY1.1 _ _ (gne hg142 hg151 (by decide)) hg142).2).trans m140
  have m160 := (el_kept (hY1.1 _ _ (gne hg142 hg151 (by decide)) hg142).2).trans m141
  have hg161 := (hY1.1 _ _ (gne hg142 hg151 (by decide)) hg142).1
  have hg162 := (hY1.1 _ _ (gne hg143 hg151 (by decide)) hg143).1
  have hg163 := (hY1.1 _ _ (gne hg144 hg151 (by decide)) hg144).1
  have hg164 := (hY1.1 _ _ (gne hg145 hg151 (by decide)) hg145).1
  have hg165 := (hY1.1 _ _ (gne hg146 hg151 (by decide)) hg146).1
  have hg166 := (hY1.1 _ _ (gne hg147 hg151 (by decide)) hg147).1
  have hg167 := (hY1.1 _ _ (gne hg148 hg151 (by decide)) hg148).1
  have hg168 := (hY1.1 _ _ (gne hg149 hg151 (by decide)) hg149).1
  have hg169 := (hY1.1 _ _ (gne hg150 hg151 (by decide)) hg150).1
  refine tw_put (v := .ref q133) (ty := (.object "SeaLand$Law")) hx hb hts bF2_X0 tyX0 tyX0_ok nmX0 hown hK hT hG hS hg161 shc_103 rfl 8 (by decide) (ht_at2 hts 32 rfl) (fun _ h9 => h9) rfl (by decide +kernel) rfl rfl (gl_at rfl ⟨some _, rfl, fun _ h => by cases h; exact hg152⟩) dX0_init_79 (fun H locs hT oq m170 oj hS => ?_)
  have hY := hY.put oq
  have m171 := (oj 0 (by decide) (by decide)).trans m153
  have m172 := (oj 1 (by decide) (by decide)).trans m154
  have m173 := (oj 2 (by decide) (by decide)).trans m155
  have m174 := (oj 3 (by decide) (by decide)).trans m156
  have m175 := (oj 4 (by decide) (by decide)).trans m157
  have m176 := (oj 5 (by decide) (by decide)).trans m158
  have m177 := (oj 6 (by decide) (by decide)).trans m159
  have m178 := (oj 7 (by decide) (by decide)).trans m160
  refine lv_aload_n hx hb dX0_init_82 rfl (lv_at hl 0 rfl) ?_
  have hz9 := hS.1
  refine tw_new hx hb hts bF2_X4 tyX4 tyX4_ok hown (ht_at2 hts 14 rfl) (ht_at2 hts 15 rfl) (ht_at2 hts 16 rfl) hK mon_c hT hS hG hA (shc_107) rfl nd_107 (Nat.le_of_ble_eq_true rfl) (Nat.le_of_ble_eq_true rfl) dX0_init_83 (fun q179 G12 H hq9 eG hz1 hz2 hT hx9 hG hm9 hS => ?_)
  have hn_q179 : s.heap.size ≤ q179 := Nat.le_trans hz9 (Nat.le_of_eq hz2)
  have hY := hY.new hn_q179 eG hx9 (by decide)
  have hU_51 := gT_new hU_51 eG (by decide)
  have m180 := (el_kept (hx9 _ _ hg161).2).trans m171
  have m181 := (el_kept (hx9 _ _ hg161).2).trans m172
  have m182 := (el_kept (hx9 _ _ hg161).2).trans m173
  have m183 := (el_kept (hx9 _ _ hg161).2).trans m174
  have m184 := (el_kept (hx9 _ _ hg161).2).trans m175
  have m185 := (el_kept (hx9 _ _ hg161).2).trans m176
  have m186 := (el_kept (hx9 _ _ hg161).2).trans m177
  have m187 := (el_kept (hx9 _ _ hg161).2).trans m178
  have m188 := (el_kept (hx9 _ _ hg161).2).trans m170
  have hg189 := (hx9 _ _ hg161).1
  have hg190 := (hx9 _ _ hg162).1
  have hg191 := (hx9 _ _ hg163).1
  have hg192 := (hx9 _ _ hg164).1
  have hg193 := (hx9 _ _ hg165).1
  have hg194 := (hx9 _ _ hg166).1
  have hg195 := (hx9 _ _ hg167).1
  have hg196 := (hx9 _ _ hg168).1
  have hg197 := (hx9 _ _ hg169).1
  have hg198 := (hx9 _ _ hg152).1
  have hg199 : G12 q179 = some 107 := by rw [eG]; exact gU_at
  refine lv_dup hx hb dX0_init_86 rfl ?_
  have hFc := gA_free hG hA hS
  have hz9 := hS.1
  refine va_callv (va_runIN (As := []) (rest := [.ref q179, .ref o0]) ⟨hx, hb, hml, hown, hts⟩ (n_X4 l dC dI kA adK adV G12 H 0 0 q179 hT hg199 (by omega) (by omega)) ⟨va_cnB 0 hts (goodIn_ca (goodIn_r _ [18, 19, 2, 3, 6, 20, 21, 22, 23, 24, 25, 26, 27, 28, 29, 12, 30] rfl (by decide +kernel)) (bs2_in _ _)) rfl rfl rfl (hE.nm 104 rfl) (ht_at2 hts 16 rfl) (by decide +kernel) ⟨(Nat.le_of_ble_eq_true rfl), (Nat.le_of_ble_eq_true rfl)⟩, rfl, (ht_at2 hts 30 rfl)⟩ ⟨fun a U g mk q => by obtain ⟨q0, q1, qK, qE, qA⟩ := q; exact ⟨q0, q1, va_K.moved (u := U) (U := U.calling g mk a) (Vm.Alike.refl U.vm) qK, EVC.blind g mk a qE, AO.blind g mk a qA⟩, fun U hU hW => ⟨rfl, hU, va_K.moved hW.alike hK, hE.call hS hFc hU hW, hAO.call hW⟩⟩ rfl rfl hl.1 rfl (lv_room (Nat.le_of_ble_eq_true rfl)) dX0_init_87 ⟨(Nat.le_of_ble_eq_true rfl), (Nat.le_of_ble_eq_true rfl)⟩) hS (fun q _ h => hFc q h) hFc (fun G13 t H locs ht hvm _ hB _ _ hS => ?_)
  (try dsimp only at hB); rw [ht] at hB; obtain ⟨hT, hg200, hY1⟩ := hB
  have hY := hY.call hn_q179 hY1 hz9 (by decide)
  have hG := hY.A hG0 hAo hA
  have hU_51 := gT_call hU_51 hY1 (by decide)
  have m201 := (el_kept (hY1.1 _ _ (gne hg189 hg199 (by decide)) hg189).2).trans m180
  have m202 := (el_kept (hY1.1 _ _ (gne hg189 hg199 (by decide)) hg189).2).trans m181
  have m203 := (el_kept (hY1.1 _ _ (gne hg189 hg199 (by decide)) hg189).2).trans m182
  have m204 := (el_kept (hY1.1 _ _ (gne hg189 hg199 (by decide)) hg189).2).trans m183
  have m205 := (el_kept (hY1.1 _ _ (gne hg189 hg199 (by decide)) hg189).2).trans m184
  have m206 := (el_kept (hY1.1 _ _ (gne hg189 hg199 (by decide)) hg189).2).trans m185
  have m207 := (el_kept (hY1.1 _ _ (gne hg189 hg199 (by decide)) hg189).2).trans m186
  have m208 := (el_kept (hY1.1 _ _ (gne hg189 hg199 (by decide)) hg189).2).trans m187
  have m209 := (el_kept (hY1.1 _ _ (gne hg189 hg199 (by decide)) hg189).2).trans m188
  have hg210 := (hY1.1 _ _ (gne hg189 hg199 (by decide)) hg189).1
  have hg211 := (hY1.1 _ _ (gne hg190 hg199 (by decide)) hg190).1
  have hg212 := (hY1.1 _ _ (gne hg191 hg199 (by decide)) hg191).1
  have hg213 := (hY1.1 _ _ (gne hg192 hg199 (by decide)) hg192).1
  have hg214 := (hY1.1 _ _ (gne hg193 hg199 (by decide)) hg193).1
  have hg215 := (hY1.1 _ _ (gne hg194 hg199 (by decide)) hg194).1
  have hg216 := (hY1.1 _ _ (gne hg195 hg199 (by decide)) hg195).1
  have hg217 := (hY1.1 _ _ (gne hg196 hg199 (by decide)) hg196).1
  have hg218 := (hY1.1 _ _ (gne hg197 hg199 (by decide)) hg197).1
  have hg219 := (hY1.1 _ _ (gne hg198 hg199 (by decide)) hg198).1
  refine tw_put (v := .ref q179) (ty := (.object "SeaLand$Law")) hx hb hts bF2_X0 tyX0 tyX0_ok nmX0 hown hK hT hG hS hg210 shc_103 rfl 9 (by decide) (ht_at2 hts 33 rfl) (fun _ h9 => h9) rfl (by decide +kernel) rfl rfl (gl_at rfl ⟨some _, rfl, fun _ h => by cases h; exact hg200⟩) dX0_init_90 (fun H locs hT oq m220 oj hS => ?_)
  have hY := hY.put oq
  have m221 := (oj 0 (by decide) (by decide)).trans m201
  have m222 := (oj 1 (by decide) (by decide)).trans m202
  have m223 := (oj 2 (by decide) (by decide)).trans m203
  have m224 := (oj 3 (by decide) (by decide)).trans m204
  have m225 := (oj 4 (by decide) (by decide)).trans m205
  have m226 := (oj 5 (by decide) (by decide)).trans m206
  have m227 := (oj 6 (by decide) (by decide)).trans m207
  have m228 := (oj 7 (by decide) (by decide)).trans m208
  have m229 := (oj 8 (by decide) (by decide)).trans m209
  refine lv_aload_n hx hb dX0_init_93 rfl (lv_at hl 0 rfl) ?_
  refine lv_iconst (v := (-1)) hx hb dX0_init_94 (by decide) ?_
  refine tw_put (v := .int (-1)) (ty := .int) hx hb hts bF2_X0 tyX0 tyX0_ok nmX0 hown hK hT hG hS hg210 shc_103 rfl 10 (by decide) (ht_at2 hts 34 rfl) (fun _ h9 => h9) rfl (by decide +kernel) rfl rfl (gl_at rfl (gi_all _)) dX0_init_95 (fun H locs hT oq m230 oj hS => ?_)
  have hY := hY.put oq
  have m231 := (oj 0 (by decide) (by decide)).trans m221
  have m232 := (oj 1 (by decide) (by decide)).trans m222
  have m233 := (oj 2 (by decide) (by decide)).trans m223
  have m234 := (oj 3 (by decide) (by decide)).trans m224
  have m235 := (oj 4 (by decide) (by decide)).trans m225
  have m236 := (oj 5 (by decide) (by decide)).trans m226
  have m237 := (oj 6 (by decide) (by decide)).trans m227
  have m238 := (oj 7 (by decide) (by decide)).trans m228
  have m239 := (oj 8 (by decide) (by decide)).trans m229
  have m240 := (oj 9 (by decide) (by decide)).trans m220
  refine lv_aload_n hx hb dX0_init_98 rfl (lv_at hl 0 rfl) ?_
  refine tw_getM (v := .ref q5) hx hb hts bF2_X0 hown hK hT hg210 shc_103 rfl 1 (by decide) (ht_at2 hts 6 rfl) (fun _ h9 => h9) m232 dX0_init_99 ?_
  refine lv_iconst (v := (-1)) hx hb dX0_init_102 (by decide) ?_
  have hi9 : ∀ (G G' : gT) (k : Nat) (v : Value), (ga (gI (-2147483648) 2147483647)) G k v → (ga (gI (-2147483648) 2147483647)) G' k v := fun _ _ _ _ h => h
  have hz8 := hS.1
  have hT1 := hT.one hg212 shc_52 hi9
  have hFc := gA_one (t := 52) (sz := H.size) (hG _ _ hg212) (fun q hq => hA q (Nat.le_trans hS.1 hq))
  have hTo := hT
  refine va_callv (va_runS (As := [.ref q5, .int (-1)]) (rest := []) ⟨hx, hb, hml, hown, hts⟩ (c_fill_farmOf l dC dI kA adK adV (gU (fun _ => none) q5 52) H 0 0 q5 (-1) hT1 gU_at (by omega) (by omega)) (va_cwS 2 hts (goodIn_app (goodIn_r _ [37, 38, 39] rfl (by decide +kernel)) (goodIn_ca (goodIn_r _ [36] rfl (by decide +kernel)) (bs2_in _ _))) rfl rfl rfl (by decide +kernel) ⟨(Nat.le_of_ble_eq_true rfl), (Nat.le_of_ble_eq_true rfl)⟩) ⟨fun a U g mk q => by obtain ⟨q0, q1, qK, qE⟩ := q; exact ⟨q0, q1, va_K.moved (u := U) (U := U.calling g mk a) (Vm.Alike.refl U.vm) qK, EVC.blind g mk a qE⟩, fun U hU hW => ⟨rfl, hU, va_K.moved hW.alike hK, hE.call hS hFc hU hW⟩⟩ rfl rfl hl.1 rfl (lv_room (Nat.le_of_ble_eq_true rfl)) dX0_init_103 ⟨(Nat.le_of_ble_eq_true rfl), (Nat.le_of_ble_eq_true rfl)⟩) hS (fun q _ h => hFc q h) hFc (fun u t H locs ht hvm _ hB hz1 hk1 hS => ?_)
  (try dsimp only at hB); rw [ht] at hB; have hk2 : ∀ q, q < _ → q ≠ q5 → H[q]? = _ := fun q h1 h2 => hk1 q h1 (gA_not h1 h2)
  have hT := hTo.back hg212 shc_52 hi9 hB.1 hk2
  have hY := hY.put1 hn_q5 (fun q h1 h2 => hk2 q (Nat.lt_of_lt_of_le h1 hz8) h2)
  have m241 := (el_kept (hk2 _ (hTo.lt hg210) (gne hg210 hg212 (by decide)))).trans m231
  have m242 := (el_kept (hk2 _ (hTo.lt hg210) (gne hg210 hg212 (by decide)))).trans m232
  have m243 := (el_kept (hk2 _ (hTo.lt hg210) (gne hg210 hg212 (by decide)))).trans m233
  have m244 := (el_kept (hk2 _ (hTo.lt hg210) (gne hg210 hg212 (by decide)))).trans m234
  have m245 := (el_kept (hk2 _ (hTo.lt hg210) (gne hg210 hg212 (by decide)))).trans m235
  have m246 := (el_kept (hk2 _ (hTo.lt hg210) (gne hg210 hg212 (by decide)))).trans m236
  have m247 := (el_kept (hk2 _ (hTo.lt hg210) (gne hg210 hg212 (by decide)))).trans m237
  have m248 := (el_kept (hk2 _ (hTo.lt hg210) (gne hg210 hg212 (by decide)))).trans m238
  have m249 := (el_kept (hk2 _ (hTo.lt hg210) (gne hg210 hg212 (by decide)))).trans m239
  have m250 := (el_kept (hk2 _ (hTo.lt hg210) (gne hg210 hg212 (by decide)))).trans m240
  have hT := hT.grown (t := 3) mon_c hg210 (by decide) (by
    have h8 := hT _ _ hg210; rw [shc_103] at h8; rw [shc_3]
    refine gC.grow h8 (fun k v hk hm hv => match k, hk, hm, hv with
      | 0, _, hm, hv => gl_at rfl (by obtain rfl : v = .ref q1 := Option.some.inj (hm.symm.trans m241); exact ⟨_, rfl, (gU_ne (gne hg211 hg210 (by decide))).trans hg211⟩)
      | 1, _, hm, hv => gl_at rfl (by obtain rfl : v = .ref q5 := Option.some.inj (hm.symm.trans m242); exact ⟨_, rfl, (gU_ne (gne hg212 hg210 (by decide))).trans hg212⟩)
      | 2, _, hm, hv => gl_at rfl (by obtain rfl : v = .ref q12 := Option.some.inj (hm.symm.trans m243); exact ⟨_, rfl, (gU_ne (gne hg213 hg210 (by decide))).trans hg213⟩)
      | 3, _, hm, hv => gl_at rfl (by obtain rfl : v = .ref q22 := Option.some.inj (hm.symm.trans m244); exact ⟨_, rfl, (gU_ne (gne hg214 hg210 (by decide))).trans hg214⟩)
      | 4, _, hm, hv => gl_at rfl (by obtain rfl : v = .ref q35 := Option.some.inj (hm.symm.trans m245); exact ⟨_, rfl, (gU_ne (gne hg215 hg210 (by decide))).trans hg215⟩)
      | 5, _, hm, hv => gl_at rfl (by obtain rfl : v = .ref q51 := Option.some.inj (hm.symm.trans m246); exact ⟨_, rfl, (gU_ne (gne hg216 hg210 (by decide))).trans hg216⟩)
      | 6, _, hm, hv => gl_at rfl (by obtain rfl : v = .ref q70 := Option.some.inj (hm.symm.trans m247); exact ⟨_, rfl, (gU_ne (gne hg217 hg210 (by decide))).trans hg217⟩)
      | 7, _, hm, hv => gl_at rfl (by obtain rfl : v = .ref q92 := Option.some.inj (hm.symm.trans m248); exact ⟨_, rfl, (gU_ne (gne hg218 hg210 (by decide))).trans hg218⟩)
      | 8, _, hm, hv => gl_at rfl (by obtain rfl : v = .ref q133 := Option.some.inj (hm.symm.trans m249); exact ⟨_, rfl, (gU_ne (gne hg219 hg210 (by decide))).trans hg219⟩)
      | 9, _, hm, hv => gl_at rfl (by obtain rfl : v = .ref q179 := Option.some.inj (hm.symm.trans m250); exact ⟨_, rfl, (gU_ne (gne hg200 hg210 (by decide))).trans hg200⟩)
      | 10, _, hm, hv => gl_at rfl (hv _ rfl)
      | 11, _, hm, hv => gl_at rfl (hv _ rfl)
      | 12, _, hm, hv => gl_at rfl (hv _ rfl)
      | 13, _, hm, hv => gl_at rfl (hv _ rfl)
      | 14, _, hm, hv => gl_at rfl (hv _ rfl)
      | 15, _, hm, hv => gl_at rfl (hv _ rfl)
      | 16, _, hm, hv => gl_at rfl (hv _ rfl)
      | 17, _, hm, hv => gl_at rfl (hv _ rfl)
      | k + 18, hk, _, _ => absurd hk (by omega)))
  have hY := hY.grow
  have hU_51 := gT_new (q := o0) (t := 3) hU_51 rfl (by decide)
  exact W.vret hx hb hr (fun t ht hW => ⟨⟨_, rfl, trivial, by (try dsimp only); rw [ht]; exact ⟨hT, gU_at, hY, ⟨_, hU_51⟩⟩⟩, hS.F ht⟩) hS.2.2 dX0_init_106
def w_n_X3 : List Cond := .code yX3_init cX3_init 2 none :: (HAppend.hAppend (α := List Cond) (β := List Cond) (γ := List Cond) [.methodLink RX3 3 objectInit, .instanceMethod objectInit, .code objectInit ⟨#[0xb1]⟩ 1 none, .classLink RX3 9 RX8, .instantiable RX8 7, .initialized RX8, .code yX8_init cX8_init 1 none, .methodLink RX8 3 objectInit, .arrayClass .int, .fieldLink RX8 9 "SeaLand$Sky" "tides" "[I", .fieldLink RX8 15 "SeaLand$Sky" "stormFrom" "[I", .fieldLink RX8 18 "SeaLand$Sky" "stormTo" "[I", .fieldLink RX8 21 "SeaLand$Sky" "stormMore" "[I", .classLink RX8 24 RX9, .instantiable RX9 3, .initialized RX9, .code yX9_init cX9_init 1 none, .methodLink RX9 3 objectInit, .fieldLink RX9 9 "SeaLand$Tellings" "hours" "[I", .fieldLink RX9 15 "SeaLand$Tellings" "numbers" "[I", .instanceMethod yX9_init, .fieldLink RX8 27 "SeaLand$Sky" "wind" "LSeaLand$Tellings;", .fieldLink RX8 31 "SeaLand$Sky" "rain" "LSeaLand$Tellings;", .instanceMethod yX8_init, .fieldLink RX3 12 "SeaLand$Lake" "sky" "LSeaLand$Sky;", .classLink RX3 18 RX2, .instantiable RX2 15, .initialized RX2, .code yX2_init cX2_init 1 none, .methodLink RX2 3 objectInit, .arrayClass .boolean, .fieldLink RX2 9 "SeaLand$Ground" "isLand" "[Z", .fieldLink RX2 15 "SeaLand$Ground" "height" "[I", .fieldLink RX2 19 "SeaLand$Ground" "soil" "[I", .fieldLink RX2 22 "SeaLand$Ground" "ditch" "[I", .fieldLink RX2 25 "SeaLand$Ground" "water" "[I", .fieldLink RX2 28 "SeaLand$Ground" "salt" "[I", .fieldLink RX2 31 "SeaLand$Ground" "dry" "[I", .fieldLink RX2 34 "SeaLand$Ground" "wet" "[I", .fieldLink RX2 37 "SeaLand$Ground" "ditchTo" "[I", .fieldLink RX2 40 "SeaLand$Ground" "ditchWater" "[I", .fieldLink RX2 43 "SeaLand$Ground" "ditchSalt" "[I", .instanceMethod yX2_init, .fieldLink RX3 21 "SeaLand$Lake" "ground" "LSeaLand$Ground;", .classLink RX3 25 RX10, .fieldLink RX3 27 "SeaLand$Lake" "works" "[LSeaLand$Work;", .instantiable RX10 12, .initialized RX10, .code yX10_init cX10_init 1 none, .methodLink RX10 3 objectInit, .fieldLink RX10 9 "SeaLand$Work" "thick" "[I", .fieldLink RX10 15 "SeaLand$Work" "clay" "[I", .instanceMethod yX10_init] bs2)
set_option maxHeartbeats 4000000 in
set_option maxRecDepth 100000 in
theorem n_X3 (l : Launch) (dC : Nat → ClassId) (dI : Nat → Nat → Nat) (kA : Nat → ClassId) (adK adV : Nat → Nat) (G : gT) (H0 : Heap) (nC nS : Int) (o0 : Nat) (hT : gH (dC, dI) kA (SHc nC nS) G H0) (hr_o0 : G o0 = some 106) (hm_4 : el H0 o0 (dI 6 4) = some (.int 0)) (hgC : 0 ≤ nC ∧ nC ≤ 40) (hgS : 0 ≤ nS ∧ nS ≤ 60) : Met l yX3_init w_n_X3 ({ frames := 3, cells := 114, slots := 2146, locals := 86 }) (va_Pc [.ref o0] (fun U => U.heap = H0 ∧ va_K (dC, dI) vwCl (tyl kA) U ∧ EVC adK adV (gA G H0.size) U U.heap ∧ AO U)) (va_Qv (fun (u : gT) => True) (fun (G1 : gT) (t : State) => gH (dC, dI) kA (SHc nC nS) G1 t.heap ∧ G1 o0 = some 6 ∧ gY ([5, 11, 12, 13, 18, 19, 20, 21, 22, 23, 24, 25, 26, 27, 28, 29, 30, 31, 32, 33, 34, 35, 36, 37, 99, 105, 111, 112, 113, 130, 131, 132, 136] : List Nat) 6 o0 G G1 H0 t.heap ∧ el t.heap o0 (dI 6 4) = some (.int 0) ∧ (∃ a1, el t.heap o0 (dI 6 0) = some (.ref a1) ∧ G1 a1 = some 11 ∧ (∃ a2, el t.heap a1 (dI 11 0) = some (.ref a2) ∧ G1 a2 = some 19 ∧ ct t.heap a2 12 (fun _ => 0)) ∧ (∃ a2, el t.heap a1 (dI 11 1) = some (.ref a2) ∧ G1 a2 = some 20 ∧ ct t.heap a2 20 (fun _ => 0)) ∧ (∃ a2, el t.heap a1 (dI 11 2) = some (.ref a2) ∧ G1 a2 = some 21 ∧ ct t.heap a2 20 (fun _ => 0)) ∧ (∃ a2, el t.heap a1 (dI 11 3) = some (.ref a2) ∧ G1 a2 = some 22 ∧ ct t.heap a2 20 (fun _ => 0)) ∧ el t.heap a1 (dI 11 6) = some (.int 0) ∧ (∃ a2, el t.heap a1 (dI 11 4) = some (.ref a2) ∧ G1 a2 = some 130 ∧ (∃ a3, el t.heap a2 (dI 12 0) = some (.ref a3) ∧ G1 a3 = some 131 ∧ ct t.heap a3 60 (fun _ => 0)) ∧ (∃ a3, el t.heap a2 (dI 12 1) = some (.ref a3) ∧ G1 a3 = some 132 ∧ ct t.heap a3 60 (fun _ => 0)) ∧ el t.heap a2 (dI 12 2) = some (.int 0)) ∧ (∃ a2, el t.heap a1 (dI 11 5) = some (.ref a2) ∧ G1 a2 = some 12 ∧ (∃ a3, el t.heap a2 (dI 12 0) = some (.ref a3) ∧ G1 a3 = some 23 ∧ ct t.heap a3 60 (fun _ => 0)) ∧ (∃ a3, el t.heap a2 (dI 12 1) = some (.ref a3) ∧ G1 a3 = some 24 ∧ ct t.heap a3 60 (fun _ => 0)) ∧ el t.heap a2 (dI 12 2) = some (.int 0)))) (gA G H0.size)) 114 2146 (gA G H0.size) := by
  refine Met.ofW (cc := cX3_init) (maxL := 2) (ret := none) (by decide) rfl ?_
  intro p e s m args below meth c s₁ B hml hv
  obtain ⟨rfl, hH0, hK, hE, hAO⟩ := hv
  have hx := B.exec
  have hb := B.bytes
  have hr := B.returns
  have hts := atoms_spec (ws := w_n_X3) B.pre
  have hown : s.vm.findClass RX3 = some m.cls := findClass_of_methodNamed B.named
  have hlocks := B.notSynchronized
  have hin : meth.name = "<init>" := (name_of_methodNamed B.named B.method).1
  subst hH0
  generalize hAe : gA G s.heap.size = A at hE ⊢
  have hA : ∀ q : Nat, s.heap.size ≤ q → A q := fun q h => by rw [← hAe]; exact Or.inr h
  have hG := gA_of hAe
  have hS : va_S A s.heap s.heap [] := va_S.rf
  have hl := lv_entry ([.ref o0]) (n := 2) (Nat.le_of_ble_eq_true rfl)
  rw [lg_entry_eq]
  generalize (lg_sl ([.ref o0]) ++ List.replicate (2 - (lg_sl ([.ref o0])).length) Slot.unset).toArray = ls at hl ⊢
  have hl : lv_has ls 2 [(0, .ref o0)] := hl
  have hG0 := hG
  have hY : gY ([5, 11, 12, 13, 18, 19, 20, 21, 22, 23, 24, 25, 26, 27, 28, 29, 30, 31, 32, 33, 34, 35, 36, 37, 99, 105, 111, 112, 113, 130, 131, 132, 136] : List Nat) 6 o0 G G s.heap s.heap := gY.rf hT
  have hAo := hG _ _ hr_o0
  refine lv_aload_n hx hb dX3_init_0 rfl (lv_at hl 0 rfl) ?_
  refine W.objInit hx hb hown (ht_at2 hts 0 rfl) (ht_at2 hts 1 rfl) (ht_at2 hts 2 rfl) rfl (by rw [hml]; exact hl.1) rfl dX3_init_1 (Nat.le_of_ble_eq_true rfl) (Nat.le_of_ble_eq_true rfl) ?_
  refine W.eq (g2 := F0 m 4 ls []) rfl ?_
  refine lv_aload_n hx hb dX3_init_4 rfl (lv_at hl 0 rfl) ?_
  have hz9 := hS.1
  refine tw_new hx hb hts bF2_X8 tyX8 tyX8_ok hown (ht_at2 hts 3 rfl) (ht_at2 hts 4 rfl) (ht_at2 hts 5 rfl) hK mon_c hT hS hG hA (shc_111) rfl nd_111 (Nat.le_of_ble_eq_true rfl) (Nat.le_of_ble_eq_true rfl) dX3_init_5 (fun q1 G1 H hq9 eG hz1 hz2 hT hx9 hG hm9 hS => ?_)
  have hn_q1 : s.heap.size ≤ q1 := Nat.le_trans hz9 (Nat.le_of_eq hz2)
  have hY := hY.new hn_q1 eG hx9 (by decide)
  have m2 := (el_kept (hx9 _ _ hr_o0).2).trans hm_4
  have hg3 := (hx9 _ _ hr_o0).1
  have hg4 : G1 q1 = some 111 := by rw [eG]; exact gU_at
  have m5 : el H q1 (dI 11 6) = some (.int 0) := hm9 6 (by decide)
  refine lv_dup hx hb dX3_init_8 rfl ?_
  have hFc := gA_free hG hA hS
  have hz9 := hS.1
  refine va_callv (va_runIN (As := []) (rest := [.ref q1, .ref o0]) ⟨hx, hb, hml, hown, hts⟩ (n_X8 l dC dI kA adK adV G1 H nC nS q1 hT hg4 m5 (by omega) (by omega)) ⟨va_cnB 0 hts (goodIn_ca (goodIn_r _ [7, 8, 2, 3, 9, 10, 11, 12, 13, 14, 15, 16, 17, 18, 19, 20, 21, 22, 23] rfl (by decide +kernel)) (bs2_in _ _)) rfl rfl rfl (hE.nm 106 rfl) (ht_at2 hts 5 rfl) (by decide +kernel) ⟨(Nat.le_of_ble_eq_true rfl), (Nat.le_of_ble_eq_true rfl)⟩, rfl, (ht_at2 hts 23 rfl)⟩ ⟨fun a U g mk q => by obtain ⟨q0, q1, qK, qE, qA⟩ := q; exact ⟨q0, q1, va_K.moved (u := U) (U := U.calling g mk a) (Vm.Alike.refl U.vm) qK, EVC.blind g mk a qE, AO.blind g mk a qA⟩, fun U hU hW => ⟨rfl, hU, va_K.moved hW.alike hK, hE.call hS hFc hU hW, hAO.call hW⟩⟩ rfl rfl hl.1 rfl (lv_room (Nat.le_of_ble_eq_true rfl)) dX3_init_9 ⟨(Nat.le_of_ble_eq_true rfl), (Nat.le_of_ble_eq_true rfl)⟩) hS (fun q _ h => hFc q h) hFc (fun G2 t H locs ht hvm _ hB _ _ hS => ?_)
  (try dsimp only at hB); rw [ht] at hB; obtain ⟨hT, hg47, hY1, ⟨b6, m7, hg8, m9⟩, ⟨b10, m11, hg12, m13⟩, ⟨b14, m15, hg16, m17⟩, ⟨b18, m19, hg20, m21⟩, m22, ⟨b23, m24, hg25, ⟨b26, m27, hg28, m29⟩, ⟨b30, m31, hg32, m33⟩, m34⟩, ⟨b35, m36, hg37, ⟨b38, m39, hg40, m41⟩, ⟨b42, m43, hg44, m45⟩, m46⟩⟩ := hB
  have hY := hY.call hn_q1 hY1 hz9 (by decide)
  have hG := hY.A hG0 hAo hA
  have m48 := (el_kept (hY1.1 _ _ (gne hg3 hg4 (by decide)) hg3).2).trans m2
  have hg49 := (hY1.1 _ _ (gne hg3 hg4 (by decide)) hg3).1
  refine tw_putF (v := .ref q1) (ty := (.object "SeaLand$Sky")) hx hb hts bF2_X3 tyX3 tyX3_ok nmX3 hown hK hT hG hS hg49 shc_106 rfl 0 (by decide) (ht_at2 hts 24 rfl) (fun _ h9 => h9) rfl hin rfl (by decide +kernel) rfl rfl (gl_at rfl ⟨some _, rfl, fun _ h => by cases h; exact hg47⟩) dX3_init_12 (fun H locs hT oq m50 oj hS => ?_)
  have hY := hY.put oq
  have m51 := (oj 4 (by decide) (by decide)).trans m48
  have m52 := (el_kept (oq _ (gne hg47 hg49 (by decide)))).trans m7
  have m53 := m9.kept (oq _ (gne hg8 hg49 (by decide)))
  have m54 := (el_kept (oq _ (gne hg47 hg49 (by decide)))).trans m11
  have m55 := m13.kept (oq _ (gne hg12 hg49 (by decide)))
  have m56 := (el_kept (oq _ (gne hg47 hg49 (by decide)))).trans m15
  have m57 := m17.kept (oq _ (gne hg16 hg49 (by decide)))
  have m58 := (el_kept (oq _ (gne hg47 hg49 (by decide)))).trans m19
  have m59 := m21.kept (oq _ (gne hg20 hg49 (by decide)))
  have m60 := (el_kept (oq _ (gne hg47 hg49 (by decide)))).trans m22
  have m61 := (el_kept (oq _ (gne hg47 hg49 (by decide)))).trans m24
  have m62 := (el_kept (oq _ (gne hg25 hg49 (by decide)))).trans m27
  have m63 := m29.kept (oq _ (gne hg28 hg49 (by decide)))
  have m64 := (el_kept (oq _ (gne hg25 hg49 (by decide)))).trans m31
  have m65 := m33.kept (oq _ (gne hg32 hg49 (by decide)))
  have m66 := (el_kept (oq _ (gne hg25 hg49 (by decide)))).trans m34
  have m67 := (el_kept (oq _ (gne hg47 hg49 (by decide)))).trans m36
  have m68 := (el_kept (oq _ (gne hg37 hg49 (by decide)))).trans m39
  have m69 := m41.kept (oq _ (gne hg40 hg49 (by decide)))
  have m70 := (el_kept (oq _ (gne hg37 hg49 (by decide)))).trans m43
  have m71 := m45.kept (oq _ (gne hg44 hg49 (by decide)))
  have m72 := (el_kept (oq _ (gne hg37 hg49 (by decide)))).trans m46
  refine lv_aload_n hx hb dX3_init_15 rfl (lv_at hl 0 rfl) ?_
  have hz9 := hS.1
  refine tw_new hx hb hts bF2_X2 tyX2 tyX2_ok hown (ht_at2 hts 25 rfl) (ht_at2 hts 26 rfl) (ht_at2 hts 27 rfl) hK mon_c hT hS hG hA (shc_105) rfl nd_105 (Nat.le_of_ble_eq_true rfl) (Nat.le_of_ble_eq_true rfl) dX3_init_16 (fun q73 G3 H hq9 eG hz1 hz2 hT hx9 hG hm9 hS => ?_)
  have hn_q73 : s.heap.size ≤ q73 := Nat.le_trans hz9 (Nat.le_of_eq hz2)
  have hY := hY.new hn_q73 eG hx9 (by decide)
  have m74 := (el_kept (hx9 _ _ hg49).2).trans m51
  have m75 := (el_kept (hx9 _ _ hg47).2).trans m52
  have m76 := m53.kept (hx9 _ _ hg8).2
  have m77 := (el_kept (hx9 _ _ hg47).2).trans m54
  have m78 := m55.kept (hx9 _ _ hg12).2
  have m79 := (el_kept (hx9 _ _ hg47).2).trans m56
  have m80 := m57.kept (hx9 _ _ hg16).2
  have m81 := (el_kept (hx9 _ _ hg47).2).trans m58
  have m82 := m59.kept (hx9 _ _ hg20).2
  have m83 := (el_kept (hx9 _ _ hg47).2).trans m60
  have m84 := (el_kept (hx9 _ _ hg47).2).trans m61
  have m85 := (el_kept (hx9 _ _ hg25).2).trans m62
  have m86 := m63.kept (hx9 _ _ hg28).2
  have m87 := (el_kept (hx9 _ _ hg25).2).trans m64
  have m88 := m65.kept (hx9 _ _ hg32).2
  have m89 := (el_kept (hx9 _ _ hg25).2).trans m66
  have m90 := (el_kept (hx9 _ _ hg47).2).trans m67
  have m91 := (el_kept (hx9 _ _ hg37).2).trans m68
  have m92 := m69.kept (hx9 _ _ hg40).2
  have m93 := (el_kept (hx9 _ _ hg37).2).trans m70
  have m94 := m71.kept (hx9 _ _ hg44).2
  have m95 := (el_kept (hx9 _ _ hg37).2).trans m72
  have m96 := (el_kept (hx9 _ _ hg49).2).trans m50
  have hg97 := (hx9 _ _ hg49).1
  have hg98 := (hx9 _ _ hg47).1
  have hg99 := (hx9 _ _ hg8).1
  have hg100 := (hx9 _ _ hg12).1
  have hg101 := (hx9 _ _ hg16).1
  have hg102 := (hx9 _ _ hg20).1
  have hg103 := (hx9 _ _ hg25).1
  have hg104 := (hx9 _ _ hg28).1
  have hg105 := (hx9 _ _ hg32).1
  have hg106 := (hx9 _ _ hg37).1
  have hg107 := (hx9 _ _ hg40).1
  have hg108 := (hx9 _ _ hg44).1
  have hg109 : G3 q73 = some 105 := by rw [eG]; exact gU_at
  refine lv_dup hx hb dX3_init_19 rfl ?_
  have hFc := gA_free hG hA hS
  have hz9 := hS.1
  refine va_callv (va_runIN (As := []) (rest := [.ref q73, .ref o0]) ⟨hx, hb, hml, hown, hts⟩ (n_X2 l dC dI kA adK adV G3 H nC nS q73 hT hg109 (by omega) (by omega)) ⟨va_cnB 0 hts (goodIn_ca (goodIn_r _ [29, 30, 2, 3, 31, 32, 9, 33, 34, 35, 36, 37, 38, 39, 40, 41, 42] rfl (by decide +kernel)) (bs2_in _ _)) rfl rfl rfl (hE.nm 107 rfl) (ht_at2 hts 27 rfl) (by decide +kernel) ⟨(Nat.le_of_ble_eq_true rfl), (Nat.le_of_ble_eq_true rfl)⟩, rfl, (ht_at2 hts 42 rfl)⟩ ⟨fun a U g mk q => by obtain ⟨q0, q1, qK, qE, qA⟩ := q; exact ⟨q0, q1, va_K.moved (u := U) (U := U.calling g mk a) (Vm.Alike.refl U.vm) qK, EVC.blind g mk a qE, AO.blind g mk a qA⟩, fun U hU hW => ⟨rfl, hU, va_K.moved hW.alike hK, hE.call hS hFc hU hW, hAO.call hW⟩⟩ rfl rfl hl.1 rfl (lv_room (Nat.le_of_ble_eq_true rfl)) dX3_init_20 ⟨(Nat.le_of_ble_eq_true rfl), (Nat.le_of_ble_eq_true rfl)⟩) hS (fun q _ h => hFc q h) hFc (fun G4 t H locs ht hvm _ hB _ _ hS => ?_)
  (try dsimp only at hB); rw [ht] at hB; obtain ⟨hT, hg110, hY1⟩ := hB
  have hY := hY.call hn_q73 hY1 hz9 (by decide)
  have hG := hY.A hG0 hAo hA
  have m111 := (el_kept (hY1.1 _ _ (gne hg97 hg109 (by decide)) hg97).2).trans m74
  have m112 := (el_kept (hY1.1 _ _ (gne hg98 hg109 (by decide)) hg98).2).trans m75
  have m113 := m76.kept (hY1.1 _ _ (gne hg99 hg109 (by decide)) hg99).2
  have m114 := (el_kept (hY1.1 _ _ (gne hg98 hg109 (by decide)) hg98).2).trans m77
  have m115 := m78.kept (hY1.1 _ _ (gne hg100 hg109 (by decide)) hg100).2
  have m116 := (el_kept (hY1.1 _ _ (gne hg98 hg109 (by decide)) hg98).2).trans m79
  have m117 := m80.kept (hY1.1 _ _ (gne hg101 hg109 (by decide)) hg101).2
  have m118 := (el_kept (hY1.1 _ _ (gne hg98 hg109 (by decide)) hg98).2).trans m81
  have m119 := m82.kept (hY1.1 _ _ (gne hg102 hg109 (by decide)) hg102).2
  have m120 := (el_kept (hY1.1 _ _ (gne hg98 hg109 (by decide)) hg98).2).trans m83
  have m121 := (el_kept (hY1.1 _ _ (gne hg98 hg109 (by decide)) hg98).2).trans m84
  have m122 := (el_kept (hY1.1 _ _ (gne hg103 hg109 (by decide)) hg103).2).trans m85
  have m123 := m86.kept (hY1.1 _ _ (gne hg104 hg109 (by decide)) hg104).2
  have m124 := (el_kept (hY1.1 _ _ (gne hg103 hg109 (by decide)) hg103).2).trans m87
  have m125 := m88.kept (hY1.1 _ _ (gne hg105 hg109 (by decide)) hg105).2
  have m126 := (el_kept (hY1.1 _ _ (gne hg103 hg109 (by decide)) hg103).2).trans m89
  have m127 := (el_kept (hY1.1 _ _ (gne hg98 hg109 (by decide)) hg98).2).trans m90
  have m128 := (el_kept (hY1.1 _ _ (gne hg106 hg109 (by decide)) hg106).2).trans m91
  have m129 := m92.kept (hY1.1 _ _ (gne hg107 hg109 (by decide)) hg107).2
  have m130 := (el_kept (hY1.1 _ _ (gne hg106 hg109 (by decide)) hg106).2).trans m93
  have m131 := m94.kept (hY1.1 _ _ (gne hg108 hg109 (by decide)) hg108).2
  have m132 := (el_kept (hY1.1 _ _ (gne hg106 hg109 (by decide)) hg106).2).trans m95
  have m133 := (el_kept (hY1.1 _ _ (gne hg97 hg109 (by decide)) hg97).2).trans m96
  have hg134 := (hY1.1 _ _ (gne hg97 hg109 (by decide)) hg97).1
  have hg135 := (hY1.1 _ _ (gne hg98 hg109 (by decide)) hg98).1
  have hg136 := (hY1.1 _ _ (gne hg99 hg109 (by decide)) hg99).1
  have hg137 := (hY1.1 _ _ (gne hg100 hg109 (by decide)) hg100).1
  have hg138 := (hY1.1 _ _ (gne hg101 hg109 (by decide)) hg101).1
  have hg139 := (hY1.1 _ _ (gne hg102 hg109 (by decide)) hg102).1
  have hg140 := (hY1.1 _ _ (gne hg103 hg109 (by decide)) hg103).1
  have hg141 := (hY1.1 _ _ (gne hg104 hg109 (by decide)) hg104).1
  have hg142 := (hY1.1 _ _ (gne hg105 hg109 (by decide)) hg105).1
  have hg143 := (hY1.1 _ _ (gne hg106 hg109 (by decide)) hg106).1
  have hg144 := (hY1.1 _ _ (gne hg107 hg109 (by decide)) hg107).1
  have hg145 := (hY1.1 _ _ (gne hg108 hg109 (by decide)) hg108).1
  refine tw_putF (v := .ref q73) (ty := (.object "SeaLand$Ground")) hx hb hts bF2_X3 tyX3 tyX3_ok nmX3 hown hK hT hG hS hg134 shc_106 rfl 1 (by decide) (ht_at2 hts 43 rfl) (fun _ h9 => h9) rfl hin rfl (by decide +kernel) rfl rfl (gl_at rfl ⟨some _, rfl, fun _ h => by cases h; exact hg110⟩) dX3_init_23 (fun H locs hT oq m146 oj hS => ?_)
  have hY := hY.put oq
  have m147 := (oj 4 (by decide) (by decide)).trans m111
  have m148 := (el_kept (oq _ (gne hg135 hg134 (by decide)))).trans m112
  have m149 := m113.kept (oq _ (gne hg136 hg134 (by decide)))
  have m150 := (el_kept (oq _ (gne hg135 hg134 (by decide)))).trans m114
  have m151 := m115.kept (oq _ (gne hg137 hg134 (by decide)))
  have m152 := (el_kept (oq _ (gne hg135 hg134 (by decide)))).trans m116
  have m153 := m117.kept (oq _ (gne hg138 hg134 (by decide)))
  have m154 := (el_kept (oq _ (gne hg135 hg134 (by decide)))).trans m118
  have m155 := m119.kept (oq _ (gne hg139 hg134 (by decide)))
  have m156 := (el_kept (oq _ (gne hg135 hg134 (by decide)))).trans m120
  have m157 := (el_kept (oq _ (gne hg135 hg134 (by decide)))).trans m121
  have m158 := (el_kept (oq _ (gne hg140 hg134 (by decide)))).trans m122
  have m159 := m123.kept (oq _ (gne hg141 hg134 (by decide)))
  have m160 := (el_kept (oq _ (gne hg140 hg134 (by decide)))).trans m124
  have m161 := m125.kept (oq _ (gne hg142 hg134 (by decide)))
  have m162 := (el_kept (oq _ (gne hg140 hg134 (by decide)))).trans m126
  have m163 := (el_kept (oq _ (gne hg135 hg134 (by decide)))).trans m127
  have m164 := (el_kept (oq _ (gne hg143 hg134 (by decide)))).trans m128
  have m165 := m129.kept (oq _ (gne hg144 hg134 (by decide)))
  have m166 := (el_kept (oq _ (gne hg143 hg134 (by decide)))).trans m130
  have m167 := m131.kept (oq _ (gne hg145 hg134 (by decide)))
  have m168 := (el_kept (oq _ (gne hg143 hg134 (by decide)))).trans m132
  have m169 := (oj 0 (by decide) (by decide)).trans m133
  refine lv_aload_n hx hb dX3_init_26 rfl (lv_at hl 0 rfl) ?_
  refine lv_bipush (v := 30) hx hb dX3_init_27 (by decide) ?_
  have hz9 := hS.1
  refine tw_newq hx hb hown (ht_at2 hts 44 rfl) (hAO _ (by decide)) hK mon_c hT hS hG hA (shc_99) rfl (fun _ _ _ => ⟨none, rfl, fun _ h => by cases h⟩) (by decide) rfl (Nat.le_of_ble_eq_true rfl) (Nat.le_of_ble_eq_true rfl) (Nat.le_of_ble_eq_true rfl) dX3_init_29 (fun q170 G5 H hq9 eG hz1 hz2 hT hx9 hG hm9 hS => ?_)
  have hn_q170 : s.heap.size ≤ q170 := Nat.le_trans hz9 (Nat.le_of_eq hz2)
  have hY := hY.new hn_q170 eG hx9 (by decide)
  have m171 := (el_kept (hx9 _ _ hg134).2).trans m147
  have m172 := (el_kept (hx9 _ _ hg135).2).trans m148
  have m173 := m149.kept (hx9 _ _ hg136).2
  have m174 := (el_kept (hx9 _ _ hg135).2).trans m150
  have m175 := m151.kept (hx9 _ _ hg137).2
  have m176 := (el_kept (hx9 _ _ hg135).2).trans m152
  have m177 := m153.kept (hx9 _ _ hg138).2
  have m178 := (el_kept (hx9 _ _ hg135).2).trans m154
  have m179 := m155.kept (hx9 _ _ hg139).2
  have m180 := (el_kept (hx9 _ _ hg135).2).trans m156
  have m181 := (el_kept (hx9 _ _ hg135).2).trans m157
  have m182 := (el_kept (hx9 _ _ hg140).2).trans m158
  have m183 := m159.kept (hx9 _ _ hg141).2
  have m184 := (el_kept (hx9 _ _ hg140).2).trans m160
  have m185 := m161.kept (hx9 _ _ hg142).2
  have m186 := (el_kept (hx9 _ _ hg140).2).trans m162
  have m187 := (el_kept (hx9 _ _ hg135).2).trans m163
  have m188 := (el_kept (hx9 _ _ hg143).2).trans m164
  have m189 := m165.kept (hx9 _ _ hg144).2
  have m190 := (el_kept (hx9 _ _ hg143).2).trans m166
  have m191 := m167.kept (hx9 _ _ hg145).2
  have m192 := (el_kept (hx9 _ _ hg143).2).trans m168
  have m193 := (el_kept (hx9 _ _ hg134).2).trans m169
  have m194 := (el_kept (hx9 _ _ hg134).2).trans m146
  have hg195 := (hx9 _ _ hg134).1
  have hg196 := (hx9 _ _ hg135).1
  have hg197 := (hx9 _ _ hg136).1
  have hg198 := (hx9 _ _ hg137).1
  have hg199 := (hx9 _ _ hg138).1
  have hg200 := (hx9 _ _ hg139).1
  have hg201 := (hx9 _ _ hg140).1
  have hg202 := (hx9 _ _ hg141).1
  have hg203 := (hx9 _ _ hg142).1
  have hg204 := (hx9 _ _ hg143).1
  have hg205 := (hx9 _ _ hg144).1
  have hg206 := (hx9 _ _ hg145).1
  have hg207 := (hx9 _ _ hg110).1
  have hg208 : G5 q170 = some 99 := by rw [eG]; exact gU_at
  refine tw_putF (v := .ref q170) (ty := (.array (.object "SeaLand$Work"))) hx hb hts bF2_X3 tyX3 tyX3_ok nmX3 hown hK hT hG hS hg195 shc_106 rfl 2 (by decide) (ht_at2 hts 45 rfl) (fun _ h9 => h9) rfl hin rfl (by decide +kernel) rfl rfl (gl_at rfl ⟨some _, rfl⟩) dX3_init_32 (fun H locs hT oq m209 oj hS => ?_)
  have hY := hY.put oq
  have m210 := (oj 4 (by decide) (by decide)).trans m171
  have m211 := (el_kept (oq _ (gne hg196 hg195 (by decide)))).trans m172
  have m212 := m173.kept (oq _ (gne hg197 hg195 (by decide)))
  have m213 := (el_kept (oq _ (gne hg196 hg195 (by decide)))).trans m174
  have m214 := m175.kept (oq _ (gne hg198 hg195 (by decide)))
  have m215 := (el_kept (oq _ (gne hg196 hg195 (by decide)))).trans m176
  have m216 := m177.kept (oq _ (gne hg199 hg195 (by decide)))
  have m217 := (el_kept (oq _ (gne hg196 hg195 (by decide)))).trans m178
  have m218 := m179.kept (oq _ (gne hg200 hg195 (by decide)))
  have m219 := (el_kept (oq _ (gne hg196 hg195 (by decide)))).trans m180
  have m220 := (el_kept (oq _ (gne hg196 hg195 (by decide)))).trans m181
  have m221 := (el_kept (oq _ (gne hg201 hg195 (by decide)))).trans m182
  have m222 := m183.kept (oq _ (gne hg202 hg195 (by decide)))
  have m223 := (el_kept (oq _ (gne hg201 hg195 (by decide)))).trans m184
  have m224 := m185.kept (oq _ (gne hg203 hg195 (by decide)))
  have m225 := (el_kept (oq _ (gne hg201 hg195 (by decide)))).trans m186
  have m226 := (el_kept (oq _ (gne hg196 hg195 (by decide)))).trans m187
  have m227 := (el_kept (oq _ (gne hg204 hg195 (by decide)))).trans m188
  have m228 := m189.kept (oq _ (gne hg205 hg195 (by decide)))
  have m229 := (el_kept (oq _ (gne hg204 hg195 (by decide)))).trans m190
  have m230 := m191.kept (oq _ (gne hg206 hg195 (by decide)))
  have m231 := (el_kept (oq _ (gne hg204 hg195 (by decide)))).trans m192
  have m232 := (oj 0 (by decide) (by decide)).trans m193
  have m233 := (oj 1 (by decide) (by decide)).trans m194
  refine lv_iconst (v := 0) hx hb dX3_init_35 (by decide) ?_
  refine lv_istore_n (lv' := [(1, .int 0), (0, .ref o0)]) hx hb dX3_init_36 rfl hl (by decide) rfl (fun ls hl => ?_)
  have key9 : ∀ (n i : Nat), i + n = 30 → ∀ (G9 : gT) (H : Heap) (locs : List Loc), gH (dC, dI) kA (SHc nC nS) G9 H → gY ([5, 11, 12, 13, 18, 19, 20, 21, 22, 23, 24, 25, 26, 27, 28, 29, 30, 31, 32, 33, 34, 35, 36, 37, 99, 105, 111, 112, 113, 130, 131, 132, 136] : List Nat) 6 o0 G G9 s.heap H → va_S A s.heap H locs → G9 o0 = some 106 → G9 q1 = some 11 → G9 b6 = some 19 → G9 b10 = some 20 → G9 b14 = some 21 → G9 b18 = some 22 → G9 b23 = some 130 → G9 b26 = some 131 → G9 b30 = some 132 → G9 b35 = some 12 → G9 b38 = some 23 → G9 b42 = some 24 → G9 q73 = some 5 → G9 q170 = some 99 → el H o0 (dI 6 4) = some (.int 0) → el H q1 (dI 11 0) = some (.ref b6) → ct H b6 12 (fun _ => 0) → el H q1 (dI 11 1) = some (.ref b10) → ct H b10 20 (fun _ => 0) → el H q1 (dI 11 2) = some (.ref b14) → ct H b14 20 (fun _ => 0) → el H q1 (dI 11 3) = some (.ref b18) → ct H b18 20 (fun _ => 0) → el H q1 (dI 11 6) = some (.int 0) → el H q1 (dI 11 4) = some (.ref b23) → el H b23 (dI 12 0) = some (.ref b26) → ct H b26 60 (fun _ => 0) → el H b23 (dI 12 1) = some (.ref b30) → ct H b30 60 (fun _ => 0) → el H b23 (dI 12 2) = some (.int 0) → el H q1 (dI 11 5) = some (.ref b35) → el H b35 (dI 12 0) = some (.ref b38) → ct H b38 60 (fun _ => 0) → el H b35 (dI 12 1) = some (.ref b42) → ct H b42 60 (fun _ => 0) → el H b35 (dI 12 2) = some (.int 0) → el H o0 (dI 6 0) = some (.ref q1) → el H o0 (dI 6 1) = some (.ref q73) → el H o0 (dI 6 2) = some (.ref q170) → (∀ j, j < i → ∃ b, el H q170 j = some (.ref b) ∧ G9 b = some 13) → ∀ ls : Array Slot, lv_has ls 2 [(1, .int (nI i)), (0, .ref o0)] → W p l e (headSpec w_n_X3 ({ frames := 3, cells := 114, slots := 2146, locals := 86 })).room s m #[.ref o0] below meth c H locs (24 + 3 * i) (1426 + 24 * i) (MQ below (va_Qv (fun (u : gT) => True) (fun (G1 : gT) (t : State) => gH (dC, dI) kA (SHc nC nS) G1 t.heap ∧ G1 o0 = some 6 ∧ gY ([5, 11, 12, 13, 18, 19, 20, 21, 22, 23, 24, 25, 26, 27, 28, 29, 30, 31, 32, 33, 34, 35, 36, 37, 99, 105, 111, 112, 113, 130, 131, 132, 136] : List Nat) 6 o0 G G1 s.heap t.heap ∧ el t.heap o0 (dI 6 4) = some (.int 0) ∧ (∃ a1, el t.heap o0 (dI 6 0) = some (.ref a1) ∧ G1 a1 = some 11 ∧ (∃ a2, el t.heap a1 (dI 11 0) = some (.ref a2) ∧ G1 a2 = some 19 ∧ ct t.heap a2 12 (fun _ => 0)) ∧ (∃ a2, el t.heap a1 (dI 11 1) = some (.ref a2) ∧ G1 a2 = some 20 ∧ ct t.heap a2 20 (fun _ => 0)) ∧ (∃ a2, el t.heap a1 (dI 11 2) = some (.ref a2) ∧ G1 a2 = some 21 ∧ ct t.heap a2 20 (fun _ => 0)) ∧ (∃ a2, el t.heap a1 (dI 11 3) = some (.ref a2) ∧ G1 a2 = some 22 ∧ ct t.heap a2 20 (fun _ => 0)) ∧ el t.heap a1 (dI 11 6) = some (.int 0) ∧ (∃ a2, el t.heap a1 (dI 11 4) = some (.ref a2) ∧ G1 a2 = some 130 ∧ (∃ a3, el t.heap a2 (dI 12 0) = some (.ref a3) ∧ G1 a3 = some 131 ∧ ct t.heap a3 60 (fun _ => 0)) ∧ (∃ a3, el t.heap a2 (dI 12 1) = some (.ref a3) ∧ G1 a3 = some 132 ∧ ct t.heap a3 60 (fun _ => 0)) ∧ el t.heap a2 (dI 12 2) = some (.int 0)) ∧ (∃ a2, el t.heap a1 (dI 11 5) = some (.ref a2) ∧ G1 a2 = some 12 ∧ (∃ a3, el t.heap a2 (dI 12 0) = some (.ref a3) ∧ G1 a3 = some 23 ∧ ct t.heap a3 60 (fun _ => 0)) ∧ (∃ a3, el t.heap a2 (dI 12 1) = some (.ref a3) ∧ G1 a3 = some 24 ∧ ct t.heap a3 60 (fun _ => 0)) ∧ el t.heap a2 (dI 12 2) = some (.int 0)))) A) #[.ref o0] s 114 2146 A) (F0 m 37 ls []) := by
    intro n
    induction n with
    | zero =>
      intro i hn9 G9 H locs hT hY hS hw0 hw1 hw2 hw3 hw4 hw5 hw6 hw7 hw8 hw9 hw10 hw11 hw12 hw13 mw0 mw1 mw2 mw3 mw4 mw5 mw6 mw7 mw8 mw9 mw10 mw11 mw12 mw13 mw14 mw15 mw16 mw17 mw18 mw19 mw20 mw21 mw22 mw23 mw24 hall ls hl
      obtain rfl : 30 = i := by omega
      have hG := hY.A hG0 hAo hA
      refine lv_iload_n hx hb dX3_init_37 rfl (lv_at hl 0 rfl) ?_
      refine lv_bipush (v := 30) hx hb dX3_init_38 (by decide) ?_
      refine lv_icmp_ge (tgt := 62) hx hb dX3_init_40 (by decide) (fun c9 => ?_) (fun c9 => (by exfalso; have q9 : ((30 : Nat) : Int) < 30 := ti_nle c9 (by decide) (nI_toInt (by omega)); omega))
      have hT := hT.grown (t := 18) mon_c hw13 (by decide) (by
        have h8 := hT _ _ hw13; rw [shc_99] at h8; rw [shc_18]
        exact gC.grow_arr h8 (fun k v hk hm hv => by obtain ⟨b9, e1, e2⟩ := hall k hk; obtain rfl : v = .ref b9 := Option.some.inj (hm.symm.trans e1); exact ⟨b9, rfl, (gU_ne (gne e2 hw13 (by decide))).trans e2⟩))
      have hY := hY.grow1 (t := 18) hn_q170 (by decide)
      have hg234 := (gU_ne (t := 18) (gne hw0 hw13 (by decide))).trans hw0
      have hg235 := (gU_ne (t := 18) (gne hw1 hw13 (by decide))).trans hw1
      have hg236 := (gU_ne (t := 18) (gne hw2 hw13 (by decide))).trans hw2
      have hg237 := (gU_ne (t := 18) (gne hw3 hw13 (by decide))).trans hw3
      have hg238 := (gU_ne (t := 18) (gne hw4 hw13 (by decide))).trans hw4
      have hg239 := (gU_ne (t := 18) (gne hw5 hw13 (by decide))).trans hw5
      have hg240 := (gU_ne (t := 18) (gne hw6 hw13 (by decide))).trans hw6
      have hg241 := (gU_ne (t := 18) (gne hw7 hw13 (by decide))).trans hw7
      have hg242 := (gU_ne (t := 18) (gne hw8 hw13 (by decide))).trans hw8
      have hg243 := (gU_ne (t := 18) (gne hw9 hw13 (by decide))).trans hw9
      have hg244 := (gU_ne (t := 18) (gne hw10 hw13 (by decide))).trans hw10
      have hg245 := (gU_ne (t := 18) (gne hw11 hw13 (by decide))).trans hw11
      have hg246 := (gU_ne (t := 18) (gne hw12 hw13 (by decide))).trans hw12
      have hgq9 := gU_at (G := G9) (q := q170) (t := 18)
      refine W.widen (k := 114) (n := 2146) (by decide) (by decide) ?_
      have hT := hT.grown (t := 6) mon_c hg234 (by decide) (by
        have h8 := hT _ _ hg234; rw [shc_106] at h8; rw [shc_6]
        refine gC.grow h8 (fun k v hk hm hv => match k, hk, hm, hv with
          | 0, _, hm, hv => gl_at rfl (by obtain rfl : v = .ref q1 := Option.some.inj (hm.symm.trans mw22); exact ⟨_, rfl, (gU_ne (gne hg235 hg234 (by decide))).trans hg235⟩)
          | 1, _, hm, hv => gl_at rfl (by obtain rfl : v = .ref q73 := Option.some.inj (hm.symm.trans mw23); exact ⟨_, rfl, (gU_ne (gne hg246 hg234 (by decide))).trans hg246⟩)
          | 2, _, hm, hv => gl_at rfl (by obtain rfl : v = .ref q170 := Option.some.inj (hm.symm.trans mw24); exact ⟨_, rfl, (gU_ne (gne hgq9 hg234 (by decide))).trans hgq9⟩)
          | 3, _, hm, hv => gl_at rfl (hv _ rfl)
          | 4, _, hm, hv => gl_at rfl (hv _ rfl)
          | k + 5, hk, _, _ => absurd hk (by omega)))
      have hY := hY.grow
      exact W.vret hx hb hr (fun t ht hW => ⟨⟨_, rfl, trivial, by (try dsimp only); rw [ht]; exact ⟨hT, gU_at, hY, mw0, ⟨_, mw22, (gU_ne (gne hg235 hg234 (by decide))).trans hg235, ⟨_, mw1, (gU_ne (gne hg236 hg234 (by decide))).trans hg236, mw2⟩, ⟨_, mw3, (gU_ne (gne hg237 hg234 (by decide))).trans hg237, mw4⟩, ⟨_, mw5, (gU_ne (gne hg238 hg234 (by decide))).trans hg238, mw6⟩, ⟨_, mw7, (gU_ne (gne hg239 hg234 (by decide))).trans hg239, mw8⟩, mw9, ⟨_, mw10, (gU_ne (gne hg240 hg234 (by decide))).trans hg240, ⟨_, mw11, (gU_ne (gne hg241 hg234 (by decide))).trans hg241, mw12⟩, ⟨_, mw13, (gU_ne (gne hg242 hg234 (by decide))).trans hg242, mw14⟩, mw15⟩, ⟨_, mw16, (gU_ne (gne hg243 hg234 (by decide))).trans hg243, ⟨_, mw17, (gU_ne (gne hg244 hg234 (by decide))).trans hg244, mw18⟩, ⟨_, mw19, (gU_ne (gne hg245 hg234 (by decide))).trans hg245, mw20⟩, mw21⟩⟩⟩⟩, hS.F ht⟩) hS.2.2 dX3_init_62
    | succ n ih9 =>
      intro i hn9 G9 H locs hT hY hS hw0 hw1 hw2 hw3 hw4 hw5 hw6 hw7 hw8 hw9 hw10 hw11 hw12 hw13 mw0 mw1 mw2 mw3 mw4 mw5 mw6 mw7 mw8 mw9 mw10 mw11 mw12 mw13 mw14 mw15 mw16 mw17 mw18 mw19 mw20 mw21 mw22 mw23 mw24 hall ls hl
      have hG := hY.A hG0 hAo hA
      refine lv_iload_n hx hb dX3_init_37 rfl (lv_at hl 0 rfl) ?_
      refine lv_bipush (v := 30) hx hb dX3_init_38 (by decide) ?_
      refine lv_icmp_ge (tgt := 62) hx hb dX3_init_40 (by decide) (fun c9 => (by exfalso; have q9 : 30 ≤ ((i : Nat) : Int) := ti_le c9 (by decide) (nI_toInt (by omega)); omega)) (fun c9 => ?_)
      refine lv_aload_n hx hb dX3_init_43 rfl (lv_at hl 1 rfl) ?_
      refine tw_getM (v := .ref q170) hx hb hts bF2_X3 hown hK hT hw0 shc_106 rfl 2 (by decide) (ht_at2 hts 45 rfl) (fun _ h9 => h9) mw24 dX3_init_44 ?_
      refine lv_iload_n hx hb dX3_init_47 rfl (lv_at hl 0 rfl) ?_
      have hz9 := hS.1
      refine tw_new hx hb hts bF2_X10 tyX10 tyX10_ok hown (ht_at2 hts 44 rfl) (ht_at2 hts 46 rfl) (ht_at2 hts 47 rfl) hK mon_c hT hS hG hA (shc_113) rfl nd_113 (show (24 + 3 * i) + 1 ≤ 114 from by omega) (show (1426 + 24 * i) + 12 ≤ 2146 from by omega) dX3_init_48 (fun q247 G6 H hq9 eG hz1 hz2 hT hx9 hG hm9 hS => ?_)
      have hn_q247 : s.heap.size ≤ q247 := Nat.le_trans hz9 (Nat.le_of_eq hz2)
      have hY := hY.new hn_q247 eG hx9 (by decide)
      have hall : ∀ j, j < i → ∃ b, el H q170 j = some (.ref b) ∧ G6 b = some 13 := fun j hj => by obtain ⟨b9, e1, e2⟩ := hall j hj; exact ⟨b9, (el_kept (hx9 _ _ hw13).2).trans e1, (hx9 _ _ e2).1⟩
      have m248 := (el_kept (hx9 _ _ hw0).2).trans mw0
      have m249 := (el_kept (hx9 _ _ hw1).2).trans mw1
      have m250 := mw2.kept (hx9 _ _ hw2).2
      have m251 := (el_kept (hx9 _ _ hw1).2).trans mw3
      have m252 := mw4.kept (hx9 _ _ hw3).2
      have m253 := (el_kept (hx9 _ _ hw1).2).trans mw5
      have m254 := mw6.kept (hx9 _ _ hw4).2
      have m255 := (el_kept (hx9 _ _ hw1).2).trans mw7
      have m256 := mw8.kept (hx9 _ _ hw5).2
      have m257 := (el_kept (hx9 _ _ hw1).2).trans mw9
      have m258 := (el_kept (hx9 _ _ hw1).2).trans mw10
      have m259 := (el_kept (hx9 _ _ hw6).2).trans mw11
      have m260 := mw12.kept (hx9 _ _ hw7).2
      have m261 := (el_kept (hx9 _ _ hw6).2).trans mw13
      have m262 := mw14.kept (hx9 _ _ hw8).2
      have m263 := (el_kept (hx9 _ _ hw6).2).trans mw15
      have m264 := (el_kept (hx9 _ _ hw1).2).trans mw16
      have m265 := (el_kept (hx9 _ _ hw9).2).trans mw17
      have m266 := mw18.kept (hx9 _ _ hw10).2
      have m267 := (el_kept (hx9 _ _ hw9).2).trans mw19
      have m268 := mw20.kept (hx9 _ _ hw11).2
      have m269 := (el_kept (hx9 _ _ hw9).2).trans mw21
      have m270 := (el_kept (hx9 _ _ hw0).2).trans mw22
      have m271 := (el_kept (hx9 _ _ hw0).2).trans mw23
      have m272 := (el_kept (hx9 _ _ hw0).2).trans mw24
      have hg273 := (hx9 _ _ hw0).1
      have hg274 := (hx9 _ _ hw1).1
      have hg275 := (hx9 _ _ hw2).1
      have hg276 := (hx9 _ _ hw3).1
      have hg277 := (hx9 _ _ hw4).1
      have hg278 := (hx9 _ _ hw5).1
      have hg279 := (hx9 _ _ hw6).1
      have hg280 := (hx9 _ _ hw7).1
      have hg281 := (hx9 _ _ hw8).1
      have hg282 := (hx9 _ _ hw9).1
      have hg283 := (hx9 _ _ hw10).1
      have hg284 := (hx9 _ _ hw11).1
      have hg285 := (hx9 _ _ hw12).1
      have hg286 := (hx9 _ _ hw13).1
      have hg287 : G6 q247 = some 113 := by rw [eG]; exact gU_at
      refine lv_dup hx hb dX3_init_51 rfl ?_
      have hFc := gA_free hG hA hS
      have hz9 := hS.1
      refine va_callv (va_runIN (As := []) (rest := [.ref q247, .int (nI i), .ref q170]) ⟨hx, hb, hml, hown, hts⟩ (n_X10 l dC dI kA adK adV G6 H nC nS q247 hT hg287 (by omega) (by omega)) ⟨va_cnB 0 hts (goodIn_ca (goodIn_r _ [49, 50, 2, 3, 9, 51, 52] rfl (by decide +kernel)) (bs2_in _ _)) rfl rfl rfl (hE.nm 108 rfl) (ht_at2 hts 47 rfl) (by decide +kernel) ⟨(Nat.le_of_ble_eq_true rfl), (Nat.le_of_ble_eq_true rfl)⟩, rfl, (ht_at2 hts 52 rfl)⟩ ⟨fun a U g mk q => by obtain ⟨q0, q1, qK, qE, qA⟩ := q; exact ⟨q0, q1, va_K.moved (u := U) (U := U.calling g mk a) (Vm.Alike.refl U.vm) qK, EVC.blind g mk a qE, AO.blind g mk a qA⟩, fun U hU hW => ⟨rfl, hU, va_K.moved hW.alike hK, hE.call hS hFc hU hW, hAO.call hW⟩⟩ rfl rfl hl.1 rfl (lv_room (Nat.le_of_ble_eq_true rfl)) dX3_init_52 ⟨show (24 + 3 * i) + 1 + 2 ≤ 114 from by omega, show (1426 + 24 * i) + 12 + 12 ≤ 2146 from by omega⟩) hS (fun q _ h => hFc q h) hFc (fun G7 t H locs ht hvm _ hB _ _ hS => ?_)
      (try dsimp only at hB); rw [ht] at hB; obtain ⟨hT, hg288, hY1⟩ := hB
      have hY := hY.call hn_q247 hY1 hz9 (by decide)
      have hG := hY.A hG0 hAo hA
      have hall : ∀ j, j < i → ∃ b, el H q170 j = some (.ref b) ∧ G7 b = some 13 := fun j hj => by obtain ⟨b9, e1, e2⟩ := hall j hj; exact ⟨b9, (el_kept (hY1.1 _ _ (gne hg286 hg287 (by decide)) hg286).2).trans e1, (hY1.1 _ _ (gne e2 hg287 (by decide)) e2).1⟩
      have m289 := (el_kept (hY1.1 _ _ (gne hg273 hg287 (by decide)) hg273).2).trans m248
      have m290 := (el_kept (hY1.1 _ _ (gne hg274 hg287 (by decide)) hg274).2).trans m249
      have m291 := m250.kept (hY1.1 _ _ (gne hg275 hg287 (by decide)) hg275).2
      have m292 := (el_kept (hY1.1 _ _ (gne hg274 hg287 (by decide)) hg274).2).trans m251
      have m293 := m252.kept (hY1.1 _ _ (gne hg276 hg287 (by decide)) hg276).2
      have m294 := (el_kept (hY1.1 _ _ (gne hg274 hg287 (by decide)) hg274).2).trans m253
      have m295 := m254.kept (hY1.1 _ _ (gne hg277 hg287 (by decide)) hg277).2
      have m296 := (el_kept (hY1.1 _ _ (gne hg274 hg287 (by decide)) hg274).2).trans m255
      have m297 := m256.kept (hY1.1 _ _ (gne hg278 hg287 (by decide)) hg278).2
      have m298 := (el_kept (hY1.1 _ _ (gne hg274 hg287 (by decide)) hg274).2).trans m257
      have m299 := (el_kept (hY1.1 _ _ (gne hg274 hg287 (by decide)) hg274).2).trans m258
      have m300 := (el_kept (hY1.1 _ _ (gne hg279 hg287 (by decide)) hg279).2).trans m259
      have m301 := m260.kept (hY1.1 _ _ (gne hg280 hg287 (by decide)) hg280).2
      have m302 := (el_kept (hY1.1 _ _ (gne hg279 hg287 (by decide)) hg279).2).trans m261
      have m303 := m262.kept (hY1.1 _ _ (gne hg281 hg287 (by decide)) hg281).2
      have m304 := (el_kept (hY1.1 _ _ (gne hg279 hg287 (by decide)) hg279).2).trans m263
      have m305 := (el_kept (hY1.1 _ _ (gne hg274 hg287 (by decide)) hg274).2).trans m264
      have m306 := (el_kept (hY1.1 _ _ (gne hg282 hg287 (by decide)) hg282).2).trans m265
      have m307 := m266.kept (hY1.1 _ _ (gne hg283 hg287 (by decide)) hg283).2
      have m308 := (el_kept (hY1.1 _ _ (gne hg282 hg287 (by decide)) hg282).2).trans m267
      have m309 := m268.kept (hY1.1 _ _ (gne hg284 hg287 (by decide)) hg284).2
      have m310 := (el_kept (hY1.1 _ _ (gne hg282 hg287 (by decide)) hg282).2).trans m269
      have m311 := (el_kept (hY1.1 _ _ (gne hg273 hg287 (by decide)) hg273).2).trans m270
      have m312 := (el_kept (hY1.1 _ _ (gne hg273 hg287 (by decide)) hg273).2).trans m271
      have m313 := (el_kept (hY1.1 _ _ (gne hg273 hg287 (by decide)) hg273).2).trans m272
      have hg314 := (hY1.1 _ _ (gne hg273 hg287 (by decide)) hg273).1
      have hg315 := (hY1.1 _ _ (gne hg274 hg287 (by decide)) hg274).1
      have hg316 := (hY1.1 _ _ (gne hg275 hg287 (by decide)) hg275).1
      have hg317 := (hY1.1 _ _ (gne hg276 hg287 (by decide)) hg276).1
      have hg318 := (hY1.1 _ _ (gne hg277 hg287 (by decide)) hg277).1
      have hg319 := (hY1.1 _ _ (gne hg278 hg287 (by decide)) hg278).1
      have hg320 := (hY1.1 _ _ (gne hg279 hg287 (by decide)) hg279).1
      have hg321 := (hY1.1 _ _ (gne hg280 hg287 (by decide)) hg280).1
      have hg322 := (hY1.1 _ _ (gne hg281 hg287 (by decide)) hg281).1
      have hg323 := (hY1.1 _ _ (gne hg282 hg287 (by decide)) hg282).1
      have hg324 := (hY1.1 _ _ (gne hg283 hg287 (by decide)) hg283).1
      have hg325 := (hY1.1 _ _ (gne hg284 hg287 (by decide)) hg284).1
      have hg326 := (hY1.1 _ _ (gne hg285 hg287 (by decide)) hg285).1
      have hg327 := (hY1.1 _ _ (gne hg286 hg287 (by decide)) hg286).1
      refine tw_aast (C := RX10) (i := (nI i)) hx hb hK hT hG hS hg327 shc_99 rfl hg288 shc_13 rfl (vp_in_nI (by omega) (by decide)) ⟨some _, rfl, fun _ h => by cases h; exact hg288⟩ dX3_init_55 (fun H locs hT oq m328 oi hS => ?_)
      rw [show (nI i).toNatClampNeg = i from tn_nI (by omega)] at m328 oi
      have hY := hY.put1 hn_q170 (fun q _ h => oq q h)
      have hall : ∀ j, j < i + 1 → ∃ b, el H q170 j = some (.ref b) ∧ G7 b = some 13 := fun j hj => by
        by_cases e9 : j = i
        · rw [e9]; exact ⟨_, m328, hg288⟩
        · obtain ⟨b9, e1, e2⟩ := hall j (by omega); exact ⟨b9, (oi j e9).trans e1, e2⟩
      have m329 := (el_kept (oq _ (gne hg314 hg327 (by decide)))).trans m289
      have m330 := (el_kept (oq _ (gne hg315 hg327 (by decide)))).trans m290
      have m331 := m291.kept (oq _ (gne hg316 hg327 (by decide)))
      have m332 := (el_kept (oq _ (gne hg315 hg327 (by decide)))).trans m292
      have m333 := m293.kept (oq _ (gne hg317 hg327 (by decide)))
      have m334 := (el_kept (oq _ (gne hg315 hg327 (by decide)))).trans m294
      have m335 := m295.kept (oq _ (gne hg318 hg327 (by decide)))
      have m336 := (el_kept (oq _ (gne hg315 hg327 (by decide)))).trans m296
      have m337 := m297.kept (oq _ (gne hg319 hg327 (by decide)))
      have m338 := (el_kept (oq _ (gne hg315 hg327 (by decide)))).trans m298
      have m339 := (el_kept (oq _ (gne hg315 hg327 (by decide)))).trans m299
      have m340 := (el_kept (oq _ (gne hg320 hg327 (by decide)))).trans m300
      have m341 := m301.kept (oq _ (gne hg321 hg327 (by decide)))
      have m342 := (el_kept (oq _ (gne hg320 hg327 (by decide)))).trans m302
      have m343 := m303.kept (oq _ (gne hg322 hg327 (by decide)))
      have m344 := (el_kept (oq _ (gne hg320 hg327 (by decide)))).trans m304
      have m345 := (el_kept (oq _ (gne hg315 hg327 (by decide)))).trans m305
      have m346 := (el_kept (oq _ (gne hg323 hg327 (by decide)))).trans m306
      have m347 := m307.kept (oq _ (gne hg324 hg327 (by decide)))
      have m348 := (el_kept (oq _ (gne hg323 hg327 (by decide)))).trans m308
      have m349 := m309.kept (oq _ (gne hg325 hg327 (by decide)))
      have m350 := (el_kept (oq _ (gne hg323 hg327 (by decide)))).trans m310
      have m351 := (el_kept (oq _ (gne hg314 hg327 (by decide)))).trans m311
      have m352 := (el_kept (oq _ (gne hg314 hg327 (by decide)))).trans m312
      have m353 := (el_kept (oq _ (gne hg314 hg327 (by decide)))).trans m313
      refine lv_iinc (v := nI (i + 1)) (lv' := [(1, .int (nI (i + 1))), (0, .ref o0)]) hx hb dX3_init_56 hl (k := 0) rfl (nI_add i 1) (by decide) rfl (fun ls hl => ?_)
      refine lv_goto (tgt := 37) hx hb dX3_init_59 (by decide) ?_
      exact W.widen (k := 24 + 3 * (i + 1)) (n := 1426 + 24 * (i + 1)) (by omega) (by omega) (ih9 (i + 1) (by omega) _ _ _ hT hY hS hg314 hg315 hg316 hg317 hg318 hg319 hg320 hg321 hg322 hg323 hg324 hg325 hg326 hg327 m329 m330 m331 m332 m333 m334 m335 m336 m337 m338 m339 m340 m341 m342 m343 m344 m345 m346 m347 m348 m349 m350 m351 m352 m353 hall ls (lv_sub hl [0, 1] rfl))
  exact key9 30 0 rfl _ _ _ hT hY hS hg195 hg196 hg197 hg198 hg199 hg200 hg201 hg202 hg203 hg204 hg205 hg206 hg207 hg208 m210 m211 m212 m213 m214 m215 m216 m217 m218 m219 m220 m221 m222 m223 m224 m225 m226 m227 m228 m229 m230 m231 m232 m233 m209 (fun j hj => absurd hj (by omega)) ls hl
def w_n_I3 : List Cond := .code yX3_init cX3_init 2 none :: (HAppend.hAppend (α := List Cond) (β := List Cond) (γ := List Cond) [.methodLink RX3 3 objectInit, .instanceMethod objectInit, .code objectInit ⟨#[0xb1]⟩ 1 none, .classLink RX3 9 RX8, .instantiable RX8 7, .initialized RX8, .code yX8_init cX8_init 1 none, .methodLink RX8 3 objectInit, .arrayClass .int, .fieldLink RX8 9 "SeaLand$Sky" "tides" "[I", .fieldLink RX8 15 "SeaLand$Sky" "stormFrom" "[I", .fieldLink RX8 18 "SeaLand$Sky" "stormTo" "[I", .fieldLink RX8 21 "SeaLand$Sky" "stormMore" "[I", .classLink RX8 24 RX9, .instantiable RX9 3, .initialized RX9, .code yX9_init cX9_init 1 none, .methodLink RX9 3 objectInit, .fieldLink RX9 9 "SeaLand$Tellings" "hours" "[I", .fieldLink RX9 15 "SeaLand$Tellings" "numbers" "[I", .instanceMethod yX9_init, .fieldLink RX8 27 "SeaLand$Sky" "wind" "LSeaLand$Tellings;", .fieldLink RX8 31 "SeaLand$Sky" "rain" "LSeaLand$Tellings;", .instanceMethod yX8_init, .fieldLink RX3 12 "SeaLand$Lake" "sky" "LSeaLand$Sky;", .classLink RX3 18 RX2, .instantiable RX2 15, .initialized RX2, .code yX2_init cX2_init 1 none, .methodLink RX2 3 objectInit, .arrayClass .boolean, .fieldLink RX2 9 "SeaLand$Ground" "isLand" "[Z", .fieldLink RX2 15 "SeaLand$Ground" "height" "[I", .fieldLink RX2 19 "SeaLand$Ground" "soil" "[I", .fieldLink RX2 22 "SeaLand$Ground" "ditch" "[I", .fieldLink RX2 25 "SeaLand$Ground" "water" "[I", .fieldLink RX2 28 "SeaLand$Ground" "salt" "[I", .fieldLink RX2 31 "SeaLand$Ground" "dry" "[I", .fieldLink RX2 34 "SeaLand$Ground" "wet" "[I", .fieldLink RX2 37 "SeaLand$Ground" "ditchTo" "[I", .fieldLink RX2 40 "SeaLand$Ground" "ditchWater" "[I", .fieldLink RX2 43 "SeaLand$Ground" "ditchSalt" "[I", .instanceMethod yX2_init, .fieldLink RX3 21 "SeaLand$Lake" "ground" "LSeaLand$Ground;", .classLink RX3 25 RX10, .fieldLink RX3 27 "SeaLand$Lake" "works" "[LSeaLand$Work;", .instantiable RX10 12, .initialized RX10, .code yX10_init cX10_init 1 none, .methodLink RX10 3 objectInit, .fieldLink RX10 9 "SeaLand$Work" "thick" "[I", .fieldLink RX10 15 "SeaLand$Work" "clay" "[I", .instanceMethod yX10_init] bs2)
set_option maxHeartbeats 4000000 in
set_option maxRecDepth 100000 in
theorem n_I3 (l : Launch) (dC : Nat → ClassId) (dI : Nat → Nat → Nat) (kA : Nat → ClassId) (adK adV : Nat → Nat) (G : gT) (H0 : Heap) (nC nS : Int) (o0 : Nat) (hT : gH (dC, dI) kA (SHc nC nS) G H0) (hr_o0 : G o0 = some 120) (hgC : 0 ≤ nC ∧ nC ≤ 40) (hgS : 0 ≤ nS ∧ nS ≤ 60) : Met l yX3_init w_n_I3 ({ frames := 3, cells := 114, slots := 2146, locals := 86 }) (va_Pc [.ref o0] (fun U => U.heap = H0 ∧ va_K (dC, dI) vwCl (tyl kA) U ∧ EVC adK adV (gA G H0.size) U U.heap ∧ AO U)) (va_Qv (fun (u : gT) => True) (fun (G1 : gT) (t : State) => gH (dC, dI) kA (SHc nC nS) G1 t.heap ∧ G1 o0 = some 90 ∧ gY ([70, 71, 72, 73, 74, 75, 76, 77, 78, 79, 80, 81, 82, 83, 84, 85, 86, 87, 88, 89, 91, 92, 93, 94, 121, 122, 123, 124, 125, 133, 134, 135, 137] : List Nat) 90 o0 G G1 H0 t.heap) (gA G H0.size)) 114 2146 (gA G H0.size) := by
  refine Met.ofW (cc := cX3_init) (maxL := 2) (ret := none) (by decide) rfl ?_
  intro p e s m args below meth c s₁ B hml hv
  obtain ⟨rfl, hH0, hK, hE, hAO⟩ := hv
  have hx := B.exec
  have hb := B.bytes
  have hr := B.returns
  have hts := atoms_spec (ws := w_n_I3) B.pre
  have hown : s.vm.findClass RX3 = some m.cls := findClass_of_methodNamed B.named
  have hlocks := B.notSynchronized
  have hin : meth.name = "<init>" := (name_of_methodNamed B.named B.method).1
  subst hH0
  generalize hAe : gA G s.heap.size = A at hE ⊢
  have hA : ∀ q : Nat, s.heap.size ≤ q → A q := fun q h => by rw [← hAe]; exact Or.inr h
  have hG := gA_of hAe
  have hS : va_S A s.heap s.heap [] := va_S.rf
  have hl := lv_entry ([.ref o0]) (n := 2) (Nat.le_of_ble_eq_true rfl)
  rw [lg_entry_eq]
  generalize (lg_sl ([.ref o0]) ++ List.replicate (2 - (lg_sl ([.ref o0])).length) Slot.unset).toArray = ls at hl ⊢
  have hl : lv_has ls 2 [(0, .ref o0)] := hl
  have hG0 := hG
  have hY : gY ([70, 71, 72, 73, 74, 75, 76, 77, 78, 79, 80, 81, 82, 83, 84, 85, 86, 87, 88, 89, 91, 92, 93, 94, 121, 122, 123, 124, 125, 133, 134, 135, 137] : List Nat) 90 o0 G G s.heap s.heap := gY.rf hT
  have hAo := hG _ _ hr_o0
  refine lv_aload_n hx hb dX3_init_0 rfl (lv_at hl 0 rfl) ?_
  refine W.objInit hx hb hown (ht_at2 hts 0 rfl) (ht_at2 hts 1 rfl) (ht_at2 hts 2 rfl) rfl (by rw [hml]; exact hl.1) rfl dX3_init_1 (Nat.le_of_ble_eq_true rfl) (Nat.le_of_ble_eq_true rfl) ?_
  refine W.eq (g2 := F0 m 4 ls []) rfl ?_
  refine lv_aload_n hx hb dX3_init_4 rfl (lv_at hl 0 rfl) ?_
  have hz9 := hS.1
  refine tw_new hx hb hts bF2_X8 tyX8 tyX8_ok hown (ht_at2 hts 3 rfl) (ht_at2 hts 4 rfl) (ht_at2 hts 5 rfl) hK mon_c hT hS hG hA (shc_121) rfl nd_121 (Nat.le_of_ble_eq_true rfl) (Nat.le_of_ble_eq_true rfl) dX3_init_5 (fun q1 G1 H hq9 eG hz1 hz2 hT hx9 hG hm9 hS => ?_)
  have hn_q1 : s.heap.size ≤ q1 := Nat.le_trans hz9 (Nat.le_of_eq hz2)
  have hY := hY.new hn_q1 eG hx9 (by decide)
  have hg2 := (hx9 _ _ hr_o0).1
  have hg3 : G1 q1 = some 121 := by rw [eG]; exact gU_at
  refine lv_dup hx hb dX3_init_8 rfl ?_
  have hFc := gA_free hG hA hS
  have hz9 := hS.1
  refine va_callv (va_runIN (As := []) (rest := [.ref q1, .ref o0]) ⟨hx, hb, hml, hown, hts⟩ (n_I8 l dC dI kA adK adV G1 H nC nS q1 hT hg3 (by omega) (by omega)) ⟨va_cnB 0 hts (goodIn_ca (goodIn_r _ [7, 8, 2, 3, 9, 10, 11, 12, 13, 14, 15, 16, 17, 18, 19, 20, 21, 22, 23] rfl (by decide +kernel)) (bs2_in _ _)) rfl rfl rfl (hE.nm 106 rfl) (ht_at2 hts 5 rfl) (by decide +kernel) ⟨(Nat.le_of_ble_eq_true rfl), (Nat.le_of_ble_eq_true rfl)⟩, rfl, (ht_at2 hts 23 rfl)⟩ ⟨fun a U g mk q => by obtain ⟨q0, q1, qK, qE, qA⟩ := q; exact ⟨q0, q1, va_K.moved (u := U) (U := U.calling g mk a) (Vm.Alike.refl U.vm) qK, EVC.blind g mk a qE, AO.blind g mk a qA⟩, fun U hU hW => ⟨rfl, hU, va_K.moved hW.alike hK, hE.call hS hFc hU hW, hAO.call hW⟩⟩ rfl rfl hl.1 rfl (lv_room (Nat.le_of_ble_eq_true rfl)) dX3_init_9 ⟨(Nat.le_of_ble_eq_true rfl), (Nat.le_of_ble_eq_true rfl)⟩) hS (fun q _ h => hFc q h) hFc (fun G2 t H locs ht hvm _ hB _ _ hS => ?_)
  (try dsimp only at hB); rw [ht] at hB; obtain ⟨hT, hg4, hY1⟩ := hB
  have hY := hY.call hn_q1 hY1 hz9 (by decide)
  have hG := hY.A hG0 hAo hA
  have hg5 := (hY1.1 _ _ (gne hg2 hg3 (by decide)) hg2).1
  refine tw_putF (v := .ref q1) (ty := (.object "SeaLand$Sky")) hx hb hts bF2_X3 tyX3 tyX3_ok nmX3 hown hK hT hG hS hg5 shc_120 rfl 0 (by decide) (ht_at2 hts 24 rfl) (fun _ h9 => h9) rfl hin rfl (by decide +kernel) rfl rfl (gl_at rfl ⟨some _, rfl, fun _ h => by cases h; exact hg4⟩) dX3_init_12 (fun H locs hT oq m6 oj hS => ?_)
  have hY := hY.put oq
  refine lv_aload_n hx hb dX3_init_15 rfl (lv_at hl 0 rfl) ?_
  have hz9 := hS.1
  refine tw_new hx hb hts bF2_X2 tyX2 tyX2_ok hown (ht_at2 hts 25 rfl) (ht_at2 hts 26 rfl) (ht_at2 hts 27 rfl) hK mon_c hT hS hG hA (shc_123) rfl nd_123 (Nat.le_of_ble_eq_true rfl) (Nat.le_of_ble_eq_true rfl) dX3_init_16 (fun q7 G3 H hq9 eG hz1 hz2 hT hx9 hG hm9 hS => ?_)
  have hn_q7 : s.heap.size ≤ q7 := Nat.le_trans hz9 (Nat.le_of_eq hz2)
  have hY := hY.new hn_q7 eG hx9 (by decide)
  have m8 := (el_kept (hx9 _ _ hg5).2).trans m6
  have hg9 := (hx9 _ _ hg5).1
  have hg10 := (hx9 _ _ hg4).1
  have hg11 : G3 q7 = some 123 := by rw [eG]; exact gU_at
  refine lv_dup hx hb dX3_init_19 rfl ?_
  have hFc := gA_free hG hA hS
  have hz9 := hS.1
  refine va_callv (va_runIN (As := []) (rest := [.ref q7, .ref o0]) ⟨hx, hb, hml, hown, hts⟩ (n_I2 l dC dI kA adK adV G3 H nC nS q7 hT hg11 (by omega) (by omega)) ⟨va_cnB 0 hts (goodIn_ca (goodIn_r _ [29, 30, 2, 3, 31, 32, 9, 33, 34, 35, 36, 37, 38, 39, 40, 41, 42] rfl (by decide +kernel)) (bs2_in _ _)) rfl rfl rfl (hE.nm 107 rfl) (ht_at2 hts 27 rfl) (by decide +kernel) ⟨(Nat.le_of_ble_eq_true rfl), (Nat.le_of_ble_eq_true rfl)⟩, rfl, (ht_at2 hts 42 rfl)⟩ ⟨fun a U g mk q => by obtain ⟨q0, q1, qK, qE, qA⟩ := q; exact ⟨q0, q1, va_K.moved (u := U) (U := U.calling g mk a) (Vm.Alike.refl U.vm) qK, EVC.blind g mk a qE, AO.blind g mk a qA⟩, fun U hU hW => ⟨rfl, hU, va_K.moved hW.alike hK, hE.call hS hFc hU hW, hAO.call hW⟩⟩ rfl rfl hl.1 rfl (lv_room (Nat.le_of_ble_eq_true rfl)) dX3_init_20 ⟨(Nat.le_of_ble_eq_true rfl), (Nat.le_of_ble_eq_true rfl)⟩) hS (fun q _ h => hFc q h) hFc (fun G4 t H locs ht hvm _ hB _ _ hS => ?_)
  (try dsimp only at hB); rw [ht] at hB; obtain ⟨hT, hg12, hY1⟩ := hB
  have hY := hY.call hn_q7 hY1 hz9 (by decide)
  have hG := hY.A hG0 hAo hA
  have m13 := (el_kept (hY1.1 _ _ (gne hg9 hg11 (by decide)) hg9).2).trans m8
  have hg14 := (hY1.1 _ _ (gne hg9 hg11 (by decide)) hg9).1
  have hg15 := (hY1.1 _ _ (gne hg10 hg11 (by decide)) hg10).1
  refine tw_putF (v := .ref q7) (ty := (.object "SeaLand$Ground")) hx hb hts bF2_X3 tyX3 tyX3_ok nmX3 hown hK hT hG hS hg14 shc_120 rfl 1 (by decide) (ht_at2 hts 43 rfl) (fun _ h9 => h9) rfl hin rfl (by decide +kernel) rfl rfl (gl_at rfl ⟨some _, rfl, fun _ h => by cases h; exact hg12⟩) dX3_init_23 (fun H locs hT oq m16 oj hS => ?_)
  have hY := hY.put oq
  have m17 := (oj 0 (by decide) (by decide)).trans m13
  refine lv_aload_n hx hb dX3_init_26 rfl (lv_at hl 0 rfl) ?_
  refine lv_bipush (v := 30) hx hb dX3_init_27 (by decide) ?_
  have hz9 := hS.1
  refine tw_newq hx hb hown (ht_at2 hts 44 rfl) (hAO _ (by decide)) hK mon_c hT hS hG hA (shc_125) rfl (fun _ _ _ => ⟨none, rfl, fun _ h => by cases h⟩) (by decide) rfl (Nat.le_of_ble_eq_true rfl) (Nat.le_of_ble_eq_true rfl) (Nat.le_of_ble_eq_true rfl) dX3_init_29 (fun q18 G5 H hq9 eG hz1 hz2 hT hx9 hG hm9 hS => ?_)
  have hn_q18 : s.heap.size ≤ q18 := Nat.le_trans hz9 (Nat.le_of_eq hz2)
  have hY := hY.new hn_q18 eG hx9 (by decide)
  have m19 := (el_kept (hx9 _ _ hg14).2).trans m17
  have m20 := (el_kept (hx9 _ _ hg14).2).trans m16
  have hg21 := (hx9 _ _ hg14).1
  have hg22 := (hx9 _ _ hg15).1
  have hg23 := (hx9 _ _ hg12).1
  have hg24 : G5 q18 = some 125 := by rw [eG]; exact gU_at
  refine tw_putF (v := .ref q18) (ty := (.array (.object "SeaLand$Work"))) hx hb hts bF2_X3 tyX3 tyX3_ok nmX3 hown hK hT hG hS hg21 shc_120 rfl 2 (by decide) (ht_at2 hts 45 rfl) (fun _ h9 => h9) rfl hin rfl (by decide +kernel) rfl rfl (gl_at rfl ⟨some _, rfl⟩) dX3_init_32 (fun H locs hT oq m25 oj hS => ?_)
  have hY := hY.put oq
  have m26 := (oj 0 (by decide) (by decide)).trans m19
  have m27 := (oj 1 (by decide) (by decide)).trans m20
  refine lv_iconst (v := 0) hx hb dX3_init_35 (by decide) ?_
  refine lv_istore_n (lv' := [(1, .int 0), (0, .ref o0)]) hx hb dX3_init_36 rfl hl (by decide) rfl (fun ls hl => ?_)
  have key9 : ∀ (n i : Nat), i + n = 30 → ∀ (G9 : gT) (H : Heap) (locs : List Loc), gH (dC, dI) kA (SHc nC nS) G9 H → gY ([70, 71, 72, 73, 74, 75, 76, 77, 78, 79, 80, 81, 82, 83, 84, 85, 86, 87, 88, 89, 91, 92, 93, 94, 121, 122, 123, 124, 125, 133, 134, 135, 137] : List Nat) 90 o0 G G9 s.heap H → va_S A s.heap H locs → G9 o0 = some 120 → G9 q1 = some 91 → G9 q7 = some 93 → G9 q18 = some 125 → el H o0 (dI 6 0) = some (.ref q1) → el H o0 (dI 6 1) = some (.ref q7) → el H o0 (dI 6 2) = some (.ref q18) → (∀ j, j < i → ∃ b, el H q18 j = some (.ref b) ∧ G9 b = some 94) → ∀ ls : Array Slot, lv_has ls 2 [(1, .int (nI i)), (0, .ref o0)] → W p l e (headSpec w_n_I3 ({ frames := 3, cells := 114, slots := 2146, locals := 86 })).room s m #[.ref o0] below meth c H locs (24 + 3 * i) (1426 + 24 * i) (MQ below (va_Qv (fun (u : gT) => True) (fun (G1 : gT) (t : State) => gH (dC, dI) kA (SHc nC nS) G1 t.heap ∧ G1 o0 = some 90 ∧ gY ([70, 71, 72, 73, 74, 75, 76, 77, 78, 79, 80, 81, 82, 83, 84, 85, 86, 87, 88, 89, 91, 92, 93, 94, 121, 122, 123, 124, 125, 133, 134, 135, 137] : List Nat) 90 o0 G G1 s.heap t.heap) A) #[.ref o0] s 114 2146 A) (F0 m 37 ls []) := by
    intro n
    induction n with
    | zero =>
      intro i hn9 G9 H locs hT hY hS hw0 hw1 hw2 hw3 mw0 mw1 mw2 hall ls hl
      obtain rfl : 30 = i := by omega
      have hG := hY.A hG0 hAo hA
      refine lv_iload_n hx hb dX3_init_37 rfl (lv_at hl 0 rfl) ?_
      refine lv_bipush (v := 30) hx hb dX3_init_38 (by decide) ?_
      refine lv_icmp_ge (tgt := 62) hx hb dX3_init_40 (by decide) (fun c9 => ?_) (fun c9 => (by exfalso; have q9 : ((30 : Nat) : Int) < 30 := ti_nle c9 (by decide) (nI_toInt (by omega)); omega))
      have hT := hT.grown (t := 70) mon_c hw3 (by decide) (by
        have h8 := hT _ _ hw3; rw [shc_125] at h8; rw [shc_70]
        exact gC.grow_arr h8 (fun k v hk hm hv => by obtain ⟨b9, e1, e2⟩ := hall k hk; obtain rfl : v = .ref b9 := Option.some.inj (hm.symm.trans e1); exact ⟨b9, rfl, (gU_ne (gne e2 hw3 (by decide))).trans e2⟩))
      have hY := hY.grow1 (t := 70) hn_q18 (by decide)
      have hg28 := (gU_ne (t := 70) (gne hw0 hw3 (by decide))).trans hw0
      have hg29 := (gU_ne (t := 70) (gne hw1 hw3 (by decide))).trans hw1
      have hg30 := (gU_ne (t := 70) (gne hw2 hw3 (by decide))).trans hw2
      have hgq9 := gU_at (G := G9) (q := q18) (t := 70)
      refine W.widen (k := 114) (n := 2146) (by decide) (by decide) ?_
      have hT := hT.grown (t := 90) mon_c hg28 (by decide) (by
        have h8 := hT _ _ hg28; rw [shc_120] at h8; rw [shc_90]
        refine gC.growT h8 (fun k v hk hm hv => match k, hk, hm, hv with
          | 0, _, hm, hv => gl_at rfl (by obtain rfl : v = .ref q1 := Option.some.inj (hm.symm.trans mw0); exact ⟨_, rfl, (gU_ne (gne hg29 hg28 (by decide))).trans hg29⟩)
          | 1, _, hm, hv => gl_at rfl (by obtain rfl : v = .ref q7 := Option.some.inj (hm.symm.trans mw1); exact ⟨_, rfl, (gU_ne (gne hg30 hg28 (by decide))).trans hg30⟩)
          | 2, _, hm, hv => gl_at rfl (by obtain rfl : v = .ref q18 := Option.some.inj (hm.symm.trans mw2); exact ⟨_, rfl, (gU_ne (gne hgq9 hg28 (by decide))).trans hgq9⟩)
          | 3, _, hm, hv => gl_at rfl (hv _ rfl)
          | 4, _, hm, hv => gl_at rfl (hv _ rfl)
          | k + 5, hk, _, _ => absurd hk (by omega)))
      have hY := hY.grow
      exact W.vret hx hb hr (fun t ht hW => ⟨⟨_, rfl, trivial, by (try dsimp only); rw [ht]; exact ⟨hT, gU_at, hY⟩⟩, hS.F ht⟩) hS.2.2 dX3_init_62
    | succ n ih9 =>
      intro i hn9 G9 H locs hT hY hS hw0 hw1 hw2 hw3 mw0 mw1 mw2 hall ls hl
      have hG := hY.A hG0 hAo hA
      refine lv_iload_n hx hb dX3_init_37 rfl (lv_at hl 0 rfl) ?_
      refine lv_bipush (v := 30) hx hb dX3_init_38 (by decide) ?_
      refine lv_icmp_ge (tgt := 62) hx hb dX3_init_40 (by decide) (fun c9 => (by exfalso; have q9 : 30 ≤ ((i : Nat) : Int) := ti_le c9 (by decide) (nI_toInt (by omega)); omega)) (fun c9 => ?_)
      refine lv_aload_n hx hb dX3_init_43 rfl (lv_at hl 1 rfl) ?_
      refine tw_getM (v := .ref q18) hx hb hts bF2_X3 hown hK hT hw0 shc_120 rfl 2 (by decide) (ht_at2 hts 45 rfl) (fun _ h9 => h9) mw2 dX3_init_44 ?_
      refine lv_iload_n hx hb dX3_init_47 rfl (lv_at hl 0 rfl) ?_
      have hz9 := hS.1
      refine tw_new hx hb hts bF2_X10 tyX10 tyX10_ok hown (ht_at2 hts 44 rfl) (ht_at2 hts 46 rfl) (ht_at2 hts 47 rfl) hK mon_c hT hS hG hA (shc_124) rfl nd_124 (show (24 + 3 * i) + 1 ≤ 114 from by omega) (show (1426 + 24 * i) + 12 ≤ 2146 from by omega) dX3_init_48 (fun q31 G6 H hq9 eG hz1 hz2 hT hx9 hG hm9 hS => ?_)
      have hn_q31 : s.heap.size ≤ q31 := Nat.le_trans hz9 (Nat.le_of_eq hz2)
      have hY := hY.new hn_q31 eG hx9 (by decide)
      have hall : ∀ j, j < i → ∃ b, el H q18 j = some (.ref b) ∧ G6 b = some 94 := fun j hj => by obtain ⟨b9, e1, e2⟩ := hall j hj; exact ⟨b9, (el_kept (hx9 _ _ hw3).2).trans e1, (hx9 _ _ e2).1⟩
      have m32 := (el_kept (hx9 _ _ hw0).2).trans mw0
      have m33 := (el_kept (hx9 _ _ hw0).2).trans mw1
      have m34 := (el_kept (hx9 _ _ hw0).2).trans mw2
      have hg35 := (hx9 _ _ hw0).1
      have hg36 := (hx9 _ _ hw1).1
      have hg37 := (hx9 _ _ hw2).1
      have hg38 := (hx9 _ _ hw3).1
      have hg39 : G6 q31 = some 124 := by rw [eG]; exact gU_at
      refine lv_dup hx hb dX3_init_51 rfl ?_
      have hFc := gA_free hG hA hS
      have hz9 := hS.1
      refine va_callv (va_runIN (As := []) (rest := [.ref q31, .int (nI i), .ref q18]) ⟨hx, hb, hml, hown, hts⟩ (n_I10 l dC dI kA adK adV G6 H nC nS q31 hT hg39 (by omega) (by omega)) ⟨va_cnB 0 hts (goodIn_ca (goodIn_r _ [49, 50, 2, 3, 9, 51, 52] rfl (by decide +kernel)) (bs2_in _ _)) rfl rfl rfl (hE.nm 108 rfl) (ht_at2 hts 47 rfl) (by decide +kernel) ⟨(Nat.le_of_ble_eq_true rfl), (Nat.le_of_ble_eq_true rfl)⟩, rfl, (ht_at2 hts 52 rfl)⟩ ⟨fun a U g mk q => by obtain ⟨q0, q1, qK, qE, qA⟩ := q; exact ⟨q0, q1, va_K.moved (u := U) (U := U.calling g mk a) (Vm.Alike.refl U.vm) qK, EVC.blind g mk a qE, AO.blind g mk a qA⟩, fun U hU hW => ⟨rfl, hU, va_K.moved hW.alike hK, hE.call hS hFc hU hW, hAO.call hW⟩⟩ rfl rfl hl.1 rfl (lv_room (Nat.le_of_ble_eq_true rfl)) dX3_init_52 ⟨show (24 + 3 * i) + 1 + 2 ≤ 114 from by omega, show (1426 + 24 * i) + 12 + 12 ≤ 2146 from by omega⟩) hS (fun q _ h => hFc q h) hFc (fun G7 t H locs ht hvm _ hB _ _ hS => ?_)
      (try dsimp only at hB); rw [ht] at hB; obtain ⟨hT, hg40, hY1⟩ := hB
      have hY := hY.call hn_q31 hY1 hz9 (by decide)
      have hG := hY.A hG0 hAo hA
      have hall : ∀ j, j < i → ∃ b, el H q18 j = some (.ref b) ∧ G7 b = some 94 := fun j hj => by obtain ⟨b9, e1, e2⟩ := hall j hj; exact ⟨b9, (el_kept (hY1.1 _ _ (gne hg38 hg39 (by decide)) hg38).2).trans e1, (hY1.1 _ _ (gne e2 hg39 (by decide)) e2).1⟩
      have m41 := (el_kept (hY1.1 _ _ (gne hg35 hg39 (by decide)) hg35).2).trans m32
      have m42 := (el_kept (hY1.1 _ _ (gne hg35 hg39 (by decide)) hg35).2).trans m33
      have m43 := (el_kept (hY1.1 _ _ (gne hg35 hg39 (by decide)) hg35).2).trans m34
      have hg44 := (hY1.1 _ _ (gne hg35 hg39 (by decide)) hg35).1
      have hg45 := (hY1.1 _ _ (gne hg36 hg39 (by decide)) hg36).1
      have hg46 := (hY1.1 _ _ (gne hg37 hg39 (by decide)) hg37).1
      have hg47 := (hY1.1 _ _ (gne hg38 hg39 (by decide)) hg38).1
      refine tw_aast (C := RX10) (i := (nI i)) hx hb hK hT hG hS hg47 shc_125 rfl hg40 shc_94 rfl (vp_in_nI (by omega) (by decide)) ⟨some _, rfl, fun _ h => by cases h; exact hg40⟩ dX3_init_55 (fun H locs hT oq m48 oi hS => ?_)
      rw [show (nI i).toNatClampNeg = i from tn_nI (by omega)] at m48 oi
      have hY := hY.put1 hn_q18 (fun q _ h => oq q h)
      have hall : ∀ j, j < i + 1 → ∃ b, el H q18 j = some (.ref b) ∧ G7 b = some 94 := fun j hj => by
        by_cases e9 : j = i
        · rw [e9]; exact ⟨_, m48, hg40⟩
        · obtain ⟨b9, e1, e2⟩ := hall j (by omega); exact ⟨b9, (oi j e9).trans e1, e2⟩
      have m49 := (el_kept (oq _ (gne hg44 hg47 (by decide)))).trans m41
      have m50 := (el_kept (oq _ (gne hg44 hg47 (by decide)))).trans m42
      have m51 := (el_kept (oq _ (gne hg44 hg47 (by decide)))).trans m43
      refine lv_iinc (v := nI (i + 1)) (lv' := [(1, .int (nI (i + 1))), (0, .ref o0)]) hx hb dX3_init_56 hl (k := 0) rfl (nI_add i 1) (by decide) rfl (fun ls hl => ?_)
      refine lv_goto (tgt := 37) hx hb dX3_init_59 (by decide) ?_
      exact W.widen (k := 24 + 3 * (i + 1)) (n := 1426 + 24 * (i + 1)) (by omega) (by omega) (ih9 (i + 1) (by omega) _ _ _ hT hY hS hg44 hg45 hg46 hg47 m49 m50 m51 hall ls (lv_sub hl [0, 1] rfl))
  exact key9 30 0 rfl _ _ _ hT hY hS hg21 hg22 hg23 hg24 m26 m27 m25 (fun j hj => absurd hj (by omega)) ls hl
def w_n_X11 : List Cond := .code yX11_init cX11_init 1 none :: (HAppend.hAppend (α := List Cond) (β := List Cond) (γ := List Cond) [.methodLink RX11 1 objectInit, .instanceMethod objectInit, .code objectInit ⟨#[0xb1]⟩ 1 none, .arrayClass .int, .fieldLink RX11 9 "SeaLand" "tape" "[I", .classLink RX11 13 RX3, .instantiable RX3 5, .initialized RX3, .code yX3_init cX3_init 2 none, .methodLink RX3 3 objectInit, .classLink RX3 9 RX8, .instantiable RX8 7, .initialized RX8, .code yX8_init cX8_init 1 none, .methodLink RX8 3 objectInit, .fieldLink RX8 9 "SeaLand$Sky" "tides" "[I", .fieldLink RX8 15 "SeaLand$Sky" "stormFrom" "[I", .fieldLink RX8 18 "SeaLand$Sky" "stormTo" "[I", .fieldLink RX8 21 "SeaLand$Sky" "stormMore" "[I", .classLink RX8 24 RX9, .instantiable RX9 3, .initialized RX9, .code yX9_init cX9_init 1 none, .methodLink RX9 3 objectInit, .fieldLink RX9 9 "SeaLand$Tellings" "hours" "[I", .fieldLink RX9 15 "SeaLand$Tellings" "numbers" "[I", .instanceMethod yX9_init, .fieldLink RX8 27 "SeaLand$Sky" "wind" "LSeaLand$Tellings;", .fieldLink RX8 31 "SeaLand$Sky" "rain" "LSeaLand$Tellings;", .instanceMethod yX8_init, .fieldLink RX3 12 "SeaLand$Lake" "sky" "LSeaLand$Sky;", .classLink RX3 18 RX2, .instantiable RX2 15, .initialized RX2, .code yX2_init cX2_init 1 none, .methodLink RX2 3 objectInit, .arrayClass .boolean, .fieldLink RX2 9 "SeaLand$Ground" "isLand" "[Z", .fieldLink RX2 15 "SeaLand$Ground" "height" "[I", .fieldLink RX2 19 "SeaLand$Ground" "soil" "[I", .fieldLink RX2 22 "SeaLand$Ground" "ditch" "[I", .fieldLink RX2 25 "SeaLand$Ground" "water" "[I", .fieldLink RX2 28 "SeaLand$Ground" "salt" "[I", .fieldLink RX2 31 "SeaLand$Ground" "dry" "[I", .fieldLink RX2 34 "SeaLand$Ground" "wet" "[I", .fieldLink RX2 37 "SeaLand$Ground" "ditchTo" "[I", .fieldLink RX2 40 "SeaLand$Ground" "ditchWater" "[I", .fieldLink RX2 43 "SeaLand$Ground" "ditchSalt" "[I", .instanceMethod yX2_init, .fieldLink RX3 21 "SeaLand$Lake" "ground" "LSeaLand$Ground;", .classLink RX3 25 RX10, .fieldLink RX3 27 "SeaLand$Lake" "works" "[LSeaLand$Work;", .instantiable RX10 12, .initialized RX10, .code yX10_init cX10_init 1 none, .methodLink RX10 3 objectInit, .fieldLink RX10 9 "SeaLand$Work" "thick" "[I", .fieldLink RX10 15 "SeaLand$Work" "clay" "[I", .instanceMethod yX10_init, .methodLink RX11 15 yX3_init, .instanceMethod yX3_init, .fieldLink RX11 16 "SeaLand" "lake" "LSeaLand$Lake;", .classLink RX11 20 RX6, .instantiable RX6 4, .initialized RX6, .code yX6_init cX6_init 1 none, .methodLink RX6 3 objectInit, .fieldLink RX6 9 "SeaLand$Rows" "shown" "[I", .fieldLink RX6 15 "SeaLand$Rows" "proof" "[I", .instanceMethod yX6_init, .fieldLink RX11 23 "SeaLand" "rows" "LSeaLand$Rows;", .classLink RX11 27 RX0, .instantiable RX0 18, .initialized RX0, .code yX0_init cX0_init 1 none, .methodLink RX0 3 objectInit, .classLink RX0 9 RX7, .fieldLink RX0 11 "SeaLand$Board" "settlers" "[LSeaLand$Settler;", .fieldLink RX0 17 "SeaLand$Board" "farmOf" "[I", .fieldLink RX0 21 "SeaLand$Board" "crops" "[I", .fieldLink RX0 24 "SeaLand$Board" "held" "[Z", .fieldLink RX0 28 "SeaLand$Board" "harvested" "[Z", .arrayClass .long, .fieldLink RX0 33 "SeaLand$Board" "facts" "[J", .fieldLink RX0 37 "SeaLand$Board" "marks" "[I", .classLink RX0 31 RX4, .instantiable RX4 14, .initialized RX4, .code yX4_init cX4_init 1 none, .methodLink RX4 5 objectInit, .fieldLink RX4 11 "SeaLand$Law" "things" "[I", .fieldLink RX4 15 "SeaLand$Law" "begins" "[I", .fieldLink RX4 18 "SeaLand$Law" "kinds" "[I", .fieldLink RX4 21 "SeaLand$Law" "firsts" "[I", .fieldLink RX4 24 "SeaLand$Law" "seconds" "[I", .fieldLink RX4 27 "SeaLand$Law" "froms" "[I", .fieldLink RX4 30 "SeaLand$Law" "tos" "[I", .fieldLink RX4 33 "SeaLand$Law" "stepFrom" "[I", .fieldLink RX4 36 "SeaLand$Law" "stepTo" "[I", .fieldLink RX4 39 "SeaLand$Law" "steps" "[I", .fieldLink RX4 42 "SeaLand$Law" "stack" "[J", .instanceMethod yX4_init, .fieldLink RX0 41 "SeaLand$Board" "force" "LSeaLand$Law;", .fieldLink RX0 45 "SeaLand$Board" "proposed" "LSeaLand$Law;", .fieldLink RX0 48 "SeaLand$Board" "spare" "LSeaLand$Law;", .fieldLink RX0 51 "SeaLand$Board" "fault" "I", .code yJ7_fill_53178 cJ7_fill_53178 4 none, .methodLink RX0 55 yJ7_fill_53178, .static yJ7_fill_53178, .initialized RJ7, .methodLink RX11 29 yX0_init, .instanceMethod yX0_init, .fieldLink RX11 30 "SeaLand" "board" "LSeaLand$Board;", .classLink RX11 34 RX1, .fieldLink RX11 36 "SeaLand" "contracts" "[LSeaLand$Contract;", .classLink RX11 40 RX5, .instantiable RX5 17, .initialized RX5, .code yX5_init cX5_init 1 none, .methodLink RX5 5 objectInit, .fieldLink RX5 13 "SeaLand$Plans" "liftOf" "[I", .fieldLink RX5 17 "SeaLand$Plans" "leastNow" "[I", .fieldLink RX5 20 "SeaLand$Plans" "leastThen" "[I", .fieldLink RX5 23 "SeaLand$Plans" "fields" "[I", .fieldLink RX5 26 "SeaLand$Plans" "fieldLevels" "[I", .fieldLink RX5 29 "SeaLand$Plans" "costs" "[I", .fieldLink RX5 32 "SeaLand$Plans" "lasts" "[I", .fieldLink RX5 35 "SeaLand$Plans" "incomes" "[I", .fieldLink RX5 38 "SeaLand$Plans" "acres" "[I", .fieldLink RX5 41 "SeaLand$Plans" "placed" "[Z", .fieldLink RX5 45 "SeaLand$Plans" "trial" "[I", .fieldLink RX5 48 "SeaLand$Plans" "best" "[I", .instanceMethod yX5_init, .fieldLink RX11 43 "SeaLand" "plans" "LSeaLand$Plans;"] bs2)
set_option maxHeartbeats 4000000 in
set_option maxRecDepth 100000 in
theorem n_X11 (l : Launch) (dC : Nat → ClassId) (dI : Nat → Nat → Nat) (kA : Nat → ClassId) (adK adV : Nat → Nat) (G : gT) (H0 : Heap)  (o0 : Nat) (hT : gH (dC, dI) kA (SHc 0 0) G H0) (hr_o0 : G o0 = some 114) (hm_6 : el H0 o0 (dI 14 6) = some (.null)) : Met l yX11_init w_n_X11 ({ frames := 4, cells := 177, slots := 11966, locals := 115 }) (va_Pc [.ref o0] (fun U => U.heap = H0 ∧ va_K (dC, dI) vwCl (tyl kA) U ∧ EVC adK adV (gA G H0.size) U U.heap ∧ AO U)) (va_Qv (fun (u : gT) => True) (fun (G1 : gT) (t : State) => gH (dC, dI) kA (SHc 0 0) G1 t.heap ∧ G1 o0 = some 14 ∧ gY ([3, 5, 6, 7, 8, 9, 11, 12, 13, 16, 17, 18, 19, 20, 21, 22, 23, 24, 25, 26, 27, 28, 29, 30, 31, 32, 33, 34, 35, 36, 37, 38, 39, 40, 41, 42, 43, 44, 45, 46, 47, 48, 49, 50, 51, 52, 53, 54, 55, 56, 57, 58, 59, 60, 61, 62, 63, 64, 65, 66, 67, 68, 69, 99, 103, 105, 106, 107, 108, 109, 111, 112, 113, 130, 131, 132, 136] : List Nat) 14 o0 G G1 H0 t.heap ∧ (∃ w, ∀ b, G1 b = some 3 → G b = some 3 ∨ b = w) ∧ (∃ w, ∀ b, G1 b = some 51 → G b = some 51 ∨ b = w) ∧ (∃ w, ∀ b, G1 b = some 17 → G b = some 17 ∨ b = w) ∧ (∃ a1, el t.heap o0 (dI 14 1) = some (.ref a1) ∧ G1 a1 = some 6 ∧ el t.heap a1 (dI 6 4) = some (.int 0) ∧ (∃ a2, el t.heap a1 (dI 6 0) = some (.ref a2) ∧ G1 a2 = some 11 ∧ (∃ a3, el t.heap a2 (dI 11 0) = some (.ref a3) ∧ G1 a3 = some 19 ∧ ct t.heap a3 12 (fun _ => 0)) ∧ (∃ a3, el t.heap a2 (dI 11 1) = some (.ref a3) ∧ G1 a3 = some 20 ∧ ct t.heap a3 20 (fun _ => 0)) ∧ (∃ a3, el t.heap a2 (dI 11 2) = some (.ref a3) ∧ G1 a3 = some 21 ∧ ct t.heap a3 20 (fun _ => 0)) ∧ (∃ a3, el t.heap a2 (dI 11 3) = some (.ref a3) ∧ G1 a3 = some 22 ∧ ct t.heap a3 20 (fun _ => 0)) ∧ el t.heap a2 (dI 11 6) = some (.int 0) ∧ (∃ a3, el t.heap a2 (dI 11 4) = some (.ref a3) ∧ G1 a3 = some 130 ∧ (∃ a4, el t.heap a3 (dI 12 0) = some (.ref a4) ∧ G1 a4 = some 131 ∧ ct t.heap a4 60 (fun _ => 0)) ∧ (∃ a4, el t.heap a3 (dI 12 1) = some (.ref a4) ∧ G1 a4 = some 132 ∧ ct t.heap a4 60 (fun _ => 0)) ∧ el t.heap a3 (dI 12 2) = some (.int 0)) ∧ (∃ a3, el t.heap a2 (dI 11 5) = some (.ref a3) ∧ G1 a3 = some 12 ∧ (∃ a4, el t.heap a3 (dI 12 0) = some (.ref a4) ∧ G1 a4 = some 23 ∧ ct t.heap a4 60 (fun _ => 0)) ∧ (∃ a4, el t.heap a3 (dI 12 1) = some (.ref a4) ∧ G1 a4 = some 24 ∧ ct t.heap a4 60 (fun _ => 0)) ∧ el t.heap a3 (dI 12 2) = some (.int 0)))) ∧ el t.heap o0 (dI 14 6) = some .null) (gA G H0.size)) 177 11966 (gA G H0.size) := by
  refine Met.ofW (cc := cX11_init) (maxL := 1) (ret := none) (by decide) rfl ?_
  intro p e s m args below meth c s₁ B hml hv
  obtain ⟨rfl, hH0, hK, hE, hAO⟩ := hv
  have hx := B.exec
  have hb := B.bytes
  have hr := B.returns
  have hts := atoms_spec (ws := w_n_X11) B.pre
  have hown : s.vm.findClass RX11 = some m.cls := findClass_of_methodNamed B.named
  have hlocks := B.notSynchronized
  have hin : meth.name = "<init>" := (name_of_methodNamed B.named B.method).1
  subst hH0
  generalize hAe : gA G s.heap.size = A at hE ⊢
  have hA : ∀ q : Nat, s.heap.size ≤ q → A q := fun q h => by rw [← hAe]; exact Or.inr h
  have hG := gA_of hAe
  have hS : va_S A s.heap s.heap [] := va_S.rf
  have hl := lv_entry ([.ref o0]) (n := 1) (Nat.le_of_ble_eq_true rfl)
  rw [lg_entry_eq]
  generalize (lg_sl ([.ref o0]) ++ List.replicate (1 - (lg_sl ([.ref o0])).length) Slot.unset).toArray = ls at hl ⊢
  have hl : lv_has ls 1 [(0, .ref o0)] := hl
  have hG0 := hG
  have hY : gY ([3, 5, 6, 7, 8, 9, 11, 12, 13, 16, 17, 18, 19, 20, 21, 22, 23, 24, 25, 26, 27, 28, 29, 30, 31, 32, 33, 34, 35, 36, 37, 38, 39, 40, 41, 42, 43, 44, 45, 46, 47, 48, 49, 50, 51, 52, 53, 54, 55, 56, 57, 58, 59, 60, 61, 62, 63, 64, 65, 66, 67, 68, 69, 99, 103, 105, 106, 107, 108, 109, 111, 112, 113, 130, 131, 132, 136] : List Nat) 14 o0 G G s.heap s.heap := gY.rf hT
  have hU_3 : ∀ b, G b = some 3 → G b = some 3 := fun _ h => h
  have hU_51 : ∀ b, G b = some 51 → G b = some 51 := fun _ h => h
  have hU_17 : ∀ b, G b = some 17 → G b = some 17 := fun _ h => h
  have hAo := hG _ _ hr_o0
  refine lv_aload_n hx hb dX11_init_0 rfl (lv_at hl 0 rfl) ?_
  refine W.objInit hx hb hown (ht_at2 hts 0 rfl) (ht_at2 hts 1 rfl) (ht_at2 hts 2 rfl) rfl (by rw [hml]; exact hl.1) rfl dX11_init_1 (Nat.le_of_ble_eq_true rfl) (Nat.le_of_ble_eq_true rfl) ?_
  refine W.eq (g2 := F0 m 4 ls []) rfl ?_
  refine lv_aload_n hx hb dX11_init_4 rfl (lv_at hl 0 rfl) ?_
  refine lv_sipush (v := 400) hx hb dX11_init_5 (by decide) ?_
  have hz9 := hS.1
  refine tw_newa (ty := .int) hx hb (ht_at2 hts 3 rfl) rfl hK mon_c hT hS hG hA (shc_16) rfl (fun _ _ _ => ⟨0, rfl, by decide, by decide⟩) (by decide) rfl (Nat.le_of_ble_eq_true rfl) (Nat.le_of_ble_eq_true rfl) (Nat.le_of_ble_eq_true rfl) dX11_init_8 (fun q1 G1 H hq9 eG hz1 hz2 hT hx9 hG hm9 hS => ?_)
  have hn_q1 : s.heap.size ≤ q1 := Nat.le_trans hz9 (Nat.le_of_eq hz2)
  have hY := hY.new hn_q1 eG hx9 (by decide)
  have hU_3 := gT_new hU_3 eG (by decide)
  have hU_51 := gT_new hU_51 eG (by decide)
  have hU_17 := gT_new hU_17 eG (by decide)
  have m2 := (el_kept (hx9 _ _ hr_o0).2).trans hm_6
  have hg3 := (hx9 _ _ hr_o0).1
  have hg4 : G1 q1 = some 16 := by rw [eG]; exact gU_at
  refine tw_putF (v := .ref q1) (ty := (.array .int)) hx hb hts bF2_X11 tyX11 tyX11_ok nmX11 hown hK hT hG hS hg3 shc_114 rfl 0 (by decide) (ht_at2 hts 4 rfl) (fun _ h9 => h9) rfl hin rfl (by decide +kernel) rfl rfl (gl_at rfl ⟨some _, rfl, fun _ h => by cases h; exact hg4⟩) dX11_init_10 (fun H locs hT oq m5 oj hS => ?_)
  have hY := hY.put oq
  have m6 := (oj 6 (by decide) (by decide)).trans m2
  refine lv_aload_n hx hb dX11_init_13 rfl (lv_at hl 0 rfl) ?_
  have hz9 := hS.1
  refine tw_new hx hb hts bF2_X3 tyX3 tyX3_ok hown (ht_at2 hts 5 rfl) (ht_at2 hts 6 rfl) (ht_at2 hts 7 rfl) hK mon_c hT hS hG hA (shc_106) rfl nd_106 (Nat.le_of_ble_eq_true rfl) (Nat.le_of_ble_eq_true rfl) dX11_init_14 (fun q7 G2 H hq9 eG hz1 hz2 hT hx9 hG hm9 hS => ?_)
  have hn_q7 : s.heap.size ≤ q7 := Nat.le_trans hz9 (Nat.le_of_eq hz2)
  have hY := hY.new hn_q7 eG hx9 (by decide)
  have hU_3 := gT_new hU_3 eG (by decide)
  have hU_51 := gT_new hU_51 eG (by decide)
  have hU_17 := gT_new hU_17 eG (by decide)
  have m8 := (el_kept (hx9 _ _ hg3).2).trans m6
  have m9 := (el_kept (hx9 _ _ hg3).2).trans m5
  have hg10 := (hx9 _ _ hg3).1
  have hg11 := (hx9 _ _ hg4).1
  have hg12 : G2 q7 = some 106 := by rw [eG]; exact gU_at
  have m13 : el H q7 (dI 6 4) = some (.int 0) := hm9 4 (by decide)
  refine lv_dup hx hb dX11_init_17 rfl ?_
  have hFc := gA_free hG hA hS
  have hz9 := hS.1
  refine va_callv (va_runI (As := []) (rest := [.ref q7, .ref o0]) ⟨hx, hb, hml, hown, hts⟩ (n_X3 l dC dI kA adK adV G2 H 0 0 q7 hT hg12 m13 (by omega) (by omega)) (cwI 0 hts (goodIn_ca (goodIn_r _ [9, 10, 2, 3, 11, 12, 13, 14, 15, 4, 16, 17, 18, 19, 20, 21, 22, 23, 24, 25, 26, 27, 28, 29, 30, 31, 32, 33, 34, 35, 36, 37, 38, 39, 40, 41, 42, 43, 44, 45, 46, 47, 48, 49, 50, 51, 52, 53, 54, 55, 56, 57, 58, 59] rfl (by decide +kernel)) (bs2_in _ _)) rfl rfl rfl (ht_at2 hts 7 rfl) (ht_at2 hts 59 rfl) (ht_at2 hts 60 rfl) rfl (by decide +kernel) ⟨(Nat.le_of_ble_eq_true rfl), (Nat.le_of_ble_eq_true rfl)⟩) ⟨fun a U g mk q => by obtain ⟨q0, q1, qK, qE, qA⟩ := q; exact ⟨q0, q1, va_K.moved (u := U) (U := U.calling g mk a) (Vm.Alike.refl U.vm) qK, EVC.blind g mk a qE, AO.blind g mk a qA⟩, fun U hU hW => ⟨rfl, hU, va_K.moved hW.alike hK, hE.call hS hFc hU hW, hAO.call hW⟩⟩ rfl rfl hl.1 rfl (lv_room (Nat.le_of_ble_eq_true rfl)) dX11_init_18 ⟨(Nat.le_of_ble_eq_true rfl), (Nat.le_of_ble_eq_true rfl)⟩) hS (fun q _ h => hFc q h) hFc (fun G3 t H locs ht hvm _ hB _ _ hS => ?_)
  (try dsimp only at hB); rw [ht] at hB; obtain ⟨hT, hg59, hY1, m14, ⟨b15, m16, hg17, ⟨b18, m19, hg20, m21⟩, ⟨b22, m23, hg24, m25⟩, ⟨b26, m27, hg28, m29⟩, ⟨b30, m31, hg32, m33⟩, m34, ⟨b35, m36, hg37, ⟨b38, m39, hg40, m41⟩, ⟨b42, m43, hg44, m45⟩, m46⟩, ⟨b47, m48, hg49, ⟨b50, m51, hg52, m53⟩, ⟨b54, m55, hg56, m57⟩, m58⟩⟩⟩ := hB
  have hY := hY.call hn_q7 hY1 hz9 (by decide)
  have hG := hY.A hG0 hAo hA
  have hU_3 := gT_call hU_3 hY1 (by decide)
  have hU_51 := gT_call hU_51 hY1 (by decide)
  have hU_17 := gT_call hU_17 hY1 (by decide)
  have m60 := (el_kept (hY1.1 _ _ (gne hg10 hg12 (by decide)) hg10).2).trans m8
  have m61 := (el_kept (hY1.1 _ _ (gne hg10 hg12 (by decide)) hg10).2).trans m9
  have hg62 := (hY1.1 _ _ (gne hg10 hg12 (by decide)) hg10).1
  have hg63 := (hY1.1 _ _ (gne hg11 hg12 (by decide)) hg11).1
  refine tw_putF (v := .ref q7) (ty := (.object "SeaLand$Lake")) hx hb hts bF2_X11 tyX11 tyX11_ok nmX11 hown hK hT hG hS hg62 shc_114 rfl 1 (by decide) (ht_at2 hts 61 rfl) (fun _ h9 => h9) rfl hin rfl (by decide +kernel) rfl rfl (gl_at rfl ⟨some _, rfl, fun _ h => by cases h; exact hg59⟩) dX11_init_21 (fun H locs hT oq m64 oj hS => ?_)
  have hY := hY.put oq
  have m65 := (oj 6 (by decide) (by decide)).trans m60
  have m66 := (oj 0 (by decide) (by decide)).trans m61
  have m67 := (el_kept (oq _ (gne hg59 hg62 (by decide)))).trans m14
  have m68 := (el_kept (oq _ (gne hg59 hg62 (by decide)))).trans m16
  have m69 := (el_kept (oq _ (gne hg17 hg62 (by decide)))).trans m19
  have m70 := m21.kept (oq _ (gne hg20 hg62 (by decide)))
  have m71 := (el_kept (oq _ (gne hg17 hg62 (by decide)))).trans m23
  have m72 := m25.kept (oq _ (gne hg24 hg62 (by decide)))
  have m73 := (el_kept (oq _ (gne hg17 hg62 (by decide)))).trans m27
  have m74 := m29.kept (oq _ (gne hg28 hg62 (by decide)))
  have m75 := (el_kept (oq _ (gne hg17 hg62 (by decide)))).trans m31
  have m76 := m33.kept (oq _ (gne hg32 hg62 (by decide)))
  have m77 := (el_kept (oq _ (gne hg17 hg62 (by decide)))).trans m34
  have m78 := (el_kept (oq _ (gne hg17 hg62 (by decide)))).trans m36
  have m79 := (el_kept (oq _ (gne hg37 hg62 (by decide)))).trans m39
  have m80 := m41.kept (oq _ (gne hg40 hg62 (by decide)))
  have m81 := (el_kept (oq _ (gne hg37 hg62 (by decide)))).trans m43
  have m82 := m45.kept (oq _ (gne hg44 hg62 (by decide)))
  have m83 := (el_kept (oq _ (gne hg37 hg62 (by decide)))).trans m46
  have m84 := (el_kept (oq _ (gne hg17 hg62 (by decide)))).trans m48
  have m85 := (el_kept (oq _ (gne hg49 hg62 (by decide)))).trans m51
  have m86 := m53.kept (oq _ (gne hg52 hg62 (by decide)))
  have m87 := (el_kept (oq _ (gne hg49 hg62 (by decide)))).trans m55
  have m88 := m57.kept (oq _ (gne hg56 hg62 (by decide)))
  have m89 := (el_kept (oq _ (gne hg49 hg62 (by decide)))).trans m58
  refine lv_aload_n hx hb dX11_init_24 rfl (lv_at hl 0 rfl) ?_
  have hz9 := hS.1
  refine tw_new hx hb hts bF2_X6 tyX6 tyX6_ok hown (ht_at2 hts 62 rfl) (ht_at2 hts 63 rfl) (ht_at2 hts 64 rfl) hK mon_c hT hS hG hA (shc_109) rfl nd_109 (Nat.le_of_ble_eq_true rfl) (Nat.le_of_ble_eq_true rfl) dX11_init_25 (fun q90 G4 H hq9 eG hz1 hz2 hT hx9 hG hm9 hS => ?_)
  have hn_q90 : s.heap.size ≤ q90 := Nat.le_trans hz9 (Nat.le_of_eq hz2)
  have hY := hY.new hn_q90 eG hx9 (by decide)
  have hU_3 := gT_new hU_3 eG (by decide)
  have hU_51 := gT_new hU_51 eG (by decide)
  have hU_17 := gT_new hU_17 eG (by decide)
  have m91 := (el_kept (hx9 _ _ hg62).2).trans m65
  have m92 := (el_kept (hx9 _ _ hg62).2).trans m66
  have m93 := (el_kept (hx9 _ _ hg59).2).trans m67
  have m94 := (el_kept (hx9 _ _ hg59).2).trans m68
  have m95 := (el_kept (hx9 _ _ hg17).2).trans m69
  have m96 := m70.kept (hx9 _ _ hg20).2
  have m97 := (el_kept (hx9 _ _ hg17).2).trans m71
  have m98 := m72.kept (hx9 _ _ hg24).2
  have m99 := (el_kept (hx9 _ _ hg17).2).trans m73
  have m100 := m74.kept (hx9 _ _ hg28).2
  have m101 := (el_kept (hx9 _ _ hg17).2).trans m75
  have m102 := m76.kept (hx9 _ _ hg32).2
  have m103 := (el_kept (hx9 _ _ hg17).2).trans m77
  have m104 := (el_kept (hx9 _ _ hg17).2).trans m78
  have m105 := (el_kept (hx9 _ _ hg37).2).trans m79
  have m106 := m80.kept (hx9 _ _ hg40).2
  have m107 := (el_kept (hx9 _ _ hg37).2).trans m81
  have m108 := m82.kept (hx9 _ _ hg44).2
  have m109 := (el_kept (hx9 _ _ hg37).2).trans m83
  have m110 := (el_kept (hx9 _ _ hg17).2).trans m84
  have m111 := (el_kept (hx9 _ _ hg49).2).trans m85
  have m112 := m86.kept (hx9 _ _ hg52).2
  have m113 := (el_kept (hx9 _ _ hg49).2).trans m87
  have m114 := m88.kept (hx9 _ _ hg56).2
  have m115 := (el_kept (hx9 _ _ hg49).2).trans m89
  have m116 := (el_kept (hx9 _ _ hg62).2).trans m64
  have hg117 := (hx9 _ _ hg62).1
  have hg118 := (hx9 _ _ hg63).1
  have hg119 := (hx9 _ _ hg59).1
  have hg120 := (hx9 _ _ hg17).1
  have hg121 := (hx9 _ _ hg20).1
  have hg122 := (hx9 _ _ hg24).1
  have hg123 := (hx9 _ _ hg28).1
  have hg124 := (hx9 _ _ hg32).1
  have hg125 := (hx9 _ _ hg37).1
  have hg126 := (hx9 _ _ hg40).1
  have hg127 := (hx9 _ _ hg44).1
  have hg128 := (hx9 _ _ hg49).1
  have hg129 := (hx9 _ _ hg52).1
  have hg130 := (hx9 _ _ hg56).1
  have hg131 : G4 q90 = some 109 := by rw [eG]; exact gU_at
  refine lv_dup hx hb dX11_init_28 rfl ?_
  have hFc := gA_free hG hA hS
  have hz9 := hS.1
  refine va_callv (va_runIN (As := []) (rest := [.ref q90, .ref o0]) ⟨hx, hb, hml, hown, hts⟩ (n_X6 l dC dI kA adK adV G4 H 0 0 q90 hT hg131 (by omega) (by omega)) ⟨va_cnB 0 hts (goodIn_ca (goodIn_r _ [66, 67, 2, 3, 4, 68, 69] rfl (by decide +kernel)) (bs2_in _ _)) rfl rfl rfl (hE.nm 102 rfl) (ht_at2 hts 64 rfl) (by decide +kernel) ⟨(Nat.le_of_ble_eq_true rfl), (Nat.le_of_ble_eq_true rfl)⟩, rfl, (ht_at2 hts 69 rfl)⟩ ⟨fun a U g mk q => by obtain ⟨q0, q1, qK, qE, qA⟩ := q; exact ⟨q0, q1, va_K.moved (u := U) (U := U.calling g mk a) (Vm.Alike.refl U.vm) qK, EVC.blind g mk a qE, AO.blind g mk a qA⟩, fun U hU hW => ⟨rfl, hU, va_K.moved hW.alike hK, hE.call hS hFc hU hW, hAO.call hW⟩⟩ rfl rfl hl.1 rfl (lv_room (Nat.le_of_ble_eq_true rfl)) dX11_init_29 ⟨(Nat.le_of_ble_eq_true rfl), (Nat.le_of_ble_eq_true rfl)⟩) hS (fun q _ h => hFc q h) hFc (fun G5 t H locs ht hvm _ hB _ _ hS => ?_)
  (try dsimp only at hB); rw [ht] at hB; obtain ⟨hT, hg132, hY1⟩ := hB
  have hY := hY.call hn_q90 hY1 hz9 (by decide)
  have hG := hY.A hG0 hAo hA
  have hU_3 := gT_call hU_3 hY1 (by decide)
  have hU_51 := gT_call hU_51 hY1 (by decide)
  have hU_17 := gT_call hU_17 hY1 (by decide)
  have m133 := (el_kept (hY1.1 _ _ (gne hg117 hg131 (by decide)) hg117).2).trans m91
  have m134 := (el_kept (hY1.1 _ _ (gne hg117 hg131 (by decide)) hg117).2).trans m92
  have m135 := (el_kept (hY1.1 _ _ (gne hg119 hg131 (by decide)) hg119).2).trans m93
  have m136 := (el_kept (hY1.1 _ _ (gne hg119 hg131 (by decide)) hg119).2).trans m94
  have m137 := (el_kept (hY1.1 _ _ (gne hg120 hg131 (by decide)) hg120).2).trans m95
  have m138 := m96.kept (hY1.1 _ _ (gne hg121 hg131 (by decide)) hg121).2
  have m139 := (el_kept (hY1.1 _ _ (gne hg120 hg131 (by decide)) hg120).2).trans m97
  have m140 := m98.kept (hY1.1 _ _ (gne hg122 hg131 (by decide)) hg122).2
  have m141 := (el_kept (hY1.1 _ _ (gne hg120 hg131 (by decide)) hg120).2).trans m99
  have m142 := m100.kept (hY1.1 _ _ (gne hg123 hg131 (by decide)) hg123).2
  have m143 := (el_kept (hY1.1 _ _ (gne hg120 hg131 (by decide)) hg120).2).trans m101
  have m144 := m102.kept (hY1.1 _ _ (gne hg124 hg131 (by decide)) hg124).2
  have m145 := (el_kept (hY1.1 _ _ (gne hg120 hg131 (by decide)) hg120).2).trans m103
  have m146 := (el_kept (hY1.1 _ _ (gne hg120 hg131 (by decide)) hg120).2).trans m104
  have m147 := (el_kept (hY1.1 _ _ (gne hg125 hg131 (by decide)) hg125).2).trans m105
  have m148 := m106.kept (hY1.1 _ _ (gne hg126 hg131 (by decide)) hg126).2
  have m149 := (el_kept (hY1.1 _ _ (gne hg125 hg131 (by decide)) hg125).2).trans m107
  have m150 := m108.kept (hY1.1 _ _ (gne hg127 hg131 (by decide)) hg127).2
  have m151 := (el_kept (hY1.1 _ _ (gne hg125 hg131 (by decide)) hg125).2).trans m109
  have m152 := (el_kept (hY1.1 _ _ (gne hg120 hg131 (by decide)) hg120).2).trans m110
  have m153 := (el_kept (hY1.1 _ _ (gne hg128 hg131 (by decide)) hg128).2).trans m111
  have m154 := m112.kept (hY1.1 _ _ (gne hg129 hg131 (by decide)) hg129).2
  have m155 := (el_kept (hY1.1 _ _ (gne hg128 hg131 (by decide)) hg128).2).trans m113
  have m156 := m114.kept (hY1.1 _ _ (gne hg130 hg131 (by decide)) hg130).2
  have m157 := (el_kept (hY1.1 _ _ (gne hg128 hg131 (by decide)) hg128).2).trans m115
  have m158 := (el_kept (hY1.1 _ _ (gne hg117 hg131 (by decide)) hg117).2).trans m116
  have hg159 := (hY1.1 _ _ (gne hg117 hg131 (by decide)) hg117).1
  have hg160 := (hY1.1 _ _ (gne hg118 hg131 (by decide)) hg118).1
  have hg161 := (hY1.1 _ _ (gne hg119 hg131 (by decide)) hg119).1
  have hg162 := (hY1.1 _ _ (gne hg120 hg131 (by decide)) hg120).1
  have hg163 := (hY1.1 _ _ (gne hg121 hg131 (by decide)) hg121).1
  have hg164 := (hY1.1 _ _ (gne hg122 hg131 (by decide)) hg122).1
  have hg165 := (hY1.1 _ _ (gne hg123 hg131 (by decide)) hg123).1
  have hg166 := (hY1.1 _ _ (gne hg124 hg131 (by decide)) hg124).1
  have hg167 := (hY1.1 _ _ (gne hg125 hg131 (by decide)) hg125).1
  have hg168 := (hY1.1 _ _ (gne hg126 hg131 (by decide)) hg126).1
  have hg169 := (hY1.1 _ _ (gne hg127 hg131 (by decide)) hg127).1
  have hg170 := (hY1.1 _ _ (gne hg128 hg131 (by decide)) hg128).1
  have hg171 := (hY1.1 _ _ (gne hg129 hg131 (by decide)) hg129).1
  have hg172 := (hY1.1 _ _ (gne hg130 hg131 (by decide)) hg130).1
  refine tw_putF (v := .ref q90) (ty := (.object "SeaLand$Rows")) hx hb hts bF2_X11 tyX11 tyX11_ok nmX11 hown hK hT hG hS hg159 shc_114 rfl 2 (by decide) (ht_at2 hts 70 rfl) (fun _ h9 => h9) rfl hin rfl (by decide +kernel) rfl rfl (gl_at rfl ⟨some _, rfl, fun _ h => by cases h; exact hg132⟩) dX11_init_32 (fun H locs hT oq m173 oj hS => ?_)
  have hY := hY.put oq
  have m174 := (oj 6 (by decide) (by decide)).trans m133
  have m175 := (oj 0 (by decide) (by decide)).trans m134
  have m176 := (el_kept (oq _ (gne hg161 hg159 (by decide)))).trans m135
  have m177 := (el_kept (oq _ (gne hg161 hg159 (by decide)))).trans m136
  have m178 := (el_kept (oq _ (gne hg162 hg159 (by decide)))).trans m137
  have m179 := m138.kept (oq _ (gne hg163 hg159 (by decide)))
  have m180 := (el_kept (oq _ (gne hg162 hg159 (by decide)))).trans m139
  have m181 := m140.kept (oq _ (gne hg164 hg159 (by decide)))
  have m182 := (el_kept (oq _ (gne hg162 hg159 (by decide)))).trans m141
  have m183 := m142.kept (oq _ (gne hg165 hg159 (by decide)))
  have m184 := (el_kept (oq _ (gne hg162 hg159 (by decide)))).trans m143
  have m185 := m144.kept (oq _ (gne hg166 hg159 (by decide)))
  have m186 := (el_kept (oq _ (gne hg162 hg159 (by decide)))).trans m145
  have m187 := (el_kept (oq _ (gne hg162 hg159 (by decide)))).trans m146
  have m188 := (el_kept (oq _ (gne hg167 hg159 (by decide)))).trans m147
  have m189 := m148.kept (oq _ (gne hg168 hg159 (by decide)))
  have m190 := (el_kept (oq _ (gne hg167 hg159 (by decide)))).trans m149
  have m191 := m150.kept (oq _ (gne hg169 hg159 (by decide)))
  have m192 := (el_kept (oq _ (gne hg167 hg159 (by decide)))).trans m151
  have m193 := (el_kept (oq _ (gne hg162 hg159 (by decide)))).trans m152
  have m194 := (el_kept (oq _ (gne hg170 hg159 (by decide)))).trans m153
  have m195 := m154.kept (oq _ (gne hg171 hg159 (by decide)))
  have m196 := (el_kept (oq _ (gne hg170 hg159 (by decide)))).trans m155
  have m197 := m156.kept (oq _ (gne hg172 hg159 (by decide)))
  have m198 := (el_kept (oq _ (gne hg170 hg159 (by decide)))).trans m157
  have m199 := (oj 1 (by decide) (by decide)).trans m158
  refine lv_aload_n hx hb dX11_init_35 rfl (lv_at hl 0 rfl) ?_
  have hz9 := hS.1
  refine tw_new hx hb hts bF2_X0 tyX0 tyX0_ok hown (ht_at2 hts 71 rfl) (ht_at2 hts 72 rfl) (ht_at2 hts 73 rfl) hK mon_c hT hS hG hA (shc_103) rfl nd_103 (Nat.le_of_ble_eq_true rfl) (Nat.le_of_ble_eq_true rfl) dX11_init_36 (fun q200 G6 H hq9 eG hz1 hz2 hT hx9 hG hm9 hS => ?_)
  have hn_q200 : s.heap.size ≤ q200 := Nat.le_trans hz9 (Nat.le_of_eq hz2)
  have hY := hY.new hn_q200 eG hx9 (by decide)
  have hU_3 := gT_new hU_3 eG (by decide)
  have hU_51 := gT_new hU_51 eG (by decide)
  have hU_17 := gT_new hU_17 eG (by decide)
  have m201 := (el_kept (hx9 _ _ hg159).2).trans m174
  have m202 := (el_kept (hx9 _ _ hg159).2).trans m175
  have m203 := (el_kept (hx9 _ _ hg161).2).trans m176
  have m204 := (el_kept (hx9 _ _ hg161).2).trans m177
  have m205 := (el_kept (hx9 _ _ hg162).2).trans m178
  have m206 := m179.kept (hx9 _ _ hg163).2
  have m207 := (el_kept (hx9 _ _ hg162).2).trans m180
  have m208 := m181.kept (hx9 _ _ hg164).2
  have m209 := (el_kept (hx9 _ _ hg162).2).trans m182
  have m210 := m183.kept (hx9 _ _ hg165).2
  have m211 := (el_kept (hx9 _ _ hg162).2).trans m184
  have m212 := m185.kept (hx9 _ _ hg166).2
  have m213 := (el_kept (hx9 _ _ hg162).2).trans m186
  have m214 := (el_kept (hx9 _ _ hg162).2).trans m187
  have m215 := (el_kept (hx9 _ _ hg167).2).trans m188
  have m216 := m189.kept (hx9 _ _ hg168).2
  have m217 := (el_kept (hx9 _ _ hg167).2).trans m190
  have m218 := m191.kept (hx9 _ _ hg169).2
  have m219 := (el_kept (hx9 _ _ hg167).2).trans m192
  have m220 := (el_kept (hx9 _ _ hg162).2).trans m193
  have m221 := (el_kept (hx9 _ _ hg170).2).trans m194
  have m222 := m195.kept (hx9 _ _ hg171).2
  have m223 := (el_kept (hx9 _ _ hg170).2).trans m196
  have m224 := m197.kept (hx9 _ _ hg172).2
  have m225 := (el_kept (hx9 _ _ hg170).2).trans m198
  have m226 := (el_kept (hx9 _ _ hg159).2).trans m199
  have m227 := (el_kept (hx9 _ _ hg159).2).trans m173
  have hg228 := (hx9 _ _ hg159).1
  have hg229 := (hx9 _ _ hg160).1
  have hg230 := (hx9 _ _ hg161).1
  have hg231 := (hx9 _ _ hg162).1
  have hg232 := (hx9 _ _ hg163).1
  have hg233 := (hx9 _ _ hg164).1
  have hg234 := (hx9 _ _ hg165).1
  have hg235 := (hx9 _ _ hg166).1
  have hg236 := (hx9 _ _ hg167).1
  have hg237 := (hx9 _ _ hg168).1
  have hg238 := (hx9 _ _ hg169).1
  have hg239 := (hx9 _ _ hg170).1
  have hg240 := (hx9 _ _ hg171).1
  have hg241 := (hx9 _ _ hg172).1
  have hg242 := (hx9 _ _ hg132).1
  have hg243 : G6 q200 = some 103 := by rw [eG]; exact gU_at
  refine lv_dup hx hb dX11_init_39 rfl ?_
  have hFc := gA_free hG hA hS
  have hz9 := hS.1
  refine va_callv (va_runI (As := []) (rest := [.ref q200, .ref o0]) ⟨hx, hb, hml, hown, hts⟩ (n_X0 l dC dI kA adK adV G6 H  q200 hT hg243) (cwI 0 hts (goodIn_ca (goodIn_r _ [75, 76, 2, 3, 77, 78, 4, 79, 80, 37, 81, 82, 83, 84, 85, 86, 87, 88, 89, 90, 91, 92, 93, 94, 95, 96, 97, 98, 99, 100, 101, 102, 103, 104, 105, 106, 107, 108, 109, 110] rfl (by decide +kernel)) (bs2_in _ _)) rfl rfl rfl (ht_at2 hts 73 rfl) (ht_at2 hts 110 rfl) (ht_at2 hts 111 rfl) rfl (by decide +kernel) ⟨(Nat.le_of_ble_eq_true rfl), (Nat.le_of_ble_eq_true rfl)⟩) ⟨fun a U g mk q => by obtain ⟨q0, q1, qK, qE, qA⟩ := q; exact ⟨q0, q1, va_K.moved (u := U) (U := U.calling g mk a) (Vm.Alike.refl U.vm) qK, EVC.blind g mk a qE, AO.blind g mk a qA⟩, fun U hU hW => ⟨rfl, hU, va_K.moved hW.alike hK, hE.call hS hFc hU hW, hAO.call hW⟩⟩ rfl rfl hl.1 rfl (lv_room (Nat.le_of_ble_eq_true rfl)) dX11_init_40 ⟨(Nat.le_of_ble_eq_true rfl), (Nat.le_of_ble_eq_true rfl)⟩) hS (fun q _ h => hFc q h) hFc (fun G7 t H locs ht hvm _ hB _ _ hS => ?_)
  (try dsimp only at hB); rw [ht] at hB; obtain ⟨hT, hg244, hY1, ⟨w9_51, hU9_51⟩⟩ := hB
  have hY := hY.call hn_q200 hY1 hz9 (by decide)
  have hG := hY.A hG0 hAo hA
  have hU_3 := gT_call1 hU_3 hY1 (by decide)
  have hU_51 := gT_call2 hU_51 hU9_51
  have hU_17 := gT_call hU_17 hY1 (by decide)
  have m245 := (el_kept (hY1.1 _ _ (gne hg228 hg243 (by decide)) hg228).2).trans m201
  have m246 := (el_kept (hY1.1 _ _ (gne hg228 hg243 (by decide)) hg228).2).trans m202
  have m247 := (el_kept (hY1.1 _ _ (gne hg230 hg243 (by decide)) hg230).2).trans m203
  have m248 := (el_kept (hY1.1 _ _ (gne hg230 hg243 (by decide)) hg230).2).trans m204
  have m249 := (el_kept (hY1.1 _ _ (gne hg231 hg243 (by decide)) hg231).2).trans m205
  have m250 := m206.kept (hY1.1 _ _ (gne hg232 hg243 (by decide)) hg232).2
  have m251 := (el_kept (hY1.1 _ _ (gne hg231 hg243 (by decide)) hg231).2).trans m207
  have m252 := m208.kept (hY1.1 _ _ (gne hg233 hg243 (by decide)) hg233).2
  have m253 := (el_kept (hY1.1 _ _ (gne hg231 hg243 (by decide)) hg231).2).trans m209
  have m254 := m210.kept (hY1.1 _ _ (gne hg234 hg243 (by decide)) hg234).2
  have m255 := (el_kept (hY1.1 _ _ (gne hg231 hg243 (by decide)) hg231).2).trans m211
  have m256 := m212.kept (hY1.1 _ _ (gne hg235 hg243 (by decide)) hg235).2
  have m257 := (el_kept (hY1.1 _ _ (gne hg231 hg243 (by decide)) hg231).2).trans m213
  have m258 := (el_kept (hY1.1 _ _ (gne hg231 hg243 (by decide)) hg231).2).trans m214
  have m259 := (el_kept (hY1.1 _ _ (gne hg236 hg243 (by decide)) hg236).2).trans m215
  have m260 := m216.kept (hY1.1 _ _ (gne hg237 hg243 (by decide)) hg237).2
  have m261 := (el_kept (hY1.1 _ _ (gne hg236 hg243 (by decide)) hg236).2).trans m217
  have m262 := m218.kept (hY1.1 _ _ (gne hg238 hg243 (by decide)) hg238).2
  have m263 := (el_kept (hY1.1 _ _ (gne hg236 hg243 (by decide)) hg236).2).trans m219
  have m264 := (el_kept (hY1.1 _ _ (gne hg231 hg243 (by decide)) hg231).2).trans m220
  have m265 := (el_kept (hY1.1 _ _ (gne hg239 hg243 (by decide)) hg239).2).trans m221
  have m266 := m222.kept (hY1.1 _ _ (gne hg240 hg243 (by decide)) hg240).2
  have m267 := (el_kept (hY1.1 _ _ (gne hg239 hg243 (by decide)) hg239).2).trans m223
  have m268 := m224.kept (hY1.1 _ _ (gne hg241 hg243 (by decide)) hg241).2
  have m269 := (el_kept (hY1.1 _ _ (gne hg239 hg243 (by decide)) hg239).2).trans m225
  have m270 := (el_kept (hY1.1 _ _ (gne hg228 hg243 (by decide)) hg228).2).trans m226
  have m271 := (el_kept (hY1.1 _ _ (gne hg228 hg243 (by decide)) hg228).2).trans m227
  have hg272 := (hY1.1 _ _ (gne hg228 hg243 (by decide)) hg228).1
  have hg273 := (hY1.1 _ _ (gne hg229 hg243 (by decide)) hg229).1
  have hg274 := (hY1.1 _ _ (gne hg230 hg243 (by decide)) hg230).1
  have hg275 := (hY1.1 _ _ (gne hg231 hg243 (by decide)) hg231).1
  have hg276 := (hY1.1 _ _ (gne hg232 hg243 (by decide)) hg232).1
  have hg277 := (hY1.1 _ _ (gne hg233 hg243 (by decide)) hg233).1
  have hg278 := (hY1.1 _ _ (gne hg234 hg243 (by decide)) hg234).1
  have hg279 := (hY1.1 _ _ (gne hg235 hg243 (by decide)) hg235).1
  have hg280 := (hY1.1 _ _ (gne hg236 hg243 (by decide)) hg236).1
  have hg281 := (hY1.1 _ _ (gne hg237 hg243 (by decide)) hg237).1
  have hg282 := (hY1.1 _ _ (gne hg238 hg243 (by decide)) hg238).1
  have hg283 := (hY1.1 _ _ (gne hg239 hg243 (by decide)) hg239).1
  have hg284 := (hY1.1 _ _ (gne hg240 hg243 (by decide)) hg240).1
  have hg285 := (hY1.1 _ _ (gne hg241 hg243 (by decide)) hg241).1
  have hg286 := (hY1.1 _ _ (gne hg242 hg243 (by decide)) hg242).1
  refine tw_putF (v := .ref q200) (ty := (.object "SeaLand$Board")) hx hb hts bF2_X11 tyX11 tyX11_ok nmX11 hown hK hT hG hS hg272 shc_114 rfl 3 (by decide) (ht_at2 hts 112 rfl) (fun _ h9 => h9) rfl hin rfl (by decide +kernel) rfl rfl (gl_at rfl ⟨some _, rfl, fun _ h => by cases h; exact hg244⟩) dX11_init_43 (fun H locs hT oq m287 oj hS => ?_)
  have hY := hY.put oq
  have m288 := (oj 6 (by decide) (by decide)).trans m245
  have m289 := (oj 0 (by decide) (by decide)).trans m246
  have m290 := (el_kept (oq _ (gne hg274 hg272 (by decide)))).trans m247
  have m291 := (el_kept (oq _ (gne hg274 hg272 (by decide)))).trans m248
  have m292 := (el_kept (oq _ (gne hg275 hg272 (by decide)))).trans m249
  have m293 := m250.kept (oq _ (gne hg276 hg272 (by decide)))
  have m294 := (el_kept (oq _ (gne hg275 hg272 (by decide)))).trans m251
  have m295 := m252.kept (oq _ (gne hg277 hg272 (by decide)))
  have m296 := (el_kept (oq _ (gne hg275 hg272 (by decide)))).trans m253
  have m297 := m254.kept (oq _ (gne hg278 hg272 (by decide)))
  have m298 := (el_kept (oq _ (gne hg275 hg272 (by decide)))).trans m255
  have m299 := m256.kept (oq _ (gne hg279 hg272 (by decide)))
  have m300 := (el_kept (oq _ (gne hg275 hg272 (by decide)))).trans m257
  have m301 := (el_kept (oq _ (gne hg275 hg272 (by decide)))).trans m258
  have m302 := (el_kept (oq _ (gne hg280 hg272 (by decide)))).trans m259
  have m303 := m260.kept (oq _ (gne hg281 hg272 (by decide)))
  have m304 := (el_kept (oq _ (gne hg280 hg272 (by decide)))).trans m261
  have m305 := m262.kept (oq _ (gne hg282 hg272 (by decide)))
  have m306 := (el_kept (oq _ (gne hg280 hg272 (by decide)))).trans m263
  have m307 := (el_kept (oq _ (gne hg275 hg272 (by decide)))).trans m264
  have m308 := (el_kept (oq _ (gne hg283 hg272 (by decide)))).trans m265
  have m309 := m266.kept (oq _ (gne hg284 hg272 (by decide)))
  have m310 := (el_kept (oq _ (gne hg283 hg272 (by decide)))).trans m267
  have m311 := m268.kept (oq _ (gne hg285 hg272 (by decide)))
  have m312 := (el_kept (oq _ (gne hg283 hg272 (by decide)))).trans m269
  have m313 := (oj 1 (by decide) (by decide)).trans m270
  have m314 := (oj 2 (by decide) (by decide)).trans m271
  refine lv_aload_n hx hb dX11_init_46 rfl (lv_at hl 0 rfl) ?_
  refine lv_bipush (v := 40) hx hb dX11_init_47 (by decide) ?_
  have hz9 := hS.1
  refine tw_newq hx hb hown (ht_at2 hts 113 rfl) (hAO _ (by decide)) hK mon_c hT hS hG hA (shc_17) rfl (fun _ _ _ => ⟨fun h => absurd h (by omega), ⟨none, rfl, fun _ h => by cases h⟩⟩) (by decide) rfl (Nat.le_of_ble_eq_true rfl) (Nat.le_of_ble_eq_true rfl) (Nat.le_of_ble_eq_true rfl) dX11_init_49 (fun q315 G8 H hq9 eG hz1 hz2 hT hx9 hG hm9 hS => ?_)
  have hn_q315 : s.heap.size ≤ q315 := Nat.le_trans hz9 (Nat.le_of_eq hz2)
  have hY := hY.new hn_q315 eG hx9 (by decide)
  have hU_3 := gT_new hU_3 eG (by decide)
  have hU_51 := gT_new hU_51 eG (by decide)
  have hU_17 := gT_new1 hU_17 eG
  have m316 := (el_kept (hx9 _ _ hg272).2).trans m288
  have m317 := (el_kept (hx9 _ _ hg272).2).trans m289
  have m318 := (el_kept (hx9 _ _ hg274).2).trans m290
  have m319 := (el_kept (hx9 _ _ hg274).2).trans m291
  have m320 := (el_kept (hx9 _ _ hg275).2).trans m292
  have m321 := m293.kept (hx9 _ _ hg276).2
  have m322 := (el_kept (hx9 _ _ hg275).2).trans m294
  have m323 := m295.kept (hx9 _ _ hg277).2
  have m324 := (el_kept (hx9 _ _ hg275).2).trans m296
  have m325 := m297.kept (hx9 _ _ hg278).2
  have m326 := (el_kept (hx9 _ _ hg275).2).trans m298
  have m327 := m299.kept (hx9 _ _ hg279).2
  have m328 := (el_kept (hx9 _ _ hg275).2).trans m300
  have m329 := (el_kept (hx9 _ _ hg275).2).trans m301
  have m330 := (el_kept (hx9 _ _ hg280).2).trans m302
  have m331 := m303.kept (hx9 _ _ hg281).2
  have m332 := (el_kept (hx9 _ _ hg280).2).trans m304
  have m333 := m305.kept (hx9 _ _ hg282).2
  have m334 := (el_kept (hx9 _ _ hg280).2).trans m306
  have m335 := (el_kept (hx9 _ _ hg275).2).trans m307
  have m336 := (el_kept (hx9 _ _ hg283).2).trans m308
  have m337 := m309.kept (hx9 _ _ hg284).2
  have m338 := (el_kept (hx9 _ _ hg283).2).trans m310
  have m339 := m311.kept (hx9 _ _ hg285).2
  have m340 := (el_kept (hx9 _ _ hg283).2).trans m312
  have m341 := (el_kept (hx9 _ _ hg272).2).trans m313
  have m342 := (el_kept (hx9 _ _ hg272).2).trans m314
  have m343 := (el_kept (hx9 _ _ hg272).2).trans m287
  have hg344 := (hx9 _ _ hg272).1
  have hg345 := (hx9 _ _ hg273).1
  have hg346 := (hx9 _ _ hg274).1
  have hg347 := (hx9 _ _ hg275).1
  have hg348 := (hx9 _ _ hg276).1
  have hg349 := (hx9 _ _ hg277).1
  have hg350 := (hx9 _ _ hg278).1
  have hg351 := (hx9 _ _ hg279).1
  have hg352 := (hx9 _ _ hg280).1
  have hg353 := (hx9 _ _ hg281).1
  have hg354 := (hx9 _ _ hg282).1
  have hg355 := (hx9 _ _ hg283).1
  have hg356 := (hx9 _ _ hg284).1
  have hg357 := (hx9 _ _ hg285).1
  have hg358 := (hx9 _ _ hg286).1
  have hg359 := (hx9 _ _ hg244).1
  have hg360 : G8 q315 = some 17 := by rw [eG]; exact gU_at
  refine tw_putF (v := .ref q315) (ty := (.array (.object "SeaLand$Contract"))) hx hb hts bF2_X11 tyX11 tyX11_ok nmX11 hown hK hT hG hS hg344 shc_114 rfl 4 (by decide) (ht_at2 hts 114 rfl) (fun _ h9 => h9) rfl hin rfl (by decide +kernel) rfl rfl (gl_at rfl ⟨some _, rfl, fun _ h => by cases h; exact hg360⟩) dX11_init_52 (fun H locs hT oq m361 oj hS => ?_)
  have hY := hY.put oq
  have m362 := (oj 6 (by decide) (by decide)).trans m316
  have m363 := (oj 0 (by decide) (by decide)).trans m317
  have m364 := (el_kept (oq _ (gne hg346 hg344 (by decide)))).trans m318
  have m365 := (el_kept (oq _ (gne hg346 hg344 (by decide)))).trans m319
  have m366 := (el_kept (oq _ (gne hg347 hg344 (by decide)))).trans m320
  have m367 := m321.kept (oq _ (gne hg348 hg344 (by decide)))
  have m368 := (el_kept (oq _ (gne hg347 hg344 (by decide)))).trans m322
  have m369 := m323.kept (oq _ (gne hg349 hg344 (by decide)))
  have m370 := (el_kept (oq _ (gne hg347 hg344 (by decide)))).trans m324
  have m371 := m325.kept (oq _ (gne hg350 hg344 (by decide)))
  have m372 := (el_kept (oq _ (gne hg347 hg344 (by decide)))).trans m326
  have m373 := m327.kept (oq _ (gne hg351 hg344 (by decide)))
  have m374 := (el_kept (oq _ (gne hg347 hg344 (by decide)))).trans m328
  have m375 := (el_kept (oq _ (gne hg347 hg344 (by decide)))).trans m329
  have m376 := (el_kept (oq _ (gne hg352 hg344 (by decide)))).trans m330
  have m377 := m331.kept (oq _ (gne hg353 hg344 (by decide)))
  have m378 := (el_kept (oq _ (gne hg352 hg344 (by decide)))).trans m332
  have m379 := m333.kept (oq _ (gne hg354 hg344 (by decide)))
  have m380 := (el_kept (oq _ (gne hg352 hg344 (by decide)))).trans m334
  have m381 := (el_kept (oq _ (gne hg347 hg344 (by decide)))).trans m335
  have m382 := (el_kept (oq _ (gne hg355 hg344 (by decide)))).trans m336
  have m383 := m337.kept (oq _ (gne hg356 hg344 (by decide)))
  have m384 := (el_kept (oq _ (gne hg355 hg344 (by decide)))).trans m338
  have m385 := m339.kept (oq _ (gne hg357 hg344 (by decide)))
  have m386 := (el_kept (oq _ (gne hg355 hg344 (by decide)))).trans m340
  have m387 := (oj 1 (by decide) (by decide)).trans m341
  have m388 := (oj 2 (by decide) (by decide)).trans m342
  have m389 := (oj 3 (by decide) (by decide)).trans m343
  refine lv_aload_n hx hb dX11_init_55 rfl (lv_at hl 0 rfl) ?_
  have hz9 := hS.1
  refine tw_new hx hb hts bF2_X5 tyX5 tyX5_ok hown (ht_at2 hts 115 rfl) (ht_at2 hts 116 rfl) (ht_at2 hts 117 rfl) hK mon_c hT hS hG hA (shc_108) rfl nd_108 (Nat.le_of_ble_eq_true rfl) (Nat.le_of_ble_eq_true rfl) dX11_init_56 (fun q390 G9 H hq9 eG hz1 hz2 hT hx9 hG hm9 hS => ?_)
  have hn_q390 : s.heap.size ≤ q390 := Nat.le_trans hz9 (Nat.le_of_eq hz2)
  have hY := hY.new hn_q390 eG hx9 (by decide)
  have hU_3 := gT_new hU_3 eG (by decide)
  have hU_51 := gT_new hU_51 eG (by decide)
  have hU_17 := gT_new hU_17 eG (by decide)
  have m391 := (el_kept (hx9 _ _ hg344).2).trans m362
  have m392 := (el_kept (hx9 _ _ hg344).2).trans m363
  have m393 := (el_kept (hx9 _ _ hg346).2).trans m364
  have m394 := (el_kept (hx9 _ _ hg346).2).trans m365
  have m395 := (el_kept (hx9 _ _ hg347).2).trans m366
  have m396 := m367.kept (hx9 _ _ hg348).2
  have m397 := (el_kept (hx9 _ _ hg347).2).trans m368
  have m398 := m369.kept (hx9 _ _ hg349).2
  have m399 := (el_kept (hx9 _ _ hg347).2).trans m370
  have m400 := m371.kept (hx9 _ _ hg350).2
  have m401 := (el_kept (hx9 _ _ hg347).2).trans m372
  have m402 := m373.kept (hx9 _ _ hg351).2
  have m403 := (el_kept (hx9 _ _ hg347).2).trans m374
  have m404 := (el_kept (hx9 _ _ hg347).2).trans m375
  have m405 := (el_kept (hx9 _ _ hg352).2).trans m376
  have m406 := m377.kept (hx9 _ _ hg353).2
  have m407 := (el_kept (hx9 _ _ hg352).2).trans m378
  have m408 := m379.kept (hx9 _ _ hg354).2
  have m409 := (el_kept (hx9 _ _ hg352).2).trans m380
  have m410 := (el_kept (hx9 _ _ hg347).2).trans m381
  have m411 := (el_kept (hx9 _ _ hg355).2).trans m382
  have m412 := m383.kept (hx9 _ _ hg356).2
  have m413 := (el_kept (hx9 _ _ hg355).2).trans m384
  have m414 := m385.kept (hx9 _ _ hg357).2
  have m415 := (el_kept (hx9 _ _ hg355).2).trans m386
  have m416 := (el_kept (hx9 _ _ hg344).2).trans m387
  have m417 := (el_kept (hx9 _ _ hg344).2).trans m388
  have m418 := (el_kept (hx9 _ _ hg344).2).trans m389
  have m419 := (el_kept (hx9 _ _ hg344).2).trans m361
  have hg420 := (hx9 _ _ hg344).1
  have hg421 := (hx9 _ _ hg345).1
  have hg422 := (hx9 _ _ hg346).1
  have hg423 := (hx9 _ _ hg347).1
  have hg424 := (hx9 _ _ hg348).1
  have hg425 := (hx9 _ _ hg349).1
  have hg426 := (hx9 _ _ hg350).1
  have hg427 := (hx9 _ _ hg351).1
  have hg428 := (hx9 _ _ hg352).1
  have hg429 := (hx9 _ _ hg353).1
  have hg430 := (hx9 _ _ hg354).1
  have hg431 := (hx9 _ _ hg355).1
  have hg432 := (hx9 _ _ hg356).1
  have hg433 := (hx9 _ _ hg357).1
  have hg434 := (hx9 _ _ hg358).1
  have hg435 := (hx9 _ _ hg359).1
  have hg436 := (hx9 _ _ hg360).1
  have hg437 : G9 q390 = some 108 := by rw [eG]; exact gU_at
  refine lv_dup hx hb dX11_init_59 rfl ?_
  have hFc := gA_free hG hA hS
  have hz9 := hS.1
  refine va_callv (va_runIN (As := []) (rest := [.ref q390, .ref o0]) ⟨hx, hb, hml, hown, hts⟩ (n_X5 l dC dI kA adK adV G9 H 0 0 q390 hT hg437 (by omega) (by omega)) ⟨va_cnB 0 hts (goodIn_ca (goodIn_r _ [119, 120, 2, 3, 4, 121, 122, 123, 124, 125, 126, 127, 128, 129, 37, 130, 131, 132] rfl (by decide +kernel)) (bs2_in _ _)) rfl rfl rfl (hE.nm 103 rfl) (ht_at2 hts 117 rfl) (by decide +kernel) ⟨(Nat.le_of_ble_eq_true rfl), (Nat.le_of_ble_eq_true rfl)⟩, rfl, (ht_at2 hts 132 rfl)⟩ ⟨fun a U g mk q => by obtain ⟨q0, q1, qK, qE, qA⟩ := q; exact ⟨q0, q1, va_K.moved (u := U) (U := U.calling g mk a) (Vm.Alike.refl U.vm) qK, EVC.blind g mk a qE, AO.blind g mk a qA⟩, fun U hU hW => ⟨rfl, hU, va_K.moved hW.alike hK, hE.call hS hFc hU hW, hAO.call hW⟩⟩ rfl rfl hl.1 rfl (lv_room (Nat.le_of_ble_eq_true rfl)) dX11_init_60 ⟨(Nat.le_of_ble_eq_true rfl), (Nat.le_of_ble_eq_true rfl)⟩) hS (fun q _ h => hFc q h) hFc (fun G10 t H locs ht hvm _ hB _ _ hS => ?_)
  (try dsimp only at hB); rw [ht] at hB; obtain ⟨hT, hg438, hY1⟩ := hB
  have hY := hY.call hn_q390 hY1 hz9 (by decide)
  have hG := hY.A hG0 hAo hA
  have hU_3 := gT_call hU_3 hY1 (by decide)
  have hU_51 := gT_call hU_51 hY1 (by decide)
  have hU_17 := gT_call hU_17 hY1 (by decide)
  have m439 := (el_kept (hY1.1 _ _ (gne hg420 hg437 (by decide)) hg420).2).trans m391
  have m440 := (el_kept (hY1.1 _ _ (gne hg420 hg437 (by decide)) hg420).2).trans m392
  have m441 := (el_kept (hY1.1 _ _ (gne hg422 hg437 (by decide)) hg422).2).trans m393
  have m442 := (el_kept (hY1.1 _ _ (gne hg422 hg437 (by decide)) hg422).2).trans m394
  have m443 := (el_kept (hY1.1 _ _ (gne hg423 hg437 (by decide)) hg423).2).trans m395
  have m444 := m396.kept (hY1.1 _ _ (gne hg424 hg437 (by decide)) hg424).2
  have m445 := (el_kept (hY1.1 _ _ (gne hg423 hg437 (by decide)) hg423).2).trans m397
  have m446 := m398.kept (hY1.1 _ _ (gne hg425 hg437 (by decide)) hg425).2
  have m447 := (el_kept (hY1.1 _ _ (gne hg423 hg437 (by decide)) hg423).2).trans m399
  have m448 := m400.kept (hY1.1 _ _ (gne hg426 hg437 (by decide)) hg426).2
  have m449 := (el_kept (hY1.1 _ _ (gne hg423 hg437 (by decide)) hg423).2).trans m401
  have m450 := m402.kept (hY1.1 _ _ (gne hg427 hg437 (by decide)) hg427).2
  have m451 := (el_kept (hY1.1 _ _ (gne hg423 hg437 (by decide)) hg423).2).trans m403
  have m452 := (el_kept (hY1.1 _ _ (gne hg423 hg437 (by decide)) hg423).2).trans m404
  have m453 := (el_kept (hY1.1 _ _ (gne hg428 hg437 (by decide)) hg428).2).trans m405
  have m454 := m406.kept (hY1.1 _ _ (gne hg429 hg437 (by decide)) hg429).2
  have m455 := (el_kept (hY1.1 _ _ (gne hg428 hg437 (by decide)) hg428).2).trans m407
  have m456 := m408.kept (hY1.1 _ _ (gne hg430 hg437 (by decide)) hg430).2
  have m457 := (el_kept (hY1.1 _ _ (gne hg428 hg437 (by decide)) hg428).2).trans m409
  have m458 := (el_kept (hY1.1 _ _ (gne hg423 hg437 (by decide)) hg423).2).trans m410
  have m459 := (el_kept (hY1.1 _ _ (gne hg431 hg437 (by decide)) hg431).2).trans m411
  have m460 := m412.kept (hY1.1 _ _ (gne hg432 hg437 (by decide)) hg432).2
  have m461 := (el_kept (hY1.1 _ _ (gne hg431 hg437 (by decide)) hg431).2).trans m413
  have m462 := m414.kept (hY1.1 _ _ (gne hg433 hg437 (by decide)) hg433).2
  have m463 := (el_kept (hY1.1 _ _ (gne hg431 hg437 (by decide)) hg431).2).trans m415
  have m464 := (el_kept (hY1.1 _ _ (gne hg420 hg437 (by decide)) hg420).2).trans m416
  have m465 := (el_kept (hY1.1 _ _ (gne hg420 hg437 (by decide)) hg420).2).trans m417
  have m466 := (el_kept (hY1.1 _ _ (gne hg420 hg437 (by decide)) hg420).2).trans m418
  have m467 := (el_kept (hY1.1 _ _ (gne hg420 hg437 (by decide)) hg420).2).trans m419
  have hg468 := (hY1.1 _ _ (gne hg420 hg437 (by decide)) hg420).1
  have hg469 := (hY1.1 _ _ (gne hg421 hg437 (by decide)) hg421).1
  have hg470 := (hY1.1 _ _ (gne hg422 hg437 (by decide)) hg422).1
  have hg471 := (hY1.1 _ _ (gne hg423 hg437 (by decide)) hg423).1
  have hg472 := (hY1.1 _ _ (gne hg424 hg437 (by decide)) hg424).1
  have hg473 := (hY1.1 _ _ (gne hg425 hg437 (by decide)) hg425).1
  have hg474 := (hY1.1 _ _ (gne hg426 hg437 (by decide)) hg426).1
  have hg475 := (hY1.1 _ _ (gne hg427 hg437 (by decide)) hg427).1
  have hg476 := (hY1.1 _ _ (gne hg428 hg437 (by decide)) hg428).1
  have hg477 := (hY1.1 _ _ (gne hg429 hg437 (by decide)) hg429).1
  have hg478 := (hY1.1 _ _ (gne hg430 hg437 (by decide)) hg430).1
  have hg479 := (hY1.1 _ _ (gne hg431 hg437 (by decide)) hg431).1
  have hg480 := (hY1.1 _ _ (gne hg432 hg437 (by decide)) hg432).1
  have hg481 := (hY1.1 _ _ (gne hg433 hg437 (by decide)) hg433).1
  have hg482 := (hY1.1 _ _ (gne hg434 hg437 (by decide)) hg434).1
  have hg483 := (hY1.1 _ _ (gne hg435 hg437 (by decide)) hg435).1
  have hg484 := (hY1.1 _ _ (gne hg436 hg437 (by decide)) hg436).1
  refine tw_putF (v := .ref q390) (ty := (.object "SeaLand$Plans")) hx hb hts bF2_X11 tyX11 tyX11_ok nmX11 hown hK hT hG hS hg468 shc_114 rfl 5 (by decide) (ht_at2 hts 133 rfl) (fun _ h9 => h9) rfl hin rfl (by decide +kernel) rfl rfl (gl_at rfl ⟨some _, rfl, fun _ h => by cases h; exact hg438⟩) dX11_init_63 (fun H locs hT oq m485 oj hS => ?_)
  have hY := hY.put oq
  have m486 := (oj 6 (by decide) (by decide)).trans m439
  have m487 := (oj 0 (by decide) (by decide)).trans m440
  have m488 := (el_kept (oq _ (gne hg470 hg468 (by decide)))).trans m441
  have m489 := (el_kept (oq _ (gne hg470 hg468 (by decide)))).trans m442
  have m490 := (el_kept (oq _ (gne hg471 hg468 (by decide)))).trans m443
  have m491 := m444.kept (oq _ (gne hg472 hg468 (by decide)))
  have m492 := (el_kept (oq _ (gne hg471 hg468 (by decide)))).trans m445
  have m493 := m446.kept (oq _ (gne hg473 hg468 (by decide)))
  have m494 := (el_kept (oq _ (gne hg471 hg468 (by decide)))).trans m447
  have m495 := m448.kept (oq _ (gne hg474 hg468 (by decide)))
  have m496 := (el_kept (oq _ (gne hg471 hg468 (by decide)))).trans m449
  have m497 := m450.kept (oq _ (gne hg475 hg468 (by decide)))
  have m498 := (el_kept (oq _ (gne hg471 hg468 (by decide)))).trans m451
  have m499 := (el_kept (oq _ (gne hg471 hg468 (by decide)))).trans m452
  have m500 := (el_kept (oq _ (gne hg476 hg468 (by decide)))).trans m453
  have m501 := m454.kept (oq _ (gne hg477 hg468 (by decide)))
  have m502 := (el_kept (oq _ (gne hg476 hg468 (by decide)))).trans m455
  have m503 := m456.kept (oq _ (gne hg478 hg468 (by decide)))
  have m504 := (el_kept (oq _ (gne hg476 hg468 (by decide)))).trans m457
  have m505 := (el_kept (oq _ (gne hg471 hg468 (by decide)))).trans m458
  have m506 := (el_kept (oq _ (gne hg479 hg468 (by decide)))).trans m459
  have m507 := m460.kept (oq _ (gne hg480 hg468 (by decide)))
  have m508 := (el_kept (oq _ (gne hg479 hg468 (by decide)))).trans m461
  have m509 := m462.kept (oq _ (gne hg481 hg468 (by decide)))
  have m510 := (el_kept (oq _ (gne hg479 hg468 (by decide)))).trans m463
  have m511 := (oj 1 (by decide) (by decide)).trans m464
  have m512 := (oj 2 (by decide) (by decide)).trans m465
  have m513 := (oj 3 (by decide) (by decide)).trans m466
  have m514 := (oj 4 (by decide) (by decide)).trans m467
  have hT := hT.grown (t := 14) mon_c hg468 (by decide) (by
    have h8 := hT _ _ hg468; rw [shc_114] at h8; rw [shc_14]
    refine gC.grow h8 (fun k v hk hm hv => match k, hk, hm, hv with
      | 0, _, hm, hv => gl_at rfl (by obtain rfl : v = .ref q1 := Option.some.inj (hm.symm.trans m487); exact ⟨_, rfl, (gU_ne (gne hg469 hg468 (by decide))).trans hg469⟩)
      | 1, _, hm, hv => gl_at rfl (by obtain rfl : v = .ref q7 := Option.some.inj (hm.symm.trans m511); exact ⟨_, rfl, (gU_ne (gne hg470 hg468 (by decide))).trans hg470⟩)
      | 2, _, hm, hv => gl_at rfl (by obtain rfl : v = .ref q90 := Option.some.inj (hm.symm.trans m512); exact ⟨_, rfl, (gU_ne (gne hg482 hg468 (by decide))).trans hg482⟩)
      | 3, _, hm, hv => gl_at rfl (by obtain rfl : v = .ref q200 := Option.some.inj (hm.symm.trans m513); exact ⟨_, rfl, (gU_ne (gne hg483 hg468 (by decide))).trans hg483⟩)
      | 4, _, hm, hv => gl_at rfl (by obtain rfl : v = .ref q315 := Option.some.inj (hm.symm.trans m514); exact ⟨_, rfl, (gU_ne (gne hg484 hg468 (by decide))).trans hg484⟩)
      | 5, _, hm, hv => gl_at rfl (by obtain rfl : v = .ref q390 := Option.some.inj (hm.symm.trans m485); exact ⟨_, rfl, (gU_ne (gne hg438 hg468 (by decide))).trans hg438⟩)
      | 6, _, hm, hv => gl_at rfl (mK_N (by decide) _ _ v (gM_re hg468 (by decide)) (hv _ rfl))
      | 7, _, hm, hv => gl_at rfl (hv _ rfl)
      | 8, _, hm, hv => gl_at rfl (hv _ rfl)
      | k + 9, hk, _, _ => absurd hk (by omega)))
  have hY := hY.grow
  have hU_3 := gT_new (q := o0) (t := 14) hU_3 rfl (by decide)
  have hU_51 := gT_new (q := o0) (t := 14) hU_51 rfl (by decide)
  have hU_17 := gT_new (q := o0) (t := 14) hU_17 rfl (by decide)
  exact W.vret hx hb hr (fun t ht hW => ⟨⟨_, rfl, trivial, by (try dsimp only); rw [ht]; exact ⟨hT, gU_at, hY, ⟨_, hU_3⟩, ⟨_, hU_51⟩, ⟨_, hU_17⟩, ⟨_, m511, (gU_ne (gne hg470 hg468 (by decide))).trans hg470, m488, ⟨_, m489, (gU_ne (gne hg471 hg468 (by decide))).trans hg471, ⟨_, m490, (gU_ne (gne hg472 hg468 (by decide))).trans hg472, m491⟩, ⟨_, m492, (gU_ne (gne hg473 hg468 (by decide))).trans hg473, m493⟩, ⟨_, m494, (gU_ne (gne hg474 hg468 (by decide))).trans hg474, m495⟩, ⟨_, m496, (gU_ne (gne hg475 hg468 (by decide))).trans hg475, m497⟩, m498, ⟨_, m499, (gU_ne (gne hg476 hg468 (by decide))).trans hg476, ⟨_, m500, (gU_ne (gne hg477 hg468 (by decide))).trans hg477, m501⟩, ⟨_, m502, (gU_ne (gne hg478 hg468 (by decide))).trans hg478, m503⟩, m504⟩, ⟨_, m505, (gU_ne (gne hg479 hg468 (by decide))).trans hg479, ⟨_, m506, (gU_ne (gne hg480 hg468 (by decide))).trans hg480, m507⟩, ⟨_, m508, (gU_ne (gne hg481 hg468 (by decide))).trans hg481, m509⟩, m510⟩⟩⟩, m486⟩⟩, hS.F ht⟩) hS.2.2 dX11_init_66
